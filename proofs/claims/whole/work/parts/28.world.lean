/-! THE CLASS'S WORLD: its cells by their numbers (the order in which the constructors make them): 0 StepPile, 1 Symbols (2 variables, 3 parted), 4 Statements (5 texts, 8 needs, 11 pairs; 14 kinds, 15 floatsIn), 16 pile, 19 saved, 22 Becoming (23 rowOf, 24 inside, 27 seen), 28 made. Rows object k: beginnings k + 2, numbers ci k. -/
def ck : List Nat := [5, 8, 11, 16, 19, 24]
def cm (k : Nat) : Nat := if k = 16 then 200 else if k = 24 then 60 else 300
abbrev cr_T : Type := (Nat → List (List Nat)) × (List Bool × (Nat → Nat → Bool)) × ((Nat → Int32) × (Nat → Int32) × Int32) × (Int32 × Int32 × (Nat → Int32) × (Nat → Int32)) × (Nat → Int32)
def r_R (r : cr_T) : Nat → List (List Nat) := r.1
def r_vs (r : cr_T) : List Bool := r.2.1.1
def r_ap (r : cr_T) : Nat → Nat → Bool := r.2.1.2
def r_kf (r : cr_T) : Nat → Int32 := r.2.2.1.1
def r_ff (r : cr_T) : Nat → Int32 := r.2.2.1.2.1
def r_op (r : cr_T) : Int32 := r.2.2.1.2.2
def r_lo (r : cr_T) : Int32 := r.2.2.2.1.1
def r_mk (r : cr_T) : Int32 := r.2.2.2.1.2.1
def r_rf (r : cr_T) : Nat → Int32 := r.2.2.2.1.2.2.1
def r_sf (r : cr_T) : Nat → Int32 := r.2.2.2.1.2.2.2
def r_mf (r : cr_T) : Nat → Int32 := r.2.2.2.2
def cr_at (c : en_H) (x : Nat) (ci N : Nat → Nat) (r : cr_T) : Prop :=
  46 ≤ x ∧ sy_at c x 1 2 3 (r_vs r) (r_ap r) ∧ (c 0 = .inr (0, [.ref 1, .ref 4, .ref 16, .ref 19, .ref 22, .ref 28]) ∧ c 4 = .inr (3, [.ref 5, .ref 8, .ref 11, .ref 1, .ref 14, .ref 15, .int (r_op r)]) ∧ c 22 = .inr (4, [.ref 1, .ref 16, .ref 23, .ref 24, .int (r_lo r), .ref 27, .int (r_mk r)])) ∧
  (c 14 = .inl (0, 300, .inl (r_kf r)) ∧ c 15 = .inl (0, 1000, .inl (r_ff r)) ∧ c 23 = .inl (0, 1000, .inl (r_rf r)) ∧ c 27 = .inl (0, 1000, .inl (r_sf r)) ∧ c 28 = .inl (0, 1000, .inl (r_mf r))) ∧
  (∀ k, k ∈ ck → rw_at c x k (ci k) (k + 2) (cm k) (N k) (r_R r k)) ∧ (∀ k, k ∈ ck → ci k = k + 1 ∨ 46 ≤ ci k) ∧ (∀ k, k ∈ ck → ∀ k', k' ∈ ck → ci k = ci k' → k = k') ∧ ∃ mk, mk ≤ N 0 ∧ r_mk r = nI mk
/-- the other side's cells stay -/
def cs_fr (c c' : en_H) : Prop := ∀ a, 29 ≤ a → a < 46 → c' a = c a
theorem cs_rf {c : en_H} : cs_fr c c := fun _ _ _ => rfl
theorem cs_tr {c c' c2 : en_H} (h : cs_fr c c') (k : cs_fr c' c2) : cs_fr c c2 := fun a h1 h2 => (k a h1 h2).trans (h a h1 h2)
theorem ck_or {k : Nat} (h : k ∈ ck) : k = 5 ∨ k = 8 ∨ k = 11 ∨ k = 16 ∨ k = 19 ∨ k = 24 := by simpa [ck] using h
theorem rw_keep {c c' : en_H} {x x' h i j m N : Nat} {rs : List (List Nat)} (H : rw_at c x h i j m N rs) (hx : x ≤ x') (h1 : c' h = c h) (h2 : c' i = c i) (h3 : c' j = c j) : rw_at c' x' h i j m N rs := by
  obtain ⟨⟨a1, a2, a3, a4⟩, b, f, g, d1, d2, d3⟩ := H
  exact ⟨⟨by omega, by omega, by omega, a4⟩, h1.trans b, f, g, h2.trans d1, h3.trans d2, d3⟩
theorem sy_keep {c c' : en_H} {x x' : Nat} {vs : List Bool} {ap : Nat → Nat → Bool} (H : sy_at c x 1 2 3 vs ap) (hx : x ≤ x') (h1 : c' 1 = c 1) (h2 : c' 2 = c 2) (h3 : c' 3 = c 3) : sy_at c' x' 1 2 3 vs ap := by
  obtain ⟨⟨a1, a2, a3⟩, b, f, g, d1, d2, d3⟩ := H
  exact ⟨⟨by omega, by omega, by omega⟩, h1.trans b, f, g, h2.trans d1, h3.trans d2, d3⟩
def r_setR (r : cr_T) (k : Nat) (rs : List (List Nat)) : cr_T := (va_up r.1 k rs, r.2)
def r_setN (f : Nat → Nat) (k v : Nat) : Nat → Nat := va_up f k v
section CW
variable {c c' : en_H} {x x' : Nat} {ci N : Nat → Nat} {r : cr_T}
/-- a higher bound of the mark -/
theorem cr_N0 (H : cr_at c x ci N r) {B : Nat} (hB : N 0 ≤ B) : cr_at c x ci (r_setN N 0 B) r := by
  obtain ⟨g1, g2, g3, g4, g11, g12, g13, mk, m1, m2⟩ := H
  refine ⟨g1, g2, g3, g4, fun k hk => ?_, g12, g13, mk, by show mk ≤ (if 0 = 0 then B else N 0); rw [if_pos rfl]; omega, m2⟩
  have hk2 := ck_or hk
  rw [show r_setN N 0 B k = N k from if_neg (by omega)]
  exact g11 k hk
theorem cr_x (H : cr_at c x ci N r) : 46 ≤ x := H.1
theorem cr_rw (H : cr_at c x ci N r) {k : Nat} (hk : k ∈ ck) : rw_at c x k (ci k) (k + 2) (cm k) (N k) (r_R r k) := H.2.2.2.2.1 k hk
theorem cr_ix (H : cr_at c x ci N r) {k : Nat} (hk : k ∈ ck) : ci k < x := (H.2.2.2.2.1 k hk).1.2.1
/-- one Rows object has changed, nothing else -/
theorem cr_rows (H : cr_at c x ci N r) {k i' N' : Nat} {rs : List (List Nat)} (hk : k ∈ ck) (hx : x ≤ x') (Hr : rw_at c' x' k i' (k + 2) (cm k) N' rs) (hf : rw_fr c x k (ci k) (k + 2) c' i') : cr_at c' x' (r_setN ci k i') (r_setN N k N') (r_setR r k rs) ∧ cs_fr c c' := by
  obtain ⟨h1, h2, ⟨h3, h4, h5⟩, ⟨h6, h7, h8, h9, h10⟩, h11, h12, h13, h14m⟩ := H
  have hki := h12 k hk
  have hxx : ∀ a, a < 46 → a ≠ k → a ≠ k + 1 → a ≠ k + 2 → c' a = c a := fun a ha q1 q2 q3 => hf.1 a (by omega) q1 (by rcases hki with q | q <;> omega) q3
  have hko := ck_or hk
  refine ⟨⟨by omega, sy_keep h2 hx (hxx 1 (by omega) (by omega) (by omega) (by omega)) (hxx 2 (by omega) (by omega) (by omega) (by omega)) (hxx 3 (by omega) (by omega) (by omega) (by omega)), ⟨(hxx 0 (by omega) (by omega) (by omega) (by omega)).trans h3, (hxx 4 (by omega) (by omega) (by omega) (by omega)).trans h4, (hxx 22 (by omega) (by omega) (by omega) (by omega)).trans h5⟩, ⟨(hxx 14 (by omega) (by omega) (by omega) (by omega)).trans h6, (hxx 15 (by omega) (by omega) (by omega) (by omega)).trans h7, (hxx 23 (by omega) (by omega) (by omega) (by omega)).trans h8, (hxx 27 (by omega) (by omega) (by omega) (by omega)).trans h9, (hxx 28 (by omega) (by omega) (by omega) (by omega)).trans h10⟩, fun k2 hk2 => ?_, fun k2 hk2 => ?_, fun k2 hk2 k3 hk3 he => ?_, (by rw [show r_setN N k N' 0 = N 0 from if_neg (by omega)]; exact h14m)⟩, fun a q1 q2 => hxx a q2 (by omega) (by omega) (by omega)⟩
  · by_cases e : k2 = k
    · subst e
      simp only [r_setN, r_setR, r_R, va_up, if_true]
      exact Hr
    · simp only [r_setN, r_setR, r_R, va_up, e, if_false]
      have hk2o := ck_or hk2
      have h14 := h11 k2 hk2
      have hn : ci k2 ≠ ci k := fun q => e (h13 k2 hk2 k hk q)
      have h15 := h12 k2 hk2
      refine rw_keep h14 hx (hxx k2 (by omega) e (by omega) (by omega)) (hf.1 (ci k2) h14.1.2.1 (by omega) hn (by omega)) (hxx (k2 + 2) (by omega) (by omega) (by omega) (by omega))
  · by_cases e : k2 = k
    · subst e
      simp only [r_setN, va_up, if_true]
      rcases hf.2 with q | q
      · rw [q]; exact hki
      · exact Or.inr (by omega)
    · simp only [r_setN, va_up, e, if_false]
      exact h12 k2 hk2
  · by_cases e2 : k2 = k
    · by_cases e3 : k3 = k
      · rw [e2, e3]
      · simp only [r_setN, va_up, e2, e3, if_true, if_false] at he
        rcases hf.2 with q | q
        · rw [q] at he
          exact e2.trans (h13 k hk k3 hk3 he)
        · have := (h11 k3 hk3).1.2.1
          omega
    · by_cases e3 : k3 = k
      · simp only [r_setN, va_up, e2, e3, if_true, if_false] at he
        rcases hf.2 with q | q
        · rw [q] at he
          exact (h13 k2 hk2 k hk he).trans e3.symm
        · have := (h11 k2 hk2).1.2.1
          omega
      · simp only [r_setN, va_up, e2, e3, if_false] at he
        exact h13 k2 hk2 k3 hk3 he
/-- cells that belong to no Rows object have changed -/
theorem cr_cells (H : cr_at c x ci N r) {r' : cr_T} (hR : r_R r' = r_R r) (hc : ∀ a, (a = 5 ∨ a = 7 ∨ a = 8 ∨ a = 10 ∨ a = 11 ∨ a = 13 ∨ a = 16 ∨ a = 18 ∨ a = 19 ∨ a = 21 ∨ a = 24 ∨ a = 26 ∨ a = 6 ∨ a = 9 ∨ a = 12 ∨ a = 17 ∨ a = 20 ∨ a = 25 ∨ 29 ≤ a) → c' a = c a) (hm : ∃ mk, mk ≤ N 0 ∧ r_mk r' = nI mk) (hs : sy_at c' x 1 2 3 (r_vs r') (r_ap r')) (h3 : c' 0 = c 0) (h4 : c' 4 = .inr (3, [.ref 5, .ref 8, .ref 11, .ref 1, .ref 14, .ref 15, .int (r_op r')])) (h5 : c' 22 = .inr (4, [.ref 1, .ref 16, .ref 23, .ref 24, .int (r_lo r'), .ref 27, .int (r_mk r')])) (h6 : c' 14 = .inl (0, 300, .inl (r_kf r'))) (h7 : c' 15 = .inl (0, 1000, .inl (r_ff r'))) (h8 : c' 23 = .inl (0, 1000, .inl (r_rf r'))) (h9 : c' 27 = .inl (0, 1000, .inl (r_sf r'))) (h10 : c' 28 = .inl (0, 1000, .inl (r_mf r'))) : cr_at c' x ci N r' ∧ cs_fr c c' := by
  obtain ⟨g1, g2, ⟨g3, g4, g5⟩, ⟨g6, g7, g8, g9, g10⟩, g11, g12, g13, -⟩ := H
  refine ⟨⟨g1, hs, ⟨h3.trans g3, h4, h5⟩, ⟨h6, h7, h8, h9, h10⟩, fun k hk => ?_, g12, g13, hm⟩, fun a q1 q2 => hc a (by omega)⟩
  have hk2 := ck_or hk
  have h15 := g12 k hk
  rw [hR]
  exact rw_keep (g11 k hk) (Nat.le_refl _) (hc k (by omega)) (hc (ci k) (by omega)) (hc (k + 2) (by omega))
end CW
