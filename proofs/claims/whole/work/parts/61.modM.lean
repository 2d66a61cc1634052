/-! a new reference, and how the two sides stand beside each other -/
theorem mi_c {n : Nat} (h : n < 2 ^ 31) : (nI n).toNatClampNeg = n := nI_clamp h
theorem mi_n {n : Nat} (h : n < 2 ^ 31) : (nI n < 0) = False := eq_false (nI_pos h)
theorem ini80 : (mt_init 80 = true) = True := eq_true rfl
def mi_K (c0 : en_H) (u : Nat) : en_K := fun v' c' x' u' => v' = none ∧ x' = 46 ∧ u' = u + 749701 ∧ mc c' (fun _ _ => 0) (fun _ => 0) (mo sp_new 0) ∧ ∀ a, (a < 29 ∨ 46 ≤ a) → c' a = c0 a
theorem cM_init {c : en_H} {u : Nat} (ho : c 29 = .inr (5, [.int 0, .null, .int 0, .null, .null, .null, .null, .null, .null, .null, .null, .int 0, .int 0, .null, .null, .null, .int 0, .null, .null, .int 0, .null, .int 0, .null])) : ∃ c', en_call 1 mM_init [.ref 29] c 30 u none c' 46 (u + 749701) ∧ mc c' (fun _ _ => 0) (fun _ => 0) (mo sp_new 0) ∧ ∀ a, (a < 29 ∨ 46 ≤ a) → c' a = c a := by
  have G : en_W (en_call 0) mM_init 0 (en_lv0 mM_init [.ref 29]) [] c 30 u (mi_K c u) := by
    show en_W (en_call 0) mM_init 0 [some (.ref 29)] [] c 30 u _
    simp only [sM_init_0, sM_init_1, sM_init_4, sM_init_5, sM_init_8, sM_init_10, sM_init_13, sM_init_14, sM_init_17, sM_init_19, sM_init_22, sM_init_23, sM_init_25, sM_init_27, sM_init_30, sM_init_31, sM_init_34, sM_init_36, sM_init_39, sM_init_40, sM_init_43, sM_init_45, sM_init_48, sM_init_49, sM_init_52, sM_init_54, sM_init_57, sM_init_58, sM_init_60, sM_init_62, sM_init_65, sM_init_66, sM_init_68, sM_init_70, sM_init_73, sM_init_74, sM_init_77, sM_init_79, sM_init_82, sM_init_83, sM_init_86, sM_init_88, sM_init_91, sM_init_92, sM_init_94, sM_init_96, sM_init_99, sM_init_100, sM_init_103, sM_init_105, sM_init_108, sM_init_109, sM_init_111, sM_init_113, sM_init_116, sM_init_117, sM_init_120, sM_init_122, sM_init_125, sM_init_126, sM_init_129, sM_init_131, sM_init_134, sM_init_135, sM_init_138, sM_init_140, sM_init_143, ho, up_ap, mi_c (n := 1000) (by omega), mi_c (n := 300) (by omega), mi_c (n := 90000) (by omega), mi_c (n := 18000) (by omega), mi_c (n := 60000) (by omega), mi_c (n := 16000) (by omega), mi_c (n := 201000) (by omega), mi_c (n := 201) (by omega), mi_c (n := 300000) (by omega),
      mi_n (n := 1000) (by omega), mi_n (n := 300) (by omega), mi_n (n := 90000) (by omega), mi_n (n := 18000) (by omega), mi_n (n := 60000) (by omega), mi_n (n := 16000) (by omega), mi_n (n := 201000) (by omega), mi_n (n := 201) (by omega), mi_n (n := 300000) (by omega), not_false_eq_true, Nat.reduceEqDiff, en_fk, List.set_cons_zero, List.set_cons_succ, forall_const, ini80, en_rdO_eq, en_rdI_eq, en_rdN_eq, en_rdL_eq, true_and, and_true, List.getElem?_cons_succ, List.getElem?_cons_zero, en_gv_eq, if_true, if_false, and_self, or_true, true_or, implies_true, List.length_cons, List.length_nil, Nat.reduceLT, Nat.reduceLeDiff, Nat.reduceAdd, Nat.zero_le, Option.toList_some, Option.toList_none, List.cons_append, List.nil_append, nI_1, rd_t, n1_0, n0_1, Bool.false_eq_true, false_implies, reduceCtorEq]
    refine ⟨rfl, rfl, by omega, ⟨?_, ?_, ?_⟩, ?_⟩
    · simp only [up_ap, Nat.reduceEqDiff, if_true, if_false]
      rfl
    · intro a h1 h2 h3
      have : a = 30 ∨ a = 31 ∨ a = 32 ∨ a = 33 ∨ a = 34 ∨ a = 35 ∨ a = 36 ∨ a = 37 ∨ a = 38 ∨ a = 40 ∨ a = 41 ∨ a = 42 ∨ a = 43 ∨ a = 44 ∨ a = 45 := by omega
      rcases this with rfl | rfl | rfl | rfl | rfl | rfl | rfl | rfl | rfl | rfl | rfl | rfl | rfl | rfl | rfl
      all_goals
        simp only [up_ap, Nat.reduceEqDiff, if_true, if_false]
        rfl
    · simp only [up_ap, Nat.reduceEqDiff, if_true, if_false]
      rfl
    · intro a ha
      have hne : ∀ k, 29 ≤ k → k < 46 → a ≠ k := fun k h1 h2 => by omega
      repeat rw [en_up_n (hne _ (by omega) (by omega))]
  obtain ⟨v', c', x', u', k1, ⟨rfl, rfl, rfl, k2, k3⟩, -⟩ := en_call_of (by decide) (Nat.le_of_ble_eq_true rfl) cat_1 G
  exact ⟨c', k1, k2, k3⟩
theorem mrel_new : mrel (fun _ _ => 0) (fun _ => 0) sp_new := by
  refine ⟨fun s hs => absurd hs (Nat.not_lt_zero _), fun i hi => absurd hi (Nat.not_lt_zero _), fun i _ _ => ⟨rfl, rfl, rfl⟩, fun s t _ _ => ?_, fun r hr => absurd hr (Nat.not_lt_zero _), fun r hr => absurd hr (Nat.not_lt_zero _)⟩
  show (0 : Int64).toBitVec.getLsbD (t % 64) = false
  simp
theorem MO_keep {c c' : en_H} {g : Nat → Nat → Int32} {AP : Nat → Int64} {ms : Int32} {S : sp_S} (H : MO c g AP ms S) (h : cs_fr c c') : MO c' g AP ms S :=
  ⟨⟨(h 29 (by omega) (by omega)).trans H.1.1, fun a h1 h2 h3 => (h a (by omega) h2).trans (H.1.2.1 a h1 h2 h3), (h 39 (by omega) (by omega)).trans H.1.2.2⟩, H.2⟩
theorem cr_keep {c c' : en_H} {x : Nat} {ci N : Nat → Nat} {r : cr_T} (H : cr_at c x ci N r) (h : mf c c') : cr_at c' x ci N r := by
  obtain ⟨h1, h2, ⟨h3, h4, h5⟩, ⟨h6, h7, h8, h9, h10⟩, h11, h12, h13, h14⟩ := H
  have k : ∀ a, a < 29 → c' a = c a := fun a ha => h a (Or.inl ha)
  refine ⟨h1, sy_keep h2 (Nat.le_refl _) (k 1 (by omega)) (k 2 (by omega)) (k 3 (by omega)), ⟨(k 0 (by omega)).trans h3, (k 4 (by omega)).trans h4, (k 22 (by omega)).trans h5⟩, ⟨(k 14 (by omega)).trans h6, (k 15 (by omega)).trans h7, (k 23 (by omega)).trans h8, (k 27 (by omega)).trans h9, (k 28 (by omega)).trans h10⟩, fun q hq => ?_, h12, h13, h14⟩
  have hqo := ck_or hq
  have h15 := h12 q hq
  exact rw_keep (h11 q hq) (Nat.le_refl _) (k q (by omega)) (h _ (by omega)) (k (q + 2) (by omega))
/-- where the law stands behind k calls -/
def LI (k : Nat) (c : en_H) (x u : Nat) (S : sp_S) : Prop := ∃ ci N r g AP ms, CS c x ci N r S ∧ MO c g AP ms S ∧ N 0 ≤ 200 * k ∧ nb N ∧ u ≤ 764720 + 2 * sN N ∧ 64 * x ≤ 64 * 46 + sN N
theorem LI_b {k : Nat} {c : en_H} {x u : Nat} {S : sp_S} (H : LI k c x u S) : x ≤ 20000 ∧ u ≤ 3000000 ∧ 46 ≤ x := by
  obtain ⟨ci, N, r, g, AP, ms, h1, -, -, ⟨a1, a2, a3, a4, a5, a6⟩, h5, h6⟩ := H
  unfold sN at h5 h6
  have := h1.1.1
  omega
theorem LI_nx {k : Nat} {c : en_H} {x u : Nat} {S S1 : sp_S} {y y2 : Nat} {As As2 : List Value} {v : Int32} (H : LI k c x u S) (hP : ∀ ci N r, CS c x ci N r S → N 0 ≤ 200 * k → pOut y As c x u N v S1) (hM : ∀ c1 x1 u1 g AP ms, MO c1 g AP ms S → 46 ≤ x1 → mOut y2 As2 c1 x1 u1 v S1) (hw : sp_wf S1) :
    ∃ c1 x1 u1 c2, en_call 7 y As c x u (some (.int v)) c1 x1 u1 ∧ (∃ fs, c1 29 = .inr (5, fs)) ∧ 46 ≤ x1 ∧ en_call 7 y2 As2 c1 x1 u1 (some (.int v)) c2 x1 u1 ∧ LI (k + 1) c2 x1 u1 S1 := by
  obtain ⟨ci, N, r, g, AP, ms, h1, h2, h3, h4, h5, h6⟩ := H
  obtain ⟨c1, x1, u1, ci1, N1, r1, K1, H1, S1', f1, g1, g2, g3, g4, g5, g6⟩ := hP ci N r h1 h3
  have hx1 : 46 ≤ x1 := H1.1
  have hMO := MO_keep h2 f1
  obtain ⟨c2, g', AP', ms', K2, M1, M2, M3⟩ := hM c1 x1 u1 g AP ms hMO hx1
  refine ⟨c1, x1, u1, c2, K1, ⟨_, hMO.1.1⟩, hx1, K2, ci1, N1, r1, g', AP', ms', ⟨cr_keep H1 M3, S1', hw⟩, ⟨M1, M2, hw⟩, ?_, g1 h4, ?_, ?_⟩
  · have : N1 0 = N 0 + 200 := g6
    omega
  · have : u1 + 2 * sN N ≤ u + 2 * sN N1 := g4
    omega
  · have : 64 * x1 + sN N ≤ 64 * x + sN N1 := g5
    omega
