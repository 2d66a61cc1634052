/-! StepPile$Becoming: which variables are in the rows, and whether they are apart -/
def r_setL (r : cr_T) (lo : Int32) : cr_T := (r.1, r.2.1, r.2.2.1, (lo, r.2.2.2.1.2), r.2.2.2.2)
def r_setS (r : cr_T) (mk : Int32) (sf : Nat → Int32) : cr_T := (r.1, r.2.1, r.2.2.1, (r.2.2.2.1.1, mk, r.2.2.2.1.2.2.1, sf), r.2.2.2.2)
section BE
variable {c : en_H} {x u : Nat} {ci N : Nat → Nat} {r : cr_T} {S : sp_S}
theorem cr_setL (H : cr_at c x ci N r) (lo : Int32) : cr_at (en_up c 22 (.inr (4, [.ref 1, .ref 16, .ref 23, .ref 24, .int lo, .ref 27, .int (r_mk r)]))) x ci N (r_setL r lo) ∧ cs_fr c (en_up c 22 (.inr (4, [.ref 1, .ref 16, .ref 23, .ref 24, .int lo, .ref 27, .int (r_mk r)]))) := by
  have H0 := H
  obtain ⟨g1, g2, ⟨g3, g4, g5⟩, ⟨g6, g7, g8, g9, g10⟩, -⟩ := H
  refine cr_cells H0 rfl (fun a ha => en_up_n (by omega)) H0.2.2.2.2.2.2.2 (sy_keep g2 (Nat.le_refl _) (en_up_n (by omega)) (en_up_n (by omega)) (en_up_n (by omega))) (en_up_n (by omega)) ?_ ?_ ?_ ?_ ?_ ?_ ?_
  · rw [en_up_n (by omega)]; exact g4
  · exact en_up_s _ _ _
  · rw [en_up_n (by omega)]; exact g6
  · rw [en_up_n (by omega)]; exact g7
  · rw [en_up_n (by omega)]; exact g8
  · rw [en_up_n (by omega)]; exact g9
  · rw [en_up_n (by omega)]; exact g10
theorem cr_setMk (H : cr_at c x ci N r) {mk : Nat} (hmk : mk ≤ N 0) : cr_at (en_up c 22 (.inr (4, [.ref 1, .ref 16, .ref 23, .ref 24, .int (r_lo r), .ref 27, .int (nI mk)]))) x ci N (r_setS r (nI mk) (r_sf r)) ∧ cs_fr c (en_up c 22 (.inr (4, [.ref 1, .ref 16, .ref 23, .ref 24, .int (r_lo r), .ref 27, .int (nI mk)]))) := by
  have H0 := H
  obtain ⟨g1, g2, ⟨g3, g4, g5⟩, ⟨g6, g7, g8, g9, g10⟩, -⟩ := H
  refine cr_cells H0 rfl (fun a ha => en_up_n (by omega)) ⟨mk, hmk, rfl⟩ (sy_keep g2 (Nat.le_refl _) (en_up_n (by omega)) (en_up_n (by omega)) (en_up_n (by omega))) (en_up_n (by omega)) ?_ ?_ ?_ ?_ ?_ ?_ ?_
  · rw [en_up_n (by omega)]; exact g4
  · exact en_up_s _ _ _
  · rw [en_up_n (by omega)]; exact g6
  · rw [en_up_n (by omega)]; exact g7
  · rw [en_up_n (by omega)]; exact g8
  · rw [en_up_n (by omega)]; exact g9
  · rw [en_up_n (by omega)]; exact g10
theorem cr_setSf (H : cr_at c x ci N r) (sf : Nat → Int32) : cr_at (en_up c 27 (.inl (0, 1000, .inl sf))) x ci N (r_setS r (r_mk r) sf) ∧ cs_fr c (en_up c 27 (.inl (0, 1000, .inl sf))) := by
  have H0 := H
  obtain ⟨g1, g2, ⟨g3, g4, g5⟩, ⟨g6, g7, g8, g9, g10⟩, -⟩ := H
  refine cr_cells H0 rfl (fun a ha => en_up_n (by omega)) H0.2.2.2.2.2.2.2 (sy_keep g2 (Nat.le_refl _) (en_up_n (by omega)) (en_up_n (by omega)) (en_up_n (by omega))) (en_up_n (by omega)) ?_ ?_ ?_ ?_ ?_ ?_ ?_
  · rw [en_up_n (by omega)]; exact g4
  · rw [en_up_n (by omega)]; exact g5
  · rw [en_up_n (by omega)]; exact g6
  · rw [en_up_n (by omega)]; exact g7
  · rw [en_up_n (by omega)]; exact g8
  · exact en_up_s _ _ _
  · rw [en_up_n (by omega)]; exact g10
/-- what listing leaves as it was -/
def ls_same (r r' : cr_T) : Prop := (∀ k, k ≠ 24 → r_R r' k = r_R r k) ∧ r_vs r' = r_vs r ∧ r_ap r' = r_ap r ∧ r_kf r' = r_kf r ∧ r_ff r' = r_ff r ∧ r_op r' = r_op r ∧ r_rf r' = r_rf r ∧ r_mf r' = r_mf r ∧ r_lo r' = r_lo r
theorem ls_rf : ls_same r r := ⟨fun _ _ => rfl, rfl, rfl, rfl, rfl, rfl, rfl, rfl, rfl⟩
theorem ls_tr {r1 r2 : cr_T} (h : ls_same r r1) (k : ls_same r1 r2) : ls_same r r2 := ⟨fun j hj => (k.1 j hj).trans (h.1 j hj), k.2.1.trans h.2.1, k.2.2.1.trans h.2.2.1, k.2.2.2.1.trans h.2.2.2.1, k.2.2.2.2.1.trans h.2.2.2.2.1, k.2.2.2.2.2.1.trans h.2.2.2.2.2.1, k.2.2.2.2.2.2.1.trans h.2.2.2.2.2.2.1, k.2.2.2.2.2.2.2.1.trans h.2.2.2.2.2.2.2.1, k.2.2.2.2.2.2.2.2.trans h.2.2.2.2.2.2.2.2⟩
theorem cS_ls {r' : cr_T} (h : cS r S) (k : ls_same r r') (hm : ∃ mk, mk ≤ 1000000000 ∧ r_mk r' = nI mk ∧ ∀ v, v < 1000 → ∃ k, k ≤ mk ∧ r_sf r' v = nI k) : cS r' S := by
  obtain ⟨⟨a1, a2, a3, a4, a5⟩, ⟨b1, b2⟩, d1, d2, d3, d4, -⟩ := h
  obtain ⟨k1, k2, k3, k4, k5, k6, -⟩ := k
  refine ⟨⟨(k1 5 (by omega)).trans a1, (k1 8 (by omega)).trans a2, (k1 11 (by omega)).trans a3, (k1 16 (by omega)).trans a4, (k1 19 (by omega)).trans a5⟩, ⟨k2.trans b1, k3.trans b2⟩, ?_, k6.trans d2, ?_, ?_, hm⟩
  · rw [k4]; exact d1
  · rw [k5]; exact d3
  · rw [k5]; exact d4
end BE
