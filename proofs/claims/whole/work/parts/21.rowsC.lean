/-! StepPile$Rows: what an object of it is, its reads. -/
/-- the object h: numbers in the array i, beginnings in the array j, room for m rows; it holds the rows rs -/
def rw_at (c : en_H) (x h i j m N : Nat) (rs : List (List Nat)) : Prop :=
  (h < x ∧ i < x ∧ j < x ∧ i ≠ j) ∧ c h = .inr (1, [.ref i, .ref j, .int (nI rs.length)]) ∧ ∃ (f g : Nat → Int32), c i = .inl (0, N, .inl f) ∧ c j = .inl (0, m + 1, .inl g) ∧ rr_is N f m g rs
theorem cat_1 {a : Nat} : ∀ v ∈ ([.ref a] : List Value), v.category = 1 := by intro v hv; simp at hv; subst hv; rfl
theorem cat_2 {a : Nat} {b : Int32} : ∀ v ∈ ([.ref a, .int b] : List Value), v.category = 1 := by intro v hv; simp at hv; rcases hv with rfl | rfl <;> rfl
theorem cat_3 {a : Nat} {b c : Int32} : ∀ v ∈ ([.ref a, .int b, .int c] : List Value), v.category = 1 := by intro v hv; simp at hv; rcases hv with rfl | rfl | rfl <;> rfl
theorem cat_4 {a : Nat} {b c d : Int32} : ∀ v ∈ ([.ref a, .int b, .int c, .int d] : List Value), v.category = 1 := by intro v hv; simp at hv; rcases hv with rfl | rfl | rfl | rfl <;> rfl
theorem rd_t {y a x : Nat} (h : a < x) : en_rd y a x = True := eq_true (Or.inl h)
theorem n1_0 : ((1 : Int32) = 0) = False := eq_false (by decide)
theorem n0_1 : ((0 : Int32) = 1) = False := eq_false (by decide)
theorem ro_diff {rs : List (List Nat)} {r : Nat} (h : r < rs.length) : nI (ro_of rs (r + 1)) - nI (ro_of rs r) = nI (rs.getD r []).length := by
  rw [pk_sub (ro_le1 rs r), ro_succ h]
  congr 1
  omega
theorem rr_f {N m : Nat} {f g : Nat → Int32} {rs : List (List Nat)} (hr : rr_is N f m g rs) {r : Nat} (h : r < rs.length) : (vp_in (nI r) (m + 1) ∧ vp_in (nI (r + 1)) (m + 1)) ∧ ((nI r).toNatClampNeg = r ∧ (nI (r + 1)).toNatClampNeg = r + 1) ∧ (g r = nI (ro_of rs r) ∧ g (r + 1) = nI (ro_of rs (r + 1))) ∧ ¬ nI r < 0 ∧ ¬ nI rs.length ≤ nI r := by
  obtain ⟨h1, h2, h3, h4, h5, h6⟩ := hr
  exact ⟨⟨vp_in_nI (by omega) (by omega), vp_in_nI (by omega) (by omega)⟩, ⟨nI_clamp (by omega), nI_clamp (by omega)⟩, ⟨h6 r (by omega), h6 (r + 1) (by omega)⟩, nI_pos (by omega), nI_ge h (by omega)⟩
section RC
variable {c : en_H} {x u h i j m N : Nat} {rs : List (List Nat)}
theorem cR_rows (H : rw_at c x h i j m N rs) : en_call 1 mR_rows [.ref h] c x u (some (.int (nI rs.length))) c x u := by
  obtain ⟨⟨hh, -⟩, ho, -⟩ := H
  refine en_call_is (by decide) (Nat.le_of_ble_eq_true rfl) cat_1 ?_
  show en_W (en_call 0) mR_rows 0 [some (.ref h)] [] c x u _
  simp only [sR_rows_0, sR_rows_1, sR_rows_4, ho, hh, en_rdO_eq, en_rdI_eq, en_rdN_eq, en_rdL_eq, true_and, and_true, List.getElem?_cons_succ, List.getElem?_cons_zero, en_gv_eq, if_true, if_false, and_self, or_true, true_or, implies_true, List.length_cons, List.length_nil, Nat.reduceLT, Nat.reduceLeDiff, Nat.reduceAdd, Nat.zero_le, Option.toList_some, Option.toList_none, List.cons_append, List.nil_append, nI_1, rd_t, n1_0, n0_1, Bool.false_eq_true, false_implies, reduceCtorEq, en_q]
theorem cR_isFull (H : rw_at c x h i j m N rs) : en_call 1 mR_isFull [.ref h] c x u (some (.int (if m ≤ rs.length then 1 else 0))) c x u := by
  obtain ⟨⟨hh, hi, hj, -⟩, ho, f, g, ci, cj, hr⟩ := H
  refine en_call_is (by decide) (Nat.le_of_ble_eq_true rfl) cat_1 ?_
  show en_W (en_call 0) mR_isFull 0 [some (.ref h)] [] c x u _
  have h1 := hr.1
  have h2 := hr.2.2.2.1
  have e1 : Int32.ofNat (m + 1) - 1 = nI m := nI_pred m
  have e2 : (nI rs.length < nI m) = (rs.length < m) := propext (nI_ltI (by omega) (by omega))
  simp only [sR_isFull_0, sR_isFull_1, sR_isFull_4, sR_isFull_5, sR_isFull_8, sR_isFull_9, sR_isFull_10, sR_isFull_11, sR_isFull_14, sR_isFull_15, sR_isFull_18, sR_isFull_19, ho, cj, hh, hj, e1, e2, en_rdO_eq, en_rdI_eq, en_rdN_eq, en_rdL_eq, true_and, and_true, List.getElem?_cons_succ, List.getElem?_cons_zero, en_gv_eq, if_true, if_false, and_self, or_true, true_or, implies_true, List.length_cons, List.length_nil, Nat.reduceLT, Nat.reduceLeDiff, Nat.reduceAdd, Nat.zero_le, Option.toList_some, Option.toList_none, List.cons_append, List.nil_append, nI_1, rd_t, n1_0, n0_1, Bool.false_eq_true, false_implies, reduceCtorEq, en_q]
  split
  · rw [if_neg (by omega)]
  · rw [if_pos (by omega)]
theorem cR_has_in {r : Nat} {row : Int32} (H : rw_at c x h i j m N rs) (hrow : row = nI r) (hr : r < rs.length) : en_call 1 mR_has [.ref h, .int row] c x u (some (.int 1)) c x u := by
  subst hrow
  obtain ⟨⟨hh, hi, hj, -⟩, ho, f, g, ci, cj, hrr⟩ := H
  obtain ⟨-, -, -, e1, e2⟩ := rr_f hrr hr
  refine en_call_is (by decide) (Nat.le_of_ble_eq_true rfl) cat_2 ?_
  show en_W (en_call 0) mR_has 0 [some (.ref h), some (.int (nI r))] [] c x u _
  simp only [sR_has_0, sR_has_1, sR_has_4, sR_has_5, sR_has_6, sR_has_9, sR_has_12, sR_has_13, sR_has_16, sR_has_17, ho, hh, e1, e2, en_rdO_eq, en_rdI_eq, en_rdN_eq, en_rdL_eq, true_and, and_true, List.getElem?_cons_succ, List.getElem?_cons_zero, en_gv_eq, if_true, if_false, and_self, or_true, true_or, implies_true, List.length_cons, List.length_nil, Nat.reduceLT, Nat.reduceLeDiff, Nat.reduceAdd, Nat.zero_le, Option.toList_some, Option.toList_none, List.cons_append, List.nil_append, nI_1, rd_t, n1_0, n0_1, Bool.false_eq_true, false_implies, reduceCtorEq, en_q]
theorem cR_has_out {row : Int32} (H : rw_at c x h i j m N rs) (hrow : row < 0 ∨ nI rs.length ≤ row) : en_call 1 mR_has [.ref h, .int row] c x u (some (.int 0)) c x u := by
  obtain ⟨⟨hh, hi, hj, -⟩, ho, f, g, ci, cj, hrr⟩ := H
  refine en_call_is (by decide) (Nat.le_of_ble_eq_true rfl) cat_2 ?_
  show en_W (en_call 0) mR_has 0 [some (.ref h), some (.int row)] [] c x u _
  simp only [sR_has_0, sR_has_1, sR_has_4, sR_has_5, sR_has_6, sR_has_9, sR_has_12, sR_has_13, sR_has_16, sR_has_17, ho, hh, en_rdO_eq, en_rdI_eq, en_rdN_eq, en_rdL_eq, true_and, and_true, List.getElem?_cons_succ, List.getElem?_cons_zero, en_gv_eq, if_true, if_false, and_self, or_true, true_or, implies_true, List.length_cons, List.length_nil, Nat.reduceLT, Nat.reduceLeDiff, Nat.reduceAdd, Nat.zero_le, Option.toList_some, Option.toList_none, List.cons_append, List.nil_append, nI_1, rd_t, n1_0, n0_1, Bool.false_eq_true, false_implies, reduceCtorEq, en_q]
  rcases hrow with hrow | hrow
  · simp only [hrow, if_true]
  · by_cases h0 : row < 0
    · simp only [h0, if_true]
    · simp only [h0, hrow, if_true, if_false]
theorem cR_size_in {r : Nat} {row : Int32} (H : rw_at c x h i j m N rs) (hrow : row = nI r) (hr : r < rs.length) : en_call 2 mR_size [.ref h, .int row] c x u (some (.int (nI (rs.getD r []).length))) c x u := by
  have K1 := cR_has_in (u := u) H hrow hr
  subst hrow
  obtain ⟨⟨hh, hi, hj, -⟩, ho, f, g, ci, cj, hrr⟩ := H
  obtain ⟨⟨a1, a2⟩, ⟨b1, b2⟩, ⟨d1, d2⟩, e1, e2⟩ := rr_f hrr hr
  have e3 := ro_diff hr
  refine en_call_is (by decide) (Nat.le_of_ble_eq_true rfl) cat_2 ?_
  show en_W (en_call 1) mR_size 0 [some (.ref h), some (.int (nI r))] [] c x u _
  simp only [sR_size_0, sR_size_1, sR_size_2, sR_size_5, sR_size_8, sR_size_9, sR_size_12, sR_size_13, sR_size_14, sR_size_15, sR_size_16, sR_size_17, sR_size_20, sR_size_21, sR_size_22, sR_size_23, sR_size_26, sR_size_27, ho, hh, en_rdO_eq, en_rdI_eq, en_rdN_eq, en_rdL_eq, true_and, and_true, List.getElem?_cons_succ, List.getElem?_cons_zero, en_gv_eq, if_true, if_false, and_self, or_true, true_or, implies_true, List.length_cons, List.length_nil, Nat.reduceLT, Nat.reduceLeDiff, Nat.reduceAdd, Nat.zero_le, Option.toList_some, Option.toList_none, List.cons_append, List.nil_append, nI_1, rd_t, n1_0, n0_1, Bool.false_eq_true, false_implies, reduceCtorEq]
  refine en_use (Nat.le_refl _) K1 ?_
  simp only [sR_size_0, sR_size_1, sR_size_2, sR_size_5, sR_size_8, sR_size_9, sR_size_12, sR_size_13, sR_size_14, sR_size_15, sR_size_16, sR_size_17, sR_size_20, sR_size_21, sR_size_22, sR_size_23, sR_size_26, sR_size_27, ho, hh, cj, hj, a1, a2, b1, b2, d1, d2, e3, en_rdO_eq, en_rdI_eq, en_rdN_eq, en_rdL_eq, true_and, and_true, List.getElem?_cons_succ, List.getElem?_cons_zero, en_gv_eq, if_true, if_false, and_self, or_true, true_or, implies_true, List.length_cons, List.length_nil, Nat.reduceLT, Nat.reduceLeDiff, Nat.reduceAdd, Nat.zero_le, Option.toList_some, Option.toList_none, List.cons_append, List.nil_append, nI_1, rd_t, n1_0, n0_1, Bool.false_eq_true, false_implies, reduceCtorEq, en_q]
theorem cR_size_out {row : Int32} (H : rw_at c x h i j m N rs) (hrow : row < 0 ∨ nI rs.length ≤ row) : en_call 2 mR_size [.ref h, .int row] c x u (some (.int (-1))) c x u := by
  have K1 := cR_has_out (u := u) H hrow
  obtain ⟨⟨hh, hi, hj, -⟩, ho, f, g, ci, cj, hrr⟩ := H
  refine en_call_is (by decide) (Nat.le_of_ble_eq_true rfl) cat_2 ?_
  show en_W (en_call 1) mR_size 0 [some (.ref h), some (.int row)] [] c x u _
  simp only [sR_size_0, sR_size_1, sR_size_2, sR_size_5, sR_size_8, sR_size_9, sR_size_12, sR_size_13, sR_size_14, sR_size_15, sR_size_16, sR_size_17, sR_size_20, sR_size_21, sR_size_22, sR_size_23, sR_size_26, sR_size_27, ho, hh, en_rdO_eq, en_rdI_eq, en_rdN_eq, en_rdL_eq, true_and, and_true, List.getElem?_cons_succ, List.getElem?_cons_zero, en_gv_eq, if_true, if_false, and_self, or_true, true_or, implies_true, List.length_cons, List.length_nil, Nat.reduceLT, Nat.reduceLeDiff, Nat.reduceAdd, Nat.zero_le, Option.toList_some, Option.toList_none, List.cons_append, List.nil_append, nI_1, rd_t, n1_0, n0_1, Bool.false_eq_true, false_implies, reduceCtorEq]
  refine en_use (Nat.le_refl _) K1 ?_
  simp only [sR_size_0, sR_size_1, sR_size_2, sR_size_5, sR_size_8, sR_size_9, sR_size_12, sR_size_13, sR_size_14, sR_size_15, sR_size_16, sR_size_17, sR_size_20, sR_size_21, sR_size_22, sR_size_23, sR_size_26, sR_size_27, en_rdO_eq, en_rdI_eq, en_rdN_eq, en_rdL_eq, true_and, and_true, List.getElem?_cons_succ, List.getElem?_cons_zero, en_gv_eq, if_true, if_false, and_self, or_true, true_or, implies_true, List.length_cons, List.length_nil, Nat.reduceLT, Nat.reduceLeDiff, Nat.reduceAdd, Nat.zero_le, Option.toList_some, Option.toList_none, List.cons_append, List.nil_append, nI_1, rd_t, n1_0, n0_1, Bool.false_eq_true, false_implies, reduceCtorEq, en_q]
theorem rr_top {N m : Nat} {f g : Nat → Int32} {rs : List (List Nat)} (hr : rr_is N f m g rs) : vp_in (nI rs.length) (m + 1) ∧ (nI rs.length).toNatClampNeg = rs.length ∧ g rs.length = nI rs.flatten.length := by
  obtain ⟨h1, h2, h3, h4, h5, h6⟩ := hr
  exact ⟨vp_in_nI (by omega) (by omega), nI_clamp (by omega), by rw [h6 _ (Nat.le_refl _), ro_len]⟩
theorem cR_total (H : rw_at c x h i j m N rs) : en_call 1 mR_total [.ref h] c x u (some (.int (nI rs.flatten.length))) c x u := by
  obtain ⟨⟨hh, hi, hj, -⟩, ho, f, g, ci, cj, hrr⟩ := H
  obtain ⟨a1, a2, a3⟩ := rr_top hrr
  refine en_call_is (by decide) (Nat.le_of_ble_eq_true rfl) cat_1 ?_
  show en_W (en_call 0) mR_total 0 [some (.ref h)] [] c x u _
  simp only [sR_total_0, sR_total_1, sR_total_4, sR_total_5, sR_total_8, sR_total_9, ho, hh, cj, hj, a1, a2, a3, en_rdO_eq, en_rdI_eq, en_rdN_eq, en_rdL_eq, true_and, and_true, List.getElem?_cons_succ, List.getElem?_cons_zero, en_gv_eq, if_true, if_false, and_self, or_true, true_or, implies_true, List.length_cons, List.length_nil, Nat.reduceLT, Nat.reduceLeDiff, Nat.reduceAdd, Nat.zero_le, Option.toList_some, Option.toList_none, List.cons_append, List.nil_append, nI_1, rd_t, n1_0, n0_1, Bool.false_eq_true, false_implies, reduceCtorEq, en_q]
theorem cR_start_in {r : Nat} {row : Int32} (H : rw_at c x h i j m N rs) (hrow : row = nI r) (hr : r ≤ rs.length) : en_call 2 mR_startOf [.ref h, .int row] c x u (some (.int (nI (ro_of rs r)))) c x u := by
  by_cases hlt : r < rs.length
  · have K1 := cR_has_in (u := u) H hrow hlt
    subst hrow
    obtain ⟨⟨hh, hi, hj, -⟩, ho, f, g, ci, cj, hrr⟩ := H
    obtain ⟨⟨a1, a2⟩, ⟨b1, b2⟩, ⟨d1, d2⟩, e1, e2⟩ := rr_f hrr hlt
    refine en_call_is (by decide) (Nat.le_of_ble_eq_true rfl) cat_2 ?_
    show en_W (en_call 1) mR_startOf 0 [some (.ref h), some (.int (nI r))] [] c x u _
    simp only [sR_startOf_0, sR_startOf_1, sR_startOf_2, sR_startOf_5, sR_startOf_8, sR_startOf_9, sR_startOf_12, sR_startOf_13, sR_startOf_14, sR_startOf_17, sR_startOf_18, sR_startOf_21, sR_startOf_22, sR_startOf_25, sR_startOf_26, ho, hh, en_rdO_eq, en_rdI_eq, en_rdN_eq, en_rdL_eq, true_and, and_true, List.getElem?_cons_succ, List.getElem?_cons_zero, en_gv_eq, if_true, if_false, and_self, or_true, true_or, implies_true, List.length_cons, List.length_nil, Nat.reduceLT, Nat.reduceLeDiff, Nat.reduceAdd, Nat.zero_le, Option.toList_some, Option.toList_none, List.cons_append, List.nil_append, nI_1, rd_t, n1_0, n0_1, Bool.false_eq_true, false_implies, reduceCtorEq]
    refine en_use (Nat.le_refl _) K1 ?_
    simp only [sR_startOf_0, sR_startOf_1, sR_startOf_2, sR_startOf_5, sR_startOf_8, sR_startOf_9, sR_startOf_12, sR_startOf_13, sR_startOf_14, sR_startOf_17, sR_startOf_18, sR_startOf_21, sR_startOf_22, sR_startOf_25, sR_startOf_26, ho, hh, cj, hj, a1, b1, d1, en_rdO_eq, en_rdI_eq, en_rdN_eq, en_rdL_eq, true_and, and_true, List.getElem?_cons_succ, List.getElem?_cons_zero, en_gv_eq, if_true, if_false, and_self, or_true, true_or, implies_true, List.length_cons, List.length_nil, Nat.reduceLT, Nat.reduceLeDiff, Nat.reduceAdd, Nat.zero_le, Option.toList_some, Option.toList_none, List.cons_append, List.nil_append, nI_1, rd_t, n1_0, n0_1, Bool.false_eq_true, false_implies, reduceCtorEq, en_q]
  · have hrl : r = rs.length := by omega
    subst hrl
    have K1 := cR_has_out (u := u) (row := row) H (Or.inr (by rw [hrow]; exact Int32.le_refl _))
    subst hrow
    obtain ⟨⟨hh, hi, hj, -⟩, ho, f, g, ci, cj, hrr⟩ := H
    obtain ⟨a1, a2, a3⟩ := rr_top hrr
    refine en_call_is (by decide) (Nat.le_of_ble_eq_true rfl) cat_2 ?_
    show en_W (en_call 1) mR_startOf 0 [some (.ref h), some (.int (nI rs.length))] [] c x u _
    simp only [sR_startOf_0, sR_startOf_1, sR_startOf_2, sR_startOf_5, sR_startOf_8, sR_startOf_9, sR_startOf_12, sR_startOf_13, sR_startOf_14, sR_startOf_17, sR_startOf_18, sR_startOf_21, sR_startOf_22, sR_startOf_25, sR_startOf_26, ho, hh, en_rdO_eq, en_rdI_eq, en_rdN_eq, en_rdL_eq, true_and, and_true, List.getElem?_cons_succ, List.getElem?_cons_zero, en_gv_eq, if_true, if_false, and_self, or_true, true_or, implies_true, List.length_cons, List.length_nil, Nat.reduceLT, Nat.reduceLeDiff, Nat.reduceAdd, Nat.zero_le, Option.toList_some, Option.toList_none, List.cons_append, List.nil_append, nI_1, rd_t, n1_0, n0_1, Bool.false_eq_true, false_implies, reduceCtorEq]
    refine en_use (Nat.le_refl _) K1 ?_
    simp only [sR_startOf_0, sR_startOf_1, sR_startOf_2, sR_startOf_5, sR_startOf_8, sR_startOf_9, sR_startOf_12, sR_startOf_13, sR_startOf_14, sR_startOf_17, sR_startOf_18, sR_startOf_21, sR_startOf_22, sR_startOf_25, sR_startOf_26, ho, hh, cj, hj, a1, a2, a3, ro_len, en_rdO_eq, en_rdI_eq, en_rdN_eq, en_rdL_eq, true_and, and_true, List.getElem?_cons_succ, List.getElem?_cons_zero, en_gv_eq, if_true, if_false, and_self, or_true, true_or, implies_true, List.length_cons, List.length_nil, Nat.reduceLT, Nat.reduceLeDiff, Nat.reduceAdd, Nat.zero_le, Option.toList_some, Option.toList_none, List.cons_append, List.nil_append, nI_1, rd_t, n1_0, n0_1, Bool.false_eq_true, false_implies, reduceCtorEq, en_q]
theorem rr_cell {N m : Nat} {f g : Nat → Int32} {rs : List (List Nat)} (hr : rr_is N f m g rs) {r k : Nat} (h : r < rs.length) (hk : k < (rs.getD r []).length) : vp_in (nI (ro_of rs r + k)) N ∧ (nI (ro_of rs r + k)).toNatClampNeg = ro_of rs r + k ∧ f (ro_of rs r + k) = nI ((rs.getD r []).getD k 0) ∧ (rs.getD r []).getD k 0 < 1000000 := by
  obtain ⟨h1, h2, h3, h4, h5, h6⟩ := hr
  have h7 := ro_lt h hk
  have h8 := h5 _ h7
  rw [ro_get h hk] at h8
  exact ⟨vp_in_nI (by omega) (by omega), nI_clamp (by omega), h8⟩
theorem rr_len {N m : Nat} {f g : Nat → Int32} {rs : List (List Nat)} (hr : rr_is N f m g rs) {r : Nat} (h : r < rs.length) : (rs.getD r []).length ≤ 1000000 := by
  have h1 := ro_succ h
  have h2 := ro_top rs (k := r + 1) (by omega)
  have := hr.2.1
  have := hr.2.2.1.2
  omega
theorem cR_get_in {r k : Nat} {row kk : Int32} (H : rw_at c x h i j m N rs) (hrow : row = nI r) (hkk : kk = nI k) (hr : r < rs.length) (hk : k < (rs.getD r []).length) : en_call 2 mR_get [.ref h, .int row, .int kk] c x u (some (.int (nI ((rs.getD r []).getD k 0)))) c x u := by
  have K1 := cR_has_in (u := u) H hrow hr
  subst hrow hkk
  obtain ⟨⟨hh, hi, hj, -⟩, ho, f, g, ci, cj, hrr⟩ := H
  obtain ⟨⟨a1, a2⟩, ⟨b1, b2⟩, ⟨d1, d2⟩, e1, e2⟩ := rr_f hrr hr
  obtain ⟨f1, f2, f3, -⟩ := rr_cell hrr hr hk
  have hlen := rr_len hrr hr
  have e3 := ro_diff hr
  have e4 : ¬ nI k < 0 := nI_pos (by omega)
  have e5 : ¬ nI (rs.getD r []).length ≤ nI k := nI_ge hk (by omega)
  refine en_call_is (by decide) (Nat.le_of_ble_eq_true rfl) cat_3 ?_
  show en_W (en_call 1) mR_get 0 [some (.ref h), some (.int (nI r)), some (.int (nI k)), none] [] c x u _
  simp only [sR_get_0, sR_get_1, sR_get_2, sR_get_5, sR_get_8, sR_get_9, sR_get_12, sR_get_13, sR_get_14, sR_get_17, sR_get_18, sR_get_19, sR_get_20, sR_get_21, sR_get_22, sR_get_25, sR_get_26, sR_get_27, sR_get_28, sR_get_31, sR_get_32, sR_get_35, sR_get_36, sR_get_37, sR_get_38, sR_get_41, sR_get_42, sR_get_45, sR_get_46, sR_get_49, sR_get_50, sR_get_51, sR_get_52, sR_get_53, sR_get_54, sR_get_57, sR_get_58, ho, hh, en_rdO_eq, en_rdI_eq, en_rdN_eq, en_rdL_eq, true_and, and_true, List.getElem?_cons_succ, List.getElem?_cons_zero, en_gv_eq, if_true, if_false, and_self, or_true, true_or, implies_true, List.length_cons, List.length_nil, Nat.reduceLT, Nat.reduceLeDiff, Nat.reduceAdd, Nat.zero_le, Option.toList_some, Option.toList_none, List.cons_append, List.nil_append, nI_1, rd_t, n1_0, n0_1, Bool.false_eq_true, false_implies, reduceCtorEq]
  refine en_use (Nat.le_refl _) K1 ?_
  simp only [sR_get_0, sR_get_1, sR_get_2, sR_get_5, sR_get_8, sR_get_9, sR_get_12, sR_get_13, sR_get_14, sR_get_17, sR_get_18, sR_get_19, sR_get_20, sR_get_21, sR_get_22, sR_get_25, sR_get_26, sR_get_27, sR_get_28, sR_get_31, sR_get_32, sR_get_35, sR_get_36, sR_get_37, sR_get_38, sR_get_41, sR_get_42, sR_get_45, sR_get_46, sR_get_49, sR_get_50, sR_get_51, sR_get_52, sR_get_53, sR_get_54, sR_get_57, sR_get_58, ho, hh, ci, cj, hi, hj, a1, a2, b1, b2, d1, d2, e3, e4, e5, nI_add, f1, f2, f3, en_rdO_eq, en_rdI_eq, en_rdN_eq, en_rdL_eq, true_and, and_true, List.getElem?_cons_succ, List.getElem?_cons_zero, en_gv_eq, if_true, if_false, and_self, or_true, true_or, implies_true, List.length_cons, List.length_nil, Nat.reduceLT, Nat.reduceLeDiff, Nat.reduceAdd, Nat.zero_le, Option.toList_some, Option.toList_none, List.cons_append, List.nil_append, nI_1, rd_t, n1_0, n0_1, Bool.false_eq_true, false_implies, reduceCtorEq, en_q]
theorem cR_get_out {row kk : Int32} (H : rw_at c x h i j m N rs) (hout : (row < 0 ∨ nI rs.length ≤ row) ∨ ∃ r, row = nI r ∧ r < rs.length ∧ (kk < 0 ∨ nI (rs.getD r []).length ≤ kk)) : en_call 2 mR_get [.ref h, .int row, .int kk] c x u (some (.int (-1))) c x u := by
  rcases hout with hout | ⟨r, hrow, hr, hout⟩
  · have K1 := cR_has_out (u := u) H hout
    obtain ⟨⟨hh, hi, hj, -⟩, ho, f, g, ci, cj, hrr⟩ := H
    refine en_call_is (by decide) (Nat.le_of_ble_eq_true rfl) cat_3 ?_
    show en_W (en_call 1) mR_get 0 [some (.ref h), some (.int row), some (.int kk), none] [] c x u _
    simp only [sR_get_0, sR_get_1, sR_get_2, sR_get_5, sR_get_8, sR_get_9, sR_get_12, sR_get_13, sR_get_14, sR_get_17, sR_get_18, sR_get_19, sR_get_20, sR_get_21, sR_get_22, sR_get_25, sR_get_26, sR_get_27, sR_get_28, sR_get_31, sR_get_32, sR_get_35, sR_get_36, sR_get_37, sR_get_38, sR_get_41, sR_get_42, sR_get_45, sR_get_46, sR_get_49, sR_get_50, sR_get_51, sR_get_52, sR_get_53, sR_get_54, sR_get_57, sR_get_58, ho, hh, en_rdO_eq, en_rdI_eq, en_rdN_eq, en_rdL_eq, true_and, and_true, List.getElem?_cons_succ, List.getElem?_cons_zero, en_gv_eq, if_true, if_false, and_self, or_true, true_or, implies_true, List.length_cons, List.length_nil, Nat.reduceLT, Nat.reduceLeDiff, Nat.reduceAdd, Nat.zero_le, Option.toList_some, Option.toList_none, List.cons_append, List.nil_append, nI_1, rd_t, n1_0, n0_1, Bool.false_eq_true, false_implies, reduceCtorEq]
    refine en_use (Nat.le_refl _) K1 ?_
    simp only [sR_get_0, sR_get_1, sR_get_2, sR_get_5, sR_get_8, sR_get_9, sR_get_12, sR_get_13, sR_get_14, sR_get_17, sR_get_18, sR_get_19, sR_get_20, sR_get_21, sR_get_22, sR_get_25, sR_get_26, sR_get_27, sR_get_28, sR_get_31, sR_get_32, sR_get_35, sR_get_36, sR_get_37, sR_get_38, sR_get_41, sR_get_42, sR_get_45, sR_get_46, sR_get_49, sR_get_50, sR_get_51, sR_get_52, sR_get_53, sR_get_54, sR_get_57, sR_get_58, en_rdO_eq, en_rdI_eq, en_rdN_eq, en_rdL_eq, true_and, and_true, List.getElem?_cons_succ, List.getElem?_cons_zero, en_gv_eq, if_true, if_false, and_self, or_true, true_or, implies_true, List.length_cons, List.length_nil, Nat.reduceLT, Nat.reduceLeDiff, Nat.reduceAdd, Nat.zero_le, Option.toList_some, Option.toList_none, List.cons_append, List.nil_append, nI_1, rd_t, n1_0, n0_1, Bool.false_eq_true, false_implies, reduceCtorEq, en_q]
  · have K1 := cR_has_in (u := u) H hrow hr
    subst hrow
    obtain ⟨⟨hh, hi, hj, -⟩, ho, f, g, ci, cj, hrr⟩ := H
    obtain ⟨⟨a1, a2⟩, ⟨b1, b2⟩, ⟨d1, d2⟩, e1, e2⟩ := rr_f hrr hr
    have e3 := ro_diff hr
    refine en_call_is (by decide) (Nat.le_of_ble_eq_true rfl) cat_3 ?_
    show en_W (en_call 1) mR_get 0 [some (.ref h), some (.int (nI r)), some (.int kk), none] [] c x u _
    simp only [sR_get_0, sR_get_1, sR_get_2, sR_get_5, sR_get_8, sR_get_9, sR_get_12, sR_get_13, sR_get_14, sR_get_17, sR_get_18, sR_get_19, sR_get_20, sR_get_21, sR_get_22, sR_get_25, sR_get_26, sR_get_27, sR_get_28, sR_get_31, sR_get_32, sR_get_35, sR_get_36, sR_get_37, sR_get_38, sR_get_41, sR_get_42, sR_get_45, sR_get_46, sR_get_49, sR_get_50, sR_get_51, sR_get_52, sR_get_53, sR_get_54, sR_get_57, sR_get_58, ho, hh, en_rdO_eq, en_rdI_eq, en_rdN_eq, en_rdL_eq, true_and, and_true, List.getElem?_cons_succ, List.getElem?_cons_zero, en_gv_eq, if_true, if_false, and_self, or_true, true_or, implies_true, List.length_cons, List.length_nil, Nat.reduceLT, Nat.reduceLeDiff, Nat.reduceAdd, Nat.zero_le, Option.toList_some, Option.toList_none, List.cons_append, List.nil_append, nI_1, rd_t, n1_0, n0_1, Bool.false_eq_true, false_implies, reduceCtorEq]
    refine en_use (Nat.le_refl _) K1 ?_
    by_cases h0 : kk < 0
    · simp only [sR_get_0, sR_get_1, sR_get_2, sR_get_5, sR_get_8, sR_get_9, sR_get_12, sR_get_13, sR_get_14, sR_get_17, sR_get_18, sR_get_19, sR_get_20, sR_get_21, sR_get_22, sR_get_25, sR_get_26, sR_get_27, sR_get_28, sR_get_31, sR_get_32, sR_get_35, sR_get_36, sR_get_37, sR_get_38, sR_get_41, sR_get_42, sR_get_45, sR_get_46, sR_get_49, sR_get_50, sR_get_51, sR_get_52, sR_get_53, sR_get_54, sR_get_57, sR_get_58, h0, en_rdO_eq, en_rdI_eq, en_rdN_eq, en_rdL_eq, true_and, and_true, List.getElem?_cons_succ, List.getElem?_cons_zero, en_gv_eq, if_true, if_false, and_self, or_true, true_or, implies_true, List.length_cons, List.length_nil, Nat.reduceLT, Nat.reduceLeDiff, Nat.reduceAdd, Nat.zero_le, Option.toList_some, Option.toList_none, List.cons_append, List.nil_append, nI_1, rd_t, n1_0, n0_1, Bool.false_eq_true, false_implies, reduceCtorEq, en_q]
    · have h1 : nI (rs.getD r []).length ≤ kk := by rcases hout with q | q; exact absurd q h0; exact q
      simp only [sR_get_0, sR_get_1, sR_get_2, sR_get_5, sR_get_8, sR_get_9, sR_get_12, sR_get_13, sR_get_14, sR_get_17, sR_get_18, sR_get_19, sR_get_20, sR_get_21, sR_get_22, sR_get_25, sR_get_26, sR_get_27, sR_get_28, sR_get_31, sR_get_32, sR_get_35, sR_get_36, sR_get_37, sR_get_38, sR_get_41, sR_get_42, sR_get_45, sR_get_46, sR_get_49, sR_get_50, sR_get_51, sR_get_52, sR_get_53, sR_get_54, sR_get_57, sR_get_58, ho, hh, cj, hj, a1, a2, b1, b2, d1, d2, e3, h0, h1, en_rdO_eq, en_rdI_eq, en_rdN_eq, en_rdL_eq, true_and, and_true, List.getElem?_cons_succ, List.getElem?_cons_zero, en_gv_eq, if_true, if_false, and_self, or_true, true_or, implies_true, List.length_cons, List.length_nil, Nat.reduceLT, Nat.reduceLeDiff, Nat.reduceAdd, Nat.zero_le, Option.toList_some, Option.toList_none, List.cons_append, List.nil_append, nI_1, rd_t, n1_0, n0_1, Bool.false_eq_true, false_implies, reduceCtorEq, en_q]
end RC
