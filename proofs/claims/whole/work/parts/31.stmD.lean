/-! StepPile$Statements: searches -/
theorem nI_one : nI 1 = 1 := rfl
theorem nI_two : nI 2 = 2 := rfl
theorem drop_getD {l : List Nat} {k : Nat} (h : k < l.length) : l.drop k = l.getD k 0 :: l.drop (k + 1) := by
  rw [List.getD_eq_getElem?_getD, List.getElem?_eq_getElem h]
  exact List.drop_eq_getElem_cons h
theorem bi_inj01 (b : Bool) : (bi b = 0) = (b = false) := bi_0 b
theorem pf_len (ps : List (Nat × Nat)) : (pf ps).length = 2 * ps.length := by
  unfold pf
  induction ps with
  | nil => rfl
  | cons q ps ih => simp only [List.flatMap_cons, List.length_append, List.length_cons, List.length_nil, ih]; omega
theorem pf_get : ∀ (ps : List (Nat × Nat)) (j : Nat), j < ps.length → (pf ps).getD (2 * j) 0 = (ps.getD j (0, 0)).1 ∧ (pf ps).getD (2 * j + 1) 0 = (ps.getD j (0, 0)).2 := by
  intro ps
  induction ps with
  | nil => intro j h; cases h
  | cons q ps ih =>
    intro j h
    cases j with
    | zero => exact ⟨rfl, rfl⟩
    | succ j =>
      have h2 := ih j (by simpa using h)
      have e1 : pf (q :: ps) = q.1 :: q.2 :: pf ps := rfl
      rw [e1, show 2 * (j + 1) = 2 * j + 1 + 1 by omega, show 2 * j + 1 + 1 + 1 = (2 * j + 1) + 1 + 1 by omega]
      simp only [List.getD_cons_succ]
      exact h2
theorem drop_getP {l : List (Nat × Nat)} {k : Nat} (h : k < l.length) : l.drop k = l.getD k (0, 0) :: l.drop (k + 1) := by
  rw [List.getD_eq_getElem?_getD, List.getElem?_eq_getElem h]
  exact List.drop_eq_getElem_cons h
section TD
variable {c : en_H} {x u : Nat} {ci N : Nat → Nat} {r : cr_T} {S : sp_S}
theorem sy_var_in {vs : List Bool} {s : Nat} (hvs : vs.length ≤ 1000) (h : s < vs.length) : sy_var vs (nI s) = vs.getD s false := by
  unfold sy_var
  rw [nI_clamp (by omega), decide_eq_true h, decide_eq_true (nI_pos' (by omega))]
  rfl
theorem cT_hasFl {ss : Int32} (H : CS c x ci N r S) (ho : S.2.2.1 = true) : en_call 2 mT_hasFloating [.ref 4, .int ss] c x u (some (.int (bi (sy_var S.1 ss && sp_fl S (sp_nd S (sp_la S)) ss.toNatClampNeg)))) c x u := by
  have K1 := cY_isVar (u := u) (ss := ss) (cs_sy H)
  obtain ⟨h1, h2, h3⟩ := cs_la H ho
  have hvs := H.2.2.1
  have hff := H.2.1.2.2.2.2.1 ho
  obtain ⟨o0, o1, o4, o5, o8, o11, o16, o19, o22, o24⟩ := cs_o H.1
  obtain ⟨w0, w1, w4, w5, w8, w11, w14, w15, w16, w19, w22, w23, w24, w27, w28⟩ := cs_b H.1.1
  obtain ⟨k14, k15, k23, k27, k28⟩ := H.1.2.2.2.1
  refine en_call_is (by decide) (Nat.le_of_ble_eq_true rfl) cat_2 ?_
  show en_W (en_call 1) mT_hasFloating 0 [some (.ref 4), some (.int ss)] [] c x u _
  simp only [sT_hasFloating_0, sT_hasFloating_1, sT_hasFloating_4, sT_hasFloating_5, sT_hasFloating_8, sT_hasFloating_11, sT_hasFloating_12, sT_hasFloating_15, sT_hasFloating_16, sT_hasFloating_17, sT_hasFloating_18, sT_hasFloating_21, sT_hasFloating_24, sT_hasFloating_25, sT_hasFloating_28, sT_hasFloating_29, o0, o1, o4, o5, o8, o11, o16, o19, o22, o24, w0, w1, w4, w5, w8, w11, w14, w15, w16, w19, w22, w23, w24, w27, w28, k14, k15, k23, k27, k28, en_rdO_eq, en_rdI_eq, en_rdN_eq, en_rdL_eq, true_and, and_true, List.getElem?_cons_succ, List.getElem?_cons_zero, en_gv_eq, if_true, if_false, and_self, or_true, true_or, implies_true, List.length_cons, List.length_nil, Nat.reduceLT, Nat.reduceLeDiff, Nat.reduceAdd, Nat.zero_le, Option.toList_some, Option.toList_none, List.cons_append, List.nil_append, nI_1, rd_t, n1_0, n0_1, Bool.false_eq_true, false_implies, reduceCtorEq]
  refine en_use (Nat.le_refl _) K1 ?_
  rcases sy_ix hvs ss with ⟨-, e⟩ | ⟨s, hs, rfl, e⟩
  · rw [e]
    simp only [sT_hasFloating_0, sT_hasFloating_1, sT_hasFloating_4, sT_hasFloating_5, sT_hasFloating_8, sT_hasFloating_11, sT_hasFloating_12, sT_hasFloating_15, sT_hasFloating_16, sT_hasFloating_17, sT_hasFloating_18, sT_hasFloating_21, sT_hasFloating_24, sT_hasFloating_25, sT_hasFloating_28, sT_hasFloating_29, bi_f, Bool.false_and, en_rdO_eq, en_rdI_eq, en_rdN_eq, en_rdL_eq, true_and, and_true, List.getElem?_cons_succ, List.getElem?_cons_zero, en_gv_eq, if_true, if_false, and_self, or_true, true_or, implies_true, List.length_cons, List.length_nil, Nat.reduceLT, Nat.reduceLeDiff, Nat.reduceAdd, Nat.zero_le, Option.toList_some, Option.toList_none, List.cons_append, List.nil_append, nI_1, rd_t, n1_0, n0_1, Bool.false_eq_true, false_implies, reduceCtorEq, en_q]
  · rw [e, nI_clamp (by omega)]
    cases hv : S.1.getD s false with
    | false => simp only [sT_hasFloating_0, sT_hasFloating_1, sT_hasFloating_4, sT_hasFloating_5, sT_hasFloating_8, sT_hasFloating_11, sT_hasFloating_12, sT_hasFloating_15, sT_hasFloating_16, sT_hasFloating_17, sT_hasFloating_18, sT_hasFloating_21, sT_hasFloating_24, sT_hasFloating_25, sT_hasFloating_28, sT_hasFloating_29, bi_f, Bool.false_and, en_rdO_eq, en_rdI_eq, en_rdN_eq, en_rdL_eq, true_and, and_true, List.getElem?_cons_succ, List.getElem?_cons_zero, en_gv_eq, if_true, if_false, and_self, or_true, true_or, implies_true, List.length_cons, List.length_nil, Nat.reduceLT, Nat.reduceLeDiff, Nat.reduceAdd, Nat.zero_le, Option.toList_some, Option.toList_none, List.cons_append, List.nil_append, nI_1, rd_t, n1_0, n0_1, Bool.false_eq_true, false_implies, reduceCtorEq, en_q]
    | true =>
      have e1 : vp_in (nI s) 1000 := vp_in_nI (by omega) (by omega)
      have e2 : (nI s).toNatClampNeg = s := nI_clamp (by omega)
      have e3 := hff s hs hv
      simp only [sT_hasFloating_0, sT_hasFloating_1, sT_hasFloating_4, sT_hasFloating_5, sT_hasFloating_8, sT_hasFloating_11, sT_hasFloating_12, sT_hasFloating_15, sT_hasFloating_16, sT_hasFloating_17, sT_hasFloating_18, sT_hasFloating_21, sT_hasFloating_24, sT_hasFloating_25, sT_hasFloating_28, sT_hasFloating_29, o0, o1, o4, o5, o8, o11, o16, o19, o22, o24, w0, w1, w4, w5, w8, w11, w14, w15, w16, w19, w22, w23, w24, w27, w28, k14, k15, k23, k27, k28, bi_t, e1, e2, h3, Bool.true_and, en_rdO_eq, en_rdI_eq, en_rdN_eq, en_rdL_eq, true_and, and_true, List.getElem?_cons_succ, List.getElem?_cons_zero, en_gv_eq, if_true, if_false, and_self, or_true, true_or, implies_true, List.length_cons, List.length_nil, Nat.reduceLT, Nat.reduceLeDiff, Nat.reduceAdd, Nat.zero_le, Option.toList_some, Option.toList_none, List.cons_append, List.nil_append, nI_1, rd_t, n1_0, n0_1, Bool.false_eq_true, false_implies, reduceCtorEq]
      cases hf : sp_fl S (sp_nd S (sp_la S)) s with
      | true =>
        have e4 := e3.mpr hf
        simp only [e4, sT_hasFloating_0, sT_hasFloating_1, sT_hasFloating_4, sT_hasFloating_5, sT_hasFloating_8, sT_hasFloating_11, sT_hasFloating_12, sT_hasFloating_15, sT_hasFloating_16, sT_hasFloating_17, sT_hasFloating_18, sT_hasFloating_21, sT_hasFloating_24, sT_hasFloating_25, sT_hasFloating_28, sT_hasFloating_29, bi_t, en_rdO_eq, en_rdI_eq, en_rdN_eq, en_rdL_eq, true_and, and_true, List.getElem?_cons_succ, List.getElem?_cons_zero, en_gv_eq, if_true, if_false, and_self, or_true, true_or, implies_true, List.length_cons, List.length_nil, Nat.reduceLT, Nat.reduceLeDiff, Nat.reduceAdd, Nat.zero_le, Option.toList_some, Option.toList_none, List.cons_append, List.nil_append, nI_1, rd_t, n1_0, n0_1, Bool.false_eq_true, false_implies, reduceCtorEq, en_q]
      | false =>
        have e4 : ¬ r_ff r s = nI (sp_la S) := fun q => by rw [e3.mp q] at hf; cases hf
        simp only [e4, sT_hasFloating_0, sT_hasFloating_1, sT_hasFloating_4, sT_hasFloating_5, sT_hasFloating_8, sT_hasFloating_11, sT_hasFloating_12, sT_hasFloating_15, sT_hasFloating_16, sT_hasFloating_17, sT_hasFloating_18, sT_hasFloating_21, sT_hasFloating_24, sT_hasFloating_25, sT_hasFloating_28, sT_hasFloating_29, bi_f, en_rdO_eq, en_rdI_eq, en_rdN_eq, en_rdL_eq, true_and, and_true, List.getElem?_cons_succ, List.getElem?_cons_zero, en_gv_eq, if_true, if_false, and_self, or_true, true_or, implies_true, List.length_cons, List.length_nil, Nat.reduceLT, Nat.reduceLeDiff, Nat.reduceAdd, Nat.zero_le, Option.toList_some, Option.toList_none, List.cons_append, List.nil_append, nI_1, rd_t, n1_0, n0_1, Bool.false_eq_true, false_implies, reduceCtorEq, en_q]
theorem tx_lt (H : CS c x ci N r S) {i k : Nat} (hi : i < S.2.1.length) (hk : k < (sp_tx S i).length) : (sp_tx S i).getD k 0 < S.1.length := by
  have h1 := (H.2.2.2.2.2.1 i hi).2.2.2.2.1
  refine h1 _ ?_
  rw [List.getD_eq_getElem?_getD, List.getElem?_eq_getElem hk]
  exact List.getElem_mem hk
theorem cT_allFl {i : Nat} {ii : Int32} (H : CS c x ci N r S) (ho : S.2.2.1 = true) (hii : ii = nI i) (hi : i < S.2.1.length) : en_call 3 mT_allHaveFloating [.ref 4, .int ii] c x u (some (.int (bi (sp_all S (sp_nd S (sp_la S)) (sp_tx S i))))) c x u := by
  have hl := (cs_len H.2.1).1
  have hg := (cs_get H.2.1 i).1
  have HT := (cs_T H).1
  have hvs := H.2.2.1
  have hlen := (H.2.2.2.2.2.1 i hi).2.1
  have H0 := H
  subst hii
  have K1 := cR_size_in (u := u) (row := nI i) HT rfl (by rw [hl]; exact hi)
  rw [hg] at K1
  obtain ⟨o0, o1, o4, o5, o8, o11, o16, o19, o22, o24⟩ := cs_o H.1
  obtain ⟨w0, w1, w4, w5, w8, w11, w14, w15, w16, w19, w22, w23, w24, w27, w28⟩ := cs_b H.1.1
  obtain ⟨k14, k15, k23, k27, k28⟩ := H.1.2.2.2.1
  have loop : ∀ (n k : Nat) (l4 : Option Value), k + n = (sp_tx S i).length → en_W (en_call 2) mT_allHaveFloating 11 [some (.ref 4), some (.int (nI i)), some (.int (nI (sp_tx S i).length)), some (.int (nI k)), l4] [] c x u (en_q (some (.int (bi (sp_all S (sp_nd S (sp_la S)) ((sp_tx S i).drop k))))) c x u) := by
    intro n
    induction n with
    | zero =>
      intro k l4 hk
      have hk : k = (sp_tx S i).length := by omega
      subst hk
      have e1 : nI (sp_tx S i).length ≤ nI (sp_tx S i).length := Int32.le_refl _
      rw [List.drop_length, sT_allHaveFloating_11]
      simp only [sT_allHaveFloating_0, sT_allHaveFloating_1, sT_allHaveFloating_4, sT_allHaveFloating_5, sT_allHaveFloating_8, sT_allHaveFloating_9, sT_allHaveFloating_10, sT_allHaveFloating_12, sT_allHaveFloating_13, sT_allHaveFloating_16, sT_allHaveFloating_17, sT_allHaveFloating_20, sT_allHaveFloating_21, sT_allHaveFloating_22, sT_allHaveFloating_25, sT_allHaveFloating_27, sT_allHaveFloating_28, sT_allHaveFloating_31, sT_allHaveFloating_33, sT_allHaveFloating_36, sT_allHaveFloating_39, sT_allHaveFloating_40, sT_allHaveFloating_42, sT_allHaveFloating_45, sT_allHaveFloating_48, sT_allHaveFloating_49, sT_allHaveFloating_50, sT_allHaveFloating_53, sT_allHaveFloating_56, sT_allHaveFloating_57, e1, en_rdO_eq, en_rdI_eq, en_rdN_eq, en_rdL_eq, true_and, and_true, List.getElem?_cons_succ, List.getElem?_cons_zero, en_gv_eq, if_true, if_false, and_self, or_true, true_or, implies_true, List.length_cons, List.length_nil, Nat.reduceLT, Nat.reduceLeDiff, Nat.reduceAdd, Nat.zero_le, Option.toList_some, Option.toList_none, List.cons_append, List.nil_append, nI_1, rd_t, n1_0, n0_1, Bool.false_eq_true, false_implies, reduceCtorEq, en_q]
      simp [sp_all, bi]
    | succ n ih =>
      intro k l4 hk
      have hklt : k < (sp_tx S i).length := by omega
      have e1 : ¬ nI (sp_tx S i).length ≤ nI k := nI_ge hklt (by omega)
      have K2 := cR_get_in (u := u) (row := nI i) (kk := nI k) HT rfl rfl (by rw [hl]; exact hi) (by rw [hg]; exact hklt)
      rw [hg] at K2
      have hs := tx_lt H0 hi hklt
      have K3 := cY_isVar (u := u) (ss := nI ((sp_tx S i).getD k 0)) (cs_sy H0)
      have K4 := cT_hasFl (u := u) (ss := nI ((sp_tx S i).getD k 0)) H0 ho
      rw [sy_var_in hvs hs] at K3 K4
      rw [nI_clamp (by omega)] at K4
      have IH := ih (k + 1) (some (.int (nI ((sp_tx S i).getD k 0)))) (by omega)
      rw [drop_getD hklt, sT_allHaveFloating_11]
      simp only [sT_allHaveFloating_0, sT_allHaveFloating_1, sT_allHaveFloating_4, sT_allHaveFloating_5, sT_allHaveFloating_8, sT_allHaveFloating_9, sT_allHaveFloating_10, sT_allHaveFloating_12, sT_allHaveFloating_13, sT_allHaveFloating_16, sT_allHaveFloating_17, sT_allHaveFloating_20, sT_allHaveFloating_21, sT_allHaveFloating_22, sT_allHaveFloating_25, sT_allHaveFloating_27, sT_allHaveFloating_28, sT_allHaveFloating_31, sT_allHaveFloating_33, sT_allHaveFloating_36, sT_allHaveFloating_39, sT_allHaveFloating_40, sT_allHaveFloating_42, sT_allHaveFloating_45, sT_allHaveFloating_48, sT_allHaveFloating_49, sT_allHaveFloating_50, sT_allHaveFloating_53, sT_allHaveFloating_56, sT_allHaveFloating_57, e1, o0, o1, o4, o5, o8, o11, o16, o19, o22, o24, w0, w1, w4, w5, w8, w11, w14, w15, w16, w19, w22, w23, w24, w27, w28, k14, k15, k23, k27, k28, en_rdO_eq, en_rdI_eq, en_rdN_eq, en_rdL_eq, true_and, and_true, List.getElem?_cons_succ, List.getElem?_cons_zero, en_gv_eq, if_true, if_false, and_self, or_true, true_or, implies_true, List.length_cons, List.length_nil, Nat.reduceLT, Nat.reduceLeDiff, Nat.reduceAdd, Nat.zero_le, Option.toList_some, Option.toList_none, List.cons_append, List.nil_append, nI_1, rd_t, n1_0, n0_1, Bool.false_eq_true, false_implies, reduceCtorEq]
      refine en_use (Nat.le_refl _) K2 ?_
      simp only [sT_allHaveFloating_0, sT_allHaveFloating_1, sT_allHaveFloating_4, sT_allHaveFloating_5, sT_allHaveFloating_8, sT_allHaveFloating_9, sT_allHaveFloating_10, sT_allHaveFloating_12, sT_allHaveFloating_13, sT_allHaveFloating_16, sT_allHaveFloating_17, sT_allHaveFloating_20, sT_allHaveFloating_21, sT_allHaveFloating_22, sT_allHaveFloating_25, sT_allHaveFloating_27, sT_allHaveFloating_28, sT_allHaveFloating_31, sT_allHaveFloating_33, sT_allHaveFloating_36, sT_allHaveFloating_39, sT_allHaveFloating_40, sT_allHaveFloating_42, sT_allHaveFloating_45, sT_allHaveFloating_48, sT_allHaveFloating_49, sT_allHaveFloating_50, sT_allHaveFloating_53, sT_allHaveFloating_56, sT_allHaveFloating_57, o0, o1, o4, o5, o8, o11, o16, o19, o22, o24, w0, w1, w4, w5, w8, w11, w14, w15, w16, w19, w22, w23, w24, w27, w28, k14, k15, k23, k27, k28, en_rdO_eq, en_rdI_eq, en_rdN_eq, en_rdL_eq, true_and, and_true, List.getElem?_cons_succ, List.getElem?_cons_zero, en_gv_eq, if_true, if_false, and_self, or_true, true_or, implies_true, List.length_cons, List.length_nil, Nat.reduceLT, Nat.reduceLeDiff, Nat.reduceAdd, Nat.zero_le, Option.toList_some, Option.toList_none, List.cons_append, List.nil_append, nI_1, rd_t, n1_0, n0_1, Bool.false_eq_true, false_implies, reduceCtorEq]
      refine en_use (by decide) K3 ?_
      have hsplit : sp_all S (sp_nd S (sp_la S)) ((sp_tx S i).getD k 0 :: (sp_tx S i).drop (k + 1)) = ((!sp_var S ((sp_tx S i).getD k 0) || sp_fl S (sp_nd S (sp_la S)) ((sp_tx S i).getD k 0)) && sp_all S (sp_nd S (sp_la S)) ((sp_tx S i).drop (k + 1))) := rfl
      rw [hsplit]
      have hv : sp_var S ((sp_tx S i).getD k 0) = S.1.getD ((sp_tx S i).getD k 0) false := rfl
      rw [hv]
      cases hvv : S.1.getD ((sp_tx S i).getD k 0) false with
      | false =>
        simp only [sT_allHaveFloating_0, sT_allHaveFloating_1, sT_allHaveFloating_4, sT_allHaveFloating_5, sT_allHaveFloating_8, sT_allHaveFloating_9, sT_allHaveFloating_10, sT_allHaveFloating_12, sT_allHaveFloating_13, sT_allHaveFloating_16, sT_allHaveFloating_17, sT_allHaveFloating_20, sT_allHaveFloating_21, sT_allHaveFloating_22, sT_allHaveFloating_25, sT_allHaveFloating_27, sT_allHaveFloating_28, sT_allHaveFloating_31, sT_allHaveFloating_33, sT_allHaveFloating_36, sT_allHaveFloating_39, sT_allHaveFloating_40, sT_allHaveFloating_42, sT_allHaveFloating_45, sT_allHaveFloating_48, sT_allHaveFloating_49, sT_allHaveFloating_50, sT_allHaveFloating_53, sT_allHaveFloating_56, sT_allHaveFloating_57, bi_f, Bool.not_false, Bool.true_or, Bool.true_and, en_rdO_eq, en_rdI_eq, en_rdN_eq, en_rdL_eq, true_and, and_true, List.getElem?_cons_succ, List.getElem?_cons_zero, en_gv_eq, if_true, if_false, and_self, or_true, true_or, implies_true, List.length_cons, List.length_nil, Nat.reduceLT, Nat.reduceLeDiff, Nat.reduceAdd, Nat.zero_le, Option.toList_some, Option.toList_none, List.cons_append, List.nil_append, nI_1, rd_t, n1_0, n0_1, Bool.false_eq_true, false_implies, reduceCtorEq]
        exact IH
      | true =>
        rw [hvv] at K4
        simp only [sT_allHaveFloating_0, sT_allHaveFloating_1, sT_allHaveFloating_4, sT_allHaveFloating_5, sT_allHaveFloating_8, sT_allHaveFloating_9, sT_allHaveFloating_10, sT_allHaveFloating_12, sT_allHaveFloating_13, sT_allHaveFloating_16, sT_allHaveFloating_17, sT_allHaveFloating_20, sT_allHaveFloating_21, sT_allHaveFloating_22, sT_allHaveFloating_25, sT_allHaveFloating_27, sT_allHaveFloating_28, sT_allHaveFloating_31, sT_allHaveFloating_33, sT_allHaveFloating_36, sT_allHaveFloating_39, sT_allHaveFloating_40, sT_allHaveFloating_42, sT_allHaveFloating_45, sT_allHaveFloating_48, sT_allHaveFloating_49, sT_allHaveFloating_50, sT_allHaveFloating_53, sT_allHaveFloating_56, sT_allHaveFloating_57, o0, o1, o4, o5, o8, o11, o16, o19, o22, o24, w0, w1, w4, w5, w8, w11, w14, w15, w16, w19, w22, w23, w24, w27, w28, k14, k15, k23, k27, k28, bi_t, Bool.not_true, Bool.false_or, en_rdO_eq, en_rdI_eq, en_rdN_eq, en_rdL_eq, true_and, and_true, List.getElem?_cons_succ, List.getElem?_cons_zero, en_gv_eq, if_true, if_false, and_self, or_true, true_or, implies_true, List.length_cons, List.length_nil, Nat.reduceLT, Nat.reduceLeDiff, Nat.reduceAdd, Nat.zero_le, Option.toList_some, Option.toList_none, List.cons_append, List.nil_append, nI_1, rd_t, n1_0, n0_1, Bool.false_eq_true, false_implies, reduceCtorEq]
        refine en_use (Nat.le_refl _) K4 ?_
        rw [Bool.true_and]
        cases hf : sp_fl S (sp_nd S (sp_la S)) ((sp_tx S i).getD k 0) with
        | true =>
          simp only [sT_allHaveFloating_0, sT_allHaveFloating_1, sT_allHaveFloating_4, sT_allHaveFloating_5, sT_allHaveFloating_8, sT_allHaveFloating_9, sT_allHaveFloating_10, sT_allHaveFloating_12, sT_allHaveFloating_13, sT_allHaveFloating_16, sT_allHaveFloating_17, sT_allHaveFloating_20, sT_allHaveFloating_21, sT_allHaveFloating_22, sT_allHaveFloating_25, sT_allHaveFloating_27, sT_allHaveFloating_28, sT_allHaveFloating_31, sT_allHaveFloating_33, sT_allHaveFloating_36, sT_allHaveFloating_39, sT_allHaveFloating_40, sT_allHaveFloating_42, sT_allHaveFloating_45, sT_allHaveFloating_48, sT_allHaveFloating_49, sT_allHaveFloating_50, sT_allHaveFloating_53, sT_allHaveFloating_56, sT_allHaveFloating_57, bi_t, Bool.true_and, en_rdO_eq, en_rdI_eq, en_rdN_eq, en_rdL_eq, true_and, and_true, List.getElem?_cons_succ, List.getElem?_cons_zero, en_gv_eq, if_true, if_false, and_self, or_true, true_or, implies_true, List.length_cons, List.length_nil, Nat.reduceLT, Nat.reduceLeDiff, Nat.reduceAdd, Nat.zero_le, Option.toList_some, Option.toList_none, List.cons_append, List.nil_append, nI_1, rd_t, n1_0, n0_1, Bool.false_eq_true, false_implies, reduceCtorEq]
          exact IH
        | false => simp only [sT_allHaveFloating_0, sT_allHaveFloating_1, sT_allHaveFloating_4, sT_allHaveFloating_5, sT_allHaveFloating_8, sT_allHaveFloating_9, sT_allHaveFloating_10, sT_allHaveFloating_12, sT_allHaveFloating_13, sT_allHaveFloating_16, sT_allHaveFloating_17, sT_allHaveFloating_20, sT_allHaveFloating_21, sT_allHaveFloating_22, sT_allHaveFloating_25, sT_allHaveFloating_27, sT_allHaveFloating_28, sT_allHaveFloating_31, sT_allHaveFloating_33, sT_allHaveFloating_36, sT_allHaveFloating_39, sT_allHaveFloating_40, sT_allHaveFloating_42, sT_allHaveFloating_45, sT_allHaveFloating_48, sT_allHaveFloating_49, sT_allHaveFloating_50, sT_allHaveFloating_53, sT_allHaveFloating_56, sT_allHaveFloating_57, bi_f, Bool.false_and, en_rdO_eq, en_rdI_eq, en_rdN_eq, en_rdL_eq, true_and, and_true, List.getElem?_cons_succ, List.getElem?_cons_zero, en_gv_eq, if_true, if_false, and_self, or_true, true_or, implies_true, List.length_cons, List.length_nil, Nat.reduceLT, Nat.reduceLeDiff, Nat.reduceAdd, Nat.zero_le, Option.toList_some, Option.toList_none, List.cons_append, List.nil_append, nI_1, rd_t, n1_0, n0_1, Bool.false_eq_true, false_implies, reduceCtorEq, en_q]
  refine en_call_is (by decide) (Nat.le_of_ble_eq_true rfl) cat_2 ?_
  show en_W (en_call 2) mT_allHaveFloating 0 [some (.ref 4), some (.int (nI i)), none, none, none] [] c x u _
  simp only [sT_allHaveFloating_0, sT_allHaveFloating_1, sT_allHaveFloating_4, sT_allHaveFloating_5, sT_allHaveFloating_8, sT_allHaveFloating_9, sT_allHaveFloating_10, sT_allHaveFloating_12, sT_allHaveFloating_13, sT_allHaveFloating_16, sT_allHaveFloating_17, sT_allHaveFloating_20, sT_allHaveFloating_21, sT_allHaveFloating_22, sT_allHaveFloating_25, sT_allHaveFloating_27, sT_allHaveFloating_28, sT_allHaveFloating_31, sT_allHaveFloating_33, sT_allHaveFloating_36, sT_allHaveFloating_39, sT_allHaveFloating_40, sT_allHaveFloating_42, sT_allHaveFloating_45, sT_allHaveFloating_48, sT_allHaveFloating_49, sT_allHaveFloating_50, sT_allHaveFloating_53, sT_allHaveFloating_56, sT_allHaveFloating_57, o0, o1, o4, o5, o8, o11, o16, o19, o22, o24, w0, w1, w4, w5, w8, w11, w14, w15, w16, w19, w22, w23, w24, w27, w28, k14, k15, k23, k27, k28, en_rdO_eq, en_rdI_eq, en_rdN_eq, en_rdL_eq, true_and, and_true, List.getElem?_cons_succ, List.getElem?_cons_zero, en_gv_eq, if_true, if_false, and_self, or_true, true_or, implies_true, List.length_cons, List.length_nil, Nat.reduceLT, Nat.reduceLeDiff, Nat.reduceAdd, Nat.zero_le, Option.toList_some, Option.toList_none, List.cons_append, List.nil_append, nI_1, rd_t, n1_0, n0_1, Bool.false_eq_true, false_implies, reduceCtorEq]
  refine en_use (Nat.le_refl _) K1 ?_
  simp only [sT_allHaveFloating_0, sT_allHaveFloating_1, sT_allHaveFloating_4, sT_allHaveFloating_5, sT_allHaveFloating_8, sT_allHaveFloating_9, sT_allHaveFloating_10, sT_allHaveFloating_12, sT_allHaveFloating_13, sT_allHaveFloating_16, sT_allHaveFloating_17, sT_allHaveFloating_20, sT_allHaveFloating_21, sT_allHaveFloating_22, sT_allHaveFloating_25, sT_allHaveFloating_27, sT_allHaveFloating_28, sT_allHaveFloating_31, sT_allHaveFloating_33, sT_allHaveFloating_36, sT_allHaveFloating_39, sT_allHaveFloating_40, sT_allHaveFloating_42, sT_allHaveFloating_45, sT_allHaveFloating_48, sT_allHaveFloating_49, sT_allHaveFloating_50, sT_allHaveFloating_53, sT_allHaveFloating_56, sT_allHaveFloating_57, o0, o1, o4, o5, o8, o11, o16, o19, o22, o24, w0, w1, w4, w5, w8, w11, w14, w15, w16, w19, w22, w23, w24, w27, w28, k14, k15, k23, k27, k28, en_rdO_eq, en_rdI_eq, en_rdN_eq, en_rdL_eq, true_and, and_true, List.getElem?_cons_succ, List.getElem?_cons_zero, en_gv_eq, if_true, if_false, and_self, or_true, true_or, implies_true, List.length_cons, List.length_nil, Nat.reduceLT, Nat.reduceLeDiff, Nat.reduceAdd, Nat.zero_le, Option.toList_some, Option.toList_none, List.cons_append, List.nil_append, nI_1, rd_t, n1_0, n0_1, Bool.false_eq_true, false_implies, reduceCtorEq]
  exact loop (sp_tx S i).length 0 none (Nat.zero_add _)
theorem nd_lt (H : CS c x ci N r S) {i k : Nat} (hi : i < S.2.1.length) (hk : k < (sp_nd S i).length) : (sp_nd S i).getD k 0 < i := ((H.2.2.2.2.2.1 i hi).2.2.2.2.2.2.2.1 k hk).1
theorem cT_isNeeded {h : Nat} {hh : Int32} (H : CS c x ci N r S) (ho : S.2.2.1 = true) (hhh : hh = nI h) (hb : h < 1000) : en_call 3 mT_isNeeded [.ref 4, .int hh] c x u (some (.int (bi ((sp_nd S (sp_la S)).any (fun q => q == h))))) c x u := by
  obtain ⟨h1, h2, h3⟩ := cs_la H ho
  have hl := (cs_len H.2.1).2.1
  have hg := (cs_get H.2.1 (sp_la S)).2.1
  have HT := (cs_T H).2.1
  have hlen := (H.2.2.2.2.2.1 _ h1).2.2.1
  have H0 := H
  subst hhh
  have K1 := cR_size_in (u := u) (row := nI (sp_la S)) HT rfl (by rw [hl]; exact h1)
  rw [hg] at K1
  obtain ⟨o0, o1, o4, o5, o8, o11, o16, o19, o22, o24⟩ := cs_o H.1
  obtain ⟨w0, w1, w4, w5, w8, w11, w14, w15, w16, w19, w22, w23, w24, w27, w28⟩ := cs_b H.1.1
  obtain ⟨k14, k15, k23, k27, k28⟩ := H.1.2.2.2.1
  have loop : ∀ (n k : Nat), k + n = (sp_nd S (sp_la S)).length → en_W (en_call 2) mT_isNeeded 14 [some (.ref 4), some (.int (nI h)), some (.int (nI (sp_nd S (sp_la S)).length)), some (.int (nI k))] [] c x u (en_q (some (.int (bi (((sp_nd S (sp_la S)).drop k).any (fun q => q == h))))) c x u) := by
    intro n
    induction n with
    | zero =>
      intro k hk
      have hk : k = (sp_nd S (sp_la S)).length := by omega
      subst hk
      have e1 : nI (sp_nd S (sp_la S)).length ≤ nI (sp_nd S (sp_la S)).length := Int32.le_refl _
      rw [List.drop_length, sT_isNeeded_14]
      simp only [sT_isNeeded_0, sT_isNeeded_1, sT_isNeeded_4, sT_isNeeded_5, sT_isNeeded_8, sT_isNeeded_11, sT_isNeeded_12, sT_isNeeded_13, sT_isNeeded_15, sT_isNeeded_16, sT_isNeeded_19, sT_isNeeded_20, sT_isNeeded_23, sT_isNeeded_24, sT_isNeeded_27, sT_isNeeded_28, sT_isNeeded_31, sT_isNeeded_32, sT_isNeeded_35, sT_isNeeded_36, sT_isNeeded_37, sT_isNeeded_40, sT_isNeeded_43, sT_isNeeded_44, e1, en_rdO_eq, en_rdI_eq, en_rdN_eq, en_rdL_eq, true_and, and_true, List.getElem?_cons_succ, List.getElem?_cons_zero, en_gv_eq, if_true, if_false, and_self, or_true, true_or, implies_true, List.length_cons, List.length_nil, Nat.reduceLT, Nat.reduceLeDiff, Nat.reduceAdd, Nat.zero_le, Option.toList_some, Option.toList_none, List.cons_append, List.nil_append, nI_1, rd_t, n1_0, n0_1, Bool.false_eq_true, false_implies, reduceCtorEq, en_q]
      simp [bi]
    | succ n ih =>
      intro k hk
      have hklt : k < (sp_nd S (sp_la S)).length := by omega
      have e1 : ¬ nI (sp_nd S (sp_la S)).length ≤ nI k := nI_ge hklt (by omega)
      have K2 := cR_get_in (u := u) (row := nI (sp_la S)) (kk := nI k) HT rfl rfl (by rw [hl]; exact h1) (by rw [hg]; exact hklt)
      rw [hg] at K2
      have hlt := nd_lt H0 h1 hklt
      have IH := ih (k + 1) (by omega)
      have e2 : (nI ((sp_nd S (sp_la S)).getD k 0) = nI h) = ((sp_nd S (sp_la S)).getD k 0 = h) := propext (nI_eq (by omega) (by omega))
      rw [drop_getD hklt, sT_isNeeded_14, List.any_cons]
      simp only [sT_isNeeded_0, sT_isNeeded_1, sT_isNeeded_4, sT_isNeeded_5, sT_isNeeded_8, sT_isNeeded_11, sT_isNeeded_12, sT_isNeeded_13, sT_isNeeded_15, sT_isNeeded_16, sT_isNeeded_19, sT_isNeeded_20, sT_isNeeded_23, sT_isNeeded_24, sT_isNeeded_27, sT_isNeeded_28, sT_isNeeded_31, sT_isNeeded_32, sT_isNeeded_35, sT_isNeeded_36, sT_isNeeded_37, sT_isNeeded_40, sT_isNeeded_43, sT_isNeeded_44, e1, o0, o1, o4, o5, o8, o11, o16, o19, o22, o24, w0, w1, w4, w5, w8, w11, w14, w15, w16, w19, w22, w23, w24, w27, w28, k14, k15, k23, k27, k28, h3, en_rdO_eq, en_rdI_eq, en_rdN_eq, en_rdL_eq, true_and, and_true, List.getElem?_cons_succ, List.getElem?_cons_zero, en_gv_eq, if_true, if_false, and_self, or_true, true_or, implies_true, List.length_cons, List.length_nil, Nat.reduceLT, Nat.reduceLeDiff, Nat.reduceAdd, Nat.zero_le, Option.toList_some, Option.toList_none, List.cons_append, List.nil_append, nI_1, rd_t, n1_0, n0_1, Bool.false_eq_true, false_implies, reduceCtorEq]
      refine en_use (Nat.le_refl _) K2 ?_
      simp only [sT_isNeeded_0, sT_isNeeded_1, sT_isNeeded_4, sT_isNeeded_5, sT_isNeeded_8, sT_isNeeded_11, sT_isNeeded_12, sT_isNeeded_13, sT_isNeeded_15, sT_isNeeded_16, sT_isNeeded_19, sT_isNeeded_20, sT_isNeeded_23, sT_isNeeded_24, sT_isNeeded_27, sT_isNeeded_28, sT_isNeeded_31, sT_isNeeded_32, sT_isNeeded_35, sT_isNeeded_36, sT_isNeeded_37, sT_isNeeded_40, sT_isNeeded_43, sT_isNeeded_44, e2, en_rdO_eq, en_rdI_eq, en_rdN_eq, en_rdL_eq, true_and, and_true, List.getElem?_cons_succ, List.getElem?_cons_zero, en_gv_eq, if_true, if_false, and_self, or_true, true_or, implies_true, List.length_cons, List.length_nil, Nat.reduceLT, Nat.reduceLeDiff, Nat.reduceAdd, Nat.zero_le, Option.toList_some, Option.toList_none, List.cons_append, List.nil_append, nI_1, rd_t, n1_0, n0_1, Bool.false_eq_true, false_implies, reduceCtorEq]
      by_cases hq : (sp_nd S (sp_la S)).getD k 0 = h
      · simp only [hq, beq_self_eq_true, Bool.true_or, bi_t, en_rdO_eq, en_rdI_eq, en_rdN_eq, en_rdL_eq, true_and, and_true, List.getElem?_cons_succ, List.getElem?_cons_zero, en_gv_eq, if_true, if_false, and_self, or_true, true_or, implies_true, List.length_cons, List.length_nil, Nat.reduceLT, Nat.reduceLeDiff, Nat.reduceAdd, Nat.zero_le, Option.toList_some, Option.toList_none, List.cons_append, List.nil_append, nI_1, rd_t, n1_0, n0_1, Bool.false_eq_true, false_implies, reduceCtorEq, en_q]
      · have : ((sp_nd S (sp_la S)).getD k 0 == h) = false := by simpa using hq
        simp only [hq, this, Bool.false_or, en_rdO_eq, en_rdI_eq, en_rdN_eq, en_rdL_eq, true_and, and_true, List.getElem?_cons_succ, List.getElem?_cons_zero, en_gv_eq, if_true, if_false, and_self, or_true, true_or, implies_true, List.length_cons, List.length_nil, Nat.reduceLT, Nat.reduceLeDiff, Nat.reduceAdd, Nat.zero_le, Option.toList_some, Option.toList_none, List.cons_append, List.nil_append, nI_1, rd_t, n1_0, n0_1, Bool.false_eq_true, false_implies, reduceCtorEq]
        exact IH
  refine en_call_is (by decide) (Nat.le_of_ble_eq_true rfl) cat_2 ?_
  show en_W (en_call 2) mT_isNeeded 0 [some (.ref 4), some (.int (nI h)), none, none] [] c x u _
  simp only [sT_isNeeded_0, sT_isNeeded_1, sT_isNeeded_4, sT_isNeeded_5, sT_isNeeded_8, sT_isNeeded_11, sT_isNeeded_12, sT_isNeeded_13, sT_isNeeded_15, sT_isNeeded_16, sT_isNeeded_19, sT_isNeeded_20, sT_isNeeded_23, sT_isNeeded_24, sT_isNeeded_27, sT_isNeeded_28, sT_isNeeded_31, sT_isNeeded_32, sT_isNeeded_35, sT_isNeeded_36, sT_isNeeded_37, sT_isNeeded_40, sT_isNeeded_43, sT_isNeeded_44, o0, o1, o4, o5, o8, o11, o16, o19, o22, o24, w0, w1, w4, w5, w8, w11, w14, w15, w16, w19, w22, w23, w24, w27, w28, k14, k15, k23, k27, k28, h3, en_rdO_eq, en_rdI_eq, en_rdN_eq, en_rdL_eq, true_and, and_true, List.getElem?_cons_succ, List.getElem?_cons_zero, en_gv_eq, if_true, if_false, and_self, or_true, true_or, implies_true, List.length_cons, List.length_nil, Nat.reduceLT, Nat.reduceLeDiff, Nat.reduceAdd, Nat.zero_le, Option.toList_some, Option.toList_none, List.cons_append, List.nil_append, nI_1, rd_t, n1_0, n0_1, Bool.false_eq_true, false_implies, reduceCtorEq]
  refine en_use (Nat.le_refl _) K1 ?_
  simp only [sT_isNeeded_0, sT_isNeeded_1, sT_isNeeded_4, sT_isNeeded_5, sT_isNeeded_8, sT_isNeeded_11, sT_isNeeded_12, sT_isNeeded_13, sT_isNeeded_15, sT_isNeeded_16, sT_isNeeded_19, sT_isNeeded_20, sT_isNeeded_23, sT_isNeeded_24, sT_isNeeded_27, sT_isNeeded_28, sT_isNeeded_31, sT_isNeeded_32, sT_isNeeded_35, sT_isNeeded_36, sT_isNeeded_37, sT_isNeeded_40, sT_isNeeded_43, sT_isNeeded_44, o0, o1, o4, o5, o8, o11, o16, o19, o22, o24, w0, w1, w4, w5, w8, w11, w14, w15, w16, w19, w22, w23, w24, w27, w28, k14, k15, k23, k27, k28, en_rdO_eq, en_rdI_eq, en_rdN_eq, en_rdL_eq, true_and, and_true, List.getElem?_cons_succ, List.getElem?_cons_zero, en_gv_eq, if_true, if_false, and_self, or_true, true_or, implies_true, List.length_cons, List.length_nil, Nat.reduceLT, Nat.reduceLeDiff, Nat.reduceAdd, Nat.zero_le, Option.toList_some, Option.toList_none, List.cons_append, List.nil_append, nI_1, rd_t, n1_0, n0_1, Bool.false_eq_true, false_implies, reduceCtorEq]
  exact loop (sp_nd S (sp_la S)).length 0 (Nat.zero_add _)
theorem cT_mayStand {s : Nat} {ss : Int32} (H : CS c x ci N r S) (ho : S.2.2.1 = true) (hss : ss = nI s) (hs : s < S.1.length) : en_call 3 mT_mayStandNext [.ref 4, .int ss] c x u (some (.int (bi (sp_may S s)))) c x u := by
  obtain ⟨h1, h2, h3⟩ := cs_la H ho
  have hl := (cs_len H.2.1).1
  have hg := (cs_get H.2.1 (sp_la S)).1
  have HT := (cs_T H).1
  have hlen := (H.2.2.2.2.2.1 _ h1).2.1
  have hk := kd_le H h1
  have hvs := H.2.2.1
  subst hss
  have K1 := cR_size_in (u := u) (row := nI (sp_la S)) HT rfl (by rw [hl]; exact h1)
  rw [hg] at K1
  have K2 := cY_isCon_in (u := u) (ss := nI s) (cs_sy H) rfl hs
  have K3 := cT_kind_in (u := u) (ii := nI (sp_la S)) H rfl h1
  have K4 := cY_isVar_in (u := u) (ss := nI s) (cs_sy H) rfl hs
  obtain ⟨o0, o1, o4, o5, o8, o11, o16, o19, o22, o24⟩ := cs_o H.1
  obtain ⟨w0, w1, w4, w5, w8, w11, w14, w15, w16, w19, w22, w23, w24, w27, w28⟩ := cs_b H.1.1
  obtain ⟨k14, k15, k23, k27, k28⟩ := H.1.2.2.2.1
  have e1 : (nI (sp_tx S (sp_la S)).length = 0) = ((sp_tx S (sp_la S)).length = 0) := propext (nI_eq (b := 0) (by omega) (by omega))
  have e2 : (nI (sp_tx S (sp_la S)).length = 1) = ((sp_tx S (sp_la S)).length = 1) := propext (nI_eq (b := 1) (by omega) (by omega))
  have e3 : (nI (sp_kd S (sp_la S)) = 0) = (sp_kd S (sp_la S) = 0) := propext (nI_eq (b := 0) (by omega) (by omega))
  refine en_call_is (by decide) (Nat.le_of_ble_eq_true rfl) cat_2 ?_
  show en_W (en_call 2) mT_mayStandNext 0 [some (.ref 4), some (.int (nI s)), none] [] c x u _
  simp only [sT_mayStandNext_0, sT_mayStandNext_1, sT_mayStandNext_4, sT_mayStandNext_5, sT_mayStandNext_8, sT_mayStandNext_11, sT_mayStandNext_12, sT_mayStandNext_13, sT_mayStandNext_16, sT_mayStandNext_17, sT_mayStandNext_20, sT_mayStandNext_21, sT_mayStandNext_24, sT_mayStandNext_25, sT_mayStandNext_26, sT_mayStandNext_27, sT_mayStandNext_30, sT_mayStandNext_33, sT_mayStandNext_36, sT_mayStandNext_37, sT_mayStandNext_38, sT_mayStandNext_41, sT_mayStandNext_42, sT_mayStandNext_45, sT_mayStandNext_46, sT_mayStandNext_49, sT_mayStandNext_52, sT_mayStandNext_53, sT_mayStandNext_56, sT_mayStandNext_57, o0, o1, o4, o5, o8, o11, o16, o19, o22, o24, w0, w1, w4, w5, w8, w11, w14, w15, w16, w19, w22, w23, w24, w27, w28, k14, k15, k23, k27, k28, h3, en_rdO_eq, en_rdI_eq, en_rdN_eq, en_rdL_eq, true_and, and_true, List.getElem?_cons_succ, List.getElem?_cons_zero, en_gv_eq, if_true, if_false, and_self, or_true, true_or, implies_true, List.length_cons, List.length_nil, Nat.reduceLT, Nat.reduceLeDiff, Nat.reduceAdd, Nat.zero_le, Option.toList_some, Option.toList_none, List.cons_append, List.nil_append, nI_1, rd_t, n1_0, n0_1, Bool.false_eq_true, false_implies, reduceCtorEq]
  refine en_use (Nat.le_refl _) K1 ?_
  have hv : sp_var S s = S.1.getD s false := rfl
  by_cases q0 : (sp_tx S (sp_la S)).length = 0
  · simp only [sT_mayStandNext_0, sT_mayStandNext_1, sT_mayStandNext_4, sT_mayStandNext_5, sT_mayStandNext_8, sT_mayStandNext_11, sT_mayStandNext_12, sT_mayStandNext_13, sT_mayStandNext_16, sT_mayStandNext_17, sT_mayStandNext_20, sT_mayStandNext_21, sT_mayStandNext_24, sT_mayStandNext_25, sT_mayStandNext_26, sT_mayStandNext_27, sT_mayStandNext_30, sT_mayStandNext_33, sT_mayStandNext_36, sT_mayStandNext_37, sT_mayStandNext_38, sT_mayStandNext_41, sT_mayStandNext_42, sT_mayStandNext_45, sT_mayStandNext_46, sT_mayStandNext_49, sT_mayStandNext_52, sT_mayStandNext_53, sT_mayStandNext_56, sT_mayStandNext_57, o0, o1, o4, o5, o8, o11, o16, o19, o22, o24, w0, w1, w4, w5, w8, w11, w14, w15, w16, w19, w22, w23, w24, w27, w28, k14, k15, k23, k27, k28, e1, q0, nI_0, nI_one, nI_two, eq_self, en_rdO_eq, en_rdI_eq, en_rdN_eq, en_rdL_eq, true_and, and_true, List.getElem?_cons_succ, List.getElem?_cons_zero, en_gv_eq, if_true, if_false, and_self, or_true, true_or, implies_true, List.length_cons, List.length_nil, Nat.reduceLT, Nat.reduceLeDiff, Nat.reduceAdd, Nat.zero_le, Option.toList_some, Option.toList_none, List.cons_append, List.nil_append, nI_1, rd_t, n1_0, n0_1, Bool.false_eq_true, false_implies, reduceCtorEq]
    refine en_use (by decide) K2 ?_
    simp only [sT_mayStandNext_0, sT_mayStandNext_1, sT_mayStandNext_4, sT_mayStandNext_5, sT_mayStandNext_8, sT_mayStandNext_11, sT_mayStandNext_12, sT_mayStandNext_13, sT_mayStandNext_16, sT_mayStandNext_17, sT_mayStandNext_20, sT_mayStandNext_21, sT_mayStandNext_24, sT_mayStandNext_25, sT_mayStandNext_26, sT_mayStandNext_27, sT_mayStandNext_30, sT_mayStandNext_33, sT_mayStandNext_36, sT_mayStandNext_37, sT_mayStandNext_38, sT_mayStandNext_41, sT_mayStandNext_42, sT_mayStandNext_45, sT_mayStandNext_46, sT_mayStandNext_49, sT_mayStandNext_52, sT_mayStandNext_53, sT_mayStandNext_56, sT_mayStandNext_57, bi_01, en_rdO_eq, en_rdI_eq, en_rdN_eq, en_rdL_eq, true_and, and_true, List.getElem?_cons_succ, List.getElem?_cons_zero, en_gv_eq, if_true, if_false, and_self, or_true, true_or, implies_true, List.length_cons, List.length_nil, Nat.reduceLT, Nat.reduceLeDiff, Nat.reduceAdd, Nat.zero_le, Option.toList_some, Option.toList_none, List.cons_append, List.nil_append, nI_1, rd_t, n1_0, n0_1, Bool.false_eq_true, false_implies, reduceCtorEq, en_q]
    unfold sp_may
    rw [q0, hv]
    rfl
  · simp only [sT_mayStandNext_0, sT_mayStandNext_1, sT_mayStandNext_4, sT_mayStandNext_5, sT_mayStandNext_8, sT_mayStandNext_11, sT_mayStandNext_12, sT_mayStandNext_13, sT_mayStandNext_16, sT_mayStandNext_17, sT_mayStandNext_20, sT_mayStandNext_21, sT_mayStandNext_24, sT_mayStandNext_25, sT_mayStandNext_26, sT_mayStandNext_27, sT_mayStandNext_30, sT_mayStandNext_33, sT_mayStandNext_36, sT_mayStandNext_37, sT_mayStandNext_38, sT_mayStandNext_41, sT_mayStandNext_42, sT_mayStandNext_45, sT_mayStandNext_46, sT_mayStandNext_49, sT_mayStandNext_52, sT_mayStandNext_53, sT_mayStandNext_56, sT_mayStandNext_57, o0, o1, o4, o5, o8, o11, o16, o19, o22, o24, w0, w1, w4, w5, w8, w11, w14, w15, w16, w19, w22, w23, w24, w27, w28, k14, k15, k23, k27, k28, e1, q0, h3, en_rdO_eq, en_rdI_eq, en_rdN_eq, en_rdL_eq, true_and, and_true, List.getElem?_cons_succ, List.getElem?_cons_zero, en_gv_eq, if_true, if_false, and_self, or_true, true_or, implies_true, List.length_cons, List.length_nil, Nat.reduceLT, Nat.reduceLeDiff, Nat.reduceAdd, Nat.zero_le, Option.toList_some, Option.toList_none, List.cons_append, List.nil_append, nI_1, rd_t, n1_0, n0_1, Bool.false_eq_true, false_implies, reduceCtorEq]
    refine en_use (Nat.le_refl _) K3 ?_
    by_cases q1 : sp_kd S (sp_la S) = 0
    · by_cases q2 : (sp_tx S (sp_la S)).length = 1
      · simp only [sT_mayStandNext_0, sT_mayStandNext_1, sT_mayStandNext_4, sT_mayStandNext_5, sT_mayStandNext_8, sT_mayStandNext_11, sT_mayStandNext_12, sT_mayStandNext_13, sT_mayStandNext_16, sT_mayStandNext_17, sT_mayStandNext_20, sT_mayStandNext_21, sT_mayStandNext_24, sT_mayStandNext_25, sT_mayStandNext_26, sT_mayStandNext_27, sT_mayStandNext_30, sT_mayStandNext_33, sT_mayStandNext_36, sT_mayStandNext_37, sT_mayStandNext_38, sT_mayStandNext_41, sT_mayStandNext_42, sT_mayStandNext_45, sT_mayStandNext_46, sT_mayStandNext_49, sT_mayStandNext_52, sT_mayStandNext_53, sT_mayStandNext_56, sT_mayStandNext_57, o0, o1, o4, o5, o8, o11, o16, o19, o22, o24, w0, w1, w4, w5, w8, w11, w14, w15, w16, w19, w22, w23, w24, w27, w28, k14, k15, k23, k27, k28, e2, e3, q1, q2, nI_0, nI_one, nI_two, eq_self, en_rdO_eq, en_rdI_eq, en_rdN_eq, en_rdL_eq, true_and, and_true, List.getElem?_cons_succ, List.getElem?_cons_zero, en_gv_eq, if_true, if_false, and_self, or_true, true_or, implies_true, List.length_cons, List.length_nil, Nat.reduceLT, Nat.reduceLeDiff, Nat.reduceAdd, Nat.zero_le, Option.toList_some, Option.toList_none, List.cons_append, List.nil_append, nI_1, rd_t, n1_0, n0_1, Bool.false_eq_true, false_implies, reduceCtorEq]
        refine en_use (by decide) K4 ?_
        have hm : sp_may S s = S.1.getD s false := by unfold sp_may; rw [q2, q1, hv]; rfl
        rw [hm]
        cases S.1.getD s false <;> simp only [sT_mayStandNext_0, sT_mayStandNext_1, sT_mayStandNext_4, sT_mayStandNext_5, sT_mayStandNext_8, sT_mayStandNext_11, sT_mayStandNext_12, sT_mayStandNext_13, sT_mayStandNext_16, sT_mayStandNext_17, sT_mayStandNext_20, sT_mayStandNext_21, sT_mayStandNext_24, sT_mayStandNext_25, sT_mayStandNext_26, sT_mayStandNext_27, sT_mayStandNext_30, sT_mayStandNext_33, sT_mayStandNext_36, sT_mayStandNext_37, sT_mayStandNext_38, sT_mayStandNext_41, sT_mayStandNext_42, sT_mayStandNext_45, sT_mayStandNext_46, sT_mayStandNext_49, sT_mayStandNext_52, sT_mayStandNext_53, sT_mayStandNext_56, sT_mayStandNext_57, bi_t, bi_f, en_rdO_eq, en_rdI_eq, en_rdN_eq, en_rdL_eq, true_and, and_true, List.getElem?_cons_succ, List.getElem?_cons_zero, en_gv_eq, if_true, if_false, and_self, or_true, true_or, implies_true, List.length_cons, List.length_nil, Nat.reduceLT, Nat.reduceLeDiff, Nat.reduceAdd, Nat.zero_le, Option.toList_some, Option.toList_none, List.cons_append, List.nil_append, nI_1, rd_t, n1_0, n0_1, Bool.false_eq_true, false_implies, reduceCtorEq, en_q]
      · have hm : sp_may S s = false := by
          unfold sp_may
          split
          · contradiction
          · contradiction
          · rw [q1]; rfl
        simp only [sT_mayStandNext_0, sT_mayStandNext_1, sT_mayStandNext_4, sT_mayStandNext_5, sT_mayStandNext_8, sT_mayStandNext_11, sT_mayStandNext_12, sT_mayStandNext_13, sT_mayStandNext_16, sT_mayStandNext_17, sT_mayStandNext_20, sT_mayStandNext_21, sT_mayStandNext_24, sT_mayStandNext_25, sT_mayStandNext_26, sT_mayStandNext_27, sT_mayStandNext_30, sT_mayStandNext_33, sT_mayStandNext_36, sT_mayStandNext_37, sT_mayStandNext_38, sT_mayStandNext_41, sT_mayStandNext_42, sT_mayStandNext_45, sT_mayStandNext_46, sT_mayStandNext_49, sT_mayStandNext_52, sT_mayStandNext_53, sT_mayStandNext_56, sT_mayStandNext_57, o0, o1, o4, o5, o8, o11, o16, o19, o22, o24, w0, w1, w4, w5, w8, w11, w14, w15, w16, w19, w22, w23, w24, w27, w28, k14, k15, k23, k27, k28, e2, e3, q1, q2, hm, bi_f, nI_0, nI_one, nI_two, eq_self, en_rdO_eq, en_rdI_eq, en_rdN_eq, en_rdL_eq, true_and, and_true, List.getElem?_cons_succ, List.getElem?_cons_zero, en_gv_eq, if_true, if_false, and_self, or_true, true_or, implies_true, List.length_cons, List.length_nil, Nat.reduceLT, Nat.reduceLeDiff, Nat.reduceAdd, Nat.zero_le, Option.toList_some, Option.toList_none, List.cons_append, List.nil_append, nI_1, rd_t, n1_0, n0_1, Bool.false_eq_true, false_implies, reduceCtorEq, en_q]
    · have hb : (sp_kd S (sp_la S) != 0) = true := by simpa using q1
      have hm : sp_may S s = true := by
        unfold sp_may
        split
        · contradiction
        · rw [hb]; rfl
        · exact hb
      simp only [sT_mayStandNext_0, sT_mayStandNext_1, sT_mayStandNext_4, sT_mayStandNext_5, sT_mayStandNext_8, sT_mayStandNext_11, sT_mayStandNext_12, sT_mayStandNext_13, sT_mayStandNext_16, sT_mayStandNext_17, sT_mayStandNext_20, sT_mayStandNext_21, sT_mayStandNext_24, sT_mayStandNext_25, sT_mayStandNext_26, sT_mayStandNext_27, sT_mayStandNext_30, sT_mayStandNext_33, sT_mayStandNext_36, sT_mayStandNext_37, sT_mayStandNext_38, sT_mayStandNext_41, sT_mayStandNext_42, sT_mayStandNext_45, sT_mayStandNext_46, sT_mayStandNext_49, sT_mayStandNext_52, sT_mayStandNext_53, sT_mayStandNext_56, sT_mayStandNext_57, e3, q1, hm, bi_t, en_rdO_eq, en_rdI_eq, en_rdN_eq, en_rdL_eq, true_and, and_true, List.getElem?_cons_succ, List.getElem?_cons_zero, en_gv_eq, if_true, if_false, and_self, or_true, true_or, implies_true, List.length_cons, List.length_nil, Nat.reduceLT, Nat.reduceLeDiff, Nat.reduceAdd, Nat.zero_le, Option.toList_some, Option.toList_none, List.cons_append, List.nil_append, nI_1, rd_t, n1_0, n0_1, Bool.false_eq_true, false_implies, reduceCtorEq, en_q]
theorem cT_isWhole (H : CS c x ci N r S) (ho : S.2.2.1 = true) : en_call 4 mT_isWhole [.ref 4] c x u (some (.int (bi (sp_fine S)))) c x u := by
  obtain ⟨h1, h2, h3⟩ := cs_la H ho
  have hl := (cs_len H.2.1).1
  have hg := (cs_get H.2.1 (sp_la S)).1
  have HT := (cs_T H).1
  have hlen := (H.2.2.2.2.2.1 _ h1).2.1
  have hk := kd_le H h1
  have K1 := cR_size_in (u := u) (row := nI (sp_la S)) HT rfl (by rw [hl]; exact h1)
  rw [hg] at K1
  have K3 := cT_kind_in (u := u) (ii := nI (sp_la S)) H rfl h1
  have K4 := cT_allFl (u := u) (ii := nI (sp_la S)) H ho rfl h1
  obtain ⟨o0, o1, o4, o5, o8, o11, o16, o19, o22, o24⟩ := cs_o H.1
  obtain ⟨w0, w1, w4, w5, w8, w11, w14, w15, w16, w19, w22, w23, w24, w27, w28⟩ := cs_b H.1.1
  obtain ⟨k14, k15, k23, k27, k28⟩ := H.1.2.2.2.1
  have e1 : (nI (sp_tx S (sp_la S)).length = 2) = ((sp_tx S (sp_la S)).length = 2) := propext (nI_eq (b := 2) (by omega) (by omega))
  have e2 : (nI (sp_tx S (sp_la S)).length ≤ 0) = ((sp_tx S (sp_la S)).length ≤ 0) := propext (nI_leI (b := 0) (by omega) (by omega))
  refine en_call_is (by decide) (Nat.le_of_ble_eq_true rfl) cat_1 ?_
  show en_W (en_call 3) mT_isWhole 0 [some (.ref 4), none] [] c x u _
  simp only [sT_isWhole_0, sT_isWhole_1, sT_isWhole_4, sT_isWhole_5, sT_isWhole_8, sT_isWhole_11, sT_isWhole_12, sT_isWhole_13, sT_isWhole_14, sT_isWhole_17, sT_isWhole_20_0, sT_isWhole_20_n0, sT_isWhole_20_1, sT_isWhole_20_n1, sT_isWhole_20_2, sT_isWhole_20_n2, sT_isWhole_20_3, sT_isWhole_20_n3, sT_isWhole_48, sT_isWhole_49, sT_isWhole_50, sT_isWhole_53, sT_isWhole_54, sT_isWhole_57, sT_isWhole_58, sT_isWhole_59, sT_isWhole_60, sT_isWhole_63, sT_isWhole_64, sT_isWhole_65, sT_isWhole_68, sT_isWhole_71, sT_isWhole_74, sT_isWhole_75, sT_isWhole_78, sT_isWhole_79, sT_isWhole_80, sT_isWhole_81, sT_isWhole_84, sT_isWhole_85, sT_isWhole_88, sT_isWhole_89, o0, o1, o4, o5, o8, o11, o16, o19, o22, o24, w0, w1, w4, w5, w8, w11, w14, w15, w16, w19, w22, w23, w24, w27, w28, k14, k15, k23, k27, k28, h3, en_rdO_eq, en_rdI_eq, en_rdN_eq, en_rdL_eq, true_and, and_true, List.getElem?_cons_succ, List.getElem?_cons_zero, en_gv_eq, if_true, if_false, and_self, or_true, true_or, implies_true, List.length_cons, List.length_nil, Nat.reduceLT, Nat.reduceLeDiff, Nat.reduceAdd, Nat.zero_le, Option.toList_some, Option.toList_none, List.cons_append, List.nil_append, nI_1, rd_t, n1_0, n0_1, Bool.false_eq_true, false_implies, reduceCtorEq]
  refine en_use (by decide) K1 ?_
  simp only [sT_isWhole_0, sT_isWhole_1, sT_isWhole_4, sT_isWhole_5, sT_isWhole_8, sT_isWhole_11, sT_isWhole_12, sT_isWhole_13, sT_isWhole_14, sT_isWhole_17, sT_isWhole_20_0, sT_isWhole_20_n0, sT_isWhole_20_1, sT_isWhole_20_n1, sT_isWhole_20_2, sT_isWhole_20_n2, sT_isWhole_20_3, sT_isWhole_20_n3, sT_isWhole_48, sT_isWhole_49, sT_isWhole_50, sT_isWhole_53, sT_isWhole_54, sT_isWhole_57, sT_isWhole_58, sT_isWhole_59, sT_isWhole_60, sT_isWhole_63, sT_isWhole_64, sT_isWhole_65, sT_isWhole_68, sT_isWhole_71, sT_isWhole_74, sT_isWhole_75, sT_isWhole_78, sT_isWhole_79, sT_isWhole_80, sT_isWhole_81, sT_isWhole_84, sT_isWhole_85, sT_isWhole_88, sT_isWhole_89, o0, o1, o4, o5, o8, o11, o16, o19, o22, o24, w0, w1, w4, w5, w8, w11, w14, w15, w16, w19, w22, w23, w24, w27, w28, k14, k15, k23, k27, k28, h3, en_rdO_eq, en_rdI_eq, en_rdN_eq, en_rdL_eq, true_and, and_true, List.getElem?_cons_succ, List.getElem?_cons_zero, en_gv_eq, if_true, if_false, and_self, or_true, true_or, implies_true, List.length_cons, List.length_nil, Nat.reduceLT, Nat.reduceLeDiff, Nat.reduceAdd, Nat.zero_le, Option.toList_some, Option.toList_none, List.cons_append, List.nil_append, nI_1, rd_t, n1_0, n0_1, Bool.false_eq_true, false_implies, reduceCtorEq]
  refine en_use (by decide) K3 ?_
  unfold sp_fine
  rcases (show sp_kd S (sp_la S) = 0 ∨ sp_kd S (sp_la S) = 1 ∨ sp_kd S (sp_la S) = 2 by omega) with q | q | q
  · rw [q]
    by_cases q2 : (sp_tx S (sp_la S)).length = 2
    · simp only [sT_isWhole_0, sT_isWhole_1, sT_isWhole_4, sT_isWhole_5, sT_isWhole_8, sT_isWhole_11, sT_isWhole_12, sT_isWhole_13, sT_isWhole_14, sT_isWhole_17, sT_isWhole_20_0, sT_isWhole_20_n0, sT_isWhole_20_1, sT_isWhole_20_n1, sT_isWhole_20_2, sT_isWhole_20_n2, sT_isWhole_20_3, sT_isWhole_20_n3, sT_isWhole_48, sT_isWhole_49, sT_isWhole_50, sT_isWhole_53, sT_isWhole_54, sT_isWhole_57, sT_isWhole_58, sT_isWhole_59, sT_isWhole_60, sT_isWhole_63, sT_isWhole_64, sT_isWhole_65, sT_isWhole_68, sT_isWhole_71, sT_isWhole_74, sT_isWhole_75, sT_isWhole_78, sT_isWhole_79, sT_isWhole_80, sT_isWhole_81, sT_isWhole_84, sT_isWhole_85, sT_isWhole_88, sT_isWhole_89, e1, q2, beq_self_eq_true, bi_t, nI_0, nI_one, nI_two, eq_self, en_rdO_eq, en_rdI_eq, en_rdN_eq, en_rdL_eq, true_and, and_true, List.getElem?_cons_succ, List.getElem?_cons_zero, en_gv_eq, if_true, if_false, and_self, or_true, true_or, implies_true, List.length_cons, List.length_nil, Nat.reduceLT, Nat.reduceLeDiff, Nat.reduceAdd, Nat.zero_le, Option.toList_some, Option.toList_none, List.cons_append, List.nil_append, nI_1, rd_t, n1_0, n0_1, Bool.false_eq_true, false_implies, reduceCtorEq, en_q]
    · have : ((sp_tx S (sp_la S)).length == 2) = false := by simpa using q2
      simp only [sT_isWhole_0, sT_isWhole_1, sT_isWhole_4, sT_isWhole_5, sT_isWhole_8, sT_isWhole_11, sT_isWhole_12, sT_isWhole_13, sT_isWhole_14, sT_isWhole_17, sT_isWhole_20_0, sT_isWhole_20_n0, sT_isWhole_20_1, sT_isWhole_20_n1, sT_isWhole_20_2, sT_isWhole_20_n2, sT_isWhole_20_3, sT_isWhole_20_n3, sT_isWhole_48, sT_isWhole_49, sT_isWhole_50, sT_isWhole_53, sT_isWhole_54, sT_isWhole_57, sT_isWhole_58, sT_isWhole_59, sT_isWhole_60, sT_isWhole_63, sT_isWhole_64, sT_isWhole_65, sT_isWhole_68, sT_isWhole_71, sT_isWhole_74, sT_isWhole_75, sT_isWhole_78, sT_isWhole_79, sT_isWhole_80, sT_isWhole_81, sT_isWhole_84, sT_isWhole_85, sT_isWhole_88, sT_isWhole_89, e1, q2, this, bi_f, en_rdO_eq, en_rdI_eq, en_rdN_eq, en_rdL_eq, true_and, and_true, List.getElem?_cons_succ, List.getElem?_cons_zero, en_gv_eq, if_true, if_false, and_self, or_true, true_or, implies_true, List.length_cons, List.length_nil, Nat.reduceLT, Nat.reduceLeDiff, Nat.reduceAdd, Nat.zero_le, Option.toList_some, Option.toList_none, List.cons_append, List.nil_append, nI_1, rd_t, n1_0, n0_1, Bool.false_eq_true, false_implies, reduceCtorEq, en_q]
  · rw [q]
    by_cases q2 : (sp_tx S (sp_la S)).length ≤ 0
    · have : decide (0 < (sp_tx S (sp_la S)).length) = false := decide_eq_false (by omega)
      simp only [sT_isWhole_0, sT_isWhole_1, sT_isWhole_4, sT_isWhole_5, sT_isWhole_8, sT_isWhole_11, sT_isWhole_12, sT_isWhole_13, sT_isWhole_14, sT_isWhole_17, sT_isWhole_20_0, sT_isWhole_20_n0, sT_isWhole_20_1, sT_isWhole_20_n1, sT_isWhole_20_2, sT_isWhole_20_n2, sT_isWhole_20_3, sT_isWhole_20_n3, sT_isWhole_48, sT_isWhole_49, sT_isWhole_50, sT_isWhole_53, sT_isWhole_54, sT_isWhole_57, sT_isWhole_58, sT_isWhole_59, sT_isWhole_60, sT_isWhole_63, sT_isWhole_64, sT_isWhole_65, sT_isWhole_68, sT_isWhole_71, sT_isWhole_74, sT_isWhole_75, sT_isWhole_78, sT_isWhole_79, sT_isWhole_80, sT_isWhole_81, sT_isWhole_84, sT_isWhole_85, sT_isWhole_88, sT_isWhole_89, e2, q2, this, bi_f, en_rdO_eq, en_rdI_eq, en_rdN_eq, en_rdL_eq, true_and, and_true, List.getElem?_cons_succ, List.getElem?_cons_zero, en_gv_eq, if_true, if_false, and_self, or_true, true_or, implies_true, List.length_cons, List.length_nil, Nat.reduceLT, Nat.reduceLeDiff, Nat.reduceAdd, Nat.zero_le, Option.toList_some, Option.toList_none, List.cons_append, List.nil_append, nI_1, rd_t, n1_0, n0_1, Bool.false_eq_true, false_implies, reduceCtorEq, en_q]
    · have : decide (0 < (sp_tx S (sp_la S)).length) = true := decide_eq_true (by omega)
      simp only [sT_isWhole_0, sT_isWhole_1, sT_isWhole_4, sT_isWhole_5, sT_isWhole_8, sT_isWhole_11, sT_isWhole_12, sT_isWhole_13, sT_isWhole_14, sT_isWhole_17, sT_isWhole_20_0, sT_isWhole_20_n0, sT_isWhole_20_1, sT_isWhole_20_n1, sT_isWhole_20_2, sT_isWhole_20_n2, sT_isWhole_20_3, sT_isWhole_20_n3, sT_isWhole_48, sT_isWhole_49, sT_isWhole_50, sT_isWhole_53, sT_isWhole_54, sT_isWhole_57, sT_isWhole_58, sT_isWhole_59, sT_isWhole_60, sT_isWhole_63, sT_isWhole_64, sT_isWhole_65, sT_isWhole_68, sT_isWhole_71, sT_isWhole_74, sT_isWhole_75, sT_isWhole_78, sT_isWhole_79, sT_isWhole_80, sT_isWhole_81, sT_isWhole_84, sT_isWhole_85, sT_isWhole_88, sT_isWhole_89, e2, q2, this, bi_t, en_rdO_eq, en_rdI_eq, en_rdN_eq, en_rdL_eq, true_and, and_true, List.getElem?_cons_succ, List.getElem?_cons_zero, en_gv_eq, if_true, if_false, and_self, or_true, true_or, implies_true, List.length_cons, List.length_nil, Nat.reduceLT, Nat.reduceLeDiff, Nat.reduceAdd, Nat.zero_le, Option.toList_some, Option.toList_none, List.cons_append, List.nil_append, nI_1, rd_t, n1_0, n0_1, Bool.false_eq_true, false_implies, reduceCtorEq, en_q]
  · rw [q]
    by_cases q2 : (sp_tx S (sp_la S)).length ≤ 0
    · have : decide (0 < (sp_tx S (sp_la S)).length) = false := decide_eq_false (by omega)
      simp only [sT_isWhole_0, sT_isWhole_1, sT_isWhole_4, sT_isWhole_5, sT_isWhole_8, sT_isWhole_11, sT_isWhole_12, sT_isWhole_13, sT_isWhole_14, sT_isWhole_17, sT_isWhole_20_0, sT_isWhole_20_n0, sT_isWhole_20_1, sT_isWhole_20_n1, sT_isWhole_20_2, sT_isWhole_20_n2, sT_isWhole_20_3, sT_isWhole_20_n3, sT_isWhole_48, sT_isWhole_49, sT_isWhole_50, sT_isWhole_53, sT_isWhole_54, sT_isWhole_57, sT_isWhole_58, sT_isWhole_59, sT_isWhole_60, sT_isWhole_63, sT_isWhole_64, sT_isWhole_65, sT_isWhole_68, sT_isWhole_71, sT_isWhole_74, sT_isWhole_75, sT_isWhole_78, sT_isWhole_79, sT_isWhole_80, sT_isWhole_81, sT_isWhole_84, sT_isWhole_85, sT_isWhole_88, sT_isWhole_89, e2, q2, this, Bool.false_and, bi_f, en_rdO_eq, en_rdI_eq, en_rdN_eq, en_rdL_eq, true_and, and_true, List.getElem?_cons_succ, List.getElem?_cons_zero, en_gv_eq, if_true, if_false, and_self, or_true, true_or, implies_true, List.length_cons, List.length_nil, Nat.reduceLT, Nat.reduceLeDiff, Nat.reduceAdd, Nat.zero_le, Option.toList_some, Option.toList_none, List.cons_append, List.nil_append, nI_1, rd_t, n1_0, n0_1, Bool.false_eq_true, false_implies, reduceCtorEq, en_q]
    · have : decide (0 < (sp_tx S (sp_la S)).length) = true := decide_eq_true (by omega)
      simp only [sT_isWhole_0, sT_isWhole_1, sT_isWhole_4, sT_isWhole_5, sT_isWhole_8, sT_isWhole_11, sT_isWhole_12, sT_isWhole_13, sT_isWhole_14, sT_isWhole_17, sT_isWhole_20_0, sT_isWhole_20_n0, sT_isWhole_20_1, sT_isWhole_20_n1, sT_isWhole_20_2, sT_isWhole_20_n2, sT_isWhole_20_3, sT_isWhole_20_n3, sT_isWhole_48, sT_isWhole_49, sT_isWhole_50, sT_isWhole_53, sT_isWhole_54, sT_isWhole_57, sT_isWhole_58, sT_isWhole_59, sT_isWhole_60, sT_isWhole_63, sT_isWhole_64, sT_isWhole_65, sT_isWhole_68, sT_isWhole_71, sT_isWhole_74, sT_isWhole_75, sT_isWhole_78, sT_isWhole_79, sT_isWhole_80, sT_isWhole_81, sT_isWhole_84, sT_isWhole_85, sT_isWhole_88, sT_isWhole_89, o0, o1, o4, o5, o8, o11, o16, o19, o22, o24, w0, w1, w4, w5, w8, w11, w14, w15, w16, w19, w22, w23, w24, w27, w28, k14, k15, k23, k27, k28, h3, e2, q2, this, Bool.true_and, en_rdO_eq, en_rdI_eq, en_rdN_eq, en_rdL_eq, true_and, and_true, List.getElem?_cons_succ, List.getElem?_cons_zero, en_gv_eq, if_true, if_false, and_self, or_true, true_or, implies_true, List.length_cons, List.length_nil, Nat.reduceLT, Nat.reduceLeDiff, Nat.reduceAdd, Nat.zero_le, Option.toList_some, Option.toList_none, List.cons_append, List.nil_append, nI_1, rd_t, n1_0, n0_1, Bool.false_eq_true, false_implies, reduceCtorEq]
      refine en_use (Nat.le_refl _) K4 ?_
      cases sp_all S (sp_nd S (sp_la S)) (sp_tx S (sp_la S)) <;> simp only [sT_isWhole_0, sT_isWhole_1, sT_isWhole_4, sT_isWhole_5, sT_isWhole_8, sT_isWhole_11, sT_isWhole_12, sT_isWhole_13, sT_isWhole_14, sT_isWhole_17, sT_isWhole_20_0, sT_isWhole_20_n0, sT_isWhole_20_1, sT_isWhole_20_n1, sT_isWhole_20_2, sT_isWhole_20_n2, sT_isWhole_20_3, sT_isWhole_20_n3, sT_isWhole_48, sT_isWhole_49, sT_isWhole_50, sT_isWhole_53, sT_isWhole_54, sT_isWhole_57, sT_isWhole_58, sT_isWhole_59, sT_isWhole_60, sT_isWhole_63, sT_isWhole_64, sT_isWhole_65, sT_isWhole_68, sT_isWhole_71, sT_isWhole_74, sT_isWhole_75, sT_isWhole_78, sT_isWhole_79, sT_isWhole_80, sT_isWhole_81, sT_isWhole_84, sT_isWhole_85, sT_isWhole_88, sT_isWhole_89, bi_t, bi_f, en_rdO_eq, en_rdI_eq, en_rdN_eq, en_rdL_eq, true_and, and_true, List.getElem?_cons_succ, List.getElem?_cons_zero, en_gv_eq, if_true, if_false, and_self, or_true, true_or, implies_true, List.length_cons, List.length_nil, Nat.reduceLT, Nat.reduceLeDiff, Nat.reduceAdd, Nat.zero_le, Option.toList_some, Option.toList_none, List.cons_append, List.nil_append, nI_1, rd_t, n1_0, n0_1, Bool.false_eq_true, false_implies, reduceCtorEq, en_q]
end TD
