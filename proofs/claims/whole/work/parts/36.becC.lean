/-! StepPile$Becoming: what variables become, in one step -/
theorem cat_l {a b : Nat} {c d : Int32} : ∀ v ∈ ([.ref a, .ref b, .int c, .int d] : List Value), v.category = 1 := cat_p
def r_setB (r : cr_T) (rf : Nat → Int32) : cr_T := (r.1, r.2.1, r.2.2.1, (r.2.2.2.1.1, r.2.2.2.1.2.1, rf, r.2.2.2.1.2.2.2), r.2.2.2.2)
def r_setM (r : cr_T) (mf : Nat → Int32) : cr_T := (r.1, r.2.1, r.2.2.1, r.2.2.2.1, mf)
section BC
variable {c : en_H} {x u : Nat} {ci N : Nat → Nat} {r : cr_T} {S : sp_S}
theorem cr_setB (H : cr_at c x ci N r) (rf : Nat → Int32) : cr_at (en_up c 23 (.inl (0, 1000, .inl rf))) x ci N (r_setB r rf) ∧ cs_fr c (en_up c 23 (.inl (0, 1000, .inl rf))) := by
  have H0 := H
  obtain ⟨g1, g2, ⟨g3, g4, g5⟩, ⟨g6, g7, g8, g9, g10⟩, -⟩ := H
  refine cr_cells H0 rfl (fun a ha => en_up_n (by omega)) H0.2.2.2.2.2.2.2 (sy_keep g2 (Nat.le_refl _) (en_up_n (by omega)) (en_up_n (by omega)) (en_up_n (by omega))) (en_up_n (by omega)) ?_ ?_ ?_ ?_ ?_ ?_ ?_
  · rw [en_up_n (by omega)]; exact g4
  · rw [en_up_n (by omega)]; exact g5
  · rw [en_up_n (by omega)]; exact g6
  · rw [en_up_n (by omega)]; exact g7
  · exact en_up_s _ _ _
  · rw [en_up_n (by omega)]; exact g9
  · rw [en_up_n (by omega)]; exact g10
theorem cr_setM (H : cr_at c x ci N r) (mf : Nat → Int32) : cr_at (en_up c 28 (.inl (0, 1000, .inl mf))) x ci N (r_setM r mf) ∧ cs_fr c (en_up c 28 (.inl (0, 1000, .inl mf))) := by
  have H0 := H
  obtain ⟨g1, g2, ⟨g3, g4, g5⟩, ⟨g6, g7, g8, g9, g10⟩, -⟩ := H
  refine cr_cells H0 rfl (fun a ha => en_up_n (by omega)) H0.2.2.2.2.2.2.2 (sy_keep g2 (Nat.le_refl _) (en_up_n (by omega)) (en_up_n (by omega)) (en_up_n (by omega))) (en_up_n (by omega)) ?_ ?_ ?_ ?_ ?_ ?_ ?_
  · rw [en_up_n (by omega)]; exact g4
  · rw [en_up_n (by omega)]; exact g5
  · rw [en_up_n (by omega)]; exact g6
  · rw [en_up_n (by omega)]; exact g7
  · rw [en_up_n (by omega)]; exact g8
  · rw [en_up_n (by omega)]; exact g9
  · exact en_up_s _ _ _
theorem cB_rowFor {s : Nat} {ss : Int32} (H : CS c x ci N r S) (hss : ss = nI s) (hs : s < S.1.length) (hv : S.1.getD s false = true) : en_call 2 mB_rowFor [.ref 22, .int ss] c x u (some (.int (r_rf r s))) c x u := by
  have K1 := cY_isVar_in (u := u) (ss := ss) (cs_sy H) hss hs
  rw [hv] at K1
  have hvs := H.2.2.1
  subst hss
  obtain ⟨o0, o1, o4, o5, o8, o11, o16, o19, o22, o24⟩ := cs_o H.1
  obtain ⟨w0, w1, w4, w5, w8, w11, w14, w15, w16, w19, w22, w23, w24, w27, w28⟩ := cs_b H.1.1
  obtain ⟨k14, k15, k23, k27, k28⟩ := H.1.2.2.2.1
  have e1 : vp_in (nI s) 1000 := vp_in_nI (by omega) (by omega)
  have e2 : (nI s).toNatClampNeg = s := nI_clamp (by omega)
  refine en_call_is (by decide) (Nat.le_of_ble_eq_true rfl) cat_2 ?_
  show en_W (en_call 1) mB_rowFor 0 [some (.ref 22), some (.int (nI s))] [] c x u _
  simp only [sB_rowFor_0, sB_rowFor_1, sB_rowFor_4, sB_rowFor_5, sB_rowFor_8, sB_rowFor_11, sB_rowFor_12, sB_rowFor_15, sB_rowFor_16, sB_rowFor_17, sB_rowFor_20, sB_rowFor_21, o0, o1, o4, o5, o8, o11, o16, o19, o22, o24, w0, w1, w4, w5, w8, w11, w14, w15, w16, w19, w22, w23, w24, w27, w28, k14, k15, k23, k27, k28, en_rdO_eq, en_rdI_eq, en_rdN_eq, en_rdL_eq, true_and, and_true, List.getElem?_cons_succ, List.getElem?_cons_zero, en_gv_eq, if_true, if_false, and_self, or_true, true_or, implies_true, List.length_cons, List.length_nil, Nat.reduceLT, Nat.reduceLeDiff, Nat.reduceAdd, Nat.zero_le, Option.toList_some, Option.toList_none, List.cons_append, List.nil_append, nI_1, rd_t, n1_0, n0_1, Bool.false_eq_true, false_implies, reduceCtorEq]
  refine en_use (Nat.le_refl _) K1 ?_
  simp only [sB_rowFor_0, sB_rowFor_1, sB_rowFor_4, sB_rowFor_5, sB_rowFor_8, sB_rowFor_11, sB_rowFor_12, sB_rowFor_15, sB_rowFor_16, sB_rowFor_17, sB_rowFor_20, sB_rowFor_21, o0, o1, o4, o5, o8, o11, o16, o19, o22, o24, w0, w1, w4, w5, w8, w11, w14, w15, w16, w19, w22, w23, w24, w27, w28, k14, k15, k23, k27, k28, bi_t, e1, e2, en_rdO_eq, en_rdI_eq, en_rdN_eq, en_rdL_eq, true_and, and_true, List.getElem?_cons_succ, List.getElem?_cons_zero, en_gv_eq, if_true, if_false, and_self, or_true, true_or, implies_true, List.length_cons, List.length_nil, Nat.reduceLT, Nat.reduceLeDiff, Nat.reduceAdd, Nat.zero_le, Option.toList_some, Option.toList_none, List.cons_append, List.nil_append, nI_1, rd_t, n1_0, n0_1, Bool.false_eq_true, false_implies, reduceCtorEq, en_q]
theorem pl_R (H : CS c x ci N r S) : r_R r 16 = S.2.2.2.2.1 := H.2.1.1.2.2.2.1
theorem row_wf (H : CS c x ci N r S) {k : Nat} (hk : k < S.2.2.2.2.1.length) : sp_wfR S (sp_row S k) := by
  refine H.2.2.2.2.2.2.2.2.2.2.2.1 _ ?_
  unfold sp_row
  rw [List.getD_eq_getElem?_getD, List.getElem?_eq_getElem hk]
  exact List.getElem_mem hk
theorem row_lt (H : CS c x ci N r S) {k q : Nat} (hk : k < S.2.2.2.2.1.length) (hq : q < (sp_row S k).length) : (sp_row S k).getD q 0 < S.1.length := by
  refine (row_wf H hk).2.2.1 _ ?_
  rw [List.getD_eq_getElem?_getD, List.getElem?_eq_getElem hq]
  exact List.getElem_mem hq
theorem cB_learn {h k : Nat} {hh kk : Int32} (H : CS c x ci N r S) (hhh : hh = nI h) (hkk : kk = nI k) (hn : h < S.2.1.length) (hkd : sp_kd S h = 0) (hl2 : (sp_tx S h).length = 2) (hk : k < S.2.2.2.2.1.length) :
    ∃ c' r', en_call 3 mB_learn [.ref 22, .ref 5, .int hh, .int kk] c x u (some (.int (bi (decide ((sp_row S k).getD 0 0 = (sp_tx S h).getD 0 0))))) c' x u ∧ CS c' x ci N r' S ∧ cs_fr c c' ∧ (decide ((sp_row S k).getD 0 0 = (sp_tx S h).getD 0 0) = true → r' = r_setB r (upd (r_rf r) ((sp_tx S h).getD 1 0) (nI k))) := by
  have hwT := H.2.2.2.2.2.1 h hn
  have hvs := H.2.2.1
  have hl := (cs_len H.2.1).1
  have hg := (cs_get H.2.1 h).1
  have hs := tx_lt H hn (k := 1) (by omega)
  have hs0 := tx_lt H hn (k := 0) (by omega)
  have hvar : S.1.getD ((sp_tx S h).getD 1 0) false = true := (hwT.2.2.2.2.2.2.1 hkd).2 (by omega)
  have hrw := row_wf H hk
  have hr0 := row_lt H hk hrw.1
  have HP := (cs_T H).2.2.2.1
  rw [pl_R H] at HP
  have hN : S.2.2.2.2.1.length ≤ 200 := H.2.2.2.2.2.2.2.2.1
  subst hhh hkk
  have K1 := cR_get_in (u := u) (row := nI h) (kk := 1) (k := 1) (cs_T H).1 rfl rfl (by rw [hl]; exact hn) (by rw [hg]; omega)
  rw [hg] at K1
  have K2 := cR_size_in (u := u) (row := nI k) HP rfl hk
  have K3 := cR_get_in (u := u) (row := nI k) (kk := 0) (k := 0) HP rfl rfl hk hrw.1
  have K4 := cR_get_in (u := u) (row := nI h) (kk := 0) (k := 0) (cs_T H).1 rfl rfl (by rw [hl]; exact hn) (by rw [hg]; omega)
  rw [hg] at K4
  have K5 := cY_isVar_in (u := u) (ss := nI ((sp_tx S h).getD 1 0)) (cs_sy H) rfl hs
  rw [hvar] at K5
  have H0 := H
  obtain ⟨o0, o1, o4, o5, o8, o11, o16, o19, o22, o24⟩ := cs_o H.1
  obtain ⟨w0, w1, w4, w5, w8, w11, w14, w15, w16, w19, w22, w23, w24, w27, w28⟩ := cs_b H.1.1
  obtain ⟨k14, k15, k23, k27, k28⟩ := H.1.2.2.2.1
  have e1 : ¬ nI (S.2.2.2.2.1.getD k []).length < 1 := nI_nlt (b := 1) hrw.1 (by have := hrw.2.1; show (sp_row S k).length < _; omega)
  have e2 : (nI ((S.2.2.2.2.1.getD k []).getD 0 0) = nI ((sp_tx S h).getD 0 0)) = ((sp_row S k).getD 0 0 = (sp_tx S h).getD 0 0) := propext (nI_eq (by show (sp_row S k).getD 0 0 < _; omega) (by omega))
  have e3 : vp_in (nI ((sp_tx S h).getD 1 0)) 1000 := vp_in_nI (by omega) (by omega)
  have e4 : (nI ((sp_tx S h).getD 1 0)).toNatClampNeg = (sp_tx S h).getD 1 0 := nI_clamp (by omega)
  by_cases hq : (sp_row S k).getD 0 0 = (sp_tx S h).getD 0 0
  · obtain ⟨Hc, hcf⟩ := cr_setB H0.1 (upd (r_rf r) ((sp_tx S h).getD 1 0) (nI k))
    refine ⟨_, _, ?_, ⟨Hc, H0.2.1, H0.2.2⟩, hcf, fun _ => rfl⟩
    rw [decide_eq_true hq]
    refine en_call_is (by decide) (Nat.le_of_ble_eq_true rfl) cat_l ?_
    show en_W (en_call 2) mB_learn 0 [some (.ref 22), some (.ref 5), some (.int (nI h)), some (.int (nI k)), none] [] c x u _
    simp only [sB_learn_0, sB_learn_1, sB_learn_2, sB_learn_3, sB_learn_6, sB_learn_8, sB_learn_9, sB_learn_12, sB_learn_13, sB_learn_16, sB_learn_17, sB_learn_20, sB_learn_21, sB_learn_24, sB_learn_25, sB_learn_26, sB_learn_29, sB_learn_30, sB_learn_31, sB_learn_32, sB_learn_35, sB_learn_38, sB_learn_39, sB_learn_42, sB_learn_44, sB_learn_47, sB_learn_50, sB_learn_51, sB_learn_52, sB_learn_53, sB_learn_56, sB_learn_58, sB_learn_59, sB_learn_60, sB_learn_61, o0, o1, o4, o5, o8, o11, o16, o19, o22, o24, w0, w1, w4, w5, w8, w11, w14, w15, w16, w19, w22, w23, w24, w27, w28, k14, k15, k23, k27, k28, en_rdO_eq, en_rdI_eq, en_rdN_eq, en_rdL_eq, true_and, and_true, List.getElem?_cons_succ, List.getElem?_cons_zero, en_gv_eq, if_true, if_false, and_self, or_true, true_or, implies_true, List.length_cons, List.length_nil, Nat.reduceLT, Nat.reduceLeDiff, Nat.reduceAdd, Nat.zero_le, Option.toList_some, Option.toList_none, List.cons_append, List.nil_append, nI_1, rd_t, n1_0, n0_1, Bool.false_eq_true, false_implies, reduceCtorEq]
    refine en_use (by decide) K1 ?_
    simp only [sB_learn_0, sB_learn_1, sB_learn_2, sB_learn_3, sB_learn_6, sB_learn_8, sB_learn_9, sB_learn_12, sB_learn_13, sB_learn_16, sB_learn_17, sB_learn_20, sB_learn_21, sB_learn_24, sB_learn_25, sB_learn_26, sB_learn_29, sB_learn_30, sB_learn_31, sB_learn_32, sB_learn_35, sB_learn_38, sB_learn_39, sB_learn_42, sB_learn_44, sB_learn_47, sB_learn_50, sB_learn_51, sB_learn_52, sB_learn_53, sB_learn_56, sB_learn_58, sB_learn_59, sB_learn_60, sB_learn_61, o0, o1, o4, o5, o8, o11, o16, o19, o22, o24, w0, w1, w4, w5, w8, w11, w14, w15, w16, w19, w22, w23, w24, w27, w28, k14, k15, k23, k27, k28, en_rdO_eq, en_rdI_eq, en_rdN_eq, en_rdL_eq, true_and, and_true, List.getElem?_cons_succ, List.getElem?_cons_zero, en_gv_eq, if_true, if_false, and_self, or_true, true_or, implies_true, List.length_cons, List.length_nil, Nat.reduceLT, Nat.reduceLeDiff, Nat.reduceAdd, Nat.zero_le, Option.toList_some, Option.toList_none, List.cons_append, List.nil_append, nI_1, rd_t, n1_0, n0_1, Bool.false_eq_true, false_implies, reduceCtorEq]
    refine en_use (by decide) K2 ?_
    simp only [sB_learn_0, sB_learn_1, sB_learn_2, sB_learn_3, sB_learn_6, sB_learn_8, sB_learn_9, sB_learn_12, sB_learn_13, sB_learn_16, sB_learn_17, sB_learn_20, sB_learn_21, sB_learn_24, sB_learn_25, sB_learn_26, sB_learn_29, sB_learn_30, sB_learn_31, sB_learn_32, sB_learn_35, sB_learn_38, sB_learn_39, sB_learn_42, sB_learn_44, sB_learn_47, sB_learn_50, sB_learn_51, sB_learn_52, sB_learn_53, sB_learn_56, sB_learn_58, sB_learn_59, sB_learn_60, sB_learn_61, o0, o1, o4, o5, o8, o11, o16, o19, o22, o24, w0, w1, w4, w5, w8, w11, w14, w15, w16, w19, w22, w23, w24, w27, w28, k14, k15, k23, k27, k28, e1, en_rdO_eq, en_rdI_eq, en_rdN_eq, en_rdL_eq, true_and, and_true, List.getElem?_cons_succ, List.getElem?_cons_zero, en_gv_eq, if_true, if_false, and_self, or_true, true_or, implies_true, List.length_cons, List.length_nil, Nat.reduceLT, Nat.reduceLeDiff, Nat.reduceAdd, Nat.zero_le, Option.toList_some, Option.toList_none, List.cons_append, List.nil_append, nI_1, rd_t, n1_0, n0_1, Bool.false_eq_true, false_implies, reduceCtorEq]
    refine en_use (by decide) K3 ?_
    simp only [sB_learn_0, sB_learn_1, sB_learn_2, sB_learn_3, sB_learn_6, sB_learn_8, sB_learn_9, sB_learn_12, sB_learn_13, sB_learn_16, sB_learn_17, sB_learn_20, sB_learn_21, sB_learn_24, sB_learn_25, sB_learn_26, sB_learn_29, sB_learn_30, sB_learn_31, sB_learn_32, sB_learn_35, sB_learn_38, sB_learn_39, sB_learn_42, sB_learn_44, sB_learn_47, sB_learn_50, sB_learn_51, sB_learn_52, sB_learn_53, sB_learn_56, sB_learn_58, sB_learn_59, sB_learn_60, sB_learn_61, o0, o1, o4, o5, o8, o11, o16, o19, o22, o24, w0, w1, w4, w5, w8, w11, w14, w15, w16, w19, w22, w23, w24, w27, w28, k14, k15, k23, k27, k28, en_rdO_eq, en_rdI_eq, en_rdN_eq, en_rdL_eq, true_and, and_true, List.getElem?_cons_succ, List.getElem?_cons_zero, en_gv_eq, if_true, if_false, and_self, or_true, true_or, implies_true, List.length_cons, List.length_nil, Nat.reduceLT, Nat.reduceLeDiff, Nat.reduceAdd, Nat.zero_le, Option.toList_some, Option.toList_none, List.cons_append, List.nil_append, nI_1, rd_t, n1_0, n0_1, Bool.false_eq_true, false_implies, reduceCtorEq]
    refine en_use (by decide) K4 ?_
    simp only [sB_learn_0, sB_learn_1, sB_learn_2, sB_learn_3, sB_learn_6, sB_learn_8, sB_learn_9, sB_learn_12, sB_learn_13, sB_learn_16, sB_learn_17, sB_learn_20, sB_learn_21, sB_learn_24, sB_learn_25, sB_learn_26, sB_learn_29, sB_learn_30, sB_learn_31, sB_learn_32, sB_learn_35, sB_learn_38, sB_learn_39, sB_learn_42, sB_learn_44, sB_learn_47, sB_learn_50, sB_learn_51, sB_learn_52, sB_learn_53, sB_learn_56, sB_learn_58, sB_learn_59, sB_learn_60, sB_learn_61, o0, o1, o4, o5, o8, o11, o16, o19, o22, o24, w0, w1, w4, w5, w8, w11, w14, w15, w16, w19, w22, w23, w24, w27, w28, k14, k15, k23, k27, k28, e2, if_pos hq, en_rdO_eq, en_rdI_eq, en_rdN_eq, en_rdL_eq, true_and, and_true, List.getElem?_cons_succ, List.getElem?_cons_zero, en_gv_eq, if_true, if_false, and_self, or_true, true_or, implies_true, List.length_cons, List.length_nil, Nat.reduceLT, Nat.reduceLeDiff, Nat.reduceAdd, Nat.zero_le, Option.toList_some, Option.toList_none, List.cons_append, List.nil_append, nI_1, rd_t, n1_0, n0_1, Bool.false_eq_true, false_implies, reduceCtorEq]
    refine en_use (by decide) K5 ?_
    simp only [sB_learn_0, sB_learn_1, sB_learn_2, sB_learn_3, sB_learn_6, sB_learn_8, sB_learn_9, sB_learn_12, sB_learn_13, sB_learn_16, sB_learn_17, sB_learn_20, sB_learn_21, sB_learn_24, sB_learn_25, sB_learn_26, sB_learn_29, sB_learn_30, sB_learn_31, sB_learn_32, sB_learn_35, sB_learn_38, sB_learn_39, sB_learn_42, sB_learn_44, sB_learn_47, sB_learn_50, sB_learn_51, sB_learn_52, sB_learn_53, sB_learn_56, sB_learn_58, sB_learn_59, sB_learn_60, sB_learn_61, o0, o1, o4, o5, o8, o11, o16, o19, o22, o24, w0, w1, w4, w5, w8, w11, w14, w15, w16, w19, w22, w23, w24, w27, w28, k14, k15, k23, k27, k28, bi_t, e3, e4, en_rdO_eq, en_rdI_eq, en_rdN_eq, en_rdL_eq, true_and, and_true, List.getElem?_cons_succ, List.getElem?_cons_zero, en_gv_eq, if_true, if_false, and_self, or_true, true_or, implies_true, List.length_cons, List.length_nil, Nat.reduceLT, Nat.reduceLeDiff, Nat.reduceAdd, Nat.zero_le, Option.toList_some, Option.toList_none, List.cons_append, List.nil_append, nI_1, rd_t, n1_0, n0_1, Bool.false_eq_true, false_implies, reduceCtorEq, en_q]
  · refine ⟨c, r, ?_, H0, cs_rf, fun q => absurd (of_decide_eq_true q) hq⟩
    rw [decide_eq_false hq]
    refine en_call_is (by decide) (Nat.le_of_ble_eq_true rfl) cat_l ?_
    show en_W (en_call 2) mB_learn 0 [some (.ref 22), some (.ref 5), some (.int (nI h)), some (.int (nI k)), none] [] c x u _
    simp only [sB_learn_0, sB_learn_1, sB_learn_2, sB_learn_3, sB_learn_6, sB_learn_8, sB_learn_9, sB_learn_12, sB_learn_13, sB_learn_16, sB_learn_17, sB_learn_20, sB_learn_21, sB_learn_24, sB_learn_25, sB_learn_26, sB_learn_29, sB_learn_30, sB_learn_31, sB_learn_32, sB_learn_35, sB_learn_38, sB_learn_39, sB_learn_42, sB_learn_44, sB_learn_47, sB_learn_50, sB_learn_51, sB_learn_52, sB_learn_53, sB_learn_56, sB_learn_58, sB_learn_59, sB_learn_60, sB_learn_61, o0, o1, o4, o5, o8, o11, o16, o19, o22, o24, w0, w1, w4, w5, w8, w11, w14, w15, w16, w19, w22, w23, w24, w27, w28, k14, k15, k23, k27, k28, en_rdO_eq, en_rdI_eq, en_rdN_eq, en_rdL_eq, true_and, and_true, List.getElem?_cons_succ, List.getElem?_cons_zero, en_gv_eq, if_true, if_false, and_self, or_true, true_or, implies_true, List.length_cons, List.length_nil, Nat.reduceLT, Nat.reduceLeDiff, Nat.reduceAdd, Nat.zero_le, Option.toList_some, Option.toList_none, List.cons_append, List.nil_append, nI_1, rd_t, n1_0, n0_1, Bool.false_eq_true, false_implies, reduceCtorEq]
    refine en_use (by decide) K1 ?_
    simp only [sB_learn_0, sB_learn_1, sB_learn_2, sB_learn_3, sB_learn_6, sB_learn_8, sB_learn_9, sB_learn_12, sB_learn_13, sB_learn_16, sB_learn_17, sB_learn_20, sB_learn_21, sB_learn_24, sB_learn_25, sB_learn_26, sB_learn_29, sB_learn_30, sB_learn_31, sB_learn_32, sB_learn_35, sB_learn_38, sB_learn_39, sB_learn_42, sB_learn_44, sB_learn_47, sB_learn_50, sB_learn_51, sB_learn_52, sB_learn_53, sB_learn_56, sB_learn_58, sB_learn_59, sB_learn_60, sB_learn_61, o0, o1, o4, o5, o8, o11, o16, o19, o22, o24, w0, w1, w4, w5, w8, w11, w14, w15, w16, w19, w22, w23, w24, w27, w28, k14, k15, k23, k27, k28, en_rdO_eq, en_rdI_eq, en_rdN_eq, en_rdL_eq, true_and, and_true, List.getElem?_cons_succ, List.getElem?_cons_zero, en_gv_eq, if_true, if_false, and_self, or_true, true_or, implies_true, List.length_cons, List.length_nil, Nat.reduceLT, Nat.reduceLeDiff, Nat.reduceAdd, Nat.zero_le, Option.toList_some, Option.toList_none, List.cons_append, List.nil_append, nI_1, rd_t, n1_0, n0_1, Bool.false_eq_true, false_implies, reduceCtorEq]
    refine en_use (by decide) K2 ?_
    simp only [sB_learn_0, sB_learn_1, sB_learn_2, sB_learn_3, sB_learn_6, sB_learn_8, sB_learn_9, sB_learn_12, sB_learn_13, sB_learn_16, sB_learn_17, sB_learn_20, sB_learn_21, sB_learn_24, sB_learn_25, sB_learn_26, sB_learn_29, sB_learn_30, sB_learn_31, sB_learn_32, sB_learn_35, sB_learn_38, sB_learn_39, sB_learn_42, sB_learn_44, sB_learn_47, sB_learn_50, sB_learn_51, sB_learn_52, sB_learn_53, sB_learn_56, sB_learn_58, sB_learn_59, sB_learn_60, sB_learn_61, o0, o1, o4, o5, o8, o11, o16, o19, o22, o24, w0, w1, w4, w5, w8, w11, w14, w15, w16, w19, w22, w23, w24, w27, w28, k14, k15, k23, k27, k28, e1, en_rdO_eq, en_rdI_eq, en_rdN_eq, en_rdL_eq, true_and, and_true, List.getElem?_cons_succ, List.getElem?_cons_zero, en_gv_eq, if_true, if_false, and_self, or_true, true_or, implies_true, List.length_cons, List.length_nil, Nat.reduceLT, Nat.reduceLeDiff, Nat.reduceAdd, Nat.zero_le, Option.toList_some, Option.toList_none, List.cons_append, List.nil_append, nI_1, rd_t, n1_0, n0_1, Bool.false_eq_true, false_implies, reduceCtorEq]
    refine en_use (by decide) K3 ?_
    simp only [sB_learn_0, sB_learn_1, sB_learn_2, sB_learn_3, sB_learn_6, sB_learn_8, sB_learn_9, sB_learn_12, sB_learn_13, sB_learn_16, sB_learn_17, sB_learn_20, sB_learn_21, sB_learn_24, sB_learn_25, sB_learn_26, sB_learn_29, sB_learn_30, sB_learn_31, sB_learn_32, sB_learn_35, sB_learn_38, sB_learn_39, sB_learn_42, sB_learn_44, sB_learn_47, sB_learn_50, sB_learn_51, sB_learn_52, sB_learn_53, sB_learn_56, sB_learn_58, sB_learn_59, sB_learn_60, sB_learn_61, o0, o1, o4, o5, o8, o11, o16, o19, o22, o24, w0, w1, w4, w5, w8, w11, w14, w15, w16, w19, w22, w23, w24, w27, w28, k14, k15, k23, k27, k28, en_rdO_eq, en_rdI_eq, en_rdN_eq, en_rdL_eq, true_and, and_true, List.getElem?_cons_succ, List.getElem?_cons_zero, en_gv_eq, if_true, if_false, and_self, or_true, true_or, implies_true, List.length_cons, List.length_nil, Nat.reduceLT, Nat.reduceLeDiff, Nat.reduceAdd, Nat.zero_le, Option.toList_some, Option.toList_none, List.cons_append, List.nil_append, nI_1, rd_t, n1_0, n0_1, Bool.false_eq_true, false_implies, reduceCtorEq]
    refine en_use (by decide) K4 ?_
    simp only [sB_learn_0, sB_learn_1, sB_learn_2, sB_learn_3, sB_learn_6, sB_learn_8, sB_learn_9, sB_learn_12, sB_learn_13, sB_learn_16, sB_learn_17, sB_learn_20, sB_learn_21, sB_learn_24, sB_learn_25, sB_learn_26, sB_learn_29, sB_learn_30, sB_learn_31, sB_learn_32, sB_learn_35, sB_learn_38, sB_learn_39, sB_learn_42, sB_learn_44, sB_learn_47, sB_learn_50, sB_learn_51, sB_learn_52, sB_learn_53, sB_learn_56, sB_learn_58, sB_learn_59, sB_learn_60, sB_learn_61, e2, if_neg hq, bi_f, en_rdO_eq, en_rdI_eq, en_rdN_eq, en_rdL_eq, true_and, and_true, List.getElem?_cons_succ, List.getElem?_cons_zero, en_gv_eq, if_true, if_false, and_self, or_true, true_or, implies_true, List.length_cons, List.length_nil, Nat.reduceLT, Nat.reduceLeDiff, Nat.reduceAdd, Nat.zero_le, Option.toList_some, Option.toList_none, List.cons_append, List.nil_append, nI_1, rd_t, n1_0, n0_1, Bool.false_eq_true, false_implies, reduceCtorEq, en_q]
/-- the variables of these symbols have their rows -/
def be_ok (S : sp_S) (r : cr_T) (be : Nat → Nat) (l : List Nat) : Prop := ∀ s ∈ l, sp_var S s = true → r_rf r s = nI (be s) ∧ be s < S.2.2.2.2.1.length
theorem sub_cons (S : sp_S) (be : Nat → Nat) (s : Nat) (l : List Nat) : sp_sub S be (s :: l) = (if sp_var S s then (sp_row S (be s)).drop 1 else [s]) ++ sp_sub S be l := rfl
theorem sm_take {a b : List Nat} {k k2 : Nat} : ∀ {n : Nat}, k + n ≤ a.length → k2 + n ≤ b.length → (sm_eq a k b k2 n = true ↔ (a.drop k).take n = (b.drop k2).take n) := by
  intro n
  induction n with
  | zero => intro _ _; simp [sm_eq]
  | succ n ih =>
    intro h1 h2
    have h := ih (by omega) (by omega)
    have e : sm_eq a k b k2 (n + 1) = (sm_eq a k b k2 n && (a.getD (k + n) 0 == b.getD (k2 + n) 0)) := by
      unfold sm_eq
      rw [List.range_succ, List.all_append]
      simp
    have t1 : (a.drop k).take (n + 1) = (a.drop k).take n ++ [a.getD (k + n) 0] := by
      rw [List.take_succ, List.getElem?_drop, List.getD_eq_getElem?_getD, List.getElem?_eq_getElem (by omega)]
      rfl
    have t2 : (b.drop k2).take (n + 1) = (b.drop k2).take n ++ [b.getD (k2 + n) 0] := by
      rw [List.take_succ, List.getElem?_drop, List.getD_eq_getElem?_getD, List.getElem?_eq_getElem (by omega)]
      rfl
    rw [e, t1, t2, Bool.and_eq_true, h]
    constructor
    · rintro ⟨p, q⟩
      rw [p, show a.getD (k + n) 0 = b.getD (k2 + n) 0 by simpa using q]
    · intro p
      have p := List.append_inj p (by simp; omega)
      exact ⟨p.1, by have := p.2; simp at this; simpa using this⟩
theorem sub_step {row frm rest : List Nat} {done : Nat} (hf : 0 < frm.length) (hdr : done ≤ row.length) : (frm.drop 1 ++ rest = row.drop done) ↔ ((decide (done + (frm.length - 1) ≤ row.length) && decide (1 + (frm.length - 1) ≤ frm.length) && sm_eq row done frm 1 (frm.length - 1)) = true ∧ rest = row.drop (done + (frm.length - 1))) := by
  have hlen : (frm.drop 1).length = frm.length - 1 := by rw [List.length_drop]
  constructor
  · intro h
    have h1 := congrArg List.length h
    rw [List.length_append, hlen, List.length_drop] at h1
    by_cases hz : frm.length - 1 = 0
    · have : frm.drop 1 = [] := List.eq_nil_of_length_eq_zero (by omega)
      rw [this, List.nil_append] at h
      rw [hz, Nat.add_zero]
      refine ⟨?_, h⟩
      rw [decide_eq_true hdr, decide_eq_true (by omega)]
      rfl
    · have hd : done + (frm.length - 1) ≤ row.length := by omega
      rw [decide_eq_true hd, decide_eq_true (by omega), Bool.true_and, Bool.true_and, sm_take hd (by omega)]
      have h2 : (row.drop done).take (frm.length - 1) = frm.drop 1 := by rw [← h, ← hlen, List.take_left]
      have h3 : (row.drop done).drop (frm.length - 1) = rest := by rw [← h, ← hlen, List.drop_left]
      rw [h2, List.drop_drop] at *
      exact ⟨by rw [← hlen, List.take_length], h3.symm⟩
  · rintro ⟨h1, h2⟩
    rw [Bool.and_eq_true, Bool.and_eq_true] at h1
    obtain ⟨⟨h3, h4⟩, h5⟩ := h1
    have h3 := of_decide_eq_true h3
    rw [sm_take h3 (by omega)] at h5
    rw [h2, ← List.drop_drop]
    have h6 : (frm.drop 1).take (frm.length - 1) = frm.drop 1 := by rw [← hlen, List.take_length]
    rw [h6] at h5
    rw [← h5, List.take_append_drop]
end BC
