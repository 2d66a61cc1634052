/-! StepPile$Statements: pairs, beginning and closing -/
def pr_is (s t : Nat) (q : Nat × Nat) : Bool := (q.1 == s && q.2 == t) || (q.1 == t && q.2 == s)
section TG
variable {c : en_H} {x u : Nat} {ci N : Nat → Nat} {r : cr_T} {S : sp_S}
theorem fl_lt (H : CS c x ci N r S) {i v : Nat} (hi : i < S.2.1.length) (hv : sp_fl S (sp_nd S i) v = true) : v < 1000 := by
  unfold sp_fl at hv
  obtain ⟨h, hm, hq⟩ := List.any_eq_true.mp hv
  rw [Bool.and_eq_true] at hq
  have e : (sp_tx S h).getD 1 0 = v := by simpa using hq.2
  have hlt := nd_mem H.2.2 hi h hm
  by_cases hl : 1 < (sp_tx S h).length
  · have := tx_lt H (i := h) (by omega) hl
    have := H.2.2.1
    omega
  · rw [List.getD_eq_getElem?_getD, List.getElem?_eq_none (by omega)] at e
    have : v = 0 := e.symm
    omega
theorem pr_lt (H : CS c x ci N r S) {i j : Nat} (hi : i < S.2.1.length) (hj : j < (sp_pr S i).length) : ((sp_pr S i).getD j (0, 0)).1 < 1000 ∧ ((sp_pr S i).getD j (0, 0)).2 < 1000 := by
  have h1 := (H.2.2.2.2.2.1 i hi).2.2.2.2.2.2.2.2
  have hm : (sp_pr S i).getD j (0, 0) ∈ sp_pr S i := by
    rw [List.getD_eq_getElem?_getD, List.getElem?_eq_getElem hj]
    exact List.getElem_mem hj
  have h2 := h1 _ hm
  exact ⟨fl_lt H hi h2.1, fl_lt H hi h2.2⟩
theorem cT_isPair {s t : Nat} {ss tt : Int32} (H : CS c x ci N r S) (ho : S.2.2.1 = true) (hss : ss = nI s) (htt : tt = nI t) (hs : s < 1000) (ht : t < 1000) : en_call 3 mT_isPair [.ref 4, .int ss, .int tt] c x u (some (.int (bi ((sp_pr S (sp_la S)).any (pr_is s t))))) c x u := by
  obtain ⟨h1, h2, h3⟩ := cs_la H ho
  have hl := (cs_len H.2.1).2.2
  have hg := (cs_get H.2.1 (sp_la S)).2.2
  have HT := (cs_T H).2.2.1
  have hlen := (H.2.2.2.2.2.1 _ h1).2.2.2.1
  have H0 := H
  subst hss htt
  have K1 := cR_size_in (u := u) (row := nI (sp_la S)) HT rfl (by rw [hl]; exact h1)
  rw [hg, pf_len] at K1
  obtain ⟨o0, o1, o4, o5, o8, o11, o16, o19, o22, o24⟩ := cs_o H.1
  obtain ⟨w0, w1, w4, w5, w8, w11, w14, w15, w16, w19, w22, w23, w24, w27, w28⟩ := cs_b H.1.1
  obtain ⟨k14, k15, k23, k27, k28⟩ := H.1.2.2.2.1
  have loop : ∀ (n k : Nat) (l5 l6 : Option Value), k + n = (sp_pr S (sp_la S)).length → en_W (en_call 2) mT_isPair 15 [some (.ref 4), some (.int (nI s)), some (.int (nI t)), some (.int (nI (2 * (sp_pr S (sp_la S)).length))), some (.int (nI (2 * k))), l5, l6] [] c x u (en_q (some (.int (bi (((sp_pr S (sp_la S)).drop k).any (pr_is s t))))) c x u) := by
    intro n
    induction n with
    | zero =>
      intro k l5 l6 hk
      have hk : k = (sp_pr S (sp_la S)).length := by omega
      subst hk
      have e1 : nI (2 * (sp_pr S (sp_la S)).length) ≤ nI (2 * (sp_pr S (sp_la S)).length + 1) := nI_le (by omega) (by omega)
      rw [List.drop_length, sT_isPair_15]
      simp only [sT_isPair_0, sT_isPair_1, sT_isPair_4, sT_isPair_5, sT_isPair_8, sT_isPair_11, sT_isPair_12, sT_isPair_13, sT_isPair_17, sT_isPair_18, sT_isPair_19, sT_isPair_20, sT_isPair_23, sT_isPair_24, sT_isPair_27, sT_isPair_28, sT_isPair_31, sT_isPair_33, sT_isPair_36, sT_isPair_38, sT_isPair_39, sT_isPair_42, sT_isPair_43, sT_isPair_46, sT_isPair_48, sT_isPair_49, sT_isPair_50, sT_isPair_53, sT_isPair_55, sT_isPair_57, sT_isPair_58, sT_isPair_61, sT_isPair_63, sT_isPair_64, sT_isPair_67, sT_isPair_69, sT_isPair_70, sT_isPair_73, sT_isPair_75, sT_isPair_76, sT_isPair_79, sT_isPair_80, sT_isPair_81, sT_isPair_84, sT_isPair_87, sT_isPair_88, e1, en_rdO_eq, en_rdI_eq, en_rdN_eq, en_rdL_eq, true_and, and_true, List.getElem?_cons_succ, List.getElem?_cons_zero, en_gv_eq, if_true, if_false, and_self, or_true, true_or, implies_true, List.length_cons, List.length_nil, Nat.reduceLT, Nat.reduceLeDiff, Nat.reduceAdd, Nat.zero_le, Option.toList_some, Option.toList_none, List.cons_append, List.nil_append, nI_1, rd_t, n1_0, n0_1, Bool.false_eq_true, false_implies, reduceCtorEq, en_q]
      simp [bi]
    | succ n ih =>
      intro k l5 l6 hk
      have hklt : k < (sp_pr S (sp_la S)).length := by omega
      have e1 : ¬ nI (2 * (sp_pr S (sp_la S)).length) ≤ nI (2 * k + 1) := nI_ge (by omega) (by omega)
      obtain ⟨g1, g2⟩ := pf_get (sp_pr S (sp_la S)) k hklt
      obtain ⟨b1, b2⟩ := pr_lt H0 h1 hklt
      have K2 := cR_get_in (u := u) (row := nI (sp_la S)) (kk := nI (2 * k)) HT rfl rfl (by rw [hl]; exact h1) (by rw [hg, pf_len]; omega)
      rw [hg, g1] at K2
      have K3 := cR_get_in (u := u) (row := nI (sp_la S)) (kk := nI (2 * k + 1)) HT rfl rfl (by rw [hl]; exact h1) (by rw [hg, pf_len]; omega)
      rw [hg, g2] at K3
      generalize hq : (sp_pr S (sp_la S)).getD k (0, 0) = q at *
      have IH := ih (k + 1) (some (.int (nI q.1))) (some (.int (nI q.2))) (by omega)
      have e2 : (nI q.1 = nI s) = (q.1 = s) := propext (nI_eq (by omega) (by omega))
      have e3 : (nI q.2 = nI t) = (q.2 = t) := propext (nI_eq (by omega) (by omega))
      have e4 : (nI q.1 = nI t) = (q.1 = t) := propext (nI_eq (by omega) (by omega))
      have e5 : (nI q.2 = nI s) = (q.2 = s) := propext (nI_eq (by omega) (by omega))
      have e6 : nI (2 * k) + 2 = nI (2 * (k + 1)) := by
        rw [show (2 : Int32) = nI 2 from rfl, nI_add]
        rfl
      rw [drop_getP hklt, hq, List.any_cons, sT_isPair_15]
      simp only [sT_isPair_0, sT_isPair_1, sT_isPair_4, sT_isPair_5, sT_isPair_8, sT_isPair_11, sT_isPair_12, sT_isPair_13, sT_isPair_17, sT_isPair_18, sT_isPair_19, sT_isPair_20, sT_isPair_23, sT_isPair_24, sT_isPair_27, sT_isPair_28, sT_isPair_31, sT_isPair_33, sT_isPair_36, sT_isPair_38, sT_isPair_39, sT_isPair_42, sT_isPair_43, sT_isPair_46, sT_isPair_48, sT_isPair_49, sT_isPair_50, sT_isPair_53, sT_isPair_55, sT_isPair_57, sT_isPair_58, sT_isPair_61, sT_isPair_63, sT_isPair_64, sT_isPair_67, sT_isPair_69, sT_isPair_70, sT_isPair_73, sT_isPair_75, sT_isPair_76, sT_isPair_79, sT_isPair_80, sT_isPair_81, sT_isPair_84, sT_isPair_87, sT_isPair_88, e1, o0, o1, o4, o5, o8, o11, o16, o19, o22, o24, w0, w1, w4, w5, w8, w11, w14, w15, w16, w19, w22, w23, w24, w27, w28, k14, k15, k23, k27, k28, h3, en_rdO_eq, en_rdI_eq, en_rdN_eq, en_rdL_eq, true_and, and_true, List.getElem?_cons_succ, List.getElem?_cons_zero, en_gv_eq, if_true, if_false, and_self, or_true, true_or, implies_true, List.length_cons, List.length_nil, Nat.reduceLT, Nat.reduceLeDiff, Nat.reduceAdd, Nat.zero_le, Option.toList_some, Option.toList_none, List.cons_append, List.nil_append, nI_1, rd_t, n1_0, n0_1, Bool.false_eq_true, false_implies, reduceCtorEq]
      refine en_use (Nat.le_refl _) K2 ?_
      simp only [sT_isPair_0, sT_isPair_1, sT_isPair_4, sT_isPair_5, sT_isPair_8, sT_isPair_11, sT_isPair_12, sT_isPair_13, sT_isPair_17, sT_isPair_18, sT_isPair_19, sT_isPair_20, sT_isPair_23, sT_isPair_24, sT_isPair_27, sT_isPair_28, sT_isPair_31, sT_isPair_33, sT_isPair_36, sT_isPair_38, sT_isPair_39, sT_isPair_42, sT_isPair_43, sT_isPair_46, sT_isPair_48, sT_isPair_49, sT_isPair_50, sT_isPair_53, sT_isPair_55, sT_isPair_57, sT_isPair_58, sT_isPair_61, sT_isPair_63, sT_isPair_64, sT_isPair_67, sT_isPair_69, sT_isPair_70, sT_isPair_73, sT_isPair_75, sT_isPair_76, sT_isPair_79, sT_isPair_80, sT_isPair_81, sT_isPair_84, sT_isPair_87, sT_isPair_88, o0, o1, o4, o5, o8, o11, o16, o19, o22, o24, w0, w1, w4, w5, w8, w11, w14, w15, w16, w19, w22, w23, w24, w27, w28, k14, k15, k23, k27, k28, h3, en_rdO_eq, en_rdI_eq, en_rdN_eq, en_rdL_eq, true_and, and_true, List.getElem?_cons_succ, List.getElem?_cons_zero, en_gv_eq, if_true, if_false, and_self, or_true, true_or, implies_true, List.length_cons, List.length_nil, Nat.reduceLT, Nat.reduceLeDiff, Nat.reduceAdd, Nat.zero_le, Option.toList_some, Option.toList_none, List.cons_append, List.nil_append, nI_1, rd_t, n1_0, n0_1, Bool.false_eq_true, false_implies, reduceCtorEq]
      refine en_use (Nat.le_refl _) K3 ?_
      simp only [sT_isPair_0, sT_isPair_1, sT_isPair_4, sT_isPair_5, sT_isPair_8, sT_isPair_11, sT_isPair_12, sT_isPair_13, sT_isPair_17, sT_isPair_18, sT_isPair_19, sT_isPair_20, sT_isPair_23, sT_isPair_24, sT_isPair_27, sT_isPair_28, sT_isPair_31, sT_isPair_33, sT_isPair_36, sT_isPair_38, sT_isPair_39, sT_isPair_42, sT_isPair_43, sT_isPair_46, sT_isPair_48, sT_isPair_49, sT_isPair_50, sT_isPair_53, sT_isPair_55, sT_isPair_57, sT_isPair_58, sT_isPair_61, sT_isPair_63, sT_isPair_64, sT_isPair_67, sT_isPair_69, sT_isPair_70, sT_isPair_73, sT_isPair_75, sT_isPair_76, sT_isPair_79, sT_isPair_80, sT_isPair_81, sT_isPair_84, sT_isPair_87, sT_isPair_88, e2, e3, e4, e5, e6, en_rdO_eq, en_rdI_eq, en_rdN_eq, en_rdL_eq, true_and, and_true, List.getElem?_cons_succ, List.getElem?_cons_zero, en_gv_eq, if_true, if_false, and_self, or_true, true_or, implies_true, List.length_cons, List.length_nil, Nat.reduceLT, Nat.reduceLeDiff, Nat.reduceAdd, Nat.zero_le, Option.toList_some, Option.toList_none, List.cons_append, List.nil_append, nI_1, rd_t, n1_0, n0_1, Bool.false_eq_true, false_implies, reduceCtorEq]
      unfold pr_is
      by_cases z1 : q.1 = s
      · by_cases z2 : q.2 = t
        · have y1 : (q.1 == s) = true := by simpa using z1
          have y2 : (q.2 == t) = true := by simpa using z2
          rw [y1, y2]
          simp only [z1, z2, Bool.true_and, Bool.true_or, bi_t, nI_0, nI_one, nI_two, eq_self, en_rdO_eq, en_rdI_eq, en_rdN_eq, en_rdL_eq, true_and, and_true, List.getElem?_cons_succ, List.getElem?_cons_zero, en_gv_eq, if_true, if_false, and_self, or_true, true_or, implies_true, List.length_cons, List.length_nil, Nat.reduceLT, Nat.reduceLeDiff, Nat.reduceAdd, Nat.zero_le, Option.toList_some, Option.toList_none, List.cons_append, List.nil_append, nI_1, rd_t, n1_0, n0_1, Bool.false_eq_true, false_implies, reduceCtorEq, en_q]
        · have y2 : (q.2 == t) = false := by simpa using z2
          rw [y2, Bool.and_false, Bool.false_or]
          by_cases z3 : q.1 = t
          · by_cases z4 : q.2 = s
            · have y3 : (q.1 == t) = true := by simpa using z3
              have y4 : (q.2 == s) = true := by simpa using z4
              rw [y3, y4]
              simp only [if_pos z1, if_neg z2, if_pos z3, if_pos z4, Bool.true_and, Bool.true_or, bi_t, en_rdO_eq, en_rdI_eq, en_rdN_eq, en_rdL_eq, true_and, and_true, List.getElem?_cons_succ, List.getElem?_cons_zero, en_gv_eq, if_true, if_false, and_self, or_true, true_or, implies_true, List.length_cons, List.length_nil, Nat.reduceLT, Nat.reduceLeDiff, Nat.reduceAdd, Nat.zero_le, Option.toList_some, Option.toList_none, List.cons_append, List.nil_append, nI_1, rd_t, n1_0, n0_1, Bool.false_eq_true, false_implies, reduceCtorEq, en_q]
            · have y4 : (q.2 == s) = false := by simpa using z4
              rw [y4, Bool.and_false, Bool.false_or]
              simp only [if_pos z1, if_neg z2, if_pos z3, if_neg z4]
              exact IH
          · have y3 : (q.1 == t) = false := by simpa using z3
            rw [y3, Bool.false_and, Bool.false_or]
            simp only [if_pos z1, if_neg z2, if_neg z3]
            exact IH
      · have y1 : (q.1 == s) = false := by simpa using z1
        rw [y1, Bool.false_and, Bool.false_or]
        by_cases z3 : q.1 = t
        · by_cases z4 : q.2 = s
          · have y3 : (q.1 == t) = true := by simpa using z3
            have y4 : (q.2 == s) = true := by simpa using z4
            rw [y3, y4]
            simp only [if_neg z1, if_pos z3, if_pos z4, Bool.true_and, Bool.true_or, bi_t, en_rdO_eq, en_rdI_eq, en_rdN_eq, en_rdL_eq, true_and, and_true, List.getElem?_cons_succ, List.getElem?_cons_zero, en_gv_eq, if_true, if_false, and_self, or_true, true_or, implies_true, List.length_cons, List.length_nil, Nat.reduceLT, Nat.reduceLeDiff, Nat.reduceAdd, Nat.zero_le, Option.toList_some, Option.toList_none, List.cons_append, List.nil_append, nI_1, rd_t, n1_0, n0_1, Bool.false_eq_true, false_implies, reduceCtorEq, en_q]
          · have y4 : (q.2 == s) = false := by simpa using z4
            rw [y4, Bool.and_false, Bool.false_or]
            simp only [if_neg z1, if_pos z3, if_neg z4]
            exact IH
        · have y3 : (q.1 == t) = false := by simpa using z3
          rw [y3, Bool.false_and, Bool.false_or]
          simp only [if_neg z1, if_neg z3]
          exact IH
  refine en_call_is (by decide) (Nat.le_of_ble_eq_true rfl) cat_3 ?_
  show en_W (en_call 2) mT_isPair 0 [some (.ref 4), some (.int (nI s)), some (.int (nI t)), none, none, none, none] [] c x u _
  simp only [sT_isPair_0, sT_isPair_1, sT_isPair_4, sT_isPair_5, sT_isPair_8, sT_isPair_11, sT_isPair_12, sT_isPair_13, sT_isPair_17, sT_isPair_18, sT_isPair_19, sT_isPair_20, sT_isPair_23, sT_isPair_24, sT_isPair_27, sT_isPair_28, sT_isPair_31, sT_isPair_33, sT_isPair_36, sT_isPair_38, sT_isPair_39, sT_isPair_42, sT_isPair_43, sT_isPair_46, sT_isPair_48, sT_isPair_49, sT_isPair_50, sT_isPair_53, sT_isPair_55, sT_isPair_57, sT_isPair_58, sT_isPair_61, sT_isPair_63, sT_isPair_64, sT_isPair_67, sT_isPair_69, sT_isPair_70, sT_isPair_73, sT_isPair_75, sT_isPair_76, sT_isPair_79, sT_isPair_80, sT_isPair_81, sT_isPair_84, sT_isPair_87, sT_isPair_88, o0, o1, o4, o5, o8, o11, o16, o19, o22, o24, w0, w1, w4, w5, w8, w11, w14, w15, w16, w19, w22, w23, w24, w27, w28, k14, k15, k23, k27, k28, h3, en_rdO_eq, en_rdI_eq, en_rdN_eq, en_rdL_eq, true_and, and_true, List.getElem?_cons_succ, List.getElem?_cons_zero, en_gv_eq, if_true, if_false, and_self, or_true, true_or, implies_true, List.length_cons, List.length_nil, Nat.reduceLT, Nat.reduceLeDiff, Nat.reduceAdd, Nat.zero_le, Option.toList_some, Option.toList_none, List.cons_append, List.nil_append, nI_1, rd_t, n1_0, n0_1, Bool.false_eq_true, false_implies, reduceCtorEq]
  refine en_use (Nat.le_refl _) K1 ?_
  simp only [sT_isPair_0, sT_isPair_1, sT_isPair_4, sT_isPair_5, sT_isPair_8, sT_isPair_11, sT_isPair_12, sT_isPair_13, sT_isPair_17, sT_isPair_18, sT_isPair_19, sT_isPair_20, sT_isPair_23, sT_isPair_24, sT_isPair_27, sT_isPair_28, sT_isPair_31, sT_isPair_33, sT_isPair_36, sT_isPair_38, sT_isPair_39, sT_isPair_42, sT_isPair_43, sT_isPair_46, sT_isPair_48, sT_isPair_49, sT_isPair_50, sT_isPair_53, sT_isPair_55, sT_isPair_57, sT_isPair_58, sT_isPair_61, sT_isPair_63, sT_isPair_64, sT_isPair_67, sT_isPair_69, sT_isPair_70, sT_isPair_73, sT_isPair_75, sT_isPair_76, sT_isPair_79, sT_isPair_80, sT_isPair_81, sT_isPair_84, sT_isPair_87, sT_isPair_88, o0, o1, o4, o5, o8, o11, o16, o19, o22, o24, w0, w1, w4, w5, w8, w11, w14, w15, w16, w19, w22, w23, w24, w27, w28, k14, k15, k23, k27, k28, en_rdO_eq, en_rdI_eq, en_rdN_eq, en_rdL_eq, true_and, and_true, List.getElem?_cons_succ, List.getElem?_cons_zero, en_gv_eq, if_true, if_false, and_self, or_true, true_or, implies_true, List.length_cons, List.length_nil, Nat.reduceLT, Nat.reduceLeDiff, Nat.reduceAdd, Nat.zero_le, Option.toList_some, Option.toList_none, List.cons_append, List.nil_append, nI_1, rd_t, n1_0, n0_1, Bool.false_eq_true, false_implies, reduceCtorEq]
  exact loop (sp_pr S (sp_la S)).length 0 none none (Nat.zero_add _)
theorem cT_finish (H : CS c x ci N r S) : ∃ c' r', en_call 5 mT_finish [.ref 4] c x u (some (.int (sp_close S).1)) c' x u ∧ cr_at c' x ci N r' ∧ cS r' (sp_close S).2 ∧ cs_fr c c' := by
  have H0 := H
  obtain ⟨o0, o1, o4, o5, o8, o11, o16, o19, o22, o24⟩ := cs_o H.1
  obtain ⟨w0, w1, w4, w5, w8, w11, w14, w15, w16, w19, w22, w23, w24, w27, w28⟩ := cs_b H.1.1
  obtain ⟨k14, k15, k23, k27, k28⟩ := H.1.2.2.2.1
  cases ho : S.2.2.1 with
  | false =>
    have e1 := cs_nop H0 ho
    refine ⟨c, r, ?_, H0.1, ?_, cs_rf⟩
    · have : sp_close S = (0, S) := by unfold sp_close; rw [if_neg (fun q => by rw [ho] at q; cases q.1)]
      rw [this]
      refine en_call_is (by decide) (Nat.le_of_ble_eq_true rfl) cat_1 ?_
      show en_W (en_call 4) mT_finish 0 [some (.ref 4)] [] c x u _
      simp only [sT_finish_0, sT_finish_1, sT_finish_4, sT_finish_5, sT_finish_8, sT_finish_9, sT_finish_12, sT_finish_15, sT_finish_16, sT_finish_17, sT_finish_18, sT_finish_19, sT_finish_22, sT_finish_23, o0, o1, o4, o5, o8, o11, o16, o19, o22, o24, w0, w1, w4, w5, w8, w11, w14, w15, w16, w19, w22, w23, w24, w27, w28, k14, k15, k23, k27, k28, e1, nI_0, nI_one, nI_two, eq_self, en_rdO_eq, en_rdI_eq, en_rdN_eq, en_rdL_eq, true_and, and_true, List.getElem?_cons_succ, List.getElem?_cons_zero, en_gv_eq, if_true, if_false, and_self, or_true, true_or, implies_true, List.length_cons, List.length_nil, Nat.reduceLT, Nat.reduceLeDiff, Nat.reduceAdd, Nat.zero_le, Option.toList_some, Option.toList_none, List.cons_append, List.nil_append, nI_1, rd_t, n1_0, n0_1, Bool.false_eq_true, false_implies, reduceCtorEq, en_q]
    · have : sp_close S = (0, S) := by unfold sp_close; rw [if_neg (fun q => by rw [ho] at q; cases q.1)]
      rw [this]
      exact H0.2.1
  | true =>
    obtain ⟨h1, h2, h3⟩ := cs_la H0 ho
    have hne : (nI (sp_la S) = -1) = False := nI_ne_m1 (by omega)
    have K1 := cT_isWhole (u := u) H0 ho
    cases hf : sp_fine S with
    | false =>
      rw [hf] at K1
      have : sp_close S = (0, S) := by unfold sp_close; rw [if_neg (fun q => by rw [hf] at q; cases q.2)]
      rw [this]
      refine ⟨c, r, ?_, H0.1, H0.2.1, cs_rf⟩
      refine en_call_is (by decide) (Nat.le_of_ble_eq_true rfl) cat_1 ?_
      show en_W (en_call 4) mT_finish 0 [some (.ref 4)] [] c x u _
      simp only [sT_finish_0, sT_finish_1, sT_finish_4, sT_finish_5, sT_finish_8, sT_finish_9, sT_finish_12, sT_finish_15, sT_finish_16, sT_finish_17, sT_finish_18, sT_finish_19, sT_finish_22, sT_finish_23, o0, o1, o4, o5, o8, o11, o16, o19, o22, o24, w0, w1, w4, w5, w8, w11, w14, w15, w16, w19, w22, w23, w24, w27, w28, k14, k15, k23, k27, k28, h3, hne, en_rdO_eq, en_rdI_eq, en_rdN_eq, en_rdL_eq, true_and, and_true, List.getElem?_cons_succ, List.getElem?_cons_zero, en_gv_eq, if_true, if_false, and_self, or_true, true_or, implies_true, List.length_cons, List.length_nil, Nat.reduceLT, Nat.reduceLeDiff, Nat.reduceAdd, Nat.zero_le, Option.toList_some, Option.toList_none, List.cons_append, List.nil_append, nI_1, rd_t, n1_0, n0_1, Bool.false_eq_true, false_implies, reduceCtorEq]
      refine en_use (Nat.le_refl _) K1 ?_
      simp only [sT_finish_0, sT_finish_1, sT_finish_4, sT_finish_5, sT_finish_8, sT_finish_9, sT_finish_12, sT_finish_15, sT_finish_16, sT_finish_17, sT_finish_18, sT_finish_19, sT_finish_22, sT_finish_23, bi_f, en_rdO_eq, en_rdI_eq, en_rdN_eq, en_rdL_eq, true_and, and_true, List.getElem?_cons_succ, List.getElem?_cons_zero, en_gv_eq, if_true, if_false, and_self, or_true, true_or, implies_true, List.length_cons, List.length_nil, Nat.reduceLT, Nat.reduceLeDiff, Nat.reduceAdd, Nat.zero_le, Option.toList_some, Option.toList_none, List.cons_append, List.nil_append, nI_1, rd_t, n1_0, n0_1, Bool.false_eq_true, false_implies, reduceCtorEq, en_q]
    | true =>
      rw [hf] at K1
      have : sp_close S = (1, (S.1, S.2.1, false, S.2.2.2)) := by unfold sp_close; rw [if_pos ⟨ho, hf⟩]
      rw [this]
      obtain ⟨Hc, hcf⟩ := cr_setO H0.1 (-1)
      refine ⟨_, _, ?_, Hc, ?_, hcf⟩
      · refine en_call_is (by decide) (Nat.le_of_ble_eq_true rfl) cat_1 ?_
        show en_W (en_call 4) mT_finish 0 [some (.ref 4)] [] c x u _
        simp only [sT_finish_0, sT_finish_1, sT_finish_4, sT_finish_5, sT_finish_8, sT_finish_9, sT_finish_12, sT_finish_15, sT_finish_16, sT_finish_17, sT_finish_18, sT_finish_19, sT_finish_22, sT_finish_23, o0, o1, o4, o5, o8, o11, o16, o19, o22, o24, w0, w1, w4, w5, w8, w11, w14, w15, w16, w19, w22, w23, w24, w27, w28, k14, k15, k23, k27, k28, h3, hne, en_rdO_eq, en_rdI_eq, en_rdN_eq, en_rdL_eq, true_and, and_true, List.getElem?_cons_succ, List.getElem?_cons_zero, en_gv_eq, if_true, if_false, and_self, or_true, true_or, implies_true, List.length_cons, List.length_nil, Nat.reduceLT, Nat.reduceLeDiff, Nat.reduceAdd, Nat.zero_le, Option.toList_some, Option.toList_none, List.cons_append, List.nil_append, nI_1, rd_t, n1_0, n0_1, Bool.false_eq_true, false_implies, reduceCtorEq]
        refine en_use (Nat.le_refl _) K1 ?_
        simp only [sT_finish_0, sT_finish_1, sT_finish_4, sT_finish_5, sT_finish_8, sT_finish_9, sT_finish_12, sT_finish_15, sT_finish_16, sT_finish_17, sT_finish_18, sT_finish_19, sT_finish_22, sT_finish_23, o0, o1, o4, o5, o8, o11, o16, o19, o22, o24, w0, w1, w4, w5, w8, w11, w14, w15, w16, w19, w22, w23, w24, w27, w28, k14, k15, k23, k27, k28, bi_t, en_fk, List.set_cons_zero, List.set_cons_succ, en_rdO_eq, en_rdI_eq, en_rdN_eq, en_rdL_eq, true_and, and_true, List.getElem?_cons_succ, List.getElem?_cons_zero, en_gv_eq, if_true, if_false, and_self, or_true, true_or, implies_true, List.length_cons, List.length_nil, Nat.reduceLT, Nat.reduceLeDiff, Nat.reduceAdd, Nat.zero_le, Option.toList_some, Option.toList_none, List.cons_append, List.nil_append, nI_1, rd_t, n1_0, n0_1, Bool.false_eq_true, false_implies, reduceCtorEq, en_q]
      · obtain ⟨a, b, d, e, f, g, m⟩ := H0.2.1
        exact ⟨a, b, d, rfl, (fun q => by cases q), g, m⟩
theorem cT_start {ww : Int32} (H : CS c x ci N r S) : ∃ c' r', en_call 3 mT_start [.ref 4, .int ww] c x u (some (.int (sp_begin ww S).1)) c' x u ∧ cr_at c' x ci N r' ∧ cS r' (sp_begin ww S).2 ∧ cs_fr c c' := by
  have H0 := H
  have hn := H.2.2.2.1
  have KF := cR_isFull (u := u) (cs_T H).1
  have hlen := cs_len H.2.1
  rw [hlen.1] at KF
  obtain ⟨o0, o1, o4, o5, o8, o11, o16, o19, o22, o24⟩ := cs_o H.1
  obtain ⟨w0, w1, w4, w5, w8, w11, w14, w15, w16, w19, w22, w23, w24, w27, w28⟩ := cs_b H.1.1
  obtain ⟨k14, k15, k23, k27, k28⟩ := H.1.2.2.2.1
  have no : en_W (en_call 2) mT_start 0 [some (.ref 4), some (.int ww), none] [] c x u (en_q (some (.int (-1))) c x u) → sp_begin ww S = (-1, S) → ∃ c' r', en_call 3 mT_start [.ref 4, .int ww] c x u (some (.int (sp_begin ww S).1)) c' x u ∧ cr_at c' x ci N r' ∧ cS r' (sp_begin ww S).2 ∧ cs_fr c c' := by
    intro h e
    rw [e]
    exact ⟨c, r, en_call_is (by decide) (Nat.le_of_ble_eq_true rfl) cat_2 h, H0.1, H0.2.1, cs_rf⟩
  cases ho : S.2.2.1 with
  | true =>
    obtain ⟨h1, h2, h3⟩ := cs_la H0 ho
    have hne : (nI (sp_la S) = -1) = False := nI_ne_m1 (by omega)
    refine no ?_ (by unfold sp_begin; rw [if_neg (fun q => by rw [ho] at q; cases q.1)])
    by_cases z0 : ww = 0
    · simp only [sT_start_0, sT_start_1, sT_start_4, sT_start_5, sT_start_6, sT_start_9, sT_start_10, sT_start_11, sT_start_14, sT_start_15, sT_start_18, sT_start_19, sT_start_20, sT_start_21, sT_start_24, sT_start_25, sT_start_28, sT_start_29, sT_start_32, sT_start_33, sT_start_36, sT_start_39, sT_start_42, sT_start_43, sT_start_44, sT_start_45, sT_start_46, sT_start_49, sT_start_52, sT_start_55, sT_start_56, sT_start_59, sT_start_60, sT_start_63, sT_start_64, sT_start_65, sT_start_66, sT_start_69, sT_start_72, sT_start_73, sT_start_76, sT_start_79, sT_start_80, sT_start_83, sT_start_86, sT_start_87, sT_start_90, o0, o1, o4, o5, o8, o11, o16, o19, o22, o24, w0, w1, w4, w5, w8, w11, w14, w15, w16, w19, w22, w23, w24, w27, w28, k14, k15, k23, k27, k28, h3, hne, z0, nI_0, nI_one, nI_two, eq_self, en_rdO_eq, en_rdI_eq, en_rdN_eq, en_rdL_eq, true_and, and_true, List.getElem?_cons_succ, List.getElem?_cons_zero, en_gv_eq, if_true, if_false, and_self, or_true, true_or, implies_true, List.length_cons, List.length_nil, Nat.reduceLT, Nat.reduceLeDiff, Nat.reduceAdd, Nat.zero_le, Option.toList_some, Option.toList_none, List.cons_append, List.nil_append, nI_1, rd_t, n1_0, n0_1, Bool.false_eq_true, false_implies, reduceCtorEq, en_q]
    · by_cases z1 : ww = 1
      · simp only [sT_start_0, sT_start_1, sT_start_4, sT_start_5, sT_start_6, sT_start_9, sT_start_10, sT_start_11, sT_start_14, sT_start_15, sT_start_18, sT_start_19, sT_start_20, sT_start_21, sT_start_24, sT_start_25, sT_start_28, sT_start_29, sT_start_32, sT_start_33, sT_start_36, sT_start_39, sT_start_42, sT_start_43, sT_start_44, sT_start_45, sT_start_46, sT_start_49, sT_start_52, sT_start_55, sT_start_56, sT_start_59, sT_start_60, sT_start_63, sT_start_64, sT_start_65, sT_start_66, sT_start_69, sT_start_72, sT_start_73, sT_start_76, sT_start_79, sT_start_80, sT_start_83, sT_start_86, sT_start_87, sT_start_90, o0, o1, o4, o5, o8, o11, o16, o19, o22, o24, w0, w1, w4, w5, w8, w11, w14, w15, w16, w19, w22, w23, w24, w27, w28, k14, k15, k23, k27, k28, h3, hne, z1, nI_0, nI_one, nI_two, eq_self, en_rdO_eq, en_rdI_eq, en_rdN_eq, en_rdL_eq, true_and, and_true, List.getElem?_cons_succ, List.getElem?_cons_zero, en_gv_eq, if_true, if_false, and_self, or_true, true_or, implies_true, List.length_cons, List.length_nil, Nat.reduceLT, Nat.reduceLeDiff, Nat.reduceAdd, Nat.zero_le, Option.toList_some, Option.toList_none, List.cons_append, List.nil_append, nI_1, rd_t, n1_0, n0_1, Bool.false_eq_true, false_implies, reduceCtorEq, en_q]
      · by_cases z2 : ww = 2
        · have q1 : ((2 : Int32) = 0) = False := eq_false (by decide)
          have q2 : ((2 : Int32) = 1) = False := eq_false (by decide)
          simp only [sT_start_0, sT_start_1, sT_start_4, sT_start_5, sT_start_6, sT_start_9, sT_start_10, sT_start_11, sT_start_14, sT_start_15, sT_start_18, sT_start_19, sT_start_20, sT_start_21, sT_start_24, sT_start_25, sT_start_28, sT_start_29, sT_start_32, sT_start_33, sT_start_36, sT_start_39, sT_start_42, sT_start_43, sT_start_44, sT_start_45, sT_start_46, sT_start_49, sT_start_52, sT_start_55, sT_start_56, sT_start_59, sT_start_60, sT_start_63, sT_start_64, sT_start_65, sT_start_66, sT_start_69, sT_start_72, sT_start_73, sT_start_76, sT_start_79, sT_start_80, sT_start_83, sT_start_86, sT_start_87, sT_start_90, o0, o1, o4, o5, o8, o11, o16, o19, o22, o24, w0, w1, w4, w5, w8, w11, w14, w15, w16, w19, w22, w23, w24, w27, w28, k14, k15, k23, k27, k28, h3, hne, z2, q1, q2, nI_0, nI_one, nI_two, eq_self, en_rdO_eq, en_rdI_eq, en_rdN_eq, en_rdL_eq, true_and, and_true, List.getElem?_cons_succ, List.getElem?_cons_zero, en_gv_eq, if_true, if_false, and_self, or_true, true_or, implies_true, List.length_cons, List.length_nil, Nat.reduceLT, Nat.reduceLeDiff, Nat.reduceAdd, Nat.zero_le, Option.toList_some, Option.toList_none, List.cons_append, List.nil_append, nI_1, rd_t, n1_0, n0_1, Bool.false_eq_true, false_implies, reduceCtorEq, en_q]
        · simp only [sT_start_0, sT_start_1, sT_start_4, sT_start_5, sT_start_6, sT_start_9, sT_start_10, sT_start_11, sT_start_14, sT_start_15, sT_start_18, sT_start_19, sT_start_20, sT_start_21, sT_start_24, sT_start_25, sT_start_28, sT_start_29, sT_start_32, sT_start_33, sT_start_36, sT_start_39, sT_start_42, sT_start_43, sT_start_44, sT_start_45, sT_start_46, sT_start_49, sT_start_52, sT_start_55, sT_start_56, sT_start_59, sT_start_60, sT_start_63, sT_start_64, sT_start_65, sT_start_66, sT_start_69, sT_start_72, sT_start_73, sT_start_76, sT_start_79, sT_start_80, sT_start_83, sT_start_86, sT_start_87, sT_start_90, o0, o1, o4, o5, o8, o11, o16, o19, o22, o24, w0, w1, w4, w5, w8, w11, w14, w15, w16, w19, w22, w23, w24, w27, w28, k14, k15, k23, k27, k28, h3, hne, z0, z1, z2, nI_0, nI_one, nI_two, eq_self, en_rdO_eq, en_rdI_eq, en_rdN_eq, en_rdL_eq, true_and, and_true, List.getElem?_cons_succ, List.getElem?_cons_zero, en_gv_eq, if_true, if_false, and_self, or_true, true_or, implies_true, List.length_cons, List.length_nil, Nat.reduceLT, Nat.reduceLeDiff, Nat.reduceAdd, Nat.zero_le, Option.toList_some, Option.toList_none, List.cons_append, List.nil_append, nI_1, rd_t, n1_0, n0_1, Bool.false_eq_true, false_implies, reduceCtorEq, en_q]
  | false =>
    have e1 := cs_nop H0 ho
    by_cases hk : ww = 0 ∨ ww = 1 ∨ ww = 2
    · have head : ∀ K, en_W (en_call 2) mT_start 28 [some (.ref 4), some (.int ww), some (.int 1)] [] c x u K → en_W (en_call 2) mT_start 0 [some (.ref 4), some (.int ww), none] [] c x u K := by
        intro K h
        have q1 : ((2 : Int32) = 0) = False := eq_false (by decide)
        have q2 : ((2 : Int32) = 1) = False := eq_false (by decide)
        rcases hk with z | z | z
        · rw [z] at h ⊢
          simp only [sT_start_0, sT_start_1, sT_start_4, sT_start_5, sT_start_6, sT_start_9, sT_start_10, sT_start_11, sT_start_14, sT_start_15, sT_start_18, sT_start_19, sT_start_20, sT_start_21, sT_start_24, sT_start_25, sT_start_29, sT_start_32, sT_start_33, sT_start_36, sT_start_39, sT_start_42, sT_start_43, sT_start_44, sT_start_45, sT_start_46, sT_start_49, sT_start_52, sT_start_55, sT_start_56, sT_start_59, sT_start_60, sT_start_63, sT_start_64, sT_start_65, sT_start_66, sT_start_69, sT_start_72, sT_start_73, sT_start_76, sT_start_79, sT_start_80, sT_start_83, sT_start_86, sT_start_87, sT_start_90, o0, o1, o4, o5, o8, o11, o16, o19, o22, o24, w0, w1, w4, w5, w8, w11, w14, w15, w16, w19, w22, w23, w24, w27, w28, k14, k15, k23, k27, k28, e1, nI_0, nI_one, nI_two, eq_self, en_rdO_eq, en_rdI_eq, en_rdN_eq, en_rdL_eq, true_and, and_true, List.getElem?_cons_succ, List.getElem?_cons_zero, en_gv_eq, if_true, if_false, and_self, or_true, true_or, implies_true, List.length_cons, List.length_nil, Nat.reduceLT, Nat.reduceLeDiff, Nat.reduceAdd, Nat.zero_le, Option.toList_some, Option.toList_none, List.cons_append, List.nil_append, nI_1, rd_t, n1_0, n0_1, Bool.false_eq_true, false_implies, reduceCtorEq]
          exact h
        · rw [z] at h ⊢
          simp only [sT_start_0, sT_start_1, sT_start_4, sT_start_5, sT_start_6, sT_start_9, sT_start_10, sT_start_11, sT_start_14, sT_start_15, sT_start_18, sT_start_19, sT_start_20, sT_start_21, sT_start_24, sT_start_25, sT_start_29, sT_start_32, sT_start_33, sT_start_36, sT_start_39, sT_start_42, sT_start_43, sT_start_44, sT_start_45, sT_start_46, sT_start_49, sT_start_52, sT_start_55, sT_start_56, sT_start_59, sT_start_60, sT_start_63, sT_start_64, sT_start_65, sT_start_66, sT_start_69, sT_start_72, sT_start_73, sT_start_76, sT_start_79, sT_start_80, sT_start_83, sT_start_86, sT_start_87, sT_start_90, o0, o1, o4, o5, o8, o11, o16, o19, o22, o24, w0, w1, w4, w5, w8, w11, w14, w15, w16, w19, w22, w23, w24, w27, w28, k14, k15, k23, k27, k28, e1, nI_0, nI_one, nI_two, eq_self, en_rdO_eq, en_rdI_eq, en_rdN_eq, en_rdL_eq, true_and, and_true, List.getElem?_cons_succ, List.getElem?_cons_zero, en_gv_eq, if_true, if_false, and_self, or_true, true_or, implies_true, List.length_cons, List.length_nil, Nat.reduceLT, Nat.reduceLeDiff, Nat.reduceAdd, Nat.zero_le, Option.toList_some, Option.toList_none, List.cons_append, List.nil_append, nI_1, rd_t, n1_0, n0_1, Bool.false_eq_true, false_implies, reduceCtorEq]
          exact h
        · rw [z] at h ⊢
          simp only [sT_start_0, sT_start_1, sT_start_4, sT_start_5, sT_start_6, sT_start_9, sT_start_10, sT_start_11, sT_start_14, sT_start_15, sT_start_18, sT_start_19, sT_start_20, sT_start_21, sT_start_24, sT_start_25, sT_start_29, sT_start_32, sT_start_33, sT_start_36, sT_start_39, sT_start_42, sT_start_43, sT_start_44, sT_start_45, sT_start_46, sT_start_49, sT_start_52, sT_start_55, sT_start_56, sT_start_59, sT_start_60, sT_start_63, sT_start_64, sT_start_65, sT_start_66, sT_start_69, sT_start_72, sT_start_73, sT_start_76, sT_start_79, sT_start_80, sT_start_83, sT_start_86, sT_start_87, sT_start_90, o0, o1, o4, o5, o8, o11, o16, o19, o22, o24, w0, w1, w4, w5, w8, w11, w14, w15, w16, w19, w22, w23, w24, w27, w28, k14, k15, k23, k27, k28, e1, q1, q2, nI_0, nI_one, nI_two, eq_self, en_rdO_eq, en_rdI_eq, en_rdN_eq, en_rdL_eq, true_and, and_true, List.getElem?_cons_succ, List.getElem?_cons_zero, en_gv_eq, if_true, if_false, and_self, or_true, true_or, implies_true, List.length_cons, List.length_nil, Nat.reduceLT, Nat.reduceLeDiff, Nat.reduceAdd, Nat.zero_le, Option.toList_some, Option.toList_none, List.cons_append, List.nil_append, nI_1, rd_t, n1_0, n0_1, Bool.false_eq_true, false_implies, reduceCtorEq]
          exact h
      by_cases hfull : 300 ≤ S.2.1.length
      · rw [if_pos hfull] at KF
        refine no (head _ ?_) (by unfold sp_begin; rw [if_neg (fun q => by have := q.2.2; omega)])
        simp only [sT_start_0, sT_start_1, sT_start_4, sT_start_5, sT_start_6, sT_start_9, sT_start_10, sT_start_11, sT_start_14, sT_start_15, sT_start_18, sT_start_19, sT_start_20, sT_start_21, sT_start_24, sT_start_25, sT_start_28, sT_start_29, sT_start_32, sT_start_33, sT_start_36, sT_start_39, sT_start_42, sT_start_43, sT_start_44, sT_start_45, sT_start_46, sT_start_49, sT_start_52, sT_start_55, sT_start_56, sT_start_59, sT_start_60, sT_start_63, sT_start_64, sT_start_65, sT_start_66, sT_start_69, sT_start_72, sT_start_73, sT_start_76, sT_start_79, sT_start_80, sT_start_83, sT_start_86, sT_start_87, sT_start_90, o0, o1, o4, o5, o8, o11, o16, o19, o22, o24, w0, w1, w4, w5, w8, w11, w14, w15, w16, w19, w22, w23, w24, w27, w28, k14, k15, k23, k27, k28, en_rdO_eq, en_rdI_eq, en_rdN_eq, en_rdL_eq, true_and, and_true, List.getElem?_cons_succ, List.getElem?_cons_zero, en_gv_eq, if_true, if_false, and_self, or_true, true_or, implies_true, List.length_cons, List.length_nil, Nat.reduceLT, Nat.reduceLeDiff, Nat.reduceAdd, Nat.zero_le, Option.toList_some, Option.toList_none, List.cons_append, List.nil_append, nI_1, rd_t, n1_0, n0_1, Bool.false_eq_true, false_implies, reduceCtorEq]
        refine en_use (by decide) KF ?_
        simp only [sT_start_0, sT_start_1, sT_start_4, sT_start_5, sT_start_6, sT_start_9, sT_start_10, sT_start_11, sT_start_14, sT_start_15, sT_start_18, sT_start_19, sT_start_20, sT_start_21, sT_start_24, sT_start_25, sT_start_28, sT_start_29, sT_start_32, sT_start_33, sT_start_36, sT_start_39, sT_start_42, sT_start_43, sT_start_44, sT_start_45, sT_start_46, sT_start_49, sT_start_52, sT_start_55, sT_start_56, sT_start_59, sT_start_60, sT_start_63, sT_start_64, sT_start_65, sT_start_66, sT_start_69, sT_start_72, sT_start_73, sT_start_76, sT_start_79, sT_start_80, sT_start_83, sT_start_86, sT_start_87, sT_start_90, en_rdO_eq, en_rdI_eq, en_rdN_eq, en_rdL_eq, true_and, and_true, List.getElem?_cons_succ, List.getElem?_cons_zero, en_gv_eq, if_true, if_false, and_self, or_true, true_or, implies_true, List.length_cons, List.length_nil, Nat.reduceLT, Nat.reduceLeDiff, Nat.reduceAdd, Nat.zero_le, Option.toList_some, Option.toList_none, List.cons_append, List.nil_append, nI_1, rd_t, n1_0, n0_1, Bool.false_eq_true, false_implies, reduceCtorEq, en_q]
      · rw [if_neg hfull] at KF
        have hwk : ∃ k, k ≤ 2 ∧ ww = nI k ∧ ww.toNatClampNeg = k := by
          rcases hk with z | z | z
          · exact ⟨0, by omega, z, by rw [z]; rfl⟩
          · exact ⟨1, by omega, z, by rw [z]; rfl⟩
          · exact ⟨2, by omega, z, by rw [z]; rfl⟩
        obtain ⟨kd, hkd, hkw, hkc⟩ := hwk
        have hS : sp_begin ww S = (nI S.2.1.length, (S.1, S.2.1 ++ [(kd, [], [], [])], true, S.2.2.2)) := by
          unfold sp_begin
          rw [if_pos ⟨ho, hk, by omega⟩, hkc]
        rw [hS]
        have K0 := cR_rows (u := u) (cs_T H0).1
        rw [hlen.1] at K0
        obtain ⟨Ha, haf⟩ := cr_setO H0.1 (nI S.2.1.length)
        obtain ⟨Hb, hbf⟩ := cr_setK Ha (upd (r_kf r) S.2.1.length ww)
        obtain ⟨c1, K1, R1, F1⟩ := cR_addEmpty (u := u) (cr_rw Hb (k := 5) (by decide)) (by show (r_R r 5).length < 300; rw [hlen.1]; omega)
        obtain ⟨H1, f1⟩ := cr_rows Hb (k := 5) (by decide) (Nat.le_refl _) R1 F1
        obtain ⟨c2, K2, R2, F2⟩ := cR_addEmpty (u := u) (cr_rw H1 (k := 8) (by decide)) (by show (r_R r 8).length < 300; rw [hlen.2.1]; omega)
        obtain ⟨H2, f2⟩ := cr_rows H1 (k := 8) (by decide) (Nat.le_refl _) R2 F2
        obtain ⟨c3, K3, R3, F3⟩ := cR_addEmpty (u := u) (cr_rw H2 (k := 11) (by decide)) (by show (r_R r 11).length < 300; rw [hlen.2.2]; omega)
        obtain ⟨H3, f3⟩ := cr_rows H2 (k := 11) (by decide) (Nat.le_refl _) R3 F3
        have same : ∀ (f : Nat → Nat) (k : Nat), r_setN f k (f k) = f := fun f k => by
          funext j
          unfold r_setN va_up
          by_cases e : j = k
          · rw [if_pos e, e]
          · rw [if_neg e]
        have nn : ∀ (f : Nat → Nat), r_setN (r_setN (r_setN f 5 (f 5)) 8 (r_setN f 5 (f 5) 8)) 11 (r_setN (r_setN f 5 (f 5)) 8 (r_setN f 5 (f 5) 8) 11) = f := fun f => by rw [same, same, same]
        have H3' := H3
        rw [nn ci, nn N] at H3'
        refine ⟨c3, _, ?_, H3', ?_, cs_tr (cs_tr (cs_tr (cs_tr haf hbf) f1) f2) f3⟩
        · have i1 : vp_in (nI S.2.1.length) 300 := vp_in_nI (by omega) (by omega)
          have i2 : (nI S.2.1.length).toNatClampNeg = S.2.1.length := nI_clamp (by omega)
          obtain ⟨a0, a1, a4, a5, a8, a11, -⟩ := cs_o Ha
          obtain ⟨b0, b1, b4, b5, b8, b11, -⟩ := cs_o Hb
          obtain ⟨d0, d1, d4, d5, d8, d11, -⟩ := cs_o H1
          obtain ⟨g0, g1, g4, g5, g8, g11, -⟩ := cs_o H2
          obtain ⟨m0, m1, m4, -⟩ := cs_o H3
          have a14 := Ha.2.2.2.1.1
          have o1 : r_op (r_setO r (nI S.2.1.length)) = nI S.2.1.length := rfl
          have o2 : r_op (r_setK (r_setO r (nI S.2.1.length)) (upd (r_kf r) S.2.1.length ww)) = nI S.2.1.length := rfl
          have o3 : ∀ (r : cr_T) k rs, r_op (r_setR r k rs) = r_op r := fun _ _ _ => rfl
          have kfe : r_kf (r_setO r (nI S.2.1.length)) = r_kf r := rfl
          rw [kfe] at a14
          refine en_call_is (by decide) (Nat.le_of_ble_eq_true rfl) cat_2 ?_
          refine head _ ?_
          simp only [sT_start_0, sT_start_1, sT_start_4, sT_start_5, sT_start_6, sT_start_9, sT_start_10, sT_start_11, sT_start_14, sT_start_15, sT_start_18, sT_start_19, sT_start_20, sT_start_21, sT_start_24, sT_start_25, sT_start_28, sT_start_29, sT_start_32, sT_start_33, sT_start_36, sT_start_39, sT_start_42, sT_start_43, sT_start_44, sT_start_45, sT_start_46, sT_start_49, sT_start_52, sT_start_55, sT_start_56, sT_start_59, sT_start_60, sT_start_63, sT_start_64, sT_start_65, sT_start_66, sT_start_69, sT_start_72, sT_start_73, sT_start_76, sT_start_79, sT_start_80, sT_start_83, sT_start_86, sT_start_87, sT_start_90, o0, o1, o4, o5, o8, o11, o16, o19, o22, o24, w0, w1, w4, w5, w8, w11, w14, w15, w16, w19, w22, w23, w24, w27, w28, k14, k15, k23, k27, k28, en_rdO_eq, en_rdI_eq, en_rdN_eq, en_rdL_eq, true_and, and_true, List.getElem?_cons_succ, List.getElem?_cons_zero, en_gv_eq, if_true, if_false, and_self, or_true, true_or, implies_true, List.length_cons, List.length_nil, Nat.reduceLT, Nat.reduceLeDiff, Nat.reduceAdd, Nat.zero_le, Option.toList_some, Option.toList_none, List.cons_append, List.nil_append, nI_1, rd_t, n1_0, n0_1, Bool.false_eq_true, false_implies, reduceCtorEq]
          refine en_use (by decide) KF ?_
          simp only [sT_start_0, sT_start_1, sT_start_4, sT_start_5, sT_start_6, sT_start_9, sT_start_10, sT_start_11, sT_start_14, sT_start_15, sT_start_18, sT_start_19, sT_start_20, sT_start_21, sT_start_24, sT_start_25, sT_start_28, sT_start_29, sT_start_32, sT_start_33, sT_start_36, sT_start_39, sT_start_42, sT_start_43, sT_start_44, sT_start_45, sT_start_46, sT_start_49, sT_start_52, sT_start_55, sT_start_56, sT_start_59, sT_start_60, sT_start_63, sT_start_64, sT_start_65, sT_start_66, sT_start_69, sT_start_72, sT_start_73, sT_start_76, sT_start_79, sT_start_80, sT_start_83, sT_start_86, sT_start_87, sT_start_90, o0, o1, o4, o5, o8, o11, o16, o19, o22, o24, w0, w1, w4, w5, w8, w11, w14, w15, w16, w19, w22, w23, w24, w27, w28, k14, k15, k23, k27, k28, en_rdO_eq, en_rdI_eq, en_rdN_eq, en_rdL_eq, true_and, and_true, List.getElem?_cons_succ, List.getElem?_cons_zero, en_gv_eq, if_true, if_false, and_self, or_true, true_or, implies_true, List.length_cons, List.length_nil, Nat.reduceLT, Nat.reduceLeDiff, Nat.reduceAdd, Nat.zero_le, Option.toList_some, Option.toList_none, List.cons_append, List.nil_append, nI_1, rd_t, n1_0, n0_1, Bool.false_eq_true, false_implies, reduceCtorEq]
          refine en_use (by decide) K0 ?_
          simp only [sT_start_0, sT_start_1, sT_start_4, sT_start_5, sT_start_6, sT_start_9, sT_start_10, sT_start_11, sT_start_14, sT_start_15, sT_start_18, sT_start_19, sT_start_20, sT_start_21, sT_start_24, sT_start_25, sT_start_28, sT_start_29, sT_start_32, sT_start_33, sT_start_36, sT_start_39, sT_start_42, sT_start_43, sT_start_44, sT_start_45, sT_start_46, sT_start_49, sT_start_52, sT_start_55, sT_start_56, sT_start_59, sT_start_60, sT_start_63, sT_start_64, sT_start_65, sT_start_66, sT_start_69, sT_start_72, sT_start_73, sT_start_76, sT_start_79, sT_start_80, sT_start_83, sT_start_86, sT_start_87, sT_start_90, o0, o1, o4, o5, o8, o11, o16, o19, o22, o24, w0, w1, w4, w5, w8, w11, w14, w15, w16, w19, w22, w23, w24, w27, w28, k14, k15, k23, k27, k28, en_fk, List.set_cons_zero, List.set_cons_succ, a4, a14, o1, i1, i2, en_rdO_eq, en_rdI_eq, en_rdN_eq, en_rdL_eq, true_and, and_true, List.getElem?_cons_succ, List.getElem?_cons_zero, en_gv_eq, if_true, if_false, and_self, or_true, true_or, implies_true, List.length_cons, List.length_nil, Nat.reduceLT, Nat.reduceLeDiff, Nat.reduceAdd, Nat.zero_le, Option.toList_some, Option.toList_none, List.cons_append, List.nil_append, nI_1, rd_t, n1_0, n0_1, Bool.false_eq_true, false_implies, reduceCtorEq]
          simp only [sT_start_0, sT_start_1, sT_start_4, sT_start_5, sT_start_6, sT_start_9, sT_start_10, sT_start_11, sT_start_14, sT_start_15, sT_start_18, sT_start_19, sT_start_20, sT_start_21, sT_start_24, sT_start_25, sT_start_28, sT_start_29, sT_start_32, sT_start_33, sT_start_36, sT_start_39, sT_start_42, sT_start_43, sT_start_44, sT_start_45, sT_start_46, sT_start_49, sT_start_52, sT_start_55, sT_start_56, sT_start_59, sT_start_60, sT_start_63, sT_start_64, sT_start_65, sT_start_66, sT_start_69, sT_start_72, sT_start_73, sT_start_76, sT_start_79, sT_start_80, sT_start_83, sT_start_86, sT_start_87, sT_start_90, b4, b5, w4, w5, en_rdO_eq, en_rdI_eq, en_rdN_eq, en_rdL_eq, true_and, and_true, List.getElem?_cons_succ, List.getElem?_cons_zero, en_gv_eq, if_true, if_false, and_self, or_true, true_or, implies_true, List.length_cons, List.length_nil, Nat.reduceLT, Nat.reduceLeDiff, Nat.reduceAdd, Nat.zero_le, Option.toList_some, Option.toList_none, List.cons_append, List.nil_append, nI_1, rd_t, n1_0, n0_1, Bool.false_eq_true, false_implies, reduceCtorEq]
          refine en_use (by decide) K1 ?_
          simp only [sT_start_0, sT_start_1, sT_start_4, sT_start_5, sT_start_6, sT_start_9, sT_start_10, sT_start_11, sT_start_14, sT_start_15, sT_start_18, sT_start_19, sT_start_20, sT_start_21, sT_start_24, sT_start_25, sT_start_28, sT_start_29, sT_start_32, sT_start_33, sT_start_36, sT_start_39, sT_start_42, sT_start_43, sT_start_44, sT_start_45, sT_start_46, sT_start_49, sT_start_52, sT_start_55, sT_start_56, sT_start_59, sT_start_60, sT_start_63, sT_start_64, sT_start_65, sT_start_66, sT_start_69, sT_start_72, sT_start_73, sT_start_76, sT_start_79, sT_start_80, sT_start_83, sT_start_86, sT_start_87, sT_start_90, d4, d8, w4, w8, en_rdO_eq, en_rdI_eq, en_rdN_eq, en_rdL_eq, true_and, and_true, List.getElem?_cons_succ, List.getElem?_cons_zero, en_gv_eq, if_true, if_false, and_self, or_true, true_or, implies_true, List.length_cons, List.length_nil, Nat.reduceLT, Nat.reduceLeDiff, Nat.reduceAdd, Nat.zero_le, Option.toList_some, Option.toList_none, List.cons_append, List.nil_append, nI_1, rd_t, n1_0, n0_1, Bool.false_eq_true, false_implies, reduceCtorEq]
          refine en_use (by decide) K2 ?_
          simp only [sT_start_0, sT_start_1, sT_start_4, sT_start_5, sT_start_6, sT_start_9, sT_start_10, sT_start_11, sT_start_14, sT_start_15, sT_start_18, sT_start_19, sT_start_20, sT_start_21, sT_start_24, sT_start_25, sT_start_28, sT_start_29, sT_start_32, sT_start_33, sT_start_36, sT_start_39, sT_start_42, sT_start_43, sT_start_44, sT_start_45, sT_start_46, sT_start_49, sT_start_52, sT_start_55, sT_start_56, sT_start_59, sT_start_60, sT_start_63, sT_start_64, sT_start_65, sT_start_66, sT_start_69, sT_start_72, sT_start_73, sT_start_76, sT_start_79, sT_start_80, sT_start_83, sT_start_86, sT_start_87, sT_start_90, g4, g11, w4, w11, en_rdO_eq, en_rdI_eq, en_rdN_eq, en_rdL_eq, true_and, and_true, List.getElem?_cons_succ, List.getElem?_cons_zero, en_gv_eq, if_true, if_false, and_self, or_true, true_or, implies_true, List.length_cons, List.length_nil, Nat.reduceLT, Nat.reduceLeDiff, Nat.reduceAdd, Nat.zero_le, Option.toList_some, Option.toList_none, List.cons_append, List.nil_append, nI_1, rd_t, n1_0, n0_1, Bool.false_eq_true, false_implies, reduceCtorEq]
          refine en_use (by decide) K3 ?_
          simp only [sT_start_0, sT_start_1, sT_start_4, sT_start_5, sT_start_6, sT_start_9, sT_start_10, sT_start_11, sT_start_14, sT_start_15, sT_start_18, sT_start_19, sT_start_20, sT_start_21, sT_start_24, sT_start_25, sT_start_28, sT_start_29, sT_start_32, sT_start_33, sT_start_36, sT_start_39, sT_start_42, sT_start_43, sT_start_44, sT_start_45, sT_start_46, sT_start_49, sT_start_52, sT_start_55, sT_start_56, sT_start_59, sT_start_60, sT_start_63, sT_start_64, sT_start_65, sT_start_66, sT_start_69, sT_start_72, sT_start_73, sT_start_76, sT_start_79, sT_start_80, sT_start_83, sT_start_86, sT_start_87, sT_start_90, m4, w4, o2, o3, en_rdO_eq, en_rdI_eq, en_rdN_eq, en_rdL_eq, true_and, and_true, List.getElem?_cons_succ, List.getElem?_cons_zero, en_gv_eq, if_true, if_false, and_self, or_true, true_or, implies_true, List.length_cons, List.length_nil, Nat.reduceLT, Nat.reduceLeDiff, Nat.reduceAdd, Nat.zero_le, Option.toList_some, Option.toList_none, List.cons_append, List.nil_append, nI_1, rd_t, n1_0, n0_1, Bool.false_eq_true, false_implies, reduceCtorEq, en_q]
        · obtain ⟨⟨h5, h8, h11, h16, h19⟩, hb, hd, he, hf, hg, hm⟩ := H0.2.1
          have la' : sp_la (S.1, S.2.1 ++ [(kd, [], [], [])], true, S.2.2.2) = S.2.1.length := by unfold sp_la; simp
          refine ⟨⟨?_, ?_, ?_, h16, h19⟩, hb, fun i hi => ?_, ?_, fun _ v hv hvv => ?_, fun v hv => ?_, hm⟩
          · show r_R r 5 ++ [[]] = (S.2.1 ++ [(kd, [], [], [])]).map (fun t : sp_T => t.2.1)
            rw [h5, List.map_append]; rfl
          · show r_R r 8 ++ [[]] = (S.2.1 ++ [(kd, [], [], [])]).map (fun t : sp_T => t.2.2.1)
            rw [h8, List.map_append]; rfl
          · show r_R r 11 ++ [[]] = (S.2.1 ++ [(kd, [], [], [])]).map (fun t : sp_T => pf t.2.2.2)
            rw [h11, List.map_append]; rfl
          · show upd (r_kf r) S.2.1.length ww i = _
            have hi : i < S.2.1.length + 1 := by simpa using hi
            unfold sp_kd sp_at
            show _ = nI ((S.2.1 ++ [(kd, [], [], [])]).getD i sp_t0).1
            by_cases e : i = S.2.1.length
            · rw [e, pk_us, List.getD_eq_getElem?_getD, List.getElem?_append_right (Nat.le_refl _), hkw]
              simp
            · rw [pk_un e, List.getD_eq_getElem?_getD, List.getElem?_append_left (by omega), ← List.getD_eq_getElem?_getD]
              exact hd i (by omega)
          · rw [la']; rfl
          · rw [la']
            have hnd : sp_nd (S.1, S.2.1 ++ [(kd, [], [], [])], true, S.2.2.2) S.2.1.length = [] := by
              unfold sp_nd sp_at
              rw [List.getD_eq_getElem?_getD, List.getElem?_append_right (Nat.le_refl _)]
              simp
            rw [hnd]
            have hvl : v < 1000 := by have := H0.2.2.1; have hv : v < S.1.length := hv; omega
            constructor
            · intro q
              have q : r_ff r v = nI S.2.1.length := q
              rcases hg v hvl with z | ⟨k, ⟨hk1, hk2⟩, z⟩
              · rw [z] at q
                exact absurd q.symm (fun e => by have := nI_ne_m1 (n := S.2.1.length) (by omega); rw [e] at this; exact this.mp rfl)
              · rw [z] at q
                have := (nI_eq (by omega) (by omega)).mp q
                omega
            · intro q
              cases q
          · rcases hg v hv with z | ⟨k, ⟨hk1, hk2⟩, z⟩
            · exact Or.inl z
            · exact Or.inr ⟨k, ⟨by show k < (S.2.1 ++ [_]).length; simp; omega, hk2⟩, z⟩
    · have z0 : ¬ ww = 0 := fun q => hk (Or.inl q)
      have z1 : ¬ ww = 1 := fun q => hk (Or.inr (Or.inl q))
      have z2 : ¬ ww = 2 := fun q => hk (Or.inr (Or.inr q))
      refine no ?_ (by unfold sp_begin; rw [if_neg (fun q => hk q.2.1)])
      simp only [sT_start_0, sT_start_1, sT_start_4, sT_start_5, sT_start_6, sT_start_9, sT_start_10, sT_start_11, sT_start_14, sT_start_15, sT_start_18, sT_start_19, sT_start_20, sT_start_21, sT_start_24, sT_start_25, sT_start_28, sT_start_29, sT_start_32, sT_start_33, sT_start_36, sT_start_39, sT_start_42, sT_start_43, sT_start_44, sT_start_45, sT_start_46, sT_start_49, sT_start_52, sT_start_55, sT_start_56, sT_start_59, sT_start_60, sT_start_63, sT_start_64, sT_start_65, sT_start_66, sT_start_69, sT_start_72, sT_start_73, sT_start_76, sT_start_79, sT_start_80, sT_start_83, sT_start_86, sT_start_87, sT_start_90, o0, o1, o4, o5, o8, o11, o16, o19, o22, o24, w0, w1, w4, w5, w8, w11, w14, w15, w16, w19, w22, w23, w24, w27, w28, k14, k15, k23, k27, k28, e1, z0, z1, z2, nI_0, nI_one, nI_two, eq_self, en_rdO_eq, en_rdI_eq, en_rdN_eq, en_rdL_eq, true_and, and_true, List.getElem?_cons_succ, List.getElem?_cons_zero, en_gv_eq, if_true, if_false, and_self, or_true, true_or, implies_true, List.length_cons, List.length_nil, Nat.reduceLT, Nat.reduceLeDiff, Nat.reduceAdd, Nat.zero_le, Option.toList_some, Option.toList_none, List.cons_append, List.nil_append, nI_1, rd_t, n1_0, n0_1, Bool.false_eq_true, false_implies, reduceCtorEq, en_q]
end TG
