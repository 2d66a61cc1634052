/-! the other side: save, again -/
section MI
variable {c : en_H} {x u : Nat} {g g' : Nat → Nat → Int32} {AP : Nat → Int64} {ms : Int32} {S : sp_S} {t : sp_T}
theorem mrel_40 (h : mrel g AP S) : mrel g AP S := h
theorem cM_again {w : Int32} (H : MO c g AP ms S) (hx : 46 ≤ x) : mOut mM_again [.ref 29, .int w] c x u (sp_again w S).1 (sp_again w S).2 := by
  have hb := mw_b H.2.2
  have H0 := H
  unfold sp_again
  rcases sp_ixl (n := S.2.2.2.2.2.length) (by omega) w with ⟨h1, h2⟩ | ⟨i, hi, rfl, h3, h4⟩
  · have hx := hx
    obtain ⟨m0, m29, m30, m31, m32, m33, m34, m35, m36, m37, m38, m39, m40, m41, m42, m43, m44, m45⟩ := mc_o H.1
    obtain ⟨v29, v30, v31, v32, v33, v34, v35, v36, v37, v38, v39, v40, v41, v42, v43, v44, v45⟩ := mx_b hx
    rw [if_neg h2]
    refine mOut_s H0 ?_
    refine en_call_is (by decide) (Nat.le_of_ble_eq_true rfl) cat_2 ?_
    show en_W (en_call 6) mM_again 0 [some (.ref 29), some (.int w), none] [] c x u _
    by_cases h0 : w < 0
    · simp only [sM_again_0, sM_again_1, sM_again_2, sM_again_5, sM_again_6, sM_again_9, sM_again_10, sM_again_11, sM_again_14, sM_again_17, sM_again_18, sM_again_19, sM_again_20, sM_again_21, sM_again_24, sM_again_25, sM_again_26, sM_again_29, sM_again_30, sM_again_31, sM_again_32, sM_again_33, sM_again_36, sM_again_39, sM_again_40, sM_again_43, sM_again_44, sM_again_45, sM_again_48, sM_again_51, sM_again_52, sM_again_53, sM_again_54, sM_again_55, sM_again_56, sM_again_57, sM_again_60, sM_again_63, sM_again_64, sM_again_67, m0, m29, m30, m31, m32, m33, m34, m35, m36, m37, m38, m39, m40, m41, m42, m43, m44, m45, v29, v30, v31, v32, v33, v34, v35, v36, v37, v38, v39, v40, v41, v42, v43, v44, v45, en_fk, List.set_cons_zero, List.set_cons_succ, h0, en_rdO_eq, en_rdI_eq, en_rdN_eq, en_rdL_eq, true_and, and_true, List.getElem?_cons_succ, List.getElem?_cons_zero, en_gv_eq, if_true, if_false, and_self, or_true, true_or, implies_true, List.length_cons, List.length_nil, Nat.reduceLT, Nat.reduceLeDiff, Nat.reduceAdd, Nat.zero_le, Option.toList_some, Option.toList_none, List.cons_append, List.nil_append, nI_1, rd_t, n1_0, n0_1, Bool.false_eq_true, false_implies, reduceCtorEq, en_q]
    · have h1 : ¬ w < nI S.2.2.2.2.2.length := by rcases h1 with q | q; exact absurd q h0; exact Int32.not_lt.mpr q
      simp only [sM_again_0, sM_again_1, sM_again_2, sM_again_5, sM_again_6, sM_again_9, sM_again_10, sM_again_11, sM_again_14, sM_again_17, sM_again_18, sM_again_19, sM_again_20, sM_again_21, sM_again_24, sM_again_25, sM_again_26, sM_again_29, sM_again_30, sM_again_31, sM_again_32, sM_again_33, sM_again_36, sM_again_39, sM_again_40, sM_again_43, sM_again_44, sM_again_45, sM_again_48, sM_again_51, sM_again_52, sM_again_53, sM_again_54, sM_again_55, sM_again_56, sM_again_57, sM_again_60, sM_again_63, sM_again_64, sM_again_67, m0, m29, m30, m31, m32, m33, m34, m35, m36, m37, m38, m39, m40, m41, m42, m43, m44, m45, v29, v30, v31, v32, v33, v34, v35, v36, v37, v38, v39, v40, v41, v42, v43, v44, v45, en_fk, List.set_cons_zero, List.set_cons_succ, h0, h1, en_rdO_eq, en_rdI_eq, en_rdN_eq, en_rdL_eq, true_and, and_true, List.getElem?_cons_succ, List.getElem?_cons_zero, en_gv_eq, if_true, if_false, and_self, or_true, true_or, implies_true, List.length_cons, List.length_nil, Nat.reduceLT, Nat.reduceLeDiff, Nat.reduceAdd, Nat.zero_le, Option.toList_some, Option.toList_none, List.cons_append, List.nil_append, nI_1, rd_t, n1_0, n0_1, Bool.false_eq_true, false_implies, reduceCtorEq, en_q]
  · rw [h3, if_pos ⟨h4, hi⟩]
    have hlw := mw_sav H.2.2 hi
    obtain ⟨e1, e2⟩ := H.2.1.2.2.2.2.2 i hi
    generalize hl : S.2.2.2.2.2.getD i [] = l at *
    have hl2 := hlw.2.1
    refine mOut_of (Nat.le_refl _) (nOut_of (by decide) (Nat.le_of_ble_eq_true rfl) cat_2 ?_)
    show en_W (en_call 6) mM_again 0 [some (.ref 29), some (.int (nI i)), none] [] c x u _
    have y1 : ¬ nI i < 0 := nI_pos (by omega)
    have y2 : nI i < nI S.2.2.2.2.2.length := nI_lt hi (by omega)
    have y3 : vp_in (nI i) 300 := vp_in_nI (by omega) (by omega)
    have loop : ∀ (n k : Nat) (c1 : en_H) (f : Nat → Int32), k + n = l.length → mc c1 (va_up g 44 f) AP (mo S (nI l.length)) → (∀ j, j < k → f j = nI (l.getD j 0)) → mf c c1 → en_W (en_call 6) mM_again 31 [some (.ref 29), some (.int (nI i)), some (.int (nI k))] [] c1 x u (mK c x u (sp_push S.2.2.2.2.1 l S).1 (sp_push S.2.2.2.2.1 l S).2) := by
      obtain ⟨v29, v30, v31, v32, v33, v34, v35, v36, v37, v38, v39, v40, v41, v42, v43, v44, v45⟩ := mx_b hx
      intro n
      induction n with
      | zero =>
        intro k c1 f hk H1 hf1 hfr
        have hk : k = l.length := by omega
        subst hk
        obtain ⟨n0, n29, -⟩ := mc_o H1
        have q1 : nI l.length ≤ nI l.length := Int32.le_refl _
        obtain ⟨c2, g2, AP2, ms2, K, P1, P2, P3⟩ := cM_push (u := u) (l := l) (c := c1) (g := va_up g 44 f) ⟨H1, mrel_44 H0.2.1, H0.2.2⟩ hx hl2 hf1
        rw [sM_again_31]
        simp only [sM_again_0, sM_again_1, sM_again_2, sM_again_5, sM_again_6, sM_again_9, sM_again_10, sM_again_11, sM_again_14, sM_again_17, sM_again_18, sM_again_19, sM_again_20, sM_again_21, sM_again_24, sM_again_25, sM_again_26, sM_again_29, sM_again_30, sM_again_32, sM_again_33, sM_again_36, sM_again_39, sM_again_40, sM_again_43, sM_again_44, sM_again_45, sM_again_48, sM_again_51, sM_again_52, sM_again_53, sM_again_54, sM_again_55, sM_again_56, sM_again_57, sM_again_60, sM_again_63, sM_again_64, sM_again_67, n29, v29, q1, en_rdO_eq, en_rdI_eq, en_rdN_eq, en_rdL_eq, true_and, and_true, List.getElem?_cons_succ, List.getElem?_cons_zero, en_gv_eq, if_true, if_false, and_self, or_true, true_or, implies_true, List.length_cons, List.length_nil, Nat.reduceLT, Nat.reduceLeDiff, Nat.reduceAdd, Nat.zero_le, Option.toList_some, Option.toList_none, List.cons_append, List.nil_append, nI_1, rd_t, n1_0, n0_1, Bool.false_eq_true, false_implies, reduceCtorEq]
        refine en_use (by decide) K ?_
        simp only [sM_again_0, sM_again_1, sM_again_2, sM_again_5, sM_again_6, sM_again_9, sM_again_10, sM_again_11, sM_again_14, sM_again_17, sM_again_18, sM_again_19, sM_again_20, sM_again_21, sM_again_24, sM_again_25, sM_again_26, sM_again_29, sM_again_30, sM_again_32, sM_again_33, sM_again_36, sM_again_39, sM_again_40, sM_again_43, sM_again_44, sM_again_45, sM_again_48, sM_again_51, sM_again_52, sM_again_53, sM_again_54, sM_again_55, sM_again_56, sM_again_57, sM_again_60, sM_again_63, sM_again_64, sM_again_67, en_rdO_eq, en_rdI_eq, en_rdN_eq, en_rdL_eq, true_and, and_true, List.getElem?_cons_succ, List.getElem?_cons_zero, en_gv_eq, if_true, if_false, and_self, or_true, true_or, implies_true, List.length_cons, List.length_nil, Nat.reduceLT, Nat.reduceLeDiff, Nat.reduceAdd, Nat.zero_le, Option.toList_some, Option.toList_none, List.cons_append, List.nil_append, nI_1, rd_t, n1_0, n0_1, Bool.false_eq_true, false_implies, reduceCtorEq]
        exact ⟨rfl, rfl, rfl, g2, AP2, ms2, P1, P2, mf_tr hfr P3⟩
      | succ n ih =>
        intro k c1 f hk H1 hf1 hfr
        have hlt : k < l.length := by omega
        obtain ⟨n0, n29, n30, n31, n32, n33, n34, n35, n36, n37, n38, n39, n40, n41, n42, n43, n44, n45⟩ := mc_o H1
        have n42 : c1 42 = .inl (0, 300000, .inl (g 42)) := n42
        have n44 : c1 44 = .inl (0, 1000, .inl f) := n44
        have q1 : ¬ nI l.length ≤ nI k := nI_ge hlt (by omega)
        have q4 : vp_in (nI (1000 * i + k)) 300000 := vp_in_nI (by omega) (by omega)
        have q5 : (nI (1000 * i + k)).toNatClampNeg = 1000 * i + k := nI_clamp (by omega)
        have q6 : vp_in (nI k) 1000 := vp_in_nI (by omega) (by omega)
        have q7 : (nI k).toNatClampNeg = k := nI_clamp (by omega)
        have q8 := e2 k hlt
        have Hd : mc (en_up c1 44 (.inl (0, 1000, .inl (upd f k (nI (l.getD k 0)))))) (va_up (va_up g 44 f) 44 (upd f k (nI (l.getD k 0)))) AP (mo S (nI l.length)) := mc_up H1 (by omega) (by omega) (by omega)
        rw [va_up2] at Hd
        have IH := ih (k + 1) _ _ (by omega) Hd (fun j hj => by
          by_cases e : j = k
          · rw [e, pk_us]
          · rw [pk_un e]
            exact hf1 j (by omega)) (mf_tr hfr (mf_up (by omega) (by omega)))
        rw [sM_again_31]
        simp only [sM_again_0, sM_again_1, sM_again_2, sM_again_5, sM_again_6, sM_again_9, sM_again_10, sM_again_11, sM_again_14, sM_again_17, sM_again_18, sM_again_19, sM_again_20, sM_again_21, sM_again_24, sM_again_25, sM_again_26, sM_again_29, sM_again_30, sM_again_32, sM_again_33, sM_again_36, sM_again_39, sM_again_40, sM_again_43, sM_again_44, sM_again_45, sM_again_48, sM_again_51, sM_again_52, sM_again_53, sM_again_54, sM_again_55, sM_again_56, sM_again_57, sM_again_60, sM_again_63, sM_again_64, sM_again_67, n29, n42, n44, v29, v42, v44, q1, nI_mul, nI_add, q4, q5, q6, q7, q8, en_rdO_eq, en_rdI_eq, en_rdN_eq, en_rdL_eq, true_and, and_true, List.getElem?_cons_succ, List.getElem?_cons_zero, en_gv_eq, if_true, if_false, and_self, or_true, true_or, implies_true, List.length_cons, List.length_nil, Nat.reduceLT, Nat.reduceLeDiff, Nat.reduceAdd, Nat.zero_le, Option.toList_some, Option.toList_none, List.cons_append, List.nil_append, nI_1, rd_t, n1_0, n0_1, Bool.false_eq_true, false_implies, reduceCtorEq]
        exact IH
    have H1 := mc_obj (mo S (nI l.length)) H0.1
    obtain ⟨m0, m29, m30, m31, m32, m33, m34, m35, m36, m37, m38, m39, m40, m41, m42, m43, m44, m45⟩ := mc_o H.1
    obtain ⟨v29, v30, v31, v32, v33, v34, v35, v36, v37, v38, v39, v40, v41, v42, v43, v44, v45⟩ := mx_b hx
    simp only [sM_again_0, sM_again_1, sM_again_2, sM_again_5, sM_again_6, sM_again_9, sM_again_10, sM_again_11, sM_again_14, sM_again_17, sM_again_18, sM_again_19, sM_again_20, sM_again_21, sM_again_24, sM_again_25, sM_again_26, sM_again_29, sM_again_30, sM_again_32, sM_again_33, sM_again_36, sM_again_39, sM_again_40, sM_again_43, sM_again_44, sM_again_45, sM_again_48, sM_again_51, sM_again_52, sM_again_53, sM_again_54, sM_again_55, sM_again_56, sM_again_57, sM_again_60, sM_again_63, sM_again_64, sM_again_67, m0, m29, m30, m31, m32, m33, m34, m35, m36, m37, m38, m39, m40, m41, m42, m43, m44, m45, v29, v30, v31, v32, v33, v34, v35, v36, v37, v38, v39, v40, v41, v42, v43, v44, v45, en_fk, List.set_cons_zero, List.set_cons_succ, y1, y2, y3, h3, e1, en_rdO_eq, en_rdI_eq, en_rdN_eq, en_rdL_eq, true_and, and_true, List.getElem?_cons_succ, List.getElem?_cons_zero, en_gv_eq, if_true, if_false, and_self, or_true, true_or, implies_true, List.length_cons, List.length_nil, Nat.reduceLT, Nat.reduceLeDiff, Nat.reduceAdd, Nat.zero_le, Option.toList_some, Option.toList_none, List.cons_append, List.nil_append, nI_1, rd_t, n1_0, n0_1, Bool.false_eq_true, false_implies, reduceCtorEq]
    exact loop l.length 0 _ (g 44) (Nat.zero_add _) (by rw [va_self]; exact H1) (fun j hj => absurd hj (Nat.not_lt_zero _)) (mf_up (by omega) (by omega))
theorem sv_app {pl sv : List (List Nat)} {l : List Nat} {r : Nat} : (sv ++ [l]).getD r [] = if r = sv.length then l else sv.getD r [] := by
  by_cases e : r = sv.length
  · rw [if_pos e, e, List.getD_eq_getElem?_getD, List.getElem?_append_right (Nat.le_refl _), Nat.sub_self]
    rfl
  · rw [if_neg e]
    by_cases h : r < sv.length
    · rw [List.getD_eq_getElem?_getD, List.getElem?_append_left h, ← List.getD_eq_getElem?_getD]
    · rw [List.getD_eq_getElem?_getD, List.getElem?_eq_none (by rw [List.length_append]; simp; omega), List.getD_eq_getElem?_getD, List.getElem?_eq_none (by omega)]
theorem cM_save (H : MO c g AP ms S) (hx : 46 ≤ x) : mOut mM_save [.ref 29] c x u (sp_save S).1 (sp_save S).2 := by
  have hb := mw_b H.2.2
  have H0 := H
  have KS := cM_allSym (u := u) H hx
  obtain ⟨cf, KF, HF, hF⟩ := cM_fail (u := u) (f := 5) H hx
  obtain ⟨m0, m29, m30, m31, m32, m33, m34, m35, m36, m37, m38, m39, m40, m41, m42, m43, m44, m45⟩ := mc_o H.1
  obtain ⟨v29, v30, v31, v32, v33, v34, v35, v36, v37, v38, v39, v40, v41, v42, v43, v44, v45⟩ := mx_b hx
  unfold sp_save
  have y1 : (nI S.2.2.2.2.1.length = 0) = (S.2.2.2.2.1.length = 0) := propext (nI_eq (b := 0) (by omega) (by omega))
  have y2 : (nI S.2.2.2.2.2.length = nI 300) = (S.2.2.2.2.2.length = 300) := propext (nI_eq (by omega) (by omega))
  by_cases hz : S.2.2.2.2.1.length = 0
  · rw [if_pos (Or.inl hz)]
    refine mOut_s H0 ?_
    refine en_call_is (by decide) (Nat.le_of_ble_eq_true rfl) cat_1 ?_
    show en_W (en_call 6) mM_save 0 [some (.ref 29), none] [] c x u _
    simp only [sM_save_0, sM_save_1, sM_save_2, sM_save_5, sM_save_6, sM_save_9, sM_save_12, sM_save_13, sM_save_16, sM_save_19, sM_save_22, sM_save_23, sM_save_24, sM_save_25, sM_save_28, sM_save_29, sM_save_32, sM_save_33, sM_save_36, sM_save_37, sM_save_38, sM_save_39, sM_save_40, sM_save_42, sM_save_45, sM_save_46, sM_save_47, sM_save_50, sM_save_51, sM_save_52, sM_save_55, sM_save_56, sM_save_59, sM_save_60, sM_save_63, sM_save_64, sM_save_67, sM_save_68, sM_save_69, sM_save_70, sM_save_71, sM_save_72, sM_save_73, sM_save_74, sM_save_75, sM_save_78, sM_save_79, sM_save_82, sM_save_83, sM_save_84, sM_save_85, sM_save_88, sM_save_89, sM_save_92, sM_save_95, sM_save_96, sM_save_99, sM_save_100, sM_save_101, sM_save_102, sM_save_103, sM_save_106, sM_save_109, sM_save_110, sM_save_113, sM_save_114, sM_save_115, sM_save_116, sM_save_117, sM_save_118, sM_save_119, sM_save_120, sM_save_123, sM_save_126, sM_save_127, sM_save_128, sM_save_131, sM_save_132, sM_save_133, sM_save_136, sM_save_137, sM_save_140, sM_save_141, sM_save_142, m0, m29, m30, m31, m32, m33, m34, m35, m36, m37, m38, m39, m40, m41, m42, m43, m44, m45, v29, v30, v31, v32, v33, v34, v35, v36, v37, v38, v39, v40, v41, v42, v43, v44, v45, en_fk, List.set_cons_zero, List.set_cons_succ, y1, if_pos hz, en_rdO_eq, en_rdI_eq, en_rdN_eq, en_rdL_eq, true_and, and_true, List.getElem?_cons_succ, List.getElem?_cons_zero, en_gv_eq, if_true, if_false, and_self, or_true, true_or, implies_true, List.length_cons, List.length_nil, Nat.reduceLT, Nat.reduceLeDiff, Nat.reduceAdd, Nat.zero_le, Option.toList_some, Option.toList_none, List.cons_append, List.nil_append, nI_1, rd_t, n1_0, n0_1, Bool.false_eq_true, false_implies, reduceCtorEq, en_q]
  · by_cases hf : S.2.2.2.2.2.length = 300
    · rw [if_pos (Or.inr (by omega))]
      refine mOut_s H0 ?_
      refine en_call_is (by decide) (Nat.le_of_ble_eq_true rfl) cat_1 ?_
      show en_W (en_call 6) mM_save 0 [some (.ref 29), none] [] c x u _
      simp only [sM_save_0, sM_save_1, sM_save_2, sM_save_5, sM_save_6, sM_save_9, sM_save_12, sM_save_13, sM_save_16, sM_save_19, sM_save_22, sM_save_23, sM_save_24, sM_save_25, sM_save_28, sM_save_29, sM_save_32, sM_save_33, sM_save_36, sM_save_37, sM_save_38, sM_save_39, sM_save_40, sM_save_42, sM_save_45, sM_save_46, sM_save_47, sM_save_50, sM_save_51, sM_save_52, sM_save_55, sM_save_56, sM_save_59, sM_save_60, sM_save_63, sM_save_64, sM_save_67, sM_save_68, sM_save_69, sM_save_70, sM_save_71, sM_save_72, sM_save_73, sM_save_74, sM_save_75, sM_save_78, sM_save_79, sM_save_82, sM_save_83, sM_save_84, sM_save_85, sM_save_88, sM_save_89, sM_save_92, sM_save_95, sM_save_96, sM_save_99, sM_save_100, sM_save_101, sM_save_102, sM_save_103, sM_save_106, sM_save_109, sM_save_110, sM_save_113, sM_save_114, sM_save_115, sM_save_116, sM_save_117, sM_save_118, sM_save_119, sM_save_120, sM_save_123, sM_save_126, sM_save_127, sM_save_128, sM_save_131, sM_save_132, sM_save_133, sM_save_136, sM_save_137, sM_save_140, sM_save_141, sM_save_142, m0, m29, m30, m31, m32, m33, m34, m35, m36, m37, m38, m39, m40, m41, m42, m43, m44, m45, v29, v30, v31, v32, v33, v34, v35, v36, v37, v38, v39, v40, v41, v42, v43, v44, v45, en_fk, List.set_cons_zero, List.set_cons_succ, y1, y2, if_neg hz, if_pos hf, en_rdO_eq, en_rdI_eq, en_rdN_eq, en_rdL_eq, true_and, and_true, List.getElem?_cons_succ, List.getElem?_cons_zero, en_gv_eq, if_true, if_false, and_self, or_true, true_or, implies_true, List.length_cons, List.length_nil, Nat.reduceLT, Nat.reduceLeDiff, Nat.reduceAdd, Nat.zero_le, Option.toList_some, Option.toList_none, List.cons_append, List.nil_append, nI_1, rd_t, n1_0, n0_1, Bool.false_eq_true, false_implies, reduceCtorEq, en_q]
    · rw [if_neg (fun q => by omega)]
      obtain ⟨t, ht⟩ : ∃ t, S.2.2.2.2.1.length = t + 1 := ⟨S.2.2.2.2.1.length - 1, by omega⟩
      have htl : t < S.2.2.2.2.1.length := by omega
      rw [show S.2.2.2.2.1.length - 1 = t by omega]
      have e0 : nI S.2.2.2.2.1.length - 1 = nI t := by rw [ht]; exact nI_pred t
      have hrw := mw_row H.2.2 htl
      obtain ⟨e1, e2⟩ := H.2.1.2.2.2.2.1 t htl
      generalize hl : sp_row S t = l at *
      have hl2 := hrw.2.1
      have i1 : vp_in (nI t) 201 := vp_in_nI (by omega) (by omega)
      have i2 : (nI t).toNatClampNeg = t := nI_clamp (by omega)
      have y3 : (nI (sp_sum S.2.2.2.2.1 + sp_sum S.2.2.2.2.2 + l.length) ≤ nI 40000) = (sp_sum S.2.2.2.2.1 + sp_sum S.2.2.2.2.2 + l.length ≤ 40000) := propext (nI_leI (by omega) (by omega))
      refine mOut_of (Nat.le_refl _) (nOut_of (by decide) (Nat.le_of_ble_eq_true rfl) cat_1 ?_)
      show en_W (en_call 6) mM_save 0 [some (.ref 29), none] [] c x u _
      by_cases hq : 40000 < sp_sum S.2.2.2.2.1 + sp_sum S.2.2.2.2.2 + l.length
      · rw [if_pos hq]
        have hq2 : ¬ (sp_sum S.2.2.2.2.1 + sp_sum S.2.2.2.2.2 + l.length ≤ 40000) := by omega
        simp only [sM_save_0, sM_save_1, sM_save_2, sM_save_5, sM_save_6, sM_save_9, sM_save_12, sM_save_13, sM_save_16, sM_save_19, sM_save_22, sM_save_23, sM_save_24, sM_save_25, sM_save_28, sM_save_29, sM_save_32, sM_save_33, sM_save_36, sM_save_37, sM_save_38, sM_save_39, sM_save_40, sM_save_42, sM_save_45, sM_save_46, sM_save_47, sM_save_50, sM_save_51, sM_save_52, sM_save_55, sM_save_56, sM_save_59, sM_save_60, sM_save_63, sM_save_64, sM_save_67, sM_save_68, sM_save_69, sM_save_70, sM_save_71, sM_save_72, sM_save_73, sM_save_74, sM_save_75, sM_save_78, sM_save_79, sM_save_82, sM_save_83, sM_save_84, sM_save_85, sM_save_88, sM_save_89, sM_save_92, sM_save_95, sM_save_96, sM_save_99, sM_save_100, sM_save_101, sM_save_102, sM_save_103, sM_save_106, sM_save_109, sM_save_110, sM_save_113, sM_save_114, sM_save_115, sM_save_116, sM_save_117, sM_save_118, sM_save_119, sM_save_120, sM_save_123, sM_save_126, sM_save_127, sM_save_128, sM_save_131, sM_save_132, sM_save_133, sM_save_136, sM_save_137, sM_save_140, sM_save_141, sM_save_142, m0, m29, m30, m31, m32, m33, m34, m35, m36, m37, m38, m39, m40, m41, m42, m43, m44, m45, v29, v30, v31, v32, v33, v34, v35, v36, v37, v38, v39, v40, v41, v42, v43, v44, v45, en_fk, List.set_cons_zero, List.set_cons_succ, y1, y2, if_neg hz, if_neg hf, en_rdO_eq, en_rdI_eq, en_rdN_eq, en_rdL_eq, true_and, and_true, List.getElem?_cons_succ, List.getElem?_cons_zero, en_gv_eq, if_true, if_false, and_self, or_true, true_or, implies_true, List.length_cons, List.length_nil, Nat.reduceLT, Nat.reduceLeDiff, Nat.reduceAdd, Nat.zero_le, Option.toList_some, Option.toList_none, List.cons_append, List.nil_append, nI_1, rd_t, n1_0, n0_1, Bool.false_eq_true, false_implies, reduceCtorEq]
        refine en_use (by decide) KS ?_
        simp only [sM_save_0, sM_save_1, sM_save_2, sM_save_5, sM_save_6, sM_save_9, sM_save_12, sM_save_13, sM_save_16, sM_save_19, sM_save_22, sM_save_23, sM_save_24, sM_save_25, sM_save_28, sM_save_29, sM_save_32, sM_save_33, sM_save_36, sM_save_37, sM_save_38, sM_save_39, sM_save_40, sM_save_42, sM_save_45, sM_save_46, sM_save_47, sM_save_50, sM_save_51, sM_save_52, sM_save_55, sM_save_56, sM_save_59, sM_save_60, sM_save_63, sM_save_64, sM_save_67, sM_save_68, sM_save_69, sM_save_70, sM_save_71, sM_save_72, sM_save_73, sM_save_74, sM_save_75, sM_save_78, sM_save_79, sM_save_82, sM_save_83, sM_save_84, sM_save_85, sM_save_88, sM_save_89, sM_save_92, sM_save_95, sM_save_96, sM_save_99, sM_save_100, sM_save_101, sM_save_102, sM_save_103, sM_save_106, sM_save_109, sM_save_110, sM_save_113, sM_save_114, sM_save_115, sM_save_116, sM_save_117, sM_save_118, sM_save_119, sM_save_120, sM_save_123, sM_save_126, sM_save_127, sM_save_128, sM_save_131, sM_save_132, sM_save_133, sM_save_136, sM_save_137, sM_save_140, sM_save_141, sM_save_142, m0, m29, m30, m31, m32, m33, m34, m35, m36, m37, m38, m39, m40, m41, m42, m43, m44, m45, v29, v30, v31, v32, v33, v34, v35, v36, v37, v38, v39, v40, v41, v42, v43, v44, v45, en_fk, List.set_cons_zero, List.set_cons_succ, e0, i1, i2, e1, nI_add, y3, if_neg hq2, en_rdO_eq, en_rdI_eq, en_rdN_eq, en_rdL_eq, true_and, and_true, List.getElem?_cons_succ, List.getElem?_cons_zero, en_gv_eq, if_true, if_false, and_self, or_true, true_or, implies_true, List.length_cons, List.length_nil, Nat.reduceLT, Nat.reduceLeDiff, Nat.reduceAdd, Nat.zero_le, Option.toList_some, Option.toList_none, List.cons_append, List.nil_append, nI_1, rd_t, n1_0, n0_1, Bool.false_eq_true, false_implies, reduceCtorEq]
        refine en_use (by decide) KF ?_
        simp only [sM_save_0, sM_save_1, sM_save_2, sM_save_5, sM_save_6, sM_save_9, sM_save_12, sM_save_13, sM_save_16, sM_save_19, sM_save_22, sM_save_23, sM_save_24, sM_save_25, sM_save_28, sM_save_29, sM_save_32, sM_save_33, sM_save_36, sM_save_37, sM_save_38, sM_save_39, sM_save_40, sM_save_42, sM_save_45, sM_save_46, sM_save_47, sM_save_50, sM_save_51, sM_save_52, sM_save_55, sM_save_56, sM_save_59, sM_save_60, sM_save_63, sM_save_64, sM_save_67, sM_save_68, sM_save_69, sM_save_70, sM_save_71, sM_save_72, sM_save_73, sM_save_74, sM_save_75, sM_save_78, sM_save_79, sM_save_82, sM_save_83, sM_save_84, sM_save_85, sM_save_88, sM_save_89, sM_save_92, sM_save_95, sM_save_96, sM_save_99, sM_save_100, sM_save_101, sM_save_102, sM_save_103, sM_save_106, sM_save_109, sM_save_110, sM_save_113, sM_save_114, sM_save_115, sM_save_116, sM_save_117, sM_save_118, sM_save_119, sM_save_120, sM_save_123, sM_save_126, sM_save_127, sM_save_128, sM_save_131, sM_save_132, sM_save_133, sM_save_136, sM_save_137, sM_save_140, sM_save_141, sM_save_142, en_rdO_eq, en_rdI_eq, en_rdN_eq, en_rdL_eq, true_and, and_true, List.getElem?_cons_succ, List.getElem?_cons_zero, en_gv_eq, if_true, if_false, and_self, or_true, true_or, implies_true, List.length_cons, List.length_nil, Nat.reduceLT, Nat.reduceLeDiff, Nat.reduceAdd, Nat.zero_le, Option.toList_some, Option.toList_none, List.cons_append, List.nil_append, nI_1, rd_t, n1_0, n0_1, Bool.false_eq_true, false_implies, reduceCtorEq]
        exact ⟨rfl, rfl, rfl, g, AP, _, HF, mrel_e H0.2.1, hF⟩
      · rw [if_neg hq]
        have hq2 : sp_sum S.2.2.2.2.1 + sp_sum S.2.2.2.2.2 + l.length ≤ 40000 := by omega
        have s1 : vp_in (nI S.2.2.2.2.2.length) 300 := vp_in_nI (by omega) (by omega)
        have s2 : (nI S.2.2.2.2.2.length).toNatClampNeg = S.2.2.2.2.2.length := nI_clamp (by omega)
        have s3 : nI (S.2.2.2.2.2.length + 1) - 1 = nI S.2.2.2.2.2.length := nI_pred _
        have loop : ∀ (n k : Nat) (c1 : en_H) (f : Nat → Int32), k + n = l.length → mc c1 (va_up (va_up g 43 (upd (g 43) S.2.2.2.2.2.length (nI l.length))) 42 f) AP (mo S ms) → (∀ j, j < k → f (1000 * S.2.2.2.2.2.length + j) = nI (l.getD j 0)) → (∀ j, j < 1000 * S.2.2.2.2.2.length → f j = g 42 j) → mf c c1 → en_W (en_call 6) mM_save 73 [some (.ref 29), some (.int (nI k))] [] c1 x u (mK c x u (nI S.2.2.2.2.2.length) (sp_pile S S.2.2.2.2.1 (S.2.2.2.2.2 ++ [l]))) := by
          intro n
          induction n with
          | zero =>
            intro k c1 f hk H1 hf1 hf2 hfr
            have hk : k = l.length := by omega
            subst hk
            obtain ⟨n0, n29, n30, n31, n32, n33, n34, n35, n36, n37, n38, n39, n40, n41, n42, n43, n44, n45⟩ := mc_o H1
            have n41 : c1 41 = .inl (0, 201, .inl (g 41)) := n41
            have q1 : nI l.length ≤ nI l.length := Int32.le_refl _
            have He := mc_obj (mo (sp_pile S S.2.2.2.2.1 (S.2.2.2.2.2 ++ [l])) ms) H1
            have hmo : mo (sp_pile S S.2.2.2.2.1 (S.2.2.2.2.2 ++ [l])) ms = [.int 0, .ref 30, .int (nI S.1.length), .ref 31, .ref 32, .ref 33, .ref 34, .ref 35, .ref 36, .ref 37, .ref 38, .int (nI S.2.1.length), .int (bi S.2.2.1), .ref 39, .ref 40, .ref 41, .int (nI S.2.2.2.2.1.length), .ref 42, .ref 43, .int (nI (S.2.2.2.2.2.length + 1)), .ref 44, .int ms, .ref 45] := by
              unfold mo
              show [_, _, _, _, _, _, _, _, _, _, _, _, _, _, _, _, _, _, _, Value.int (nI (S.2.2.2.2.2 ++ [l]).length), _, _, _] = _
              rw [List.length_append]
              rfl
            rw [sM_save_73]
            simp only [sM_save_0, sM_save_1, sM_save_2, sM_save_5, sM_save_6, sM_save_9, sM_save_12, sM_save_13, sM_save_16, sM_save_19, sM_save_22, sM_save_23, sM_save_24, sM_save_25, sM_save_28, sM_save_29, sM_save_32, sM_save_33, sM_save_36, sM_save_37, sM_save_38, sM_save_39, sM_save_40, sM_save_42, sM_save_45, sM_save_46, sM_save_47, sM_save_50, sM_save_51, sM_save_52, sM_save_55, sM_save_56, sM_save_59, sM_save_60, sM_save_63, sM_save_64, sM_save_67, sM_save_68, sM_save_69, sM_save_70, sM_save_71, sM_save_72, sM_save_74, sM_save_75, sM_save_78, sM_save_79, sM_save_82, sM_save_83, sM_save_84, sM_save_85, sM_save_88, sM_save_89, sM_save_92, sM_save_95, sM_save_96, sM_save_99, sM_save_100, sM_save_101, sM_save_102, sM_save_103, sM_save_106, sM_save_109, sM_save_110, sM_save_113, sM_save_114, sM_save_115, sM_save_116, sM_save_117, sM_save_118, sM_save_119, sM_save_120, sM_save_123, sM_save_126, sM_save_127, sM_save_128, sM_save_131, sM_save_132, sM_save_133, sM_save_136, sM_save_137, sM_save_140, sM_save_141, sM_save_142, n29, n41, v29, v41, e0, i1, i2, e1, q1, up_ap, en_fk, List.set_cons_zero, List.set_cons_succ, s3, en_rdO_eq, en_rdI_eq, en_rdN_eq, en_rdL_eq, true_and, and_true, List.getElem?_cons_succ, List.getElem?_cons_zero, en_gv_eq, if_true, if_false, and_self, or_true, true_or, implies_true, List.length_cons, List.length_nil, Nat.reduceLT, Nat.reduceLeDiff, Nat.reduceAdd, Nat.zero_le, Option.toList_some, Option.toList_none, List.cons_append, List.nil_append, nI_1, rd_t, n1_0, n0_1, Bool.false_eq_true, false_implies, reduceCtorEq]
            refine ⟨rfl, rfl, rfl, _, AP, ms, by rw [hmo] at He ⊢; exact He, ?_, mf_tr hfr (mf_up (by omega) (by omega))⟩
            obtain ⟨a1, a2, a3, a4, a5, a6⟩ := H0.2.1
            refine ⟨a1, a2, a3, a4, a5, fun r hr => ?_⟩
            have hr : r < S.2.2.2.2.2.length + 1 := by
              have : r < (S.2.2.2.2.2 ++ [l]).length := hr
              simpa using this
            show ml f (upd (g 43) S.2.2.2.2.2.length (nI l.length)) 1000 r ((S.2.2.2.2.2 ++ [l]).getD r [])
            rw [sv_app (pl := [])]
            by_cases e : r = S.2.2.2.2.2.length
            · rw [if_pos e, e]
              exact ⟨pk_us, hf1⟩
            · rw [if_neg e]
              have hr2 : r < S.2.2.2.2.2.length := by omega
              have hrl := (mw_sav H0.2.2 hr2).2.1
              refine ⟨(pk_un e).trans (a6 r hr2).1, fun k hk => ?_⟩
              rw [hf2 _ (by omega)]
              exact (a6 r hr2).2 k hk
          | succ n ih =>
            intro k c1 f hk H1 hf1 hf2 hfr
            have hlt : k < l.length := by omega
            obtain ⟨n0, n29, n30, n31, n32, n33, n34, n35, n36, n37, n38, n39, n40, n41, n42, n43, n44, n45⟩ := mc_o H1
            have n40 : c1 40 = .inl (0, 201000, .inl (g 40)) := n40
            have n41 : c1 41 = .inl (0, 201, .inl (g 41)) := n41
            have n42 : c1 42 = .inl (0, 300000, .inl f) := n42
            have q1 : ¬ nI l.length ≤ nI k := nI_ge hlt (by omega)
            have q4 : vp_in (nI (1000 * S.2.2.2.2.2.length + k)) 300000 := vp_in_nI (by omega) (by omega)
            have q5 : (nI (1000 * S.2.2.2.2.2.length + k)).toNatClampNeg = 1000 * S.2.2.2.2.2.length + k := nI_clamp (by omega)
            have q6 : vp_in (nI (1000 * t + k)) 201000 := vp_in_nI (by omega) (by omega)
            have q7 : (nI (1000 * t + k)).toNatClampNeg = 1000 * t + k := nI_clamp (by omega)
            have q8 := e2 k hlt
            have Hd : mc (en_up c1 42 (.inl (0, 300000, .inl (upd f (1000 * S.2.2.2.2.2.length + k) (nI (l.getD k 0)))))) (va_up (va_up (va_up g 43 (upd (g 43) S.2.2.2.2.2.length (nI l.length))) 42 f) 42 (upd f (1000 * S.2.2.2.2.2.length + k) (nI (l.getD k 0)))) AP (mo S ms) := mc_up H1 (by omega) (by omega) (by omega)
            rw [va_up2] at Hd
            have IH := ih (k + 1) _ _ (by omega) Hd (fun j hj => by
              by_cases e : j = k
              · rw [e, pk_us]
              · rw [pk_un (by omega)]
                exact hf1 j (by omega)) (fun j hj => by rw [pk_un (by omega)]; exact hf2 j hj) (mf_tr hfr (mf_up (by omega) (by omega)))
            rw [sM_save_73]
            simp only [sM_save_0, sM_save_1, sM_save_2, sM_save_5, sM_save_6, sM_save_9, sM_save_12, sM_save_13, sM_save_16, sM_save_19, sM_save_22, sM_save_23, sM_save_24, sM_save_25, sM_save_28, sM_save_29, sM_save_32, sM_save_33, sM_save_36, sM_save_37, sM_save_38, sM_save_39, sM_save_40, sM_save_42, sM_save_45, sM_save_46, sM_save_47, sM_save_50, sM_save_51, sM_save_52, sM_save_55, sM_save_56, sM_save_59, sM_save_60, sM_save_63, sM_save_64, sM_save_67, sM_save_68, sM_save_69, sM_save_70, sM_save_71, sM_save_72, sM_save_74, sM_save_75, sM_save_78, sM_save_79, sM_save_82, sM_save_83, sM_save_84, sM_save_85, sM_save_88, sM_save_89, sM_save_92, sM_save_95, sM_save_96, sM_save_99, sM_save_100, sM_save_101, sM_save_102, sM_save_103, sM_save_106, sM_save_109, sM_save_110, sM_save_113, sM_save_114, sM_save_115, sM_save_116, sM_save_117, sM_save_118, sM_save_119, sM_save_120, sM_save_123, sM_save_126, sM_save_127, sM_save_128, sM_save_131, sM_save_132, sM_save_133, sM_save_136, sM_save_137, sM_save_140, sM_save_141, sM_save_142, n29, n40, n41, n42, v29, v40, v41, v42, e0, i1, i2, e1, q1, nI_mul, nI_add, q4, q5, q6, q7, q8, en_rdO_eq, en_rdI_eq, en_rdN_eq, en_rdL_eq, true_and, and_true, List.getElem?_cons_succ, List.getElem?_cons_zero, en_gv_eq, if_true, if_false, and_self, or_true, true_or, implies_true, List.length_cons, List.length_nil, Nat.reduceLT, Nat.reduceLeDiff, Nat.reduceAdd, Nat.zero_le, Option.toList_some, Option.toList_none, List.cons_append, List.nil_append, nI_1, rd_t, n1_0, n0_1, Bool.false_eq_true, false_implies, reduceCtorEq]
            exact IH
        have Hc : mc (en_up c 43 (.inl (0, 300, .inl (upd (g 43) S.2.2.2.2.2.length (nI l.length))))) (va_up g 43 (upd (g 43) S.2.2.2.2.2.length (nI l.length))) AP (mo S ms) := mc_up H0.1 (by omega) (by omega) (by omega)
        simp only [sM_save_0, sM_save_1, sM_save_2, sM_save_5, sM_save_6, sM_save_9, sM_save_12, sM_save_13, sM_save_16, sM_save_19, sM_save_22, sM_save_23, sM_save_24, sM_save_25, sM_save_28, sM_save_29, sM_save_32, sM_save_33, sM_save_36, sM_save_37, sM_save_38, sM_save_39, sM_save_40, sM_save_42, sM_save_45, sM_save_46, sM_save_47, sM_save_50, sM_save_51, sM_save_52, sM_save_55, sM_save_56, sM_save_59, sM_save_60, sM_save_63, sM_save_64, sM_save_67, sM_save_68, sM_save_69, sM_save_70, sM_save_71, sM_save_72, sM_save_74, sM_save_75, sM_save_78, sM_save_79, sM_save_82, sM_save_83, sM_save_84, sM_save_85, sM_save_88, sM_save_89, sM_save_92, sM_save_95, sM_save_96, sM_save_99, sM_save_100, sM_save_101, sM_save_102, sM_save_103, sM_save_106, sM_save_109, sM_save_110, sM_save_113, sM_save_114, sM_save_115, sM_save_116, sM_save_117, sM_save_118, sM_save_119, sM_save_120, sM_save_123, sM_save_126, sM_save_127, sM_save_128, sM_save_131, sM_save_132, sM_save_133, sM_save_136, sM_save_137, sM_save_140, sM_save_141, sM_save_142, m0, m29, m30, m31, m32, m33, m34, m35, m36, m37, m38, m39, m40, m41, m42, m43, m44, m45, v29, v30, v31, v32, v33, v34, v35, v36, v37, v38, v39, v40, v41, v42, v43, v44, v45, en_fk, List.set_cons_zero, List.set_cons_succ, y1, y2, if_neg hz, if_neg hf, en_rdO_eq, en_rdI_eq, en_rdN_eq, en_rdL_eq, true_and, and_true, List.getElem?_cons_succ, List.getElem?_cons_zero, en_gv_eq, if_true, if_false, and_self, or_true, true_or, implies_true, List.length_cons, List.length_nil, Nat.reduceLT, Nat.reduceLeDiff, Nat.reduceAdd, Nat.zero_le, Option.toList_some, Option.toList_none, List.cons_append, List.nil_append, nI_1, rd_t, n1_0, n0_1, Bool.false_eq_true, false_implies, reduceCtorEq]
        refine en_use (by decide) KS ?_
        simp only [sM_save_0, sM_save_1, sM_save_2, sM_save_5, sM_save_6, sM_save_9, sM_save_12, sM_save_13, sM_save_16, sM_save_19, sM_save_22, sM_save_23, sM_save_24, sM_save_25, sM_save_28, sM_save_29, sM_save_32, sM_save_33, sM_save_36, sM_save_37, sM_save_38, sM_save_39, sM_save_40, sM_save_42, sM_save_45, sM_save_46, sM_save_47, sM_save_50, sM_save_51, sM_save_52, sM_save_55, sM_save_56, sM_save_59, sM_save_60, sM_save_63, sM_save_64, sM_save_67, sM_save_68, sM_save_69, sM_save_70, sM_save_71, sM_save_72, sM_save_74, sM_save_75, sM_save_78, sM_save_79, sM_save_82, sM_save_83, sM_save_84, sM_save_85, sM_save_88, sM_save_89, sM_save_92, sM_save_95, sM_save_96, sM_save_99, sM_save_100, sM_save_101, sM_save_102, sM_save_103, sM_save_106, sM_save_109, sM_save_110, sM_save_113, sM_save_114, sM_save_115, sM_save_116, sM_save_117, sM_save_118, sM_save_119, sM_save_120, sM_save_123, sM_save_126, sM_save_127, sM_save_128, sM_save_131, sM_save_132, sM_save_133, sM_save_136, sM_save_137, sM_save_140, sM_save_141, sM_save_142, m0, m29, m30, m31, m32, m33, m34, m35, m36, m37, m38, m39, m40, m41, m42, m43, m44, m45, v29, v30, v31, v32, v33, v34, v35, v36, v37, v38, v39, v40, v41, v42, v43, v44, v45, en_fk, List.set_cons_zero, List.set_cons_succ, e0, i1, i2, e1, nI_add, y3, if_pos hq2, s1, s2, en_rdO_eq, en_rdI_eq, en_rdN_eq, en_rdL_eq, true_and, and_true, List.getElem?_cons_succ, List.getElem?_cons_zero, en_gv_eq, if_true, if_false, and_self, or_true, true_or, implies_true, List.length_cons, List.length_nil, Nat.reduceLT, Nat.reduceLeDiff, Nat.reduceAdd, Nat.zero_le, Option.toList_some, Option.toList_none, List.cons_append, List.nil_append, nI_1, rd_t, n1_0, n0_1, Bool.false_eq_true, false_implies, reduceCtorEq]
        refine loop l.length 0 _ (g 42) (Nat.zero_add _) ?_ (fun j hj => absurd hj (Nat.not_lt_zero _)) (fun _ _ => rfl) (mf_up (by omega) (by omega))
        have : va_up (va_up g 43 (upd (g 43) S.2.2.2.2.2.length (nI l.length))) 42 (g 42) = va_up g 43 (upd (g 43) S.2.2.2.2.2.length (nI l.length)) := va_self (va_up g 43 (upd (g 43) S.2.2.2.2.2.length (nI l.length))) 42
        rw [this]
        exact Hc
end MI
