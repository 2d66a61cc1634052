/-! the other side: rows are put on and dropped -/
def nOut (d y : Nat) (As : List Value) (c : en_H) (x u : Nat) (v : Int32) (S' : sp_S) : Prop := ∃ c' g' AP' ms', en_call d y As c x u (some (.int v)) c' x u ∧ mc c' g' AP' (mo S' ms') ∧ mrel g' AP' S' ∧ mf c c'
def mK (c0 : en_H) (x u : Nat) (v : Int32) (S' : sp_S) : en_K := fun v' c' x' u' => v' = some (.int v) ∧ x' = x ∧ u' = u ∧ ∃ g' AP' ms', mc c' g' AP' (mo S' ms') ∧ mrel g' AP' S' ∧ mf c0 c'
theorem nOut_of {d y : Nat} {As : List Value} {c : en_H} {x u : Nat} {v : Int32} {S' : sp_S} (hy : y ≠ mt_law) (h1 : As.length ≤ mt_nl y) (h2 : ∀ a ∈ As, a.category = 1) (h : en_W (en_call d) y 0 (en_lv0 y As) [] c x u (mK c x u v S')) : nOut (d + 1) y As c x u v S' := by
  obtain ⟨v', c', x', u', k1, ⟨rfl, rfl, rfl, g', AP', ms', k2, k3, k4⟩, -⟩ := en_call_of hy h1 h2 h
  exact ⟨c', g', AP', ms', k1, k2, k3, k4⟩
theorem mOut_of {d y : Nat} {As : List Value} {c : en_H} {x u : Nat} {v : Int32} {S' : sp_S} (hd : d ≤ 7) (h : nOut d y As c x u v S') : mOut y As c x u v S' := by
  obtain ⟨c', g', AP', ms', k1, k2⟩ := h
  exact ⟨c', g', AP', ms', en_call_le hd k1, k2⟩
theorem va_up2 (g : Nat → Nat → Int32) (a : Nat) (f f' : Nat → Int32) : va_up (va_up g a f) a f' = va_up g a f' := by
  funext j
  unfold va_up
  by_cases e : j = a
  · rw [if_pos e, if_pos e]
  · rw [if_neg e, if_neg e, if_neg e]
theorem va_self (g : Nat → Nat → Int32) (a : Nat) : va_up g a (g a) = g := by
  funext j
  unfold va_up
  by_cases e : j = a
  · rw [if_pos e, e]
  · rw [if_neg e]
theorem mrel_44 {g : Nat → Nat → Int32} {AP : Nat → Int64} {S : sp_S} {f : Nat → Int32} (h : mrel g AP S) : mrel (va_up g 44 f) AP S := ⟨h.1, h.2.1, h.2.2.1, h.2.2.2.1, h.2.2.2.2.1, h.2.2.2.2.2⟩
theorem mrel_45 {g : Nat → Nat → Int32} {AP : Nat → Int64} {S : sp_S} {f : Nat → Int32} (h : mrel g AP S) : mrel (va_up g 45 f) AP S := ⟨h.1, h.2.1, h.2.2.1, h.2.2.2.1, h.2.2.2.2.1, h.2.2.2.2.2⟩
section MH
variable {c : en_H} {x u : Nat} {g g' : Nat → Nat → Int32} {AP : Nat → Int64} {ms : Int32} {S : sp_S} {t : sp_T}
theorem mrel_e (h : mrel g AP S) : mrel g AP (sp_pile S [] []) := ⟨h.1, h.2.1, h.2.2.1, h.2.2.2.1, fun r hr => absurd hr (Nat.not_lt_zero _), fun r hr => absurd hr (Nat.not_lt_zero _)⟩
theorem cM_empty (H : MO c g AP ms S) (hx : 46 ≤ x) : ∃ c', en_call 1 mM_empty [.ref 29] c x u none c' x u ∧ mc c' g AP (mo (sp_pile S [] []) ms) ∧ mf c c' := by
  obtain ⟨m0, m29, m30, m31, m32, m33, m34, m35, m36, m37, m38, m39, m40, m41, m42, m43, m44, m45⟩ := mc_o H.1
  obtain ⟨v29, v30, v31, v32, v33, v34, v35, v36, v37, v38, v39, v40, v41, v42, v43, v44, v45⟩ := mx_b hx
  refine ⟨_, ?_, mc_obj (mo (sp_pile S [] []) ms) (mc_obj [.int 0, .ref 30, .int (nI S.1.length), .ref 31, .ref 32, .ref 33, .ref 34, .ref 35, .ref 36, .ref 37, .ref 38, .int (nI S.2.1.length), .int (bi S.2.2.1), .ref 39, .ref 40, .ref 41, .int 0, .ref 42, .ref 43, .int (nI S.2.2.2.2.2.length), .ref 44, .int ms, .ref 45] H.1), mf_tr (mf_up (by omega) (by omega)) (mf_up (by omega) (by omega))⟩
  have hmo : mo (sp_pile S [] []) ms = [.int 0, .ref 30, .int (nI S.1.length), .ref 31, .ref 32, .ref 33, .ref 34, .ref 35, .ref 36, .ref 37, .ref 38, .int (nI S.2.1.length), .int (bi S.2.2.1), .ref 39, .ref 40, .ref 41, .int 0, .ref 42, .ref 43, .int 0, .ref 44, .int ms, .ref 45] := rfl
  rw [hmo]
  refine en_call_is (by decide) (Nat.le_of_ble_eq_true rfl) cat_1 ?_
  show en_W (en_call 0) mM_empty 0 [some (.ref 29)] [] c x u _
  simp only [sM_empty_0, sM_empty_1, sM_empty_2, sM_empty_5, sM_empty_6, sM_empty_7, sM_empty_10, m0, m29, m30, m31, m32, m33, m34, m35, m36, m37, m38, m39, m40, m41, m42, m43, m44, m45, v29, v30, v31, v32, v33, v34, v35, v36, v37, v38, v39, v40, v41, v42, v43, v44, v45, en_fk, List.set_cons_zero, List.set_cons_succ, up_ap, en_rdO_eq, en_rdI_eq, en_rdN_eq, en_rdL_eq, true_and, and_true, List.getElem?_cons_succ, List.getElem?_cons_zero, en_gv_eq, if_true, if_false, and_self, or_true, true_or, implies_true, List.length_cons, List.length_nil, Nat.reduceLT, Nat.reduceLeDiff, Nat.reduceAdd, Nat.zero_le, Option.toList_some, Option.toList_none, List.cons_append, List.nil_append, nI_1, rd_t, n1_0, n0_1, Bool.false_eq_true, false_implies, reduceCtorEq, en_q]
theorem cM_fail {f : Int32} (H : MO c g AP ms S) (hx : 46 ≤ x) : ∃ c', en_call 2 mM_fail [.ref 29, .int f] c x u (some (.int f)) c' x u ∧ mc c' g AP (mo (sp_pile S [] []) ms) ∧ mf c c' := by
  obtain ⟨c', K, H1, h2⟩ := cM_empty (u := u) H hx
  refine ⟨c', ?_, H1, h2⟩
  obtain ⟨m0, m29, m30, m31, m32, m33, m34, m35, m36, m37, m38, m39, m40, m41, m42, m43, m44, m45⟩ := mc_o H.1
  obtain ⟨v29, v30, v31, v32, v33, v34, v35, v36, v37, v38, v39, v40, v41, v42, v43, v44, v45⟩ := mx_b hx
  refine en_call_is (by decide) (Nat.le_of_ble_eq_true rfl) cat_2 ?_
  show en_W (en_call 1) mM_fail 0 [some (.ref 29), some (.int f)] [] c x u _
  simp only [sM_fail_0, sM_fail_1, sM_fail_4, sM_fail_5, m0, m29, m30, m31, m32, m33, m34, m35, m36, m37, m38, m39, m40, m41, m42, m43, m44, m45, v29, v30, v31, v32, v33, v34, v35, v36, v37, v38, v39, v40, v41, v42, v43, v44, v45, en_fk, List.set_cons_zero, List.set_cons_succ, en_rdO_eq, en_rdI_eq, en_rdN_eq, en_rdL_eq, true_and, and_true, List.getElem?_cons_succ, List.getElem?_cons_zero, en_gv_eq, if_true, if_false, and_self, or_true, true_or, implies_true, List.length_cons, List.length_nil, Nat.reduceLT, Nat.reduceLeDiff, Nat.reduceAdd, Nat.zero_le, Option.toList_some, Option.toList_none, List.cons_append, List.nil_append, nI_1, rd_t, n1_0, n0_1, Bool.false_eq_true, false_implies, reduceCtorEq]
  refine en_use (by decide) K ?_
  simp only [sM_fail_0, sM_fail_1, sM_fail_4, sM_fail_5, en_rdO_eq, en_rdI_eq, en_rdN_eq, en_rdL_eq, true_and, and_true, List.getElem?_cons_succ, List.getElem?_cons_zero, en_gv_eq, if_true, if_false, and_self, or_true, true_or, implies_true, List.length_cons, List.length_nil, Nat.reduceLT, Nat.reduceLeDiff, Nat.reduceAdd, Nat.zero_le, Option.toList_some, Option.toList_none, List.cons_append, List.nil_append, nI_1, rd_t, n1_0, n0_1, Bool.false_eq_true, false_implies, reduceCtorEq, en_q]
theorem cM_clear (H : MO c g AP ms S) (hx : 46 ≤ x) : mOut mM_clear [.ref 29] c x u (sp_clear S).1 (sp_clear S).2 := by
  obtain ⟨c', K, H1, h2⟩ := cM_empty (u := u) H hx
  refine ⟨c', g, AP, ms, ?_, H1, mrel_e H.2.1, h2⟩
  obtain ⟨m0, m29, m30, m31, m32, m33, m34, m35, m36, m37, m38, m39, m40, m41, m42, m43, m44, m45⟩ := mc_o H.1
  obtain ⟨v29, v30, v31, v32, v33, v34, v35, v36, v37, v38, v39, v40, v41, v42, v43, v44, v45⟩ := mx_b hx
  refine en_call_is (by decide) (Nat.le_of_ble_eq_true rfl) cat_1 ?_
  show en_W (en_call 6) mM_clear 0 [some (.ref 29), none] [] c x u _
  simp only [sM_clear_0, sM_clear_1, sM_clear_2, sM_clear_5, sM_clear_6, sM_clear_9, sM_clear_10, sM_clear_11, sM_clear_14, sM_clear_15, m0, m29, m30, m31, m32, m33, m34, m35, m36, m37, m38, m39, m40, m41, m42, m43, m44, m45, v29, v30, v31, v32, v33, v34, v35, v36, v37, v38, v39, v40, v41, v42, v43, v44, v45, en_fk, List.set_cons_zero, List.set_cons_succ, en_rdO_eq, en_rdI_eq, en_rdN_eq, en_rdL_eq, true_and, and_true, List.getElem?_cons_succ, List.getElem?_cons_zero, en_gv_eq, if_true, if_false, and_self, or_true, true_or, implies_true, List.length_cons, List.length_nil, Nat.reduceLT, Nat.reduceLeDiff, Nat.reduceAdd, Nat.zero_le, Option.toList_some, Option.toList_none, List.cons_append, List.nil_append, nI_1, rd_t, n1_0, n0_1, Bool.false_eq_true, false_implies, reduceCtorEq]
  refine en_use (by decide) K ?_
  simp only [sM_clear_0, sM_clear_1, sM_clear_2, sM_clear_5, sM_clear_6, sM_clear_9, sM_clear_10, sM_clear_11, sM_clear_14, sM_clear_15, en_rdO_eq, en_rdI_eq, en_rdN_eq, en_rdL_eq, true_and, and_true, List.getElem?_cons_succ, List.getElem?_cons_zero, en_gv_eq, if_true, if_false, and_self, or_true, true_or, implies_true, List.length_cons, List.length_nil, Nat.reduceLT, Nat.reduceLeDiff, Nat.reduceAdd, Nat.zero_le, Option.toList_some, Option.toList_none, List.cons_append, List.nil_append, nI_1, rd_t, n1_0, n0_1, Bool.false_eq_true, false_implies, reduceCtorEq, en_q]
  rfl
theorem row_app {pl sv : List (List Nat)} {l : List Nat} {r : Nat} (S : sp_S) (hpl : S.2.2.2.2.1 = pl) : sp_row (sp_pile S (pl ++ [l]) sv) r = if r = pl.length then l else sp_row S r := by
  unfold sp_row
  show (pl ++ [l]).getD r [] = _
  rw [hpl]
  by_cases e : r = pl.length
  · rw [if_pos e, e, List.getD_eq_getElem?_getD, List.getElem?_append_right (Nat.le_refl _), Nat.sub_self]
    rfl
  · rw [if_neg e]
    by_cases h : r < pl.length
    · rw [List.getD_eq_getElem?_getD, List.getElem?_append_left h, ← List.getD_eq_getElem?_getD]
    · rw [List.getD_eq_getElem?_getD, List.getElem?_eq_none (by rw [List.length_append]; simp; omega), List.getD_eq_getElem?_getD, List.getElem?_eq_none (by omega)]
theorem cM_push {l : List Nat} (H : MO c g AP (nI l.length) S) (hx : 46 ≤ x) (hl : l.length ≤ 1000) (hm : ∀ k, k < l.length → g 44 k = nI (l.getD k 0)) : nOut 3 mM_pushMade [.ref 29] c x u (sp_push S.2.2.2.2.1 l S).1 (sp_push S.2.2.2.2.1 l S).2 := by
  have hb := mw_b H.2.2
  have KS := cM_allSym (u := u) H hx
  obtain ⟨cf, KF, HF, hF⟩ := cM_fail (u := u) (f := 5) H hx
  have H0 := H
  obtain ⟨m0, m29, m30, m31, m32, m33, m34, m35, m36, m37, m38, m39, m40, m41, m42, m43, m44, m45⟩ := mc_o H.1
  obtain ⟨v29, v30, v31, v32, v33, v34, v35, v36, v37, v38, v39, v40, v41, v42, v43, v44, v45⟩ := mx_b hx
  have y1 : (nI S.2.2.2.2.1.length = nI 200) = (S.2.2.2.2.1.length = 200) := propext (nI_eq (by omega) (by omega))
  have y2 : (nI (sp_sum S.2.2.2.2.1 + sp_sum S.2.2.2.2.2 + l.length) ≤ nI 40000) = (sp_sum S.2.2.2.2.1 + sp_sum S.2.2.2.2.2 + l.length ≤ 40000) := propext (nI_leI (by omega) (by omega))
  refine nOut_of (by decide) (Nat.le_of_ble_eq_true rfl) cat_1 ?_
  show en_W (en_call 2) mM_pushMade 0 [some (.ref 29), none] [] c x u _
  by_cases hfull : S.2.2.2.2.1.length = 200
  · have hS : sp_push S.2.2.2.2.1 l S = sp_fail 5 S := by unfold sp_push; rw [if_neg (fun q => by omega)]
    rw [hS]
    simp only [sM_pushMade_0, sM_pushMade_1, sM_pushMade_4, sM_pushMade_7, sM_pushMade_10, sM_pushMade_11, sM_pushMade_14, sM_pushMade_15, sM_pushMade_18, sM_pushMade_19, sM_pushMade_21, sM_pushMade_24, sM_pushMade_25, sM_pushMade_26, sM_pushMade_29, sM_pushMade_30, sM_pushMade_31, sM_pushMade_32, sM_pushMade_33, sM_pushMade_34, sM_pushMade_37, sM_pushMade_40, sM_pushMade_41, sM_pushMade_44, sM_pushMade_47, sM_pushMade_48, sM_pushMade_51, sM_pushMade_52, sM_pushMade_53, sM_pushMade_54, sM_pushMade_55, sM_pushMade_58, sM_pushMade_59, sM_pushMade_60, sM_pushMade_61, sM_pushMade_64, sM_pushMade_67, sM_pushMade_68, sM_pushMade_71, sM_pushMade_72, sM_pushMade_75, sM_pushMade_76, sM_pushMade_79, sM_pushMade_80, sM_pushMade_81, sM_pushMade_82, sM_pushMade_85, sM_pushMade_86, sM_pushMade_87, sM_pushMade_90, sM_pushMade_91, m0, m29, m30, m31, m32, m33, m34, m35, m36, m37, m38, m39, m40, m41, m42, m43, m44, m45, v29, v30, v31, v32, v33, v34, v35, v36, v37, v38, v39, v40, v41, v42, v43, v44, v45, en_fk, List.set_cons_zero, List.set_cons_succ, y1, if_pos hfull, en_rdO_eq, en_rdI_eq, en_rdN_eq, en_rdL_eq, true_and, and_true, List.getElem?_cons_succ, List.getElem?_cons_zero, en_gv_eq, if_true, if_false, and_self, or_true, true_or, implies_true, List.length_cons, List.length_nil, Nat.reduceLT, Nat.reduceLeDiff, Nat.reduceAdd, Nat.zero_le, Option.toList_some, Option.toList_none, List.cons_append, List.nil_append, nI_1, rd_t, n1_0, n0_1, Bool.false_eq_true, false_implies, reduceCtorEq]
    refine en_use (by decide) KF ?_
    simp only [sM_pushMade_0, sM_pushMade_1, sM_pushMade_4, sM_pushMade_7, sM_pushMade_10, sM_pushMade_11, sM_pushMade_14, sM_pushMade_15, sM_pushMade_18, sM_pushMade_19, sM_pushMade_21, sM_pushMade_24, sM_pushMade_25, sM_pushMade_26, sM_pushMade_29, sM_pushMade_30, sM_pushMade_31, sM_pushMade_32, sM_pushMade_33, sM_pushMade_34, sM_pushMade_37, sM_pushMade_40, sM_pushMade_41, sM_pushMade_44, sM_pushMade_47, sM_pushMade_48, sM_pushMade_51, sM_pushMade_52, sM_pushMade_53, sM_pushMade_54, sM_pushMade_55, sM_pushMade_58, sM_pushMade_59, sM_pushMade_60, sM_pushMade_61, sM_pushMade_64, sM_pushMade_67, sM_pushMade_68, sM_pushMade_71, sM_pushMade_72, sM_pushMade_75, sM_pushMade_76, sM_pushMade_79, sM_pushMade_80, sM_pushMade_81, sM_pushMade_82, sM_pushMade_85, sM_pushMade_86, sM_pushMade_87, sM_pushMade_90, sM_pushMade_91, en_rdO_eq, en_rdI_eq, en_rdN_eq, en_rdL_eq, true_and, and_true, List.getElem?_cons_succ, List.getElem?_cons_zero, en_gv_eq, if_true, if_false, and_self, or_true, true_or, implies_true, List.length_cons, List.length_nil, Nat.reduceLT, Nat.reduceLeDiff, Nat.reduceAdd, Nat.zero_le, Option.toList_some, Option.toList_none, List.cons_append, List.nil_append, nI_1, rd_t, n1_0, n0_1, Bool.false_eq_true, false_implies, reduceCtorEq]
    exact ⟨rfl, rfl, rfl, g, AP, _, HF, mrel_e H0.2.1, hF⟩
  · by_cases hmuch : sp_sum S.2.2.2.2.1 + sp_sum S.2.2.2.2.2 + l.length ≤ 40000
    · have hS : sp_push S.2.2.2.2.1 l S = (0, sp_pile S (S.2.2.2.2.1 ++ [l]) S.2.2.2.2.2) := by unfold sp_push; rw [if_pos ⟨hl, by omega, by omega⟩]
      rw [hS]
      have q2 : vp_in (nI S.2.2.2.2.1.length) 201 := vp_in_nI (by omega) (by omega)
      have q3 : (nI S.2.2.2.2.1.length).toNatClampNeg = S.2.2.2.2.1.length := nI_clamp (by omega)
      have loop : ∀ (n k : Nat) (c1 : en_H) (f : Nat → Int32), k + n = l.length → mc c1 (va_up g 40 f) AP (mo S (nI l.length)) → (∀ j, j < k → f (1000 * S.2.2.2.2.1.length + j) = nI (l.getD j 0)) → (∀ j, j < 1000 * S.2.2.2.2.1.length → f j = g 40 j) → mf c c1 → en_W (en_call 2) mM_pushMade 32 [some (.ref 29), some (.int (nI k))] [] c1 x u (mK c x u 0 (sp_pile S (S.2.2.2.2.1 ++ [l]) S.2.2.2.2.2)) := by
        intro n
        induction n with
        | zero =>
          intro k c1 f hk H1 hf1 hf2 hfr
          have hk : k = l.length := by omega
          subst hk
          obtain ⟨n0, n29, n30, n31, n32, n33, n34, n35, n36, n37, n38, n39, n40, n41, n42, n43, n44, n45⟩ := mc_o H1
          have q1 : nI l.length ≤ nI l.length := Int32.le_refl _
          have n41 : c1 41 = .inl (0, 201, .inl (g 41)) := n41
          rw [sM_pushMade_32]
          simp only [sM_pushMade_0, sM_pushMade_1, sM_pushMade_4, sM_pushMade_7, sM_pushMade_10, sM_pushMade_11, sM_pushMade_14, sM_pushMade_15, sM_pushMade_18, sM_pushMade_19, sM_pushMade_21, sM_pushMade_24, sM_pushMade_25, sM_pushMade_26, sM_pushMade_29, sM_pushMade_30, sM_pushMade_31, sM_pushMade_33, sM_pushMade_34, sM_pushMade_37, sM_pushMade_40, sM_pushMade_41, sM_pushMade_44, sM_pushMade_47, sM_pushMade_48, sM_pushMade_51, sM_pushMade_52, sM_pushMade_53, sM_pushMade_54, sM_pushMade_55, sM_pushMade_58, sM_pushMade_59, sM_pushMade_60, sM_pushMade_61, sM_pushMade_64, sM_pushMade_67, sM_pushMade_68, sM_pushMade_71, sM_pushMade_72, sM_pushMade_75, sM_pushMade_76, sM_pushMade_79, sM_pushMade_80, sM_pushMade_81, sM_pushMade_82, sM_pushMade_85, sM_pushMade_86, sM_pushMade_87, sM_pushMade_90, sM_pushMade_91, n29, n41, v29, v41, q1, q2, q3, up_ap, Nat.reduceEqDiff, en_fk, List.set_cons_zero, List.set_cons_succ, en_rdO_eq, en_rdI_eq, en_rdN_eq, en_rdL_eq, true_and, and_true, List.getElem?_cons_succ, List.getElem?_cons_zero, en_gv_eq, if_true, if_false, and_self, or_true, true_or, implies_true, List.length_cons, List.length_nil, Nat.reduceLT, Nat.reduceLeDiff, Nat.reduceAdd, Nat.zero_le, Option.toList_some, Option.toList_none, List.cons_append, List.nil_append, nI_1, rd_t, n1_0, n0_1, Bool.false_eq_true, false_implies, reduceCtorEq]
          have Hd : mc (en_up c1 41 (.inl (0, 201, .inl (upd (g 41) S.2.2.2.2.1.length (nI l.length))))) (va_up (va_up g 40 f) 41 (upd (g 41) S.2.2.2.2.1.length (nI l.length))) AP (mo S (nI l.length)) := mc_up H1 (by omega) (by omega) (by omega)
          have He := mc_obj (mo (sp_pile S (S.2.2.2.2.1 ++ [l]) S.2.2.2.2.2) (nI l.length)) Hd
          have hmo : mo (sp_pile S (S.2.2.2.2.1 ++ [l]) S.2.2.2.2.2) (nI l.length) = [.int 0, .ref 30, .int (nI S.1.length), .ref 31, .ref 32, .ref 33, .ref 34, .ref 35, .ref 36, .ref 37, .ref 38, .int (nI S.2.1.length), .int (bi S.2.2.1), .ref 39, .ref 40, .ref 41, .int (nI (S.2.2.2.2.1.length + 1)), .ref 42, .ref 43, .int (nI S.2.2.2.2.2.length), .ref 44, .int (nI l.length), .ref 45] := by
            unfold mo
            show [_, _, _, _, _, _, _, _, _, _, _, _, _, _, _, _, Value.int (nI (S.2.2.2.2.1 ++ [l]).length), _, _, _, _, _, _] = _
            rw [List.length_append]
            rfl
          refine ⟨rfl, rfl, rfl, _, AP, nI l.length, by rw [hmo] at He ⊢; exact He, ?_, mf_tr (mf_tr hfr (mf_up (by omega) (by omega))) (mf_up (by omega) (by omega))⟩
          obtain ⟨a1, a2, a3, a4, a5, a6⟩ := H0.2.1
          refine ⟨a1, a2, a3, a4, fun r hr => ?_, a6⟩
          have hr : r < S.2.2.2.2.1.length + 1 := by
            have : r < (S.2.2.2.2.1 ++ [l]).length := hr
            simpa using this
          rw [row_app S rfl]
          show ml f (upd (g 41) S.2.2.2.2.1.length (nI l.length)) 1000 r _
          by_cases e : r = S.2.2.2.2.1.length
          · rw [if_pos e, e]
            exact ⟨pk_us, hf1⟩
          · rw [if_neg e]
            have hr2 : r < S.2.2.2.2.1.length := by omega
            have hrl := (mw_row H0.2.2 hr2).2.1
            refine ⟨(pk_un e).trans (a5 r hr2).1, fun k hk => ?_⟩
            rw [hf2 _ (by omega)]
            exact (a5 r hr2).2 k hk
        | succ n ih =>
          intro k c1 f hk H1 hf1 hf2 hfr
          have hlt : k < l.length := by omega
          obtain ⟨n0, n29, n30, n31, n32, n33, n34, n35, n36, n37, n38, n39, n40, n41, n42, n43, n44, n45⟩ := mc_o H1
          have n40 : c1 40 = .inl (0, 201000, .inl f) := n40
          have n44 : c1 44 = .inl (0, 1000, .inl (g 44)) := n44
          have q1 : ¬ nI l.length ≤ nI k := nI_ge hlt (by omega)
          have q4 : vp_in (nI (1000 * S.2.2.2.2.1.length + k)) 201000 := vp_in_nI (by omega) (by omega)
          have q5 : (nI (1000 * S.2.2.2.2.1.length + k)).toNatClampNeg = 1000 * S.2.2.2.2.1.length + k := nI_clamp (by omega)
          have q6 : vp_in (nI k) 1000 := vp_in_nI (by omega) (by omega)
          have q7 : (nI k).toNatClampNeg = k := nI_clamp (by omega)
          have q8 := hm k hlt
          have Hd : mc (en_up c1 40 (.inl (0, 201000, .inl (upd f (1000 * S.2.2.2.2.1.length + k) (nI (l.getD k 0)))))) (va_up (va_up g 40 f) 40 (upd f (1000 * S.2.2.2.2.1.length + k) (nI (l.getD k 0)))) AP (mo S (nI l.length)) := mc_up H1 (by omega) (by omega) (by omega)
          rw [va_up2] at Hd
          have IH := ih (k + 1) _ _ (by omega) Hd (fun j hj => by
            by_cases e : j = k
            · rw [e, pk_us]
            · rw [pk_un (by omega)]
              exact hf1 j (by omega)) (fun j hj => by rw [pk_un (by omega)]; exact hf2 j hj) (mf_tr hfr (mf_up (by omega) (by omega)))
          rw [sM_pushMade_32]
          simp only [sM_pushMade_0, sM_pushMade_1, sM_pushMade_4, sM_pushMade_7, sM_pushMade_10, sM_pushMade_11, sM_pushMade_14, sM_pushMade_15, sM_pushMade_18, sM_pushMade_19, sM_pushMade_21, sM_pushMade_24, sM_pushMade_25, sM_pushMade_26, sM_pushMade_29, sM_pushMade_30, sM_pushMade_31, sM_pushMade_33, sM_pushMade_34, sM_pushMade_37, sM_pushMade_40, sM_pushMade_41, sM_pushMade_44, sM_pushMade_47, sM_pushMade_48, sM_pushMade_51, sM_pushMade_52, sM_pushMade_53, sM_pushMade_54, sM_pushMade_55, sM_pushMade_58, sM_pushMade_59, sM_pushMade_60, sM_pushMade_61, sM_pushMade_64, sM_pushMade_67, sM_pushMade_68, sM_pushMade_71, sM_pushMade_72, sM_pushMade_75, sM_pushMade_76, sM_pushMade_79, sM_pushMade_80, sM_pushMade_81, sM_pushMade_82, sM_pushMade_85, sM_pushMade_86, sM_pushMade_87, sM_pushMade_90, sM_pushMade_91, n29, n40, n44, v29, v40, v44, q1, nI_mul, nI_add, q4, q5, q6, q7, q8, en_rdO_eq, en_rdI_eq, en_rdN_eq, en_rdL_eq, true_and, and_true, List.getElem?_cons_succ, List.getElem?_cons_zero, en_gv_eq, if_true, if_false, and_self, or_true, true_or, implies_true, List.length_cons, List.length_nil, Nat.reduceLT, Nat.reduceLeDiff, Nat.reduceAdd, Nat.zero_le, Option.toList_some, Option.toList_none, List.cons_append, List.nil_append, nI_1, rd_t, n1_0, n0_1, Bool.false_eq_true, false_implies, reduceCtorEq]
          exact IH
      simp only [sM_pushMade_0, sM_pushMade_1, sM_pushMade_4, sM_pushMade_7, sM_pushMade_10, sM_pushMade_11, sM_pushMade_14, sM_pushMade_15, sM_pushMade_18, sM_pushMade_19, sM_pushMade_21, sM_pushMade_24, sM_pushMade_25, sM_pushMade_26, sM_pushMade_29, sM_pushMade_30, sM_pushMade_31, sM_pushMade_33, sM_pushMade_34, sM_pushMade_37, sM_pushMade_40, sM_pushMade_41, sM_pushMade_44, sM_pushMade_47, sM_pushMade_48, sM_pushMade_51, sM_pushMade_52, sM_pushMade_53, sM_pushMade_54, sM_pushMade_55, sM_pushMade_58, sM_pushMade_59, sM_pushMade_60, sM_pushMade_61, sM_pushMade_64, sM_pushMade_67, sM_pushMade_68, sM_pushMade_71, sM_pushMade_72, sM_pushMade_75, sM_pushMade_76, sM_pushMade_79, sM_pushMade_80, sM_pushMade_81, sM_pushMade_82, sM_pushMade_85, sM_pushMade_86, sM_pushMade_87, sM_pushMade_90, sM_pushMade_91, m0, m29, m30, m31, m32, m33, m34, m35, m36, m37, m38, m39, m40, m41, m42, m43, m44, m45, v29, v30, v31, v32, v33, v34, v35, v36, v37, v38, v39, v40, v41, v42, v43, v44, v45, en_fk, List.set_cons_zero, List.set_cons_succ, y1, if_neg hfull, en_rdO_eq, en_rdI_eq, en_rdN_eq, en_rdL_eq, true_and, and_true, List.getElem?_cons_succ, List.getElem?_cons_zero, en_gv_eq, if_true, if_false, and_self, or_true, true_or, implies_true, List.length_cons, List.length_nil, Nat.reduceLT, Nat.reduceLeDiff, Nat.reduceAdd, Nat.zero_le, Option.toList_some, Option.toList_none, List.cons_append, List.nil_append, nI_1, rd_t, n1_0, n0_1, Bool.false_eq_true, false_implies, reduceCtorEq]
      refine en_use (by decide) KS ?_
      simp only [sM_pushMade_0, sM_pushMade_1, sM_pushMade_4, sM_pushMade_7, sM_pushMade_10, sM_pushMade_11, sM_pushMade_14, sM_pushMade_15, sM_pushMade_18, sM_pushMade_19, sM_pushMade_21, sM_pushMade_24, sM_pushMade_25, sM_pushMade_26, sM_pushMade_29, sM_pushMade_30, sM_pushMade_31, sM_pushMade_33, sM_pushMade_34, sM_pushMade_37, sM_pushMade_40, sM_pushMade_41, sM_pushMade_44, sM_pushMade_47, sM_pushMade_48, sM_pushMade_51, sM_pushMade_52, sM_pushMade_53, sM_pushMade_54, sM_pushMade_55, sM_pushMade_58, sM_pushMade_59, sM_pushMade_60, sM_pushMade_61, sM_pushMade_64, sM_pushMade_67, sM_pushMade_68, sM_pushMade_71, sM_pushMade_72, sM_pushMade_75, sM_pushMade_76, sM_pushMade_79, sM_pushMade_80, sM_pushMade_81, sM_pushMade_82, sM_pushMade_85, sM_pushMade_86, sM_pushMade_87, sM_pushMade_90, sM_pushMade_91, m0, m29, m30, m31, m32, m33, m34, m35, m36, m37, m38, m39, m40, m41, m42, m43, m44, m45, v29, v30, v31, v32, v33, v34, v35, v36, v37, v38, v39, v40, v41, v42, v43, v44, v45, en_fk, List.set_cons_zero, List.set_cons_succ, nI_add, y2, if_pos hmuch, en_rdO_eq, en_rdI_eq, en_rdN_eq, en_rdL_eq, true_and, and_true, List.getElem?_cons_succ, List.getElem?_cons_zero, en_gv_eq, if_true, if_false, and_self, or_true, true_or, implies_true, List.length_cons, List.length_nil, Nat.reduceLT, Nat.reduceLeDiff, Nat.reduceAdd, Nat.zero_le, Option.toList_some, Option.toList_none, List.cons_append, List.nil_append, nI_1, rd_t, n1_0, n0_1, Bool.false_eq_true, false_implies, reduceCtorEq]
      exact loop l.length 0 c (g 40) (Nat.zero_add _) (by rw [va_self]; exact H0.1) (fun j hj => absurd hj (Nat.not_lt_zero _)) (fun _ _ => rfl) mf_rf
    · have hS : sp_push S.2.2.2.2.1 l S = sp_fail 5 S := by unfold sp_push; rw [if_neg (fun q => by omega)]
      rw [hS]
      simp only [sM_pushMade_0, sM_pushMade_1, sM_pushMade_4, sM_pushMade_7, sM_pushMade_10, sM_pushMade_11, sM_pushMade_14, sM_pushMade_15, sM_pushMade_18, sM_pushMade_19, sM_pushMade_21, sM_pushMade_24, sM_pushMade_25, sM_pushMade_26, sM_pushMade_29, sM_pushMade_30, sM_pushMade_31, sM_pushMade_32, sM_pushMade_33, sM_pushMade_34, sM_pushMade_37, sM_pushMade_40, sM_pushMade_41, sM_pushMade_44, sM_pushMade_47, sM_pushMade_48, sM_pushMade_51, sM_pushMade_52, sM_pushMade_53, sM_pushMade_54, sM_pushMade_55, sM_pushMade_58, sM_pushMade_59, sM_pushMade_60, sM_pushMade_61, sM_pushMade_64, sM_pushMade_67, sM_pushMade_68, sM_pushMade_71, sM_pushMade_72, sM_pushMade_75, sM_pushMade_76, sM_pushMade_79, sM_pushMade_80, sM_pushMade_81, sM_pushMade_82, sM_pushMade_85, sM_pushMade_86, sM_pushMade_87, sM_pushMade_90, sM_pushMade_91, m0, m29, m30, m31, m32, m33, m34, m35, m36, m37, m38, m39, m40, m41, m42, m43, m44, m45, v29, v30, v31, v32, v33, v34, v35, v36, v37, v38, v39, v40, v41, v42, v43, v44, v45, en_fk, List.set_cons_zero, List.set_cons_succ, y1, if_neg hfull, en_rdO_eq, en_rdI_eq, en_rdN_eq, en_rdL_eq, true_and, and_true, List.getElem?_cons_succ, List.getElem?_cons_zero, en_gv_eq, if_true, if_false, and_self, or_true, true_or, implies_true, List.length_cons, List.length_nil, Nat.reduceLT, Nat.reduceLeDiff, Nat.reduceAdd, Nat.zero_le, Option.toList_some, Option.toList_none, List.cons_append, List.nil_append, nI_1, rd_t, n1_0, n0_1, Bool.false_eq_true, false_implies, reduceCtorEq]
      refine en_use (by decide) KS ?_
      simp only [sM_pushMade_0, sM_pushMade_1, sM_pushMade_4, sM_pushMade_7, sM_pushMade_10, sM_pushMade_11, sM_pushMade_14, sM_pushMade_15, sM_pushMade_18, sM_pushMade_19, sM_pushMade_21, sM_pushMade_24, sM_pushMade_25, sM_pushMade_26, sM_pushMade_29, sM_pushMade_30, sM_pushMade_31, sM_pushMade_32, sM_pushMade_33, sM_pushMade_34, sM_pushMade_37, sM_pushMade_40, sM_pushMade_41, sM_pushMade_44, sM_pushMade_47, sM_pushMade_48, sM_pushMade_51, sM_pushMade_52, sM_pushMade_53, sM_pushMade_54, sM_pushMade_55, sM_pushMade_58, sM_pushMade_59, sM_pushMade_60, sM_pushMade_61, sM_pushMade_64, sM_pushMade_67, sM_pushMade_68, sM_pushMade_71, sM_pushMade_72, sM_pushMade_75, sM_pushMade_76, sM_pushMade_79, sM_pushMade_80, sM_pushMade_81, sM_pushMade_82, sM_pushMade_85, sM_pushMade_86, sM_pushMade_87, sM_pushMade_90, sM_pushMade_91, m0, m29, m30, m31, m32, m33, m34, m35, m36, m37, m38, m39, m40, m41, m42, m43, m44, m45, v29, v30, v31, v32, v33, v34, v35, v36, v37, v38, v39, v40, v41, v42, v43, v44, v45, en_fk, List.set_cons_zero, List.set_cons_succ, nI_add, y2, if_neg hmuch, en_rdO_eq, en_rdI_eq, en_rdN_eq, en_rdL_eq, true_and, and_true, List.getElem?_cons_succ, List.getElem?_cons_zero, en_gv_eq, if_true, if_false, and_self, or_true, true_or, implies_true, List.length_cons, List.length_nil, Nat.reduceLT, Nat.reduceLeDiff, Nat.reduceAdd, Nat.zero_le, Option.toList_some, Option.toList_none, List.cons_append, List.nil_append, nI_1, rd_t, n1_0, n0_1, Bool.false_eq_true, false_implies, reduceCtorEq]
      refine en_use (by decide) KF ?_
      simp only [sM_pushMade_0, sM_pushMade_1, sM_pushMade_4, sM_pushMade_7, sM_pushMade_10, sM_pushMade_11, sM_pushMade_14, sM_pushMade_15, sM_pushMade_18, sM_pushMade_19, sM_pushMade_21, sM_pushMade_24, sM_pushMade_25, sM_pushMade_26, sM_pushMade_29, sM_pushMade_30, sM_pushMade_31, sM_pushMade_32, sM_pushMade_33, sM_pushMade_34, sM_pushMade_37, sM_pushMade_40, sM_pushMade_41, sM_pushMade_44, sM_pushMade_47, sM_pushMade_48, sM_pushMade_51, sM_pushMade_52, sM_pushMade_53, sM_pushMade_54, sM_pushMade_55, sM_pushMade_58, sM_pushMade_59, sM_pushMade_60, sM_pushMade_61, sM_pushMade_64, sM_pushMade_67, sM_pushMade_68, sM_pushMade_71, sM_pushMade_72, sM_pushMade_75, sM_pushMade_76, sM_pushMade_79, sM_pushMade_80, sM_pushMade_81, sM_pushMade_82, sM_pushMade_85, sM_pushMade_86, sM_pushMade_87, sM_pushMade_90, sM_pushMade_91, en_rdO_eq, en_rdI_eq, en_rdN_eq, en_rdL_eq, true_and, and_true, List.getElem?_cons_succ, List.getElem?_cons_zero, en_gv_eq, if_true, if_false, and_self, or_true, true_or, implies_true, List.length_cons, List.length_nil, Nat.reduceLT, Nat.reduceLeDiff, Nat.reduceAdd, Nat.zero_le, Option.toList_some, Option.toList_none, List.cons_append, List.nil_append, nI_1, rd_t, n1_0, n0_1, Bool.false_eq_true, false_implies, reduceCtorEq]
      exact ⟨rfl, rfl, rfl, g, AP, _, HF, mrel_e H0.2.1, hF⟩
end MH
