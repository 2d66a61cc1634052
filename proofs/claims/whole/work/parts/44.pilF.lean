/-! StepPile: allFit, allApart -/
/-- what the floating ones among these hypotheses make of their variables: rows from f on -/
def bk (S : sp_S) (r : cr_T) (be : Nat → Nat) (f : Nat) (hs : List Nat) : Prop := ∀ v, sp_fl S hs v = true → r_rf r v = nI (be v) ∧ f ≤ be v ∧ be v < S.2.2.2.2.1.length
section PF
variable {c : en_H} {x u : Nat} {ci N : Nat → Nat} {r : cr_T} {S : sp_S}
theorem nd_cl (hw : sp_wf S) {i h : Nat} (hi : i < S.2.1.length) (hh : h ∈ sp_nd S i) : h < S.2.1.length ∧ sp_wfC S h := by
  have hlt := nd_mem hw hi h hh
  refine ⟨by omega, hw.2.2.2.2.1 h (by omega) (fun z => ?_)⟩
  have : sp_la S = S.2.1.length - 1 := rfl
  omega
theorem fl_in (hw : sp_wf S) {i : Nat} (hi : i < S.2.1.length) {v : Nat} (h : sp_fl S (sp_nd S i) v = true) : v < S.1.length ∧ sp_var S v = true := by
  unfold sp_fl at h
  obtain ⟨q, hq, hb⟩ := List.any_eq_true.mp h
  rw [Bool.and_eq_true] at hb
  obtain ⟨hql, hc⟩ := nd_cl hw hi hq
  have hk : sp_kd S q = 0 := by simpa using hb.1
  have hv : (sp_tx S q).getD 1 0 = v := by simpa using hb.2
  have hlen := hc.2.1 hk
  have hT := hw.2.2.2.1 q hql
  rw [← hv]
  refine ⟨hT.2.2.2.2.1 _ ?_, (hT.2.2.2.2.2.2.1 hk).2 (by omega)⟩
  rw [List.getD_eq_getElem?_getD, List.getElem?_eq_getElem (by omega)]
  exact List.getElem_mem _
theorem all_mem {hs l : List Nat} (h : sp_all S hs l = true) {s : Nat} (hs2 : s ∈ l) (hv : sp_var S s = true) : sp_fl S hs s = true := by
  unfold sp_all at h
  have := List.all_eq_true.mp h s hs2
  rw [hv] at this
  simpa using this
theorem take_getD {l : List Nat} {k : Nat} (h : k < l.length) : l.take (k + 1) = l.take k ++ [l.getD k 0] := by
  rw [List.take_succ, List.getD_eq_getElem?_getD, List.getElem?_eq_getElem h]
  rfl
theorem cP_allFit {i f : Nat} {ii ff : Int32} (H : CS c x ci N r S) (hii : ii = nI i) (hff : ff = nI f) (hi : i < S.2.1.length) (hf : f + (sp_nd S i).length = S.2.2.2.2.1.length) :
    ∃ c' r', en_call 5 mP_allFit [.ref 0, .int ii, .int ff] c x u (some (.int (bi (sp_fit S (sp_nd S i) f (fun _ => 0)).isSome))) c' x u ∧ CS c' x ci N r' S ∧ cs_fr c c' ∧ ∀ be, sp_fit S (sp_nd S i) f (fun _ => 0) = some be → bk S r' be f (sp_nd S i) := by
  have hT := H.2.2.2.2.2.1 i hi
  have hn := H.2.2.2.1
  have hp := (ps_b H).1
  subst hii hff
  have loop : ∀ (n k : Nat) (c : en_H) (r : cr_T) (be : Nat → Nat) (l5 l6 l7 : Option Value), k + n = (sp_nd S i).length → CS c x ci N r S → bk S r be f ((sp_nd S i).take k) → ∃ c' r', en_W (en_call 4) mP_allFit 15 [some (.ref 0), some (.int (nI i)), some (.int (nI f)), some (.int (nI (sp_nd S i).length)), some (.int (nI k)), l5, l6, l7] [] c x u (en_q (some (.int (bi (sp_fit S ((sp_nd S i).drop k) (f + k) be).isSome))) c' x u) ∧ CS c' x ci N r' S ∧ cs_fr c c' ∧ ∀ be', sp_fit S ((sp_nd S i).drop k) (f + k) be = some be' → bk S r' be' f (sp_nd S i) := by
    intro n
    induction n with
    | zero =>
      intro k c r be l5 l6 l7 hk H hb
      have hk : k = (sp_nd S i).length := by omega
      subst hk
      rw [List.take_length] at hb
      refine ⟨c, r, ?_, H, cs_rf, ?_⟩
      · have e1 : nI (sp_nd S i).length ≤ nI (sp_nd S i).length := Int32.le_refl _
        rw [List.drop_length, sP_allFit_15]
        simp only [sP_allFit_0, sP_allFit_1, sP_allFit_4, sP_allFit_7, sP_allFit_8, sP_allFit_11, sP_allFit_12, sP_allFit_13, sP_allFit_17, sP_allFit_18, sP_allFit_21, sP_allFit_22, sP_allFit_25, sP_allFit_28, sP_allFit_29, sP_allFit_31, sP_allFit_34, sP_allFit_36, sP_allFit_37, sP_allFit_39, sP_allFit_40, sP_allFit_42, sP_allFit_43, sP_allFit_46, sP_allFit_48, sP_allFit_51, sP_allFit_54, sP_allFit_55, sP_allFit_58, sP_allFit_59, sP_allFit_62, sP_allFit_65, sP_allFit_67, sP_allFit_69, sP_allFit_72, sP_allFit_75, sP_allFit_76, sP_allFit_79, sP_allFit_80, sP_allFit_83, sP_allFit_86, sP_allFit_88, sP_allFit_90, sP_allFit_93, sP_allFit_95, sP_allFit_97, sP_allFit_100, sP_allFit_101, sP_allFit_102, sP_allFit_105, sP_allFit_108, sP_allFit_109, e1, en_rdO_eq, en_rdI_eq, en_rdN_eq, en_rdL_eq, true_and, and_true, List.getElem?_cons_succ, List.getElem?_cons_zero, en_gv_eq, if_true, if_false, and_self, or_true, true_or, implies_true, List.length_cons, List.length_nil, Nat.reduceLT, Nat.reduceLeDiff, Nat.reduceAdd, Nat.zero_le, Option.toList_some, Option.toList_none, List.cons_append, List.nil_append, nI_1, rd_t, n1_0, n0_1, Bool.false_eq_true, false_implies, reduceCtorEq, en_q]
        simp [sp_fit, bi]
      · intro be' h
        rw [List.drop_length] at h
        have : be = be' := by simpa [sp_fit] using h
        rw [← this]
        exact hb
    | succ n ih =>
      intro k c r be l5 l6 l7 hk H hb
      have hlt : k < (sp_nd S i).length := by omega
      have e1 : ¬ nI (sp_nd S i).length ≤ nI k := nI_ge hlt (by have := hT.2.2.1; omega)
      have hm : (sp_nd S i).getD k 0 ∈ sp_nd S i := by
        rw [List.getD_eq_getElem?_getD, List.getElem?_eq_getElem hlt]
        exact List.getElem_mem hlt
      obtain ⟨hql, hqc⟩ := nd_cl H.2.2 hi hm
      have hw8 := (hT.2.2.2.2.2.2.2.1 k hlt)
      have K2 := cR_get_in (u := u) (row := nI i) (kk := nI k) (cs_T H).2.1 rfl rfl (by rw [(cs_len H.2.1).2.1]; exact hi) (by rw [(cs_get H.2.1 i).2.1]; exact hlt)
      rw [(cs_get H.2.1 i).2.1] at K2
      rw [drop_getD hlt]
      have htk := take_getD hlt
      generalize (sp_nd S i).getD k 0 = h at *
      have K3 := cT_kind_in (u := u) (ii := nI h) H rfl hql
      have hkd := kd_le H hql
      have e2 : (nI (sp_kd S h) = 0) = (sp_kd S h = 0) := propext (nI_eq (b := 0) (by omega) (by omega))
      have hpk : f + k < S.2.2.2.2.1.length := by omega
      have H0 := H
      obtain ⟨o0, o1, o4, o5, o8, o11, o16, o19, o22, o24⟩ := cs_o H.1
      obtain ⟨w0, w1, w4, w5, w8, w11, w14, w15, w16, w19, w22, w23, w24, w27, w28⟩ := cs_b H.1.1
      obtain ⟨k14, k15, k23, k27, k28⟩ := H.1.2.2.2.1
      by_cases hz : sp_kd S h = 0
      · obtain ⟨c1, r1, K4, H1, f1, hr1⟩ := cB_learn (u := u) (hh := nI h) (kk := nI (f + k)) H0 rfl rfl hql hz (hqc.2.1 hz) hpk
        have p0 := (cs_o H1.1).1
        by_cases hq : (sp_row S (f + k)).getD 0 0 = (sp_tx S h).getD 0 0
        · rw [decide_eq_true hq] at K4 hr1
          have hr1 := hr1 rfl
          have hb1 : bk S r1 (fun v => if v = (sp_tx S h).getD 1 0 then f + k else be v) f ((sp_nd S i).take (k + 1)) := by
            intro v hv
            rw [hr1]
            show upd (r_rf r) ((sp_tx S h).getD 1 0) (nI (f + k)) v = _ ∧ _
            by_cases ev : v = (sp_tx S h).getD 1 0
            · rw [ev, pk_us]
              show nI (f + k) = nI (if (sp_tx S h).getD 1 0 = (sp_tx S h).getD 1 0 then f + k else _) ∧ f ≤ (if (sp_tx S h).getD 1 0 = (sp_tx S h).getD 1 0 then f + k else _) ∧ (if (sp_tx S h).getD 1 0 = (sp_tx S h).getD 1 0 then f + k else _) < _
              rw [if_pos rfl]
              exact ⟨rfl, by omega, hpk⟩
            · rw [pk_un ev]
              show r_rf r v = nI (if v = (sp_tx S h).getD 1 0 then f + k else be v) ∧ f ≤ (if v = (sp_tx S h).getD 1 0 then f + k else be v) ∧ (if v = (sp_tx S h).getD 1 0 then f + k else be v) < _
              rw [if_neg ev]
              rw [htk, fl_app] at hv
              have : ((sp_tx S h).getD 1 0 == v) = false := by simpa using fun z => ev (Eq.symm z)
              rw [this, Bool.and_false, Bool.or_false] at hv
              exact hb v hv
          obtain ⟨c2, r2, K5, H2, f2, hb2⟩ := ih (k + 1) c1 r1 _ (some (.int (nI h))) (some (.int (nI (f + k)))) (some (.int 1)) (by omega) H1 hb1
          refine ⟨c2, r2, ?_, H2, cs_tr f1 f2, fun be' h' => hb2 be' ?_⟩
          · have es : sp_fit S (h :: (sp_nd S i).drop (k + 1)) (f + k) be = sp_fit S ((sp_nd S i).drop (k + 1)) (f + (k + 1)) (fun v => if v = (sp_tx S h).getD 1 0 then f + k else be v) := by
              show (if sp_kd S h = 0 then (if (sp_row S (f + k)).getD 0 0 = (sp_tx S h).getD 0 0 then _ else _) else _) = _
              rw [if_pos hz, if_pos hq]
              rfl
            rw [es, sP_allFit_15]
            simp only [sP_allFit_0, sP_allFit_1, sP_allFit_4, sP_allFit_7, sP_allFit_8, sP_allFit_11, sP_allFit_12, sP_allFit_13, sP_allFit_17, sP_allFit_18, sP_allFit_21, sP_allFit_22, sP_allFit_25, sP_allFit_28, sP_allFit_29, sP_allFit_31, sP_allFit_34, sP_allFit_36, sP_allFit_37, sP_allFit_39, sP_allFit_40, sP_allFit_42, sP_allFit_43, sP_allFit_46, sP_allFit_48, sP_allFit_51, sP_allFit_54, sP_allFit_55, sP_allFit_58, sP_allFit_59, sP_allFit_62, sP_allFit_65, sP_allFit_67, sP_allFit_69, sP_allFit_72, sP_allFit_75, sP_allFit_76, sP_allFit_79, sP_allFit_80, sP_allFit_83, sP_allFit_86, sP_allFit_88, sP_allFit_90, sP_allFit_93, sP_allFit_95, sP_allFit_97, sP_allFit_100, sP_allFit_101, sP_allFit_102, sP_allFit_105, sP_allFit_108, sP_allFit_109, e1, o0, o1, o4, o5, o8, o11, o16, o19, o22, o24, w0, w1, w4, w5, w8, w11, w14, w15, w16, w19, w22, w23, w24, w27, w28, k14, k15, k23, k27, k28, en_rdO_eq, en_rdI_eq, en_rdN_eq, en_rdL_eq, true_and, and_true, List.getElem?_cons_succ, List.getElem?_cons_zero, en_gv_eq, if_true, if_false, and_self, or_true, true_or, implies_true, List.length_cons, List.length_nil, Nat.reduceLT, Nat.reduceLeDiff, Nat.reduceAdd, Nat.zero_le, Option.toList_some, Option.toList_none, List.cons_append, List.nil_append, nI_1, rd_t, n1_0, n0_1, Bool.false_eq_true, false_implies, reduceCtorEq]
            refine en_use (by decide) K2 ?_
            simp only [sP_allFit_0, sP_allFit_1, sP_allFit_4, sP_allFit_7, sP_allFit_8, sP_allFit_11, sP_allFit_12, sP_allFit_13, sP_allFit_17, sP_allFit_18, sP_allFit_21, sP_allFit_22, sP_allFit_25, sP_allFit_28, sP_allFit_29, sP_allFit_31, sP_allFit_34, sP_allFit_36, sP_allFit_37, sP_allFit_39, sP_allFit_40, sP_allFit_42, sP_allFit_43, sP_allFit_46, sP_allFit_48, sP_allFit_51, sP_allFit_54, sP_allFit_55, sP_allFit_58, sP_allFit_59, sP_allFit_62, sP_allFit_65, sP_allFit_67, sP_allFit_69, sP_allFit_72, sP_allFit_75, sP_allFit_76, sP_allFit_79, sP_allFit_80, sP_allFit_83, sP_allFit_86, sP_allFit_88, sP_allFit_90, sP_allFit_93, sP_allFit_95, sP_allFit_97, sP_allFit_100, sP_allFit_101, sP_allFit_102, sP_allFit_105, sP_allFit_108, sP_allFit_109, o0, o1, o4, o5, o8, o11, o16, o19, o22, o24, w0, w1, w4, w5, w8, w11, w14, w15, w16, w19, w22, w23, w24, w27, w28, k14, k15, k23, k27, k28, nI_add, en_rdO_eq, en_rdI_eq, en_rdN_eq, en_rdL_eq, true_and, and_true, List.getElem?_cons_succ, List.getElem?_cons_zero, en_gv_eq, if_true, if_false, and_self, or_true, true_or, implies_true, List.length_cons, List.length_nil, Nat.reduceLT, Nat.reduceLeDiff, Nat.reduceAdd, Nat.zero_le, Option.toList_some, Option.toList_none, List.cons_append, List.nil_append, nI_1, rd_t, n1_0, n0_1, Bool.false_eq_true, false_implies, reduceCtorEq]
            refine en_use (by decide) K3 ?_
            simp only [sP_allFit_0, sP_allFit_1, sP_allFit_4, sP_allFit_7, sP_allFit_8, sP_allFit_11, sP_allFit_12, sP_allFit_13, sP_allFit_17, sP_allFit_18, sP_allFit_21, sP_allFit_22, sP_allFit_25, sP_allFit_28, sP_allFit_29, sP_allFit_31, sP_allFit_34, sP_allFit_36, sP_allFit_37, sP_allFit_39, sP_allFit_40, sP_allFit_42, sP_allFit_43, sP_allFit_46, sP_allFit_48, sP_allFit_51, sP_allFit_54, sP_allFit_55, sP_allFit_58, sP_allFit_59, sP_allFit_62, sP_allFit_65, sP_allFit_67, sP_allFit_69, sP_allFit_72, sP_allFit_75, sP_allFit_76, sP_allFit_79, sP_allFit_80, sP_allFit_83, sP_allFit_86, sP_allFit_88, sP_allFit_90, sP_allFit_93, sP_allFit_95, sP_allFit_97, sP_allFit_100, sP_allFit_101, sP_allFit_102, sP_allFit_105, sP_allFit_108, sP_allFit_109, o0, o1, o4, o5, o8, o11, o16, o19, o22, o24, w0, w1, w4, w5, w8, w11, w14, w15, w16, w19, w22, w23, w24, w27, w28, k14, k15, k23, k27, k28, e2, if_pos hz, en_rdO_eq, en_rdI_eq, en_rdN_eq, en_rdL_eq, true_and, and_true, List.getElem?_cons_succ, List.getElem?_cons_zero, en_gv_eq, if_true, if_false, and_self, or_true, true_or, implies_true, List.length_cons, List.length_nil, Nat.reduceLT, Nat.reduceLeDiff, Nat.reduceAdd, Nat.zero_le, Option.toList_some, Option.toList_none, List.cons_append, List.nil_append, nI_1, rd_t, n1_0, n0_1, Bool.false_eq_true, false_implies, reduceCtorEq]
            refine en_use (by decide) K4 ?_
            simp only [sP_allFit_0, sP_allFit_1, sP_allFit_4, sP_allFit_7, sP_allFit_8, sP_allFit_11, sP_allFit_12, sP_allFit_13, sP_allFit_17, sP_allFit_18, sP_allFit_21, sP_allFit_22, sP_allFit_25, sP_allFit_28, sP_allFit_29, sP_allFit_31, sP_allFit_34, sP_allFit_36, sP_allFit_37, sP_allFit_39, sP_allFit_40, sP_allFit_42, sP_allFit_43, sP_allFit_46, sP_allFit_48, sP_allFit_51, sP_allFit_54, sP_allFit_55, sP_allFit_58, sP_allFit_59, sP_allFit_62, sP_allFit_65, sP_allFit_67, sP_allFit_69, sP_allFit_72, sP_allFit_75, sP_allFit_76, sP_allFit_79, sP_allFit_80, sP_allFit_83, sP_allFit_86, sP_allFit_88, sP_allFit_90, sP_allFit_93, sP_allFit_95, sP_allFit_97, sP_allFit_100, sP_allFit_101, sP_allFit_102, sP_allFit_105, sP_allFit_108, sP_allFit_109, bi_t, en_rdO_eq, en_rdI_eq, en_rdN_eq, en_rdL_eq, true_and, and_true, List.getElem?_cons_succ, List.getElem?_cons_zero, en_gv_eq, if_true, if_false, and_self, or_true, true_or, implies_true, List.length_cons, List.length_nil, Nat.reduceLT, Nat.reduceLeDiff, Nat.reduceAdd, Nat.zero_le, Option.toList_some, Option.toList_none, List.cons_append, List.nil_append, nI_1, rd_t, n1_0, n0_1, Bool.false_eq_true, false_implies, reduceCtorEq]
            exact K5
          · have es : sp_fit S (h :: (sp_nd S i).drop (k + 1)) (f + k) be = sp_fit S ((sp_nd S i).drop (k + 1)) (f + (k + 1)) (fun v => if v = (sp_tx S h).getD 1 0 then f + k else be v) := by
              show (if sp_kd S h = 0 then (if (sp_row S (f + k)).getD 0 0 = (sp_tx S h).getD 0 0 then _ else _) else _) = _
              rw [if_pos hz, if_pos hq]
              rfl
            rw [← es]
            exact h'
        · rw [decide_eq_false hq] at K4
          have es : sp_fit S (h :: (sp_nd S i).drop (k + 1)) (f + k) be = none := by
            show (if sp_kd S h = 0 then (if (sp_row S (f + k)).getD 0 0 = (sp_tx S h).getD 0 0 then _ else _) else _) = _
            rw [if_pos hz, if_neg hq]
          rw [es]
          refine ⟨c1, r1, ?_, H1, f1, fun be' h' => by cases h'⟩
          rw [sP_allFit_15]
          simp only [sP_allFit_0, sP_allFit_1, sP_allFit_4, sP_allFit_7, sP_allFit_8, sP_allFit_11, sP_allFit_12, sP_allFit_13, sP_allFit_17, sP_allFit_18, sP_allFit_21, sP_allFit_22, sP_allFit_25, sP_allFit_28, sP_allFit_29, sP_allFit_31, sP_allFit_34, sP_allFit_36, sP_allFit_37, sP_allFit_39, sP_allFit_40, sP_allFit_42, sP_allFit_43, sP_allFit_46, sP_allFit_48, sP_allFit_51, sP_allFit_54, sP_allFit_55, sP_allFit_58, sP_allFit_59, sP_allFit_62, sP_allFit_65, sP_allFit_67, sP_allFit_69, sP_allFit_72, sP_allFit_75, sP_allFit_76, sP_allFit_79, sP_allFit_80, sP_allFit_83, sP_allFit_86, sP_allFit_88, sP_allFit_90, sP_allFit_93, sP_allFit_95, sP_allFit_97, sP_allFit_100, sP_allFit_101, sP_allFit_102, sP_allFit_105, sP_allFit_108, sP_allFit_109, e1, o0, o1, o4, o5, o8, o11, o16, o19, o22, o24, w0, w1, w4, w5, w8, w11, w14, w15, w16, w19, w22, w23, w24, w27, w28, k14, k15, k23, k27, k28, en_rdO_eq, en_rdI_eq, en_rdN_eq, en_rdL_eq, true_and, and_true, List.getElem?_cons_succ, List.getElem?_cons_zero, en_gv_eq, if_true, if_false, and_self, or_true, true_or, implies_true, List.length_cons, List.length_nil, Nat.reduceLT, Nat.reduceLeDiff, Nat.reduceAdd, Nat.zero_le, Option.toList_some, Option.toList_none, List.cons_append, List.nil_append, nI_1, rd_t, n1_0, n0_1, Bool.false_eq_true, false_implies, reduceCtorEq]
          refine en_use (by decide) K2 ?_
          simp only [sP_allFit_0, sP_allFit_1, sP_allFit_4, sP_allFit_7, sP_allFit_8, sP_allFit_11, sP_allFit_12, sP_allFit_13, sP_allFit_17, sP_allFit_18, sP_allFit_21, sP_allFit_22, sP_allFit_25, sP_allFit_28, sP_allFit_29, sP_allFit_31, sP_allFit_34, sP_allFit_36, sP_allFit_37, sP_allFit_39, sP_allFit_40, sP_allFit_42, sP_allFit_43, sP_allFit_46, sP_allFit_48, sP_allFit_51, sP_allFit_54, sP_allFit_55, sP_allFit_58, sP_allFit_59, sP_allFit_62, sP_allFit_65, sP_allFit_67, sP_allFit_69, sP_allFit_72, sP_allFit_75, sP_allFit_76, sP_allFit_79, sP_allFit_80, sP_allFit_83, sP_allFit_86, sP_allFit_88, sP_allFit_90, sP_allFit_93, sP_allFit_95, sP_allFit_97, sP_allFit_100, sP_allFit_101, sP_allFit_102, sP_allFit_105, sP_allFit_108, sP_allFit_109, o0, o1, o4, o5, o8, o11, o16, o19, o22, o24, w0, w1, w4, w5, w8, w11, w14, w15, w16, w19, w22, w23, w24, w27, w28, k14, k15, k23, k27, k28, nI_add, en_rdO_eq, en_rdI_eq, en_rdN_eq, en_rdL_eq, true_and, and_true, List.getElem?_cons_succ, List.getElem?_cons_zero, en_gv_eq, if_true, if_false, and_self, or_true, true_or, implies_true, List.length_cons, List.length_nil, Nat.reduceLT, Nat.reduceLeDiff, Nat.reduceAdd, Nat.zero_le, Option.toList_some, Option.toList_none, List.cons_append, List.nil_append, nI_1, rd_t, n1_0, n0_1, Bool.false_eq_true, false_implies, reduceCtorEq]
          refine en_use (by decide) K3 ?_
          simp only [sP_allFit_0, sP_allFit_1, sP_allFit_4, sP_allFit_7, sP_allFit_8, sP_allFit_11, sP_allFit_12, sP_allFit_13, sP_allFit_17, sP_allFit_18, sP_allFit_21, sP_allFit_22, sP_allFit_25, sP_allFit_28, sP_allFit_29, sP_allFit_31, sP_allFit_34, sP_allFit_36, sP_allFit_37, sP_allFit_39, sP_allFit_40, sP_allFit_42, sP_allFit_43, sP_allFit_46, sP_allFit_48, sP_allFit_51, sP_allFit_54, sP_allFit_55, sP_allFit_58, sP_allFit_59, sP_allFit_62, sP_allFit_65, sP_allFit_67, sP_allFit_69, sP_allFit_72, sP_allFit_75, sP_allFit_76, sP_allFit_79, sP_allFit_80, sP_allFit_83, sP_allFit_86, sP_allFit_88, sP_allFit_90, sP_allFit_93, sP_allFit_95, sP_allFit_97, sP_allFit_100, sP_allFit_101, sP_allFit_102, sP_allFit_105, sP_allFit_108, sP_allFit_109, o0, o1, o4, o5, o8, o11, o16, o19, o22, o24, w0, w1, w4, w5, w8, w11, w14, w15, w16, w19, w22, w23, w24, w27, w28, k14, k15, k23, k27, k28, e2, if_pos hz, en_rdO_eq, en_rdI_eq, en_rdN_eq, en_rdL_eq, true_and, and_true, List.getElem?_cons_succ, List.getElem?_cons_zero, en_gv_eq, if_true, if_false, and_self, or_true, true_or, implies_true, List.length_cons, List.length_nil, Nat.reduceLT, Nat.reduceLeDiff, Nat.reduceAdd, Nat.zero_le, Option.toList_some, Option.toList_none, List.cons_append, List.nil_append, nI_1, rd_t, n1_0, n0_1, Bool.false_eq_true, false_implies, reduceCtorEq]
          refine en_use (by decide) K4 ?_
          simp only [sP_allFit_0, sP_allFit_1, sP_allFit_4, sP_allFit_7, sP_allFit_8, sP_allFit_11, sP_allFit_12, sP_allFit_13, sP_allFit_17, sP_allFit_18, sP_allFit_21, sP_allFit_22, sP_allFit_25, sP_allFit_28, sP_allFit_29, sP_allFit_31, sP_allFit_34, sP_allFit_36, sP_allFit_37, sP_allFit_39, sP_allFit_40, sP_allFit_42, sP_allFit_43, sP_allFit_46, sP_allFit_48, sP_allFit_51, sP_allFit_54, sP_allFit_55, sP_allFit_58, sP_allFit_59, sP_allFit_62, sP_allFit_65, sP_allFit_67, sP_allFit_69, sP_allFit_72, sP_allFit_75, sP_allFit_76, sP_allFit_79, sP_allFit_80, sP_allFit_83, sP_allFit_86, sP_allFit_88, sP_allFit_90, sP_allFit_93, sP_allFit_95, sP_allFit_97, sP_allFit_100, sP_allFit_101, sP_allFit_102, sP_allFit_105, sP_allFit_108, sP_allFit_109, bi_f, en_rdO_eq, en_rdI_eq, en_rdN_eq, en_rdL_eq, true_and, and_true, List.getElem?_cons_succ, List.getElem?_cons_zero, en_gv_eq, if_true, if_false, and_self, or_true, true_or, implies_true, List.length_cons, List.length_nil, Nat.reduceLT, Nat.reduceLeDiff, Nat.reduceAdd, Nat.zero_le, Option.toList_some, Option.toList_none, List.cons_append, List.nil_append, nI_1, rd_t, n1_0, n0_1, Bool.false_eq_true, false_implies, reduceCtorEq, en_q, Option.isSome_none]
      · have hbo : be_ok S r be (sp_tx S h) := by
          intro s hs hv
          have ha := hw8.2.2
          rw [if_neg hz] at ha
          have := hb s (all_mem ha hs hv)
          exact ⟨this.1, this.2.2⟩
        have K4 := cB_makes (u := u) (be := be) (ii := nI h) (kk := nI (f + k)) H0 rfl rfl hql hpk hbo
        have hb1 : bk S r be f ((sp_nd S i).take (k + 1)) := by
          intro v hv
          rw [htk, fl_app] at hv
          have : (sp_kd S h == 0) = false := by simpa using hz
          rw [this, Bool.false_and, Bool.or_false] at hv
          exact hb v hv
        by_cases hq : sp_sub S be (sp_tx S h) = sp_row S (f + k)
        · rw [decide_eq_true hq] at K4
          obtain ⟨c2, r2, K5, H2, f2, hb2⟩ := ih (k + 1) c r be (some (.int (nI h))) (some (.int (nI (f + k)))) (some (.int 1)) (by omega) H0 hb1
          have es : sp_fit S (h :: (sp_nd S i).drop (k + 1)) (f + k) be = sp_fit S ((sp_nd S i).drop (k + 1)) (f + (k + 1)) be := by
            show (if sp_kd S h = 0 then _ else (if sp_sub S be (sp_tx S h) = sp_row S (f + k) then _ else _)) = _
            rw [if_neg hz, if_pos hq]
            rfl
          rw [es]
          refine ⟨c2, r2, ?_, H2, f2, hb2⟩
          rw [sP_allFit_15]
          simp only [sP_allFit_0, sP_allFit_1, sP_allFit_4, sP_allFit_7, sP_allFit_8, sP_allFit_11, sP_allFit_12, sP_allFit_13, sP_allFit_17, sP_allFit_18, sP_allFit_21, sP_allFit_22, sP_allFit_25, sP_allFit_28, sP_allFit_29, sP_allFit_31, sP_allFit_34, sP_allFit_36, sP_allFit_37, sP_allFit_39, sP_allFit_40, sP_allFit_42, sP_allFit_43, sP_allFit_46, sP_allFit_48, sP_allFit_51, sP_allFit_54, sP_allFit_55, sP_allFit_58, sP_allFit_59, sP_allFit_62, sP_allFit_65, sP_allFit_67, sP_allFit_69, sP_allFit_72, sP_allFit_75, sP_allFit_76, sP_allFit_79, sP_allFit_80, sP_allFit_83, sP_allFit_86, sP_allFit_88, sP_allFit_90, sP_allFit_93, sP_allFit_95, sP_allFit_97, sP_allFit_100, sP_allFit_101, sP_allFit_102, sP_allFit_105, sP_allFit_108, sP_allFit_109, e1, o0, o1, o4, o5, o8, o11, o16, o19, o22, o24, w0, w1, w4, w5, w8, w11, w14, w15, w16, w19, w22, w23, w24, w27, w28, k14, k15, k23, k27, k28, en_rdO_eq, en_rdI_eq, en_rdN_eq, en_rdL_eq, true_and, and_true, List.getElem?_cons_succ, List.getElem?_cons_zero, en_gv_eq, if_true, if_false, and_self, or_true, true_or, implies_true, List.length_cons, List.length_nil, Nat.reduceLT, Nat.reduceLeDiff, Nat.reduceAdd, Nat.zero_le, Option.toList_some, Option.toList_none, List.cons_append, List.nil_append, nI_1, rd_t, n1_0, n0_1, Bool.false_eq_true, false_implies, reduceCtorEq]
          refine en_use (by decide) K2 ?_
          simp only [sP_allFit_0, sP_allFit_1, sP_allFit_4, sP_allFit_7, sP_allFit_8, sP_allFit_11, sP_allFit_12, sP_allFit_13, sP_allFit_17, sP_allFit_18, sP_allFit_21, sP_allFit_22, sP_allFit_25, sP_allFit_28, sP_allFit_29, sP_allFit_31, sP_allFit_34, sP_allFit_36, sP_allFit_37, sP_allFit_39, sP_allFit_40, sP_allFit_42, sP_allFit_43, sP_allFit_46, sP_allFit_48, sP_allFit_51, sP_allFit_54, sP_allFit_55, sP_allFit_58, sP_allFit_59, sP_allFit_62, sP_allFit_65, sP_allFit_67, sP_allFit_69, sP_allFit_72, sP_allFit_75, sP_allFit_76, sP_allFit_79, sP_allFit_80, sP_allFit_83, sP_allFit_86, sP_allFit_88, sP_allFit_90, sP_allFit_93, sP_allFit_95, sP_allFit_97, sP_allFit_100, sP_allFit_101, sP_allFit_102, sP_allFit_105, sP_allFit_108, sP_allFit_109, o0, o1, o4, o5, o8, o11, o16, o19, o22, o24, w0, w1, w4, w5, w8, w11, w14, w15, w16, w19, w22, w23, w24, w27, w28, k14, k15, k23, k27, k28, nI_add, en_rdO_eq, en_rdI_eq, en_rdN_eq, en_rdL_eq, true_and, and_true, List.getElem?_cons_succ, List.getElem?_cons_zero, en_gv_eq, if_true, if_false, and_self, or_true, true_or, implies_true, List.length_cons, List.length_nil, Nat.reduceLT, Nat.reduceLeDiff, Nat.reduceAdd, Nat.zero_le, Option.toList_some, Option.toList_none, List.cons_append, List.nil_append, nI_1, rd_t, n1_0, n0_1, Bool.false_eq_true, false_implies, reduceCtorEq]
          refine en_use (by decide) K3 ?_
          simp only [sP_allFit_0, sP_allFit_1, sP_allFit_4, sP_allFit_7, sP_allFit_8, sP_allFit_11, sP_allFit_12, sP_allFit_13, sP_allFit_17, sP_allFit_18, sP_allFit_21, sP_allFit_22, sP_allFit_25, sP_allFit_28, sP_allFit_29, sP_allFit_31, sP_allFit_34, sP_allFit_36, sP_allFit_37, sP_allFit_39, sP_allFit_40, sP_allFit_42, sP_allFit_43, sP_allFit_46, sP_allFit_48, sP_allFit_51, sP_allFit_54, sP_allFit_55, sP_allFit_58, sP_allFit_59, sP_allFit_62, sP_allFit_65, sP_allFit_67, sP_allFit_69, sP_allFit_72, sP_allFit_75, sP_allFit_76, sP_allFit_79, sP_allFit_80, sP_allFit_83, sP_allFit_86, sP_allFit_88, sP_allFit_90, sP_allFit_93, sP_allFit_95, sP_allFit_97, sP_allFit_100, sP_allFit_101, sP_allFit_102, sP_allFit_105, sP_allFit_108, sP_allFit_109, o0, o1, o4, o5, o8, o11, o16, o19, o22, o24, w0, w1, w4, w5, w8, w11, w14, w15, w16, w19, w22, w23, w24, w27, w28, k14, k15, k23, k27, k28, e2, if_neg hz, en_rdO_eq, en_rdI_eq, en_rdN_eq, en_rdL_eq, true_and, and_true, List.getElem?_cons_succ, List.getElem?_cons_zero, en_gv_eq, if_true, if_false, and_self, or_true, true_or, implies_true, List.length_cons, List.length_nil, Nat.reduceLT, Nat.reduceLeDiff, Nat.reduceAdd, Nat.zero_le, Option.toList_some, Option.toList_none, List.cons_append, List.nil_append, nI_1, rd_t, n1_0, n0_1, Bool.false_eq_true, false_implies, reduceCtorEq]
          refine en_use (by decide) K4 ?_
          simp only [sP_allFit_0, sP_allFit_1, sP_allFit_4, sP_allFit_7, sP_allFit_8, sP_allFit_11, sP_allFit_12, sP_allFit_13, sP_allFit_17, sP_allFit_18, sP_allFit_21, sP_allFit_22, sP_allFit_25, sP_allFit_28, sP_allFit_29, sP_allFit_31, sP_allFit_34, sP_allFit_36, sP_allFit_37, sP_allFit_39, sP_allFit_40, sP_allFit_42, sP_allFit_43, sP_allFit_46, sP_allFit_48, sP_allFit_51, sP_allFit_54, sP_allFit_55, sP_allFit_58, sP_allFit_59, sP_allFit_62, sP_allFit_65, sP_allFit_67, sP_allFit_69, sP_allFit_72, sP_allFit_75, sP_allFit_76, sP_allFit_79, sP_allFit_80, sP_allFit_83, sP_allFit_86, sP_allFit_88, sP_allFit_90, sP_allFit_93, sP_allFit_95, sP_allFit_97, sP_allFit_100, sP_allFit_101, sP_allFit_102, sP_allFit_105, sP_allFit_108, sP_allFit_109, bi_t, en_rdO_eq, en_rdI_eq, en_rdN_eq, en_rdL_eq, true_and, and_true, List.getElem?_cons_succ, List.getElem?_cons_zero, en_gv_eq, if_true, if_false, and_self, or_true, true_or, implies_true, List.length_cons, List.length_nil, Nat.reduceLT, Nat.reduceLeDiff, Nat.reduceAdd, Nat.zero_le, Option.toList_some, Option.toList_none, List.cons_append, List.nil_append, nI_1, rd_t, n1_0, n0_1, Bool.false_eq_true, false_implies, reduceCtorEq]
          exact K5
        · rw [decide_eq_false hq] at K4
          have es : sp_fit S (h :: (sp_nd S i).drop (k + 1)) (f + k) be = none := by
            show (if sp_kd S h = 0 then _ else (if sp_sub S be (sp_tx S h) = sp_row S (f + k) then _ else _)) = _
            rw [if_neg hz, if_neg hq]
          rw [es]
          refine ⟨c, r, ?_, H0, cs_rf, fun be' h' => by cases h'⟩
          rw [sP_allFit_15]
          simp only [sP_allFit_0, sP_allFit_1, sP_allFit_4, sP_allFit_7, sP_allFit_8, sP_allFit_11, sP_allFit_12, sP_allFit_13, sP_allFit_17, sP_allFit_18, sP_allFit_21, sP_allFit_22, sP_allFit_25, sP_allFit_28, sP_allFit_29, sP_allFit_31, sP_allFit_34, sP_allFit_36, sP_allFit_37, sP_allFit_39, sP_allFit_40, sP_allFit_42, sP_allFit_43, sP_allFit_46, sP_allFit_48, sP_allFit_51, sP_allFit_54, sP_allFit_55, sP_allFit_58, sP_allFit_59, sP_allFit_62, sP_allFit_65, sP_allFit_67, sP_allFit_69, sP_allFit_72, sP_allFit_75, sP_allFit_76, sP_allFit_79, sP_allFit_80, sP_allFit_83, sP_allFit_86, sP_allFit_88, sP_allFit_90, sP_allFit_93, sP_allFit_95, sP_allFit_97, sP_allFit_100, sP_allFit_101, sP_allFit_102, sP_allFit_105, sP_allFit_108, sP_allFit_109, e1, o0, o1, o4, o5, o8, o11, o16, o19, o22, o24, w0, w1, w4, w5, w8, w11, w14, w15, w16, w19, w22, w23, w24, w27, w28, k14, k15, k23, k27, k28, en_rdO_eq, en_rdI_eq, en_rdN_eq, en_rdL_eq, true_and, and_true, List.getElem?_cons_succ, List.getElem?_cons_zero, en_gv_eq, if_true, if_false, and_self, or_true, true_or, implies_true, List.length_cons, List.length_nil, Nat.reduceLT, Nat.reduceLeDiff, Nat.reduceAdd, Nat.zero_le, Option.toList_some, Option.toList_none, List.cons_append, List.nil_append, nI_1, rd_t, n1_0, n0_1, Bool.false_eq_true, false_implies, reduceCtorEq]
          refine en_use (by decide) K2 ?_
          simp only [sP_allFit_0, sP_allFit_1, sP_allFit_4, sP_allFit_7, sP_allFit_8, sP_allFit_11, sP_allFit_12, sP_allFit_13, sP_allFit_17, sP_allFit_18, sP_allFit_21, sP_allFit_22, sP_allFit_25, sP_allFit_28, sP_allFit_29, sP_allFit_31, sP_allFit_34, sP_allFit_36, sP_allFit_37, sP_allFit_39, sP_allFit_40, sP_allFit_42, sP_allFit_43, sP_allFit_46, sP_allFit_48, sP_allFit_51, sP_allFit_54, sP_allFit_55, sP_allFit_58, sP_allFit_59, sP_allFit_62, sP_allFit_65, sP_allFit_67, sP_allFit_69, sP_allFit_72, sP_allFit_75, sP_allFit_76, sP_allFit_79, sP_allFit_80, sP_allFit_83, sP_allFit_86, sP_allFit_88, sP_allFit_90, sP_allFit_93, sP_allFit_95, sP_allFit_97, sP_allFit_100, sP_allFit_101, sP_allFit_102, sP_allFit_105, sP_allFit_108, sP_allFit_109, o0, o1, o4, o5, o8, o11, o16, o19, o22, o24, w0, w1, w4, w5, w8, w11, w14, w15, w16, w19, w22, w23, w24, w27, w28, k14, k15, k23, k27, k28, nI_add, en_rdO_eq, en_rdI_eq, en_rdN_eq, en_rdL_eq, true_and, and_true, List.getElem?_cons_succ, List.getElem?_cons_zero, en_gv_eq, if_true, if_false, and_self, or_true, true_or, implies_true, List.length_cons, List.length_nil, Nat.reduceLT, Nat.reduceLeDiff, Nat.reduceAdd, Nat.zero_le, Option.toList_some, Option.toList_none, List.cons_append, List.nil_append, nI_1, rd_t, n1_0, n0_1, Bool.false_eq_true, false_implies, reduceCtorEq]
          refine en_use (by decide) K3 ?_
          simp only [sP_allFit_0, sP_allFit_1, sP_allFit_4, sP_allFit_7, sP_allFit_8, sP_allFit_11, sP_allFit_12, sP_allFit_13, sP_allFit_17, sP_allFit_18, sP_allFit_21, sP_allFit_22, sP_allFit_25, sP_allFit_28, sP_allFit_29, sP_allFit_31, sP_allFit_34, sP_allFit_36, sP_allFit_37, sP_allFit_39, sP_allFit_40, sP_allFit_42, sP_allFit_43, sP_allFit_46, sP_allFit_48, sP_allFit_51, sP_allFit_54, sP_allFit_55, sP_allFit_58, sP_allFit_59, sP_allFit_62, sP_allFit_65, sP_allFit_67, sP_allFit_69, sP_allFit_72, sP_allFit_75, sP_allFit_76, sP_allFit_79, sP_allFit_80, sP_allFit_83, sP_allFit_86, sP_allFit_88, sP_allFit_90, sP_allFit_93, sP_allFit_95, sP_allFit_97, sP_allFit_100, sP_allFit_101, sP_allFit_102, sP_allFit_105, sP_allFit_108, sP_allFit_109, o0, o1, o4, o5, o8, o11, o16, o19, o22, o24, w0, w1, w4, w5, w8, w11, w14, w15, w16, w19, w22, w23, w24, w27, w28, k14, k15, k23, k27, k28, e2, if_neg hz, en_rdO_eq, en_rdI_eq, en_rdN_eq, en_rdL_eq, true_and, and_true, List.getElem?_cons_succ, List.getElem?_cons_zero, en_gv_eq, if_true, if_false, and_self, or_true, true_or, implies_true, List.length_cons, List.length_nil, Nat.reduceLT, Nat.reduceLeDiff, Nat.reduceAdd, Nat.zero_le, Option.toList_some, Option.toList_none, List.cons_append, List.nil_append, nI_1, rd_t, n1_0, n0_1, Bool.false_eq_true, false_implies, reduceCtorEq]
          refine en_use (by decide) K4 ?_
          simp only [sP_allFit_0, sP_allFit_1, sP_allFit_4, sP_allFit_7, sP_allFit_8, sP_allFit_11, sP_allFit_12, sP_allFit_13, sP_allFit_17, sP_allFit_18, sP_allFit_21, sP_allFit_22, sP_allFit_25, sP_allFit_28, sP_allFit_29, sP_allFit_31, sP_allFit_34, sP_allFit_36, sP_allFit_37, sP_allFit_39, sP_allFit_40, sP_allFit_42, sP_allFit_43, sP_allFit_46, sP_allFit_48, sP_allFit_51, sP_allFit_54, sP_allFit_55, sP_allFit_58, sP_allFit_59, sP_allFit_62, sP_allFit_65, sP_allFit_67, sP_allFit_69, sP_allFit_72, sP_allFit_75, sP_allFit_76, sP_allFit_79, sP_allFit_80, sP_allFit_83, sP_allFit_86, sP_allFit_88, sP_allFit_90, sP_allFit_93, sP_allFit_95, sP_allFit_97, sP_allFit_100, sP_allFit_101, sP_allFit_102, sP_allFit_105, sP_allFit_108, sP_allFit_109, bi_f, en_rdO_eq, en_rdI_eq, en_rdN_eq, en_rdL_eq, true_and, and_true, List.getElem?_cons_succ, List.getElem?_cons_zero, en_gv_eq, if_true, if_false, and_self, or_true, true_or, implies_true, List.length_cons, List.length_nil, Nat.reduceLT, Nat.reduceLeDiff, Nat.reduceAdd, Nat.zero_le, Option.toList_some, Option.toList_none, List.cons_append, List.nil_append, nI_1, rd_t, n1_0, n0_1, Bool.false_eq_true, false_implies, reduceCtorEq, en_q, Option.isSome_none]
  obtain ⟨c', r', K, H', f', hb'⟩ := loop (sp_nd S i).length 0 c r (fun _ => 0) none none none (Nat.zero_add _) H (fun v hv => by cases hv)
  refine ⟨c', r', ?_, H', f', hb'⟩
  have K1 := cR_size_in (u := u) (row := nI i) (cs_T H).2.1 rfl (by rw [(cs_len H.2.1).2.1]; exact hi)
  rw [(cs_get H.2.1 i).2.1] at K1
  obtain ⟨o0, o1, o4, o5, o8, o11, o16, o19, o22, o24⟩ := cs_o H.1
  obtain ⟨w0, w1, w4, w5, w8, w11, w14, w15, w16, w19, w22, w23, w24, w27, w28⟩ := cs_b H.1.1
  obtain ⟨k14, k15, k23, k27, k28⟩ := H.1.2.2.2.1
  refine en_call_is (by decide) (Nat.le_of_ble_eq_true rfl) cat_3 ?_
  show en_W (en_call 4) mP_allFit 0 [some (.ref 0), some (.int (nI i)), some (.int (nI f)), none, none, none, none, none] [] c x u _
  simp only [sP_allFit_0, sP_allFit_1, sP_allFit_4, sP_allFit_7, sP_allFit_8, sP_allFit_11, sP_allFit_12, sP_allFit_13, sP_allFit_17, sP_allFit_18, sP_allFit_21, sP_allFit_22, sP_allFit_25, sP_allFit_28, sP_allFit_29, sP_allFit_31, sP_allFit_34, sP_allFit_36, sP_allFit_37, sP_allFit_39, sP_allFit_40, sP_allFit_42, sP_allFit_43, sP_allFit_46, sP_allFit_48, sP_allFit_51, sP_allFit_54, sP_allFit_55, sP_allFit_58, sP_allFit_59, sP_allFit_62, sP_allFit_65, sP_allFit_67, sP_allFit_69, sP_allFit_72, sP_allFit_75, sP_allFit_76, sP_allFit_79, sP_allFit_80, sP_allFit_83, sP_allFit_86, sP_allFit_88, sP_allFit_90, sP_allFit_93, sP_allFit_95, sP_allFit_97, sP_allFit_100, sP_allFit_101, sP_allFit_102, sP_allFit_105, sP_allFit_108, sP_allFit_109, o0, o1, o4, o5, o8, o11, o16, o19, o22, o24, w0, w1, w4, w5, w8, w11, w14, w15, w16, w19, w22, w23, w24, w27, w28, k14, k15, k23, k27, k28, en_rdO_eq, en_rdI_eq, en_rdN_eq, en_rdL_eq, true_and, and_true, List.getElem?_cons_succ, List.getElem?_cons_zero, en_gv_eq, if_true, if_false, and_self, or_true, true_or, implies_true, List.length_cons, List.length_nil, Nat.reduceLT, Nat.reduceLeDiff, Nat.reduceAdd, Nat.zero_le, Option.toList_some, Option.toList_none, List.cons_append, List.nil_append, nI_1, rd_t, n1_0, n0_1, Bool.false_eq_true, false_implies, reduceCtorEq]
  refine en_use (by decide) K1 ?_
  simp only [sP_allFit_0, sP_allFit_1, sP_allFit_4, sP_allFit_7, sP_allFit_8, sP_allFit_11, sP_allFit_12, sP_allFit_13, sP_allFit_17, sP_allFit_18, sP_allFit_21, sP_allFit_22, sP_allFit_25, sP_allFit_28, sP_allFit_29, sP_allFit_31, sP_allFit_34, sP_allFit_36, sP_allFit_37, sP_allFit_39, sP_allFit_40, sP_allFit_42, sP_allFit_43, sP_allFit_46, sP_allFit_48, sP_allFit_51, sP_allFit_54, sP_allFit_55, sP_allFit_58, sP_allFit_59, sP_allFit_62, sP_allFit_65, sP_allFit_67, sP_allFit_69, sP_allFit_72, sP_allFit_75, sP_allFit_76, sP_allFit_79, sP_allFit_80, sP_allFit_83, sP_allFit_86, sP_allFit_88, sP_allFit_90, sP_allFit_93, sP_allFit_95, sP_allFit_97, sP_allFit_100, sP_allFit_101, sP_allFit_102, sP_allFit_105, sP_allFit_108, sP_allFit_109, o0, o1, o4, o5, o8, o11, o16, o19, o22, o24, w0, w1, w4, w5, w8, w11, w14, w15, w16, w19, w22, w23, w24, w27, w28, k14, k15, k23, k27, k28, en_rdO_eq, en_rdI_eq, en_rdN_eq, en_rdL_eq, true_and, and_true, List.getElem?_cons_succ, List.getElem?_cons_zero, en_gv_eq, if_true, if_false, and_self, or_true, true_or, implies_true, List.length_cons, List.length_nil, Nat.reduceLT, Nat.reduceLeDiff, Nat.reduceAdd, Nat.zero_le, Option.toList_some, Option.toList_none, List.cons_append, List.nil_append, nI_1, rd_t, n1_0, n0_1, Bool.false_eq_true, false_implies, reduceCtorEq]
  exact K
theorem ap2_is {A B l m : List Nat} (hA : ∀ v, v ∈ A ↔ (v ∈ l ∧ sp_var S v = true)) (hB : ∀ v, v ∈ B ↔ (v ∈ m ∧ sp_var S v = true)) : A.all (fun a => B.all (fun b => pa_is S a b)) = sp_ap2 S l m := by
  apply Bool.eq_iff_iff.mpr
  unfold sp_ap2
  rw [List.all_eq_true, List.all_eq_true]
  constructor
  · intro h a ha
    rw [List.all_eq_true]
    intro b hb
    cases hva : sp_var S a with
    | false => rfl
    | true =>
      cases hvb : sp_var S b with
      | false => rfl
      | true =>
        have h1 := h a ((hA a).mpr ⟨ha, hva⟩)
        have h2 := List.all_eq_true.mp h1 b ((hB b).mpr ⟨hb, hvb⟩)
        unfold pa_is at h2
        rw [hva, hvb] at h2
        simp at h2 ⊢
        exact h2
  · intro h a ha
    rw [List.all_eq_true]
    intro b hb
    obtain ⟨a1, a2⟩ := (hA a).mp ha
    obtain ⟨b1, b2⟩ := (hB b).mp hb
    have h2 := List.all_eq_true.mp (h a a1) b b1
    unfold pa_is
    rw [a2, b2] at h2 ⊢
    simp at h2 ⊢
    exact h2
theorem cP_allApart {i f : Nat} {ii ff : Int32} {be : Nat → Nat} (H : CS c x ci N r S) (hii : ii = nI i) (hff : ff = nI f) (hi : i < S.2.1.length) (hf : f + (sp_nd S i).length = S.2.2.2.2.1.length) (hb : bk S r be f (sp_nd S i)) (hN : N 0 ≤ 999999000) :
    ∃ c' x' u' ci' N' r', en_call 5 mP_allApart [.ref 0, .int ii, .int ff] c x u (some (.int (bi (sp_aps S be (sp_pr S i))))) c' x' u' ∧ CS c' x' ci' N' r' S ∧ cs_fr c c' ∧ cg (r_setN N 0 (N 0 + 200)) N' x x' u u' ∧ r_rf r' = r_rf r := by
  have hT := H.2.2.2.2.2.1 i hi
  have hn := H.2.2.2.1
  have hp := (ps_b H).1
  have hnl := hT.2.2.1
  have hpl := hT.2.2.2.1
  subst hii hff
  have K1 := cR_size_in (u := u) (row := nI i) (cs_T H).2.2.1 rfl (by rw [(cs_len H.2.1).2.2]; exact hi)
  rw [(cs_get H.2.1 i).2.2, pf_len] at K1
  by_cases hz : (sp_pr S i).length = 0
  · have hnil : sp_pr S i = [] := List.eq_nil_of_length_eq_zero hz
    rw [hnil] at K1 ⊢
    refine ⟨c, x, u, ci, _, r, ?_, ⟨cr_N0 H.1 (B := N 0 + 200) (by omega), H.2⟩, cs_rf, cg_rf, rfl⟩
    have e1 : nI (2 * ([] : List (Nat × Nat)).length) ≤ 0 := by decide
    have e2 : nI (2 * ([] : List (Nat × Nat)).length) ≤ 0 + 1 := by decide
    obtain ⟨o0, o1, o4, o5, o8, o11, o16, o19, o22, o24⟩ := cs_o H.1
    obtain ⟨w0, w1, w4, w5, w8, w11, w14, w15, w16, w19, w22, w23, w24, w27, w28⟩ := cs_b H.1.1
    obtain ⟨k14, k15, k23, k27, k28⟩ := H.1.2.2.2.1
    refine en_call_is (by decide) (Nat.le_of_ble_eq_true rfl) cat_3 ?_
    show en_W (en_call 4) mP_allApart 0 [some (.ref 0), some (.int (nI i)), some (.int (nI f)), none, none] [] c x u _
    simp only [sP_allApart_0, sP_allApart_1, sP_allApart_4, sP_allApart_7, sP_allApart_8, sP_allApart_11, sP_allApart_12, sP_allApart_13, sP_allApart_16, sP_allApart_17, sP_allApart_20, sP_allApart_21, sP_allApart_24, sP_allApart_25, sP_allApart_29, sP_allApart_30, sP_allApart_31, sP_allApart_32, sP_allApart_35, sP_allApart_36, sP_allApart_39, sP_allApart_40, sP_allApart_43, sP_allApart_46, sP_allApart_47, sP_allApart_49, sP_allApart_52, sP_allApart_53, sP_allApart_56, sP_allApart_59, sP_allApart_60, sP_allApart_62, sP_allApart_63, sP_allApart_64, sP_allApart_67, sP_allApart_70, sP_allApart_73, sP_allApart_74, sP_allApart_75, sP_allApart_78, sP_allApart_81, sP_allApart_82, o0, o1, o4, o5, o8, o11, o16, o19, o22, o24, w0, w1, w4, w5, w8, w11, w14, w15, w16, w19, w22, w23, w24, w27, w28, k14, k15, k23, k27, k28, en_rdO_eq, en_rdI_eq, en_rdN_eq, en_rdL_eq, true_and, and_true, List.getElem?_cons_succ, List.getElem?_cons_zero, en_gv_eq, if_true, if_false, and_self, or_true, true_or, implies_true, List.length_cons, List.length_nil, Nat.reduceLT, Nat.reduceLeDiff, Nat.reduceAdd, Nat.zero_le, Option.toList_some, Option.toList_none, List.cons_append, List.nil_append, nI_1, rd_t, n1_0, n0_1, Bool.false_eq_true, false_implies, reduceCtorEq]
    refine en_use (by decide) K1 ?_
    have e1 : nI (2 * 0) ≤ 0 := by decide
    have e2 : nI (2 * 0) ≤ (0 : Int32) + 1 := by decide
    simp only [sP_allApart_0, sP_allApart_1, sP_allApart_4, sP_allApart_7, sP_allApart_8, sP_allApart_11, sP_allApart_12, sP_allApart_13, sP_allApart_16, sP_allApart_17, sP_allApart_20, sP_allApart_21, sP_allApart_24, sP_allApart_25, sP_allApart_27, sP_allApart_29, sP_allApart_30, sP_allApart_31, sP_allApart_32, sP_allApart_35, sP_allApart_36, sP_allApart_39, sP_allApart_40, sP_allApart_43, sP_allApart_46, sP_allApart_47, sP_allApart_49, sP_allApart_52, sP_allApart_53, sP_allApart_56, sP_allApart_59, sP_allApart_60, sP_allApart_62, sP_allApart_63, sP_allApart_64, sP_allApart_67, sP_allApart_70, sP_allApart_73, sP_allApart_74, sP_allApart_75, sP_allApart_78, sP_allApart_81, sP_allApart_82, e1, e2, en_rdO_eq, en_rdI_eq, en_rdN_eq, en_rdL_eq, true_and, and_true, List.getElem?_cons_succ, List.getElem?_cons_zero, en_gv_eq, if_true, if_false, and_self, or_true, true_or, implies_true, List.length_cons, List.length_nil, Nat.reduceLT, Nat.reduceLeDiff, Nat.reduceAdd, Nat.zero_le, Option.toList_some, Option.toList_none, List.cons_append, List.nil_append, nI_1, rd_t, n1_0, n0_1, Bool.false_eq_true, false_implies, reduceCtorEq, en_q]
    simp [sp_aps, bi]
  · have e1 : ¬ nI (2 * (sp_pr S i).length) ≤ 0 := nI_nle (by omega) (by omega)
    obtain ⟨c1, x1, u1, ci1, N1, r1, K2, H1, f1, g1, ⟨hR1, hrf, -⟩, hlo, hil, hin⟩ := cB_list (u := u) (ff := nI f) H rfl (by omega) (by omega) hN
    refine ⟨c1, x1, u1, ci1, N1, r1, ?_, H1, f1, g1, hrf⟩
    have loop : ∀ (n k : Nat), k + n = (sp_pr S i).length → en_W (en_call 4) mP_allApart 27 [some (.ref 0), some (.int (nI i)), some (.int (nI f)), some (.int (nI (2 * (sp_pr S i).length))), some (.int (nI (2 * k)))] [] c1 x1 u1 (en_q (some (.int (bi (sp_aps S be ((sp_pr S i).drop k))))) c1 x1 u1) := by
      have H0 := H
      have H := H1
      obtain ⟨o0, o1, o4, o5, o8, o11, o16, o19, o22, o24⟩ := cs_o H.1
      obtain ⟨w0, w1, w4, w5, w8, w11, w14, w15, w16, w19, w22, w23, w24, w27, w28⟩ := cs_b H.1.1
      obtain ⟨k14, k15, k23, k27, k28⟩ := H.1.2.2.2.1
      intro n
      induction n with
      | zero =>
        intro k hk
        have hk : k = (sp_pr S i).length := by omega
        subst hk
        have e2 : nI (2 * (sp_pr S i).length) ≤ nI (2 * (sp_pr S i).length + 1) := nI_le (by omega) (by omega)
        rw [List.drop_length, sP_allApart_27]
        simp only [sP_allApart_0, sP_allApart_1, sP_allApart_4, sP_allApart_7, sP_allApart_8, sP_allApart_11, sP_allApart_12, sP_allApart_13, sP_allApart_16, sP_allApart_17, sP_allApart_20, sP_allApart_21, sP_allApart_24, sP_allApart_25, sP_allApart_29, sP_allApart_30, sP_allApart_31, sP_allApart_32, sP_allApart_35, sP_allApart_36, sP_allApart_39, sP_allApart_40, sP_allApart_43, sP_allApart_46, sP_allApart_47, sP_allApart_49, sP_allApart_52, sP_allApart_53, sP_allApart_56, sP_allApart_59, sP_allApart_60, sP_allApart_62, sP_allApart_63, sP_allApart_64, sP_allApart_67, sP_allApart_70, sP_allApart_73, sP_allApart_74, sP_allApart_75, sP_allApart_78, sP_allApart_81, sP_allApart_82, e2, en_rdO_eq, en_rdI_eq, en_rdN_eq, en_rdL_eq, true_and, and_true, List.getElem?_cons_succ, List.getElem?_cons_zero, en_gv_eq, if_true, if_false, and_self, or_true, true_or, implies_true, List.length_cons, List.length_nil, Nat.reduceLT, Nat.reduceLeDiff, Nat.reduceAdd, Nat.zero_le, Option.toList_some, Option.toList_none, List.cons_append, List.nil_append, nI_1, rd_t, n1_0, n0_1, Bool.false_eq_true, false_implies, reduceCtorEq, en_q]
        simp [sp_aps, bi]
      | succ n ih =>
        intro k hk
        have hklt : k < (sp_pr S i).length := by omega
        have e2 : ¬ nI (2 * (sp_pr S i).length) ≤ nI (2 * k + 1) := nI_ge (by omega) (by omega)
        obtain ⟨g1, g2⟩ := pf_get (sp_pr S i) k hklt
        have HT := (cs_T H1).2.2.1
        have hl := (cs_len H1.2.1).2.2
        have hg := (cs_get H1.2.1 i).2.2
        have K3 := cR_get_in (u := u1) (row := nI i) (kk := nI (2 * k)) HT rfl rfl (by rw [hl]; exact hi) (by rw [hg, pf_len]; omega)
        rw [hg, g1] at K3
        have K4 := cR_get_in (u := u1) (row := nI i) (kk := nI (2 * k + 1)) HT rfl rfl (by rw [hl]; exact hi) (by rw [hg, pf_len]; omega)
        rw [hg, g2] at K4
        have hm : (sp_pr S i).getD k (0, 0) ∈ sp_pr S i := by
          rw [List.getD_eq_getElem?_getD, List.getElem?_eq_getElem hklt]
          exact List.getElem_mem hklt
        have hfl := hT.2.2.2.2.2.2.2.2 _ hm
        rw [drop_getP hklt]
        generalize (sp_pr S i).getD k (0, 0) = q at *
        obtain ⟨v1, v2⟩ := fl_in H0.2.2 hi hfl.1
        obtain ⟨w1', w2⟩ := fl_in H0.2.2 hi hfl.2
        obtain ⟨b1, b2, b3⟩ := hb _ hfl.1
        obtain ⟨d1, d2, d3⟩ := hb _ hfl.2
        have K5 := cB_apart (u := u1) (ss := nI q.1) (tt := nI q.2) (be := be) H1 rfl rfl v1 w1' v2 w2 (by rw [hrf]; exact b1) (by rw [hrf]; exact d1) b2 d2 b3 d3 hlo hil (fun j hj v hv => by
          have h1 := ((hin j hj v).mp hv).1
          exact (row_wf H1 (k := f + j) (by omega)).2.2.1 v (List.mem_of_mem_drop h1))
        have hA := hin (be q.1 - f) (by omega)
        have hB := hin (be q.2 - f) (by omega)
        rw [show f + (be q.1 - f) = be q.1 by omega] at hA
        rw [show f + (be q.2 - f) = be q.2 by omega] at hB
        rw [ap2_is hA hB] at K5
        have IH := ih (k + 1) (by omega)
        have e6 : nI (2 * k) + 2 = nI (2 * (k + 1)) := by
          rw [show (2 : Int32) = nI 2 from rfl, nI_add]
          rfl
        have es : sp_aps S be (q :: (sp_pr S i).drop (k + 1)) = (sp_ap2 S ((sp_row S (be q.1)).drop 1) ((sp_row S (be q.2)).drop 1) && sp_aps S be ((sp_pr S i).drop (k + 1))) := rfl
        rw [es, sP_allApart_27]
        simp only [sP_allApart_0, sP_allApart_1, sP_allApart_4, sP_allApart_7, sP_allApart_8, sP_allApart_11, sP_allApart_12, sP_allApart_13, sP_allApart_16, sP_allApart_17, sP_allApart_20, sP_allApart_21, sP_allApart_24, sP_allApart_25, sP_allApart_29, sP_allApart_30, sP_allApart_31, sP_allApart_32, sP_allApart_35, sP_allApart_36, sP_allApart_39, sP_allApart_40, sP_allApart_43, sP_allApart_46, sP_allApart_47, sP_allApart_49, sP_allApart_52, sP_allApart_53, sP_allApart_56, sP_allApart_59, sP_allApart_60, sP_allApart_62, sP_allApart_63, sP_allApart_64, sP_allApart_67, sP_allApart_70, sP_allApart_73, sP_allApart_74, sP_allApart_75, sP_allApart_78, sP_allApart_81, sP_allApart_82, e2, o0, o1, o4, o5, o8, o11, o16, o19, o22, o24, w0, w1, w4, w5, w8, w11, w14, w15, w16, w19, w22, w23, w24, w27, w28, k14, k15, k23, k27, k28, en_rdO_eq, en_rdI_eq, en_rdN_eq, en_rdL_eq, true_and, and_true, List.getElem?_cons_succ, List.getElem?_cons_zero, en_gv_eq, if_true, if_false, and_self, or_true, true_or, implies_true, List.length_cons, List.length_nil, Nat.reduceLT, Nat.reduceLeDiff, Nat.reduceAdd, Nat.zero_le, Option.toList_some, Option.toList_none, List.cons_append, List.nil_append, nI_1, rd_t, n1_0, n0_1, Bool.false_eq_true, false_implies, reduceCtorEq]
        refine en_use (by decide) K3 ?_
        simp only [sP_allApart_0, sP_allApart_1, sP_allApart_4, sP_allApart_7, sP_allApart_8, sP_allApart_11, sP_allApart_12, sP_allApart_13, sP_allApart_16, sP_allApart_17, sP_allApart_20, sP_allApart_21, sP_allApart_24, sP_allApart_25, sP_allApart_29, sP_allApart_30, sP_allApart_31, sP_allApart_32, sP_allApart_35, sP_allApart_36, sP_allApart_39, sP_allApart_40, sP_allApart_43, sP_allApart_46, sP_allApart_47, sP_allApart_49, sP_allApart_52, sP_allApart_53, sP_allApart_56, sP_allApart_59, sP_allApart_60, sP_allApart_62, sP_allApart_63, sP_allApart_64, sP_allApart_67, sP_allApart_70, sP_allApart_73, sP_allApart_74, sP_allApart_75, sP_allApart_78, sP_allApart_81, sP_allApart_82, o0, o1, o4, o5, o8, o11, o16, o19, o22, o24, w0, w1, w4, w5, w8, w11, w14, w15, w16, w19, w22, w23, w24, w27, w28, k14, k15, k23, k27, k28, en_rdO_eq, en_rdI_eq, en_rdN_eq, en_rdL_eq, true_and, and_true, List.getElem?_cons_succ, List.getElem?_cons_zero, en_gv_eq, if_true, if_false, and_self, or_true, true_or, implies_true, List.length_cons, List.length_nil, Nat.reduceLT, Nat.reduceLeDiff, Nat.reduceAdd, Nat.zero_le, Option.toList_some, Option.toList_none, List.cons_append, List.nil_append, nI_1, rd_t, n1_0, n0_1, Bool.false_eq_true, false_implies, reduceCtorEq]
        refine en_use (by decide) K4 ?_
        simp only [sP_allApart_0, sP_allApart_1, sP_allApart_4, sP_allApart_7, sP_allApart_8, sP_allApart_11, sP_allApart_12, sP_allApart_13, sP_allApart_16, sP_allApart_17, sP_allApart_20, sP_allApart_21, sP_allApart_24, sP_allApart_25, sP_allApart_29, sP_allApart_30, sP_allApart_31, sP_allApart_32, sP_allApart_35, sP_allApart_36, sP_allApart_39, sP_allApart_40, sP_allApart_43, sP_allApart_46, sP_allApart_47, sP_allApart_49, sP_allApart_52, sP_allApart_53, sP_allApart_56, sP_allApart_59, sP_allApart_60, sP_allApart_62, sP_allApart_63, sP_allApart_64, sP_allApart_67, sP_allApart_70, sP_allApart_73, sP_allApart_74, sP_allApart_75, sP_allApart_78, sP_allApart_81, sP_allApart_82, o0, o1, o4, o5, o8, o11, o16, o19, o22, o24, w0, w1, w4, w5, w8, w11, w14, w15, w16, w19, w22, w23, w24, w27, w28, k14, k15, k23, k27, k28, en_rdO_eq, en_rdI_eq, en_rdN_eq, en_rdL_eq, true_and, and_true, List.getElem?_cons_succ, List.getElem?_cons_zero, en_gv_eq, if_true, if_false, and_self, or_true, true_or, implies_true, List.length_cons, List.length_nil, Nat.reduceLT, Nat.reduceLeDiff, Nat.reduceAdd, Nat.zero_le, Option.toList_some, Option.toList_none, List.cons_append, List.nil_append, nI_1, rd_t, n1_0, n0_1, Bool.false_eq_true, false_implies, reduceCtorEq]
        refine en_use (by decide) K5 ?_
        cases sp_ap2 S ((sp_row S (be q.1)).drop 1) ((sp_row S (be q.2)).drop 1) with
        | true =>
          simp only [sP_allApart_0, sP_allApart_1, sP_allApart_4, sP_allApart_7, sP_allApart_8, sP_allApart_11, sP_allApart_12, sP_allApart_13, sP_allApart_16, sP_allApart_17, sP_allApart_20, sP_allApart_21, sP_allApart_24, sP_allApart_25, sP_allApart_29, sP_allApart_30, sP_allApart_31, sP_allApart_32, sP_allApart_35, sP_allApart_36, sP_allApart_39, sP_allApart_40, sP_allApart_43, sP_allApart_46, sP_allApart_47, sP_allApart_49, sP_allApart_52, sP_allApart_53, sP_allApart_56, sP_allApart_59, sP_allApart_60, sP_allApart_62, sP_allApart_63, sP_allApart_64, sP_allApart_67, sP_allApart_70, sP_allApart_73, sP_allApart_74, sP_allApart_75, sP_allApart_78, sP_allApart_81, sP_allApart_82, bi_t, e6, Bool.true_and, en_rdO_eq, en_rdI_eq, en_rdN_eq, en_rdL_eq, true_and, and_true, List.getElem?_cons_succ, List.getElem?_cons_zero, en_gv_eq, if_true, if_false, and_self, or_true, true_or, implies_true, List.length_cons, List.length_nil, Nat.reduceLT, Nat.reduceLeDiff, Nat.reduceAdd, Nat.zero_le, Option.toList_some, Option.toList_none, List.cons_append, List.nil_append, nI_1, rd_t, n1_0, n0_1, Bool.false_eq_true, false_implies, reduceCtorEq]
          exact IH
        | false => simp only [sP_allApart_0, sP_allApart_1, sP_allApart_4, sP_allApart_7, sP_allApart_8, sP_allApart_11, sP_allApart_12, sP_allApart_13, sP_allApart_16, sP_allApart_17, sP_allApart_20, sP_allApart_21, sP_allApart_24, sP_allApart_25, sP_allApart_29, sP_allApart_30, sP_allApart_31, sP_allApart_32, sP_allApart_35, sP_allApart_36, sP_allApart_39, sP_allApart_40, sP_allApart_43, sP_allApart_46, sP_allApart_47, sP_allApart_49, sP_allApart_52, sP_allApart_53, sP_allApart_56, sP_allApart_59, sP_allApart_60, sP_allApart_62, sP_allApart_63, sP_allApart_64, sP_allApart_67, sP_allApart_70, sP_allApart_73, sP_allApart_74, sP_allApart_75, sP_allApart_78, sP_allApart_81, sP_allApart_82, bi_f, Bool.false_and, en_rdO_eq, en_rdI_eq, en_rdN_eq, en_rdL_eq, true_and, and_true, List.getElem?_cons_succ, List.getElem?_cons_zero, en_gv_eq, if_true, if_false, and_self, or_true, true_or, implies_true, List.length_cons, List.length_nil, Nat.reduceLT, Nat.reduceLeDiff, Nat.reduceAdd, Nat.zero_le, Option.toList_some, Option.toList_none, List.cons_append, List.nil_append, nI_1, rd_t, n1_0, n0_1, Bool.false_eq_true, false_implies, reduceCtorEq, en_q]
    obtain ⟨o0, o1, o4, o5, o8, o11, o16, o19, o22, o24⟩ := cs_o H.1
    obtain ⟨w0, w1, w4, w5, w8, w11, w14, w15, w16, w19, w22, w23, w24, w27, w28⟩ := cs_b H.1.1
    obtain ⟨k14, k15, k23, k27, k28⟩ := H.1.2.2.2.1
    refine en_call_is (by decide) (Nat.le_of_ble_eq_true rfl) cat_3 ?_
    show en_W (en_call 4) mP_allApart 0 [some (.ref 0), some (.int (nI i)), some (.int (nI f)), none, none] [] c x u _
    simp only [sP_allApart_0, sP_allApart_1, sP_allApart_4, sP_allApart_7, sP_allApart_8, sP_allApart_11, sP_allApart_12, sP_allApart_13, sP_allApart_16, sP_allApart_17, sP_allApart_20, sP_allApart_21, sP_allApart_24, sP_allApart_25, sP_allApart_29, sP_allApart_30, sP_allApart_31, sP_allApart_32, sP_allApart_35, sP_allApart_36, sP_allApart_39, sP_allApart_40, sP_allApart_43, sP_allApart_46, sP_allApart_47, sP_allApart_49, sP_allApart_52, sP_allApart_53, sP_allApart_56, sP_allApart_59, sP_allApart_60, sP_allApart_62, sP_allApart_63, sP_allApart_64, sP_allApart_67, sP_allApart_70, sP_allApart_73, sP_allApart_74, sP_allApart_75, sP_allApart_78, sP_allApart_81, sP_allApart_82, o0, o1, o4, o5, o8, o11, o16, o19, o22, o24, w0, w1, w4, w5, w8, w11, w14, w15, w16, w19, w22, w23, w24, w27, w28, k14, k15, k23, k27, k28, en_rdO_eq, en_rdI_eq, en_rdN_eq, en_rdL_eq, true_and, and_true, List.getElem?_cons_succ, List.getElem?_cons_zero, en_gv_eq, if_true, if_false, and_self, or_true, true_or, implies_true, List.length_cons, List.length_nil, Nat.reduceLT, Nat.reduceLeDiff, Nat.reduceAdd, Nat.zero_le, Option.toList_some, Option.toList_none, List.cons_append, List.nil_append, nI_1, rd_t, n1_0, n0_1, Bool.false_eq_true, false_implies, reduceCtorEq]
    refine en_use (by decide) K1 ?_
    simp only [sP_allApart_0, sP_allApart_1, sP_allApart_4, sP_allApart_7, sP_allApart_8, sP_allApart_11, sP_allApart_12, sP_allApart_13, sP_allApart_16, sP_allApart_17, sP_allApart_20, sP_allApart_21, sP_allApart_24, sP_allApart_25, sP_allApart_29, sP_allApart_30, sP_allApart_31, sP_allApart_32, sP_allApart_35, sP_allApart_36, sP_allApart_39, sP_allApart_40, sP_allApart_43, sP_allApart_46, sP_allApart_47, sP_allApart_49, sP_allApart_52, sP_allApart_53, sP_allApart_56, sP_allApart_59, sP_allApart_60, sP_allApart_62, sP_allApart_63, sP_allApart_64, sP_allApart_67, sP_allApart_70, sP_allApart_73, sP_allApart_74, sP_allApart_75, sP_allApart_78, sP_allApart_81, sP_allApart_82, e1, o0, o1, o4, o5, o8, o11, o16, o19, o22, o24, w0, w1, w4, w5, w8, w11, w14, w15, w16, w19, w22, w23, w24, w27, w28, k14, k15, k23, k27, k28, en_rdO_eq, en_rdI_eq, en_rdN_eq, en_rdL_eq, true_and, and_true, List.getElem?_cons_succ, List.getElem?_cons_zero, en_gv_eq, if_true, if_false, and_self, or_true, true_or, implies_true, List.length_cons, List.length_nil, Nat.reduceLT, Nat.reduceLeDiff, Nat.reduceAdd, Nat.zero_le, Option.toList_some, Option.toList_none, List.cons_append, List.nil_append, nI_1, rd_t, n1_0, n0_1, Bool.false_eq_true, false_implies, reduceCtorEq]
    refine en_use (by decide) K2 ?_
    simp only [sP_allApart_0, sP_allApart_1, sP_allApart_4, sP_allApart_7, sP_allApart_8, sP_allApart_11, sP_allApart_12, sP_allApart_13, sP_allApart_16, sP_allApart_17, sP_allApart_20, sP_allApart_21, sP_allApart_24, sP_allApart_25, sP_allApart_29, sP_allApart_30, sP_allApart_31, sP_allApart_32, sP_allApart_35, sP_allApart_36, sP_allApart_39, sP_allApart_40, sP_allApart_43, sP_allApart_46, sP_allApart_47, sP_allApart_49, sP_allApart_52, sP_allApart_53, sP_allApart_56, sP_allApart_59, sP_allApart_60, sP_allApart_62, sP_allApart_63, sP_allApart_64, sP_allApart_67, sP_allApart_70, sP_allApart_73, sP_allApart_74, sP_allApart_75, sP_allApart_78, sP_allApart_81, sP_allApart_82, en_rdO_eq, en_rdI_eq, en_rdN_eq, en_rdL_eq, true_and, and_true, List.getElem?_cons_succ, List.getElem?_cons_zero, en_gv_eq, if_true, if_false, and_self, or_true, true_or, implies_true, List.length_cons, List.length_nil, Nat.reduceLT, Nat.reduceLeDiff, Nat.reduceAdd, Nat.zero_le, Option.toList_some, Option.toList_none, List.cons_append, List.nil_append, nI_1, rd_t, n1_0, n0_1, Bool.false_eq_true, false_implies, reduceCtorEq]
    exact loop _ 0 (Nat.zero_add _)
end PF
