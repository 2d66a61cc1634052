/-! StepPile: rows are put on and dropped -/
theorem rs_same (f : Nat → Nat) (k : Nat) : r_setN f k (f k) = f := by
  funext j
  unfold r_setN va_up
  by_cases e : j = k
  · rw [if_pos e, e]
  · rw [if_neg e]
section PE
variable {c : en_H} {x u : Nat} {ci N : Nat → Nat} {r : cr_T} {S : sp_S}
theorem cS_pl {pl : List (List Nat)} (h : cS r S) : cS (r_setR r 16 pl) (sp_pile S pl S.2.2.2.2.2) := by
  obtain ⟨⟨a1, a2, a3, a4, a5⟩, b, d1, d2, d3, d4, d5⟩ := h
  exact ⟨⟨a1, a2, a3, rfl, a5⟩, b, d1, d2, d3, d4, d5⟩
theorem cS_sv {sv : List (List Nat)} (h : cS r S) : cS (r_setR r 19 sv) (sp_pile S S.2.2.2.2.1 sv) := by
  obtain ⟨⟨a1, a2, a3, a4, a5⟩, b, d1, d2, d3, d4, d5⟩ := h
  exact ⟨⟨a1, a2, a3, a4, rfl⟩, b, d1, d2, d3, d4, d5⟩
theorem cP_dropAll (H : CS c x ci N r S) : ∃ c' r', en_call 2 mP_dropAll [.ref 0] c x u none c' x u ∧ cr_at c' x ci N r' ∧ cS r' (sp_pile S [] []) ∧ cs_fr c c' := by
  have H0 := H
  obtain ⟨c1, K1, R1, F1⟩ := cR_dropTo (u := u) (nn := 0) (n := 0) (cr_rw H.1 (k := 16) (by decide)) rfl (Nat.zero_le _)
  obtain ⟨H1, f1⟩ := cr_rows H.1 (k := 16) (by decide) (Nat.le_refl _) R1 ⟨fun a _ h2 _ _ => F1 a h2, Or.inl rfl⟩
  rw [rs_same, rs_same, List.take_zero] at H1
  obtain ⟨c2, K2, R2, F2⟩ := cR_dropTo (u := u) (nn := 0) (n := 0) (cr_rw H1 (k := 19) (by decide)) rfl (Nat.zero_le _)
  obtain ⟨H2, f2⟩ := cr_rows H1 (k := 19) (by decide) (Nat.le_refl _) R2 ⟨fun a _ h2 _ _ => F2 a h2, Or.inl rfl⟩
  rw [rs_same, rs_same, List.take_zero] at H2
  refine ⟨c2, _, ?_, H2, cS_sv (cS_pl H0.2.1), cs_tr f1 f2⟩
  obtain ⟨p0, p1, p4, p5, p8, p11, p16, p19, p22, p24⟩ := cs_o H1
  obtain ⟨o0, o1, o4, o5, o8, o11, o16, o19, o22, o24⟩ := cs_o H.1
  obtain ⟨w0, w1, w4, w5, w8, w11, w14, w15, w16, w19, w22, w23, w24, w27, w28⟩ := cs_b H.1.1
  obtain ⟨k14, k15, k23, k27, k28⟩ := H.1.2.2.2.1
  refine en_call_is (by decide) (Nat.le_of_ble_eq_true rfl) cat_1 ?_
  show en_W (en_call 1) mP_dropAll 0 [some (.ref 0)] [] c x u _
  simp only [sP_dropAll_0, sP_dropAll_1, sP_dropAll_4, sP_dropAll_5, sP_dropAll_8, sP_dropAll_9, sP_dropAll_12, sP_dropAll_13, sP_dropAll_16, o0, o1, o4, o5, o8, o11, o16, o19, o22, o24, w0, w1, w4, w5, w8, w11, w14, w15, w16, w19, w22, w23, w24, w27, w28, k14, k15, k23, k27, k28, en_rdO_eq, en_rdI_eq, en_rdN_eq, en_rdL_eq, true_and, and_true, List.getElem?_cons_succ, List.getElem?_cons_zero, en_gv_eq, if_true, if_false, and_self, or_true, true_or, implies_true, List.length_cons, List.length_nil, Nat.reduceLT, Nat.reduceLeDiff, Nat.reduceAdd, Nat.zero_le, Option.toList_some, Option.toList_none, List.cons_append, List.nil_append, nI_1, rd_t, n1_0, n0_1, Bool.false_eq_true, false_implies, reduceCtorEq]
  refine en_use (by decide) K1 ?_
  simp only [sP_dropAll_0, sP_dropAll_1, sP_dropAll_4, sP_dropAll_5, sP_dropAll_8, sP_dropAll_9, sP_dropAll_12, sP_dropAll_13, sP_dropAll_16, p0, p19, w0, w19, en_rdO_eq, en_rdI_eq, en_rdN_eq, en_rdL_eq, true_and, and_true, List.getElem?_cons_succ, List.getElem?_cons_zero, en_gv_eq, if_true, if_false, and_self, or_true, true_or, implies_true, List.length_cons, List.length_nil, Nat.reduceLT, Nat.reduceLeDiff, Nat.reduceAdd, Nat.zero_le, Option.toList_some, Option.toList_none, List.cons_append, List.nil_append, nI_1, rd_t, n1_0, n0_1, Bool.false_eq_true, false_implies, reduceCtorEq]
  refine en_use (by decide) K2 ?_
  simp only [sP_dropAll_0, sP_dropAll_1, sP_dropAll_4, sP_dropAll_5, sP_dropAll_8, sP_dropAll_9, sP_dropAll_12, sP_dropAll_13, sP_dropAll_16, en_rdO_eq, en_rdI_eq, en_rdN_eq, en_rdL_eq, true_and, and_true, List.getElem?_cons_succ, List.getElem?_cons_zero, en_gv_eq, if_true, if_false, and_self, or_true, true_or, implies_true, List.length_cons, List.length_nil, Nat.reduceLT, Nat.reduceLeDiff, Nat.reduceAdd, Nat.zero_le, Option.toList_some, Option.toList_none, List.cons_append, List.nil_append, nI_1, rd_t, n1_0, n0_1, Bool.false_eq_true, false_implies, reduceCtorEq, en_q]
theorem cP_settle0 : en_call 3 mP_settle [.ref 0, .int 0] c x u (some (.int 0)) c x u := by
  refine en_call_is (by decide) (Nat.le_of_ble_eq_true rfl) cat_2 ?_
  show en_W (en_call 2) mP_settle 0 [some (.ref 0), some (.int 0)] [] c x u _
  simp only [sP_settle_0, sP_settle_1, sP_settle_4, sP_settle_5, sP_settle_8, sP_settle_9, en_rdO_eq, en_rdI_eq, en_rdN_eq, en_rdL_eq, true_and, and_true, List.getElem?_cons_succ, List.getElem?_cons_zero, en_gv_eq, if_true, if_false, and_self, or_true, true_or, implies_true, List.length_cons, List.length_nil, Nat.reduceLT, Nat.reduceLeDiff, Nat.reduceAdd, Nat.zero_le, Option.toList_some, Option.toList_none, List.cons_append, List.nil_append, nI_1, rd_t, n1_0, n0_1, Bool.false_eq_true, false_implies, reduceCtorEq, en_q]
theorem cP_settle {f : Int32} (H : CS c x ci N r S) (hf : f ≠ 0) : ∃ c' r', en_call 3 mP_settle [.ref 0, .int f] c x u (some (.int f)) c' x u ∧ cr_at c' x ci N r' ∧ cS r' (sp_pile S [] []) ∧ cs_fr c c' := by
  obtain ⟨c', r', K, Hc, hS, hfr⟩ := cP_dropAll (u := u) H
  refine ⟨c', r', ?_, Hc, hS, hfr⟩
  obtain ⟨o0, o1, o4, o5, o8, o11, o16, o19, o22, o24⟩ := cs_o H.1
  obtain ⟨w0, w1, w4, w5, w8, w11, w14, w15, w16, w19, w22, w23, w24, w27, w28⟩ := cs_b H.1.1
  obtain ⟨k14, k15, k23, k27, k28⟩ := H.1.2.2.2.1
  refine en_call_is (by decide) (Nat.le_of_ble_eq_true rfl) cat_2 ?_
  show en_W (en_call 2) mP_settle 0 [some (.ref 0), some (.int f)] [] c x u _
  simp only [sP_settle_0, sP_settle_1, sP_settle_4, sP_settle_5, sP_settle_8, sP_settle_9, o0, o1, o4, o5, o8, o11, o16, o19, o22, o24, w0, w1, w4, w5, w8, w11, w14, w15, w16, w19, w22, w23, w24, w27, w28, k14, k15, k23, k27, k28, hf, en_rdO_eq, en_rdI_eq, en_rdN_eq, en_rdL_eq, true_and, and_true, List.getElem?_cons_succ, List.getElem?_cons_zero, en_gv_eq, if_true, if_false, and_self, or_true, true_or, implies_true, List.length_cons, List.length_nil, Nat.reduceLT, Nat.reduceLeDiff, Nat.reduceAdd, Nat.zero_le, Option.toList_some, Option.toList_none, List.cons_append, List.nil_append, nI_1, rd_t, n1_0, n0_1, Bool.false_eq_true, false_implies, reduceCtorEq]
  refine en_use (by decide) K ?_
  simp only [sP_settle_0, sP_settle_1, sP_settle_4, sP_settle_5, sP_settle_8, sP_settle_9, en_rdO_eq, en_rdI_eq, en_rdN_eq, en_rdL_eq, true_and, and_true, List.getElem?_cons_succ, List.getElem?_cons_zero, en_gv_eq, if_true, if_false, and_self, or_true, true_or, implies_true, List.length_cons, List.length_nil, Nat.reduceLT, Nat.reduceLeDiff, Nat.reduceAdd, Nat.zero_le, Option.toList_some, Option.toList_none, List.cons_append, List.nil_append, nI_1, rd_t, n1_0, n0_1, Bool.false_eq_true, false_implies, reduceCtorEq, en_q]
theorem cP_hasRoom {un sz : Nat} {uu zz : Int32} (H : CS c x ci N r S) (huu : uu = nI un) (hzz : zz = nI sz) (hu : un ≤ S.2.2.2.2.1.length) (hz : sz ≤ 1000000000) : en_call 3 mP_hasRoom [.ref 0, .int uu, .int zz] c x u (some (.int (bi (decide (sz ≤ 1000 ∧ un < 200 ∧ ro_of S.2.2.2.2.1 un + sz + sp_sum S.2.2.2.2.2 ≤ 40000))))) c x u := by
  have hb := ps_b H
  subst huu hzz
  have K1 := cR_start_in (u := u) (row := nI un) (ps_P H) rfl hu
  have K2 := cR_total (u := u) (ps_V H)
  have hro := ro_top S.2.2.2.2.1 hu
  have hs : S.2.2.2.2.1.flatten.length = sp_sum S.2.2.2.2.1 := rfl
  have hs2 : S.2.2.2.2.2.flatten.length = sp_sum S.2.2.2.2.2 := rfl
  rw [hs2] at K2
  obtain ⟨o0, o1, o4, o5, o8, o11, o16, o19, o22, o24⟩ := cs_o H.1
  obtain ⟨w0, w1, w4, w5, w8, w11, w14, w15, w16, w19, w22, w23, w24, w27, w28⟩ := cs_b H.1.1
  obtain ⟨k14, k15, k23, k27, k28⟩ := H.1.2.2.2.1
  have e1 : (nI 1000 < nI sz) = (1000 < sz) := propext (nI_ltI (by omega) (by omega))
  have e2 : (nI 200 ≤ nI un) = (200 ≤ un) := propext (nI_leI (by omega) (by omega))
  refine en_call_is (by decide) (Nat.le_of_ble_eq_true rfl) cat_3 ?_
  show en_W (en_call 2) mP_hasRoom 0 [some (.ref 0), some (.int (nI un)), some (.int (nI sz))] [] c x u _
  by_cases h1 : 1000 < sz
  · rw [decide_eq_false (fun q => by omega)]
    simp only [sP_hasRoom_0, sP_hasRoom_1, sP_hasRoom_4, sP_hasRoom_7, sP_hasRoom_8, sP_hasRoom_11, sP_hasRoom_14, sP_hasRoom_15, sP_hasRoom_18, sP_hasRoom_19, sP_hasRoom_22, sP_hasRoom_23, sP_hasRoom_24, sP_hasRoom_25, sP_hasRoom_28, sP_hasRoom_31, sP_hasRoom_32, sP_hasRoom_34, sP_hasRoom_37, sP_hasRoom_38, sP_hasRoom_41, sP_hasRoom_42, e1, h1, bi_f, en_rdO_eq, en_rdI_eq, en_rdN_eq, en_rdL_eq, true_and, and_true, List.getElem?_cons_succ, List.getElem?_cons_zero, en_gv_eq, if_true, if_false, and_self, or_true, true_or, implies_true, List.length_cons, List.length_nil, Nat.reduceLT, Nat.reduceLeDiff, Nat.reduceAdd, Nat.zero_le, Option.toList_some, Option.toList_none, List.cons_append, List.nil_append, nI_1, rd_t, n1_0, n0_1, Bool.false_eq_true, false_implies, reduceCtorEq, en_q]
  · by_cases h2 : 200 ≤ un
    · rw [decide_eq_false (fun q => by omega)]
      simp only [sP_hasRoom_0, sP_hasRoom_1, sP_hasRoom_4, sP_hasRoom_7, sP_hasRoom_8, sP_hasRoom_11, sP_hasRoom_14, sP_hasRoom_15, sP_hasRoom_18, sP_hasRoom_19, sP_hasRoom_22, sP_hasRoom_23, sP_hasRoom_24, sP_hasRoom_25, sP_hasRoom_28, sP_hasRoom_31, sP_hasRoom_32, sP_hasRoom_34, sP_hasRoom_37, sP_hasRoom_38, sP_hasRoom_41, sP_hasRoom_42, e1, e2, h1, h2, bi_f, en_rdO_eq, en_rdI_eq, en_rdN_eq, en_rdL_eq, true_and, and_true, List.getElem?_cons_succ, List.getElem?_cons_zero, en_gv_eq, if_true, if_false, and_self, or_true, true_or, implies_true, List.length_cons, List.length_nil, Nat.reduceLT, Nat.reduceLeDiff, Nat.reduceAdd, Nat.zero_le, Option.toList_some, Option.toList_none, List.cons_append, List.nil_append, nI_1, rd_t, n1_0, n0_1, Bool.false_eq_true, false_implies, reduceCtorEq, en_q]
    · have e3 : (nI 40000 < nI (ro_of S.2.2.2.2.1 un + sz + sp_sum S.2.2.2.2.2)) = (40000 < ro_of S.2.2.2.2.1 un + sz + sp_sum S.2.2.2.2.2) := propext (nI_ltI (by omega) (by omega))
      simp only [sP_hasRoom_0, sP_hasRoom_1, sP_hasRoom_4, sP_hasRoom_7, sP_hasRoom_8, sP_hasRoom_11, sP_hasRoom_14, sP_hasRoom_15, sP_hasRoom_18, sP_hasRoom_19, sP_hasRoom_22, sP_hasRoom_23, sP_hasRoom_24, sP_hasRoom_25, sP_hasRoom_28, sP_hasRoom_31, sP_hasRoom_32, sP_hasRoom_34, sP_hasRoom_37, sP_hasRoom_38, sP_hasRoom_41, sP_hasRoom_42, o0, o1, o4, o5, o8, o11, o16, o19, o22, o24, w0, w1, w4, w5, w8, w11, w14, w15, w16, w19, w22, w23, w24, w27, w28, k14, k15, k23, k27, k28, e1, e2, h1, h2, en_rdO_eq, en_rdI_eq, en_rdN_eq, en_rdL_eq, true_and, and_true, List.getElem?_cons_succ, List.getElem?_cons_zero, en_gv_eq, if_true, if_false, and_self, or_true, true_or, implies_true, List.length_cons, List.length_nil, Nat.reduceLT, Nat.reduceLeDiff, Nat.reduceAdd, Nat.zero_le, Option.toList_some, Option.toList_none, List.cons_append, List.nil_append, nI_1, rd_t, n1_0, n0_1, Bool.false_eq_true, false_implies, reduceCtorEq]
      refine en_use (by decide) K1 ?_
      simp only [sP_hasRoom_0, sP_hasRoom_1, sP_hasRoom_4, sP_hasRoom_7, sP_hasRoom_8, sP_hasRoom_11, sP_hasRoom_14, sP_hasRoom_15, sP_hasRoom_18, sP_hasRoom_19, sP_hasRoom_22, sP_hasRoom_23, sP_hasRoom_24, sP_hasRoom_25, sP_hasRoom_28, sP_hasRoom_31, sP_hasRoom_32, sP_hasRoom_34, sP_hasRoom_37, sP_hasRoom_38, sP_hasRoom_41, sP_hasRoom_42, o0, o1, o4, o5, o8, o11, o16, o19, o22, o24, w0, w1, w4, w5, w8, w11, w14, w15, w16, w19, w22, w23, w24, w27, w28, k14, k15, k23, k27, k28, nI_add, en_rdO_eq, en_rdI_eq, en_rdN_eq, en_rdL_eq, true_and, and_true, List.getElem?_cons_succ, List.getElem?_cons_zero, en_gv_eq, if_true, if_false, and_self, or_true, true_or, implies_true, List.length_cons, List.length_nil, Nat.reduceLT, Nat.reduceLeDiff, Nat.reduceAdd, Nat.zero_le, Option.toList_some, Option.toList_none, List.cons_append, List.nil_append, nI_1, rd_t, n1_0, n0_1, Bool.false_eq_true, false_implies, reduceCtorEq]
      refine en_use (by decide) K2 ?_
      simp only [sP_hasRoom_0, sP_hasRoom_1, sP_hasRoom_4, sP_hasRoom_7, sP_hasRoom_8, sP_hasRoom_11, sP_hasRoom_14, sP_hasRoom_15, sP_hasRoom_18, sP_hasRoom_19, sP_hasRoom_22, sP_hasRoom_23, sP_hasRoom_24, sP_hasRoom_25, sP_hasRoom_28, sP_hasRoom_31, sP_hasRoom_32, sP_hasRoom_34, sP_hasRoom_37, sP_hasRoom_38, sP_hasRoom_41, sP_hasRoom_42, nI_add, e3, en_rdO_eq, en_rdI_eq, en_rdN_eq, en_rdL_eq, true_and, and_true, List.getElem?_cons_succ, List.getElem?_cons_zero, en_gv_eq, if_true, if_false, and_self, or_true, true_or, implies_true, List.length_cons, List.length_nil, Nat.reduceLT, Nat.reduceLeDiff, Nat.reduceAdd, Nat.zero_le, Option.toList_some, Option.toList_none, List.cons_append, List.nil_append, nI_1, rd_t, n1_0, n0_1, Bool.false_eq_true, false_implies, reduceCtorEq]
      by_cases h3 : 40000 < ro_of S.2.2.2.2.1 un + sz + sp_sum S.2.2.2.2.2
      · rw [decide_eq_false (fun q => by omega), if_pos h3]
        simp only [bi_f, en_rdO_eq, en_rdI_eq, en_rdN_eq, en_rdL_eq, true_and, and_true, List.getElem?_cons_succ, List.getElem?_cons_zero, en_gv_eq, if_true, if_false, and_self, or_true, true_or, implies_true, List.length_cons, List.length_nil, Nat.reduceLT, Nat.reduceLeDiff, Nat.reduceAdd, Nat.zero_le, Option.toList_some, Option.toList_none, List.cons_append, List.nil_append, nI_1, rd_t, n1_0, n0_1, Bool.false_eq_true, false_implies, reduceCtorEq, en_q]
      · rw [decide_eq_true (show sz ≤ 1000 ∧ un < 200 ∧ ro_of S.2.2.2.2.1 un + sz + sp_sum S.2.2.2.2.2 ≤ 40000 by omega), if_neg h3]
        simp only [bi_t, en_rdO_eq, en_rdI_eq, en_rdN_eq, en_rdL_eq, true_and, and_true, List.getElem?_cons_succ, List.getElem?_cons_zero, en_gv_eq, if_true, if_false, and_self, or_true, true_or, implies_true, List.length_cons, List.length_nil, Nat.reduceLT, Nat.reduceLeDiff, Nat.reduceAdd, Nat.zero_le, Option.toList_some, Option.toList_none, List.cons_append, List.nil_append, nI_1, rd_t, n1_0, n0_1, Bool.false_eq_true, false_implies, reduceCtorEq, en_q]
/-- what may go out: some world, the document's state -/
def sOut (d y : Nat) (As : List Value) (c : en_H) (x u : Nat) (N : Nat → Nat) (v : Int32) (S' : sp_S) : Prop := ∃ c' x' u' ci' N' r', en_call d y As c x u (some (.int v)) c' x' u' ∧ cr_at c' x' ci' N' r' ∧ cS r' S' ∧ cs_fr c c' ∧ cg N N' x x' u u'
theorem ck_ne (H : CS c x ci N r S) {k : Nat} (hk : k ∈ ck) {k2 : Nat} (hk2 : k2 ∈ ck) (e : k ≠ k2) : ci k ≠ ci k2 ∧ ci k ≠ k2 + 2 := by
  refine ⟨fun q => e (H.1.2.2.2.2.2.2.1 k hk k2 hk2 q), ?_⟩
  have h := H.1.2.2.2.2.2.1 k hk
  have h1 := ck_or hk
  have h2 := ck_or hk2
  omega
theorem cat_rr {a b : Nat} {e : Int32} : ∀ v ∈ ([.ref a, .ref b, .int e] : List Value), v.category = 1 := by intro v hv; simp at hv; rcases hv with rfl | rfl | rfl <;> rfl
theorem cP_putCopy {k i : Nat} {ii : Int32} {l : List Nat} (H : CS c x ci N r S) (hk : k = 5 ∨ k = 19) (hii : ii = nI i) (hi : i < (r_R r k).length) (hl : (r_R r k).getD i [] = l) (hl2 : l.length ≤ 1000) :
    (l.length ≤ 1000 ∧ S.2.2.2.2.1.length < 200 ∧ sp_sum S.2.2.2.2.1 + l.length + sp_sum S.2.2.2.2.2 ≤ 40000 → sOut 5 mP_putCopy [.ref 0, .ref k, .int ii] c x u N 0 (sp_pile S (S.2.2.2.2.1 ++ [l]) S.2.2.2.2.2)) ∧
    (¬ (l.length ≤ 1000 ∧ S.2.2.2.2.1.length < 200 ∧ sp_sum S.2.2.2.2.1 + l.length + sp_sum S.2.2.2.2.2 ≤ 40000) → en_call 5 mP_putCopy [.ref 0, .ref k, .int ii] c x u (some (.int 5)) c x u) := by
  have hkc : k ∈ ck := by rcases hk with rfl | rfl <;> decide
  have Hk := cr_rw H.1 hkc
  have K1 := cR_rows (u := u) (ps_P H)
  have K2 := cR_size_in (u := u) Hk hii hi
  rw [hl] at K2
  have K3 := cP_hasRoom (u := u) (un := S.2.2.2.2.1.length) (sz := l.length) H rfl rfl (Nat.le_refl _) (by omega)
  rw [ro_len] at K3
  have hs : S.2.2.2.2.1.flatten.length = sp_sum S.2.2.2.2.1 := rfl
  rw [hs] at K3
  have hkx : k < x := Hk.1.1
  have hko := Hk.2.1
  have H0 := H
  obtain ⟨o0, o1, o4, o5, o8, o11, o16, o19, o22, o24⟩ := cs_o H.1
  obtain ⟨w0, w1, w4, w5, w8, w11, w14, w15, w16, w19, w22, w23, w24, w27, w28⟩ := cs_b H.1.1
  obtain ⟨k14, k15, k23, k27, k28⟩ := H.1.2.2.2.1
  constructor
  · intro hq
    rw [decide_eq_true hq] at K3
    obtain ⟨n1, n2⟩ := ck_ne H0 hkc (k2 := 16) (by decide) (by omega)
    obtain ⟨c', x', u', i', N', K4, R4, hN, hfr, hgr⟩ := cR_addCopy (u := u) (ps_P H0) Hk n1 n2 hii hi hq.2.1 (by rw [hl]; show sp_sum S.2.2.2.2.1 + _ ≤ _; omega)
    rw [hl] at R4 hN
    obtain ⟨Hc, hcf⟩ := cr_rows H0.1 (k := 16) (by decide) hgr.2.1 R4 hfr
    refine ⟨c', x', u', _, _, _, ?_, Hc, cS_pl H0.2.1, hcf, cg_rows (by decide) hgr (by rw [hs] at hN; show _ ∨ _ ≤ 100000; omega)⟩
    refine en_call_is (by decide) (Nat.le_of_ble_eq_true rfl) cat_rr ?_
    show en_W (en_call 4) mP_putCopy 0 [some (.ref 0), some (.ref k), some (.int ii)] [] c x u _
    simp only [sP_putCopy_0, sP_putCopy_1, sP_putCopy_2, sP_putCopy_5, sP_putCopy_8, sP_putCopy_9, sP_putCopy_10, sP_putCopy_13, sP_putCopy_16, sP_putCopy_19, sP_putCopy_20, sP_putCopy_21, sP_putCopy_22, sP_putCopy_25, sP_putCopy_26, sP_putCopy_27, sP_putCopy_30, sP_putCopy_31, o0, o1, o4, o5, o8, o11, o16, o19, o22, o24, w0, w1, w4, w5, w8, w11, w14, w15, w16, w19, w22, w23, w24, w27, w28, k14, k15, k23, k27, k28, en_rdO_eq, en_rdI_eq, en_rdN_eq, en_rdL_eq, true_and, and_true, List.getElem?_cons_succ, List.getElem?_cons_zero, en_gv_eq, if_true, if_false, and_self, or_true, true_or, implies_true, List.length_cons, List.length_nil, Nat.reduceLT, Nat.reduceLeDiff, Nat.reduceAdd, Nat.zero_le, Option.toList_some, Option.toList_none, List.cons_append, List.nil_append, nI_1, rd_t, n1_0, n0_1, Bool.false_eq_true, false_implies, reduceCtorEq]
    refine en_use (by decide) K1 ?_
    simp only [sP_putCopy_0, sP_putCopy_1, sP_putCopy_2, sP_putCopy_5, sP_putCopy_8, sP_putCopy_9, sP_putCopy_10, sP_putCopy_13, sP_putCopy_16, sP_putCopy_19, sP_putCopy_20, sP_putCopy_21, sP_putCopy_22, sP_putCopy_25, sP_putCopy_26, sP_putCopy_27, sP_putCopy_30, sP_putCopy_31, hko, hkx, en_rdO_eq, en_rdI_eq, en_rdN_eq, en_rdL_eq, true_and, and_true, List.getElem?_cons_succ, List.getElem?_cons_zero, en_gv_eq, if_true, if_false, and_self, or_true, true_or, implies_true, List.length_cons, List.length_nil, Nat.reduceLT, Nat.reduceLeDiff, Nat.reduceAdd, Nat.zero_le, Option.toList_some, Option.toList_none, List.cons_append, List.nil_append, nI_1, rd_t, n1_0, n0_1, Bool.false_eq_true, false_implies, reduceCtorEq]
    refine en_use (by decide) K2 ?_
    simp only [sP_putCopy_0, sP_putCopy_1, sP_putCopy_2, sP_putCopy_5, sP_putCopy_8, sP_putCopy_9, sP_putCopy_10, sP_putCopy_13, sP_putCopy_16, sP_putCopy_19, sP_putCopy_20, sP_putCopy_21, sP_putCopy_22, sP_putCopy_25, sP_putCopy_26, sP_putCopy_27, sP_putCopy_30, sP_putCopy_31, o0, o1, o4, o5, o8, o11, o16, o19, o22, o24, w0, w1, w4, w5, w8, w11, w14, w15, w16, w19, w22, w23, w24, w27, w28, k14, k15, k23, k27, k28, en_rdO_eq, en_rdI_eq, en_rdN_eq, en_rdL_eq, true_and, and_true, List.getElem?_cons_succ, List.getElem?_cons_zero, en_gv_eq, if_true, if_false, and_self, or_true, true_or, implies_true, List.length_cons, List.length_nil, Nat.reduceLT, Nat.reduceLeDiff, Nat.reduceAdd, Nat.zero_le, Option.toList_some, Option.toList_none, List.cons_append, List.nil_append, nI_1, rd_t, n1_0, n0_1, Bool.false_eq_true, false_implies, reduceCtorEq]
    refine en_use (by decide) K3 ?_
    simp only [sP_putCopy_0, sP_putCopy_1, sP_putCopy_2, sP_putCopy_5, sP_putCopy_8, sP_putCopy_9, sP_putCopy_10, sP_putCopy_13, sP_putCopy_16, sP_putCopy_19, sP_putCopy_20, sP_putCopy_21, sP_putCopy_22, sP_putCopy_25, sP_putCopy_26, sP_putCopy_27, sP_putCopy_30, sP_putCopy_31, o0, o1, o4, o5, o8, o11, o16, o19, o22, o24, w0, w1, w4, w5, w8, w11, w14, w15, w16, w19, w22, w23, w24, w27, w28, k14, k15, k23, k27, k28, bi_t, en_rdO_eq, en_rdI_eq, en_rdN_eq, en_rdL_eq, true_and, and_true, List.getElem?_cons_succ, List.getElem?_cons_zero, en_gv_eq, if_true, if_false, and_self, or_true, true_or, implies_true, List.length_cons, List.length_nil, Nat.reduceLT, Nat.reduceLeDiff, Nat.reduceAdd, Nat.zero_le, Option.toList_some, Option.toList_none, List.cons_append, List.nil_append, nI_1, rd_t, n1_0, n0_1, Bool.false_eq_true, false_implies, reduceCtorEq]
    refine en_use (by decide) K4 ?_
    simp only [sP_putCopy_0, sP_putCopy_1, sP_putCopy_2, sP_putCopy_5, sP_putCopy_8, sP_putCopy_9, sP_putCopy_10, sP_putCopy_13, sP_putCopy_16, sP_putCopy_19, sP_putCopy_20, sP_putCopy_21, sP_putCopy_22, sP_putCopy_25, sP_putCopy_26, sP_putCopy_27, sP_putCopy_30, sP_putCopy_31, en_rdO_eq, en_rdI_eq, en_rdN_eq, en_rdL_eq, true_and, and_true, List.getElem?_cons_succ, List.getElem?_cons_zero, en_gv_eq, if_true, if_false, and_self, or_true, true_or, implies_true, List.length_cons, List.length_nil, Nat.reduceLT, Nat.reduceLeDiff, Nat.reduceAdd, Nat.zero_le, Option.toList_some, Option.toList_none, List.cons_append, List.nil_append, nI_1, rd_t, n1_0, n0_1, Bool.false_eq_true, false_implies, reduceCtorEq, en_q]
  · intro hq
    rw [decide_eq_false hq] at K3
    refine en_call_is (by decide) (Nat.le_of_ble_eq_true rfl) cat_rr ?_
    show en_W (en_call 4) mP_putCopy 0 [some (.ref 0), some (.ref k), some (.int ii)] [] c x u _
    simp only [sP_putCopy_0, sP_putCopy_1, sP_putCopy_2, sP_putCopy_5, sP_putCopy_8, sP_putCopy_9, sP_putCopy_10, sP_putCopy_13, sP_putCopy_16, sP_putCopy_19, sP_putCopy_20, sP_putCopy_21, sP_putCopy_22, sP_putCopy_25, sP_putCopy_26, sP_putCopy_27, sP_putCopy_30, sP_putCopy_31, o0, o1, o4, o5, o8, o11, o16, o19, o22, o24, w0, w1, w4, w5, w8, w11, w14, w15, w16, w19, w22, w23, w24, w27, w28, k14, k15, k23, k27, k28, en_rdO_eq, en_rdI_eq, en_rdN_eq, en_rdL_eq, true_and, and_true, List.getElem?_cons_succ, List.getElem?_cons_zero, en_gv_eq, if_true, if_false, and_self, or_true, true_or, implies_true, List.length_cons, List.length_nil, Nat.reduceLT, Nat.reduceLeDiff, Nat.reduceAdd, Nat.zero_le, Option.toList_some, Option.toList_none, List.cons_append, List.nil_append, nI_1, rd_t, n1_0, n0_1, Bool.false_eq_true, false_implies, reduceCtorEq]
    refine en_use (by decide) K1 ?_
    simp only [sP_putCopy_0, sP_putCopy_1, sP_putCopy_2, sP_putCopy_5, sP_putCopy_8, sP_putCopy_9, sP_putCopy_10, sP_putCopy_13, sP_putCopy_16, sP_putCopy_19, sP_putCopy_20, sP_putCopy_21, sP_putCopy_22, sP_putCopy_25, sP_putCopy_26, sP_putCopy_27, sP_putCopy_30, sP_putCopy_31, hko, hkx, en_rdO_eq, en_rdI_eq, en_rdN_eq, en_rdL_eq, true_and, and_true, List.getElem?_cons_succ, List.getElem?_cons_zero, en_gv_eq, if_true, if_false, and_self, or_true, true_or, implies_true, List.length_cons, List.length_nil, Nat.reduceLT, Nat.reduceLeDiff, Nat.reduceAdd, Nat.zero_le, Option.toList_some, Option.toList_none, List.cons_append, List.nil_append, nI_1, rd_t, n1_0, n0_1, Bool.false_eq_true, false_implies, reduceCtorEq]
    refine en_use (by decide) K2 ?_
    simp only [sP_putCopy_0, sP_putCopy_1, sP_putCopy_2, sP_putCopy_5, sP_putCopy_8, sP_putCopy_9, sP_putCopy_10, sP_putCopy_13, sP_putCopy_16, sP_putCopy_19, sP_putCopy_20, sP_putCopy_21, sP_putCopy_22, sP_putCopy_25, sP_putCopy_26, sP_putCopy_27, sP_putCopy_30, sP_putCopy_31, o0, o1, o4, o5, o8, o11, o16, o19, o22, o24, w0, w1, w4, w5, w8, w11, w14, w15, w16, w19, w22, w23, w24, w27, w28, k14, k15, k23, k27, k28, en_rdO_eq, en_rdI_eq, en_rdN_eq, en_rdL_eq, true_and, and_true, List.getElem?_cons_succ, List.getElem?_cons_zero, en_gv_eq, if_true, if_false, and_self, or_true, true_or, implies_true, List.length_cons, List.length_nil, Nat.reduceLT, Nat.reduceLeDiff, Nat.reduceAdd, Nat.zero_le, Option.toList_some, Option.toList_none, List.cons_append, List.nil_append, nI_1, rd_t, n1_0, n0_1, Bool.false_eq_true, false_implies, reduceCtorEq]
    refine en_use (by decide) K3 ?_
    simp only [sP_putCopy_0, sP_putCopy_1, sP_putCopy_2, sP_putCopy_5, sP_putCopy_8, sP_putCopy_9, sP_putCopy_10, sP_putCopy_13, sP_putCopy_16, sP_putCopy_19, sP_putCopy_20, sP_putCopy_21, sP_putCopy_22, sP_putCopy_25, sP_putCopy_26, sP_putCopy_27, sP_putCopy_30, sP_putCopy_31, bi_f, en_rdO_eq, en_rdI_eq, en_rdN_eq, en_rdL_eq, true_and, and_true, List.getElem?_cons_succ, List.getElem?_cons_zero, en_gv_eq, if_true, if_false, and_self, or_true, true_or, implies_true, List.length_cons, List.length_nil, Nat.reduceLT, Nat.reduceLeDiff, Nat.reduceAdd, Nat.zero_le, Option.toList_some, Option.toList_none, List.cons_append, List.nil_append, nI_1, rd_t, n1_0, n0_1, Bool.false_eq_true, false_implies, reduceCtorEq, en_q]
theorem cP_clear (H : CS c x ci N r S) : pOut mP_clear [.ref 0] c x u N (sp_clear S).1 (sp_clear S).2 := by
  obtain ⟨c', r', K, Hc, hS, hfr⟩ := cP_dropAll (u := u) H
  have K1 := cR_rows (u := u) (ps_P H)
  refine pOut_c ?_ Hc hS hfr cg_rf
  obtain ⟨o0, o1, o4, o5, o8, o11, o16, o19, o22, o24⟩ := cs_o H.1
  obtain ⟨w0, w1, w4, w5, w8, w11, w14, w15, w16, w19, w22, w23, w24, w27, w28⟩ := cs_b H.1.1
  obtain ⟨k14, k15, k23, k27, k28⟩ := H.1.2.2.2.1
  refine en_call_is (by decide) (Nat.le_of_ble_eq_true rfl) cat_1 ?_
  show en_W (en_call 6) mP_clear 0 [some (.ref 0), none] [] c x u _
  simp only [sP_clear_0, sP_clear_1, sP_clear_4, sP_clear_7, sP_clear_8, sP_clear_9, sP_clear_12, sP_clear_13, o0, o1, o4, o5, o8, o11, o16, o19, o22, o24, w0, w1, w4, w5, w8, w11, w14, w15, w16, w19, w22, w23, w24, w27, w28, k14, k15, k23, k27, k28, en_rdO_eq, en_rdI_eq, en_rdN_eq, en_rdL_eq, true_and, and_true, List.getElem?_cons_succ, List.getElem?_cons_zero, en_gv_eq, if_true, if_false, and_self, or_true, true_or, implies_true, List.length_cons, List.length_nil, Nat.reduceLT, Nat.reduceLeDiff, Nat.reduceAdd, Nat.zero_le, Option.toList_some, Option.toList_none, List.cons_append, List.nil_append, nI_1, rd_t, n1_0, n0_1, Bool.false_eq_true, false_implies, reduceCtorEq]
  refine en_use (by decide) K1 ?_
  simp only [sP_clear_0, sP_clear_1, sP_clear_4, sP_clear_7, sP_clear_8, sP_clear_9, sP_clear_12, sP_clear_13, o0, o1, o4, o5, o8, o11, o16, o19, o22, o24, w0, w1, w4, w5, w8, w11, w14, w15, w16, w19, w22, w23, w24, w27, w28, k14, k15, k23, k27, k28, en_rdO_eq, en_rdI_eq, en_rdN_eq, en_rdL_eq, true_and, and_true, List.getElem?_cons_succ, List.getElem?_cons_zero, en_gv_eq, if_true, if_false, and_self, or_true, true_or, implies_true, List.length_cons, List.length_nil, Nat.reduceLT, Nat.reduceLeDiff, Nat.reduceAdd, Nat.zero_le, Option.toList_some, Option.toList_none, List.cons_append, List.nil_append, nI_1, rd_t, n1_0, n0_1, Bool.false_eq_true, false_implies, reduceCtorEq]
  refine en_use (by decide) K ?_
  simp only [sP_clear_0, sP_clear_1, sP_clear_4, sP_clear_7, sP_clear_8, sP_clear_9, sP_clear_12, sP_clear_13, en_rdO_eq, en_rdI_eq, en_rdN_eq, en_rdL_eq, true_and, and_true, List.getElem?_cons_succ, List.getElem?_cons_zero, en_gv_eq, if_true, if_false, and_self, or_true, true_or, implies_true, List.length_cons, List.length_nil, Nat.reduceLT, Nat.reduceLeDiff, Nat.reduceAdd, Nat.zero_le, Option.toList_some, Option.toList_none, List.cons_append, List.nil_append, nI_1, rd_t, n1_0, n0_1, Bool.false_eq_true, false_implies, reduceCtorEq, en_q]
  rfl
theorem cP_again {w : Int32} (H : CS c x ci N r S) : pOut mP_again [.ref 0, .int w] c x u N (sp_again w S).1 (sp_again w S).2 := by
  have H0 := H
  have hb := ps_b H
  have HV := ps_V H
  obtain ⟨o0, o1, o4, o5, o8, o11, o16, o19, o22, o24⟩ := cs_o H.1
  obtain ⟨w0, w1, w4, w5, w8, w11, w14, w15, w16, w19, w22, w23, w24, w27, w28⟩ := cs_b H.1.1
  obtain ⟨k14, k15, k23, k27, k28⟩ := H.1.2.2.2.1
  unfold sp_again
  rcases sp_ixl (n := S.2.2.2.2.2.length) (by omega) w with ⟨h1, h2⟩ | ⟨i, hi, rfl, h3, h4⟩
  · have K1 := cR_has_out (u := u) (row := w) HV h1
    rw [if_neg h2]
    refine pOut_s H0 ?_
    refine en_call_is (by decide) (Nat.le_of_ble_eq_true rfl) cat_2 ?_
    show en_W (en_call 6) mP_again 0 [some (.ref 0), some (.int w)] [] c x u _
    simp only [sP_again_0, sP_again_1, sP_again_4, sP_again_5, sP_again_8, sP_again_11, sP_again_12, sP_again_13, sP_again_14, sP_again_17, sP_again_18, sP_again_21, sP_again_24, sP_again_27, sP_again_28, o0, o1, o4, o5, o8, o11, o16, o19, o22, o24, w0, w1, w4, w5, w8, w11, w14, w15, w16, w19, w22, w23, w24, w27, w28, k14, k15, k23, k27, k28, en_rdO_eq, en_rdI_eq, en_rdN_eq, en_rdL_eq, true_and, and_true, List.getElem?_cons_succ, List.getElem?_cons_zero, en_gv_eq, if_true, if_false, and_self, or_true, true_or, implies_true, List.length_cons, List.length_nil, Nat.reduceLT, Nat.reduceLeDiff, Nat.reduceAdd, Nat.zero_le, Option.toList_some, Option.toList_none, List.cons_append, List.nil_append, nI_1, rd_t, n1_0, n0_1, Bool.false_eq_true, false_implies, reduceCtorEq]
    refine en_use (by decide) K1 ?_
    simp only [sP_again_0, sP_again_1, sP_again_4, sP_again_5, sP_again_8, sP_again_11, sP_again_12, sP_again_13, sP_again_14, sP_again_17, sP_again_18, sP_again_21, sP_again_24, sP_again_27, sP_again_28, en_rdO_eq, en_rdI_eq, en_rdN_eq, en_rdL_eq, true_and, and_true, List.getElem?_cons_succ, List.getElem?_cons_zero, en_gv_eq, if_true, if_false, and_self, or_true, true_or, implies_true, List.length_cons, List.length_nil, Nat.reduceLT, Nat.reduceLeDiff, Nat.reduceAdd, Nat.zero_le, Option.toList_some, Option.toList_none, List.cons_append, List.nil_append, nI_1, rd_t, n1_0, n0_1, Bool.false_eq_true, false_implies, reduceCtorEq, en_q]
  · have K1 := cR_has_in (u := u) (row := nI i) HV rfl hi
    rw [h3, if_pos ⟨h4, hi⟩]
    have hlw : sp_wfR S (S.2.2.2.2.2.getD i []) := by
      refine H0.2.2.2.2.2.2.2.2.2.2.2.2 _ ?_
      rw [List.getD_eq_getElem?_getD, List.getElem?_eq_getElem hi]
      exact List.getElem_mem hi
    have KK := cP_putCopy (u := u) (k := 19) (ii := nI i) (l := S.2.2.2.2.2.getD i []) H0 (Or.inr rfl) rfl (by rw [sv_R H0]; exact hi) (by rw [sv_R H0]) hlw.2.1
    unfold sp_push
    by_cases hq : (S.2.2.2.2.2.getD i []).length ≤ 1000 ∧ S.2.2.2.2.1.length < 200 ∧ sp_sum S.2.2.2.2.1 + (S.2.2.2.2.2.getD i []).length + sp_sum S.2.2.2.2.2 ≤ 40000
    · rw [if_pos hq]
      obtain ⟨c', x', u', ci', N', r', K2, Hc, hS, hfr, hg⟩ := KK.1 hq
      have p0 := (cs_o Hc).1
      have y0 := (cs_b Hc.1).1
      refine pOut_c ?_ Hc hS hfr hg
      refine en_call_is (by decide) (Nat.le_of_ble_eq_true rfl) cat_2 ?_
      show en_W (en_call 6) mP_again 0 [some (.ref 0), some (.int (nI i))] [] c x u _
      simp only [sP_again_0, sP_again_1, sP_again_4, sP_again_5, sP_again_8, sP_again_11, sP_again_12, sP_again_13, sP_again_14, sP_again_17, sP_again_18, sP_again_21, sP_again_24, sP_again_27, sP_again_28, o0, o1, o4, o5, o8, o11, o16, o19, o22, o24, w0, w1, w4, w5, w8, w11, w14, w15, w16, w19, w22, w23, w24, w27, w28, k14, k15, k23, k27, k28, en_rdO_eq, en_rdI_eq, en_rdN_eq, en_rdL_eq, true_and, and_true, List.getElem?_cons_succ, List.getElem?_cons_zero, en_gv_eq, if_true, if_false, and_self, or_true, true_or, implies_true, List.length_cons, List.length_nil, Nat.reduceLT, Nat.reduceLeDiff, Nat.reduceAdd, Nat.zero_le, Option.toList_some, Option.toList_none, List.cons_append, List.nil_append, nI_1, rd_t, n1_0, n0_1, Bool.false_eq_true, false_implies, reduceCtorEq]
      refine en_use (by decide) K1 ?_
      simp only [sP_again_0, sP_again_1, sP_again_4, sP_again_5, sP_again_8, sP_again_11, sP_again_12, sP_again_13, sP_again_14, sP_again_17, sP_again_18, sP_again_21, sP_again_24, sP_again_27, sP_again_28, o0, o1, o4, o5, o8, o11, o16, o19, o22, o24, w0, w1, w4, w5, w8, w11, w14, w15, w16, w19, w22, w23, w24, w27, w28, k14, k15, k23, k27, k28, en_rdO_eq, en_rdI_eq, en_rdN_eq, en_rdL_eq, true_and, and_true, List.getElem?_cons_succ, List.getElem?_cons_zero, en_gv_eq, if_true, if_false, and_self, or_true, true_or, implies_true, List.length_cons, List.length_nil, Nat.reduceLT, Nat.reduceLeDiff, Nat.reduceAdd, Nat.zero_le, Option.toList_some, Option.toList_none, List.cons_append, List.nil_append, nI_1, rd_t, n1_0, n0_1, Bool.false_eq_true, false_implies, reduceCtorEq]
      refine en_use (by decide) K2 ?_
      simp only [sP_again_0, sP_again_1, sP_again_4, sP_again_5, sP_again_8, sP_again_11, sP_again_12, sP_again_13, sP_again_14, sP_again_17, sP_again_18, sP_again_21, sP_again_24, sP_again_27, sP_again_28, p0, y0, en_rdO_eq, en_rdI_eq, en_rdN_eq, en_rdL_eq, true_and, and_true, List.getElem?_cons_succ, List.getElem?_cons_zero, en_gv_eq, if_true, if_false, and_self, or_true, true_or, implies_true, List.length_cons, List.length_nil, Nat.reduceLT, Nat.reduceLeDiff, Nat.reduceAdd, Nat.zero_le, Option.toList_some, Option.toList_none, List.cons_append, List.nil_append, nI_1, rd_t, n1_0, n0_1, Bool.false_eq_true, false_implies, reduceCtorEq]
      refine en_use (by decide) cP_settle0 ?_
      simp only [sP_again_0, sP_again_1, sP_again_4, sP_again_5, sP_again_8, sP_again_11, sP_again_12, sP_again_13, sP_again_14, sP_again_17, sP_again_18, sP_again_21, sP_again_24, sP_again_27, sP_again_28, en_rdO_eq, en_rdI_eq, en_rdN_eq, en_rdL_eq, true_and, and_true, List.getElem?_cons_succ, List.getElem?_cons_zero, en_gv_eq, if_true, if_false, and_self, or_true, true_or, implies_true, List.length_cons, List.length_nil, Nat.reduceLT, Nat.reduceLeDiff, Nat.reduceAdd, Nat.zero_le, Option.toList_some, Option.toList_none, List.cons_append, List.nil_append, nI_1, rd_t, n1_0, n0_1, Bool.false_eq_true, false_implies, reduceCtorEq, en_q]
    · rw [if_neg hq]
      have K2 := KK.2 hq
      obtain ⟨c', r', K3, Hc, hS, hfr⟩ := cP_settle (u := u) (f := 5) H0 (by decide)
      refine pOut_c ?_ Hc hS hfr cg_rf
      refine en_call_is (by decide) (Nat.le_of_ble_eq_true rfl) cat_2 ?_
      show en_W (en_call 6) mP_again 0 [some (.ref 0), some (.int (nI i))] [] c x u _
      simp only [sP_again_0, sP_again_1, sP_again_4, sP_again_5, sP_again_8, sP_again_11, sP_again_12, sP_again_13, sP_again_14, sP_again_17, sP_again_18, sP_again_21, sP_again_24, sP_again_27, sP_again_28, o0, o1, o4, o5, o8, o11, o16, o19, o22, o24, w0, w1, w4, w5, w8, w11, w14, w15, w16, w19, w22, w23, w24, w27, w28, k14, k15, k23, k27, k28, en_rdO_eq, en_rdI_eq, en_rdN_eq, en_rdL_eq, true_and, and_true, List.getElem?_cons_succ, List.getElem?_cons_zero, en_gv_eq, if_true, if_false, and_self, or_true, true_or, implies_true, List.length_cons, List.length_nil, Nat.reduceLT, Nat.reduceLeDiff, Nat.reduceAdd, Nat.zero_le, Option.toList_some, Option.toList_none, List.cons_append, List.nil_append, nI_1, rd_t, n1_0, n0_1, Bool.false_eq_true, false_implies, reduceCtorEq]
      refine en_use (by decide) K1 ?_
      simp only [sP_again_0, sP_again_1, sP_again_4, sP_again_5, sP_again_8, sP_again_11, sP_again_12, sP_again_13, sP_again_14, sP_again_17, sP_again_18, sP_again_21, sP_again_24, sP_again_27, sP_again_28, o0, o1, o4, o5, o8, o11, o16, o19, o22, o24, w0, w1, w4, w5, w8, w11, w14, w15, w16, w19, w22, w23, w24, w27, w28, k14, k15, k23, k27, k28, en_rdO_eq, en_rdI_eq, en_rdN_eq, en_rdL_eq, true_and, and_true, List.getElem?_cons_succ, List.getElem?_cons_zero, en_gv_eq, if_true, if_false, and_self, or_true, true_or, implies_true, List.length_cons, List.length_nil, Nat.reduceLT, Nat.reduceLeDiff, Nat.reduceAdd, Nat.zero_le, Option.toList_some, Option.toList_none, List.cons_append, List.nil_append, nI_1, rd_t, n1_0, n0_1, Bool.false_eq_true, false_implies, reduceCtorEq]
      refine en_use (by decide) K2 ?_
      simp only [sP_again_0, sP_again_1, sP_again_4, sP_again_5, sP_again_8, sP_again_11, sP_again_12, sP_again_13, sP_again_14, sP_again_17, sP_again_18, sP_again_21, sP_again_24, sP_again_27, sP_again_28, o0, o1, o4, o5, o8, o11, o16, o19, o22, o24, w0, w1, w4, w5, w8, w11, w14, w15, w16, w19, w22, w23, w24, w27, w28, k14, k15, k23, k27, k28, en_rdO_eq, en_rdI_eq, en_rdN_eq, en_rdL_eq, true_and, and_true, List.getElem?_cons_succ, List.getElem?_cons_zero, en_gv_eq, if_true, if_false, and_self, or_true, true_or, implies_true, List.length_cons, List.length_nil, Nat.reduceLT, Nat.reduceLeDiff, Nat.reduceAdd, Nat.zero_le, Option.toList_some, Option.toList_none, List.cons_append, List.nil_append, nI_1, rd_t, n1_0, n0_1, Bool.false_eq_true, false_implies, reduceCtorEq]
      refine en_use (by decide) K3 ?_
      simp only [sP_again_0, sP_again_1, sP_again_4, sP_again_5, sP_again_8, sP_again_11, sP_again_12, sP_again_13, sP_again_14, sP_again_17, sP_again_18, sP_again_21, sP_again_24, sP_again_27, sP_again_28, en_rdO_eq, en_rdI_eq, en_rdN_eq, en_rdL_eq, true_and, and_true, List.getElem?_cons_succ, List.getElem?_cons_zero, en_gv_eq, if_true, if_false, and_self, or_true, true_or, implies_true, List.length_cons, List.length_nil, Nat.reduceLT, Nat.reduceLeDiff, Nat.reduceAdd, Nat.zero_le, Option.toList_some, Option.toList_none, List.cons_append, List.nil_append, nI_1, rd_t, n1_0, n0_1, Bool.false_eq_true, false_implies, reduceCtorEq, en_q]
      rfl
theorem cP_save (H : CS c x ci N r S) : pOut mP_save [.ref 0] c x u N (sp_save S).1 (sp_save S).2 := by
  have H0 := H
  have hb := ps_b H
  have HV := ps_V H
  have HP := ps_P H
  have K1 := cR_rows (u := u) HP
  have KF := cR_isFull (u := u) HV
  have KA := cP_inAll (u := u) H
  obtain ⟨o0, o1, o4, o5, o8, o11, o16, o19, o22, o24⟩ := cs_o H.1
  obtain ⟨w0, w1, w4, w5, w8, w11, w14, w15, w16, w19, w22, w23, w24, w27, w28⟩ := cs_b H.1.1
  obtain ⟨k14, k15, k23, k27, k28⟩ := H.1.2.2.2.1
  unfold sp_save
  by_cases hz : S.2.2.2.2.1.length = 0
  · rw [if_pos (Or.inl hz)]
    have e1 : nI S.2.2.2.2.1.length - 1 = -1 := by rw [hz]; rfl
    refine pOut_s H0 ?_
    refine en_call_is (by decide) (Nat.le_of_ble_eq_true rfl) cat_1 ?_
    show en_W (en_call 6) mP_save 0 [some (.ref 0), none] [] c x u _
    simp only [sP_save_0, sP_save_1, sP_save_4, sP_save_7, sP_save_8, sP_save_9, sP_save_10, sP_save_11, sP_save_14, sP_save_15, sP_save_18, sP_save_21, sP_save_24, sP_save_25, sP_save_26, sP_save_27, sP_save_30, sP_save_31, sP_save_34, sP_save_35, sP_save_38, sP_save_39, sP_save_41, sP_save_44, sP_save_45, sP_save_46, sP_save_49, sP_save_50, sP_save_51, sP_save_54, sP_save_55, sP_save_58, sP_save_59, sP_save_62, sP_save_63, sP_save_66, sP_save_69, sP_save_70, sP_save_71, o0, o1, o4, o5, o8, o11, o16, o19, o22, o24, w0, w1, w4, w5, w8, w11, w14, w15, w16, w19, w22, w23, w24, w27, w28, k14, k15, k23, k27, k28, en_rdO_eq, en_rdI_eq, en_rdN_eq, en_rdL_eq, true_and, and_true, List.getElem?_cons_succ, List.getElem?_cons_zero, en_gv_eq, if_true, if_false, and_self, or_true, true_or, implies_true, List.length_cons, List.length_nil, Nat.reduceLT, Nat.reduceLeDiff, Nat.reduceAdd, Nat.zero_le, Option.toList_some, Option.toList_none, List.cons_append, List.nil_append, nI_1, rd_t, n1_0, n0_1, Bool.false_eq_true, false_implies, reduceCtorEq]
    refine en_use (by decide) K1 ?_
    simp only [sP_save_0, sP_save_1, sP_save_4, sP_save_7, sP_save_8, sP_save_9, sP_save_10, sP_save_11, sP_save_14, sP_save_15, sP_save_18, sP_save_21, sP_save_24, sP_save_25, sP_save_26, sP_save_27, sP_save_30, sP_save_31, sP_save_34, sP_save_35, sP_save_38, sP_save_39, sP_save_41, sP_save_44, sP_save_45, sP_save_46, sP_save_49, sP_save_50, sP_save_51, sP_save_54, sP_save_55, sP_save_58, sP_save_59, sP_save_62, sP_save_63, sP_save_66, sP_save_69, sP_save_70, sP_save_71, e1, m1_lt, en_rdO_eq, en_rdI_eq, en_rdN_eq, en_rdL_eq, true_and, and_true, List.getElem?_cons_succ, List.getElem?_cons_zero, en_gv_eq, if_true, if_false, and_self, or_true, true_or, implies_true, List.length_cons, List.length_nil, Nat.reduceLT, Nat.reduceLeDiff, Nat.reduceAdd, Nat.zero_le, Option.toList_some, Option.toList_none, List.cons_append, List.nil_append, nI_1, rd_t, n1_0, n0_1, Bool.false_eq_true, false_implies, reduceCtorEq, en_q]
  · obtain ⟨t, ht⟩ : ∃ t, S.2.2.2.2.1.length = t + 1 := ⟨S.2.2.2.2.1.length - 1, by omega⟩
    have e1 : nI S.2.2.2.2.1.length - 1 = nI t := by rw [ht]; exact nI_pred t
    have e2 : ¬ nI t < 0 := nI_pos (by omega)
    by_cases hf : 300 ≤ S.2.2.2.2.2.length
    · rw [if_pos (Or.inr hf)]
      rw [if_pos hf] at KF
      refine pOut_s H0 ?_
      refine en_call_is (by decide) (Nat.le_of_ble_eq_true rfl) cat_1 ?_
      show en_W (en_call 6) mP_save 0 [some (.ref 0), none] [] c x u _
      simp only [sP_save_0, sP_save_1, sP_save_4, sP_save_7, sP_save_8, sP_save_9, sP_save_10, sP_save_11, sP_save_14, sP_save_15, sP_save_18, sP_save_21, sP_save_24, sP_save_25, sP_save_26, sP_save_27, sP_save_30, sP_save_31, sP_save_34, sP_save_35, sP_save_38, sP_save_39, sP_save_41, sP_save_44, sP_save_45, sP_save_46, sP_save_49, sP_save_50, sP_save_51, sP_save_54, sP_save_55, sP_save_58, sP_save_59, sP_save_62, sP_save_63, sP_save_66, sP_save_69, sP_save_70, sP_save_71, o0, o1, o4, o5, o8, o11, o16, o19, o22, o24, w0, w1, w4, w5, w8, w11, w14, w15, w16, w19, w22, w23, w24, w27, w28, k14, k15, k23, k27, k28, en_rdO_eq, en_rdI_eq, en_rdN_eq, en_rdL_eq, true_and, and_true, List.getElem?_cons_succ, List.getElem?_cons_zero, en_gv_eq, if_true, if_false, and_self, or_true, true_or, implies_true, List.length_cons, List.length_nil, Nat.reduceLT, Nat.reduceLeDiff, Nat.reduceAdd, Nat.zero_le, Option.toList_some, Option.toList_none, List.cons_append, List.nil_append, nI_1, rd_t, n1_0, n0_1, Bool.false_eq_true, false_implies, reduceCtorEq]
      refine en_use (by decide) K1 ?_
      simp only [sP_save_0, sP_save_1, sP_save_4, sP_save_7, sP_save_8, sP_save_9, sP_save_10, sP_save_11, sP_save_14, sP_save_15, sP_save_18, sP_save_21, sP_save_24, sP_save_25, sP_save_26, sP_save_27, sP_save_30, sP_save_31, sP_save_34, sP_save_35, sP_save_38, sP_save_39, sP_save_41, sP_save_44, sP_save_45, sP_save_46, sP_save_49, sP_save_50, sP_save_51, sP_save_54, sP_save_55, sP_save_58, sP_save_59, sP_save_62, sP_save_63, sP_save_66, sP_save_69, sP_save_70, sP_save_71, e1, e2, o0, o1, o4, o5, o8, o11, o16, o19, o22, o24, w0, w1, w4, w5, w8, w11, w14, w15, w16, w19, w22, w23, w24, w27, w28, k14, k15, k23, k27, k28, en_rdO_eq, en_rdI_eq, en_rdN_eq, en_rdL_eq, true_and, and_true, List.getElem?_cons_succ, List.getElem?_cons_zero, en_gv_eq, if_true, if_false, and_self, or_true, true_or, implies_true, List.length_cons, List.length_nil, Nat.reduceLT, Nat.reduceLeDiff, Nat.reduceAdd, Nat.zero_le, Option.toList_some, Option.toList_none, List.cons_append, List.nil_append, nI_1, rd_t, n1_0, n0_1, Bool.false_eq_true, false_implies, reduceCtorEq]
      refine en_use (by decide) KF ?_
      simp only [sP_save_0, sP_save_1, sP_save_4, sP_save_7, sP_save_8, sP_save_9, sP_save_10, sP_save_11, sP_save_14, sP_save_15, sP_save_18, sP_save_21, sP_save_24, sP_save_25, sP_save_26, sP_save_27, sP_save_30, sP_save_31, sP_save_34, sP_save_35, sP_save_38, sP_save_39, sP_save_41, sP_save_44, sP_save_45, sP_save_46, sP_save_49, sP_save_50, sP_save_51, sP_save_54, sP_save_55, sP_save_58, sP_save_59, sP_save_62, sP_save_63, sP_save_66, sP_save_69, sP_save_70, sP_save_71, en_rdO_eq, en_rdI_eq, en_rdN_eq, en_rdL_eq, true_and, and_true, List.getElem?_cons_succ, List.getElem?_cons_zero, en_gv_eq, if_true, if_false, and_self, or_true, true_or, implies_true, List.length_cons, List.length_nil, Nat.reduceLT, Nat.reduceLeDiff, Nat.reduceAdd, Nat.zero_le, Option.toList_some, Option.toList_none, List.cons_append, List.nil_append, nI_1, rd_t, n1_0, n0_1, Bool.false_eq_true, false_implies, reduceCtorEq, en_q]
    · rw [if_neg (fun q => by omega)]
      rw [if_neg hf] at KF
      have htl : t < S.2.2.2.2.1.length := by omega
      have hrw := row_wf H0 htl
      have K2 := cR_size_in (u := u) (row := nI t) HP rfl htl
      have hr0 : S.2.2.2.2.1.getD t [] = sp_row S t := rfl
      rw [hr0] at K2
      rw [show S.2.2.2.2.1.length - 1 = t by omega]
      have hrl := hrw.2.1
      have e3 : (nI (sp_sum S.2.2.2.2.1 + sp_sum S.2.2.2.2.2 + (sp_row S t).length) ≤ nI 40000) = (sp_sum S.2.2.2.2.1 + sp_sum S.2.2.2.2.2 + (sp_row S t).length ≤ 40000) := propext (nI_leI (by omega) (by omega))
      by_cases hq : 40000 < sp_sum S.2.2.2.2.1 + sp_sum S.2.2.2.2.2 + (sp_row S t).length
      · rw [if_pos hq]
        have hq2 : ¬ (sp_sum S.2.2.2.2.1 + sp_sum S.2.2.2.2.2 + (sp_row S t).length ≤ 40000) := by omega
        obtain ⟨c', r', K3, Hc, hS, hfr⟩ := cP_settle (u := u) (f := 5) H0 (by decide)
        refine pOut_c ?_ Hc hS hfr cg_rf
        refine en_call_is (by decide) (Nat.le_of_ble_eq_true rfl) cat_1 ?_
        show en_W (en_call 6) mP_save 0 [some (.ref 0), none] [] c x u _
        simp only [sP_save_0, sP_save_1, sP_save_4, sP_save_7, sP_save_8, sP_save_9, sP_save_10, sP_save_11, sP_save_14, sP_save_15, sP_save_18, sP_save_21, sP_save_24, sP_save_25, sP_save_26, sP_save_27, sP_save_30, sP_save_31, sP_save_34, sP_save_35, sP_save_38, sP_save_39, sP_save_41, sP_save_44, sP_save_45, sP_save_46, sP_save_49, sP_save_50, sP_save_51, sP_save_54, sP_save_55, sP_save_58, sP_save_59, sP_save_62, sP_save_63, sP_save_66, sP_save_69, sP_save_70, sP_save_71, o0, o1, o4, o5, o8, o11, o16, o19, o22, o24, w0, w1, w4, w5, w8, w11, w14, w15, w16, w19, w22, w23, w24, w27, w28, k14, k15, k23, k27, k28, en_rdO_eq, en_rdI_eq, en_rdN_eq, en_rdL_eq, true_and, and_true, List.getElem?_cons_succ, List.getElem?_cons_zero, en_gv_eq, if_true, if_false, and_self, or_true, true_or, implies_true, List.length_cons, List.length_nil, Nat.reduceLT, Nat.reduceLeDiff, Nat.reduceAdd, Nat.zero_le, Option.toList_some, Option.toList_none, List.cons_append, List.nil_append, nI_1, rd_t, n1_0, n0_1, Bool.false_eq_true, false_implies, reduceCtorEq]
        refine en_use (by decide) K1 ?_
        simp only [sP_save_0, sP_save_1, sP_save_4, sP_save_7, sP_save_8, sP_save_9, sP_save_10, sP_save_11, sP_save_14, sP_save_15, sP_save_18, sP_save_21, sP_save_24, sP_save_25, sP_save_26, sP_save_27, sP_save_30, sP_save_31, sP_save_34, sP_save_35, sP_save_38, sP_save_39, sP_save_41, sP_save_44, sP_save_45, sP_save_46, sP_save_49, sP_save_50, sP_save_51, sP_save_54, sP_save_55, sP_save_58, sP_save_59, sP_save_62, sP_save_63, sP_save_66, sP_save_69, sP_save_70, sP_save_71, e1, e2, o0, o1, o4, o5, o8, o11, o16, o19, o22, o24, w0, w1, w4, w5, w8, w11, w14, w15, w16, w19, w22, w23, w24, w27, w28, k14, k15, k23, k27, k28, en_rdO_eq, en_rdI_eq, en_rdN_eq, en_rdL_eq, true_and, and_true, List.getElem?_cons_succ, List.getElem?_cons_zero, en_gv_eq, if_true, if_false, and_self, or_true, true_or, implies_true, List.length_cons, List.length_nil, Nat.reduceLT, Nat.reduceLeDiff, Nat.reduceAdd, Nat.zero_le, Option.toList_some, Option.toList_none, List.cons_append, List.nil_append, nI_1, rd_t, n1_0, n0_1, Bool.false_eq_true, false_implies, reduceCtorEq]
        refine en_use (by decide) KF ?_
        simp only [sP_save_0, sP_save_1, sP_save_4, sP_save_7, sP_save_8, sP_save_9, sP_save_10, sP_save_11, sP_save_14, sP_save_15, sP_save_18, sP_save_21, sP_save_24, sP_save_25, sP_save_26, sP_save_27, sP_save_30, sP_save_31, sP_save_34, sP_save_35, sP_save_38, sP_save_39, sP_save_41, sP_save_44, sP_save_45, sP_save_46, sP_save_49, sP_save_50, sP_save_51, sP_save_54, sP_save_55, sP_save_58, sP_save_59, sP_save_62, sP_save_63, sP_save_66, sP_save_69, sP_save_70, sP_save_71, o0, o1, o4, o5, o8, o11, o16, o19, o22, o24, w0, w1, w4, w5, w8, w11, w14, w15, w16, w19, w22, w23, w24, w27, w28, k14, k15, k23, k27, k28, en_rdO_eq, en_rdI_eq, en_rdN_eq, en_rdL_eq, true_and, and_true, List.getElem?_cons_succ, List.getElem?_cons_zero, en_gv_eq, if_true, if_false, and_self, or_true, true_or, implies_true, List.length_cons, List.length_nil, Nat.reduceLT, Nat.reduceLeDiff, Nat.reduceAdd, Nat.zero_le, Option.toList_some, Option.toList_none, List.cons_append, List.nil_append, nI_1, rd_t, n1_0, n0_1, Bool.false_eq_true, false_implies, reduceCtorEq]
        refine en_use (by decide) KA ?_
        simp only [sP_save_0, sP_save_1, sP_save_4, sP_save_7, sP_save_8, sP_save_9, sP_save_10, sP_save_11, sP_save_14, sP_save_15, sP_save_18, sP_save_21, sP_save_24, sP_save_25, sP_save_26, sP_save_27, sP_save_30, sP_save_31, sP_save_34, sP_save_35, sP_save_38, sP_save_39, sP_save_41, sP_save_44, sP_save_45, sP_save_46, sP_save_49, sP_save_50, sP_save_51, sP_save_54, sP_save_55, sP_save_58, sP_save_59, sP_save_62, sP_save_63, sP_save_66, sP_save_69, sP_save_70, sP_save_71, o0, o1, o4, o5, o8, o11, o16, o19, o22, o24, w0, w1, w4, w5, w8, w11, w14, w15, w16, w19, w22, w23, w24, w27, w28, k14, k15, k23, k27, k28, en_rdO_eq, en_rdI_eq, en_rdN_eq, en_rdL_eq, true_and, and_true, List.getElem?_cons_succ, List.getElem?_cons_zero, en_gv_eq, if_true, if_false, and_self, or_true, true_or, implies_true, List.length_cons, List.length_nil, Nat.reduceLT, Nat.reduceLeDiff, Nat.reduceAdd, Nat.zero_le, Option.toList_some, Option.toList_none, List.cons_append, List.nil_append, nI_1, rd_t, n1_0, n0_1, Bool.false_eq_true, false_implies, reduceCtorEq]
        refine en_use (by decide) K2 ?_
        simp only [sP_save_0, sP_save_1, sP_save_4, sP_save_7, sP_save_8, sP_save_9, sP_save_10, sP_save_11, sP_save_14, sP_save_15, sP_save_18, sP_save_21, sP_save_24, sP_save_25, sP_save_26, sP_save_27, sP_save_30, sP_save_31, sP_save_34, sP_save_35, sP_save_38, sP_save_39, sP_save_41, sP_save_44, sP_save_45, sP_save_46, sP_save_49, sP_save_50, sP_save_51, sP_save_54, sP_save_55, sP_save_58, sP_save_59, sP_save_62, sP_save_63, sP_save_66, sP_save_69, sP_save_70, sP_save_71, o0, o1, o4, o5, o8, o11, o16, o19, o22, o24, w0, w1, w4, w5, w8, w11, w14, w15, w16, w19, w22, w23, w24, w27, w28, k14, k15, k23, k27, k28, nI_add, e3, hq2, en_rdO_eq, en_rdI_eq, en_rdN_eq, en_rdL_eq, true_and, and_true, List.getElem?_cons_succ, List.getElem?_cons_zero, en_gv_eq, if_true, if_false, and_self, or_true, true_or, implies_true, List.length_cons, List.length_nil, Nat.reduceLT, Nat.reduceLeDiff, Nat.reduceAdd, Nat.zero_le, Option.toList_some, Option.toList_none, List.cons_append, List.nil_append, nI_1, rd_t, n1_0, n0_1, Bool.false_eq_true, false_implies, reduceCtorEq]
        refine en_use (by decide) K3 ?_
        simp only [sP_save_0, sP_save_1, sP_save_4, sP_save_7, sP_save_8, sP_save_9, sP_save_10, sP_save_11, sP_save_14, sP_save_15, sP_save_18, sP_save_21, sP_save_24, sP_save_25, sP_save_26, sP_save_27, sP_save_30, sP_save_31, sP_save_34, sP_save_35, sP_save_38, sP_save_39, sP_save_41, sP_save_44, sP_save_45, sP_save_46, sP_save_49, sP_save_50, sP_save_51, sP_save_54, sP_save_55, sP_save_58, sP_save_59, sP_save_62, sP_save_63, sP_save_66, sP_save_69, sP_save_70, sP_save_71, en_rdO_eq, en_rdI_eq, en_rdN_eq, en_rdL_eq, true_and, and_true, List.getElem?_cons_succ, List.getElem?_cons_zero, en_gv_eq, if_true, if_false, and_self, or_true, true_or, implies_true, List.length_cons, List.length_nil, Nat.reduceLT, Nat.reduceLeDiff, Nat.reduceAdd, Nat.zero_le, Option.toList_some, Option.toList_none, List.cons_append, List.nil_append, nI_1, rd_t, n1_0, n0_1, Bool.false_eq_true, false_implies, reduceCtorEq, en_q]
        rfl
      · rw [if_neg hq]
        have hq2 : sp_sum S.2.2.2.2.1 + sp_sum S.2.2.2.2.2 + (sp_row S t).length ≤ 40000 := by omega
        obtain ⟨n1, n2⟩ := ck_ne H0 (k := 16) (by decide) (k2 := 19) (by decide) (by omega)
        obtain ⟨c', x', u', i', N', K4, R4, hN, hfr, hgr⟩ := cR_addCopy (u := u) (row := nI t) HV HP n1 n2 rfl htl (by omega) (by rw [hr0]; show sp_sum S.2.2.2.2.2 + _ ≤ _; omega)
        rw [hr0] at R4 hN
        have hN : N' = N 19 ∨ N' ≤ 2 * (sp_sum S.2.2.2.2.2 + (sp_row S t).length) := hN
        obtain ⟨Hc, hcf⟩ := cr_rows H0.1 (k := 19) (by decide) hgr.2.1 R4 hfr
        have K5 := cR_rows (u := u') R4
        rw [List.length_append] at K5
        have e4 : nI (S.2.2.2.2.2.length + 1) - 1 = nI S.2.2.2.2.2.length := nI_pred _
        refine pOut_c ?_ Hc (cS_sv H0.2.1) hcf (cg_rows (by decide) hgr (by show _ ∨ _ ≤ 100000; omega))
        obtain ⟨p0, p1, p4, p5, p8, p11, p16, p19, p22, p24⟩ := cs_o Hc
        obtain ⟨y0, y1, y4, y5, y8, y11, y14, y15, y16, y19, y22, y23, y24, y27, y28⟩ := cs_b Hc.1
        refine en_call_is (by decide) (Nat.le_of_ble_eq_true rfl) cat_1 ?_
        show en_W (en_call 6) mP_save 0 [some (.ref 0), none] [] c x u _
        simp only [sP_save_0, sP_save_1, sP_save_4, sP_save_7, sP_save_8, sP_save_9, sP_save_10, sP_save_11, sP_save_14, sP_save_15, sP_save_18, sP_save_21, sP_save_24, sP_save_25, sP_save_26, sP_save_27, sP_save_30, sP_save_31, sP_save_34, sP_save_35, sP_save_38, sP_save_39, sP_save_41, sP_save_44, sP_save_45, sP_save_46, sP_save_49, sP_save_50, sP_save_51, sP_save_54, sP_save_55, sP_save_58, sP_save_59, sP_save_62, sP_save_63, sP_save_66, sP_save_69, sP_save_70, sP_save_71, o0, o1, o4, o5, o8, o11, o16, o19, o22, o24, w0, w1, w4, w5, w8, w11, w14, w15, w16, w19, w22, w23, w24, w27, w28, k14, k15, k23, k27, k28, en_rdO_eq, en_rdI_eq, en_rdN_eq, en_rdL_eq, true_and, and_true, List.getElem?_cons_succ, List.getElem?_cons_zero, en_gv_eq, if_true, if_false, and_self, or_true, true_or, implies_true, List.length_cons, List.length_nil, Nat.reduceLT, Nat.reduceLeDiff, Nat.reduceAdd, Nat.zero_le, Option.toList_some, Option.toList_none, List.cons_append, List.nil_append, nI_1, rd_t, n1_0, n0_1, Bool.false_eq_true, false_implies, reduceCtorEq]
        refine en_use (by decide) K1 ?_
        simp only [sP_save_0, sP_save_1, sP_save_4, sP_save_7, sP_save_8, sP_save_9, sP_save_10, sP_save_11, sP_save_14, sP_save_15, sP_save_18, sP_save_21, sP_save_24, sP_save_25, sP_save_26, sP_save_27, sP_save_30, sP_save_31, sP_save_34, sP_save_35, sP_save_38, sP_save_39, sP_save_41, sP_save_44, sP_save_45, sP_save_46, sP_save_49, sP_save_50, sP_save_51, sP_save_54, sP_save_55, sP_save_58, sP_save_59, sP_save_62, sP_save_63, sP_save_66, sP_save_69, sP_save_70, sP_save_71, e1, e2, o0, o1, o4, o5, o8, o11, o16, o19, o22, o24, w0, w1, w4, w5, w8, w11, w14, w15, w16, w19, w22, w23, w24, w27, w28, k14, k15, k23, k27, k28, en_rdO_eq, en_rdI_eq, en_rdN_eq, en_rdL_eq, true_and, and_true, List.getElem?_cons_succ, List.getElem?_cons_zero, en_gv_eq, if_true, if_false, and_self, or_true, true_or, implies_true, List.length_cons, List.length_nil, Nat.reduceLT, Nat.reduceLeDiff, Nat.reduceAdd, Nat.zero_le, Option.toList_some, Option.toList_none, List.cons_append, List.nil_append, nI_1, rd_t, n1_0, n0_1, Bool.false_eq_true, false_implies, reduceCtorEq]
        refine en_use (by decide) KF ?_
        simp only [sP_save_0, sP_save_1, sP_save_4, sP_save_7, sP_save_8, sP_save_9, sP_save_10, sP_save_11, sP_save_14, sP_save_15, sP_save_18, sP_save_21, sP_save_24, sP_save_25, sP_save_26, sP_save_27, sP_save_30, sP_save_31, sP_save_34, sP_save_35, sP_save_38, sP_save_39, sP_save_41, sP_save_44, sP_save_45, sP_save_46, sP_save_49, sP_save_50, sP_save_51, sP_save_54, sP_save_55, sP_save_58, sP_save_59, sP_save_62, sP_save_63, sP_save_66, sP_save_69, sP_save_70, sP_save_71, o0, o1, o4, o5, o8, o11, o16, o19, o22, o24, w0, w1, w4, w5, w8, w11, w14, w15, w16, w19, w22, w23, w24, w27, w28, k14, k15, k23, k27, k28, en_rdO_eq, en_rdI_eq, en_rdN_eq, en_rdL_eq, true_and, and_true, List.getElem?_cons_succ, List.getElem?_cons_zero, en_gv_eq, if_true, if_false, and_self, or_true, true_or, implies_true, List.length_cons, List.length_nil, Nat.reduceLT, Nat.reduceLeDiff, Nat.reduceAdd, Nat.zero_le, Option.toList_some, Option.toList_none, List.cons_append, List.nil_append, nI_1, rd_t, n1_0, n0_1, Bool.false_eq_true, false_implies, reduceCtorEq]
        refine en_use (by decide) KA ?_
        simp only [sP_save_0, sP_save_1, sP_save_4, sP_save_7, sP_save_8, sP_save_9, sP_save_10, sP_save_11, sP_save_14, sP_save_15, sP_save_18, sP_save_21, sP_save_24, sP_save_25, sP_save_26, sP_save_27, sP_save_30, sP_save_31, sP_save_34, sP_save_35, sP_save_38, sP_save_39, sP_save_41, sP_save_44, sP_save_45, sP_save_46, sP_save_49, sP_save_50, sP_save_51, sP_save_54, sP_save_55, sP_save_58, sP_save_59, sP_save_62, sP_save_63, sP_save_66, sP_save_69, sP_save_70, sP_save_71, o0, o1, o4, o5, o8, o11, o16, o19, o22, o24, w0, w1, w4, w5, w8, w11, w14, w15, w16, w19, w22, w23, w24, w27, w28, k14, k15, k23, k27, k28, en_rdO_eq, en_rdI_eq, en_rdN_eq, en_rdL_eq, true_and, and_true, List.getElem?_cons_succ, List.getElem?_cons_zero, en_gv_eq, if_true, if_false, and_self, or_true, true_or, implies_true, List.length_cons, List.length_nil, Nat.reduceLT, Nat.reduceLeDiff, Nat.reduceAdd, Nat.zero_le, Option.toList_some, Option.toList_none, List.cons_append, List.nil_append, nI_1, rd_t, n1_0, n0_1, Bool.false_eq_true, false_implies, reduceCtorEq]
        refine en_use (by decide) K2 ?_
        simp only [sP_save_0, sP_save_1, sP_save_4, sP_save_7, sP_save_8, sP_save_9, sP_save_10, sP_save_11, sP_save_14, sP_save_15, sP_save_18, sP_save_21, sP_save_24, sP_save_25, sP_save_26, sP_save_27, sP_save_30, sP_save_31, sP_save_34, sP_save_35, sP_save_38, sP_save_39, sP_save_41, sP_save_44, sP_save_45, sP_save_46, sP_save_49, sP_save_50, sP_save_51, sP_save_54, sP_save_55, sP_save_58, sP_save_59, sP_save_62, sP_save_63, sP_save_66, sP_save_69, sP_save_70, sP_save_71, o0, o1, o4, o5, o8, o11, o16, o19, o22, o24, w0, w1, w4, w5, w8, w11, w14, w15, w16, w19, w22, w23, w24, w27, w28, k14, k15, k23, k27, k28, nI_add, e3, hq2, en_rdO_eq, en_rdI_eq, en_rdN_eq, en_rdL_eq, true_and, and_true, List.getElem?_cons_succ, List.getElem?_cons_zero, en_gv_eq, if_true, if_false, and_self, or_true, true_or, implies_true, List.length_cons, List.length_nil, Nat.reduceLT, Nat.reduceLeDiff, Nat.reduceAdd, Nat.zero_le, Option.toList_some, Option.toList_none, List.cons_append, List.nil_append, nI_1, rd_t, n1_0, n0_1, Bool.false_eq_true, false_implies, reduceCtorEq]
        refine en_use (by decide) K4 ?_
        simp only [sP_save_0, sP_save_1, sP_save_4, sP_save_7, sP_save_8, sP_save_9, sP_save_10, sP_save_11, sP_save_14, sP_save_15, sP_save_18, sP_save_21, sP_save_24, sP_save_25, sP_save_26, sP_save_27, sP_save_30, sP_save_31, sP_save_34, sP_save_35, sP_save_38, sP_save_39, sP_save_41, sP_save_44, sP_save_45, sP_save_46, sP_save_49, sP_save_50, sP_save_51, sP_save_54, sP_save_55, sP_save_58, sP_save_59, sP_save_62, sP_save_63, sP_save_66, sP_save_69, sP_save_70, sP_save_71, p0, p19, y0, y19, en_rdO_eq, en_rdI_eq, en_rdN_eq, en_rdL_eq, true_and, and_true, List.getElem?_cons_succ, List.getElem?_cons_zero, en_gv_eq, if_true, if_false, and_self, or_true, true_or, implies_true, List.length_cons, List.length_nil, Nat.reduceLT, Nat.reduceLeDiff, Nat.reduceAdd, Nat.zero_le, Option.toList_some, Option.toList_none, List.cons_append, List.nil_append, nI_1, rd_t, n1_0, n0_1, Bool.false_eq_true, false_implies, reduceCtorEq]
        refine en_use (by decide) K5 ?_
        simp only [sP_save_0, sP_save_1, sP_save_4, sP_save_7, sP_save_8, sP_save_9, sP_save_10, sP_save_11, sP_save_14, sP_save_15, sP_save_18, sP_save_21, sP_save_24, sP_save_25, sP_save_26, sP_save_27, sP_save_30, sP_save_31, sP_save_34, sP_save_35, sP_save_38, sP_save_39, sP_save_41, sP_save_44, sP_save_45, sP_save_46, sP_save_49, sP_save_50, sP_save_51, sP_save_54, sP_save_55, sP_save_58, sP_save_59, sP_save_62, sP_save_63, sP_save_66, sP_save_69, sP_save_70, sP_save_71, e4, en_rdO_eq, en_rdI_eq, en_rdN_eq, en_rdL_eq, true_and, and_true, List.getElem?_cons_succ, List.getElem?_cons_zero, en_gv_eq, if_true, if_false, and_self, or_true, true_or, implies_true, List.length_cons, List.length_nil, Nat.reduceLT, Nat.reduceLeDiff, Nat.reduceAdd, Nat.zero_le, Option.toList_some, Option.toList_none, List.cons_append, List.nil_append, nI_1, rd_t, n1_0, n0_1, Bool.false_eq_true, false_implies, reduceCtorEq, en_q]
end PE
