/-! the class's world and the document's state; StepPile$Statements: reads -/
def pf (ps : List (Nat × Nat)) : List Nat := ps.flatMap (fun q => [q.1, q.2])
def cS (r : cr_T) (S : sp_S) : Prop :=
  (r_R r 5 = S.2.1.map (fun t => t.2.1) ∧ r_R r 8 = S.2.1.map (fun t => t.2.2.1) ∧ r_R r 11 = S.2.1.map (fun t => pf t.2.2.2) ∧ r_R r 16 = S.2.2.2.2.1 ∧ r_R r 19 = S.2.2.2.2.2) ∧ (r_vs r = S.1 ∧ r_ap r = S.2.2.2.1) ∧
  (∀ i, i < S.2.1.length → r_kf r i = nI (sp_kd S i)) ∧ r_op r = (if S.2.2.1 then nI (sp_la S) else -1) ∧
  (S.2.2.1 = true → ∀ v, v < S.1.length → S.1.getD v false = true → (r_ff r v = nI (sp_la S) ↔ sp_fl S (sp_nd S (sp_la S)) v = true)) ∧ (∀ v, v < 1000 → r_ff r v = -1 ∨ ∃ k, (k < S.2.1.length ∧ v < S.1.length) ∧ r_ff r v = nI k) ∧
  ∃ mk, mk ≤ 1000000000 ∧ r_mk r = nI mk ∧ ∀ v, v < 1000 → ∃ k, k ≤ mk ∧ r_sf r v = nI k
/-- all of it -/
def CS (c : en_H) (x : Nat) (ci N : Nat → Nat) (r : cr_T) (S : sp_S) : Prop := cr_at c x ci N r ∧ cS r S ∧ sp_wf S
theorem nm1_2 : ((-1 : Int32) = 2) = False := eq_false (by decide)
theorem nm1_0 : ((-1 : Int32) = 0) = False := eq_false (by decide)
theorem nm1_1 : ((-1 : Int32) = 1) = False := eq_false (by decide)
theorem m1_lt : ((-1 : Int32) < 0) = True := eq_true (by decide)
theorem nI_ne_m1 {n : Nat} (h : n < 2 ^ 31) : (nI n = -1) = False := eq_false (fun e => nI_pos h (by rw [e]; decide))
theorem m1_ne {n : Nat} (h : n < 2 ^ 31) : (-1 = nI n) = False := eq_false (fun e => nI_pos h (by rw [← e]; decide))
section TC
variable {c : en_H} {x u : Nat} {ci N : Nat → Nat} {r : cr_T} {S : sp_S}
theorem cs_len (h : cS r S) : (r_R r 5).length = S.2.1.length ∧ (r_R r 8).length = S.2.1.length ∧ (r_R r 11).length = S.2.1.length := by
  obtain ⟨⟨h1, h2, h3, -⟩, -⟩ := h
  exact ⟨by rw [h1, List.length_map], by rw [h2, List.length_map], by rw [h3, List.length_map]⟩
theorem cs_get (h : cS r S) (i : Nat) : (r_R r 5).getD i [] = sp_tx S i ∧ (r_R r 8).getD i [] = sp_nd S i ∧ (r_R r 11).getD i [] = pf (sp_pr S i) := by
  obtain ⟨⟨h1, h2, h3, -⟩, -⟩ := h
  rw [h1, h2, h3]
  unfold sp_tx sp_nd sp_pr sp_at
  simp only [List.getD_eq_getElem?_getD, List.getElem?_map]
  cases S.2.1[i]? <;> exact ⟨rfl, rfl, rfl⟩
theorem cs_T (H : CS c x ci N r S) : rw_at c x 5 (ci 5) 7 300 (N 5) (r_R r 5) ∧ rw_at c x 8 (ci 8) 10 300 (N 8) (r_R r 8) ∧ rw_at c x 11 (ci 11) 13 300 (N 11) (r_R r 11) ∧ rw_at c x 16 (ci 16) 18 200 (N 16) (r_R r 16) ∧ rw_at c x 19 (ci 19) 21 300 (N 19) (r_R r 19) ∧ rw_at c x 24 (ci 24) 26 60 (N 24) (r_R r 24) :=
  ⟨cr_rw H.1 (k := 5) (by decide), cr_rw H.1 (k := 8) (by decide), cr_rw H.1 (k := 11) (by decide), cr_rw H.1 (k := 16) (by decide), cr_rw H.1 (k := 19) (by decide), cr_rw H.1 (k := 24) (by decide)⟩
theorem cs_b (h : 46 ≤ x) : 0 < x ∧ 1 < x ∧ 4 < x ∧ 5 < x ∧ 8 < x ∧ 11 < x ∧ 14 < x ∧ 15 < x ∧ 16 < x ∧ 19 < x ∧ 22 < x ∧ 23 < x ∧ 24 < x ∧ 27 < x ∧ 28 < x := by omega
theorem cs_o (H : cr_at c x ci N r) : c 0 = .inr (0, [.ref 1, .ref 4, .ref 16, .ref 19, .ref 22, .ref 28]) ∧ c 1 = .inr (2, [.ref 2, .ref 3, .int (nI (r_vs r).length)]) ∧ c 4 = .inr (3, [.ref 5, .ref 8, .ref 11, .ref 1, .ref 14, .ref 15, .int (r_op r)]) ∧ c 5 = .inr (1, [.ref (ci 5), .ref 7, .int (nI (r_R r 5).length)]) ∧ c 8 = .inr (1, [.ref (ci 8), .ref 10, .int (nI (r_R r 8).length)]) ∧ c 11 = .inr (1, [.ref (ci 11), .ref 13, .int (nI (r_R r 11).length)]) ∧ c 16 = .inr (1, [.ref (ci 16), .ref 18, .int (nI (r_R r 16).length)]) ∧ c 19 = .inr (1, [.ref (ci 19), .ref 21, .int (nI (r_R r 19).length)]) ∧ c 22 = .inr (4, [.ref 1, .ref 16, .ref 23, .ref 24, .int (r_lo r), .ref 27, .int (r_mk r)]) ∧ c 24 = .inr (1, [.ref (ci 24), .ref 26, .int (nI (r_R r 24).length)]) :=
  ⟨H.2.2.1.1, H.2.1.2.1, H.2.2.1.2.1, (cr_rw H (k := 5) (by decide)).2.1, (cr_rw H (k := 8) (by decide)).2.1, (cr_rw H (k := 11) (by decide)).2.1, (cr_rw H (k := 16) (by decide)).2.1, (cr_rw H (k := 19) (by decide)).2.1, H.2.2.1.2.2, (cr_rw H (k := 24) (by decide)).2.1⟩
theorem cs_sy (H : CS c x ci N r S) : sy_at c x 1 2 3 S.1 S.2.2.2.1 := by
  have h := H.1.2.1
  rw [H.2.1.2.1.1, H.2.1.2.1.2] at h
  exact h
theorem cT_kind_in {i : Nat} {ii : Int32} (H : CS c x ci N r S) (hii : ii = nI i) (hi : i < S.2.1.length) : en_call 2 mT_kindOf [.ref 4, .int ii] c x u (some (.int (nI (sp_kd S i)))) c x u := by
  have hl := (cs_len H.2.1).1
  have K1 := cR_has_in (u := u) (cs_T H).1 hii (by rw [hl]; exact hi)
  have hn := H.2.2.2.1
  have e3 := H.2.1.2.2.1 i hi
  obtain ⟨o0, o1, o4, o5, o8, o11, o16, o19, o22, o24⟩ := cs_o H.1
  obtain ⟨w0, w1, w4, w5, w8, w11, w14, w15, w16, w19, w22, w23, w24, w27, w28⟩ := cs_b H.1.1
  obtain ⟨k14, k15, k23, k27, k28⟩ := H.1.2.2.2.1
  subst hii
  have e1 : vp_in (nI i) 300 := vp_in_nI (by omega) (by omega)
  have e2 : (nI i).toNatClampNeg = i := nI_clamp (by omega)
  refine en_call_is (by decide) (Nat.le_of_ble_eq_true rfl) cat_2 ?_
  show en_W (en_call 1) mT_kindOf 0 [some (.ref 4), some (.int (nI i))] [] c x u _
  simp only [sT_kindOf_0, sT_kindOf_1, sT_kindOf_4, sT_kindOf_5, sT_kindOf_8, sT_kindOf_11, sT_kindOf_12, sT_kindOf_15, sT_kindOf_16, sT_kindOf_17, sT_kindOf_20, sT_kindOf_21, o0, o1, o4, o5, o8, o11, o16, o19, o22, o24, w0, w1, w4, w5, w8, w11, w14, w15, w16, w19, w22, w23, w24, w27, w28, k14, k15, k23, k27, k28, en_rdO_eq, en_rdI_eq, en_rdN_eq, en_rdL_eq, true_and, and_true, List.getElem?_cons_succ, List.getElem?_cons_zero, en_gv_eq, if_true, if_false, and_self, or_true, true_or, implies_true, List.length_cons, List.length_nil, Nat.reduceLT, Nat.reduceLeDiff, Nat.reduceAdd, Nat.zero_le, Option.toList_some, Option.toList_none, List.cons_append, List.nil_append, nI_1, rd_t, n1_0, n0_1, Bool.false_eq_true, false_implies, reduceCtorEq]
  refine en_use (Nat.le_refl _) K1 ?_
  simp only [sT_kindOf_0, sT_kindOf_1, sT_kindOf_4, sT_kindOf_5, sT_kindOf_8, sT_kindOf_11, sT_kindOf_12, sT_kindOf_15, sT_kindOf_16, sT_kindOf_17, sT_kindOf_20, sT_kindOf_21, o0, o1, o4, o5, o8, o11, o16, o19, o22, o24, w0, w1, w4, w5, w8, w11, w14, w15, w16, w19, w22, w23, w24, w27, w28, k14, k15, k23, k27, k28, e1, e2, e3, en_rdO_eq, en_rdI_eq, en_rdN_eq, en_rdL_eq, true_and, and_true, List.getElem?_cons_succ, List.getElem?_cons_zero, en_gv_eq, if_true, if_false, and_self, or_true, true_or, implies_true, List.length_cons, List.length_nil, Nat.reduceLT, Nat.reduceLeDiff, Nat.reduceAdd, Nat.zero_le, Option.toList_some, Option.toList_none, List.cons_append, List.nil_append, nI_1, rd_t, n1_0, n0_1, Bool.false_eq_true, false_implies, reduceCtorEq, en_q]
theorem cT_kind_out {ii : Int32} (H : CS c x ci N r S) (hi : ii < 0 ∨ nI S.2.1.length ≤ ii) : en_call 2 mT_kindOf [.ref 4, .int ii] c x u (some (.int (-1))) c x u := by
  have hl := (cs_len H.2.1).1
  have K1 := cR_has_out (u := u) (row := ii) (cs_T H).1 (by rw [hl]; exact hi)
  obtain ⟨o0, o1, o4, o5, o8, o11, o16, o19, o22, o24⟩ := cs_o H.1
  obtain ⟨w0, w1, w4, w5, w8, w11, w14, w15, w16, w19, w22, w23, w24, w27, w28⟩ := cs_b H.1.1
  obtain ⟨k14, k15, k23, k27, k28⟩ := H.1.2.2.2.1
  refine en_call_is (by decide) (Nat.le_of_ble_eq_true rfl) cat_2 ?_
  show en_W (en_call 1) mT_kindOf 0 [some (.ref 4), some (.int ii)] [] c x u _
  simp only [sT_kindOf_0, sT_kindOf_1, sT_kindOf_4, sT_kindOf_5, sT_kindOf_8, sT_kindOf_11, sT_kindOf_12, sT_kindOf_15, sT_kindOf_16, sT_kindOf_17, sT_kindOf_20, sT_kindOf_21, o0, o1, o4, o5, o8, o11, o16, o19, o22, o24, w0, w1, w4, w5, w8, w11, w14, w15, w16, w19, w22, w23, w24, w27, w28, k14, k15, k23, k27, k28, en_rdO_eq, en_rdI_eq, en_rdN_eq, en_rdL_eq, true_and, and_true, List.getElem?_cons_succ, List.getElem?_cons_zero, en_gv_eq, if_true, if_false, and_self, or_true, true_or, implies_true, List.length_cons, List.length_nil, Nat.reduceLT, Nat.reduceLeDiff, Nat.reduceAdd, Nat.zero_le, Option.toList_some, Option.toList_none, List.cons_append, List.nil_append, nI_1, rd_t, n1_0, n0_1, Bool.false_eq_true, false_implies, reduceCtorEq]
  refine en_use (Nat.le_refl _) K1 ?_
  simp only [sT_kindOf_0, sT_kindOf_1, sT_kindOf_4, sT_kindOf_5, sT_kindOf_8, sT_kindOf_11, sT_kindOf_12, sT_kindOf_15, sT_kindOf_16, sT_kindOf_17, sT_kindOf_20, sT_kindOf_21, en_rdO_eq, en_rdI_eq, en_rdN_eq, en_rdL_eq, true_and, and_true, List.getElem?_cons_succ, List.getElem?_cons_zero, en_gv_eq, if_true, if_false, and_self, or_true, true_or, implies_true, List.length_cons, List.length_nil, Nat.reduceLT, Nat.reduceLeDiff, Nat.reduceAdd, Nat.zero_le, Option.toList_some, Option.toList_none, List.cons_append, List.nil_append, nI_1, rd_t, n1_0, n0_1, Bool.false_eq_true, false_implies, reduceCtorEq, en_q]
theorem sp_ix (S : sp_S) (hn : S.2.1.length ≤ 300) (ii : Int32) : ((ii < 0 ∨ nI S.2.1.length ≤ ii) ∧ sp_closed S ii = false ∧ ¬ (0 ≤ ii ∧ ii.toNatClampNeg < S.2.1.length)) ∨ ∃ i, i < S.2.1.length ∧ ii = nI i ∧ sp_closed S ii = !(S.2.2.1 && i == sp_la S) := by
  have key : ∀ ii : Int32, nI S.2.1.length ≤ ii → ¬ ii.toNatClampNeg < S.2.1.length := by
    intro ii h
    have h2 := Int32.le_iff_toInt_le.mp h
    rw [nI_toInt (by omega)] at h2
    have h3 : (ii.toNatClampNeg : Int) = ii.toInt := by
      show ((ii.toInt.toNat : Nat) : Int) = ii.toInt
      omega
    omega
  rcases pk_ix ii (n := S.2.1.length) (by omega) with h | h | ⟨i, hi, rfl⟩
  · refine Or.inl ⟨Or.inl h, ?_, fun q => Int32.not_le.mpr h q.1⟩
    unfold sp_closed
    rw [decide_eq_false (Int32.not_le.mpr h)]
    rfl
  · refine Or.inl ⟨Or.inr h, ?_, fun q => key ii h q.2⟩
    unfold sp_closed
    rw [decide_eq_false (key ii h), Bool.and_false]
    rfl
  · refine Or.inr ⟨i, hi, rfl, ?_⟩
    unfold sp_closed
    rw [nI_clamp (by omega), decide_eq_true hi, decide_eq_true (nI_pos' (by omega))]
    rfl
theorem cT_isClosed {ii : Int32} (H : CS c x ci N r S) : en_call 2 mT_isClosed [.ref 4, .int ii] c x u (some (.int (bi (sp_closed S ii)))) c x u := by
  have hl := (cs_len H.2.1).1
  have hn := H.2.2.2.1
  have hop := H.2.1.2.2.2.1
  have HT := (cs_T H).1
  obtain ⟨o0, o1, o4, o5, o8, o11, o16, o19, o22, o24⟩ := cs_o H.1
  obtain ⟨w0, w1, w4, w5, w8, w11, w14, w15, w16, w19, w22, w23, w24, w27, w28⟩ := cs_b H.1.1
  obtain ⟨k14, k15, k23, k27, k28⟩ := H.1.2.2.2.1
  refine en_call_is (by decide) (Nat.le_of_ble_eq_true rfl) cat_2 ?_
  show en_W (en_call 1) mT_isClosed 0 [some (.ref 4), some (.int ii)] [] c x u _
  rcases sp_ix S hn ii with ⟨h1, h2, -⟩ | ⟨i, hi, rfl, h2⟩
  · have K1 := cR_has_out (u := u) (row := ii) HT (by rw [hl]; exact h1)
    rw [h2]
    simp only [sT_isClosed_0, sT_isClosed_1, sT_isClosed_4, sT_isClosed_5, sT_isClosed_8, sT_isClosed_11, sT_isClosed_12, sT_isClosed_13, sT_isClosed_16, sT_isClosed_19, sT_isClosed_20, sT_isClosed_23, sT_isClosed_24, o0, o1, o4, o5, o8, o11, o16, o19, o22, o24, w0, w1, w4, w5, w8, w11, w14, w15, w16, w19, w22, w23, w24, w27, w28, k14, k15, k23, k27, k28, en_rdO_eq, en_rdI_eq, en_rdN_eq, en_rdL_eq, true_and, and_true, List.getElem?_cons_succ, List.getElem?_cons_zero, en_gv_eq, if_true, if_false, and_self, or_true, true_or, implies_true, List.length_cons, List.length_nil, Nat.reduceLT, Nat.reduceLeDiff, Nat.reduceAdd, Nat.zero_le, Option.toList_some, Option.toList_none, List.cons_append, List.nil_append, nI_1, rd_t, n1_0, n0_1, Bool.false_eq_true, false_implies, reduceCtorEq]
    refine en_use (Nat.le_refl _) K1 ?_
    simp only [sT_isClosed_0, sT_isClosed_1, sT_isClosed_4, sT_isClosed_5, sT_isClosed_8, sT_isClosed_11, sT_isClosed_12, sT_isClosed_13, sT_isClosed_16, sT_isClosed_19, sT_isClosed_20, sT_isClosed_23, sT_isClosed_24, bi_f, en_rdO_eq, en_rdI_eq, en_rdN_eq, en_rdL_eq, true_and, and_true, List.getElem?_cons_succ, List.getElem?_cons_zero, en_gv_eq, if_true, if_false, and_self, or_true, true_or, implies_true, List.length_cons, List.length_nil, Nat.reduceLT, Nat.reduceLeDiff, Nat.reduceAdd, Nat.zero_le, Option.toList_some, Option.toList_none, List.cons_append, List.nil_append, nI_1, rd_t, n1_0, n0_1, Bool.false_eq_true, false_implies, reduceCtorEq, en_q]
  · have K1 := cR_has_in (u := u) (row := nI i) HT rfl (by rw [hl]; exact hi)
    rw [h2]
    simp only [sT_isClosed_0, sT_isClosed_1, sT_isClosed_4, sT_isClosed_5, sT_isClosed_8, sT_isClosed_11, sT_isClosed_12, sT_isClosed_13, sT_isClosed_16, sT_isClosed_19, sT_isClosed_20, sT_isClosed_23, sT_isClosed_24, o0, o1, o4, o5, o8, o11, o16, o19, o22, o24, w0, w1, w4, w5, w8, w11, w14, w15, w16, w19, w22, w23, w24, w27, w28, k14, k15, k23, k27, k28, en_rdO_eq, en_rdI_eq, en_rdN_eq, en_rdL_eq, true_and, and_true, List.getElem?_cons_succ, List.getElem?_cons_zero, en_gv_eq, if_true, if_false, and_self, or_true, true_or, implies_true, List.length_cons, List.length_nil, Nat.reduceLT, Nat.reduceLeDiff, Nat.reduceAdd, Nat.zero_le, Option.toList_some, Option.toList_none, List.cons_append, List.nil_append, nI_1, rd_t, n1_0, n0_1, Bool.false_eq_true, false_implies, reduceCtorEq]
    refine en_use (Nat.le_refl _) K1 ?_
    simp only [sT_isClosed_0, sT_isClosed_1, sT_isClosed_4, sT_isClosed_5, sT_isClosed_8, sT_isClosed_11, sT_isClosed_12, sT_isClosed_13, sT_isClosed_16, sT_isClosed_19, sT_isClosed_20, sT_isClosed_23, sT_isClosed_24, o0, o1, o4, o5, o8, o11, o16, o19, o22, o24, w0, w1, w4, w5, w8, w11, w14, w15, w16, w19, w22, w23, w24, w27, w28, k14, k15, k23, k27, k28, hop, en_rdO_eq, en_rdI_eq, en_rdN_eq, en_rdL_eq, true_and, and_true, List.getElem?_cons_succ, List.getElem?_cons_zero, en_gv_eq, if_true, if_false, and_self, or_true, true_or, implies_true, List.length_cons, List.length_nil, Nat.reduceLT, Nat.reduceLeDiff, Nat.reduceAdd, Nat.zero_le, Option.toList_some, Option.toList_none, List.cons_append, List.nil_append, nI_1, rd_t, n1_0, n0_1, Bool.false_eq_true, false_implies, reduceCtorEq]
    cases ho : S.2.2.1 with
    | false =>
      simp only [Bool.false_and, Bool.not_false, nI_ne_m1 (show i < 2 ^ 31 by omega), sT_isClosed_0, sT_isClosed_1, sT_isClosed_4, sT_isClosed_5, sT_isClosed_8, sT_isClosed_11, sT_isClosed_12, sT_isClosed_13, sT_isClosed_16, sT_isClosed_19, sT_isClosed_20, sT_isClosed_23, sT_isClosed_24, bi_t, en_rdO_eq, en_rdI_eq, en_rdN_eq, en_rdL_eq, true_and, and_true, List.getElem?_cons_succ, List.getElem?_cons_zero, en_gv_eq, if_true, if_false, and_self, or_true, true_or, implies_true, List.length_cons, List.length_nil, Nat.reduceLT, Nat.reduceLeDiff, Nat.reduceAdd, Nat.zero_le, Option.toList_some, Option.toList_none, List.cons_append, List.nil_append, nI_1, rd_t, n1_0, n0_1, Bool.false_eq_true, false_implies, reduceCtorEq, en_q]
    | true =>
      have hla : sp_la S < 300 := by unfold sp_la; omega
      have e1 : (nI i = nI (sp_la S)) = (i = sp_la S) := propext (nI_eq (by omega) (by omega))
      simp only [e1, Bool.true_and, en_rdO_eq, en_rdI_eq, en_rdN_eq, en_rdL_eq, true_and, and_true, List.getElem?_cons_succ, List.getElem?_cons_zero, en_gv_eq, if_true, if_false, and_self, or_true, true_or, implies_true, List.length_cons, List.length_nil, Nat.reduceLT, Nat.reduceLeDiff, Nat.reduceAdd, Nat.zero_le, Option.toList_some, Option.toList_none, List.cons_append, List.nil_append, nI_1, rd_t, n1_0, n0_1, Bool.false_eq_true, false_implies, reduceCtorEq]
      by_cases hq : i = sp_la S
      · simp only [hq, beq_self_eq_true, Bool.not_true, bi_f, sT_isClosed_0, sT_isClosed_1, sT_isClosed_4, sT_isClosed_5, sT_isClosed_8, sT_isClosed_11, sT_isClosed_12, sT_isClosed_13, sT_isClosed_16, sT_isClosed_19, sT_isClosed_20, sT_isClosed_23, sT_isClosed_24, en_rdO_eq, en_rdI_eq, en_rdN_eq, en_rdL_eq, true_and, and_true, List.getElem?_cons_succ, List.getElem?_cons_zero, en_gv_eq, if_true, if_false, and_self, or_true, true_or, implies_true, List.length_cons, List.length_nil, Nat.reduceLT, Nat.reduceLeDiff, Nat.reduceAdd, Nat.zero_le, Option.toList_some, Option.toList_none, List.cons_append, List.nil_append, nI_1, rd_t, n1_0, n0_1, Bool.false_eq_true, false_implies, reduceCtorEq, en_q]
      · have : (i == sp_la S) = false := by simpa using hq
        simp only [hq, this, Bool.not_false, bi_t, sT_isClosed_0, sT_isClosed_1, sT_isClosed_4, sT_isClosed_5, sT_isClosed_8, sT_isClosed_11, sT_isClosed_12, sT_isClosed_13, sT_isClosed_16, sT_isClosed_19, sT_isClosed_20, sT_isClosed_23, sT_isClosed_24, en_rdO_eq, en_rdI_eq, en_rdN_eq, en_rdL_eq, true_and, and_true, List.getElem?_cons_succ, List.getElem?_cons_zero, en_gv_eq, if_true, if_false, and_self, or_true, true_or, implies_true, List.length_cons, List.length_nil, Nat.reduceLT, Nat.reduceLeDiff, Nat.reduceAdd, Nat.zero_le, Option.toList_some, Option.toList_none, List.cons_append, List.nil_append, nI_1, rd_t, n1_0, n0_1, Bool.false_eq_true, false_implies, reduceCtorEq, en_q]
theorem cs_la (H : CS c x ci N r S) (ho : S.2.2.1 = true) : sp_la S < S.2.1.length ∧ S.2.1.length ≤ 300 ∧ r_op r = nI (sp_la S) := by
  have h1 := H.2.2.2.2.1 ho
  have h2 := H.2.1.2.2.2.1
  rw [ho] at h2
  exact ⟨by unfold sp_la; omega, H.2.2.2.1, h2⟩
theorem cs_nop (H : CS c x ci N r S) (ho : S.2.2.1 = false) : r_op r = -1 := by
  have h2 := H.2.1.2.2.2.1
  rw [ho] at h2
  exact h2
theorem kd_le (H : CS c x ci N r S) {i : Nat} (hi : i < S.2.1.length) : sp_kd S i ≤ 2 := (H.2.2.2.2.2.1 i hi).1
theorem cT_isAO (H : CS c x ci N r S) : en_call 3 mT_isAssertionOpen [.ref 4] c x u (some (.int (bi (sp_open2 S)))) c x u := by
  have H0 := H
  obtain ⟨o0, o1, o4, o5, o8, o11, o16, o19, o22, o24⟩ := cs_o H.1
  obtain ⟨w0, w1, w4, w5, w8, w11, w14, w15, w16, w19, w22, w23, w24, w27, w28⟩ := cs_b H.1.1
  obtain ⟨k14, k15, k23, k27, k28⟩ := H.1.2.2.2.1
  refine en_call_is (by decide) (Nat.le_of_ble_eq_true rfl) cat_1 ?_
  show en_W (en_call 2) mT_isAssertionOpen 0 [some (.ref 4)] [] c x u _
  simp only [sT_isAssertionOpen_0, sT_isAssertionOpen_1, sT_isAssertionOpen_2, sT_isAssertionOpen_5, sT_isAssertionOpen_8, sT_isAssertionOpen_9, sT_isAssertionOpen_12, sT_isAssertionOpen_13, sT_isAssertionOpen_16, sT_isAssertionOpen_17, o0, o1, o4, o5, o8, o11, o16, o19, o22, o24, w0, w1, w4, w5, w8, w11, w14, w15, w16, w19, w22, w23, w24, w27, w28, k14, k15, k23, k27, k28, en_rdO_eq, en_rdI_eq, en_rdN_eq, en_rdL_eq, true_and, and_true, List.getElem?_cons_succ, List.getElem?_cons_zero, en_gv_eq, if_true, if_false, and_self, or_true, true_or, implies_true, List.length_cons, List.length_nil, Nat.reduceLT, Nat.reduceLeDiff, Nat.reduceAdd, Nat.zero_le, Option.toList_some, Option.toList_none, List.cons_append, List.nil_append, nI_1, rd_t, n1_0, n0_1, Bool.false_eq_true, false_implies, reduceCtorEq]
  unfold sp_open2
  cases ho : S.2.2.1 with
  | false =>
    have K1 := cT_kind_out (u := u) (ii := r_op r) H0 (by rw [cs_nop H0 ho]; exact Or.inl (by decide))
    refine en_use (Nat.le_refl _) K1 ?_
    simp only [sT_isAssertionOpen_0, sT_isAssertionOpen_1, sT_isAssertionOpen_2, sT_isAssertionOpen_5, sT_isAssertionOpen_8, sT_isAssertionOpen_9, sT_isAssertionOpen_12, sT_isAssertionOpen_13, sT_isAssertionOpen_16, sT_isAssertionOpen_17, Bool.false_and, bi_f, nm1_2, en_rdO_eq, en_rdI_eq, en_rdN_eq, en_rdL_eq, true_and, and_true, List.getElem?_cons_succ, List.getElem?_cons_zero, en_gv_eq, if_true, if_false, and_self, or_true, true_or, implies_true, List.length_cons, List.length_nil, Nat.reduceLT, Nat.reduceLeDiff, Nat.reduceAdd, Nat.zero_le, Option.toList_some, Option.toList_none, List.cons_append, List.nil_append, nI_1, rd_t, n1_0, n0_1, Bool.false_eq_true, false_implies, reduceCtorEq, en_q]
  | true =>
    obtain ⟨h1, h2, h3⟩ := cs_la H0 ho
    have K1 := cT_kind_in (u := u) (ii := r_op r) H0 h3 h1
    have hk := kd_le H0 h1
    refine en_use (Nat.le_refl _) K1 ?_
    have e1 : (nI (sp_kd S (sp_la S)) = 2) = (sp_kd S (sp_la S) = 2) := propext (nI_eq (b := 2) (by omega) (by omega))
    simp only [sT_isAssertionOpen_0, sT_isAssertionOpen_1, sT_isAssertionOpen_2, sT_isAssertionOpen_5, sT_isAssertionOpen_8, sT_isAssertionOpen_9, sT_isAssertionOpen_12, sT_isAssertionOpen_13, sT_isAssertionOpen_16, sT_isAssertionOpen_17, e1, Bool.true_and, en_rdO_eq, en_rdI_eq, en_rdN_eq, en_rdL_eq, true_and, and_true, List.getElem?_cons_succ, List.getElem?_cons_zero, en_gv_eq, if_true, if_false, and_self, or_true, true_or, implies_true, List.length_cons, List.length_nil, Nat.reduceLT, Nat.reduceLeDiff, Nat.reduceAdd, Nat.zero_le, Option.toList_some, Option.toList_none, List.cons_append, List.nil_append, nI_1, rd_t, n1_0, n0_1, Bool.false_eq_true, false_implies, reduceCtorEq]
    by_cases hq : sp_kd S (sp_la S) = 2
    · simp only [hq, beq_self_eq_true, bi_t, sT_isAssertionOpen_0, sT_isAssertionOpen_1, sT_isAssertionOpen_2, sT_isAssertionOpen_5, sT_isAssertionOpen_8, sT_isAssertionOpen_9, sT_isAssertionOpen_12, sT_isAssertionOpen_13, sT_isAssertionOpen_16, sT_isAssertionOpen_17, en_rdO_eq, en_rdI_eq, en_rdN_eq, en_rdL_eq, true_and, and_true, List.getElem?_cons_succ, List.getElem?_cons_zero, en_gv_eq, if_true, if_false, and_self, or_true, true_or, implies_true, List.length_cons, List.length_nil, Nat.reduceLT, Nat.reduceLeDiff, Nat.reduceAdd, Nat.zero_le, Option.toList_some, Option.toList_none, List.cons_append, List.nil_append, nI_1, rd_t, n1_0, n0_1, Bool.false_eq_true, false_implies, reduceCtorEq, en_q]
    · have : (sp_kd S (sp_la S) == 2) = false := by simpa using hq
      simp only [hq, this, bi_f, sT_isAssertionOpen_0, sT_isAssertionOpen_1, sT_isAssertionOpen_2, sT_isAssertionOpen_5, sT_isAssertionOpen_8, sT_isAssertionOpen_9, sT_isAssertionOpen_12, sT_isAssertionOpen_13, sT_isAssertionOpen_16, sT_isAssertionOpen_17, en_rdO_eq, en_rdI_eq, en_rdN_eq, en_rdL_eq, true_and, and_true, List.getElem?_cons_succ, List.getElem?_cons_zero, en_gv_eq, if_true, if_false, and_self, or_true, true_or, implies_true, List.length_cons, List.length_nil, Nat.reduceLT, Nat.reduceLeDiff, Nat.reduceAdd, Nat.zero_le, Option.toList_some, Option.toList_none, List.cons_append, List.nil_append, nI_1, rd_t, n1_0, n0_1, Bool.false_eq_true, false_implies, reduceCtorEq, en_q]
theorem cT_isCH {ii : Int32} (H : CS c x ci N r S) : en_call 3 mT_isClosedHypothesis [.ref 4, .int ii] c x u (some (.int (bi (sp_closed S ii && sp_kd S ii.toNatClampNeg != 2)))) c x u := by
  have K1 := cT_isClosed (u := u) (ii := ii) H
  have H0 := H
  have hn := H.2.2.2.1
  obtain ⟨o0, o1, o4, o5, o8, o11, o16, o19, o22, o24⟩ := cs_o H.1
  obtain ⟨w0, w1, w4, w5, w8, w11, w14, w15, w16, w19, w22, w23, w24, w27, w28⟩ := cs_b H.1.1
  obtain ⟨k14, k15, k23, k27, k28⟩ := H.1.2.2.2.1
  refine en_call_is (by decide) (Nat.le_of_ble_eq_true rfl) cat_2 ?_
  show en_W (en_call 2) mT_isClosedHypothesis 0 [some (.ref 4), some (.int ii)] [] c x u _
  simp only [sT_isClosedHypothesis_0, sT_isClosedHypothesis_1, sT_isClosedHypothesis_2, sT_isClosedHypothesis_5, sT_isClosedHypothesis_8, sT_isClosedHypothesis_9, sT_isClosedHypothesis_10, sT_isClosedHypothesis_13, sT_isClosedHypothesis_14, sT_isClosedHypothesis_17, sT_isClosedHypothesis_18, sT_isClosedHypothesis_21, sT_isClosedHypothesis_22, o0, o1, o4, o5, o8, o11, o16, o19, o22, o24, w0, w1, w4, w5, w8, w11, w14, w15, w16, w19, w22, w23, w24, w27, w28, k14, k15, k23, k27, k28, en_rdO_eq, en_rdI_eq, en_rdN_eq, en_rdL_eq, true_and, and_true, List.getElem?_cons_succ, List.getElem?_cons_zero, en_gv_eq, if_true, if_false, and_self, or_true, true_or, implies_true, List.length_cons, List.length_nil, Nat.reduceLT, Nat.reduceLeDiff, Nat.reduceAdd, Nat.zero_le, Option.toList_some, Option.toList_none, List.cons_append, List.nil_append, nI_1, rd_t, n1_0, n0_1, Bool.false_eq_true, false_implies, reduceCtorEq]
  refine en_use (Nat.le_refl _) K1 ?_
  cases hc : sp_closed S ii with
  | false => simp only [sT_isClosedHypothesis_0, sT_isClosedHypothesis_1, sT_isClosedHypothesis_2, sT_isClosedHypothesis_5, sT_isClosedHypothesis_8, sT_isClosedHypothesis_9, sT_isClosedHypothesis_10, sT_isClosedHypothesis_13, sT_isClosedHypothesis_14, sT_isClosedHypothesis_17, sT_isClosedHypothesis_18, sT_isClosedHypothesis_21, sT_isClosedHypothesis_22, bi_f, Bool.false_and, en_rdO_eq, en_rdI_eq, en_rdN_eq, en_rdL_eq, true_and, and_true, List.getElem?_cons_succ, List.getElem?_cons_zero, en_gv_eq, if_true, if_false, and_self, or_true, true_or, implies_true, List.length_cons, List.length_nil, Nat.reduceLT, Nat.reduceLeDiff, Nat.reduceAdd, Nat.zero_le, Option.toList_some, Option.toList_none, List.cons_append, List.nil_append, nI_1, rd_t, n1_0, n0_1, Bool.false_eq_true, false_implies, reduceCtorEq, en_q]
  | true =>
    rcases sp_ix S hn ii with ⟨-, h2, -⟩ | ⟨i, hi, rfl, -⟩
    · rw [h2] at hc; cases hc
    · have K2 := cT_kind_in (u := u) (ii := nI i) H0 rfl hi
      have hk := kd_le H0 hi
      have e1 : (nI (sp_kd S i) = 2) = (sp_kd S i = 2) := propext (nI_eq (b := 2) (by omega) (by omega))
      simp only [sT_isClosedHypothesis_0, sT_isClosedHypothesis_1, sT_isClosedHypothesis_2, sT_isClosedHypothesis_5, sT_isClosedHypothesis_8, sT_isClosedHypothesis_9, sT_isClosedHypothesis_10, sT_isClosedHypothesis_13, sT_isClosedHypothesis_14, sT_isClosedHypothesis_17, sT_isClosedHypothesis_18, sT_isClosedHypothesis_21, sT_isClosedHypothesis_22, o0, o1, o4, o5, o8, o11, o16, o19, o22, o24, w0, w1, w4, w5, w8, w11, w14, w15, w16, w19, w22, w23, w24, w27, w28, k14, k15, k23, k27, k28, bi_t, en_rdO_eq, en_rdI_eq, en_rdN_eq, en_rdL_eq, true_and, and_true, List.getElem?_cons_succ, List.getElem?_cons_zero, en_gv_eq, if_true, if_false, and_self, or_true, true_or, implies_true, List.length_cons, List.length_nil, Nat.reduceLT, Nat.reduceLeDiff, Nat.reduceAdd, Nat.zero_le, Option.toList_some, Option.toList_none, List.cons_append, List.nil_append, nI_1, rd_t, n1_0, n0_1, Bool.false_eq_true, false_implies, reduceCtorEq]
      refine en_use (Nat.le_refl _) K2 ?_
      rw [nI_clamp (by omega)]
      simp only [sT_isClosedHypothesis_0, sT_isClosedHypothesis_1, sT_isClosedHypothesis_2, sT_isClosedHypothesis_5, sT_isClosedHypothesis_8, sT_isClosedHypothesis_9, sT_isClosedHypothesis_10, sT_isClosedHypothesis_13, sT_isClosedHypothesis_14, sT_isClosedHypothesis_17, sT_isClosedHypothesis_18, sT_isClosedHypothesis_21, sT_isClosedHypothesis_22, e1, Bool.true_and, en_rdO_eq, en_rdI_eq, en_rdN_eq, en_rdL_eq, true_and, and_true, List.getElem?_cons_succ, List.getElem?_cons_zero, en_gv_eq, if_true, if_false, and_self, or_true, true_or, implies_true, List.length_cons, List.length_nil, Nat.reduceLT, Nat.reduceLeDiff, Nat.reduceAdd, Nat.zero_le, Option.toList_some, Option.toList_none, List.cons_append, List.nil_append, nI_1, rd_t, n1_0, n0_1, Bool.false_eq_true, false_implies, reduceCtorEq]
      by_cases hq : sp_kd S i = 2
      · simp only [hq, bne_self_eq_false, bi_f, sT_isClosedHypothesis_0, sT_isClosedHypothesis_1, sT_isClosedHypothesis_2, sT_isClosedHypothesis_5, sT_isClosedHypothesis_8, sT_isClosedHypothesis_9, sT_isClosedHypothesis_10, sT_isClosedHypothesis_13, sT_isClosedHypothesis_14, sT_isClosedHypothesis_17, sT_isClosedHypothesis_18, sT_isClosedHypothesis_21, sT_isClosedHypothesis_22, en_rdO_eq, en_rdI_eq, en_rdN_eq, en_rdL_eq, true_and, and_true, List.getElem?_cons_succ, List.getElem?_cons_zero, en_gv_eq, if_true, if_false, and_self, or_true, true_or, implies_true, List.length_cons, List.length_nil, Nat.reduceLT, Nat.reduceLeDiff, Nat.reduceAdd, Nat.zero_le, Option.toList_some, Option.toList_none, List.cons_append, List.nil_append, nI_1, rd_t, n1_0, n0_1, Bool.false_eq_true, false_implies, reduceCtorEq, en_q]
      · have : (sp_kd S i != 2) = true := by simpa using hq
        simp only [hq, this, bi_t, sT_isClosedHypothesis_0, sT_isClosedHypothesis_1, sT_isClosedHypothesis_2, sT_isClosedHypothesis_5, sT_isClosedHypothesis_8, sT_isClosedHypothesis_9, sT_isClosedHypothesis_10, sT_isClosedHypothesis_13, sT_isClosedHypothesis_14, sT_isClosedHypothesis_17, sT_isClosedHypothesis_18, sT_isClosedHypothesis_21, sT_isClosedHypothesis_22, en_rdO_eq, en_rdI_eq, en_rdN_eq, en_rdL_eq, true_and, and_true, List.getElem?_cons_succ, List.getElem?_cons_zero, en_gv_eq, if_true, if_false, and_self, or_true, true_or, implies_true, List.length_cons, List.length_nil, Nat.reduceLT, Nat.reduceLeDiff, Nat.reduceAdd, Nat.zero_le, Option.toList_some, Option.toList_none, List.cons_append, List.nil_append, nI_1, rd_t, n1_0, n0_1, Bool.false_eq_true, false_implies, reduceCtorEq, en_q]
end TC
