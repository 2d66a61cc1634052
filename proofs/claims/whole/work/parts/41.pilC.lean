/-! StepPile itself: the calls that hand on, and the reads -/
def pOut (y : Nat) (As : List Value) (c : en_H) (x u : Nat) (N : Nat → Nat) (v : Int32) (S' : sp_S) : Prop := ∃ c' x' u' ci' N' r', en_call 7 y As c x u (some (.int v)) c' x' u' ∧ cr_at c' x' ci' N' r' ∧ cS r' S' ∧ cs_fr c c' ∧ cg (r_setN N 0 (N 0 + 200)) N' x x' u u'
theorem cg_N0 {N N' : Nat → Nat} {x x' u u' : Nat} (h : cg N N' x x' u u') (B : Nat) : cg (r_setN N 0 B) (r_setN N' 0 B) x x' u u' := by
  obtain ⟨h1, h2, h3, h4, h5, h6⟩ := h
  exact ⟨h1, h2, h3, h4, h5, rfl⟩
section PC
variable {c c' : en_H} {x x' u u' : Nat} {ci ci' N N' : Nat → Nat} {r r' : cr_T} {S S' : sp_S} {y : Nat} {As : List Value} {v : Int32}
theorem pOut_c (h : en_call 7 y As c x u (some (.int v)) c' x' u') (H : cr_at c' x' ci' N' r') (hS : cS r' S') (hf : cs_fr c c') (hg : cg N N' x x' u u') : pOut y As c x u N v S' :=
  ⟨c', x', u', ci', _, r', h, cr_N0 H (B := N 0 + 200) (by have := hg.2.2.2.2.2; omega), hS, hf, cg_N0 hg _⟩
theorem pOut_s (H : CS c x ci N r S) (h : en_call 7 y As c x u (some (.int v)) c x u) : pOut y As c x u N v S := pOut_c h H.1 H.2.1 cs_rf cg_rf
theorem cP_put {w : Int32} (H : CS c x ci N r S) : pOut mP_put [.ref 0, .int w] c x u N (sp_put w S).1 (sp_put w S).2 := by
  obtain ⟨c', x', u', ci', N', r', K, Hc, hS, hf, hg⟩ := cT_addSymbol (u := u) (ss := w) H
  refine pOut_c ?_ Hc hS hf hg
  obtain ⟨o0, o1, o4, o5, o8, o11, o16, o19, o22, o24⟩ := cs_o H.1
  obtain ⟨w0, w1, w4, w5, w8, w11, w14, w15, w16, w19, w22, w23, w24, w27, w28⟩ := cs_b H.1.1
  obtain ⟨k14, k15, k23, k27, k28⟩ := H.1.2.2.2.1
  refine en_call_is (by decide) (Nat.le_of_ble_eq_true rfl) cat_2 ?_
  show en_W (en_call 6) mP_put 0 [some (.ref 0), some (.int w)] [] c x u _
  simp only [sP_put_0, sP_put_1, sP_put_4, sP_put_5, sP_put_8, o0, o1, o4, o5, o8, o11, o16, o19, o22, o24, w0, w1, w4, w5, w8, w11, w14, w15, w16, w19, w22, w23, w24, w27, w28, k14, k15, k23, k27, k28, en_rdO_eq, en_rdI_eq, en_rdN_eq, en_rdL_eq, true_and, and_true, List.getElem?_cons_succ, List.getElem?_cons_zero, en_gv_eq, if_true, if_false, and_self, or_true, true_or, implies_true, List.length_cons, List.length_nil, Nat.reduceLT, Nat.reduceLeDiff, Nat.reduceAdd, Nat.zero_le, Option.toList_some, Option.toList_none, List.cons_append, List.nil_append, nI_1, rd_t, n1_0, n0_1, Bool.false_eq_true, false_implies, reduceCtorEq]
  refine en_use (by decide) K ?_
  simp only [sP_put_0, sP_put_1, sP_put_4, sP_put_5, sP_put_8, en_rdO_eq, en_rdI_eq, en_rdN_eq, en_rdL_eq, true_and, and_true, List.getElem?_cons_succ, List.getElem?_cons_zero, en_gv_eq, if_true, if_false, and_self, or_true, true_or, implies_true, List.length_cons, List.length_nil, Nat.reduceLT, Nat.reduceLeDiff, Nat.reduceAdd, Nat.zero_le, Option.toList_some, Option.toList_none, List.cons_append, List.nil_append, nI_1, rd_t, n1_0, n0_1, Bool.false_eq_true, false_implies, reduceCtorEq, en_q]
theorem cP_need {w : Int32} (H : CS c x ci N r S) : pOut mP_need [.ref 0, .int w] c x u N (sp_need w S).1 (sp_need w S).2 := by
  obtain ⟨c', x', u', ci', N', r', K, Hc, hS, hf, hg⟩ := cT_addNeed (u := u) (ww := w) H
  refine pOut_c ?_ Hc hS hf hg
  obtain ⟨o0, o1, o4, o5, o8, o11, o16, o19, o22, o24⟩ := cs_o H.1
  obtain ⟨w0, w1, w4, w5, w8, w11, w14, w15, w16, w19, w22, w23, w24, w27, w28⟩ := cs_b H.1.1
  obtain ⟨k14, k15, k23, k27, k28⟩ := H.1.2.2.2.1
  refine en_call_is (by decide) (Nat.le_of_ble_eq_true rfl) cat_2 ?_
  show en_W (en_call 6) mP_need 0 [some (.ref 0), some (.int w)] [] c x u _
  simp only [sP_need_0, sP_need_1, sP_need_4, sP_need_5, sP_need_8, o0, o1, o4, o5, o8, o11, o16, o19, o22, o24, w0, w1, w4, w5, w8, w11, w14, w15, w16, w19, w22, w23, w24, w27, w28, k14, k15, k23, k27, k28, en_rdO_eq, en_rdI_eq, en_rdN_eq, en_rdL_eq, true_and, and_true, List.getElem?_cons_succ, List.getElem?_cons_zero, en_gv_eq, if_true, if_false, and_self, or_true, true_or, implies_true, List.length_cons, List.length_nil, Nat.reduceLT, Nat.reduceLeDiff, Nat.reduceAdd, Nat.zero_le, Option.toList_some, Option.toList_none, List.cons_append, List.nil_append, nI_1, rd_t, n1_0, n0_1, Bool.false_eq_true, false_implies, reduceCtorEq]
  refine en_use (by decide) K ?_
  simp only [sP_need_0, sP_need_1, sP_need_4, sP_need_5, sP_need_8, en_rdO_eq, en_rdI_eq, en_rdN_eq, en_rdL_eq, true_and, and_true, List.getElem?_cons_succ, List.getElem?_cons_zero, en_gv_eq, if_true, if_false, and_self, or_true, true_or, implies_true, List.length_cons, List.length_nil, Nat.reduceLT, Nat.reduceLeDiff, Nat.reduceAdd, Nat.zero_le, Option.toList_some, Option.toList_none, List.cons_append, List.nil_append, nI_1, rd_t, n1_0, n0_1, Bool.false_eq_true, false_implies, reduceCtorEq, en_q]
theorem cP_pair {v w : Int32} (H : CS c x ci N r S) : pOut mP_pair [.ref 0, .int v, .int w] c x u N (sp_pair v w S).1 (sp_pair v w S).2 := by
  obtain ⟨c', x', u', ci', N', r', K, Hc, hS, hf, hg⟩ := cT_addPair (u := u) (ss := v) (tt := w) H
  refine pOut_c ?_ Hc hS hf hg
  obtain ⟨o0, o1, o4, o5, o8, o11, o16, o19, o22, o24⟩ := cs_o H.1
  obtain ⟨w0, w1, w4, w5, w8, w11, w14, w15, w16, w19, w22, w23, w24, w27, w28⟩ := cs_b H.1.1
  obtain ⟨k14, k15, k23, k27, k28⟩ := H.1.2.2.2.1
  refine en_call_is (by decide) (Nat.le_of_ble_eq_true rfl) cat_3 ?_
  show en_W (en_call 6) mP_pair 0 [some (.ref 0), some (.int v), some (.int w)] [] c x u _
  simp only [sP_pair_0, sP_pair_1, sP_pair_4, sP_pair_5, sP_pair_6, sP_pair_9, o0, o1, o4, o5, o8, o11, o16, o19, o22, o24, w0, w1, w4, w5, w8, w11, w14, w15, w16, w19, w22, w23, w24, w27, w28, k14, k15, k23, k27, k28, en_rdO_eq, en_rdI_eq, en_rdN_eq, en_rdL_eq, true_and, and_true, List.getElem?_cons_succ, List.getElem?_cons_zero, en_gv_eq, if_true, if_false, and_self, or_true, true_or, implies_true, List.length_cons, List.length_nil, Nat.reduceLT, Nat.reduceLeDiff, Nat.reduceAdd, Nat.zero_le, Option.toList_some, Option.toList_none, List.cons_append, List.nil_append, nI_1, rd_t, n1_0, n0_1, Bool.false_eq_true, false_implies, reduceCtorEq]
  refine en_use (by decide) K ?_
  simp only [sP_pair_0, sP_pair_1, sP_pair_4, sP_pair_5, sP_pair_6, sP_pair_9, en_rdO_eq, en_rdI_eq, en_rdN_eq, en_rdL_eq, true_and, and_true, List.getElem?_cons_succ, List.getElem?_cons_zero, en_gv_eq, if_true, if_false, and_self, or_true, true_or, implies_true, List.length_cons, List.length_nil, Nat.reduceLT, Nat.reduceLeDiff, Nat.reduceAdd, Nat.zero_le, Option.toList_some, Option.toList_none, List.cons_append, List.nil_append, nI_1, rd_t, n1_0, n0_1, Bool.false_eq_true, false_implies, reduceCtorEq, en_q]
theorem cP_begin {w : Int32} (H : CS c x ci N r S) : pOut mP_begin [.ref 0, .int w] c x u N (sp_begin w S).1 (sp_begin w S).2 := by
  obtain ⟨c', r', K, Hc, hS, hf⟩ := cT_start (u := u) (ww := w) H
  refine pOut_c ?_ Hc hS hf cg_rf
  obtain ⟨o0, o1, o4, o5, o8, o11, o16, o19, o22, o24⟩ := cs_o H.1
  obtain ⟨w0, w1, w4, w5, w8, w11, w14, w15, w16, w19, w22, w23, w24, w27, w28⟩ := cs_b H.1.1
  obtain ⟨k14, k15, k23, k27, k28⟩ := H.1.2.2.2.1
  refine en_call_is (by decide) (Nat.le_of_ble_eq_true rfl) cat_2 ?_
  show en_W (en_call 6) mP_begin 0 [some (.ref 0), some (.int w)] [] c x u _
  simp only [sP_begin_0, sP_begin_1, sP_begin_4, sP_begin_5, sP_begin_8, o0, o1, o4, o5, o8, o11, o16, o19, o22, o24, w0, w1, w4, w5, w8, w11, w14, w15, w16, w19, w22, w23, w24, w27, w28, k14, k15, k23, k27, k28, en_rdO_eq, en_rdI_eq, en_rdN_eq, en_rdL_eq, true_and, and_true, List.getElem?_cons_succ, List.getElem?_cons_zero, en_gv_eq, if_true, if_false, and_self, or_true, true_or, implies_true, List.length_cons, List.length_nil, Nat.reduceLT, Nat.reduceLeDiff, Nat.reduceAdd, Nat.zero_le, Option.toList_some, Option.toList_none, List.cons_append, List.nil_append, nI_1, rd_t, n1_0, n0_1, Bool.false_eq_true, false_implies, reduceCtorEq]
  refine en_use (by decide) K ?_
  simp only [sP_begin_0, sP_begin_1, sP_begin_4, sP_begin_5, sP_begin_8, en_rdO_eq, en_rdI_eq, en_rdN_eq, en_rdL_eq, true_and, and_true, List.getElem?_cons_succ, List.getElem?_cons_zero, en_gv_eq, if_true, if_false, and_self, or_true, true_or, implies_true, List.length_cons, List.length_nil, Nat.reduceLT, Nat.reduceLeDiff, Nat.reduceAdd, Nat.zero_le, Option.toList_some, Option.toList_none, List.cons_append, List.nil_append, nI_1, rd_t, n1_0, n0_1, Bool.false_eq_true, false_implies, reduceCtorEq, en_q]
theorem cl_01 (S : sp_S) : (sp_close S).1 = 0 ∨ (sp_close S).1 = 1 := by
  unfold sp_close
  by_cases h : S.2.2.1 = true ∧ sp_fine S = true
  · rw [if_pos h]; exact Or.inr rfl
  · rw [if_neg h]; exact Or.inl rfl
theorem cP_close (H : CS c x ci N r S) : pOut mP_close [.ref 0] c x u N (sp_close S).1 (sp_close S).2 := by
  obtain ⟨c', r', K, Hc, hS, hf⟩ := cT_finish (u := u) H
  refine pOut_c ?_ Hc hS hf cg_rf
  obtain ⟨o0, o1, o4, o5, o8, o11, o16, o19, o22, o24⟩ := cs_o H.1
  obtain ⟨w0, w1, w4, w5, w8, w11, w14, w15, w16, w19, w22, w23, w24, w27, w28⟩ := cs_b H.1.1
  obtain ⟨k14, k15, k23, k27, k28⟩ := H.1.2.2.2.1
  refine en_call_is (by decide) (Nat.le_of_ble_eq_true rfl) cat_1 ?_
  show en_W (en_call 6) mP_close 0 [some (.ref 0)] [] c x u _
  simp only [sP_close_0, sP_close_1, sP_close_4, sP_close_7, sP_close_10, sP_close_11, sP_close_14, sP_close_15, o0, o1, o4, o5, o8, o11, o16, o19, o22, o24, w0, w1, w4, w5, w8, w11, w14, w15, w16, w19, w22, w23, w24, w27, w28, k14, k15, k23, k27, k28, en_rdO_eq, en_rdI_eq, en_rdN_eq, en_rdL_eq, true_and, and_true, List.getElem?_cons_succ, List.getElem?_cons_zero, en_gv_eq, if_true, if_false, and_self, or_true, true_or, implies_true, List.length_cons, List.length_nil, Nat.reduceLT, Nat.reduceLeDiff, Nat.reduceAdd, Nat.zero_le, Option.toList_some, Option.toList_none, List.cons_append, List.nil_append, nI_1, rd_t, n1_0, n0_1, Bool.false_eq_true, false_implies, reduceCtorEq]
  refine en_use (by decide) K ?_
  rcases cl_01 S with e | e
  · simp only [sP_close_0, sP_close_1, sP_close_4, sP_close_7, sP_close_10, sP_close_11, sP_close_14, sP_close_15, e, en_rdO_eq, en_rdI_eq, en_rdN_eq, en_rdL_eq, true_and, and_true, List.getElem?_cons_succ, List.getElem?_cons_zero, en_gv_eq, if_true, if_false, and_self, or_true, true_or, implies_true, List.length_cons, List.length_nil, Nat.reduceLT, Nat.reduceLeDiff, Nat.reduceAdd, Nat.zero_le, Option.toList_some, Option.toList_none, List.cons_append, List.nil_append, nI_1, rd_t, n1_0, n0_1, Bool.false_eq_true, false_implies, reduceCtorEq, en_q]
  · simp only [sP_close_0, sP_close_1, sP_close_4, sP_close_7, sP_close_10, sP_close_11, sP_close_14, sP_close_15, e, en_rdO_eq, en_rdI_eq, en_rdN_eq, en_rdL_eq, true_and, and_true, List.getElem?_cons_succ, List.getElem?_cons_zero, en_gv_eq, if_true, if_false, and_self, or_true, true_or, implies_true, List.length_cons, List.length_nil, Nat.reduceLT, Nat.reduceLeDiff, Nat.reduceAdd, Nat.zero_le, Option.toList_some, Option.toList_none, List.cons_append, List.nil_append, nI_1, rd_t, n1_0, n0_1, Bool.false_eq_true, false_implies, reduceCtorEq, en_q]
theorem cP_apart {v w : Int32} (H : CS c x ci N r S) : pOut mP_apart [.ref 0, .int v, .int w] c x u N (sp_apart v w S).1 (sp_apart v w S).2 := by
  obtain ⟨c', K, Hy, hf⟩ := cY_part (u := u) (ss := v) (tt := w) (cs_sy H) H.2.2.2.2.2.2.2.1
  have H0 := H
  obtain ⟨o0, o1, o4, o5, o8, o11, o16, o19, o22, o24⟩ := cs_o H.1
  obtain ⟨w0, w1, w4, w5, w8, w11, w14, w15, w16, w19, w22, w23, w24, w27, w28⟩ := cs_b H.1.1
  obtain ⟨k14, k15, k23, k27, k28⟩ := H.1.2.2.2.1
  have hb : (decide (v ≠ w) && sy_var S.1 v && sy_var S.1 w && !S.2.2.2.1 v.toNatClampNeg w.toNatClampNeg) = decide (v ≠ w ∧ sp_isv S v = true ∧ sp_isv S w = true ∧ S.2.2.2.1 v.toNatClampNeg w.toNatClampNeg = false) := by
    rw [sy_isv, sy_isv]
    by_cases e : v = w <;> cases sy_var S.1 v <;> cases sy_var S.1 w <;> cases S.2.2.2.1 v.toNatClampNeg w.toNatClampNeg <;> simp [e]
  rw [hb] at K Hy
  obtain ⟨g1, g2, ⟨g3, g4, g5⟩, ⟨g6, g7, g8, g9, g10⟩, -⟩ := H.1
  have hk : ∀ a, a ≠ 3 → c' a = c a := hf
  have Hc := cr_cells (c' := c') (r' := (r.1, (r.2.1.1, (sp_apart v w S).2.2.2.2.1), r.2.2)) H0.1 rfl (fun a ha => hk a (by omega)) H0.1.2.2.2.2.2.2.2 (by
    show sy_at c' x 1 2 3 (r_vs r) _
    rw [H0.2.1.2.1.1]
    unfold sp_apart
    by_cases hq : v ≠ w ∧ sp_isv S v = true ∧ sp_isv S w = true ∧ S.2.2.2.1 v.toNatClampNeg w.toNatClampNeg = false
    · rw [if_pos hq]
      rw [if_pos (decide_eq_true hq)] at Hy
      exact Hy
    · rw [if_neg hq]
      rw [if_neg (by simpa using hq)] at Hy
      exact Hy) (hk 0 (by omega)) ((hk 4 (by omega)).trans g4) ((hk 22 (by omega)).trans g5) ((hk 14 (by omega)).trans g6) ((hk 15 (by omega)).trans g7) ((hk 23 (by omega)).trans g8) ((hk 27 (by omega)).trans g9) ((hk 28 (by omega)).trans g10)
  have hv : bi (decide (v ≠ w ∧ sp_isv S v = true ∧ sp_isv S w = true ∧ S.2.2.2.1 v.toNatClampNeg w.toNatClampNeg = false)) = (sp_apart v w S).1 := by
    unfold sp_apart
    by_cases hq : v ≠ w ∧ sp_isv S v = true ∧ sp_isv S w = true ∧ S.2.2.2.1 v.toNatClampNeg w.toNatClampNeg = false
    · rw [if_pos hq, decide_eq_true hq]; rfl
    · rw [if_neg hq, decide_eq_false hq]; rfl
  have h01 : (sp_apart v w S).1 = 0 ∨ (sp_apart v w S).1 = 1 := by
    rw [← hv]
    exact (bi_01 _).mpr trivial
  rw [hv] at K
  refine pOut_c ?_ Hc.1 ?_ Hc.2 cg_rf
  · refine en_call_is (by decide) (Nat.le_of_ble_eq_true rfl) cat_3 ?_
    show en_W (en_call 6) mP_apart 0 [some (.ref 0), some (.int v), some (.int w)] [] c x u _
    simp only [sP_apart_0, sP_apart_1, sP_apart_4, sP_apart_5, sP_apart_6, sP_apart_9, sP_apart_12, sP_apart_13, sP_apart_16, sP_apart_17, o0, o1, o4, o5, o8, o11, o16, o19, o22, o24, w0, w1, w4, w5, w8, w11, w14, w15, w16, w19, w22, w23, w24, w27, w28, k14, k15, k23, k27, k28, en_rdO_eq, en_rdI_eq, en_rdN_eq, en_rdL_eq, true_and, and_true, List.getElem?_cons_succ, List.getElem?_cons_zero, en_gv_eq, if_true, if_false, and_self, or_true, true_or, implies_true, List.length_cons, List.length_nil, Nat.reduceLT, Nat.reduceLeDiff, Nat.reduceAdd, Nat.zero_le, Option.toList_some, Option.toList_none, List.cons_append, List.nil_append, nI_1, rd_t, n1_0, n0_1, Bool.false_eq_true, false_implies, reduceCtorEq]
    refine en_use (by decide) K ?_
    rcases h01 with e | e
    · simp only [sP_apart_0, sP_apart_1, sP_apart_4, sP_apart_5, sP_apart_6, sP_apart_9, sP_apart_12, sP_apart_13, sP_apart_16, sP_apart_17, e, en_rdO_eq, en_rdI_eq, en_rdN_eq, en_rdL_eq, true_and, and_true, List.getElem?_cons_succ, List.getElem?_cons_zero, en_gv_eq, if_true, if_false, and_self, or_true, true_or, implies_true, List.length_cons, List.length_nil, Nat.reduceLT, Nat.reduceLeDiff, Nat.reduceAdd, Nat.zero_le, Option.toList_some, Option.toList_none, List.cons_append, List.nil_append, nI_1, rd_t, n1_0, n0_1, Bool.false_eq_true, false_implies, reduceCtorEq, en_q]
    · simp only [sP_apart_0, sP_apart_1, sP_apart_4, sP_apart_5, sP_apart_6, sP_apart_9, sP_apart_12, sP_apart_13, sP_apart_16, sP_apart_17, e, en_rdO_eq, en_rdI_eq, en_rdN_eq, en_rdL_eq, true_and, and_true, List.getElem?_cons_succ, List.getElem?_cons_zero, en_gv_eq, if_true, if_false, and_self, or_true, true_or, implies_true, List.length_cons, List.length_nil, Nat.reduceLT, Nat.reduceLeDiff, Nat.reduceAdd, Nat.zero_le, Option.toList_some, Option.toList_none, List.cons_append, List.nil_append, nI_1, rd_t, n1_0, n0_1, Bool.false_eq_true, false_implies, reduceCtorEq, en_q]
  · obtain ⟨a1, ⟨b1, b2⟩, d1, d2, d3, d4, d5⟩ := H0.2.1
    have e : sp_apart v w S = ((sp_apart v w S).1, (S.1, S.2.1, S.2.2.1, (sp_apart v w S).2.2.2.2.1, S.2.2.2.2)) := by
      unfold sp_apart
      by_cases hq : v ≠ w ∧ sp_isv S v = true ∧ sp_isv S w = true ∧ S.2.2.2.1 v.toNatClampNeg w.toNatClampNeg = false
      · rw [if_pos hq]
      · rw [if_neg hq]
    generalize (sp_apart v w S).2.2.2.2.1 = AP at *
    rw [e]
    exact ⟨a1, ⟨b1, rfl⟩, d1, d2, d3, d4, d5⟩
theorem fl_lt2 (hw : sp_wf S) {i : Nat} (hi : i < S.2.1.length) {v : Nat} (h : sp_fl S (sp_nd S i) v = true) (ho : S.2.2.1 = true → i ≤ sp_la S) : v < S.1.length := by
  unfold sp_fl at h
  rw [List.any_eq_true] at h
  obtain ⟨q, hq, hb⟩ := h
  rw [Bool.and_eq_true] at hb
  have hql := nd_mem hw hi q hq
  have hk : sp_kd S q = 0 := by simpa using hb.1
  have hv : (sp_tx S q).getD 1 0 = v := by simpa using hb.2
  have hlen := (hw.2.2.2.2.1 q (by omega) (fun z => by have := ho z.1; omega)).2.1 hk
  rw [← hv]
  refine (hw.2.2.2.1 q (by omega)).2.2.2.2.1 _ ?_
  rw [List.getD_eq_getElem?_getD, List.getElem?_eq_getElem (by omega)]
  exact List.getElem_mem _
theorem cP_symbol {w : Int32} (H : CS c x ci N r S) : pOut mP_symbol [.ref 0, .int w] c x u N (sp_symbol w S).1 (sp_symbol w S).2 := by
  have H0 := H
  obtain ⟨o0, o1, o4, o5, o8, o11, o16, o19, o22, o24⟩ := cs_o H.1
  obtain ⟨w0, w1, w4, w5, w8, w11, w14, w15, w16, w19, w22, w23, w24, w27, w28⟩ := cs_b H.1.1
  obtain ⟨k14, k15, k23, k27, k28⟩ := H.1.2.2.2.1
  by_cases hq : (w = 0 ∨ w = 1) ∧ S.1.length < 1000
  · obtain ⟨c', K, Hy, hf⟩ := cY_add (u := u) (w := w) (cs_sy H0) hq.1 hq.2
    have hS : sp_symbol w S = (nI S.1.length, (S.1 ++ [decide (w = 0)], S.2)) := if_pos hq
    rw [hS]
    obtain ⟨g1, g2, ⟨g3, g4, g5⟩, ⟨g6, g7, g8, g9, g10⟩, -⟩ := H0.1
    have hk : ∀ a, a ≠ 1 → a ≠ 2 → c' a = c a := hf
    have Hc := cr_cells (c' := c') (r' := (r.1, (S.1 ++ [decide (w = 0)], r.2.1.2), r.2.2)) H0.1 rfl (fun a ha => hk a (by omega) (by omega)) H0.1.2.2.2.2.2.2.2 (by
      show sy_at c' x 1 2 3 _ (r_ap r)
      rw [H0.2.1.2.1.2]
      exact Hy) (hk 0 (by omega) (by omega)) ((hk 4 (by omega) (by omega)).trans g4) ((hk 22 (by omega) (by omega)).trans g5) ((hk 14 (by omega) (by omega)).trans g6) ((hk 15 (by omega) (by omega)).trans g7) ((hk 23 (by omega) (by omega)).trans g8) ((hk 27 (by omega) (by omega)).trans g9) ((hk 28 (by omega) (by omega)).trans g10)
    refine pOut_c ?_ Hc.1 ?_ Hc.2 cg_rf
    · refine en_call_is (by decide) (Nat.le_of_ble_eq_true rfl) cat_2 ?_
      show en_W (en_call 6) mP_symbol 0 [some (.ref 0), some (.int w)] [] c x u _
      simp only [sP_symbol_0, sP_symbol_1, sP_symbol_4, sP_symbol_5, sP_symbol_8, o0, o1, o4, o5, o8, o11, o16, o19, o22, o24, w0, w1, w4, w5, w8, w11, w14, w15, w16, w19, w22, w23, w24, w27, w28, k14, k15, k23, k27, k28, en_rdO_eq, en_rdI_eq, en_rdN_eq, en_rdL_eq, true_and, and_true, List.getElem?_cons_succ, List.getElem?_cons_zero, en_gv_eq, if_true, if_false, and_self, or_true, true_or, implies_true, List.length_cons, List.length_nil, Nat.reduceLT, Nat.reduceLeDiff, Nat.reduceAdd, Nat.zero_le, Option.toList_some, Option.toList_none, List.cons_append, List.nil_append, nI_1, rd_t, n1_0, n0_1, Bool.false_eq_true, false_implies, reduceCtorEq]
      refine en_use (by decide) K ?_
      simp only [sP_symbol_0, sP_symbol_1, sP_symbol_4, sP_symbol_5, sP_symbol_8, en_rdO_eq, en_rdI_eq, en_rdN_eq, en_rdL_eq, true_and, and_true, List.getElem?_cons_succ, List.getElem?_cons_zero, en_gv_eq, if_true, if_false, and_self, or_true, true_or, implies_true, List.length_cons, List.length_nil, Nat.reduceLT, Nat.reduceLeDiff, Nat.reduceAdd, Nat.zero_le, Option.toList_some, Option.toList_none, List.cons_append, List.nil_append, nI_1, rd_t, n1_0, n0_1, Bool.false_eq_true, false_implies, reduceCtorEq, en_q]
    · obtain ⟨a1, ⟨b1, b2⟩, d1, d2, d3, d4, d5⟩ := H0.2.1
      refine ⟨a1, ⟨rfl, b2⟩, d1, d2, fun ho v hv hvv => ?_, fun v hv => ?_, d5⟩
      · have hv : v < (S.1 ++ [decide (w = 0)]).length := hv
        have hvv : (S.1 ++ [decide (w = 0)]).getD v false = true := hvv
        rw [List.length_append] at hv
        show r_ff r v = nI (sp_la S) ↔ sp_fl S (sp_nd S (sp_la S)) v = true
        by_cases e : v < S.1.length
        · rw [List.getD_eq_getElem?_getD, List.getElem?_append_left e, ← List.getD_eq_getElem?_getD] at hvv
          exact d3 ho v e hvv
        · obtain ⟨h1, h2, h3⟩ := cs_la H0 ho
          constructor
          · intro z
            rcases d4 v (by simp at hv; omega) with q | ⟨k, ⟨-, q⟩, -⟩
            · rw [z] at q
              exact absurd q (by rw [nI_ne_m1 (show sp_la S < 2 ^ 31 by omega)]; exact fun z => z)
            · exact absurd q e
          · intro z
            exact absurd (fl_lt2 H0.2.2 h1 z (fun _ => Nat.le_refl _)) e
      · rcases d4 v hv with q | ⟨k, ⟨q1, q2⟩, q3⟩
        · exact Or.inl q
        · refine Or.inr ⟨k, ⟨q1, ?_⟩, q3⟩
          show v < (S.1 ++ [decide (w = 0)]).length
          rw [List.length_append]
          omega
  · have K := cY_add_no (u := u) (w := w) (cs_sy H0) hq
    have hS : sp_symbol w S = (-1, S) := if_neg hq
    rw [hS]
    refine pOut_s H0 ?_
    refine en_call_is (by decide) (Nat.le_of_ble_eq_true rfl) cat_2 ?_
    show en_W (en_call 6) mP_symbol 0 [some (.ref 0), some (.int w)] [] c x u _
    simp only [sP_symbol_0, sP_symbol_1, sP_symbol_4, sP_symbol_5, sP_symbol_8, o0, o1, o4, o5, o8, o11, o16, o19, o22, o24, w0, w1, w4, w5, w8, w11, w14, w15, w16, w19, w22, w23, w24, w27, w28, k14, k15, k23, k27, k28, en_rdO_eq, en_rdI_eq, en_rdN_eq, en_rdL_eq, true_and, and_true, List.getElem?_cons_succ, List.getElem?_cons_zero, en_gv_eq, if_true, if_false, and_self, or_true, true_or, implies_true, List.length_cons, List.length_nil, Nat.reduceLT, Nat.reduceLeDiff, Nat.reduceAdd, Nat.zero_le, Option.toList_some, Option.toList_none, List.cons_append, List.nil_append, nI_1, rd_t, n1_0, n0_1, Bool.false_eq_true, false_implies, reduceCtorEq]
    refine en_use (by decide) K ?_
    simp only [sP_symbol_0, sP_symbol_1, sP_symbol_4, sP_symbol_5, sP_symbol_8, en_rdO_eq, en_rdI_eq, en_rdN_eq, en_rdL_eq, true_and, and_true, List.getElem?_cons_succ, List.getElem?_cons_zero, en_gv_eq, if_true, if_false, and_self, or_true, true_or, implies_true, List.length_cons, List.length_nil, Nat.reduceLT, Nat.reduceLeDiff, Nat.reduceAdd, Nat.zero_le, Option.toList_some, Option.toList_none, List.cons_append, List.nil_append, nI_1, rd_t, n1_0, n0_1, Bool.false_eq_true, false_implies, reduceCtorEq, en_q]
end PC
