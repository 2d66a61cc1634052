/-! StepPile$Symbols: pairs that are apart, new symbols, the constructor -/
theorem cat_ii {a b : Int32} : ∀ v ∈ ([.int a, .int b] : List Value), v.category = 1 := by intro v hv; simp at hv; rcases hv with rfl | rfl <;> rfl
theorem lg_cmp0 (a : Int64) : (lg_cmp a 0 = 0) = (a = 0) := by
  apply propext
  unfold lg_cmp
  constructor
  · intro h
    by_cases h1 : a > 0
    · rw [if_pos h1] at h; exact absurd h (by decide)
    · rw [if_neg h1] at h
      by_cases h2 : a = 0
      · exact h2
      · rw [if_neg h2] at h; exact absurd h (by decide)
  · intro h
    subst h
    decide
theorem lb_get {w : Int64} {k : Nat} (hk : k < 64) : (((w.toUInt64 >>> ((nI k).toInt64.toUInt64 &&& Int64.toUInt64 63)).toInt64 &&& 1) = 0) = (w.toBitVec.getLsbD k = false) := by
  rw [wb_cu k hk]
  refine propext (ts_bit hk ?_)
  show (BitVec.ofNat 64 k).toNat = k
  rw [BitVec.toNat_ofNat, Nat.mod_eq_of_lt (by omega)]
theorem lb_set {w : Int64} {k j : Nat} (hk : k < 64) (hj : j < 64) : (w ||| ((1 : Int64) <<< ((nI k).toInt64 &&& 63))).toBitVec.getLsbD j = (w.toBitVec.getLsbD j || decide (j = k)) := by
  have e : (1 : Int64) <<< ((nI k).toInt64 &&& 63) = lN (1 * 2 ^ k) := wb_shl 1 hk
  rw [e, Int64.toBitVec_or, BitVec.getLsbD_or, wb_tb, Nat.one_mul, BitVec.getLsbD_ofNat, Nat.testBit_two_pow]
  simp [hj, eq_comm]
section YD
variable {c : en_H} {x u y v p : Nat} {vs : List Bool} {ap : Nat → Nat → Bool}
theorem cY_bitOf {s t : Nat} {ss tt : Int32} (hss : ss = nI s) (htt : tt = nI t) (hs : s < 1000) (ht : t < 1000) (hne : s ≠ t) : en_call 1 mY_bitOf [.int ss, .int tt] c x u (some (.int (nI (sy_b s t)))) c x u := by
  subst hss htt
  have e1 : (if nI t < nI s then nI t else nI s) = nI (min s t) := by
    by_cases h : t < s
    · rw [if_pos (nI_lt h (by omega))]; congr 1; omega
    · rw [if_neg (nI_nlt (by omega) (by omega))]; congr 1; omega
  have e2 : (if nI s < nI t then nI t else nI s) = nI (max s t) := by
    by_cases h : s < t
    · rw [if_pos (nI_lt h (by omega))]; congr 1; omega
    · rw [if_neg (nI_nlt (by omega) (by omega))]; congr 1; omega
  have e3 : nI (max s t) - 1 = nI (max s t - 1) := pk_sub (a := max s t) (b := 1) (by omega)
  have e4 : max s t * (max s t - 1) ≤ 999 * 998 := Nat.mul_le_mul (by omega) (by omega)
  have e5 : nI (max s t * (max s t - 1)) / 2 = nI (max s t * (max s t - 1) / 2) := pk_div (d := 2) (by omega) (by omega) (by omega)
  refine en_call_is (by decide) (Nat.le_of_ble_eq_true rfl) cat_ii ?_
  show en_W (en_call 0) mY_bitOf 0 [some (.int (nI s)), some (.int (nI t)), none, none] [] c x u _
  simp only [sY_bitOf_0, sY_bitOf_1, sY_bitOf_2, sY_bitOf_5, sY_bitOf_6, sY_bitOf_7, sY_bitOf_8, sY_bitOf_11, sY_bitOf_12, sY_bitOf_13, sY_bitOf_14, sY_bitOf_15, sY_bitOf_16, sY_bitOf_17, sY_bitOf_18, sY_bitOf_19, sY_bitOf_20, sY_bitOf_21, e1, e2, e3, pk_mul, e5, nI_add, en_rdO_eq, en_rdI_eq, en_rdN_eq, en_rdL_eq, true_and, and_true, List.getElem?_cons_succ, List.getElem?_cons_zero, en_gv_eq, if_true, if_false, and_self, or_true, true_or, implies_true, List.length_cons, List.length_nil, Nat.reduceLT, Nat.reduceLeDiff, Nat.reduceAdd, Nat.zero_le, Option.toList_some, Option.toList_none, List.cons_append, List.nil_append, nI_1, rd_t, n1_0, n0_1, Bool.false_eq_true, false_implies, reduceCtorEq, en_q]
  rfl
def sy_par (vs : List Bool) (ap : Nat → Nat → Bool) (ss tt : Int32) : Bool := decide (ss ≠ tt) && sy_var vs ss && sy_var vs tt && ap ss.toNatClampNeg tt.toNatClampNeg
theorem sy_two_in {ss tt : Int32} (hvs : vs.length ≤ 1000) (h : (decide (ss ≠ tt) && sy_var vs ss && sy_var vs tt) = true) : ∃ s t, ss = nI s ∧ tt = nI t ∧ s < vs.length ∧ t < vs.length ∧ s ≠ t ∧ vs.getD s false = true ∧ vs.getD t false = true := by
  rw [Bool.and_eq_true, Bool.and_eq_true] at h
  obtain ⟨⟨h1, h2⟩, h3⟩ := h
  rcases sy_ix hvs ss with ⟨-, e⟩ | ⟨s, hs, e1, e2⟩
  · rw [e] at h2; cases h2
  · rcases sy_ix hvs tt with ⟨-, e⟩ | ⟨t, ht, e3, e4⟩
    · rw [e] at h3; cases h3
    · refine ⟨s, t, e1, e3, hs, ht, ?_, by rw [← e2]; exact h2, by rw [← e4]; exact h3⟩
      intro e
      subst e
      exact (of_decide_eq_true h1) (e1.trans e3.symm)
theorem cY_parted {ss tt : Int32} (H : sy_at c x y v p vs ap) : en_call 3 mY_areParted [.ref y, .int ss, .int tt] c x u (some (.int (bi (sy_par vs ap ss tt)))) c x u := by
  have K1 := cY_two (u := u) (ss := ss) (tt := tt) H
  obtain ⟨⟨hy, hv, hp⟩, ho, f, L, cv, cp, h1, h2, h3⟩ := H
  refine en_call_is (by decide) (Nat.le_of_ble_eq_true rfl) cat_3 ?_
  show en_W (en_call 2) mY_areParted 0 [some (.ref y), some (.int ss), some (.int tt), none] [] c x u _
  simp only [sY_areParted_0, sY_areParted_1, sY_areParted_2, sY_areParted_3, sY_areParted_6, sY_areParted_9, sY_areParted_10, sY_areParted_11, sY_areParted_12, sY_areParted_13, sY_areParted_16, sY_areParted_17, sY_areParted_18, sY_areParted_21, sY_areParted_22, sY_areParted_24, sY_areParted_25, sY_areParted_26, sY_areParted_27, sY_areParted_29, sY_areParted_30, sY_areParted_31, sY_areParted_32, sY_areParted_33, sY_areParted_34, sY_areParted_35, sY_areParted_38, sY_areParted_39, sY_areParted_42, sY_areParted_43, ho, hy, en_rdO_eq, en_rdI_eq, en_rdN_eq, en_rdL_eq, true_and, and_true, List.getElem?_cons_succ, List.getElem?_cons_zero, en_gv_eq, if_true, if_false, and_self, or_true, true_or, implies_true, List.length_cons, List.length_nil, Nat.reduceLT, Nat.reduceLeDiff, Nat.reduceAdd, Nat.zero_le, Option.toList_some, Option.toList_none, List.cons_append, List.nil_append, nI_1, rd_t, n1_0, n0_1, Bool.false_eq_true, false_implies, reduceCtorEq]
  refine en_use (Nat.le_refl _) K1 ?_
  unfold sy_par
  cases h : (decide (ss ≠ tt) && sy_var vs ss && sy_var vs tt) with
  | false =>
    simp only [sY_areParted_0, sY_areParted_1, sY_areParted_2, sY_areParted_3, sY_areParted_6, sY_areParted_9, sY_areParted_10, sY_areParted_11, sY_areParted_12, sY_areParted_13, sY_areParted_16, sY_areParted_17, sY_areParted_18, sY_areParted_21, sY_areParted_22, sY_areParted_24, sY_areParted_25, sY_areParted_26, sY_areParted_27, sY_areParted_29, sY_areParted_30, sY_areParted_31, sY_areParted_32, sY_areParted_33, sY_areParted_34, sY_areParted_35, sY_areParted_38, sY_areParted_39, sY_areParted_42, sY_areParted_43, bi_f, Bool.false_and, en_rdO_eq, en_rdI_eq, en_rdN_eq, en_rdL_eq, true_and, and_true, List.getElem?_cons_succ, List.getElem?_cons_zero, en_gv_eq, if_true, if_false, and_self, or_true, true_or, implies_true, List.length_cons, List.length_nil, Nat.reduceLT, Nat.reduceLeDiff, Nat.reduceAdd, Nat.zero_le, Option.toList_some, Option.toList_none, List.cons_append, List.nil_append, nI_1, rd_t, n1_0, n0_1, Bool.false_eq_true, false_implies, reduceCtorEq, en_q]
  | true =>
    obtain ⟨s, t, rfl, rfl, hs, ht, hne, -, -⟩ := sy_two_in h1 h
    have K2 := cY_bitOf (c := c) (x := x) (u := u) rfl rfl (show s < 1000 by omega) (show t < 1000 by omega) hne
    have hb := sy_b_lt (show s < 1000 by omega) (show t < 1000 by omega) hne
    have e1 : nI (sy_b s t) / nI 64 = nI (sy_b s t / 64) := pk_div (by omega) (by omega) (by omega)
    have e2 : nI (sy_b s t) - nI (sy_b s t / 64) * nI 64 = nI (sy_b s t % 64) := by
      have := pk_rem (a := sy_b s t) (d := 64) (by omega) (by omega) (by omega)
      rw [e1] at this
      exact this
    have e3 : vp_in (nI (sy_b s t / 64)) 7805 := vp_in_nI (by omega) (by omega)
    have e4 : (nI (sy_b s t / 64)).toNatClampNeg = sy_b s t / 64 := nI_clamp (by omega)
    have e5 := lb_get (w := L (sy_b s t / 64)) (k := sy_b s t % 64) (by omega)
    have e6 : (L (sy_b s t / 64)).toBitVec.getLsbD (sy_b s t % 64) = ap s t := h3 s t hne (by omega) (by omega)
    simp only [sY_areParted_0, sY_areParted_1, sY_areParted_2, sY_areParted_3, sY_areParted_6, sY_areParted_9, sY_areParted_10, sY_areParted_11, sY_areParted_12, sY_areParted_13, sY_areParted_16, sY_areParted_17, sY_areParted_18, sY_areParted_21, sY_areParted_22, sY_areParted_24, sY_areParted_25, sY_areParted_26, sY_areParted_27, sY_areParted_29, sY_areParted_30, sY_areParted_31, sY_areParted_32, sY_areParted_33, sY_areParted_34, sY_areParted_35, sY_areParted_38, sY_areParted_39, sY_areParted_42, sY_areParted_43, bi_t, Bool.true_and, en_rdO_eq, en_rdI_eq, en_rdN_eq, en_rdL_eq, true_and, and_true, List.getElem?_cons_succ, List.getElem?_cons_zero, en_gv_eq, if_true, if_false, and_self, or_true, true_or, implies_true, List.length_cons, List.length_nil, Nat.reduceLT, Nat.reduceLeDiff, Nat.reduceAdd, Nat.zero_le, Option.toList_some, Option.toList_none, List.cons_append, List.nil_append, nI_1, rd_t, n1_0, n0_1, Bool.false_eq_true, false_implies, reduceCtorEq]
    refine en_use (by decide) K2 ?_
    simp only [sY_areParted_0, sY_areParted_1, sY_areParted_2, sY_areParted_3, sY_areParted_6, sY_areParted_9, sY_areParted_10, sY_areParted_11, sY_areParted_12, sY_areParted_13, sY_areParted_16, sY_areParted_17, sY_areParted_18, sY_areParted_21, sY_areParted_22, sY_areParted_24, sY_areParted_25, sY_areParted_26, sY_areParted_27, sY_areParted_29, sY_areParted_30, sY_areParted_31, sY_areParted_32, sY_areParted_33, sY_areParted_34, sY_areParted_35, sY_areParted_38, sY_areParted_39, sY_areParted_42, sY_areParted_43, ho, hy, cp, hp, e1, e2, e3, e4, lg_cmp0, e5, e6, nI_clamp (show s < 2 ^ 31 by omega), nI_clamp (show t < 2 ^ 31 by omega), en_rdO_eq, en_rdI_eq, en_rdN_eq, en_rdL_eq, true_and, and_true, List.getElem?_cons_succ, List.getElem?_cons_zero, en_gv_eq, if_true, if_false, and_self, or_true, true_or, implies_true, List.length_cons, List.length_nil, Nat.reduceLT, Nat.reduceLeDiff, Nat.reduceAdd, Nat.zero_le, Option.toList_some, Option.toList_none, List.cons_append, List.nil_append, nI_1, rd_t, n1_0, n0_1, Bool.false_eq_true, false_implies, reduceCtorEq, en_q]
    cases ap s t <;> simp [bi]
theorem cY_part {ss tt : Int32} (H : sy_at c x y v p vs ap) (hsym : ∀ a b, ap a b = ap b a) : ∃ c', en_call 4 mY_part [.ref y, .int ss, .int tt] c x u (some (.int (bi (decide (ss ≠ tt) && sy_var vs ss && sy_var vs tt && !ap ss.toNatClampNeg tt.toNatClampNeg)))) c' x u ∧
    sy_at c' x y v p vs (if (decide (ss ≠ tt) && sy_var vs ss && sy_var vs tt && !ap ss.toNatClampNeg tt.toNatClampNeg) = true then (fun a b => ap a b || (a == ss.toNatClampNeg && b == tt.toNatClampNeg) || (a == tt.toNatClampNeg && b == ss.toNatClampNeg)) else ap) ∧ ∀ a, a ≠ p → c' a = c a := by
  have K1 := cY_two (u := u) (ss := ss) (tt := tt) H
  have K3 := cY_parted (u := u) (ss := ss) (tt := tt) H
  have H0 := H
  obtain ⟨⟨hy, hv, hp⟩, ho, f, L, cv, cp, h1, h2, h3⟩ := H
  cases h : (decide (ss ≠ tt) && sy_var vs ss && sy_var vs tt) with
  | false =>
    refine ⟨c, ?_, by rw [Bool.false_and]; exact H0, fun _ _ => rfl⟩
    rw [h] at K1
    refine en_call_is (by decide) (Nat.le_of_ble_eq_true rfl) cat_3 ?_
    show en_W (en_call 3) mY_part 0 [some (.ref y), some (.int ss), some (.int tt), none] [] c x u _
    simp only [sY_part_0, sY_part_1, sY_part_2, sY_part_3, sY_part_6, sY_part_9, sY_part_10, sY_part_11, sY_part_12, sY_part_15, sY_part_18, sY_part_19, sY_part_20, sY_part_21, sY_part_22, sY_part_25, sY_part_26, sY_part_27, sY_part_30, sY_part_31, sY_part_33, sY_part_34, sY_part_35, sY_part_36, sY_part_37, sY_part_38, sY_part_40, sY_part_41, sY_part_42, sY_part_43, sY_part_44, sY_part_45, ho, hy, en_rdO_eq, en_rdI_eq, en_rdN_eq, en_rdL_eq, true_and, and_true, List.getElem?_cons_succ, List.getElem?_cons_zero, en_gv_eq, if_true, if_false, and_self, or_true, true_or, implies_true, List.length_cons, List.length_nil, Nat.reduceLT, Nat.reduceLeDiff, Nat.reduceAdd, Nat.zero_le, Option.toList_some, Option.toList_none, List.cons_append, List.nil_append, nI_1, rd_t, n1_0, n0_1, Bool.false_eq_true, false_implies, reduceCtorEq]
    refine en_use (by decide) K1 ?_
    simp only [sY_part_0, sY_part_1, sY_part_2, sY_part_3, sY_part_6, sY_part_9, sY_part_10, sY_part_11, sY_part_12, sY_part_15, sY_part_18, sY_part_19, sY_part_20, sY_part_21, sY_part_22, sY_part_25, sY_part_26, sY_part_27, sY_part_30, sY_part_31, sY_part_33, sY_part_34, sY_part_35, sY_part_36, sY_part_37, sY_part_38, sY_part_40, sY_part_41, sY_part_42, sY_part_43, sY_part_44, sY_part_45, bi_f, Bool.false_and, en_rdO_eq, en_rdI_eq, en_rdN_eq, en_rdL_eq, true_and, and_true, List.getElem?_cons_succ, List.getElem?_cons_zero, en_gv_eq, if_true, if_false, and_self, or_true, true_or, implies_true, List.length_cons, List.length_nil, Nat.reduceLT, Nat.reduceLeDiff, Nat.reduceAdd, Nat.zero_le, Option.toList_some, Option.toList_none, List.cons_append, List.nil_append, nI_1, rd_t, n1_0, n0_1, Bool.false_eq_true, false_implies, reduceCtorEq, en_q]
  | true =>
    unfold sy_par at K3
    rw [h] at K1 K3
    obtain ⟨s, t, rfl, rfl, hs, ht, hne, -, -⟩ := sy_two_in h1 h
    have q1 : (nI s).toNatClampNeg = s := nI_clamp (by omega)
    have q2 : (nI t).toNatClampNeg = t := nI_clamp (by omega)
    rw [q1, q2] at K3 ⊢
    rw [Bool.true_and] at K3 ⊢
    have K2 := cY_bitOf (c := c) (x := x) (u := u) rfl rfl (show s < 1000 by omega) (show t < 1000 by omega) hne
    have hb := sy_b_lt (show s < 1000 by omega) (show t < 1000 by omega) hne
    have e1 : nI (sy_b s t) / nI 64 = nI (sy_b s t / 64) := pk_div (by omega) (by omega) (by omega)
    have e2 : nI (sy_b s t) - nI (sy_b s t / 64) * nI 64 = nI (sy_b s t % 64) := by
      have := pk_rem (a := sy_b s t) (d := 64) (by omega) (by omega) (by omega)
      rw [e1] at this
      exact this
    have e3 : vp_in (nI (sy_b s t / 64)) 7805 := vp_in_nI (by omega) (by omega)
    have e4 : (nI (sy_b s t / 64)).toNatClampNeg = sy_b s t / 64 := nI_clamp (by omega)
    cases hap : ap s t with
    | true =>
      refine ⟨c, ?_, by simpa using H0, fun _ _ => rfl⟩
      rw [hap] at K3
      refine en_call_is (by decide) (Nat.le_of_ble_eq_true rfl) cat_3 ?_
      show en_W (en_call 3) mY_part 0 [some (.ref y), some (.int (nI s)), some (.int (nI t)), none] [] c x u _
      simp only [sY_part_0, sY_part_1, sY_part_2, sY_part_3, sY_part_6, sY_part_9, sY_part_10, sY_part_11, sY_part_12, sY_part_15, sY_part_18, sY_part_19, sY_part_20, sY_part_21, sY_part_22, sY_part_25, sY_part_26, sY_part_27, sY_part_30, sY_part_31, sY_part_33, sY_part_34, sY_part_35, sY_part_36, sY_part_37, sY_part_38, sY_part_40, sY_part_41, sY_part_42, sY_part_43, sY_part_44, sY_part_45, ho, hy, en_rdO_eq, en_rdI_eq, en_rdN_eq, en_rdL_eq, true_and, and_true, List.getElem?_cons_succ, List.getElem?_cons_zero, en_gv_eq, if_true, if_false, and_self, or_true, true_or, implies_true, List.length_cons, List.length_nil, Nat.reduceLT, Nat.reduceLeDiff, Nat.reduceAdd, Nat.zero_le, Option.toList_some, Option.toList_none, List.cons_append, List.nil_append, nI_1, rd_t, n1_0, n0_1, Bool.false_eq_true, false_implies, reduceCtorEq]
      refine en_use (by decide) K1 ?_
      simp only [sY_part_0, sY_part_1, sY_part_2, sY_part_3, sY_part_6, sY_part_9, sY_part_10, sY_part_11, sY_part_12, sY_part_15, sY_part_18, sY_part_19, sY_part_20, sY_part_21, sY_part_22, sY_part_25, sY_part_26, sY_part_27, sY_part_30, sY_part_31, sY_part_33, sY_part_34, sY_part_35, sY_part_36, sY_part_37, sY_part_38, sY_part_40, sY_part_41, sY_part_42, sY_part_43, sY_part_44, sY_part_45, bi_t, ho, hy, en_rdO_eq, en_rdI_eq, en_rdN_eq, en_rdL_eq, true_and, and_true, List.getElem?_cons_succ, List.getElem?_cons_zero, en_gv_eq, if_true, if_false, and_self, or_true, true_or, implies_true, List.length_cons, List.length_nil, Nat.reduceLT, Nat.reduceLeDiff, Nat.reduceAdd, Nat.zero_le, Option.toList_some, Option.toList_none, List.cons_append, List.nil_append, nI_1, rd_t, n1_0, n0_1, Bool.false_eq_true, false_implies, reduceCtorEq]
      refine en_use (by decide) K3 ?_
      simp only [sY_part_0, sY_part_1, sY_part_2, sY_part_3, sY_part_6, sY_part_9, sY_part_10, sY_part_11, sY_part_12, sY_part_15, sY_part_18, sY_part_19, sY_part_20, sY_part_21, sY_part_22, sY_part_25, sY_part_26, sY_part_27, sY_part_30, sY_part_31, sY_part_33, sY_part_34, sY_part_35, sY_part_36, sY_part_37, sY_part_38, sY_part_40, sY_part_41, sY_part_42, sY_part_43, sY_part_44, sY_part_45, bi_t, bi_f, Bool.not_true, en_rdO_eq, en_rdI_eq, en_rdN_eq, en_rdL_eq, true_and, and_true, List.getElem?_cons_succ, List.getElem?_cons_zero, en_gv_eq, if_true, if_false, and_self, or_true, true_or, implies_true, List.length_cons, List.length_nil, Nat.reduceLT, Nat.reduceLeDiff, Nat.reduceAdd, Nat.zero_le, Option.toList_some, Option.toList_none, List.cons_append, List.nil_append, nI_1, rd_t, n1_0, n0_1, Bool.false_eq_true, false_implies, reduceCtorEq, en_q]
    | false =>
      rw [hap] at K3
      refine ⟨en_up c p (.inl (1, 7805, .inr (.inl (vp_updL L (sy_b s t / 64) (L (sy_b s t / 64) ||| ((1 : Int64) <<< ((nI (sy_b s t % 64)).toInt64 &&& 63))))))), ?_, ?_, fun a ha => en_up_n ha⟩
      · refine en_call_is (by decide) (Nat.le_of_ble_eq_true rfl) cat_3 ?_
        show en_W (en_call 3) mY_part 0 [some (.ref y), some (.int (nI s)), some (.int (nI t)), none] [] c x u _
        simp only [sY_part_0, sY_part_1, sY_part_2, sY_part_3, sY_part_6, sY_part_9, sY_part_10, sY_part_11, sY_part_12, sY_part_15, sY_part_18, sY_part_19, sY_part_20, sY_part_21, sY_part_22, sY_part_25, sY_part_26, sY_part_27, sY_part_30, sY_part_31, sY_part_33, sY_part_34, sY_part_35, sY_part_36, sY_part_37, sY_part_38, sY_part_40, sY_part_41, sY_part_42, sY_part_43, sY_part_44, sY_part_45, ho, hy, en_rdO_eq, en_rdI_eq, en_rdN_eq, en_rdL_eq, true_and, and_true, List.getElem?_cons_succ, List.getElem?_cons_zero, en_gv_eq, if_true, if_false, and_self, or_true, true_or, implies_true, List.length_cons, List.length_nil, Nat.reduceLT, Nat.reduceLeDiff, Nat.reduceAdd, Nat.zero_le, Option.toList_some, Option.toList_none, List.cons_append, List.nil_append, nI_1, rd_t, n1_0, n0_1, Bool.false_eq_true, false_implies, reduceCtorEq]
        refine en_use (by decide) K1 ?_
        simp only [sY_part_0, sY_part_1, sY_part_2, sY_part_3, sY_part_6, sY_part_9, sY_part_10, sY_part_11, sY_part_12, sY_part_15, sY_part_18, sY_part_19, sY_part_20, sY_part_21, sY_part_22, sY_part_25, sY_part_26, sY_part_27, sY_part_30, sY_part_31, sY_part_33, sY_part_34, sY_part_35, sY_part_36, sY_part_37, sY_part_38, sY_part_40, sY_part_41, sY_part_42, sY_part_43, sY_part_44, sY_part_45, bi_t, ho, hy, en_rdO_eq, en_rdI_eq, en_rdN_eq, en_rdL_eq, true_and, and_true, List.getElem?_cons_succ, List.getElem?_cons_zero, en_gv_eq, if_true, if_false, and_self, or_true, true_or, implies_true, List.length_cons, List.length_nil, Nat.reduceLT, Nat.reduceLeDiff, Nat.reduceAdd, Nat.zero_le, Option.toList_some, Option.toList_none, List.cons_append, List.nil_append, nI_1, rd_t, n1_0, n0_1, Bool.false_eq_true, false_implies, reduceCtorEq]
        refine en_use (by decide) K3 ?_
        simp only [sY_part_0, sY_part_1, sY_part_2, sY_part_3, sY_part_6, sY_part_9, sY_part_10, sY_part_11, sY_part_12, sY_part_15, sY_part_18, sY_part_19, sY_part_20, sY_part_21, sY_part_22, sY_part_25, sY_part_26, sY_part_27, sY_part_30, sY_part_31, sY_part_33, sY_part_34, sY_part_35, sY_part_36, sY_part_37, sY_part_38, sY_part_40, sY_part_41, sY_part_42, sY_part_43, sY_part_44, sY_part_45, bi_f, en_rdO_eq, en_rdI_eq, en_rdN_eq, en_rdL_eq, true_and, and_true, List.getElem?_cons_succ, List.getElem?_cons_zero, en_gv_eq, if_true, if_false, and_self, or_true, true_or, implies_true, List.length_cons, List.length_nil, Nat.reduceLT, Nat.reduceLeDiff, Nat.reduceAdd, Nat.zero_le, Option.toList_some, Option.toList_none, List.cons_append, List.nil_append, nI_1, rd_t, n1_0, n0_1, Bool.false_eq_true, false_implies, reduceCtorEq]
        refine en_use (by decide) K2 ?_
        simp only [sY_part_0, sY_part_1, sY_part_2, sY_part_3, sY_part_6, sY_part_9, sY_part_10, sY_part_11, sY_part_12, sY_part_15, sY_part_18, sY_part_19, sY_part_20, sY_part_21, sY_part_22, sY_part_25, sY_part_26, sY_part_27, sY_part_30, sY_part_31, sY_part_33, sY_part_34, sY_part_35, sY_part_36, sY_part_37, sY_part_38, sY_part_40, sY_part_41, sY_part_42, sY_part_43, sY_part_44, sY_part_45, ho, hy, cp, hp, e1, e2, e3, e4, bi_t, Bool.not_false, en_rdO_eq, en_rdI_eq, en_rdN_eq, en_rdL_eq, true_and, and_true, List.getElem?_cons_succ, List.getElem?_cons_zero, en_gv_eq, if_true, if_false, and_self, or_true, true_or, implies_true, List.length_cons, List.length_nil, Nat.reduceLT, Nat.reduceLeDiff, Nat.reduceAdd, Nat.zero_le, Option.toList_some, Option.toList_none, List.cons_append, List.nil_append, nI_1, rd_t, n1_0, n0_1, Bool.false_eq_true, false_implies, reduceCtorEq, en_q]
      · have hyp : y ≠ p := fun e => by rw [e, cp] at ho; cases ho
        have hvp : v ≠ p := fun e => by rw [e, cp] at cv; cases cv
        rw [if_pos (by rfl)]
        refine ⟨⟨hy, hv, hp⟩, by rw [en_up_n hyp]; exact ho, f, _, by rw [en_up_n hvp]; exact cv, by rw [en_up_s], h1, h2, fun a b hab ha hb' => ?_⟩
        have hb2 := sy_b_lt ha hb' hab
        have h4 := h3 a b hab ha hb'
        unfold sy_bit at h4 ⊢
        by_cases hw : sy_b a b / 64 = sy_b s t / 64
        · rw [hw, pk_uLs, lb_set (by omega) (by omega), ← hw, h4]
          by_cases hbb : sy_b a b % 64 = sy_b s t % 64
          · have heq : sy_b a b = sy_b s t := by omega
            rw [decide_eq_true hbb, Bool.or_true]
            rcases sy_b_inj hab hne heq with ⟨rfl, rfl⟩ | ⟨rfl, rfl⟩ <;> simp
          · rw [decide_eq_false hbb, Bool.or_false]
            have hn1 : ¬ (a = s ∧ b = t) := fun q => hbb (by rw [q.1, q.2])
            have hn2 : ¬ (a = t ∧ b = s) := fun q => hbb (by rw [q.1, q.2]; unfold sy_b; rw [Nat.max_comm, Nat.min_comm])
            have m1 : (a == s && b == t) = false := by
              cases hh : (a == s && b == t) with
              | false => rfl
              | true => exact absurd (by simpa using hh) hn1
            have m2 : (a == t && b == s) = false := by
              cases hh : (a == t && b == s) with
              | false => rfl
              | true => exact absurd (by simpa using hh) hn2
            show ap a b = (ap a b || (a == s && b == t) || (a == t && b == s))
            rw [m1, m2, Bool.or_false, Bool.or_false]
        · rw [pk_uLn hw, h4]
          have hn1 : ¬ (a = s ∧ b = t) := fun q => hw (by rw [q.1, q.2])
          have hn2 : ¬ (a = t ∧ b = s) := fun q => hw (by rw [q.1, q.2]; unfold sy_b; rw [Nat.max_comm, Nat.min_comm])
          have m1 : (a == s && b == t) = false := by
            cases hh : (a == s && b == t) with
            | false => rfl
            | true => exact absurd (by simpa using hh) hn1
          have m2 : (a == t && b == s) = false := by
            cases hh : (a == t && b == s) with
            | false => rfl
            | true => exact absurd (by simpa using hh) hn2
          show ap a b = (ap a b || (a == s && b == t) || (a == t && b == s))
          rw [m1, m2, Bool.or_false, Bool.or_false]
theorem vp_z (b : Bool) : vp_nar .boolean (bi b) = bi b := by cases b <;> rfl
theorem cY_add_no {w : Int32} (H : sy_at c x y v p vs ap) (hw : ¬ ((w = 0 ∨ w = 1) ∧ vs.length < 1000)) : en_call 1 mY_add [.ref y, .int w] c x u (some (.int (-1))) c x u := by
  obtain ⟨⟨hy, hv, hp⟩, ho, f, L, cv, cp, h1, h2, h3⟩ := H
  have e1 : (nI vs.length < nI 1000) = (vs.length < 1000) := propext (nI_ltI (by omega) (by omega))
  refine en_call_is (by decide) (Nat.le_of_ble_eq_true rfl) cat_2 ?_
  show en_W (en_call 0) mY_add 0 [some (.ref y), some (.int w)] [] c x u _
  by_cases w0 : w = 0
  · have e2 : ¬ vs.length < 1000 := fun q => hw ⟨Or.inl w0, q⟩
    simp only [sY_add_0, sY_add_1, sY_add_4, sY_add_5, sY_add_6, sY_add_9, sY_add_10, sY_add_13, sY_add_16, sY_add_19, sY_add_20, sY_add_21, sY_add_22, sY_add_25, sY_add_26, sY_add_29, sY_add_30, sY_add_33, sY_add_34, sY_add_37, sY_add_38, sY_add_39, sY_add_40, sY_add_41, sY_add_44, sY_add_45, sY_add_46, sY_add_49, sY_add_50, sY_add_53, sY_add_54, sY_add_55, w0, ho, hy, e1, e2, en_rdO_eq, en_rdI_eq, en_rdN_eq, en_rdL_eq, true_and, and_true, List.getElem?_cons_succ, List.getElem?_cons_zero, en_gv_eq, if_true, if_false, and_self, or_true, true_or, implies_true, List.length_cons, List.length_nil, Nat.reduceLT, Nat.reduceLeDiff, Nat.reduceAdd, Nat.zero_le, Option.toList_some, Option.toList_none, List.cons_append, List.nil_append, nI_1, rd_t, n1_0, n0_1, Bool.false_eq_true, false_implies, reduceCtorEq, en_q]
  · by_cases w1 : w = 1
    · have e2 : ¬ vs.length < 1000 := fun q => hw ⟨Or.inr w1, q⟩
      simp only [sY_add_0, sY_add_1, sY_add_4, sY_add_5, sY_add_6, sY_add_9, sY_add_10, sY_add_13, sY_add_16, sY_add_19, sY_add_20, sY_add_21, sY_add_22, sY_add_25, sY_add_26, sY_add_29, sY_add_30, sY_add_33, sY_add_34, sY_add_37, sY_add_38, sY_add_39, sY_add_40, sY_add_41, sY_add_44, sY_add_45, sY_add_46, sY_add_49, sY_add_50, sY_add_53, sY_add_54, sY_add_55, w1, ho, hy, e1, e2, en_rdO_eq, en_rdI_eq, en_rdN_eq, en_rdL_eq, true_and, and_true, List.getElem?_cons_succ, List.getElem?_cons_zero, en_gv_eq, if_true, if_false, and_self, or_true, true_or, implies_true, List.length_cons, List.length_nil, Nat.reduceLT, Nat.reduceLeDiff, Nat.reduceAdd, Nat.zero_le, Option.toList_some, Option.toList_none, List.cons_append, List.nil_append, nI_1, rd_t, n1_0, n0_1, Bool.false_eq_true, false_implies, reduceCtorEq, en_q]
    · simp only [sY_add_0, sY_add_1, sY_add_4, sY_add_5, sY_add_6, sY_add_9, sY_add_10, sY_add_13, sY_add_16, sY_add_19, sY_add_20, sY_add_21, sY_add_22, sY_add_25, sY_add_26, sY_add_29, sY_add_30, sY_add_33, sY_add_34, sY_add_37, sY_add_38, sY_add_39, sY_add_40, sY_add_41, sY_add_44, sY_add_45, sY_add_46, sY_add_49, sY_add_50, sY_add_53, sY_add_54, sY_add_55, w0, w1, en_rdO_eq, en_rdI_eq, en_rdN_eq, en_rdL_eq, true_and, and_true, List.getElem?_cons_succ, List.getElem?_cons_zero, en_gv_eq, if_true, if_false, and_self, or_true, true_or, implies_true, List.length_cons, List.length_nil, Nat.reduceLT, Nat.reduceLeDiff, Nat.reduceAdd, Nat.zero_le, Option.toList_some, Option.toList_none, List.cons_append, List.nil_append, nI_1, rd_t, n1_0, n0_1, Bool.false_eq_true, false_implies, reduceCtorEq, en_q]
theorem cY_add {w : Int32} (H : sy_at c x y v p vs ap) (hw : w = 0 ∨ w = 1) (hl : vs.length < 1000) : ∃ c', en_call 1 mY_add [.ref y, .int w] c x u (some (.int (nI vs.length))) c' x u ∧ sy_at c' x y v p (vs ++ [decide (w = 0)]) ap ∧ ∀ a, a ≠ y → a ≠ v → c' a = c a := by
  obtain ⟨⟨hy, hv, hp⟩, ho, f, L, cv, cp, h1, h2, h3⟩ := H
  have hyv : y ≠ v := fun e => by rw [e, cv] at ho; cases ho
  have hyp : p ≠ y := fun e => by rw [e, ho] at cp; cases cp
  have hvp : p ≠ v := fun e => by rw [e, cv] at cp; cases cp
  have e1 : (nI vs.length < nI 1000) = True := eq_true (nI_lt (by omega) (by omega))
  have e3 : vp_in (nI vs.length) 1000 := vp_in_nI (by omega) (by omega)
  have e4 : (nI vs.length).toNatClampNeg = vs.length := nI_clamp (by omega)
  have e5 : nI (vs.length + 1) - 1 = nI vs.length := nI_pred _
  have e6 : ∀ e, en_up c v e y = .inr (2, [.ref v, .ref p, .int (nI vs.length)]) := fun e => by rw [en_up_n hyv]; exact ho
  have e7 : ∀ (c : en_H) e, en_up c y e y = e := fun c e => en_up_s _ _ _
  refine ⟨en_up (en_up c v (.inl (2, 1000, .inl (upd f vs.length (bi (decide (w = 0))))))) y (.inr (2, [.ref v, .ref p, .int (nI (vs.length + 1))])), ?_, ?_, fun a h1 h2 => by rw [en_up_n h1, en_up_n h2]⟩
  · refine en_call_is (by decide) (Nat.le_of_ble_eq_true rfl) cat_2 ?_
    show en_W (en_call 0) mY_add 0 [some (.ref y), some (.int w)] [] c x u _
    rcases hw with rfl | rfl
    · have z1 := vp_z true
      rw [bi_t] at z1
      simp only [sY_add_0, sY_add_1, sY_add_4, sY_add_5, sY_add_6, sY_add_9, sY_add_10, sY_add_13, sY_add_16, sY_add_19, sY_add_20, sY_add_21, sY_add_22, sY_add_25, sY_add_26, sY_add_29, sY_add_30, sY_add_33, sY_add_34, sY_add_37, sY_add_38, sY_add_39, sY_add_40, sY_add_41, sY_add_44, sY_add_45, sY_add_46, sY_add_49, sY_add_50, sY_add_53, sY_add_54, sY_add_55, ho, hy, cv, hv, e1, e3, e4, e5, e6, e7, z1, en_fk, List.set_cons_zero, List.set_cons_succ, en_rdO_eq, en_rdI_eq, en_rdN_eq, en_rdL_eq, true_and, and_true, List.getElem?_cons_succ, List.getElem?_cons_zero, en_gv_eq, if_true, if_false, and_self, or_true, true_or, implies_true, List.length_cons, List.length_nil, Nat.reduceLT, Nat.reduceLeDiff, Nat.reduceAdd, Nat.zero_le, Option.toList_some, Option.toList_none, List.cons_append, List.nil_append, nI_1, rd_t, n1_0, n0_1, Bool.false_eq_true, false_implies, reduceCtorEq, en_q]
      simp [bi]
    · have z1 := vp_z false
      rw [bi_f] at z1
      simp only [sY_add_0, sY_add_1, sY_add_4, sY_add_5, sY_add_6, sY_add_9, sY_add_10, sY_add_13, sY_add_16, sY_add_19, sY_add_20, sY_add_21, sY_add_22, sY_add_25, sY_add_26, sY_add_29, sY_add_30, sY_add_33, sY_add_34, sY_add_37, sY_add_38, sY_add_39, sY_add_40, sY_add_41, sY_add_44, sY_add_45, sY_add_46, sY_add_49, sY_add_50, sY_add_53, sY_add_54, sY_add_55, ho, hy, cv, hv, e1, e3, e4, e5, e6, e7, z1, en_fk, List.set_cons_zero, List.set_cons_succ, en_rdO_eq, en_rdI_eq, en_rdN_eq, en_rdL_eq, true_and, and_true, List.getElem?_cons_succ, List.getElem?_cons_zero, en_gv_eq, if_true, if_false, and_self, or_true, true_or, implies_true, List.length_cons, List.length_nil, Nat.reduceLT, Nat.reduceLeDiff, Nat.reduceAdd, Nat.zero_le, Option.toList_some, Option.toList_none, List.cons_append, List.nil_append, nI_1, rd_t, n1_0, n0_1, Bool.false_eq_true, false_implies, reduceCtorEq, en_q]
      simp [bi]
  · refine ⟨⟨hy, hv, hp⟩, by rw [en_up_s]; simp, upd f vs.length (bi (decide (w = 0))), L, by rw [en_up_n (Ne.symm hyv), en_up_s], by rw [en_up_n hyp, en_up_n hvp]; exact cp, by simp; omega, fun s hs => ?_, h3⟩
    by_cases hs2 : s = vs.length
    · subst hs2
      rw [pk_us, List.getD_eq_getElem?_getD, List.getElem?_append_right (Nat.le_refl _)]
      simp
    · rw [pk_un hs2, List.getD_eq_getElem?_getD, List.getElem?_append_left (by simp at hs; omega), ← List.getD_eq_getElem?_getD]
      exact h2 s (by simp at hs; omega)
end YD
