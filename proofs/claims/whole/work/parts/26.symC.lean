/-! StepPile$Symbols -/
/-- where the bit of two different symbols lies -/
def sy_b (s t : Nat) : Nat := max s t * (max s t - 1) / 2 + min s t
def sy_bit (L : Nat → Int64) (b : Nat) : Bool := (L (b / 64)).toBitVec.getLsbD (b % 64)
def sy_is (f : Nat → Int32) (L : Nat → Int64) (vs : List Bool) (ap : Nat → Nat → Bool) : Prop := vs.length ≤ 1000 ∧ (∀ s, s < vs.length → f s = bi (vs.getD s false)) ∧ ∀ s t, s ≠ t → s < 1000 → t < 1000 → sy_bit L (sy_b s t) = ap s t
def sy_at (c : en_H) (x y v p : Nat) (vs : List Bool) (ap : Nat → Nat → Bool) : Prop :=
  (y < x ∧ v < x ∧ p < x) ∧ c y = .inr (2, [.ref v, .ref p, .int (nI vs.length)]) ∧ ∃ (f : Nat → Int32) (L : Nat → Int64), c v = .inl (2, 1000, .inl f) ∧ c p = .inl (1, 7805, .inr (.inl L)) ∧ sy_is f L vs ap
theorem bi_0 (b : Bool) : (bi b = 0) = (b = false) := by cases b <;> simp [bi]
theorem sy_b_lt {s t : Nat} (hs : s < 1000) (ht : t < 1000) (hne : s ≠ t) : sy_b s t < 499500 := by
  unfold sy_b
  have h1 : max s t < 1000 := by omega
  have h2 : min s t < max s t := by omega
  generalize max s t = a at *
  generalize min s t = b at *
  have h3 : a * (a - 1) ≤ 999 * 998 := Nat.mul_le_mul (by omega) (by omega)
  have h4 : a * (a - 1) / 2 + b < 499500 := by omega
  exact h4
theorem sy_tri {a b c d : Nat} (hb : b < a) (hd : d < c) (h : a * (a - 1) / 2 + b = c * (c - 1) / 2 + d) : a = c ∧ b = d := by
  have key : ∀ n : Nat, n * (n - 1) / 2 + n = (n + 1) * n / 2 := by
    intro n
    cases n with
    | zero => rfl
    | succ n =>
      have e : (n + 1 + 1) * (n + 1) = (n + 1) * n + 2 * (n + 1) := by
        rw [Nat.add_mul, Nat.one_mul, Nat.mul_comm (n + 1) n, Nat.mul_add n, Nat.mul_one]
        have := Nat.mul_comm n (n + 1)
        simp only [Nat.mul_add, Nat.add_mul, Nat.mul_one, Nat.one_mul] at *
        omega
      rw [e]
      simp only [Nat.add_sub_cancel]
      omega
  have mono : ∀ n m : Nat, n ≤ m → n * (n - 1) / 2 ≤ m * (m - 1) / 2 := fun n m hnm => Nat.div_le_div_right (Nat.mul_le_mul hnm (by omega))
  rcases Nat.lt_trichotomy a c with q | q | q
  · have h1 := key a
    have h2 := mono (a + 1) c q
    simp only [Nat.add_sub_cancel] at h2
    omega
  · subst q
    omega
  · have h1 := key c
    have h2 := mono (c + 1) a q
    simp only [Nat.add_sub_cancel] at h2
    omega
theorem sy_b_inj {s t s' t' : Nat} (h1 : s ≠ t) (h2 : s' ≠ t') (h : sy_b s t = sy_b s' t') : (s = s' ∧ t = t') ∨ (s = t' ∧ t = s') := by
  unfold sy_b at h
  obtain ⟨e1, e2⟩ := sy_tri (by omega) (by omega) h
  omega
section YC
variable {c : en_H} {x u y v p : Nat} {vs : List Bool} {ap : Nat → Nat → Bool}
theorem cY_known (H : sy_at c x y v p vs ap) : en_call 1 mY_known [.ref y] c x u (some (.int (nI vs.length))) c x u := by
  obtain ⟨⟨hy, hv, hp⟩, ho, f, L, cv, cp, hs⟩ := H
  refine en_call_is (by decide) (Nat.le_of_ble_eq_true rfl) cat_1 ?_
  show en_W (en_call 0) mY_known 0 [some (.ref y)] [] c x u _
  simp only [sY_known_0, sY_known_1, sY_known_4, ho, hy, en_rdO_eq, en_rdI_eq, en_rdN_eq, en_rdL_eq, true_and, and_true, List.getElem?_cons_succ, List.getElem?_cons_zero, en_gv_eq, if_true, if_false, and_self, or_true, true_or, implies_true, List.length_cons, List.length_nil, Nat.reduceLT, Nat.reduceLeDiff, Nat.reduceAdd, Nat.zero_le, Option.toList_some, Option.toList_none, List.cons_append, List.nil_append, nI_1, rd_t, n1_0, n0_1, Bool.false_eq_true, false_implies, reduceCtorEq, en_q]
theorem cY_has_in {s : Nat} {ss : Int32} (H : sy_at c x y v p vs ap) (hss : ss = nI s) (hs : s < vs.length) : en_call 1 mY_has [.ref y, .int ss] c x u (some (.int 1)) c x u := by
  subst hss
  obtain ⟨⟨hy, hv, hp⟩, ho, f, L, cv, cp, h1, h2, h3⟩ := H
  have e1 : ¬ nI s < 0 := nI_pos (by omega)
  have e2 : ¬ nI vs.length ≤ nI s := nI_ge hs (by omega)
  refine en_call_is (by decide) (Nat.le_of_ble_eq_true rfl) cat_2 ?_
  show en_W (en_call 0) mY_has 0 [some (.ref y), some (.int (nI s))] [] c x u _
  simp only [sY_has_0, sY_has_1, sY_has_4, sY_has_5, sY_has_6, sY_has_9, sY_has_12, sY_has_13, sY_has_16, sY_has_17, ho, hy, e1, e2, en_rdO_eq, en_rdI_eq, en_rdN_eq, en_rdL_eq, true_and, and_true, List.getElem?_cons_succ, List.getElem?_cons_zero, en_gv_eq, if_true, if_false, and_self, or_true, true_or, implies_true, List.length_cons, List.length_nil, Nat.reduceLT, Nat.reduceLeDiff, Nat.reduceAdd, Nat.zero_le, Option.toList_some, Option.toList_none, List.cons_append, List.nil_append, nI_1, rd_t, n1_0, n0_1, Bool.false_eq_true, false_implies, reduceCtorEq, en_q]
theorem cY_has_out {ss : Int32} (H : sy_at c x y v p vs ap) (hs : ss < 0 ∨ nI vs.length ≤ ss) : en_call 1 mY_has [.ref y, .int ss] c x u (some (.int 0)) c x u := by
  obtain ⟨⟨hy, hv, hp⟩, ho, f, L, cv, cp, h1, h2, h3⟩ := H
  refine en_call_is (by decide) (Nat.le_of_ble_eq_true rfl) cat_2 ?_
  show en_W (en_call 0) mY_has 0 [some (.ref y), some (.int ss)] [] c x u _
  by_cases h0 : ss < 0
  · simp only [sY_has_0, sY_has_1, sY_has_4, sY_has_5, sY_has_6, sY_has_9, sY_has_12, sY_has_13, sY_has_16, sY_has_17, ho, hy, h0, en_rdO_eq, en_rdI_eq, en_rdN_eq, en_rdL_eq, true_and, and_true, List.getElem?_cons_succ, List.getElem?_cons_zero, en_gv_eq, if_true, if_false, and_self, or_true, true_or, implies_true, List.length_cons, List.length_nil, Nat.reduceLT, Nat.reduceLeDiff, Nat.reduceAdd, Nat.zero_le, Option.toList_some, Option.toList_none, List.cons_append, List.nil_append, nI_1, rd_t, n1_0, n0_1, Bool.false_eq_true, false_implies, reduceCtorEq, en_q]
  · have hs : nI vs.length ≤ ss := by rcases hs with q | q; exact absurd q h0; exact q
    simp only [sY_has_0, sY_has_1, sY_has_4, sY_has_5, sY_has_6, sY_has_9, sY_has_12, sY_has_13, sY_has_16, sY_has_17, ho, hy, h0, hs, en_rdO_eq, en_rdI_eq, en_rdN_eq, en_rdL_eq, true_and, and_true, List.getElem?_cons_succ, List.getElem?_cons_zero, en_gv_eq, if_true, if_false, and_self, or_true, true_or, implies_true, List.length_cons, List.length_nil, Nat.reduceLT, Nat.reduceLeDiff, Nat.reduceAdd, Nat.zero_le, Option.toList_some, Option.toList_none, List.cons_append, List.nil_append, nI_1, rd_t, n1_0, n0_1, Bool.false_eq_true, false_implies, reduceCtorEq, en_q]
theorem cY_isVar_in {s : Nat} {ss : Int32} (H : sy_at c x y v p vs ap) (hss : ss = nI s) (hs : s < vs.length) : en_call 1 mY_isVariable [.ref y, .int ss] c x u (some (.int (bi (vs.getD s false)))) c x u := by
  subst hss
  obtain ⟨⟨hy, hv, hp⟩, ho, f, L, cv, cp, h1, h2, h3⟩ := H
  have e1 : ¬ nI s < 0 := nI_pos (by omega)
  have e2 : ¬ nI vs.length ≤ nI s := nI_ge hs (by omega)
  have e3 : vp_in (nI s) 1000 := vp_in_nI (by omega) (by omega)
  have e4 : (nI s).toNatClampNeg = s := nI_clamp (by omega)
  have e5 := h2 s hs
  refine en_call_is (by decide) (Nat.le_of_ble_eq_true rfl) cat_2 ?_
  show en_W (en_call 0) mY_isVariable 0 [some (.ref y), some (.int (nI s))] [] c x u _
  simp only [sY_isVariable_0, sY_isVariable_1, sY_isVariable_4, sY_isVariable_5, sY_isVariable_6, sY_isVariable_9, sY_isVariable_12, sY_isVariable_13, sY_isVariable_16, sY_isVariable_17, sY_isVariable_18, sY_isVariable_21, sY_isVariable_22, sY_isVariable_25, sY_isVariable_26, ho, hy, cv, hv, e1, e2, e3, e4, e5, bi_0, en_rdO_eq, en_rdI_eq, en_rdN_eq, en_rdL_eq, true_and, and_true, List.getElem?_cons_succ, List.getElem?_cons_zero, en_gv_eq, if_true, if_false, and_self, or_true, true_or, implies_true, List.length_cons, List.length_nil, Nat.reduceLT, Nat.reduceLeDiff, Nat.reduceAdd, Nat.zero_le, Option.toList_some, Option.toList_none, List.cons_append, List.nil_append, nI_1, rd_t, n1_0, n0_1, Bool.false_eq_true, false_implies, reduceCtorEq, en_q]
  cases vs.getD s false <;> simp [bi]
theorem cY_isVar_out {ss : Int32} (H : sy_at c x y v p vs ap) (hs : ss < 0 ∨ nI vs.length ≤ ss) : en_call 1 mY_isVariable [.ref y, .int ss] c x u (some (.int 0)) c x u := by
  obtain ⟨⟨hy, hv, hp⟩, ho, f, L, cv, cp, h1, h2, h3⟩ := H
  refine en_call_is (by decide) (Nat.le_of_ble_eq_true rfl) cat_2 ?_
  show en_W (en_call 0) mY_isVariable 0 [some (.ref y), some (.int ss)] [] c x u _
  by_cases h0 : ss < 0
  · simp only [sY_isVariable_0, sY_isVariable_1, sY_isVariable_4, sY_isVariable_5, sY_isVariable_6, sY_isVariable_9, sY_isVariable_12, sY_isVariable_13, sY_isVariable_16, sY_isVariable_17, sY_isVariable_18, sY_isVariable_21, sY_isVariable_22, sY_isVariable_25, sY_isVariable_26, ho, hy, h0, en_rdO_eq, en_rdI_eq, en_rdN_eq, en_rdL_eq, true_and, and_true, List.getElem?_cons_succ, List.getElem?_cons_zero, en_gv_eq, if_true, if_false, and_self, or_true, true_or, implies_true, List.length_cons, List.length_nil, Nat.reduceLT, Nat.reduceLeDiff, Nat.reduceAdd, Nat.zero_le, Option.toList_some, Option.toList_none, List.cons_append, List.nil_append, nI_1, rd_t, n1_0, n0_1, Bool.false_eq_true, false_implies, reduceCtorEq, en_q]
  · have hs : nI vs.length ≤ ss := by rcases hs with q | q; exact absurd q h0; exact q
    simp only [sY_isVariable_0, sY_isVariable_1, sY_isVariable_4, sY_isVariable_5, sY_isVariable_6, sY_isVariable_9, sY_isVariable_12, sY_isVariable_13, sY_isVariable_16, sY_isVariable_17, sY_isVariable_18, sY_isVariable_21, sY_isVariable_22, sY_isVariable_25, sY_isVariable_26, ho, hy, h0, hs, en_rdO_eq, en_rdI_eq, en_rdN_eq, en_rdL_eq, true_and, and_true, List.getElem?_cons_succ, List.getElem?_cons_zero, en_gv_eq, if_true, if_false, and_self, or_true, true_or, implies_true, List.length_cons, List.length_nil, Nat.reduceLT, Nat.reduceLeDiff, Nat.reduceAdd, Nat.zero_le, Option.toList_some, Option.toList_none, List.cons_append, List.nil_append, nI_1, rd_t, n1_0, n0_1, Bool.false_eq_true, false_implies, reduceCtorEq, en_q]
theorem cY_isCon_in {s : Nat} {ss : Int32} (H : sy_at c x y v p vs ap) (hss : ss = nI s) (hs : s < vs.length) : en_call 1 mY_isConstant [.ref y, .int ss] c x u (some (.int (bi (!vs.getD s false)))) c x u := by
  subst hss
  obtain ⟨⟨hy, hv, hp⟩, ho, f, L, cv, cp, h1, h2, h3⟩ := H
  have e1 : ¬ nI s < 0 := nI_pos (by omega)
  have e2 : ¬ nI vs.length ≤ nI s := nI_ge hs (by omega)
  have e3 : vp_in (nI s) 1000 := vp_in_nI (by omega) (by omega)
  have e4 : (nI s).toNatClampNeg = s := nI_clamp (by omega)
  have e5 := h2 s hs
  refine en_call_is (by decide) (Nat.le_of_ble_eq_true rfl) cat_2 ?_
  show en_W (en_call 0) mY_isConstant 0 [some (.ref y), some (.int (nI s))] [] c x u _
  simp only [sY_isConstant_0, sY_isConstant_1, sY_isConstant_4, sY_isConstant_5, sY_isConstant_6, sY_isConstant_9, sY_isConstant_12, sY_isConstant_13, sY_isConstant_16, sY_isConstant_17, sY_isConstant_18, sY_isConstant_21, sY_isConstant_22, sY_isConstant_25, sY_isConstant_26, ho, hy, cv, hv, e1, e2, e3, e4, e5, bi_0, en_rdO_eq, en_rdI_eq, en_rdN_eq, en_rdL_eq, true_and, and_true, List.getElem?_cons_succ, List.getElem?_cons_zero, en_gv_eq, if_true, if_false, and_self, or_true, true_or, implies_true, List.length_cons, List.length_nil, Nat.reduceLT, Nat.reduceLeDiff, Nat.reduceAdd, Nat.zero_le, Option.toList_some, Option.toList_none, List.cons_append, List.nil_append, nI_1, rd_t, n1_0, n0_1, Bool.false_eq_true, false_implies, reduceCtorEq, en_q]
  cases vs.getD s false <;> simp [bi]
theorem cY_isCon_out {ss : Int32} (H : sy_at c x y v p vs ap) (hs : ss < 0 ∨ nI vs.length ≤ ss) : en_call 1 mY_isConstant [.ref y, .int ss] c x u (some (.int 0)) c x u := by
  obtain ⟨⟨hy, hv, hp⟩, ho, f, L, cv, cp, h1, h2, h3⟩ := H
  refine en_call_is (by decide) (Nat.le_of_ble_eq_true rfl) cat_2 ?_
  show en_W (en_call 0) mY_isConstant 0 [some (.ref y), some (.int ss)] [] c x u _
  by_cases h0 : ss < 0
  · simp only [sY_isConstant_0, sY_isConstant_1, sY_isConstant_4, sY_isConstant_5, sY_isConstant_6, sY_isConstant_9, sY_isConstant_12, sY_isConstant_13, sY_isConstant_16, sY_isConstant_17, sY_isConstant_18, sY_isConstant_21, sY_isConstant_22, sY_isConstant_25, sY_isConstant_26, ho, hy, h0, en_rdO_eq, en_rdI_eq, en_rdN_eq, en_rdL_eq, true_and, and_true, List.getElem?_cons_succ, List.getElem?_cons_zero, en_gv_eq, if_true, if_false, and_self, or_true, true_or, implies_true, List.length_cons, List.length_nil, Nat.reduceLT, Nat.reduceLeDiff, Nat.reduceAdd, Nat.zero_le, Option.toList_some, Option.toList_none, List.cons_append, List.nil_append, nI_1, rd_t, n1_0, n0_1, Bool.false_eq_true, false_implies, reduceCtorEq, en_q]
  · have hs : nI vs.length ≤ ss := by rcases hs with q | q; exact absurd q h0; exact q
    simp only [sY_isConstant_0, sY_isConstant_1, sY_isConstant_4, sY_isConstant_5, sY_isConstant_6, sY_isConstant_9, sY_isConstant_12, sY_isConstant_13, sY_isConstant_16, sY_isConstant_17, sY_isConstant_18, sY_isConstant_21, sY_isConstant_22, sY_isConstant_25, sY_isConstant_26, ho, hy, h0, hs, en_rdO_eq, en_rdI_eq, en_rdN_eq, en_rdL_eq, true_and, and_true, List.getElem?_cons_succ, List.getElem?_cons_zero, en_gv_eq, if_true, if_false, and_self, or_true, true_or, implies_true, List.length_cons, List.length_nil, Nat.reduceLT, Nat.reduceLeDiff, Nat.reduceAdd, Nat.zero_le, Option.toList_some, Option.toList_none, List.cons_append, List.nil_append, nI_1, rd_t, n1_0, n0_1, Bool.false_eq_true, false_implies, reduceCtorEq, en_q]
/-- a variable, of any int -/
def sy_var (vs : List Bool) (ss : Int32) : Bool := decide (0 ≤ ss) && decide (ss.toNatClampNeg < vs.length) && vs.getD ss.toNatClampNeg false
theorem sy_ix {vs : List Bool} (hvs : vs.length ≤ 1000) (ss : Int32) : ((ss < 0 ∨ nI vs.length ≤ ss) ∧ sy_var vs ss = false) ∨ ∃ s, s < vs.length ∧ ss = nI s ∧ sy_var vs ss = vs.getD s false := by
  rcases pk_ix ss (n := vs.length) (by omega) with h | h | ⟨s, hs, rfl⟩
  · refine Or.inl ⟨Or.inl h, ?_⟩
    unfold sy_var
    rw [decide_eq_false (Int32.not_le.mpr h)]
    rfl
  · refine Or.inl ⟨Or.inr h, ?_⟩
    unfold sy_var
    have : ¬ ss.toNatClampNeg < vs.length := by
      have h2 := Int32.le_iff_toInt_le.mp h
      rw [nI_toInt (by omega)] at h2
      have h3 : (ss.toNatClampNeg : Int) = ss.toInt := by
        show ((ss.toInt.toNat : Nat) : Int) = ss.toInt
        omega
      omega
    rw [decide_eq_false this, Bool.and_false]
    rfl
  · refine Or.inr ⟨s, hs, rfl, ?_⟩
    unfold sy_var
    rw [nI_clamp (by omega), decide_eq_true hs, decide_eq_true (nI_pos' (by omega))]
    rfl
theorem cY_isVar {ss : Int32} (H : sy_at c x y v p vs ap) : en_call 1 mY_isVariable [.ref y, .int ss] c x u (some (.int (bi (sy_var vs ss)))) c x u := by
  rcases sy_ix H.2.2.choose_spec.choose_spec.2.2.1 ss with ⟨h, e⟩ | ⟨s, hs, h, e⟩
  · rw [e]; exact cY_isVar_out H h
  · rw [e]; exact cY_isVar_in H h hs
theorem cY_two {ss tt : Int32} (H : sy_at c x y v p vs ap) : en_call 2 mY_areTwoVariables [.ref y, .int ss, .int tt] c x u (some (.int (bi (decide (ss ≠ tt) && sy_var vs ss && sy_var vs tt)))) c x u := by
  have K1 := cY_isVar (u := u) (ss := ss) H
  have K2 := cY_isVar (u := u) (ss := tt) H
  obtain ⟨⟨hy, hv, hp⟩, ho, -⟩ := H
  refine en_call_is (by decide) (Nat.le_of_ble_eq_true rfl) cat_3 ?_
  show en_W (en_call 1) mY_areTwoVariables 0 [some (.ref y), some (.int ss), some (.int tt)] [] c x u _
  by_cases he : ss = tt
  · simp only [sY_areTwoVariables_0, sY_areTwoVariables_1, sY_areTwoVariables_2, sY_areTwoVariables_5, sY_areTwoVariables_6, sY_areTwoVariables_7, sY_areTwoVariables_10, sY_areTwoVariables_13, sY_areTwoVariables_14, sY_areTwoVariables_15, sY_areTwoVariables_18, sY_areTwoVariables_21, sY_areTwoVariables_22, sY_areTwoVariables_25, sY_areTwoVariables_26, he, en_rdO_eq, en_rdI_eq, en_rdN_eq, en_rdL_eq, true_and, and_true, List.getElem?_cons_succ, List.getElem?_cons_zero, en_gv_eq, if_true, if_false, and_self, or_true, true_or, implies_true, List.length_cons, List.length_nil, Nat.reduceLT, Nat.reduceLeDiff, Nat.reduceAdd, Nat.zero_le, Option.toList_some, Option.toList_none, List.cons_append, List.nil_append, nI_1, rd_t, n1_0, n0_1, Bool.false_eq_true, false_implies, reduceCtorEq, en_q]
    simp [bi]
  · simp only [sY_areTwoVariables_0, sY_areTwoVariables_1, sY_areTwoVariables_2, sY_areTwoVariables_5, sY_areTwoVariables_6, sY_areTwoVariables_7, sY_areTwoVariables_10, sY_areTwoVariables_13, sY_areTwoVariables_14, sY_areTwoVariables_15, sY_areTwoVariables_18, sY_areTwoVariables_21, sY_areTwoVariables_22, sY_areTwoVariables_25, sY_areTwoVariables_26, he, ho, hy, en_rdO_eq, en_rdI_eq, en_rdN_eq, en_rdL_eq, true_and, and_true, List.getElem?_cons_succ, List.getElem?_cons_zero, en_gv_eq, if_true, if_false, and_self, or_true, true_or, implies_true, List.length_cons, List.length_nil, Nat.reduceLT, Nat.reduceLeDiff, Nat.reduceAdd, Nat.zero_le, Option.toList_some, Option.toList_none, List.cons_append, List.nil_append, nI_1, rd_t, n1_0, n0_1, Bool.false_eq_true, false_implies, reduceCtorEq]
    refine en_use (Nat.le_refl _) K1 ?_
    cases h1 : sy_var vs ss
    · simp only [sY_areTwoVariables_0, sY_areTwoVariables_1, sY_areTwoVariables_2, sY_areTwoVariables_5, sY_areTwoVariables_6, sY_areTwoVariables_7, sY_areTwoVariables_10, sY_areTwoVariables_13, sY_areTwoVariables_14, sY_areTwoVariables_15, sY_areTwoVariables_18, sY_areTwoVariables_21, sY_areTwoVariables_22, sY_areTwoVariables_25, sY_areTwoVariables_26, bi_f, en_rdO_eq, en_rdI_eq, en_rdN_eq, en_rdL_eq, true_and, and_true, List.getElem?_cons_succ, List.getElem?_cons_zero, en_gv_eq, if_true, if_false, and_self, or_true, true_or, implies_true, List.length_cons, List.length_nil, Nat.reduceLT, Nat.reduceLeDiff, Nat.reduceAdd, Nat.zero_le, Option.toList_some, Option.toList_none, List.cons_append, List.nil_append, nI_1, rd_t, n1_0, n0_1, Bool.false_eq_true, false_implies, reduceCtorEq, en_q]
      simp [bi]
    · simp only [sY_areTwoVariables_0, sY_areTwoVariables_1, sY_areTwoVariables_2, sY_areTwoVariables_5, sY_areTwoVariables_6, sY_areTwoVariables_7, sY_areTwoVariables_10, sY_areTwoVariables_13, sY_areTwoVariables_14, sY_areTwoVariables_15, sY_areTwoVariables_18, sY_areTwoVariables_21, sY_areTwoVariables_22, sY_areTwoVariables_25, sY_areTwoVariables_26, bi_t, ho, hy, en_rdO_eq, en_rdI_eq, en_rdN_eq, en_rdL_eq, true_and, and_true, List.getElem?_cons_succ, List.getElem?_cons_zero, en_gv_eq, if_true, if_false, and_self, or_true, true_or, implies_true, List.length_cons, List.length_nil, Nat.reduceLT, Nat.reduceLeDiff, Nat.reduceAdd, Nat.zero_le, Option.toList_some, Option.toList_none, List.cons_append, List.nil_append, nI_1, rd_t, n1_0, n0_1, Bool.false_eq_true, false_implies, reduceCtorEq]
      refine en_use (Nat.le_refl _) K2 ?_
      cases h2 : sy_var vs tt
      · simp only [sY_areTwoVariables_0, sY_areTwoVariables_1, sY_areTwoVariables_2, sY_areTwoVariables_5, sY_areTwoVariables_6, sY_areTwoVariables_7, sY_areTwoVariables_10, sY_areTwoVariables_13, sY_areTwoVariables_14, sY_areTwoVariables_15, sY_areTwoVariables_18, sY_areTwoVariables_21, sY_areTwoVariables_22, sY_areTwoVariables_25, sY_areTwoVariables_26, bi_f, en_rdO_eq, en_rdI_eq, en_rdN_eq, en_rdL_eq, true_and, and_true, List.getElem?_cons_succ, List.getElem?_cons_zero, en_gv_eq, if_true, if_false, and_self, or_true, true_or, implies_true, List.length_cons, List.length_nil, Nat.reduceLT, Nat.reduceLeDiff, Nat.reduceAdd, Nat.zero_le, Option.toList_some, Option.toList_none, List.cons_append, List.nil_append, nI_1, rd_t, n1_0, n0_1, Bool.false_eq_true, false_implies, reduceCtorEq, en_q]
        simp [bi]
      · simp only [sY_areTwoVariables_0, sY_areTwoVariables_1, sY_areTwoVariables_2, sY_areTwoVariables_5, sY_areTwoVariables_6, sY_areTwoVariables_7, sY_areTwoVariables_10, sY_areTwoVariables_13, sY_areTwoVariables_14, sY_areTwoVariables_15, sY_areTwoVariables_18, sY_areTwoVariables_21, sY_areTwoVariables_22, sY_areTwoVariables_25, sY_areTwoVariables_26, bi_t, en_rdO_eq, en_rdI_eq, en_rdN_eq, en_rdL_eq, true_and, and_true, List.getElem?_cons_succ, List.getElem?_cons_zero, en_gv_eq, if_true, if_false, and_self, or_true, true_or, implies_true, List.length_cons, List.length_nil, Nat.reduceLT, Nat.reduceLeDiff, Nat.reduceAdd, Nat.zero_le, Option.toList_some, Option.toList_none, List.cons_append, List.nil_append, nI_1, rd_t, n1_0, n0_1, Bool.false_eq_true, false_implies, reduceCtorEq, en_q]
        simp [bi, he]
end YC
