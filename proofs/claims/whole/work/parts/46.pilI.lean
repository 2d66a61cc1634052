/-! the constructors of the class -/
theorem up_ap (c : en_H) (a : Nat) (e : en_C) (j : Nat) : en_up c a e j = if j = a then e else c j := rfl
theorem cat_r2 {a b : Nat} : ∀ v ∈ ([.ref a, .ref b] : List Value), v.category = 1 := by intro v hv; simp at hv; rcases hv with rfl | rfl <;> rfl
theorem cat_r3 {a b d : Nat} : ∀ v ∈ ([.ref a, .ref b, .ref d] : List Value), v.category = 1 := by intro v hv; simp at hv; rcases hv with rfl | rfl | rfl <;> rfl
theorem cl1000 : (nI 1000).toNatClampNeg = 1000 := nI_clamp (by omega)
theorem cl7805 : (nI 7805).toNatClampNeg = 7805 := nI_clamp (by omega)
theorem cl300 : (nI 300).toNatClampNeg = 300 := nI_clamp (by omega)
theorem nn1000 : (nI 1000 < 0) = False := eq_false (nI_pos (by omega))
theorem nn7805 : (nI 7805 < 0) = False := eq_false (nI_pos (by omega))
theorem nn300 : (nI 300 < 0) = False := eq_false (nI_pos (by omega))
section PI
variable {c : en_H} {x u : Nat}
theorem cA_fill {a n : Nat} {f : Nat → Int32} {v : Int32} (ha : a < x) (ca : c a = .inl (0, n, .inl f)) (hn : n ≤ 1000000) : ∃ c', en_call 1 mA_fill [.ref a, .int v] c x u none c' x u ∧ (∃ f', c' a = .inl (0, n, .inl f') ∧ ∀ q, q < n → f' q = v) ∧ ∀ b, b ≠ a → c' b = c b := by
  have hlt : Int32.ofNat n = nI n := rfl
  have loop : ∀ (m k : Nat) (c : en_H) (f : Nat → Int32), k + m = n → c a = .inl (0, n, .inl f) → (∀ q, q < k → f q = v) → ∃ c', en_W (en_call 0) mA_fill 5 [some (.ref a), some (.int v), some (.int (nI k)), some (.int (nI n))] [] c x u (en_q none c' x u) ∧ (∃ f', c' a = .inl (0, n, .inl f') ∧ ∀ q, q < n → f' q = v) ∧ ∀ b, b ≠ a → c' b = c b := by
    intro m
    induction m with
    | zero =>
      intro k c f hk ca hf
      have hk : k = n := by omega
      subst hk
      have e1 : nI k ≤ nI k := Int32.le_refl _
      refine ⟨c, ?_, ⟨f, ca, hf⟩, fun _ _ => rfl⟩
      rw [sA_fill_5]
      simp only [sA_fill_0, sA_fill_1, sA_fill_2, sA_fill_3, sA_fill_4, sA_fill_6, sA_fill_7, sA_fill_10, sA_fill_11, sA_fill_12, sA_fill_13, sA_fill_14, sA_fill_17, sA_fill_20, e1, en_rdO_eq, en_rdI_eq, en_rdN_eq, en_rdL_eq, true_and, and_true, List.getElem?_cons_succ, List.getElem?_cons_zero, en_gv_eq, if_true, if_false, and_self, or_true, true_or, implies_true, List.length_cons, List.length_nil, Nat.reduceLT, Nat.reduceLeDiff, Nat.reduceAdd, Nat.zero_le, Option.toList_some, Option.toList_none, List.cons_append, List.nil_append, nI_1, rd_t, n1_0, n0_1, Bool.false_eq_true, false_implies, reduceCtorEq, en_q]
    | succ m ih =>
      intro k c f hk ca hf
      have e1 : ¬ nI n ≤ nI k := nI_ge (by omega) (by omega)
      have e2 : vp_in (nI k) n := vp_in_nI (by omega) (by omega)
      have e3 : (nI k).toNatClampNeg = k := nI_clamp (by omega)
      obtain ⟨c', h1, h2, h3⟩ := ih (k + 1) (en_up c a (.inl (0, n, .inl (upd f k v)))) (upd f k v) (by omega) (en_up_s _ _ _) (fun q hq => by
        by_cases e : q = k
        · rw [e, pk_us]
        · rw [pk_un e]; exact hf q (by omega))
      refine ⟨c', ?_, h2, fun b hb => (h3 b hb).trans (en_up_n hb)⟩
      rw [sA_fill_5]
      simp only [sA_fill_0, sA_fill_1, sA_fill_2, sA_fill_3, sA_fill_4, sA_fill_6, sA_fill_7, sA_fill_10, sA_fill_11, sA_fill_12, sA_fill_13, sA_fill_14, sA_fill_17, sA_fill_20, e1, e2, e3, ca, ha, en_rdO_eq, en_rdI_eq, en_rdN_eq, en_rdL_eq, true_and, and_true, List.getElem?_cons_succ, List.getElem?_cons_zero, en_gv_eq, if_true, if_false, and_self, or_true, true_or, implies_true, List.length_cons, List.length_nil, Nat.reduceLT, Nat.reduceLeDiff, Nat.reduceAdd, Nat.zero_le, Option.toList_some, Option.toList_none, List.cons_append, List.nil_append, nI_1, rd_t, n1_0, n0_1, Bool.false_eq_true, false_implies, reduceCtorEq]
      exact h1
  obtain ⟨c', h1, h2⟩ := loop n 0 c f (Nat.zero_add _) ca (fun q hq => absurd hq (Nat.not_lt_zero _))
  refine ⟨c', en_call_is (by decide) (Nat.le_of_ble_eq_true rfl) cat_2 ?_, h2⟩
  show en_W (en_call 0) mA_fill 0 [some (.ref a), some (.int v), none, none] [] c x u _
  simp only [sA_fill_0, sA_fill_1, sA_fill_2, sA_fill_3, sA_fill_4, sA_fill_6, sA_fill_7, sA_fill_10, sA_fill_11, sA_fill_12, sA_fill_13, sA_fill_14, sA_fill_17, sA_fill_20, ca, ha, hlt, en_rdO_eq, en_rdI_eq, en_rdN_eq, en_rdL_eq, true_and, and_true, List.getElem?_cons_succ, List.getElem?_cons_zero, en_gv_eq, if_true, if_false, and_self, or_true, true_or, implies_true, List.length_cons, List.length_nil, Nat.reduceLT, Nat.reduceLeDiff, Nat.reduceAdd, Nat.zero_le, Option.toList_some, Option.toList_none, List.cons_append, List.nil_append, nI_1, rd_t, n1_0, n0_1, Bool.false_eq_true, false_implies, reduceCtorEq]
  exact h1
theorem cY_init (ho : c 1 = .inr (2, [.null, .null, .int 0])) : ∃ c', en_call 1 mY_init [.ref 1] c 2 u none c' 4 (u + 8805) ∧ sy_at c' 4 1 2 3 [] (fun _ _ => false) ∧ ∀ a, a ≠ 1 → a ≠ 2 → a ≠ 3 → c' a = c a := by
  refine ⟨en_up (en_up (en_up (en_up (en_up c 2 (en_z 2 1000)) 1 (.inr (2, [.ref 2, .null, .int 0]))) 3 (en_z 1 7805)) 1 (.inr (2, [.ref 2, .ref 3, .int 0]))) 1 (.inr (2, [.ref 2, .ref 3, .int 0])), ?_, ?_, ?_⟩
  · refine en_call_is (by decide) (Nat.le_of_ble_eq_true rfl) cat_1 ?_
    show en_W (en_call 0) mY_init 0 [some (.ref 1)] [] c 2 u _
    simp only [sY_init_0, sY_init_1, sY_init_4, sY_init_5, sY_init_8, sY_init_10, sY_init_13, sY_init_14, sY_init_17, sY_init_19, sY_init_22, sY_init_23, sY_init_24, sY_init_27, cl1000, cl7805, nn1000, nn7805, up_ap, ho, en_fk, List.set_cons_zero, List.set_cons_succ, not_false_eq_true, Nat.reduceEqDiff, en_rdO_eq, en_rdI_eq, en_rdN_eq, en_rdL_eq, true_and, and_true, List.getElem?_cons_succ, List.getElem?_cons_zero, en_gv_eq, if_true, if_false, and_self, or_true, true_or, implies_true, List.length_cons, List.length_nil, Nat.reduceLT, Nat.reduceLeDiff, Nat.reduceAdd, Nat.zero_le, Option.toList_some, Option.toList_none, List.cons_append, List.nil_append, nI_1, rd_t, n1_0, n0_1, Bool.false_eq_true, false_implies, reduceCtorEq, en_q]
    exact fun _ => rfl
  · refine ⟨⟨by omega, by omega, by omega⟩, en_up_s _ _ _, fun _ => 0, fun _ => 0, rfl, rfl, ?_⟩
    exact ⟨Nat.zero_le _, fun s hs => absurd hs (Nat.not_lt_zero _), fun s t _ _ _ => by simp [sy_bit]⟩
  · intro a h1 h2 h3
    rw [en_up_n h1, en_up_n h1, en_up_n h3, en_up_n h1, en_up_n h2]
theorem ini55 : (mt_init 55 = true) = True := eq_true rfl
theorem cT_init (ho : c 4 = .inr (3, [.null, .null, .null, .null, .null, .null, .int 0])) : ∃ c', en_call 2 mT_init [.ref 4, .ref 1] c 5 u none c' 16 (u + 2404) ∧ c' 4 = .inr (3, [.ref 5, .ref 8, .ref 11, .ref 1, .ref 14, .ref 15, .int (-1)]) ∧ (rw_at c' 16 5 6 7 300 64 [] ∧ rw_at c' 16 8 9 10 300 64 [] ∧ rw_at c' 16 11 12 13 300 64 []) ∧ c' 14 = .inl (0, 300, .inl (fun _ => 0)) ∧ (∃ f', c' 15 = .inl (0, 1000, .inl f') ∧ ∀ q, q < 1000 → f' q = -1) ∧ ∀ a, a < 4 → c' a = c a := by
  obtain ⟨c2, K2, R2, F2⟩ := cR_init (c := en_up c 5 (.inr (1, [.null, .null, .int 0]))) (x := 6) (u := u + 3) (h := 5) (m := 300) (mm := nI 300) (by omega) (en_up_s _ _ _) rfl (by omega)
  have a2 : c2 4 = .inr (3, [.null, .null, .null, .null, .null, .null, .int 0]) := (F2 4 (by omega) (by omega)).trans ((en_up_n (by omega)).trans ho)
  obtain ⟨c3, K3, R3, F3⟩ := cR_init (c := en_up (en_up c2 4 (.inr (3, [.ref 5, .null, .null, .null, .null, .null, .int 0]))) 8 (.inr (1, [.null, .null, .int 0]))) (x := 9) (u := u + 3 + 64 + (300 + 1) + 3) (h := 8) (m := 300) (mm := nI 300) (by omega) (en_up_s _ _ _) rfl (by omega)
  have a3 : c3 4 = .inr (3, [.ref 5, .null, .null, .null, .null, .null, .int 0]) := (F3 4 (by omega) (by omega)).trans ((en_up_n (by omega)).trans (en_up_s _ _ _))
  obtain ⟨c4, K4, R4, F4⟩ := cR_init (c := en_up (en_up c3 4 (.inr (3, [.ref 5, .ref 8, .null, .null, .null, .null, .int 0]))) 11 (.inr (1, [.null, .null, .int 0]))) (x := 12) (u := u + 3 + 64 + (300 + 1) + 3 + 64 + (300 + 1) + 3) (h := 11) (m := 300) (mm := nI 300) (by omega) (en_up_s _ _ _) rfl (by omega)
  have a4 : c4 4 = .inr (3, [.ref 5, .ref 8, .null, .null, .null, .null, .int 0]) := (F4 4 (by omega) (by omega)).trans ((en_up_n (by omega)).trans (en_up_s _ _ _))
  obtain ⟨c5, K5, ⟨f', R5, R5b⟩, F5⟩ := cA_fill (c := en_up (en_up (en_up (en_up (en_up (en_up (en_up c4 4 (.inr (3, [.ref 5, .ref 8, .ref 11, .null, .null, .null, .int 0]))) 14 (en_z 0 300)) 4 (.inr (3, [.ref 5, .ref 8, .ref 11, .null, .ref 14, .null, .int 0]))) 15 (en_z 0 1000)) 4 (.inr (3, [.ref 5, .ref 8, .ref 11, .null, .ref 14, .ref 15, .int 0]))) 4 (.inr (3, [.ref 5, .ref 8, .ref 11, .null, .ref 14, .ref 15, .int (-1)]))) 4 (.inr (3, [.ref 5, .ref 8, .ref 11, .ref 1, .ref 14, .ref 15, .int (-1)]))) (x := 16) (u := u + 3 + 64 + (300 + 1) + 3 + 64 + (300 + 1) + 3 + 64 + (300 + 1) + 300 + 1000) (a := 15) (n := 1000) (f := fun _ => 0) (v := -1) (by omega) rfl (by omega)
  have keep4 : ∀ a, a < 14 → a ≠ 4 → c5 a = c4 a := fun a h1 h2 => by
    rw [F5 a (by omega), en_up_n h2, en_up_n h2, en_up_n h2, en_up_n (by omega), en_up_n h2, en_up_n (by omega), en_up_n h2]
  have keep3 : ∀ a, a < 11 → a ≠ 4 → c5 a = c3 a := fun a h1 h2 => by
    rw [keep4 a (by omega) h2, F4 a (by omega) (by omega), en_up_n (by omega), en_up_n h2]
  have keep2 : ∀ a, a < 8 → a ≠ 4 → c5 a = c2 a := fun a h1 h2 => by
    rw [keep3 a (by omega) h2, F3 a (by omega) (by omega), en_up_n (by omega), en_up_n h2]
  refine ⟨c5, ?_, ?_, ⟨?_, ?_, ?_⟩, ?_, ⟨f', R5, R5b⟩, ?_⟩
  · refine en_call_is (by decide) (Nat.le_of_ble_eq_true rfl) cat_r2 ?_
    show en_W (en_call 1) mT_init 0 [some (.ref 4), some (.ref 1)] [] c 5 u _
    simp only [sT_init_0, sT_init_1, sT_init_4, sT_init_5, sT_init_8, sT_init_9, sT_init_12, sT_init_15, sT_init_18, sT_init_19, sT_init_22, sT_init_23, sT_init_26, sT_init_29, sT_init_32, sT_init_33, sT_init_36, sT_init_37, sT_init_40, sT_init_43, sT_init_46, sT_init_47, sT_init_50, sT_init_52, sT_init_55, sT_init_56, sT_init_59, sT_init_61, sT_init_64, sT_init_65, sT_init_66, sT_init_69, sT_init_70, sT_init_71, sT_init_74, sT_init_75, sT_init_78, sT_init_79, sT_init_82, en_rdO_eq, en_rdI_eq, en_rdN_eq, en_rdL_eq, true_and, and_true, List.getElem?_cons_succ, List.getElem?_cons_zero, en_gv_eq, if_true, if_false, and_self, or_true, true_or, implies_true, List.length_cons, List.length_nil, Nat.reduceLT, Nat.reduceLeDiff, Nat.reduceAdd, Nat.zero_le, Option.toList_some, Option.toList_none, List.cons_append, List.nil_append, nI_1, rd_t, n1_0, n0_1, Bool.false_eq_true, false_implies, reduceCtorEq]
    refine en_use (by decide) K2 ?_
    simp only [sT_init_0, sT_init_1, sT_init_4, sT_init_5, sT_init_8, sT_init_9, sT_init_12, sT_init_15, sT_init_18, sT_init_19, sT_init_22, sT_init_23, sT_init_26, sT_init_29, sT_init_32, sT_init_33, sT_init_36, sT_init_37, sT_init_40, sT_init_43, sT_init_46, sT_init_47, sT_init_50, sT_init_52, sT_init_55, sT_init_56, sT_init_59, sT_init_61, sT_init_64, sT_init_65, sT_init_66, sT_init_69, sT_init_70, sT_init_71, sT_init_74, sT_init_75, sT_init_78, sT_init_79, sT_init_82, a2, en_fk, List.set_cons_zero, List.set_cons_succ, forall_const, ini55, en_rdO_eq, en_rdI_eq, en_rdN_eq, en_rdL_eq, true_and, and_true, List.getElem?_cons_succ, List.getElem?_cons_zero, en_gv_eq, if_true, if_false, and_self, or_true, true_or, implies_true, List.length_cons, List.length_nil, Nat.reduceLT, Nat.reduceLeDiff, Nat.reduceAdd, Nat.zero_le, Option.toList_some, Option.toList_none, List.cons_append, List.nil_append, nI_1, rd_t, n1_0, n0_1, Bool.false_eq_true, false_implies, reduceCtorEq]
    refine en_use (by decide) K3 ?_
    simp only [sT_init_0, sT_init_1, sT_init_4, sT_init_5, sT_init_8, sT_init_9, sT_init_12, sT_init_15, sT_init_18, sT_init_19, sT_init_22, sT_init_23, sT_init_26, sT_init_29, sT_init_32, sT_init_33, sT_init_36, sT_init_37, sT_init_40, sT_init_43, sT_init_46, sT_init_47, sT_init_50, sT_init_52, sT_init_55, sT_init_56, sT_init_59, sT_init_61, sT_init_64, sT_init_65, sT_init_66, sT_init_69, sT_init_70, sT_init_71, sT_init_74, sT_init_75, sT_init_78, sT_init_79, sT_init_82, a3, en_fk, List.set_cons_zero, List.set_cons_succ, forall_const, ini55, en_rdO_eq, en_rdI_eq, en_rdN_eq, en_rdL_eq, true_and, and_true, List.getElem?_cons_succ, List.getElem?_cons_zero, en_gv_eq, if_true, if_false, and_self, or_true, true_or, implies_true, List.length_cons, List.length_nil, Nat.reduceLT, Nat.reduceLeDiff, Nat.reduceAdd, Nat.zero_le, Option.toList_some, Option.toList_none, List.cons_append, List.nil_append, nI_1, rd_t, n1_0, n0_1, Bool.false_eq_true, false_implies, reduceCtorEq]
    refine en_use (by decide) K4 ?_
    simp only [sT_init_0, sT_init_1, sT_init_4, sT_init_5, sT_init_8, sT_init_9, sT_init_12, sT_init_15, sT_init_18, sT_init_19, sT_init_22, sT_init_23, sT_init_26, sT_init_29, sT_init_32, sT_init_33, sT_init_36, sT_init_37, sT_init_40, sT_init_43, sT_init_46, sT_init_47, sT_init_50, sT_init_52, sT_init_55, sT_init_56, sT_init_59, sT_init_61, sT_init_64, sT_init_65, sT_init_66, sT_init_69, sT_init_70, sT_init_71, sT_init_74, sT_init_75, sT_init_78, sT_init_79, sT_init_82, a4, up_ap, cl1000, cl300, nn1000, nn300, not_false_eq_true, Nat.reduceEqDiff, en_fk, List.set_cons_zero, List.set_cons_succ, forall_const, ini55, en_rdO_eq, en_rdI_eq, en_rdN_eq, en_rdL_eq, true_and, and_true, List.getElem?_cons_succ, List.getElem?_cons_zero, en_gv_eq, if_true, if_false, and_self, or_true, true_or, implies_true, List.length_cons, List.length_nil, Nat.reduceLT, Nat.reduceLeDiff, Nat.reduceAdd, Nat.zero_le, Option.toList_some, Option.toList_none, List.cons_append, List.nil_append, nI_1, rd_t, n1_0, n0_1, Bool.false_eq_true, false_implies, reduceCtorEq]
    refine en_use (by decide) K5 ?_
    simp only [sT_init_0, sT_init_1, sT_init_4, sT_init_5, sT_init_8, sT_init_9, sT_init_12, sT_init_15, sT_init_18, sT_init_19, sT_init_22, sT_init_23, sT_init_26, sT_init_29, sT_init_32, sT_init_33, sT_init_36, sT_init_37, sT_init_40, sT_init_43, sT_init_46, sT_init_47, sT_init_50, sT_init_52, sT_init_55, sT_init_56, sT_init_59, sT_init_61, sT_init_64, sT_init_65, sT_init_66, sT_init_69, sT_init_70, sT_init_71, sT_init_74, sT_init_75, sT_init_78, sT_init_79, sT_init_82, en_rdO_eq, en_rdI_eq, en_rdN_eq, en_rdL_eq, true_and, and_true, List.getElem?_cons_succ, List.getElem?_cons_zero, en_gv_eq, if_true, if_false, and_self, or_true, true_or, implies_true, List.length_cons, List.length_nil, Nat.reduceLT, Nat.reduceLeDiff, Nat.reduceAdd, Nat.zero_le, Option.toList_some, Option.toList_none, List.cons_append, List.nil_append, nI_1, rd_t, n1_0, n0_1, Bool.false_eq_true, false_implies, reduceCtorEq, en_q]
  · rw [F5 4 (by omega), en_up_s]
  · exact rw_keep R2 (by omega) (keep2 5 (by omega) (by omega)) (keep2 6 (by omega) (by omega)) (keep2 7 (by omega) (by omega))
  · exact rw_keep R3 (by omega) (keep3 8 (by omega) (by omega)) (keep3 9 (by omega) (by omega)) (keep3 10 (by omega) (by omega))
  · exact rw_keep R4 (by omega) (keep4 11 (by omega) (by omega)) (keep4 12 (by omega) (by omega)) (keep4 13 (by omega) (by omega))
  · rw [F5 14 (by omega), en_up_n (by omega), en_up_n (by omega), en_up_n (by omega), en_up_n (by omega), en_up_n (by omega), en_up_s]
    rfl
  · intro a h
    rw [keep2 a (by omega) (by omega), F2 a (by omega) (by omega), en_up_n (by omega)]
theorem cB_init (ho : c 22 = .inr (4, [.null, .null, .null, .null, .int 0, .null, .int 0])) : ∃ c', en_call 2 mB_init [.ref 22, .ref 1, .ref 16] c 23 u none c' 28 (u + 2128) ∧ c' 22 = .inr (4, [.ref 1, .ref 16, .ref 23, .ref 24, .int 0, .ref 27, .int 0]) ∧ rw_at c' 28 24 25 26 60 64 [] ∧ c' 23 = .inl (0, 1000, .inl (fun _ => 0)) ∧ c' 27 = .inl (0, 1000, .inl (fun _ => 0)) ∧ ∀ a, a < 22 → c' a = c a := by
  obtain ⟨c2, K2, R2, F2⟩ := cR_init (c := en_up (en_up (en_up c 23 (en_z 0 1000)) 22 (.inr (4, [.null, .null, .ref 23, .null, .int 0, .null, .int 0]))) 24 (.inr (1, [.null, .null, .int 0]))) (x := 25) (u := u + 1000 + 3) (h := 24) (m := 60) (mm := nI 60) (by omega) (en_up_s _ _ _) rfl (by omega)
  have a2 : c2 22 = .inr (4, [.null, .null, .ref 23, .null, .int 0, .null, .int 0]) := (F2 22 (by omega) (by omega)).trans ((en_up_n (by omega)).trans (en_up_s _ _ _))
  refine ⟨en_up (en_up (en_up (en_up (en_up (en_up (en_up c2 22 (.inr (4, [.null, .null, .ref 23, .ref 24, .int 0, .null, .int 0]))) 22 (.inr (4, [.null, .null, .ref 23, .ref 24, .int 0, .null, .int 0]))) 27 (en_z 0 1000)) 22 (.inr (4, [.null, .null, .ref 23, .ref 24, .int 0, .ref 27, .int 0]))) 22 (.inr (4, [.null, .null, .ref 23, .ref 24, .int 0, .ref 27, .int 0]))) 22 (.inr (4, [.ref 1, .null, .ref 23, .ref 24, .int 0, .ref 27, .int 0]))) 22 (.inr (4, [.ref 1, .ref 16, .ref 23, .ref 24, .int 0, .ref 27, .int 0])), ?_, en_up_s _ _ _, ?_, ?_, ?_, ?_⟩
  · refine en_call_is (by decide) (Nat.le_of_ble_eq_true rfl) cat_r3 ?_
    show en_W (en_call 1) mB_init 0 [some (.ref 22), some (.ref 1), some (.ref 16)] [] c 23 u _
    simp only [sB_init_0, sB_init_1, sB_init_4, sB_init_5, sB_init_8, sB_init_10, sB_init_13, sB_init_14, sB_init_17, sB_init_18, sB_init_20, sB_init_23, sB_init_26, sB_init_27, sB_init_28, sB_init_31, sB_init_32, sB_init_35, sB_init_37, sB_init_40, sB_init_41, sB_init_42, sB_init_45, sB_init_46, sB_init_47, sB_init_50, sB_init_51, sB_init_52, sB_init_55, ho, up_ap, cl1000, nn1000, not_false_eq_true, Nat.reduceEqDiff, en_fk, List.set_cons_zero, List.set_cons_succ, forall_const, en_rdO_eq, en_rdI_eq, en_rdN_eq, en_rdL_eq, true_and, and_true, List.getElem?_cons_succ, List.getElem?_cons_zero, en_gv_eq, if_true, if_false, and_self, or_true, true_or, implies_true, List.length_cons, List.length_nil, Nat.reduceLT, Nat.reduceLeDiff, Nat.reduceAdd, Nat.zero_le, Option.toList_some, Option.toList_none, List.cons_append, List.nil_append, nI_1, rd_t, n1_0, n0_1, Bool.false_eq_true, false_implies, reduceCtorEq]
    refine ⟨rfl, ?_⟩
    refine en_use (by decide) K2 ?_
    simp only [sB_init_0, sB_init_1, sB_init_4, sB_init_5, sB_init_8, sB_init_10, sB_init_13, sB_init_14, sB_init_17, sB_init_18, sB_init_20, sB_init_23, sB_init_26, sB_init_27, sB_init_28, sB_init_31, sB_init_32, sB_init_35, sB_init_37, sB_init_40, sB_init_41, sB_init_42, sB_init_45, sB_init_46, sB_init_47, sB_init_50, sB_init_51, sB_init_52, sB_init_55, a2, up_ap, cl1000, nn1000, not_false_eq_true, Nat.reduceEqDiff, en_fk, List.set_cons_zero, List.set_cons_succ, forall_const, en_rdO_eq, en_rdI_eq, en_rdN_eq, en_rdL_eq, true_and, and_true, List.getElem?_cons_succ, List.getElem?_cons_zero, en_gv_eq, if_true, if_false, and_self, or_true, true_or, implies_true, List.length_cons, List.length_nil, Nat.reduceLT, Nat.reduceLeDiff, Nat.reduceAdd, Nat.zero_le, Option.toList_some, Option.toList_none, List.cons_append, List.nil_append, nI_1, rd_t, n1_0, n0_1, Bool.false_eq_true, false_implies, reduceCtorEq, en_q]
    rfl
  · refine rw_keep R2 (by omega) ?_ ?_ ?_ <;> rw [en_up_n (by omega), en_up_n (by omega), en_up_n (by omega), en_up_n (by omega), en_up_n (by omega), en_up_n (by omega), en_up_n (by omega)]
  · rw [en_up_n (by omega), en_up_n (by omega), en_up_n (by omega), en_up_n (by omega), en_up_n (by omega), en_up_n (by omega), en_up_n (by omega), F2 23 (by omega) (by omega), en_up_n (by omega), en_up_n (by omega), en_up_s]
    rfl
  · rw [en_up_n (by omega), en_up_n (by omega), en_up_n (by omega), en_up_n (by omega), en_up_s]
    rfl
  · intro a h
    rw [en_up_n (by omega), en_up_n (by omega), en_up_n (by omega), en_up_n (by omega), en_up_n (by omega), en_up_n (by omega), en_up_n (by omega), F2 a (by omega) (by omega), en_up_n (by omega), en_up_n (by omega), en_up_n (by omega)]
end PI
