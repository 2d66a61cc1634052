/-! StepPile$Rows: writes. -/
theorem en_z0 {n : Nat} : en_z 0 n = .inl (0, n, .inl (fun _ => 0)) := rfl
theorem en_z1 {n : Nat} : en_z 1 n = .inl (1, n, .inr (.inl (fun _ => 0))) := rfl
theorem en_z2 {n : Nat} : en_z 2 n = .inl (2, n, .inl (fun _ => 0)) := rfl
theorem n0_l0 : ((0 : Int32) < 0) = False := eq_false (by decide)
def rw_fr (c : en_H) (x h i j : Nat) (c' : en_H) (i' : Nat) : Prop := (∀ a, a < x → a ≠ h → a ≠ i → a ≠ j → c' a = c a) ∧ (i' = i ∨ x ≤ i')
def rw_gr (N N' x x' u u' : Nat) : Prop := N ≤ N' ∧ x ≤ x' ∧ u ≤ u' ∧ u' + 2 * N ≤ u + 2 * N' ∧ 64 * x' + N ≤ 64 * x + N'
theorem rw_gr_0 {N x u : Nat} : rw_gr N N x x u u := ⟨Nat.le_refl _, Nat.le_refl _, Nat.le_refl _, Nat.le_refl _, Nat.le_refl _⟩
section RE
variable {c : en_H} {x u h i j m N : Nat} {rs : List (List Nat)}
theorem cat_ai {a : Nat} {b : Int32} : ∀ v ∈ ([.ref a, .int b] : List Value), v.category = 1 := cat_2
theorem cA_copyOf {a n : Nat} {f : Nat → Int32} {nn : Int32} (ha : a < x) (ca : c a = .inl (0, N, .inl f)) (hn : nn = nI n) (hN : N < n) (hn2 : n ≤ 1000000) : en_call 1 mA_copyOf [.ref a, .int nn] c x u (some (.ref x)) (en_up (en_up c x (en_z 0 n)) x (.inl (0, n, .inl (va_cpy f (fun _ => 0) 0 0 N)))) (x + 1) (u + n) := by
  subst hn
  have e1 : (nI n = Int32.ofNat N) = False := eq_false (fun e => by have := (nI_eq (a := n) (b := N) (by omega) (by omega)).mp e; omega)
  have e2 : ¬ nI n < 0 := nI_pos (by omega)
  have e3 : (nI n).toNatClampNeg = n := nI_clamp (by omega)
  have e4 : en_up c x (en_z 0 n) a = .inl (0, N, .inl f) := by rw [en_up_n (by omega)]; exact ca
  have e5 : en_up c x (en_z 0 n) x = .inl (0, n, .inl (fun _ => 0)) := by rw [en_up_s]; rfl
  have e6 : ¬ nI n < Int32.ofNat N := fun e => by have := (nI_ltI (a := n) (b := N) (by omega) (by omega)).mp e; omega
  have e7 : ¬ Int32.ofNat N < 0 := nI_pos (n := N) (by omega)
  have e8 : (Int32.ofNat N).toNatClampNeg = N := nI_clamp (n := N) (by omega)
  have e9 : a < x + 1 := by omega
  have e10 : x < x + 1 := by omega
  have e11 : N ≤ n := by omega
  refine en_call_is (by decide) (Nat.le_of_ble_eq_true rfl) cat_2 ?_
  show en_W (en_call 0) mA_copyOf 0 [some (.ref a), some (.int (nI n)), none] [] c x u _
  simp only [sA_copyOf_0, sA_copyOf_1, sA_copyOf_2, sA_copyOf_3, sA_copyOf_6, sA_copyOf_13, sA_copyOf_14, sA_copyOf_15, sA_copyOf_17, sA_copyOf_18, sA_copyOf_19, sA_copyOf_20, sA_copyOf_21, sA_copyOf_22, sA_copyOf_23, sA_copyOf_24, sA_copyOf_25, sA_copyOf_28, sA_copyOf_31, sA_copyOf_32, ca, ha, e1, e2, e3, hn2, e4, e5, e6, e7, e8, e9, e10, e11, n0_l0, sb_cl0, Nat.zero_add, Nat.le_refl, not_false_eq_true, en_rdO_eq, en_rdI_eq, en_rdN_eq, en_rdL_eq, true_and, and_true, List.getElem?_cons_succ, List.getElem?_cons_zero, en_gv_eq, if_true, if_false, and_self, or_true, true_or, implies_true, List.length_cons, List.length_nil, Nat.reduceLT, Nat.reduceLeDiff, Nat.reduceAdd, Nat.zero_le, Option.toList_some, Option.toList_none, List.cons_append, List.nil_append, nI_1, rd_t, n1_0, n0_1, Bool.false_eq_true, false_implies, reduceCtorEq, en_q]
theorem cR_makeRoom {w : Nat} {ww : Int32} (H : rw_at c x h i j m N rs) (hw : ww = nI w) (hb : rs.flatten.length + w ≤ 400000) : ∃ c' x' u' i' N', en_call 2 mR_makeRoom [.ref h, .int ww] c x u none c' x' u' ∧ rw_at c' x' h i' j m N' rs ∧ rs.flatten.length + w ≤ N' ∧ (N' = N ∨ N' ≤ 2 * (rs.flatten.length + w)) ∧ rw_fr c x h i j c' i' ∧ rw_gr N N' x x' u u' ∧ c' j = c j := by
  have H0 := H
  obtain ⟨⟨hh, hi, hj, hij⟩, ho, f, g, ci, cj, hrr⟩ := H
  obtain ⟨a1, a2, a3⟩ := rr_top hrr
  have hN := hrr.2.1
  have hN1 := hrr.2.2.1
  subst hw
  have e1 : (nI (rs.flatten.length + w) ≤ Int32.ofNat N) = (rs.flatten.length + w ≤ N) := propext (nI_leI (b := N) (by omega) (by omega))
  by_cases hg : rs.flatten.length + w ≤ N
  · refine ⟨c, x, u, i, N, ?_, H0, hg, Or.inl rfl, ⟨fun _ _ _ _ _ => rfl, Or.inl rfl⟩, rw_gr_0, rfl⟩
    refine en_call_is (by decide) (Nat.le_of_ble_eq_true rfl) cat_2 ?_
    show en_W (en_call 1) mR_makeRoom 0 [some (.ref h), some (.int (nI w)), none] [] c x u _
    simp only [sR_makeRoom_0, sR_makeRoom_1, sR_makeRoom_4, sR_makeRoom_5, sR_makeRoom_8, sR_makeRoom_9, sR_makeRoom_10, sR_makeRoom_11, sR_makeRoom_12, sR_makeRoom_13, sR_makeRoom_14, sR_makeRoom_17, sR_makeRoom_18, sR_makeRoom_21, sR_makeRoom_22, sR_makeRoom_23, sR_makeRoom_26, sR_makeRoom_27, sR_makeRoom_28, sR_makeRoom_29, sR_makeRoom_32, sR_makeRoom_33, sR_makeRoom_34, sR_makeRoom_37, sR_makeRoom_40, sR_makeRoom_43, ho, hh, ci, cj, hi, hj, a1, a2, a3, nI_add, e1, hg, en_rdO_eq, en_rdI_eq, en_rdN_eq, en_rdL_eq, true_and, and_true, List.getElem?_cons_succ, List.getElem?_cons_zero, en_gv_eq, if_true, if_false, and_self, or_true, true_or, implies_true, List.length_cons, List.length_nil, Nat.reduceLT, Nat.reduceLeDiff, Nat.reduceAdd, Nat.zero_le, Option.toList_some, Option.toList_none, List.cons_append, List.nil_append, nI_1, rd_t, n1_0, n0_1, Bool.false_eq_true, false_implies, reduceCtorEq, en_q]
  · have hne : h ≠ x := by omega
    have hn : ∃ n, n = max (rs.flatten.length + w) (2 * N) := ⟨_, rfl⟩
    obtain ⟨n, hn⟩ := hn
    have hn1 : N < n ∧ n ≤ 2 * (rs.flatten.length + w) ∧ 2 * N ≤ n ∧ rs.flatten.length + w ≤ n := by omega
    have K1 := cA_copyOf (u := u) (nn := nI n) hi ci rfl hn1.1 (by omega)
    have e2 : (if nI (rs.flatten.length + w) < 2 * Int32.ofNat N then 2 * Int32.ofNat N else nI (rs.flatten.length + w)) = nI n := by
      have e3 : 2 * Int32.ofNat N = nI (2 * N) := pk_mul 2 N
      rw [e3]
      by_cases hc : rs.flatten.length + w < 2 * N
      · rw [if_pos (nI_lt hc (by omega))]
        congr 1
        omega
      · rw [if_neg (nI_nlt (by omega) (by omega))]
        congr 1
        omega
    refine ⟨en_up (en_up (en_up c x (en_z 0 n)) x (.inl (0, n, .inl (va_cpy f (fun _ => 0) 0 0 N)))) h (.inr (1, [.ref x, .ref j, .int (nI rs.length)])), x + 1, u + n, x, n, ?_, ?_, by omega, Or.inr (by omega), ?_, ?_, ?_⟩
    · refine en_call_is (by decide) (Nat.le_of_ble_eq_true rfl) cat_2 ?_
      show en_W (en_call 1) mR_makeRoom 0 [some (.ref h), some (.int (nI w)), none] [] c x u _
      simp only [sR_makeRoom_0, sR_makeRoom_1, sR_makeRoom_4, sR_makeRoom_5, sR_makeRoom_8, sR_makeRoom_9, sR_makeRoom_10, sR_makeRoom_11, sR_makeRoom_12, sR_makeRoom_13, sR_makeRoom_14, sR_makeRoom_17, sR_makeRoom_18, sR_makeRoom_21, sR_makeRoom_22, sR_makeRoom_23, sR_makeRoom_26, sR_makeRoom_27, sR_makeRoom_28, sR_makeRoom_29, sR_makeRoom_32, sR_makeRoom_33, sR_makeRoom_34, sR_makeRoom_37, sR_makeRoom_40, sR_makeRoom_43, ho, hh, ci, cj, hi, hj, a1, a2, a3, nI_add, e1, hg, e2, en_rdO_eq, en_rdI_eq, en_rdN_eq, en_rdL_eq, true_and, and_true, List.getElem?_cons_succ, List.getElem?_cons_zero, en_gv_eq, if_true, if_false, and_self, or_true, true_or, implies_true, List.length_cons, List.length_nil, Nat.reduceLT, Nat.reduceLeDiff, Nat.reduceAdd, Nat.zero_le, Option.toList_some, Option.toList_none, List.cons_append, List.nil_append, nI_1, rd_t, n1_0, n0_1, Bool.false_eq_true, false_implies, reduceCtorEq]
      refine en_use (Nat.le_refl _) K1 ?_
      have e4 : en_up (en_up c x (en_z 0 n)) x (.inl (0, n, .inl (va_cpy f (fun _ => 0) 0 0 N))) h = .inr (1, [.ref i, .ref j, .int (nI rs.length)]) := by rw [en_up_n hne, en_up_n hne]; exact ho
      have e5 : h < x + 1 := by omega
      simp only [sR_makeRoom_0, sR_makeRoom_1, sR_makeRoom_4, sR_makeRoom_5, sR_makeRoom_8, sR_makeRoom_9, sR_makeRoom_10, sR_makeRoom_11, sR_makeRoom_12, sR_makeRoom_13, sR_makeRoom_14, sR_makeRoom_17, sR_makeRoom_18, sR_makeRoom_21, sR_makeRoom_22, sR_makeRoom_23, sR_makeRoom_26, sR_makeRoom_27, sR_makeRoom_28, sR_makeRoom_29, sR_makeRoom_32, sR_makeRoom_33, sR_makeRoom_34, sR_makeRoom_37, sR_makeRoom_40, sR_makeRoom_43, e4, e5, en_fk, List.set_cons_zero, List.set_cons_succ, en_rdO_eq, en_rdI_eq, en_rdN_eq, en_rdL_eq, true_and, and_true, List.getElem?_cons_succ, List.getElem?_cons_zero, en_gv_eq, if_true, if_false, and_self, or_true, true_or, implies_true, List.length_cons, List.length_nil, Nat.reduceLT, Nat.reduceLeDiff, Nat.reduceAdd, Nat.zero_le, Option.toList_some, Option.toList_none, List.cons_append, List.nil_append, nI_1, rd_t, n1_0, n0_1, Bool.false_eq_true, false_implies, reduceCtorEq, en_q]
    · refine ⟨⟨by omega, by omega, by omega, by omega⟩, en_up_s _ _ _, va_cpy f (fun _ => 0) 0 0 N, g, ?_, ?_, ?_⟩
      · rw [en_up_n (Ne.symm hne), en_up_s]
      · have hjh : j ≠ h := fun e => by rw [e, ho] at cj; cases cj
        rw [en_up_n hjh, en_up_n (by omega), en_up_n (by omega)]
        exact cj
      · obtain ⟨r1, r2, r3, r4, r5, r6⟩ := hrr
        refine ⟨r1, by omega, ⟨by omega, by omega⟩, r4, fun q hq => ?_, r6⟩
        have e6 : va_cpy f (fun _ => 0) 0 0 N q = f q := by
          rw [pk_cpy_in (by omega) (by omega)]
          simp
        rw [e6]
        exact r5 q hq
    · exact ⟨fun a h1 h2 h3 h4 => by rw [en_up_n h2, en_up_n (by omega), en_up_n (by omega)], Or.inr (Nat.le_refl _)⟩
    · exact ⟨by omega, by omega, by omega, by omega, by omega⟩
    · have hjh : j ≠ h := fun e => by rw [e, ho] at cj; cases cj
      rw [en_up_n hjh, en_up_n (by omega), en_up_n (by omega)]
theorem cR_addEmpty (H : rw_at c x h i j m N rs) (hl : rs.length < m) : ∃ c', en_call 2 mR_addEmpty [.ref h] c x u none c' x u ∧ rw_at c' x h i j m N (rs ++ [[]]) ∧ rw_fr c x h i j c' i := by
  have K1 := cR_isFull (u := u) H
  obtain ⟨⟨hh, hi, hj, hij⟩, ho, f, g, ci, cj, hrr⟩ := H
  obtain ⟨a1, a2, a3⟩ := rr_top hrr
  have hjh : j ≠ h := fun e => by rw [e, ho] at cj; cases cj
  have hih : i ≠ h := fun e => by rw [e, ho] at ci; cases ci
  have b1 : vp_in (nI (rs.length + 1)) (m + 1) := vp_in_nI (by omega) (by have := hrr.2.2.2.1; omega)
  have b2 : (nI (rs.length + 1)).toNatClampNeg = rs.length + 1 := nI_clamp (by have := hrr.2.2.2.1; omega)
  have b3 : ¬ m ≤ rs.length := by omega
  refine ⟨en_up (en_up c j (.inl (0, m + 1, .inl (upd g (rs.length + 1) (nI rs.flatten.length))))) h (.inr (1, [.ref i, .ref j, .int (nI (rs.length + 1))])), ?_, ?_, ?_⟩
  · refine en_call_is (by decide) (Nat.le_of_ble_eq_true rfl) cat_1 ?_
    show en_W (en_call 1) mR_addEmpty 0 [some (.ref h)] [] c x u _
    simp only [sR_addEmpty_0, sR_addEmpty_1, sR_addEmpty_4, sR_addEmpty_7, sR_addEmpty_8, sR_addEmpty_11, sR_addEmpty_12, sR_addEmpty_15, sR_addEmpty_16, sR_addEmpty_17, sR_addEmpty_18, sR_addEmpty_21, sR_addEmpty_22, sR_addEmpty_25, sR_addEmpty_26, sR_addEmpty_27, sR_addEmpty_28, sR_addEmpty_29, sR_addEmpty_32, sR_addEmpty_33, sR_addEmpty_34, sR_addEmpty_37, ho, hh, en_rdO_eq, en_rdI_eq, en_rdN_eq, en_rdL_eq, true_and, and_true, List.getElem?_cons_succ, List.getElem?_cons_zero, en_gv_eq, if_true, if_false, and_self, or_true, true_or, implies_true, List.length_cons, List.length_nil, Nat.reduceLT, Nat.reduceLeDiff, Nat.reduceAdd, Nat.zero_le, Option.toList_some, Option.toList_none, List.cons_append, List.nil_append, nI_1, rd_t, n1_0, n0_1, Bool.false_eq_true, false_implies, reduceCtorEq]
    refine en_use (Nat.le_refl _) K1 ?_
    have e4 : ∀ e, en_up c j e h = .inr (1, [.ref i, .ref j, .int (nI rs.length)]) := fun e => by rw [en_up_n (Ne.symm hjh)]; exact ho
    simp only [sR_addEmpty_0, sR_addEmpty_1, sR_addEmpty_4, sR_addEmpty_7, sR_addEmpty_8, sR_addEmpty_11, sR_addEmpty_12, sR_addEmpty_15, sR_addEmpty_16, sR_addEmpty_17, sR_addEmpty_18, sR_addEmpty_21, sR_addEmpty_22, sR_addEmpty_25, sR_addEmpty_26, sR_addEmpty_27, sR_addEmpty_28, sR_addEmpty_29, sR_addEmpty_32, sR_addEmpty_33, sR_addEmpty_34, sR_addEmpty_37, b3, ho, hh, cj, hj, a1, a2, a3, b1, b2, e4, en_fk, List.set_cons_zero, List.set_cons_succ, en_rdO_eq, en_rdI_eq, en_rdN_eq, en_rdL_eq, true_and, and_true, List.getElem?_cons_succ, List.getElem?_cons_zero, en_gv_eq, if_true, if_false, and_self, or_true, true_or, implies_true, List.length_cons, List.length_nil, Nat.reduceLT, Nat.reduceLeDiff, Nat.reduceAdd, Nat.zero_le, Option.toList_some, Option.toList_none, List.cons_append, List.nil_append, nI_1, rd_t, n1_0, n0_1, Bool.false_eq_true, false_implies, reduceCtorEq, en_q]
  · refine ⟨⟨hh, hi, hj, hij⟩, by rw [en_up_s]; simp, f, upd g (rs.length + 1) (nI rs.flatten.length), ?_, ?_, ?_⟩
    · rw [en_up_n hih, en_up_n hij]; exact ci
    · rw [en_up_n hjh, en_up_s]
    · obtain ⟨r1, r2, r3, r4, r5, r6⟩ := hrr
      have ef : (rs ++ [[]]).flatten = rs.flatten := by simp
      refine ⟨by simp; omega, by rw [ef]; exact r2, r3, r4, by rw [ef]; exact r5, fun k hk => ?_⟩
      by_cases hk2 : k = rs.length + 1
      · subst hk2
        rw [pk_us, ro_app1]
        rfl
      · rw [pk_un hk2, ro_app [] (by simp at hk; omega)]
        exact r6 k (by simp at hk; omega)
  · exact ⟨fun a h1 h2 h3 h4 => by rw [en_up_n h2, en_up_n h4], Or.inl rfl⟩
theorem cR_dropTo {n : Nat} {nn : Int32} (H : rw_at c x h i j m N rs) (hn : nn = nI n) (hle : n ≤ rs.length) : ∃ c', en_call 1 mR_dropTo [.ref h, .int nn] c x u none c' x u ∧ rw_at c' x h i j m N (rs.take n) ∧ ∀ a, a ≠ h → c' a = c a := by
  have H0 := H
  obtain ⟨⟨hh, hi, hj, hij⟩, ho, f, g, ci, cj, hrr⟩ := H
  subst hn
  have hm := hrr.2.2.2.1
  have hl := hrr.1
  have e1 : ¬ nI n < 0 := nI_pos (by omega)
  have e2 : (nI rs.length ≤ nI n) = (rs.length ≤ n) := propext (nI_leI (by omega) (by omega))
  by_cases hc : rs.length ≤ n
  · have hnl : n = rs.length := by omega
    refine ⟨c, ?_, ?_, fun _ _ => rfl⟩
    · refine en_call_is (by decide) (Nat.le_of_ble_eq_true rfl) cat_2 ?_
      show en_W (en_call 0) mR_dropTo 0 [some (.ref h), some (.int (nI n))] [] c x u _
      simp only [sR_dropTo_0, sR_dropTo_1, sR_dropTo_4, sR_dropTo_5, sR_dropTo_6, sR_dropTo_9, sR_dropTo_12, sR_dropTo_13, sR_dropTo_14, sR_dropTo_17, ho, hh, e1, e2, hc, en_rdO_eq, en_rdI_eq, en_rdN_eq, en_rdL_eq, true_and, and_true, List.getElem?_cons_succ, List.getElem?_cons_zero, en_gv_eq, if_true, if_false, and_self, or_true, true_or, implies_true, List.length_cons, List.length_nil, Nat.reduceLT, Nat.reduceLeDiff, Nat.reduceAdd, Nat.zero_le, Option.toList_some, Option.toList_none, List.cons_append, List.nil_append, nI_1, rd_t, n1_0, n0_1, Bool.false_eq_true, false_implies, reduceCtorEq, en_q]
    · rw [hnl, List.take_length]; exact H0
  · have hjh : j ≠ h := fun e => by rw [e, ho] at cj; cases cj
    have hih : i ≠ h := fun e => by rw [e, ho] at ci; cases ci
    refine ⟨en_up c h (.inr (1, [.ref i, .ref j, .int (nI n)])), ?_, ?_, fun a ha => en_up_n ha⟩
    · refine en_call_is (by decide) (Nat.le_of_ble_eq_true rfl) cat_2 ?_
      show en_W (en_call 0) mR_dropTo 0 [some (.ref h), some (.int (nI n))] [] c x u _
      simp only [sR_dropTo_0, sR_dropTo_1, sR_dropTo_4, sR_dropTo_5, sR_dropTo_6, sR_dropTo_9, sR_dropTo_12, sR_dropTo_13, sR_dropTo_14, sR_dropTo_17, ho, hh, e1, e2, hc, en_fk, List.set_cons_zero, List.set_cons_succ, en_rdO_eq, en_rdI_eq, en_rdN_eq, en_rdL_eq, true_and, and_true, List.getElem?_cons_succ, List.getElem?_cons_zero, en_gv_eq, if_true, if_false, and_self, or_true, true_or, implies_true, List.length_cons, List.length_nil, Nat.reduceLT, Nat.reduceLeDiff, Nat.reduceAdd, Nat.zero_le, Option.toList_some, Option.toList_none, List.cons_append, List.nil_append, nI_1, rd_t, n1_0, n0_1, Bool.false_eq_true, false_implies, reduceCtorEq, en_q]
    · have ht : (rs.take n).length = n := by rw [List.length_take]; omega
      refine ⟨⟨hh, hi, hj, hij⟩, by rw [en_up_s, ht], f, g, by rw [en_up_n hih]; exact ci, by rw [en_up_n hjh]; exact cj, ?_⟩
      obtain ⟨r1, r2, r3, r4, r5, r6⟩ := hrr
      have hfl : (rs.take n).flatten.length ≤ rs.flatten.length := by
        have := ro_top rs hle
        unfold ro_of at this
        exact this
      refine ⟨by omega, by omega, r3, r4, fun q hq => ?_, fun k hk => ?_⟩
      · rw [ro_tflat hq]
        exact r5 q (by omega)
      · rw [ro_take (by omega)]
        exact r6 k (by omega)
end RE
