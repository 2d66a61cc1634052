/-! StepPile$Rows: numbers and rows added, the constructor. -/
section RF
variable {c : en_H} {x u h i j m N : Nat} {rs : List (List Nat)}
theorem rw_ne {i' : Nat} (H : rw_at c x h i j m N rs) : i ≠ h ∧ j ≠ h ∧ i ≠ j := by
  obtain ⟨⟨hh, hi, hj, hij⟩, ho, f, g, ci, cj, hrr⟩ := H
  exact ⟨(fun e => by rw [e, ho] at ci; cases ci), (fun e => by rw [e, ho] at cj; cases cj), hij⟩
theorem ro_last {ini : List (List Nat)} {l : List Nat} {v k : Nat} (hk : k ≤ ini.length) : ro_of (ini ++ [l ++ [v]]) k = ro_of (ini ++ [l]) k := by
  rw [ro_app _ hk, ro_app _ hk]
theorem cR_append {v : Nat} {vv : Int32} {ini : List (List Nat)} {l : List Nat} (H : rw_at c x h i j m N (ini ++ [l])) (hv : vv = nI v) (hv2 : v < 1000000) (hb : (ini ++ [l]).flatten.length + 1 ≤ 400000) : ∃ c' x' u' i' N', en_call 3 mR_append [.ref h, .int vv] c x u none c' x' u' ∧ rw_at c' x' h i' j m N' (ini ++ [l ++ [v]]) ∧ (N' = N ∨ N' ≤ 2 * ((ini ++ [l]).flatten.length + 1)) ∧ rw_fr c x h i j c' i' ∧ rw_gr N N' x x' u u' := by
  obtain ⟨c1, x1, u1, i1, N1, K1, H1, hcap, hN1, hfr, hgr, hcj⟩ := cR_makeRoom (u := u) (ww := 1) (w := 1) H rfl hb
  have hne := rw_ne (i' := 0) H
  have hne1 := rw_ne (i' := 0) H1
  have hlen : (ini ++ [l]).length = ini.length + 1 := by simp
  have hm := H.2.2.choose_spec.choose_spec.2.2.2.2.2.1
  have hm1 := H.2.2.choose_spec.choose_spec.2.2.1
  obtain ⟨⟨hh, hi, hj, hij⟩, ho, -⟩ := H
  obtain ⟨⟨hh1, hi1, hj1, hij1⟩, ho1, f1, g1, ci1, cj1, hrr1⟩ := H1
  obtain ⟨a1, a2, a3⟩ := rr_top hrr1
  subst hv
  have e1 : ¬ nI (ini ++ [l]).length ≤ 0 := nI_nle (by omega) (by omega)
  have hF := hrr1.2.1
  have hF2 := hrr1.2.2.1.2
  have b1 : vp_in (nI (ini ++ [l]).flatten.length) N1 := vp_in_nI (by omega) (by omega)
  have b2 : (nI (ini ++ [l]).flatten.length).toNatClampNeg = (ini ++ [l]).flatten.length := nI_clamp (by omega)
  refine ⟨en_up (en_up c1 i1 (.inl (0, N1, .inl (upd f1 (ini ++ [l]).flatten.length (nI v))))) j (.inl (0, m + 1, .inl (upd g1 (ini ++ [l]).length (nI ((ini ++ [l]).flatten.length + 1))))), x1, u1, i1, N1, ?_, ?_, hN1, ?_, hgr⟩
  · refine en_call_is (by decide) (Nat.le_of_ble_eq_true rfl) cat_2 ?_
    show en_W (en_call 2) mR_append 0 [some (.ref h), some (.int (nI v))] [] c x u _
    simp only [sR_append_0, sR_append_1, sR_append_4, sR_append_7, sR_append_8, sR_append_9, sR_append_12, sR_append_13, sR_append_16, sR_append_17, sR_append_20, sR_append_21, sR_append_24, sR_append_25, sR_append_26, sR_append_27, sR_append_28, sR_append_31, sR_append_32, sR_append_35, sR_append_36, sR_append_37, sR_append_38, sR_append_39, sR_append_40, ho, hh, e1, en_rdO_eq, en_rdI_eq, en_rdN_eq, en_rdL_eq, true_and, and_true, List.getElem?_cons_succ, List.getElem?_cons_zero, en_gv_eq, if_true, if_false, and_self, or_true, true_or, implies_true, List.length_cons, List.length_nil, Nat.reduceLT, Nat.reduceLeDiff, Nat.reduceAdd, Nat.zero_le, Option.toList_some, Option.toList_none, List.cons_append, List.nil_append, nI_1, rd_t, n1_0, n0_1, Bool.false_eq_true, false_implies, reduceCtorEq]
    refine en_use (Nat.le_refl _) K1 ?_
    have e2 : ∀ e, en_up c1 i1 e h = .inr (1, [.ref i1, .ref j, .int (nI (ini ++ [l]).length)]) := fun e => by rw [en_up_n (Ne.symm hne1.1)]; exact ho1
    have e3 : ∀ e, en_up c1 i1 e j = .inl (0, m + 1, .inl g1) := fun e => by rw [en_up_n (Ne.symm hij1)]; exact cj1
    simp only [sR_append_0, sR_append_1, sR_append_4, sR_append_7, sR_append_8, sR_append_9, sR_append_12, sR_append_13, sR_append_16, sR_append_17, sR_append_20, sR_append_21, sR_append_24, sR_append_25, sR_append_26, sR_append_27, sR_append_28, sR_append_31, sR_append_32, sR_append_35, sR_append_36, sR_append_37, sR_append_38, sR_append_39, sR_append_40, ho1, hh1, ci1, cj1, hi1, hj1, a1, a2, a3, b1, b2, e2, e3, en_rdO_eq, en_rdI_eq, en_rdN_eq, en_rdL_eq, true_and, and_true, List.getElem?_cons_succ, List.getElem?_cons_zero, en_gv_eq, if_true, if_false, and_self, or_true, true_or, implies_true, List.length_cons, List.length_nil, Nat.reduceLT, Nat.reduceLeDiff, Nat.reduceAdd, Nat.zero_le, Option.toList_some, Option.toList_none, List.cons_append, List.nil_append, nI_1, rd_t, n1_0, n0_1, Bool.false_eq_true, false_implies, reduceCtorEq, en_q]
  · have efl : (ini ++ [l ++ [v]]).flatten = (ini ++ [l]).flatten ++ [v] := by simp
    refine ⟨⟨hh1, hi1, hj1, hij1⟩, ?_, upd f1 (ini ++ [l]).flatten.length (nI v), upd g1 (ini ++ [l]).length (nI ((ini ++ [l]).flatten.length + 1)), ?_, ?_, ?_⟩
    · rw [en_up_n (Ne.symm hne1.2.1), en_up_n (Ne.symm hne1.1), ho1]; simp
    · rw [en_up_n hij1, en_up_s]
    · rw [en_up_s]
    · obtain ⟨r1, r2, r3, r4, r5, r6⟩ := hrr1
      refine ⟨by simp at r1 ⊢; omega, by rw [efl]; simp only [List.length_append, List.length_cons, List.length_nil] at hcap ⊢; omega, r3, r4, fun q hq => ?_, fun k hk => ?_⟩
      · rw [efl] at hq ⊢
        by_cases hq2 : q = (ini ++ [l]).flatten.length
        · subst hq2
          rw [pk_us, List.getD_eq_getElem?_getD, List.getElem?_append_right (Nat.le_refl _)]
          simp only [Nat.sub_self, List.getElem?_cons_zero, Option.getD_some]
          exact ⟨trivial, hv2⟩
        · rw [pk_un hq2, List.getD_eq_getElem?_getD, List.getElem?_append_left (by rw [List.length_append] at hq; simp only [List.length_cons, List.length_nil] at hq; omega), ← List.getD_eq_getElem?_getD]
          exact r5 q (by rw [List.length_append] at hq; simp only [List.length_cons, List.length_nil] at hq; omega)
      · by_cases hk2 : k = (ini ++ [l]).length
        · subst hk2
          rw [pk_us, show (ini ++ [l]).length = (ini ++ [l ++ [v]]).length by simp, ro_len, efl]
          simp [Nat.add_assoc]
        · rw [pk_un hk2, ro_last (by simp at hk hk2; omega)]
          exact r6 k (by simp at hk hk2 ⊢; omega)
  · refine ⟨fun a h1 h2 h3 h4 => ?_, hfr.2⟩
    have : a ≠ i1 := by rcases hfr.2 with q | q <;> omega
    rw [en_up_n h4, en_up_n this]
    exact hfr.1 a h1 h2 h3 h4
theorem cat_p {a b : Nat} {c d : Int32} : ∀ v ∈ ([.ref a, .ref b, .int c, .int d] : List Value), v.category = 1 := by intro v hv; simp at hv; rcases hv with rfl | rfl | rfl | rfl <;> rfl
theorem cR_addPart {a M s : Nat} {tf : Nat → Int32} {l : List Nat} {ss zz : Int32} (H : rw_at c x h i j m N rs) (ha : a < x) (ca : c a = .inl (0, M, .inl tf)) (hai : a ≠ i) (haj : a ≠ j) (hs : ss = nI s) (hz : zz = nI l.length) (hM : s + l.length ≤ M) (hM2 : M < 1000000000) (hl : ∀ q, q < l.length → tf (s + q) = nI (l.getD q 0) ∧ l.getD q 0 < 1000000) (hm : rs.length < m) (hb : rs.flatten.length + l.length ≤ 400000) :
    ∃ c' x' u' i' N', en_call 3 mR_addPart [.ref h, .ref a, .int ss, .int zz] c x u none c' x' u' ∧ rw_at c' x' h i' j m N' (rs ++ [l]) ∧ (N' = N ∨ N' ≤ 2 * (rs.flatten.length + l.length)) ∧ rw_fr c x h i j c' i' ∧ rw_gr N N' x x' u u' := by
  have K0 := cR_isFull (u := u) H
  obtain ⟨c1, x1, u1, i1, N1, K1, H1, hcap, hN1, hfr, hgr, hcj⟩ := cR_makeRoom (u := u) (ww := zz) (w := l.length) H hz hb
  have hne := rw_ne (i' := 0) H
  have hne1 := rw_ne (i' := 0) H1
  have hmm := H.2.2.choose_spec.choose_spec.2.2.2.2.2.1
  obtain ⟨⟨hh, hi, hj, hij⟩, ho, -⟩ := H
  have hah : a ≠ h := fun e => by rw [e, ho] at ca; cases ca
  have ca1 : c1 a = .inl (0, M, .inl tf) := by rw [hfr.1 a ha hah hai haj]; exact ca
  have hai1 : a ≠ i1 := by rcases hfr.2 with q | q <;> omega
  have ha1 : a < x1 := by have := hgr.2.1; omega
  obtain ⟨⟨hh1, hi1, hj1, hij1⟩, ho1, f1, g1, ci1, cj1, hrr1⟩ := H1
  obtain ⟨a1, a2, a3⟩ := rr_top hrr1
  subst hs hz
  have hF := hrr1.2.1
  have hF2 := hrr1.2.2.1.2
  have b0 : ¬ m ≤ rs.length := by omega
  have b1 : ¬ nI s < 0 := nI_pos (by omega)
  have b2 : ¬ nI l.length < 0 := nI_pos (by omega)
  have b3 : nI s ≤ Int32.ofNat M - nI l.length := by
    show nI s ≤ nI M - nI l.length
    rw [pk_sub (by omega)]
    exact nI_le (by omega) (by omega)
  have b4 : (nI s).toNatClampNeg = s := nI_clamp (by omega)
  have b5 : (nI l.length).toNatClampNeg = l.length := nI_clamp (by omega)
  have b6 : (nI rs.flatten.length).toNatClampNeg = rs.flatten.length := nI_clamp (by omega)
  have b7 : ¬ nI rs.flatten.length < 0 := nI_pos (by omega)
  have d1 : vp_in (nI (rs.length + 1)) (m + 1) := vp_in_nI (by omega) (by omega)
  have d2 : (nI (rs.length + 1)).toNatClampNeg = rs.length + 1 := nI_clamp (by omega)
  refine ⟨en_up (en_up (en_up c1 i1 (.inl (0, N1, .inl (va_cpy tf f1 s rs.flatten.length l.length)))) j (.inl (0, m + 1, .inl (upd g1 (rs.length + 1) (nI (rs.flatten.length + l.length)))))) h (.inr (1, [.ref i1, .ref j, .int (nI (rs.length + 1))])), x1, u1, i1, N1, ?_, ?_, hN1, ?_, hgr⟩
  · refine en_call_is (by decide) (Nat.le_of_ble_eq_true rfl) cat_p ?_
    show en_W (en_call 2) mR_addPart 0 [some (.ref h), some (.ref a), some (.int (nI s)), some (.int (nI l.length))] [] c x u _
    simp only [sR_addPart_0, sR_addPart_1, sR_addPart_4, sR_addPart_7, sR_addPart_8, sR_addPart_11, sR_addPart_12, sR_addPart_15, sR_addPart_16, sR_addPart_17, sR_addPart_18, sR_addPart_19, sR_addPart_20, sR_addPart_23, sR_addPart_24, sR_addPart_25, sR_addPart_26, sR_addPart_29, sR_addPart_30, sR_addPart_31, sR_addPart_32, sR_addPart_35, sR_addPart_36, sR_addPart_39, sR_addPart_40, sR_addPart_43, sR_addPart_44, sR_addPart_45, sR_addPart_48, sR_addPart_49, sR_addPart_52, sR_addPart_53, sR_addPart_56, sR_addPart_57, sR_addPart_58, sR_addPart_59, sR_addPart_62, sR_addPart_63, sR_addPart_66, sR_addPart_67, sR_addPart_68, sR_addPart_69, sR_addPart_70, sR_addPart_71, sR_addPart_72, sR_addPart_75, sR_addPart_76, sR_addPart_77, sR_addPart_80, ho, hh, en_rdO_eq, en_rdI_eq, en_rdN_eq, en_rdL_eq, true_and, and_true, List.getElem?_cons_succ, List.getElem?_cons_zero, en_gv_eq, if_true, if_false, and_self, or_true, true_or, implies_true, List.length_cons, List.length_nil, Nat.reduceLT, Nat.reduceLeDiff, Nat.reduceAdd, Nat.zero_le, Option.toList_some, Option.toList_none, List.cons_append, List.nil_append, nI_1, rd_t, n1_0, n0_1, Bool.false_eq_true, false_implies, reduceCtorEq]
    refine en_use (by decide) K0 ?_
    simp only [sR_addPart_0, sR_addPart_1, sR_addPart_4, sR_addPart_7, sR_addPart_8, sR_addPart_11, sR_addPart_12, sR_addPart_15, sR_addPart_16, sR_addPart_17, sR_addPart_18, sR_addPart_19, sR_addPart_20, sR_addPart_23, sR_addPart_24, sR_addPart_25, sR_addPart_26, sR_addPart_29, sR_addPart_30, sR_addPart_31, sR_addPart_32, sR_addPart_35, sR_addPart_36, sR_addPart_39, sR_addPart_40, sR_addPart_43, sR_addPart_44, sR_addPart_45, sR_addPart_48, sR_addPart_49, sR_addPart_52, sR_addPart_53, sR_addPart_56, sR_addPart_57, sR_addPart_58, sR_addPart_59, sR_addPart_62, sR_addPart_63, sR_addPart_66, sR_addPart_67, sR_addPart_68, sR_addPart_69, sR_addPart_70, sR_addPart_71, sR_addPart_72, sR_addPart_75, sR_addPart_76, sR_addPart_77, sR_addPart_80, b0, b1, b2, b3, ca, ha, ho, hh, en_rdO_eq, en_rdI_eq, en_rdN_eq, en_rdL_eq, true_and, and_true, List.getElem?_cons_succ, List.getElem?_cons_zero, en_gv_eq, if_true, if_false, and_self, or_true, true_or, implies_true, List.length_cons, List.length_nil, Nat.reduceLT, Nat.reduceLeDiff, Nat.reduceAdd, Nat.zero_le, Option.toList_some, Option.toList_none, List.cons_append, List.nil_append, nI_1, rd_t, n1_0, n0_1, Bool.false_eq_true, false_implies, reduceCtorEq]
    refine en_use (Nat.le_refl _) K1 ?_
    have e2 : ∀ e, en_up c1 i1 e h = .inr (1, [.ref i1, .ref j, .int (nI rs.length)]) := fun e => by rw [en_up_n (Ne.symm hne1.1)]; exact ho1
    have e3 : ∀ e, en_up c1 i1 e j = .inl (0, m + 1, .inl g1) := fun e => by rw [en_up_n (Ne.symm hij1)]; exact cj1
    have e4 : ∀ e e', en_up (en_up c1 i1 e) j e' h = .inr (1, [.ref i1, .ref j, .int (nI rs.length)]) := fun e e' => by rw [en_up_n (Ne.symm hne1.2.1)]; exact e2 e
    simp only [sR_addPart_0, sR_addPart_1, sR_addPart_4, sR_addPart_7, sR_addPart_8, sR_addPart_11, sR_addPart_12, sR_addPart_15, sR_addPart_16, sR_addPart_17, sR_addPart_18, sR_addPart_19, sR_addPart_20, sR_addPart_23, sR_addPart_24, sR_addPart_25, sR_addPart_26, sR_addPart_29, sR_addPart_30, sR_addPart_31, sR_addPart_32, sR_addPart_35, sR_addPart_36, sR_addPart_39, sR_addPart_40, sR_addPart_43, sR_addPart_44, sR_addPart_45, sR_addPart_48, sR_addPart_49, sR_addPart_52, sR_addPart_53, sR_addPart_56, sR_addPart_57, sR_addPart_58, sR_addPart_59, sR_addPart_62, sR_addPart_63, sR_addPart_66, sR_addPart_67, sR_addPart_68, sR_addPart_69, sR_addPart_70, sR_addPart_71, sR_addPart_72, sR_addPart_75, sR_addPart_76, sR_addPart_77, sR_addPart_80, ho1, hh1, ca1, ha1, ci1, cj1, hi1, hj1, a1, a2, a3, b1, b2, b4, b5, b6, b7, hM, hcap, d1, d2, nI_add, e2, e3, e4, en_fk, List.set_cons_zero, List.set_cons_succ, not_false_eq_true, en_rdO_eq, en_rdI_eq, en_rdN_eq, en_rdL_eq, true_and, and_true, List.getElem?_cons_succ, List.getElem?_cons_zero, en_gv_eq, if_true, if_false, and_self, or_true, true_or, implies_true, List.length_cons, List.length_nil, Nat.reduceLT, Nat.reduceLeDiff, Nat.reduceAdd, Nat.zero_le, Option.toList_some, Option.toList_none, List.cons_append, List.nil_append, nI_1, rd_t, n1_0, n0_1, Bool.false_eq_true, false_implies, reduceCtorEq, en_q]
  · have efl : (rs ++ [l]).flatten = rs.flatten ++ l := by simp
    refine ⟨⟨hh1, hi1, hj1, hij1⟩, by rw [en_up_s]; simp, va_cpy tf f1 s rs.flatten.length l.length, upd g1 (rs.length + 1) (nI (rs.flatten.length + l.length)), ?_, ?_, ?_⟩
    · rw [en_up_n hne1.1, en_up_n hij1, en_up_s]
    · rw [en_up_n hne1.2.1, en_up_s]
    · obtain ⟨r1, r2, r3, r4, r5, r6⟩ := hrr1
      refine ⟨by simp; omega, by rw [efl, List.length_append]; omega, r3, r4, fun q hq => ?_, fun k hk => ?_⟩
      · rw [efl] at hq ⊢
        rw [List.length_append] at hq
        by_cases hq2 : q < rs.flatten.length
        · rw [pk_cpy_out (by omega), List.getD_eq_getElem?_getD, List.getElem?_append_left hq2, ← List.getD_eq_getElem?_getD]
          exact r5 q hq2
        · rw [pk_cpy_in (by omega) (by omega), List.getD_eq_getElem?_getD, List.getElem?_append_right (by omega), ← List.getD_eq_getElem?_getD]
          exact hl (q - rs.flatten.length) (by omega)
      · by_cases hk2 : k = rs.length + 1
        · subst hk2
          rw [pk_us, ro_app1]
        · rw [pk_un hk2, ro_app _ (by simp at hk; omega)]
          exact r6 k (by simp at hk; omega)
  · refine ⟨fun b h1 h2 h3 h4 => ?_, hfr.2⟩
    have : b ≠ i1 := by rcases hfr.2 with q | q <;> omega
    rw [en_up_n h2, en_up_n h4, en_up_n this]
    exact hfr.1 b h1 h2 h3 h4
theorem cat_ra {a b : Nat} {c : Int32} : ∀ v ∈ ([.ref a, .ref b, .int c] : List Value), v.category = 1 := by intro v hv; simp at hv; rcases hv with rfl | rfl | rfl <;> rfl
theorem cR_addFrom {a M : Nat} {tf : Nat → Int32} {l : List Nat} {zz : Int32} (H : rw_at c x h i j m N rs) (ha : a < x) (ca : c a = .inl (0, M, .inl tf)) (hai : a ≠ i) (haj : a ≠ j) (hz : zz = nI l.length) (hM : l.length ≤ M) (hM2 : M < 1000000000) (hl : ∀ q, q < l.length → tf q = nI (l.getD q 0) ∧ l.getD q 0 < 1000000) (hm : rs.length < m) (hb : rs.flatten.length + l.length ≤ 400000) :
    ∃ c' x' u' i' N', en_call 4 mR_addFrom [.ref h, .ref a, .int zz] c x u none c' x' u' ∧ rw_at c' x' h i' j m N' (rs ++ [l]) ∧ (N' = N ∨ N' ≤ 2 * (rs.flatten.length + l.length)) ∧ rw_fr c x h i j c' i' ∧ rw_gr N N' x x' u u' := by
  obtain ⟨c1, x1, u1, i1, N1, K1, H1, hN1, hfr, hgr⟩ := cR_addPart (u := u) (s := 0) (ss := 0) (zz := zz) (l := l) H ha ca hai haj rfl hz (by omega) hM2 (fun q hq => by rw [Nat.zero_add]; exact hl q hq) hm hb
  refine ⟨c1, x1, u1, i1, N1, ?_, H1, hN1, hfr, hgr⟩
  obtain ⟨⟨hh, hi, hj, hij⟩, ho, -⟩ := H
  refine en_call_is (by decide) (Nat.le_of_ble_eq_true rfl) cat_ra ?_
  show en_W (en_call 3) mR_addFrom 0 [some (.ref h), some (.ref a), some (.int zz)] [] c x u _
  simp only [sR_addFrom_0, sR_addFrom_1, sR_addFrom_2, sR_addFrom_3, sR_addFrom_4, sR_addFrom_7, ho, hh, en_rdO_eq, en_rdI_eq, en_rdN_eq, en_rdL_eq, true_and, and_true, List.getElem?_cons_succ, List.getElem?_cons_zero, en_gv_eq, if_true, if_false, and_self, or_true, true_or, implies_true, List.length_cons, List.length_nil, Nat.reduceLT, Nat.reduceLeDiff, Nat.reduceAdd, Nat.zero_le, Option.toList_some, Option.toList_none, List.cons_append, List.nil_append, nI_1, rd_t, n1_0, n0_1, Bool.false_eq_true, false_implies, reduceCtorEq]
  refine en_use (Nat.le_refl _) K1 ?_
  simp only [sR_addFrom_0, sR_addFrom_1, sR_addFrom_2, sR_addFrom_3, sR_addFrom_4, sR_addFrom_7, en_rdO_eq, en_rdI_eq, en_rdN_eq, en_rdL_eq, true_and, and_true, List.getElem?_cons_succ, List.getElem?_cons_zero, en_gv_eq, if_true, if_false, and_self, or_true, true_or, implies_true, List.length_cons, List.length_nil, Nat.reduceLT, Nat.reduceLeDiff, Nat.reduceAdd, Nat.zero_le, Option.toList_some, Option.toList_none, List.cons_append, List.nil_append, nI_1, rd_t, n1_0, n0_1, Bool.false_eq_true, false_implies, reduceCtorEq, en_q]
theorem cR_addCopy {hf fi fj mf Nf r : Nat} {rsf : List (List Nat)} {row : Int32} (H : rw_at c x h i j m N rs) (Hf : rw_at c x hf fi fj mf Nf rsf) (hai : fi ≠ i) (haj : fi ≠ j) (hrow : row = nI r) (hr : r < rsf.length) (hm : rs.length < m) (hb : rs.flatten.length + (rsf.getD r []).length ≤ 400000) :
    ∃ c' x' u' i' N', en_call 4 mR_addCopy [.ref h, .ref hf, .int row] c x u none c' x' u' ∧ rw_at c' x' h i' j m N' (rs ++ [rsf.getD r []]) ∧ (N' = N ∨ N' ≤ 2 * (rs.flatten.length + (rsf.getD r []).length)) ∧ rw_fr c x h i j c' i' ∧ rw_gr N N' x x' u u' := by
  have K2 := cR_has_in (u := u) Hf hrow hr
  have K3 := cR_size_in (u := u) Hf hrow hr
  obtain ⟨⟨hhf, hif, hjf, hijf⟩, hof, ff, gf, cif, cjf, hrrf⟩ := Hf
  obtain ⟨⟨a1, a2⟩, ⟨b1, b2⟩, ⟨d1, d2⟩, -⟩ := rr_f hrrf hr
  have hro : ro_of rsf r + (rsf.getD r []).length ≤ rsf.flatten.length := by have := ro_succ hr; have := ro_top rsf (k := r + 1) (by omega); omega
  have hF := hrrf.2.1
  have hF2 := hrrf.2.2.1.2
  obtain ⟨c1, x1, u1, i1, N1, K1, H1, hN1, hfr, hgr⟩ := cR_addPart (u := u) (s := ro_of rsf r) (ss := nI (ro_of rsf r)) (zz := nI (rsf.getD r []).length) (l := rsf.getD r []) H hif cif hai haj rfl rfl (by omega) (by omega) (fun q hq => (rr_cell hrrf hr hq).2.2) hm hb
  refine ⟨c1, x1, u1, i1, N1, ?_, H1, hN1, hfr, hgr⟩
  obtain ⟨⟨hh, hi, hj, hij⟩, ho, -⟩ := H
  subst hrow
  refine en_call_is (by decide) (Nat.le_of_ble_eq_true rfl) cat_ra ?_
  show en_W (en_call 3) mR_addCopy 0 [some (.ref h), some (.ref hf), some (.int (nI r))] [] c x u _
  simp only [sR_addCopy_0, sR_addCopy_1, sR_addCopy_2, sR_addCopy_5, sR_addCopy_8, sR_addCopy_9, sR_addCopy_10, sR_addCopy_13, sR_addCopy_14, sR_addCopy_17, sR_addCopy_18, sR_addCopy_19, sR_addCopy_20, sR_addCopy_21, sR_addCopy_24, sR_addCopy_27, hof, hhf, en_rdO_eq, en_rdI_eq, en_rdN_eq, en_rdL_eq, true_and, and_true, List.getElem?_cons_succ, List.getElem?_cons_zero, en_gv_eq, if_true, if_false, and_self, or_true, true_or, implies_true, List.length_cons, List.length_nil, Nat.reduceLT, Nat.reduceLeDiff, Nat.reduceAdd, Nat.zero_le, Option.toList_some, Option.toList_none, List.cons_append, List.nil_append, nI_1, rd_t, n1_0, n0_1, Bool.false_eq_true, false_implies, reduceCtorEq]
  refine en_use (by decide) K2 ?_
  simp only [sR_addCopy_0, sR_addCopy_1, sR_addCopy_2, sR_addCopy_5, sR_addCopy_8, sR_addCopy_9, sR_addCopy_10, sR_addCopy_13, sR_addCopy_14, sR_addCopy_17, sR_addCopy_18, sR_addCopy_19, sR_addCopy_20, sR_addCopy_21, sR_addCopy_24, sR_addCopy_27, hof, hhf, cjf, hjf, a1, b1, d1, en_rdO_eq, en_rdI_eq, en_rdN_eq, en_rdL_eq, true_and, and_true, List.getElem?_cons_succ, List.getElem?_cons_zero, en_gv_eq, if_true, if_false, and_self, or_true, true_or, implies_true, List.length_cons, List.length_nil, Nat.reduceLT, Nat.reduceLeDiff, Nat.reduceAdd, Nat.zero_le, Option.toList_some, Option.toList_none, List.cons_append, List.nil_append, nI_1, rd_t, n1_0, n0_1, Bool.false_eq_true, false_implies, reduceCtorEq]
  refine en_use (by decide) K3 ?_
  simp only [sR_addCopy_0, sR_addCopy_1, sR_addCopy_2, sR_addCopy_5, sR_addCopy_8, sR_addCopy_9, sR_addCopy_10, sR_addCopy_13, sR_addCopy_14, sR_addCopy_17, sR_addCopy_18, sR_addCopy_19, sR_addCopy_20, sR_addCopy_21, sR_addCopy_24, sR_addCopy_27, ho, hh, en_rdO_eq, en_rdI_eq, en_rdN_eq, en_rdL_eq, true_and, and_true, List.getElem?_cons_succ, List.getElem?_cons_zero, en_gv_eq, if_true, if_false, and_self, or_true, true_or, implies_true, List.length_cons, List.length_nil, Nat.reduceLT, Nat.reduceLeDiff, Nat.reduceAdd, Nat.zero_le, Option.toList_some, Option.toList_none, List.cons_append, List.nil_append, nI_1, rd_t, n1_0, n0_1, Bool.false_eq_true, false_implies, reduceCtorEq]
  refine en_use (Nat.le_refl _) K1 ?_
  simp only [sR_addCopy_0, sR_addCopy_1, sR_addCopy_2, sR_addCopy_5, sR_addCopy_8, sR_addCopy_9, sR_addCopy_10, sR_addCopy_13, sR_addCopy_14, sR_addCopy_17, sR_addCopy_18, sR_addCopy_19, sR_addCopy_20, sR_addCopy_21, sR_addCopy_24, sR_addCopy_27, en_rdO_eq, en_rdI_eq, en_rdN_eq, en_rdL_eq, true_and, and_true, List.getElem?_cons_succ, List.getElem?_cons_zero, en_gv_eq, if_true, if_false, and_self, or_true, true_or, implies_true, List.length_cons, List.length_nil, Nat.reduceLT, Nat.reduceLeDiff, Nat.reduceAdd, Nat.zero_le, Option.toList_some, Option.toList_none, List.cons_append, List.nil_append, nI_1, rd_t, n1_0, n0_1, Bool.false_eq_true, false_implies, reduceCtorEq, en_q]
theorem cR_init {mm : Int32} (hh : h < x) (ho : c h = .inr (1, [.null, .null, .int 0])) (hm : mm = nI m) (hm2 : m ≤ 1000) : ∃ c', en_call 1 mR_init [.ref h, .int mm] c x u none c' (x + 2) (u + 64 + (m + 1)) ∧ rw_at c' (x + 2) h x (x + 1) m 64 [] ∧ ∀ a, a < x → a ≠ h → c' a = c a := by
  subst hm
  have e1 : (nI m < 0) = False := eq_false (nI_pos (by omega))
  have e2 : ¬ nI (m + 1) < 0 := nI_pos (by omega)
  have e3 : (nI (m + 1)).toNatClampNeg = m + 1 := nI_clamp (by omega)
  have e4 : ¬ nI 64 < 0 := nI_pos (by omega)
  have e5 : (nI 64).toNatClampNeg = 64 := nI_clamp (by omega)
  have e6 : m + 1 ≤ 1000000 := by omega
  refine ⟨en_up (en_up (en_up (en_up (en_up c x (en_z 0 64)) h (.inr (1, [.ref x, .null, .int 0]))) h (.inr (1, [.ref x, .null, .int 0]))) (x + 1) (en_z 0 (m + 1))) h (.inr (1, [.ref x, .ref (x + 1), .int 0])), ?_, ?_, ?_⟩
  · have f1 : ∀ e, en_up c x e h = .inr (1, [.null, .null, .int 0]) := fun e => by rw [en_up_n (by omega)]; exact ho
    have f2 : ∀ (c : en_H) e e', en_up (en_up c h e) (x + 1) e' h = e := fun c e e' => by rw [en_up_n (by omega), en_up_s]
    have f3 : ∀ (c : en_H) e, en_up c h e h = e := fun c e => en_up_s _ _ _
    have g1 : h < x + 1 := by omega
    have g2 : h < x + 1 + 1 := by omega
    refine en_call_is (by decide) (Nat.le_of_ble_eq_true rfl) cat_2 ?_
    show en_W (en_call 0) mR_init 0 [some (.ref h), some (.int (nI m))] [] c x u _
    simp only [sR_init_0, sR_init_1, sR_init_4, sR_init_5, sR_init_7, sR_init_9, sR_init_12, sR_init_13, sR_init_14, sR_init_17, sR_init_18, sR_init_19, sR_init_20, sR_init_23, sR_init_24, sR_init_25, sR_init_27, sR_init_30, e1, e2, e3, e4, e5, e6, f1, f2, f3, g1, g2, en_fk, List.set_cons_zero, List.set_cons_succ, not_false_eq_true, en_rdO_eq, en_rdI_eq, en_rdN_eq, en_rdL_eq, true_and, and_true, List.getElem?_cons_succ, List.getElem?_cons_zero, en_gv_eq, if_true, if_false, and_self, or_true, true_or, implies_true, List.length_cons, List.length_nil, Nat.reduceLT, Nat.reduceLeDiff, Nat.reduceAdd, Nat.zero_le, Option.toList_some, Option.toList_none, List.cons_append, List.nil_append, nI_1, rd_t, n1_0, n0_1, Bool.false_eq_true, false_implies, reduceCtorEq, en_q]
    exact fun _ => rfl
  · refine ⟨⟨by omega, by omega, by omega, by omega⟩, en_up_s _ _ _, fun _ => 0, fun _ => 0, ?_, ?_, ?_⟩
    · rw [en_up_n (by omega), en_up_n (by omega), en_up_n (by omega), en_up_n (by omega), en_up_s]; rfl
    · rw [en_up_n (by omega), en_up_s]; rfl
    · refine ⟨Nat.zero_le _, Nat.zero_le _, ⟨by omega, by omega⟩, hm2, fun q hq => ?_, fun k hk => ?_⟩
      · exact absurd hq (Nat.not_lt_zero _)
      · have hk0 : k = 0 := by simpa using hk
        subst hk0; rfl
  · intro a h1 h2
    rw [en_up_n h2, en_up_n (by omega), en_up_n h2, en_up_n h2, en_up_n (by omega)]
theorem cR_gap_loop {d : Nat} (H : rw_at c x h i j m N rs) (hne : ∀ r, r < rs.length → 0 < (rs.getD r []).length) : ∀ (n r : Nat), r + n = rs.length → en_W (en_call d) mR_isGapless 2 [some (.ref h), some (.int (nI r))] [] c x u (en_q (some (.int 1)) c x u) := by
  obtain ⟨⟨hh, hi, hj, hij⟩, ho, f, g, ci, cj, hrr⟩ := H
  have hm := hrr.2.2.2.1
  have hl := hrr.1
  intro n
  induction n with
  | zero =>
    intro r hr
    have hr : r = rs.length := by omega
    subst hr
    have e1 : nI rs.length ≤ nI rs.length := Int32.le_refl _
    obtain ⟨a1, a2, a3⟩ := rr_top hrr
    have b1 : vp_in 0 (m + 1) := vp_in_nI (n := 0) (by omega) (by omega)
    have b2 : g 0 = 0 := hrr.2.2.2.2.2 0 (Nat.zero_le _)
    have b3 : ¬ Int32.ofNat N < nI rs.flatten.length := nI_nlt (a := N) hrr.2.1 (by have := hrr.2.2.1.2; omega)
    rw [sR_isGapless_2]
    simp only [sR_isGapless_0, sR_isGapless_1, sR_isGapless_3, sR_isGapless_4, sR_isGapless_7, sR_isGapless_10, sR_isGapless_11, sR_isGapless_14, sR_isGapless_15, sR_isGapless_16, sR_isGapless_17, sR_isGapless_18, sR_isGapless_19, sR_isGapless_22, sR_isGapless_23, sR_isGapless_24, sR_isGapless_27, sR_isGapless_28, sR_isGapless_29, sR_isGapless_32, sR_isGapless_35, sR_isGapless_36, sR_isGapless_39, sR_isGapless_40, sR_isGapless_41, sR_isGapless_44, sR_isGapless_45, sR_isGapless_48, sR_isGapless_49, sR_isGapless_52, sR_isGapless_53, sR_isGapless_54, sR_isGapless_57, sR_isGapless_58, sR_isGapless_61, sR_isGapless_62, sR_isGapless_65, sR_isGapless_66, e1, ho, hh, ci, cj, hi, hj, a1, a2, a3, b1, b2, b3, sb_cl0, en_rdO_eq, en_rdI_eq, en_rdN_eq, en_rdL_eq, true_and, and_true, List.getElem?_cons_succ, List.getElem?_cons_zero, en_gv_eq, if_true, if_false, and_self, or_true, true_or, implies_true, List.length_cons, List.length_nil, Nat.reduceLT, Nat.reduceLeDiff, Nat.reduceAdd, Nat.zero_le, Option.toList_some, Option.toList_none, List.cons_append, List.nil_append, nI_1, rd_t, n1_0, n0_1, Bool.false_eq_true, false_implies, reduceCtorEq, en_q]
  | succ n ih =>
    intro r hr
    have hlt : r < rs.length := by omega
    obtain ⟨⟨a1, a2⟩, ⟨b1, b2⟩, ⟨d1, d2⟩, -, e2⟩ := rr_f hrr hlt
    have e3 : nI (ro_of rs r) < nI (ro_of rs (r + 1)) := nI_lt (by have := ro_succ hlt; have := hne r hlt; omega) (by have := ro_top rs (k := r + 1) (by omega); have := hrr.2.1; have := hrr.2.2.1.2; omega)
    rw [sR_isGapless_2]
    simp only [sR_isGapless_0, sR_isGapless_1, sR_isGapless_3, sR_isGapless_4, sR_isGapless_7, sR_isGapless_10, sR_isGapless_11, sR_isGapless_14, sR_isGapless_15, sR_isGapless_16, sR_isGapless_17, sR_isGapless_18, sR_isGapless_19, sR_isGapless_22, sR_isGapless_23, sR_isGapless_24, sR_isGapless_27, sR_isGapless_28, sR_isGapless_29, sR_isGapless_32, sR_isGapless_35, sR_isGapless_36, sR_isGapless_39, sR_isGapless_40, sR_isGapless_41, sR_isGapless_44, sR_isGapless_45, sR_isGapless_48, sR_isGapless_49, sR_isGapless_52, sR_isGapless_53, sR_isGapless_54, sR_isGapless_57, sR_isGapless_58, sR_isGapless_61, sR_isGapless_62, sR_isGapless_65, sR_isGapless_66, ho, hh, cj, hj, e2, a1, a2, b1, b2, d1, d2, e3, en_rdO_eq, en_rdI_eq, en_rdN_eq, en_rdL_eq, true_and, and_true, List.getElem?_cons_succ, List.getElem?_cons_zero, en_gv_eq, if_true, if_false, and_self, or_true, true_or, implies_true, List.length_cons, List.length_nil, Nat.reduceLT, Nat.reduceLeDiff, Nat.reduceAdd, Nat.zero_le, Option.toList_some, Option.toList_none, List.cons_append, List.nil_append, nI_1, rd_t, n1_0, n0_1, Bool.false_eq_true, false_implies, reduceCtorEq]
    exact ih (r + 1) (by omega)
theorem cR_isGapless (H : rw_at c x h i j m N rs) (hne : ∀ r, r < rs.length → 0 < (rs.getD r []).length) : en_call 1 mR_isGapless [.ref h] c x u (some (.int 1)) c x u := by
  refine en_call_is (by decide) (Nat.le_of_ble_eq_true rfl) cat_1 ?_
  show en_W (en_call 0) mR_isGapless 0 [some (.ref h), none] [] c x u _
  simp only [sR_isGapless_0, sR_isGapless_1, sR_isGapless_3, sR_isGapless_4, sR_isGapless_7, sR_isGapless_10, sR_isGapless_11, sR_isGapless_14, sR_isGapless_15, sR_isGapless_16, sR_isGapless_17, sR_isGapless_18, sR_isGapless_19, sR_isGapless_22, sR_isGapless_23, sR_isGapless_24, sR_isGapless_27, sR_isGapless_28, sR_isGapless_29, sR_isGapless_32, sR_isGapless_35, sR_isGapless_36, sR_isGapless_39, sR_isGapless_40, sR_isGapless_41, sR_isGapless_44, sR_isGapless_45, sR_isGapless_48, sR_isGapless_49, sR_isGapless_52, sR_isGapless_53, sR_isGapless_54, sR_isGapless_57, sR_isGapless_58, sR_isGapless_61, sR_isGapless_62, sR_isGapless_65, sR_isGapless_66, en_rdO_eq, en_rdI_eq, en_rdN_eq, en_rdL_eq, true_and, and_true, List.getElem?_cons_succ, List.getElem?_cons_zero, en_gv_eq, if_true, if_false, and_self, or_true, true_or, implies_true, List.length_cons, List.length_nil, Nat.reduceLT, Nat.reduceLeDiff, Nat.reduceAdd, Nat.zero_le, Option.toList_some, Option.toList_none, List.cons_append, List.nil_append, nI_1, rd_t, n1_0, n0_1, Bool.false_eq_true, false_implies, reduceCtorEq]
  exact cR_gap_loop H hne rs.length 0 (Nat.zero_add _)
end RF
