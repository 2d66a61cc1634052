/-! StepPile$Rows: parts of rows, compared and copied. -/
def bi (b : Bool) : Int32 := if b then 1 else 0
theorem bi_t : bi true = 1 := rfl
theorem bi_f : bi false = 0 := rfl
theorem bi_01 (b : Bool) : (bi b = 0 ∨ bi b = 1) = True := eq_true (by cases b; exact Or.inl rfl; exact Or.inr rfl)
def sm_eq (l : List Nat) (k : Nat) (l2 : List Nat) (k2 sz : Nat) : Bool := (List.range sz).all (fun q => l.getD (k + q) 0 == l2.getD (k2 + q) 0)
section RD
variable {c : en_H} {x u h i j m N : Nat} {rs : List (List Nat)}
theorem cR_hasPart {r k sz : Nat} {row kk ss : Int32} (H : rw_at c x h i j m N rs) (hrow : row = nI r) (hkk : kk = nI k) (hss : ss = nI sz) (hr : r < rs.length) (hk : k < 1000000000) (hsz : sz < 1000000000) : en_call 2 mR_hasPart [.ref h, .int row, .int kk, .int ss] c x u (some (.int (bi (decide (k + sz ≤ (rs.getD r []).length))))) c x u := by
  have K1 := cR_has_in (u := u) H hrow hr
  subst hrow hkk hss
  obtain ⟨⟨hh, hi, hj, -⟩, ho, f, g, ci, cj, hrr⟩ := H
  obtain ⟨⟨a1, a2⟩, ⟨b1, b2⟩, ⟨d1, d2⟩, e1, e2⟩ := rr_f hrr hr
  have hlen := rr_len hrr hr
  have e3 := ro_diff hr
  have e4 : ¬ nI k < 0 := nI_pos (by omega)
  have e5 : ¬ nI sz < 0 := nI_pos (by omega)
  have e6 : (nI (rs.getD r []).length - nI sz < nI k) = ((rs.getD r []).length < k + sz) := by
    apply propext
    rw [Int32.lt_iff_toInt_lt, pk_sub_toInt (by omega) (by omega), nI_toInt (by omega)]
    omega
  refine en_call_is (by decide) (Nat.le_of_ble_eq_true rfl) cat_4 ?_
  show en_W (en_call 1) mR_hasPart 0 [some (.ref h), some (.int (nI r)), some (.int (nI k)), some (.int (nI sz))] [] c x u _
  simp only [sR_hasPart_0, sR_hasPart_1, sR_hasPart_2, sR_hasPart_5, sR_hasPart_8, sR_hasPart_9, sR_hasPart_12, sR_hasPart_13, sR_hasPart_16, sR_hasPart_17, sR_hasPart_18, sR_hasPart_21, sR_hasPart_22, sR_hasPart_23, sR_hasPart_24, sR_hasPart_25, sR_hasPart_26, sR_hasPart_29, sR_hasPart_30, sR_hasPart_31, sR_hasPart_32, sR_hasPart_33, sR_hasPart_34, sR_hasPart_37, sR_hasPart_38, sR_hasPart_41, sR_hasPart_42, ho, hh, en_rdO_eq, en_rdI_eq, en_rdN_eq, en_rdL_eq, true_and, and_true, List.getElem?_cons_succ, List.getElem?_cons_zero, en_gv_eq, if_true, if_false, and_self, or_true, true_or, implies_true, List.length_cons, List.length_nil, Nat.reduceLT, Nat.reduceLeDiff, Nat.reduceAdd, Nat.zero_le, Option.toList_some, Option.toList_none, List.cons_append, List.nil_append, nI_1, rd_t, n1_0, n0_1, Bool.false_eq_true, false_implies, reduceCtorEq]
  refine en_use (Nat.le_refl _) K1 ?_
  simp only [sR_hasPart_0, sR_hasPart_1, sR_hasPart_2, sR_hasPart_5, sR_hasPart_8, sR_hasPart_9, sR_hasPart_12, sR_hasPart_13, sR_hasPart_16, sR_hasPart_17, sR_hasPart_18, sR_hasPart_21, sR_hasPart_22, sR_hasPart_23, sR_hasPart_24, sR_hasPart_25, sR_hasPart_26, sR_hasPart_29, sR_hasPart_30, sR_hasPart_31, sR_hasPart_32, sR_hasPart_33, sR_hasPart_34, sR_hasPart_37, sR_hasPart_38, sR_hasPart_41, sR_hasPart_42, ho, hh, cj, hj, a1, a2, b1, b2, d1, d2, e3, e4, e5, e6, en_rdO_eq, en_rdI_eq, en_rdN_eq, en_rdL_eq, true_and, and_true, List.getElem?_cons_succ, List.getElem?_cons_zero, en_gv_eq, if_true, if_false, and_self, or_true, true_or, implies_true, List.length_cons, List.length_nil, Nat.reduceLT, Nat.reduceLeDiff, Nat.reduceAdd, Nat.zero_le, Option.toList_some, Option.toList_none, List.cons_append, List.nil_append, nI_1, rd_t, n1_0, n0_1, Bool.false_eq_true, false_implies, reduceCtorEq, en_q]
  split
  · rw [decide_eq_false (by omega)]; rfl
  · rw [decide_eq_true (by omega)]; rfl
theorem cat_s {a b : Nat} {c d e f g : Int32} : ∀ v ∈ ([.ref a, .int c, .int d, .ref b, .int e, .int f, .int g] : List Value), v.category = 1 := by intro v hv; simp at hv; rcases hv with rfl | rfl | rfl | rfl | rfl | rfl | rfl <;> rfl
theorem cR_same_loop {h2 i2 j2 m2 N2 : Nat} {rs2 : List (List Nat)} {l0 l1 l2 l4 l5 : Option Value} {r k r2 k2 sz d : Nat} (H : rw_at c x h i j m N rs) (H2 : rw_at c x h2 i2 j2 m2 N2 rs2) (hr : r < rs.length) (hr2 : r2 < rs2.length) (hk : k + sz ≤ (rs.getD r []).length) (hk2 : k2 + sz ≤ (rs2.getD r2 []).length) :
    ∀ (n q : Nat), q + n = sz → sm_eq (rs.getD r []) k (rs2.getD r2 []) k2 q = true → en_W (en_call d) mR_isSame 51 [some (.ref h), l1, l2, some (.ref h2), l4, l5, some (.int (nI sz)), some (.int (nI (ro_of rs r + k))), some (.int (nI (ro_of rs2 r2 + k2))), some (.int (nI q))] [] c x u (en_q (some (.int (bi (sm_eq (rs.getD r []) k (rs2.getD r2 []) k2 sz)))) c x u) := by
  obtain ⟨⟨hh, hi, hj, -⟩, ho, f, g, ci, cj, hrr⟩ := H
  obtain ⟨⟨hh2, hi2, hj2, -⟩, ho2, f2, g2, ci2, cj2, hrr2⟩ := H2
  have hlen := rr_len hrr hr
  intro n
  induction n with
  | zero =>
    intro q hq he
    have hq : q = sz := by omega
    subst hq
    have e1 : nI q ≤ nI q := Int32.le_refl _
    rw [he]
    simp only [sR_isSame_0, sR_isSame_1, sR_isSame_2, sR_isSame_3, sR_isSame_5, sR_isSame_8, sR_isSame_11, sR_isSame_12, sR_isSame_14, sR_isSame_16, sR_isSame_18, sR_isSame_21, sR_isSame_24, sR_isSame_25, sR_isSame_26, sR_isSame_27, sR_isSame_30, sR_isSame_31, sR_isSame_32, sR_isSame_33, sR_isSame_34, sR_isSame_36, sR_isSame_37, sR_isSame_40, sR_isSame_42, sR_isSame_43, sR_isSame_45, sR_isSame_46, sR_isSame_48, sR_isSame_49, sR_isSame_51, sR_isSame_53, sR_isSame_55, sR_isSame_58, sR_isSame_59, sR_isSame_62, sR_isSame_64, sR_isSame_66, sR_isSame_67, sR_isSame_68, sR_isSame_69, sR_isSame_72, sR_isSame_74, sR_isSame_76, sR_isSame_77, sR_isSame_78, sR_isSame_81, sR_isSame_82, sR_isSame_83, sR_isSame_86, sR_isSame_89, sR_isSame_90, e1, en_rdO_eq, en_rdI_eq, en_rdN_eq, en_rdL_eq, true_and, and_true, List.getElem?_cons_succ, List.getElem?_cons_zero, en_gv_eq, if_true, if_false, and_self, or_true, true_or, implies_true, List.length_cons, List.length_nil, Nat.reduceLT, Nat.reduceLeDiff, Nat.reduceAdd, Nat.zero_le, Option.toList_some, Option.toList_none, List.cons_append, List.nil_append, nI_1, rd_t, n1_0, n0_1, Bool.false_eq_true, false_implies, reduceCtorEq, en_q, bi_t]
  | succ n ih =>
    intro q hq he
    have e1 : ¬ nI sz ≤ nI q := nI_ge (by omega) (by omega)
    obtain ⟨a1, a2, a3, a4⟩ := rr_cell hrr hr (k := k + q) (by omega)
    obtain ⟨b1, b2, b3, b4⟩ := rr_cell hrr2 hr2 (k := k2 + q) (by omega)
    rw [← Nat.add_assoc] at a1 a2 a3 b1 b2 b3
    have e9 : (nI ((rs.getD r []).getD (k + q) 0) = nI ((rs2.getD r2 []).getD (k2 + q) 0)) = ((rs.getD r []).getD (k + q) 0 = (rs2.getD r2 []).getD (k2 + q) 0) := propext (nI_eq (by omega) (by omega))
    rw [sR_isSame_51]
    simp only [sR_isSame_0, sR_isSame_1, sR_isSame_2, sR_isSame_3, sR_isSame_5, sR_isSame_8, sR_isSame_11, sR_isSame_12, sR_isSame_14, sR_isSame_16, sR_isSame_18, sR_isSame_21, sR_isSame_24, sR_isSame_25, sR_isSame_26, sR_isSame_27, sR_isSame_30, sR_isSame_31, sR_isSame_32, sR_isSame_33, sR_isSame_34, sR_isSame_36, sR_isSame_37, sR_isSame_40, sR_isSame_42, sR_isSame_43, sR_isSame_45, sR_isSame_46, sR_isSame_48, sR_isSame_49, sR_isSame_53, sR_isSame_55, sR_isSame_58, sR_isSame_59, sR_isSame_62, sR_isSame_64, sR_isSame_66, sR_isSame_67, sR_isSame_68, sR_isSame_69, sR_isSame_72, sR_isSame_74, sR_isSame_76, sR_isSame_77, sR_isSame_78, sR_isSame_81, sR_isSame_82, sR_isSame_83, sR_isSame_86, sR_isSame_89, sR_isSame_90, e1, ho, ho2, hh, hh2, ci, ci2, hi, hi2, nI_add, a1, a2, a3, b1, b2, b3, e9, en_rdO_eq, en_rdI_eq, en_rdN_eq, en_rdL_eq, true_and, and_true, List.getElem?_cons_succ, List.getElem?_cons_zero, en_gv_eq, if_true, if_false, and_self, or_true, true_or, implies_true, List.length_cons, List.length_nil, Nat.reduceLT, Nat.reduceLeDiff, Nat.reduceAdd, Nat.zero_le, Option.toList_some, Option.toList_none, List.cons_append, List.nil_append, nI_1, rd_t, n1_0, n0_1, Bool.false_eq_true, false_implies, reduceCtorEq]
    have hsucc : sm_eq (rs.getD r []) k (rs2.getD r2 []) k2 (q + 1) = ((rs.getD r []).getD (k + q) 0 == (rs2.getD r2 []).getD (k2 + q) 0) := by
      unfold sm_eq at he ⊢
      rw [List.range_succ, List.all_append, he]
      simp
    split
    · rename_i heq
      exact ih (q + 1) (by omega) (by rw [hsucc, heq]; exact beq_self_eq_true _)
    · rename_i hne
      have hf : sm_eq (rs.getD r []) k (rs2.getD r2 []) k2 sz = false := by
        cases hs : sm_eq (rs.getD r []) k (rs2.getD r2 []) k2 sz with
        | false => rfl
        | true =>
          have := List.all_eq_true.mp hs q (List.mem_range.mpr (by omega))
          exact absurd (by simpa using this) hne
      simp only [hf, en_q, bi_f, en_rdO_eq, en_rdI_eq, en_rdN_eq, en_rdL_eq, true_and, and_true, List.getElem?_cons_succ, List.getElem?_cons_zero, en_gv_eq, if_true, if_false, and_self, or_true, true_or, implies_true, List.length_cons, List.length_nil, Nat.reduceLT, Nat.reduceLeDiff, Nat.reduceAdd, Nat.zero_le, Option.toList_some, Option.toList_none, List.cons_append, List.nil_append, nI_1, rd_t, n1_0, n0_1, Bool.false_eq_true, false_implies, reduceCtorEq]
theorem cR_isSame {h2 i2 j2 m2 N2 : Nat} {rs2 : List (List Nat)} {r k r2 k2 sz : Nat} {row kk row2 kk2 ss : Int32} (H : rw_at c x h i j m N rs) (H2 : rw_at c x h2 i2 j2 m2 N2 rs2) (hrow : row = nI r) (hkk : kk = nI k) (hrow2 : row2 = nI r2) (hkk2 : kk2 = nI k2) (hss : ss = nI sz) (hr : r < rs.length) (hr2 : r2 < rs2.length) (hk : k < 1000000000) (hk2 : k2 < 1000000000) (hsz : sz < 1000000000) :
    en_call 3 mR_isSame [.ref h, .int row, .int kk, .ref h2, .int row2, .int kk2, .int ss] c x u (some (.int (bi (decide (k + sz ≤ (rs.getD r []).length) && decide (k2 + sz ≤ (rs2.getD r2 []).length) && sm_eq (rs.getD r []) k (rs2.getD r2 []) k2 sz)))) c x u := by
  have K1 := cR_hasPart (u := u) H hrow hkk hss hr hk hsz
  have K2 := cR_hasPart (u := u) H2 hrow2 hkk2 hss hr2 hk2 hsz
  have L := @cR_same_loop c x u h i j m N rs h2 i2 j2 m2 N2 rs2 (some (.ref h)) (some (.int row)) (some (.int kk)) (some (.int row2)) (some (.int kk2)) r k r2 k2 sz 2 H H2 hr hr2
  obtain ⟨⟨hh, hi, hj, -⟩, ho, f, g, ci, cj, hrr⟩ := H
  obtain ⟨⟨hh2, hi2, hj2, -⟩, ho2, f2, g2, ci2, cj2, hrr2⟩ := H2
  obtain ⟨⟨a1, a2⟩, ⟨b1, b2⟩, ⟨d1, d2⟩, -⟩ := rr_f hrr hr
  obtain ⟨⟨p1, p2⟩, ⟨q1, q2⟩, ⟨s1, s2⟩, -⟩ := rr_f hrr2 hr2
  subst hrow hkk hrow2 hkk2 hss
  refine en_call_is (by decide) (Nat.le_of_ble_eq_true rfl) cat_s ?_
  show en_W (en_call 2) mR_isSame 0 [some (.ref h), some (.int (nI r)), some (.int (nI k)), some (.ref h2), some (.int (nI r2)), some (.int (nI k2)), some (.int (nI sz)), none, none, none] [] c x u _
  simp only [sR_isSame_0, sR_isSame_1, sR_isSame_2, sR_isSame_3, sR_isSame_5, sR_isSame_8, sR_isSame_11, sR_isSame_12, sR_isSame_14, sR_isSame_16, sR_isSame_18, sR_isSame_21, sR_isSame_24, sR_isSame_25, sR_isSame_26, sR_isSame_27, sR_isSame_30, sR_isSame_31, sR_isSame_32, sR_isSame_33, sR_isSame_34, sR_isSame_36, sR_isSame_37, sR_isSame_40, sR_isSame_42, sR_isSame_43, sR_isSame_45, sR_isSame_46, sR_isSame_48, sR_isSame_49, sR_isSame_53, sR_isSame_55, sR_isSame_58, sR_isSame_59, sR_isSame_62, sR_isSame_64, sR_isSame_66, sR_isSame_67, sR_isSame_68, sR_isSame_69, sR_isSame_72, sR_isSame_74, sR_isSame_76, sR_isSame_77, sR_isSame_78, sR_isSame_81, sR_isSame_82, sR_isSame_83, sR_isSame_86, sR_isSame_89, sR_isSame_90, ho, hh, en_rdO_eq, en_rdI_eq, en_rdN_eq, en_rdL_eq, true_and, and_true, List.getElem?_cons_succ, List.getElem?_cons_zero, en_gv_eq, if_true, if_false, and_self, or_true, true_or, implies_true, List.length_cons, List.length_nil, Nat.reduceLT, Nat.reduceLeDiff, Nat.reduceAdd, Nat.zero_le, Option.toList_some, Option.toList_none, List.cons_append, List.nil_append, nI_1, rd_t, n1_0, n0_1, Bool.false_eq_true, false_implies, reduceCtorEq]
  refine en_use (Nat.le_refl _) K1 ?_
  by_cases c1 : k + sz ≤ (rs.getD r []).length
  · rw [decide_eq_true c1]
    simp only [sR_isSame_0, sR_isSame_1, sR_isSame_2, sR_isSame_3, sR_isSame_5, sR_isSame_8, sR_isSame_11, sR_isSame_12, sR_isSame_14, sR_isSame_16, sR_isSame_18, sR_isSame_21, sR_isSame_24, sR_isSame_25, sR_isSame_26, sR_isSame_27, sR_isSame_30, sR_isSame_31, sR_isSame_32, sR_isSame_33, sR_isSame_34, sR_isSame_36, sR_isSame_37, sR_isSame_40, sR_isSame_42, sR_isSame_43, sR_isSame_45, sR_isSame_46, sR_isSame_48, sR_isSame_49, sR_isSame_53, sR_isSame_55, sR_isSame_58, sR_isSame_59, sR_isSame_62, sR_isSame_64, sR_isSame_66, sR_isSame_67, sR_isSame_68, sR_isSame_69, sR_isSame_72, sR_isSame_74, sR_isSame_76, sR_isSame_77, sR_isSame_78, sR_isSame_81, sR_isSame_82, sR_isSame_83, sR_isSame_86, sR_isSame_89, sR_isSame_90, bi_t, ho2, hh2, en_rdO_eq, en_rdI_eq, en_rdN_eq, en_rdL_eq, true_and, and_true, List.getElem?_cons_succ, List.getElem?_cons_zero, en_gv_eq, if_true, if_false, and_self, or_true, true_or, implies_true, List.length_cons, List.length_nil, Nat.reduceLT, Nat.reduceLeDiff, Nat.reduceAdd, Nat.zero_le, Option.toList_some, Option.toList_none, List.cons_append, List.nil_append, nI_1, rd_t, n1_0, n0_1, Bool.false_eq_true, false_implies, reduceCtorEq]
    refine en_use (Nat.le_refl _) K2 ?_
    by_cases c2 : k2 + sz ≤ (rs2.getD r2 []).length
    · rw [decide_eq_true c2]
      simp only [sR_isSame_0, sR_isSame_1, sR_isSame_2, sR_isSame_3, sR_isSame_5, sR_isSame_8, sR_isSame_11, sR_isSame_12, sR_isSame_14, sR_isSame_16, sR_isSame_18, sR_isSame_21, sR_isSame_24, sR_isSame_25, sR_isSame_26, sR_isSame_27, sR_isSame_30, sR_isSame_31, sR_isSame_32, sR_isSame_33, sR_isSame_34, sR_isSame_36, sR_isSame_37, sR_isSame_40, sR_isSame_42, sR_isSame_43, sR_isSame_45, sR_isSame_46, sR_isSame_48, sR_isSame_49, sR_isSame_53, sR_isSame_55, sR_isSame_58, sR_isSame_59, sR_isSame_62, sR_isSame_64, sR_isSame_66, sR_isSame_67, sR_isSame_68, sR_isSame_69, sR_isSame_72, sR_isSame_74, sR_isSame_76, sR_isSame_77, sR_isSame_78, sR_isSame_81, sR_isSame_82, sR_isSame_83, sR_isSame_86, sR_isSame_89, sR_isSame_90, bi_t, ho, hh, ho2, hh2, cj, cj2, hj, hj2, a1, b1, d1, p1, q1, s1, nI_add, en_rdO_eq, en_rdI_eq, en_rdN_eq, en_rdL_eq, true_and, and_true, List.getElem?_cons_succ, List.getElem?_cons_zero, en_gv_eq, if_true, if_false, and_self, or_true, true_or, implies_true, List.length_cons, List.length_nil, Nat.reduceLT, Nat.reduceLeDiff, Nat.reduceAdd, Nat.zero_le, Option.toList_some, Option.toList_none, List.cons_append, List.nil_append, nI_1, rd_t, n1_0, n0_1, Bool.false_eq_true, false_implies, reduceCtorEq]
      exact L c1 c2 sz 0 (Nat.zero_add _) rfl
    · rw [decide_eq_false c2]
      simp only [sR_isSame_0, sR_isSame_1, sR_isSame_2, sR_isSame_3, sR_isSame_5, sR_isSame_8, sR_isSame_11, sR_isSame_12, sR_isSame_14, sR_isSame_16, sR_isSame_18, sR_isSame_21, sR_isSame_24, sR_isSame_25, sR_isSame_26, sR_isSame_27, sR_isSame_30, sR_isSame_31, sR_isSame_32, sR_isSame_33, sR_isSame_34, sR_isSame_36, sR_isSame_37, sR_isSame_40, sR_isSame_42, sR_isSame_43, sR_isSame_45, sR_isSame_46, sR_isSame_48, sR_isSame_49, sR_isSame_53, sR_isSame_55, sR_isSame_58, sR_isSame_59, sR_isSame_62, sR_isSame_64, sR_isSame_66, sR_isSame_67, sR_isSame_68, sR_isSame_69, sR_isSame_72, sR_isSame_74, sR_isSame_76, sR_isSame_77, sR_isSame_78, sR_isSame_81, sR_isSame_82, sR_isSame_83, sR_isSame_86, sR_isSame_89, sR_isSame_90, bi_f, Bool.and_false, Bool.false_and, en_rdO_eq, en_rdI_eq, en_rdN_eq, en_rdL_eq, true_and, and_true, List.getElem?_cons_succ, List.getElem?_cons_zero, en_gv_eq, if_true, if_false, and_self, or_true, true_or, implies_true, List.length_cons, List.length_nil, Nat.reduceLT, Nat.reduceLeDiff, Nat.reduceAdd, Nat.zero_le, Option.toList_some, Option.toList_none, List.cons_append, List.nil_append, nI_1, rd_t, n1_0, n0_1, Bool.false_eq_true, false_implies, reduceCtorEq, en_q]
  · rw [decide_eq_false c1]
    simp only [sR_isSame_0, sR_isSame_1, sR_isSame_2, sR_isSame_3, sR_isSame_5, sR_isSame_8, sR_isSame_11, sR_isSame_12, sR_isSame_14, sR_isSame_16, sR_isSame_18, sR_isSame_21, sR_isSame_24, sR_isSame_25, sR_isSame_26, sR_isSame_27, sR_isSame_30, sR_isSame_31, sR_isSame_32, sR_isSame_33, sR_isSame_34, sR_isSame_36, sR_isSame_37, sR_isSame_40, sR_isSame_42, sR_isSame_43, sR_isSame_45, sR_isSame_46, sR_isSame_48, sR_isSame_49, sR_isSame_53, sR_isSame_55, sR_isSame_58, sR_isSame_59, sR_isSame_62, sR_isSame_64, sR_isSame_66, sR_isSame_67, sR_isSame_68, sR_isSame_69, sR_isSame_72, sR_isSame_74, sR_isSame_76, sR_isSame_77, sR_isSame_78, sR_isSame_81, sR_isSame_82, sR_isSame_83, sR_isSame_86, sR_isSame_89, sR_isSame_90, bi_f, Bool.false_and, en_rdO_eq, en_rdI_eq, en_rdN_eq, en_rdL_eq, true_and, and_true, List.getElem?_cons_succ, List.getElem?_cons_zero, en_gv_eq, if_true, if_false, and_self, or_true, true_or, implies_true, List.length_cons, List.length_nil, Nat.reduceLT, Nat.reduceLeDiff, Nat.reduceAdd, Nat.zero_le, Option.toList_some, Option.toList_none, List.cons_append, List.nil_append, nI_1, rd_t, n1_0, n0_1, Bool.false_eq_true, false_implies, reduceCtorEq, en_q]
/-- copies a part of a row into another array; nothing where it isn't there or has no place -/
theorem cat_c {a b : Nat} {c d e f : Int32} : ∀ v ∈ ([.ref a, .int c, .int d, .int e, .ref b, .int f] : List Value), v.category = 1 := by intro v hv; simp at hv; rcases hv with rfl | rfl | rfl | rfl | rfl | rfl <;> rfl
theorem cR_copyPart {a M r k sz p : Nat} {tf : Nat → Int32} {row kk ss pp : Int32} (H : rw_at c x h i j m N rs) (ha : a < x) (ca : c a = .inl (0, M, .inl tf)) (hM : M < 1000000000) (hrow : row = nI r) (hkk : kk = nI k) (hss : ss = nI sz) (hpp : pp = nI p) (hr : r < rs.length) (hk : k + sz ≤ (rs.getD r []).length) (hp : p < 1000000000) :
    en_call 3 mR_copyPart [.ref h, .int row, .int kk, .int ss, .ref a, .int pp] c x u none (if p + sz ≤ M then en_up c a (.inl (0, M, .inl (va_cpy (fun q => nI (rs.flatten.getD q 0)) tf (ro_of rs r + k) p sz))) else c) x u := by
  have K1 := cR_hasPart (u := u) H hrow hkk hss hr (by have := rr_len H.2.2.choose_spec.choose_spec.2.2 hr; omega) (by have := rr_len H.2.2.choose_spec.choose_spec.2.2 hr; omega)
  obtain ⟨⟨hh, hi, hj, -⟩, ho, f, g, ci, cj, hrr⟩ := H
  obtain ⟨⟨a1, a2⟩, ⟨b1, b2⟩, ⟨d1, d2⟩, -⟩ := rr_f hrr hr
  have hlen := rr_len hrr hr
  subst hrow hkk hss hpp
  have e1 : ¬ nI p < 0 := nI_pos (by omega)
  have e2 : (Int32.ofNat M - nI sz < nI p) = (M < p + sz) := by
    apply propext
    show nI M - nI sz < nI p ↔ _
    rw [Int32.lt_iff_toInt_lt, pk_sub_toInt (by omega) (by omega), nI_toInt (by omega)]
    omega
  have e3 : ¬ nI (ro_of rs r + k) < 0 := nI_pos (by have := ro_succ hr; have := ro_top rs (k := r + 1) (by omega); have := hrr.2.1; have := hrr.2.2.1.2; omega)
  have e4 : ¬ nI sz < 0 := nI_pos (by omega)
  have hro : ro_of rs r + k + sz ≤ rs.flatten.length := by have := ro_succ hr; have := ro_top rs (k := r + 1) (by omega); omega
  have hN := hrr.2.1
  have hN2 := hrr.2.2.1.2
  have e5 : (nI (ro_of rs r + k)).toNatClampNeg = ro_of rs r + k := nI_clamp (by omega)
  have e6 : (nI sz).toNatClampNeg = sz := nI_clamp (by omega)
  have e7 : (nI p).toNatClampNeg = p := nI_clamp (by omega)
  refine en_call_is (by decide) (Nat.le_of_ble_eq_true rfl) cat_c ?_
  show en_W (en_call 2) mR_copyPart 0 [some (.ref h), some (.int (nI r)), some (.int (nI k)), some (.int (nI sz)), some (.ref a), some (.int (nI p))] [] c x u _
  simp only [sR_copyPart_0, sR_copyPart_1, sR_copyPart_2, sR_copyPart_3, sR_copyPart_4, sR_copyPart_7, sR_copyPart_10, sR_copyPart_12, sR_copyPart_15, sR_copyPart_17, sR_copyPart_19, sR_copyPart_20, sR_copyPart_21, sR_copyPart_22, sR_copyPart_25, sR_copyPart_26, sR_copyPart_29, sR_copyPart_30, sR_copyPart_33, sR_copyPart_34, sR_copyPart_35, sR_copyPart_36, sR_copyPart_37, sR_copyPart_39, sR_copyPart_41, sR_copyPart_42, sR_copyPart_45, ho, hh, en_rdO_eq, en_rdI_eq, en_rdN_eq, en_rdL_eq, true_and, and_true, List.getElem?_cons_succ, List.getElem?_cons_zero, en_gv_eq, if_true, if_false, and_self, or_true, true_or, implies_true, List.length_cons, List.length_nil, Nat.reduceLT, Nat.reduceLeDiff, Nat.reduceAdd, Nat.zero_le, Option.toList_some, Option.toList_none, List.cons_append, List.nil_append, nI_1, rd_t, n1_0, n0_1, Bool.false_eq_true, false_implies, reduceCtorEq]
  refine en_use (Nat.le_refl _) K1 ?_
  rw [decide_eq_true hk]
  by_cases c1 : p + sz ≤ M
  · have c2 : ¬ M < p + sz := by omega
    have c3 : ro_of rs r + k + sz ≤ N := by omega
    rw [if_pos c1]
    simp only [sR_copyPart_0, sR_copyPart_1, sR_copyPart_2, sR_copyPart_3, sR_copyPart_4, sR_copyPart_7, sR_copyPart_10, sR_copyPart_12, sR_copyPart_15, sR_copyPart_17, sR_copyPart_19, sR_copyPart_20, sR_copyPart_21, sR_copyPart_22, sR_copyPart_25, sR_copyPart_26, sR_copyPart_29, sR_copyPart_30, sR_copyPart_33, sR_copyPart_34, sR_copyPart_35, sR_copyPart_36, sR_copyPart_37, sR_copyPart_39, sR_copyPart_41, sR_copyPart_42, sR_copyPart_45, bi_t, ca, ha, ho, hh, ci, cj, hi, hj, e1, e2, c2, a1, b1, d1, nI_add, e3, e4, e5, e6, e7, c1, c3, not_false_eq_true, en_rdO_eq, en_rdI_eq, en_rdN_eq, en_rdL_eq, true_and, and_true, List.getElem?_cons_succ, List.getElem?_cons_zero, en_gv_eq, if_true, if_false, and_self, or_true, true_or, implies_true, List.length_cons, List.length_nil, Nat.reduceLT, Nat.reduceLeDiff, Nat.reduceAdd, Nat.zero_le, Option.toList_some, Option.toList_none, List.cons_append, List.nil_append, nI_1, rd_t, n1_0, n0_1, Bool.false_eq_true, false_implies, reduceCtorEq, en_q]
    congr 5
    funext q
    unfold va_cpy
    split
    · rename_i hq
      exact (hrr.2.2.2.2.1 _ (by omega)).1
    · rfl
  · have c2 : M < p + sz := by omega
    rw [if_neg c1]
    simp only [sR_copyPart_0, sR_copyPart_1, sR_copyPart_2, sR_copyPart_3, sR_copyPart_4, sR_copyPart_7, sR_copyPart_10, sR_copyPart_12, sR_copyPart_15, sR_copyPart_17, sR_copyPart_19, sR_copyPart_20, sR_copyPart_21, sR_copyPart_22, sR_copyPart_25, sR_copyPart_26, sR_copyPart_29, sR_copyPart_30, sR_copyPart_33, sR_copyPart_34, sR_copyPart_35, sR_copyPart_36, sR_copyPart_37, sR_copyPart_39, sR_copyPart_41, sR_copyPart_42, sR_copyPart_45, bi_t, ca, ha, e1, e2, c2, en_rdO_eq, en_rdI_eq, en_rdN_eq, en_rdL_eq, true_and, and_true, List.getElem?_cons_succ, List.getElem?_cons_zero, en_gv_eq, if_true, if_false, and_self, or_true, true_or, implies_true, List.length_cons, List.length_nil, Nat.reduceLT, Nat.reduceLeDiff, Nat.reduceAdd, Nat.zero_le, Option.toList_some, Option.toList_none, List.cons_append, List.nil_append, nI_1, rd_t, n1_0, n0_1, Bool.false_eq_true, false_implies, reduceCtorEq, en_q]
end RD
