/-! the other side: make -/
section MK
variable {c : en_H} {x u : Nat} {g g' : Nat → Nat → Int32} {AP : Nat → Int64} {ms : Int32} {S : sp_S} {t : sp_T}
def mkQ (c0 c' : en_H) (g : Nat → Nat → Int32) (AP : Nat → Int64) (S : sp_S) (l : List Nat) (b : Bool) : Prop := ∃ f ms', mc c' (va_up g 44 f) AP (mo S ms') ∧ mf c0 c' ∧ ((b = true ∧ l.length ≤ 1000 ∧ ms' = nI l.length ∧ ∀ j, j < l.length → f j = nI (l.getD j 0)) ∨ (b = false ∧ 1000 < l.length))
def mkK (c0 : en_H) (g : Nat → Nat → Int32) (AP : Nat → Int64) (S : sp_S) (x u : Nat) (l : List Nat) : en_K := fun v' c' x' u' => x' = x ∧ u' = u ∧ ∃ b, v' = some (.int (bi b)) ∧ mkQ c0 c' g AP S l b
theorem getD_l {p q : List Nat} {j : Nat} (h : j < p.length) : (p ++ q).getD j 0 = p.getD j 0 := by
  rw [List.getD_eq_getElem?_getD, List.getElem?_append_left h, ← List.getD_eq_getElem?_getD]
theorem getD_r {p q : List Nat} {j : Nat} : (p ++ q).getD (p.length + j) 0 = q.getD j 0 := by
  rw [List.getD_eq_getElem?_getD, List.getElem?_append_right (by omega), show p.length + j - p.length = j by omega, ← List.getD_eq_getElem?_getD]
theorem getD_d {p : List Nat} {j : Nat} : (p.drop 1).getD j 0 = p.getD (j + 1) 0 := by
  rw [List.getD_eq_getElem?_getD, List.getElem?_drop, ← List.getD_eq_getElem?_getD, Nat.add_comm]
theorem cM_make {i : Nat} {ii : Int32} {be : Nat → Nat} (H : MO c g AP ms S) (hx : 46 ≤ x) (hii : ii = nI i) (hi : i < S.2.1.length) (hbe : mb_ok S (g 45) be (sp_tx S i)) : ∃ c' b, en_call 3 mM_make [.ref 29, .int ii] c x u (some (.int (bi b))) c' x u ∧ mkQ c c' g AP S (sp_sub S be (sp_tx S i)) b := by
  have hb := mw_b H.2.2
  have hn := H.2.2.2.1
  have hv := H.2.2.1
  have htl := (H.2.2.2.2.2.1 i hi).2.1
  obtain ⟨-, ⟨e1, e2⟩, -⟩ := H.2.1.2.1 _ hi
  subst hii
  have h3 : vp_in (nI i) 300 := vp_in_nI (by omega) (by omega)
  have h4 : (nI i).toNatClampNeg = i := nI_clamp (by omega)
  have H0 := H
  obtain ⟨m0, m29, m30, m31, m32, m33, m34, m35, m36, m37, m38, m39, m40, m41, m42, m43, m44, m45⟩ := mc_o H.1
  obtain ⟨v29, v30, v31, v32, v33, v34, v35, v36, v37, v38, v39, v40, v41, v42, v43, v44, v45⟩ := mx_b hx
  generalize hl : sp_sub S be (sp_tx S i) = l
  have outer : ∀ (n k : Nat) (c1 : en_H) (f : Nat → Int32) (pre : List Nat) (l3 l4 l5 : Option Value), k + n = (sp_tx S i).length → pre ++ sp_sub S be ((sp_tx S i).drop k) = l → pre.length ≤ 1000 → mc c1 (va_up g 44 f) AP (mo S (nI pre.length)) → (∀ j, j < pre.length → f j = nI (pre.getD j 0)) → mf c c1 → en_W (en_call 2) mM_make 7 [some (.ref 29), some (.int (nI i)), some (.int (nI k)), l3, l4, l5] [] c1 x u (mkK c g AP S x u l) := by
    intro n
    induction n with
    | zero =>
      intro k c1 f pre l3 l4 l5 hk hpre hpl H1 hf hfr
      have hk : k = (sp_tx S i).length := by omega
      subst hk
      rw [List.drop_length, show sp_sub S be [] = [] from rfl, List.append_nil] at hpre
      subst hpre
      obtain ⟨n0, n29, n30, n31, n32, n33, n34, n35, n36, n37, n38, n39, n40, n41, n42, n43, n44, n45⟩ := mc_o H1
      have n33 : c1 33 = .inl (0, 300, .inl (g 33)) := n33
      have q1 : nI (sp_tx S i).length ≤ nI (sp_tx S i).length := Int32.le_refl _
      rw [sM_make_7]
      simp only [sM_make_0, sM_make_1, sM_make_2, sM_make_5, sM_make_6, sM_make_8, sM_make_9, sM_make_12, sM_make_13, sM_make_14, sM_make_17, sM_make_18, sM_make_21, sM_make_24, sM_make_25, sM_make_26, sM_make_27, sM_make_28, sM_make_29, sM_make_30, sM_make_31, sM_make_34, sM_make_35, sM_make_36, sM_make_39, sM_make_40, sM_make_43, sM_make_44, sM_make_47, sM_make_48, sM_make_51, sM_make_52, sM_make_53, sM_make_54, sM_make_55, sM_make_56, sM_make_58, sM_make_59, sM_make_62, sM_make_64, sM_make_65, sM_make_68, sM_make_71, sM_make_72, sM_make_73, sM_make_74, sM_make_78, sM_make_80, sM_make_83, sM_make_84, sM_make_87, sM_make_88, sM_make_91, sM_make_92, sM_make_95, sM_make_96, sM_make_97, sM_make_100, sM_make_101, sM_make_104, sM_make_105, sM_make_106, sM_make_109, sM_make_110, sM_make_111, sM_make_113, sM_make_114, sM_make_115, sM_make_118, sM_make_119, sM_make_120, sM_make_121, sM_make_124, sM_make_125, sM_make_126, sM_make_129, sM_make_132, sM_make_135, sM_make_138, sM_make_141, sM_make_142, n29, n33, v29, v33, h3, h4, e1, q1, en_rdO_eq, en_rdI_eq, en_rdN_eq, en_rdL_eq, true_and, and_true, List.getElem?_cons_succ, List.getElem?_cons_zero, en_gv_eq, if_true, if_false, and_self, or_true, true_or, implies_true, List.length_cons, List.length_nil, Nat.reduceLT, Nat.reduceLeDiff, Nat.reduceAdd, Nat.zero_le, Option.toList_some, Option.toList_none, List.cons_append, List.nil_append, nI_1, rd_t, n1_0, n0_1, Bool.false_eq_true, false_implies, reduceCtorEq]
      exact ⟨rfl, rfl, true, rfl, f, _, H1, hfr, Or.inl ⟨rfl, hpl, rfl, hf⟩⟩
    | succ n ih =>
      intro k c1 f pre l3 l4 l5 hk hpre hpl H1 hf hfr
      have hlt : k < (sp_tx S i).length := by omega
      have q1 : ¬ nI (sp_tx S i).length ≤ nI k := nI_ge hlt (by omega)
      have q2 : vp_in (nI (300 * i + k)) 90000 := vp_in_nI (by omega) (by omega)
      have q3 : (nI (300 * i + k)).toNatClampNeg = 300 * i + k := nI_clamp (by omega)
      have q4 := e2 k hlt
      obtain ⟨hs, hm⟩ := mw_tx H0.2.2 hi hlt
      rw [drop_getD hlt, sub_cons] at hpre
      generalize (sp_tx S i).getD k 0 = s at *
      have q5 : vp_in (nI s) 1000 := vp_in_nI (by omega) (by omega)
      have q6 : (nI s).toNatClampNeg = s := nI_clamp (by omega)
      have q7 := H0.2.1.1 s hs
      have hvv : sp_var S s = S.1.getD s false := rfl
      obtain ⟨n0, n29, n30, n31, n32, n33, n34, n35, n36, n37, n38, n39, n40, n41, n42, n43, n44, n45⟩ := mc_o H1
      have n30 : c1 30 = .inl (2, 1000, .inl (g 30)) := n30
      have n32 : c1 32 = .inl (0, 90000, .inl (g 32)) := n32
      have n33 : c1 33 = .inl (0, 300, .inl (g 33)) := n33
      have n41 : c1 41 = .inl (0, 201, .inl (g 41)) := n41
      have n45 : c1 45 = .inl (0, 1000, .inl (g 45)) := n45
      have fin : ∀ (seg : List Nat) (m : Nat), seg.length = m → m ≤ 1000 → pre ++ (seg ++ sp_sub S be ((sp_tx S i).drop (k + 1))) = l →
          (∀ (c2 : en_H) (f2 : Nat → Int32) (e : Nat) (K : en_K), e < m → mc c2 (va_up g 44 f2) AP (mo S (nI (pre.length + e))) → pre.length + m ≤ 1000 → en_W (en_call 2) mM_make 76 [some (.ref 29), some (.int (nI i)), some (.int (nI k)), some (.int (nI s)), some (.int (nI m)), some (.int (nI (e + 1)))] [] (en_up (en_up c2 44 (.inl (0, 1000, .inl (upd f2 (pre.length + e) (nI (seg.getD e 0)))))) 29 (.inr (5, mo S (nI (pre.length + (e + 1)))))) x u K → en_W (en_call 2) mM_make 76 [some (.ref 29), some (.int (nI i)), some (.int (nI k)), some (.int (nI s)), some (.int (nI m)), some (.int (nI e))] [] c2 x u K) →
          en_W (en_call 2) mM_make 58 [some (.ref 29), some (.int (nI i)), some (.int (nI k)), some (.int (nI s)), some (.int (nI m)), l5] [] c1 x u (mkK c g AP S x u l) := by
        intro seg m hsm hm1 hall hone
        have y1 : (nI (pre.length + m) ≤ nI 1000) = (pre.length + m ≤ 1000) := propext (nI_leI (by omega) (by omega))
        simp only [sM_make_0, sM_make_1, sM_make_2, sM_make_5, sM_make_6, sM_make_8, sM_make_9, sM_make_12, sM_make_13, sM_make_14, sM_make_17, sM_make_18, sM_make_21, sM_make_24, sM_make_25, sM_make_26, sM_make_27, sM_make_28, sM_make_29, sM_make_30, sM_make_31, sM_make_34, sM_make_35, sM_make_36, sM_make_39, sM_make_40, sM_make_43, sM_make_44, sM_make_47, sM_make_48, sM_make_51, sM_make_52, sM_make_53, sM_make_54, sM_make_55, sM_make_56, sM_make_58, sM_make_59, sM_make_62, sM_make_64, sM_make_65, sM_make_68, sM_make_71, sM_make_72, sM_make_73, sM_make_74, sM_make_78, sM_make_80, sM_make_83, sM_make_84, sM_make_87, sM_make_88, sM_make_91, sM_make_92, sM_make_95, sM_make_96, sM_make_97, sM_make_100, sM_make_101, sM_make_104, sM_make_105, sM_make_106, sM_make_109, sM_make_110, sM_make_111, sM_make_113, sM_make_114, sM_make_115, sM_make_118, sM_make_119, sM_make_120, sM_make_121, sM_make_124, sM_make_125, sM_make_126, sM_make_129, sM_make_132, sM_make_135, sM_make_138, sM_make_141, sM_make_142, n29, v29, nI_add, y1, en_rdO_eq, en_rdI_eq, en_rdN_eq, en_rdL_eq, true_and, and_true, List.getElem?_cons_succ, List.getElem?_cons_zero, en_gv_eq, if_true, if_false, and_self, or_true, true_or, implies_true, List.length_cons, List.length_nil, Nat.reduceLT, Nat.reduceLeDiff, Nat.reduceAdd, Nat.zero_le, Option.toList_some, Option.toList_none, List.cons_append, List.nil_append, nI_1, rd_t, n1_0, n0_1, Bool.false_eq_true, false_implies, reduceCtorEq]
        by_cases hbig : pre.length + m ≤ 1000
        · rw [if_pos hbig]
          have inner : ∀ (n2 e : Nat) (c2 : en_H) (f2 : Nat → Int32), e + n2 = m → mc c2 (va_up g 44 f2) AP (mo S (nI (pre.length + e))) → (∀ j, j < pre.length + e → f2 j = nI ((pre ++ seg).getD j 0)) → mf c c2 → en_W (en_call 2) mM_make 76 [some (.ref 29), some (.int (nI i)), some (.int (nI k)), some (.int (nI s)), some (.int (nI m)), some (.int (nI e))] [] c2 x u (mkK c g AP S x u l) := by
            intro n2
            induction n2 with
            | zero =>
              intro e c2 f2 he H2 hf2 hfr2
              have he : e = m := by omega
              subst he
              have z1 : nI e ≤ nI e := Int32.le_refl _
              have hpl2 : (pre ++ seg).length = pre.length + e := by rw [List.length_append, hsm]
              have IH := ih (k + 1) c2 f2 (pre ++ seg) (some (.int (nI s))) (some (.int (nI e))) (some (.int (nI e))) (by omega) (by rw [List.append_assoc]; exact hall) (by omega) (by rw [hpl2]; exact H2) (by rw [hpl2]; exact hf2) hfr2
              rw [sM_make_76]
              simp only [sM_make_0, sM_make_1, sM_make_2, sM_make_5, sM_make_6, sM_make_8, sM_make_9, sM_make_12, sM_make_13, sM_make_14, sM_make_17, sM_make_18, sM_make_21, sM_make_24, sM_make_25, sM_make_26, sM_make_27, sM_make_28, sM_make_29, sM_make_30, sM_make_31, sM_make_34, sM_make_35, sM_make_36, sM_make_39, sM_make_40, sM_make_43, sM_make_44, sM_make_47, sM_make_48, sM_make_51, sM_make_52, sM_make_53, sM_make_54, sM_make_55, sM_make_56, sM_make_58, sM_make_59, sM_make_62, sM_make_64, sM_make_65, sM_make_68, sM_make_71, sM_make_72, sM_make_73, sM_make_74, sM_make_78, sM_make_80, sM_make_83, sM_make_84, sM_make_87, sM_make_88, sM_make_91, sM_make_92, sM_make_95, sM_make_96, sM_make_97, sM_make_100, sM_make_101, sM_make_104, sM_make_105, sM_make_106, sM_make_109, sM_make_110, sM_make_111, sM_make_113, sM_make_114, sM_make_115, sM_make_118, sM_make_119, sM_make_120, sM_make_121, sM_make_124, sM_make_125, sM_make_126, sM_make_129, sM_make_132, sM_make_135, sM_make_138, sM_make_141, sM_make_142, z1, en_rdO_eq, en_rdI_eq, en_rdN_eq, en_rdL_eq, true_and, and_true, List.getElem?_cons_succ, List.getElem?_cons_zero, en_gv_eq, if_true, if_false, and_self, or_true, true_or, implies_true, List.length_cons, List.length_nil, Nat.reduceLT, Nat.reduceLeDiff, Nat.reduceAdd, Nat.zero_le, Option.toList_some, Option.toList_none, List.cons_append, List.nil_append, nI_1, rd_t, n1_0, n0_1, Bool.false_eq_true, false_implies, reduceCtorEq]
              exact IH
            | succ n2 ih2 =>
              intro e c2 f2 he H2 hf2 hfr2
              refine hone c2 f2 e _ (by omega) H2 hbig ?_
              have Hd : mc (en_up c2 44 (.inl (0, 1000, .inl (upd f2 (pre.length + e) (nI (seg.getD e 0)))))) (va_up (va_up g 44 f2) 44 (upd f2 (pre.length + e) (nI (seg.getD e 0)))) AP (mo S (nI (pre.length + e))) := mc_up H2 (by omega) (by omega) (by omega)
              rw [va_up2] at Hd
              refine ih2 (e + 1) _ _ (by omega) (mc_obj (mo S (nI (pre.length + (e + 1)))) Hd) (fun j hj => ?_) (mf_tr (mf_tr hfr2 (mf_up (by omega) (by omega))) (mf_up (by omega) (by omega)))
              by_cases ej : j = pre.length + e
              · rw [ej, pk_us, getD_r]
              · rw [pk_un ej]
                exact hf2 j (by omega)
          exact inner m 0 c1 f (Nat.zero_add _) H1 (fun j hj => by rw [getD_l (by omega)]; exact hf j (by omega)) hfr
        · rw [if_neg hbig]
          refine ⟨rfl, rfl, false, rfl, f, _, H1, hfr, Or.inr ⟨rfl, ?_⟩⟩
          rw [← hall, List.length_append, List.length_append, hsm]
          omega
      have one : ∀ (c2 : en_H) (f2 : Nat → Int32) (m e : Nat) (v : Int32) (K : en_K), m ≤ 1000 → e < m → mc c2 (va_up g 44 f2) AP (mo S (nI (pre.length + e))) → pre.length + m ≤ 1000 → en_W (en_call 2) mM_make 76 [some (.ref 29), some (.int (nI i)), some (.int (nI k)), some (.int (nI s)), some (.int (nI m)), some (.int (nI (e + 1)))] [] (en_up (en_up c2 44 (.inl (0, 1000, .inl (upd f2 (pre.length + e) v)))) 29 (.inr (5, mo S (nI (pre.length + (e + 1)))))) x u K → en_W (en_call 2) mM_make 118 [some (.ref 29), some (.int (nI i)), some (.int (nI k)), some (.int (nI s)), some (.int (nI m)), some (.int (nI e))] [.int v, .int (nI (pre.length + e)), .ref 44] c2 x u K := by
        intro c2 f2 m e v K hm1 he H2 hbig hK
        obtain ⟨o0, o29, o30, o31, o32, o33, o34, o35, o36, o37, o38, o39, o40, o41, o42, o43, o44, o45⟩ := mc_o H2
        have o44 : c2 44 = .inl (0, 1000, .inl f2) := o44
        have z2 : vp_in (nI (pre.length + e)) 1000 := vp_in_nI (by omega) (by omega)
        have z3 : (nI (pre.length + e)).toNatClampNeg = pre.length + e := nI_clamp (by omega)
        simp only [sM_make_0, sM_make_1, sM_make_2, sM_make_5, sM_make_6, sM_make_8, sM_make_9, sM_make_12, sM_make_13, sM_make_14, sM_make_17, sM_make_18, sM_make_21, sM_make_24, sM_make_25, sM_make_26, sM_make_27, sM_make_28, sM_make_29, sM_make_30, sM_make_31, sM_make_34, sM_make_35, sM_make_36, sM_make_39, sM_make_40, sM_make_43, sM_make_44, sM_make_47, sM_make_48, sM_make_51, sM_make_52, sM_make_53, sM_make_54, sM_make_55, sM_make_56, sM_make_58, sM_make_59, sM_make_62, sM_make_64, sM_make_65, sM_make_68, sM_make_71, sM_make_72, sM_make_73, sM_make_74, sM_make_78, sM_make_80, sM_make_83, sM_make_84, sM_make_87, sM_make_88, sM_make_91, sM_make_92, sM_make_95, sM_make_96, sM_make_97, sM_make_100, sM_make_101, sM_make_104, sM_make_105, sM_make_106, sM_make_109, sM_make_110, sM_make_111, sM_make_113, sM_make_114, sM_make_115, sM_make_118, sM_make_119, sM_make_120, sM_make_121, sM_make_124, sM_make_125, sM_make_126, sM_make_129, sM_make_132, sM_make_135, sM_make_138, sM_make_141, sM_make_142, o44, o29, v44, v29, z2, z3, up_ap, Nat.reduceEqDiff, en_fk, List.set_cons_zero, List.set_cons_succ, en_rdO_eq, en_rdI_eq, en_rdN_eq, en_rdL_eq, true_and, and_true, List.getElem?_cons_succ, List.getElem?_cons_zero, en_gv_eq, if_true, if_false, and_self, or_true, true_or, implies_true, List.length_cons, List.length_nil, Nat.reduceLT, Nat.reduceLeDiff, Nat.reduceAdd, Nat.zero_le, Option.toList_some, Option.toList_none, List.cons_append, List.nil_append, nI_1, rd_t, n1_0, n0_1, Bool.false_eq_true, false_implies, reduceCtorEq]
        exact hK
      cases hq : S.1.getD s false with
      | true =>
        obtain ⟨b1, b2⟩ := hbe s hm hq
        have bw := mw_row H0.2.2 b2
        have bl := bw.2.1
        have b0 := bw.1
        obtain ⟨b3, -⟩ := H0.2.1.2.2.2.2.1 (be s) b2
        have b4 : vp_in (nI (be s)) 201 := vp_in_nI (by omega) (by omega)
        have b5 : (nI (be s)).toNatClampNeg = be s := nI_clamp (by omega)
        have b6 : nI (sp_row S (be s)).length - 1 = nI ((sp_row S (be s)).length - 1) := by
          rw [show (sp_row S (be s)).length = ((sp_row S (be s)).length - 1) + 1 by omega]
          exact nI_pred _
        rw [hq] at q7
        have q7 : g 30 s = 0 := q7
        rw [hvv, hq, if_pos rfl] at hpre
        have F := fin ((sp_row S (be s)).drop 1) ((sp_row S (be s)).length - 1) List.length_drop (by omega) hpre (by
          intro c2 f2 e K he H2 hbig hK
          obtain ⟨o0, o29, o30, o31, o32, o33, o34, o35, o36, o37, o38, o39, o40, o41, o42, o43, o44, o45⟩ := mc_o H2
          have o30 : c2 30 = .inl (2, 1000, .inl (g 30)) := o30
          have o45 : c2 45 = .inl (0, 1000, .inl (g 45)) := o45
          have z1 : ¬ nI ((sp_row S (be s)).length - 1) ≤ nI e := nI_ge (by omega) (by omega)
          have K2 := cM_symOf (u := u) (rr := nI (be s)) (kk := nI (e + 1)) (c := c2) (g := va_up g 44 f2) ⟨H2, mrel_44 H0.2.1, H0.2.2⟩ hx rfl rfl b2 (by omega)
          rw [if_pos (show e + 1 < (sp_row S (be s)).length by omega)] at K2
          rw [getD_d] at hK
          have O := one c2 f2 _ e _ K (by omega) he H2 hbig hK
          rw [sM_make_76]
          simp only [sM_make_0, sM_make_1, sM_make_2, sM_make_5, sM_make_6, sM_make_8, sM_make_9, sM_make_12, sM_make_13, sM_make_14, sM_make_17, sM_make_18, sM_make_21, sM_make_24, sM_make_25, sM_make_26, sM_make_27, sM_make_28, sM_make_29, sM_make_30, sM_make_31, sM_make_34, sM_make_35, sM_make_36, sM_make_39, sM_make_40, sM_make_43, sM_make_44, sM_make_47, sM_make_48, sM_make_51, sM_make_52, sM_make_53, sM_make_54, sM_make_55, sM_make_56, sM_make_58, sM_make_59, sM_make_62, sM_make_64, sM_make_65, sM_make_68, sM_make_71, sM_make_72, sM_make_73, sM_make_74, sM_make_78, sM_make_80, sM_make_83, sM_make_84, sM_make_87, sM_make_88, sM_make_91, sM_make_92, sM_make_95, sM_make_96, sM_make_97, sM_make_100, sM_make_101, sM_make_104, sM_make_105, sM_make_106, sM_make_109, sM_make_110, sM_make_111, sM_make_113, sM_make_114, sM_make_115, sM_make_119, sM_make_120, sM_make_121, sM_make_124, sM_make_125, sM_make_126, sM_make_129, sM_make_132, sM_make_135, sM_make_138, sM_make_141, sM_make_142, o29, o30, o45, v29, v30, v45, z1, q5, q6, q7, b1, en_rdO_eq, en_rdI_eq, en_rdN_eq, en_rdL_eq, true_and, and_true, List.getElem?_cons_succ, List.getElem?_cons_zero, en_gv_eq, if_true, if_false, and_self, or_true, true_or, implies_true, List.length_cons, List.length_nil, Nat.reduceLT, Nat.reduceLeDiff, Nat.reduceAdd, Nat.zero_le, Option.toList_some, Option.toList_none, List.cons_append, List.nil_append, nI_1, rd_t, n1_0, n0_1, Bool.false_eq_true, false_implies, reduceCtorEq]
          refine en_use (by decide) K2 ?_
          simp only [Option.toList_some, List.cons_append, List.nil_append]
          exact O)
        rw [sM_make_7]
        simp only [sM_make_0, sM_make_1, sM_make_2, sM_make_5, sM_make_6, sM_make_8, sM_make_9, sM_make_12, sM_make_13, sM_make_14, sM_make_17, sM_make_18, sM_make_21, sM_make_24, sM_make_25, sM_make_26, sM_make_27, sM_make_28, sM_make_29, sM_make_30, sM_make_31, sM_make_34, sM_make_35, sM_make_36, sM_make_39, sM_make_40, sM_make_43, sM_make_44, sM_make_47, sM_make_48, sM_make_51, sM_make_52, sM_make_53, sM_make_54, sM_make_55, sM_make_56, sM_make_59, sM_make_62, sM_make_64, sM_make_65, sM_make_68, sM_make_71, sM_make_72, sM_make_73, sM_make_74, sM_make_78, sM_make_80, sM_make_83, sM_make_84, sM_make_87, sM_make_88, sM_make_91, sM_make_92, sM_make_95, sM_make_96, sM_make_97, sM_make_100, sM_make_101, sM_make_104, sM_make_105, sM_make_106, sM_make_109, sM_make_110, sM_make_111, sM_make_113, sM_make_114, sM_make_115, sM_make_118, sM_make_119, sM_make_120, sM_make_121, sM_make_124, sM_make_125, sM_make_126, sM_make_129, sM_make_132, sM_make_135, sM_make_138, sM_make_141, sM_make_142, n29, n30, n32, n33, n41, n45, v29, v30, v32, v33, v41, v45, h3, h4, e1, q1, nI_mul, nI_add, q2, q3, q4, q5, q6, q7, b1, b3, b4, b5, b6, en_rdO_eq, en_rdI_eq, en_rdN_eq, en_rdL_eq, true_and, and_true, List.getElem?_cons_succ, List.getElem?_cons_zero, en_gv_eq, if_true, if_false, and_self, or_true, true_or, implies_true, List.length_cons, List.length_nil, Nat.reduceLT, Nat.reduceLeDiff, Nat.reduceAdd, Nat.zero_le, Option.toList_some, Option.toList_none, List.cons_append, List.nil_append, nI_1, rd_t, n1_0, n0_1, Bool.false_eq_true, false_implies, reduceCtorEq]
        exact F
      | false =>
        rw [hq] at q7
        have q7 : g 30 s = 1 := q7
        rw [hvv, hq, if_neg (by simp)] at hpre
        have F := fin [s] 1 rfl (by omega) hpre (by
          intro c2 f2 e K he H2 hbig hK
          obtain ⟨o0, o29, o30, o31, o32, o33, o34, o35, o36, o37, o38, o39, o40, o41, o42, o43, o44, o45⟩ := mc_o H2
          have o30 : c2 30 = .inl (2, 1000, .inl (g 30)) := o30
          have he0 : e = 0 := by omega
          subst he0
          have z1 : ¬ nI 1 ≤ nI 0 := nI_ge (by omega) (by omega)
          have O := one c2 f2 1 0 _ K (by omega) he H2 hbig hK
          rw [sM_make_76]
          simp only [sM_make_0, sM_make_1, sM_make_2, sM_make_5, sM_make_6, sM_make_8, sM_make_9, sM_make_12, sM_make_13, sM_make_14, sM_make_17, sM_make_18, sM_make_21, sM_make_24, sM_make_25, sM_make_26, sM_make_27, sM_make_28, sM_make_29, sM_make_30, sM_make_31, sM_make_34, sM_make_35, sM_make_36, sM_make_39, sM_make_40, sM_make_43, sM_make_44, sM_make_47, sM_make_48, sM_make_51, sM_make_52, sM_make_53, sM_make_54, sM_make_55, sM_make_56, sM_make_58, sM_make_59, sM_make_62, sM_make_64, sM_make_65, sM_make_68, sM_make_71, sM_make_72, sM_make_73, sM_make_74, sM_make_78, sM_make_80, sM_make_83, sM_make_84, sM_make_87, sM_make_88, sM_make_91, sM_make_92, sM_make_95, sM_make_96, sM_make_97, sM_make_100, sM_make_101, sM_make_104, sM_make_105, sM_make_106, sM_make_109, sM_make_110, sM_make_111, sM_make_113, sM_make_114, sM_make_115, sM_make_119, sM_make_120, sM_make_121, sM_make_124, sM_make_125, sM_make_126, sM_make_129, sM_make_132, sM_make_135, sM_make_138, sM_make_141, sM_make_142, o29, o30, v29, v30, z1, q5, q6, q7, en_rdO_eq, en_rdI_eq, en_rdN_eq, en_rdL_eq, true_and, and_true, List.getElem?_cons_succ, List.getElem?_cons_zero, en_gv_eq, if_true, if_false, and_self, or_true, true_or, implies_true, List.length_cons, List.length_nil, Nat.reduceLT, Nat.reduceLeDiff, Nat.reduceAdd, Nat.zero_le, Option.toList_some, Option.toList_none, List.cons_append, List.nil_append, nI_1, rd_t, n1_0, n0_1, Bool.false_eq_true, false_implies, reduceCtorEq]
          exact O)
        rw [sM_make_7]
        simp only [sM_make_0, sM_make_1, sM_make_2, sM_make_5, sM_make_6, sM_make_8, sM_make_9, sM_make_12, sM_make_13, sM_make_14, sM_make_17, sM_make_18, sM_make_21, sM_make_24, sM_make_25, sM_make_26, sM_make_27, sM_make_28, sM_make_29, sM_make_30, sM_make_31, sM_make_34, sM_make_35, sM_make_36, sM_make_39, sM_make_40, sM_make_43, sM_make_44, sM_make_47, sM_make_48, sM_make_51, sM_make_52, sM_make_53, sM_make_54, sM_make_55, sM_make_56, sM_make_59, sM_make_62, sM_make_64, sM_make_65, sM_make_68, sM_make_71, sM_make_72, sM_make_73, sM_make_74, sM_make_78, sM_make_80, sM_make_83, sM_make_84, sM_make_87, sM_make_88, sM_make_91, sM_make_92, sM_make_95, sM_make_96, sM_make_97, sM_make_100, sM_make_101, sM_make_104, sM_make_105, sM_make_106, sM_make_109, sM_make_110, sM_make_111, sM_make_113, sM_make_114, sM_make_115, sM_make_118, sM_make_119, sM_make_120, sM_make_121, sM_make_124, sM_make_125, sM_make_126, sM_make_129, sM_make_132, sM_make_135, sM_make_138, sM_make_141, sM_make_142, n29, n30, n32, n33, v29, v30, v32, v33, h3, h4, e1, q1, nI_mul, nI_add, q2, q3, q4, q5, q6, q7, en_rdO_eq, en_rdI_eq, en_rdN_eq, en_rdL_eq, true_and, and_true, List.getElem?_cons_succ, List.getElem?_cons_zero, en_gv_eq, if_true, if_false, and_self, or_true, true_or, implies_true, List.length_cons, List.length_nil, Nat.reduceLT, Nat.reduceLeDiff, Nat.reduceAdd, Nat.zero_le, Option.toList_some, Option.toList_none, List.cons_append, List.nil_append, nI_1, rd_t, n1_0, n0_1, Bool.false_eq_true, false_implies, reduceCtorEq]
        exact F
  have O := outer (sp_tx S i).length 0 _ (g 44) [] none none none (Nat.zero_add _) (by rw [List.drop_zero]; exact hl) (Nat.zero_le _) (by rw [va_self]; exact mc_obj (mo S (nI ([] : List Nat).length)) H0.1) (fun j hj => absurd hj (Nat.not_lt_zero _)) (mf_up (by omega) (by omega))
  have G : en_W (en_call 2) mM_make 0 (en_lv0 mM_make [.ref 29, .int (nI i)]) [] c x u (mkK c g AP S x u l) := by
    show en_W (en_call 2) mM_make 0 [some (.ref 29), some (.int (nI i)), none, none, none, none] [] c x u _
    simp only [sM_make_0, sM_make_1, sM_make_2, sM_make_5, sM_make_6, sM_make_8, sM_make_9, sM_make_12, sM_make_13, sM_make_14, sM_make_17, sM_make_18, sM_make_21, sM_make_24, sM_make_25, sM_make_26, sM_make_27, sM_make_28, sM_make_29, sM_make_30, sM_make_31, sM_make_34, sM_make_35, sM_make_36, sM_make_39, sM_make_40, sM_make_43, sM_make_44, sM_make_47, sM_make_48, sM_make_51, sM_make_52, sM_make_53, sM_make_54, sM_make_55, sM_make_56, sM_make_58, sM_make_59, sM_make_62, sM_make_64, sM_make_65, sM_make_68, sM_make_71, sM_make_72, sM_make_73, sM_make_74, sM_make_78, sM_make_80, sM_make_83, sM_make_84, sM_make_87, sM_make_88, sM_make_91, sM_make_92, sM_make_95, sM_make_96, sM_make_97, sM_make_100, sM_make_101, sM_make_104, sM_make_105, sM_make_106, sM_make_109, sM_make_110, sM_make_111, sM_make_113, sM_make_114, sM_make_115, sM_make_118, sM_make_119, sM_make_120, sM_make_121, sM_make_124, sM_make_125, sM_make_126, sM_make_129, sM_make_132, sM_make_135, sM_make_138, sM_make_141, sM_make_142, m0, m29, m30, m31, m32, m33, m34, m35, m36, m37, m38, m39, m40, m41, m42, m43, m44, m45, v29, v30, v31, v32, v33, v34, v35, v36, v37, v38, v39, v40, v41, v42, v43, v44, v45, en_fk, List.set_cons_zero, List.set_cons_succ, en_rdO_eq, en_rdI_eq, en_rdN_eq, en_rdL_eq, true_and, and_true, List.getElem?_cons_succ, List.getElem?_cons_zero, en_gv_eq, if_true, if_false, and_self, or_true, true_or, implies_true, List.length_cons, List.length_nil, Nat.reduceLT, Nat.reduceLeDiff, Nat.reduceAdd, Nat.zero_le, Option.toList_some, Option.toList_none, List.cons_append, List.nil_append, nI_1, rd_t, n1_0, n0_1, Bool.false_eq_true, false_implies, reduceCtorEq]
    exact O
  obtain ⟨v', c', x', u', k1, ⟨rfl, rfl, b, rfl, k2⟩, -⟩ := en_call_of (by decide) (Nat.le_of_ble_eq_true rfl) cat_2 G
  exact ⟨c', b, k1, k2⟩
end MK
