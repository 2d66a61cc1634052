/-! the other side: its object is cell 29, its arrays 30 .. 45 -/
theorem nI_mul (a b : Nat) : nI a * nI b = nI (a * b) := (Int32.ofNat_mul a b).symm
theorem en_up_self {c : en_H} {a : Nat} {e : en_C} (h : c a = e) : en_up c a e = c := by
  funext j
  unfold en_up
  by_cases q : j = a
  · rw [if_pos q, q, h]
  · rw [if_neg q]
def mty (a : Nat) : Nat := if a = 30 then 2 else 0
def mn (a : Nat) : Nat := [1000, 300, 90000, 300, 18000, 300, 60000, 60000, 300, 16000, 201000, 201, 300000, 300, 1000, 1000].getD (a - 30) 0
def mo (S : sp_S) (ms : Int32) : List Value := [.int 0, .ref 30, .int (nI S.1.length), .ref 31, .ref 32, .ref 33, .ref 34, .ref 35, .ref 36, .ref 37, .ref 38, .int (nI S.2.1.length), .int (bi S.2.2.1), .ref 39, .ref 40, .ref 41, .int (nI S.2.2.2.2.1.length), .ref 42, .ref 43, .int (nI S.2.2.2.2.2.length), .ref 44, .int ms, .ref 45]
def mc (c : en_H) (g : Nat → Nat → Int32) (AP : Nat → Int64) (L : List Value) : Prop := c 29 = .inr (5, L) ∧ (∀ a, 30 ≤ a → a < 46 → a ≠ 39 → c a = .inl (mty a, mn a, .inl (g a))) ∧ c 39 = .inl (1, 16000, .inr (.inl AP))
/-- a list in a table of width w: its numbers in f, its length in h -/
def ml (f h : Nat → Int32) (w i : Nat) (l : List Nat) : Prop := h i = nI l.length ∧ ∀ k, k < l.length → f (w * i + k) = nI (l.getD k 0)
def mbit (AP : Nat → Int64) (s t : Nat) : Bool := (AP (16 * s + t / 64)).toBitVec.getLsbD (t % 64)
def mrel (g : Nat → Nat → Int32) (AP : Nat → Int64) (S : sp_S) : Prop :=
  (∀ s, s < S.1.length → g 30 s = bi (!S.1.getD s false)) ∧
  (∀ i, i < S.2.1.length → g 31 i = nI (sp_kd S i) ∧ ml (g 32) (g 33) 300 i (sp_tx S i) ∧ ml (g 34) (g 35) 60 i (sp_nd S i) ∧ ml (g 36) (g 38) 200 i ((sp_pr S i).map Prod.fst) ∧ ml (g 37) (g 38) 200 i ((sp_pr S i).map Prod.snd)) ∧
  (∀ i, S.2.1.length ≤ i → i < 300 → g 33 i = 0 ∧ g 35 i = 0 ∧ g 38 i = 0) ∧ (∀ s t, s < 1000 → t < 1000 → mbit AP s t = S.2.2.2.1 s t) ∧
  (∀ r, r < S.2.2.2.2.1.length → ml (g 40) (g 41) 1000 r (sp_row S r)) ∧ ∀ r, r < S.2.2.2.2.2.length → ml (g 42) (g 43) 1000 r (S.2.2.2.2.2.getD r [])
def MO (c : en_H) (g : Nat → Nat → Int32) (AP : Nat → Int64) (ms : Int32) (S : sp_S) : Prop := mc c g AP (mo S ms) ∧ mrel g AP S ∧ sp_wf S
/-- only this side's cells may have changed -/
def mf (c c' : en_H) : Prop := ∀ a, (a < 29 ∨ 46 ≤ a) → c' a = c a
theorem mf_rf {c : en_H} : mf c c := fun _ _ => rfl
theorem mf_tr {c c' c2 : en_H} (h : mf c c') (k : mf c' c2) : mf c c2 := fun a q => (k a q).trans (h a q)
theorem mf_up {c : en_H} {a : Nat} {e : en_C} (h1 : 29 ≤ a) (h2 : a < 46) : mf c (en_up c a e) := fun b q => en_up_n (by omega)
theorem mc_up {c : en_H} {g : Nat → Nat → Int32} {AP : Nat → Int64} {L : List Value} {a : Nat} {f : Nat → Int32} (H : mc c g AP L) (h1 : 30 ≤ a) (h2 : a < 46) (h3 : a ≠ 39) : mc (en_up c a (.inl (mty a, mn a, .inl f))) (va_up g a f) AP L := by
  refine ⟨(en_up_n (by omega)).trans H.1, fun b q1 q2 q3 => ?_, (en_up_n (by omega)).trans H.2.2⟩
  by_cases e : b = a
  · rw [e, en_up_s, show va_up g a f a = f from if_pos rfl]
  · rw [en_up_n e, show va_up g a f b = g b from if_neg e]
    exact H.2.1 b q1 q2 q3
theorem mc_obj {c : en_H} {g : Nat → Nat → Int32} {AP : Nat → Int64} {L : List Value} (L' : List Value) (H : mc c g AP L) : mc (en_up c 29 (.inr (5, L'))) g AP L' :=
  ⟨en_up_s _ _ _, fun b q1 q2 q3 => (en_up_n (by omega)).trans (H.2.1 b q1 q2 q3), (en_up_n (by omega)).trans H.2.2⟩
theorem mc_ap {c : en_H} {g : Nat → Nat → Int32} {AP AP' : Nat → Int64} {L : List Value} (H : mc c g AP L) : mc (en_up c 39 (.inl (1, 16000, .inr (.inl AP')))) g AP' L :=
  ⟨(en_up_n (by omega)).trans H.1, fun b q1 q2 q3 => (en_up_n (by omega)).trans (H.2.1 b q1 q2 q3), en_up_s _ _ _⟩
theorem mc_o {c : en_H} {g : Nat → Nat → Int32} {AP : Nat → Int64} {S : sp_S} {ms : Int32} (H : mc c g AP (mo S ms)) :
    en_up c 29 (.inr (5, [.int 0, .ref 30, .int (nI S.1.length), .ref 31, .ref 32, .ref 33, .ref 34, .ref 35, .ref 36, .ref 37, .ref 38, .int (nI S.2.1.length), .int (bi S.2.2.1), .ref 39, .ref 40, .ref 41, .int (nI S.2.2.2.2.1.length), .ref 42, .ref 43, .int (nI S.2.2.2.2.2.length), .ref 44, .int ms, .ref 45])) = c ∧
    c 29 = .inr (5, [.int 0, .ref 30, .int (nI S.1.length), .ref 31, .ref 32, .ref 33, .ref 34, .ref 35, .ref 36, .ref 37, .ref 38, .int (nI S.2.1.length), .int (bi S.2.2.1), .ref 39, .ref 40, .ref 41, .int (nI S.2.2.2.2.1.length), .ref 42, .ref 43, .int (nI S.2.2.2.2.2.length), .ref 44, .int ms, .ref 45]) ∧
    c 30 = .inl (2, 1000, .inl (g 30)) ∧ c 31 = .inl (0, 300, .inl (g 31)) ∧ c 32 = .inl (0, 90000, .inl (g 32)) ∧ c 33 = .inl (0, 300, .inl (g 33)) ∧ c 34 = .inl (0, 18000, .inl (g 34)) ∧ c 35 = .inl (0, 300, .inl (g 35)) ∧ c 36 = .inl (0, 60000, .inl (g 36)) ∧ c 37 = .inl (0, 60000, .inl (g 37)) ∧ c 38 = .inl (0, 300, .inl (g 38)) ∧ c 39 = .inl (1, 16000, .inr (.inl AP)) ∧ c 40 = .inl (0, 201000, .inl (g 40)) ∧ c 41 = .inl (0, 201, .inl (g 41)) ∧ c 42 = .inl (0, 300000, .inl (g 42)) ∧ c 43 = .inl (0, 300, .inl (g 43)) ∧ c 44 = .inl (0, 1000, .inl (g 44)) ∧ c 45 = .inl (0, 1000, .inl (g 45)) :=
  ⟨en_up_self H.1, H.1, H.2.1 30 (by omega) (by omega) (by omega), H.2.1 31 (by omega) (by omega) (by omega), H.2.1 32 (by omega) (by omega) (by omega), H.2.1 33 (by omega) (by omega) (by omega), H.2.1 34 (by omega) (by omega) (by omega), H.2.1 35 (by omega) (by omega) (by omega), H.2.1 36 (by omega) (by omega) (by omega), H.2.1 37 (by omega) (by omega) (by omega), H.2.1 38 (by omega) (by omega) (by omega), H.2.2, H.2.1 40 (by omega) (by omega) (by omega), H.2.1 41 (by omega) (by omega) (by omega), H.2.1 42 (by omega) (by omega) (by omega), H.2.1 43 (by omega) (by omega) (by omega), H.2.1 44 (by omega) (by omega) (by omega), H.2.1 45 (by omega) (by omega) (by omega)⟩
theorem mx_b {x : Nat} (h : 46 ≤ x) : 29 < x ∧ 30 < x ∧ 31 < x ∧ 32 < x ∧ 33 < x ∧ 34 < x ∧ 35 < x ∧ 36 < x ∧ 37 < x ∧ 38 < x ∧ 39 < x ∧ 40 < x ∧ 41 < x ∧ 42 < x ∧ 43 < x ∧ 44 < x ∧ 45 < x := by omega
section MC
variable {c : en_H} {x u : Nat} {g : Nat → Nat → Int32} {AP : Nat → Int64} {ms : Int32} {S : sp_S}
theorem cM_last0 (H : mc c g AP (mo S ms)) (hx : 46 ≤ x) (hp : 0 < S.2.1.length) : en_call 1 mM_last [.ref 29] c x u (some (.int (nI (sp_la S)))) c x u := by
  have e1 : nI S.2.1.length - 1 = nI (sp_la S) := by
    rw [show S.2.1.length = sp_la S + 1 by unfold sp_la; omega]
    exact nI_pred _
  obtain ⟨m0, m29, -⟩ := mc_o H
  have v29 : 29 < x := by omega
  refine en_call_is (by decide) (Nat.le_of_ble_eq_true rfl) cat_1 ?_
  show en_W (en_call 0) mM_last 0 [some (.ref 29)] [] c x u _
  simp only [sM_last_0, sM_last_1, sM_last_4, sM_last_5, sM_last_6, m29, v29, e1, en_rdO_eq, en_rdI_eq, en_rdN_eq, en_rdL_eq, true_and, and_true, List.getElem?_cons_succ, List.getElem?_cons_zero, en_gv_eq, if_true, if_false, and_self, or_true, true_or, implies_true, List.length_cons, List.length_nil, Nat.reduceLT, Nat.reduceLeDiff, Nat.reduceAdd, Nat.zero_le, Option.toList_some, Option.toList_none, List.cons_append, List.nil_append, nI_1, rd_t, n1_0, n0_1, Bool.false_eq_true, false_implies, reduceCtorEq, en_q]
theorem cM_last (H : MO c g AP ms S) (hx : 46 ≤ x) (hp : 0 < S.2.1.length) : en_call 1 mM_last [.ref 29] c x u (some (.int (nI (sp_la S)))) c x u := cM_last0 H.1 hx hp
theorem cM_isVar {w : Int32} (H : MO c g AP ms S) (hx : 46 ≤ x) : en_call 1 mM_isVariable [.ref 29, .int w] c x u (some (.int (bi (sp_isv S w)))) c x u := by
  have hv := H.2.2.1
  have hc := H.2.1.1
  obtain ⟨m0, m29, m30, m31, m32, m33, m34, m35, m36, m37, m38, m39, m40, m41, m42, m43, m44, m45⟩ := mc_o H.1
  obtain ⟨v29, v30, v31, v32, v33, v34, v35, v36, v37, v38, v39, v40, v41, v42, v43, v44, v45⟩ := mx_b hx
  refine en_call_is (by decide) (Nat.le_of_ble_eq_true rfl) cat_2 ?_
  show en_W (en_call 0) mM_isVariable 0 [some (.ref 29), some (.int w)] [] c x u _
  rw [sy_isv]
  rcases sy_ix hv w with ⟨h1, h2⟩ | ⟨s, hs, rfl, h2⟩
  · rw [h2]
    by_cases h0 : w < 0
    · simp only [sM_isVariable_0, sM_isVariable_1, sM_isVariable_4, sM_isVariable_5, sM_isVariable_6, sM_isVariable_9, sM_isVariable_12, sM_isVariable_13, sM_isVariable_16, sM_isVariable_17, sM_isVariable_18, sM_isVariable_21, sM_isVariable_22, sM_isVariable_25, sM_isVariable_26, h0, bi_f, en_rdO_eq, en_rdI_eq, en_rdN_eq, en_rdL_eq, true_and, and_true, List.getElem?_cons_succ, List.getElem?_cons_zero, en_gv_eq, if_true, if_false, and_self, or_true, true_or, implies_true, List.length_cons, List.length_nil, Nat.reduceLT, Nat.reduceLeDiff, Nat.reduceAdd, Nat.zero_le, Option.toList_some, Option.toList_none, List.cons_append, List.nil_append, nI_1, rd_t, n1_0, n0_1, Bool.false_eq_true, false_implies, reduceCtorEq, en_q]
    · have h1 : nI S.1.length ≤ w := by rcases h1 with q | q; exact absurd q h0; exact q
      simp only [sM_isVariable_0, sM_isVariable_1, sM_isVariable_4, sM_isVariable_5, sM_isVariable_6, sM_isVariable_9, sM_isVariable_12, sM_isVariable_13, sM_isVariable_16, sM_isVariable_17, sM_isVariable_18, sM_isVariable_21, sM_isVariable_22, sM_isVariable_25, sM_isVariable_26, m0, m29, m30, m31, m32, m33, m34, m35, m36, m37, m38, m39, m40, m41, m42, m43, m44, m45, v29, v30, v31, v32, v33, v34, v35, v36, v37, v38, v39, v40, v41, v42, v43, v44, v45, en_fk, List.set_cons_zero, List.set_cons_succ, h0, h1, bi_f, en_rdO_eq, en_rdI_eq, en_rdN_eq, en_rdL_eq, true_and, and_true, List.getElem?_cons_succ, List.getElem?_cons_zero, en_gv_eq, if_true, if_false, and_self, or_true, true_or, implies_true, List.length_cons, List.length_nil, Nat.reduceLT, Nat.reduceLeDiff, Nat.reduceAdd, Nat.zero_le, Option.toList_some, Option.toList_none, List.cons_append, List.nil_append, nI_1, rd_t, n1_0, n0_1, Bool.false_eq_true, false_implies, reduceCtorEq, en_q]
  · rw [h2]
    have e1 : ¬ nI s < 0 := nI_pos (by omega)
    have e2 : ¬ nI S.1.length ≤ nI s := nI_ge hs (by omega)
    have e3 : vp_in (nI s) 1000 := vp_in_nI (by omega) (by omega)
    have e4 : (nI s).toNatClampNeg = s := nI_clamp (by omega)
    have e5 := hc s hs
    cases hq : S.1.getD s false with
    | true =>
      rw [hq] at e5
      simp only [sM_isVariable_0, sM_isVariable_1, sM_isVariable_4, sM_isVariable_5, sM_isVariable_6, sM_isVariable_9, sM_isVariable_12, sM_isVariable_13, sM_isVariable_16, sM_isVariable_17, sM_isVariable_18, sM_isVariable_21, sM_isVariable_22, sM_isVariable_25, sM_isVariable_26, m0, m29, m30, m31, m32, m33, m34, m35, m36, m37, m38, m39, m40, m41, m42, m43, m44, m45, v29, v30, v31, v32, v33, v34, v35, v36, v37, v38, v39, v40, v41, v42, v43, v44, v45, en_fk, List.set_cons_zero, List.set_cons_succ, e1, e2, e3, e4, e5, Bool.not_true, bi_f, bi_t, en_rdO_eq, en_rdI_eq, en_rdN_eq, en_rdL_eq, true_and, and_true, List.getElem?_cons_succ, List.getElem?_cons_zero, en_gv_eq, if_true, if_false, and_self, or_true, true_or, implies_true, List.length_cons, List.length_nil, Nat.reduceLT, Nat.reduceLeDiff, Nat.reduceAdd, Nat.zero_le, Option.toList_some, Option.toList_none, List.cons_append, List.nil_append, nI_1, rd_t, n1_0, n0_1, Bool.false_eq_true, false_implies, reduceCtorEq, en_q]
    | false =>
      rw [hq] at e5
      simp only [sM_isVariable_0, sM_isVariable_1, sM_isVariable_4, sM_isVariable_5, sM_isVariable_6, sM_isVariable_9, sM_isVariable_12, sM_isVariable_13, sM_isVariable_16, sM_isVariable_17, sM_isVariable_18, sM_isVariable_21, sM_isVariable_22, sM_isVariable_25, sM_isVariable_26, m0, m29, m30, m31, m32, m33, m34, m35, m36, m37, m38, m39, m40, m41, m42, m43, m44, m45, v29, v30, v31, v32, v33, v34, v35, v36, v37, v38, v39, v40, v41, v42, v43, v44, v45, en_fk, List.set_cons_zero, List.set_cons_succ, e1, e2, e3, e4, e5, Bool.not_false, bi_f, bi_t, en_rdO_eq, en_rdI_eq, en_rdN_eq, en_rdL_eq, true_and, and_true, List.getElem?_cons_succ, List.getElem?_cons_zero, en_gv_eq, if_true, if_false, and_self, or_true, true_or, implies_true, List.length_cons, List.length_nil, Nat.reduceLT, Nat.reduceLeDiff, Nat.reduceAdd, Nat.zero_le, Option.toList_some, Option.toList_none, List.cons_append, List.nil_append, nI_1, rd_t, n1_0, n0_1, Bool.false_eq_true, false_implies, reduceCtorEq, en_q]
theorem mo_la (H : MO c g AP ms S) (hp : 0 < S.2.1.length) : sp_la S < S.2.1.length ∧ S.2.1.length ≤ 300 ∧ vp_in (nI (sp_la S)) 300 ∧ (nI (sp_la S)).toNatClampNeg = sp_la S := by
  have h1 : sp_la S < S.2.1.length := by unfold sp_la; omega
  have h2 := H.2.2.2.1
  exact ⟨h1, h2, vp_in_nI (by omega) (by omega), nI_clamp (by omega)⟩
theorem cM_isOA (H : MO c g AP ms S) (hx : 46 ≤ x) : en_call 2 mM_isOpenAssertion [.ref 29] c x u (some (.int (bi (sp_open2 S)))) c x u := by
  obtain ⟨m0, m29, m30, m31, m32, m33, m34, m35, m36, m37, m38, m39, m40, m41, m42, m43, m44, m45⟩ := mc_o H.1
  obtain ⟨v29, v30, v31, v32, v33, v34, v35, v36, v37, v38, v39, v40, v41, v42, v43, v44, v45⟩ := mx_b hx
  refine en_call_is (by decide) (Nat.le_of_ble_eq_true rfl) cat_1 ?_
  show en_W (en_call 1) mM_isOpenAssertion 0 [some (.ref 29)] [] c x u _
  unfold sp_open2
  cases ho : S.2.2.1 with
  | false =>
    simp only [sM_isOpenAssertion_0, sM_isOpenAssertion_1, sM_isOpenAssertion_4, sM_isOpenAssertion_7, sM_isOpenAssertion_8, sM_isOpenAssertion_11, sM_isOpenAssertion_12, sM_isOpenAssertion_15, sM_isOpenAssertion_16, sM_isOpenAssertion_17, sM_isOpenAssertion_20, sM_isOpenAssertion_21, sM_isOpenAssertion_24, sM_isOpenAssertion_25, m0, m29, m30, m31, m32, m33, m34, m35, m36, m37, m38, m39, m40, m41, m42, m43, m44, m45, v29, v30, v31, v32, v33, v34, v35, v36, v37, v38, v39, v40, v41, v42, v43, v44, v45, en_fk, List.set_cons_zero, List.set_cons_succ, ho, bi_f, Bool.false_and, en_rdO_eq, en_rdI_eq, en_rdN_eq, en_rdL_eq, true_and, and_true, List.getElem?_cons_succ, List.getElem?_cons_zero, en_gv_eq, if_true, if_false, and_self, or_true, true_or, implies_true, List.length_cons, List.length_nil, Nat.reduceLT, Nat.reduceLeDiff, Nat.reduceAdd, Nat.zero_le, Option.toList_some, Option.toList_none, List.cons_append, List.nil_append, nI_1, rd_t, n1_0, n0_1, Bool.false_eq_true, false_implies, reduceCtorEq, en_q]
  | true =>
    have hp := H.2.2.2.2.1 ho
    have K1 := cM_last (u := u) H hx hp
    obtain ⟨h1, h2, h3, h4⟩ := mo_la H hp
    have e1 := (H.2.1.2.1 _ h1).1
    have hk := (H.2.2.2.2.2.1 _ h1).1
    have e2 : (nI (sp_kd S (sp_la S)) = 2) = (sp_kd S (sp_la S) = 2) := propext (nI_eq (b := 2) (by omega) (by omega))
    simp only [sM_isOpenAssertion_0, sM_isOpenAssertion_1, sM_isOpenAssertion_4, sM_isOpenAssertion_7, sM_isOpenAssertion_8, sM_isOpenAssertion_11, sM_isOpenAssertion_12, sM_isOpenAssertion_15, sM_isOpenAssertion_16, sM_isOpenAssertion_17, sM_isOpenAssertion_20, sM_isOpenAssertion_21, sM_isOpenAssertion_24, sM_isOpenAssertion_25, m0, m29, m30, m31, m32, m33, m34, m35, m36, m37, m38, m39, m40, m41, m42, m43, m44, m45, v29, v30, v31, v32, v33, v34, v35, v36, v37, v38, v39, v40, v41, v42, v43, v44, v45, en_fk, List.set_cons_zero, List.set_cons_succ, ho, bi_t, Bool.true_and, en_rdO_eq, en_rdI_eq, en_rdN_eq, en_rdL_eq, true_and, and_true, List.getElem?_cons_succ, List.getElem?_cons_zero, en_gv_eq, if_true, if_false, and_self, or_true, true_or, implies_true, List.length_cons, List.length_nil, Nat.reduceLT, Nat.reduceLeDiff, Nat.reduceAdd, Nat.zero_le, Option.toList_some, Option.toList_none, List.cons_append, List.nil_append, nI_1, rd_t, n1_0, n0_1, Bool.false_eq_true, false_implies, reduceCtorEq]
    refine en_use (by decide) K1 ?_
    simp only [sM_isOpenAssertion_0, sM_isOpenAssertion_1, sM_isOpenAssertion_4, sM_isOpenAssertion_7, sM_isOpenAssertion_8, sM_isOpenAssertion_11, sM_isOpenAssertion_12, sM_isOpenAssertion_15, sM_isOpenAssertion_16, sM_isOpenAssertion_17, sM_isOpenAssertion_20, sM_isOpenAssertion_21, sM_isOpenAssertion_24, sM_isOpenAssertion_25, m0, m29, m30, m31, m32, m33, m34, m35, m36, m37, m38, m39, m40, m41, m42, m43, m44, m45, v29, v30, v31, v32, v33, v34, v35, v36, v37, v38, v39, v40, v41, v42, v43, v44, v45, en_fk, List.set_cons_zero, List.set_cons_succ, h3, h4, e1, e2, en_rdO_eq, en_rdI_eq, en_rdN_eq, en_rdL_eq, true_and, and_true, List.getElem?_cons_succ, List.getElem?_cons_zero, en_gv_eq, if_true, if_false, and_self, or_true, true_or, implies_true, List.length_cons, List.length_nil, Nat.reduceLT, Nat.reduceLeDiff, Nat.reduceAdd, Nat.zero_le, Option.toList_some, Option.toList_none, List.cons_append, List.nil_append, nI_1, rd_t, n1_0, n0_1, Bool.false_eq_true, false_implies, reduceCtorEq]
    by_cases hq : sp_kd S (sp_la S) = 2
    · simp only [hq, beq_self_eq_true, bi_t, en_rdO_eq, en_rdI_eq, en_rdN_eq, en_rdL_eq, true_and, and_true, List.getElem?_cons_succ, List.getElem?_cons_zero, en_gv_eq, if_true, if_false, and_self, or_true, true_or, implies_true, List.length_cons, List.length_nil, Nat.reduceLT, Nat.reduceLeDiff, Nat.reduceAdd, Nat.zero_le, Option.toList_some, Option.toList_none, List.cons_append, List.nil_append, nI_1, rd_t, n1_0, n0_1, Bool.false_eq_true, false_implies, reduceCtorEq, en_q]
    · have : (sp_kd S (sp_la S) == 2) = false := by simpa using hq
      simp only [hq, this, bi_f, en_rdO_eq, en_rdI_eq, en_rdN_eq, en_rdL_eq, true_and, and_true, List.getElem?_cons_succ, List.getElem?_cons_zero, en_gv_eq, if_true, if_false, and_self, or_true, true_or, implies_true, List.length_cons, List.length_nil, Nat.reduceLT, Nat.reduceLeDiff, Nat.reduceAdd, Nat.zero_le, Option.toList_some, Option.toList_none, List.cons_append, List.nil_append, nI_1, rd_t, n1_0, n0_1, Bool.false_eq_true, false_implies, reduceCtorEq, en_q]
theorem cM_hasFl {s : Nat} {ss : Int32} (H : MO c g AP ms S) (hx : 46 ≤ x) (hp : 0 < S.2.1.length) (hss : ss = nI s) (hs : s < 1000) : en_call 2 mM_hasFloating [.ref 29, .int ss] c x u (some (.int (bi (sp_fl S (sp_nd S (sp_la S)) s)))) c x u := by
  have K1 := cM_last (u := u) H hx hp
  obtain ⟨h1, h2, h3, h4⟩ := mo_la H hp
  have hl := (H.2.2.2.2.2.1 _ h1).2.2.1
  obtain ⟨-, -, ⟨e1, e2⟩, -⟩ := H.2.1.2.1 _ h1
  subst hss
  obtain ⟨m0, m29, m30, m31, m32, m33, m34, m35, m36, m37, m38, m39, m40, m41, m42, m43, m44, m45⟩ := mc_o H.1
  obtain ⟨v29, v30, v31, v32, v33, v34, v35, v36, v37, v38, v39, v40, v41, v42, v43, v44, v45⟩ := mx_b hx
  have loop : ∀ (n k : Nat) (l4 : Option Value), k + n = (sp_nd S (sp_la S)).length → en_W (en_call 1) mM_hasFloating 4 [some (.ref 29), some (.int (nI s)), some (.int (bi (sp_fl S ((sp_nd S (sp_la S)).take k) s))), some (.int (nI k)), l4] [] c x u (en_q (some (.int (bi (sp_fl S (sp_nd S (sp_la S)) s)))) c x u) := by
    intro n
    induction n with
    | zero =>
      intro k l4 hk
      have hk : k = (sp_nd S (sp_la S)).length := by omega
      subst hk
      have q1 : nI (sp_nd S (sp_la S)).length ≤ nI (sp_nd S (sp_la S)).length := Int32.le_refl _
      rw [List.take_length, sM_hasFloating_4]
      simp only [sM_hasFloating_0, sM_hasFloating_1, sM_hasFloating_2, sM_hasFloating_3, sM_hasFloating_5, sM_hasFloating_6, sM_hasFloating_9, sM_hasFloating_10, sM_hasFloating_13, sM_hasFloating_14, sM_hasFloating_17, sM_hasFloating_18, sM_hasFloating_21, sM_hasFloating_23, sM_hasFloating_24, sM_hasFloating_27, sM_hasFloating_28, sM_hasFloating_29, sM_hasFloating_30, sM_hasFloating_31, sM_hasFloating_33, sM_hasFloating_34, sM_hasFloating_37, sM_hasFloating_38, sM_hasFloating_41, sM_hasFloating_43, sM_hasFloating_44, sM_hasFloating_47, sM_hasFloating_48, sM_hasFloating_51, sM_hasFloating_54, sM_hasFloating_56, sM_hasFloating_57, sM_hasFloating_58, sM_hasFloating_59, sM_hasFloating_60, sM_hasFloating_61, sM_hasFloating_64, sM_hasFloating_65, sM_hasFloating_68, sM_hasFloating_69, sM_hasFloating_70, sM_hasFloating_73, sM_hasFloating_76, sM_hasFloating_77, m0, m29, m30, m31, m32, m33, m34, m35, m36, m37, m38, m39, m40, m41, m42, m43, m44, m45, v29, v30, v31, v32, v33, v34, v35, v36, v37, v38, v39, v40, v41, v42, v43, v44, v45, en_fk, List.set_cons_zero, List.set_cons_succ, en_rdO_eq, en_rdI_eq, en_rdN_eq, en_rdL_eq, true_and, and_true, List.getElem?_cons_succ, List.getElem?_cons_zero, en_gv_eq, if_true, if_false, and_self, or_true, true_or, implies_true, List.length_cons, List.length_nil, Nat.reduceLT, Nat.reduceLeDiff, Nat.reduceAdd, Nat.zero_le, Option.toList_some, Option.toList_none, List.cons_append, List.nil_append, nI_1, rd_t, n1_0, n0_1, Bool.false_eq_true, false_implies, reduceCtorEq]
      refine en_use (by decide) K1 ?_
      simp only [sM_hasFloating_0, sM_hasFloating_1, sM_hasFloating_2, sM_hasFloating_3, sM_hasFloating_5, sM_hasFloating_6, sM_hasFloating_9, sM_hasFloating_10, sM_hasFloating_13, sM_hasFloating_14, sM_hasFloating_17, sM_hasFloating_18, sM_hasFloating_21, sM_hasFloating_23, sM_hasFloating_24, sM_hasFloating_27, sM_hasFloating_28, sM_hasFloating_29, sM_hasFloating_30, sM_hasFloating_31, sM_hasFloating_33, sM_hasFloating_34, sM_hasFloating_37, sM_hasFloating_38, sM_hasFloating_41, sM_hasFloating_43, sM_hasFloating_44, sM_hasFloating_47, sM_hasFloating_48, sM_hasFloating_51, sM_hasFloating_54, sM_hasFloating_56, sM_hasFloating_57, sM_hasFloating_58, sM_hasFloating_59, sM_hasFloating_60, sM_hasFloating_61, sM_hasFloating_64, sM_hasFloating_65, sM_hasFloating_68, sM_hasFloating_69, sM_hasFloating_70, sM_hasFloating_73, sM_hasFloating_76, sM_hasFloating_77, m0, m29, m30, m31, m32, m33, m34, m35, m36, m37, m38, m39, m40, m41, m42, m43, m44, m45, v29, v30, v31, v32, v33, v34, v35, v36, v37, v38, v39, v40, v41, v42, v43, v44, v45, en_fk, List.set_cons_zero, List.set_cons_succ, h3, h4, e1, q1, bi_01, en_rdO_eq, en_rdI_eq, en_rdN_eq, en_rdL_eq, true_and, and_true, List.getElem?_cons_succ, List.getElem?_cons_zero, en_gv_eq, if_true, if_false, and_self, or_true, true_or, implies_true, List.length_cons, List.length_nil, Nat.reduceLT, Nat.reduceLeDiff, Nat.reduceAdd, Nat.zero_le, Option.toList_some, Option.toList_none, List.cons_append, List.nil_append, nI_1, rd_t, n1_0, n0_1, Bool.false_eq_true, false_implies, reduceCtorEq, en_q]
    | succ n ih =>
      intro k l4 hk
      have hlt : k < (sp_nd S (sp_la S)).length := by omega
      have q1 : ¬ nI (sp_nd S (sp_la S)).length ≤ nI k := nI_ge hlt (by omega)
      have q2 : vp_in (nI (60 * sp_la S + k)) 18000 := vp_in_nI (by omega) (by omega)
      have q3 : (nI (60 * sp_la S + k)).toNatClampNeg = 60 * sp_la S + k := nI_clamp (by omega)
      have q4 := e2 k hlt
      have hm : (sp_nd S (sp_la S)).getD k 0 ∈ sp_nd S (sp_la S) := by
        rw [List.getD_eq_getElem?_getD, List.getElem?_eq_getElem hlt]
        exact List.getElem_mem hlt
      obtain ⟨hql, hqc⟩ := nd_cl H.2.2 h1 hm
      have IH := ih (k + 1) (some (.int (nI ((sp_nd S (sp_la S)).getD k 0)))) (by omega)
      rw [take_getD hlt, fl_app] at IH
      generalize (sp_nd S (sp_la S)).getD k 0 = h at *
      have q5 : vp_in (nI h) 300 := vp_in_nI (by omega) (by omega)
      have q6 : (nI h).toNatClampNeg = h := nI_clamp (by omega)
      obtain ⟨q7, ⟨-, q8⟩, -⟩ := H.2.1.2.1 h hql
      have hk := (H.2.2.2.2.2.1 _ hql).1
      have q9 : (nI (sp_kd S h) = 0) = (sp_kd S h = 0) := propext (nI_eq (b := 0) (by omega) (by omega))
      rw [sM_hasFloating_4]
      simp only [sM_hasFloating_0, sM_hasFloating_1, sM_hasFloating_2, sM_hasFloating_3, sM_hasFloating_5, sM_hasFloating_6, sM_hasFloating_9, sM_hasFloating_10, sM_hasFloating_13, sM_hasFloating_14, sM_hasFloating_17, sM_hasFloating_18, sM_hasFloating_21, sM_hasFloating_23, sM_hasFloating_24, sM_hasFloating_27, sM_hasFloating_28, sM_hasFloating_29, sM_hasFloating_30, sM_hasFloating_31, sM_hasFloating_33, sM_hasFloating_34, sM_hasFloating_37, sM_hasFloating_38, sM_hasFloating_41, sM_hasFloating_43, sM_hasFloating_44, sM_hasFloating_47, sM_hasFloating_48, sM_hasFloating_51, sM_hasFloating_54, sM_hasFloating_56, sM_hasFloating_57, sM_hasFloating_58, sM_hasFloating_59, sM_hasFloating_60, sM_hasFloating_61, sM_hasFloating_64, sM_hasFloating_65, sM_hasFloating_68, sM_hasFloating_69, sM_hasFloating_70, sM_hasFloating_73, sM_hasFloating_76, sM_hasFloating_77, m0, m29, m30, m31, m32, m33, m34, m35, m36, m37, m38, m39, m40, m41, m42, m43, m44, m45, v29, v30, v31, v32, v33, v34, v35, v36, v37, v38, v39, v40, v41, v42, v43, v44, v45, en_fk, List.set_cons_zero, List.set_cons_succ, en_rdO_eq, en_rdI_eq, en_rdN_eq, en_rdL_eq, true_and, and_true, List.getElem?_cons_succ, List.getElem?_cons_zero, en_gv_eq, if_true, if_false, and_self, or_true, true_or, implies_true, List.length_cons, List.length_nil, Nat.reduceLT, Nat.reduceLeDiff, Nat.reduceAdd, Nat.zero_le, Option.toList_some, Option.toList_none, List.cons_append, List.nil_append, nI_1, rd_t, n1_0, n0_1, Bool.false_eq_true, false_implies, reduceCtorEq]
      refine en_use (by decide) K1 ?_
      simp only [sM_hasFloating_0, sM_hasFloating_1, sM_hasFloating_2, sM_hasFloating_3, sM_hasFloating_5, sM_hasFloating_6, sM_hasFloating_9, sM_hasFloating_10, sM_hasFloating_13, sM_hasFloating_14, sM_hasFloating_17, sM_hasFloating_18, sM_hasFloating_21, sM_hasFloating_23, sM_hasFloating_24, sM_hasFloating_27, sM_hasFloating_28, sM_hasFloating_29, sM_hasFloating_30, sM_hasFloating_31, sM_hasFloating_33, sM_hasFloating_34, sM_hasFloating_37, sM_hasFloating_38, sM_hasFloating_41, sM_hasFloating_43, sM_hasFloating_44, sM_hasFloating_47, sM_hasFloating_48, sM_hasFloating_51, sM_hasFloating_54, sM_hasFloating_56, sM_hasFloating_57, sM_hasFloating_58, sM_hasFloating_59, sM_hasFloating_60, sM_hasFloating_61, sM_hasFloating_64, sM_hasFloating_65, sM_hasFloating_68, sM_hasFloating_69, sM_hasFloating_70, sM_hasFloating_73, sM_hasFloating_76, sM_hasFloating_77, m0, m29, m30, m31, m32, m33, m34, m35, m36, m37, m38, m39, m40, m41, m42, m43, m44, m45, v29, v30, v31, v32, v33, v34, v35, v36, v37, v38, v39, v40, v41, v42, v43, v44, v45, en_fk, List.set_cons_zero, List.set_cons_succ, h3, h4, e1, q1, en_rdO_eq, en_rdI_eq, en_rdN_eq, en_rdL_eq, true_and, and_true, List.getElem?_cons_succ, List.getElem?_cons_zero, en_gv_eq, if_true, if_false, and_self, or_true, true_or, implies_true, List.length_cons, List.length_nil, Nat.reduceLT, Nat.reduceLeDiff, Nat.reduceAdd, Nat.zero_le, Option.toList_some, Option.toList_none, List.cons_append, List.nil_append, nI_1, rd_t, n1_0, n0_1, Bool.false_eq_true, false_implies, reduceCtorEq]
      refine en_use (by decide) K1 ?_
      simp only [sM_hasFloating_0, sM_hasFloating_1, sM_hasFloating_2, sM_hasFloating_3, sM_hasFloating_5, sM_hasFloating_6, sM_hasFloating_9, sM_hasFloating_10, sM_hasFloating_13, sM_hasFloating_14, sM_hasFloating_17, sM_hasFloating_18, sM_hasFloating_21, sM_hasFloating_23, sM_hasFloating_24, sM_hasFloating_27, sM_hasFloating_28, sM_hasFloating_29, sM_hasFloating_30, sM_hasFloating_31, sM_hasFloating_33, sM_hasFloating_34, sM_hasFloating_37, sM_hasFloating_38, sM_hasFloating_41, sM_hasFloating_43, sM_hasFloating_44, sM_hasFloating_47, sM_hasFloating_48, sM_hasFloating_51, sM_hasFloating_54, sM_hasFloating_56, sM_hasFloating_57, sM_hasFloating_58, sM_hasFloating_59, sM_hasFloating_60, sM_hasFloating_61, sM_hasFloating_64, sM_hasFloating_65, sM_hasFloating_68, sM_hasFloating_69, sM_hasFloating_70, sM_hasFloating_73, sM_hasFloating_76, sM_hasFloating_77, m0, m29, m30, m31, m32, m33, m34, m35, m36, m37, m38, m39, m40, m41, m42, m43, m44, m45, v29, v30, v31, v32, v33, v34, v35, v36, v37, v38, v39, v40, v41, v42, v43, v44, v45, en_fk, List.set_cons_zero, List.set_cons_succ, nI_mul, nI_add, q2, q3, q4, en_rdO_eq, en_rdI_eq, en_rdN_eq, en_rdL_eq, true_and, and_true, List.getElem?_cons_succ, List.getElem?_cons_zero, en_gv_eq, if_true, if_false, and_self, or_true, true_or, implies_true, List.length_cons, List.length_nil, Nat.reduceLT, Nat.reduceLeDiff, Nat.reduceAdd, Nat.zero_le, Option.toList_some, Option.toList_none, List.cons_append, List.nil_append, nI_1, rd_t, n1_0, n0_1, Bool.false_eq_true, false_implies, reduceCtorEq]
      cases hf : sp_fl S ((sp_nd S (sp_la S)).take k) s with
      | true =>
        rw [hf, Bool.true_or] at IH
        simp only [sM_hasFloating_0, sM_hasFloating_1, sM_hasFloating_2, sM_hasFloating_3, sM_hasFloating_5, sM_hasFloating_6, sM_hasFloating_9, sM_hasFloating_10, sM_hasFloating_13, sM_hasFloating_14, sM_hasFloating_17, sM_hasFloating_18, sM_hasFloating_21, sM_hasFloating_23, sM_hasFloating_24, sM_hasFloating_27, sM_hasFloating_28, sM_hasFloating_29, sM_hasFloating_30, sM_hasFloating_31, sM_hasFloating_33, sM_hasFloating_34, sM_hasFloating_37, sM_hasFloating_38, sM_hasFloating_41, sM_hasFloating_43, sM_hasFloating_44, sM_hasFloating_47, sM_hasFloating_48, sM_hasFloating_51, sM_hasFloating_54, sM_hasFloating_56, sM_hasFloating_57, sM_hasFloating_58, sM_hasFloating_59, sM_hasFloating_60, sM_hasFloating_61, sM_hasFloating_64, sM_hasFloating_65, sM_hasFloating_68, sM_hasFloating_69, sM_hasFloating_70, sM_hasFloating_73, sM_hasFloating_76, sM_hasFloating_77, bi_t, en_rdO_eq, en_rdI_eq, en_rdN_eq, en_rdL_eq, true_and, and_true, List.getElem?_cons_succ, List.getElem?_cons_zero, en_gv_eq, if_true, if_false, and_self, or_true, true_or, implies_true, List.length_cons, List.length_nil, Nat.reduceLT, Nat.reduceLeDiff, Nat.reduceAdd, Nat.zero_le, Option.toList_some, Option.toList_none, List.cons_append, List.nil_append, nI_1, rd_t, n1_0, n0_1, Bool.false_eq_true, false_implies, reduceCtorEq] at IH ⊢
        exact IH
      | false =>
        rw [hf, Bool.false_or] at IH
        simp only [sM_hasFloating_0, sM_hasFloating_1, sM_hasFloating_2, sM_hasFloating_3, sM_hasFloating_5, sM_hasFloating_6, sM_hasFloating_9, sM_hasFloating_10, sM_hasFloating_13, sM_hasFloating_14, sM_hasFloating_17, sM_hasFloating_18, sM_hasFloating_21, sM_hasFloating_23, sM_hasFloating_24, sM_hasFloating_27, sM_hasFloating_28, sM_hasFloating_29, sM_hasFloating_30, sM_hasFloating_31, sM_hasFloating_33, sM_hasFloating_34, sM_hasFloating_37, sM_hasFloating_38, sM_hasFloating_41, sM_hasFloating_43, sM_hasFloating_44, sM_hasFloating_47, sM_hasFloating_48, sM_hasFloating_51, sM_hasFloating_54, sM_hasFloating_56, sM_hasFloating_57, sM_hasFloating_58, sM_hasFloating_59, sM_hasFloating_60, sM_hasFloating_61, sM_hasFloating_64, sM_hasFloating_65, sM_hasFloating_68, sM_hasFloating_69, sM_hasFloating_70, sM_hasFloating_73, sM_hasFloating_76, sM_hasFloating_77, m0, m29, m30, m31, m32, m33, m34, m35, m36, m37, m38, m39, m40, m41, m42, m43, m44, m45, v29, v30, v31, v32, v33, v34, v35, v36, v37, v38, v39, v40, v41, v42, v43, v44, v45, en_fk, List.set_cons_zero, List.set_cons_succ, bi_f, q5, q6, q7, q9, en_rdO_eq, en_rdI_eq, en_rdN_eq, en_rdL_eq, true_and, and_true, List.getElem?_cons_succ, List.getElem?_cons_zero, en_gv_eq, if_true, if_false, and_self, or_true, true_or, implies_true, List.length_cons, List.length_nil, Nat.reduceLT, Nat.reduceLeDiff, Nat.reduceAdd, Nat.zero_le, Option.toList_some, Option.toList_none, List.cons_append, List.nil_append, nI_1, rd_t, n1_0, n0_1, Bool.false_eq_true, false_implies, reduceCtorEq]
        by_cases hz : sp_kd S h = 0
        · have hl2 := hqc.2.1 hz
          have q10 : vp_in (nI (300 * h + 1)) 90000 := vp_in_nI (by omega) (by omega)
          have q11 : (nI (300 * h + 1)).toNatClampNeg = 300 * h + 1 := nI_clamp (by omega)
          have q12 := q8 1 (by omega)
          have hsl : (sp_tx S h).getD 1 0 < S.1.length := (H.2.2.2.2.2.1 h hql).2.2.2.2.1 _ (by
            rw [List.getD_eq_getElem?_getD, List.getElem?_eq_getElem (by omega)]
            exact List.getElem_mem _)
          have hvs := H.2.2.1
          have q13 : (nI ((sp_tx S h).getD 1 0) = nI s) = ((sp_tx S h).getD 1 0 = s) := propext (nI_eq (by omega) (by omega))
          rw [if_pos hz]
          simp only [sM_hasFloating_0, sM_hasFloating_1, sM_hasFloating_2, sM_hasFloating_3, sM_hasFloating_5, sM_hasFloating_6, sM_hasFloating_9, sM_hasFloating_10, sM_hasFloating_13, sM_hasFloating_14, sM_hasFloating_17, sM_hasFloating_18, sM_hasFloating_21, sM_hasFloating_23, sM_hasFloating_24, sM_hasFloating_27, sM_hasFloating_28, sM_hasFloating_29, sM_hasFloating_30, sM_hasFloating_31, sM_hasFloating_33, sM_hasFloating_34, sM_hasFloating_37, sM_hasFloating_38, sM_hasFloating_41, sM_hasFloating_43, sM_hasFloating_44, sM_hasFloating_47, sM_hasFloating_48, sM_hasFloating_51, sM_hasFloating_54, sM_hasFloating_56, sM_hasFloating_57, sM_hasFloating_58, sM_hasFloating_59, sM_hasFloating_60, sM_hasFloating_61, sM_hasFloating_64, sM_hasFloating_65, sM_hasFloating_68, sM_hasFloating_69, sM_hasFloating_70, sM_hasFloating_73, sM_hasFloating_76, sM_hasFloating_77, m0, m29, m30, m31, m32, m33, m34, m35, m36, m37, m38, m39, m40, m41, m42, m43, m44, m45, v29, v30, v31, v32, v33, v34, v35, v36, v37, v38, v39, v40, v41, v42, v43, v44, v45, en_fk, List.set_cons_zero, List.set_cons_succ, nI_mul, q10, q11, q12, q13, en_rdO_eq, en_rdI_eq, en_rdN_eq, en_rdL_eq, true_and, and_true, List.getElem?_cons_succ, List.getElem?_cons_zero, en_gv_eq, if_true, if_false, and_self, or_true, true_or, implies_true, List.length_cons, List.length_nil, Nat.reduceLT, Nat.reduceLeDiff, Nat.reduceAdd, Nat.zero_le, Option.toList_some, Option.toList_none, List.cons_append, List.nil_append, nI_1, rd_t, n1_0, n0_1, Bool.false_eq_true, false_implies, reduceCtorEq]
          by_cases hy : (sp_tx S h).getD 1 0 = s
          · rw [if_pos hy]
            rw [hz, hy, beq_self_eq_true, beq_self_eq_true] at IH
            simp only [sM_hasFloating_0, sM_hasFloating_1, sM_hasFloating_2, sM_hasFloating_3, sM_hasFloating_5, sM_hasFloating_6, sM_hasFloating_9, sM_hasFloating_10, sM_hasFloating_13, sM_hasFloating_14, sM_hasFloating_17, sM_hasFloating_18, sM_hasFloating_21, sM_hasFloating_23, sM_hasFloating_24, sM_hasFloating_27, sM_hasFloating_28, sM_hasFloating_29, sM_hasFloating_30, sM_hasFloating_31, sM_hasFloating_33, sM_hasFloating_34, sM_hasFloating_37, sM_hasFloating_38, sM_hasFloating_41, sM_hasFloating_43, sM_hasFloating_44, sM_hasFloating_47, sM_hasFloating_48, sM_hasFloating_51, sM_hasFloating_54, sM_hasFloating_56, sM_hasFloating_57, sM_hasFloating_58, sM_hasFloating_59, sM_hasFloating_60, sM_hasFloating_61, sM_hasFloating_64, sM_hasFloating_65, sM_hasFloating_68, sM_hasFloating_69, sM_hasFloating_70, sM_hasFloating_73, sM_hasFloating_76, sM_hasFloating_77, bi_t, Bool.and_self, en_rdO_eq, en_rdI_eq, en_rdN_eq, en_rdL_eq, true_and, and_true, List.getElem?_cons_succ, List.getElem?_cons_zero, en_gv_eq, if_true, if_false, and_self, or_true, true_or, implies_true, List.length_cons, List.length_nil, Nat.reduceLT, Nat.reduceLeDiff, Nat.reduceAdd, Nat.zero_le, Option.toList_some, Option.toList_none, List.cons_append, List.nil_append, nI_1, rd_t, n1_0, n0_1, Bool.false_eq_true, false_implies, reduceCtorEq] at IH ⊢
            exact IH
          · rw [if_neg hy]
            have : ((sp_tx S h).getD 1 0 == s) = false := by simpa using hy
            rw [this, Bool.and_false] at IH
            simp only [sM_hasFloating_0, sM_hasFloating_1, sM_hasFloating_2, sM_hasFloating_3, sM_hasFloating_5, sM_hasFloating_6, sM_hasFloating_9, sM_hasFloating_10, sM_hasFloating_13, sM_hasFloating_14, sM_hasFloating_17, sM_hasFloating_18, sM_hasFloating_21, sM_hasFloating_23, sM_hasFloating_24, sM_hasFloating_27, sM_hasFloating_28, sM_hasFloating_29, sM_hasFloating_30, sM_hasFloating_31, sM_hasFloating_33, sM_hasFloating_34, sM_hasFloating_37, sM_hasFloating_38, sM_hasFloating_41, sM_hasFloating_43, sM_hasFloating_44, sM_hasFloating_47, sM_hasFloating_48, sM_hasFloating_51, sM_hasFloating_54, sM_hasFloating_56, sM_hasFloating_57, sM_hasFloating_58, sM_hasFloating_59, sM_hasFloating_60, sM_hasFloating_61, sM_hasFloating_64, sM_hasFloating_65, sM_hasFloating_68, sM_hasFloating_69, sM_hasFloating_70, sM_hasFloating_73, sM_hasFloating_76, sM_hasFloating_77, bi_f, en_rdO_eq, en_rdI_eq, en_rdN_eq, en_rdL_eq, true_and, and_true, List.getElem?_cons_succ, List.getElem?_cons_zero, en_gv_eq, if_true, if_false, and_self, or_true, true_or, implies_true, List.length_cons, List.length_nil, Nat.reduceLT, Nat.reduceLeDiff, Nat.reduceAdd, Nat.zero_le, Option.toList_some, Option.toList_none, List.cons_append, List.nil_append, nI_1, rd_t, n1_0, n0_1, Bool.false_eq_true, false_implies, reduceCtorEq] at IH ⊢
            exact IH
        · rw [if_neg hz]
          have : (sp_kd S h == 0) = false := by simpa using hz
          rw [this, Bool.false_and] at IH
          simp only [sM_hasFloating_0, sM_hasFloating_1, sM_hasFloating_2, sM_hasFloating_3, sM_hasFloating_5, sM_hasFloating_6, sM_hasFloating_9, sM_hasFloating_10, sM_hasFloating_13, sM_hasFloating_14, sM_hasFloating_17, sM_hasFloating_18, sM_hasFloating_21, sM_hasFloating_23, sM_hasFloating_24, sM_hasFloating_27, sM_hasFloating_28, sM_hasFloating_29, sM_hasFloating_30, sM_hasFloating_31, sM_hasFloating_33, sM_hasFloating_34, sM_hasFloating_37, sM_hasFloating_38, sM_hasFloating_41, sM_hasFloating_43, sM_hasFloating_44, sM_hasFloating_47, sM_hasFloating_48, sM_hasFloating_51, sM_hasFloating_54, sM_hasFloating_56, sM_hasFloating_57, sM_hasFloating_58, sM_hasFloating_59, sM_hasFloating_60, sM_hasFloating_61, sM_hasFloating_64, sM_hasFloating_65, sM_hasFloating_68, sM_hasFloating_69, sM_hasFloating_70, sM_hasFloating_73, sM_hasFloating_76, sM_hasFloating_77, bi_f, en_rdO_eq, en_rdI_eq, en_rdN_eq, en_rdL_eq, true_and, and_true, List.getElem?_cons_succ, List.getElem?_cons_zero, en_gv_eq, if_true, if_false, and_self, or_true, true_or, implies_true, List.length_cons, List.length_nil, Nat.reduceLT, Nat.reduceLeDiff, Nat.reduceAdd, Nat.zero_le, Option.toList_some, Option.toList_none, List.cons_append, List.nil_append, nI_1, rd_t, n1_0, n0_1, Bool.false_eq_true, false_implies, reduceCtorEq] at IH ⊢
          exact IH
  refine en_call_is (by decide) (Nat.le_of_ble_eq_true rfl) cat_2 ?_
  show en_W (en_call 1) mM_hasFloating 0 [some (.ref 29), some (.int (nI s)), none, none, none] [] c x u _
  simp only [sM_hasFloating_0, sM_hasFloating_1, sM_hasFloating_2, sM_hasFloating_3, sM_hasFloating_5, sM_hasFloating_6, sM_hasFloating_9, sM_hasFloating_10, sM_hasFloating_13, sM_hasFloating_14, sM_hasFloating_17, sM_hasFloating_18, sM_hasFloating_21, sM_hasFloating_23, sM_hasFloating_24, sM_hasFloating_27, sM_hasFloating_28, sM_hasFloating_29, sM_hasFloating_30, sM_hasFloating_31, sM_hasFloating_33, sM_hasFloating_34, sM_hasFloating_37, sM_hasFloating_38, sM_hasFloating_41, sM_hasFloating_43, sM_hasFloating_44, sM_hasFloating_47, sM_hasFloating_48, sM_hasFloating_51, sM_hasFloating_54, sM_hasFloating_56, sM_hasFloating_57, sM_hasFloating_58, sM_hasFloating_59, sM_hasFloating_60, sM_hasFloating_61, sM_hasFloating_64, sM_hasFloating_65, sM_hasFloating_68, sM_hasFloating_69, sM_hasFloating_70, sM_hasFloating_73, sM_hasFloating_76, sM_hasFloating_77, en_rdO_eq, en_rdI_eq, en_rdN_eq, en_rdL_eq, true_and, and_true, List.getElem?_cons_succ, List.getElem?_cons_zero, en_gv_eq, if_true, if_false, and_self, or_true, true_or, implies_true, List.length_cons, List.length_nil, Nat.reduceLT, Nat.reduceLeDiff, Nat.reduceAdd, Nat.zero_le, Option.toList_some, Option.toList_none, List.cons_append, List.nil_append, nI_1, rd_t, n1_0, n0_1, Bool.false_eq_true, false_implies, reduceCtorEq]
  exact loop _ 0 none (Nat.zero_add _)
theorem cM_hasAll {i : Nat} {ii : Int32} (H : MO c g AP ms S) (hx : 46 ≤ x) (hp : 0 < S.2.1.length) (hii : ii = nI i) (hi : i < S.2.1.length) : en_call 3 mM_hasAll [.ref 29, .int ii] c x u (some (.int (bi (sp_all S (sp_nd S (sp_la S)) (sp_tx S i))))) c x u := by
  have hT := H.2.2.2.2.2.1 _ hi
  have hl := hT.2.1
  have hn := H.2.2.2.1
  have hv := H.2.2.1
  obtain ⟨-, ⟨e1, e2⟩, -⟩ := H.2.1.2.1 _ hi
  subst hii
  have h3 : vp_in (nI i) 300 := vp_in_nI (by omega) (by omega)
  have h4 : (nI i).toNatClampNeg = i := nI_clamp (by omega)
  obtain ⟨m0, m29, m30, m31, m32, m33, m34, m35, m36, m37, m38, m39, m40, m41, m42, m43, m44, m45⟩ := mc_o H.1
  obtain ⟨v29, v30, v31, v32, v33, v34, v35, v36, v37, v38, v39, v40, v41, v42, v43, v44, v45⟩ := mx_b hx
  have loop : ∀ (n k : Nat) (l4 : Option Value), k + n = (sp_tx S i).length → en_W (en_call 2) mM_hasAll 4 [some (.ref 29), some (.int (nI i)), some (.int (bi (sp_all S (sp_nd S (sp_la S)) ((sp_tx S i).take k)))), some (.int (nI k)), l4] [] c x u (en_q (some (.int (bi (sp_all S (sp_nd S (sp_la S)) (sp_tx S i))))) c x u) := by
    intro n
    induction n with
    | zero =>
      intro k l4 hk
      have hk : k = (sp_tx S i).length := by omega
      subst hk
      have q1 : nI (sp_tx S i).length ≤ nI (sp_tx S i).length := Int32.le_refl _
      rw [List.take_length, sM_hasAll_4]
      simp only [sM_hasAll_0, sM_hasAll_1, sM_hasAll_2, sM_hasAll_3, sM_hasAll_5, sM_hasAll_6, sM_hasAll_9, sM_hasAll_10, sM_hasAll_11, sM_hasAll_14, sM_hasAll_15, sM_hasAll_18, sM_hasAll_21, sM_hasAll_22, sM_hasAll_23, sM_hasAll_24, sM_hasAll_25, sM_hasAll_26, sM_hasAll_28, sM_hasAll_29, sM_hasAll_32, sM_hasAll_33, sM_hasAll_36, sM_hasAll_38, sM_hasAll_39, sM_hasAll_42, sM_hasAll_43, sM_hasAll_45, sM_hasAll_48, sM_hasAll_51, sM_hasAll_52, sM_hasAll_55, sM_hasAll_56, sM_hasAll_57, sM_hasAll_60, sM_hasAll_63, sM_hasAll_64, m0, m29, m30, m31, m32, m33, m34, m35, m36, m37, m38, m39, m40, m41, m42, m43, m44, m45, v29, v30, v31, v32, v33, v34, v35, v36, v37, v38, v39, v40, v41, v42, v43, v44, v45, en_fk, List.set_cons_zero, List.set_cons_succ, h3, h4, e1, q1, bi_01, en_rdO_eq, en_rdI_eq, en_rdN_eq, en_rdL_eq, true_and, and_true, List.getElem?_cons_succ, List.getElem?_cons_zero, en_gv_eq, if_true, if_false, and_self, or_true, true_or, implies_true, List.length_cons, List.length_nil, Nat.reduceLT, Nat.reduceLeDiff, Nat.reduceAdd, Nat.zero_le, Option.toList_some, Option.toList_none, List.cons_append, List.nil_append, nI_1, rd_t, n1_0, n0_1, Bool.false_eq_true, false_implies, reduceCtorEq, en_q]
    | succ n ih =>
      intro k l4 hk
      have hlt : k < (sp_tx S i).length := by omega
      have q1 : ¬ nI (sp_tx S i).length ≤ nI k := nI_ge hlt (by omega)
      have q2 : vp_in (nI (300 * i + k)) 90000 := vp_in_nI (by omega) (by omega)
      have q3 : (nI (300 * i + k)).toNatClampNeg = 300 * i + k := nI_clamp (by omega)
      have q4 := e2 k hlt
      have hs : (sp_tx S i).getD k 0 < S.1.length := hT.2.2.2.2.1 _ (by
        rw [List.getD_eq_getElem?_getD, List.getElem?_eq_getElem hlt]
        exact List.getElem_mem hlt)
      have IH := ih (k + 1) (some (.int (nI ((sp_tx S i).getD k 0)))) (by omega)
      have ha : sp_all S (sp_nd S (sp_la S)) ((sp_tx S i).take (k + 1)) = (sp_all S (sp_nd S (sp_la S)) ((sp_tx S i).take k) && (!sp_var S ((sp_tx S i).getD k 0) || sp_fl S (sp_nd S (sp_la S)) ((sp_tx S i).getD k 0))) := by
        unfold sp_all
        rw [take_getD hlt, List.all_append]
        simp
      rw [ha] at IH
      generalize (sp_tx S i).getD k 0 = s at *
      have q5 : vp_in (nI s) 1000 := vp_in_nI (by omega) (by omega)
      have q6 : (nI s).toNatClampNeg = s := nI_clamp (by omega)
      have q7 := H.2.1.1 s hs
      have K1 := cM_hasFl (u := u) (ss := nI s) H hx hp rfl (by omega)
      have hvv : sp_var S s = S.1.getD s false := rfl
      rw [hvv] at IH
      rw [sM_hasAll_4]
      simp only [sM_hasAll_0, sM_hasAll_1, sM_hasAll_2, sM_hasAll_3, sM_hasAll_5, sM_hasAll_6, sM_hasAll_9, sM_hasAll_10, sM_hasAll_11, sM_hasAll_14, sM_hasAll_15, sM_hasAll_18, sM_hasAll_21, sM_hasAll_22, sM_hasAll_23, sM_hasAll_24, sM_hasAll_25, sM_hasAll_26, sM_hasAll_28, sM_hasAll_29, sM_hasAll_32, sM_hasAll_33, sM_hasAll_36, sM_hasAll_38, sM_hasAll_39, sM_hasAll_42, sM_hasAll_43, sM_hasAll_45, sM_hasAll_48, sM_hasAll_51, sM_hasAll_52, sM_hasAll_55, sM_hasAll_56, sM_hasAll_57, sM_hasAll_60, sM_hasAll_63, sM_hasAll_64, m0, m29, m30, m31, m32, m33, m34, m35, m36, m37, m38, m39, m40, m41, m42, m43, m44, m45, v29, v30, v31, v32, v33, v34, v35, v36, v37, v38, v39, v40, v41, v42, v43, v44, v45, en_fk, List.set_cons_zero, List.set_cons_succ, h3, h4, e1, q1, nI_mul, nI_add, q2, q3, q4, en_rdO_eq, en_rdI_eq, en_rdN_eq, en_rdL_eq, true_and, and_true, List.getElem?_cons_succ, List.getElem?_cons_zero, en_gv_eq, if_true, if_false, and_self, or_true, true_or, implies_true, List.length_cons, List.length_nil, Nat.reduceLT, Nat.reduceLeDiff, Nat.reduceAdd, Nat.zero_le, Option.toList_some, Option.toList_none, List.cons_append, List.nil_append, nI_1, rd_t, n1_0, n0_1, Bool.false_eq_true, false_implies, reduceCtorEq]
      cases hf : sp_all S (sp_nd S (sp_la S)) ((sp_tx S i).take k) with
      | false =>
        rw [hf, Bool.false_and] at IH
        simp only [sM_hasAll_0, sM_hasAll_1, sM_hasAll_2, sM_hasAll_3, sM_hasAll_5, sM_hasAll_6, sM_hasAll_9, sM_hasAll_10, sM_hasAll_11, sM_hasAll_14, sM_hasAll_15, sM_hasAll_18, sM_hasAll_21, sM_hasAll_22, sM_hasAll_23, sM_hasAll_24, sM_hasAll_25, sM_hasAll_26, sM_hasAll_28, sM_hasAll_29, sM_hasAll_32, sM_hasAll_33, sM_hasAll_36, sM_hasAll_38, sM_hasAll_39, sM_hasAll_42, sM_hasAll_43, sM_hasAll_45, sM_hasAll_48, sM_hasAll_51, sM_hasAll_52, sM_hasAll_55, sM_hasAll_56, sM_hasAll_57, sM_hasAll_60, sM_hasAll_63, sM_hasAll_64, bi_f, en_rdO_eq, en_rdI_eq, en_rdN_eq, en_rdL_eq, true_and, and_true, List.getElem?_cons_succ, List.getElem?_cons_zero, en_gv_eq, if_true, if_false, and_self, or_true, true_or, implies_true, List.length_cons, List.length_nil, Nat.reduceLT, Nat.reduceLeDiff, Nat.reduceAdd, Nat.zero_le, Option.toList_some, Option.toList_none, List.cons_append, List.nil_append, nI_1, rd_t, n1_0, n0_1, Bool.false_eq_true, false_implies, reduceCtorEq] at IH ⊢
        exact IH
      | true =>
        rw [hf, Bool.true_and] at IH
        simp only [sM_hasAll_0, sM_hasAll_1, sM_hasAll_2, sM_hasAll_3, sM_hasAll_5, sM_hasAll_6, sM_hasAll_9, sM_hasAll_10, sM_hasAll_11, sM_hasAll_14, sM_hasAll_15, sM_hasAll_18, sM_hasAll_21, sM_hasAll_22, sM_hasAll_23, sM_hasAll_24, sM_hasAll_25, sM_hasAll_26, sM_hasAll_28, sM_hasAll_29, sM_hasAll_32, sM_hasAll_33, sM_hasAll_36, sM_hasAll_38, sM_hasAll_39, sM_hasAll_42, sM_hasAll_43, sM_hasAll_45, sM_hasAll_48, sM_hasAll_51, sM_hasAll_52, sM_hasAll_55, sM_hasAll_56, sM_hasAll_57, sM_hasAll_60, sM_hasAll_63, sM_hasAll_64, m0, m29, m30, m31, m32, m33, m34, m35, m36, m37, m38, m39, m40, m41, m42, m43, m44, m45, v29, v30, v31, v32, v33, v34, v35, v36, v37, v38, v39, v40, v41, v42, v43, v44, v45, en_fk, List.set_cons_zero, List.set_cons_succ, bi_t, q5, q6, q7, en_rdO_eq, en_rdI_eq, en_rdN_eq, en_rdL_eq, true_and, and_true, List.getElem?_cons_succ, List.getElem?_cons_zero, en_gv_eq, if_true, if_false, and_self, or_true, true_or, implies_true, List.length_cons, List.length_nil, Nat.reduceLT, Nat.reduceLeDiff, Nat.reduceAdd, Nat.zero_le, Option.toList_some, Option.toList_none, List.cons_append, List.nil_append, nI_1, rd_t, n1_0, n0_1, Bool.false_eq_true, false_implies, reduceCtorEq]
        cases hq : S.1.getD s false with
        | false =>
          rw [hq] at IH
          simp only [sM_hasAll_0, sM_hasAll_1, sM_hasAll_2, sM_hasAll_3, sM_hasAll_5, sM_hasAll_6, sM_hasAll_9, sM_hasAll_10, sM_hasAll_11, sM_hasAll_14, sM_hasAll_15, sM_hasAll_18, sM_hasAll_21, sM_hasAll_22, sM_hasAll_23, sM_hasAll_24, sM_hasAll_25, sM_hasAll_26, sM_hasAll_28, sM_hasAll_29, sM_hasAll_32, sM_hasAll_33, sM_hasAll_36, sM_hasAll_38, sM_hasAll_39, sM_hasAll_42, sM_hasAll_43, sM_hasAll_45, sM_hasAll_48, sM_hasAll_51, sM_hasAll_52, sM_hasAll_55, sM_hasAll_56, sM_hasAll_57, sM_hasAll_60, sM_hasAll_63, sM_hasAll_64, Bool.not_false, Bool.true_or, bi_t, en_rdO_eq, en_rdI_eq, en_rdN_eq, en_rdL_eq, true_and, and_true, List.getElem?_cons_succ, List.getElem?_cons_zero, en_gv_eq, if_true, if_false, and_self, or_true, true_or, implies_true, List.length_cons, List.length_nil, Nat.reduceLT, Nat.reduceLeDiff, Nat.reduceAdd, Nat.zero_le, Option.toList_some, Option.toList_none, List.cons_append, List.nil_append, nI_1, rd_t, n1_0, n0_1, Bool.false_eq_true, false_implies, reduceCtorEq] at IH ⊢
          exact IH
        | true =>
          rw [hq] at IH
          simp only [sM_hasAll_0, sM_hasAll_1, sM_hasAll_2, sM_hasAll_3, sM_hasAll_5, sM_hasAll_6, sM_hasAll_9, sM_hasAll_10, sM_hasAll_11, sM_hasAll_14, sM_hasAll_15, sM_hasAll_18, sM_hasAll_21, sM_hasAll_22, sM_hasAll_23, sM_hasAll_24, sM_hasAll_25, sM_hasAll_26, sM_hasAll_28, sM_hasAll_29, sM_hasAll_32, sM_hasAll_33, sM_hasAll_36, sM_hasAll_38, sM_hasAll_39, sM_hasAll_42, sM_hasAll_43, sM_hasAll_45, sM_hasAll_48, sM_hasAll_51, sM_hasAll_52, sM_hasAll_55, sM_hasAll_56, sM_hasAll_57, sM_hasAll_60, sM_hasAll_63, sM_hasAll_64, m0, m29, m30, m31, m32, m33, m34, m35, m36, m37, m38, m39, m40, m41, m42, m43, m44, m45, v29, v30, v31, v32, v33, v34, v35, v36, v37, v38, v39, v40, v41, v42, v43, v44, v45, en_fk, List.set_cons_zero, List.set_cons_succ, Bool.not_true, Bool.false_or, bi_f, en_rdO_eq, en_rdI_eq, en_rdN_eq, en_rdL_eq, true_and, and_true, List.getElem?_cons_succ, List.getElem?_cons_zero, en_gv_eq, if_true, if_false, and_self, or_true, true_or, implies_true, List.length_cons, List.length_nil, Nat.reduceLT, Nat.reduceLeDiff, Nat.reduceAdd, Nat.zero_le, Option.toList_some, Option.toList_none, List.cons_append, List.nil_append, nI_1, rd_t, n1_0, n0_1, Bool.false_eq_true, false_implies, reduceCtorEq] at IH ⊢
          refine en_use (by decide) K1 ?_
          cases hz : sp_fl S (sp_nd S (sp_la S)) s with
          | true =>
            rw [hz] at IH
            simp only [sM_hasAll_0, sM_hasAll_1, sM_hasAll_2, sM_hasAll_3, sM_hasAll_5, sM_hasAll_6, sM_hasAll_9, sM_hasAll_10, sM_hasAll_11, sM_hasAll_14, sM_hasAll_15, sM_hasAll_18, sM_hasAll_21, sM_hasAll_22, sM_hasAll_23, sM_hasAll_24, sM_hasAll_25, sM_hasAll_26, sM_hasAll_28, sM_hasAll_29, sM_hasAll_32, sM_hasAll_33, sM_hasAll_36, sM_hasAll_38, sM_hasAll_39, sM_hasAll_42, sM_hasAll_43, sM_hasAll_45, sM_hasAll_48, sM_hasAll_51, sM_hasAll_52, sM_hasAll_55, sM_hasAll_56, sM_hasAll_57, sM_hasAll_60, sM_hasAll_63, sM_hasAll_64, bi_t, en_rdO_eq, en_rdI_eq, en_rdN_eq, en_rdL_eq, true_and, and_true, List.getElem?_cons_succ, List.getElem?_cons_zero, en_gv_eq, if_true, if_false, and_self, or_true, true_or, implies_true, List.length_cons, List.length_nil, Nat.reduceLT, Nat.reduceLeDiff, Nat.reduceAdd, Nat.zero_le, Option.toList_some, Option.toList_none, List.cons_append, List.nil_append, nI_1, rd_t, n1_0, n0_1, Bool.false_eq_true, false_implies, reduceCtorEq] at IH ⊢
            exact IH
          | false =>
            rw [hz] at IH
            simp only [sM_hasAll_0, sM_hasAll_1, sM_hasAll_2, sM_hasAll_3, sM_hasAll_5, sM_hasAll_6, sM_hasAll_9, sM_hasAll_10, sM_hasAll_11, sM_hasAll_14, sM_hasAll_15, sM_hasAll_18, sM_hasAll_21, sM_hasAll_22, sM_hasAll_23, sM_hasAll_24, sM_hasAll_25, sM_hasAll_26, sM_hasAll_28, sM_hasAll_29, sM_hasAll_32, sM_hasAll_33, sM_hasAll_36, sM_hasAll_38, sM_hasAll_39, sM_hasAll_42, sM_hasAll_43, sM_hasAll_45, sM_hasAll_48, sM_hasAll_51, sM_hasAll_52, sM_hasAll_55, sM_hasAll_56, sM_hasAll_57, sM_hasAll_60, sM_hasAll_63, sM_hasAll_64, bi_f, en_rdO_eq, en_rdI_eq, en_rdN_eq, en_rdL_eq, true_and, and_true, List.getElem?_cons_succ, List.getElem?_cons_zero, en_gv_eq, if_true, if_false, and_self, or_true, true_or, implies_true, List.length_cons, List.length_nil, Nat.reduceLT, Nat.reduceLeDiff, Nat.reduceAdd, Nat.zero_le, Option.toList_some, Option.toList_none, List.cons_append, List.nil_append, nI_1, rd_t, n1_0, n0_1, Bool.false_eq_true, false_implies, reduceCtorEq] at IH ⊢
            exact IH
  refine en_call_is (by decide) (Nat.le_of_ble_eq_true rfl) cat_2 ?_
  show en_W (en_call 2) mM_hasAll 0 [some (.ref 29), some (.int (nI i)), none, none, none] [] c x u _
  simp only [sM_hasAll_0, sM_hasAll_1, sM_hasAll_2, sM_hasAll_3, sM_hasAll_5, sM_hasAll_6, sM_hasAll_9, sM_hasAll_10, sM_hasAll_11, sM_hasAll_14, sM_hasAll_15, sM_hasAll_18, sM_hasAll_21, sM_hasAll_22, sM_hasAll_23, sM_hasAll_24, sM_hasAll_25, sM_hasAll_26, sM_hasAll_28, sM_hasAll_29, sM_hasAll_32, sM_hasAll_33, sM_hasAll_36, sM_hasAll_38, sM_hasAll_39, sM_hasAll_42, sM_hasAll_43, sM_hasAll_45, sM_hasAll_48, sM_hasAll_51, sM_hasAll_52, sM_hasAll_55, sM_hasAll_56, sM_hasAll_57, sM_hasAll_60, sM_hasAll_63, sM_hasAll_64, en_rdO_eq, en_rdI_eq, en_rdN_eq, en_rdL_eq, true_and, and_true, List.getElem?_cons_succ, List.getElem?_cons_zero, en_gv_eq, if_true, if_false, and_self, or_true, true_or, implies_true, List.length_cons, List.length_nil, Nat.reduceLT, Nat.reduceLeDiff, Nat.reduceAdd, Nat.zero_le, Option.toList_some, Option.toList_none, List.cons_append, List.nil_append, nI_1, rd_t, n1_0, n0_1, Bool.false_eq_true, false_implies, reduceCtorEq]
  exact loop _ 0 none (Nat.zero_add _)
end MC
