/-! a new StepPile -/
theorem ini0 : (mt_init 0 = true) = True := eq_true rfl
def ci_at (c : en_H) (ff : Nat → Int32) : Prop :=
  sy_at c 29 1 2 3 [] (fun _ _ => false) ∧ (c 0 = .inr (0, [.ref 1, .ref 4, .ref 16, .ref 19, .ref 22, .ref 28]) ∧ c 4 = .inr (3, [.ref 5, .ref 8, .ref 11, .ref 1, .ref 14, .ref 15, .int (-1)]) ∧ c 22 = .inr (4, [.ref 1, .ref 16, .ref 23, .ref 24, .int 0, .ref 27, .int 0])) ∧
  (c 14 = .inl (0, 300, .inl (fun _ => 0)) ∧ c 15 = .inl (0, 1000, .inl ff) ∧ c 23 = .inl (0, 1000, .inl (fun _ => 0)) ∧ c 27 = .inl (0, 1000, .inl (fun _ => 0)) ∧ c 28 = .inl (0, 1000, .inl (fun _ => 0))) ∧
  (rw_at c 29 5 6 7 300 64 [] ∧ rw_at c 29 8 9 10 300 64 [] ∧ rw_at c 29 11 12 13 300 64 [] ∧ rw_at c 29 16 17 18 200 64 [] ∧ rw_at c 29 19 20 21 300 64 [] ∧ rw_at c 29 24 25 26 60 64 []) ∧ ∀ q, q < 1000 → ff q = -1
section PJ
variable {c : en_H} {u : Nat}
theorem cP_init (ho : c 0 = .inr (0, [.null, .null, .null, .null, .null, .null])) : ∃ c' ff, en_call 3 mP_init [.ref 0] c 1 u none c' 29 (u + 14990) ∧ ci_at c' ff := by
  obtain ⟨c2, K2, R2, F2⟩ := cY_init (c := en_up c 1 (.inr (2, [.null, .null, .int 0]))) (u := u + 3) (en_up_s _ _ _)
  have a2 : c2 0 = .inr (0, [.null, .null, .null, .null, .null, .null]) := (F2 0 (by omega) (by omega) (by omega)).trans ((en_up_n (by omega)).trans ho)
  obtain ⟨c3, K3, A3, R3, B3, ⟨ff, D3, E3⟩, F3⟩ := cT_init (c := en_up (en_up c2 0 (.inr (0, [.ref 1, .null, .null, .null, .null, .null]))) 4 (.inr (3, [.null, .null, .null, .null, .null, .null, .int 0]))) (u := u + 3 + 8805 + 7) (en_up_s _ _ _)
  have a3 : c3 0 = .inr (0, [.ref 1, .null, .null, .null, .null, .null]) := (F3 0 (by omega)).trans ((en_up_n (by omega)).trans (en_up_s _ _ _))
  obtain ⟨c4, K4, R4, F4⟩ := cR_init (c := en_up (en_up c3 0 (.inr (0, [.ref 1, .ref 4, .null, .null, .null, .null]))) 16 (.inr (1, [.null, .null, .int 0]))) (x := 17) (u := u + 3 + 8805 + 7 + 2404 + 3) (h := 16) (m := 200) (mm := nI 200) (by omega) (en_up_s _ _ _) rfl (by omega)
  have a4 : c4 0 = .inr (0, [.ref 1, .ref 4, .null, .null, .null, .null]) := (F4 0 (by omega) (by omega)).trans ((en_up_n (by omega)).trans (en_up_s _ _ _))
  obtain ⟨c5, K5, R5, F5⟩ := cR_init (c := en_up (en_up c4 0 (.inr (0, [.ref 1, .ref 4, .ref 16, .null, .null, .null]))) 19 (.inr (1, [.null, .null, .int 0]))) (x := 20) (u := u + 3 + 8805 + 7 + 2404 + 3 + 64 + (200 + 1) + 3) (h := 19) (m := 300) (mm := nI 300) (by omega) (en_up_s _ _ _) rfl (by omega)
  have a5 : c5 0 = .inr (0, [.ref 1, .ref 4, .ref 16, .null, .null, .null]) := (F5 0 (by omega) (by omega)).trans ((en_up_n (by omega)).trans (en_up_s _ _ _))
  obtain ⟨c6, K6, A6, R6, B6, D6, F6⟩ := cB_init (c := en_up (en_up c5 0 (.inr (0, [.ref 1, .ref 4, .ref 16, .ref 19, .null, .null]))) 22 (.inr (4, [.null, .null, .null, .null, .int 0, .null, .int 0]))) (u := u + 3 + 8805 + 7 + 2404 + 3 + 64 + (200 + 1) + 3 + 64 + (300 + 1) + 7) (en_up_s _ _ _)
  have a6 : c6 0 = .inr (0, [.ref 1, .ref 4, .ref 16, .ref 19, .null, .null]) := (F6 0 (by omega)).trans ((en_up_n (by omega)).trans (en_up_s _ _ _))
  refine ⟨en_up (en_up (en_up c6 0 (.inr (0, [.ref 1, .ref 4, .ref 16, .ref 19, .ref 22, .null]))) 28 (en_z 0 1000)) 0 (.inr (0, [.ref 1, .ref 4, .ref 16, .ref 19, .ref 22, .ref 28])), ff, ?_, ?_⟩
  · refine en_call_is (by decide) (Nat.le_of_ble_eq_true rfl) cat_1 ?_
    show en_W (en_call 2) mP_init 0 [some (.ref 0)] [] c 1 u _
    simp only [sP_init_0, sP_init_1, sP_init_4, sP_init_5, sP_init_8, sP_init_9, sP_init_12, sP_init_15, sP_init_16, sP_init_19, sP_init_20, sP_init_21, sP_init_24, sP_init_27, sP_init_30, sP_init_31, sP_init_34, sP_init_35, sP_init_38, sP_init_41, sP_init_44, sP_init_45, sP_init_48, sP_init_49, sP_init_52, sP_init_55, sP_init_58, sP_init_59, sP_init_62, sP_init_63, sP_init_64, sP_init_67, sP_init_68, sP_init_71, sP_init_74, sP_init_77, sP_init_78, sP_init_81, sP_init_83, sP_init_86, en_rdO_eq, en_rdI_eq, en_rdN_eq, en_rdL_eq, true_and, and_true, List.getElem?_cons_succ, List.getElem?_cons_zero, en_gv_eq, if_true, if_false, and_self, or_true, true_or, implies_true, List.length_cons, List.length_nil, Nat.reduceLT, Nat.reduceLeDiff, Nat.reduceAdd, Nat.zero_le, Option.toList_some, Option.toList_none, List.cons_append, List.nil_append, nI_1, rd_t, n1_0, n0_1, Bool.false_eq_true, false_implies, reduceCtorEq]
    refine en_use (by decide) K2 ?_
    simp only [sP_init_0, sP_init_1, sP_init_4, sP_init_5, sP_init_8, sP_init_9, sP_init_12, sP_init_15, sP_init_16, sP_init_19, sP_init_20, sP_init_21, sP_init_24, sP_init_27, sP_init_30, sP_init_31, sP_init_34, sP_init_35, sP_init_38, sP_init_41, sP_init_44, sP_init_45, sP_init_48, sP_init_49, sP_init_52, sP_init_55, sP_init_58, sP_init_59, sP_init_62, sP_init_63, sP_init_64, sP_init_67, sP_init_68, sP_init_71, sP_init_74, sP_init_77, sP_init_78, sP_init_81, sP_init_83, sP_init_86, a2, up_ap, Nat.reduceEqDiff, en_fk, List.set_cons_zero, List.set_cons_succ, forall_const, ini0, en_rdO_eq, en_rdI_eq, en_rdN_eq, en_rdL_eq, true_and, and_true, List.getElem?_cons_succ, List.getElem?_cons_zero, en_gv_eq, if_true, if_false, and_self, or_true, true_or, implies_true, List.length_cons, List.length_nil, Nat.reduceLT, Nat.reduceLeDiff, Nat.reduceAdd, Nat.zero_le, Option.toList_some, Option.toList_none, List.cons_append, List.nil_append, nI_1, rd_t, n1_0, n0_1, Bool.false_eq_true, false_implies, reduceCtorEq]
    refine en_use (by decide) K3 ?_
    simp only [sP_init_0, sP_init_1, sP_init_4, sP_init_5, sP_init_8, sP_init_9, sP_init_12, sP_init_15, sP_init_16, sP_init_19, sP_init_20, sP_init_21, sP_init_24, sP_init_27, sP_init_30, sP_init_31, sP_init_34, sP_init_35, sP_init_38, sP_init_41, sP_init_44, sP_init_45, sP_init_48, sP_init_49, sP_init_52, sP_init_55, sP_init_58, sP_init_59, sP_init_62, sP_init_63, sP_init_64, sP_init_67, sP_init_68, sP_init_71, sP_init_74, sP_init_77, sP_init_78, sP_init_81, sP_init_83, sP_init_86, a3, up_ap, Nat.reduceEqDiff, en_fk, List.set_cons_zero, List.set_cons_succ, forall_const, ini0, en_rdO_eq, en_rdI_eq, en_rdN_eq, en_rdL_eq, true_and, and_true, List.getElem?_cons_succ, List.getElem?_cons_zero, en_gv_eq, if_true, if_false, and_self, or_true, true_or, implies_true, List.length_cons, List.length_nil, Nat.reduceLT, Nat.reduceLeDiff, Nat.reduceAdd, Nat.zero_le, Option.toList_some, Option.toList_none, List.cons_append, List.nil_append, nI_1, rd_t, n1_0, n0_1, Bool.false_eq_true, false_implies, reduceCtorEq]
    refine en_use (by decide) K4 ?_
    simp only [sP_init_0, sP_init_1, sP_init_4, sP_init_5, sP_init_8, sP_init_9, sP_init_12, sP_init_15, sP_init_16, sP_init_19, sP_init_20, sP_init_21, sP_init_24, sP_init_27, sP_init_30, sP_init_31, sP_init_34, sP_init_35, sP_init_38, sP_init_41, sP_init_44, sP_init_45, sP_init_48, sP_init_49, sP_init_52, sP_init_55, sP_init_58, sP_init_59, sP_init_62, sP_init_63, sP_init_64, sP_init_67, sP_init_68, sP_init_71, sP_init_74, sP_init_77, sP_init_78, sP_init_81, sP_init_83, sP_init_86, a4, up_ap, Nat.reduceEqDiff, en_fk, List.set_cons_zero, List.set_cons_succ, forall_const, ini0, en_rdO_eq, en_rdI_eq, en_rdN_eq, en_rdL_eq, true_and, and_true, List.getElem?_cons_succ, List.getElem?_cons_zero, en_gv_eq, if_true, if_false, and_self, or_true, true_or, implies_true, List.length_cons, List.length_nil, Nat.reduceLT, Nat.reduceLeDiff, Nat.reduceAdd, Nat.zero_le, Option.toList_some, Option.toList_none, List.cons_append, List.nil_append, nI_1, rd_t, n1_0, n0_1, Bool.false_eq_true, false_implies, reduceCtorEq]
    refine en_use (by decide) K5 ?_
    simp only [sP_init_0, sP_init_1, sP_init_4, sP_init_5, sP_init_8, sP_init_9, sP_init_12, sP_init_15, sP_init_16, sP_init_19, sP_init_20, sP_init_21, sP_init_24, sP_init_27, sP_init_30, sP_init_31, sP_init_34, sP_init_35, sP_init_38, sP_init_41, sP_init_44, sP_init_45, sP_init_48, sP_init_49, sP_init_52, sP_init_55, sP_init_58, sP_init_59, sP_init_62, sP_init_63, sP_init_64, sP_init_67, sP_init_68, sP_init_71, sP_init_74, sP_init_77, sP_init_78, sP_init_81, sP_init_83, sP_init_86, a5, up_ap, Nat.reduceEqDiff, en_fk, List.set_cons_zero, List.set_cons_succ, forall_const, ini0, en_rdO_eq, en_rdI_eq, en_rdN_eq, en_rdL_eq, true_and, and_true, List.getElem?_cons_succ, List.getElem?_cons_zero, en_gv_eq, if_true, if_false, and_self, or_true, true_or, implies_true, List.length_cons, List.length_nil, Nat.reduceLT, Nat.reduceLeDiff, Nat.reduceAdd, Nat.zero_le, Option.toList_some, Option.toList_none, List.cons_append, List.nil_append, nI_1, rd_t, n1_0, n0_1, Bool.false_eq_true, false_implies, reduceCtorEq]
    refine en_use (by decide) K6 ?_
    simp only [sP_init_0, sP_init_1, sP_init_4, sP_init_5, sP_init_8, sP_init_9, sP_init_12, sP_init_15, sP_init_16, sP_init_19, sP_init_20, sP_init_21, sP_init_24, sP_init_27, sP_init_30, sP_init_31, sP_init_34, sP_init_35, sP_init_38, sP_init_41, sP_init_44, sP_init_45, sP_init_48, sP_init_49, sP_init_52, sP_init_55, sP_init_58, sP_init_59, sP_init_62, sP_init_63, sP_init_64, sP_init_67, sP_init_68, sP_init_71, sP_init_74, sP_init_77, sP_init_78, sP_init_81, sP_init_83, sP_init_86, a6, up_ap, cl1000, nn1000, not_false_eq_true, Nat.reduceEqDiff, en_fk, List.set_cons_zero, List.set_cons_succ, forall_const, ini0, en_rdO_eq, en_rdI_eq, en_rdN_eq, en_rdL_eq, true_and, and_true, List.getElem?_cons_succ, List.getElem?_cons_zero, en_gv_eq, if_true, if_false, and_self, or_true, true_or, implies_true, List.length_cons, List.length_nil, Nat.reduceLT, Nat.reduceLeDiff, Nat.reduceAdd, Nat.zero_le, Option.toList_some, Option.toList_none, List.cons_append, List.nil_append, nI_1, rd_t, n1_0, n0_1, Bool.false_eq_true, false_implies, reduceCtorEq]
    exact ⟨rfl, rfl, rfl, by omega⟩
  · have k6 : ∀ a, a < 28 → a ≠ 0 → en_up (en_up (en_up c6 0 (.inr (0, [.ref 1, .ref 4, .ref 16, .ref 19, .ref 22, .null]))) 28 (en_z 0 1000)) 0 (.inr (0, [.ref 1, .ref 4, .ref 16, .ref 19, .ref 22, .ref 28])) a = c6 a := fun a h1 h2 => by
      rw [en_up_n h2, en_up_n (by omega), en_up_n h2]
    generalize hc : en_up (en_up (en_up c6 0 (.inr (0, [.ref 1, .ref 4, .ref 16, .ref 19, .ref 22, .null]))) 28 (en_z 0 1000)) 0 (.inr (0, [.ref 1, .ref 4, .ref 16, .ref 19, .ref 22, .ref 28])) = c' at *
    have k5 : ∀ a, a < 22 → a ≠ 0 → c' a = c5 a := fun a h1 h2 => by
      rw [k6 a (by omega) h2, F6 a (by omega), en_up_n (by omega), en_up_n h2]
    have k4 : ∀ a, a < 19 → a ≠ 0 → c' a = c4 a := fun a h1 h2 => by
      rw [k5 a (by omega) h2, F5 a (by omega) (by omega), en_up_n (by omega), en_up_n h2]
    have k3 : ∀ a, a < 16 → a ≠ 0 → c' a = c3 a := fun a h1 h2 => by
      rw [k4 a (by omega) h2, F4 a (by omega) (by omega), en_up_n (by omega), en_up_n h2]
    have k2 : ∀ a, a < 4 → a ≠ 0 → c' a = c2 a := fun a h1 h2 => by
      rw [k3 a (by omega) h2, F3 a (by omega), en_up_n (by omega), en_up_n h2]
    refine ⟨sy_keep R2 (by omega) (k2 1 (by omega) (by omega)) (k2 2 (by omega) (by omega)) (k2 3 (by omega) (by omega)), ⟨?_, (k3 4 (by omega) (by omega)).trans A3, (k6 22 (by omega) (by omega)).trans A6⟩, ⟨(k3 14 (by omega) (by omega)).trans B3, (k3 15 (by omega) (by omega)).trans D3, (k6 23 (by omega) (by omega)).trans B6, (k6 27 (by omega) (by omega)).trans D6, ?_⟩, ⟨?_, ?_, ?_, ?_, ?_, ?_⟩, E3⟩
    · rw [← hc, en_up_s]
    · rw [← hc, en_up_n (by omega), en_up_s]
      rfl
    · exact rw_keep R3.1 (by omega) (k3 5 (by omega) (by omega)) (k3 6 (by omega) (by omega)) (k3 7 (by omega) (by omega))
    · exact rw_keep R3.2.1 (by omega) (k3 8 (by omega) (by omega)) (k3 9 (by omega) (by omega)) (k3 10 (by omega) (by omega))
    · exact rw_keep R3.2.2 (by omega) (k3 11 (by omega) (by omega)) (k3 12 (by omega) (by omega)) (k3 13 (by omega) (by omega))
    · exact rw_keep R4 (by omega) (k4 16 (by omega) (by omega)) (k4 17 (by omega) (by omega)) (k4 18 (by omega) (by omega))
    · exact rw_keep R5 (by omega) (k5 19 (by omega) (by omega)) (k5 20 (by omega) (by omega)) (k5 21 (by omega) (by omega))
    · exact rw_keep R6 (by omega) (k6 24 (by omega) (by omega)) (k6 25 (by omega) (by omega)) (k6 26 (by omega) (by omega))
/-- behind the other constructor -/
theorem sp_wf0 : sp_wf sp_new := by
  refine ⟨Nat.zero_le _, Nat.zero_le _, fun h => (by cases h), fun i hi => absurd hi (Nat.not_lt_zero _), fun i hi => absurd hi (Nat.not_lt_zero _), fun _ _ => rfl, Nat.zero_le _, Nat.zero_le _, Nat.zero_le _, fun l hl => (by cases hl), fun l hl => (by cases hl)⟩
def ci_N : Nat → Nat := fun k => if k = 0 then 0 else 64
theorem CS_new {c c' : en_H} {ff : Nat → Int32} (H : ci_at c ff) (hk : ∀ a, a < 29 → c' a = c a) : CS c' 46 (fun k => k + 1) ci_N ((fun _ => []), ([], fun _ _ => false), ((fun _ => 0), ff, -1), (0, 0, (fun _ => 0), (fun _ => 0)), (fun _ => 0)) sp_new := by
  obtain ⟨h1, ⟨h2, h3, h4⟩, ⟨h5, h6, h7, h8, h9⟩, ⟨g1, g2, g3, g4, g5, g6⟩, hff⟩ := H
  have key : ∀ {h i j m : Nat}, h < 29 → i < 29 → j < 29 → rw_at c 29 h i j m 64 [] → rw_at c' 46 h i j m 64 [] := fun a b d e => rw_keep e (by omega) (hk _ a) (hk _ b) (hk _ d)
  refine ⟨⟨Nat.le_refl _, sy_keep h1 (by omega) (hk _ (by omega)) (hk _ (by omega)) (hk _ (by omega)), ⟨(hk _ (by omega)).trans h2, (hk _ (by omega)).trans h3, (hk _ (by omega)).trans h4⟩, ⟨(hk _ (by omega)).trans h5, (hk _ (by omega)).trans h6, (hk _ (by omega)).trans h7, (hk _ (by omega)).trans h8, (hk _ (by omega)).trans h9⟩, fun k hk2 => ?_, fun k _ => Or.inl rfl, fun k _ k' _ he => by simpa using he, 0, Nat.zero_le _, rfl⟩, ⟨⟨rfl, rfl, rfl, rfl, rfl⟩, ⟨rfl, rfl⟩, fun i hi => absurd hi (Nat.not_lt_zero _), rfl, fun h => (by cases h), fun v hv => Or.inl (hff v hv), 0, by omega, rfl, fun v _ => ⟨0, Nat.le_refl _, rfl⟩⟩, sp_wf0⟩
  rcases ck_or hk2 with rfl | rfl | rfl | rfl | rfl | rfl
  · exact key (by decide) (by decide) (by decide) g1
  · exact key (by decide) (by decide) (by decide) g2
  · exact key (by decide) (by decide) (by decide) g3
  · exact key (by decide) (by decide) (by decide) g4
  · exact key (by decide) (by decide) (by decide) g5
  · exact key (by decide) (by decide) (by decide) g6
end PJ
