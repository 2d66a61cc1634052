/-! the law from its entry -/
theorem law_all {n : Nat} {f : Nat → Int32} {c : en_H} (hn : n ≤ 1536) (hS : c en_S = .inl (0, n, .inl f)) : en_W (en_call 8) 117 0 [some (.ref en_S), none, none, none] [] c 0 0 lw_K := by
  have hSv : en_S = 1000000000 := rfl
  obtain ⟨c1, ff, K1, H1⟩ := cP_init (c := en_up c 0 (.inr (0, [.null, .null, .null, .null, .null, .null]))) (u := 6) (en_up_s _ _ _)
  obtain ⟨c2, K2, M1, M2⟩ := cM_init (c := en_up c1 29 (.inr (5, [.int 0, .null, .int 0, .null, .null, .null, .null, .null, .null, .null, .null, .int 0, .int 0, .null, .null, .null, .int 0, .null, .null, .int 0, .null, .int 0, .null]))) (u := 6 + 14990 + 23) (en_up_s _ _ _)
  have hk : ∀ a, a < 29 → c2 a = c1 a := fun a ha => (M2 a (Or.inl ha)).trans (en_up_n (by omega))
  have s1 : c1 en_S = .inl (0, n, .inl f) := ((en_call_up K1).2.2 en_S (by omega)).trans ((en_up_n (by omega)).trans hS)
  have s2 : c2 en_S = .inl (0, n, .inl f) := (M2 en_S (Or.inr (by omega))).trans ((en_up_n (by omega)).trans s1)
  have H2 : LI 0 c2 46 (6 + 14990 + 23 + 749701) sp_new := by
    refine ⟨_, ci_N, _, _, _, 0, CS_new H1 hk, ⟨M1, mrel_new, wf_new⟩, Nat.le_refl _, ?_, ?_, ?_⟩
    · exact ⟨by decide, by decide, by decide, by decide, by decide, by decide⟩
    · have : sN ci_N = 384 := by decide
      omega
    · omega
  have L := law_loop hn n 0 c2 46 (6 + 14990 + 23 + 749701) sp_new (by omega) (by omega) H2 s2
  simp only [sL_law_0, sL_law_3, sL_law_4, en_rdO_eq, en_rdI_eq, en_rdN_eq, en_rdL_eq, true_and, and_true, List.getElem?_cons_succ, List.getElem?_cons_zero, en_gv_eq, if_true, if_false, and_self, or_true, true_or, implies_true, List.length_cons, List.length_nil, Nat.reduceLT, Nat.reduceLeDiff, Nat.reduceAdd, Nat.zero_le, Option.toList_some, Option.toList_none, List.cons_append, List.nil_append, nI_1, rd_t, n1_0, n0_1, Bool.false_eq_true, false_implies, reduceCtorEq]
  refine en_use (by decide) K1 ?_
  simp only [sL_law_7, sL_law_8, sL_law_11, sL_law_12, en_rdO_eq, en_rdI_eq, en_rdN_eq, en_rdL_eq, true_and, and_true, List.getElem?_cons_succ, List.getElem?_cons_zero, en_gv_eq, if_true, if_false, and_self, or_true, true_or, implies_true, List.length_cons, List.length_nil, Nat.reduceLT, Nat.reduceLeDiff, Nat.reduceAdd, Nat.zero_le, Option.toList_some, Option.toList_none, List.cons_append, List.nil_append, nI_1, rd_t, n1_0, n0_1, Bool.false_eq_true, false_implies, reduceCtorEq]
  refine en_use (by decide) K2 ?_
  simp only [sL_law_15, sL_law_16, sL_law_17, en_rdO_eq, en_rdI_eq, en_rdN_eq, en_rdL_eq, true_and, and_true, List.getElem?_cons_succ, List.getElem?_cons_zero, en_gv_eq, if_true, if_false, and_self, or_true, true_or, implies_true, List.length_cons, List.length_nil, Nat.reduceLT, Nat.reduceLeDiff, Nat.reduceAdd, Nat.zero_le, Option.toList_some, Option.toList_none, List.cons_append, List.nil_append, nI_1, rd_t, n1_0, n0_1, Bool.false_eq_true, false_implies, reduceCtorEq]
  exact L
