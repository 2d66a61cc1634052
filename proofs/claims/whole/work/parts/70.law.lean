/-! the law's loop -/
theorem rd_S {x : Nat} : en_rd 117 en_S x = True := eq_true (Or.inr ⟨rfl, rfl⟩)
def lw_K : en_K := fun v' _ x' u' => v' = some (.int 1) ∧ x' ≤ 20000 ∧ u' ≤ 3000000
theorem LI_w {k : Nat} {c : en_H} {x u : Nat} {S : sp_S} (H : LI k c x u S) : sp_wf S ∧ c 0 = .inr (0, [.ref 1, .ref 4, .ref 16, .ref 19, .ref 22, .ref 28]) := by
  obtain ⟨ci, N, r, g, AP, ms, h1, -⟩ := H
  exact ⟨h1.2.2, h1.1.2.2.1.1⟩
section LW
variable {n k : Nat} {f : Nat → Int32} {c : en_H} {x u : Nat} {S : sp_S}
theorem lw_c0 (hn : n ≤ 1536) (hk : 3 * k + 3 ≤ n) (H : LI k c x u S) (hS : c en_S = .inl (0, n, .inl f)) (IH : ∀ c' x' u' S', LI (k + 1) c' x' u' S' → c' en_S = .inl (0, n, .inl f) → en_W (en_call 8) 117 517 [some (.ref en_S), some (.ref 0), some (.ref 29), some (.int (nI (3 * k)))] [] c' x' u' lw_K) : en_W (en_call 8) 117 116 [some (.ref en_S), some (.ref 0), some (.ref 29), some (.int (nI (3 * k)))] [] c x u lw_K := by
  obtain ⟨hw, o0⟩ := LI_w H
  obtain ⟨-, -, hx⟩ := LI_b H
  obtain ⟨c1, x1, u1, c2, K1, ⟨fs, o29⟩, hx1, K2, H2⟩ := LI_nx (y := mP_symbol) (y2 := mM_symbol) (As := [.ref 0, .int (f (3 * k + 1))]) (As2 := [.ref 29, .int (f (3 * k + 1))]) (v := (sp_symbol (f (3 * k + 1)) S).1) (S1 := (sp_symbol (f (3 * k + 1)) S).2) H (fun ci N r h hN => cP_symbol h) (fun c1 x1 u1 g AP ms h q => cM_symbol h q) (wf_symbol hw)
  have hb := (LI_b H2).1
  have hSv : en_S = 1000000000 := rfl
  have s1 : c1 en_S = .inl (0, n, .inl f) := ((en_call_up K1).2.2 en_S (by omega)).trans hS
  have s2 : c2 en_S = .inl (0, n, .inl f) := ((en_call_up K2).2.2 en_S (by omega)).trans s1
  have x0 : 0 < x := by omega
  have x29 : 29 < x1 := by omega
  have i1 : vp_in (nI (3 * k + 1)) n := vp_in_nI (by omega) (by omega)
  have i2 : (nI (3 * k + 1)).toNatClampNeg = 3 * k + 1 := nI_clamp (by omega)
  have i3 : vp_in (nI (3 * k + 2)) n := vp_in_nI (by omega) (by omega)
  have i4 : (nI (3 * k + 2)).toNatClampNeg = 3 * k + 2 := nI_clamp (by omega)
  have i5 : nI (3 * k) + 2 = nI (3 * k + 2) := nI_add (3 * k) 2
  simp only [sL_law_116, sL_law_117, sL_law_118, sL_law_119, sL_law_120, sL_law_121, sL_law_122, sL_law_125, sL_law_126, sL_law_127, sL_law_128, sL_law_129, sL_law_130, sL_law_131, sL_law_134, sL_law_137, sL_law_138, hS, o0, x0, rd_S, i1, i2, i3, i4, i5, en_rdO_eq, en_rdI_eq, en_rdN_eq, en_rdL_eq, true_and, and_true, List.getElem?_cons_succ, List.getElem?_cons_zero, en_gv_eq, if_true, if_false, and_self, or_true, true_or, implies_true, List.length_cons, List.length_nil, Nat.reduceLT, Nat.reduceLeDiff, Nat.reduceAdd, Nat.zero_le, Option.toList_some, Option.toList_none, List.cons_append, List.nil_append, nI_1, rd_t, n1_0, n0_1, Bool.false_eq_true, false_implies, reduceCtorEq]
  refine en_use (by decide) K1 ?_
  simp only [sL_law_116, sL_law_117, sL_law_118, sL_law_119, sL_law_120, sL_law_121, sL_law_122, sL_law_125, sL_law_126, sL_law_127, sL_law_128, sL_law_129, sL_law_130, sL_law_131, sL_law_134, sL_law_137, sL_law_138, s1, o29, x29, rd_S, i1, i2, i3, i4, i5, en_rdO_eq, en_rdI_eq, en_rdN_eq, en_rdL_eq, true_and, and_true, List.getElem?_cons_succ, List.getElem?_cons_zero, en_gv_eq, if_true, if_false, and_self, or_true, true_or, implies_true, List.length_cons, List.length_nil, Nat.reduceLT, Nat.reduceLeDiff, Nat.reduceAdd, Nat.zero_le, Option.toList_some, Option.toList_none, List.cons_append, List.nil_append, nI_1, rd_t, n1_0, n0_1, Bool.false_eq_true, false_implies, reduceCtorEq]
  refine en_use (by decide) K2 ?_
  simp only [sL_law_116, sL_law_117, sL_law_118, sL_law_119, sL_law_120, sL_law_121, sL_law_122, sL_law_125, sL_law_126, sL_law_127, sL_law_128, sL_law_129, sL_law_130, sL_law_131, sL_law_134, sL_law_137, sL_law_138, en_rdO_eq, en_rdI_eq, en_rdN_eq, en_rdL_eq, true_and, and_true, List.getElem?_cons_succ, List.getElem?_cons_zero, en_gv_eq, if_true, if_false, and_self, or_true, true_or, implies_true, List.length_cons, List.length_nil, Nat.reduceLT, Nat.reduceLeDiff, Nat.reduceAdd, Nat.zero_le, Option.toList_some, Option.toList_none, List.cons_append, List.nil_append, nI_1, rd_t, n1_0, n0_1, Bool.false_eq_true, false_implies, reduceCtorEq]
  exact IH c2 x1 u1 _ H2 s2
theorem lw_c1 (hn : n ≤ 1536) (hk : 3 * k + 3 ≤ n) (H : LI k c x u S) (hS : c en_S = .inl (0, n, .inl f)) (IH : ∀ c' x' u' S', LI (k + 1) c' x' u' S' → c' en_S = .inl (0, n, .inl f) → en_W (en_call 8) 117 517 [some (.ref en_S), some (.ref 0), some (.ref 29), some (.int (nI (3 * k)))] [] c' x' u' lw_K) : en_W (en_call 8) 117 139 [some (.ref en_S), some (.ref 0), some (.ref 29), some (.int (nI (3 * k)))] [] c x u lw_K := by
  obtain ⟨hw, o0⟩ := LI_w H
  obtain ⟨-, -, hx⟩ := LI_b H
  obtain ⟨c1, x1, u1, c2, K1, ⟨fs, o29⟩, hx1, K2, H2⟩ := LI_nx (y := mP_begin) (y2 := mM_begin) (As := [.ref 0, .int (f (3 * k + 1))]) (As2 := [.ref 29, .int (f (3 * k + 1))]) (v := (sp_begin (f (3 * k + 1)) S).1) (S1 := (sp_begin (f (3 * k + 1)) S).2) H (fun ci N r h hN => cP_begin h) (fun c1 x1 u1 g AP ms h q => cM_begin h q) (wf_begin hw)
  have hb := (LI_b H2).1
  have hSv : en_S = 1000000000 := rfl
  have s1 : c1 en_S = .inl (0, n, .inl f) := ((en_call_up K1).2.2 en_S (by omega)).trans hS
  have s2 : c2 en_S = .inl (0, n, .inl f) := ((en_call_up K2).2.2 en_S (by omega)).trans s1
  have x0 : 0 < x := by omega
  have x29 : 29 < x1 := by omega
  have i1 : vp_in (nI (3 * k + 1)) n := vp_in_nI (by omega) (by omega)
  have i2 : (nI (3 * k + 1)).toNatClampNeg = 3 * k + 1 := nI_clamp (by omega)
  have i3 : vp_in (nI (3 * k + 2)) n := vp_in_nI (by omega) (by omega)
  have i4 : (nI (3 * k + 2)).toNatClampNeg = 3 * k + 2 := nI_clamp (by omega)
  have i5 : nI (3 * k) + 2 = nI (3 * k + 2) := nI_add (3 * k) 2
  simp only [sL_law_139, sL_law_140, sL_law_141, sL_law_142, sL_law_143, sL_law_144, sL_law_145, sL_law_148, sL_law_149, sL_law_150, sL_law_151, sL_law_152, sL_law_153, sL_law_154, sL_law_157, sL_law_160, sL_law_161, hS, o0, x0, rd_S, i1, i2, i3, i4, i5, en_rdO_eq, en_rdI_eq, en_rdN_eq, en_rdL_eq, true_and, and_true, List.getElem?_cons_succ, List.getElem?_cons_zero, en_gv_eq, if_true, if_false, and_self, or_true, true_or, implies_true, List.length_cons, List.length_nil, Nat.reduceLT, Nat.reduceLeDiff, Nat.reduceAdd, Nat.zero_le, Option.toList_some, Option.toList_none, List.cons_append, List.nil_append, nI_1, rd_t, n1_0, n0_1, Bool.false_eq_true, false_implies, reduceCtorEq]
  refine en_use (by decide) K1 ?_
  simp only [sL_law_139, sL_law_140, sL_law_141, sL_law_142, sL_law_143, sL_law_144, sL_law_145, sL_law_148, sL_law_149, sL_law_150, sL_law_151, sL_law_152, sL_law_153, sL_law_154, sL_law_157, sL_law_160, sL_law_161, s1, o29, x29, rd_S, i1, i2, i3, i4, i5, en_rdO_eq, en_rdI_eq, en_rdN_eq, en_rdL_eq, true_and, and_true, List.getElem?_cons_succ, List.getElem?_cons_zero, en_gv_eq, if_true, if_false, and_self, or_true, true_or, implies_true, List.length_cons, List.length_nil, Nat.reduceLT, Nat.reduceLeDiff, Nat.reduceAdd, Nat.zero_le, Option.toList_some, Option.toList_none, List.cons_append, List.nil_append, nI_1, rd_t, n1_0, n0_1, Bool.false_eq_true, false_implies, reduceCtorEq]
  refine en_use (by decide) K2 ?_
  simp only [sL_law_139, sL_law_140, sL_law_141, sL_law_142, sL_law_143, sL_law_144, sL_law_145, sL_law_148, sL_law_149, sL_law_150, sL_law_151, sL_law_152, sL_law_153, sL_law_154, sL_law_157, sL_law_160, sL_law_161, en_rdO_eq, en_rdI_eq, en_rdN_eq, en_rdL_eq, true_and, and_true, List.getElem?_cons_succ, List.getElem?_cons_zero, en_gv_eq, if_true, if_false, and_self, or_true, true_or, implies_true, List.length_cons, List.length_nil, Nat.reduceLT, Nat.reduceLeDiff, Nat.reduceAdd, Nat.zero_le, Option.toList_some, Option.toList_none, List.cons_append, List.nil_append, nI_1, rd_t, n1_0, n0_1, Bool.false_eq_true, false_implies, reduceCtorEq]
  exact IH c2 x1 u1 _ H2 s2
theorem lw_c2 (hn : n ≤ 1536) (hk : 3 * k + 3 ≤ n) (H : LI k c x u S) (hS : c en_S = .inl (0, n, .inl f)) (IH : ∀ c' x' u' S', LI (k + 1) c' x' u' S' → c' en_S = .inl (0, n, .inl f) → en_W (en_call 8) 117 517 [some (.ref en_S), some (.ref 0), some (.ref 29), some (.int (nI (3 * k)))] [] c' x' u' lw_K) : en_W (en_call 8) 117 162 [some (.ref en_S), some (.ref 0), some (.ref 29), some (.int (nI (3 * k)))] [] c x u lw_K := by
  obtain ⟨hw, o0⟩ := LI_w H
  obtain ⟨-, -, hx⟩ := LI_b H
  obtain ⟨c1, x1, u1, c2, K1, ⟨fs, o29⟩, hx1, K2, H2⟩ := LI_nx (y := mP_put) (y2 := mM_put) (As := [.ref 0, .int (f (3 * k + 1))]) (As2 := [.ref 29, .int (f (3 * k + 1))]) (v := (sp_put (f (3 * k + 1)) S).1) (S1 := (sp_put (f (3 * k + 1)) S).2) H (fun ci N r h hN => cP_put h) (fun c1 x1 u1 g AP ms h q => cM_put h q) (wf_put hw)
  have hb := (LI_b H2).1
  have hSv : en_S = 1000000000 := rfl
  have s1 : c1 en_S = .inl (0, n, .inl f) := ((en_call_up K1).2.2 en_S (by omega)).trans hS
  have s2 : c2 en_S = .inl (0, n, .inl f) := ((en_call_up K2).2.2 en_S (by omega)).trans s1
  have x0 : 0 < x := by omega
  have x29 : 29 < x1 := by omega
  have i1 : vp_in (nI (3 * k + 1)) n := vp_in_nI (by omega) (by omega)
  have i2 : (nI (3 * k + 1)).toNatClampNeg = 3 * k + 1 := nI_clamp (by omega)
  have i3 : vp_in (nI (3 * k + 2)) n := vp_in_nI (by omega) (by omega)
  have i4 : (nI (3 * k + 2)).toNatClampNeg = 3 * k + 2 := nI_clamp (by omega)
  have i5 : nI (3 * k) + 2 = nI (3 * k + 2) := nI_add (3 * k) 2
  simp only [sL_law_162, sL_law_163, sL_law_164, sL_law_165, sL_law_166, sL_law_167, sL_law_168, sL_law_171, sL_law_172, sL_law_173, sL_law_174, sL_law_175, sL_law_176, sL_law_177, sL_law_180, sL_law_183, sL_law_184, hS, o0, x0, rd_S, i1, i2, i3, i4, i5, en_rdO_eq, en_rdI_eq, en_rdN_eq, en_rdL_eq, true_and, and_true, List.getElem?_cons_succ, List.getElem?_cons_zero, en_gv_eq, if_true, if_false, and_self, or_true, true_or, implies_true, List.length_cons, List.length_nil, Nat.reduceLT, Nat.reduceLeDiff, Nat.reduceAdd, Nat.zero_le, Option.toList_some, Option.toList_none, List.cons_append, List.nil_append, nI_1, rd_t, n1_0, n0_1, Bool.false_eq_true, false_implies, reduceCtorEq]
  refine en_use (by decide) K1 ?_
  simp only [sL_law_162, sL_law_163, sL_law_164, sL_law_165, sL_law_166, sL_law_167, sL_law_168, sL_law_171, sL_law_172, sL_law_173, sL_law_174, sL_law_175, sL_law_176, sL_law_177, sL_law_180, sL_law_183, sL_law_184, s1, o29, x29, rd_S, i1, i2, i3, i4, i5, en_rdO_eq, en_rdI_eq, en_rdN_eq, en_rdL_eq, true_and, and_true, List.getElem?_cons_succ, List.getElem?_cons_zero, en_gv_eq, if_true, if_false, and_self, or_true, true_or, implies_true, List.length_cons, List.length_nil, Nat.reduceLT, Nat.reduceLeDiff, Nat.reduceAdd, Nat.zero_le, Option.toList_some, Option.toList_none, List.cons_append, List.nil_append, nI_1, rd_t, n1_0, n0_1, Bool.false_eq_true, false_implies, reduceCtorEq]
  refine en_use (by decide) K2 ?_
  simp only [sL_law_162, sL_law_163, sL_law_164, sL_law_165, sL_law_166, sL_law_167, sL_law_168, sL_law_171, sL_law_172, sL_law_173, sL_law_174, sL_law_175, sL_law_176, sL_law_177, sL_law_180, sL_law_183, sL_law_184, en_rdO_eq, en_rdI_eq, en_rdN_eq, en_rdL_eq, true_and, and_true, List.getElem?_cons_succ, List.getElem?_cons_zero, en_gv_eq, if_true, if_false, and_self, or_true, true_or, implies_true, List.length_cons, List.length_nil, Nat.reduceLT, Nat.reduceLeDiff, Nat.reduceAdd, Nat.zero_le, Option.toList_some, Option.toList_none, List.cons_append, List.nil_append, nI_1, rd_t, n1_0, n0_1, Bool.false_eq_true, false_implies, reduceCtorEq]
  exact IH c2 x1 u1 _ H2 s2
theorem lw_c3 (hn : n ≤ 1536) (hk : 3 * k + 3 ≤ n) (H : LI k c x u S) (hS : c en_S = .inl (0, n, .inl f)) (IH : ∀ c' x' u' S', LI (k + 1) c' x' u' S' → c' en_S = .inl (0, n, .inl f) → en_W (en_call 8) 117 517 [some (.ref en_S), some (.ref 0), some (.ref 29), some (.int (nI (3 * k)))] [] c' x' u' lw_K) : en_W (en_call 8) 117 185 [some (.ref en_S), some (.ref 0), some (.ref 29), some (.int (nI (3 * k)))] [] c x u lw_K := by
  obtain ⟨hw, o0⟩ := LI_w H
  obtain ⟨-, -, hx⟩ := LI_b H
  obtain ⟨c1, x1, u1, c2, K1, ⟨fs, o29⟩, hx1, K2, H2⟩ := LI_nx (y := mP_need) (y2 := mM_need) (As := [.ref 0, .int (f (3 * k + 1))]) (As2 := [.ref 29, .int (f (3 * k + 1))]) (v := (sp_need (f (3 * k + 1)) S).1) (S1 := (sp_need (f (3 * k + 1)) S).2) H (fun ci N r h hN => cP_need h) (fun c1 x1 u1 g AP ms h q => cM_need h q) (wf_need hw)
  have hb := (LI_b H2).1
  have hSv : en_S = 1000000000 := rfl
  have s1 : c1 en_S = .inl (0, n, .inl f) := ((en_call_up K1).2.2 en_S (by omega)).trans hS
  have s2 : c2 en_S = .inl (0, n, .inl f) := ((en_call_up K2).2.2 en_S (by omega)).trans s1
  have x0 : 0 < x := by omega
  have x29 : 29 < x1 := by omega
  have i1 : vp_in (nI (3 * k + 1)) n := vp_in_nI (by omega) (by omega)
  have i2 : (nI (3 * k + 1)).toNatClampNeg = 3 * k + 1 := nI_clamp (by omega)
  have i3 : vp_in (nI (3 * k + 2)) n := vp_in_nI (by omega) (by omega)
  have i4 : (nI (3 * k + 2)).toNatClampNeg = 3 * k + 2 := nI_clamp (by omega)
  have i5 : nI (3 * k) + 2 = nI (3 * k + 2) := nI_add (3 * k) 2
  simp only [sL_law_185, sL_law_186, sL_law_187, sL_law_188, sL_law_189, sL_law_190, sL_law_191, sL_law_194, sL_law_195, sL_law_196, sL_law_197, sL_law_198, sL_law_199, sL_law_200, sL_law_203, sL_law_206, sL_law_207, hS, o0, x0, rd_S, i1, i2, i3, i4, i5, en_rdO_eq, en_rdI_eq, en_rdN_eq, en_rdL_eq, true_and, and_true, List.getElem?_cons_succ, List.getElem?_cons_zero, en_gv_eq, if_true, if_false, and_self, or_true, true_or, implies_true, List.length_cons, List.length_nil, Nat.reduceLT, Nat.reduceLeDiff, Nat.reduceAdd, Nat.zero_le, Option.toList_some, Option.toList_none, List.cons_append, List.nil_append, nI_1, rd_t, n1_0, n0_1, Bool.false_eq_true, false_implies, reduceCtorEq]
  refine en_use (by decide) K1 ?_
  simp only [sL_law_185, sL_law_186, sL_law_187, sL_law_188, sL_law_189, sL_law_190, sL_law_191, sL_law_194, sL_law_195, sL_law_196, sL_law_197, sL_law_198, sL_law_199, sL_law_200, sL_law_203, sL_law_206, sL_law_207, s1, o29, x29, rd_S, i1, i2, i3, i4, i5, en_rdO_eq, en_rdI_eq, en_rdN_eq, en_rdL_eq, true_and, and_true, List.getElem?_cons_succ, List.getElem?_cons_zero, en_gv_eq, if_true, if_false, and_self, or_true, true_or, implies_true, List.length_cons, List.length_nil, Nat.reduceLT, Nat.reduceLeDiff, Nat.reduceAdd, Nat.zero_le, Option.toList_some, Option.toList_none, List.cons_append, List.nil_append, nI_1, rd_t, n1_0, n0_1, Bool.false_eq_true, false_implies, reduceCtorEq]
  refine en_use (by decide) K2 ?_
  simp only [sL_law_185, sL_law_186, sL_law_187, sL_law_188, sL_law_189, sL_law_190, sL_law_191, sL_law_194, sL_law_195, sL_law_196, sL_law_197, sL_law_198, sL_law_199, sL_law_200, sL_law_203, sL_law_206, sL_law_207, en_rdO_eq, en_rdI_eq, en_rdN_eq, en_rdL_eq, true_and, and_true, List.getElem?_cons_succ, List.getElem?_cons_zero, en_gv_eq, if_true, if_false, and_self, or_true, true_or, implies_true, List.length_cons, List.length_nil, Nat.reduceLT, Nat.reduceLeDiff, Nat.reduceAdd, Nat.zero_le, Option.toList_some, Option.toList_none, List.cons_append, List.nil_append, nI_1, rd_t, n1_0, n0_1, Bool.false_eq_true, false_implies, reduceCtorEq]
  exact IH c2 x1 u1 _ H2 s2
theorem lw_c4 (hn : n ≤ 1536) (hk : 3 * k + 3 ≤ n) (H : LI k c x u S) (hS : c en_S = .inl (0, n, .inl f)) (IH : ∀ c' x' u' S', LI (k + 1) c' x' u' S' → c' en_S = .inl (0, n, .inl f) → en_W (en_call 8) 117 517 [some (.ref en_S), some (.ref 0), some (.ref 29), some (.int (nI (3 * k)))] [] c' x' u' lw_K) : en_W (en_call 8) 117 208 [some (.ref en_S), some (.ref 0), some (.ref 29), some (.int (nI (3 * k)))] [] c x u lw_K := by
  obtain ⟨hw, o0⟩ := LI_w H
  obtain ⟨-, -, hx⟩ := LI_b H
  obtain ⟨c1, x1, u1, c2, K1, ⟨fs, o29⟩, hx1, K2, H2⟩ := LI_nx (y := mP_pair) (y2 := mM_pair) (As := [.ref 0, .int (f (3 * k + 1)), .int (f (3 * k + 2))]) (As2 := [.ref 29, .int (f (3 * k + 1)), .int (f (3 * k + 2))]) (v := (sp_pair (f (3 * k + 1)) (f (3 * k + 2)) S).1) (S1 := (sp_pair (f (3 * k + 1)) (f (3 * k + 2)) S).2) H (fun ci N r h hN => cP_pair h) (fun c1 x1 u1 g AP ms h q => cM_pair h q) (wf_pair hw)
  have hb := (LI_b H2).1
  have hSv : en_S = 1000000000 := rfl
  have s1 : c1 en_S = .inl (0, n, .inl f) := ((en_call_up K1).2.2 en_S (by omega)).trans hS
  have s2 : c2 en_S = .inl (0, n, .inl f) := ((en_call_up K2).2.2 en_S (by omega)).trans s1
  have x0 : 0 < x := by omega
  have x29 : 29 < x1 := by omega
  have i1 : vp_in (nI (3 * k + 1)) n := vp_in_nI (by omega) (by omega)
  have i2 : (nI (3 * k + 1)).toNatClampNeg = 3 * k + 1 := nI_clamp (by omega)
  have i3 : vp_in (nI (3 * k + 2)) n := vp_in_nI (by omega) (by omega)
  have i4 : (nI (3 * k + 2)).toNatClampNeg = 3 * k + 2 := nI_clamp (by omega)
  have i5 : nI (3 * k) + 2 = nI (3 * k + 2) := nI_add (3 * k) 2
  simp only [sL_law_208, sL_law_209, sL_law_210, sL_law_211, sL_law_212, sL_law_213, sL_law_214, sL_law_215, sL_law_216, sL_law_217, sL_law_218, sL_law_219, sL_law_222, sL_law_223, sL_law_224, sL_law_225, sL_law_226, sL_law_227, sL_law_228, sL_law_229, sL_law_230, sL_law_231, sL_law_232, sL_law_233, sL_law_236, sL_law_239, sL_law_240, hS, o0, x0, rd_S, i1, i2, i3, i4, i5, en_rdO_eq, en_rdI_eq, en_rdN_eq, en_rdL_eq, true_and, and_true, List.getElem?_cons_succ, List.getElem?_cons_zero, en_gv_eq, if_true, if_false, and_self, or_true, true_or, implies_true, List.length_cons, List.length_nil, Nat.reduceLT, Nat.reduceLeDiff, Nat.reduceAdd, Nat.zero_le, Option.toList_some, Option.toList_none, List.cons_append, List.nil_append, nI_1, rd_t, n1_0, n0_1, Bool.false_eq_true, false_implies, reduceCtorEq]
  refine en_use (by decide) K1 ?_
  simp only [sL_law_208, sL_law_209, sL_law_210, sL_law_211, sL_law_212, sL_law_213, sL_law_214, sL_law_215, sL_law_216, sL_law_217, sL_law_218, sL_law_219, sL_law_222, sL_law_223, sL_law_224, sL_law_225, sL_law_226, sL_law_227, sL_law_228, sL_law_229, sL_law_230, sL_law_231, sL_law_232, sL_law_233, sL_law_236, sL_law_239, sL_law_240, s1, o29, x29, rd_S, i1, i2, i3, i4, i5, en_rdO_eq, en_rdI_eq, en_rdN_eq, en_rdL_eq, true_and, and_true, List.getElem?_cons_succ, List.getElem?_cons_zero, en_gv_eq, if_true, if_false, and_self, or_true, true_or, implies_true, List.length_cons, List.length_nil, Nat.reduceLT, Nat.reduceLeDiff, Nat.reduceAdd, Nat.zero_le, Option.toList_some, Option.toList_none, List.cons_append, List.nil_append, nI_1, rd_t, n1_0, n0_1, Bool.false_eq_true, false_implies, reduceCtorEq]
  refine en_use (by decide) K2 ?_
  simp only [sL_law_208, sL_law_209, sL_law_210, sL_law_211, sL_law_212, sL_law_213, sL_law_214, sL_law_215, sL_law_216, sL_law_217, sL_law_218, sL_law_219, sL_law_222, sL_law_223, sL_law_224, sL_law_225, sL_law_226, sL_law_227, sL_law_228, sL_law_229, sL_law_230, sL_law_231, sL_law_232, sL_law_233, sL_law_236, sL_law_239, sL_law_240, en_rdO_eq, en_rdI_eq, en_rdN_eq, en_rdL_eq, true_and, and_true, List.getElem?_cons_succ, List.getElem?_cons_zero, en_gv_eq, if_true, if_false, and_self, or_true, true_or, implies_true, List.length_cons, List.length_nil, Nat.reduceLT, Nat.reduceLeDiff, Nat.reduceAdd, Nat.zero_le, Option.toList_some, Option.toList_none, List.cons_append, List.nil_append, nI_1, rd_t, n1_0, n0_1, Bool.false_eq_true, false_implies, reduceCtorEq]
  exact IH c2 x1 u1 _ H2 s2
theorem lw_c5 (hn : n ≤ 1536) (hk : 3 * k + 3 ≤ n) (H : LI k c x u S) (hS : c en_S = .inl (0, n, .inl f)) (IH : ∀ c' x' u' S', LI (k + 1) c' x' u' S' → c' en_S = .inl (0, n, .inl f) → en_W (en_call 8) 117 517 [some (.ref en_S), some (.ref 0), some (.ref 29), some (.int (nI (3 * k)))] [] c' x' u' lw_K) : en_W (en_call 8) 117 241 [some (.ref en_S), some (.ref 0), some (.ref 29), some (.int (nI (3 * k)))] [] c x u lw_K := by
  obtain ⟨hw, o0⟩ := LI_w H
  obtain ⟨-, -, hx⟩ := LI_b H
  obtain ⟨c1, x1, u1, c2, K1, ⟨fs, o29⟩, hx1, K2, H2⟩ := LI_nx (y := mP_close) (y2 := mM_close) (As := [.ref 0]) (As2 := [.ref 29]) (v := (sp_close S).1) (S1 := (sp_close S).2) H (fun ci N r h hN => cP_close h) (fun c1 x1 u1 g AP ms h q => cM_close h q) (wf_close hw)
  have hb := (LI_b H2).1
  have hSv : en_S = 1000000000 := rfl
  have s1 : c1 en_S = .inl (0, n, .inl f) := ((en_call_up K1).2.2 en_S (by omega)).trans hS
  have s2 : c2 en_S = .inl (0, n, .inl f) := ((en_call_up K2).2.2 en_S (by omega)).trans s1
  have x0 : 0 < x := by omega
  have x29 : 29 < x1 := by omega
  have i1 : vp_in (nI (3 * k + 1)) n := vp_in_nI (by omega) (by omega)
  have i2 : (nI (3 * k + 1)).toNatClampNeg = 3 * k + 1 := nI_clamp (by omega)
  have i3 : vp_in (nI (3 * k + 2)) n := vp_in_nI (by omega) (by omega)
  have i4 : (nI (3 * k + 2)).toNatClampNeg = 3 * k + 2 := nI_clamp (by omega)
  have i5 : nI (3 * k) + 2 = nI (3 * k + 2) := nI_add (3 * k) 2
  simp only [sL_law_241, sL_law_242, sL_law_245, sL_law_246, sL_law_249, sL_law_252, sL_law_253, hS, o0, x0, rd_S, i1, i2, i3, i4, i5, en_rdO_eq, en_rdI_eq, en_rdN_eq, en_rdL_eq, true_and, and_true, List.getElem?_cons_succ, List.getElem?_cons_zero, en_gv_eq, if_true, if_false, and_self, or_true, true_or, implies_true, List.length_cons, List.length_nil, Nat.reduceLT, Nat.reduceLeDiff, Nat.reduceAdd, Nat.zero_le, Option.toList_some, Option.toList_none, List.cons_append, List.nil_append, nI_1, rd_t, n1_0, n0_1, Bool.false_eq_true, false_implies, reduceCtorEq]
  refine en_use (by decide) K1 ?_
  simp only [sL_law_241, sL_law_242, sL_law_245, sL_law_246, sL_law_249, sL_law_252, sL_law_253, s1, o29, x29, rd_S, i1, i2, i3, i4, i5, en_rdO_eq, en_rdI_eq, en_rdN_eq, en_rdL_eq, true_and, and_true, List.getElem?_cons_succ, List.getElem?_cons_zero, en_gv_eq, if_true, if_false, and_self, or_true, true_or, implies_true, List.length_cons, List.length_nil, Nat.reduceLT, Nat.reduceLeDiff, Nat.reduceAdd, Nat.zero_le, Option.toList_some, Option.toList_none, List.cons_append, List.nil_append, nI_1, rd_t, n1_0, n0_1, Bool.false_eq_true, false_implies, reduceCtorEq]
  refine en_use (by decide) K2 ?_
  simp only [sL_law_241, sL_law_242, sL_law_245, sL_law_246, sL_law_249, sL_law_252, sL_law_253, en_rdO_eq, en_rdI_eq, en_rdN_eq, en_rdL_eq, true_and, and_true, List.getElem?_cons_succ, List.getElem?_cons_zero, en_gv_eq, if_true, if_false, and_self, or_true, true_or, implies_true, List.length_cons, List.length_nil, Nat.reduceLT, Nat.reduceLeDiff, Nat.reduceAdd, Nat.zero_le, Option.toList_some, Option.toList_none, List.cons_append, List.nil_append, nI_1, rd_t, n1_0, n0_1, Bool.false_eq_true, false_implies, reduceCtorEq]
  exact IH c2 x1 u1 _ H2 s2
theorem lw_c6 (hn : n ≤ 1536) (hk : 3 * k + 3 ≤ n) (H : LI k c x u S) (hS : c en_S = .inl (0, n, .inl f)) (IH : ∀ c' x' u' S', LI (k + 1) c' x' u' S' → c' en_S = .inl (0, n, .inl f) → en_W (en_call 8) 117 517 [some (.ref en_S), some (.ref 0), some (.ref 29), some (.int (nI (3 * k)))] [] c' x' u' lw_K) : en_W (en_call 8) 117 254 [some (.ref en_S), some (.ref 0), some (.ref 29), some (.int (nI (3 * k)))] [] c x u lw_K := by
  obtain ⟨hw, o0⟩ := LI_w H
  obtain ⟨-, -, hx⟩ := LI_b H
  obtain ⟨c1, x1, u1, c2, K1, ⟨fs, o29⟩, hx1, K2, H2⟩ := LI_nx (y := mP_apart) (y2 := mM_apart) (As := [.ref 0, .int (f (3 * k + 1)), .int (f (3 * k + 2))]) (As2 := [.ref 29, .int (f (3 * k + 1)), .int (f (3 * k + 2))]) (v := (sp_apart (f (3 * k + 1)) (f (3 * k + 2)) S).1) (S1 := (sp_apart (f (3 * k + 1)) (f (3 * k + 2)) S).2) H (fun ci N r h hN => cP_apart h) (fun c1 x1 u1 g AP ms h q => cM_apart h q) (wf_apart hw)
  have hb := (LI_b H2).1
  have hSv : en_S = 1000000000 := rfl
  have s1 : c1 en_S = .inl (0, n, .inl f) := ((en_call_up K1).2.2 en_S (by omega)).trans hS
  have s2 : c2 en_S = .inl (0, n, .inl f) := ((en_call_up K2).2.2 en_S (by omega)).trans s1
  have x0 : 0 < x := by omega
  have x29 : 29 < x1 := by omega
  have i1 : vp_in (nI (3 * k + 1)) n := vp_in_nI (by omega) (by omega)
  have i2 : (nI (3 * k + 1)).toNatClampNeg = 3 * k + 1 := nI_clamp (by omega)
  have i3 : vp_in (nI (3 * k + 2)) n := vp_in_nI (by omega) (by omega)
  have i4 : (nI (3 * k + 2)).toNatClampNeg = 3 * k + 2 := nI_clamp (by omega)
  have i5 : nI (3 * k) + 2 = nI (3 * k + 2) := nI_add (3 * k) 2
  simp only [sL_law_254, sL_law_255, sL_law_256, sL_law_257, sL_law_258, sL_law_259, sL_law_260, sL_law_261, sL_law_262, sL_law_263, sL_law_264, sL_law_265, sL_law_268, sL_law_269, sL_law_270, sL_law_271, sL_law_272, sL_law_273, sL_law_274, sL_law_275, sL_law_276, sL_law_277, sL_law_278, sL_law_279, sL_law_282, sL_law_285, sL_law_286, hS, o0, x0, rd_S, i1, i2, i3, i4, i5, en_rdO_eq, en_rdI_eq, en_rdN_eq, en_rdL_eq, true_and, and_true, List.getElem?_cons_succ, List.getElem?_cons_zero, en_gv_eq, if_true, if_false, and_self, or_true, true_or, implies_true, List.length_cons, List.length_nil, Nat.reduceLT, Nat.reduceLeDiff, Nat.reduceAdd, Nat.zero_le, Option.toList_some, Option.toList_none, List.cons_append, List.nil_append, nI_1, rd_t, n1_0, n0_1, Bool.false_eq_true, false_implies, reduceCtorEq]
  refine en_use (by decide) K1 ?_
  simp only [sL_law_254, sL_law_255, sL_law_256, sL_law_257, sL_law_258, sL_law_259, sL_law_260, sL_law_261, sL_law_262, sL_law_263, sL_law_264, sL_law_265, sL_law_268, sL_law_269, sL_law_270, sL_law_271, sL_law_272, sL_law_273, sL_law_274, sL_law_275, sL_law_276, sL_law_277, sL_law_278, sL_law_279, sL_law_282, sL_law_285, sL_law_286, s1, o29, x29, rd_S, i1, i2, i3, i4, i5, en_rdO_eq, en_rdI_eq, en_rdN_eq, en_rdL_eq, true_and, and_true, List.getElem?_cons_succ, List.getElem?_cons_zero, en_gv_eq, if_true, if_false, and_self, or_true, true_or, implies_true, List.length_cons, List.length_nil, Nat.reduceLT, Nat.reduceLeDiff, Nat.reduceAdd, Nat.zero_le, Option.toList_some, Option.toList_none, List.cons_append, List.nil_append, nI_1, rd_t, n1_0, n0_1, Bool.false_eq_true, false_implies, reduceCtorEq]
  refine en_use (by decide) K2 ?_
  simp only [sL_law_254, sL_law_255, sL_law_256, sL_law_257, sL_law_258, sL_law_259, sL_law_260, sL_law_261, sL_law_262, sL_law_263, sL_law_264, sL_law_265, sL_law_268, sL_law_269, sL_law_270, sL_law_271, sL_law_272, sL_law_273, sL_law_274, sL_law_275, sL_law_276, sL_law_277, sL_law_278, sL_law_279, sL_law_282, sL_law_285, sL_law_286, en_rdO_eq, en_rdI_eq, en_rdN_eq, en_rdL_eq, true_and, and_true, List.getElem?_cons_succ, List.getElem?_cons_zero, en_gv_eq, if_true, if_false, and_self, or_true, true_or, implies_true, List.length_cons, List.length_nil, Nat.reduceLT, Nat.reduceLeDiff, Nat.reduceAdd, Nat.zero_le, Option.toList_some, Option.toList_none, List.cons_append, List.nil_append, nI_1, rd_t, n1_0, n0_1, Bool.false_eq_true, false_implies, reduceCtorEq]
  exact IH c2 x1 u1 _ H2 s2
theorem lw_c7 (hn : n ≤ 1536) (hk : 3 * k + 3 ≤ n) (H : LI k c x u S) (hS : c en_S = .inl (0, n, .inl f)) (IH : ∀ c' x' u' S', LI (k + 1) c' x' u' S' → c' en_S = .inl (0, n, .inl f) → en_W (en_call 8) 117 517 [some (.ref en_S), some (.ref 0), some (.ref 29), some (.int (nI (3 * k)))] [] c' x' u' lw_K) : en_W (en_call 8) 117 287 [some (.ref en_S), some (.ref 0), some (.ref 29), some (.int (nI (3 * k)))] [] c x u lw_K := by
  obtain ⟨hw, o0⟩ := LI_w H
  obtain ⟨-, -, hx⟩ := LI_b H
  obtain ⟨c1, x1, u1, c2, K1, ⟨fs, o29⟩, hx1, K2, H2⟩ := LI_nx (y := mP_step) (y2 := mM_step) (As := [.ref 0, .int (f (3 * k + 1))]) (As2 := [.ref 29, .int (f (3 * k + 1))]) (v := (sp_step (f (3 * k + 1)) S).1) (S1 := (sp_step (f (3 * k + 1)) S).2) H (fun ci N r h hN => cP_step h (by omega)) (fun c1 x1 u1 g AP ms h q => cM_step h q) (wf_step hw)
  have hb := (LI_b H2).1
  have hSv : en_S = 1000000000 := rfl
  have s1 : c1 en_S = .inl (0, n, .inl f) := ((en_call_up K1).2.2 en_S (by omega)).trans hS
  have s2 : c2 en_S = .inl (0, n, .inl f) := ((en_call_up K2).2.2 en_S (by omega)).trans s1
  have x0 : 0 < x := by omega
  have x29 : 29 < x1 := by omega
  have i1 : vp_in (nI (3 * k + 1)) n := vp_in_nI (by omega) (by omega)
  have i2 : (nI (3 * k + 1)).toNatClampNeg = 3 * k + 1 := nI_clamp (by omega)
  have i3 : vp_in (nI (3 * k + 2)) n := vp_in_nI (by omega) (by omega)
  have i4 : (nI (3 * k + 2)).toNatClampNeg = 3 * k + 2 := nI_clamp (by omega)
  have i5 : nI (3 * k) + 2 = nI (3 * k + 2) := nI_add (3 * k) 2
  simp only [sL_law_287, sL_law_288, sL_law_289, sL_law_290, sL_law_291, sL_law_292, sL_law_293, sL_law_296, sL_law_297, sL_law_298, sL_law_299, sL_law_300, sL_law_301, sL_law_302, sL_law_305, sL_law_308, sL_law_309, hS, o0, x0, rd_S, i1, i2, i3, i4, i5, en_rdO_eq, en_rdI_eq, en_rdN_eq, en_rdL_eq, true_and, and_true, List.getElem?_cons_succ, List.getElem?_cons_zero, en_gv_eq, if_true, if_false, and_self, or_true, true_or, implies_true, List.length_cons, List.length_nil, Nat.reduceLT, Nat.reduceLeDiff, Nat.reduceAdd, Nat.zero_le, Option.toList_some, Option.toList_none, List.cons_append, List.nil_append, nI_1, rd_t, n1_0, n0_1, Bool.false_eq_true, false_implies, reduceCtorEq]
  refine en_use (by decide) K1 ?_
  simp only [sL_law_287, sL_law_288, sL_law_289, sL_law_290, sL_law_291, sL_law_292, sL_law_293, sL_law_296, sL_law_297, sL_law_298, sL_law_299, sL_law_300, sL_law_301, sL_law_302, sL_law_305, sL_law_308, sL_law_309, s1, o29, x29, rd_S, i1, i2, i3, i4, i5, en_rdO_eq, en_rdI_eq, en_rdN_eq, en_rdL_eq, true_and, and_true, List.getElem?_cons_succ, List.getElem?_cons_zero, en_gv_eq, if_true, if_false, and_self, or_true, true_or, implies_true, List.length_cons, List.length_nil, Nat.reduceLT, Nat.reduceLeDiff, Nat.reduceAdd, Nat.zero_le, Option.toList_some, Option.toList_none, List.cons_append, List.nil_append, nI_1, rd_t, n1_0, n0_1, Bool.false_eq_true, false_implies, reduceCtorEq]
  refine en_use (by decide) K2 ?_
  simp only [sL_law_287, sL_law_288, sL_law_289, sL_law_290, sL_law_291, sL_law_292, sL_law_293, sL_law_296, sL_law_297, sL_law_298, sL_law_299, sL_law_300, sL_law_301, sL_law_302, sL_law_305, sL_law_308, sL_law_309, en_rdO_eq, en_rdI_eq, en_rdN_eq, en_rdL_eq, true_and, and_true, List.getElem?_cons_succ, List.getElem?_cons_zero, en_gv_eq, if_true, if_false, and_self, or_true, true_or, implies_true, List.length_cons, List.length_nil, Nat.reduceLT, Nat.reduceLeDiff, Nat.reduceAdd, Nat.zero_le, Option.toList_some, Option.toList_none, List.cons_append, List.nil_append, nI_1, rd_t, n1_0, n0_1, Bool.false_eq_true, false_implies, reduceCtorEq]
  exact IH c2 x1 u1 _ H2 s2
theorem lw_c8 (hn : n ≤ 1536) (hk : 3 * k + 3 ≤ n) (H : LI k c x u S) (hS : c en_S = .inl (0, n, .inl f)) (IH : ∀ c' x' u' S', LI (k + 1) c' x' u' S' → c' en_S = .inl (0, n, .inl f) → en_W (en_call 8) 117 517 [some (.ref en_S), some (.ref 0), some (.ref 29), some (.int (nI (3 * k)))] [] c' x' u' lw_K) : en_W (en_call 8) 117 310 [some (.ref en_S), some (.ref 0), some (.ref 29), some (.int (nI (3 * k)))] [] c x u lw_K := by
  obtain ⟨hw, o0⟩ := LI_w H
  obtain ⟨-, -, hx⟩ := LI_b H
  obtain ⟨c1, x1, u1, c2, K1, ⟨fs, o29⟩, hx1, K2, H2⟩ := LI_nx (y := mP_save) (y2 := mM_save) (As := [.ref 0]) (As2 := [.ref 29]) (v := (sp_save S).1) (S1 := (sp_save S).2) H (fun ci N r h hN => cP_save h) (fun c1 x1 u1 g AP ms h q => cM_save h q) (wf_save hw)
  have hb := (LI_b H2).1
  have hSv : en_S = 1000000000 := rfl
  have s1 : c1 en_S = .inl (0, n, .inl f) := ((en_call_up K1).2.2 en_S (by omega)).trans hS
  have s2 : c2 en_S = .inl (0, n, .inl f) := ((en_call_up K2).2.2 en_S (by omega)).trans s1
  have x0 : 0 < x := by omega
  have x29 : 29 < x1 := by omega
  have i1 : vp_in (nI (3 * k + 1)) n := vp_in_nI (by omega) (by omega)
  have i2 : (nI (3 * k + 1)).toNatClampNeg = 3 * k + 1 := nI_clamp (by omega)
  have i3 : vp_in (nI (3 * k + 2)) n := vp_in_nI (by omega) (by omega)
  have i4 : (nI (3 * k + 2)).toNatClampNeg = 3 * k + 2 := nI_clamp (by omega)
  have i5 : nI (3 * k) + 2 = nI (3 * k + 2) := nI_add (3 * k) 2
  simp only [sL_law_310, sL_law_311, sL_law_314, sL_law_315, sL_law_318, sL_law_321, sL_law_322, hS, o0, x0, rd_S, i1, i2, i3, i4, i5, en_rdO_eq, en_rdI_eq, en_rdN_eq, en_rdL_eq, true_and, and_true, List.getElem?_cons_succ, List.getElem?_cons_zero, en_gv_eq, if_true, if_false, and_self, or_true, true_or, implies_true, List.length_cons, List.length_nil, Nat.reduceLT, Nat.reduceLeDiff, Nat.reduceAdd, Nat.zero_le, Option.toList_some, Option.toList_none, List.cons_append, List.nil_append, nI_1, rd_t, n1_0, n0_1, Bool.false_eq_true, false_implies, reduceCtorEq]
  refine en_use (by decide) K1 ?_
  simp only [sL_law_310, sL_law_311, sL_law_314, sL_law_315, sL_law_318, sL_law_321, sL_law_322, s1, o29, x29, rd_S, i1, i2, i3, i4, i5, en_rdO_eq, en_rdI_eq, en_rdN_eq, en_rdL_eq, true_and, and_true, List.getElem?_cons_succ, List.getElem?_cons_zero, en_gv_eq, if_true, if_false, and_self, or_true, true_or, implies_true, List.length_cons, List.length_nil, Nat.reduceLT, Nat.reduceLeDiff, Nat.reduceAdd, Nat.zero_le, Option.toList_some, Option.toList_none, List.cons_append, List.nil_append, nI_1, rd_t, n1_0, n0_1, Bool.false_eq_true, false_implies, reduceCtorEq]
  refine en_use (by decide) K2 ?_
  simp only [sL_law_310, sL_law_311, sL_law_314, sL_law_315, sL_law_318, sL_law_321, sL_law_322, en_rdO_eq, en_rdI_eq, en_rdN_eq, en_rdL_eq, true_and, and_true, List.getElem?_cons_succ, List.getElem?_cons_zero, en_gv_eq, if_true, if_false, and_self, or_true, true_or, implies_true, List.length_cons, List.length_nil, Nat.reduceLT, Nat.reduceLeDiff, Nat.reduceAdd, Nat.zero_le, Option.toList_some, Option.toList_none, List.cons_append, List.nil_append, nI_1, rd_t, n1_0, n0_1, Bool.false_eq_true, false_implies, reduceCtorEq]
  exact IH c2 x1 u1 _ H2 s2
theorem lw_c9 (hn : n ≤ 1536) (hk : 3 * k + 3 ≤ n) (H : LI k c x u S) (hS : c en_S = .inl (0, n, .inl f)) (IH : ∀ c' x' u' S', LI (k + 1) c' x' u' S' → c' en_S = .inl (0, n, .inl f) → en_W (en_call 8) 117 517 [some (.ref en_S), some (.ref 0), some (.ref 29), some (.int (nI (3 * k)))] [] c' x' u' lw_K) : en_W (en_call 8) 117 323 [some (.ref en_S), some (.ref 0), some (.ref 29), some (.int (nI (3 * k)))] [] c x u lw_K := by
  obtain ⟨hw, o0⟩ := LI_w H
  obtain ⟨-, -, hx⟩ := LI_b H
  obtain ⟨c1, x1, u1, c2, K1, ⟨fs, o29⟩, hx1, K2, H2⟩ := LI_nx (y := mP_again) (y2 := mM_again) (As := [.ref 0, .int (f (3 * k + 1))]) (As2 := [.ref 29, .int (f (3 * k + 1))]) (v := (sp_again (f (3 * k + 1)) S).1) (S1 := (sp_again (f (3 * k + 1)) S).2) H (fun ci N r h hN => cP_again h) (fun c1 x1 u1 g AP ms h q => cM_again h q) (wf_again hw)
  have hb := (LI_b H2).1
  have hSv : en_S = 1000000000 := rfl
  have s1 : c1 en_S = .inl (0, n, .inl f) := ((en_call_up K1).2.2 en_S (by omega)).trans hS
  have s2 : c2 en_S = .inl (0, n, .inl f) := ((en_call_up K2).2.2 en_S (by omega)).trans s1
  have x0 : 0 < x := by omega
  have x29 : 29 < x1 := by omega
  have i1 : vp_in (nI (3 * k + 1)) n := vp_in_nI (by omega) (by omega)
  have i2 : (nI (3 * k + 1)).toNatClampNeg = 3 * k + 1 := nI_clamp (by omega)
  have i3 : vp_in (nI (3 * k + 2)) n := vp_in_nI (by omega) (by omega)
  have i4 : (nI (3 * k + 2)).toNatClampNeg = 3 * k + 2 := nI_clamp (by omega)
  have i5 : nI (3 * k) + 2 = nI (3 * k + 2) := nI_add (3 * k) 2
  simp only [sL_law_323, sL_law_324, sL_law_325, sL_law_326, sL_law_327, sL_law_328, sL_law_329, sL_law_332, sL_law_333, sL_law_334, sL_law_335, sL_law_336, sL_law_337, sL_law_338, sL_law_341, sL_law_344, sL_law_345, hS, o0, x0, rd_S, i1, i2, i3, i4, i5, en_rdO_eq, en_rdI_eq, en_rdN_eq, en_rdL_eq, true_and, and_true, List.getElem?_cons_succ, List.getElem?_cons_zero, en_gv_eq, if_true, if_false, and_self, or_true, true_or, implies_true, List.length_cons, List.length_nil, Nat.reduceLT, Nat.reduceLeDiff, Nat.reduceAdd, Nat.zero_le, Option.toList_some, Option.toList_none, List.cons_append, List.nil_append, nI_1, rd_t, n1_0, n0_1, Bool.false_eq_true, false_implies, reduceCtorEq]
  refine en_use (by decide) K1 ?_
  simp only [sL_law_323, sL_law_324, sL_law_325, sL_law_326, sL_law_327, sL_law_328, sL_law_329, sL_law_332, sL_law_333, sL_law_334, sL_law_335, sL_law_336, sL_law_337, sL_law_338, sL_law_341, sL_law_344, sL_law_345, s1, o29, x29, rd_S, i1, i2, i3, i4, i5, en_rdO_eq, en_rdI_eq, en_rdN_eq, en_rdL_eq, true_and, and_true, List.getElem?_cons_succ, List.getElem?_cons_zero, en_gv_eq, if_true, if_false, and_self, or_true, true_or, implies_true, List.length_cons, List.length_nil, Nat.reduceLT, Nat.reduceLeDiff, Nat.reduceAdd, Nat.zero_le, Option.toList_some, Option.toList_none, List.cons_append, List.nil_append, nI_1, rd_t, n1_0, n0_1, Bool.false_eq_true, false_implies, reduceCtorEq]
  refine en_use (by decide) K2 ?_
  simp only [sL_law_323, sL_law_324, sL_law_325, sL_law_326, sL_law_327, sL_law_328, sL_law_329, sL_law_332, sL_law_333, sL_law_334, sL_law_335, sL_law_336, sL_law_337, sL_law_338, sL_law_341, sL_law_344, sL_law_345, en_rdO_eq, en_rdI_eq, en_rdN_eq, en_rdL_eq, true_and, and_true, List.getElem?_cons_succ, List.getElem?_cons_zero, en_gv_eq, if_true, if_false, and_self, or_true, true_or, implies_true, List.length_cons, List.length_nil, Nat.reduceLT, Nat.reduceLeDiff, Nat.reduceAdd, Nat.zero_le, Option.toList_some, Option.toList_none, List.cons_append, List.nil_append, nI_1, rd_t, n1_0, n0_1, Bool.false_eq_true, false_implies, reduceCtorEq]
  exact IH c2 x1 u1 _ H2 s2
theorem lw_c10 (hn : n ≤ 1536) (hk : 3 * k + 3 ≤ n) (H : LI k c x u S) (hS : c en_S = .inl (0, n, .inl f)) (IH : ∀ c' x' u' S', LI (k + 1) c' x' u' S' → c' en_S = .inl (0, n, .inl f) → en_W (en_call 8) 117 517 [some (.ref en_S), some (.ref 0), some (.ref 29), some (.int (nI (3 * k)))] [] c' x' u' lw_K) : en_W (en_call 8) 117 346 [some (.ref en_S), some (.ref 0), some (.ref 29), some (.int (nI (3 * k)))] [] c x u lw_K := by
  obtain ⟨hw, o0⟩ := LI_w H
  obtain ⟨-, -, hx⟩ := LI_b H
  obtain ⟨c1, x1, u1, c2, K1, ⟨fs, o29⟩, hx1, K2, H2⟩ := LI_nx (y := mP_clear) (y2 := mM_clear) (As := [.ref 0]) (As2 := [.ref 29]) (v := (sp_clear S).1) (S1 := (sp_clear S).2) H (fun ci N r h hN => cP_clear h) (fun c1 x1 u1 g AP ms h q => cM_clear h q) (wf_clear hw)
  have hb := (LI_b H2).1
  have hSv : en_S = 1000000000 := rfl
  have s1 : c1 en_S = .inl (0, n, .inl f) := ((en_call_up K1).2.2 en_S (by omega)).trans hS
  have s2 : c2 en_S = .inl (0, n, .inl f) := ((en_call_up K2).2.2 en_S (by omega)).trans s1
  have x0 : 0 < x := by omega
  have x29 : 29 < x1 := by omega
  have i1 : vp_in (nI (3 * k + 1)) n := vp_in_nI (by omega) (by omega)
  have i2 : (nI (3 * k + 1)).toNatClampNeg = 3 * k + 1 := nI_clamp (by omega)
  have i3 : vp_in (nI (3 * k + 2)) n := vp_in_nI (by omega) (by omega)
  have i4 : (nI (3 * k + 2)).toNatClampNeg = 3 * k + 2 := nI_clamp (by omega)
  have i5 : nI (3 * k) + 2 = nI (3 * k + 2) := nI_add (3 * k) 2
  simp only [sL_law_346, sL_law_347, sL_law_350, sL_law_351, sL_law_354, sL_law_357, sL_law_358, hS, o0, x0, rd_S, i1, i2, i3, i4, i5, en_rdO_eq, en_rdI_eq, en_rdN_eq, en_rdL_eq, true_and, and_true, List.getElem?_cons_succ, List.getElem?_cons_zero, en_gv_eq, if_true, if_false, and_self, or_true, true_or, implies_true, List.length_cons, List.length_nil, Nat.reduceLT, Nat.reduceLeDiff, Nat.reduceAdd, Nat.zero_le, Option.toList_some, Option.toList_none, List.cons_append, List.nil_append, nI_1, rd_t, n1_0, n0_1, Bool.false_eq_true, false_implies, reduceCtorEq]
  refine en_use (by decide) K1 ?_
  simp only [sL_law_346, sL_law_347, sL_law_350, sL_law_351, sL_law_354, sL_law_357, sL_law_358, s1, o29, x29, rd_S, i1, i2, i3, i4, i5, en_rdO_eq, en_rdI_eq, en_rdN_eq, en_rdL_eq, true_and, and_true, List.getElem?_cons_succ, List.getElem?_cons_zero, en_gv_eq, if_true, if_false, and_self, or_true, true_or, implies_true, List.length_cons, List.length_nil, Nat.reduceLT, Nat.reduceLeDiff, Nat.reduceAdd, Nat.zero_le, Option.toList_some, Option.toList_none, List.cons_append, List.nil_append, nI_1, rd_t, n1_0, n0_1, Bool.false_eq_true, false_implies, reduceCtorEq]
  refine en_use (by decide) K2 ?_
  simp only [sL_law_346, sL_law_347, sL_law_350, sL_law_351, sL_law_354, sL_law_357, sL_law_358, en_rdO_eq, en_rdI_eq, en_rdN_eq, en_rdL_eq, true_and, and_true, List.getElem?_cons_succ, List.getElem?_cons_zero, en_gv_eq, if_true, if_false, and_self, or_true, true_or, implies_true, List.length_cons, List.length_nil, Nat.reduceLT, Nat.reduceLeDiff, Nat.reduceAdd, Nat.zero_le, Option.toList_some, Option.toList_none, List.cons_append, List.nil_append, nI_1, rd_t, n1_0, n0_1, Bool.false_eq_true, false_implies, reduceCtorEq]
  exact IH c2 x1 u1 _ H2 s2
theorem lw_c11 (hn : n ≤ 1536) (hk : 3 * k + 3 ≤ n) (H : LI k c x u S) (hS : c en_S = .inl (0, n, .inl f)) (IH : ∀ c' x' u' S', LI (k + 1) c' x' u' S' → c' en_S = .inl (0, n, .inl f) → en_W (en_call 8) 117 517 [some (.ref en_S), some (.ref 0), some (.ref 29), some (.int (nI (3 * k)))] [] c' x' u' lw_K) : en_W (en_call 8) 117 359 [some (.ref en_S), some (.ref 0), some (.ref 29), some (.int (nI (3 * k)))] [] c x u lw_K := by
  obtain ⟨hw, o0⟩ := LI_w H
  obtain ⟨-, -, hx⟩ := LI_b H
  obtain ⟨c1, x1, u1, c2, K1, ⟨fs, o29⟩, hx1, K2, H2⟩ := LI_nx (y := mP_count) (y2 := mM_count) (As := [.ref 0, .int (f (3 * k + 1))]) (As2 := [.ref 29, .int (f (3 * k + 1))]) (v := (sp_count (f (3 * k + 1)) S)) (S1 := S) H (fun ci N r h hN => cP_count h) (fun c1 x1 u1 g AP ms h q => cM_count h q) (hw)
  have hb := (LI_b H2).1
  have hSv : en_S = 1000000000 := rfl
  have s1 : c1 en_S = .inl (0, n, .inl f) := ((en_call_up K1).2.2 en_S (by omega)).trans hS
  have s2 : c2 en_S = .inl (0, n, .inl f) := ((en_call_up K2).2.2 en_S (by omega)).trans s1
  have x0 : 0 < x := by omega
  have x29 : 29 < x1 := by omega
  have i1 : vp_in (nI (3 * k + 1)) n := vp_in_nI (by omega) (by omega)
  have i2 : (nI (3 * k + 1)).toNatClampNeg = 3 * k + 1 := nI_clamp (by omega)
  have i3 : vp_in (nI (3 * k + 2)) n := vp_in_nI (by omega) (by omega)
  have i4 : (nI (3 * k + 2)).toNatClampNeg = 3 * k + 2 := nI_clamp (by omega)
  have i5 : nI (3 * k) + 2 = nI (3 * k + 2) := nI_add (3 * k) 2
  simp only [sL_law_359, sL_law_360, sL_law_361, sL_law_362, sL_law_363, sL_law_364, sL_law_365, sL_law_368, sL_law_369, sL_law_370, sL_law_371, sL_law_372, sL_law_373, sL_law_374, sL_law_377, sL_law_380, sL_law_381, hS, o0, x0, rd_S, i1, i2, i3, i4, i5, en_rdO_eq, en_rdI_eq, en_rdN_eq, en_rdL_eq, true_and, and_true, List.getElem?_cons_succ, List.getElem?_cons_zero, en_gv_eq, if_true, if_false, and_self, or_true, true_or, implies_true, List.length_cons, List.length_nil, Nat.reduceLT, Nat.reduceLeDiff, Nat.reduceAdd, Nat.zero_le, Option.toList_some, Option.toList_none, List.cons_append, List.nil_append, nI_1, rd_t, n1_0, n0_1, Bool.false_eq_true, false_implies, reduceCtorEq]
  refine en_use (by decide) K1 ?_
  simp only [sL_law_359, sL_law_360, sL_law_361, sL_law_362, sL_law_363, sL_law_364, sL_law_365, sL_law_368, sL_law_369, sL_law_370, sL_law_371, sL_law_372, sL_law_373, sL_law_374, sL_law_377, sL_law_380, sL_law_381, s1, o29, x29, rd_S, i1, i2, i3, i4, i5, en_rdO_eq, en_rdI_eq, en_rdN_eq, en_rdL_eq, true_and, and_true, List.getElem?_cons_succ, List.getElem?_cons_zero, en_gv_eq, if_true, if_false, and_self, or_true, true_or, implies_true, List.length_cons, List.length_nil, Nat.reduceLT, Nat.reduceLeDiff, Nat.reduceAdd, Nat.zero_le, Option.toList_some, Option.toList_none, List.cons_append, List.nil_append, nI_1, rd_t, n1_0, n0_1, Bool.false_eq_true, false_implies, reduceCtorEq]
  refine en_use (by decide) K2 ?_
  simp only [sL_law_359, sL_law_360, sL_law_361, sL_law_362, sL_law_363, sL_law_364, sL_law_365, sL_law_368, sL_law_369, sL_law_370, sL_law_371, sL_law_372, sL_law_373, sL_law_374, sL_law_377, sL_law_380, sL_law_381, en_rdO_eq, en_rdI_eq, en_rdN_eq, en_rdL_eq, true_and, and_true, List.getElem?_cons_succ, List.getElem?_cons_zero, en_gv_eq, if_true, if_false, and_self, or_true, true_or, implies_true, List.length_cons, List.length_nil, Nat.reduceLT, Nat.reduceLeDiff, Nat.reduceAdd, Nat.zero_le, Option.toList_some, Option.toList_none, List.cons_append, List.nil_append, nI_1, rd_t, n1_0, n0_1, Bool.false_eq_true, false_implies, reduceCtorEq]
  exact IH c2 x1 u1 _ H2 s2
theorem lw_c12 (hn : n ≤ 1536) (hk : 3 * k + 3 ≤ n) (H : LI k c x u S) (hS : c en_S = .inl (0, n, .inl f)) (IH : ∀ c' x' u' S', LI (k + 1) c' x' u' S' → c' en_S = .inl (0, n, .inl f) → en_W (en_call 8) 117 517 [some (.ref en_S), some (.ref 0), some (.ref 29), some (.int (nI (3 * k)))] [] c' x' u' lw_K) : en_W (en_call 8) 117 382 [some (.ref en_S), some (.ref 0), some (.ref 29), some (.int (nI (3 * k)))] [] c x u lw_K := by
  obtain ⟨hw, o0⟩ := LI_w H
  obtain ⟨-, -, hx⟩ := LI_b H
  obtain ⟨c1, x1, u1, c2, K1, ⟨fs, o29⟩, hx1, K2, H2⟩ := LI_nx (y := mP_length) (y2 := mM_length) (As := [.ref 0, .int (f (3 * k + 1))]) (As2 := [.ref 29, .int (f (3 * k + 1))]) (v := (sp_length (f (3 * k + 1)) S)) (S1 := S) H (fun ci N r h hN => cP_length h) (fun c1 x1 u1 g AP ms h q => cM_length h q) (hw)
  have hb := (LI_b H2).1
  have hSv : en_S = 1000000000 := rfl
  have s1 : c1 en_S = .inl (0, n, .inl f) := ((en_call_up K1).2.2 en_S (by omega)).trans hS
  have s2 : c2 en_S = .inl (0, n, .inl f) := ((en_call_up K2).2.2 en_S (by omega)).trans s1
  have x0 : 0 < x := by omega
  have x29 : 29 < x1 := by omega
  have i1 : vp_in (nI (3 * k + 1)) n := vp_in_nI (by omega) (by omega)
  have i2 : (nI (3 * k + 1)).toNatClampNeg = 3 * k + 1 := nI_clamp (by omega)
  have i3 : vp_in (nI (3 * k + 2)) n := vp_in_nI (by omega) (by omega)
  have i4 : (nI (3 * k + 2)).toNatClampNeg = 3 * k + 2 := nI_clamp (by omega)
  have i5 : nI (3 * k) + 2 = nI (3 * k + 2) := nI_add (3 * k) 2
  simp only [sL_law_382, sL_law_383, sL_law_384, sL_law_385, sL_law_386, sL_law_387, sL_law_388, sL_law_391, sL_law_392, sL_law_393, sL_law_394, sL_law_395, sL_law_396, sL_law_397, sL_law_400, sL_law_403, sL_law_404, hS, o0, x0, rd_S, i1, i2, i3, i4, i5, en_rdO_eq, en_rdI_eq, en_rdN_eq, en_rdL_eq, true_and, and_true, List.getElem?_cons_succ, List.getElem?_cons_zero, en_gv_eq, if_true, if_false, and_self, or_true, true_or, implies_true, List.length_cons, List.length_nil, Nat.reduceLT, Nat.reduceLeDiff, Nat.reduceAdd, Nat.zero_le, Option.toList_some, Option.toList_none, List.cons_append, List.nil_append, nI_1, rd_t, n1_0, n0_1, Bool.false_eq_true, false_implies, reduceCtorEq]
  refine en_use (by decide) K1 ?_
  simp only [sL_law_382, sL_law_383, sL_law_384, sL_law_385, sL_law_386, sL_law_387, sL_law_388, sL_law_391, sL_law_392, sL_law_393, sL_law_394, sL_law_395, sL_law_396, sL_law_397, sL_law_400, sL_law_403, sL_law_404, s1, o29, x29, rd_S, i1, i2, i3, i4, i5, en_rdO_eq, en_rdI_eq, en_rdN_eq, en_rdL_eq, true_and, and_true, List.getElem?_cons_succ, List.getElem?_cons_zero, en_gv_eq, if_true, if_false, and_self, or_true, true_or, implies_true, List.length_cons, List.length_nil, Nat.reduceLT, Nat.reduceLeDiff, Nat.reduceAdd, Nat.zero_le, Option.toList_some, Option.toList_none, List.cons_append, List.nil_append, nI_1, rd_t, n1_0, n0_1, Bool.false_eq_true, false_implies, reduceCtorEq]
  refine en_use (by decide) K2 ?_
  simp only [sL_law_382, sL_law_383, sL_law_384, sL_law_385, sL_law_386, sL_law_387, sL_law_388, sL_law_391, sL_law_392, sL_law_393, sL_law_394, sL_law_395, sL_law_396, sL_law_397, sL_law_400, sL_law_403, sL_law_404, en_rdO_eq, en_rdI_eq, en_rdN_eq, en_rdL_eq, true_and, and_true, List.getElem?_cons_succ, List.getElem?_cons_zero, en_gv_eq, if_true, if_false, and_self, or_true, true_or, implies_true, List.length_cons, List.length_nil, Nat.reduceLT, Nat.reduceLeDiff, Nat.reduceAdd, Nat.zero_le, Option.toList_some, Option.toList_none, List.cons_append, List.nil_append, nI_1, rd_t, n1_0, n0_1, Bool.false_eq_true, false_implies, reduceCtorEq]
  exact IH c2 x1 u1 _ H2 s2
theorem lw_c13 (hn : n ≤ 1536) (hk : 3 * k + 3 ≤ n) (H : LI k c x u S) (hS : c en_S = .inl (0, n, .inl f)) (IH : ∀ c' x' u' S', LI (k + 1) c' x' u' S' → c' en_S = .inl (0, n, .inl f) → en_W (en_call 8) 117 517 [some (.ref en_S), some (.ref 0), some (.ref 29), some (.int (nI (3 * k)))] [] c' x' u' lw_K) : en_W (en_call 8) 117 405 [some (.ref en_S), some (.ref 0), some (.ref 29), some (.int (nI (3 * k)))] [] c x u lw_K := by
  obtain ⟨hw, o0⟩ := LI_w H
  obtain ⟨-, -, hx⟩ := LI_b H
  obtain ⟨c1, x1, u1, c2, K1, ⟨fs, o29⟩, hx1, K2, H2⟩ := LI_nx (y := mP_at) (y2 := mM_at) (As := [.ref 0, .int (f (3 * k + 1)), .int (f (3 * k + 2))]) (As2 := [.ref 29, .int (f (3 * k + 1)), .int (f (3 * k + 2))]) (v := (sp_get (f (3 * k + 1)) (f (3 * k + 2)) S)) (S1 := S) H (fun ci N r h hN => cP_at h) (fun c1 x1 u1 g AP ms h q => cM_at h q) (hw)
  have hb := (LI_b H2).1
  have hSv : en_S = 1000000000 := rfl
  have s1 : c1 en_S = .inl (0, n, .inl f) := ((en_call_up K1).2.2 en_S (by omega)).trans hS
  have s2 : c2 en_S = .inl (0, n, .inl f) := ((en_call_up K2).2.2 en_S (by omega)).trans s1
  have x0 : 0 < x := by omega
  have x29 : 29 < x1 := by omega
  have i1 : vp_in (nI (3 * k + 1)) n := vp_in_nI (by omega) (by omega)
  have i2 : (nI (3 * k + 1)).toNatClampNeg = 3 * k + 1 := nI_clamp (by omega)
  have i3 : vp_in (nI (3 * k + 2)) n := vp_in_nI (by omega) (by omega)
  have i4 : (nI (3 * k + 2)).toNatClampNeg = 3 * k + 2 := nI_clamp (by omega)
  have i5 : nI (3 * k) + 2 = nI (3 * k + 2) := nI_add (3 * k) 2
  simp only [sL_law_405, sL_law_406, sL_law_407, sL_law_408, sL_law_409, sL_law_410, sL_law_411, sL_law_412, sL_law_413, sL_law_414, sL_law_415, sL_law_416, sL_law_419, sL_law_420, sL_law_421, sL_law_422, sL_law_423, sL_law_424, sL_law_425, sL_law_426, sL_law_427, sL_law_428, sL_law_429, sL_law_430, sL_law_433, sL_law_436, sL_law_437, hS, o0, x0, rd_S, i1, i2, i3, i4, i5, en_rdO_eq, en_rdI_eq, en_rdN_eq, en_rdL_eq, true_and, and_true, List.getElem?_cons_succ, List.getElem?_cons_zero, en_gv_eq, if_true, if_false, and_self, or_true, true_or, implies_true, List.length_cons, List.length_nil, Nat.reduceLT, Nat.reduceLeDiff, Nat.reduceAdd, Nat.zero_le, Option.toList_some, Option.toList_none, List.cons_append, List.nil_append, nI_1, rd_t, n1_0, n0_1, Bool.false_eq_true, false_implies, reduceCtorEq]
  refine en_use (by decide) K1 ?_
  simp only [sL_law_405, sL_law_406, sL_law_407, sL_law_408, sL_law_409, sL_law_410, sL_law_411, sL_law_412, sL_law_413, sL_law_414, sL_law_415, sL_law_416, sL_law_419, sL_law_420, sL_law_421, sL_law_422, sL_law_423, sL_law_424, sL_law_425, sL_law_426, sL_law_427, sL_law_428, sL_law_429, sL_law_430, sL_law_433, sL_law_436, sL_law_437, s1, o29, x29, rd_S, i1, i2, i3, i4, i5, en_rdO_eq, en_rdI_eq, en_rdN_eq, en_rdL_eq, true_and, and_true, List.getElem?_cons_succ, List.getElem?_cons_zero, en_gv_eq, if_true, if_false, and_self, or_true, true_or, implies_true, List.length_cons, List.length_nil, Nat.reduceLT, Nat.reduceLeDiff, Nat.reduceAdd, Nat.zero_le, Option.toList_some, Option.toList_none, List.cons_append, List.nil_append, nI_1, rd_t, n1_0, n0_1, Bool.false_eq_true, false_implies, reduceCtorEq]
  refine en_use (by decide) K2 ?_
  simp only [sL_law_405, sL_law_406, sL_law_407, sL_law_408, sL_law_409, sL_law_410, sL_law_411, sL_law_412, sL_law_413, sL_law_414, sL_law_415, sL_law_416, sL_law_419, sL_law_420, sL_law_421, sL_law_422, sL_law_423, sL_law_424, sL_law_425, sL_law_426, sL_law_427, sL_law_428, sL_law_429, sL_law_430, sL_law_433, sL_law_436, sL_law_437, en_rdO_eq, en_rdI_eq, en_rdN_eq, en_rdL_eq, true_and, and_true, List.getElem?_cons_succ, List.getElem?_cons_zero, en_gv_eq, if_true, if_false, and_self, or_true, true_or, implies_true, List.length_cons, List.length_nil, Nat.reduceLT, Nat.reduceLeDiff, Nat.reduceAdd, Nat.zero_le, Option.toList_some, Option.toList_none, List.cons_append, List.nil_append, nI_1, rd_t, n1_0, n0_1, Bool.false_eq_true, false_implies, reduceCtorEq]
  exact IH c2 x1 u1 _ H2 s2
theorem lw_c14 (hn : n ≤ 1536) (hk : 3 * k + 3 ≤ n) (H : LI k c x u S) (hS : c en_S = .inl (0, n, .inl f)) (IH : ∀ c' x' u' S', LI (k + 1) c' x' u' S' → c' en_S = .inl (0, n, .inl f) → en_W (en_call 8) 117 517 [some (.ref en_S), some (.ref 0), some (.ref 29), some (.int (nI (3 * k)))] [] c' x' u' lw_K) : en_W (en_call 8) 117 438 [some (.ref en_S), some (.ref 0), some (.ref 29), some (.int (nI (3 * k)))] [] c x u lw_K := by
  obtain ⟨hw, o0⟩ := LI_w H
  obtain ⟨-, -, hx⟩ := LI_b H
  obtain ⟨c1, x1, u1, c2, K1, ⟨fs, o29⟩, hx1, K2, H2⟩ := LI_nx (y := mP_told) (y2 := mM_told) (As := [.ref 0, .int (f (3 * k + 1)), .int (f (3 * k + 2))]) (As2 := [.ref 29, .int (f (3 * k + 1)), .int (f (3 * k + 2))]) (v := (sp_told (f (3 * k + 1)) (f (3 * k + 2)) S)) (S1 := S) H (fun ci N r h hN => cP_told h) (fun c1 x1 u1 g AP ms h q => cM_told h q) (hw)
  have hb := (LI_b H2).1
  have hSv : en_S = 1000000000 := rfl
  have s1 : c1 en_S = .inl (0, n, .inl f) := ((en_call_up K1).2.2 en_S (by omega)).trans hS
  have s2 : c2 en_S = .inl (0, n, .inl f) := ((en_call_up K2).2.2 en_S (by omega)).trans s1
  have x0 : 0 < x := by omega
  have x29 : 29 < x1 := by omega
  have i1 : vp_in (nI (3 * k + 1)) n := vp_in_nI (by omega) (by omega)
  have i2 : (nI (3 * k + 1)).toNatClampNeg = 3 * k + 1 := nI_clamp (by omega)
  have i3 : vp_in (nI (3 * k + 2)) n := vp_in_nI (by omega) (by omega)
  have i4 : (nI (3 * k + 2)).toNatClampNeg = 3 * k + 2 := nI_clamp (by omega)
  have i5 : nI (3 * k) + 2 = nI (3 * k + 2) := nI_add (3 * k) 2
  simp only [sL_law_438, sL_law_439, sL_law_440, sL_law_441, sL_law_442, sL_law_443, sL_law_444, sL_law_445, sL_law_446, sL_law_447, sL_law_448, sL_law_449, sL_law_452, sL_law_453, sL_law_454, sL_law_455, sL_law_456, sL_law_457, sL_law_458, sL_law_459, sL_law_460, sL_law_461, sL_law_462, sL_law_463, sL_law_466, sL_law_469, sL_law_470, hS, o0, x0, rd_S, i1, i2, i3, i4, i5, en_rdO_eq, en_rdI_eq, en_rdN_eq, en_rdL_eq, true_and, and_true, List.getElem?_cons_succ, List.getElem?_cons_zero, en_gv_eq, if_true, if_false, and_self, or_true, true_or, implies_true, List.length_cons, List.length_nil, Nat.reduceLT, Nat.reduceLeDiff, Nat.reduceAdd, Nat.zero_le, Option.toList_some, Option.toList_none, List.cons_append, List.nil_append, nI_1, rd_t, n1_0, n0_1, Bool.false_eq_true, false_implies, reduceCtorEq]
  refine en_use (by decide) K1 ?_
  simp only [sL_law_438, sL_law_439, sL_law_440, sL_law_441, sL_law_442, sL_law_443, sL_law_444, sL_law_445, sL_law_446, sL_law_447, sL_law_448, sL_law_449, sL_law_452, sL_law_453, sL_law_454, sL_law_455, sL_law_456, sL_law_457, sL_law_458, sL_law_459, sL_law_460, sL_law_461, sL_law_462, sL_law_463, sL_law_466, sL_law_469, sL_law_470, s1, o29, x29, rd_S, i1, i2, i3, i4, i5, en_rdO_eq, en_rdI_eq, en_rdN_eq, en_rdL_eq, true_and, and_true, List.getElem?_cons_succ, List.getElem?_cons_zero, en_gv_eq, if_true, if_false, and_self, or_true, true_or, implies_true, List.length_cons, List.length_nil, Nat.reduceLT, Nat.reduceLeDiff, Nat.reduceAdd, Nat.zero_le, Option.toList_some, Option.toList_none, List.cons_append, List.nil_append, nI_1, rd_t, n1_0, n0_1, Bool.false_eq_true, false_implies, reduceCtorEq]
  refine en_use (by decide) K2 ?_
  simp only [sL_law_438, sL_law_439, sL_law_440, sL_law_441, sL_law_442, sL_law_443, sL_law_444, sL_law_445, sL_law_446, sL_law_447, sL_law_448, sL_law_449, sL_law_452, sL_law_453, sL_law_454, sL_law_455, sL_law_456, sL_law_457, sL_law_458, sL_law_459, sL_law_460, sL_law_461, sL_law_462, sL_law_463, sL_law_466, sL_law_469, sL_law_470, en_rdO_eq, en_rdI_eq, en_rdN_eq, en_rdL_eq, true_and, and_true, List.getElem?_cons_succ, List.getElem?_cons_zero, en_gv_eq, if_true, if_false, and_self, or_true, true_or, implies_true, List.length_cons, List.length_nil, Nat.reduceLT, Nat.reduceLeDiff, Nat.reduceAdd, Nat.zero_le, Option.toList_some, Option.toList_none, List.cons_append, List.nil_append, nI_1, rd_t, n1_0, n0_1, Bool.false_eq_true, false_implies, reduceCtorEq]
  exact IH c2 x1 u1 _ H2 s2
theorem lw_c15 (hn : n ≤ 1536) (hk : 3 * k + 3 ≤ n) (H : LI k c x u S) (hS : c en_S = .inl (0, n, .inl f)) (IH : ∀ c' x' u' S', LI (k + 1) c' x' u' S' → c' en_S = .inl (0, n, .inl f) → en_W (en_call 8) 117 517 [some (.ref en_S), some (.ref 0), some (.ref 29), some (.int (nI (3 * k)))] [] c' x' u' lw_K) : en_W (en_call 8) 117 471 [some (.ref en_S), some (.ref 0), some (.ref 29), some (.int (nI (3 * k)))] [] c x u lw_K := by
  obtain ⟨hw, o0⟩ := LI_w H
  obtain ⟨-, -, hx⟩ := LI_b H
  obtain ⟨c1, x1, u1, c2, K1, ⟨fs, o29⟩, hx1, K2, H2⟩ := LI_nx (y := mP_is) (y2 := mM_is) (As := [.ref 0, .int (f (3 * k + 1)), .int (f (3 * k + 2))]) (As2 := [.ref 29, .int (f (3 * k + 1)), .int (f (3 * k + 2))]) (v := (sp_is (f (3 * k + 1)) (f (3 * k + 2)) S)) (S1 := S) H (fun ci N r h hN => cP_is h) (fun c1 x1 u1 g AP ms h q => cM_is h q) (hw)
  have hb := (LI_b H2).1
  have hSv : en_S = 1000000000 := rfl
  have s1 : c1 en_S = .inl (0, n, .inl f) := ((en_call_up K1).2.2 en_S (by omega)).trans hS
  have s2 : c2 en_S = .inl (0, n, .inl f) := ((en_call_up K2).2.2 en_S (by omega)).trans s1
  have x0 : 0 < x := by omega
  have x29 : 29 < x1 := by omega
  have i1 : vp_in (nI (3 * k + 1)) n := vp_in_nI (by omega) (by omega)
  have i2 : (nI (3 * k + 1)).toNatClampNeg = 3 * k + 1 := nI_clamp (by omega)
  have i3 : vp_in (nI (3 * k + 2)) n := vp_in_nI (by omega) (by omega)
  have i4 : (nI (3 * k + 2)).toNatClampNeg = 3 * k + 2 := nI_clamp (by omega)
  have i5 : nI (3 * k) + 2 = nI (3 * k + 2) := nI_add (3 * k) 2
  simp only [sL_law_471, sL_law_472, sL_law_473, sL_law_474, sL_law_475, sL_law_476, sL_law_477, sL_law_478, sL_law_479, sL_law_480, sL_law_481, sL_law_482, sL_law_485, sL_law_486, sL_law_487, sL_law_488, sL_law_489, sL_law_490, sL_law_491, sL_law_492, sL_law_493, sL_law_494, sL_law_495, sL_law_496, sL_law_499, sL_law_502, sL_law_503, hS, o0, x0, rd_S, i1, i2, i3, i4, i5, en_rdO_eq, en_rdI_eq, en_rdN_eq, en_rdL_eq, true_and, and_true, List.getElem?_cons_succ, List.getElem?_cons_zero, en_gv_eq, if_true, if_false, and_self, or_true, true_or, implies_true, List.length_cons, List.length_nil, Nat.reduceLT, Nat.reduceLeDiff, Nat.reduceAdd, Nat.zero_le, Option.toList_some, Option.toList_none, List.cons_append, List.nil_append, nI_1, rd_t, n1_0, n0_1, Bool.false_eq_true, false_implies, reduceCtorEq]
  refine en_use (by decide) K1 ?_
  simp only [sL_law_471, sL_law_472, sL_law_473, sL_law_474, sL_law_475, sL_law_476, sL_law_477, sL_law_478, sL_law_479, sL_law_480, sL_law_481, sL_law_482, sL_law_485, sL_law_486, sL_law_487, sL_law_488, sL_law_489, sL_law_490, sL_law_491, sL_law_492, sL_law_493, sL_law_494, sL_law_495, sL_law_496, sL_law_499, sL_law_502, sL_law_503, s1, o29, x29, rd_S, i1, i2, i3, i4, i5, en_rdO_eq, en_rdI_eq, en_rdN_eq, en_rdL_eq, true_and, and_true, List.getElem?_cons_succ, List.getElem?_cons_zero, en_gv_eq, if_true, if_false, and_self, or_true, true_or, implies_true, List.length_cons, List.length_nil, Nat.reduceLT, Nat.reduceLeDiff, Nat.reduceAdd, Nat.zero_le, Option.toList_some, Option.toList_none, List.cons_append, List.nil_append, nI_1, rd_t, n1_0, n0_1, Bool.false_eq_true, false_implies, reduceCtorEq]
  refine en_use (by decide) K2 ?_
  simp only [sL_law_471, sL_law_472, sL_law_473, sL_law_474, sL_law_475, sL_law_476, sL_law_477, sL_law_478, sL_law_479, sL_law_480, sL_law_481, sL_law_482, sL_law_485, sL_law_486, sL_law_487, sL_law_488, sL_law_489, sL_law_490, sL_law_491, sL_law_492, sL_law_493, sL_law_494, sL_law_495, sL_law_496, sL_law_499, sL_law_502, sL_law_503, en_rdO_eq, en_rdI_eq, en_rdN_eq, en_rdL_eq, true_and, and_true, List.getElem?_cons_succ, List.getElem?_cons_zero, en_gv_eq, if_true, if_false, and_self, or_true, true_or, implies_true, List.length_cons, List.length_nil, Nat.reduceLT, Nat.reduceLeDiff, Nat.reduceAdd, Nat.zero_le, Option.toList_some, Option.toList_none, List.cons_append, List.nil_append, nI_1, rd_t, n1_0, n0_1, Bool.false_eq_true, false_implies, reduceCtorEq]
  exact IH c2 x1 u1 _ H2 s2
theorem lw_c16 (hn : n ≤ 1536) (hk : 3 * k + 3 ≤ n) (H : LI k c x u S) (hS : c en_S = .inl (0, n, .inl f)) (IH : ∀ c' x' u' S', LI (k + 1) c' x' u' S' → c' en_S = .inl (0, n, .inl f) → en_W (en_call 8) 117 517 [some (.ref en_S), some (.ref 0), some (.ref 29), some (.int (nI (3 * k)))] [] c' x' u' lw_K) : en_W (en_call 8) 117 504 [some (.ref en_S), some (.ref 0), some (.ref 29), some (.int (nI (3 * k)))] [] c x u lw_K := by
  obtain ⟨hw, o0⟩ := LI_w H
  obtain ⟨-, -, hx⟩ := LI_b H
  obtain ⟨c1, x1, u1, c2, K1, ⟨fs, o29⟩, hx1, K2, H2⟩ := LI_nx (y := mP_check) (y2 := mM_check) (As := [.ref 0]) (As2 := [.ref 29]) (v := 1) (S1 := S) H (fun ci N r h hN => cP_check h) (fun c1 x1 u1 g AP ms h q => cM_check h q) (hw)
  have hb := (LI_b H2).1
  have hSv : en_S = 1000000000 := rfl
  have s1 : c1 en_S = .inl (0, n, .inl f) := ((en_call_up K1).2.2 en_S (by omega)).trans hS
  have s2 : c2 en_S = .inl (0, n, .inl f) := ((en_call_up K2).2.2 en_S (by omega)).trans s1
  have x0 : 0 < x := by omega
  have x29 : 29 < x1 := by omega
  have i1 : vp_in (nI (3 * k + 1)) n := vp_in_nI (by omega) (by omega)
  have i2 : (nI (3 * k + 1)).toNatClampNeg = 3 * k + 1 := nI_clamp (by omega)
  have i3 : vp_in (nI (3 * k + 2)) n := vp_in_nI (by omega) (by omega)
  have i4 : (nI (3 * k + 2)).toNatClampNeg = 3 * k + 2 := nI_clamp (by omega)
  have i5 : nI (3 * k) + 2 = nI (3 * k + 2) := nI_add (3 * k) 2
  simp only [sL_law_504, sL_law_505, sL_law_508, sL_law_509, sL_law_512, sL_law_515, sL_law_516, hS, o0, x0, rd_S, i1, i2, i3, i4, i5, en_rdO_eq, en_rdI_eq, en_rdN_eq, en_rdL_eq, true_and, and_true, List.getElem?_cons_succ, List.getElem?_cons_zero, en_gv_eq, if_true, if_false, and_self, or_true, true_or, implies_true, List.length_cons, List.length_nil, Nat.reduceLT, Nat.reduceLeDiff, Nat.reduceAdd, Nat.zero_le, Option.toList_some, Option.toList_none, List.cons_append, List.nil_append, nI_1, rd_t, n1_0, n0_1, Bool.false_eq_true, false_implies, reduceCtorEq]
  refine en_use (by decide) K1 ?_
  simp only [sL_law_504, sL_law_505, sL_law_508, sL_law_509, sL_law_512, sL_law_515, sL_law_516, s1, o29, x29, rd_S, i1, i2, i3, i4, i5, en_rdO_eq, en_rdI_eq, en_rdN_eq, en_rdL_eq, true_and, and_true, List.getElem?_cons_succ, List.getElem?_cons_zero, en_gv_eq, if_true, if_false, and_self, or_true, true_or, implies_true, List.length_cons, List.length_nil, Nat.reduceLT, Nat.reduceLeDiff, Nat.reduceAdd, Nat.zero_le, Option.toList_some, Option.toList_none, List.cons_append, List.nil_append, nI_1, rd_t, n1_0, n0_1, Bool.false_eq_true, false_implies, reduceCtorEq]
  refine en_use (by decide) K2 ?_
  simp only [sL_law_504, sL_law_505, sL_law_508, sL_law_509, sL_law_512, sL_law_515, sL_law_516, en_rdO_eq, en_rdI_eq, en_rdN_eq, en_rdL_eq, true_and, and_true, List.getElem?_cons_succ, List.getElem?_cons_zero, en_gv_eq, if_true, if_false, and_self, or_true, true_or, implies_true, List.length_cons, List.length_nil, Nat.reduceLT, Nat.reduceLeDiff, Nat.reduceAdd, Nat.zero_le, Option.toList_some, Option.toList_none, List.cons_append, List.nil_append, nI_1, rd_t, n1_0, n0_1, Bool.false_eq_true, false_implies, reduceCtorEq]
  exact IH c2 x1 u1 _ H2 s2
theorem sub3 {n k : Nat} (hn : n ≤ 1536) (hk : 3 * k ≤ n) : (nI n - 3 < nI (3 * k)) = (n < 3 * k + 3) := by
  apply propext
  by_cases h : 3 ≤ n
  · obtain ⟨q, rfl⟩ : ∃ q, n = q + 3 := ⟨n - 3, by omega⟩
    have e : nI (q + 3) - 3 = nI q := by
      rw [← nI_add]
      exact Int32.add_sub_cancel _ _
    rw [e, nI_ltI (by omega) (by omega)]
    omega
  · have h0 : k = 0 := by omega
    subst h0
    have : n = 0 ∨ n = 1 ∨ n = 2 := by omega
    rcases this with rfl | rfl | rfl <;> decide
theorem law_loop (hn : n ≤ 1536) : ∀ (m k : Nat) (c : en_H) (x u : Nat) (S : sp_S), n ≤ 3 * k + m → 3 * k ≤ n → LI k c x u S → c en_S = .inl (0, n, .inl f) → en_W (en_call 8) 117 18 [some (.ref en_S), some (.ref 0), some (.ref 29), some (.int (nI (3 * k)))] [] c x u lw_K := by
  have fin : ∀ (k : Nat) (c : en_H) (x u : Nat) (S : sp_S), n < 3 * k + 3 → 3 * k ≤ n → LI k c x u S → c en_S = .inl (0, n, .inl f) → en_W (en_call 8) 117 18 [some (.ref en_S), some (.ref 0), some (.ref 29), some (.int (nI (3 * k)))] [] c x u lw_K := by
    intro k c x u S h1 h2 H hS
    obtain ⟨b1, b2, -⟩ := LI_b H
    have q1 : (Int32.ofNat n - 3 < nI (3 * k)) = True := (sub3 hn h2).trans (eq_true h1)
    rw [sL_law_18]
    simp only [sL_law_19, sL_law_20, sL_law_21, sL_law_22, sL_law_23, sL_law_523, sL_law_524, hS, rd_S, q1, Nat.reduceLT, en_rdO_eq, en_rdI_eq, en_rdN_eq, en_rdL_eq, true_and, and_true, List.getElem?_cons_succ, List.getElem?_cons_zero, en_gv_eq, if_true, if_false, and_self, or_true, true_or, implies_true, List.length_cons, List.length_nil, Nat.reduceLT, Nat.reduceLeDiff, Nat.reduceAdd, Nat.zero_le, Option.toList_some, Option.toList_none, List.cons_append, List.nil_append, nI_1, rd_t, n1_0, n0_1, Bool.false_eq_true, false_implies, reduceCtorEq]
    exact ⟨rfl, b1, b2⟩
  intro m
  induction m with
  | zero =>
    intro k c x u S h1 h2 H hS
    exact fin k c x u S (by omega) h2 H hS
  | succ m ih =>
    intro k c x u S h1 h2 H hS
    by_cases hlt : n < 3 * k + 3
    · exact fin k c x u S hlt h2 H hS
    · have hk : 3 * k + 3 ≤ n := by omega
      have q1 : (Int32.ofNat n - 3 < nI (3 * k)) = False := (sub3 hn h2).trans (eq_false hlt)
      have i1 : vp_in (nI (3 * k)) n := vp_in_nI (by omega) (by omega)
      have i2 : (nI (3 * k)).toNatClampNeg = 3 * k := nI_clamp (by omega)
      have i3 : nI (3 * k) + 3 = nI (3 * (k + 1)) := nI_add (3 * k) 3
      have nx : ∀ c' x' u' S', LI (k + 1) c' x' u' S' → c' en_S = .inl (0, n, .inl f) → en_W (en_call 8) 117 517 [some (.ref en_S), some (.ref 0), some (.ref 29), some (.int (nI (3 * k)))] [] c' x' u' lw_K := by
        intro c' x' u' S' H' hS'
        have I := ih (k + 1) c' x' u' S' (by omega) (by omega) H' hS'
        rw [sL_law_517]
        simp only [sL_law_520, i3]
        exact I
      obtain ⟨j, hj, e⟩ := pk_andE (f (3 * k)) (m := nI 31) 5 (by decide)
      have hj : j < 32 := hj
      rw [sL_law_18]
      simp only [sL_law_19, sL_law_20, sL_law_21, sL_law_22, sL_law_23, sL_law_26, sL_law_27, sL_law_28, sL_law_29, sL_law_31, hS, rd_S, q1, i1, i2, e, Nat.reduceLT, en_rdO_eq, en_rdI_eq, en_rdN_eq, en_rdL_eq, true_and, and_true, List.getElem?_cons_succ, List.getElem?_cons_zero, en_gv_eq, if_true, if_false, and_self, or_true, true_or, implies_true, List.length_cons, List.length_nil, Nat.reduceLT, Nat.reduceLeDiff, Nat.reduceAdd, Nat.zero_le, Option.toList_some, Option.toList_none, List.cons_append, List.nil_append, nI_1, rd_t, n1_0, n0_1, Bool.false_eq_true, false_implies, reduceCtorEq]
      by_cases h16 : 16 < j
      · have hz : (nI j).toInt = j := nI_toInt (by omega)
        rw [sL_law_32_d (Or.inr (by rw [hz]; omega))]
        exact nx c x u S (by
          obtain ⟨ci, N, r, g, AP, ms, h1, h2, h3, h4⟩ := H
          exact ⟨ci, N, r, g, AP, ms, h1, h2, by omega, h4⟩) hS
      · have : j = 0 ∨ j = 1 ∨ j = 2 ∨ j = 3 ∨ j = 4 ∨ j = 5 ∨ j = 6 ∨ j = 7 ∨ j = 8 ∨ j = 9 ∨ j = 10 ∨ j = 11 ∨ j = 12 ∨ j = 13 ∨ j = 14 ∨ j = 15 ∨ j = 16 := by omega
        rcases this with rfl | rfl | rfl | rfl | rfl | rfl | rfl | rfl | rfl | rfl | rfl | rfl | rfl | rfl | rfl | rfl | rfl
        · rw [sL_law_32_n0]
          exact lw_c0 hn hk H hS nx
        · rw [sL_law_32_n1]
          exact lw_c1 hn hk H hS nx
        · rw [sL_law_32_n2]
          exact lw_c2 hn hk H hS nx
        · rw [sL_law_32_n3]
          exact lw_c3 hn hk H hS nx
        · rw [sL_law_32_n4]
          exact lw_c4 hn hk H hS nx
        · rw [sL_law_32_n5]
          exact lw_c5 hn hk H hS nx
        · rw [sL_law_32_n6]
          exact lw_c6 hn hk H hS nx
        · rw [sL_law_32_n7]
          exact lw_c7 hn hk H hS nx
        · rw [sL_law_32_n8]
          exact lw_c8 hn hk H hS nx
        · rw [sL_law_32_n9]
          exact lw_c9 hn hk H hS nx
        · rw [sL_law_32_n10]
          exact lw_c10 hn hk H hS nx
        · rw [sL_law_32_n11]
          exact lw_c11 hn hk H hS nx
        · rw [sL_law_32_n12]
          exact lw_c12 hn hk H hS nx
        · rw [sL_law_32_n13]
          exact lw_c13 hn hk H hS nx
        · rw [sL_law_32_n14]
          exact lw_c14 hn hk H hS nx
        · rw [sL_law_32_n15]
          exact lw_c15 hn hk H hS nx
        · rw [sL_law_32_n16]
          exact lw_c16 hn hk H hS nx
end LW
