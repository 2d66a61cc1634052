/-! the open statement changes; growth -/
def sN (N : Nat → Nat) : Nat := N 5 + N 8 + N 11 + N 16 + N 19 + N 24
def nb (N : Nat → Nat) : Prop := N 5 ≤ 200000 ∧ N 8 ≤ 200000 ∧ N 11 ≤ 300000 ∧ N 16 ≤ 100000 ∧ N 19 ≤ 100000 ∧ N 24 ≤ 100000
def cg (N N' : Nat → Nat) (x x' u u' : Nat) : Prop := (nb N → nb N') ∧ x ≤ x' ∧ u ≤ u' ∧ u' + 2 * sN N ≤ u + 2 * sN N' ∧ 64 * x' + sN N ≤ 64 * x + sN N' ∧ N' 0 = N 0
theorem cg_rf {N : Nat → Nat} {x u : Nat} : cg N N x x u u := ⟨fun h => h, Nat.le_refl _, Nat.le_refl _, Nat.le_refl _, Nat.le_refl _, rfl⟩
theorem cg_tr {N N' N2 : Nat → Nat} {x x' x2 u u' u2 : Nat} (h : cg N N' x x' u u') (k : cg N' N2 x' x2 u' u2) : cg N N2 x x2 u u2 := ⟨fun q => k.1 (h.1 q), Nat.le_trans h.2.1 k.2.1, Nat.le_trans h.2.2.1 k.2.2.1, by have := h.2.2.2.1; have := k.2.2.2.1; omega, by have := h.2.2.2.2.1; have := k.2.2.2.2.1; omega, k.2.2.2.2.2.trans h.2.2.2.2.2⟩
def nbk (k : Nat) : Nat := if k = 11 then 300000 else if k = 5 ∨ k = 8 then 200000 else 100000
theorem cg_rows {N : Nat → Nat} {k N' x x' u u' : Nat} (hk : k ∈ ck) (h : rw_gr (N k) N' x x' u u') (hb : N' = N k ∨ N' ≤ nbk k) : cg N (r_setN N k N') x x' u u' := by
  obtain ⟨h1, h2, h3, h4, h5⟩ := h
  refine ⟨fun q => ?_, h2, h3, ?_, ?_, if_neg (by have := ck_or hk; omega)⟩
  · unfold nb at q ⊢
    rcases ck_or hk with rfl | rfl | rfl | rfl | rfl | rfl <;> simp [r_setN, va_up, nbk] at hb ⊢ <;> omega
  · unfold sN
    rcases ck_or hk with rfl | rfl | rfl | rfl | rfl | rfl <;> simp [r_setN, va_up] <;> omega
  · unfold sN
    rcases ck_or hk with rfl | rfl | rfl | rfl | rfl | rfl <;> simp [r_setN, va_up] <;> omega
theorem fl_le {α : Type} (f : α → List Nat) (b : Nat) : ∀ (l : List α), (∀ a ∈ l, (f a).length ≤ b) → (l.map f).flatten.length ≤ b * l.length := by
  intro l
  induction l with
  | nil => intro _; exact Nat.zero_le _
  | cons a l ih =>
    intro h
    have h1 := h a List.mem_cons_self
    have h2 := ih (fun q hq => h q (List.mem_cons_of_mem _ hq))
    simp only [List.map_cons, List.flatten_cons, List.length_append, List.length_cons, Nat.mul_add, Nat.mul_one]
    omega
section TE
variable {S : sp_S} {t : sp_T}
theorem la_split (h : 0 < S.2.1.length) : S.2.1 = S.2.1.dropLast ++ [sp_at S (sp_la S)] := by
  have hne : S.2.1 ≠ [] := fun e => by rw [e] at h; exact absurd h (Nat.lt_irrefl 0)
  have e1 := List.dropLast_concat_getLast hne
  have e2 : S.2.1.getLast hne = sp_at S (sp_la S) := by
    unfold sp_at sp_la
    rw [List.getLast_eq_getElem, List.getD_eq_getElem?_getD, List.getElem?_eq_getElem (by omega)]
    rfl
  rw [e2] at e1
  exact e1.symm
theorem put1_len (h : 0 < S.2.1.length) : (sp_put1 S t).2.1.length = S.2.1.length := by
  show (S.2.1.dropLast ++ [t]).length = _
  rw [List.length_append, List.length_dropLast]
  simp
  omega
theorem put1_la (h : 0 < S.2.1.length) : sp_la (sp_put1 S t) = sp_la S := by unfold sp_la; rw [put1_len h]
theorem put1_at (h : 0 < S.2.1.length) (i : Nat) : sp_at (sp_put1 S t) i = if i = sp_la S then t else sp_at S i := by
  have hd : S.2.1.dropLast.length = sp_la S := by rw [List.length_dropLast]; rfl
  unfold sp_at
  show (S.2.1.dropLast ++ [t]).getD i sp_t0 = _
  by_cases e : i = sp_la S
  · rw [if_pos e, List.getD_eq_getElem?_getD, List.getElem?_append_right (by omega), hd, e, Nat.sub_self]
    rfl
  · rw [if_neg e]
    by_cases hl : i < sp_la S
    · conv => rhs; rw [la_split h]
      rw [List.getD_eq_getElem?_getD, List.getD_eq_getElem?_getD, List.getElem?_append_left (by omega), List.getElem?_append_left (by omega)]
    · have hla : sp_la S = S.2.1.length - 1 := rfl
      rw [List.getD_eq_getElem?_getD, List.getD_eq_getElem?_getD, List.getElem?_eq_none (by rw [List.length_append]; simp; omega), List.getElem?_eq_none (by omega)]
theorem put1_map {α : Type} (f : sp_T → α) (h : 0 < S.2.1.length) : (sp_put1 S t).2.1.map f = S.2.1.dropLast.map f ++ [f t] ∧ S.2.1.map f = S.2.1.dropLast.map f ++ [f (sp_at S (sp_la S))] := by
  constructor
  · show (S.2.1.dropLast ++ [t]).map f = _
    rw [List.map_append]; rfl
  · conv => lhs; rw [la_split h]
    rw [List.map_append]; rfl
/-- the floating ones among hypotheses that aren't the last statement -/
theorem put1_fl (h : 0 < S.2.1.length) {hs : List Nat} (hlt : ∀ q ∈ hs, q < sp_la S) (v : Nat) : sp_fl (sp_put1 S t) hs v = sp_fl S hs v := by
  have e : ∀ q, q < sp_la S → sp_kd (sp_put1 S t) q = sp_kd S q ∧ sp_tx (sp_put1 S t) q = sp_tx S q := by
    intro q hq
    unfold sp_kd sp_tx
    rw [put1_at h, if_neg (by omega)]
    exact ⟨rfl, rfl⟩
  unfold sp_fl
  induction hs with
  | nil => rfl
  | cons q hs ih =>
    rw [List.any_cons, List.any_cons, ih (fun z hz => hlt z (List.mem_cons_of_mem _ hz)), (e q (hlt q List.mem_cons_self)).1, (e q (hlt q List.mem_cons_self)).2]
theorem mem_getD {l : List Nat} {q : Nat} (h : q ∈ l) : ∃ k, k < l.length ∧ l.getD k 0 = q := by
  obtain ⟨k, hk, e⟩ := List.mem_iff_getElem.mp h
  exact ⟨k, hk, by rw [List.getD_eq_getElem?_getD, List.getElem?_eq_getElem hk]; exact e⟩
theorem nd_mem (hw : sp_wf S) {i : Nat} (hi : i < S.2.1.length) : ∀ q ∈ sp_nd S i, q < i := by
  intro q hq
  obtain ⟨k, hk, rfl⟩ := mem_getD hq
  exact ((hw.2.2.2.1 i hi).2.2.2.2.2.2.2.1 k hk).1
theorem cS_upd {r r' : cr_T} (h : cS r S) (hpos : 0 < S.2.1.length) (ho : S.2.2.1 = true) (hkd : t.1 = sp_kd S (sp_la S)) (h5 : r_R r' 5 = S.2.1.dropLast.map (fun t => t.2.1) ++ [t.2.1]) (h8 : r_R r' 8 = S.2.1.dropLast.map (fun t => t.2.2.1) ++ [t.2.2.1]) (h11 : r_R r' 11 = S.2.1.dropLast.map (fun t => pf t.2.2.2) ++ [pf t.2.2.2]) (h16 : r_R r' 16 = r_R r 16) (h19 : r_R r' 19 = r_R r 19) (hvs : r_vs r' = r_vs r ∧ r_ap r' = r_ap r) (hkf : r_kf r' = r_kf r) (hop : r_op r' = r_op r)
    (hff : ∀ v, v < S.1.length → S.1.getD v false = true → (r_ff r' v = nI (sp_la S) ↔ sp_fl (sp_put1 S t) t.2.2.1 v = true)) (hff2 : ∀ v, v < 1000 → r_ff r' v = -1 ∨ ∃ k, (k < S.2.1.length ∧ v < S.1.length) ∧ r_ff r' v = nI k) (hmk : r_mk r' = r_mk r ∧ r_sf r' = r_sf r) : cS r' (sp_put1 S t) := by
  obtain ⟨⟨a1, a2, a3, a4, a5⟩, ⟨b1, b2⟩, d1, d2, d3, d4, mk, m1, m2, m3⟩ := h
  have hla := put1_la (t := t) hpos
  have hat := put1_at (t := t) hpos
  refine ⟨⟨by rw [h5, (put1_map (fun t => t.2.1) hpos).1], by rw [h8, (put1_map (fun t => t.2.2.1) hpos).1], by rw [h11, (put1_map (fun t => pf t.2.2.2) hpos).1], h16.trans a4, h19.trans a5⟩, ⟨hvs.1.trans b1, hvs.2.trans b2⟩, fun i hi => ?_, ?_, fun _ v hv hvv => ?_, fun v hv => ?_, mk, m1, hmk.1.trans m2, fun v hv => by rw [hmk.2]; exact m3 v hv⟩
  · rw [put1_len hpos] at hi
    rw [hkf, d1 i hi]
    unfold sp_kd
    rw [hat]
    by_cases e : i = sp_la S
    · rw [if_pos e, hkd, e]; rfl
    · rw [if_neg e]
  · rw [hop, d2, hla]
    rfl
  · rw [hla]
    have : sp_nd (sp_put1 S t) (sp_la S) = t.2.2.1 := by unfold sp_nd; rw [hat, if_pos rfl]
    rw [this]
    exact hff v hv hvv
  · rw [put1_len hpos]
    exact hff2 v hv
end TE
def cOut (d y : Nat) (As : List Value) (c : en_H) (x u : Nat) (N : Nat → Nat) (v : Int32) (S' : sp_S) : Prop := ∃ c' x' u' ci' N' r', en_call d y As c x u (some (.int v)) c' x' u' ∧ cr_at c' x' ci' N' r' ∧ cS r' S' ∧ cs_fr c c' ∧ cg N N' x x' u u'
section TE2
variable {c : en_H} {x u : Nat} {ci N : Nat → Nat} {r : cr_T} {S : sp_S}
theorem cOut_same {d y : Nat} {As : List Value} {v : Int32} (H : CS c x ci N r S) (h : en_call d y As c x u (some (.int v)) c x u) : cOut d y As c x u N v S := ⟨c, x, u, ci, N, r, h, H.1, H.2.1, cs_rf, cg_rf⟩
theorem last_getD {α : Type} (f : sp_T → List Nat) (h : 0 < S.2.1.length) (l : List Nat) : (S.2.1.dropLast.map f ++ [l]).getD (sp_la S) [] = l ∧ sp_la S < (S.2.1.dropLast.map f ++ [l]).length := by
  have hd : (S.2.1.dropLast.map f).length = sp_la S := by rw [List.length_map, List.length_dropLast]; rfl
  constructor
  · rw [List.getD_eq_getElem?_getD, List.getElem?_append_right (by omega), hd, Nat.sub_self]
    rfl
  · rw [List.length_append, hd]; simp
theorem tot_tx (H : CS c x ci N r S) : (r_R r 5).flatten.length ≤ 90000 ∧ (r_R r 8).flatten.length ≤ 18000 ∧ (r_R r 11).flatten.length ≤ 120000 := by
  obtain ⟨-, ⟨⟨h1, h2, h3, -⟩, -⟩, hw⟩ := H
  have hn := hw.2.1
  have key : ∀ t ∈ S.2.1, t.2.1.length ≤ 300 ∧ t.2.2.1.length ≤ 60 ∧ (pf t.2.2.2).length ≤ 400 := by
    intro t ht
    obtain ⟨i, hi, e⟩ := List.mem_iff_getElem.mp ht
    have h := hw.2.2.2.1 i hi
    have e2 : sp_at S i = t := by unfold sp_at; rw [List.getD_eq_getElem?_getD, List.getElem?_eq_getElem hi]; exact e
    unfold sp_wfT sp_tx sp_nd sp_pr at h
    rw [e2] at h
    exact ⟨h.2.1, h.2.2.1, by rw [pf_len]; have := h.2.2.2.1; omega⟩
  rw [h1, h2, h3]
  have g1 := fl_le (fun t : sp_T => t.2.1) 300 S.2.1 (fun t ht => (key t ht).1)
  have g2 := fl_le (fun t : sp_T => t.2.2.1) 60 S.2.1 (fun t ht => (key t ht).2.1)
  have g3 := fl_le (fun t : sp_T => pf t.2.2.2) 400 S.2.1 (fun t ht => (key t ht).2.2)
  omega
theorem cT_addSymbol {ss : Int32} (H : CS c x ci N r S) : cOut 4 mT_addSymbol [.ref 4, .int ss] c x u N (sp_put ss S).1 (sp_put ss S).2 := by
  have H0 := H
  have hvs := H.2.2.1
  obtain ⟨o0, o1, o4, o5, o8, o11, o16, o19, o22, o24⟩ := cs_o H.1
  obtain ⟨w0, w1, w4, w5, w8, w11, w14, w15, w16, w19, w22, w23, w24, w27, w28⟩ := cs_b H.1.1
  obtain ⟨k14, k15, k23, k27, k28⟩ := H.1.2.2.2.1
  have enter : ∀ K, en_W (en_call 3) mT_addSymbol 0 [some (.ref 4), some (.int ss)] [] c x u K → en_W (en_call 3) mT_addSymbol 0 (en_lv0 mT_addSymbol [.ref 4, .int ss]) [] c x u K := fun K h => h
  have no : en_W (en_call 3) mT_addSymbol 0 [some (.ref 4), some (.int ss)] [] c x u (en_q (some (.int (-1))) c x u) → sp_put ss S = (-1, S) → cOut 4 mT_addSymbol [.ref 4, .int ss] c x u N (sp_put ss S).1 (sp_put ss S).2 := by
    intro h e
    rw [e]
    exact cOut_same H0 (en_call_is (by decide) (Nat.le_of_ble_eq_true rfl) cat_2 (enter _ h))
  cases ho : S.2.2.1 with
  | false =>
    have e1 := cs_nop H0 ho
    refine no ?_ (by unfold sp_put; rw [if_neg (fun q => by rw [ho] at q; cases q.1)])
    simp only [sT_addSymbol_0, sT_addSymbol_1, sT_addSymbol_4, sT_addSymbol_5, sT_addSymbol_8, sT_addSymbol_9, sT_addSymbol_12, sT_addSymbol_13, sT_addSymbol_16, sT_addSymbol_19, sT_addSymbol_20, sT_addSymbol_21, sT_addSymbol_24, sT_addSymbol_27, sT_addSymbol_28, sT_addSymbol_31, sT_addSymbol_32, sT_addSymbol_35, sT_addSymbol_38, sT_addSymbol_41, sT_addSymbol_44, sT_addSymbol_45, sT_addSymbol_46, sT_addSymbol_47, sT_addSymbol_50, sT_addSymbol_51, sT_addSymbol_54, sT_addSymbol_55, sT_addSymbol_58, sT_addSymbol_59, sT_addSymbol_62, sT_addSymbol_65, o0, o1, o4, o5, o8, o11, o16, o19, o22, o24, w0, w1, w4, w5, w8, w11, w14, w15, w16, w19, w22, w23, w24, w27, w28, k14, k15, k23, k27, k28, e1, nI_0, nI_one, nI_two, eq_self, en_rdO_eq, en_rdI_eq, en_rdN_eq, en_rdL_eq, true_and, and_true, List.getElem?_cons_succ, List.getElem?_cons_zero, en_gv_eq, if_true, if_false, and_self, or_true, true_or, implies_true, List.length_cons, List.length_nil, Nat.reduceLT, Nat.reduceLeDiff, Nat.reduceAdd, Nat.zero_le, Option.toList_some, Option.toList_none, List.cons_append, List.nil_append, nI_1, rd_t, n1_0, n0_1, Bool.false_eq_true, false_implies, reduceCtorEq, en_q]
  | true =>
    obtain ⟨h1, h2, h3⟩ := cs_la H0 ho
    have hne : (nI (sp_la S) = -1) = False := nI_ne_m1 (by omega)
    rcases sy_ix hvs ss with ⟨hout, -⟩ | ⟨s, hs, rfl, -⟩
    · have K1 := cY_has_out (u := u) (ss := ss) (cs_sy H0) hout
      refine no ?_ ?_
      · simp only [sT_addSymbol_0, sT_addSymbol_1, sT_addSymbol_4, sT_addSymbol_5, sT_addSymbol_8, sT_addSymbol_9, sT_addSymbol_12, sT_addSymbol_13, sT_addSymbol_16, sT_addSymbol_19, sT_addSymbol_20, sT_addSymbol_21, sT_addSymbol_24, sT_addSymbol_27, sT_addSymbol_28, sT_addSymbol_31, sT_addSymbol_32, sT_addSymbol_35, sT_addSymbol_38, sT_addSymbol_41, sT_addSymbol_44, sT_addSymbol_45, sT_addSymbol_46, sT_addSymbol_47, sT_addSymbol_50, sT_addSymbol_51, sT_addSymbol_54, sT_addSymbol_55, sT_addSymbol_58, sT_addSymbol_59, sT_addSymbol_62, sT_addSymbol_65, o0, o1, o4, o5, o8, o11, o16, o19, o22, o24, w0, w1, w4, w5, w8, w11, w14, w15, w16, w19, w22, w23, w24, w27, w28, k14, k15, k23, k27, k28, h3, hne, en_rdO_eq, en_rdI_eq, en_rdN_eq, en_rdL_eq, true_and, and_true, List.getElem?_cons_succ, List.getElem?_cons_zero, en_gv_eq, if_true, if_false, and_self, or_true, true_or, implies_true, List.length_cons, List.length_nil, Nat.reduceLT, Nat.reduceLeDiff, Nat.reduceAdd, Nat.zero_le, Option.toList_some, Option.toList_none, List.cons_append, List.nil_append, nI_1, rd_t, n1_0, n0_1, Bool.false_eq_true, false_implies, reduceCtorEq]
        refine en_use (by decide) K1 ?_
        simp only [sT_addSymbol_0, sT_addSymbol_1, sT_addSymbol_4, sT_addSymbol_5, sT_addSymbol_8, sT_addSymbol_9, sT_addSymbol_12, sT_addSymbol_13, sT_addSymbol_16, sT_addSymbol_19, sT_addSymbol_20, sT_addSymbol_21, sT_addSymbol_24, sT_addSymbol_27, sT_addSymbol_28, sT_addSymbol_31, sT_addSymbol_32, sT_addSymbol_35, sT_addSymbol_38, sT_addSymbol_41, sT_addSymbol_44, sT_addSymbol_45, sT_addSymbol_46, sT_addSymbol_47, sT_addSymbol_50, sT_addSymbol_51, sT_addSymbol_54, sT_addSymbol_55, sT_addSymbol_58, sT_addSymbol_59, sT_addSymbol_62, sT_addSymbol_65, en_rdO_eq, en_rdI_eq, en_rdN_eq, en_rdL_eq, true_and, and_true, List.getElem?_cons_succ, List.getElem?_cons_zero, en_gv_eq, if_true, if_false, and_self, or_true, true_or, implies_true, List.length_cons, List.length_nil, Nat.reduceLT, Nat.reduceLeDiff, Nat.reduceAdd, Nat.zero_le, Option.toList_some, Option.toList_none, List.cons_append, List.nil_append, nI_1, rd_t, n1_0, n0_1, Bool.false_eq_true, false_implies, reduceCtorEq, en_q]
      · unfold sp_put
        rw [if_neg]
        rintro ⟨-, q1, q2, -⟩
        rcases hout with q | q
        · exact Int32.not_le.mpr q q1
        · have h2 := Int32.le_iff_toInt_le.mp q
          rw [nI_toInt (by omega)] at h2
          have h3 : (ss.toNatClampNeg : Int) = ss.toInt := by
            show ((ss.toInt.toNat : Nat) : Int) = ss.toInt
            omega
          omega
    · have K1 := cY_has_in (u := u) (ss := nI s) (cs_sy H0) rfl hs
      have K2 := cT_mayStand (u := u) (ss := nI s) H0 ho rfl hs
      have hl := (cs_len H0.2.1).1
      have hg := (cs_get H0.2.1 (sp_la S)).1
      have hlen := (H0.2.2.2.2.2.1 _ h1).2.1
      have K3 := cR_size_in (u := u) (row := nI (sp_la S)) (cs_T H0).1 rfl (by rw [hl]; exact h1)
      rw [hg] at K3
      have hcl : (nI s).toNatClampNeg = s := nI_clamp (by omega)
      cases hm : sp_may S s with
      | false =>
        rw [hm] at K2
        refine no ?_ (by unfold sp_put; rw [hcl, if_neg (fun q => by rw [hm] at q; cases q.2.2.2.1)])
        simp only [sT_addSymbol_0, sT_addSymbol_1, sT_addSymbol_4, sT_addSymbol_5, sT_addSymbol_8, sT_addSymbol_9, sT_addSymbol_12, sT_addSymbol_13, sT_addSymbol_16, sT_addSymbol_19, sT_addSymbol_20, sT_addSymbol_21, sT_addSymbol_24, sT_addSymbol_27, sT_addSymbol_28, sT_addSymbol_31, sT_addSymbol_32, sT_addSymbol_35, sT_addSymbol_38, sT_addSymbol_41, sT_addSymbol_44, sT_addSymbol_45, sT_addSymbol_46, sT_addSymbol_47, sT_addSymbol_50, sT_addSymbol_51, sT_addSymbol_54, sT_addSymbol_55, sT_addSymbol_58, sT_addSymbol_59, sT_addSymbol_62, sT_addSymbol_65, o0, o1, o4, o5, o8, o11, o16, o19, o22, o24, w0, w1, w4, w5, w8, w11, w14, w15, w16, w19, w22, w23, w24, w27, w28, k14, k15, k23, k27, k28, h3, hne, en_rdO_eq, en_rdI_eq, en_rdN_eq, en_rdL_eq, true_and, and_true, List.getElem?_cons_succ, List.getElem?_cons_zero, en_gv_eq, if_true, if_false, and_self, or_true, true_or, implies_true, List.length_cons, List.length_nil, Nat.reduceLT, Nat.reduceLeDiff, Nat.reduceAdd, Nat.zero_le, Option.toList_some, Option.toList_none, List.cons_append, List.nil_append, nI_1, rd_t, n1_0, n0_1, Bool.false_eq_true, false_implies, reduceCtorEq]
        refine en_use (by decide) K1 ?_
        simp only [sT_addSymbol_0, sT_addSymbol_1, sT_addSymbol_4, sT_addSymbol_5, sT_addSymbol_8, sT_addSymbol_9, sT_addSymbol_12, sT_addSymbol_13, sT_addSymbol_16, sT_addSymbol_19, sT_addSymbol_20, sT_addSymbol_21, sT_addSymbol_24, sT_addSymbol_27, sT_addSymbol_28, sT_addSymbol_31, sT_addSymbol_32, sT_addSymbol_35, sT_addSymbol_38, sT_addSymbol_41, sT_addSymbol_44, sT_addSymbol_45, sT_addSymbol_46, sT_addSymbol_47, sT_addSymbol_50, sT_addSymbol_51, sT_addSymbol_54, sT_addSymbol_55, sT_addSymbol_58, sT_addSymbol_59, sT_addSymbol_62, sT_addSymbol_65, o0, o1, o4, o5, o8, o11, o16, o19, o22, o24, w0, w1, w4, w5, w8, w11, w14, w15, w16, w19, w22, w23, w24, w27, w28, k14, k15, k23, k27, k28, en_rdO_eq, en_rdI_eq, en_rdN_eq, en_rdL_eq, true_and, and_true, List.getElem?_cons_succ, List.getElem?_cons_zero, en_gv_eq, if_true, if_false, and_self, or_true, true_or, implies_true, List.length_cons, List.length_nil, Nat.reduceLT, Nat.reduceLeDiff, Nat.reduceAdd, Nat.zero_le, Option.toList_some, Option.toList_none, List.cons_append, List.nil_append, nI_1, rd_t, n1_0, n0_1, Bool.false_eq_true, false_implies, reduceCtorEq]
        refine en_use (by decide) K2 ?_
        simp only [sT_addSymbol_0, sT_addSymbol_1, sT_addSymbol_4, sT_addSymbol_5, sT_addSymbol_8, sT_addSymbol_9, sT_addSymbol_12, sT_addSymbol_13, sT_addSymbol_16, sT_addSymbol_19, sT_addSymbol_20, sT_addSymbol_21, sT_addSymbol_24, sT_addSymbol_27, sT_addSymbol_28, sT_addSymbol_31, sT_addSymbol_32, sT_addSymbol_35, sT_addSymbol_38, sT_addSymbol_41, sT_addSymbol_44, sT_addSymbol_45, sT_addSymbol_46, sT_addSymbol_47, sT_addSymbol_50, sT_addSymbol_51, sT_addSymbol_54, sT_addSymbol_55, sT_addSymbol_58, sT_addSymbol_59, sT_addSymbol_62, sT_addSymbol_65, bi_f, en_rdO_eq, en_rdI_eq, en_rdN_eq, en_rdL_eq, true_and, and_true, List.getElem?_cons_succ, List.getElem?_cons_zero, en_gv_eq, if_true, if_false, and_self, or_true, true_or, implies_true, List.length_cons, List.length_nil, Nat.reduceLT, Nat.reduceLeDiff, Nat.reduceAdd, Nat.zero_le, Option.toList_some, Option.toList_none, List.cons_append, List.nil_append, nI_1, rd_t, n1_0, n0_1, Bool.false_eq_true, false_implies, reduceCtorEq, en_q]
      | true =>
        rw [hm] at K2
        have e1 : (nI (sp_tx S (sp_la S)).length < nI 300) = ((sp_tx S (sp_la S)).length < 300) := propext (nI_ltI (by omega) (by omega))
        by_cases hfull : (sp_tx S (sp_la S)).length < 300
        · have hpos : 0 < S.2.1.length := by omega
          have hR := (H0.2.1.1.1).trans (put1_map (t := sp_t0) (fun t => t.2.1) hpos).2
          have HT := (cs_T H0).1
          have htot := (tot_tx H0).1
          rw [hR] at HT htot
          obtain ⟨c1, x1, u1, i1, N1, K4, H5, hN1, hfr, hgr⟩ := cR_append (u := u) (vv := nI s) (v := s) HT rfl (by omega) (by omega)
          obtain ⟨Hc, hcf⟩ := cr_rows H0.1 (k := 5) (by decide) hgr.2.1 H5 hfr
          have hS : sp_put (nI s) S = (nI ((sp_tx S (sp_la S)).length + 1), sp_put1 S (sp_kd S (sp_la S), sp_tx S (sp_la S) ++ [s], sp_nd S (sp_la S), sp_pr S (sp_la S))) := by
            unfold sp_put
            rw [hcl, if_pos ⟨ho, nI_pos' (by omega), hs, hm, hfull⟩]
          rw [hS]
          have hlg := last_getD (α := Nat) (S := S) (fun t => t.2.1) hpos (sp_tx S (sp_la S) ++ [s])
          have K6 := cR_size_in (u := u1) (row := nI (sp_la S)) H5 rfl hlg.2
          have K6' : (List.map (fun t : sp_T => t.2.1) S.2.1.dropLast ++ [(sp_at S (sp_la S)).2.1 ++ [s]]).getD (sp_la S) [] = sp_tx S (sp_la S) ++ [s] := hlg.1
          rw [K6', List.length_append] at K6
          refine ⟨c1, x1, u1, _, _, _, ?_, Hc, ?_, hcf, cg_rows (by decide) hgr (by show _ ∨ _ ≤ 200000; omega)⟩
          · have hop : r_op (r_setR r 5 (S.2.1.dropLast.map (fun t => t.2.1) ++ [(sp_at S (sp_la S)).2.1 ++ [s]])) = nI (sp_la S) := h3
            obtain ⟨p0, p1, p4, p5, p8, p11, p16, p19, p22, p24⟩ := cs_o Hc
            obtain ⟨y0, y1, y4, y5, y8, y11, y14, y15, y16, y19, y22, y23, y24, y27, y28⟩ := cs_b Hc.1
            obtain ⟨q14, q15, q23, q27, q28⟩ := Hc.2.2.2.1
            refine en_call_is (by decide) (Nat.le_of_ble_eq_true rfl) cat_2 (enter _ ?_)
            simp only [sT_addSymbol_0, sT_addSymbol_1, sT_addSymbol_4, sT_addSymbol_5, sT_addSymbol_8, sT_addSymbol_9, sT_addSymbol_12, sT_addSymbol_13, sT_addSymbol_16, sT_addSymbol_19, sT_addSymbol_20, sT_addSymbol_21, sT_addSymbol_24, sT_addSymbol_27, sT_addSymbol_28, sT_addSymbol_31, sT_addSymbol_32, sT_addSymbol_35, sT_addSymbol_38, sT_addSymbol_41, sT_addSymbol_44, sT_addSymbol_45, sT_addSymbol_46, sT_addSymbol_47, sT_addSymbol_50, sT_addSymbol_51, sT_addSymbol_54, sT_addSymbol_55, sT_addSymbol_58, sT_addSymbol_59, sT_addSymbol_62, sT_addSymbol_65, o0, o1, o4, o5, o8, o11, o16, o19, o22, o24, w0, w1, w4, w5, w8, w11, w14, w15, w16, w19, w22, w23, w24, w27, w28, k14, k15, k23, k27, k28, h3, hne, en_rdO_eq, en_rdI_eq, en_rdN_eq, en_rdL_eq, true_and, and_true, List.getElem?_cons_succ, List.getElem?_cons_zero, en_gv_eq, if_true, if_false, and_self, or_true, true_or, implies_true, List.length_cons, List.length_nil, Nat.reduceLT, Nat.reduceLeDiff, Nat.reduceAdd, Nat.zero_le, Option.toList_some, Option.toList_none, List.cons_append, List.nil_append, nI_1, rd_t, n1_0, n0_1, Bool.false_eq_true, false_implies, reduceCtorEq]
            refine en_use (by decide) K1 ?_
            simp only [sT_addSymbol_0, sT_addSymbol_1, sT_addSymbol_4, sT_addSymbol_5, sT_addSymbol_8, sT_addSymbol_9, sT_addSymbol_12, sT_addSymbol_13, sT_addSymbol_16, sT_addSymbol_19, sT_addSymbol_20, sT_addSymbol_21, sT_addSymbol_24, sT_addSymbol_27, sT_addSymbol_28, sT_addSymbol_31, sT_addSymbol_32, sT_addSymbol_35, sT_addSymbol_38, sT_addSymbol_41, sT_addSymbol_44, sT_addSymbol_45, sT_addSymbol_46, sT_addSymbol_47, sT_addSymbol_50, sT_addSymbol_51, sT_addSymbol_54, sT_addSymbol_55, sT_addSymbol_58, sT_addSymbol_59, sT_addSymbol_62, sT_addSymbol_65, o0, o1, o4, o5, o8, o11, o16, o19, o22, o24, w0, w1, w4, w5, w8, w11, w14, w15, w16, w19, w22, w23, w24, w27, w28, k14, k15, k23, k27, k28, en_rdO_eq, en_rdI_eq, en_rdN_eq, en_rdL_eq, true_and, and_true, List.getElem?_cons_succ, List.getElem?_cons_zero, en_gv_eq, if_true, if_false, and_self, or_true, true_or, implies_true, List.length_cons, List.length_nil, Nat.reduceLT, Nat.reduceLeDiff, Nat.reduceAdd, Nat.zero_le, Option.toList_some, Option.toList_none, List.cons_append, List.nil_append, nI_1, rd_t, n1_0, n0_1, Bool.false_eq_true, false_implies, reduceCtorEq]
            refine en_use (by decide) K2 ?_
            simp only [sT_addSymbol_0, sT_addSymbol_1, sT_addSymbol_4, sT_addSymbol_5, sT_addSymbol_8, sT_addSymbol_9, sT_addSymbol_12, sT_addSymbol_13, sT_addSymbol_16, sT_addSymbol_19, sT_addSymbol_20, sT_addSymbol_21, sT_addSymbol_24, sT_addSymbol_27, sT_addSymbol_28, sT_addSymbol_31, sT_addSymbol_32, sT_addSymbol_35, sT_addSymbol_38, sT_addSymbol_41, sT_addSymbol_44, sT_addSymbol_45, sT_addSymbol_46, sT_addSymbol_47, sT_addSymbol_50, sT_addSymbol_51, sT_addSymbol_54, sT_addSymbol_55, sT_addSymbol_58, sT_addSymbol_59, sT_addSymbol_62, sT_addSymbol_65, o0, o1, o4, o5, o8, o11, o16, o19, o22, o24, w0, w1, w4, w5, w8, w11, w14, w15, w16, w19, w22, w23, w24, w27, w28, k14, k15, k23, k27, k28, h3, bi_t, en_rdO_eq, en_rdI_eq, en_rdN_eq, en_rdL_eq, true_and, and_true, List.getElem?_cons_succ, List.getElem?_cons_zero, en_gv_eq, if_true, if_false, and_self, or_true, true_or, implies_true, List.length_cons, List.length_nil, Nat.reduceLT, Nat.reduceLeDiff, Nat.reduceAdd, Nat.zero_le, Option.toList_some, Option.toList_none, List.cons_append, List.nil_append, nI_1, rd_t, n1_0, n0_1, Bool.false_eq_true, false_implies, reduceCtorEq]
            refine en_use (by decide) K3 ?_
            simp only [sT_addSymbol_0, sT_addSymbol_1, sT_addSymbol_4, sT_addSymbol_5, sT_addSymbol_8, sT_addSymbol_9, sT_addSymbol_12, sT_addSymbol_13, sT_addSymbol_16, sT_addSymbol_19, sT_addSymbol_20, sT_addSymbol_21, sT_addSymbol_24, sT_addSymbol_27, sT_addSymbol_28, sT_addSymbol_31, sT_addSymbol_32, sT_addSymbol_35, sT_addSymbol_38, sT_addSymbol_41, sT_addSymbol_44, sT_addSymbol_45, sT_addSymbol_46, sT_addSymbol_47, sT_addSymbol_50, sT_addSymbol_51, sT_addSymbol_54, sT_addSymbol_55, sT_addSymbol_58, sT_addSymbol_59, sT_addSymbol_62, sT_addSymbol_65, o0, o1, o4, o5, o8, o11, o16, o19, o22, o24, w0, w1, w4, w5, w8, w11, w14, w15, w16, w19, w22, w23, w24, w27, w28, k14, k15, k23, k27, k28, e1, hfull, en_rdO_eq, en_rdI_eq, en_rdN_eq, en_rdL_eq, true_and, and_true, List.getElem?_cons_succ, List.getElem?_cons_zero, en_gv_eq, if_true, if_false, and_self, or_true, true_or, implies_true, List.length_cons, List.length_nil, Nat.reduceLT, Nat.reduceLeDiff, Nat.reduceAdd, Nat.zero_le, Option.toList_some, Option.toList_none, List.cons_append, List.nil_append, nI_1, rd_t, n1_0, n0_1, Bool.false_eq_true, false_implies, reduceCtorEq]
            refine en_use (Nat.le_refl _) K4 ?_
            simp only [sT_addSymbol_0, sT_addSymbol_1, sT_addSymbol_4, sT_addSymbol_5, sT_addSymbol_8, sT_addSymbol_9, sT_addSymbol_12, sT_addSymbol_13, sT_addSymbol_16, sT_addSymbol_19, sT_addSymbol_20, sT_addSymbol_21, sT_addSymbol_24, sT_addSymbol_27, sT_addSymbol_28, sT_addSymbol_31, sT_addSymbol_32, sT_addSymbol_35, sT_addSymbol_38, sT_addSymbol_41, sT_addSymbol_44, sT_addSymbol_45, sT_addSymbol_46, sT_addSymbol_47, sT_addSymbol_50, sT_addSymbol_51, sT_addSymbol_54, sT_addSymbol_55, sT_addSymbol_58, sT_addSymbol_59, sT_addSymbol_62, sT_addSymbol_65, p0, p1, p4, p5, p8, p11, p16, p19, p22, p24, y0, y1, y4, y5, y8, y11, y14, y15, y16, y19, y22, y23, y24, y27, y28, q14, q15, q23, q27, q28, hop, en_rdO_eq, en_rdI_eq, en_rdN_eq, en_rdL_eq, true_and, and_true, List.getElem?_cons_succ, List.getElem?_cons_zero, en_gv_eq, if_true, if_false, and_self, or_true, true_or, implies_true, List.length_cons, List.length_nil, Nat.reduceLT, Nat.reduceLeDiff, Nat.reduceAdd, Nat.zero_le, Option.toList_some, Option.toList_none, List.cons_append, List.nil_append, nI_1, rd_t, n1_0, n0_1, Bool.false_eq_true, false_implies, reduceCtorEq]
            refine en_use (by decide) K6 ?_
            simp only [sT_addSymbol_0, sT_addSymbol_1, sT_addSymbol_4, sT_addSymbol_5, sT_addSymbol_8, sT_addSymbol_9, sT_addSymbol_12, sT_addSymbol_13, sT_addSymbol_16, sT_addSymbol_19, sT_addSymbol_20, sT_addSymbol_21, sT_addSymbol_24, sT_addSymbol_27, sT_addSymbol_28, sT_addSymbol_31, sT_addSymbol_32, sT_addSymbol_35, sT_addSymbol_38, sT_addSymbol_41, sT_addSymbol_44, sT_addSymbol_45, sT_addSymbol_46, sT_addSymbol_47, sT_addSymbol_50, sT_addSymbol_51, sT_addSymbol_54, sT_addSymbol_55, sT_addSymbol_58, sT_addSymbol_59, sT_addSymbol_62, sT_addSymbol_65, en_rdO_eq, en_rdI_eq, en_rdN_eq, en_rdL_eq, true_and, and_true, List.getElem?_cons_succ, List.getElem?_cons_zero, en_gv_eq, if_true, if_false, and_self, or_true, true_or, implies_true, List.length_cons, List.length_nil, Nat.reduceLT, Nat.reduceLeDiff, Nat.reduceAdd, Nat.zero_le, Option.toList_some, Option.toList_none, List.cons_append, List.nil_append, nI_1, rd_t, n1_0, n0_1, Bool.false_eq_true, false_implies, reduceCtorEq, en_q]
          · have hnd := nd_mem H0.2.2 h1
            have hfl := H0.2.1.2.2.2.2.1 ho
            refine cS_upd H0.2.1 hpos ho rfl ?_ ?_ ?_ rfl rfl ⟨rfl, rfl⟩ rfl rfl ?_ H0.2.1.2.2.2.2.2.1 ⟨rfl, rfl⟩
            · rfl
            · exact (H0.2.1.1.2.1).trans (put1_map (t := sp_t0) (fun t => t.2.2.1) hpos).2
            · exact (H0.2.1.1.2.2.1).trans (put1_map (t := sp_t0) (fun t => pf t.2.2.2) hpos).2
            · intro v hv hvv
              rw [put1_fl hpos hnd]
              exact hfl v hv hvv
        · refine no ?_ (by unfold sp_put; rw [if_neg (fun q => hfull q.2.2.2.2)])
          simp only [sT_addSymbol_0, sT_addSymbol_1, sT_addSymbol_4, sT_addSymbol_5, sT_addSymbol_8, sT_addSymbol_9, sT_addSymbol_12, sT_addSymbol_13, sT_addSymbol_16, sT_addSymbol_19, sT_addSymbol_20, sT_addSymbol_21, sT_addSymbol_24, sT_addSymbol_27, sT_addSymbol_28, sT_addSymbol_31, sT_addSymbol_32, sT_addSymbol_35, sT_addSymbol_38, sT_addSymbol_41, sT_addSymbol_44, sT_addSymbol_45, sT_addSymbol_46, sT_addSymbol_47, sT_addSymbol_50, sT_addSymbol_51, sT_addSymbol_54, sT_addSymbol_55, sT_addSymbol_58, sT_addSymbol_59, sT_addSymbol_62, sT_addSymbol_65, o0, o1, o4, o5, o8, o11, o16, o19, o22, o24, w0, w1, w4, w5, w8, w11, w14, w15, w16, w19, w22, w23, w24, w27, w28, k14, k15, k23, k27, k28, h3, hne, en_rdO_eq, en_rdI_eq, en_rdN_eq, en_rdL_eq, true_and, and_true, List.getElem?_cons_succ, List.getElem?_cons_zero, en_gv_eq, if_true, if_false, and_self, or_true, true_or, implies_true, List.length_cons, List.length_nil, Nat.reduceLT, Nat.reduceLeDiff, Nat.reduceAdd, Nat.zero_le, Option.toList_some, Option.toList_none, List.cons_append, List.nil_append, nI_1, rd_t, n1_0, n0_1, Bool.false_eq_true, false_implies, reduceCtorEq]
          refine en_use (by decide) K1 ?_
          simp only [sT_addSymbol_0, sT_addSymbol_1, sT_addSymbol_4, sT_addSymbol_5, sT_addSymbol_8, sT_addSymbol_9, sT_addSymbol_12, sT_addSymbol_13, sT_addSymbol_16, sT_addSymbol_19, sT_addSymbol_20, sT_addSymbol_21, sT_addSymbol_24, sT_addSymbol_27, sT_addSymbol_28, sT_addSymbol_31, sT_addSymbol_32, sT_addSymbol_35, sT_addSymbol_38, sT_addSymbol_41, sT_addSymbol_44, sT_addSymbol_45, sT_addSymbol_46, sT_addSymbol_47, sT_addSymbol_50, sT_addSymbol_51, sT_addSymbol_54, sT_addSymbol_55, sT_addSymbol_58, sT_addSymbol_59, sT_addSymbol_62, sT_addSymbol_65, o0, o1, o4, o5, o8, o11, o16, o19, o22, o24, w0, w1, w4, w5, w8, w11, w14, w15, w16, w19, w22, w23, w24, w27, w28, k14, k15, k23, k27, k28, en_rdO_eq, en_rdI_eq, en_rdN_eq, en_rdL_eq, true_and, and_true, List.getElem?_cons_succ, List.getElem?_cons_zero, en_gv_eq, if_true, if_false, and_self, or_true, true_or, implies_true, List.length_cons, List.length_nil, Nat.reduceLT, Nat.reduceLeDiff, Nat.reduceAdd, Nat.zero_le, Option.toList_some, Option.toList_none, List.cons_append, List.nil_append, nI_1, rd_t, n1_0, n0_1, Bool.false_eq_true, false_implies, reduceCtorEq]
          refine en_use (by decide) K2 ?_
          simp only [sT_addSymbol_0, sT_addSymbol_1, sT_addSymbol_4, sT_addSymbol_5, sT_addSymbol_8, sT_addSymbol_9, sT_addSymbol_12, sT_addSymbol_13, sT_addSymbol_16, sT_addSymbol_19, sT_addSymbol_20, sT_addSymbol_21, sT_addSymbol_24, sT_addSymbol_27, sT_addSymbol_28, sT_addSymbol_31, sT_addSymbol_32, sT_addSymbol_35, sT_addSymbol_38, sT_addSymbol_41, sT_addSymbol_44, sT_addSymbol_45, sT_addSymbol_46, sT_addSymbol_47, sT_addSymbol_50, sT_addSymbol_51, sT_addSymbol_54, sT_addSymbol_55, sT_addSymbol_58, sT_addSymbol_59, sT_addSymbol_62, sT_addSymbol_65, o0, o1, o4, o5, o8, o11, o16, o19, o22, o24, w0, w1, w4, w5, w8, w11, w14, w15, w16, w19, w22, w23, w24, w27, w28, k14, k15, k23, k27, k28, h3, bi_t, en_rdO_eq, en_rdI_eq, en_rdN_eq, en_rdL_eq, true_and, and_true, List.getElem?_cons_succ, List.getElem?_cons_zero, en_gv_eq, if_true, if_false, and_self, or_true, true_or, implies_true, List.length_cons, List.length_nil, Nat.reduceLT, Nat.reduceLeDiff, Nat.reduceAdd, Nat.zero_le, Option.toList_some, Option.toList_none, List.cons_append, List.nil_append, nI_1, rd_t, n1_0, n0_1, Bool.false_eq_true, false_implies, reduceCtorEq]
          refine en_use (by decide) K3 ?_
          simp only [sT_addSymbol_0, sT_addSymbol_1, sT_addSymbol_4, sT_addSymbol_5, sT_addSymbol_8, sT_addSymbol_9, sT_addSymbol_12, sT_addSymbol_13, sT_addSymbol_16, sT_addSymbol_19, sT_addSymbol_20, sT_addSymbol_21, sT_addSymbol_24, sT_addSymbol_27, sT_addSymbol_28, sT_addSymbol_31, sT_addSymbol_32, sT_addSymbol_35, sT_addSymbol_38, sT_addSymbol_41, sT_addSymbol_44, sT_addSymbol_45, sT_addSymbol_46, sT_addSymbol_47, sT_addSymbol_50, sT_addSymbol_51, sT_addSymbol_54, sT_addSymbol_55, sT_addSymbol_58, sT_addSymbol_59, sT_addSymbol_62, sT_addSymbol_65, o0, o1, o4, o5, o8, o11, o16, o19, o22, o24, w0, w1, w4, w5, w8, w11, w14, w15, w16, w19, w22, w23, w24, w27, w28, k14, k15, k23, k27, k28, e1, hfull, en_rdO_eq, en_rdI_eq, en_rdN_eq, en_rdL_eq, true_and, and_true, List.getElem?_cons_succ, List.getElem?_cons_zero, en_gv_eq, if_true, if_false, and_self, or_true, true_or, implies_true, List.length_cons, List.length_nil, Nat.reduceLT, Nat.reduceLeDiff, Nat.reduceAdd, Nat.zero_le, Option.toList_some, Option.toList_none, List.cons_append, List.nil_append, nI_1, rd_t, n1_0, n0_1, Bool.false_eq_true, false_implies, reduceCtorEq, en_q]
end TE2
