/-! what holds of every state that calls come to is kept by every call -/
section WF
variable {S S' : sp_S}
theorem getD_mem {l : List Nat} {k : Nat} (h : k < l.length) : l.getD k 0 ∈ l := by
  rw [List.getD_eq_getElem?_getD, List.getElem?_eq_getElem h]
  exact List.getElem_mem h
theorem wf_fail {f : Int32} (hw : sp_wf S) : sp_wf (sp_fail f S).2 := wf_pile hw (Nat.zero_le _) (Nat.zero_le _) (Nat.zero_le _) (fun l hl => by cases hl) (fun l hl => by cases hl)
theorem var_app {s : Nat} {b : Bool} (h : s < S.1.length) : sp_var (S.1 ++ [b], S.2) s = sp_var S s := by
  unfold sp_var
  show (S.1 ++ [b]).getD s false = _
  rw [List.getD_eq_getElem?_getD, List.getElem?_append_left h, ← List.getD_eq_getElem?_getD]
theorem all_app {b : Bool} {hs l : List Nat} (h : ∀ s ∈ l, s < S.1.length) : sp_all (S.1 ++ [b], S.2) hs l = sp_all S hs l := by
  induction l with
  | nil => rfl
  | cons s l ih =>
    have e1 : sp_all (S.1 ++ [b], S.2) hs (s :: l) = ((!sp_var (S.1 ++ [b], S.2) s || sp_fl S hs s) && sp_all (S.1 ++ [b], S.2) hs l) := rfl
    have e2 : sp_all S hs (s :: l) = ((!sp_var S s || sp_fl S hs s) && sp_all S hs l) := rfl
    rw [e1, e2, ih (fun s hs => h s (List.mem_cons_of_mem _ hs)), var_app (h s (List.mem_cons_self ..))]
theorem wfR_app {b : Bool} {l : List Nat} (h : sp_wfR S l) : sp_wfR (S.1 ++ [b], S.2) l := by
  refine ⟨h.1, h.2.1, fun s hs => ?_, ?_⟩
  · have := h.2.2.1 s hs
    show s < (S.1 ++ [b]).length
    rw [List.length_append]
    omega
  · rw [var_app (h.2.2.1 _ (getD_mem h.1))]
    exact h.2.2.2
theorem wf_sym {b : Bool} (hw : sp_wf S) (hl : S.1.length < 1000) : sp_wf (S.1 ++ [b], S.2) := by
  obtain ⟨h1, h2, h3, h4, h5, h6, h7, h8, h9, h10, h11⟩ := hw
  refine ⟨?_, h2, h3, fun i hi => ?_, fun i hi hn => ?_, h6, h7, h8, h9, fun l hl => wfR_app (h10 l hl), fun l hl => wfR_app (h11 l hl)⟩
  · show (S.1 ++ [b]).length ≤ 1000
    rw [List.length_append]
    exact hl
  · obtain ⟨a1, a2, a3, a4, a5, a6, a7, a8, a9⟩ := h4 i hi
    refine ⟨a1, a2, a3, a4, fun s hs => ?_, fun hz => ?_, fun hk => ⟨(a7 hk).1, fun hz => ?_⟩, fun k hk => ⟨(a8 k hk).1, (a8 k hk).2.1, ?_⟩, a9⟩
    · have := a5 s hs
      show s < (S.1 ++ [b]).length
      rw [List.length_append]
      omega
    · have q := var_app (b := b) (a5 _ (getD_mem hz))
      exact q.trans (a6 hz)
    · have q := var_app (b := b) (a5 _ (getD_mem hz))
      exact q.trans ((a7 hk).2 hz)
    · refine (all_app (S := S) ?_).trans (a8 k hk).2.2
      intro s hs
      by_cases hz : sp_kd S ((sp_nd S i).getD k 0) = 0
      · have hs : s ∈ (if sp_kd S ((sp_nd S i).getD k 0) = 0 then [] else sp_tx S ((sp_nd S i).getD k 0)) := hs
        rw [if_pos hz] at hs
        cases hs
      · have hs : s ∈ (if sp_kd S ((sp_nd S i).getD k 0) = 0 then [] else sp_tx S ((sp_nd S i).getD k 0)) := hs
        rw [if_neg hz] at hs
        have hq := (a8 k hk).1
        have hi : i < S.2.1.length := hi
        exact (h4 _ (by omega)).2.2.2.2.1 s hs
  · obtain ⟨a1, a2, a3⟩ := h5 i hi hn
    exact ⟨a1, a2, fun hk => (all_app (S := S) (h4 i hi).2.2.2.2.1).trans (a3 hk)⟩
theorem wf_symbol {w : Int32} (hw : sp_wf S) : sp_wf (sp_symbol w S).2 := by
  unfold sp_symbol
  by_cases h : (w = 0 ∨ w = 1) ∧ S.1.length < 1000
  · rw [if_pos h]
    exact wf_sym hw h.2
  · rw [if_neg h]
    exact hw
theorem fl_same {m : Nat} (h : ∀ i, i < m → sp_at S' i = sp_at S i) {hs : List Nat} (hh : ∀ q ∈ hs, q < m) (s : Nat) : sp_fl S' hs s = sp_fl S hs s := by
  induction hs with
  | nil => rfl
  | cons q hs ih =>
    have e1 : sp_fl S' (q :: hs) s = ((sp_kd S' q == 0 && (sp_tx S' q).getD 1 0 == s) || sp_fl S' hs s) := rfl
    have e2 : sp_fl S (q :: hs) s = ((sp_kd S q == 0 && (sp_tx S q).getD 1 0 == s) || sp_fl S hs s) := rfl
    have e3 := h q (hh q (List.mem_cons_self ..))
    have e4 : sp_kd S' q = sp_kd S q := congrArg Prod.fst e3
    have e5 : sp_tx S' q = sp_tx S q := congrArg (fun z : sp_T => z.2.1) e3
    rw [e1, e2, e4, e5, ih (fun q hq => hh q (List.mem_cons_of_mem _ hq))]
theorem all_same {m : Nat} (h : ∀ i, i < m → sp_at S' i = sp_at S i) (hv : S'.1 = S.1) {hs : List Nat} (hh : ∀ q ∈ hs, q < m) (l : List Nat) : sp_all S' hs l = sp_all S hs l := by
  induction l with
  | nil => rfl
  | cons s l ih =>
    have e1 : sp_all S' hs (s :: l) = ((!sp_var S' s || sp_fl S' hs s) && sp_all S' hs l) := rfl
    have e2 : sp_all S hs (s :: l) = ((!sp_var S s || sp_fl S hs s) && sp_all S hs l) := rfl
    have e3 : sp_var S' s = sp_var S s := by unfold sp_var; rw [hv]
    rw [e1, e2, e3, ih, fl_same h hh]
theorem ndT_lt {i : Nat} (hT : sp_wfT S i) : ∀ q ∈ sp_nd S i, q < i := by
  intro q hq
  obtain ⟨k, hk, rfl⟩ := List.mem_iff_getElem.mp hq
  have := (hT.2.2.2.2.2.2.2.1 k hk).1
  rw [List.getD_eq_getElem?_getD, List.getElem?_eq_getElem hk] at this
  exact this
theorem var_same (hv : S'.1 = S.1) (s : Nat) : sp_var S' s = sp_var S s := by unfold sp_var; rw [hv]
theorem wf_st (hw : sp_wf S) {m : Nat} (hm : m < 300) (hm2 : m ≤ S.2.1.length) (hcl : ∀ i, i < m → ¬ (S.2.2.1 = true ∧ i = sp_la S)) (t : sp_T) (k1 : t.1 ≤ 2) (k2 : t.2.1.length ≤ 300) (k3 : t.2.2.1.length ≤ 60) (k4 : t.2.2.2.length ≤ 200) (k5 : ∀ s ∈ t.2.1, s < S.1.length) (k6 : 0 < t.2.1.length → sp_var S (t.2.1.getD 0 0) = false)
    (k7 : t.1 = 0 → t.2.1.length ≤ 2 ∧ (1 < t.2.1.length → sp_var S (t.2.1.getD 1 0) = true)) (k8 : ∀ k, k < t.2.2.1.length → t.2.2.1.getD k 0 < m ∧ sp_kd S (t.2.2.1.getD k 0) ≠ 2 ∧ sp_all S (t.2.2.1.take k) (if sp_kd S (t.2.2.1.getD k 0) = 0 then [] else sp_tx S (t.2.2.1.getD k 0)) = true) (k9 : ∀ q ∈ t.2.2.2, sp_fl S t.2.2.1 q.1 = true ∧ sp_fl S t.2.2.1 q.2 = true) : sp_wf (S.1, S.2.1.take m ++ [t], true, S.2.2.2) := by
  obtain ⟨h1, h2, h3, h4, h5, h6, h7, h8, h9, h10, h11⟩ := hw
  have hl : (S.2.1.take m ++ [t]).length = m + 1 := by
    rw [List.length_append, List.length_take, Nat.min_eq_left hm2]
    rfl
  have hat : ∀ i, i < m → sp_at (S.1, S.2.1.take m ++ [t], true, S.2.2.2) i = sp_at S i := by
    intro i hi
    unfold sp_at
    show (S.2.1.take m ++ [t]).getD i sp_t0 = _
    rw [List.getD_eq_getElem?_getD, List.getElem?_append_left (by rw [List.length_take]; omega), List.getElem?_take, if_pos hi, ← List.getD_eq_getElem?_getD]
  have hatm : sp_at (S.1, S.2.1.take m ++ [t], true, S.2.2.2) m = t := by
    unfold sp_at
    show (S.2.1.take m ++ [t]).getD m sp_t0 = _
    rw [List.getD_eq_getElem?_getD, List.getElem?_append_right (by rw [List.length_take]; omega), List.length_take, Nat.min_eq_left hm2, Nat.sub_self]
    rfl
  have hla : sp_la (S.1, S.2.1.take m ++ [t], true, S.2.2.2) = m := by
    show (S.2.1.take m ++ [t]).length - 1 = m
    omega
  have hnd : ∀ q ∈ t.2.2.1, q < m := by
    intro q hq
    obtain ⟨k, hk, rfl⟩ := List.mem_iff_getElem.mp hq
    have := (k8 k hk).1
    rw [List.getD_eq_getElem?_getD, List.getElem?_eq_getElem hk] at this
    exact this
  generalize hS : ((S.1, S.2.1.take m ++ [t], true, S.2.2.2) : sp_S) = S' at *
  have hv : S'.1 = S.1 := by rw [← hS]
  have hvs := var_same hv
  have hlen : S'.2.1.length = m + 1 := by rw [← hS]; exact hl
  have hkd : ∀ i, i < m → sp_kd S' i = sp_kd S i := fun i hi => congrArg Prod.fst (hat i hi)
  have htx : ∀ i, i < m → sp_tx S' i = sp_tx S i := fun i hi => congrArg (fun z : sp_T => z.2.1) (hat i hi)
  have hnn : ∀ i, i < m → sp_nd S' i = sp_nd S i := fun i hi => congrArg (fun z : sp_T => z.2.2.1) (hat i hi)
  have hpr : ∀ i, i < m → sp_pr S' i = sp_pr S i := fun i hi => congrArg (fun z : sp_T => z.2.2.2) (hat i hi)
  have hT : ∀ i, i < m + 1 → sp_wfT S' i := by
    intro i hi
    by_cases hi2 : i < m
    · have hT := h4 i (by omega)
      have hlt := ndT_lt hT
      obtain ⟨a1, a2, a3, a4, a5, a6, a7, a8, a9⟩ := hT
      unfold sp_wfT
      rw [hkd i hi2, htx i hi2, hnn i hi2, hpr i hi2, hv, hvs, hvs]
      refine ⟨a1, a2, a3, a4, a5, a6, a7, fun k hk => ?_, fun q hq => ?_⟩
      · have b := a8 k hk
        have hkm : (sp_nd S i).getD k 0 < m := by omega
        rw [hkd _ hkm, htx _ hkm, all_same hat hv (fun q hq => by have := hlt q (List.mem_of_mem_take hq); omega)]
        exact b
      · rw [fl_same hat (fun q hq => by have := hlt q hq; omega), fl_same hat (fun q hq => by have := hlt q hq; omega)]
        exact a9 q hq
    · have hi : i = m := by omega
      subst hi
      have e1 : sp_kd S' i = t.1 := congrArg Prod.fst hatm
      have e2 : sp_tx S' i = t.2.1 := congrArg (fun z : sp_T => z.2.1) hatm
      have e3 : sp_nd S' i = t.2.2.1 := congrArg (fun z : sp_T => z.2.2.1) hatm
      have e4 : sp_pr S' i = t.2.2.2 := congrArg (fun z : sp_T => z.2.2.2) hatm
      unfold sp_wfT
      rw [e1, e2, e3, e4, hv, hvs, hvs]
      refine ⟨k1, k2, k3, k4, k5, k6, k7, fun k hk => ?_, fun q hq => ?_⟩
      · have b := k8 k hk
        rw [hkd _ b.1, htx _ b.1, all_same hat hv (fun q hq => hnd q (List.mem_of_mem_take hq))]
        exact b
      · rw [fl_same hat hnd, fl_same hat hnd]
        exact k9 q hq
  refine ⟨by rw [hv]; exact h1, by omega, fun _ => by omega, fun i hi => hT i (by omega), fun i hi hn => ?_, ?_, ?_, ?_, ?_, ?_, ?_⟩
  · have hi2 : i < m := by
      by_cases q : i = m
      · exact absurd ⟨by rw [← hS], by rw [hla]; exact q⟩ hn
      · omega
    obtain ⟨a1, a2, a3⟩ := h5 i (by omega) (hcl i hi2)
    have hlt := ndT_lt (h4 i (by omega))
    unfold sp_wfC
    rw [hkd i hi2, htx i hi2, hnn i hi2, all_same hat hv (fun q hq => by have := hlt q hq; omega)]
    exact ⟨a1, a2, a3⟩
  · rw [← hS]; exact h6
  · rw [← hS]; exact h7
  · rw [← hS]; exact h8
  · rw [← hS]; exact h9
  · intro l hl
    have hl : l ∈ S.2.2.2.2.1 := by rw [← hS] at hl; exact hl
    obtain ⟨a1, a2, a3, a4⟩ := h10 l hl
    exact ⟨a1, a2, by rw [hv]; exact a3, by rw [hvs]; exact a4⟩
  · intro l hl
    have hl : l ∈ S.2.2.2.2.2 := by rw [← hS] at hl; exact hl
    obtain ⟨a1, a2, a3, a4⟩ := h11 l hl
    exact ⟨a1, a2, by rw [hv]; exact a3, by rw [hvs]; exact a4⟩
theorem wf_begin {w : Int32} (hw : sp_wf S) : sp_wf (sp_begin w S).2 := by
  unfold sp_begin
  by_cases h : S.2.2.1 = false ∧ (w = 0 ∨ w = 1 ∨ w = 2) ∧ S.2.1.length < 300
  · rw [if_pos h]
    have hk : w.toNatClampNeg ≤ 2 := by
      rcases h.2.1 with q | q | q <;> rw [q] <;> decide
    have := wf_st hw (m := S.2.1.length) h.2.2 (Nat.le_refl _) (fun i _ q => by rw [h.1] at q; cases q.1) (w.toNatClampNeg, [], [], []) hk (Nat.zero_le _) (Nat.zero_le _) (Nat.zero_le _) (fun s hs => by cases hs) (fun hz => absurd hz (Nat.not_lt_zero _)) (fun _ => ⟨Nat.zero_le _, fun hz => absurd hz (Nat.not_lt_zero _)⟩) (fun k hk => absurd hk (Nat.not_lt_zero _)) (fun q hq => by cases hq)
    rw [List.take_length] at this
    exact this
  · rw [if_neg h]
    exact hw
theorem p1_eq (ho : S.2.2.1 = true) (t : sp_T) : sp_put1 S t = (S.1, S.2.1.take (sp_la S) ++ [t], true, S.2.2.2) := by
  unfold sp_put1 sp_la
  rw [List.dropLast_eq_take]
  have : S.2.2 = (true, S.2.2.2) := by rw [← ho]
  rw [this]
theorem wf_p1 (hw : sp_wf S) (ho : S.2.2.1 = true) (t : sp_T) (k1 : t.1 ≤ 2) (k2 : t.2.1.length ≤ 300) (k3 : t.2.2.1.length ≤ 60) (k4 : t.2.2.2.length ≤ 200) (k5 : ∀ s ∈ t.2.1, s < S.1.length) (k6 : 0 < t.2.1.length → sp_var S (t.2.1.getD 0 0) = false)
    (k7 : t.1 = 0 → t.2.1.length ≤ 2 ∧ (1 < t.2.1.length → sp_var S (t.2.1.getD 1 0) = true)) (k8 : ∀ k, k < t.2.2.1.length → t.2.2.1.getD k 0 < sp_la S ∧ sp_kd S (t.2.2.1.getD k 0) ≠ 2 ∧ sp_all S (t.2.2.1.take k) (if sp_kd S (t.2.2.1.getD k 0) = 0 then [] else sp_tx S (t.2.2.1.getD k 0)) = true) (k9 : ∀ q ∈ t.2.2.2, sp_fl S t.2.2.1 q.1 = true ∧ sp_fl S t.2.2.1 q.2 = true) : sp_wf (sp_put1 S t) := by
  rw [p1_eq ho]
  have h2 := hw.2.1
  have h3 := hw.2.2.1 ho
  have hla : sp_la S = S.2.1.length - 1 := rfl
  exact wf_st hw (by omega) (by omega) (fun i hi q => by omega) t k1 k2 k3 k4 k5 k6 k7 k8 k9
theorem la_T (hw : sp_wf S) (ho : S.2.2.1 = true) : sp_wfT S (sp_la S) := hw.2.2.2.1 _ (by have := hw.2.2.1 ho; unfold sp_la; omega)
theorem getD_l1 {p q : List Nat} {j : Nat} (h : j < p.length) : (p ++ q).getD j 0 = p.getD j 0 := getD_l h
theorem getD_e {p : List Nat} {s : Nat} : (p ++ [s]).getD p.length 0 = s := by
  have := getD_r (p := p) (q := [s]) (j := 0)
  exact this
theorem wf_put {w : Int32} (hw : sp_wf S) : sp_wf (sp_put w S).2 := by
  unfold sp_put
  by_cases h : S.2.2.1 = true ∧ 0 ≤ w ∧ w.toNatClampNeg < S.1.length ∧ sp_may S w.toNatClampNeg = true ∧ (sp_tx S (sp_la S)).length < 300
  · rw [if_pos h]
    obtain ⟨ho, -, hs, hmay, hl⟩ := h
    obtain ⟨a1, a2, a3, a4, a5, a6, a7, a8, a9⟩ := la_T hw ho
    rw [may_eq] at hmay
    generalize w.toNatClampNeg = s at *
    refine wf_p1 hw ho _ a1 ?_ a3 a4 (fun z hz => ?_) (fun hz => ?_) (fun hk => ?_) a8 a9
    · show (sp_tx S (sp_la S) ++ [s]).length ≤ 300
      rw [List.length_append]
      exact hl
    · have hz : z ∈ sp_tx S (sp_la S) ++ [s] := hz
      rcases List.mem_append.mp hz with q | q
      · exact a5 z q
      · rw [List.mem_singleton.mp q]
        exact hs
    · show sp_var S ((sp_tx S (sp_la S) ++ [s]).getD 0 0) = false
      by_cases h0 : (sp_tx S (sp_la S)).length = 0
      · rw [if_pos h0] at hmay
        have e := getD_e (p := sp_tx S (sp_la S)) (s := s)
        rw [h0] at e
        rw [e]
        simpa using hmay
      · rw [getD_l1 (by omega)]
        exact a6 (by omega)
    · have hk : sp_kd S (sp_la S) = 0 := hk
      show (sp_tx S (sp_la S) ++ [s]).length ≤ 2 ∧ (1 < (sp_tx S (sp_la S) ++ [s]).length → sp_var S ((sp_tx S (sp_la S) ++ [s]).getD 1 0) = true)
      rw [List.length_append]
      show (sp_tx S (sp_la S)).length + 1 ≤ 2 ∧ (1 < (sp_tx S (sp_la S)).length + 1 → _)
      have hkb : (sp_kd S (sp_la S) != 0) = false := by rw [hk]; rfl
      rw [hkb] at hmay
      by_cases h0 : (sp_tx S (sp_la S)).length = 0
      · exact ⟨by omega, fun q => by omega⟩
      · rw [if_neg h0] at hmay
        by_cases h1 : (sp_tx S (sp_la S)).length = 1
        · rw [if_pos h1, Bool.false_or] at hmay
          refine ⟨by omega, fun _ => ?_⟩
          have e := getD_e (p := sp_tx S (sp_la S)) (s := s)
          rw [h1] at e
          rw [e]
          exact hmay
        · rw [if_neg h1] at hmay
          cases hmay
  · rw [if_neg h]
    exact hw
theorem fl_mono {hs ks : List Nat} {s : Nat} (h : sp_fl S hs s = true) : sp_fl S (hs ++ ks) s = true := by
  unfold sp_fl at h ⊢
  rw [List.any_append, h, Bool.true_or]
theorem wf_need {w : Int32} (hw : sp_wf S) : sp_wf (sp_need w S).2 := by
  unfold sp_need
  by_cases h : sp_open2 S = true ∧ 0 ≤ w ∧ w.toNatClampNeg < sp_la S ∧ sp_kd S w.toNatClampNeg ≠ 2 ∧ sp_mayn S w.toNatClampNeg = true ∧ (sp_nd S (sp_la S)).length < 60
  · rw [if_pos h]
    obtain ⟨ho, -, hs, hk2, hmay, hl⟩ := h
    obtain ⟨ho, hkk⟩ := op2 ho
    obtain ⟨a1, a2, a3, a4, a5, a6, a7, a8, a9⟩ := la_T hw ho
    generalize w.toNatClampNeg = s at *
    refine wf_p1 hw ho _ a1 a2 ?_ a4 a5 a6 a7 (fun k hk => ?_) (fun q hq => ⟨fl_mono (a9 q hq).1, fl_mono (a9 q hq).2⟩)
    · show (sp_nd S (sp_la S) ++ [s]).length ≤ 60
      rw [List.length_append]
      exact hl
    · have hk : k < (sp_nd S (sp_la S) ++ [s]).length := hk
      rw [List.length_append] at hk
      have hk : k < (sp_nd S (sp_la S)).length + 1 := hk
      show (sp_nd S (sp_la S) ++ [s]).getD k 0 < _ ∧ sp_kd S ((sp_nd S (sp_la S) ++ [s]).getD k 0) ≠ 2 ∧ sp_all S ((sp_nd S (sp_la S) ++ [s]).take k) (if sp_kd S ((sp_nd S (sp_la S) ++ [s]).getD k 0) = 0 then [] else sp_tx S ((sp_nd S (sp_la S) ++ [s]).getD k 0)) = true
      by_cases e : k = (sp_nd S (sp_la S)).length
      · subst e
        rw [getD_e, List.take_left]
        refine ⟨hs, hk2, ?_⟩
        by_cases hz : sp_kd S s = 0
        · rw [if_pos hz]
          rfl
        · rw [if_neg hz]
          unfold sp_mayn at hmay
          rw [if_neg hz, Bool.and_eq_true] at hmay
          exact hmay.2
      · rw [getD_l1 (by omega), List.take_append_of_le_length (by omega)]
        exact a8 k (by omega)
  · rw [if_neg h]
    exact hw
theorem wf_pair {v w : Int32} (hw : sp_wf S) : sp_wf (sp_pair v w S).2 := by
  unfold sp_pair
  split
  · rename_i h
    obtain ⟨ho, -, -, -, hf1, hf2, -, hl⟩ := h
    obtain ⟨ho, hkk⟩ := op2 ho
    obtain ⟨a1, a2, a3, a4, a5, a6, a7, a8, a9⟩ := la_T hw ho
    refine wf_p1 hw ho _ a1 a2 a3 ?_ a5 a6 a7 a8 (fun q hq => ?_)
    · show (sp_pr S (sp_la S) ++ [_]).length ≤ 200
      rw [List.length_append]
      exact hl
    · have hq : q ∈ sp_pr S (sp_la S) ++ [(v.toNatClampNeg, w.toNatClampNeg)] := hq
      rcases List.mem_append.mp hq with z | z
      · exact a9 q z
      · rw [List.mem_singleton.mp z]
        exact ⟨hf1, hf2⟩
  · exact hw
theorem wf_close (hw : sp_wf S) : sp_wf (sp_close S).2 := by
  unfold sp_close
  by_cases h : S.2.2.1 = true ∧ sp_fine S = true
  · rw [if_pos h]
    obtain ⟨ho, hf⟩ := h
    have hlaT := la_T hw ho
    obtain ⟨h1, h2, h3, h4, h5, h6, h7, h8, h9, h10, h11⟩ := hw
    show sp_wf (S.1, S.2.1, false, S.2.2.2)
    refine ⟨h1, h2, fun q => Bool.noConfusion q, h4, fun i hi _ => ?_, h6, h7, h8, h9, h10, h11⟩
    by_cases e : i = sp_la S
    · show sp_wfC S i
      rw [e]
      unfold sp_fine at hf
      have hk := hlaT.1
      unfold sp_wfC
      generalize sp_kd S (sp_la S) = kd at *
      match kd, hk with
      | 0, _ =>
        have hf : ((sp_tx S (sp_la S)).length == 2) = true := hf
        have hf : (sp_tx S (sp_la S)).length = 2 := by simpa using hf
        exact ⟨by omega, fun _ => hf, fun q => by cases q⟩
      | 1, _ =>
        have hf : decide (0 < (sp_tx S (sp_la S)).length) = true := hf
        exact ⟨of_decide_eq_true hf, (fun q => by cases q), (fun q => by cases q)⟩
      | 2, _ =>
        have hf : (decide (0 < (sp_tx S (sp_la S)).length) && sp_all S (sp_nd S (sp_la S)) (sp_tx S (sp_la S))) = true := hf
        rw [Bool.and_eq_true] at hf
        exact ⟨of_decide_eq_true hf.1, (fun q => by cases q), fun _ => hf.2⟩
    · exact h5 i hi (fun q => e q.2)
  · rw [if_neg h]
    exact hw
theorem wf_apart {v w : Int32} (hw : sp_wf S) : sp_wf (sp_apart v w S).2 := by
  unfold sp_apart
  split
  · obtain ⟨h1, h2, h3, h4, h5, h6, h7, h8, h9, h10, h11⟩ := hw
    refine ⟨h1, h2, h3, h4, h5, fun a b => ?_, h7, h8, h9, h10, h11⟩
    show (S.2.2.2.1 a b || (a == v.toNatClampNeg && b == w.toNatClampNeg) || (a == w.toNatClampNeg && b == v.toNatClampNeg)) = (S.2.2.2.1 b a || (b == v.toNatClampNeg && a == w.toNatClampNeg) || (b == w.toNatClampNeg && a == v.toNatClampNeg))
    rw [h6 a b, Bool.and_comm (b == v.toNatClampNeg), Bool.and_comm (b == w.toNatClampNeg), Bool.or_assoc, Bool.or_assoc, Bool.or_comm (a == v.toNatClampNeg && b == w.toNatClampNeg)]
  · exact hw
theorem sum_app (pl : List (List Nat)) (l : List Nat) : sp_sum (pl ++ [l]) = sp_sum pl + l.length := by
  unfold sp_sum
  rw [List.flatten_append, List.length_append]
  simp
theorem wf_push {pl : List (List Nat)} {l : List Nat} (hw : sp_wf S) (hp : ∀ l ∈ pl, sp_wfR S l) (h0 : 0 < l.length) (h1 : ∀ s ∈ l, s < S.1.length) (h2 : sp_var S (l.getD 0 0) = false) : sp_wf (sp_push pl l S).2 := by
  unfold sp_push
  by_cases h : l.length ≤ 1000 ∧ pl.length < 200 ∧ sp_sum pl + l.length + sp_sum S.2.2.2.2.2 ≤ 40000
  · rw [if_pos h]
    refine wf_pile hw ?_ hw.2.2.2.2.2.2.2.1 ?_ (fun m hm => ?_) hw.2.2.2.2.2.2.2.2.2.2
    · rw [List.length_append]
      exact h.2.1
    · rw [sum_app]
      exact h.2.2
    · rcases List.mem_append.mp hm with q | q
      · exact hp m q
      · rw [List.mem_singleton.mp q]
        exact ⟨h0, h.1, h1, h2⟩
  · rw [if_neg h]
    exact wf_fail hw
theorem wf_assert {i : Nat} (hw : sp_wf S) (hi : i < S.2.1.length) (hC : sp_wfC S i) : sp_wf (sp_assert i S).2 := by
  unfold sp_assert
  split
  · exact wf_fail hw
  · split
    · exact wf_fail hw
    · split
      · exact wf_fail hw
      · rename_i be _ _
        have hT := hw.2.2.2.1 i hi
        obtain ⟨s, l, hsl⟩ : ∃ s l, sp_tx S i = s :: l := by
          cases hq : sp_tx S i with
          | nil =>
            have h0 := hC.1
            rw [hq] at h0
            exact absurd h0 (Nat.not_lt_zero _)
          | cons s l => exact ⟨s, l, rfl⟩
        have hv := hT.2.2.2.2.2.1 hC.1
        rw [hsl] at hv
        have hv : sp_var S s = false := hv
        have hmem := sub_mem hw be hT.2.2.2.2.1
        have hsub : sp_sub S be (sp_tx S i) = s :: sp_sub S be l := by
          rw [hsl, sub_cons, hv]
          rfl
        refine wf_push hw (fun m hm => hw.2.2.2.2.2.2.2.2.2.1 m (List.mem_of_mem_take hm)) ?_ hmem ?_
        · rw [hsub]
          exact Nat.succ_pos _
        · rw [hsub]
          exact hv
theorem wf_step {w : Int32} (hw : sp_wf S) : sp_wf (sp_step w S).2 := by
  unfold sp_step
  cases hcl : sp_closed S w with
  | false =>
    rw [if_pos rfl]
    exact hw
  | true =>
    rw [if_neg (by simp)]
    obtain ⟨i, hi, -, h4, hno⟩ := cl_in hw.2.1 hcl
    rw [h4]
    have hC := hw.2.2.2.2.1 i hi hno
    have hT := hw.2.2.2.1 i hi
    by_cases hz : sp_kd S i = 2
    · rw [if_pos hz]
      exact wf_assert hw hi hC
    · rw [if_neg hz]
      exact wf_push hw hw.2.2.2.2.2.2.2.2.2.1 hC.1 hT.2.2.2.2.1 (hT.2.2.2.2.2.1 hC.1)
theorem wf_save (hw : sp_wf S) : sp_wf (sp_save S).2 := by
  unfold sp_save
  by_cases h : S.2.2.2.2.1.length = 0 ∨ 300 ≤ S.2.2.2.2.2.length
  · rw [if_pos h]
    exact hw
  · rw [if_neg h]
    by_cases h2 : 40000 < sp_sum S.2.2.2.2.1 + sp_sum S.2.2.2.2.2 + (sp_row S (S.2.2.2.2.1.length - 1)).length
    · rw [if_pos h2]
      exact wf_fail hw
    · rw [if_neg h2]
      have hr := mw_row hw (r := S.2.2.2.2.1.length - 1) (by omega)
      refine wf_pile hw hw.2.2.2.2.2.2.1 ?_ ?_ hw.2.2.2.2.2.2.2.2.2.1 (fun m hm => ?_)
      · rw [List.length_append]
        show S.2.2.2.2.2.length + 1 ≤ 300
        omega
      · rw [sum_app]
        omega
      · rcases List.mem_append.mp hm with q | q
        · exact hw.2.2.2.2.2.2.2.2.2.2 m q
        · rw [List.mem_singleton.mp q]
          exact hr
theorem wf_again {w : Int32} (hw : sp_wf S) : sp_wf (sp_again w S).2 := by
  unfold sp_again
  by_cases h : 0 ≤ w ∧ w.toNatClampNeg < S.2.2.2.2.2.length
  · rw [if_pos h]
    obtain ⟨a1, a2, a3, a4⟩ := mw_sav hw h.2
    exact wf_push hw hw.2.2.2.2.2.2.2.2.2.1 a1 a3 a4
  · rw [if_neg h]
    exact hw
theorem wf_clear (hw : sp_wf S) : sp_wf (sp_clear S).2 := wf_fail (f := 0) hw
theorem wf_new : sp_wf sp_new := ⟨Nat.zero_le _, Nat.zero_le _, fun q => Bool.noConfusion q, fun i hi => absurd hi (Nat.not_lt_zero _), fun i hi => absurd hi (Nat.not_lt_zero _), fun _ _ => rfl, Nat.zero_le _, Nat.zero_le _, Nat.zero_le _, fun l hl => absurd hl List.not_mem_nil, fun l hl => absurd hl List.not_mem_nil⟩
end WF
