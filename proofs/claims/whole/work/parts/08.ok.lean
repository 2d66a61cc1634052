/-! THE TABLES ARE RIGHT: checks, by evaluation, and what they give. -/
def en_in (i : Nat) (w : Cond) : Bool := decide (lw_tbl[i]? = some w) && goodWord w
theorem en_in_ok {i : Nat} {w : Cond} (h : en_in i w = true) : w ∈ en_T0 := by
  unfold en_in at h
  rw [Bool.and_eq_true] at h
  exact List.mem_filter.mpr ⟨List.mem_of_getElem? (of_decide_eq_true h.1), h.2⟩
theorem en_zip {α β : Type} {l : List α} {m : List β} {a : α} (h : a ∈ l) (hl : l.length ≤ m.length) : ∃ b, (a, b) ∈ l.zip m := by
  induction l generalizing m with
  | nil => cases h
  | cons x l ih =>
    cases m with
    | nil => simp at hl
    | cons y m =>
      rcases List.mem_cons.mp h with rfl | h
      · exact ⟨y, List.mem_cons_self⟩
      · obtain ⟨b, hb⟩ := ih h (by simpa using hl)
        exact ⟨b, List.mem_cons_of_mem _ hb⟩
def en_ckC (e : vw_C × List Nat) : Bool := match e with
  | (r, ps) => decide (r.2.2 ≤ ps.length) && (List.range r.2.2).all (fun k => en_in (ps.getD k 0) (u_lay r.1 r.2.1 k)) && (List.range r.2.2).all (fun a => (List.range r.2.2).all (fun b => a == b || decide ((r.2.1 a).2.1 ≠ (r.2.1 b).2.1))) && (List.range r.2.2).all (fun k => (parseFieldDescriptor (r.2.1 k).2.2.1).isSome)
set_option maxRecDepth 100000 in
theorem en_ckC_all : (vwCl.zip tp_cls).all en_ckC = true := by decide +kernel
theorem en_cls {ci : Nat} {r : vw_C} (h : vwCl[ci]? = some r) : (∀ w ∈ u_ws r.1 r.2.1 r.2.2, w ∈ en_T0) ∧ (∀ a, a < r.2.2 → ∀ b, b < r.2.2 → a ≠ b → (r.2.1 a).2.1 ≠ (r.2.1 b).2.1) ∧ ∃ ty0 : Nat → FieldType, ∀ k, k < r.2.2 → parseFieldDescriptor (r.2.1 k).2.2.1 = some (ty0 k) := by
  obtain ⟨ps, hps⟩ := en_zip (m := tp_cls) (List.mem_of_getElem? h) (by decide)
  have h1 := List.all_eq_true.mp en_ckC_all _ hps
  unfold en_ckC at h1
  dsimp only at h1
  rw [Bool.and_eq_true, Bool.and_eq_true, Bool.and_eq_true] at h1
  obtain ⟨⟨⟨-, h1⟩, h2⟩, h3⟩ := h1
  refine ⟨fun w hw => ?_, fun a ha b hb hab => ?_, fun k => (parseFieldDescriptor (r.2.1 k).2.2.1).getD .int, fun k hk => ?_⟩
  · obtain ⟨k, hk, rfl⟩ := List.mem_map.mp hw
    exact en_in_ok (List.all_eq_true.mp h1 k hk)
  · have h4 := List.all_eq_true.mp (List.all_eq_true.mp h2 a (List.mem_range.mpr ha)) b (List.mem_range.mpr hb)
    rw [Bool.or_eq_true] at h4
    rcases h4 with h4 | h4
    · exact absurd (by simpa using h4) hab
    · exact of_decide_eq_true h4
  · have h4 := List.all_eq_true.mp h3 k (List.mem_range.mpr hk)
    cases h5 : parseFieldDescriptor (r.2.1 k).2.2.1 with
    | none => rw [h5] at h4; cases h4
    | some t => simp only [h5]; rfl
def en_kd (d : Option FieldType) (kd : Nat) : Bool := match d with
  | some .int => kd == 0
  | some .boolean => kd == 2
  | some (.object _) => kd == 1
  | some (.array _) => kd == 1
  | _ => false
def en_ckF (e : (Nat × Nat × Nat × Nat × Nat × Bool) × Nat) : Bool := match e with
  | ((o, n, ci, kf, kd, fin), i) => match vwCl[ci]? with
    | none => false
    | some r => decide (kf < r.2.2) && en_in i (Cond.fieldLink (mt_cn o) n (r.2.1 kf).1 (r.2.1 kf).2.1 (r.2.1 kf).2.2.1) && ((r.2.1 kf).2.2.2 == fin) && (!fin || kd == 9 || decide ((r.2.1 kf).1 = mt_cn o)) && (kd == 9 || en_kd (parseFieldDescriptor (r.2.1 kf).2.2.1) kd)
set_option maxRecDepth 100000 in
theorem en_ckF_all : (tb_flds.zip tp_flds).all en_ckF = true := by decide +kernel
theorem en_find {α : Type} {l : List (Nat × Nat × α)} {o n : Nat} {q : α} (h : (l.find? (fun e => e.1 == o && e.2.1 == n)).map (fun e => e.2.2) = some q) : (o, n, q) ∈ l := by
  cases hf : l.find? (fun e => e.1 == o && e.2.1 == n) with
  | none => rw [hf] at h; cases h
  | some e =>
    rw [hf] at h
    have h1 := List.mem_of_find?_eq_some hf
    have h2 := List.find?_some hf
    rw [Bool.and_eq_true] at h2
    obtain ⟨a, b, c⟩ := e
    have e1 : a = o := by simpa using h2.1
    have e2 : b = n := by simpa using h2.2
    have e3 : c = q := by simpa using h
    subst e1 e2 e3
    exact h1
theorem en_tokF : ∀ o n q, tb_fld o n = some q → en_okF o n q := by
  intro o n q h
  obtain ⟨ci, kf, kd, fin⟩ := q
  obtain ⟨i, hi⟩ := en_zip (m := tp_flds) (en_find h) (by decide +kernel)
  have h1 := List.all_eq_true.mp en_ckF_all _ hi
  unfold en_ckF at h1
  dsimp only at h1
  split at h1
  · cases h1
  · rename_i r hr
    rw [Bool.and_eq_true, Bool.and_eq_true, Bool.and_eq_true, Bool.and_eq_true] at h1
    obtain ⟨⟨⟨⟨h1, h2⟩, h3⟩, h4⟩, h5⟩ := h1
    obtain ⟨c1, c2, c3⟩ := en_cls hr
    refine ⟨r, hr, of_decide_eq_true h1, en_in_ok h2, c1, c2, c3, by simpa using h3, fun hf h9 => ?_, fun ty0 hty => ?_⟩
    · have hf : fin = true := hf
      rw [Bool.or_eq_true, Bool.or_eq_true] at h4
      rcases h4 with (h4 | h4) | h4
      · rw [hf] at h4; cases h4
      · exact absurd (show kd = 9 by simpa using h4) h9
      · exact of_decide_eq_true h4
    · rw [Bool.or_eq_true] at h5
      rcases h5 with h5 | h5
      · exact Or.inr (Or.inr (Or.inr (by simpa using h5)))
      have h6 := hty kf (of_decide_eq_true h1)
      show (kd = 0 ∧ ty0 kf = .int) ∨ (kd = 1 ∧ ((∃ n, ty0 kf = .object n) ∨ ∃ t, ty0 kf = .array t)) ∨ (kd = 2 ∧ ty0 kf = .boolean) ∨ kd = 9
      rw [h6] at h5
      cases h7 : ty0 kf <;> rw [h7] at h5
      case int => exact Or.inl ⟨by simpa [en_kd] using h5, rfl⟩
      case boolean => exact Or.inr (Or.inr (Or.inl ⟨by simpa [en_kd] using h5, rfl⟩))
      case object => exact Or.inr (Or.inl ⟨by simpa [en_kd] using h5, Or.inl ⟨_, rfl⟩⟩)
      case array => exact Or.inr (Or.inl ⟨by simpa [en_kd] using h5, Or.inr ⟨_, rfl⟩⟩)
      all_goals cases h5
def en_nr (v : Value) : Bool := match v with
  | .ref _ => false
  | _ => true
def en_ckN (e : (Nat × Nat × Nat × List Value) × List Nat) : Bool := match e with
  | ((o, n, ci, fs), ps) => match vwCl[ci]? with
    | none => false
    | some r => en_in (ps.getD 0 0) (Cond.classLink (mt_cn o) n r.1) && en_in (ps.getD 1 0) (Cond.instantiable r.1 r.2.2) && en_in (ps.getD 2 0) (Cond.initialized r.1) && (fs.length == r.2.2) && (List.range r.2.2).all (fun j => decide ((parseFieldDescriptor (r.2.1 j).2.2.1).map defaultValue = some (vp_V fs j))) && fs.all en_nr
set_option maxRecDepth 100000 in
theorem en_ckN_all : (tb_news.zip tp_news).all en_ckN = true := by decide +kernel
theorem en_tokN : ∀ o n q, tb_new o n = some q → en_okN o n q := by
  intro o n q h
  obtain ⟨ci, fs⟩ := q
  obtain ⟨i, hi⟩ := en_zip (m := tp_news) (en_find h) (by decide +kernel)
  have h1 := List.all_eq_true.mp en_ckN_all _ hi
  unfold en_ckN at h1
  dsimp only at h1
  split at h1
  · cases h1
  · rename_i r hr
    rw [Bool.and_eq_true, Bool.and_eq_true, Bool.and_eq_true, Bool.and_eq_true, Bool.and_eq_true] at h1
    obtain ⟨⟨⟨⟨⟨h1, h2⟩, h3⟩, h4⟩, h5⟩, h6⟩ := h1
    obtain ⟨c1, c2, c3⟩ := en_cls hr
    refine ⟨r, hr, en_in_ok h1, en_in_ok h2, en_in_ok h3, c1, c3, by simpa using h4, fun ty0 hty j hj => ?_, fun ρ v hv => ?_⟩
    · have h7 := of_decide_eq_true (List.all_eq_true.mp h5 j (List.mem_range.mpr hj))
      rw [hty j hj] at h7
      exact Option.some.inj h7
    · have h7 := List.all_eq_true.mp h6 v hv
      cases v <;> first | rfl | cases h7
def en_ckY (y : Nat) : Bool := en_in (tp_y.getD y (0, 0)).2 (Cond.initialized (mt_name y).cls) && decide ((mt_name y).cls ≠ "java/lang/invoke/MethodHandle" ∧ (mt_name y).cls ≠ "java/lang/invoke/VarHandle") && decide (mt_nl y ≤ 21)
set_option maxRecDepth 100000 in
theorem en_ckY_all : (List.range mt_law).all en_ckY = true := by decide +kernel
set_option maxRecDepth 100000 in
theorem en_cw0 : Cond.code (mt_name 0) (mt_code 0) (mt_nl 0) (mt_ret 0) ∈ en_T0 := List.mem_filter.mpr ⟨List.mem_of_getElem? (i := 54) rfl, rfl⟩
set_option maxRecDepth 100000 in
theorem en_cw1 : Cond.code (mt_name 1) (mt_code 1) (mt_nl 1) (mt_ret 1) ∈ en_T0 := List.mem_filter.mpr ⟨List.mem_of_getElem? (i := 184) rfl, rfl⟩
set_option maxRecDepth 100000 in
theorem en_cw2 : Cond.code (mt_name 2) (mt_code 2) (mt_nl 2) (mt_ret 2) ∈ en_T0 := List.mem_filter.mpr ⟨List.mem_of_getElem? (i := 192) rfl, rfl⟩
set_option maxRecDepth 100000 in
theorem en_cw3 : Cond.code (mt_name 3) (mt_code 3) (mt_nl 3) (mt_ret 3) ∈ en_T0 := List.mem_filter.mpr ⟨List.mem_of_getElem? (i := 213) rfl, rfl⟩
set_option maxRecDepth 100000 in
theorem en_cw4 : Cond.code (mt_name 4) (mt_code 4) (mt_nl 4) (mt_ret 4) ∈ en_T0 := List.mem_filter.mpr ⟨List.mem_of_getElem? (i := 274) rfl, rfl⟩
set_option maxRecDepth 100000 in
theorem en_cw5 : Cond.code (mt_name 5) (mt_code 5) (mt_nl 5) (mt_ret 5) ∈ en_T0 := List.mem_filter.mpr ⟨List.mem_of_getElem? (i := 318) rfl, rfl⟩
set_option maxRecDepth 100000 in
theorem en_cw6 : Cond.code (mt_name 6) (mt_code 6) (mt_nl 6) (mt_ret 6) ∈ en_T0 := List.mem_filter.mpr ⟨List.mem_of_getElem? (i := 330) rfl, rfl⟩
set_option maxRecDepth 100000 in
theorem en_cw7 : Cond.code (mt_name 7) (mt_code 7) (mt_nl 7) (mt_ret 7) ∈ en_T0 := List.mem_filter.mpr ⟨List.mem_of_getElem? (i := 342) rfl, rfl⟩
set_option maxRecDepth 100000 in
theorem en_cw8 : Cond.code (mt_name 8) (mt_code 8) (mt_nl 8) (mt_ret 8) ∈ en_T0 := List.mem_filter.mpr ⟨List.mem_of_getElem? (i := 364) rfl, rfl⟩
set_option maxRecDepth 100000 in
theorem en_cw9 : Cond.code (mt_name 9) (mt_code 9) (mt_nl 9) (mt_ret 9) ∈ en_T0 := List.mem_filter.mpr ⟨List.mem_of_getElem? (i := 370) rfl, rfl⟩
set_option maxRecDepth 100000 in
theorem en_cw10 : Cond.code (mt_name 10) (mt_code 10) (mt_nl 10) (mt_ret 10) ∈ en_T0 := List.mem_filter.mpr ⟨List.mem_of_getElem? (i := 376) rfl, rfl⟩
set_option maxRecDepth 100000 in
theorem en_cw11 : Cond.code (mt_name 11) (mt_code 11) (mt_nl 11) (mt_ret 11) ∈ en_T0 := List.mem_filter.mpr ⟨List.mem_of_getElem? (i := 404) rfl, rfl⟩
set_option maxRecDepth 100000 in
theorem en_cw12 : Cond.code (mt_name 12) (mt_code 12) (mt_nl 12) (mt_ret 12) ∈ en_T0 := List.mem_filter.mpr ⟨List.mem_of_getElem? (i := 434) rfl, rfl⟩
set_option maxRecDepth 100000 in
theorem en_cw13 : Cond.code (mt_name 13) (mt_code 13) (mt_nl 13) (mt_ret 13) ∈ en_T0 := List.mem_filter.mpr ⟨List.mem_of_getElem? (i := 456) rfl, rfl⟩
set_option maxRecDepth 100000 in
theorem en_cw14 : Cond.code (mt_name 14) (mt_code 14) (mt_nl 14) (mt_ret 14) ∈ en_T0 := List.mem_filter.mpr ⟨List.mem_of_getElem? (i := 465) rfl, rfl⟩
set_option maxRecDepth 100000 in
theorem en_cw15 : Cond.code (mt_name 15) (mt_code 15) (mt_nl 15) (mt_ret 15) ∈ en_T0 := List.mem_filter.mpr ⟨List.mem_of_getElem? (i := 469) rfl, rfl⟩
set_option maxRecDepth 100000 in
theorem en_cw16 : Cond.code (mt_name 16) (mt_code 16) (mt_nl 16) (mt_ret 16) ∈ en_T0 := List.mem_filter.mpr ⟨List.mem_of_getElem? (i := 473) rfl, rfl⟩
set_option maxRecDepth 100000 in
theorem en_cw17 : Cond.code (mt_name 17) (mt_code 17) (mt_nl 17) (mt_ret 17) ∈ en_T0 := List.mem_filter.mpr ⟨List.mem_of_getElem? (i := 478) rfl, rfl⟩
set_option maxRecDepth 100000 in
theorem en_cw18 : Cond.code (mt_name 18) (mt_code 18) (mt_nl 18) (mt_ret 18) ∈ en_T0 := List.mem_filter.mpr ⟨List.mem_of_getElem? (i := 482) rfl, rfl⟩
set_option maxRecDepth 100000 in
theorem en_cw19 : Cond.code (mt_name 19) (mt_code 19) (mt_nl 19) (mt_ret 19) ∈ en_T0 := List.mem_filter.mpr ⟨List.mem_of_getElem? (i := 487) rfl, rfl⟩
set_option maxRecDepth 100000 in
theorem en_cw20 : Cond.code (mt_name 20) (mt_code 20) (mt_nl 20) (mt_ret 20) ∈ en_T0 := List.mem_filter.mpr ⟨List.mem_of_getElem? (i := 491) rfl, rfl⟩
set_option maxRecDepth 100000 in
theorem en_cw21 : Cond.code (mt_name 21) (mt_code 21) (mt_nl 21) (mt_ret 21) ∈ en_T0 := List.mem_filter.mpr ⟨List.mem_of_getElem? (i := 499) rfl, rfl⟩
set_option maxRecDepth 100000 in
theorem en_cw22 : Cond.code (mt_name 22) (mt_code 22) (mt_nl 22) (mt_ret 22) ∈ en_T0 := List.mem_filter.mpr ⟨List.mem_of_getElem? (i := 503) rfl, rfl⟩
set_option maxRecDepth 100000 in
theorem en_cw23 : Cond.code (mt_name 23) (mt_code 23) (mt_nl 23) (mt_ret 23) ∈ en_T0 := List.mem_filter.mpr ⟨List.mem_of_getElem? (i := 507) rfl, rfl⟩
set_option maxRecDepth 100000 in
theorem en_cw24 : Cond.code (mt_name 24) (mt_code 24) (mt_nl 24) (mt_ret 24) ∈ en_T0 := List.mem_filter.mpr ⟨List.mem_of_getElem? (i := 511) rfl, rfl⟩
set_option maxRecDepth 100000 in
theorem en_cw25 : Cond.code (mt_name 25) (mt_code 25) (mt_nl 25) (mt_ret 25) ∈ en_T0 := List.mem_filter.mpr ⟨List.mem_of_getElem? (i := 516) rfl, rfl⟩
set_option maxRecDepth 100000 in
theorem en_cw26 : Cond.code (mt_name 26) (mt_code 26) (mt_nl 26) (mt_ret 26) ∈ en_T0 := List.mem_filter.mpr ⟨List.mem_of_getElem? (i := 86) rfl, rfl⟩
set_option maxRecDepth 100000 in
theorem en_cw27 : Cond.code (mt_name 27) (mt_code 27) (mt_nl 27) (mt_ret 27) ∈ en_T0 := List.mem_filter.mpr ⟨List.mem_of_getElem? (i := 200) rfl, rfl⟩
set_option maxRecDepth 100000 in
theorem en_cw28 : Cond.code (mt_name 28) (mt_code 28) (mt_nl 28) (mt_ret 28) ∈ en_T0 := List.mem_filter.mpr ⟨List.mem_of_getElem? (i := 204) rfl, rfl⟩
set_option maxRecDepth 100000 in
theorem en_cw29 : Cond.code (mt_name 29) (mt_code 29) (mt_nl 29) (mt_ret 29) ∈ en_T0 := List.mem_filter.mpr ⟨List.mem_of_getElem? (i := 208) rfl, rfl⟩
set_option maxRecDepth 100000 in
theorem en_cw30 : Cond.code (mt_name 30) (mt_code 30) (mt_nl 30) (mt_ret 30) ∈ en_T0 := List.mem_filter.mpr ⟨List.mem_of_getElem? (i := 229) rfl, rfl⟩
set_option maxRecDepth 100000 in
theorem en_cw31 : Cond.code (mt_name 31) (mt_code 31) (mt_nl 31) (mt_ret 31) ∈ en_T0 := List.mem_filter.mpr ⟨List.mem_of_getElem? (i := 233) rfl, rfl⟩
set_option maxRecDepth 100000 in
theorem en_cw32 : Cond.code (mt_name 32) (mt_code 32) (mt_nl 32) (mt_ret 32) ∈ en_T0 := List.mem_filter.mpr ⟨List.mem_of_getElem? (i := 250) rfl, rfl⟩
set_option maxRecDepth 100000 in
theorem en_cw33 : Cond.code (mt_name 33) (mt_code 33) (mt_nl 33) (mt_ret 33) ∈ en_T0 := List.mem_filter.mpr ⟨List.mem_of_getElem? (i := 254) rfl, rfl⟩
set_option maxRecDepth 100000 in
theorem en_cw34 : Cond.code (mt_name 34) (mt_code 34) (mt_nl 34) (mt_ret 34) ∈ en_T0 := List.mem_filter.mpr ⟨List.mem_of_getElem? (i := 298) rfl, rfl⟩
set_option maxRecDepth 100000 in
theorem en_cw35 : Cond.code (mt_name 35) (mt_code 35) (mt_nl 35) (mt_ret 35) ∈ en_T0 := List.mem_filter.mpr ⟨List.mem_of_getElem? (i := 396) rfl, rfl⟩
set_option maxRecDepth 100000 in
theorem en_cw36 : Cond.code (mt_name 36) (mt_code 36) (mt_nl 36) (mt_ret 36) ∈ en_T0 := List.mem_filter.mpr ⟨List.mem_of_getElem? (i := 400) rfl, rfl⟩
set_option maxRecDepth 100000 in
theorem en_cw37 : Cond.code (mt_name 37) (mt_code 37) (mt_nl 37) (mt_ret 37) ∈ en_T0 := List.mem_filter.mpr ⟨List.mem_of_getElem? (i := 412) rfl, rfl⟩
set_option maxRecDepth 100000 in
theorem en_cw38 : Cond.code (mt_name 38) (mt_code 38) (mt_nl 38) (mt_ret 38) ∈ en_T0 := List.mem_filter.mpr ⟨List.mem_of_getElem? (i := 429) rfl, rfl⟩
set_option maxRecDepth 100000 in
theorem en_cw39 : Cond.code (mt_name 39) (mt_code 39) (mt_nl 39) (mt_ret 39) ∈ en_T0 := List.mem_filter.mpr ⟨List.mem_of_getElem? (i := 438) rfl, rfl⟩
set_option maxRecDepth 100000 in
theorem en_cw40 : Cond.code (mt_name 40) (mt_code 40) (mt_nl 40) (mt_ret 40) ∈ en_T0 := List.mem_filter.mpr ⟨List.mem_of_getElem? (i := 442) rfl, rfl⟩
set_option maxRecDepth 100000 in
theorem en_cw41 : Cond.code (mt_name 41) (mt_code 41) (mt_nl 41) (mt_ret 41) ∈ en_T0 := List.mem_filter.mpr ⟨List.mem_of_getElem? (i := 448) rfl, rfl⟩
set_option maxRecDepth 100000 in
theorem en_cw42 : Cond.code (mt_name 42) (mt_code 42) (mt_nl 42) (mt_ret 42) ∈ en_T0 := List.mem_filter.mpr ⟨List.mem_of_getElem? (i := 452) rfl, rfl⟩
set_option maxRecDepth 100000 in
theorem en_cw43 : Cond.code (mt_name 43) (mt_code 43) (mt_nl 43) (mt_ret 43) ∈ en_T0 := List.mem_filter.mpr ⟨List.mem_of_getElem? (i := 460) rfl, rfl⟩
set_option maxRecDepth 100000 in
theorem en_cw44 : Cond.code (mt_name 44) (mt_code 44) (mt_nl 44) (mt_ret 44) ∈ en_T0 := List.mem_filter.mpr ⟨List.mem_of_getElem? (i := 521) rfl, rfl⟩
set_option maxRecDepth 100000 in
theorem en_cw45 : Cond.code (mt_name 45) (mt_code 45) (mt_nl 45) (mt_ret 45) ∈ en_T0 := List.mem_filter.mpr ⟨List.mem_of_getElem? (i := 62) rfl, rfl⟩
set_option maxRecDepth 100000 in
theorem en_cw46 : Cond.code (mt_name 46) (mt_code 46) (mt_nl 46) (mt_ret 46) ∈ en_T0 := List.mem_filter.mpr ⟨List.mem_of_getElem? (i := 188) rfl, rfl⟩
set_option maxRecDepth 100000 in
theorem en_cw47 : Cond.code (mt_name 47) (mt_code 47) (mt_nl 47) (mt_ret 47) ∈ en_T0 := List.mem_filter.mpr ⟨List.mem_of_getElem? (i := 221) rfl, rfl⟩
set_option maxRecDepth 100000 in
theorem en_cw48 : Cond.code (mt_name 48) (mt_code 48) (mt_nl 48) (mt_ret 48) ∈ en_T0 := List.mem_filter.mpr ⟨List.mem_of_getElem? (i := 237) rfl, rfl⟩
set_option maxRecDepth 100000 in
theorem en_cw49 : Cond.code (mt_name 49) (mt_code 49) (mt_nl 49) (mt_ret 49) ∈ en_T0 := List.mem_filter.mpr ⟨List.mem_of_getElem? (i := 246) rfl, rfl⟩
set_option maxRecDepth 100000 in
theorem en_cw50 : Cond.code (mt_name 50) (mt_code 50) (mt_nl 50) (mt_ret 50) ∈ en_T0 := List.mem_filter.mpr ⟨List.mem_of_getElem? (i := 346) rfl, rfl⟩
set_option maxRecDepth 100000 in
theorem en_cw51 : Cond.code (mt_name 51) (mt_code 51) (mt_nl 51) (mt_ret 51) ∈ en_T0 := List.mem_filter.mpr ⟨List.mem_of_getElem? (i := 350) rfl, rfl⟩
set_option maxRecDepth 100000 in
theorem en_cw52 : Cond.code (mt_name 52) (mt_code 52) (mt_nl 52) (mt_ret 52) ∈ en_T0 := List.mem_filter.mpr ⟨List.mem_of_getElem? (i := 355) rfl, rfl⟩
set_option maxRecDepth 100000 in
theorem en_cw53 : Cond.code (mt_name 53) (mt_code 53) (mt_nl 53) (mt_ret 53) ∈ en_T0 := List.mem_filter.mpr ⟨List.mem_of_getElem? (i := 358) rfl, rfl⟩
set_option maxRecDepth 100000 in
theorem en_cw54 : Cond.code (mt_name 54) (mt_code 54) (mt_nl 54) (mt_ret 54) ∈ en_T0 := List.mem_filter.mpr ⟨List.mem_of_getElem? (i := 495) rfl, rfl⟩
set_option maxRecDepth 100000 in
theorem en_cw55 : Cond.code (mt_name 55) (mt_code 55) (mt_nl 55) (mt_ret 55) ∈ en_T0 := List.mem_filter.mpr ⟨List.mem_of_getElem? (i := 80) rfl, rfl⟩
set_option maxRecDepth 100000 in
theorem en_cw56 : Cond.code (mt_name 56) (mt_code 56) (mt_nl 56) (mt_ret 56) ∈ en_T0 := List.mem_filter.mpr ⟨List.mem_of_getElem? (i := 196) rfl, rfl⟩
set_option maxRecDepth 100000 in
theorem en_cw57 : Cond.code (mt_name 57) (mt_code 57) (mt_nl 57) (mt_ret 57) ∈ en_T0 := List.mem_filter.mpr ⟨List.mem_of_getElem? (i := 217) rfl, rfl⟩
set_option maxRecDepth 100000 in
theorem en_cw58 : Cond.code (mt_name 58) (mt_code 58) (mt_nl 58) (mt_ret 58) ∈ en_T0 := List.mem_filter.mpr ⟨List.mem_of_getElem? (i := 225) rfl, rfl⟩
set_option maxRecDepth 100000 in
theorem en_cw59 : Cond.code (mt_name 59) (mt_code 59) (mt_nl 59) (mt_ret 59) ∈ en_T0 := List.mem_filter.mpr ⟨List.mem_of_getElem? (i := 241) rfl, rfl⟩
set_option maxRecDepth 100000 in
theorem en_cw60 : Cond.code (mt_name 60) (mt_code 60) (mt_nl 60) (mt_ret 60) ∈ en_T0 := List.mem_filter.mpr ⟨List.mem_of_getElem? (i := 278) rfl, rfl⟩
set_option maxRecDepth 100000 in
theorem en_cw61 : Cond.code (mt_name 61) (mt_code 61) (mt_nl 61) (mt_ret 61) ∈ en_T0 := List.mem_filter.mpr ⟨List.mem_of_getElem? (i := 282) rfl, rfl⟩
set_option maxRecDepth 100000 in
theorem en_cw62 : Cond.code (mt_name 62) (mt_code 62) (mt_nl 62) (mt_ret 62) ∈ en_T0 := List.mem_filter.mpr ⟨List.mem_of_getElem? (i := 286) rfl, rfl⟩
set_option maxRecDepth 100000 in
theorem en_cw63 : Cond.code (mt_name 63) (mt_code 63) (mt_nl 63) (mt_ret 63) ∈ en_T0 := List.mem_filter.mpr ⟨List.mem_of_getElem? (i := 290) rfl, rfl⟩
set_option maxRecDepth 100000 in
theorem en_cw64 : Cond.code (mt_name 64) (mt_code 64) (mt_nl 64) (mt_ret 64) ∈ en_T0 := List.mem_filter.mpr ⟨List.mem_of_getElem? (i := 294) rfl, rfl⟩
set_option maxRecDepth 100000 in
theorem en_cw65 : Cond.code (mt_name 65) (mt_code 65) (mt_nl 65) (mt_ret 65) ∈ en_T0 := List.mem_filter.mpr ⟨List.mem_of_getElem? (i := 302) rfl, rfl⟩
set_option maxRecDepth 100000 in
theorem en_cw66 : Cond.code (mt_name 66) (mt_code 66) (mt_nl 66) (mt_ret 66) ∈ en_T0 := List.mem_filter.mpr ⟨List.mem_of_getElem? (i := 306) rfl, rfl⟩
set_option maxRecDepth 100000 in
theorem en_cw67 : Cond.code (mt_name 67) (mt_code 67) (mt_nl 67) (mt_ret 67) ∈ en_T0 := List.mem_filter.mpr ⟨List.mem_of_getElem? (i := 310) rfl, rfl⟩
set_option maxRecDepth 100000 in
theorem en_cw68 : Cond.code (mt_name 68) (mt_code 68) (mt_nl 68) (mt_ret 68) ∈ en_T0 := List.mem_filter.mpr ⟨List.mem_of_getElem? (i := 314) rfl, rfl⟩
set_option maxRecDepth 100000 in
theorem en_cw69 : Cond.code (mt_name 69) (mt_code 69) (mt_nl 69) (mt_ret 69) ∈ en_T0 := List.mem_filter.mpr ⟨List.mem_of_getElem? (i := 322) rfl, rfl⟩
set_option maxRecDepth 100000 in
theorem en_cw70 : Cond.code (mt_name 70) (mt_code 70) (mt_nl 70) (mt_ret 70) ∈ en_T0 := List.mem_filter.mpr ⟨List.mem_of_getElem? (i := 326) rfl, rfl⟩
set_option maxRecDepth 100000 in
theorem en_cw71 : Cond.code (mt_name 71) (mt_code 71) (mt_nl 71) (mt_ret 71) ∈ en_T0 := List.mem_filter.mpr ⟨List.mem_of_getElem? (i := 334) rfl, rfl⟩
set_option maxRecDepth 100000 in
theorem en_cw72 : Cond.code (mt_name 72) (mt_code 72) (mt_nl 72) (mt_ret 72) ∈ en_T0 := List.mem_filter.mpr ⟨List.mem_of_getElem? (i := 338) rfl, rfl⟩
set_option maxRecDepth 100000 in
theorem en_cw73 : Cond.code (mt_name 73) (mt_code 73) (mt_nl 73) (mt_ret 73) ∈ en_T0 := List.mem_filter.mpr ⟨List.mem_of_getElem? (i := 136) rfl, rfl⟩
set_option maxRecDepth 100000 in
theorem en_cw74 : Cond.code (mt_name 74) (mt_code 74) (mt_nl 74) (mt_ret 74) ∈ en_T0 := List.mem_filter.mpr ⟨List.mem_of_getElem? (i := 381) rfl, rfl⟩
set_option maxRecDepth 100000 in
theorem en_cw75 : Cond.code (mt_name 75) (mt_code 75) (mt_nl 75) (mt_ret 75) ∈ en_T0 := List.mem_filter.mpr ⟨List.mem_of_getElem? (i := 388) rfl, rfl⟩
set_option maxRecDepth 100000 in
theorem en_cw76 : Cond.code (mt_name 76) (mt_code 76) (mt_nl 76) (mt_ret 76) ∈ en_T0 := List.mem_filter.mpr ⟨List.mem_of_getElem? (i := 392) rfl, rfl⟩
set_option maxRecDepth 100000 in
theorem en_cw77 : Cond.code (mt_name 77) (mt_code 77) (mt_nl 77) (mt_ret 77) ∈ en_T0 := List.mem_filter.mpr ⟨List.mem_of_getElem? (i := 408) rfl, rfl⟩
set_option maxRecDepth 100000 in
theorem en_cw78 : Cond.code (mt_name 78) (mt_code 78) (mt_nl 78) (mt_ret 78) ∈ en_T0 := List.mem_filter.mpr ⟨List.mem_of_getElem? (i := 419) rfl, rfl⟩
set_option maxRecDepth 100000 in
theorem en_cw79 : Cond.code (mt_name 79) (mt_code 79) (mt_nl 79) (mt_ret 79) ∈ en_T0 := List.mem_filter.mpr ⟨List.mem_of_getElem? (i := 424) rfl, rfl⟩
set_option maxRecDepth 100000 in
theorem en_cw80 : Cond.code (mt_name 80) (mt_code 80) (mt_nl 80) (mt_ret 80) ∈ en_T0 := List.mem_filter.mpr ⟨List.mem_of_getElem? (i := 526) rfl, rfl⟩
set_option maxRecDepth 100000 in
theorem en_cw81 : Cond.code (mt_name 81) (mt_code 81) (mt_nl 81) (mt_ret 81) ∈ en_T0 := List.mem_filter.mpr ⟨List.mem_of_getElem? (i := 605) rfl, rfl⟩
set_option maxRecDepth 100000 in
theorem en_cw82 : Cond.code (mt_name 82) (mt_code 82) (mt_nl 82) (mt_ret 82) ∈ en_T0 := List.mem_filter.mpr ⟨List.mem_of_getElem? (i := 609) rfl, rfl⟩
set_option maxRecDepth 100000 in
theorem en_cw83 : Cond.code (mt_name 83) (mt_code 83) (mt_nl 83) (mt_ret 83) ∈ en_T0 := List.mem_filter.mpr ⟨List.mem_of_getElem? (i := 613) rfl, rfl⟩
set_option maxRecDepth 100000 in
theorem en_cw84 : Cond.code (mt_name 84) (mt_code 84) (mt_nl 84) (mt_ret 84) ∈ en_T0 := List.mem_filter.mpr ⟨List.mem_of_getElem? (i := 617) rfl, rfl⟩
set_option maxRecDepth 100000 in
theorem en_cw85 : Cond.code (mt_name 85) (mt_code 85) (mt_nl 85) (mt_ret 85) ∈ en_T0 := List.mem_filter.mpr ⟨List.mem_of_getElem? (i := 621) rfl, rfl⟩
set_option maxRecDepth 100000 in
theorem en_cw86 : Cond.code (mt_name 86) (mt_code 86) (mt_nl 86) (mt_ret 86) ∈ en_T0 := List.mem_filter.mpr ⟨List.mem_of_getElem? (i := 625) rfl, rfl⟩
set_option maxRecDepth 100000 in
theorem en_cw87 : Cond.code (mt_name 87) (mt_code 87) (mt_nl 87) (mt_ret 87) ∈ en_T0 := List.mem_filter.mpr ⟨List.mem_of_getElem? (i := 629) rfl, rfl⟩
set_option maxRecDepth 100000 in
theorem en_cw88 : Cond.code (mt_name 88) (mt_code 88) (mt_nl 88) (mt_ret 88) ∈ en_T0 := List.mem_filter.mpr ⟨List.mem_of_getElem? (i := 633) rfl, rfl⟩
set_option maxRecDepth 100000 in
theorem en_cw89 : Cond.code (mt_name 89) (mt_code 89) (mt_nl 89) (mt_ret 89) ∈ en_T0 := List.mem_filter.mpr ⟨List.mem_of_getElem? (i := 637) rfl, rfl⟩
set_option maxRecDepth 100000 in
theorem en_cw90 : Cond.code (mt_name 90) (mt_code 90) (mt_nl 90) (mt_ret 90) ∈ en_T0 := List.mem_filter.mpr ⟨List.mem_of_getElem? (i := 641) rfl, rfl⟩
set_option maxRecDepth 100000 in
theorem en_cw91 : Cond.code (mt_name 91) (mt_code 91) (mt_nl 91) (mt_ret 91) ∈ en_T0 := List.mem_filter.mpr ⟨List.mem_of_getElem? (i := 645) rfl, rfl⟩
set_option maxRecDepth 100000 in
theorem en_cw92 : Cond.code (mt_name 92) (mt_code 92) (mt_nl 92) (mt_ret 92) ∈ en_T0 := List.mem_filter.mpr ⟨List.mem_of_getElem? (i := 649) rfl, rfl⟩
set_option maxRecDepth 100000 in
theorem en_cw93 : Cond.code (mt_name 93) (mt_code 93) (mt_nl 93) (mt_ret 93) ∈ en_T0 := List.mem_filter.mpr ⟨List.mem_of_getElem? (i := 653) rfl, rfl⟩
set_option maxRecDepth 100000 in
theorem en_cw94 : Cond.code (mt_name 94) (mt_code 94) (mt_nl 94) (mt_ret 94) ∈ en_T0 := List.mem_filter.mpr ⟨List.mem_of_getElem? (i := 657) rfl, rfl⟩
set_option maxRecDepth 100000 in
theorem en_cw95 : Cond.code (mt_name 95) (mt_code 95) (mt_nl 95) (mt_ret 95) ∈ en_T0 := List.mem_filter.mpr ⟨List.mem_of_getElem? (i := 661) rfl, rfl⟩
set_option maxRecDepth 100000 in
theorem en_cw96 : Cond.code (mt_name 96) (mt_code 96) (mt_nl 96) (mt_ret 96) ∈ en_T0 := List.mem_filter.mpr ⟨List.mem_of_getElem? (i := 665) rfl, rfl⟩
set_option maxRecDepth 100000 in
theorem en_cw97 : Cond.code (mt_name 97) (mt_code 97) (mt_nl 97) (mt_ret 97) ∈ en_T0 := List.mem_filter.mpr ⟨List.mem_of_getElem? (i := 669) rfl, rfl⟩
set_option maxRecDepth 100000 in
theorem en_cw98 : Cond.code (mt_name 98) (mt_code 98) (mt_nl 98) (mt_ret 98) ∈ en_T0 := List.mem_filter.mpr ⟨List.mem_of_getElem? (i := 673) rfl, rfl⟩
set_option maxRecDepth 100000 in
theorem en_cw99 : Cond.code (mt_name 99) (mt_code 99) (mt_nl 99) (mt_ret 99) ∈ en_T0 := List.mem_filter.mpr ⟨List.mem_of_getElem? (i := 677) rfl, rfl⟩
set_option maxRecDepth 100000 in
theorem en_cw100 : Cond.code (mt_name 100) (mt_code 100) (mt_nl 100) (mt_ret 100) ∈ en_T0 := List.mem_filter.mpr ⟨List.mem_of_getElem? (i := 681) rfl, rfl⟩
set_option maxRecDepth 100000 in
theorem en_cw101 : Cond.code (mt_name 101) (mt_code 101) (mt_nl 101) (mt_ret 101) ∈ en_T0 := List.mem_filter.mpr ⟨List.mem_of_getElem? (i := 685) rfl, rfl⟩
set_option maxRecDepth 100000 in
theorem en_cw102 : Cond.code (mt_name 102) (mt_code 102) (mt_nl 102) (mt_ret 102) ∈ en_T0 := List.mem_filter.mpr ⟨List.mem_of_getElem? (i := 689) rfl, rfl⟩
set_option maxRecDepth 100000 in
theorem en_cw103 : Cond.code (mt_name 103) (mt_code 103) (mt_nl 103) (mt_ret 103) ∈ en_T0 := List.mem_filter.mpr ⟨List.mem_of_getElem? (i := 693) rfl, rfl⟩
set_option maxRecDepth 100000 in
theorem en_cw104 : Cond.code (mt_name 104) (mt_code 104) (mt_nl 104) (mt_ret 104) ∈ en_T0 := List.mem_filter.mpr ⟨List.mem_of_getElem? (i := 697) rfl, rfl⟩
set_option maxRecDepth 100000 in
theorem en_cw105 : Cond.code (mt_name 105) (mt_code 105) (mt_nl 105) (mt_ret 105) ∈ en_T0 := List.mem_filter.mpr ⟨List.mem_of_getElem? (i := 702) rfl, rfl⟩
set_option maxRecDepth 100000 in
theorem en_cw106 : Cond.code (mt_name 106) (mt_code 106) (mt_nl 106) (mt_ret 106) ∈ en_T0 := List.mem_filter.mpr ⟨List.mem_of_getElem? (i := 706) rfl, rfl⟩
set_option maxRecDepth 100000 in
theorem en_cw107 : Cond.code (mt_name 107) (mt_code 107) (mt_nl 107) (mt_ret 107) ∈ en_T0 := List.mem_filter.mpr ⟨List.mem_of_getElem? (i := 710) rfl, rfl⟩
set_option maxRecDepth 100000 in
theorem en_cw108 : Cond.code (mt_name 108) (mt_code 108) (mt_nl 108) (mt_ret 108) ∈ en_T0 := List.mem_filter.mpr ⟨List.mem_of_getElem? (i := 714) rfl, rfl⟩
set_option maxRecDepth 100000 in
theorem en_cw109 : Cond.code (mt_name 109) (mt_code 109) (mt_nl 109) (mt_ret 109) ∈ en_T0 := List.mem_filter.mpr ⟨List.mem_of_getElem? (i := 718) rfl, rfl⟩
set_option maxRecDepth 100000 in
theorem en_cw110 : Cond.code (mt_name 110) (mt_code 110) (mt_nl 110) (mt_ret 110) ∈ en_T0 := List.mem_filter.mpr ⟨List.mem_of_getElem? (i := 722) rfl, rfl⟩
set_option maxRecDepth 100000 in
theorem en_cw111 : Cond.code (mt_name 111) (mt_code 111) (mt_nl 111) (mt_ret 111) ∈ en_T0 := List.mem_filter.mpr ⟨List.mem_of_getElem? (i := 726) rfl, rfl⟩
set_option maxRecDepth 100000 in
theorem en_cw112 : Cond.code (mt_name 112) (mt_code 112) (mt_nl 112) (mt_ret 112) ∈ en_T0 := List.mem_filter.mpr ⟨List.mem_of_getElem? (i := 730) rfl, rfl⟩
set_option maxRecDepth 100000 in
theorem en_cw113 : Cond.code (mt_name 113) (mt_code 113) (mt_nl 113) (mt_ret 113) ∈ en_T0 := List.mem_filter.mpr ⟨List.mem_of_getElem? (i := 734) rfl, rfl⟩
set_option maxRecDepth 100000 in
theorem en_cw114 : Cond.code (mt_name 114) (mt_code 114) (mt_nl 114) (mt_ret 114) ∈ en_T0 := List.mem_filter.mpr ⟨List.mem_of_getElem? (i := 738) rfl, rfl⟩
set_option maxRecDepth 100000 in
theorem en_cw115 : Cond.code (mt_name 115) (mt_code 115) (mt_nl 115) (mt_ret 115) ∈ en_T0 := List.mem_filter.mpr ⟨List.mem_of_getElem? (i := 104) rfl, rfl⟩
set_option maxRecDepth 100000 in
theorem en_cw116 : Cond.code (mt_name 116) (mt_code 116) (mt_nl 116) (mt_ret 116) ∈ en_T0 := List.mem_filter.mpr ⟨List.mem_of_getElem? (i := 257) rfl, rfl⟩
theorem en_codes : ∀ y, y < mt_law → Cond.code (mt_name y) (mt_code y) (mt_nl y) (mt_ret y) ∈ en_T0 := by
  intro y hy
  match y, hy with
  | 0, _ => exact en_cw0
  | 1, _ => exact en_cw1
  | 2, _ => exact en_cw2
  | 3, _ => exact en_cw3
  | 4, _ => exact en_cw4
  | 5, _ => exact en_cw5
  | 6, _ => exact en_cw6
  | 7, _ => exact en_cw7
  | 8, _ => exact en_cw8
  | 9, _ => exact en_cw9
  | 10, _ => exact en_cw10
  | 11, _ => exact en_cw11
  | 12, _ => exact en_cw12
  | 13, _ => exact en_cw13
  | 14, _ => exact en_cw14
  | 15, _ => exact en_cw15
  | 16, _ => exact en_cw16
  | 17, _ => exact en_cw17
  | 18, _ => exact en_cw18
  | 19, _ => exact en_cw19
  | 20, _ => exact en_cw20
  | 21, _ => exact en_cw21
  | 22, _ => exact en_cw22
  | 23, _ => exact en_cw23
  | 24, _ => exact en_cw24
  | 25, _ => exact en_cw25
  | 26, _ => exact en_cw26
  | 27, _ => exact en_cw27
  | 28, _ => exact en_cw28
  | 29, _ => exact en_cw29
  | 30, _ => exact en_cw30
  | 31, _ => exact en_cw31
  | 32, _ => exact en_cw32
  | 33, _ => exact en_cw33
  | 34, _ => exact en_cw34
  | 35, _ => exact en_cw35
  | 36, _ => exact en_cw36
  | 37, _ => exact en_cw37
  | 38, _ => exact en_cw38
  | 39, _ => exact en_cw39
  | 40, _ => exact en_cw40
  | 41, _ => exact en_cw41
  | 42, _ => exact en_cw42
  | 43, _ => exact en_cw43
  | 44, _ => exact en_cw44
  | 45, _ => exact en_cw45
  | 46, _ => exact en_cw46
  | 47, _ => exact en_cw47
  | 48, _ => exact en_cw48
  | 49, _ => exact en_cw49
  | 50, _ => exact en_cw50
  | 51, _ => exact en_cw51
  | 52, _ => exact en_cw52
  | 53, _ => exact en_cw53
  | 54, _ => exact en_cw54
  | 55, _ => exact en_cw55
  | 56, _ => exact en_cw56
  | 57, _ => exact en_cw57
  | 58, _ => exact en_cw58
  | 59, _ => exact en_cw59
  | 60, _ => exact en_cw60
  | 61, _ => exact en_cw61
  | 62, _ => exact en_cw62
  | 63, _ => exact en_cw63
  | 64, _ => exact en_cw64
  | 65, _ => exact en_cw65
  | 66, _ => exact en_cw66
  | 67, _ => exact en_cw67
  | 68, _ => exact en_cw68
  | 69, _ => exact en_cw69
  | 70, _ => exact en_cw70
  | 71, _ => exact en_cw71
  | 72, _ => exact en_cw72
  | 73, _ => exact en_cw73
  | 74, _ => exact en_cw74
  | 75, _ => exact en_cw75
  | 76, _ => exact en_cw76
  | 77, _ => exact en_cw77
  | 78, _ => exact en_cw78
  | 79, _ => exact en_cw79
  | 80, _ => exact en_cw80
  | 81, _ => exact en_cw81
  | 82, _ => exact en_cw82
  | 83, _ => exact en_cw83
  | 84, _ => exact en_cw84
  | 85, _ => exact en_cw85
  | 86, _ => exact en_cw86
  | 87, _ => exact en_cw87
  | 88, _ => exact en_cw88
  | 89, _ => exact en_cw89
  | 90, _ => exact en_cw90
  | 91, _ => exact en_cw91
  | 92, _ => exact en_cw92
  | 93, _ => exact en_cw93
  | 94, _ => exact en_cw94
  | 95, _ => exact en_cw95
  | 96, _ => exact en_cw96
  | 97, _ => exact en_cw97
  | 98, _ => exact en_cw98
  | 99, _ => exact en_cw99
  | 100, _ => exact en_cw100
  | 101, _ => exact en_cw101
  | 102, _ => exact en_cw102
  | 103, _ => exact en_cw103
  | 104, _ => exact en_cw104
  | 105, _ => exact en_cw105
  | 106, _ => exact en_cw106
  | 107, _ => exact en_cw107
  | 108, _ => exact en_cw108
  | 109, _ => exact en_cw109
  | 110, _ => exact en_cw110
  | 111, _ => exact en_cw111
  | 112, _ => exact en_cw112
  | 113, _ => exact en_cw113
  | 114, _ => exact en_cw114
  | 115, _ => exact en_cw115
  | 116, _ => exact en_cw116
  | y + 117, hy => exact absurd hy (by unfold mt_law; omega)
theorem en_Yok {y k : Nat} (hy : y < mt_law) (hk : (parseMethodDescriptor (mt_name y).desc).map (fun d => d.parameters.length) = some k) : en_okY y k := by
  have h1 := List.all_eq_true.mp en_ckY_all y (List.mem_range.mpr hy)
  unfold en_ckY at h1
  rw [Bool.and_eq_true, Bool.and_eq_true] at h1
  obtain ⟨⟨h2, h3⟩, h4⟩ := h1
  exact ⟨en_codes y hy, en_in_ok h2, of_decide_eq_true h3, hk, of_decide_eq_true h4⟩
def en_pc (y k : Nat) : Bool := decide (y < mt_law) && decide ((parseMethodDescriptor (mt_name y).desc).map (fun d => d.parameters.length) = some k)
theorem en_pc_ok {y k : Nat} (h : en_pc y k = true) : en_okY y k := by
  unfold en_pc at h
  rw [Bool.and_eq_true] at h
  exact en_Yok (of_decide_eq_true h.1) (of_decide_eq_true h.2)
def en_ckM (e : (Nat × Nat × Nat × Nat × Nat × Nat) × List Nat) : Bool := match e with
  | ((o, n, kd, y', na, ci), ps) => match kd with
    | 0 => decide ((vwCl[ci]?).map (fun r => r.1) = some (mt_name y').cls) && en_in (ps.getD 0 0) (Cond.methodLink (mt_cn o) n (mt_name y')) && en_in (ps.getD 1 0) (Cond.instanceMethod (mt_name y')) && en_in (ps.getD 2 0) (Cond.selects (mt_name y').cls (mt_name y') (mt_name y')) && en_pc y' na
    | 1 => en_in (ps.getD 0 0) (Cond.methodLink (mt_cn o) n (mt_name y')) && en_in (ps.getD 1 0) (Cond.static (mt_name y')) && en_pc y' na
    | 2 => en_in (ps.getD 0 0) (Cond.methodLink (mt_cn o) n (mt_name y')) && en_in (ps.getD 1 0) (Cond.instanceMethod (mt_name y')) && decide ((mt_name y').name = "<init>") && decide (mt_ret y' = none) && en_pc y' na
    | 3 => en_nl.any (fun q => decide (q.1 = mt_cn o ∧ q.2.1 = n ∧ q.2.2.1 = mt_name y')) && en_in (ps.getD 0 0) (Cond.instanceMethod (mt_name y')) && decide ((mt_name y').name = "<init>") && decide (mt_ret y' = none) && en_pc y' na
    | 4 => en_in (ps.getD 0 0) (Cond.methodLink (mt_cn o) n Lib.Math.max.name) && en_in (ps.getD 1 0) (Cond.static Lib.Math.max.name) && en_in (ps.getD 2 0) (Cond.initialized "java/lang/Math") && en_in (ps.getD 3 0) (Cond.code Lib.Math.max.name Lib.Math.max.code 2 (some .int))
    | 5 => en_in (ps.getD 0 0) (Cond.methodLink (mt_cn o) n Lib.Math.min.name) && en_in (ps.getD 1 0) (Cond.static Lib.Math.min.name) && en_in (ps.getD 2 0) (Cond.initialized "java/lang/Math") && en_in (ps.getD 3 0) (Cond.code Lib.Math.min.name Lib.Math.min.code 2 (some .int))
    | 6 => en_in (ps.getD 0 0) (Cond.methodLink (mt_cn o) n arraycopyName) && en_in (ps.getD 1 0) (Cond.native arraycopyName) && en_in (ps.getD 2 0) (Cond.static arraycopyName) && en_in (ps.getD 3 0) (Cond.initialized "java/lang/System")
    | 7 => en_in (ps.getD 0 0) (Cond.methodLink (mt_cn o) n Lib.objectInit) && en_in (ps.getD 1 0) (Cond.instanceMethod Lib.objectInit) && en_in (ps.getD 2 0) (Cond.code Lib.objectInit ⟨#[0xb1]⟩ 1 none)
    | _ => false
set_option maxRecDepth 100000 in
theorem en_ckM_all : (tb_mths.zip tp_mths).all en_ckM = true := by decide +kernel
theorem en_tokM : ∀ o n q, tb_mth o n = some q → en_okM o n q := by
  intro o n q h
  obtain ⟨kd, y', na, ci⟩ := q
  obtain ⟨ps, hi⟩ := en_zip (m := tp_mths) (en_find h) (by decide +kernel)
  have h1 := List.all_eq_true.mp en_ckM_all _ hi
  unfold en_ckM at h1
  refine ⟨fun e => ?_, fun e => ?_, fun e => ?_, fun e => ?_, fun e => ?_, fun e => ?_, fun e => ?_, fun e => ?_⟩ <;> (have e : kd = _ := e; subst e; dsimp only at h1; simp only [Bool.and_eq_true] at h1)
  · obtain ⟨⟨⟨⟨h1, h2⟩, h3⟩, h4⟩, h5⟩ := h1
    have h1 := of_decide_eq_true h1
    cases hr : vwCl[ci]? with
    | none => rw [hr] at h1; cases h1
    | some r =>
      rw [hr] at h1
      exact ⟨⟨r, rfl, Option.some.inj h1⟩, en_in_ok h2, en_in_ok h3, en_in_ok h4, en_pc_ok h5⟩
  · obtain ⟨⟨h1, h2⟩, h3⟩ := h1
    exact ⟨en_in_ok h1, en_in_ok h2, en_pc_ok h3⟩
  · obtain ⟨⟨⟨⟨h1, h2⟩, h3⟩, h4⟩, h5⟩ := h1
    exact ⟨en_in_ok h1, en_in_ok h2, of_decide_eq_true h3, of_decide_eq_true h4, en_pc_ok h5⟩
  · obtain ⟨⟨⟨⟨h1, h2⟩, h3⟩, h4⟩, h5⟩ := h1
    obtain ⟨⟨q1, q2, q3, q4⟩, hq, hd⟩ := List.any_eq_true.mp h1
    obtain ⟨e1, e2, e3⟩ := of_decide_eq_true hd
    dsimp only at e1 e2 e3
    subst e1 e2 e3
    exact ⟨⟨q4, hq⟩, en_in_ok h2, of_decide_eq_true h3, of_decide_eq_true h4, en_pc_ok h5⟩
  · obtain ⟨⟨⟨h1, h2⟩, h3⟩, h4⟩ := h1
    exact ⟨en_in_ok h1, en_in_ok h2, en_in_ok h3, en_in_ok h4⟩
  · obtain ⟨⟨⟨h1, h2⟩, h3⟩, h4⟩ := h1
    exact ⟨en_in_ok h1, en_in_ok h2, en_in_ok h3, en_in_ok h4⟩
  · obtain ⟨⟨⟨h1, h2⟩, h3⟩, h4⟩ := h1
    exact ⟨en_in_ok h1, en_in_ok h2, en_in_ok h3, en_in_ok h4⟩
  · obtain ⟨⟨h1, h2⟩, h3⟩ := h1
    exact ⟨en_in_ok h1, en_in_ok h2, en_in_ok h3⟩
set_option maxRecDepth 100000 in
theorem en_ckL_all : (tb_ldcs.zip tp_ldcs).all (fun e => en_in e.2 (Cond.constant (mt_cn e.1.1) e.1.2.1 e.1.2.2)) = true := by decide +kernel
set_option maxRecDepth 100000 in
theorem en_arr0 : en_in (tp_arr.getD 0 0) (Cond.arrayClass .int) = true ∧ en_in (tp_arr.getD 1 0) (Cond.arrayClass .long) = true ∧ en_in (tp_arr.getD 2 0) (Cond.arrayClass .boolean) = true := by decide +kernel
theorem en_tok : en_Tok := by
  refine ⟨en_tokF, en_tokN, en_tokM, fun o n v h => ?_, fun ty t h => ?_⟩
  · obtain ⟨i, hi⟩ := en_zip (m := tp_ldcs) (en_find h) (by decide +kernel)
    exact en_in_ok (List.all_eq_true.mp en_ckL_all _ hi)
  cases ty <;> first | exact en_in_ok en_arr0.1 | exact en_in_ok en_arr0.2.1 | exact en_in_ok en_arr0.2.2 | cases h
def en_ckZ (y : Nat) : Bool := plainName (mt_name y).cls && decide (mt_cn (mt_cls y) = (mt_name y).cls) && (!mt_init y || decide ((mt_name y).name = "<init>")) && (match mt_rk y, mt_ret y with
  | 0, none => true
  | 1, some .int => true
  | 2, some .boolean => true
  | 3, some (.array _) => true
  | _, _ => false)
set_option maxRecDepth 100000 in
theorem en_ckZ_all : (List.range mt_law).all en_ckZ = true := by decide +kernel
theorem en_Zok {y : Nat} (h1 : en_ckZ y = true) : en_okZ y := by
  unfold en_ckZ at h1
  rw [Bool.and_eq_true, Bool.and_eq_true, Bool.and_eq_true] at h1
  obtain ⟨⟨⟨h1, h2⟩, h3⟩, h4⟩ := h1
  refine ⟨h1, of_decide_eq_true h2, fun h => ?_, fun h => ?_, fun h => ?_, fun h => ?_, fun h => ?_⟩
  · rw [h] at h3
    exact of_decide_eq_true (by simpa using h3)
  · rw [h] at h4
    split at h4 <;> first | assumption | contradiction | cases h4
  · rw [h] at h4
    split at h4 <;> first | assumption | contradiction | cases h4
  · rw [h] at h4
    split at h4 <;> first | assumption | contradiction | cases h4
  · rw [h] at h4
    split at h4 <;> first | contradiction | (rename_i t ht; exact ⟨_, ht, Or.inr ⟨_, rfl⟩⟩) | cases h4
theorem en_far {α : Type} {l : List α} {d : α} {y : Nat} (h : l.length ≤ y) : l.getD y d = d := by
  rw [List.getD_eq_getElem?_getD, List.getElem?_eq_none h]
  rfl
theorem en_tz : ∀ y, y ≠ mt_law → en_okZ y := by
  intro y hy
  by_cases h : y < mt_law
  · exact en_Zok (List.all_eq_true.mp en_ckZ_all y (List.mem_range.mpr h))
  · have hlen : mt_law + 1 ≤ y := by omega
    have e1 : mt_name y = mt_name 0 := en_far hlen
    have e2 : mt_cls y = mt_cls 0 := en_far hlen
    have e3 : mt_init y = mt_init 0 := en_far hlen
    have e4 : mt_rk y = mt_rk 0 := en_far hlen
    have e5 : mt_ret y = mt_ret 0 := en_far hlen
    have h0 := List.all_eq_true.mp en_ckZ_all 0 (List.mem_range.mpr (by decide))
    have hz : en_ckZ y = en_ckZ 0 := by unfold en_ckZ; rw [e1, e2, e3, e4, e5]
    exact en_Zok (hz.trans h0)
/-- the whole engine: a call of the abstract machine is a contract of the method -/
theorem en_met (l : Launch) (D : va_G) (tc : Nat → ClassId) (ρ : Nat → Nat) (b0 : Nat) (hρ : ∀ i, i < en_S → ρ i = b0 + i) {d y : Nat} {As : List Value} {c : en_H} {x u : Nat} {v : Option Value} {c' : en_H} {x' u' : Nat} (h : en_call d y As c x u v c' x' u') (hx : x' < en_S) : en_M l D tc ρ b0 d y As c x u v c' x' u' := en_sound en_tok en_tz l D tc ρ b0 hρ d y As c x u v c' x' u' h hx
