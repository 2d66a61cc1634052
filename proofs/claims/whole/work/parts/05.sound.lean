/-! THE ENGINE, machine side: stores, new cells, calls. -/
def en_okF (o n : Nat) (q : Nat × Nat × Nat × Bool) : Prop := ∃ r : vw_C, vwCl[q.1]? = some r ∧ q.2.1 < r.2.2 ∧ Cond.fieldLink (mt_cn o) n (r.2.1 q.2.1).1 (r.2.1 q.2.1).2.1 (r.2.1 q.2.1).2.2.1 ∈ en_T0 ∧ (∀ w ∈ u_ws r.1 r.2.1 r.2.2, w ∈ en_T0) ∧ (∀ a, a < r.2.2 → ∀ b, b < r.2.2 → a ≠ b → (r.2.1 a).2.1 ≠ (r.2.1 b).2.1) ∧ (∃ ty0 : Nat → FieldType, ∀ k, k < r.2.2 → parseFieldDescriptor (r.2.1 k).2.2.1 = some (ty0 k)) ∧ (r.2.1 q.2.1).2.2.2 = q.2.2.2 ∧ (q.2.2.2 = true → q.2.2.1 ≠ 9 → (r.2.1 q.2.1).1 = mt_cn o) ∧
  ∀ ty0 : Nat → FieldType, (∀ k, k < r.2.2 → parseFieldDescriptor (r.2.1 k).2.2.1 = some (ty0 k)) → (q.2.2.1 = 0 ∧ ty0 q.2.1 = .int) ∨ (q.2.2.1 = 1 ∧ ((∃ n, ty0 q.2.1 = .object n) ∨ ∃ t, ty0 q.2.1 = .array t)) ∨ (q.2.2.1 = 2 ∧ ty0 q.2.1 = .boolean) ∨ q.2.2.1 = 9
def en_okN (o n : Nat) (q : Nat × List Value) : Prop := ∃ r : vw_C, vwCl[q.1]? = some r ∧ Cond.classLink (mt_cn o) n r.1 ∈ en_T0 ∧ Cond.instantiable r.1 r.2.2 ∈ en_T0 ∧ Cond.initialized r.1 ∈ en_T0 ∧ (∀ w ∈ u_ws r.1 r.2.1 r.2.2, w ∈ en_T0) ∧ (∃ ty0 : Nat → FieldType, ∀ k, k < r.2.2 → parseFieldDescriptor (r.2.1 k).2.2.1 = some (ty0 k)) ∧ q.2.length = r.2.2 ∧
  (∀ ty0 : Nat → FieldType, (∀ k, k < r.2.2 → parseFieldDescriptor (r.2.1 k).2.2.1 = some (ty0 k)) → ∀ j, j < r.2.2 → defaultValue (ty0 j) = vp_V q.2 j) ∧ ∀ (ρ : Nat → Nat) (v : Value), v ∈ q.2 → en_cv ρ v = v
def en_okY (y k : Nat) : Prop := Cond.code (mt_name y) (mt_code y) (mt_nl y) (mt_ret y) ∈ en_T0 ∧ Cond.initialized (mt_name y).cls ∈ en_T0 ∧ ((mt_name y).cls ≠ "java/lang/invoke/MethodHandle" ∧ (mt_name y).cls ≠ "java/lang/invoke/VarHandle") ∧ (parseMethodDescriptor (mt_name y).desc).map (fun d => d.parameters.length) = some k ∧ mt_nl y ≤ 21
def en_okM (o n : Nat) (q : Nat × Nat × Nat × Nat) : Prop :=
  (q.1 = 0 → (∃ r : vw_C, vwCl[q.2.2.2]? = some r ∧ r.1 = (mt_name q.2.1).cls) ∧ Cond.methodLink (mt_cn o) n (mt_name q.2.1) ∈ en_T0 ∧ Cond.instanceMethod (mt_name q.2.1) ∈ en_T0 ∧ Cond.selects (mt_name q.2.1).cls (mt_name q.2.1) (mt_name q.2.1) ∈ en_T0 ∧ en_okY q.2.1 q.2.2.1) ∧
  (q.1 = 1 → Cond.methodLink (mt_cn o) n (mt_name q.2.1) ∈ en_T0 ∧ Cond.static (mt_name q.2.1) ∈ en_T0 ∧ en_okY q.2.1 q.2.2.1) ∧
  (q.1 = 2 → Cond.methodLink (mt_cn o) n (mt_name q.2.1) ∈ en_T0 ∧ Cond.instanceMethod (mt_name q.2.1) ∈ en_T0 ∧ (mt_name q.2.1).name = "<init>" ∧ mt_ret q.2.1 = none ∧ en_okY q.2.1 q.2.2.1) ∧
  (q.1 = 3 → (∃ h, (mt_cn o, n, mt_name q.2.1, h) ∈ en_nl) ∧ Cond.instanceMethod (mt_name q.2.1) ∈ en_T0 ∧ (mt_name q.2.1).name = "<init>" ∧ mt_ret q.2.1 = none ∧ en_okY q.2.1 q.2.2.1) ∧
  (q.1 = 4 → Cond.methodLink (mt_cn o) n Lib.Math.max.name ∈ en_T0 ∧ Cond.static Lib.Math.max.name ∈ en_T0 ∧ Cond.initialized "java/lang/Math" ∈ en_T0 ∧ Cond.code Lib.Math.max.name Lib.Math.max.code 2 (some .int) ∈ en_T0) ∧
  (q.1 = 5 → Cond.methodLink (mt_cn o) n Lib.Math.min.name ∈ en_T0 ∧ Cond.static Lib.Math.min.name ∈ en_T0 ∧ Cond.initialized "java/lang/Math" ∈ en_T0 ∧ Cond.code Lib.Math.min.name Lib.Math.min.code 2 (some .int) ∈ en_T0) ∧
  (q.1 = 6 → Cond.methodLink (mt_cn o) n arraycopyName ∈ en_T0 ∧ Cond.native arraycopyName ∈ en_T0 ∧ Cond.static arraycopyName ∈ en_T0 ∧ Cond.initialized "java/lang/System" ∈ en_T0) ∧
  (q.1 = 7 → Cond.methodLink (mt_cn o) n Lib.objectInit ∈ en_T0 ∧ Cond.instanceMethod Lib.objectInit ∈ en_T0 ∧ Cond.code Lib.objectInit ⟨#[0xb1]⟩ 1 none ∈ en_T0)
section ES4
variable {p : Program} {l : Launch} {e : Env} {R : Room} {s : State} {m : MethodId} {args : Array Value} {below : List Frame} {meth : Method} {cd : Code} {Q : State → Prop} {D : va_G} {tc : Nat → ClassId} {ρ : Nat → Nat} {b0 x0 u0 x1 u1 y : Nat} {sc : Nat × (Nat → Int32)}
variable {pc : Nat} {lv : en_L} {st : List Value} {c : en_H} {x u : Nat}
theorem en_wsP {H H1 : Heap} {a : Nat} {en : en_C} (hP : va_P D vwCl (en_ws tc ρ c x) H) (hD : va_D (fun q => b0 ≤ q) (en_ws tc ρ c x)) (ha : a < x) (hn : va_at D vwCl (ρ a, en_cE tc ρ en) H1) (oq : ∀ q : Nat, q ≠ ρ a → H1[q]? = H[q]?) : va_P D vwCl (en_ws tc ρ (en_up c a en) x) H1 := by
  rw [← en_ws_set ha]
  exact hP.set hD (en_ws_get ha) hn oq
theorem en_scr {a : Nat} {en : en_C} (ha : a < x) (h3 : x ≤ x1) (hs : x1 < en_S) (h : y = mt_law → c en_S = .inl (0, sc.1, .inl sc.2)) : y = mt_law → (en_up c a en) en_S = .inl (0, sc.1, .inl sc.2) := fun q => (en_up_n (by omega)).trans (h q)
theorem so_iast (X : en_X p R s m args meth cd D tc ρ b0 x0 u0 x1 u1 y) {a n : Nat} {i : Int32} {v : Int32} {f : Nat → Int32} (hd : decode (mt_code y) pc = .ok (.iastore, 1)) (hc : c a = .inl (0, n, .inl (f))) (ha : a < x) (hi : vp_in i n) (K : en_A p l e R s m args below meth cd Q D tc ρ b0 x0 u0 x1 u1 y sc (pc + 1, lv, st, en_up c a (.inl (0, n, .inl (upd f i.toNatClampNeg v))), x, u)) : en_A p l e R s m args below meth cd Q D tc ρ b0 x0 u0 x1 u1 y sc (pc, lv, .int v :: .int i :: .ref a :: st, c, x, u) := by
  intro k j H locs ls h1 h2 h3 h4 h5 h6 h7 h8 h9 h10
  show W p l e R s m args below meth cd H locs k j Q (F0 m pc ls (.int v :: .int i :: .ref (ρ a) :: st.map (en_cv ρ)))
  have hD : va_D (fun q => b0 ≤ q) (en_ws tc ρ c x) := en_ws_D X.2.2.1.1 (Nat.le_of_lt (Nat.lt_of_le_of_lt h3 X.2.2.1.2.2.1))
  have hg := en_ws_at (tc := tc) (ρ := ρ) ha hc
  refine W.iast X.1.1 X.1.2.1 (h6 a _ hg) ((X.2.1.1.2 0 _ rfl).1 n (fun j => .int (f j))) (fun q => by cases q) (by show ¬ (i < 0 ∨ (arrV _ _ _).slots.size ≤ _); rw [arrV_size]; exact hi) rfl rfl hd (fun H1 e z oq => ?_)
  refine K k j H1 _ ls h1 h2 h3 h4 (z.trans h5) (en_wsP h6 hD ha ?_ oq) (h7.put z oq (hD.2 a _ hg)) h8 h9 (en_scr ha h3 X.2.2.1.2.2.1 h10)
  show H1[ρ a]? = some (vp_cell (tc 0) _)
  rw [e, vp_cell_i, vp_cell_i, arrV_store]
  congr 2
  funext q
  by_cases hq : q = i.toNatClampNeg
  · subst hq
    simp [updV, upd]
  · simp [updV, upd, hq]
theorem so_zast (X : en_X p R s m args meth cd D tc ρ b0 x0 u0 x1 u1 y) {a n : Nat} {i : Int32} {v : Int32} {f : Nat → Int32} (hd : decode (mt_code y) pc = .ok (.bastore, 1)) (hc : c a = .inl (2, n, .inl (f))) (ha : a < x) (hi : vp_in i n) (K : en_A p l e R s m args below meth cd Q D tc ρ b0 x0 u0 x1 u1 y sc (pc + 1, lv, st, en_up c a (.inl (2, n, .inl (upd f i.toNatClampNeg (vp_nar .boolean v)))), x, u)) : en_A p l e R s m args below meth cd Q D tc ρ b0 x0 u0 x1 u1 y sc (pc, lv, .int v :: .int i :: .ref a :: st, c, x, u) := by
  intro k j H locs ls h1 h2 h3 h4 h5 h6 h7 h8 h9 h10
  show W p l e R s m args below meth cd H locs k j Q (F0 m pc ls (.int v :: .int i :: .ref (ρ a) :: st.map (en_cv ρ)))
  have hD : va_D (fun q => b0 ≤ q) (en_ws tc ρ c x) := en_ws_D X.2.2.1.1 (Nat.le_of_lt (Nat.lt_of_le_of_lt h3 X.2.2.1.2.2.1))
  have hg := en_ws_at (tc := tc) (ρ := ρ) ha hc
  refine W.zast X.1.1 X.1.2.1 (h6 a _ hg) ((X.2.1.1.2 2 _ rfl).1 n (fun j => .int (f j))) (fun q => by cases q) (by show ¬ (i < 0 ∨ (arrV _ _ _).slots.size ≤ _); rw [arrV_size]; exact hi) rfl rfl hd (fun H1 e z oq => ?_)
  refine K k j H1 _ ls h1 h2 h3 h4 (z.trans h5) (en_wsP h6 hD ha ?_ oq) (h7.put z oq (hD.2 a _ hg)) h8 h9 (en_scr ha h3 X.2.2.1.2.2.1 h10)
  show H1[ρ a]? = some (vp_cell (tc 2) _)
  rw [e, vp_cell_i, vp_cell_i, arrV_store]
  congr 2
  funext q
  by_cases hq : q = i.toNatClampNeg
  · subst hq
    simp [updV, upd, vp_nar]
    try rfl
  · simp [updV, upd, hq]
theorem so_last (X : en_X p R s m args meth cd D tc ρ b0 x0 u0 x1 u1 y) {a n : Nat} {i : Int32} {v : Int64} {f : Nat → Int64} (hd : decode (mt_code y) pc = .ok (.lastore, 1)) (hc : c a = .inl (1, n, .inr (.inl (f)))) (ha : a < x) (hi : vp_in i n) (K : en_A p l e R s m args below meth cd Q D tc ρ b0 x0 u0 x1 u1 y sc (pc + 1, lv, st, en_up c a (.inl (1, n, .inr (.inl (vp_updL f i.toNatClampNeg v)))), x, u)) : en_A p l e R s m args below meth cd Q D tc ρ b0 x0 u0 x1 u1 y sc (pc, lv, .long v :: .int i :: .ref a :: st, c, x, u) := by
  intro k j H locs ls h1 h2 h3 h4 h5 h6 h7 h8 h9 h10
  show W p l e R s m args below meth cd H locs k j Q (F0 m pc ls (.long v :: .int i :: .ref (ρ a) :: st.map (en_cv ρ)))
  have hD : va_D (fun q => b0 ≤ q) (en_ws tc ρ c x) := en_ws_D X.2.2.1.1 (Nat.le_of_lt (Nat.lt_of_le_of_lt h3 X.2.2.1.2.2.1))
  have hg := en_ws_at (tc := tc) (ρ := ρ) ha hc
  refine W.last X.1.1 X.1.2.1 (h6 a _ hg) ((X.2.1.1.2 1 _ rfl).1 n (fun j => .long (f j))) (fun q => by cases q) (by show ¬ (i < 0 ∨ (arrV _ _ _).slots.size ≤ _); rw [arrV_size]; exact hi) rfl rfl hd (fun H1 e z oq => ?_)
  refine K k j H1 _ ls h1 h2 h3 h4 (z.trans h5) (en_wsP h6 hD ha ?_ oq) (h7.put z oq (hD.2 a _ hg)) h8 h9 (en_scr ha h3 X.2.2.1.2.2.1 h10)
  show H1[ρ a]? = some (vp_cell (tc 1) _)
  rw [e, vp_cell_l, vp_cell_l, arrV_store]
  congr 2
  funext q
  by_cases hq : q = i.toNatClampNeg
  · subst hq
    simp [updV, vp_updL]
  · simp [updV, vp_updL, hq]
theorem so_get (X : en_X p R s m args meth cd D tc ρ b0 x0 u0 x1 u1 y) {n ci kf kd : Nat} {fin : Bool} {a : Nat} {fs : List Value} {v : Value} (hd : decode (mt_code y) pc = .ok (.getfield n, 3)) (hf : en_okF (mt_cls y) n (ci, kf, kd, fin)) (hc : c a = .inr (ci, fs)) (ha : a < x) (hv : fs[kf]? = some v) (K : en_A p l e R s m args below meth cd Q D tc ρ b0 x0 u0 x1 u1 y sc (pc + 3, lv, v :: st, c, x, u)) : en_A p l e R s m args below meth cd Q D tc ρ b0 x0 u0 x1 u1 y sc (pc, lv, .ref a :: st, c, x, u) := by
  intro k j H locs ls h1 h2 h3 h4 h5 h6 h7 h8 h9 h10
  show W p l e R s m args below meth cd H locs k j Q (F0 m pc ls (.ref (ρ a) :: st.map (en_cv ρ)))
  obtain ⟨⟨C, T, N⟩, hcl, hk, hlink, hwords, hnames, htys, hfin, hdecl, hkd⟩ := hf
  exact va_get (D := D) (ci := ci) (v := en_cv ρ v) (C := C) (T := T) (N := N) X.1.1 X.1.2.1 X.1.2.2.2.2 hwords X.1.2.2.2.1 X.2.1.1 h6 a (en_ws_at ha hc) hcl kf hk (X.1.2.2.2.2 _ hlink) (fun _ h9 => h9) (by rw [List.getElem?_map, hv]; rfl) hd (K k j H locs ls h1 h2 h3 h4 h5 h6 h7 h8 h9 h10)
theorem en_fk_ok {kd : Nat} {v : Value} {ty : FieldType} (hk : (kd = 0 ∧ ty = .int) ∨ (kd = 1 ∧ ((∃ n, ty = .object n) ∨ ∃ t, ty = .array t)) ∨ (kd = 2 ∧ ty = .boolean) ∨ kd = 9) (h : en_fk kd v) : narrow ty (en_cv ρ v) = en_cv ρ v ∧ fits ty (en_cv ρ v) = true := by
  cases v with
  | int v =>
    have h : kd = 0 ∨ (kd = 2 ∧ (v = 0 ∨ v = 1)) := h
    rcases hk with ⟨-, rfl⟩ | ⟨q, -⟩ | ⟨q, rfl⟩ | q
    · exact ⟨rfl, rfl⟩
    · omega
    · rcases h with h | ⟨-, h⟩
      · omega
      · rcases h with rfl | rfl <;> exact ⟨rfl, rfl⟩
    · omega
  | ref a =>
    have h : kd = 1 := h
    rcases hk with ⟨q, -⟩ | ⟨-, ⟨n, rfl⟩ | ⟨t, rfl⟩⟩ | ⟨q, -⟩ | q
    · omega
    · exact ⟨rfl, rfl⟩
    · exact ⟨rfl, rfl⟩
    · omega
    · omega
  | null =>
    have h : kd = 1 := h
    rcases hk with ⟨q, -⟩ | ⟨-, ⟨n, rfl⟩ | ⟨t, rfl⟩⟩ | ⟨q, -⟩ | q
    · omega
    · exact ⟨rfl, rfl⟩
    · exact ⟨rfl, rfl⟩
    · omega
    · omega
  | _ => exact h.elim
theorem so_put (X : en_X p R s m args meth cd D tc ρ b0 x0 u0 x1 u1 y) {n ci kf kd : Nat} {fin : Bool} {a : Nat} {fs : List Value} {v : Value} (hd : decode (mt_code y) pc = .ok (.putfield n, 3)) (hf : en_okF (mt_cls y) n (ci, kf, kd, fin)) (hc : c a = .inr (ci, fs)) (ha : a < x) (hl : kf < fs.length) (hv : en_fk kd v) (hini : fin = true → mt_init y = true) (K : en_A p l e R s m args below meth cd Q D tc ρ b0 x0 u0 x1 u1 y sc (pc + 3, lv, st, en_up c a (.inr (ci, fs.set kf v)), x, u)) : en_A p l e R s m args below meth cd Q D tc ρ b0 x0 u0 x1 u1 y sc (pc, lv, v :: .ref a :: st, c, x, u) := by
  intro k j H locs ls h1 h2 h3 h4 h5 h6 h7 h8 h9 h10
  show W p l e R s m args below meth cd H locs k j Q (F0 m pc ls (en_cv ρ v :: .ref (ρ a) :: st.map (en_cv ρ)))
  obtain ⟨⟨C, T, N⟩, hcl, hk, hlink, hwords, hnames, ⟨ty0, htys⟩, hfin, hdecl, hkd⟩ := hf
  have hts := X.1.2.2.2.2
  have hK := X.2.1.1
  have hown := X.1.2.2.2.1
  have hD : va_D (fun q => b0 ≤ q) (en_ws tc ρ c x) := en_ws_D X.2.2.1.1 (Nat.le_of_lt (Nat.lt_of_le_of_lt h3 X.2.2.1.2.2.1))
  have hg := en_ws_at (tc := tc) (ρ := ρ) ha hc
  have hap := va_apart (own := mt_cn (mt_cls y)) hts hwords ty0 htys hnames hK hcl
  obtain ⟨r, e1, cell, q1, q2, q3, q4⟩ := h6 a _ hg
  have hr : r = (C, T, N) := Option.some.inj (e1.symm.trans hcl)
  subst hr
  obtain ⟨hS, hfc, kC, hkC, hkind⟩ := hK.1 ci _ hcl
  obtain ⟨cf, kfc, fi, f, hi, hsl⟩ := hS kf hk
  have hlay := hts _ (hwords _ (u_in_lay hk))
  have hst := (u_facts hfc hkC (u_lays hts hwords hk) hi).1
  obtain ⟨hn, hfit⟩ := en_fk_ok (ρ := ρ) (hkd ty0 htys) hv
  have hlm : kf < (fs.map (en_cv ρ)).length := by rw [List.length_map]; exact hl
  have fin2 : ∀ (H' : Heap), H'[ρ a]? = some (cell.setSlot (D.2 ci kf) (en_cv ρ v)) → H'.size = H.size → (∀ q, q ≠ ρ a → H'[q]? = H[q]?) → ∀ kk, W p l e R s m args below meth cd H' (locs ++ [⟨ρ a, kk⟩]) k j Q (F0 m (pc + 3) ls (st.map (en_cv ρ))) := by
    intro H' e1 e2 e3 kk
    refine K k j H' _ ls h1 h2 h3 h4 (e2.trans h5) (en_wsP h6 hD ha ?_ e3) (h7.put e2 e3 (hD.2 a _ hg)) h8 h9 (en_scr ha h3 X.2.2.1.2.2.1 h10)
    show va_at D vwCl (ρ a, .inr (ci, (fs.set kf v).map (en_cv ρ))) H'
    rw [List.map_set]
    exact ⟨_, hcl, t_OB.to (V := updV (vp_V (fs.map (en_cv ρ))) kf (en_cv ρ v)) ⟨_, e1, q2, q3, t_set q4 hap hk (en_cv ρ v)⟩ (fun j _ => vp_updV_set hlm (en_cv ρ v) j)⟩
  cases hfb : (T kf).2.2.2 with
  | false =>
    unfold u_lay at hlay
    rw [if_neg (by rw [hfb]; decide)] at hlay
    have h6' := u_store hfc hkC hkind hlay hi (htys kf hk) hn hfit
    refine W.putK X.1.1 X.1.2.1 (f := f) ⟨hown, hts _ hlink, ⟨_, _, _, hi⟩, hst⟩ (by rw [q2]; exact h6') q1 q3 (by rw [hsl]; exact k2_hasslot (q4 kf hk)) rfl rfl hd (fun H' e1 e2 e3 => ?_)
    rw [hsl] at e1
    exact fin2 H' e1 e2 e3 _
  | true =>
    unfold u_lay at hlay
    rw [if_pos hfb] at hlay
    have hfin' : fin = true := hfin.symm.trans hfb
    have hcf : m.cls = cf := by
      obtain ⟨_, _, c', _, _, _, -, -, hf', -, -, -, hown2, -⟩ := Cond.laysFinal_spec hlay
      have e1 : c' = cf := by have := hi.symm.trans hf'; simp at this; exact this.1.symm
      rw [hdecl hfin' (by intro z; have z : kd = 9 := z; subst z; cases v <;> first | exact hv | exact absurd hv (by decide) | (rcases hv with hv | ⟨hv, -⟩ <;> exact absurd hv (by decide)))] at hown2
      rw [← e1]; exact Option.some.inj (hown.symm.trans hown2)
    have h6' := u_fits hfc hkC hkind (Or.inr hlay) hi (htys kf hk) hn hfit
    refine W.putFinK X.1.1 X.1.2.1 hown (hts _ hlink) hi hst hcf (X.2.2.2 (hini hfin')) (by rw [q2]; exact h6') q1 q3 (by rw [hsl]; exact k2_hasslot (q4 kf hk)) rfl rfl hd (fun H' e1 e2 e3 => ?_)
    rw [hsl] at e1
    exact fin2 H' e1 e2 e3 _
theorem en_pushP {H H1 : Heap} {en : en_C} (hP : va_P D vwCl (en_ws tc ρ c x) H) (hρ : ρ x = H.size) (o1 : ∀ q, q < H.size → H1[q]? = H[q]?) (hn : va_at D vwCl (ρ x, en_cE tc ρ en) H1) : va_P D vwCl (en_ws tc ρ (en_up c x en) (x + 1)) H1 := by
  rw [← en_ws_push]
  refine (hP.kept (fun k q hq => o1 q.1 ((hP k q hq).lt))).app (fun k q hq => ?_)
  have hz : k < 1 := (List.getElem?_eq_some_iff.mp hq).1
  rw [show k = 0 by omega] at hq
  cases hq
  exact hn
theorem so_new (X : en_X p R s m args meth cd D tc ρ b0 x0 u0 x1 u1 y) {n ci : Nat} {fs : List Value} (hd : decode (mt_code y) pc = .ok (.new n, 3)) (hf : en_okN (mt_cls y) n (ci, fs)) (hx : x + 1 ≤ x1) (hu : u + fs.length ≤ u1) (K : en_A p l e R s m args below meth cd Q D tc ρ b0 x0 u0 x1 u1 y sc (pc + 3, lv, .ref x :: st, en_up c x (.inr (ci, fs)), x + 1, u + fs.length)) : en_A p l e R s m args below meth cd Q D tc ρ b0 x0 u0 x1 u1 y sc (pc, lv, st, c, x, u) := by
  intro k j H locs ls h1 h2 h3 h4 h5 h6 h7 h8 h9 h10
  show W p l e R s m args below meth cd H locs k j Q (F0 m pc ls (st.map (en_cv ρ)))
  obtain ⟨⟨C, T, N⟩, hcl, hlink, hinst, hini, hwords, ⟨ty0, htys⟩, hN, hfs, hnr⟩ := hf
  have hts := X.1.2.2.2.2
  have hKn := X.2.1.1.1 ci _ hcl
  have hx' : x = x0 + k := h1
  have hu' : u = u0 + j := h2
  have hρ : ρ x = H.size := by rw [h5]; exact X.2.2.1.1 x (by have := X.2.2.1.2.2.1; omega)
  have hNN : fs.length = N := hN
  refine W.newcK X.1.1 X.1.2.1 X.1.2.2.2.1 (hts _ hlink) (hts _ hinst) (hts _ hini) rfl hd (by have := X.2.2.1.2.2.2.1; omega) (by have := X.2.2.1.2.2.2.2; show j + N ≤ _; omega) hKn.2.1 rfl (fun H1 kC hkC e1 z1 o1 => ?_)
  have e2 : H1.size = b0 + (x + 1) := by rw [z1, h5]; exact Nat.add_assoc _ _ _
  have hcE : en_cE tc ρ (.inr (ci, fs)) = .inr (ci, fs) := by
    show Sum.inr (ci, fs.map (en_cv ρ)) = _
    rw [show fs.map (en_cv ρ) = fs from (List.map_congr_left (fun v hv => hnr ρ v hv)).trans (List.map_id fs)]
  have hP1 := en_pushP (en := .inr (ci, fs)) h6 hρ o1 (by
    rw [hcE, hρ]
    exact ⟨_, hcl, (u_born ty0 hts hwords hKn hkC e1 htys).to (fun q hq => hfs ty0 htys q hq)⟩)
  rw [← hNN]
  have := K (k + 1) (j + fs.length) H1 locs ls (by show x + 1 = _; omega) (by show u + fs.length = _; omega) hx hu e2 hP1 ⟨Nat.le_trans h7.1 (by omega), fun q g1 g2 => (o1 q (Nat.lt_of_lt_of_le g1 h7.1)).trans (h7.2.1 q g1 g2), h7.2.2⟩ h8 h9 (fun q => (en_up_n (by have := X.2.2.1.2.2.1; omega)).trans (h10 q))
  rw [show List.map (en_cv ρ) (Value.ref x :: st) = .ref (ρ x) :: st.map (en_cv ρ) from rfl, hρ] at this
  exact this
theorem so_newa (X : en_X p R s m args meth cd D tc ρ b0 x0 u0 x1 u1 y) {ty : ArrayType} {t : Nat} {n : Int32} (hd : decode (mt_code y) pc = .ok (.newarray ty, 2)) (hty : en_at ty = some t) (hw : Cond.arrayClass (newarray.typeOf ty) ∈ en_T0) (hn : ¬ n < 0) (hN : n.toNatClampNeg ≤ 1000000) (hx : x + 1 ≤ x1) (hu : u + n.toNatClampNeg ≤ u1) (K : en_A p l e R s m args below meth cd Q D tc ρ b0 x0 u0 x1 u1 y sc (pc + 2, lv, .ref x :: st, en_up c x (en_z t n.toNatClampNeg), x + 1, u + n.toNatClampNeg)) : en_A p l e R s m args below meth cd Q D tc ρ b0 x0 u0 x1 u1 y sc (pc, lv, .int n :: st, c, x, u) := by
  intro k j H locs ls h1 h2 h3 h4 h5 h6 h7 h8 h9 h10
  show W p l e R s m args below meth cd H locs k j Q (F0 m pc ls (.int n :: st.map (en_cv ρ)))
  have hts := X.1.2.2.2.2
  have hx' : x = x0 + k := h1
  have hu' : u = u0 + j := h2
  have hρ : ρ x = H.size := by rw [h5]; exact X.2.2.1.1 x (by have := X.2.2.1.2.2.1; omega)
  have hcb : componentBytes (newarray.typeOf ty) ≤ 8 := by cases ty <;> decide
  refine va_newaK X.1.1 X.1.2.1 (hts _ hw) rfl hd rfl hn rfl (Nat.le_trans (Nat.mul_le_mul hN hcb) (by decide)) (by have := X.2.2.1.2.2.2.1; omega) (by have := X.2.2.1.2.2.2.2; omega) rfl (fun H1 cA e1 z1 o1 hAr hNm => ?_)
  have e2 : H1.size = b0 + (x + 1) := by rw [z1, h5]; exact Nat.add_assoc _ _ _
  have hcA : cA = tc t ∧ arrV (tc t) n.toNatClampNeg (fun _ => defaultValue (newarray.typeOf ty)) = vp_cell (tc t) ((n.toNatClampNeg, if t = 1 then .inr (.inl (fun _ => 0)) else .inl (fun _ => 0)) : vp_A) := by
    have hK2 := X.2.1.1.2
    cases ty <;> cases hty
    · have h := (hK2 2 _ rfl).2
      exact ⟨Option.some.inj (hNm.symm.trans h), rfl⟩
    · have h := (hK2 0 _ rfl).2
      exact ⟨Option.some.inj (hNm.symm.trans h), rfl⟩
    · have h := (hK2 1 _ rfl).2
      exact ⟨Option.some.inj (hNm.symm.trans h), rfl⟩
  have hP1 := en_pushP (en := en_z t n.toNatClampNeg) h6 hρ o1 (by
    show H1[ρ x]? = some (vp_cell (tc t) _)
    rw [hρ, e1, hcA.1, hcA.2])
  have := K (k + 1) (j + n.toNatClampNeg) H1 locs ls (by show x + 1 = _; omega) (by show u + n.toNatClampNeg = _; omega) hx hu e2 hP1 ⟨Nat.le_trans h7.1 (by omega), fun q g1 g2 => (o1 q (Nat.lt_of_lt_of_le g1 h7.1)).trans (h7.2.1 q g1 g2), h7.2.2⟩ h8 h9 (fun q => (en_up_n (by have := X.2.2.1.2.2.1; omega)).trans (h10 q))
  rw [show List.map (en_cv ρ) (Value.ref x :: st) = .ref (ρ x) :: st.map (en_cv ρ) from rfl, hρ] at this
  exact this
theorem en_sum {r : List Value} (h : r.length ≤ 4) : ((r.map (en_cv ρ)).map fun v => v.category).sum ≤ 8 := by
  have key : ∀ (r : List Value), ((r.map (en_cv ρ)).map fun v => v.category).sum ≤ 2 * r.length := by
    intro r
    induction r with
    | nil => exact Nat.le_refl _
    | cons a r ih =>
      have ha : (en_cv ρ a).category ≤ 2 := by rcases lv_cat (en_cv ρ a) with h | h <;> omega
      simp only [List.map_cons, List.sum_cons, List.length_cons]
      omega
  have := key r
  omega
theorem so_max (X : en_X p R s m args meth cd D tc ρ b0 x0 u0 x1 u1 y) (hfr : 1 ≤ R.frames) (hlo : 40 ≤ R.locals) {n : Nat} {a b : Int32} (hd : decode (mt_code y) pc = .ok (.invokestatic n, 3)) (hw : Cond.methodLink (mt_cn (mt_cls y)) n Lib.Math.max.name ∈ en_T0 ∧ Cond.static Lib.Math.max.name ∈ en_T0 ∧ Cond.initialized "java/lang/Math" ∈ en_T0 ∧ Cond.code Lib.Math.max.name Lib.Math.max.code 2 (some .int) ∈ en_T0) (hr : st.length ≤ 4) (K : en_A p l e R s m args below meth cd Q D tc ρ b0 x0 u0 x1 u1 y sc (pc + 3, lv, .int (if a < b then b else a) :: st, c, x, u)) : en_A p l e R s m args below meth cd Q D tc ρ b0 x0 u0 x1 u1 y sc (pc, lv, .int b :: .int a :: st, c, x, u) := by
  intro k j H locs ls h1 h2 h3 h4 h5 h6 h7 h8 h9 h10
  show W p l e R s m args below meth cd H locs k j Q (F0 m pc ls (.int b :: .int a :: st.map (en_cv ρ)))
  have hts := X.1.2.2.2.2
  have hx' : x = x0 + k := h1
  have hu' : u = u0 + j := h2
  have hxx : x ≤ x1 := h3
  have huu : u ≤ u1 := h4
  have hsm := en_sum (ρ := ρ) hr
  exact va_mmax X.1.1 X.1.2.1 (by rw [X.1.2.2.1, h8.1]; exact h9.symm) X.1.2.2.2.1 (hts _ hw.1) (hts _ hw.2.1) (hts _ hw.2.2.1) (hts _ hw.2.2.2) hfr (by omega) (by have := X.2.2.1.2.2.2.1; omega) (by have := X.2.2.1.2.2.2.2; omega) hd (K k j H locs ls h1 h2 h3 h4 h5 h6 h7 h8 h9 h10)
theorem so_min (X : en_X p R s m args meth cd D tc ρ b0 x0 u0 x1 u1 y) (hfr : 1 ≤ R.frames) (hlo : 40 ≤ R.locals) {n : Nat} {a b : Int32} (hd : decode (mt_code y) pc = .ok (.invokestatic n, 3)) (hw : Cond.methodLink (mt_cn (mt_cls y)) n Lib.Math.min.name ∈ en_T0 ∧ Cond.static Lib.Math.min.name ∈ en_T0 ∧ Cond.initialized "java/lang/Math" ∈ en_T0 ∧ Cond.code Lib.Math.min.name Lib.Math.min.code 2 (some .int) ∈ en_T0) (hr : st.length ≤ 4) (K : en_A p l e R s m args below meth cd Q D tc ρ b0 x0 u0 x1 u1 y sc (pc + 3, lv, .int (if b < a then b else a) :: st, c, x, u)) : en_A p l e R s m args below meth cd Q D tc ρ b0 x0 u0 x1 u1 y sc (pc, lv, .int b :: .int a :: st, c, x, u) := by
  intro k j H locs ls h1 h2 h3 h4 h5 h6 h7 h8 h9 h10
  show W p l e R s m args below meth cd H locs k j Q (F0 m pc ls (.int b :: .int a :: st.map (en_cv ρ)))
  have hts := X.1.2.2.2.2
  have hx' : x = x0 + k := h1
  have hu' : u = u0 + j := h2
  have hxx : x ≤ x1 := h3
  have huu : u ≤ u1 := h4
  have hsm := en_sum (ρ := ρ) hr
  exact va_mmin X.1.1 X.1.2.1 (by rw [X.1.2.2.1, h8.1]; exact h9.symm) X.1.2.2.2.1 (hts _ hw.1) (hts _ hw.2.1) (hts _ hw.2.2.1) (hts _ hw.2.2.2) hfr (by omega) (by have := X.2.2.1.2.2.2.1; omega) (by have := X.2.2.1.2.2.2.2; omega) hd (K k j H locs ls h1 h2 h3 h4 h5 h6 h7 h8 h9 h10)
theorem so_obj (X : en_X p R s m args meth cd D tc ρ b0 x0 u0 x1 u1 y) (hfr : 1 ≤ R.frames) (hlo : 40 ≤ R.locals) {n : Nat} {a : Nat} (hd : decode (mt_code y) pc = .ok (.invokespecial n, 3)) (hw : Cond.methodLink (mt_cn (mt_cls y)) n Lib.objectInit ∈ en_T0 ∧ Cond.instanceMethod Lib.objectInit ∈ en_T0 ∧ Cond.code Lib.objectInit ⟨#[0xb1]⟩ 1 none ∈ en_T0) (hr : st.length ≤ 4) (K : en_A p l e R s m args below meth cd Q D tc ρ b0 x0 u0 x1 u1 y sc (pc + 3, lv, st, c, x, u)) : en_A p l e R s m args below meth cd Q D tc ρ b0 x0 u0 x1 u1 y sc (pc, lv, .ref a :: st, c, x, u) := by
  intro k j H locs ls h1 h2 h3 h4 h5 h6 h7 h8 h9 h10
  have hts := X.1.2.2.2.2
  have hsm := en_sum (ρ := ρ) hr
  refine W.objInit X.1.1 X.1.2.1 X.1.2.2.2.1 (hts _ hw.1) (hts _ hw.2.1) (hts _ hw.2.2) rfl (by rw [X.1.2.2.1]; exact h8.1.trans h9) (a := ρ a) (rest := st.map (en_cv ρ)) rfl hd hfr (by show 2 * 0 + _ + 12 ≤ _; omega) ?_
  exact (K k j H locs ls h1 h2 h3 h4 h5 h6 h7 h8 h9 h10)
theorem so_copy (X : en_X p R s m args meth cd D tc ρ b0 x0 u0 x1 u1 y) (hfr : 1 ≤ R.frames) (hlo : 40 ≤ R.locals) {i a0 a1 n0 n1 : Nat} {f g : Nat → Int32} {sp dp n : Int32} (hd : decode (mt_code y) pc = .ok (.invokestatic i, 3)) (hw : Cond.methodLink (mt_cn (mt_cls y)) i arraycopyName ∈ en_T0 ∧ Cond.native arraycopyName ∈ en_T0 ∧ Cond.static arraycopyName ∈ en_T0 ∧ Cond.initialized "java/lang/System" ∈ en_T0) (hc0 : c a0 = .inl (0, n0, .inl f)) (hc1 : c a1 = .inl (0, n1, .inl g)) (ha0 : a0 < x) (ha1 : a1 < x) (hr : st.length ≤ 4) (g1 : ¬ sp < 0) (g2 : ¬ dp < 0) (g3 : ¬ n < 0) (g4 : sp.toNatClampNeg + n.toNatClampNeg ≤ n0) (g5 : dp.toNatClampNeg + n.toNatClampNeg ≤ n1) (K : en_A p l e R s m args below meth cd Q D tc ρ b0 x0 u0 x1 u1 y sc (pc + 3, lv, st, en_up c a1 (.inl (0, n1, .inl (va_cpy f g sp.toNatClampNeg dp.toNatClampNeg n.toNatClampNeg))), x, u)) : en_A p l e R s m args below meth cd Q D tc ρ b0 x0 u0 x1 u1 y sc (pc, lv, .int n :: .int dp :: .ref a1 :: .int sp :: .ref a0 :: st, c, x, u) := by
  intro k j H locs ls h1 h2 h3 h4 h5 h6 h7 h8 h9 h10
  show W p l e R s m args below meth cd H locs k j Q (F0 m pc ls (.int n :: .int dp :: .ref (ρ a1) :: .int sp :: .ref (ρ a0) :: st.map (en_cv ρ)))
  have hts := X.1.2.2.2.2
  have hsm := en_sum (ρ := ρ) hr
  have hD : va_D (fun q => b0 ≤ q) (en_ws tc ρ c x) := en_ws_D X.2.2.1.1 (Nat.le_of_lt (Nat.lt_of_le_of_lt h3 X.2.2.1.2.2.1))
  have hg0 := en_ws_at (tc := tc) (ρ := ρ) ha0 hc0
  have hg1 := en_ws_at (tc := tc) (ρ := ρ) ha1 hc1
  have nn : ∀ z : Int32, ¬ z < 0 → z.toInt = (z.toNatClampNeg : Int) := by
    intro z hz
    have hz0 : (0 : Int) ≤ z.toInt := by
      have := Int32.not_lt.mp hz
      simpa using Int32.le_iff_toInt_le.mp this
    show z.toInt = ((z.toInt.toNat : Nat) : Int)
    omega
  have hnw : nativeFrameWords "java/lang/System" "arraycopy" 5 ≤ 7 := by decide +kernel
  intro T hT XT
  have k0 : H[ρ a0]? = some (vp_cell (tc 0) (n0, .inl f)) := h6 a0 _ hg0
  have k1 : H[ρ a1]? = some (vp_cell (tc 0) (n1, .inl g)) := h6 a1 _ hg1
  obtain ⟨-, cl0, hk0, cm0, hkk0⟩ := (X.2.1.1.2 0 _ rfl).1 n0 (fun j => .int (f j))
  obtain ⟨-, cl1, hk1, cm1, hkk1⟩ := (X.2.1.1.2 0 _ rfl).1 n1 (fun j => .int (g j))
  obtain ⟨vm', X', step⟩ := XT.arraycopy X.1.1 X.1.2.2.2.1 (hts _ hw.1) (hts _ hw.2.1) (hts _ hw.2.2.1) (hts _ hw.2.2.2) (src := ρ a0) (dst := ρ a1) (cs := vp_cell (tc 0) (n0, .inl f)) (cd := vp_cell (tc 0) (n1, .inl g)) (srcPos := sp) (destPos := dp) (n := n) (by rw [hT]; exact k0) (by rw [hT]; exact k1)
    (fun _ h => by cases h) (fun _ h => by cases h) (fun h => by cases h) (fun h => by cases h) hk0 hk1 hkk0 hkk1 (by simp [refKind]) g1 g2 g3
    (by rw [nn sp g1, nn n g3]; show ¬ _ > ((arrV (tc 0) n0 (fun j => .int (f j))).slots.size : Int); rw [arrV_size]; omega)
    (by rw [nn dp g2, nn n g3]; show ¬ _ > ((arrV (tc 0) n1 (fun j => .int (g j))).slots.size : Int); rw [arrV_size]; omega)
    (fun vm₁ _ i hi => by
      have e : (vp_cell (tc 0) (n0, .inl f)).slots.getD (sp.toNatClampNeg + i) .null = .int (f (sp.toNatClampNeg + i)) := by
        show (arrV (tc 0) n0 (fun j => .int (f j))).slots.getD _ _ = _
        rw [Array.getD_eq_getD_getElem?, arrV_read _ _ (by omega)]
        rfl
      refine ⟨?_, ?_⟩
      · rw [e]
        rfl
      · rw [e]
        exact trivial)
    (g := F0 m pc ls (.int n :: .int dp :: .ref (ρ a1) :: .int sp :: .ref (ρ a0) :: st.map (en_cv ρ))) rfl (by rw [X.1.2.2.1]; exact h8.1.trans h9) (rest := st.map (en_cv ρ)) rfl (by rw [X.1.2.1]; exact hd) hfr (by show 2 * 0 + _ + _ ≤ _; omega)
  have e1 : copied (vp_cell (tc 0) (n0, .inl f)) (vp_cell (tc 0) (n1, .inl g)) sp dp n = vp_cell (tc 0) (n1, .inl (va_cpy f g sp.toNatClampNeg dp.toNatClampNeg n.toNatClampNeg)) := va_copied (fun z => .int z) (tc 0) (tc 0) f g g4
  rw [e1] at X' step
  have hl : ρ a1 < H.size := (Array.getElem?_eq_some_iff.mp k1).1
  have hheap : ((T.setVm vm').setCell (ρ a1) (vp_cell (tc 0) (n1, .inl (va_cpy f g sp.toNatClampNeg dp.toNatClampNeg n.toNatClampNeg)))).heap = H.setIfInBounds (ρ a1) (vp_cell (tc 0) (n1, .inl (va_cpy f g sp.toNatClampNeg dp.toNatClampNeg n.toNatClampNeg))) := by rw [← hT]; rfl
  have oq : ∀ q : Nat, q ≠ ρ a1 → (H.setIfInBounds (ρ a1) (vp_cell (tc 0) (n1, .inl (va_cpy f g sp.toNatClampNeg dp.toNatClampNeg n.toNatClampNeg))))[q]? = H[q]? := fun q hq => by simp [Array.getElem?_setIfInBounds, Ne.symm hq]
  obtain ⟨t, z1, z2⟩ := K k j _ _ ls h1 h2 h3 h4 (by rw [Array.size_setIfInBounds]; exact h5) (en_wsP (H1 := H.setIfInBounds (ρ a1) (vp_cell (tc 0) (n1, .inl (va_cpy f g sp.toNatClampNeg dp.toNatClampNeg n.toNatClampNeg)))) h6 hD ha1 (show (H.setIfInBounds (ρ a1) _)[ρ a1]? = some _ by simp [Array.getElem?_setIfInBounds, hl, en_cE]) oq) ⟨by rw [Array.size_setIfInBounds]; exact h7.1, fun q y1 y2 => by
      rw [oq q (fun e => y2 (by rw [e]; exact hD.2 a1 _ hg1))]
      exact h7.2.1 q y1 y2, fun q hq => by
      rcases List.mem_append.mp hq with h | h
      · exact h7.2.2 q h
      · obtain ⟨z, -, hz⟩ := List.mem_map.mp h
        rw [← hz]
        exact hD.2 a1 _ hg1⟩ h8 h9 (en_scr ha1 h3 X.2.2.1.2.2.1 h10) _ hheap X'
  exact ⟨t, step t z1, z2⟩
/-- behind a call -/
theorem en_back {H : Heap} {locs : List Loc} {k j mc ms : Nat} {ls : Array Slot} {st0 rest : List Value} {a : Array Value} {v : Option Value} {c' : en_H} {x' : Nat} (hr : va_Run p l e R s m args below meth cd H locs k j mc ms (F0 m pc ls st0) rest (en_Qc D tc ρ b0 v c' x' a) (fun q => b0 ≤ q)) (hS : va_S (fun q => b0 ≤ q) s.heap H locs)
    (kk : ∀ (H1 : Heap) (locs1 : List Loc), H1.size = b0 + x' → va_P D vwCl (en_ws tc ρ c' x') H1 → va_S (fun q => b0 ≤ q) s.heap H1 locs1 → W p l e R s m args below meth cd H1 locs1 (k + mc) (j + ms) Q (F0 m (pc + 3) ls ((v.map (en_cv ρ)).toList ++ rest))) : W p l e R s m args below meth cd H locs k j Q (F0 m pc ls st0) := by
  intro T hT XT
  obtain ⟨v', st₀, t, T', L, h0, X', hL, e1, e2, ⟨hv, hz1, hp, hz, hk⟩, stp⟩ := hr T hT XT
  have hv : v' = v.map (en_cv ρ) := Outcome.returned.inj hv
  subst hv
  rw [h0] at hz hk
  obtain ⟨t2, a1, b1⟩ := kk T'.heap (locs ++ L) (by rw [e1]; exact hz1) (by rw [e1]; exact hp)
    ⟨Nat.le_trans hS.1 (by rw [e1]; exact hz), fun q g1 g2 => by rw [e1, hk q (Nat.lt_of_lt_of_le g1 hS.1) g2]; exact hS.2.1 q g1 g2, fun q hq => by
      rcases List.mem_append.mp hq with h | h
      · exact hS.2.2 q h
      · exact hL q h⟩ T' rfl X'
  exact ⟨t2, stp t2 a1, b1⟩
theorem en_goodT : ∀ w ∈ en_T0, (w.onTables && w.keeps) = true ∨ ∃ ty, w = .arrayClass ty := fun w hw => good_of_word (List.mem_filter.mp hw).2
theorem en_goodM {y' : Nat} (h : Cond.code (mt_name y') (mt_code y') (mt_nl y') (mt_ret y') ∈ en_T0) : GoodIn en_T0 (en_mw y') := by
  intro w hw
  rcases List.mem_cons.mp hw with rfl | hw
  · exact ⟨h, en_goodT _ h⟩
  · exact ⟨hw, en_goodT _ hw⟩
theorem en_callB (X : en_X p R s m args meth cd D tc ρ b0 x0 u0 x1 u1 y) {d mc ms n k y' : Nat} (hY : en_okY y' k) (hR : d + 1 ≤ R.frames ∧ 40 * (d + 1) ≤ R.locals) (hl : Cond.methodLink (mt_cn (mt_cls y)) n (mt_name y') ∈ en_T0) : CallB R s args (mt_cn (mt_cls y)) n (mt_name y') (mt_code y') (mt_nl y') (mt_ret y') (en_mw y') (en_room d mc ms) mc ms k := by
  have hts := X.1.2.2.2.2
  exact callB_of k hts (en_goodM hY.1) rfl rfl rfl (hts _ hY.2.1) (hts _ hl) ⟨hY.2.2.1.1, hY.2.2.1.2, hY.2.2.2.1⟩ ⟨hR.1, by show 8 + (mt_nl y' + 11) + 40 * d ≤ _; have := hY.2.2.2.2; omega⟩
theorem en_pre (X : en_X p R s m args meth cd D tc ρ b0 x0 u0 x1 u1 y) {H : Heap} {As : List Value} (h5 : H.size = b0 + x) (h6 : va_P D vwCl (en_ws tc ρ c x) H) : PreS s H (en_Pc D tc ρ b0 As c x) (As.map (en_cv ρ)) :=
  ⟨en_blind, fun U hU hW => ⟨rfl, by rw [hU]; exact h5, by rw [hU]; exact h6, va_K.moved hW.alike X.2.1.1, fun q hq => va_Nw.warmM hW (X.2.1.2 q hq)⟩⟩
theorem so_virt (X : en_X p R s m args meth cd D tc ρ b0 x0 u0 x1 u1 y) {d n y' na ci a : Nat} {fs : List Value} {As r : List Value} {v : Option Value} {c' : en_H} {x' u' : Nat} (hR : d + 1 ≤ R.frames ∧ 40 * (d + 1) ≤ R.locals) (hd : decode (mt_code y) pc = .ok (.invokevirtual n, 3)) (hM : en_okM (mt_cls y) n (0, y', na, ci)) (hst : st = As.reverse ++ .ref a :: r) (hAs : As.length = na) (hc : c a = .inr (ci, fs)) (ha : a < x) (hr : r.length ≤ 4) (hm : en_M l D tc ρ b0 d y' (.ref a :: As) c x u v c' x' u') (ho : en_ok c x u c' x' u') (hx : x' ≤ x1) (hu : u' ≤ u1) (K : en_A p l e R s m args below meth cd Q D tc ρ b0 x0 u0 x1 u1 y sc (pc + 3, lv, v.toList ++ r, c', x', u')) : en_A p l e R s m args below meth cd Q D tc ρ b0 x0 u0 x1 u1 y sc (pc, lv, st, c, x, u) := by
  intro k j H locs ls h1 h2 h3 h4 h5 h6 h7 h8 h9 h10
  have hts := X.1.2.2.2.2
  have hx' : x = x0 + k := h1
  have hu' : u = u0 + j := h2
  have hox := ho.1
  have hou := ho.2.1
  have hsm := en_sum (ρ := ρ) hr
  obtain ⟨⟨q, hq, hqc⟩, hl, hi, hse, hY⟩ := hM.1 rfl
  have hrecv := va_recv X.2.1.1 h6 hq (en_ws_at (tc := tc) (ρ := ρ) ha hc)
  rw [hqc] at hrecv
  have hrun := va_runV (As := As.map (en_cv ρ)) (rest := r.map (en_cv ρ)) (b := ρ a) (C := (mt_name y').cls) (n := na) (H := H) (locs := locs) (cells := k) (slots := j) (e := e) (below := below) (meth := meth) (g := F0 m pc ls (st.map (en_cv ρ))) ⟨X.1.1, X.1.2.1, X.1.2.2.1, X.1.2.2.2.1, hts⟩ hm ⟨en_callB X hY hR hl, hts _ hi, hts _ hse⟩ ⟨en_blind, hrecv, (en_pre X (As := .ref a :: As) h5 h6).2⟩ rfl (by rw [List.length_map]; exact hAs) (h8.1.trans h9) (by show st.map (en_cv ρ) = _; rw [hst, List.map_append, List.map_reverse]; rfl) (by show 2 * 0 + _ ≤ 8; omega) hd ⟨by have := X.2.2.1.2.2.2.1; omega, by have := X.2.2.1.2.2.2.2; omega⟩
  refine en_back hrun h7 (fun H1 locs1 e1 e2 e3 => ?_)
  have := K (k + (x' - x)) (j + (u' - u)) H1 locs1 ls (by show x' = _; omega) (by show u' = _; omega) hx hu e1 e2 e3 h8 h9 (fun q => (ho.2.2 en_S (by have := X.2.2.1.2.2.1; omega)).trans (h10 q))
  rw [show (v.map (en_cv ρ)).toList ++ r.map (en_cv ρ) = (v.toList ++ r).map (en_cv ρ) by cases v <;> rfl]
  exact this
theorem so_stat (X : en_X p R s m args meth cd D tc ρ b0 x0 u0 x1 u1 y) {d n y' na ci a : Nat} {fs : List Value} {As r : List Value} {v : Option Value} {c' : en_H} {x' u' : Nat} (hR : d + 1 ≤ R.frames ∧ 40 * (d + 1) ≤ R.locals) (hd : decode (mt_code y) pc = .ok (.invokestatic n, 3)) (hM : en_okM (mt_cls y) n (1, y', na, ci)) (hst : st = As.reverse ++ r) (hAs : As.length = na) (hr : r.length ≤ 4) (hm : en_M l D tc ρ b0 d y' As c x u v c' x' u') (ho : en_ok c x u c' x' u') (hx : x' ≤ x1) (hu : u' ≤ u1) (K : en_A p l e R s m args below meth cd Q D tc ρ b0 x0 u0 x1 u1 y sc (pc + 3, lv, v.toList ++ r, c', x', u')) : en_A p l e R s m args below meth cd Q D tc ρ b0 x0 u0 x1 u1 y sc (pc, lv, st, c, x, u) := by
  intro k j H locs ls h1 h2 h3 h4 h5 h6 h7 h8 h9 h10
  have hts := X.1.2.2.2.2
  have hx' : x = x0 + k := h1
  have hu' : u = u0 + j := h2
  have hox := ho.1
  have hou := ho.2.1
  have hsm := en_sum (ρ := ρ) hr
  obtain ⟨hl, hi, hY⟩ := hM.2.1 rfl
  have hrun := va_runS (As := As.map (en_cv ρ)) (rest := r.map (en_cv ρ)) (n := na) (H := H) (locs := locs) (cells := k) (slots := j) (e := e) (below := below) (meth := meth) (g := F0 m pc ls (st.map (en_cv ρ))) ⟨X.1.1, X.1.2.1, X.1.2.2.1, X.1.2.2.2.1, hts⟩ hm ⟨en_callB X hY hR hl, hts _ hi⟩ (en_pre X (As := As) h5 h6) rfl (by rw [List.length_map]; exact hAs) (h8.1.trans h9) (by show st.map (en_cv ρ) = _; rw [hst, List.map_append, List.map_reverse]) (by show 2 * 0 + _ ≤ 8; omega) hd ⟨by have := X.2.2.1.2.2.2.1; omega, by have := X.2.2.1.2.2.2.2; omega⟩
  refine en_back hrun h7 (fun H1 locs1 e1 e2 e3 => ?_)
  have := K (k + (x' - x)) (j + (u' - u)) H1 locs1 ls (by show x' = _; omega) (by show u' = _; omega) hx hu e1 e2 e3 h8 h9 (fun q => (ho.2.2 en_S (by have := X.2.2.1.2.2.1; omega)).trans (h10 q))
  rw [show (v.map (en_cv ρ)).toList ++ r.map (en_cv ρ) = (v.toList ++ r).map (en_cv ρ) by cases v <;> rfl]
  exact this
theorem so_init (X : en_X p R s m args meth cd D tc ρ b0 x0 u0 x1 u1 y) {d n y' na ci a : Nat} {fs : List Value} {As r : List Value} {v : Option Value} {c' : en_H} {x' u' : Nat} (hR : d + 1 ≤ R.frames ∧ 40 * (d + 1) ≤ R.locals) (hd : decode (mt_code y) pc = .ok (.invokespecial n, 3)) (hM : en_okM (mt_cls y) n (2, y', na, ci)) (hst : st = As.reverse ++ .ref a :: r) (hAs : As.length = na) (hr : r.length ≤ 4) (hm : en_M l D tc ρ b0 d y' (.ref a :: As) c x u v c' x' u') (ho : en_ok c x u c' x' u') (hx : x' ≤ x1) (hu : u' ≤ u1) (K : en_A p l e R s m args below meth cd Q D tc ρ b0 x0 u0 x1 u1 y sc (pc + 3, lv, v.toList ++ r, c', x', u')) : en_A p l e R s m args below meth cd Q D tc ρ b0 x0 u0 x1 u1 y sc (pc, lv, st, c, x, u) := by
  intro k j H locs ls h1 h2 h3 h4 h5 h6 h7 h8 h9 h10
  have hts := X.1.2.2.2.2
  have hx' : x = x0 + k := h1
  have hu' : u = u0 + j := h2
  have hox := ho.1
  have hou := ho.2.1
  have hsm := en_sum (ρ := ρ) hr
  obtain ⟨hl, hi, hnm, hrt, hY⟩ := hM.2.2.1 rfl
  have hB := en_callB (mc := x' - x) (ms := u' - u) X hY hR hl
  rw [hrt] at hB
  have hrun := va_runI (As := As.map (en_cv ρ)) (rest := r.map (en_cv ρ)) (b := ρ a) (n := na) (H := H) (locs := locs) (cells := k) (slots := j) (e := e) (below := below) (meth := meth) (g := F0 m pc ls (st.map (en_cv ρ))) ⟨X.1.1, X.1.2.1, X.1.2.2.1, X.1.2.2.2.1, hts⟩ hm ⟨hB, hnm, hts _ hi⟩ (en_pre X (As := .ref a :: As) h5 h6) rfl (by rw [List.length_map]; exact hAs) (h8.1.trans h9) (by show st.map (en_cv ρ) = _; rw [hst, List.map_append, List.map_reverse]; rfl) (by show 2 * 0 + _ ≤ 8; omega) hd ⟨by have := X.2.2.1.2.2.2.1; omega, by have := X.2.2.1.2.2.2.2; omega⟩
  refine en_back hrun h7 (fun H1 locs1 e1 e2 e3 => ?_)
  have := K (k + (x' - x)) (j + (u' - u)) H1 locs1 ls (by show x' = _; omega) (by show u' = _; omega) hx hu e1 e2 e3 h8 h9 (fun q => (ho.2.2 en_S (by have := X.2.2.1.2.2.1; omega)).trans (h10 q))
  rw [show (v.map (en_cv ρ)).toList ++ r.map (en_cv ρ) = (v.toList ++ r).map (en_cv ρ) by cases v <;> rfl]
  exact this
theorem so_initN (X : en_X p R s m args meth cd D tc ρ b0 x0 u0 x1 u1 y) {d n y' na ci a : Nat} {fs : List Value} {As r : List Value} {v : Option Value} {c' : en_H} {x' u' : Nat} (hR : d + 1 ≤ R.frames ∧ 40 * (d + 1) ≤ R.locals) (hd : decode (mt_code y) pc = .ok (.invokespecial n, 3)) (hM : en_okM (mt_cls y) n (3, y', na, ci)) (hst : st = As.reverse ++ .ref a :: r) (hAs : As.length = na) (hr : r.length ≤ 4) (hm : en_M l D tc ρ b0 d y' (.ref a :: As) c x u v c' x' u') (ho : en_ok c x u c' x' u') (hx : x' ≤ x1) (hu : u' ≤ u1) (K : en_A p l e R s m args below meth cd Q D tc ρ b0 x0 u0 x1 u1 y sc (pc + 3, lv, v.toList ++ r, c', x', u')) : en_A p l e R s m args below meth cd Q D tc ρ b0 x0 u0 x1 u1 y sc (pc, lv, st, c, x, u) := by
  intro k j H locs ls h1 h2 h3 h4 h5 h6 h7 h8 h9 h10
  have hts := X.1.2.2.2.2
  have hx' : x = x0 + k := h1
  have hu' : u = u0 + j := h2
  have hox := ho.1
  have hou := ho.2.1
  have hsm := en_sum (ρ := ρ) hr
  obtain ⟨⟨host, hl⟩, hi, hnm, hrt, hY⟩ := hM.2.2.2.1 rfl
  have hB := va_cnB (R := R) (args := args) (mc := x' - x) (ms := u' - u) (rm := en_room d (x' - x) (u' - u)) na hts (en_goodM hY.1) rfl rfl rfl (X.2.1.2 _ hl) (hts _ hY.2.1) ⟨hY.2.2.1.1, hY.2.2.1.2, hY.2.2.2.1⟩ ⟨hR.1, by show 8 + (mt_nl y' + 11) + 40 * d ≤ _; have hnl : mt_nl y' ≤ 21 := hY.2.2.2.2; omega⟩
  rw [hrt] at hB
  have hrun := va_runIN (As := As.map (en_cv ρ)) (rest := r.map (en_cv ρ)) (b := ρ a) (n := na) (H := H) (locs := locs) (cells := k) (slots := j) (e := e) (below := below) (meth := meth) (g := F0 m pc ls (st.map (en_cv ρ))) ⟨X.1.1, X.1.2.1, X.1.2.2.1, X.1.2.2.2.1, hts⟩ hm ⟨hB, hnm, hts _ hi⟩ (en_pre X (As := .ref a :: As) h5 h6) rfl (by rw [List.length_map]; exact hAs) (h8.1.trans h9) (by show st.map (en_cv ρ) = _; rw [hst, List.map_append, List.map_reverse]; rfl) (by show 2 * 0 + _ ≤ 8; omega) hd ⟨by have := X.2.2.1.2.2.2.1; omega, by have := X.2.2.1.2.2.2.2; omega⟩
  refine en_back hrun h7 (fun H1 locs1 e1 e2 e3 => ?_)
  have := K (k + (x' - x)) (j + (u' - u)) H1 locs1 ls (by show x' = _; omega) (by show u' = _; omega) hx hu e1 e2 e3 h8 h9 (fun q => (ho.2.2 en_S (by have := X.2.2.1.2.2.1; omega)).trans (h10 q))
  rw [show (v.map (en_cv ρ)).toList ++ r.map (en_cv ρ) = (v.toList ++ r).map (en_cv ρ) by cases v <;> rfl]
  exact this
end ES4
