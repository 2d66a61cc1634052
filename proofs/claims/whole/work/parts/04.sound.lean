/-! THE ENGINE, machine side: what the abstract machine does, the machine does. -/
def en_cv (ρ : Nat → Nat) (v : Value) : Value := match v with
  | .ref a => .ref (ρ a)
  | w => w
theorem en_cv_cat (ρ : Nat → Nat) (v : Value) : (en_cv ρ v).category = v.category := by cases v <;> rfl
def en_cE (tc : Nat → ClassId) (ρ : Nat → Nat) (e : en_C) : va_E := match e with
  | .inl q => .inl (tc q.1, q.2)
  | .inr q => .inr (q.1, q.2.map (en_cv ρ))
def en_ws (tc : Nat → ClassId) (ρ : Nat → Nat) (c : en_H) (x : Nat) : va_W := (List.range x).map (fun i => (ρ i, en_cE tc ρ (c i)))
theorem en_ws_get {tc : Nat → ClassId} {ρ : Nat → Nat} {c : en_H} {x i : Nat} (h : i < x) : (en_ws tc ρ c x)[i]? = some (ρ i, en_cE tc ρ (c i)) := by
  unfold en_ws
  rw [List.getElem?_map, List.getElem?_range h]
  rfl
theorem en_ws_inv {tc : Nat → ClassId} {ρ : Nat → Nat} {c : en_H} {x i : Nat} {q : Nat × va_E} (h : (en_ws tc ρ c x)[i]? = some q) : i < x ∧ q = (ρ i, en_cE tc ρ (c i)) := by
  have hl := (List.getElem?_eq_some_iff.mp h).1
  have hi : i < x := by simpa [en_ws] using hl
  rw [en_ws_get hi] at h
  exact ⟨hi, (Option.some.inj h).symm⟩
theorem en_ws_at {tc : Nat → ClassId} {ρ : Nat → Nat} {c : en_H} {x i : Nat} {e : en_C} (h : i < x) (he : c i = e) : (en_ws tc ρ c x)[i]? = some (ρ i, en_cE tc ρ e) := by
  rw [en_ws_get h, he]
theorem en_ws_set {tc : Nat → ClassId} {ρ : Nat → Nat} {c : en_H} {x i : Nat} {e : en_C} (h : i < x) : (en_ws tc ρ c x).set i (ρ i, en_cE tc ρ e) = en_ws tc ρ (en_up c i e) x := by
  apply List.ext_getElem?
  intro j
  have hlen : (en_ws tc ρ c x).length = x := by simp [en_ws]
  rw [List.getElem?_set, hlen]
  by_cases hij : i = j
  · subst hij
    rw [if_pos rfl, if_pos h, en_ws_get h, en_up_s]
  · rw [if_neg hij]
    by_cases hj : j < x
    · rw [en_ws_get hj, en_ws_get hj, en_up_n (fun q => hij q.symm)]
    · rw [List.getElem?_eq_none (by rw [hlen]; omega), List.getElem?_eq_none (by simp [en_ws]; omega)]
theorem en_ws_push {tc : Nat → ClassId} {ρ : Nat → Nat} {c : en_H} {x : Nat} {e : en_C} : en_ws tc ρ c x ++ [(ρ x, en_cE tc ρ e)] = en_ws tc ρ (en_up c x e) (x + 1) := by
  unfold en_ws
  rw [List.range_succ, List.map_append]
  congr 1
  · apply List.map_congr_left
    intro i hi
    have := List.mem_range.mp hi
    rw [en_up_n (by omega)]
  · simp [en_up_s]
theorem en_ws_D {tc : Nat → ClassId} {ρ : Nat → Nat} {c : en_H} {x b0 : Nat} (hρ : ∀ i, i < en_S → ρ i = b0 + i) (hx : x ≤ en_S) : va_D (fun q => b0 ≤ q) (en_ws tc ρ c x) := by
  refine ⟨fun i j p q hp hq hpq => ?_, fun k q hq => ?_⟩
  · obtain ⟨hi, rfl⟩ := en_ws_inv hp
    obtain ⟨hj, rfl⟩ := en_ws_inv hq
    have h2 : ρ i = ρ j := hpq
    rw [hρ i (by omega), hρ j (by omega)] at h2
    omega
  · obtain ⟨hi, rfl⟩ := en_ws_inv hq
    show b0 ≤ ρ k
    rw [hρ k (by omega)]
    omega
def en_tys (tc : Nat → ClassId) : List (ClassId × FieldType) := [(tc 0, .int), (tc 1, .long), (tc 2, .boolean)]
/-- the locals -/
def en_lr (ρ : Nat → Nat) (ls : Array Slot) (lv : en_L) : Prop := ls.size = lv.length ∧ lv_wf ls ∧ ∀ (i : Nat) (v : Value), lv[i]? = some (some v) → v.category = 1 ∧ ls[i]? = some (.val (en_cv ρ v))
def en_pp (ρ : Nat → Nat) (lv : en_L) (i : Nat) : Option (Nat × Value) := match lv[i]? with
  | some (some v) => some (i, en_cv ρ v)
  | _ => none
def en_ps (ρ : Nat → Nat) (lv : en_L) : List (Nat × Value) := (List.range lv.length).filterMap (en_pp ρ lv)
theorem en_lr_has {ρ : Nat → Nat} {ls : Array Slot} {lv : en_L} (h : en_lr ρ ls lv) : lv_has ls lv.length (en_ps ρ lv) := by
  refine ⟨h.1, h.2.1, fun q hq => ?_⟩
  obtain ⟨i, -, hi⟩ := List.mem_filterMap.mp hq
  unfold en_pp at hi
  split at hi
  · rename_i v hv
    cases hi
    exact (h.2.2 i v hv).2
  · cases hi
theorem en_ps_mem {ρ : Nat → Nat} {lv : en_L} {i : Nat} {v : Value} (h : lv[i]? = some (some v)) : (i, en_cv ρ v) ∈ en_ps ρ lv := by
  refine List.mem_filterMap.mpr ⟨i, List.mem_range.mpr (List.getElem?_eq_some_iff.mp h).1, ?_⟩
  unfold en_pp
  rw [h]
theorem en_lr_set {ρ : Nat → Nat} {ls ls' : Array Slot} {lv : en_L} {i : Nat} {v : Value} (h : en_lr ρ ls lv) (hi : i < lv.length) (hv : v.category = 1) (h' : lv_has ls' lv.length ((i, en_cv ρ v) :: (en_ps ρ lv).filter (fun q => !(q.1 == i) && !(q.1 + 1 == i && q.2.category == 2)))) : en_lr ρ ls' (lv.set i (some v)) := by
  refine ⟨by rw [List.length_set]; exact h'.1, h'.2.1, fun j w hw => ?_⟩
  rw [List.getElem?_set] at hw
  by_cases hij : i = j
  · subst hij
    rw [if_pos rfl, if_pos hi] at hw
    cases hw
    exact ⟨hv, h'.2.2 (i, en_cv ρ v) List.mem_cons_self⟩
  · rw [if_neg hij] at hw
    have hc := (h.2.2 j w hw).1
    refine ⟨hc, h'.2.2 (j, en_cv ρ w) (List.mem_cons_of_mem _ (List.mem_filter.mpr ⟨en_ps_mem hw, ?_⟩))⟩
    have h1 : (j == i) = false := by simpa using fun q => hij q.symm
    have h2 : ((en_cv ρ w).category == 2) = false := by rw [en_cv_cat, hc]; rfl
    simp [h1, h2]
theorem en_args_mem {vs : List Value} : ∀ (k : Nat), (∀ w ∈ vs, w.category = 1) → ∀ (i : Nat) (v : Value), vs[i]? = some v → (k + i, v) ∈ lv_args k vs := by
  induction vs with
  | nil => intro k _ i v h; simp at h
  | cons a vs ih =>
    intro k hc i v h
    have ha : a.category = 1 := hc a List.mem_cons_self
    have e : lv_args k (a :: vs) = (k, a) :: lv_args (k + 1) vs := by
      show (k, a) :: lv_args (if a.category = 2 then k + 2 else k + 1) vs = _
      rw [ha]; rfl
    rw [e]
    cases i with
    | zero =>
      simp at h
      subst h
      exact List.mem_cons_self
    | succ i =>
      have := ih (k + 1) (fun w hw => hc w (List.mem_cons_of_mem _ hw)) i v (by simpa using h)
      rw [show k + (i + 1) = k + 1 + i by omega]
      exact List.mem_cons_of_mem _ this
theorem en_sl_len {vs : List Value} (h : ∀ w ∈ vs, w.category = 1) : (lg_sl vs).length = vs.length := by
  induction vs with
  | nil => rfl
  | cons a vs ih =>
    have ha : a.category = 1 := h a List.mem_cons_self
    have e : lg_sl (a :: vs) = .val a :: lg_sl vs := by
      show (if a.category = 2 then [Slot.val a, .second] else [.val a]) ++ lg_sl vs = _
      rw [ha]; rfl
    rw [e, List.length_cons, List.length_cons, ih (fun w hw => h w (List.mem_cons_of_mem _ hw))]
theorem en_entry {ρ : Nat → Nat} {y : Nat} {As : List Value} (h1 : As.length ≤ mt_nl y) (h2 : ∀ a ∈ As, a.category = 1) : en_lr ρ ((lg_sl (As.map (en_cv ρ)) ++ List.replicate (mt_nl y - (lg_sl (As.map (en_cv ρ))).length) Slot.unset).toArray) (en_lv0 y As) := by
  have hc : ∀ w ∈ As.map (en_cv ρ), w.category = 1 := by
    intro w hw
    obtain ⟨a, ha, rfl⟩ := List.mem_map.mp hw
    rw [en_cv_cat]
    exact h2 a ha
  have hlen := en_sl_len hc
  have hl := lv_entry (As.map (en_cv ρ)) (n := mt_nl y) (by rw [hlen, List.length_map]; exact h1)
  have hz : (en_lv0 y As).length = mt_nl y := by simp [en_lv0]; omega
  refine ⟨by rw [hz]; exact hl.1, hl.2.1, fun i v hv => ?_⟩
  have hi : As[i]? = some v := by
    unfold en_lv0 at hv
    by_cases hh : i < As.length
    · rw [List.getElem?_append_left (by simpa using hh), List.getElem?_map] at hv
      cases ha : As[i]? with
      | none => rw [ha] at hv; cases hv
      | some w => rw [ha] at hv; cases hv; rfl
    · rw [List.getElem?_append_right (by simpa using Nat.not_lt.mp hh)] at hv
      rw [List.getElem?_replicate] at hv
      split at hv <;> cases hv
  refine ⟨h2 v (List.mem_of_getElem? hi), ?_⟩
  have hm := en_args_mem (vs := As.map (en_cv ρ)) 0 hc i (en_cv ρ v) (by rw [List.getElem?_map, hi]; rfl)
  rw [Nat.zero_add] at hm
  exact hl.2.2 _ hm
def en_nw (q : String × Nat × MethodName × String) : Cond := .methodLinkNest q.1 q.2.1 q.2.2.1 q.2.2.2
/-- a method: its world at the start, its world at the end -/
def en_Pc (D : va_G) (tc : Nat → ClassId) (ρ : Nat → Nat) (b0 : Nat) (As : List Value) (c : en_H) (x : Nat) : Array Value → State → Prop := va_Pc (As.map (en_cv ρ)) (fun U => U.heap.size = b0 + x ∧ va_P D vwCl (en_ws tc ρ c x) U.heap ∧ va_K D vwCl (en_tys tc) U ∧ ∀ q ∈ en_nl, va_Nw (en_nw q) U)
def en_Qc (D : va_G) (tc : Nat → ClassId) (ρ : Nat → Nat) (b0 : Nat) (v : Option Value) (c' : en_H) (x' : Nat) : Array Value → State → Outcome → State → Prop := fun _ st oc t => oc = .returned (v.map (en_cv ρ)) ∧ t.heap.size = b0 + x' ∧ va_P D vwCl (en_ws tc ρ c' x') t.heap ∧ va_F (fun q => b0 ≤ q) st t
def en_mw (y : Nat) : List Cond := Cond.code (mt_name y) (mt_code y) (mt_nl y) (mt_ret y) :: en_T0
def en_room (d mc ms : Nat) : Room := { frames := d, cells := mc, slots := ms, locals := 40 * d }
def en_M (l : Launch) (D : va_G) (tc : Nat → ClassId) (ρ : Nat → Nat) (b0 d y : Nat) (As : List Value) (c : en_H) (x u : Nat) (v : Option Value) (c' : en_H) (x' u' : Nat) : Prop :=
  Met l (mt_name y) (en_mw y) (en_room d (x' - x) (u' - u)) (en_Pc D tc ρ b0 As c x) (en_Qc D tc ρ b0 v c' x') (x' - x) (u' - u) (fun q => b0 ≤ q)
theorem en_blind {D : va_G} {tc : Nat → ClassId} {ρ : Nat → Nat} {b0 : Nat} {As : List Value} {c : en_H} {x : Nat} : FrameBlind (en_Pc D tc ρ b0 As c x) := fun a U g mk q => ⟨q.1, q.2.1, q.2.2.1, va_K.moved (u := U) (U := U.calling g mk a) (Vm.Alike.refl U.vm) q.2.2.2.1, fun w hw => va_Nw.same (u := U) (U := U.calling g mk a) rfl rfl (q.2.2.2.2 w hw)⟩
/-- what holds all along a method's run -/
def en_X (p : Program) (R : Room) (s : State) (m : MethodId) (args : Array Value) (meth : Method) (cd : Code) (D : va_G) (tc : Nat → ClassId) (ρ : Nat → Nat) (b0 x0 u0 x1 u1 y : Nat) : Prop :=
  (p.tables.exec = Jvm.exec ∧ cd.code = mt_code y ∧ cd.maxLocals = mt_nl y ∧ s.vm.findClass (mt_cn (mt_cls y)) = some m.cls ∧ (∀ w ∈ en_T0, w.before args s = true)) ∧
  (va_K D vwCl (en_tys tc) s ∧ (∀ q ∈ en_nl, va_Nw (en_nw q) s)) ∧ ((∀ i, i < en_S → ρ i = b0 + i) ∧ b0 ≤ s.heap.size ∧ x1 < en_S ∧ x1 - x0 ≤ R.cells ∧ u1 - u0 ≤ R.slots) ∧ (mt_init y = true → meth.name = "<init>")
def en_A (p : Program) (l : Launch) (e : Env) (R : Room) (s : State) (m : MethodId) (args : Array Value) (below : List Frame) (meth : Method) (cd : Code) (Q : State → Prop) (D : va_G) (tc : Nat → ClassId) (ρ : Nat → Nat) (b0 x0 u0 x1 u1 y : Nat) (sc : Nat × (Nat → Int32)) (f : en_F) : Prop :=
  ∀ (k j : Nat) (H : Heap) (locs : List Loc) (ls : Array Slot), f.2.2.2.2.1 = x0 + k → f.2.2.2.2.2 = u0 + j → f.2.2.2.2.1 ≤ x1 → f.2.2.2.2.2 ≤ u1 → H.size = b0 + f.2.2.2.2.1 → va_P D vwCl (en_ws tc ρ f.2.2.2.1 f.2.2.2.2.1) H → va_S (fun q => b0 ≤ q) s.heap H locs → en_lr ρ ls f.2.1 → f.2.1.length = mt_nl y → (y = mt_law → f.2.2.2.1 en_S = .inl (0, sc.1, .inl sc.2)) →
    W p l e R s m args below meth cd H locs k j Q (F0 m f.1 ls (f.2.2.1.map (en_cv ρ)))
section ESO
variable {p : Program} {l : Launch} {e : Env} {R : Room} {s : State} {m : MethodId} {args : Array Value} {below : List Frame} {meth : Method} {cd : Code} {Q : State → Prop} {D : va_G} {tc : Nat → ClassId} {ρ : Nat → Nat} {b0 x0 u0 x1 u1 y : Nat} {sc : Nat × (Nat → Int32)}
variable {pc : Nat} {lv : en_L} {st : List Value} {c : en_H} {x u : Nat}
theorem so_iconst (X : en_X p R s m args meth cd D tc ρ b0 x0 u0 x1 u1 y) {n : Int} (hd : decode (mt_code y) pc = .ok (.iconst n, 1)) (K : en_A p l e R s m args below meth cd Q D tc ρ b0 x0 u0 x1 u1 y sc (pc + 1, lv, .int (Int32.ofInt n) :: st, c, x, u)) : en_A p l e R s m args below meth cd Q D tc ρ b0 x0 u0 x1 u1 y sc (pc, lv, st, c, x, u) := by
  intro k j H locs ls h1 h2 h3 h4 h5 h6 h7 h8 h9 h10
  show W p l e R s m args below meth cd H locs k j Q (F0 m pc ls (st.map (en_cv ρ)))
  exact lv_iconst X.1.1 X.1.2.1 hd rfl (K k j H locs ls h1 h2 h3 h4 h5 h6 h7 h8 h9 h10)
theorem so_bipush (X : en_X p R s m args meth cd D tc ρ b0 x0 u0 x1 u1 y) {n : Int} (hd : decode (mt_code y) pc = .ok (.bipush n, 2)) (K : en_A p l e R s m args below meth cd Q D tc ρ b0 x0 u0 x1 u1 y sc (pc + 2, lv, .int (Int8.ofInt n).toInt32 :: st, c, x, u)) : en_A p l e R s m args below meth cd Q D tc ρ b0 x0 u0 x1 u1 y sc (pc, lv, st, c, x, u) := by
  intro k j H locs ls h1 h2 h3 h4 h5 h6 h7 h8 h9 h10
  show W p l e R s m args below meth cd H locs k j Q (F0 m pc ls (st.map (en_cv ρ)))
  exact lv_bipush X.1.1 X.1.2.1 hd rfl (K k j H locs ls h1 h2 h3 h4 h5 h6 h7 h8 h9 h10)
theorem so_sipush (X : en_X p R s m args meth cd D tc ρ b0 x0 u0 x1 u1 y) {n : Int} (hd : decode (mt_code y) pc = .ok (.sipush n, 3)) (K : en_A p l e R s m args below meth cd Q D tc ρ b0 x0 u0 x1 u1 y sc (pc + 3, lv, .int (Int16.ofInt n).toInt32 :: st, c, x, u)) : en_A p l e R s m args below meth cd Q D tc ρ b0 x0 u0 x1 u1 y sc (pc, lv, st, c, x, u) := by
  intro k j H locs ls h1 h2 h3 h4 h5 h6 h7 h8 h9 h10
  show W p l e R s m args below meth cd H locs k j Q (F0 m pc ls (st.map (en_cv ρ)))
  exact lv_sipush X.1.1 X.1.2.1 hd rfl (K k j H locs ls h1 h2 h3 h4 h5 h6 h7 h8 h9 h10)
theorem so_ldc (X : en_X p R s m args meth cd D tc ρ b0 x0 u0 x1 u1 y) {n : Nat} {v : Int32} (hd : decode (mt_code y) pc = .ok (.ldc n, 2)) (hw : Cond.constant (mt_cn (mt_cls y)) n v ∈ en_T0) (K : en_A p l e R s m args below meth cd Q D tc ρ b0 x0 u0 x1 u1 y sc (pc + 2, lv, .int v :: st, c, x, u)) : en_A p l e R s m args below meth cd Q D tc ρ b0 x0 u0 x1 u1 y sc (pc, lv, st, c, x, u) := by
  intro k j H locs ls h1 h2 h3 h4 h5 h6 h7 h8 h9 h10
  show W p l e R s m args below meth cd H locs k j Q (F0 m pc ls (st.map (en_cv ρ)))
  exact lv_ldc X.1.1 X.1.2.1 X.1.2.2.2.1 (X.1.2.2.2.2 _ hw) hd (K k j H locs ls h1 h2 h3 h4 h5 h6 h7 h8 h9 h10)
theorem so_lconst (X : en_X p R s m args meth cd D tc ρ b0 x0 u0 x1 u1 y) {n : Fin 2} (hd : decode (mt_code y) pc = .ok (.lconst n, 1)) (K : en_A p l e R s m args below meth cd Q D tc ρ b0 x0 u0 x1 u1 y sc (pc + 1, lv, .long (Int64.ofNat (n : Nat)) :: st, c, x, u)) : en_A p l e R s m args below meth cd Q D tc ρ b0 x0 u0 x1 u1 y sc (pc, lv, st, c, x, u) := by
  intro k j H locs ls h1 h2 h3 h4 h5 h6 h7 h8 h9 h10
  show W p l e R s m args below meth cd H locs k j Q (F0 m pc ls (st.map (en_cv ρ)))
  exact lv_lconst X.1.1 X.1.2.1 hd rfl (K k j H locs ls h1 h2 h3 h4 h5 h6 h7 h8 h9 h10)
theorem so_iload (X : en_X p R s m args meth cd D tc ρ b0 x0 u0 x1 u1 y) {i : Nat} {a : Int32} (hd : decode (mt_code y) pc = .ok (.iload i, 2)) (hl : lv[i]? = some (some (.int a))) (K : en_A p l e R s m args below meth cd Q D tc ρ b0 x0 u0 x1 u1 y sc (pc + 2, lv, .int a :: st, c, x, u)) : en_A p l e R s m args below meth cd Q D tc ρ b0 x0 u0 x1 u1 y sc (pc, lv, st, c, x, u) := by
  intro k j H locs ls h1 h2 h3 h4 h5 h6 h7 h8 h9 h10
  show W p l e R s m args below meth cd H locs k j Q (F0 m pc ls (st.map (en_cv ρ)))
  exact lv_iload X.1.1 X.1.2.1 hd (h8.2.2 i _ hl).2 (K k j H locs ls h1 h2 h3 h4 h5 h6 h7 h8 h9 h10)
theorem so_iload_n (X : en_X p R s m args meth cd D tc ρ b0 x0 u0 x1 u1 y) {i : Fin 4} {a : Int32} (hd : decode (mt_code y) pc = .ok (.iload_n i, 1)) (hl : lv[(i : Nat)]? = some (some (.int a))) (K : en_A p l e R s m args below meth cd Q D tc ρ b0 x0 u0 x1 u1 y sc (pc + 1, lv, .int a :: st, c, x, u)) : en_A p l e R s m args below meth cd Q D tc ρ b0 x0 u0 x1 u1 y sc (pc, lv, st, c, x, u) := by
  intro k j H locs ls h1 h2 h3 h4 h5 h6 h7 h8 h9 h10
  show W p l e R s m args below meth cd H locs k j Q (F0 m pc ls (st.map (en_cv ρ)))
  exact lv_iload_n X.1.1 X.1.2.1 hd rfl (h8.2.2 (i : Nat) _ hl).2 (K k j H locs ls h1 h2 h3 h4 h5 h6 h7 h8 h9 h10)
theorem so_istore (X : en_X p R s m args meth cd D tc ρ b0 x0 u0 x1 u1 y) {i : Nat} {a : Int32} (hd : decode (mt_code y) pc = .ok (.istore i, 2)) (hn : i < lv.length) (K : en_A p l e R s m args below meth cd Q D tc ρ b0 x0 u0 x1 u1 y sc (pc + 2, lv.set i (some (.int a)), st, c, x, u)) : en_A p l e R s m args below meth cd Q D tc ρ b0 x0 u0 x1 u1 y sc (pc, lv, .int a :: st, c, x, u) := by
  intro k j H locs ls h1 h2 h3 h4 h5 h6 h7 h8 h9 h10
  show W p l e R s m args below meth cd H locs k j Q (F0 m pc ls (.int a :: st.map (en_cv ρ)))
  exact lv_istore X.1.1 X.1.2.1 hd (en_lr_has h8) hn rfl (fun ls' hl' => K k j H locs ls' h1 h2 h3 h4 h5 h6 h7 (en_lr_set h8 hn rfl hl') (by show (lv.set i _).length = _; rw [List.length_set]; exact h9) h10)
theorem so_istore_n (X : en_X p R s m args meth cd D tc ρ b0 x0 u0 x1 u1 y) {i : Fin 4} {a : Int32} (hd : decode (mt_code y) pc = .ok (.istore_n i, 1)) (hn : (i : Nat) < lv.length) (K : en_A p l e R s m args below meth cd Q D tc ρ b0 x0 u0 x1 u1 y sc (pc + 1, lv.set (i : Nat) (some (.int a)), st, c, x, u)) : en_A p l e R s m args below meth cd Q D tc ρ b0 x0 u0 x1 u1 y sc (pc, lv, .int a :: st, c, x, u) := by
  intro k j H locs ls h1 h2 h3 h4 h5 h6 h7 h8 h9 h10
  show W p l e R s m args below meth cd H locs k j Q (F0 m pc ls (.int a :: st.map (en_cv ρ)))
  exact lv_istore_n X.1.1 X.1.2.1 hd rfl (en_lr_has h8) hn rfl (fun ls' hl' => K k j H locs ls' h1 h2 h3 h4 h5 h6 h7 (en_lr_set h8 hn rfl hl') (by show (lv.set (i : Nat) _).length = _; rw [List.length_set]; exact h9) h10)
theorem so_aload (X : en_X p R s m args meth cd D tc ρ b0 x0 u0 x1 u1 y) {i : Nat} {a : Nat} (hd : decode (mt_code y) pc = .ok (.aload i, 2)) (hl : lv[i]? = some (some (.ref a))) (K : en_A p l e R s m args below meth cd Q D tc ρ b0 x0 u0 x1 u1 y sc (pc + 2, lv, .ref a :: st, c, x, u)) : en_A p l e R s m args below meth cd Q D tc ρ b0 x0 u0 x1 u1 y sc (pc, lv, st, c, x, u) := by
  intro k j H locs ls h1 h2 h3 h4 h5 h6 h7 h8 h9 h10
  show W p l e R s m args below meth cd H locs k j Q (F0 m pc ls (st.map (en_cv ρ)))
  exact lv_aload X.1.1 X.1.2.1 hd (h8.2.2 i _ hl).2 (K k j H locs ls h1 h2 h3 h4 h5 h6 h7 h8 h9 h10)
theorem so_aload_n (X : en_X p R s m args meth cd D tc ρ b0 x0 u0 x1 u1 y) {i : Fin 4} {a : Nat} (hd : decode (mt_code y) pc = .ok (.aload_n i, 1)) (hl : lv[(i : Nat)]? = some (some (.ref a))) (K : en_A p l e R s m args below meth cd Q D tc ρ b0 x0 u0 x1 u1 y sc (pc + 1, lv, .ref a :: st, c, x, u)) : en_A p l e R s m args below meth cd Q D tc ρ b0 x0 u0 x1 u1 y sc (pc, lv, st, c, x, u) := by
  intro k j H locs ls h1 h2 h3 h4 h5 h6 h7 h8 h9 h10
  show W p l e R s m args below meth cd H locs k j Q (F0 m pc ls (st.map (en_cv ρ)))
  exact lv_aload_n X.1.1 X.1.2.1 hd rfl (h8.2.2 (i : Nat) _ hl).2 (K k j H locs ls h1 h2 h3 h4 h5 h6 h7 h8 h9 h10)
theorem so_astore (X : en_X p R s m args meth cd D tc ρ b0 x0 u0 x1 u1 y) {i : Nat} {a : Nat} (hd : decode (mt_code y) pc = .ok (.astore i, 2)) (hn : i < lv.length) (K : en_A p l e R s m args below meth cd Q D tc ρ b0 x0 u0 x1 u1 y sc (pc + 2, lv.set i (some (.ref a)), st, c, x, u)) : en_A p l e R s m args below meth cd Q D tc ρ b0 x0 u0 x1 u1 y sc (pc, lv, .ref a :: st, c, x, u) := by
  intro k j H locs ls h1 h2 h3 h4 h5 h6 h7 h8 h9 h10
  show W p l e R s m args below meth cd H locs k j Q (F0 m pc ls (.ref (ρ a) :: st.map (en_cv ρ)))
  exact lv_astore X.1.1 X.1.2.1 hd (en_lr_has h8) hn rfl (fun ls' hl' => K k j H locs ls' h1 h2 h3 h4 h5 h6 h7 (en_lr_set h8 hn rfl hl') (by show (lv.set i _).length = _; rw [List.length_set]; exact h9) h10)
theorem so_astore_n (X : en_X p R s m args meth cd D tc ρ b0 x0 u0 x1 u1 y) {i : Fin 4} {a : Nat} (hd : decode (mt_code y) pc = .ok (.astore_n i, 1)) (hn : (i : Nat) < lv.length) (K : en_A p l e R s m args below meth cd Q D tc ρ b0 x0 u0 x1 u1 y sc (pc + 1, lv.set (i : Nat) (some (.ref a)), st, c, x, u)) : en_A p l e R s m args below meth cd Q D tc ρ b0 x0 u0 x1 u1 y sc (pc, lv, .ref a :: st, c, x, u) := by
  intro k j H locs ls h1 h2 h3 h4 h5 h6 h7 h8 h9 h10
  show W p l e R s m args below meth cd H locs k j Q (F0 m pc ls (.ref (ρ a) :: st.map (en_cv ρ)))
  exact lv_astore_n X.1.1 X.1.2.1 hd rfl (en_lr_has h8) hn rfl (fun ls' hl' => K k j H locs ls' h1 h2 h3 h4 h5 h6 h7 (en_lr_set h8 hn rfl hl') (by show (lv.set (i : Nat) _).length = _; rw [List.length_set]; exact h9) h10)
theorem en_ps_at {i : Nat} {v : Value} (hl : lv[i]? = some (some v)) : ∃ q : Nat, (en_ps ρ lv)[q]? = some (i, en_cv ρ v) := List.getElem?_of_mem (en_ps_mem hl)
theorem so_iinc (X : en_X p R s m args meth cd D tc ρ b0 x0 u0 x1 u1 y) {i : Nat} {n : Int} {a : Int32} (hd : decode (mt_code y) pc = .ok (.iinc i n, 3)) (hl : lv[i]? = some (some (.int a))) (hn : i < lv.length) (K : en_A p l e R s m args below meth cd Q D tc ρ b0 x0 u0 x1 u1 y sc (pc + 3, lv.set i (some (.int (a + Int32.ofInt n))), st, c, x, u)) : en_A p l e R s m args below meth cd Q D tc ρ b0 x0 u0 x1 u1 y sc (pc, lv, st, c, x, u) := by
  intro k j H locs ls h1 h2 h3 h4 h5 h6 h7 h8 h9 h10
  obtain ⟨q, hq⟩ := en_ps_at (ρ := ρ) hl
  show W p l e R s m args below meth cd H locs k j Q (F0 m pc ls (st.map (en_cv ρ)))
  exact lv_iinc X.1.1 X.1.2.1 hd (en_lr_has h8) hq rfl hn rfl (fun ls' hl' => K k j H locs ls' h1 h2 h3 h4 h5 h6 h7 (en_lr_set (v := .int (a + Int32.ofInt n)) h8 hn rfl hl') (by show (lv.set i _).length = _; rw [List.length_set]; exact h9) h10)
theorem so_iadd (X : en_X p R s m args meth cd D tc ρ b0 x0 u0 x1 u1 y) {a b : Int32} (hd : decode (mt_code y) pc = .ok (.iadd, 1)) (K : en_A p l e R s m args below meth cd Q D tc ρ b0 x0 u0 x1 u1 y sc (pc + 1, lv, .int (a + b) :: st, c, x, u)) : en_A p l e R s m args below meth cd Q D tc ρ b0 x0 u0 x1 u1 y sc (pc, lv, .int b :: .int a :: st, c, x, u) := by
  intro k j H locs ls h1 h2 h3 h4 h5 h6 h7 h8 h9 h10
  show W p l e R s m args below meth cd H locs k j Q (F0 m pc ls (.int b :: .int a :: st.map (en_cv ρ)))
  exact lv_iadd X.1.1 X.1.2.1 hd (K k j H locs ls h1 h2 h3 h4 h5 h6 h7 h8 h9 h10)
theorem so_isub (X : en_X p R s m args meth cd D tc ρ b0 x0 u0 x1 u1 y) {a b : Int32} (hd : decode (mt_code y) pc = .ok (.isub, 1)) (K : en_A p l e R s m args below meth cd Q D tc ρ b0 x0 u0 x1 u1 y sc (pc + 1, lv, .int (a - b) :: st, c, x, u)) : en_A p l e R s m args below meth cd Q D tc ρ b0 x0 u0 x1 u1 y sc (pc, lv, .int b :: .int a :: st, c, x, u) := by
  intro k j H locs ls h1 h2 h3 h4 h5 h6 h7 h8 h9 h10
  show W p l e R s m args below meth cd H locs k j Q (F0 m pc ls (.int b :: .int a :: st.map (en_cv ρ)))
  exact lv_isub X.1.1 X.1.2.1 hd (K k j H locs ls h1 h2 h3 h4 h5 h6 h7 h8 h9 h10)
theorem so_imul (X : en_X p R s m args meth cd D tc ρ b0 x0 u0 x1 u1 y) {a b : Int32} (hd : decode (mt_code y) pc = .ok (.imul, 1)) (K : en_A p l e R s m args below meth cd Q D tc ρ b0 x0 u0 x1 u1 y sc (pc + 1, lv, .int (a * b) :: st, c, x, u)) : en_A p l e R s m args below meth cd Q D tc ρ b0 x0 u0 x1 u1 y sc (pc, lv, .int b :: .int a :: st, c, x, u) := by
  intro k j H locs ls h1 h2 h3 h4 h5 h6 h7 h8 h9 h10
  show W p l e R s m args below meth cd H locs k j Q (F0 m pc ls (.int b :: .int a :: st.map (en_cv ρ)))
  exact lv_imul X.1.1 X.1.2.1 hd (K k j H locs ls h1 h2 h3 h4 h5 h6 h7 h8 h9 h10)
theorem so_iand (X : en_X p R s m args meth cd D tc ρ b0 x0 u0 x1 u1 y) {a b : Int32} (hd : decode (mt_code y) pc = .ok (.iand, 1)) (K : en_A p l e R s m args below meth cd Q D tc ρ b0 x0 u0 x1 u1 y sc (pc + 1, lv, .int (a &&& b) :: st, c, x, u)) : en_A p l e R s m args below meth cd Q D tc ρ b0 x0 u0 x1 u1 y sc (pc, lv, .int b :: .int a :: st, c, x, u) := by
  intro k j H locs ls h1 h2 h3 h4 h5 h6 h7 h8 h9 h10
  show W p l e R s m args below meth cd H locs k j Q (F0 m pc ls (.int b :: .int a :: st.map (en_cv ρ)))
  exact lv_iand X.1.1 X.1.2.1 hd (K k j H locs ls h1 h2 h3 h4 h5 h6 h7 h8 h9 h10)
theorem so_idiv (X : en_X p R s m args meth cd D tc ρ b0 x0 u0 x1 u1 y) {a b : Int32} (hd : decode (mt_code y) pc = .ok (.idiv, 1)) (hb : ¬ b = 0) (K : en_A p l e R s m args below meth cd Q D tc ρ b0 x0 u0 x1 u1 y sc (pc + 1, lv, .int (a / b) :: st, c, x, u)) : en_A p l e R s m args below meth cd Q D tc ρ b0 x0 u0 x1 u1 y sc (pc, lv, .int b :: .int a :: st, c, x, u) := by
  intro k j H locs ls h1 h2 h3 h4 h5 h6 h7 h8 h9 h10
  show W p l e R s m args below meth cd H locs k j Q (F0 m pc ls (.int b :: .int a :: st.map (en_cv ρ)))
  exact lv_idiv X.1.1 X.1.2.1 hd hb (K k j H locs ls h1 h2 h3 h4 h5 h6 h7 h8 h9 h10)
theorem so_irem (X : en_X p R s m args meth cd D tc ρ b0 x0 u0 x1 u1 y) {a b : Int32} (hd : decode (mt_code y) pc = .ok (.irem, 1)) (hb : ¬ b = 0) (K : en_A p l e R s m args below meth cd Q D tc ρ b0 x0 u0 x1 u1 y sc (pc + 1, lv, .int (a - a / b * b) :: st, c, x, u)) : en_A p l e R s m args below meth cd Q D tc ρ b0 x0 u0 x1 u1 y sc (pc, lv, .int b :: .int a :: st, c, x, u) := by
  intro k j H locs ls h1 h2 h3 h4 h5 h6 h7 h8 h9 h10
  show W p l e R s m args below meth cd H locs k j Q (F0 m pc ls (.int b :: .int a :: st.map (en_cv ρ)))
  exact lv_irem X.1.1 X.1.2.1 hd hb (K k j H locs ls h1 h2 h3 h4 h5 h6 h7 h8 h9 h10)
theorem so_land (X : en_X p R s m args meth cd D tc ρ b0 x0 u0 x1 u1 y) {a b : Int64} (hd : decode (mt_code y) pc = .ok (.land, 1)) (K : en_A p l e R s m args below meth cd Q D tc ρ b0 x0 u0 x1 u1 y sc (pc + 1, lv, .long (a &&& b) :: st, c, x, u)) : en_A p l e R s m args below meth cd Q D tc ρ b0 x0 u0 x1 u1 y sc (pc, lv, .long b :: .long a :: st, c, x, u) := by
  intro k j H locs ls h1 h2 h3 h4 h5 h6 h7 h8 h9 h10
  show W p l e R s m args below meth cd H locs k j Q (F0 m pc ls (.long b :: .long a :: st.map (en_cv ρ)))
  exact lv_land X.1.1 X.1.2.1 hd (K k j H locs ls h1 h2 h3 h4 h5 h6 h7 h8 h9 h10)
theorem so_lor (X : en_X p R s m args meth cd D tc ρ b0 x0 u0 x1 u1 y) {a b : Int64} (hd : decode (mt_code y) pc = .ok (.lor, 1)) (K : en_A p l e R s m args below meth cd Q D tc ρ b0 x0 u0 x1 u1 y sc (pc + 1, lv, .long (a ||| b) :: st, c, x, u)) : en_A p l e R s m args below meth cd Q D tc ρ b0 x0 u0 x1 u1 y sc (pc, lv, .long b :: .long a :: st, c, x, u) := by
  intro k j H locs ls h1 h2 h3 h4 h5 h6 h7 h8 h9 h10
  show W p l e R s m args below meth cd H locs k j Q (F0 m pc ls (.long b :: .long a :: st.map (en_cv ρ)))
  exact lv_lor X.1.1 X.1.2.1 hd (K k j H locs ls h1 h2 h3 h4 h5 h6 h7 h8 h9 h10)
theorem so_lcmp (X : en_X p R s m args meth cd D tc ρ b0 x0 u0 x1 u1 y) {a b : Int64} (hd : decode (mt_code y) pc = .ok (.lcmp, 1)) (K : en_A p l e R s m args below meth cd Q D tc ρ b0 x0 u0 x1 u1 y sc (pc + 1, lv, .int (lg_cmp a b) :: st, c, x, u)) : en_A p l e R s m args below meth cd Q D tc ρ b0 x0 u0 x1 u1 y sc (pc, lv, .long b :: .long a :: st, c, x, u) := by
  intro k j H locs ls h1 h2 h3 h4 h5 h6 h7 h8 h9 h10
  show W p l e R s m args below meth cd H locs k j Q (F0 m pc ls (.long b :: .long a :: st.map (en_cv ρ)))
  exact W.lcmp X.1.1 X.1.2.1 hd (K k j H locs ls h1 h2 h3 h4 h5 h6 h7 h8 h9 h10)
theorem so_lshl (X : en_X p R s m args meth cd D tc ρ b0 x0 u0 x1 u1 y) {a : Int64} {b : Int32} (hd : decode (mt_code y) pc = .ok (.lshl, 1)) (K : en_A p l e R s m args below meth cd Q D tc ρ b0 x0 u0 x1 u1 y sc (pc + 1, lv, .long (a <<< (b.toInt64 &&& 63)) :: st, c, x, u)) : en_A p l e R s m args below meth cd Q D tc ρ b0 x0 u0 x1 u1 y sc (pc, lv, .int b :: .long a :: st, c, x, u) := by
  intro k j H locs ls h1 h2 h3 h4 h5 h6 h7 h8 h9 h10
  show W p l e R s m args below meth cd H locs k j Q (F0 m pc ls (.int b :: .long a :: st.map (en_cv ρ)))
  exact lv_lshl X.1.1 X.1.2.1 hd rfl (K k j H locs ls h1 h2 h3 h4 h5 h6 h7 h8 h9 h10)
theorem so_lshr (X : en_X p R s m args meth cd D tc ρ b0 x0 u0 x1 u1 y) {a : Int64} {b : Int32} (hd : decode (mt_code y) pc = .ok (.lshr, 1)) (K : en_A p l e R s m args below meth cd Q D tc ρ b0 x0 u0 x1 u1 y sc (pc + 1, lv, .long (a >>> (b.toInt64 &&& 63)) :: st, c, x, u)) : en_A p l e R s m args below meth cd Q D tc ρ b0 x0 u0 x1 u1 y sc (pc, lv, .int b :: .long a :: st, c, x, u) := by
  intro k j H locs ls h1 h2 h3 h4 h5 h6 h7 h8 h9 h10
  show W p l e R s m args below meth cd H locs k j Q (F0 m pc ls (.int b :: .long a :: st.map (en_cv ρ)))
  exact lv_lshr X.1.1 X.1.2.1 hd rfl (K k j H locs ls h1 h2 h3 h4 h5 h6 h7 h8 h9 h10)
theorem so_lushr (X : en_X p R s m args meth cd D tc ρ b0 x0 u0 x1 u1 y) {a : Int64} {b : Int32} (hd : decode (mt_code y) pc = .ok (.lushr, 1)) (K : en_A p l e R s m args below meth cd Q D tc ρ b0 x0 u0 x1 u1 y sc (pc + 1, lv, .long ((a.toUInt64 >>> (b.toInt64.toUInt64 &&& Int64.toUInt64 63)).toInt64) :: st, c, x, u)) : en_A p l e R s m args below meth cd Q D tc ρ b0 x0 u0 x1 u1 y sc (pc, lv, .int b :: .long a :: st, c, x, u) := by
  intro k j H locs ls h1 h2 h3 h4 h5 h6 h7 h8 h9 h10
  show W p l e R s m args below meth cd H locs k j Q (F0 m pc ls (.int b :: .long a :: st.map (en_cv ρ)))
  exact lv_lushr X.1.1 X.1.2.1 hd rfl (K k j H locs ls h1 h2 h3 h4 h5 h6 h7 h8 h9 h10)
theorem so_dup (X : en_X p R s m args meth cd D tc ρ b0 x0 u0 x1 u1 y) {v : Value} (hd : decode (mt_code y) pc = .ok (.dup, 1)) (hv : v.category = 1) (K : en_A p l e R s m args below meth cd Q D tc ρ b0 x0 u0 x1 u1 y sc (pc + 1, lv, v :: v :: st, c, x, u)) : en_A p l e R s m args below meth cd Q D tc ρ b0 x0 u0 x1 u1 y sc (pc, lv, v :: st, c, x, u) := by
  intro k j H locs ls h1 h2 h3 h4 h5 h6 h7 h8 h9 h10
  show W p l e R s m args below meth cd H locs k j Q (F0 m pc ls (en_cv ρ v :: st.map (en_cv ρ)))
  exact lv_dup X.1.1 X.1.2.1 hd (by rw [en_cv_cat]; exact hv) (K k j H locs ls h1 h2 h3 h4 h5 h6 h7 h8 h9 h10)
theorem so_dup2 (X : en_X p R s m args meth cd D tc ρ b0 x0 u0 x1 u1 y) {v w : Value} (hd : decode (mt_code y) pc = .ok (.dup2, 1)) (hv : v.category = 1 ∧ w.category = 1) (K : en_A p l e R s m args below meth cd Q D tc ρ b0 x0 u0 x1 u1 y sc (pc + 1, lv, v :: w :: v :: w :: st, c, x, u)) : en_A p l e R s m args below meth cd Q D tc ρ b0 x0 u0 x1 u1 y sc (pc, lv, v :: w :: st, c, x, u) := by
  intro k j H locs ls h1 h2 h3 h4 h5 h6 h7 h8 h9 h10
  show W p l e R s m args below meth cd H locs k j Q (F0 m pc ls (en_cv ρ v :: en_cv ρ w :: st.map (en_cv ρ)))
  exact lv_dup2_11 X.1.1 X.1.2.1 hd (by rw [en_cv_cat]; exact hv.1) (by rw [en_cv_cat]; exact hv.2) (K k j H locs ls h1 h2 h3 h4 h5 h6 h7 h8 h9 h10)
theorem so_pop (X : en_X p R s m args meth cd D tc ρ b0 x0 u0 x1 u1 y) {v : Value} (hd : decode (mt_code y) pc = .ok (.pop, 1)) (hv : v.category = 1) (K : en_A p l e R s m args below meth cd Q D tc ρ b0 x0 u0 x1 u1 y sc (pc + 1, lv, st, c, x, u)) : en_A p l e R s m args below meth cd Q D tc ρ b0 x0 u0 x1 u1 y sc (pc, lv, v :: st, c, x, u) := by
  intro k j H locs ls h1 h2 h3 h4 h5 h6 h7 h8 h9 h10
  show W p l e R s m args below meth cd H locs k j Q (F0 m pc ls (en_cv ρ v :: st.map (en_cv ρ)))
  exact lv_pop X.1.1 X.1.2.1 hd (by rw [en_cv_cat]; exact hv) (K k j H locs ls h1 h2 h3 h4 h5 h6 h7 h8 h9 h10)
theorem so_goto (X : en_X p R s m args meth cd D tc ρ b0 x0 u0 x1 u1 y) {off : Int} (hd : decode (mt_code y) pc = .ok (.goto off, 3)) (ht : 0 ≤ (pc : Int) + off) (K : en_A p l e R s m args below meth cd Q D tc ρ b0 x0 u0 x1 u1 y sc (((pc : Int) + off).toNat, lv, st, c, x, u)) : en_A p l e R s m args below meth cd Q D tc ρ b0 x0 u0 x1 u1 y sc (pc, lv, st, c, x, u) := by
  intro k j H locs ls h1 h2 h3 h4 h5 h6 h7 h8 h9 h10
  exact lv_goto X.1.1 X.1.2.1 hd (tgt := ((pc : Int) + off).toNat) (Int.toNat_of_nonneg ht).symm (K k j H locs ls h1 h2 h3 h4 h5 h6 h7 h8 h9 h10)
theorem so_if (X : en_X p R s m args meth cd D tc ρ b0 x0 u0 x1 u1 y) {a : Int32} {off : Int} {cd' : Jvm.ClassFile.Cond} (hd : decode (mt_code y) pc = .ok (.ifCond cd' off, 3)) (ht' : (pc : Int) + off = (((pc : Int) + off).toNat : Int)) (K1 : en_i1 cd' a → (True ∧ en_A p l e R s m args below meth cd Q D tc ρ b0 x0 u0 x1 u1 y sc (((pc : Int) + off).toNat, lv, st, c, x, u))) (K2 : ¬ en_i1 cd' a → en_A p l e R s m args below meth cd Q D tc ρ b0 x0 u0 x1 u1 y sc (pc + 3, lv, st, c, x, u)) : en_A p l e R s m args below meth cd Q D tc ρ b0 x0 u0 x1 u1 y sc (pc, lv, .int a :: st, c, x, u) := by
  intro k j H locs ls h1 h2 h3 h4 h5 h6 h7 h8 h9 h10
  show W p l e R s m args below meth cd H locs k j Q (F0 m pc ls (.int a :: st.map (en_cv ρ)))
  cases cd' with
  | eq => exact lv_if_eq (tgt := ((pc : Int) + off).toNat) X.1.1 X.1.2.1 hd ht' (fun w => (K1 w).2 k j H locs ls h1 h2 h3 h4 h5 h6 h7 h8 h9 h10) (fun w => K2 w k j H locs ls h1 h2 h3 h4 h5 h6 h7 h8 h9 h10)
  | ne => exact lv_if_ne (tgt := ((pc : Int) + off).toNat) X.1.1 X.1.2.1 hd ht' (fun w => (K1 w).2 k j H locs ls h1 h2 h3 h4 h5 h6 h7 h8 h9 h10) (fun w => K2 (fun z => z w) k j H locs ls h1 h2 h3 h4 h5 h6 h7 h8 h9 h10)
  | lt => exact lv_if_lt (tgt := ((pc : Int) + off).toNat) X.1.1 X.1.2.1 hd ht' (fun w => (K1 w).2 k j H locs ls h1 h2 h3 h4 h5 h6 h7 h8 h9 h10) (fun w => K2 w k j H locs ls h1 h2 h3 h4 h5 h6 h7 h8 h9 h10)
  | ge => exact lv_if_ge (tgt := ((pc : Int) + off).toNat) X.1.1 X.1.2.1 hd ht' (fun w => (K1 w).2 k j H locs ls h1 h2 h3 h4 h5 h6 h7 h8 h9 h10) (fun w => K2 w k j H locs ls h1 h2 h3 h4 h5 h6 h7 h8 h9 h10)
  | gt => exact lv_if_gt (tgt := ((pc : Int) + off).toNat) X.1.1 X.1.2.1 hd ht' (fun w => (K1 w).2 k j H locs ls h1 h2 h3 h4 h5 h6 h7 h8 h9 h10) (fun w => K2 w k j H locs ls h1 h2 h3 h4 h5 h6 h7 h8 h9 h10)
  | le => exact lv_if_le (tgt := ((pc : Int) + off).toNat) X.1.1 X.1.2.1 hd ht' (fun w => (K1 w).2 k j H locs ls h1 h2 h3 h4 h5 h6 h7 h8 h9 h10) (fun w => K2 w k j H locs ls h1 h2 h3 h4 h5 h6 h7 h8 h9 h10)
theorem so_icmp (X : en_X p R s m args meth cd D tc ρ b0 x0 u0 x1 u1 y) {a b : Int32} {off : Int} {cd' : Jvm.ClassFile.Cond} (hd : decode (mt_code y) pc = .ok (.if_icmp cd' off, 3)) (ht' : (pc : Int) + off = (((pc : Int) + off).toNat : Int)) (K1 : en_i2 cd' a b → (True ∧ en_A p l e R s m args below meth cd Q D tc ρ b0 x0 u0 x1 u1 y sc (((pc : Int) + off).toNat, lv, st, c, x, u))) (K2 : ¬ en_i2 cd' a b → en_A p l e R s m args below meth cd Q D tc ρ b0 x0 u0 x1 u1 y sc (pc + 3, lv, st, c, x, u)) : en_A p l e R s m args below meth cd Q D tc ρ b0 x0 u0 x1 u1 y sc (pc, lv, .int b :: .int a :: st, c, x, u) := by
  intro k j H locs ls h1 h2 h3 h4 h5 h6 h7 h8 h9 h10
  show W p l e R s m args below meth cd H locs k j Q (F0 m pc ls (.int b :: .int a :: st.map (en_cv ρ)))
  cases cd' with
  | eq => exact lv_icmp_eq (tgt := ((pc : Int) + off).toNat) X.1.1 X.1.2.1 hd ht' (fun w => (K1 w).2 k j H locs ls h1 h2 h3 h4 h5 h6 h7 h8 h9 h10) (fun w => K2 w k j H locs ls h1 h2 h3 h4 h5 h6 h7 h8 h9 h10)
  | ne => exact lv_icmp_ne (tgt := ((pc : Int) + off).toNat) X.1.1 X.1.2.1 hd ht' (fun w => (K1 w).2 k j H locs ls h1 h2 h3 h4 h5 h6 h7 h8 h9 h10) (fun w => K2 (fun z => z w) k j H locs ls h1 h2 h3 h4 h5 h6 h7 h8 h9 h10)
  | lt => exact lv_icmp_lt (tgt := ((pc : Int) + off).toNat) X.1.1 X.1.2.1 hd ht' (fun w => (K1 w).2 k j H locs ls h1 h2 h3 h4 h5 h6 h7 h8 h9 h10) (fun w => K2 w k j H locs ls h1 h2 h3 h4 h5 h6 h7 h8 h9 h10)
  | ge => exact lv_icmp_ge (tgt := ((pc : Int) + off).toNat) X.1.1 X.1.2.1 hd ht' (fun w => (K1 w).2 k j H locs ls h1 h2 h3 h4 h5 h6 h7 h8 h9 h10) (fun w => K2 w k j H locs ls h1 h2 h3 h4 h5 h6 h7 h8 h9 h10)
  | gt => exact lv_icmp_gt (tgt := ((pc : Int) + off).toNat) X.1.1 X.1.2.1 hd ht' (fun w => (K1 w).2 k j H locs ls h1 h2 h3 h4 h5 h6 h7 h8 h9 h10) (fun w => K2 w k j H locs ls h1 h2 h3 h4 h5 h6 h7 h8 h9 h10)
  | le => exact lv_icmp_le (tgt := ((pc : Int) + off).toNat) X.1.1 X.1.2.1 hd ht' (fun w => (K1 w).2 k j H locs ls h1 h2 h3 h4 h5 h6 h7 h8 h9 h10) (fun w => K2 w k j H locs ls h1 h2 h3 h4 h5 h6 h7 h8 h9 h10)
theorem so_tab (X : en_X p R s m args meth cd D tc ρ b0 x0 u0 x1 u1 y) {a : Int32} {d lo hi : Int} {offs : Array Int} {len : Nat} (hd : decode (mt_code y) pc = .ok (.tableswitch d lo hi offs, len)) (K1 : (a.toInt < lo ∨ hi < a.toInt) → 0 ≤ (pc : Int) + d ∧ en_A p l e R s m args below meth cd Q D tc ρ b0 x0 u0 x1 u1 y sc (((pc : Int) + d).toNat, lv, st, c, x, u)) (K2 : ¬ (a.toInt < lo ∨ hi < a.toInt) → ∃ off, offs[(a.toInt - lo).toNat]? = some off ∧ 0 ≤ (pc : Int) + off ∧ en_A p l e R s m args below meth cd Q D tc ρ b0 x0 u0 x1 u1 y sc (((pc : Int) + off).toNat, lv, st, c, x, u)) : en_A p l e R s m args below meth cd Q D tc ρ b0 x0 u0 x1 u1 y sc (pc, lv, .int a :: st, c, x, u) := by
  intro k j H locs ls h1 h2 h3 h4 h5 h6 h7 h8 h9 h10
  show W p l e R s m args below meth cd H locs k j Q (F0 m pc ls (.int a :: st.map (en_cv ρ)))
  by_cases hh : a.toInt < lo ∨ hi < a.toInt
  · obtain ⟨ht, K⟩ := K1 hh
    exact lv_tableOut X.1.1 X.1.2.1 hd hh (Int.toNat_of_nonneg ht).symm (K k j H locs ls h1 h2 h3 h4 h5 h6 h7 h8 h9 h10)
  · obtain ⟨off, ho, ht, K⟩ := K2 hh
    exact lv_tableIn X.1.1 X.1.2.1 hd (fun z => hh (Or.inl z)) (fun z => hh (Or.inr z)) ho (Int.toNat_of_nonneg ht).symm (K k j H locs ls h1 h2 h3 h4 h5 h6 h7 h8 h9 h10)
theorem so_look (X : en_X p R s m args meth cd D tc ρ b0 x0 u0 x1 u1 y) {a : Int32} {d : Int} {ps : Array (Int × Int)} {len : Nat} (hd : decode (mt_code y) pc = .ok (.lookupswitch d ps, len)) (hp : (ps.toList.zip (ps.toList.drop 1)).all (fun (a, next) => a.1 < next.1) = true) (ht : 0 ≤ (pc : Int) + Op.lookupswitch.offset ps.toList d a.toInt) (K : en_A p l e R s m args below meth cd Q D tc ρ b0 x0 u0 x1 u1 y sc (((pc : Int) + Op.lookupswitch.offset ps.toList d a.toInt).toNat, lv, st, c, x, u)) : en_A p l e R s m args below meth cd Q D tc ρ b0 x0 u0 x1 u1 y sc (pc, lv, .int a :: st, c, x, u) := by
  intro k j H locs ls h1 h2 h3 h4 h5 h6 h7 h8 h9 h10
  show W p l e R s m args below meth cd H locs k j Q (F0 m pc ls (.int a :: st.map (en_cv ρ)))
  exact lv_lookup X.1.1 X.1.2.1 hd hp rfl (Int.toNat_of_nonneg ht).symm (K k j H locs ls h1 h2 h3 h4 h5 h6 h7 h8 h9 h10)
theorem so_zald (X : en_X p R s m args meth cd D tc ρ b0 x0 u0 x1 u1 y) {a n : Nat} {i : Int32} {f : Nat → Int32} (hd : decode (mt_code y) pc = .ok (.baload, 1)) (hc : c a = .inl (2, n, .inl f)) (ha : a < x) (hi : vp_in i n) (K : en_A p l e R s m args below meth cd Q D tc ρ b0 x0 u0 x1 u1 y sc (pc + 1, lv, .int (f i.toNatClampNeg) :: st, c, x, u)) : en_A p l e R s m args below meth cd Q D tc ρ b0 x0 u0 x1 u1 y sc (pc, lv, .int i :: .ref a :: st, c, x, u) := by
  intro k j H locs ls h1 h2 h3 h4 h5 h6 h7 h8 h9 h10
  show W p l e R s m args below meth cd H locs k j Q (F0 m pc ls (.int i :: .ref (ρ a) :: st.map (en_cv ρ)))
  exact va_zald X.1.1 X.1.2.1 X.2.1.1 h6 a 2 (cA := tc 2) (n := n) (f := f) (en_ws_at ha hc) rfl hi hd (K k j H locs ls h1 h2 h3 h4 h5 h6 h7 h8 h9 h10)
theorem so_lald (X : en_X p R s m args meth cd D tc ρ b0 x0 u0 x1 u1 y) {a n : Nat} {i : Int32} {f : Nat → Int64} (hd : decode (mt_code y) pc = .ok (.laload, 1)) (hc : c a = .inl (1, n, .inr (.inl f))) (ha : a < x) (hi : vp_in i n) (K : en_A p l e R s m args below meth cd Q D tc ρ b0 x0 u0 x1 u1 y sc (pc + 1, lv, .long (f i.toNatClampNeg) :: st, c, x, u)) : en_A p l e R s m args below meth cd Q D tc ρ b0 x0 u0 x1 u1 y sc (pc, lv, .int i :: .ref a :: st, c, x, u) := by
  intro k j H locs ls h1 h2 h3 h4 h5 h6 h7 h8 h9 h10
  show W p l e R s m args below meth cd H locs k j Q (F0 m pc ls (.int i :: .ref (ρ a) :: st.map (en_cv ρ)))
  exact va_lald X.1.1 X.1.2.1 X.2.1.1 h6 a 1 (cA := tc 1) (n := n) (f := f) (en_ws_at ha hc) rfl hi hd (K k j H locs ls h1 h2 h3 h4 h5 h6 h7 h8 h9 h10)
theorem so_iald (X : en_X p R s m args meth cd D tc ρ b0 x0 u0 x1 u1 y) (hX : y = mt_law → ∃ b, ρ en_S = b ∧ va_X b sc.1 sc.2 s s.heap ∧ b < s.heap.size ∧ ¬ b0 ≤ b) {a n : Nat} {i : Int32} {f : Nat → Int32} (hd : decode (mt_code y) pc = .ok (.iaload, 1)) (hc : c a = .inl (0, n, .inl f)) (ha : en_rd y a x) (hi : vp_in i n) (K : en_A p l e R s m args below meth cd Q D tc ρ b0 x0 u0 x1 u1 y sc (pc + 1, lv, .int (f i.toNatClampNeg) :: st, c, x, u)) : en_A p l e R s m args below meth cd Q D tc ρ b0 x0 u0 x1 u1 y sc (pc, lv, .int i :: .ref a :: st, c, x, u) := by
  intro k j H locs ls h1 h2 h3 h4 h5 h6 h7 h8 h9 h10
  show W p l e R s m args below meth cd H locs k j Q (F0 m pc ls (.int i :: .ref (ρ a) :: st.map (en_cv ρ)))
  rcases ha with ha | ⟨ha, hy⟩
  · exact va_iald X.1.1 X.1.2.1 X.2.1.1 h6 a 0 (cA := tc 0) (n := n) (f := f) (en_ws_at ha hc) rfl hi hd (K k j H locs ls h1 h2 h3 h4 h5 h6 h7 h8 h9 h10)
  · subst ha
    obtain ⟨b, e1, e2, e3, e4⟩ := hX hy
    have e5 := hc.symm.trans (h10 hy)
    have e6 : n = sc.1 ∧ f = sc.2 := by
      have e7 := Sum.inl.inj e5
      have e8 := congrArg (fun q => q.2.1) e7
      have e9 := congrArg (fun q => q.2.2) e7
      exact ⟨e8, Sum.inl.inj e9⟩
    obtain ⟨rfl, rfl⟩ := e6
    rw [e1]
    exact va_sld (A := fun q => b0 ≤ q) X.1.1 X.1.2.1 e2 e3 e4 h7 hi hd (K k j H locs ls h1 h2 h3 h4 h5 h6 h7 h8 h9 h10)
theorem so_alen (X : en_X p R s m args meth cd D tc ρ b0 x0 u0 x1 u1 y) (hX : y = mt_law → ∃ b, ρ en_S = b ∧ va_X b sc.1 sc.2 s s.heap ∧ b < s.heap.size ∧ ¬ b0 ≤ b) {a t n : Nat} {f : (Nat → Int32) ⊕ (Nat → Int64) ⊕ (Nat → UInt32) ⊕ (Nat → UInt64) ⊕ (Nat → Option Nat)} (hd : decode (mt_code y) pc = .ok (.arraylength, 1)) (hc : c a = .inl (t, n, f)) (ht : t < 3) (ha : en_rd y a x) (K : en_A p l e R s m args below meth cd Q D tc ρ b0 x0 u0 x1 u1 y sc (pc + 1, lv, .int (Int32.ofNat n) :: st, c, x, u)) : en_A p l e R s m args below meth cd Q D tc ρ b0 x0 u0 x1 u1 y sc (pc, lv, .ref a :: st, c, x, u) := by
  intro k j H locs ls h1 h2 h3 h4 h5 h6 h7 h8 h9 h10
  show W p l e R s m args below meth cd H locs k j Q (F0 m pc ls (.ref (ρ a) :: st.map (en_cv ρ)))
  rcases ha with ha | ⟨ha, hy⟩
  · have ht2 : ∃ ty, (en_tys tc)[t]? = some (tc t, ty) := by
      rcases (show t = 0 ∨ t = 1 ∨ t = 2 by omega) with rfl | rfl | rfl <;> exact ⟨_, rfl⟩
    obtain ⟨ty, hty⟩ := ht2
    exact va_alen X.1.1 X.1.2.1 X.2.1.1 h6 a t (cA := tc t) (x := (n, f)) (en_ws_at ha hc) hty rfl hd (K k j H locs ls h1 h2 h3 h4 h5 h6 h7 h8 h9 h10)
  · subst ha
    obtain ⟨b, e1, e2, e3, e4⟩ := hX hy
    have e5 := hc.symm.trans (h10 hy)
    have e6 : n = sc.1 := congrArg (fun q => q.2.1) (Sum.inl.inj e5)
    subst e6
    rw [e1]
    exact va_slen (A := fun q => b0 ≤ q) X.1.1 X.1.2.1 e2 e3 e4 h7 hd (K k j H locs ls h1 h2 h3 h4 h5 h6 h7 h8 h9 h10)
end ESO
