/-! THE ENGINE: a call of the abstract machine is a contract. -/
def en_okZ (y : Nat) : Prop := plainName (mt_name y).cls = true ∧ mt_cn (mt_cls y) = (mt_name y).cls ∧ (mt_init y = true → (mt_name y).name = "<init>") ∧ (mt_rk y = 0 → mt_ret y = none) ∧ (mt_rk y = 1 → mt_ret y = some .int) ∧ (mt_rk y = 2 → mt_ret y = some .boolean) ∧ (mt_rk y = 3 → ∃ rt, mt_ret y = some rt ∧ ((∃ n, rt = .object n) ∨ ∃ t, rt = .array t))
set_option maxHeartbeats 4000000 in
theorem en_end {p : Program} {l : Launch} {e : Env} {R : Room} {s : State} {m : MethodId} {args : Array Value} {below : List Frame} {meth : Method} {cd : Code} {D : va_G} {tc : Nat → ClassId} {ρ : Nat → Nat} {b0 x0 u0 x1 u1 y : Nat} {sc : Nat × (Nat → Int32)} (X : en_X p R s m args meth cd D tc ρ b0 x0 u0 x1 u1 y) (hZ : en_okZ y) (hr : meth.sig.returnType = mt_ret y) (hlocks : meth.locks = false) {v1 : Option Value} {c1 : en_H}
    (f : en_F) (i : Jvm.ClassFile.Instr) (len : Nat) (hd : decode (mt_code y) f.1 = .ok (i, len)) (hl : len = en_len i ∨ en_len i = 0) (ho : en_step y i f.1 f.2.1 f.2.2.1 f.2.2.2.1 f.2.2.2.2.1 f.2.2.2.2.2 = some (.inr (.inl (v1, c1, x1, u1)))) : en_A p l e R s m args below meth cd (MQ below (en_Qc D tc ρ b0 v1 c1 x1) args s (x1 - x0) (u1 - u0) (fun q => b0 ≤ q)) D tc ρ b0 x0 u0 x1 u1 y sc f := by
  obtain ⟨pc, lv, st, c, x, u⟩ := f
  dsimp only at hd ho
  obtain ⟨-, -, -, hz0, hz1, hz2, hz3⟩ := hZ
  cases i
  case ireturn =>
    have hd : decode (mt_code y) pc = .ok (.ireturn, 1) := en_hd hd hl (Nat.succ_ne_zero _)
    have ho : en_ret y st c x u = some (.inr (.inl (v1, c1, x1, u1))) := ho
    unfold en_ret at ho
    split at ho
    · rename_i a hold
      obtain ⟨hz, ho⟩ := en_if_inv ho
      have e1 := Sum.inl.inj (Sum.inr.inj (Option.some.inj ho))
      obtain ⟨rfl, rfl, rfl, rfl⟩ : some (Value.int a) = v1 ∧ c = c1 ∧ x = x1 ∧ u = u1 := ⟨congrArg (fun q => q.1) e1, congrArg (fun q => q.2.1) e1, congrArg (fun q => q.2.2.1) e1, congrArg (fun q => q.2.2.2) e1⟩
      intro k j H locs ls h1 h2 h3 h4 h5 h6 h7 h8 h9 h10
      have hx' : x = x0 + k := h1
      have hu' : u = u0 + j := h2
      obtain rfl : k = x - x0 := by omega
      obtain rfl : j = u - u0 := by omega
      rcases hz with hz | ⟨hz, ha⟩
      · exact W.zret (ty := .int) X.1.1 X.1.2.1 (hr.trans (hz1 hz)) rfl (fun t ht hW => ⟨rfl, by rw [ht]; exact h5, by rw [ht]; exact h6, h7.F ht⟩) h7.2.2 hd hlocks
      · exact W.zret (ty := .boolean) X.1.1 X.1.2.1 (hr.trans (hz2 hz)) (by rcases ha with rfl | rfl <;> rfl) (fun t ht hW => ⟨rfl, by rw [ht]; exact h5, by rw [ht]; exact h6, h7.F ht⟩) h7.2.2 hd hlocks
    · cases ho
  case areturn =>
    have hd : decode (mt_code y) pc = .ok (.areturn, 1) := en_hd hd hl (Nat.succ_ne_zero _)
    have ho : en_reta y st c x u = some (.inr (.inl (v1, c1, x1, u1))) := ho
    unfold en_reta at ho
    split at ho
    · rename_i a hold
      obtain ⟨hz, ho⟩ := en_if_inv ho
      have e1 := Sum.inl.inj (Sum.inr.inj (Option.some.inj ho))
      obtain ⟨rfl, rfl, rfl, rfl⟩ : some (Value.ref a) = v1 ∧ c = c1 ∧ x = x1 ∧ u = u1 := ⟨congrArg (fun q => q.1) e1, congrArg (fun q => q.2.1) e1, congrArg (fun q => q.2.2.1) e1, congrArg (fun q => q.2.2.2) e1⟩
      intro k j H locs ls h1 h2 h3 h4 h5 h6 h7 h8 h9 h10
      have hx' : x = x0 + k := h1
      have hu' : u = u0 + j := h2
      obtain rfl : k = x - x0 := by omega
      obtain rfl : j = u - u0 := by omega
      obtain ⟨rt, e2, e3⟩ := hz3 hz
      exact W.aret X.1.1 X.1.2.1 (hr.trans e2) e3 (Or.inr ⟨ρ a, rfl⟩) (fun t ht hW => ⟨rfl, by rw [ht]; exact h5, by rw [ht]; exact h6, h7.F ht⟩) h7.2.2 hd hlocks
    · cases ho
  case return_ =>
    have hd : decode (mt_code y) pc = .ok (.return_, 1) := en_hd hd hl (Nat.succ_ne_zero _)
    have ho : en_retv y st c x u = some (.inr (.inl (v1, c1, x1, u1))) := ho
    unfold en_retv at ho
    split at ho
    · obtain ⟨hz, ho⟩ := en_if_inv ho
      have e1 := Sum.inl.inj (Sum.inr.inj (Option.some.inj ho))
      obtain ⟨rfl, rfl, rfl, rfl⟩ : none = v1 ∧ c = c1 ∧ x = x1 ∧ u = u1 := ⟨congrArg (fun q => q.1) e1, congrArg (fun q => q.2.1) e1, congrArg (fun q => q.2.2.1) e1, congrArg (fun q => q.2.2.2) e1⟩
      intro k j H locs ls h1 h2 h3 h4 h5 h6 h7 h8 h9 h10
      have hx' : x = x0 + k := h1
      have hu' : u = u0 + j := h2
      obtain rfl : k = x - x0 := by omega
      obtain rfl : j = u - u0 := by omega
      exact W.vret X.1.1 X.1.2.1 (hr.trans (hz0 hz)) (fun t ht hW => ⟨rfl, by rw [ht]; exact h5, by rw [ht]; exact h6, h7.F ht⟩) h7.2.2 hd hlocks
    · cases ho
  case invokevirtual n => exact (en_inv_nr ho).elim
  case invokestatic n => exact (en_ins_nr ho).elim
  case invokespecial n => exact (en_inp_nr ho).elim
  all_goals refine absurd ho ((?_ : en_pn _) _)
  all_goals repeat' first | exact en_pn_fr | exact en_pn_0 | exact en_pn_tg | exact en_pn_sto | refine en_pn_op (fun _ => ?_) | refine en_pn_p1 (fun _ _ => ?_) | refine en_pn_p2 (fun _ _ _ => ?_) | refine en_pn_l2 (fun _ _ _ => ?_) | refine en_pn_li (fun _ _ _ => ?_) | refine en_pn_pr (fun _ _ => ?_) | refine en_pn_ir (fun _ _ _ => ?_) | refine en_pn_iir (fun _ _ _ _ => ?_) | refine en_pn_lir (fun _ _ _ _ => ?_) | refine en_pn_vr (fun _ _ _ => ?_) | refine en_pn_ldI (fun _ => ?_) | refine en_pn_ldA (fun _ => ?_) | refine en_pn_arI (fun _ _ _ => ?_) | refine en_pn_arL (fun _ _ _ => ?_) | refine en_pn_arN (fun _ _ => ?_) | refine en_pn_ob (fun _ _ => ?_) | refine en_pn_if ?_ ?_ | exact en_pn_st1 | exact en_pn_st2 | exact en_pn_st3
set_option maxHeartbeats 4000000 in
/-- SOUNDNESS: what the abstract machine calls, the machine's method meets -/
theorem en_sound (Tok : en_Tok) (TZ : ∀ y, y ≠ mt_law → en_okZ y) (l : Launch) (D : va_G) (tc : Nat → ClassId) (ρ : Nat → Nat) (b0 : Nat) (hρ : ∀ i, i < en_S → ρ i = b0 + i) : ∀ (d y : Nat) (As : List Value) (c : en_H) (x u : Nat) (v : Option Value) (c' : en_H) (x' u' : Nat), en_call d y As c x u v c' x' u' → x' < en_S → en_M l D tc ρ b0 d y As c x u v c' x' u' := by
  intro d
  induction d with
  | zero => intro y As c x u v c' x' u' h; exact h.elim
  | succ d ih =>
    intro y As c x u v c' x' u' h hxS
    obtain ⟨hy, h1, h2, n, hw⟩ := h
    have hZ := TZ y hy
    unfold en_M
    refine Met.ofW (cc := mt_code y) (maxL := mt_nl y) (ret := mt_ret y) hZ.1 rfl ?_
    intro p e s m args below meth cd s₁ B hml hv
    obtain ⟨rfl, hH, hP, hK, hN⟩ := hv
    have hts0 := atoms_spec (ws := en_mw y) B.pre
    have X : en_X p (headSpec (en_mw y) (en_room (d + 1) (x' - x) (u' - u))).room s m (As.map (en_cv ρ)).toArray meth cd D tc ρ b0 x u x' u' y :=
      ⟨⟨B.exec, B.bytes, hml, by rw [hZ.2.1]; exact findClass_of_methodNamed B.named, fun w hw => hts0 w (List.mem_cons_of_mem _ hw)⟩, ⟨hK, hN⟩, ⟨hρ, by rw [hH]; omega, hxS, Nat.le_refl _, Nat.le_refl _⟩, fun h => (name_of_methodNamed B.named B.method).1.trans (hZ.2.2.1 h)⟩
    rw [lg_entry_eq]
    exact en_main (sc := (0, fun _ => 0)) X Tok (fun q => absurd q hy) (d := d) ⟨Nat.le_refl _, Nat.le_refl _⟩ ih (fun f i len => en_end X hZ B.returns B.notSynchronized f i len) n _ hw 0 0 s.heap [] _ rfl rfl (en_wp_x hw).1 (en_wp_x hw).2 hH hP va_S.rf (en_entry h1 h2) (by show (en_lv0 y As).length = _; simp [en_lv0]; omega) (fun q => absurd q hy)
