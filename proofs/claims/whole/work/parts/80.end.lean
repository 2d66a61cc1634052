/-! THE CLAIM OUT OF ONE WALK OF THE LAW'S BODY. Your part is whole_start (and what it stands on); all else here is the same for every law, but numbers. -/
def R_law : String := "StepPileLaw"
def lw_P (b : Addr) (xs : List Int32) (args : Array Value) (s : State) : Prop := args = #[.ref b] ∧ s.IntsAt b xs ∧ xs.length ≤ 1536 ∧ (Jvm.Cond.and given_1 narrow_1).before args s = true
def lw_Q (_ : Array Value) (s : State) (o : Outcome) (t : State) : Prop := o = .returned (some (.int 1)) ∧ Framed s o t [] 600000 7302250
def lw_Z (below : List Frame) (a : Array Value) (s : State) : State → Prop := fun t => ∃ o, t.status = .running ∧ Ended t below o ∧ lw_Q a s o t
/-- the law's own end, with 1 on the stack, nothing written that was there before, its room as the claim has it -/
theorem lw_ret {p : Program} {l : Launch} {e : Env} {s : State} {m : MethodId} {below : List Frame} {meth : Method} {c : Code} {b : Nat} (hx : p.tables.exec = Jvm.exec) (hb : c.code = code) (hr : meth.sig.returnType = ret) (hlocks : meth.locks = false) {pc : Nat} {H : Heap} {ls : Array Slot} (hdg : decode code pc = .ok (.ireturn, 1)) : W p l e room_1 s m #[Value.ref b] below meth c H [] 600000 7302250 (lw_Z below #[Value.ref b] s) (F0 m pc ls [.int 1]) := by
  intro T hT X
  obtain ⟨fs, hret, hrun, hended, hW, hframe⟩ := X.leave (v := some (.int 1)) (hlocks := hlocks) (fun h => by rw [hr] at h; cases h)
  have hmeth' : T.vm.method? m = some meth := X.method'
  refine ⟨T.setFrames fs, ?_, .returned (some (.int 1)), hrun, hended, rfl, ⟨_, rfl⟩, hW, hframe⟩
  jvm_step X.here [X.here.top, hx, hb, hdg, hmeth', hr, ret, narrow_b1]
  (try refine ⟨rfl, ?_⟩); (try refine ⟨rfl, ?_⟩)
  first | (intro acts; rw [hret _ acts rfl rfl rfl]) | rw [hret _ _ rfl rfl rfl]
  exact Steps.refl _
/-- what holds at the law's entry: the machine, the code, the tables' words (any of lw_tbl by 'hts w (by decide +kernel)'), the script of L ints xs at the cell b, what the Statement gives of the start (any of its parts by flat_of_before) -/
def lw_At (p : Program) (s : State) (m : MethodId) (meth : Method) (c : Code) (b L : Nat) (xs : Nat → Int32) : Prop :=
  p.tables.exec = Jvm.exec ∧ c.code = code ∧ meth.sig.returnType = ret ∧ c.maxLocals = 4 ∧ s.vm.findClass R_law = some m.cls ∧ (∀ w ∈ lw_tbl, w.before #[Value.ref b] s = true) ∧ va_X b L xs s s.heap ∧ b < s.heap.size ∧ meth.locks = false ∧ (Jvm.Cond.and given_1 narrow_1).before #[Value.ref b] s = true
theorem kn_of {s : State} {args : Array Value} (ht0 : ∀ w ∈ en_T0, w.before args s = true) {o n ci : Nat} {fs : List Value} (h : tb_new o n = some (ci, fs)) {q : vw_C} (hq : vwCl[ci]? = some q) : ∃ (cC : ClassId) (iS : Nat → Nat), u_Kn s q.1 q.2.1 q.2.2 cC iS := by
  obtain ⟨r, h1, -, h3, -, h5, -⟩ := en_tok.2.1 o n _ h
  have e : r = q := Option.some.inj (h1.symm.trans hq)
  subst e
  exact u_known ht0 h5 (ht0 _ h3)
theorem arr_of {s : State} {args : Array Value} (ht0 : ∀ w ∈ en_T0, w.before args s = true) (ty : ArrayType) {t : Nat} (h : en_at ty = some t) : ∃ cA : ClassId, ArrOfT s cA (newarray.typeOf ty) ∧ va_RA s cA (newarray.typeOf ty) := by
  obtain ⟨c, k, comp, h1, h2, h3⟩ := Cond.arrayClass_spec (ht0 _ (en_tok.2.2.2.2 ty t h))
  exact ⟨c, fun n z => ⟨fun k h => (by cases h), k, h2, comp, h3⟩, by cases ty <;> exact h1⟩
theorem nest_in : Cond.methodLinkNest "StepPile" 9 ⟨"StepPile$Symbols", "<init>", "()V"⟩ "StepPile" ∈ lw_tbl := by decide +kernel
set_option maxHeartbeats 4000000 in
/-- the law's end -/
theorem law_end {p : Program} {l : Launch} {e : Env} {s : State} {m : MethodId} {below : List Frame} {meth : Method} {cd : Code} {D : va_G} {tc : Nat → ClassId} {ρ : Nat → Nat} {b x1 u1 : Nat} {sc : Nat × (Nat → Int32)} (hx : p.tables.exec = Jvm.exec) (hb : cd.code = code) (hr : meth.sig.returnType = ret) (hlocks : meth.locks = false) (hx1 : x1 ≤ 600000) (hu1 : u1 ≤ 7302250) {c1 : en_H}
    (f : en_F) (i : Jvm.ClassFile.Instr) (len : Nat) (hd : decode (mt_code mt_law) f.1 = .ok (i, len)) (hl : len = en_len i ∨ en_len i = 0) (ho : en_step mt_law i f.1 f.2.1 f.2.2.1 f.2.2.2.1 f.2.2.2.2.1 f.2.2.2.2.2 = some (.inr (.inl (some (.int 1), c1, x1, u1)))) : en_A p l e room_1 s m #[Value.ref b] below meth cd (lw_Z below #[Value.ref b] s) D tc ρ s.heap.size 0 0 x1 u1 mt_law sc f := by
  obtain ⟨pc, lv, st, c, x, u⟩ := f
  dsimp only at hd ho
  cases i
  case ireturn =>
    have hd : decode (mt_code mt_law) pc = .ok (.ireturn, 1) := en_hd hd hl (Nat.succ_ne_zero _)
    have ho : en_ret mt_law st c x u = some (.inr (.inl (some (.int 1), c1, x1, u1))) := ho
    unfold en_ret at ho
    split at ho
    · rename_i a hold
      obtain ⟨hz, ho⟩ := en_if_inv ho
      have e1 := Sum.inl.inj (Sum.inr.inj (Option.some.inj ho))
      have ea : some (Value.int a) = some (Value.int 1) := congrArg (fun q => q.1) e1
      have ea : a = 1 := Value.int.inj (Option.some.inj ea)
      subst ea
      intro k j H locs ls h1 h2 h3 h4 h5 h6 h7 h8 h9 h10
      dsimp only at h1 h2 h3 h4
      refine va_forget (fun q hq => h7.2.2 q hq) ?_
      refine W.widen (k := 600000) (n := 7302250) (by omega) (by omega) ?_
      exact lw_ret hx hb hr hlocks hd
    · cases ho
  case areturn =>
    have ho : en_reta mt_law st c x u = some (.inr (.inl (some (.int 1), c1, x1, u1))) := ho
    unfold en_reta at ho
    split at ho
    · obtain ⟨hz, ho⟩ := en_if_inv ho
      have e1 := Sum.inl.inj (Sum.inr.inj (Option.some.inj ho))
      have ea := congrArg (fun q => q.1) e1
      cases ea
    · cases ho
  case return_ =>
    have ho : en_retv mt_law st c x u = some (.inr (.inl (some (.int 1), c1, x1, u1))) := ho
    unfold en_retv at ho
    split at ho
    · obtain ⟨hz, ho⟩ := en_if_inv ho
      have e1 := Sum.inl.inj (Sum.inr.inj (Option.some.inj ho))
      have ea := congrArg (fun q => q.1) e1
      cases ea
    · cases ho
  case invokevirtual n => exact (en_inv_nr ho).elim
  case invokestatic n => exact (en_ins_nr ho).elim
  case invokespecial n => exact (en_inp_nr ho).elim
  all_goals refine absurd ho ((?_ : en_pn _) _)
  all_goals repeat' first | exact en_pn_fr | exact en_pn_0 | exact en_pn_tg | exact en_pn_sto | refine en_pn_op (fun _ => ?_) | refine en_pn_p1 (fun _ _ => ?_) | refine en_pn_p2 (fun _ _ _ => ?_) | refine en_pn_l2 (fun _ _ _ => ?_) | refine en_pn_li (fun _ _ _ => ?_) | refine en_pn_pr (fun _ _ => ?_) | refine en_pn_ir (fun _ _ _ => ?_) | refine en_pn_iir (fun _ _ _ _ => ?_) | refine en_pn_lir (fun _ _ _ _ => ?_) | refine en_pn_vr (fun _ _ _ => ?_) | refine en_pn_ldI (fun _ => ?_) | refine en_pn_ldA (fun _ => ?_) | refine en_pn_arI (fun _ _ _ => ?_) | refine en_pn_arL (fun _ _ _ => ?_) | refine en_pn_arN (fun _ _ => ?_) | refine en_pn_ob (fun _ _ => ?_) | refine en_pn_if ?_ ?_ | exact en_pn_st1 | exact en_pn_st2 | exact en_pn_st3
/-- from the entry, for every script of at most 1536 ints, the law comes to its end with true -/
theorem whole_start {p : Program} {e : Env} {s : State} {m : MethodId} {below : List Frame} {meth : Method} {c : Code} (l : Launch) {b L : Nat} {xs : Nat → Int32} (hL : L ≤ 1536) (C0 : lw_At p s m meth c b L xs) : W p l e room_1 s m #[Value.ref b] below meth c s.heap [] 0 0 (lw_Z below #[Value.ref b] s) (entryFrame m ([Value.ref b] : List Value).toArray 4) := by
  obtain ⟨hx, hb, hr, hml, hown, hts, hX, hbl, hlocks, hgv⟩ := id C0
  have ht0 : ∀ w ∈ en_T0, w.before #[Value.ref b] s = true := fun w hw => hts w (List.mem_filter.mp hw).1
  have kn : ∀ k : Nat, ∃ (cC : ClassId) (iS : Nat → Nat), ∀ q : vw_C, vwCl[k]? = some q → u_Kn s q.1 q.2.1 q.2.2 cC iS := by
    intro k
    have gen : ∀ {o n ci : Nat} {fs : List Value} {q : vw_C}, tb_new o n = some (ci, fs) → vwCl[ci]? = some q → ∃ (cC : ClassId) (iS : Nat → Nat), ∀ q : vw_C, vwCl[ci]? = some q → u_Kn s q.1 q.2.1 q.2.2 cC iS := by
      intro o n ci fs q h hq
      obtain ⟨cC, iS, H⟩ := kn_of ht0 h hq
      exact ⟨cC, iS, fun q' hq' => by rw [hq] at hq'; cases hq'; exact H⟩
    match k with
    | 0 => exact gen (o := 6) (n := 7) rfl rfl
    | 1 => exact gen (o := 3) (n := 9) rfl rfl
    | 2 => exact gen (o := 0) (n := 7) rfl rfl
    | 3 => exact gen (o := 0) (n := 16) rfl rfl
    | 4 => exact gen (o := 0) (n := 37) rfl rfl
    | 5 => exact gen (o := 6) (n := 10) rfl rfl
    | k + 6 => exact ⟨m.cls, fun _ => 0, fun q hq => by simp at hq⟩
  obtain ⟨a0, hA0⟩ := arr_of ht0 .int rfl
  obtain ⟨a1, hA1⟩ := arr_of ht0 .long rfl
  obtain ⟨a2, hA2⟩ := arr_of ht0 .boolean rfl
  obtain ⟨D, hDk⟩ : ∃ D : va_G, ∀ (k : Nat) (q : vw_C), vwCl[k]? = some q → u_Kn s q.1 q.2.1 q.2.2 (D.1 k) (D.2 k) := ⟨(fun k => Classical.choose (kn k), fun k => Classical.choose (Classical.choose_spec (kn k))), fun k q hq => Classical.choose_spec (Classical.choose_spec (kn k)) q hq⟩
  obtain ⟨tc, t0, t1, t2⟩ : ∃ tc : Nat → ClassId, tc 0 = a0 ∧ tc 1 = a1 ∧ tc 2 = a2 := ⟨fun t => if t = 0 then a0 else if t = 1 then a1 else a2, rfl, rfl, rfl⟩
  have hK : va_K D vwCl (en_tys tc) s := by
    refine ⟨hDk, fun k q hq => ?_⟩
    unfold en_tys at hq
    match k, hq with
    | 0, hq => cases hq; rw [t0]; exact hA0
    | 1, hq => cases hq; rw [t1]; exact hA1
    | 2, hq => cases hq; rw [t2]; exact hA2
    | k + 3, hq => simp at hq
  have hN : ∀ q ∈ en_nl, va_Nw (en_nw q) s := by
    intro q hq
    have e : q = ("StepPile", 9, ⟨"StepPile$Symbols", "<init>", "()V"⟩, "StepPile") := List.mem_singleton.mp hq
    subst e
    exact va_Nw.of rfl (hts _ nest_in)
  obtain ⟨ρ, hρ, hρS⟩ : ∃ ρ : Nat → Nat, (∀ i, i < en_S → ρ i = s.heap.size + i) ∧ ρ en_S = b := ⟨fun i => if i = en_S then b else s.heap.size + i, fun i hi => if_neg (by omega), if_pos rfl⟩
  obtain ⟨c0, hc0⟩ : ∃ c0 : en_H, c0 en_S = .inl (0, L, .inl xs) := ⟨fun _ => .inl (0, L, .inl xs), rfl⟩
  obtain ⟨n, hw⟩ := law_all hL hc0
  obtain ⟨v, c1, x1, u1, ⟨rfl, k1, k2⟩, -, hw⟩ := en_wp_path n _ hw
  have hSv : en_S = 1000000000 := rfl
  have X : en_X p room_1 s m #[Value.ref b] meth c D tc ρ s.heap.size 0 0 x1 u1 mt_law := by
    refine ⟨⟨hx, hb, hml, hown, ht0⟩, ⟨hK, hN⟩, ⟨hρ, Nat.le_refl _, by omega, ?_, ?_⟩, fun h => absurd h (by decide)⟩
    · show x1 - 0 ≤ 600000
      omega
    · show u1 - 0 ≤ 7302250
      omega
  have E := en_main (l := l) (e := e) (below := below) (sc := (L, xs)) (Q := lw_Z below #[Value.ref b] s) X en_tok (fun _ => ⟨b, hρS, hX, hbl, Nat.not_le.mpr hbl⟩) (d := 8) ⟨by decide, by decide⟩ (fun y' As c x u v c' x' u' h h2 => en_met l D tc ρ s.heap.size hρ h h2) (fun f i len => law_end hx hb hr hlocks (by omega) (by omega) f i len) n _ hw
  have hcat : ∀ a ∈ ([.ref en_S] : List Value), a.category = 1 := cat_1
  have hl := en_entry (ρ := ρ) (y := mt_law) (As := [.ref en_S]) (by decide) hcat
  have eA : ([.ref en_S] : List Value).map (en_cv ρ) = [.ref b] := by
    show [Value.ref (ρ en_S)] = _
    rw [hρS]
  rw [eA] at hl
  rw [lg_entry_eq]
  exact E 0 0 s.heap [] _ rfl rfl (Nat.zero_le _) (Nat.zero_le _) rfl (fun k q hq => by cases (en_ws_inv hq).1) va_S.rf hl rfl (fun _ => hc0)
set_option maxHeartbeats 4000000 in
theorem lw_walk (l : Launch) (b : Addr) (xs : List Int32) : MetFree l x (headSpec (Jvm.Cond.code x code maxLocals ret :: tables_1) room_1) (lw_P b xs) (fun _ _ _ _ _ => True) lw_Q := by
  refine MetFree.of_bodyS (code := code) (maxLocals := maxLocals) (ret := ret) (by decide) ?_ ?_
  · intro args s m h hn
    obtain ⟨meth, c, h1, h2, h3, h4, h5, h6, -, -⟩ := Cond.code_spec hn (atoms_spec (ws := Jvm.Cond.code x code maxLocals ret :: tables_1) h _ List.mem_cons_self)
    exact ⟨meth, c, h1, h2, h3, h4, h5, h6⟩
  · intro p e s m args below meth c s₁ B hml0 hP _
    obtain ⟨rfl, hx, hbd, hgv⟩ := hP
    obtain ⟨scr, harrAt, hlist, hof, hsmall⟩ := hx
    obtain ⟨hcb, hkn, -, -⟩ := State.arrayAt?_spec harrAt
    have hown : s.vm.findClass R_law = some m.cls := findClass_of_methodNamed B.named
    have hts0 : ∀ c ∈ (Jvm.Cond.code x code maxLocals ret :: tables_1), c.before #[Value.ref b] s = true := atoms_spec (ws := Jvm.Cond.code x code maxLocals ret :: tables_1) B.pre
    have hts : ∀ w ∈ lw_tbl, w.before #[Value.ref b] s = true := k2_hts_sels lw_privs (fun w hw => hts0 w (List.mem_cons_of_mem _ hw)) lw_privs_ok
    have hml : c.maxLocals = 4 := B.maxLocals_eq (hts0 _ List.mem_cons_self)
    have X₀ : Stand p l e room_1 s m #[Value.ref b] below meth c s₁ [] 0 0 := Stand.of_body B
    have hh0 : s₁.heap = s.heap := by rw [B.state]; rfl
    have hsz : scr.slots.size = xs.length := by rw [← Array.length_toList, hlist, List.length_map]
    have hval : ∀ j : Nat, j < xs.length → scr.slots[j]? = some (.int (xs.getD j 0)) := fun j hj => by
      rw [← Array.getElem?_toList, hlist]
      simp [hj]
    have hbl : b < s.heap.size := (Array.getElem?_eq_some_iff.mp hcb).1
    have hX : va_X b xs.length (fun j => xs.getD j 0) s s.heap := ⟨scr, hcb, hof, hkn, hsz, hval⟩
    have K : W p l e room_1 s m #[Value.ref b] below meth c s₁.heap [] 0 0 (lw_Z below #[Value.ref b] s) (entryFrame m ([Value.ref b] : List Value).toArray 4) := by
      rw [hh0]
      exact whole_start l hbd ⟨B.exec, B.bytes, B.returns, hml, hown, hts, hX, hbl, B.notSynchronized, hgv⟩
    obtain ⟨t, a1, o, b1, b2, b3⟩ := K s₁ rfl X₀
    exact ⟨t, o, a1, b1, b2, b3⟩
theorem lw_pre_spec {args : Array Value} {s : State} (h : (Jvm.Cond.and given_1 narrow_1).before args s = true) (hr : rest_1_c.before args s = true) : ∃ (b : Addr) (xs : List Int32), lw_P b xs args s := by
  have hs := flat_of_before _ h
  have hq := flat_of_before _ hr
  have hc : (Cond.count 1).before args s = true := hs _ (by decide +kernel)
  have harr : (Cond.arrayOf (.arg 0) .int).before args s = true := hs _ (by decide +kernel)
  have hle : (Cond.le (.length (.arg 0)) (.int 1536)).before args s = true := hs _ (by decide +kernel)
  have hlen : (Cond.isInt (.length (.arg 0))).before args s = true := hq _ (by decide +kernel)
  have hall : (Cond.all (.arg 0) (.isInt (.elem (.arg 0) (.index 0)))).before args s = true := hq _ (by decide +kernel)
  obtain ⟨b, xs, hb, hx⟩ := State.ints_of_pre rfl harr hlen hall
  have hsm : xs.length < 2 ^ 31 := hx.choose_spec.2.2.2
  have hev : (Term.length (.arg 0)).eval args s none [] s = some (.int xs.length.toInt32) := hx.length_eval hb
  have hv := Cond.le_ints hev (show (Term.int 1536).eval args s none [] s = some (.int 1536) from rfl)
  have hd : xs.length.toInt32 ≤ 1536 := by
    simpa [Cond.before, Cond.holds, hv] using hle
  have hN : xs.length ≤ 1536 := (Int32.ofNat_le_ofNat hsm (by decide)).mp (show Int32.ofNat xs.length ≤ Int32.ofNat 1536 from hd)
  exact ⟨b, xs, Cond.one_arg hc (show args[0]? = some (.ref b) from hb), hx, hN, h⟩
theorem lw_comes (l : Launch) : Comes l x (Jvm.Cond.code x code maxLocals ret :: tables_1) room_1 (fun tb e args s => Calls_1 tb e args s ∧ rest_1 tb e args s ∧ Pre_1 tb e args s)
    (fun _ _ args s o t => lw_Q args s o t) := by
  intro p e ha hc hk s m args below hf hfit hheap happ hpre
  obtain ⟨b, xs, hP⟩ := lw_pre_spec hpre.2.2 hpre.2.1
  obtain ⟨k, o, h1, h2, h3, hQ⟩ := lw_walk l b xs p e ha hc hk s m args below hf ((Spec.applies_iff_loose hf).mp happ).1 hP trivial
  exact ⟨k, o, h1, h2, h3, hQ⟩
theorem lw_frame {s t : State} {o : Outcome} {args : Array Value} (h : Framed s o t [] 600000 7302250) :
    Framed s o t (fieldLocs frame_1_writes args s ++ arrayLocs frame_1_arrays args s ++ staticLocs frame_1_statics s) 600000 7302250 := h
theorem lw_limb (L : Cond) (hL : ∀ (args : Array Value) (s t : State), L.after args s (.returned (some (.int 1))) t = true) :
    ArmFor flags0 classFile x code maxLocals ret World_1 tables_1 room_1 Calls_1 rest_1 Pre_1
      (fun tb e a s o t => postC L tb e a s o t ∧ Framed s o t (fieldLocs frame_1_writes a s ++ arrayLocs frame_1_arrays a s ++ staticLocs frame_1_statics s) 600000 7302250) := by
  intro l _ _ _ p e ha hc hk s m args below hf hfit hheap happ hpre
  obtain ⟨k, o, h1, h2, h3, rfl, hF⟩ := lw_comes l p e ha hc hk s m args below hf hfit hheap happ hpre
  exact ⟨k, _, h1, h2, h3, hL args s _, lw_frame hF⟩
theorem i_vc : Claimed_1_1 ∧ Claimed_1_2 := ⟨lw_limb limb_1_1 (fun args s t => by simp [limb_1_1, Cond.after, Cond.holds, Cond.value]), lw_limb limb_1_2 (fun args s t => Cond.after_iff.mpr (by
  first | (rw [show limb_1_2 = Cond.eq .result (.int 1) from rfl, Cond.eq_ints (x := 1) (y := 1) rfl rfl]; simp; done) | (simp [limb_1_2, Cond.value, Term.eval]; done)))⟩
