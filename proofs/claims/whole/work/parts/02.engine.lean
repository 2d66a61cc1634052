/-! THE ENGINE, pure side: an abstract machine over renamed addresses. Cells are a function of a number; number i is the address b0 + i. -/
abbrev en_C : Type := (Nat × vp_A) ⊕ (Nat × List Value)
abbrev en_H : Type := Nat → en_C
abbrev en_K : Type := Option Value → en_H → Nat → Nat → Prop
abbrev en_R : Type := Nat → List Value → en_H → Nat → Nat → en_K
abbrev en_L : Type := List (Option Value)
abbrev en_F : Type := Nat × en_L × List Value × en_H × Nat × Nat
/-- what an instruction does: it goes on; it returns; it calls (method, arguments, then: pc, locals, stack under the answer) -/
abbrev en_N : Type := en_F ⊕ ((Option Value × en_H × Nat × Nat) ⊕ (Nat × List Value × Nat × en_L × List Value))
def en_up (c : en_H) (a : Nat) (e : en_C) : en_H := fun j => if j = a then e else c j
theorem en_up_s (c : en_H) (a : Nat) (e : en_C) : en_up c a e a = e := if_pos rfl
theorem en_up_n {c : en_H} {a b : Nat} {e : en_C} (h : b ≠ a) : en_up c a e b = c b := if_neg h
noncomputable def en_if {α : Type} (p : Prop) (a b : α) : α := @ite α p (Classical.propDecidable p) a b
theorem en_if_t {α : Type} {p : Prop} {a b : α} (h : p) : en_if p a b = a := by unfold en_if; exact if_pos h
theorem en_if_f {α : Type} {p : Prop} {a b : α} (h : ¬ p) : en_if p a b = b := by unfold en_if; exact if_neg h
abbrev en_O : Type := Option en_N
def en_p1 (st : List Value) (k : Int32 → List Value → en_O) : en_O := match st with
  | .int a :: r => k a r
  | _ => none
def en_p2 (st : List Value) (k : Int32 → Int32 → List Value → en_O) : en_O := match st with
  | .int b :: .int a :: r => k a b r
  | _ => none
def en_l2 (st : List Value) (k : Int64 → Int64 → List Value → en_O) : en_O := match st with
  | .long b :: .long a :: r => k a b r
  | _ => none
def en_li (st : List Value) (k : Int64 → Int32 → List Value → en_O) : en_O := match st with
  | .int b :: .long a :: r => k a b r
  | _ => none
def en_pr (st : List Value) (k : Nat → List Value → en_O) : en_O := match st with
  | .ref a :: r => k a r
  | _ => none
def en_ir (st : List Value) (k : Nat → Int32 → List Value → en_O) : en_O := match st with
  | .int i :: .ref a :: r => k a i r
  | _ => none
def en_iir (st : List Value) (k : Nat → Int32 → Int32 → List Value → en_O) : en_O := match st with
  | .int v :: .int i :: .ref a :: r => k a i v r
  | _ => none
def en_lir (st : List Value) (k : Nat → Int32 → Int64 → List Value → en_O) : en_O := match st with
  | .long v :: .int i :: .ref a :: r => k a i v r
  | _ => none
def en_cp (st : List Value) (k : Nat → Int32 → Nat → Int32 → Int32 → List Value → en_O) : en_O := match st with
  | .int n :: .int dp :: .ref a1 :: .int sp :: .ref a0 :: r => k a0 sp a1 dp n r
  | _ => none
def en_vr (st : List Value) (k : Nat → Value → List Value → en_O) : en_O := match st with
  | v :: .ref a :: r => k a v r
  | _ => none
def en_ldI (lv : en_L) (i : Nat) (k : Int32 → en_O) : en_O := match lv[i]? with
  | some (some (.int a)) => k a
  | _ => none
def en_ldA (lv : en_L) (i : Nat) (k : Nat → en_O) : en_O := match lv[i]? with
  | some (some (.ref a)) => k a
  | _ => none
def en_arI (e : en_C) (k : Nat → Nat → (Nat → Int32) → en_O) : en_O := match e with
  | .inl (t, n, .inl f) => k t n f
  | _ => none
def en_arL (e : en_C) (k : Nat → Nat → (Nat → Int64) → en_O) : en_O := match e with
  | .inl (t, n, .inr (.inl f)) => k t n f
  | _ => none
def en_arN (e : en_C) (k : Nat → Nat → en_O) : en_O := match e with
  | .inl (t, n, _) => k t n
  | _ => none
def en_ob (e : en_C) (k : Nat → List Value → en_O) : en_O := match e with
  | .inr (ci, fs) => k ci fs
  | _ => none
def en_op {α : Type} (o : Option α) (k : α → en_O) : en_O := match o with
  | some a => k a
  | none => none
def en_i1 (cd : Jvm.ClassFile.Cond) (a : Int32) : Prop := match cd with
  | .eq => a = 0
  | .ne => ¬ a = 0
  | .lt => a < 0
  | .ge => 0 ≤ a
  | .gt => 0 < a
  | .le => a ≤ 0
def en_i2 (cd : Jvm.ClassFile.Cond) (a b : Int32) : Prop := match cd with
  | .eq => a = b
  | .ne => ¬ a = b
  | .lt => a < b
  | .ge => b ≤ a
  | .gt => b < a
  | .le => a ≤ b
/-- what a value must be for a field of kind 0 (int), 1 (a reference) or 2 (boolean) -/
def en_fk (kd : Nat) (v : Value) : Prop := match v with
  | .int a => kd = 0 ∨ (kd = 2 ∧ (a = 0 ∨ a = 1))
  | .ref _ => kd = 1
  | .null => kd = 1
  | _ => False
def en_fr (pc : Nat) (lv : en_L) (st : List Value) (c : en_H) (x u : Nat) : en_O := some (.inl (pc, lv, st, c, x, u))
noncomputable def en_tg (pc : Nat) (off : Int) (lv : en_L) (st : List Value) (c : en_H) (x u : Nat) : en_O := en_if (0 ≤ (pc : Int) + off) (en_fr ((pc : Int) + off).toNat lv st c x u) none
noncomputable def en_sto (pc : Nat) (lv : en_L) (i : Nat) (v : Value) (st : List Value) (c : en_H) (x u : Nat) : en_O := en_if (i < lv.length) (en_fr pc (lv.set i (some v)) st c x u) none
/-- the script's number: no cell of the world -/
def en_S : Nat := 1000000000
def en_rd (y a x : Nat) : Prop := a < x ∨ (a = en_S ∧ y = mt_law)
def en_rz (rk : Nat) (a : Int32) : Prop := rk = 1 ∨ (rk = 2 ∧ (a = 0 ∨ a = 1))
/-- zeros of a new array -/
def en_z (t N : Nat) : en_C := .inl (t, N, if t = 1 then .inr (.inl (fun _ => 0)) else .inl (fun _ => 0))
def en_at (ty : ArrayType) : Option Nat := match ty with
  | .int => some 0
  | .long => some 1
  | .boolean => some 2
  | _ => none
noncomputable def en_new (pc t : Nat) (lv : en_L) (n : Int32) (r : List Value) (c : en_H) (x u : Nat) : en_O :=
  en_if (¬ n < 0 ∧ n.toNatClampNeg ≤ 1000000) (en_fr (pc + 2) lv (.ref x :: r) (en_up c x (en_z t n.toNatClampNeg)) (x + 1) (u + n.toNatClampNeg)) none
noncomputable def en_inv (pc : Nat) (lv : en_L) (st : List Value) (c : en_H) (x : Nat) (q : Nat × Nat × Nat × Nat) : en_O :=
  en_pr (st.drop q.2.2.1) (fun a r => en_if (a < x ∧ r.length ≤ 4 ∧ (st.take q.2.2.1).length = q.2.2.1)
    (en_ob (c a) (fun ci _ => en_if (ci = q.2.2.2) (some (.inr (.inr (q.2.1, .ref a :: (st.take q.2.2.1).reverse, pc + 3, lv, r)))) none)) none)
noncomputable def en_ins (pc : Nat) (lv : en_L) (st : List Value) (c : en_H) (x u : Nat) (q : Nat × Nat × Nat × Nat) : en_O := match q.1 with
  | 1 => en_if ((st.drop q.2.2.1).length ≤ 4 ∧ (st.take q.2.2.1).length = q.2.2.1) (some (.inr (.inr (q.2.1, (st.take q.2.2.1).reverse, pc + 3, lv, st.drop q.2.2.1)))) none
  | 4 => en_p2 st (fun a b r => en_if (r.length ≤ 4) (en_fr (pc + 3) lv (.int (if a < b then b else a) :: r) c x u) none)
  | 5 => en_p2 st (fun a b r => en_if (r.length ≤ 4) (en_fr (pc + 3) lv (.int (if b < a then b else a) :: r) c x u) none)
  | 6 => en_cp st (fun a0 sp a1 dp n r => en_arI (c a0) (fun t0 n0 f => en_arI (c a1) (fun t1 n1 g =>
      en_if (a0 < x ∧ a1 < x ∧ t0 = 0 ∧ t1 = 0 ∧ r.length ≤ 4 ∧ ¬ sp < 0 ∧ ¬ dp < 0 ∧ ¬ n < 0 ∧ sp.toNatClampNeg + n.toNatClampNeg ≤ n0 ∧ dp.toNatClampNeg + n.toNatClampNeg ≤ n1)
        (en_fr (pc + 3) lv r (en_up c a1 (.inl (0, n1, .inl (va_cpy f g sp.toNatClampNeg dp.toNatClampNeg n.toNatClampNeg)))) x u) none)))
  | _ => none
noncomputable def en_inp (pc : Nat) (lv : en_L) (st : List Value) (c : en_H) (x u : Nat) (q : Nat × Nat × Nat × Nat) : en_O := match q.1 with
  | 2 => en_pr (st.drop q.2.2.1) (fun a r => en_if (r.length ≤ 4 ∧ (st.take q.2.2.1).length = q.2.2.1) (some (.inr (.inr (q.2.1, .ref a :: (st.take q.2.2.1).reverse, pc + 3, lv, r)))) none)
  | 3 => en_pr (st.drop q.2.2.1) (fun a r => en_if (r.length ≤ 4 ∧ (st.take q.2.2.1).length = q.2.2.1) (some (.inr (.inr (q.2.1, .ref a :: (st.take q.2.2.1).reverse, pc + 3, lv, r)))) none)
  | 7 => en_pr st (fun _ r => en_if (r.length ≤ 4) (en_fr (pc + 3) lv r c x u) none)
  | _ => none
noncomputable def en_ret (y : Nat) (st : List Value) (c : en_H) (x u : Nat) : en_O := match st with
  | [.int a] => en_if (en_rz (mt_rk y) a) (some (.inr (.inl (some (.int a), c, x, u)))) none
  | _ => none
noncomputable def en_reta (y : Nat) (st : List Value) (c : en_H) (x u : Nat) : en_O := match st with
  | [.ref a] => en_if (mt_rk y = 3) (some (.inr (.inl (some (.ref a), c, x, u)))) none
  | _ => none
noncomputable def en_retv (y : Nat) (st : List Value) (c : en_H) (x u : Nat) : en_O := match st with
  | [] => en_if (mt_rk y = 0) (some (.inr (.inl (none, c, x, u)))) none
  | _ => none
/-- one instruction -/
noncomputable def en_step (y : Nat) (i : Jvm.ClassFile.Instr) (pc : Nat) (lv : en_L) (st : List Value) (c : en_H) (x u : Nat) : en_O := match i with
  | .iconst n => en_fr (pc + 1) lv (.int (Int32.ofInt n) :: st) c x u
  | .bipush n => en_fr (pc + 2) lv (.int (Int8.ofInt n).toInt32 :: st) c x u
  | .sipush n => en_fr (pc + 3) lv (.int (Int16.ofInt n).toInt32 :: st) c x u
  | .ldc n => en_op (tb_ldc (mt_cls y) n) (fun v => en_fr (pc + 2) lv (.int v :: st) c x u)
  | .lconst n => en_fr (pc + 1) lv (.long (Int64.ofNat (n : Nat)) :: st) c x u
  | .iload n => en_ldI lv n (fun a => en_fr (pc + 2) lv (.int a :: st) c x u)
  | .iload_n n => en_ldI lv n (fun a => en_fr (pc + 1) lv (.int a :: st) c x u)
  | .aload n => en_ldA lv n (fun a => en_fr (pc + 2) lv (.ref a :: st) c x u)
  | .aload_n n => en_ldA lv n (fun a => en_fr (pc + 1) lv (.ref a :: st) c x u)
  | .istore n => en_p1 st (fun a r => en_sto (pc + 2) lv n (.int a) r c x u)
  | .istore_n n => en_p1 st (fun a r => en_sto (pc + 1) lv n (.int a) r c x u)
  | .astore n => en_pr st (fun a r => en_sto (pc + 2) lv n (.ref a) r c x u)
  | .astore_n n => en_pr st (fun a r => en_sto (pc + 1) lv n (.ref a) r c x u)
  | .iinc n k => en_ldI lv n (fun a => en_sto (pc + 3) lv n (.int (a + Int32.ofInt k)) st c x u)
  | .iadd => en_p2 st (fun a b r => en_fr (pc + 1) lv (.int (a + b) :: r) c x u)
  | .isub => en_p2 st (fun a b r => en_fr (pc + 1) lv (.int (a - b) :: r) c x u)
  | .imul => en_p2 st (fun a b r => en_fr (pc + 1) lv (.int (a * b) :: r) c x u)
  | .iand => en_p2 st (fun a b r => en_fr (pc + 1) lv (.int (a &&& b) :: r) c x u)
  | .idiv => en_p2 st (fun a b r => en_if (¬ b = 0) (en_fr (pc + 1) lv (.int (a / b) :: r) c x u) none)
  | .irem => en_p2 st (fun a b r => en_if (¬ b = 0) (en_fr (pc + 1) lv (.int (a - a / b * b) :: r) c x u) none)
  | .land => en_l2 st (fun a b r => en_fr (pc + 1) lv (.long (a &&& b) :: r) c x u)
  | .lor => en_l2 st (fun a b r => en_fr (pc + 1) lv (.long (a ||| b) :: r) c x u)
  | .lcmp => en_l2 st (fun a b r => en_fr (pc + 1) lv (.int (lg_cmp a b) :: r) c x u)
  | .lshl => en_li st (fun a b r => en_fr (pc + 1) lv (.long (a <<< (b.toInt64 &&& 63)) :: r) c x u)
  | .lshr => en_li st (fun a b r => en_fr (pc + 1) lv (.long (a >>> (b.toInt64 &&& 63)) :: r) c x u)
  | .lushr => en_li st (fun a b r => en_fr (pc + 1) lv (.long (a.toUInt64 >>> (b.toInt64.toUInt64 &&& Int64.toUInt64 63)).toInt64 :: r) c x u)
  | .dup => (match st with
    | v :: r => en_if (v.category = 1) (en_fr (pc + 1) lv (v :: v :: r) c x u) none
    | _ => none)
  | .dup2 => (match st with
    | v :: w :: r => en_if (v.category = 1 ∧ w.category = 1) (en_fr (pc + 1) lv (v :: w :: v :: w :: r) c x u) none
    | _ => none)
  | .pop => (match st with
    | v :: r => en_if (v.category = 1) (en_fr (pc + 1) lv r c x u) none
    | _ => none)
  | .ifCond cd off => en_p1 st (fun a r => en_if (0 ≤ (pc : Int) + off) (en_if (en_i1 cd a) (en_fr ((pc : Int) + off).toNat lv r c x u) (en_fr (pc + 3) lv r c x u)) none)
  | .if_icmp cd off => en_p2 st (fun a b r => en_if (0 ≤ (pc : Int) + off) (en_if (en_i2 cd a b) (en_fr ((pc : Int) + off).toNat lv r c x u) (en_fr (pc + 3) lv r c x u)) none)
  | .goto off => en_tg pc off lv st c x u
  | .tableswitch d lo hi offs => en_p1 st (fun a r => en_if (a.toInt < lo ∨ hi < a.toInt) (en_tg pc d lv r c x u) (en_op (offs[(a.toInt - lo).toNat]?) (fun off => en_tg pc off lv r c x u)))
  | .lookupswitch d ps => en_p1 st (fun a r => en_if ((ps.toList.zip (ps.toList.drop 1)).all (fun (a, next) => a.1 < next.1) = true) (en_tg pc (Op.lookupswitch.offset ps.toList d a.toInt) lv r c x u) none)
  | .iaload => en_ir st (fun a i r => en_arI (c a) (fun t n f => en_if (t = 0 ∧ en_rd y a x ∧ vp_in i n) (en_fr (pc + 1) lv (.int (f i.toNatClampNeg) :: r) c x u) none))
  | .baload => en_ir st (fun a i r => en_arI (c a) (fun t n f => en_if (t = 2 ∧ a < x ∧ vp_in i n) (en_fr (pc + 1) lv (.int (f i.toNatClampNeg) :: r) c x u) none))
  | .laload => en_ir st (fun a i r => en_arL (c a) (fun t n f => en_if (t = 1 ∧ a < x ∧ vp_in i n) (en_fr (pc + 1) lv (.long (f i.toNatClampNeg) :: r) c x u) none))
  | .iastore => en_iir st (fun a i v r => en_arI (c a) (fun t n f => en_if (t = 0 ∧ a < x ∧ vp_in i n) (en_fr (pc + 1) lv r (en_up c a (.inl (0, n, .inl (upd f i.toNatClampNeg v)))) x u) none))
  | .bastore => en_iir st (fun a i v r => en_arI (c a) (fun t n f => en_if (t = 2 ∧ a < x ∧ vp_in i n) (en_fr (pc + 1) lv r (en_up c a (.inl (2, n, .inl (upd f i.toNatClampNeg (vp_nar .boolean v))))) x u) none))
  | .lastore => en_lir st (fun a i v r => en_arL (c a) (fun t n f => en_if (t = 1 ∧ a < x ∧ vp_in i n) (en_fr (pc + 1) lv r (en_up c a (.inl (1, n, .inr (.inl (vp_updL f i.toNatClampNeg v))))) x u) none))
  | .arraylength => en_pr st (fun a r => en_arN (c a) (fun t n => en_if (t < 3 ∧ en_rd y a x ∧ (a = en_S → t = 0)) (en_fr (pc + 1) lv (.int (Int32.ofNat n) :: r) c x u) none))
  | .getfield n => en_op (tb_fld (mt_cls y) n) (fun q => en_pr st (fun a r => en_ob (c a) (fun ci fs => en_op (fs[q.2.1]?) (fun v => en_if (a < x ∧ ci = q.1) (en_fr (pc + 3) lv (v :: r) c x u) none))))
  | .putfield n => en_op (tb_fld (mt_cls y) n) (fun q => en_vr st (fun a v r => en_ob (c a) (fun ci fs =>
      en_if (a < x ∧ ci = q.1 ∧ q.2.1 < fs.length ∧ en_fk q.2.2.1 v ∧ (q.2.2.2 = true → mt_init y = true)) (en_fr (pc + 3) lv r (en_up c a (.inr (ci, fs.set q.2.1 v))) x u) none)))
  | .new n => en_op (tb_new (mt_cls y) n) (fun q => en_fr (pc + 3) lv (.ref x :: st) (en_up c x (.inr (q.1, q.2))) (x + 1) (u + q.2.length))
  | .newarray ty => en_op (en_at ty) (fun t => en_p1 st (fun n r => en_new pc t lv n r c x u))
  | .invokevirtual n => en_op (tb_mth (mt_cls y) n) (fun q => en_if (q.1 = 0) (en_inv pc lv st c x q) none)
  | .invokestatic n => en_op (tb_mth (mt_cls y) n) (fun q => en_ins pc lv st c x u q)
  | .invokespecial n => en_op (tb_mth (mt_cls y) n) (fun q => en_inp pc lv st c x u q)
  | .ireturn => en_ret y st c x u
  | .areturn => en_reta y st c x u
  | .return_ => en_retv y st c x u
  | _ => none
def en_len (i : Jvm.ClassFile.Instr) : Nat := match i with
  | .bipush _ => 2
  | .ldc _ => 2
  | .iload _ => 2
  | .istore _ => 2
  | .aload _ => 2
  | .astore _ => 2
  | .newarray _ => 2
  | .sipush _ => 3
  | .iinc _ _ => 3
  | .ifCond _ _ => 3
  | .if_icmp _ _ => 3
  | .goto _ => 3
  | .getfield _ => 3
  | .putfield _ => 3
  | .new _ => 3
  | .invokevirtual _ => 3
  | .invokestatic _ => 3
  | .invokespecial _ => 3
  | .tableswitch _ _ _ _ => 0
  | .lookupswitch _ _ => 0
  | _ => 1
/-- what a stretch leaves: counters grow, numbers not yet given keep their cells -/
def en_ok (c : en_H) (x u : Nat) (c' : en_H) (x' u' : Nat) : Prop := x ≤ x' ∧ u ≤ u' ∧ ∀ a, x' ≤ a → c' a = c a
theorem en_ok_rf {c : en_H} {x u : Nat} : en_ok c x u c x u := ⟨Nat.le_refl _, Nat.le_refl _, fun _ _ => rfl⟩
theorem en_ok_tr {c c' c2 : en_H} {x u x' u' x2 u2 : Nat} (h : en_ok c x u c' x' u') (k : en_ok c' x' u' c2 x2 u2) : en_ok c x u c2 x2 u2 := ⟨Nat.le_trans h.1 k.1, Nat.le_trans h.2.1 k.2.1, fun a ha => (k.2.2 a ha).trans (h.2.2 a (Nat.le_trans k.1 ha))⟩
theorem en_ok_up {c : en_H} {x u a : Nat} {e : en_C} (h : a < x) : en_ok c x u (en_up c a e) x u := ⟨Nat.le_refl _, Nat.le_refl _, fun b hb => en_up_n (by omega)⟩
theorem en_ok_new {c : en_H} {x u k : Nat} {e : en_C} : en_ok c x u (en_up c x e) (x + 1) (u + k) := ⟨Nat.le_succ _, Nat.le_add_right _ _, fun b hb => en_up_n (by omega)⟩
def en_nx (rel : en_R) (go : en_F → Prop) (K : en_K) (c : en_H) (x u : Nat) (o : en_O) : Prop := match o with
  | some (.inl f) => en_ok c x u f.2.2.2.1 f.2.2.2.2.1 f.2.2.2.2.2 ∧ go f
  | some (.inr (.inl r)) => en_ok c x u r.2.1 r.2.2.1 r.2.2.2 ∧ K r.1 r.2.1 r.2.2.1 r.2.2.2
  | some (.inr (.inr q)) => ∃ v c' x' u', rel q.1 q.2.1 c x u v c' x' u' ∧ en_ok c x u c' x' u' ∧ go (q.2.2.1, q.2.2.2.1, v.toList ++ q.2.2.2.2, c', x', u')
  | none => False
def en_wp (rel : en_R) (y : Nat) (K : en_K) : Nat → en_F → Prop
  | 0, _ => False
  | n + 1, f => ∃ i len, decode (mt_code y) f.1 = .ok (i, len) ∧ (len = en_len i ∨ en_len i = 0) ∧ en_nx rel (en_wp rel y K n) K f.2.2.2.1 f.2.2.2.2.1 f.2.2.2.2.2 (en_step y i f.1 f.2.1 f.2.2.1 f.2.2.2.1 f.2.2.2.2.1 f.2.2.2.2.2)
/-- from here the method returns, with K -/
def en_W (rel : en_R) (y : Nat) (pc : Nat) (lv : en_L) (st : List Value) (c : en_H) (x u : Nat) (K : en_K) : Prop := ∃ n, en_wp rel y K n (pc, lv, st, c, x, u)
def en_q (v : Option Value) (c : en_H) (x u : Nat) : en_K := fun v' c' x' u' => v' = v ∧ c' = c ∧ x' = x ∧ u' = u
def en_lv0 (y : Nat) (As : List Value) : en_L := As.map some ++ List.replicate (mt_nl y - As.length) none
/-- a call of method y at depth d -/
def en_call : Nat → en_R
  | 0 => fun _ _ _ _ _ _ _ _ _ => False
  | d + 1 => fun y As c x u v c' x' u' => y ≠ mt_law ∧ As.length ≤ mt_nl y ∧ (∀ a ∈ As, a.category = 1) ∧ en_W (en_call d) y 0 (en_lv0 y As) [] c x u (en_q v c' x' u')
theorem en_nx_mono {rel rel' : en_R} {go go' : en_F → Prop} {K K' : en_K} {c : en_H} {x u : Nat} {o : en_O} (hr : ∀ y As c x u v c' x' u', rel y As c x u v c' x' u' → rel' y As c x u v c' x' u') (hg : ∀ f, go f → go' f) (hK : ∀ v c' x' u', K v c' x' u' → K' v c' x' u') (h : en_nx rel go K c x u o) : en_nx rel' go' K' c x u o := by
  match o, h with
  | some (.inl f), h => exact ⟨h.1, hg f h.2⟩
  | some (.inr (.inl r)), h => exact ⟨h.1, hK _ _ _ _ h.2⟩
  | some (.inr (.inr q)), h =>
    obtain ⟨v, c', x', u', h1, h2, h4⟩ := h
    exact ⟨v, c', x', u', hr _ _ _ _ _ _ _ _ _ h1, h2, hg _ h4⟩
theorem en_wp_mono {rel rel' : en_R} {y : Nat} {K K' : en_K} (hr : ∀ y As c x u v c' x' u', rel y As c x u v c' x' u' → rel' y As c x u v c' x' u') (hK : ∀ v c' x' u', K v c' x' u' → K' v c' x' u') : ∀ (n : Nat) (f : en_F), en_wp rel y K n f → en_wp rel' y K' n f := by
  intro n
  induction n with
  | zero => intro f h; exact h
  | succ n ih =>
    intro f h
    obtain ⟨i, len, h1, h2, h3⟩ := h
    exact ⟨i, len, h1, h2, en_nx_mono hr ih hK h3⟩
theorem en_W_mono {rel rel' : en_R} {y pc : Nat} {lv : en_L} {st : List Value} {c : en_H} {x u : Nat} {K K' : en_K} (hr : ∀ y As c x u v c' x' u', rel y As c x u v c' x' u' → rel' y As c x u v c' x' u') (hK : ∀ v c' x' u', K v c' x' u' → K' v c' x' u') (h : en_W rel y pc lv st c x u K) : en_W rel' y pc lv st c x u K' := by
  obtain ⟨n, h⟩ := h
  exact ⟨n, en_wp_mono hr hK n _ h⟩
theorem en_call_succ : ∀ (d : Nat) (y : Nat) (As : List Value) (c : en_H) (x u : Nat) (v : Option Value) (c' : en_H) (x' u' : Nat), en_call d y As c x u v c' x' u' → en_call (d + 1) y As c x u v c' x' u' := by
  intro d
  induction d with
  | zero => intro y As c x u v c' x' u' h; exact h.elim
  | succ d ih =>
    intro y As c x u v c' x' u' h
    exact ⟨h.1, h.2.1, h.2.2.1, en_W_mono ih (fun _ _ _ _ h => h) h.2.2.2⟩
theorem en_call_le {d d' : Nat} (hd : d ≤ d') {y : Nat} {As : List Value} {c : en_H} {x u : Nat} {v : Option Value} {c' : en_H} {x' u' : Nat} (h : en_call d y As c x u v c' x' u') : en_call d' y As c x u v c' x' u' := by
  induction hd with
  | refl => exact h
  | step _ ih => exact en_call_succ _ _ _ _ _ _ _ _ _ _ ih
/-- one path: what holds at the end is what the machine comes to -/
theorem en_wp_path {rel : en_R} {y : Nat} {K : en_K} : ∀ (n : Nat) (f : en_F), en_wp rel y K n f → ∃ v c' x' u', K v c' x' u' ∧ en_ok f.2.2.2.1 f.2.2.2.2.1 f.2.2.2.2.2 c' x' u' ∧ en_wp rel y (en_q v c' x' u') n f := by
  intro n
  induction n with
  | zero => intro f h; exact h.elim
  | succ n ih =>
    intro f h
    obtain ⟨i, len, h1, h2, h3⟩ := h
    generalize ho : en_step y i f.1 f.2.1 f.2.2.1 f.2.2.2.1 f.2.2.2.2.1 f.2.2.2.2.2 = o at h3
    match o, h3 with
    | some (.inl g), h3 =>
      obtain ⟨v, c', x', u', k1, k2, k4⟩ := ih g h3.2
      exact ⟨v, c', x', u', k1, en_ok_tr h3.1 k2, i, len, h1, h2, by rw [ho]; exact ⟨h3.1, k4⟩⟩
    | some (.inr (.inl r)), h3 =>
      exact ⟨r.1, r.2.1, r.2.2.1, r.2.2.2, h3.2, h3.1, i, len, h1, h2, by rw [ho]; exact ⟨h3.1, rfl, rfl, rfl, rfl⟩⟩
    | some (.inr (.inr q)), h3 =>
      obtain ⟨v, c', x', u', g1, g2, g4⟩ := h3
      obtain ⟨v2, c2, x2, u2, k1, k2, k4⟩ := ih _ g4
      exact ⟨v2, c2, x2, u2, k1, en_ok_tr g2 k2, i, len, h1, h2, by rw [ho]; exact ⟨v, c', x', u', g1, g2, k4⟩⟩
theorem en_call_of {d y : Nat} {As : List Value} {c : en_H} {x u : Nat} {K : en_K} (hy : y ≠ mt_law) (h1 : As.length ≤ mt_nl y) (h2 : ∀ a ∈ As, a.category = 1) (h : en_W (en_call d) y 0 (en_lv0 y As) [] c x u K) : ∃ v c' x' u', en_call (d + 1) y As c x u v c' x' u' ∧ K v c' x' u' ∧ en_ok c x u c' x' u' := by
  obtain ⟨n, h⟩ := h
  obtain ⟨v, c', x', u', k1, k2, k4⟩ := en_wp_path n _ h
  exact ⟨v, c', x', u', ⟨hy, h1, h2, n, k4⟩, k1, k2⟩
theorem en_call_is {d y : Nat} {As : List Value} {c : en_H} {x u : Nat} {v : Option Value} {c' : en_H} {x' u' : Nat} (hy : y ≠ mt_law) (h1 : As.length ≤ mt_nl y) (h2 : ∀ a ∈ As, a.category = 1) (h : en_W (en_call d) y 0 (en_lv0 y As) [] c x u (en_q v c' x' u')) : en_call (d + 1) y As c x u v c' x' u' := ⟨hy, h1, h2, h⟩
theorem en_call_up {d y : Nat} {As : List Value} {c : en_H} {x u : Nat} {v : Option Value} {c' : en_H} {x' u' : Nat} (h : en_call d y As c x u v c' x' u') : en_ok c x u c' x' u' := by
  cases d with
  | zero => exact h.elim
  | succ d =>
    obtain ⟨-, -, -, n, h⟩ := h
    obtain ⟨v2, c2, x2, u2, ⟨-, rfl, rfl, rfl⟩, k2, -⟩ := en_wp_path n _ h
    exact k2
/-- a call, with what comes behind it -/
def en_cl (rel : en_R) (y : Nat) (As : List Value) (c : en_H) (x u : Nat) (k : en_K) : Prop := ∃ v c' x' u', rel y As c x u v c' x' u' ∧ en_ok c x u c' x' u' ∧ k v c' x' u'
theorem en_use {d d' y : Nat} {As : List Value} {c : en_H} {x u : Nat} {v : Option Value} {c' : en_H} {x' u' : Nat} {k : en_K} (hd : d ≤ d') (h : en_call d y As c x u v c' x' u') (hk : k v c' x' u') : en_cl (en_call d') y As c x u k := ⟨v, c', x', u', en_call_le hd h, en_call_up h, hk⟩
theorem en_wp_at {rel : en_R} {y : Nat} {K : en_K} {n pc : Nat} {lv : en_L} {st : List Value} {c : en_H} {x u : Nat} {i : Jvm.ClassFile.Instr} {len : Nat} (h : decode (mt_code y) pc = .ok (i, len)) (w : en_wp rel y K n (pc, lv, st, c, x, u)) : ∃ k, n = k + 1 ∧ en_nx rel (en_wp rel y K k) K c x u (en_step y i pc lv st c x u) := by
  cases n with
  | zero => exact w.elim
  | succ k =>
    obtain ⟨i2, len2, h1, h2, h3⟩ := w
    have e := h.symm.trans h1
    cases e
    exact ⟨k, rfl, h3⟩
theorem en_eq {rel : en_R} {y pc : Nat} {lv : en_L} {st : List Value} {c : en_H} {x u : Nat} {K : en_K} {i : Jvm.ClassFile.Instr} {len : Nat} (h : decode (mt_code y) pc = .ok (i, len)) (hl : len = en_len i ∨ en_len i = 0) :
    en_W rel y pc lv st c x u K = en_nx rel (fun f => en_W rel y f.1 f.2.1 f.2.2.1 f.2.2.2.1 f.2.2.2.2.1 f.2.2.2.2.2 K) K c x u (en_step y i pc lv st c x u) := by
  refine propext ⟨fun w => ?_, fun w => ?_⟩
  · obtain ⟨n, w⟩ := w
    obtain ⟨k, -, w⟩ := en_wp_at h w
    exact en_nx_mono (fun _ _ _ _ _ _ _ _ _ h => h) (fun f hf => ⟨k, hf⟩) (fun _ _ _ _ h => h) w
  · generalize ho : en_step y i pc lv st c x u = o at w
    match o, w with
    | some (.inl f), w =>
      obtain ⟨w1, n, w2⟩ := w
      exact ⟨n + 1, i, len, h, hl, by show en_nx rel _ K c x u (en_step y i pc lv st c x u); rw [ho]; exact ⟨w1, w2⟩⟩
    | some (.inr (.inl r)), w => exact ⟨1, i, len, h, hl, by show en_nx rel _ K c x u (en_step y i pc lv st c x u); rw [ho]; exact w⟩
    | some (.inr (.inr q)), w =>
      obtain ⟨v, c', x', u', g1, g2, n, g4⟩ := w
      exact ⟨n + 1, i, len, h, hl, by show en_nx rel _ K c x u (en_step y i pc lv st c x u); rw [ho]; exact ⟨v, c', x', u', g1, g2, g4⟩⟩
theorem en_go {rel : en_R} {y pc : Nat} {lv : en_L} {st : List Value} {c : en_H} {x u : Nat} {K : en_K} {i : Jvm.ClassFile.Instr} {len pc' : Nat} {lv' : en_L} {st' : List Value} {c' : en_H} {x' u' : Nat} (h : decode (mt_code y) pc = .ok (i, len)) (hl : len = en_len i ∨ en_len i = 0) (hs : en_step y i pc lv st c x u = some (.inl (pc', lv', st', c', x', u'))) (ho : en_ok c x u c' x' u') :
    en_W rel y pc lv st c x u K = en_W rel y pc' lv' st' c' x' u' K := by
  rw [en_eq h hl, hs]
  exact propext ⟨fun w => w.2, fun w => ⟨ho, w⟩⟩
theorem en_rt {rel : en_R} {y pc : Nat} {lv : en_L} {st : List Value} {c : en_H} {x u : Nat} {K : en_K} {i : Jvm.ClassFile.Instr} {len : Nat} {v : Option Value} (h : decode (mt_code y) pc = .ok (i, len)) (hl : len = en_len i ∨ en_len i = 0) (hs : en_step y i pc lv st c x u = some (.inr (.inl (v, c, x, u)))) :
    en_W rel y pc lv st c x u K = K v c x u := by
  rw [en_eq h hl, hs]
  exact propext ⟨fun w => w.2, fun w => ⟨en_ok_rf, w⟩⟩
