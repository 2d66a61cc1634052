/-! THE ENGINE: the abstract machine is sound. -/
theorem en_p1_inv {st : List Value} {k : Int32 → List Value → en_O} {n : en_N} (h : en_p1 st k = some n) : ∃ a r, st = .int a :: r ∧ k a r = some n := by
  unfold en_p1 at h
  split at h
  · exact ⟨_, _, rfl, h⟩
  · cases h
theorem en_p2_inv {st : List Value} {k : Int32 → Int32 → List Value → en_O} {n : en_N} (h : en_p2 st k = some n) : ∃ a b r, st = .int b :: .int a :: r ∧ k a b r = some n := by
  unfold en_p2 at h
  split at h
  · exact ⟨_, _, _, rfl, h⟩
  · cases h
theorem en_l2_inv {st : List Value} {k : Int64 → Int64 → List Value → en_O} {n : en_N} (h : en_l2 st k = some n) : ∃ a b r, st = .long b :: .long a :: r ∧ k a b r = some n := by
  unfold en_l2 at h
  split at h
  · exact ⟨_, _, _, rfl, h⟩
  · cases h
theorem en_li_inv {st : List Value} {k : Int64 → Int32 → List Value → en_O} {n : en_N} (h : en_li st k = some n) : ∃ a b r, st = .int b :: .long a :: r ∧ k a b r = some n := by
  unfold en_li at h
  split at h
  · exact ⟨_, _, _, rfl, h⟩
  · cases h
theorem en_pr_inv {st : List Value} {k : Nat → List Value → en_O} {n : en_N} (h : en_pr st k = some n) : ∃ a r, st = .ref a :: r ∧ k a r = some n := by
  unfold en_pr at h
  split at h
  · exact ⟨_, _, rfl, h⟩
  · cases h
theorem en_ir_inv {st : List Value} {k : Nat → Int32 → List Value → en_O} {n : en_N} (h : en_ir st k = some n) : ∃ a i r, st = .int i :: .ref a :: r ∧ k a i r = some n := by
  unfold en_ir at h
  split at h
  · exact ⟨_, _, _, rfl, h⟩
  · cases h
theorem en_iir_inv {st : List Value} {k : Nat → Int32 → Int32 → List Value → en_O} {n : en_N} (h : en_iir st k = some n) : ∃ a i v r, st = .int v :: .int i :: .ref a :: r ∧ k a i v r = some n := by
  unfold en_iir at h
  split at h
  · exact ⟨_, _, _, _, rfl, h⟩
  · cases h
theorem en_lir_inv {st : List Value} {k : Nat → Int32 → Int64 → List Value → en_O} {n : en_N} (h : en_lir st k = some n) : ∃ a i v r, st = .long v :: .int i :: .ref a :: r ∧ k a i v r = some n := by
  unfold en_lir at h
  split at h
  · exact ⟨_, _, _, _, rfl, h⟩
  · cases h
theorem en_cp_inv {st : List Value} {k : Nat → Int32 → Nat → Int32 → Int32 → List Value → en_O} {n : en_N} (h : en_cp st k = some n) : ∃ a0 sp a1 dp n' r, st = .int n' :: .int dp :: .ref a1 :: .int sp :: .ref a0 :: r ∧ k a0 sp a1 dp n' r = some n := by
  unfold en_cp at h
  split at h
  · exact ⟨_, _, _, _, _, _, rfl, h⟩
  · cases h
theorem en_vr_inv {st : List Value} {k : Nat → Value → List Value → en_O} {n : en_N} (h : en_vr st k = some n) : ∃ a v r, st = v :: .ref a :: r ∧ k a v r = some n := by
  unfold en_vr at h
  split at h
  · exact ⟨_, _, _, rfl, h⟩
  · cases h
theorem en_ldI_inv {lv : en_L} {i : Nat} {k : Int32 → en_O} {n : en_N} (h : en_ldI lv i k = some n) : ∃ a, lv[i]? = some (some (.int a)) ∧ k a = some n := by
  unfold en_ldI at h
  split at h
  · rename_i a ha; exact ⟨a, ha, h⟩
  · cases h
theorem en_ldA_inv {lv : en_L} {i : Nat} {k : Nat → en_O} {n : en_N} (h : en_ldA lv i k = some n) : ∃ a, lv[i]? = some (some (.ref a)) ∧ k a = some n := by
  unfold en_ldA at h
  split at h
  · rename_i a ha; exact ⟨a, ha, h⟩
  · cases h
theorem en_arI_inv {e : en_C} {k : Nat → Nat → (Nat → Int32) → en_O} {n : en_N} (h : en_arI e k = some n) : ∃ t m f, e = .inl (t, m, .inl f) ∧ k t m f = some n := by
  unfold en_arI at h
  split at h
  · exact ⟨_, _, _, rfl, h⟩
  · cases h
theorem en_arL_inv {e : en_C} {k : Nat → Nat → (Nat → Int64) → en_O} {n : en_N} (h : en_arL e k = some n) : ∃ t m f, e = .inl (t, m, .inr (.inl f)) ∧ k t m f = some n := by
  unfold en_arL at h
  split at h
  · exact ⟨_, _, _, rfl, h⟩
  · cases h
theorem en_arN_inv {e : en_C} {k : Nat → Nat → en_O} {n : en_N} (h : en_arN e k = some n) : ∃ t m f, e = .inl (t, m, f) ∧ k t m = some n := by
  unfold en_arN at h
  split at h
  · exact ⟨_, _, _, rfl, h⟩
  · cases h
theorem en_ob_inv {e : en_C} {k : Nat → List Value → en_O} {n : en_N} (h : en_ob e k = some n) : ∃ ci fs, e = .inr (ci, fs) ∧ k ci fs = some n := by
  unfold en_ob at h
  split at h
  · exact ⟨_, _, rfl, h⟩
  · cases h
theorem en_op_inv {α : Type} {o : Option α} {k : α → en_O} {n : en_N} (h : en_op o k = some n) : ∃ a, o = some a ∧ k a = some n := by
  unfold en_op at h
  split at h
  · exact ⟨_, rfl, h⟩
  · cases h
theorem en_abs {P : Prop} {n : en_N} (h : (none : en_O) = some n) : P := by cases h
theorem en_if_inv {p : Prop} {a : en_O} {n : en_N} (h : en_if p a none = some n) : p ∧ a = some n := by
  by_cases hp : p
  · rw [en_if_t hp] at h; exact ⟨hp, h⟩
  · rw [en_if_f hp] at h; cases h
theorem en_fr_inv {pc : Nat} {lv : en_L} {st : List Value} {c : en_H} {x u : Nat} {g : en_F} (h : en_fr pc lv st c x u = some (.inl g)) : g = (pc, lv, st, c, x, u) := (Sum.inl.inj (Option.some.inj h)).symm
theorem en_fr_no {pc : Nat} {lv : en_L} {st : List Value} {c : en_H} {x u : Nat} {r : (Option Value × en_H × Nat × Nat) ⊕ (Nat × List Value × Nat × en_L × List Value)} (h : en_fr pc lv st c x u = some (.inr r)) : False := by cases (Option.some.inj h)
theorem en_tg_inv {pc : Nat} {off : Int} {lv : en_L} {st : List Value} {c : en_H} {x u : Nat} {g : en_F} (h : en_tg pc off lv st c x u = some (.inl g)) : 0 ≤ (pc : Int) + off ∧ g = (((pc : Int) + off).toNat, lv, st, c, x, u) := by
  obtain ⟨h1, h2⟩ := en_if_inv h
  exact ⟨h1, en_fr_inv h2⟩
theorem en_sto_inv {pc i : Nat} {v : Value} {lv : en_L} {st : List Value} {c : en_H} {x u : Nat} {g : en_F} (h : en_sto pc lv i v st c x u = some (.inl g)) : i < lv.length ∧ g = (pc, lv.set i (some v), st, c, x, u) := by
  obtain ⟨h1, h2⟩ := en_if_inv h
  exact ⟨h1, en_fr_inv h2⟩
theorem en_hd {y pc : Nat} {i : Jvm.ClassFile.Instr} {len : Nat} (h : decode (mt_code y) pc = .ok (i, len)) (hl : len = en_len i ∨ en_len i = 0) (h0 : en_len i ≠ 0) : decode (mt_code y) pc = .ok (i, en_len i) := by
  rcases hl with rfl | hl
  · exact h
  · exact absurd hl h0
def en_pn (o : en_O) : Prop := ∀ r, o ≠ some (.inr r)
theorem en_pn_0 : en_pn none := fun r h => by cases h
theorem en_pn_fr {pc : Nat} {lv : en_L} {st : List Value} {c : en_H} {x u : Nat} : en_pn (en_fr pc lv st c x u) := fun r h => en_fr_no h
theorem en_pn_if {p : Prop} {a b : en_O} (ha : en_pn a) (hb : en_pn b) : en_pn (en_if p a b) := by
  by_cases hp : p
  · rw [en_if_t hp]; exact ha
  · rw [en_if_f hp]; exact hb
theorem en_pn_tg {pc : Nat} {off : Int} {lv : en_L} {st : List Value} {c : en_H} {x u : Nat} : en_pn (en_tg pc off lv st c x u) := en_pn_if en_pn_fr en_pn_0
theorem en_pn_sto {pc i : Nat} {v : Value} {lv : en_L} {st : List Value} {c : en_H} {x u : Nat} : en_pn (en_sto pc lv i v st c x u) := en_pn_if en_pn_fr en_pn_0
theorem en_pn_p1 {st : List Value} {k : Int32 → List Value → en_O} (h : ∀ a b, en_pn (k a b)) : en_pn (en_p1 st k) := by
  unfold en_p1
  split
  · exact h _ _
  · exact en_pn_0
theorem en_pn_p2 {st : List Value} {k : Int32 → Int32 → List Value → en_O} (h : ∀ a b c, en_pn (k a b c)) : en_pn (en_p2 st k) := by
  unfold en_p2
  split
  · exact h _ _ _
  · exact en_pn_0
theorem en_pn_l2 {st : List Value} {k : Int64 → Int64 → List Value → en_O} (h : ∀ a b c, en_pn (k a b c)) : en_pn (en_l2 st k) := by
  unfold en_l2
  split
  · exact h _ _ _
  · exact en_pn_0
theorem en_pn_li {st : List Value} {k : Int64 → Int32 → List Value → en_O} (h : ∀ a b c, en_pn (k a b c)) : en_pn (en_li st k) := by
  unfold en_li
  split
  · exact h _ _ _
  · exact en_pn_0
theorem en_pn_pr {st : List Value} {k : Nat → List Value → en_O} (h : ∀ a b, en_pn (k a b)) : en_pn (en_pr st k) := by
  unfold en_pr
  split
  · exact h _ _
  · exact en_pn_0
theorem en_pn_ir {st : List Value} {k : Nat → Int32 → List Value → en_O} (h : ∀ a b c, en_pn (k a b c)) : en_pn (en_ir st k) := by
  unfold en_ir
  split
  · exact h _ _ _
  · exact en_pn_0
theorem en_pn_iir {st : List Value} {k : Nat → Int32 → Int32 → List Value → en_O} (h : ∀ a b c d, en_pn (k a b c d)) : en_pn (en_iir st k) := by
  unfold en_iir
  split
  · exact h _ _ _ _
  · exact en_pn_0
theorem en_pn_lir {st : List Value} {k : Nat → Int32 → Int64 → List Value → en_O} (h : ∀ a b c d, en_pn (k a b c d)) : en_pn (en_lir st k) := by
  unfold en_lir
  split
  · exact h _ _ _ _
  · exact en_pn_0
theorem en_pn_vr {st : List Value} {k : Nat → Value → List Value → en_O} (h : ∀ a b c, en_pn (k a b c)) : en_pn (en_vr st k) := by
  unfold en_vr
  split
  · exact h _ _ _
  · exact en_pn_0
theorem en_pn_ldI {lv : en_L} {i : Nat} {k : Int32 → en_O} (h : ∀ a, en_pn (k a)) : en_pn (en_ldI lv i k) := by
  unfold en_ldI
  split
  · exact h _
  · exact en_pn_0
theorem en_pn_ldA {lv : en_L} {i : Nat} {k : Nat → en_O} (h : ∀ a, en_pn (k a)) : en_pn (en_ldA lv i k) := by
  unfold en_ldA
  split
  · exact h _
  · exact en_pn_0
theorem en_pn_arI {e : en_C} {k : Nat → Nat → (Nat → Int32) → en_O} (h : ∀ a b c, en_pn (k a b c)) : en_pn (en_arI e k) := by
  unfold en_arI
  split
  · exact h _ _ _
  · exact en_pn_0
theorem en_pn_arL {e : en_C} {k : Nat → Nat → (Nat → Int64) → en_O} (h : ∀ a b c, en_pn (k a b c)) : en_pn (en_arL e k) := by
  unfold en_arL
  split
  · exact h _ _ _
  · exact en_pn_0
theorem en_pn_arN {e : en_C} {k : Nat → Nat → en_O} (h : ∀ a b, en_pn (k a b)) : en_pn (en_arN e k) := by
  unfold en_arN
  split
  · exact h _ _
  · exact en_pn_0
theorem en_pn_ob {e : en_C} {k : Nat → List Value → en_O} (h : ∀ a b, en_pn (k a b)) : en_pn (en_ob e k) := by
  unfold en_ob
  split
  · exact h _ _
  · exact en_pn_0
theorem en_pn_op {α : Type} {o : Option α} {k : α → en_O} (h : ∀ a, en_pn (k a)) : en_pn (en_op o k) := by
  unfold en_op
  split
  · exact h _
  · exact en_pn_0
/-- all that the tables must be -/
def en_Tok : Prop := (∀ o n q, tb_fld o n = some q → en_okF o n q) ∧ (∀ o n q, tb_new o n = some q → en_okN o n q) ∧ (∀ o n q, tb_mth o n = some q → en_okM o n q) ∧ (∀ o n v, tb_ldc o n = some v → Cond.constant (mt_cn o) n v ∈ en_T0) ∧ (∀ ty t, en_at ty = some t → Cond.arrayClass (newarray.typeOf ty) ∈ en_T0)
theorem en_pn_st1 {pc : Nat} {lv : en_L} {st : List Value} {c : en_H} {x u : Nat} : en_pn (match st with
    | v :: r => en_if (v.category = 1) (en_fr (pc + 1) lv (v :: v :: r) c x u) none
    | _ => none) := by
  split
  · exact en_pn_if en_pn_fr en_pn_0
  · exact en_pn_0
theorem en_pn_st2 {pc : Nat} {lv : en_L} {st : List Value} {c : en_H} {x u : Nat} : en_pn (match st with
    | v :: w :: r => en_if (v.category = 1 ∧ w.category = 1) (en_fr (pc + 1) lv (v :: w :: v :: w :: r) c x u) none
    | _ => none) := by
  split
  · exact en_pn_if en_pn_fr en_pn_0
  · exact en_pn_0
theorem en_pn_st3 {pc : Nat} {lv : en_L} {st : List Value} {c : en_H} {x u : Nat} : en_pn (match st with
    | v :: r => en_if (v.category = 1) (en_fr (pc + 1) lv r c x u) none
    | _ => none) := by
  split
  · exact en_pn_if en_pn_fr en_pn_0
  · exact en_pn_0
theorem en_ret_nc {y : Nat} {st : List Value} {c : en_H} {x u : Nat} {q : Nat × List Value × Nat × en_L × List Value} (h : en_ret y st c x u = some (.inr (.inr q))) : False := by
  unfold en_ret at h
  split at h
  · obtain ⟨-, h⟩ := en_if_inv h
    cases (Sum.inr.inj (Option.some.inj h))
  · cases h
theorem en_reta_nc {y : Nat} {st : List Value} {c : en_H} {x u : Nat} {q : Nat × List Value × Nat × en_L × List Value} (h : en_reta y st c x u = some (.inr (.inr q))) : False := by
  unfold en_reta at h
  split at h
  · obtain ⟨-, h⟩ := en_if_inv h
    cases (Sum.inr.inj (Option.some.inj h))
  · cases h
theorem en_retv_nc {y : Nat} {st : List Value} {c : en_H} {x u : Nat} {q : Nat × List Value × Nat × en_L × List Value} (h : en_retv y st c x u = some (.inr (.inr q))) : False := by
  unfold en_retv at h
  split at h
  · obtain ⟨-, h⟩ := en_if_inv h
    cases (Sum.inr.inj (Option.some.inj h))
  · cases h
section ES5
variable {p : Program} {l : Launch} {e : Env} {R : Room} {s : State} {m : MethodId} {args : Array Value} {below : List Frame} {meth : Method} {cd : Code} {Q : State → Prop} {D : va_G} {tc : Nat → ClassId} {ρ : Nat → Nat} {b0 x0 u0 x1 u1 y : Nat} {sc : Nat × (Nat → Int32)}
variable {pc : Nat} {lv : en_L} {st : List Value} {c : en_H} {x u : Nat}
/-- one instruction that goes on -/
theorem en_one (X : en_X p R s m args meth cd D tc ρ b0 x0 u0 x1 u1 y) (Tok : en_Tok) (hX : y = mt_law → ∃ b, ρ en_S = b ∧ va_X b sc.1 sc.2 s s.heap ∧ b < s.heap.size ∧ ¬ b0 ≤ b) (hR : 1 ≤ R.frames ∧ 40 ≤ R.locals) {i : Jvm.ClassFile.Instr} {len : Nat} {g : en_F} (hd : decode (mt_code y) pc = .ok (i, len)) (hl : len = en_len i ∨ en_len i = 0) (ho : en_step y i pc lv st c x u = some (.inl g)) (hgx : g.2.2.2.2.1 ≤ x1) (hgu : g.2.2.2.2.2 ≤ u1) (K : en_A p l e R s m args below meth cd Q D tc ρ b0 x0 u0 x1 u1 y sc (g)) : en_A p l e R s m args below meth cd Q D tc ρ b0 x0 u0 x1 u1 y sc (pc, lv, st, c, x, u) := by
  cases i
  case iconst n =>
    have hd : decode (mt_code y) pc = .ok (.iconst n, 1) := en_hd hd hl (Nat.succ_ne_zero _)
    obtain rfl := en_fr_inv ho
    exact so_iconst X hd K
  case bipush n =>
    have hd : decode (mt_code y) pc = .ok (.bipush n, 2) := en_hd hd hl (Nat.succ_ne_zero _)
    obtain rfl := en_fr_inv ho
    exact so_bipush X hd K
  case sipush n =>
    have hd : decode (mt_code y) pc = .ok (.sipush n, 3) := en_hd hd hl (Nat.succ_ne_zero _)
    obtain rfl := en_fr_inv ho
    exact so_sipush X hd K
  case ldc n =>
    have hd : decode (mt_code y) pc = .ok (.ldc n, 2) := en_hd hd hl (Nat.succ_ne_zero _)
    obtain ⟨v, hv, ho1⟩ := en_op_inv ho
    obtain rfl := en_fr_inv ho1
    exact so_ldc X hd (Tok.2.2.2.1 _ _ _ hv) K
  case lconst n =>
    have hd : decode (mt_code y) pc = .ok (.lconst n, 1) := en_hd hd hl (Nat.succ_ne_zero _)
    obtain rfl := en_fr_inv ho
    exact so_lconst X hd K
  case iload n =>
    have hd : decode (mt_code y) pc = .ok (.iload n, 2) := en_hd hd hl (Nat.succ_ne_zero _)
    obtain ⟨a, ha, ho1⟩ := en_ldI_inv ho
    obtain rfl := en_fr_inv ho1
    exact so_iload X hd ha K
  case iload_n n =>
    have hd : decode (mt_code y) pc = .ok (.iload_n n, 1) := en_hd hd hl (Nat.succ_ne_zero _)
    obtain ⟨a, ha, ho1⟩ := en_ldI_inv ho
    obtain rfl := en_fr_inv ho1
    exact so_iload_n X hd ha K
  case istore n =>
    have hd : decode (mt_code y) pc = .ok (.istore n, 2) := en_hd hd hl (Nat.succ_ne_zero _)
    obtain ⟨a, r, rfl, ho1⟩ := en_p1_inv ho
    obtain ⟨hn, rfl⟩ := en_sto_inv ho1
    exact so_istore X hd hn K
  case istore_n n =>
    have hd : decode (mt_code y) pc = .ok (.istore_n n, 1) := en_hd hd hl (Nat.succ_ne_zero _)
    obtain ⟨a, r, rfl, ho1⟩ := en_p1_inv ho
    obtain ⟨hn, rfl⟩ := en_sto_inv ho1
    exact so_istore_n X hd hn K
  case aload n =>
    have hd : decode (mt_code y) pc = .ok (.aload n, 2) := en_hd hd hl (Nat.succ_ne_zero _)
    obtain ⟨a, ha, ho1⟩ := en_ldA_inv ho
    obtain rfl := en_fr_inv ho1
    exact so_aload X hd ha K
  case aload_n n =>
    have hd : decode (mt_code y) pc = .ok (.aload_n n, 1) := en_hd hd hl (Nat.succ_ne_zero _)
    obtain ⟨a, ha, ho1⟩ := en_ldA_inv ho
    obtain rfl := en_fr_inv ho1
    exact so_aload_n X hd ha K
  case astore n =>
    have hd : decode (mt_code y) pc = .ok (.astore n, 2) := en_hd hd hl (Nat.succ_ne_zero _)
    obtain ⟨a, r, rfl, ho1⟩ := en_pr_inv ho
    obtain ⟨hn, rfl⟩ := en_sto_inv ho1
    exact so_astore X hd hn K
  case astore_n n =>
    have hd : decode (mt_code y) pc = .ok (.astore_n n, 1) := en_hd hd hl (Nat.succ_ne_zero _)
    obtain ⟨a, r, rfl, ho1⟩ := en_pr_inv ho
    obtain ⟨hn, rfl⟩ := en_sto_inv ho1
    exact so_astore_n X hd hn K
  case iinc n k =>
    have hd : decode (mt_code y) pc = .ok (.iinc n k, 3) := en_hd hd hl (Nat.succ_ne_zero _)
    obtain ⟨a, ha, ho1⟩ := en_ldI_inv ho
    obtain ⟨hn, rfl⟩ := en_sto_inv ho1
    exact so_iinc X hd ha hn K
  case iadd =>
    have hd : decode (mt_code y) pc = .ok (.iadd, 1) := en_hd hd hl (Nat.succ_ne_zero _)
    obtain ⟨a, b, r, rfl, ho1⟩ := en_p2_inv ho
    obtain rfl := en_fr_inv ho1
    exact so_iadd X hd K
  case isub =>
    have hd : decode (mt_code y) pc = .ok (.isub, 1) := en_hd hd hl (Nat.succ_ne_zero _)
    obtain ⟨a, b, r, rfl, ho1⟩ := en_p2_inv ho
    obtain rfl := en_fr_inv ho1
    exact so_isub X hd K
  case imul =>
    have hd : decode (mt_code y) pc = .ok (.imul, 1) := en_hd hd hl (Nat.succ_ne_zero _)
    obtain ⟨a, b, r, rfl, ho1⟩ := en_p2_inv ho
    obtain rfl := en_fr_inv ho1
    exact so_imul X hd K
  case iand =>
    have hd : decode (mt_code y) pc = .ok (.iand, 1) := en_hd hd hl (Nat.succ_ne_zero _)
    obtain ⟨a, b, r, rfl, ho1⟩ := en_p2_inv ho
    obtain rfl := en_fr_inv ho1
    exact so_iand X hd K
  case idiv =>
    have hd : decode (mt_code y) pc = .ok (.idiv, 1) := en_hd hd hl (Nat.succ_ne_zero _)
    obtain ⟨a, b, r, rfl, ho1⟩ := en_p2_inv ho
    obtain ⟨hb, ho2⟩ := en_if_inv ho1
    obtain rfl := en_fr_inv ho2
    exact so_idiv X hd hb K
  case irem =>
    have hd : decode (mt_code y) pc = .ok (.irem, 1) := en_hd hd hl (Nat.succ_ne_zero _)
    obtain ⟨a, b, r, rfl, ho1⟩ := en_p2_inv ho
    obtain ⟨hb, ho2⟩ := en_if_inv ho1
    obtain rfl := en_fr_inv ho2
    exact so_irem X hd hb K
  case land =>
    have hd : decode (mt_code y) pc = .ok (.land, 1) := en_hd hd hl (Nat.succ_ne_zero _)
    obtain ⟨a, b, r, rfl, ho1⟩ := en_l2_inv ho
    obtain rfl := en_fr_inv ho1
    exact so_land X hd K
  case lor =>
    have hd : decode (mt_code y) pc = .ok (.lor, 1) := en_hd hd hl (Nat.succ_ne_zero _)
    obtain ⟨a, b, r, rfl, ho1⟩ := en_l2_inv ho
    obtain rfl := en_fr_inv ho1
    exact so_lor X hd K
  case lcmp =>
    have hd : decode (mt_code y) pc = .ok (.lcmp, 1) := en_hd hd hl (Nat.succ_ne_zero _)
    obtain ⟨a, b, r, rfl, ho1⟩ := en_l2_inv ho
    obtain rfl := en_fr_inv ho1
    exact so_lcmp X hd K
  case lshl =>
    have hd : decode (mt_code y) pc = .ok (.lshl, 1) := en_hd hd hl (Nat.succ_ne_zero _)
    obtain ⟨a, b, r, rfl, ho1⟩ := en_li_inv ho
    obtain rfl := en_fr_inv ho1
    exact so_lshl X hd K
  case lshr =>
    have hd : decode (mt_code y) pc = .ok (.lshr, 1) := en_hd hd hl (Nat.succ_ne_zero _)
    obtain ⟨a, b, r, rfl, ho1⟩ := en_li_inv ho
    obtain rfl := en_fr_inv ho1
    exact so_lshr X hd K
  case lushr =>
    have hd : decode (mt_code y) pc = .ok (.lushr, 1) := en_hd hd hl (Nat.succ_ne_zero _)
    obtain ⟨a, b, r, rfl, ho1⟩ := en_li_inv ho
    obtain rfl := en_fr_inv ho1
    exact so_lushr X hd K
  case dup =>
    have hd : decode (mt_code y) pc = .ok (.dup, 1) := en_hd hd hl (Nat.succ_ne_zero _)
    match st, ho with
    | [], ho => exact en_abs ho
    | v :: r, ho =>
      obtain ⟨hv, hk1⟩ := en_if_inv ho
      obtain rfl := en_fr_inv hk1
      exact so_dup X hd hv K
  case pop =>
    have hd : decode (mt_code y) pc = .ok (.pop, 1) := en_hd hd hl (Nat.succ_ne_zero _)
    match st, ho with
    | [], ho => exact en_abs ho
    | v :: r, ho =>
      obtain ⟨hv, hk1⟩ := en_if_inv ho
      obtain rfl := en_fr_inv hk1
      exact so_pop X hd hv K
  case dup2 =>
    have hd : decode (mt_code y) pc = .ok (.dup2, 1) := en_hd hd hl (Nat.succ_ne_zero _)
    match st, ho with
    | [], ho => exact en_abs ho
    | [_], ho => exact en_abs ho
    | v :: w :: r, ho =>
      obtain ⟨hv, hk1⟩ := en_if_inv ho
      obtain rfl := en_fr_inv hk1
      exact so_dup2 X hd hv K
  case goto off =>
    have hd : decode (mt_code y) pc = .ok (.goto off, 3) := en_hd hd hl (Nat.succ_ne_zero _)
    obtain ⟨ht, rfl⟩ := en_tg_inv ho
    exact so_goto X hd ht K
  case ifCond cd' off =>
    have hd : decode (mt_code y) pc = .ok (.ifCond cd' off, 3) := en_hd hd hl (Nat.succ_ne_zero _)
    obtain ⟨a, r, rfl, ho1⟩ := en_p1_inv ho
    obtain ⟨ht, hz⟩ := en_if_inv ho1
    by_cases hp : en_i1 cd' a
    · have hz2 : en_fr ((pc : Int) + off).toNat lv r c x u = some (.inl g) := (en_if_t hp).symm.trans hz
      obtain rfl := en_fr_inv hz2
      exact so_if X hd (Int.toNat_of_nonneg ht).symm (fun _ => ⟨trivial, K⟩) (fun z => absurd hp z)
    · have hz2 : en_fr (pc + 3) lv r c x u = some (.inl g) := (en_if_f hp).symm.trans hz
      obtain rfl := en_fr_inv hz2
      exact so_if X hd (Int.toNat_of_nonneg ht).symm (fun z => absurd z hp) (fun _ => K)
  case if_icmp cd' off =>
    have hd : decode (mt_code y) pc = .ok (.if_icmp cd' off, 3) := en_hd hd hl (Nat.succ_ne_zero _)
    obtain ⟨a, b, r, rfl, ho1⟩ := en_p2_inv ho
    obtain ⟨ht, hz⟩ := en_if_inv ho1
    by_cases hp : en_i2 cd' a b
    · have hz2 : en_fr ((pc : Int) + off).toNat lv r c x u = some (.inl g) := (en_if_t hp).symm.trans hz
      obtain rfl := en_fr_inv hz2
      exact so_icmp X hd (Int.toNat_of_nonneg ht).symm (fun _ => ⟨trivial, K⟩) (fun z => absurd hp z)
    · have hz2 : en_fr (pc + 3) lv r c x u = some (.inl g) := (en_if_f hp).symm.trans hz
      obtain rfl := en_fr_inv hz2
      exact so_icmp X hd (Int.toNat_of_nonneg ht).symm (fun z => absurd z hp) (fun _ => K)
  case tableswitch d lo hi offs =>
    obtain ⟨a, r, rfl, ho1⟩ := en_p1_inv ho
    by_cases hp : a.toInt < lo ∨ hi < a.toInt
    · have ho : en_tg pc d lv r c x u = some (.inl g) := (en_if_t hp).symm.trans ho
      obtain ⟨ht, rfl⟩ := en_tg_inv ho
      exact so_tab X hd (fun _ => ⟨ht, K⟩) (fun z => absurd hp z)
    · have ho : en_op (offs[(a.toInt - lo).toNat]?) (fun off => en_tg pc off lv r c x u) = some (.inl g) := (en_if_f hp).symm.trans ho
      obtain ⟨off, hoff, ho1⟩ := en_op_inv ho
      obtain ⟨ht, rfl⟩ := en_tg_inv ho1
      exact so_tab X hd (fun z => absurd z hp) (fun _ => ⟨off, hoff, ht, K⟩)
  case lookupswitch d ps =>
    obtain ⟨a, r, rfl, ho1⟩ := en_p1_inv ho
    obtain ⟨hp, ho2⟩ := en_if_inv ho1
    obtain ⟨ht, rfl⟩ := en_tg_inv ho2
    exact so_look X hd hp ht K
  case iaload =>
    have hd : decode (mt_code y) pc = .ok (.iaload, 1) := en_hd hd hl (Nat.succ_ne_zero _)
    obtain ⟨a, i, r, rfl, ho1⟩ := en_ir_inv ho
    obtain ⟨t, n, f, hc, ho2⟩ := en_arI_inv ho1
    obtain ⟨⟨rfl, ha, hi⟩, ho3⟩ := en_if_inv ho2
    obtain rfl := en_fr_inv ho3
    exact so_iald X hX hd hc ha hi K
  case baload =>
    have hd : decode (mt_code y) pc = .ok (.baload, 1) := en_hd hd hl (Nat.succ_ne_zero _)
    obtain ⟨a, i, r, rfl, ho1⟩ := en_ir_inv ho
    obtain ⟨t, n, f, hc, ho2⟩ := en_arI_inv ho1
    obtain ⟨⟨rfl, ha, hi⟩, ho3⟩ := en_if_inv ho2
    obtain rfl := en_fr_inv ho3
    exact so_zald X hd hc ha hi K
  case laload =>
    have hd : decode (mt_code y) pc = .ok (.laload, 1) := en_hd hd hl (Nat.succ_ne_zero _)
    obtain ⟨a, i, r, rfl, ho1⟩ := en_ir_inv ho
    obtain ⟨t, n, f, hc, ho2⟩ := en_arL_inv ho1
    obtain ⟨⟨rfl, ha, hi⟩, ho3⟩ := en_if_inv ho2
    obtain rfl := en_fr_inv ho3
    exact so_lald X hd hc ha hi K
  case iastore =>
    have hd : decode (mt_code y) pc = .ok (.iastore, 1) := en_hd hd hl (Nat.succ_ne_zero _)
    obtain ⟨a, i, v, r, rfl, ho1⟩ := en_iir_inv ho
    obtain ⟨t, n, f, hc, ho2⟩ := en_arI_inv ho1
    obtain ⟨⟨rfl, ha, hi⟩, ho3⟩ := en_if_inv ho2
    obtain rfl := en_fr_inv ho3
    exact so_iast X hd hc ha hi K
  case bastore =>
    have hd : decode (mt_code y) pc = .ok (.bastore, 1) := en_hd hd hl (Nat.succ_ne_zero _)
    obtain ⟨a, i, v, r, rfl, ho1⟩ := en_iir_inv ho
    obtain ⟨t, n, f, hc, ho2⟩ := en_arI_inv ho1
    obtain ⟨⟨rfl, ha, hi⟩, ho3⟩ := en_if_inv ho2
    obtain rfl := en_fr_inv ho3
    exact so_zast X hd hc ha hi K
  case lastore =>
    have hd : decode (mt_code y) pc = .ok (.lastore, 1) := en_hd hd hl (Nat.succ_ne_zero _)
    obtain ⟨a, i, v, r, rfl, ho1⟩ := en_lir_inv ho
    obtain ⟨t, n, f, hc, ho2⟩ := en_arL_inv ho1
    obtain ⟨⟨rfl, ha, hi⟩, ho3⟩ := en_if_inv ho2
    obtain rfl := en_fr_inv ho3
    exact so_last X hd hc ha hi K
  case arraylength =>
    have hd : decode (mt_code y) pc = .ok (.arraylength, 1) := en_hd hd hl (Nat.succ_ne_zero _)
    obtain ⟨a, r, rfl, ho1⟩ := en_pr_inv ho
    obtain ⟨t, n, f, hc, ho2⟩ := en_arN_inv ho1
    obtain ⟨⟨ht, ha, -⟩, ho3⟩ := en_if_inv ho2
    obtain rfl := en_fr_inv ho3
    exact so_alen X hX hd hc ht ha K
  case getfield n =>
    have hd : decode (mt_code y) pc = .ok (.getfield n, 3) := en_hd hd hl (Nat.succ_ne_zero _)
    obtain ⟨⟨ci, kf, kd, fin⟩, hq, ho1⟩ := en_op_inv ho
    obtain ⟨a, r, rfl, ho2⟩ := en_pr_inv ho1
    obtain ⟨ci', fs, hc, ho3⟩ := en_ob_inv ho2
    obtain ⟨v, hv, ho4⟩ := en_op_inv ho3
    obtain ⟨⟨ha, rfl⟩, ho5⟩ := en_if_inv ho4
    obtain rfl := en_fr_inv ho5
    exact so_get X hd (Tok.1 _ _ _ hq) hc ha hv K
  case putfield n =>
    have hd : decode (mt_code y) pc = .ok (.putfield n, 3) := en_hd hd hl (Nat.succ_ne_zero _)
    obtain ⟨⟨ci, kf, kd, fin⟩, hq, ho1⟩ := en_op_inv ho
    obtain ⟨a, v, r, rfl, ho2⟩ := en_vr_inv ho1
    obtain ⟨ci', fs, hc, ho3⟩ := en_ob_inv ho2
    obtain ⟨⟨ha, rfl, hlen, hfk, hini⟩, ho4⟩ := en_if_inv ho3
    obtain rfl := en_fr_inv ho4
    exact so_put X hd (Tok.1 _ _ _ hq) hc ha hlen hfk hini K
  case new n =>
    have hd : decode (mt_code y) pc = .ok (.new n, 3) := en_hd hd hl (Nat.succ_ne_zero _)
    obtain ⟨⟨ci, fs⟩, hq, ho1⟩ := en_op_inv ho
    obtain rfl := en_fr_inv ho1
    exact so_new X hd (Tok.2.1 _ _ _ hq) hgx hgu K
  case newarray ty =>
    have hd : decode (mt_code y) pc = .ok (.newarray ty, 2) := en_hd hd hl (Nat.succ_ne_zero _)
    obtain ⟨t, ht, ho1⟩ := en_op_inv ho
    obtain ⟨n, r, rfl, ho2⟩ := en_p1_inv ho1
    obtain ⟨⟨hn, hN⟩, ho3⟩ := en_if_inv ho2
    obtain rfl := en_fr_inv ho3
    exact so_newa X hd ht (Tok.2.2.2.2 _ _ ht) hn hN hgx hgu K
  case invokestatic n =>
    have hd : decode (mt_code y) pc = .ok (.invokestatic n, 3) := en_hd hd hl (Nat.succ_ne_zero _)
    obtain ⟨⟨kd, y', na, ci⟩, hq, ho1⟩ := en_op_inv ho
    have hM := Tok.2.2.1 _ _ _ hq
    match kd, hM, ho1 with
    | 0, hM, ho => exact en_abs ho
    | 1, hM, ho =>
      obtain ⟨-, hk1⟩ := en_if_inv ho
      cases (Option.some.inj hk1)
    | 2, hM, ho => exact en_abs ho
    | 3, hM, ho => exact en_abs ho
    | 4, hM, ho =>
      obtain ⟨a, b, r, rfl, hk1⟩ := en_p2_inv ho
      obtain ⟨hr, hk2⟩ := en_if_inv hk1
      obtain rfl := en_fr_inv hk2
      exact so_max X hR.1 hR.2 hd (hM.2.2.2.2.1 rfl) hr K
    | 5, hM, ho =>
      obtain ⟨a, b, r, rfl, hk1⟩ := en_p2_inv ho
      obtain ⟨hr, hk2⟩ := en_if_inv hk1
      obtain rfl := en_fr_inv hk2
      exact so_min X hR.1 hR.2 hd (hM.2.2.2.2.2.1 rfl) hr K
    | 6, hM, ho =>
      obtain ⟨a0, sp, a1, dp, n', r, rfl, hk1⟩ := en_cp_inv ho
      obtain ⟨t0, n0, f0, hc0, hk2⟩ := en_arI_inv hk1
      obtain ⟨t1, n1, f1, hc1, hk3⟩ := en_arI_inv hk2
      obtain ⟨⟨i1, i2, rfl, rfl, i5, i6, i7, i8, i9, i10⟩, hk4⟩ := en_if_inv hk3
      obtain rfl := en_fr_inv hk4
      exact so_copy X hR.1 hR.2 hd (hM.2.2.2.2.2.2.1 rfl) hc0 hc1 i1 i2 i5 i6 i7 i8 i9 i10 K
    | kd + 7, hM, ho => exact en_abs ho
  case invokespecial n =>
    have hd : decode (mt_code y) pc = .ok (.invokespecial n, 3) := en_hd hd hl (Nat.succ_ne_zero _)
    obtain ⟨⟨kd, y', na, ci⟩, hq, ho1⟩ := en_op_inv ho
    have hM := Tok.2.2.1 _ _ _ hq
    match kd, hM, ho1 with
    | 0, hM, ho => exact en_abs ho
    | 1, hM, ho => exact en_abs ho
    | 2, hM, ho =>
      obtain ⟨a, r, -, hk1⟩ := en_pr_inv ho
      obtain ⟨-, hk2⟩ := en_if_inv hk1
      cases (Option.some.inj hk2)
    | 3, hM, ho =>
      obtain ⟨a, r, -, hk1⟩ := en_pr_inv ho
      obtain ⟨-, hk2⟩ := en_if_inv hk1
      cases (Option.some.inj hk2)
    | 4, hM, ho => exact en_abs ho
    | 5, hM, ho => exact en_abs ho
    | 6, hM, ho => exact en_abs ho
    | 7, hM, ho =>
      obtain ⟨a, r, rfl, hk1⟩ := en_pr_inv ho
      obtain ⟨hr, hk2⟩ := en_if_inv hk1
      obtain rfl := en_fr_inv hk2
      exact so_obj X hR.1 hR.2 hd (hM.2.2.2.2.2.2.2 rfl) hr K
    | kd + 8, hM, ho => exact en_abs ho
  case invokevirtual n =>
    have hd : decode (mt_code y) pc = .ok (.invokevirtual n, 3) := en_hd hd hl (Nat.succ_ne_zero _)
    obtain ⟨⟨kd, y', na, ci⟩, hq, ho1⟩ := en_op_inv ho
    obtain ⟨-, ho2⟩ := en_if_inv ho1
    obtain ⟨a, r, -, ho3⟩ := en_pr_inv ho2
    obtain ⟨-, ho4⟩ := en_if_inv ho3
    obtain ⟨ci', fs, -, ho5⟩ := en_ob_inv ho4
    obtain ⟨-, ho6⟩ := en_if_inv ho5
    cases (Option.some.inj ho6)
  case ireturn =>
    have ho : en_ret y st c x u = some (.inl g) := ho
    unfold en_ret at ho
    split at ho
    · obtain ⟨-, ho1⟩ := en_if_inv ho
      cases (Option.some.inj ho1)
    · cases ho
  case areturn =>
    have ho : en_reta y st c x u = some (.inl g) := ho
    unfold en_reta at ho
    split at ho
    · obtain ⟨-, ho1⟩ := en_if_inv ho
      cases (Option.some.inj ho1)
    · cases ho
  case return_ =>
    have ho : en_retv y st c x u = some (.inl g) := ho
    unfold en_retv at ho
    split at ho
    · obtain ⟨-, ho1⟩ := en_if_inv ho
      cases (Option.some.inj ho1)
    · cases ho
  all_goals exact en_abs ho
/-- one call -/
theorem en_onec (X : en_X p R s m args meth cd D tc ρ b0 x0 u0 x1 u1 y) (Tok : en_Tok) {d : Nat} (hR : d + 1 ≤ R.frames ∧ 40 * (d + 1) ≤ R.locals) {i : Jvm.ClassFile.Instr} {len : Nat} {q : Nat × List Value × Nat × en_L × List Value} {v : Option Value} {c' : en_H} {x' u' : Nat} (hd : decode (mt_code y) pc = .ok (i, len)) (hl : len = en_len i ∨ en_len i = 0) (ho : en_step y i pc lv st c x u = some (.inr (.inr q))) (hm : en_M l D tc ρ b0 d q.1 q.2.1 c x u v c' x' u') (hok : en_ok c x u c' x' u') (hgx : x' ≤ x1) (hgu : u' ≤ u1) (K : en_A p l e R s m args below meth cd Q D tc ρ b0 x0 u0 x1 u1 y sc (q.2.2.1, q.2.2.2.1, v.toList ++ q.2.2.2.2, c', x', u')) : en_A p l e R s m args below meth cd Q D tc ρ b0 x0 u0 x1 u1 y sc (pc, lv, st, c, x, u) := by
  cases i
  case invokevirtual n =>
    have hd : decode (mt_code y) pc = .ok (.invokevirtual n, 3) := en_hd hd hl (Nat.succ_ne_zero _)
    obtain ⟨⟨kd, y', na, ci⟩, hq, ho1⟩ := en_op_inv ho
    obtain ⟨rfl, ho2⟩ := en_if_inv ho1
    obtain ⟨a, r, hst, ho3⟩ := en_pr_inv ho2
    obtain ⟨⟨ha, hr, hlen⟩, ho4⟩ := en_if_inv ho3
    obtain ⟨ci', fs, hc, ho5⟩ := en_ob_inv ho4
    obtain ⟨rfl, ho6⟩ := en_if_inv ho5
    obtain rfl := (Sum.inr.inj (Sum.inr.inj (Option.some.inj ho6))).symm
    exact so_virt X hR hd (Tok.2.2.1 _ _ _ hq) (As := (st.take na).reverse) (by rw [List.reverse_reverse, ← hst, List.take_append_drop]) (by rw [List.length_reverse]; exact hlen) hc ha hr hm hok hgx hgu K
  case invokestatic n =>
    have hd : decode (mt_code y) pc = .ok (.invokestatic n, 3) := en_hd hd hl (Nat.succ_ne_zero _)
    obtain ⟨⟨kd, y', na, ci⟩, hq, ho1⟩ := en_op_inv ho
    have hM := Tok.2.2.1 _ _ _ hq
    match kd, hM, ho1 with
    | 0, hM, ho => exact en_abs ho
    | 1, hM, ho =>
      obtain ⟨⟨hr, hlen⟩, hk1⟩ := en_if_inv ho
      obtain rfl := (Sum.inr.inj (Sum.inr.inj (Option.some.inj hk1))).symm
      exact so_stat (a := 0) (fs := []) X hR hd hM (As := (st.take na).reverse) (by rw [List.reverse_reverse, List.take_append_drop]) (by rw [List.length_reverse]; exact hlen) hr hm hok hgx hgu K
    | 2, hM, ho => exact en_abs ho
    | 3, hM, ho => exact en_abs ho
    | 4, hM, ho =>
      obtain ⟨a, b, r, -, hk1⟩ := en_p2_inv ho
      obtain ⟨-, hk2⟩ := en_if_inv hk1
      exact (en_fr_no hk2).elim
    | 5, hM, ho =>
      obtain ⟨a, b, r, -, hk1⟩ := en_p2_inv ho
      obtain ⟨-, hk2⟩ := en_if_inv hk1
      exact (en_fr_no hk2).elim
    | 6, hM, ho =>
      obtain ⟨a0, sp, a1, dp, n', r, -, hk1⟩ := en_cp_inv ho
      obtain ⟨t0, n0, f0, -, hk2⟩ := en_arI_inv hk1
      obtain ⟨t1, n1, f1, -, hk3⟩ := en_arI_inv hk2
      obtain ⟨-, hk4⟩ := en_if_inv hk3
      exact (en_fr_no hk4).elim
    | kd + 7, hM, ho => exact en_abs ho
  case invokespecial n =>
    have hd : decode (mt_code y) pc = .ok (.invokespecial n, 3) := en_hd hd hl (Nat.succ_ne_zero _)
    obtain ⟨⟨kd, y', na, ci⟩, hq, ho1⟩ := en_op_inv ho
    have hM := Tok.2.2.1 _ _ _ hq
    match kd, hM, ho1 with
    | 0, hM, ho => exact en_abs ho
    | 1, hM, ho => exact en_abs ho
    | 2, hM, ho =>
      obtain ⟨a, r, hst, hk1⟩ := en_pr_inv ho
      obtain ⟨⟨hr, hlen⟩, hk2⟩ := en_if_inv hk1
      obtain rfl := (Sum.inr.inj (Sum.inr.inj (Option.some.inj hk2))).symm
      exact so_init (fs := []) X hR hd hM (As := (st.take na).reverse) (by rw [List.reverse_reverse, ← hst, List.take_append_drop]) (by rw [List.length_reverse]; exact hlen) hr hm hok hgx hgu K
    | 3, hM, ho =>
      obtain ⟨a, r, hst, hk1⟩ := en_pr_inv ho
      obtain ⟨⟨hr, hlen⟩, hk2⟩ := en_if_inv hk1
      obtain rfl := (Sum.inr.inj (Sum.inr.inj (Option.some.inj hk2))).symm
      exact so_initN (fs := []) X hR hd hM (As := (st.take na).reverse) (by rw [List.reverse_reverse, ← hst, List.take_append_drop]) (by rw [List.length_reverse]; exact hlen) hr hm hok hgx hgu K
    | 4, hM, ho => exact en_abs ho
    | 5, hM, ho => exact en_abs ho
    | 6, hM, ho => exact en_abs ho
    | 7, hM, ho =>
      obtain ⟨a, r, -, hk1⟩ := en_pr_inv ho
      obtain ⟨-, hk2⟩ := en_if_inv hk1
      exact (en_fr_no hk2).elim
    | kd + 8, hM, ho => exact en_abs ho
  case ireturn => exact (en_ret_nc ho).elim
  case areturn => exact (en_reta_nc ho).elim
  case return_ => exact (en_retv_nc ho).elim
  all_goals refine absurd ho ((?_ : en_pn _) _)
  all_goals repeat' first | exact en_pn_fr | exact en_pn_0 | exact en_pn_tg | exact en_pn_sto | refine en_pn_op (fun _ => ?_) | refine en_pn_p1 (fun _ _ => ?_) | refine en_pn_p2 (fun _ _ _ => ?_) | refine en_pn_l2 (fun _ _ _ => ?_) | refine en_pn_li (fun _ _ _ => ?_) | refine en_pn_pr (fun _ _ => ?_) | refine en_pn_ir (fun _ _ _ => ?_) | refine en_pn_iir (fun _ _ _ _ => ?_) | refine en_pn_lir (fun _ _ _ _ => ?_) | refine en_pn_vr (fun _ _ _ => ?_) | refine en_pn_ldI (fun _ => ?_) | refine en_pn_ldA (fun _ => ?_) | refine en_pn_arI (fun _ _ _ => ?_) | refine en_pn_arL (fun _ _ _ => ?_) | refine en_pn_arN (fun _ _ => ?_) | refine en_pn_ob (fun _ _ => ?_) | refine en_pn_if ?_ ?_ | exact en_pn_st1 | exact en_pn_st2 | exact en_pn_st3
/-- a whole run of a method -/
theorem en_main (X : en_X p R s m args meth cd D tc ρ b0 x0 u0 x1 u1 y) (Tok : en_Tok) (hX : y = mt_law → ∃ b, ρ en_S = b ∧ va_X b sc.1 sc.2 s s.heap ∧ b < s.heap.size ∧ ¬ b0 ≤ b) {d : Nat} (hR : d + 1 ≤ R.frames ∧ 40 * (d + 1) ≤ R.locals) {v1 : Option Value} {c1 : en_H}
    (hrel : ∀ y' As c x u v c' x' u', en_call d y' As c x u v c' x' u' → x' < en_S → en_M l D tc ρ b0 d y' As c x u v c' x' u')
    (hend : ∀ (f : en_F) (i : Jvm.ClassFile.Instr) (len : Nat), decode (mt_code y) f.1 = .ok (i, len) → (len = en_len i ∨ en_len i = 0) → en_step y i f.1 f.2.1 f.2.2.1 f.2.2.2.1 f.2.2.2.2.1 f.2.2.2.2.2 = some (.inr (.inl (v1, c1, x1, u1))) → en_A p l e R s m args below meth cd Q D tc ρ b0 x0 u0 x1 u1 y sc (f)) :
    ∀ (n : Nat) (f : en_F), en_wp (en_call d) y (en_q v1 c1 x1 u1) n f → en_A p l e R s m args below meth cd Q D tc ρ b0 x0 u0 x1 u1 y sc (f) := by
  intro n
  induction n with
  | zero => intro f h; exact h.elim
  | succ n ih =>
    intro f h
    obtain ⟨i, len, hd, hl, h3⟩ := h
    obtain ⟨pc, lv, st, c, x, u⟩ := f
    change en_nx (en_call d) _ _ c x u (en_step y i pc lv st c x u) at h3
    generalize ho : en_step y i pc lv st c x u = o at h3
    match o, h3 with
    | none, h3 => exact h3.elim
    | some (.inr (.inl r)), h3 =>
      obtain ⟨r1, r2, r3, r4⟩ := r
      obtain ⟨-, e1, e2, e3, e4⟩ := h3
      dsimp only at e1 e2 e3 e4
      subst e1 e2 e3 e4
      exact hend _ i len hd hl ho
    | some (.inl g), h3 =>
      obtain ⟨v2, c2, x2, u2, ⟨-, -, e3, e4⟩, k2, -⟩ := en_wp_path n g h3.2
      subst e3 e4
      exact en_one X Tok hX ⟨by omega, by omega⟩ hd hl ho k2.1 k2.2.1 (ih g h3.2)
    | some (.inr (.inr q)), h3 =>
      obtain ⟨v, c', x', u', g1, g2, g4⟩ := h3
      obtain ⟨v2, c2, x2, u2, ⟨-, -, e3, e4⟩, k2, -⟩ := en_wp_path n _ g4
      subst e3 e4
      exact en_onec X Tok hR hd hl ho (hrel _ _ _ _ _ _ _ _ _ g1 (Nat.lt_of_le_of_lt k2.1 X.2.2.1.2.2.1)) g2 k2.1 k2.2.1 (ih _ g4)
end ES5
theorem en_inv_nr {y n pc : Nat} {lv : en_L} {st : List Value} {c : en_H} {x : Nat} {r : Option Value × en_H × Nat × Nat} (ho : en_op (tb_mth (mt_cls y) n) (fun q => en_if (q.1 = 0) (en_inv pc lv st c x q) none) = some (.inr (.inl r))) : False := by
  obtain ⟨⟨kd, y', na, ci⟩, hq, ho1⟩ := en_op_inv ho
  obtain ⟨-, ho2⟩ := en_if_inv ho1
  obtain ⟨a, r, -, ho3⟩ := en_pr_inv ho2
  obtain ⟨-, ho4⟩ := en_if_inv ho3
  obtain ⟨ci', fs, -, ho5⟩ := en_ob_inv ho4
  obtain ⟨-, ho6⟩ := en_if_inv ho5
  cases (Sum.inr.inj (Option.some.inj ho6))
theorem en_ins_nr {y n pc : Nat} {lv : en_L} {st : List Value} {c : en_H} {x u : Nat} {r : Option Value × en_H × Nat × Nat} (ho : en_op (tb_mth (mt_cls y) n) (fun q => en_ins pc lv st c x u q) = some (.inr (.inl r))) : False := by
  obtain ⟨⟨kd, y', na, ci⟩, hq, ho1⟩ := en_op_inv ho
  match kd, ho1 with
  | 0, ho => exact en_abs ho
  | 1, ho =>
    obtain ⟨-, hk1⟩ := en_if_inv ho
    cases (Sum.inr.inj (Option.some.inj hk1))
  | 2, ho => exact en_abs ho
  | 3, ho => exact en_abs ho
  | 4, ho =>
    obtain ⟨a, b, r, -, hk1⟩ := en_p2_inv ho
    obtain ⟨-, hk2⟩ := en_if_inv hk1
    exact en_fr_no hk2
  | 5, ho =>
    obtain ⟨a, b, r, -, hk1⟩ := en_p2_inv ho
    obtain ⟨-, hk2⟩ := en_if_inv hk1
    exact en_fr_no hk2
  | 6, ho =>
    obtain ⟨a0, sp, a1, dp, n', r, -, hk1⟩ := en_cp_inv ho
    obtain ⟨t0, n0, f0, -, hk2⟩ := en_arI_inv hk1
    obtain ⟨t1, n1, f1, -, hk3⟩ := en_arI_inv hk2
    obtain ⟨-, hk4⟩ := en_if_inv hk3
    exact en_fr_no hk4
  | kd + 7, ho => exact en_abs ho
theorem en_inp_nr {y n pc : Nat} {lv : en_L} {st : List Value} {c : en_H} {x u : Nat} {r : Option Value × en_H × Nat × Nat} (ho : en_op (tb_mth (mt_cls y) n) (fun q => en_inp pc lv st c x u q) = some (.inr (.inl r))) : False := by
  obtain ⟨⟨kd, y', na, ci⟩, hq, ho1⟩ := en_op_inv ho
  match kd, ho1 with
  | 0, ho => exact en_abs ho
  | 1, ho => exact en_abs ho
  | 2, ho =>
    obtain ⟨a, r, -, hk1⟩ := en_pr_inv ho
    obtain ⟨-, hk2⟩ := en_if_inv hk1
    cases (Sum.inr.inj (Option.some.inj hk2))
  | 3, ho =>
    obtain ⟨a, r, -, hk1⟩ := en_pr_inv ho
    obtain ⟨-, hk2⟩ := en_if_inv hk1
    cases (Sum.inr.inj (Option.some.inj hk2))
  | 4, ho => exact en_abs ho
  | 5, ho => exact en_abs ho
  | 6, ho => exact en_abs ho
  | 7, ho =>
    obtain ⟨a, r, -, hk1⟩ := en_pr_inv ho
    obtain ⟨-, hk2⟩ := en_if_inv hk1
    exact en_fr_no hk2
  | kd + 8, ho => exact en_abs ho
theorem en_wp_x {rel : en_R} {y n pc : Nat} {lv : en_L} {st : List Value} {c c1 : en_H} {x u x1 u1 : Nat} {v1 : Option Value} (h : en_wp rel y (en_q v1 c1 x1 u1) n (pc, lv, st, c, x, u)) : x ≤ x1 ∧ u ≤ u1 := by
  obtain ⟨v2, c2, x2, u2, ⟨-, -, e3, e4⟩, k2, -⟩ := en_wp_path n _ h
  subst e3 e4
  exact ⟨k2.1, k2.2.1⟩
