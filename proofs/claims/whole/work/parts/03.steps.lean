/-! THE ENGINE: one row an instruction, as an equation. -/
theorem en_nx_if {rel : en_R} {go : en_F → Prop} {K : en_K} {c : en_H} {x u : Nat} {p : Prop} {pc' : Nat} {lv' : en_L} {st' : List Value} {c' : en_H} {x' u' : Nat} : en_nx rel go K c x u (en_if p (en_fr pc' lv' st' c' x' u') none) = (p ∧ en_ok c x u c' x' u' ∧ go (pc', lv', st', c', x', u')) := by
  by_cases h : p
  · rw [en_if_t h]
    exact propext ⟨fun w => ⟨h, w⟩, fun w => w.2⟩
  · rw [en_if_f h]
    exact propext ⟨fun w => w.elim, fun w => h w.1⟩
theorem en_nx_if2 {rel : en_R} {go : en_F → Prop} {K : en_K} {c : en_H} {x u : Nat} {p : Prop} {o : en_O} : en_nx rel go K c x u (en_if p o none) = (p ∧ en_nx rel go K c x u o) := by
  by_cases h : p
  · rw [en_if_t h]
    exact propext ⟨fun w => ⟨h, w⟩, fun w => w.2⟩
  · rw [en_if_f h]
    exact propext ⟨fun w => w.elim, fun w => h w.1⟩
def en_rdI (e : en_C) (t0 : Nat) (k : Nat → (Nat → Int32) → Prop) : Prop := match e with
  | .inl (t, n, .inl f) => t = t0 ∧ k n f
  | _ => False
theorem en_rdI_eq {t n : Nat} {f : Nat → Int32} {k : Nat → (Nat → Int32) → Prop} : en_rdI (.inl (t, n, .inl f)) t k = k n f := propext ⟨fun h => h.2, fun h => ⟨rfl, h⟩⟩
def en_rdL (e : en_C) (k : Nat → (Nat → Int64) → Prop) : Prop := match e with
  | .inl (t, n, .inr (.inl f)) => t = 1 ∧ k n f
  | _ => False
theorem en_rdL_eq {n : Nat} {f : Nat → Int64} {k : Nat → (Nat → Int64) → Prop} : en_rdL (.inl (1, n, .inr (.inl f))) k = k n f := propext ⟨fun h => h.2, fun h => ⟨rfl, h⟩⟩
def en_rdN (e : en_C) (k : Nat → Nat → Prop) : Prop := match e with
  | .inl (t, n, _) => k t n
  | _ => False
theorem en_rdN_eq {t n : Nat} {f : (Nat → Int32) ⊕ (Nat → Int64) ⊕ (Nat → UInt32) ⊕ (Nat → UInt64) ⊕ (Nat → Option Nat)} {k : Nat → Nat → Prop} : en_rdN (.inl (t, n, f)) k = k t n := rfl
def en_rdO (e : en_C) (ci : Nat) (k : List Value → Prop) : Prop := match e with
  | .inr (ci', fs) => ci' = ci ∧ k fs
  | _ => False
theorem en_rdO_eq {ci : Nat} {fs : List Value} {k : List Value → Prop} : en_rdO (.inr (ci, fs)) ci k = k fs := propext ⟨fun h => h.2, fun h => ⟨rfl, h⟩⟩
def en_gv (o : Option Value) (k : Value → Prop) : Prop := match o with
  | some v => k v
  | none => False
theorem en_gv_eq {v : Value} {k : Value → Prop} : en_gv (some v) k = k v := rfl
section EST
variable {rel : en_R} {y pc : Nat} {lv : en_L} {st : List Value} {c : en_H} {x u : Nat} {K : en_K}
theorem st_iconst {n : Int} {v : Int32} (h : decode (mt_code y) pc = .ok (.iconst n, 1)) (hv : Int32.ofInt n = v) : en_W rel y pc lv (st) c x u K = en_W rel y (pc + 1) lv (.int v :: st) c x u K := by
  subst hv; exact en_go h (Or.inl rfl) rfl en_ok_rf
theorem st_bipush {n : Int} {v : Int32} (h : decode (mt_code y) pc = .ok (.bipush n, 2)) (hv : (Int8.ofInt n).toInt32 = v) : en_W rel y pc lv (st) c x u K = en_W rel y (pc + 2) lv (.int v :: st) c x u K := by
  subst hv; exact en_go h (Or.inl rfl) rfl en_ok_rf
theorem st_sipush {n : Int} {v : Int32} (h : decode (mt_code y) pc = .ok (.sipush n, 3)) (hv : (Int16.ofInt n).toInt32 = v) : en_W rel y pc lv (st) c x u K = en_W rel y (pc + 3) lv (.int v :: st) c x u K := by
  subst hv; exact en_go h (Or.inl rfl) rfl en_ok_rf
theorem st_ldc {n : Nat} {v : Int32} (h : decode (mt_code y) pc = .ok (.ldc n, 2)) (hv : tb_ldc (mt_cls y) n = some v) : en_W rel y pc lv (st) c x u K = en_W rel y (pc + 2) lv (.int v :: st) c x u K := by
  exact en_go h (Or.inl rfl) (by show en_op (tb_ldc (mt_cls y) n) _ = _; rw [hv]; rfl) en_ok_rf
theorem st_lconst {n : Fin 2} {v : Int64} (h : decode (mt_code y) pc = .ok (.lconst n, 1)) (hv : Int64.ofNat (n : Nat) = v) : en_W rel y pc lv (st) c x u K = en_W rel y (pc + 1) lv (.long v :: st) c x u K := by
  subst hv; exact en_go h (Or.inl rfl) rfl en_ok_rf
theorem st_iload {i : Nat} {a : Int32} (h : decode (mt_code y) pc = .ok (.iload i, 2)) (hl : lv[i]? = some (some (.int a))) : en_W rel y pc lv (st) c x u K = en_W rel y (pc + 2) lv (.int a :: st) c x u K := by
  exact en_go h (Or.inl rfl) (by show en_ldI lv i _ = _; unfold en_ldI; rw [hl]; rfl) en_ok_rf
theorem st_iload_n {k : Fin 4} {i : Nat} {a : Int32} (h : decode (mt_code y) pc = .ok (.iload_n k, 1)) (hi : (k : Nat) = i) (hl : lv[i]? = some (some (.int a))) : en_W rel y pc lv (st) c x u K = en_W rel y (pc + 1) lv (.int a :: st) c x u K := by
  exact en_go h (Or.inl rfl) (by show en_ldI lv (k : Nat) _ = _; unfold en_ldI; rw [hi, hl]; rfl) en_ok_rf
theorem st_istore {i : Nat} {a : Int32} {lv' : en_L} (h : decode (mt_code y) pc = .ok (.istore i, 2)) (hn : i < lv.length) (hl : lv.set i (some (.int a)) = lv') : en_W rel y pc lv (.int a :: st) c x u K = en_W rel y (pc + 2) lv' st c x u K := by
  subst hl; exact en_go h (Or.inl rfl) (by show en_sto (pc + 2) lv i (.int a) st c x u = _; unfold en_sto; rw [en_if_t hn]; rfl) en_ok_rf
theorem st_istore_n {k : Fin 4} {i : Nat} {a : Int32} {lv' : en_L} (h : decode (mt_code y) pc = .ok (.istore_n k, 1)) (hi : (k : Nat) = i) (hn : i < lv.length) (hl : lv.set i (some (.int a)) = lv') : en_W rel y pc lv (.int a :: st) c x u K = en_W rel y (pc + 1) lv' st c x u K := by
  subst hl; exact en_go h (Or.inl rfl) (by show en_sto (pc + 1) lv (k : Nat) (.int a) st c x u = _; rw [hi]; unfold en_sto; rw [en_if_t hn]; rfl) en_ok_rf
theorem st_aload {i : Nat} {a : Nat} (h : decode (mt_code y) pc = .ok (.aload i, 2)) (hl : lv[i]? = some (some (.ref a))) : en_W rel y pc lv (st) c x u K = en_W rel y (pc + 2) lv (.ref a :: st) c x u K := by
  exact en_go h (Or.inl rfl) (by show en_ldA lv i _ = _; unfold en_ldA; rw [hl]; rfl) en_ok_rf
theorem st_aload_n {k : Fin 4} {i : Nat} {a : Nat} (h : decode (mt_code y) pc = .ok (.aload_n k, 1)) (hi : (k : Nat) = i) (hl : lv[i]? = some (some (.ref a))) : en_W rel y pc lv (st) c x u K = en_W rel y (pc + 1) lv (.ref a :: st) c x u K := by
  exact en_go h (Or.inl rfl) (by show en_ldA lv (k : Nat) _ = _; unfold en_ldA; rw [hi, hl]; rfl) en_ok_rf
theorem st_astore {i : Nat} {a : Nat} {lv' : en_L} (h : decode (mt_code y) pc = .ok (.astore i, 2)) (hn : i < lv.length) (hl : lv.set i (some (.ref a)) = lv') : en_W rel y pc lv (.ref a :: st) c x u K = en_W rel y (pc + 2) lv' st c x u K := by
  subst hl; exact en_go h (Or.inl rfl) (by show en_sto (pc + 2) lv i (.ref a) st c x u = _; unfold en_sto; rw [en_if_t hn]; rfl) en_ok_rf
theorem st_astore_n {k : Fin 4} {i : Nat} {a : Nat} {lv' : en_L} (h : decode (mt_code y) pc = .ok (.astore_n k, 1)) (hi : (k : Nat) = i) (hn : i < lv.length) (hl : lv.set i (some (.ref a)) = lv') : en_W rel y pc lv (.ref a :: st) c x u K = en_W rel y (pc + 1) lv' st c x u K := by
  subst hl; exact en_go h (Or.inl rfl) (by show en_sto (pc + 1) lv (k : Nat) (.ref a) st c x u = _; rw [hi]; unfold en_sto; rw [en_if_t hn]; rfl) en_ok_rf
theorem st_iinc {i : Nat} {k : Int} {a b : Int32} {lv' : en_L} (h : decode (mt_code y) pc = .ok (.iinc i k, 3)) (hl : lv[i]? = some (some (.int a))) (hn : i < lv.length) (hb : Int32.ofInt k = b) (hs : lv.set i (some (.int (a + b))) = lv') : en_W rel y pc lv (st) c x u K = en_W rel y (pc + 3) lv' st c x u K := by
  subst hb; subst hs; exact en_go h (Or.inl rfl) (by show en_ldI lv i _ = _; unfold en_ldI; rw [hl]; show en_sto (pc + 3) lv i _ st c x u = _; unfold en_sto; rw [en_if_t hn]; rfl) en_ok_rf
theorem st_iadd {a b : Int32} (h : decode (mt_code y) pc = .ok (.iadd, 1)) : en_W rel y pc lv (.int b :: .int a :: st) c x u K = en_W rel y (pc + 1) lv (.int (a + b) :: st) c x u K := by
  exact en_go h (Or.inl rfl) rfl en_ok_rf
theorem st_isub {a b : Int32} (h : decode (mt_code y) pc = .ok (.isub, 1)) : en_W rel y pc lv (.int b :: .int a :: st) c x u K = en_W rel y (pc + 1) lv (.int (a - b) :: st) c x u K := by
  exact en_go h (Or.inl rfl) rfl en_ok_rf
theorem st_imul {a b : Int32} (h : decode (mt_code y) pc = .ok (.imul, 1)) : en_W rel y pc lv (.int b :: .int a :: st) c x u K = en_W rel y (pc + 1) lv (.int (a * b) :: st) c x u K := by
  exact en_go h (Or.inl rfl) rfl en_ok_rf
theorem st_iand {a b : Int32} (h : decode (mt_code y) pc = .ok (.iand, 1)) : en_W rel y pc lv (.int b :: .int a :: st) c x u K = en_W rel y (pc + 1) lv (.int (a &&& b) :: st) c x u K := by
  exact en_go h (Or.inl rfl) rfl en_ok_rf
theorem st_idiv {a b : Int32} (h : decode (mt_code y) pc = .ok (.idiv, 1)) (hb : ¬ b = 0) : en_W rel y pc lv (.int b :: .int a :: st) c x u K = en_W rel y (pc + 1) lv (.int (a / b) :: st) c x u K := by
  exact en_go h (Or.inl rfl) (en_if_t hb) en_ok_rf
theorem st_irem {a b : Int32} (h : decode (mt_code y) pc = .ok (.irem, 1)) (hb : ¬ b = 0) : en_W rel y pc lv (.int b :: .int a :: st) c x u K = en_W rel y (pc + 1) lv (.int (a - a / b * b) :: st) c x u K := by
  exact en_go h (Or.inl rfl) (en_if_t hb) en_ok_rf
theorem st_land {a b : Int64} (h : decode (mt_code y) pc = .ok (.land, 1)) : en_W rel y pc lv (.long b :: .long a :: st) c x u K = en_W rel y (pc + 1) lv (.long (a &&& b) :: st) c x u K := by
  exact en_go h (Or.inl rfl) rfl en_ok_rf
theorem st_lor {a b : Int64} (h : decode (mt_code y) pc = .ok (.lor, 1)) : en_W rel y pc lv (.long b :: .long a :: st) c x u K = en_W rel y (pc + 1) lv (.long (a ||| b) :: st) c x u K := by
  exact en_go h (Or.inl rfl) rfl en_ok_rf
theorem st_lcmp {a b : Int64} (h : decode (mt_code y) pc = .ok (.lcmp, 1)) : en_W rel y pc lv (.long b :: .long a :: st) c x u K = en_W rel y (pc + 1) lv (.int (lg_cmp a b) :: st) c x u K := by
  exact en_go h (Or.inl rfl) rfl en_ok_rf
theorem st_lshl {a : Int64} {b : Int32} (h : decode (mt_code y) pc = .ok (.lshl, 1)) : en_W rel y pc lv (.int b :: .long a :: st) c x u K = en_W rel y (pc + 1) lv (.long (a <<< (b.toInt64 &&& 63)) :: st) c x u K := by
  exact en_go h (Or.inl rfl) rfl en_ok_rf
theorem st_lshr {a : Int64} {b : Int32} (h : decode (mt_code y) pc = .ok (.lshr, 1)) : en_W rel y pc lv (.int b :: .long a :: st) c x u K = en_W rel y (pc + 1) lv (.long (a >>> (b.toInt64 &&& 63)) :: st) c x u K := by
  exact en_go h (Or.inl rfl) rfl en_ok_rf
theorem st_lushr {a : Int64} {b : Int32} (h : decode (mt_code y) pc = .ok (.lushr, 1)) : en_W rel y pc lv (.int b :: .long a :: st) c x u K = en_W rel y (pc + 1) lv (.long ((a.toUInt64 >>> (b.toInt64.toUInt64 &&& Int64.toUInt64 63)).toInt64) :: st) c x u K := by
  exact en_go h (Or.inl rfl) rfl en_ok_rf
theorem st_dup {v : Value} (h : decode (mt_code y) pc = .ok (.dup, 1)) (hv : v.category = 1) : en_W rel y pc lv (v :: st) c x u K = en_W rel y (pc + 1) lv (v :: v :: st) c x u K := by
  exact en_go h (Or.inl rfl) (en_if_t hv) en_ok_rf
theorem st_dup2 {v w : Value} (h : decode (mt_code y) pc = .ok (.dup2, 1)) (hv : v.category = 1 ∧ w.category = 1) : en_W rel y pc lv (v :: w :: st) c x u K = en_W rel y (pc + 1) lv (v :: w :: v :: w :: st) c x u K := by
  exact en_go h (Or.inl rfl) (en_if_t hv) en_ok_rf
theorem st_pop {v : Value} (h : decode (mt_code y) pc = .ok (.pop, 1)) (hv : v.category = 1) : en_W rel y pc lv (v :: st) c x u K = en_W rel y (pc + 1) lv (st) c x u K := by
  exact en_go h (Or.inl rfl) (en_if_t hv) en_ok_rf
theorem en_tg_eq {pc tgt : Nat} {off : Int} {lv : en_L} {st : List Value} {c : en_H} {x u : Nat} (ht : (pc : Int) + off = (tgt : Int)) : en_tg pc off lv st c x u = en_fr tgt lv st c x u := by
  unfold en_tg
  rw [ht, en_if_t (Int.natCast_nonneg tgt), Int.toNat_natCast]
theorem st_goto {off : Int} {tgt : Nat} (h : decode (mt_code y) pc = .ok (.goto off, 3)) (ht : (pc : Int) + off = (tgt : Int)) : en_W rel y pc lv (st) c x u K = en_W rel y tgt lv st c x u K := by
  exact en_go h (Or.inl rfl) (en_tg_eq ht) en_ok_rf
theorem st_if_eq {a : Int32} {off : Int} {tgt : Nat} (h : decode (mt_code y) pc = .ok (.ifCond .eq off, 3)) (ht : (pc : Int) + off = (tgt : Int)) : en_W rel y pc lv (.int a :: st) c x u K = (if a = 0 then en_W rel y tgt lv st c x u K else en_W rel y (pc + 3) lv st c x u K) := by
  by_cases hc : a = 0
  · rw [if_pos hc]; exact en_go h (Or.inl rfl) (by show en_if (0 ≤ (pc : Int) + off) (en_if (a = 0) _ _) none = _; rw [ht, en_if_t (Int.natCast_nonneg tgt), en_if_t hc, Int.toNat_natCast]; rfl) en_ok_rf
  · rw [if_neg hc]; exact en_go h (Or.inl rfl) (by show en_if (0 ≤ (pc : Int) + off) (en_if (a = 0) _ _) none = _; rw [ht, en_if_t (Int.natCast_nonneg tgt), en_if_f hc]; rfl) en_ok_rf
theorem st_icmp_eq {a b : Int32} {off : Int} {tgt : Nat} (h : decode (mt_code y) pc = .ok (.if_icmp .eq off, 3)) (ht : (pc : Int) + off = (tgt : Int)) : en_W rel y pc lv (.int b :: .int a :: st) c x u K = (if a = b then en_W rel y tgt lv st c x u K else en_W rel y (pc + 3) lv st c x u K) := by
  by_cases hc : a = b
  · rw [if_pos hc]; exact en_go h (Or.inl rfl) (by show en_if (0 ≤ (pc : Int) + off) (en_if (a = b) _ _) none = _; rw [ht, en_if_t (Int.natCast_nonneg tgt), en_if_t hc, Int.toNat_natCast]; rfl) en_ok_rf
  · rw [if_neg hc]; exact en_go h (Or.inl rfl) (by show en_if (0 ≤ (pc : Int) + off) (en_if (a = b) _ _) none = _; rw [ht, en_if_t (Int.natCast_nonneg tgt), en_if_f hc]; rfl) en_ok_rf
theorem st_if_ne {a : Int32} {off : Int} {tgt : Nat} (h : decode (mt_code y) pc = .ok (.ifCond .ne off, 3)) (ht : (pc : Int) + off = (tgt : Int)) : en_W rel y pc lv (.int a :: st) c x u K = (if a = 0 then en_W rel y (pc + 3) lv st c x u K else en_W rel y tgt lv st c x u K) := by
  by_cases hc : a = 0
  · rw [if_pos hc]; exact en_go h (Or.inl rfl) (by show en_if (0 ≤ (pc : Int) + off) (en_if (¬ a = 0) _ _) none = _; rw [ht, en_if_t (Int.natCast_nonneg tgt), en_if_f (fun z => z hc)]; rfl) en_ok_rf
  · rw [if_neg hc]; exact en_go h (Or.inl rfl) (by show en_if (0 ≤ (pc : Int) + off) (en_if (¬ a = 0) _ _) none = _; rw [ht, en_if_t (Int.natCast_nonneg tgt), en_if_t hc, Int.toNat_natCast]; rfl) en_ok_rf
theorem st_icmp_ne {a b : Int32} {off : Int} {tgt : Nat} (h : decode (mt_code y) pc = .ok (.if_icmp .ne off, 3)) (ht : (pc : Int) + off = (tgt : Int)) : en_W rel y pc lv (.int b :: .int a :: st) c x u K = (if a = b then en_W rel y (pc + 3) lv st c x u K else en_W rel y tgt lv st c x u K) := by
  by_cases hc : a = b
  · rw [if_pos hc]; exact en_go h (Or.inl rfl) (by show en_if (0 ≤ (pc : Int) + off) (en_if (¬ a = b) _ _) none = _; rw [ht, en_if_t (Int.natCast_nonneg tgt), en_if_f (fun z => z hc)]; rfl) en_ok_rf
  · rw [if_neg hc]; exact en_go h (Or.inl rfl) (by show en_if (0 ≤ (pc : Int) + off) (en_if (¬ a = b) _ _) none = _; rw [ht, en_if_t (Int.natCast_nonneg tgt), en_if_t hc, Int.toNat_natCast]; rfl) en_ok_rf
theorem st_if_lt {a : Int32} {off : Int} {tgt : Nat} (h : decode (mt_code y) pc = .ok (.ifCond .lt off, 3)) (ht : (pc : Int) + off = (tgt : Int)) : en_W rel y pc lv (.int a :: st) c x u K = (if a < 0 then en_W rel y tgt lv st c x u K else en_W rel y (pc + 3) lv st c x u K) := by
  by_cases hc : a < 0
  · rw [if_pos hc]; exact en_go h (Or.inl rfl) (by show en_if (0 ≤ (pc : Int) + off) (en_if (a < 0) _ _) none = _; rw [ht, en_if_t (Int.natCast_nonneg tgt), en_if_t hc, Int.toNat_natCast]; rfl) en_ok_rf
  · rw [if_neg hc]; exact en_go h (Or.inl rfl) (by show en_if (0 ≤ (pc : Int) + off) (en_if (a < 0) _ _) none = _; rw [ht, en_if_t (Int.natCast_nonneg tgt), en_if_f hc]; rfl) en_ok_rf
theorem st_icmp_lt {a b : Int32} {off : Int} {tgt : Nat} (h : decode (mt_code y) pc = .ok (.if_icmp .lt off, 3)) (ht : (pc : Int) + off = (tgt : Int)) : en_W rel y pc lv (.int b :: .int a :: st) c x u K = (if a < b then en_W rel y tgt lv st c x u K else en_W rel y (pc + 3) lv st c x u K) := by
  by_cases hc : a < b
  · rw [if_pos hc]; exact en_go h (Or.inl rfl) (by show en_if (0 ≤ (pc : Int) + off) (en_if (a < b) _ _) none = _; rw [ht, en_if_t (Int.natCast_nonneg tgt), en_if_t hc, Int.toNat_natCast]; rfl) en_ok_rf
  · rw [if_neg hc]; exact en_go h (Or.inl rfl) (by show en_if (0 ≤ (pc : Int) + off) (en_if (a < b) _ _) none = _; rw [ht, en_if_t (Int.natCast_nonneg tgt), en_if_f hc]; rfl) en_ok_rf
theorem st_if_ge {a : Int32} {off : Int} {tgt : Nat} (h : decode (mt_code y) pc = .ok (.ifCond .ge off, 3)) (ht : (pc : Int) + off = (tgt : Int)) : en_W rel y pc lv (.int a :: st) c x u K = (if 0 ≤ a then en_W rel y tgt lv st c x u K else en_W rel y (pc + 3) lv st c x u K) := by
  by_cases hc : 0 ≤ a
  · rw [if_pos hc]; exact en_go h (Or.inl rfl) (by show en_if (0 ≤ (pc : Int) + off) (en_if (0 ≤ a) _ _) none = _; rw [ht, en_if_t (Int.natCast_nonneg tgt), en_if_t hc, Int.toNat_natCast]; rfl) en_ok_rf
  · rw [if_neg hc]; exact en_go h (Or.inl rfl) (by show en_if (0 ≤ (pc : Int) + off) (en_if (0 ≤ a) _ _) none = _; rw [ht, en_if_t (Int.natCast_nonneg tgt), en_if_f hc]; rfl) en_ok_rf
theorem st_icmp_ge {a b : Int32} {off : Int} {tgt : Nat} (h : decode (mt_code y) pc = .ok (.if_icmp .ge off, 3)) (ht : (pc : Int) + off = (tgt : Int)) : en_W rel y pc lv (.int b :: .int a :: st) c x u K = (if b ≤ a then en_W rel y tgt lv st c x u K else en_W rel y (pc + 3) lv st c x u K) := by
  by_cases hc : b ≤ a
  · rw [if_pos hc]; exact en_go h (Or.inl rfl) (by show en_if (0 ≤ (pc : Int) + off) (en_if (b ≤ a) _ _) none = _; rw [ht, en_if_t (Int.natCast_nonneg tgt), en_if_t hc, Int.toNat_natCast]; rfl) en_ok_rf
  · rw [if_neg hc]; exact en_go h (Or.inl rfl) (by show en_if (0 ≤ (pc : Int) + off) (en_if (b ≤ a) _ _) none = _; rw [ht, en_if_t (Int.natCast_nonneg tgt), en_if_f hc]; rfl) en_ok_rf
theorem st_if_gt {a : Int32} {off : Int} {tgt : Nat} (h : decode (mt_code y) pc = .ok (.ifCond .gt off, 3)) (ht : (pc : Int) + off = (tgt : Int)) : en_W rel y pc lv (.int a :: st) c x u K = (if 0 < a then en_W rel y tgt lv st c x u K else en_W rel y (pc + 3) lv st c x u K) := by
  by_cases hc : 0 < a
  · rw [if_pos hc]; exact en_go h (Or.inl rfl) (by show en_if (0 ≤ (pc : Int) + off) (en_if (0 < a) _ _) none = _; rw [ht, en_if_t (Int.natCast_nonneg tgt), en_if_t hc, Int.toNat_natCast]; rfl) en_ok_rf
  · rw [if_neg hc]; exact en_go h (Or.inl rfl) (by show en_if (0 ≤ (pc : Int) + off) (en_if (0 < a) _ _) none = _; rw [ht, en_if_t (Int.natCast_nonneg tgt), en_if_f hc]; rfl) en_ok_rf
theorem st_icmp_gt {a b : Int32} {off : Int} {tgt : Nat} (h : decode (mt_code y) pc = .ok (.if_icmp .gt off, 3)) (ht : (pc : Int) + off = (tgt : Int)) : en_W rel y pc lv (.int b :: .int a :: st) c x u K = (if b < a then en_W rel y tgt lv st c x u K else en_W rel y (pc + 3) lv st c x u K) := by
  by_cases hc : b < a
  · rw [if_pos hc]; exact en_go h (Or.inl rfl) (by show en_if (0 ≤ (pc : Int) + off) (en_if (b < a) _ _) none = _; rw [ht, en_if_t (Int.natCast_nonneg tgt), en_if_t hc, Int.toNat_natCast]; rfl) en_ok_rf
  · rw [if_neg hc]; exact en_go h (Or.inl rfl) (by show en_if (0 ≤ (pc : Int) + off) (en_if (b < a) _ _) none = _; rw [ht, en_if_t (Int.natCast_nonneg tgt), en_if_f hc]; rfl) en_ok_rf
theorem st_if_le {a : Int32} {off : Int} {tgt : Nat} (h : decode (mt_code y) pc = .ok (.ifCond .le off, 3)) (ht : (pc : Int) + off = (tgt : Int)) : en_W rel y pc lv (.int a :: st) c x u K = (if a ≤ 0 then en_W rel y tgt lv st c x u K else en_W rel y (pc + 3) lv st c x u K) := by
  by_cases hc : a ≤ 0
  · rw [if_pos hc]; exact en_go h (Or.inl rfl) (by show en_if (0 ≤ (pc : Int) + off) (en_if (a ≤ 0) _ _) none = _; rw [ht, en_if_t (Int.natCast_nonneg tgt), en_if_t hc, Int.toNat_natCast]; rfl) en_ok_rf
  · rw [if_neg hc]; exact en_go h (Or.inl rfl) (by show en_if (0 ≤ (pc : Int) + off) (en_if (a ≤ 0) _ _) none = _; rw [ht, en_if_t (Int.natCast_nonneg tgt), en_if_f hc]; rfl) en_ok_rf
theorem st_icmp_le {a b : Int32} {off : Int} {tgt : Nat} (h : decode (mt_code y) pc = .ok (.if_icmp .le off, 3)) (ht : (pc : Int) + off = (tgt : Int)) : en_W rel y pc lv (.int b :: .int a :: st) c x u K = (if a ≤ b then en_W rel y tgt lv st c x u K else en_W rel y (pc + 3) lv st c x u K) := by
  by_cases hc : a ≤ b
  · rw [if_pos hc]; exact en_go h (Or.inl rfl) (by show en_if (0 ≤ (pc : Int) + off) (en_if (a ≤ b) _ _) none = _; rw [ht, en_if_t (Int.natCast_nonneg tgt), en_if_t hc, Int.toNat_natCast]; rfl) en_ok_rf
  · rw [if_neg hc]; exact en_go h (Or.inl rfl) (by show en_if (0 ≤ (pc : Int) + off) (en_if (a ≤ b) _ _) none = _; rw [ht, en_if_t (Int.natCast_nonneg tgt), en_if_f hc]; rfl) en_ok_rf
theorem st_iald {a : Nat} {i : Int32} (h : decode (mt_code y) pc = .ok (.iaload, 1)) : en_W rel y pc lv (.int i :: .ref a :: st) c x u K = en_rdI (c a) 0 (fun n f => en_rd y a x ∧ vp_in i n ∧ en_W rel y (pc + 1) lv (.int (f i.toNatClampNeg) :: st) c x u K) := by
  rw [en_eq h (Or.inl rfl)]
  show en_nx rel _ K c x u (en_arI (c a) (fun t n f => en_if (t = 0 ∧ en_rd y a x ∧ vp_in i n) (en_fr (pc + 1) lv (.int (f i.toNatClampNeg) :: st) c x u) none)) = _
  generalize c a = e
  match e with
  | .inl (t, n, .inl f) =>
    refine (en_nx_if).trans (propext ⟨fun w => ⟨w.1.1, w.1.2.1, w.1.2.2, w.2.2⟩, fun w => ⟨⟨w.1, w.2.1, w.2.2.1⟩, en_ok_rf, w.2.2.2⟩⟩)
  | .inl (t, n, .inr f) => rfl
  | .inr q => rfl
theorem st_zald {a : Nat} {i : Int32} (h : decode (mt_code y) pc = .ok (.baload, 1)) : en_W rel y pc lv (.int i :: .ref a :: st) c x u K = en_rdI (c a) 2 (fun n f => a < x ∧ vp_in i n ∧ en_W rel y (pc + 1) lv (.int (f i.toNatClampNeg) :: st) c x u K) := by
  rw [en_eq h (Or.inl rfl)]
  show en_nx rel _ K c x u (en_arI (c a) (fun t n f => en_if (t = 2 ∧ a < x ∧ vp_in i n) (en_fr (pc + 1) lv (.int (f i.toNatClampNeg) :: st) c x u) none)) = _
  generalize c a = e
  match e with
  | .inl (t, n, .inl f) =>
    refine (en_nx_if).trans (propext ⟨fun w => ⟨w.1.1, w.1.2.1, w.1.2.2, w.2.2⟩, fun w => ⟨⟨w.1, w.2.1, w.2.2.1⟩, en_ok_rf, w.2.2.2⟩⟩)
  | .inl (t, n, .inr f) => rfl
  | .inr q => rfl
theorem st_lald {a : Nat} {i : Int32} (h : decode (mt_code y) pc = .ok (.laload, 1)) : en_W rel y pc lv (.int i :: .ref a :: st) c x u K = en_rdL (c a) (fun n f => a < x ∧ vp_in i n ∧ en_W rel y (pc + 1) lv (.long (f i.toNatClampNeg) :: st) c x u K) := by
  rw [en_eq h (Or.inl rfl)]
  show en_nx rel _ K c x u (en_arL (c a) (fun t n f => en_if (t = 1 ∧ a < x ∧ vp_in i n) (en_fr (pc + 1) lv (.long (f i.toNatClampNeg) :: st) c x u) none)) = _
  generalize c a = e
  match e with
  | .inl (t, n, .inr (.inl f)) =>
    refine (en_nx_if).trans (propext ⟨fun w => ⟨w.1.1, w.1.2.1, w.1.2.2, w.2.2⟩, fun w => ⟨⟨w.1, w.2.1, w.2.2.1⟩, en_ok_rf, w.2.2.2⟩⟩)
  | .inl (t, n, .inr (.inr f)) => rfl
  | .inl (t, n, .inl f) => rfl
  | .inr q => rfl
theorem st_iast {a : Nat} {i v : Int32} (h : decode (mt_code y) pc = .ok (.iastore, 1)) : en_W rel y pc lv (.int v :: .int i :: .ref a :: st) c x u K = en_rdI (c a) 0 (fun n f => a < x ∧ vp_in i n ∧ en_W rel y (pc + 1) lv st (en_up c a (.inl (0, n, .inl (upd f i.toNatClampNeg v)))) x u K) := by
  rw [en_eq h (Or.inl rfl)]
  show en_nx rel _ K c x u (en_arI (c a) (fun t n f => en_if (t = 0 ∧ a < x ∧ vp_in i n) (en_fr (pc + 1) lv st (en_up c a (.inl (0, n, .inl (upd f i.toNatClampNeg v)))) x u) none)) = _
  generalize c a = e
  match e with
  | .inl (t, n, .inl f) =>
    refine (en_nx_if).trans (propext ⟨fun w => ⟨w.1.1, w.1.2.1, w.1.2.2, w.2.2⟩, fun w => ⟨⟨w.1, w.2.1, w.2.2.1⟩, en_ok_up w.2.1, w.2.2.2⟩⟩)
  | .inl (t, n, .inr f) => rfl
  | .inr q => rfl
theorem st_zast {a : Nat} {i v : Int32} (h : decode (mt_code y) pc = .ok (.bastore, 1)) : en_W rel y pc lv (.int v :: .int i :: .ref a :: st) c x u K = en_rdI (c a) 2 (fun n f => a < x ∧ vp_in i n ∧ en_W rel y (pc + 1) lv st (en_up c a (.inl (2, n, .inl (upd f i.toNatClampNeg (vp_nar .boolean v))))) x u K) := by
  rw [en_eq h (Or.inl rfl)]
  show en_nx rel _ K c x u (en_arI (c a) (fun t n f => en_if (t = 2 ∧ a < x ∧ vp_in i n) (en_fr (pc + 1) lv st (en_up c a (.inl (2, n, .inl (upd f i.toNatClampNeg (vp_nar .boolean v))))) x u) none)) = _
  generalize c a = e
  match e with
  | .inl (t, n, .inl f) =>
    refine (en_nx_if).trans (propext ⟨fun w => ⟨w.1.1, w.1.2.1, w.1.2.2, w.2.2⟩, fun w => ⟨⟨w.1, w.2.1, w.2.2.1⟩, en_ok_up w.2.1, w.2.2.2⟩⟩)
  | .inl (t, n, .inr f) => rfl
  | .inr q => rfl
theorem st_last {a : Nat} {i : Int32} {v : Int64} (h : decode (mt_code y) pc = .ok (.lastore, 1)) : en_W rel y pc lv (.long v :: .int i :: .ref a :: st) c x u K = en_rdL (c a) (fun n f => a < x ∧ vp_in i n ∧ en_W rel y (pc + 1) lv st (en_up c a (.inl (1, n, .inr (.inl (vp_updL f i.toNatClampNeg v))))) x u K) := by
  rw [en_eq h (Or.inl rfl)]
  show en_nx rel _ K c x u (en_arL (c a) (fun t n f => en_if (t = 1 ∧ a < x ∧ vp_in i n) (en_fr (pc + 1) lv st (en_up c a (.inl (1, n, .inr (.inl (vp_updL f i.toNatClampNeg v))))) x u) none)) = _
  generalize c a = e
  match e with
  | .inl (t, n, .inr (.inl f)) =>
    refine (en_nx_if).trans (propext ⟨fun w => ⟨w.1.1, w.1.2.1, w.1.2.2, w.2.2⟩, fun w => ⟨⟨w.1, w.2.1, w.2.2.1⟩, en_ok_up w.2.1, w.2.2.2⟩⟩)
  | .inl (t, n, .inr (.inr f)) => rfl
  | .inl (t, n, .inl f) => rfl
  | .inr q => rfl
theorem st_alen {a : Nat} (h : decode (mt_code y) pc = .ok (.arraylength, 1)) : en_W rel y pc lv (.ref a :: st) c x u K = en_rdN (c a) (fun t n => t < 3 ∧ en_rd y a x ∧ (a = en_S → t = 0) ∧ en_W rel y (pc + 1) lv (.int (Int32.ofNat n) :: st) c x u K) := by
  rw [en_eq h (Or.inl rfl)]
  show en_nx rel _ K c x u (en_arN (c a) (fun t n => en_if (t < 3 ∧ en_rd y a x ∧ (a = en_S → t = 0)) (en_fr (pc + 1) lv (.int (Int32.ofNat n) :: st) c x u) none)) = _
  generalize c a = e
  match e with
  | .inl (t, n, f) =>
    refine (en_nx_if).trans (propext ⟨fun w => ⟨w.1.1, w.1.2.1, w.1.2.2, w.2.2⟩, fun w => ⟨⟨w.1, w.2.1, w.2.2.1⟩, en_ok_rf, w.2.2.2⟩⟩)
  | .inr q => rfl
theorem st_get {n ci k kd : Nat} {fin : Bool} {a : Nat} (h : decode (mt_code y) pc = .ok (.getfield n, 3)) (hf : tb_fld (mt_cls y) n = some (ci, k, kd, fin)) : en_W rel y pc lv (.ref a :: st) c x u K = en_rdO (c a) ci (fun fs => a < x ∧ en_gv (fs[k]?) (fun v => en_W rel y (pc + 3) lv (v :: st) c x u K)) := by
  rw [en_eq h (Or.inl rfl)]
  show en_nx rel _ K c x u (en_op (tb_fld (mt_cls y) n) _) = _
  rw [hf]
  show en_nx rel _ K c x u (en_ob (c a) (fun ci' fs => en_op (fs[k]?) (fun v => en_if (a < x ∧ ci' = ci) (en_fr (pc + 3) lv (v :: st) c x u) none))) = _
  generalize c a = e
  match e with
  | .inl q => rfl
  | .inr (ci', fs) =>
    show en_nx rel _ K c x u (en_op (fs[k]?) (fun v => en_if (a < x ∧ ci' = ci) (en_fr (pc + 3) lv (v :: st) c x u) none)) = (ci' = ci ∧ a < x ∧ en_gv (fs[k]?) (fun v => en_W rel y (pc + 3) lv (v :: st) c x u K))
    generalize fs[k]? = o
    match o with
    | none => exact propext ⟨fun w => w.elim, fun w => w.2.2⟩
    | some v => exact (en_nx_if).trans (propext ⟨fun w => ⟨w.1.2, w.1.1, w.2.2⟩, fun w => ⟨⟨w.2.1, w.1⟩, en_ok_rf, w.2.2⟩⟩)
theorem st_put {n ci k kd : Nat} {fin : Bool} {a : Nat} {v : Value} (h : decode (mt_code y) pc = .ok (.putfield n, 3)) (hf : tb_fld (mt_cls y) n = some (ci, k, kd, fin)) : en_W rel y pc lv (v :: .ref a :: st) c x u K = en_rdO (c a) ci (fun fs => a < x ∧ k < fs.length ∧ en_fk kd v ∧ (fin = true → mt_init y = true) ∧ en_W rel y (pc + 3) lv st (en_up c a (.inr (ci, fs.set k v))) x u K) := by
  rw [en_eq h (Or.inl rfl)]
  show en_nx rel _ K c x u (en_op (tb_fld (mt_cls y) n) _) = _
  rw [hf]
  show en_nx rel _ K c x u (en_ob (c a) (fun ci' fs => en_if (a < x ∧ ci' = ci ∧ k < fs.length ∧ en_fk kd v ∧ (fin = true → mt_init y = true)) (en_fr (pc + 3) lv st (en_up c a (.inr (ci', fs.set k v))) x u) none)) = _
  generalize c a = e
  match e with
  | .inl q => rfl
  | .inr (ci', fs) =>
    refine (en_nx_if).trans (propext ⟨fun w => ?_, fun w => ?_⟩)
    · obtain ⟨⟨h1, rfl, h3, h4, h5⟩, -, h6⟩ := w
      exact ⟨rfl, h1, h3, h4, h5, h6⟩
    · obtain ⟨rfl, h1, h3, h4, h5, h6⟩ := w
      exact ⟨⟨h1, rfl, h3, h4, h5⟩, en_ok_up h1, h6⟩
theorem st_new {n ci : Nat} {fs : List Value} (h : decode (mt_code y) pc = .ok (.new n, 3)) (hf : tb_new (mt_cls y) n = some (ci, fs)) : en_W rel y pc lv (st) c x u K = en_W rel y (pc + 3) lv (.ref x :: st) (en_up c x (.inr (ci, fs))) (x + 1) (u + fs.length) K := by
  exact en_go h (Or.inl rfl) (by show en_op (tb_new (mt_cls y) n) _ = _; rw [hf]; rfl) en_ok_new
theorem st_newa {ty : ArrayType} {t : Nat} {n : Int32} (h : decode (mt_code y) pc = .ok (.newarray ty, 2)) (hf : en_at ty = some t) : en_W rel y pc lv (.int n :: st) c x u K = ((¬ n < 0 ∧ n.toNatClampNeg ≤ 1000000) ∧ en_W rel y (pc + 2) lv (.ref x :: st) (en_up c x (en_z t n.toNatClampNeg)) (x + 1) (u + n.toNatClampNeg) K) := by
  rw [en_eq h (Or.inl rfl)]
  show en_nx rel _ K c x u (en_op (en_at ty) _) = _
  rw [hf]
  exact (en_nx_if).trans (propext ⟨fun w => ⟨w.1, w.2.2⟩, fun w => ⟨w.1, en_ok_new, w.2⟩⟩)
theorem st_virt0 {n y' ci : Nat} {a : Nat} (h : decode (mt_code y) pc = .ok (.invokevirtual n, 3)) (hf : tb_mth (mt_cls y) n = some (0, y', 0, ci)) : en_W rel y pc lv (.ref a :: st) c x u K = (en_rdO (c a) ci (fun _ => a < x ∧ st.length ≤ 4 ∧ en_cl rel y' [.ref a] c x u (fun v c' x' u' => en_W rel y (pc + 3) lv (v.toList ++ st) c' x' u' K))) := by
  rw [en_eq h (Or.inl rfl)]
  show en_nx rel _ K c x u (en_op (tb_mth (mt_cls y) n) _) = _
  rw [hf]
  show en_nx rel _ K c x u (en_if ((0 : Nat) = 0) _ none) = _
  rw [en_if_t rfl]
  show en_nx rel _ K c x u (en_if (a < x ∧ st.length ≤ 4 ∧ 0 = 0) (en_ob (c a) (fun ci' _ => en_if (ci' = ci) (some (.inr (.inr (y', [.ref a], pc + 3, lv, st)))) none)) none) = _
  rw [en_nx_if2]
  generalize c a = e
  match e with
  | .inl q => exact propext ⟨fun w => w.2.elim, fun w => w.elim⟩
  | .inr (ci', fs) =>
    show (_ ∧ en_nx rel _ K c x u (en_if (ci' = ci) _ none)) = _
    rw [en_nx_if2]
    exact propext ⟨fun w => ⟨w.2.1, w.1.1, w.1.2.1, w.2.2⟩, fun w => ⟨⟨w.2.1, w.2.2.1, rfl⟩, w.1, w.2.2.2⟩⟩
theorem st_init20 {n y' ci : Nat} {a : Nat} (h : decode (mt_code y) pc = .ok (.invokespecial n, 3)) (hf : tb_mth (mt_cls y) n = some (2, y', 0, ci)) : en_W rel y pc lv (.ref a :: st) c x u K = (st.length ≤ 4 ∧ en_cl rel y' [.ref a] c x u (fun v c' x' u' => en_W rel y (pc + 3) lv (v.toList ++ st) c' x' u' K)) := by
  rw [en_eq h (Or.inl rfl)]
  show en_nx rel _ K c x u (en_op (tb_mth (mt_cls y) n) _) = _
  rw [hf]
  show en_nx rel _ K c x u (en_if (st.length ≤ 4 ∧ 0 = 0) (some (.inr (.inr (y', [.ref a], pc + 3, lv, st)))) none) = _
  rw [en_nx_if2]
  exact propext ⟨fun w => ⟨w.1.1, w.2⟩, fun w => ⟨⟨w.1, rfl⟩, w.2⟩⟩
theorem st_init30 {n y' ci : Nat} {a : Nat} (h : decode (mt_code y) pc = .ok (.invokespecial n, 3)) (hf : tb_mth (mt_cls y) n = some (3, y', 0, ci)) : en_W rel y pc lv (.ref a :: st) c x u K = (st.length ≤ 4 ∧ en_cl rel y' [.ref a] c x u (fun v c' x' u' => en_W rel y (pc + 3) lv (v.toList ++ st) c' x' u' K)) := by
  rw [en_eq h (Or.inl rfl)]
  show en_nx rel _ K c x u (en_op (tb_mth (mt_cls y) n) _) = _
  rw [hf]
  show en_nx rel _ K c x u (en_if (st.length ≤ 4 ∧ 0 = 0) (some (.inr (.inr (y', [.ref a], pc + 3, lv, st)))) none) = _
  rw [en_nx_if2]
  exact propext ⟨fun w => ⟨w.1.1, w.2⟩, fun w => ⟨⟨w.1, rfl⟩, w.2⟩⟩
theorem st_virt1 {n y' ci : Nat} {a : Nat} {v0 : Value} (h : decode (mt_code y) pc = .ok (.invokevirtual n, 3)) (hf : tb_mth (mt_cls y) n = some (0, y', 1, ci)) : en_W rel y pc lv (v0 :: .ref a :: st) c x u K = (en_rdO (c a) ci (fun _ => a < x ∧ st.length ≤ 4 ∧ en_cl rel y' [.ref a, v0] c x u (fun v c' x' u' => en_W rel y (pc + 3) lv (v.toList ++ st) c' x' u' K))) := by
  rw [en_eq h (Or.inl rfl)]
  show en_nx rel _ K c x u (en_op (tb_mth (mt_cls y) n) _) = _
  rw [hf]
  show en_nx rel _ K c x u (en_if ((0 : Nat) = 0) _ none) = _
  rw [en_if_t rfl]
  show en_nx rel _ K c x u (en_if (a < x ∧ st.length ≤ 4 ∧ 1 = 1) (en_ob (c a) (fun ci' _ => en_if (ci' = ci) (some (.inr (.inr (y', [.ref a, v0], pc + 3, lv, st)))) none)) none) = _
  rw [en_nx_if2]
  generalize c a = e
  match e with
  | .inl q => exact propext ⟨fun w => w.2.elim, fun w => w.elim⟩
  | .inr (ci', fs) =>
    show (_ ∧ en_nx rel _ K c x u (en_if (ci' = ci) _ none)) = _
    rw [en_nx_if2]
    exact propext ⟨fun w => ⟨w.2.1, w.1.1, w.1.2.1, w.2.2⟩, fun w => ⟨⟨w.2.1, w.2.2.1, rfl⟩, w.1, w.2.2.2⟩⟩
theorem st_init21 {n y' ci : Nat} {a : Nat} {v0 : Value} (h : decode (mt_code y) pc = .ok (.invokespecial n, 3)) (hf : tb_mth (mt_cls y) n = some (2, y', 1, ci)) : en_W rel y pc lv (v0 :: .ref a :: st) c x u K = (st.length ≤ 4 ∧ en_cl rel y' [.ref a, v0] c x u (fun v c' x' u' => en_W rel y (pc + 3) lv (v.toList ++ st) c' x' u' K)) := by
  rw [en_eq h (Or.inl rfl)]
  show en_nx rel _ K c x u (en_op (tb_mth (mt_cls y) n) _) = _
  rw [hf]
  show en_nx rel _ K c x u (en_if (st.length ≤ 4 ∧ 1 = 1) (some (.inr (.inr (y', [.ref a, v0], pc + 3, lv, st)))) none) = _
  rw [en_nx_if2]
  exact propext ⟨fun w => ⟨w.1.1, w.2⟩, fun w => ⟨⟨w.1, rfl⟩, w.2⟩⟩
theorem st_init31 {n y' ci : Nat} {a : Nat} {v0 : Value} (h : decode (mt_code y) pc = .ok (.invokespecial n, 3)) (hf : tb_mth (mt_cls y) n = some (3, y', 1, ci)) : en_W rel y pc lv (v0 :: .ref a :: st) c x u K = (st.length ≤ 4 ∧ en_cl rel y' [.ref a, v0] c x u (fun v c' x' u' => en_W rel y (pc + 3) lv (v.toList ++ st) c' x' u' K)) := by
  rw [en_eq h (Or.inl rfl)]
  show en_nx rel _ K c x u (en_op (tb_mth (mt_cls y) n) _) = _
  rw [hf]
  show en_nx rel _ K c x u (en_if (st.length ≤ 4 ∧ 1 = 1) (some (.inr (.inr (y', [.ref a, v0], pc + 3, lv, st)))) none) = _
  rw [en_nx_if2]
  exact propext ⟨fun w => ⟨w.1.1, w.2⟩, fun w => ⟨⟨w.1, rfl⟩, w.2⟩⟩
theorem st_stat1 {n y' ci : Nat} {v0 : Value} (h : decode (mt_code y) pc = .ok (.invokestatic n, 3)) (hf : tb_mth (mt_cls y) n = some (1, y', 1, ci)) : en_W rel y pc lv (v0 :: st) c x u K = (st.length ≤ 4 ∧ en_cl rel y' [v0] c x u (fun v c' x' u' => en_W rel y (pc + 3) lv (v.toList ++ st) c' x' u' K)) := by
  rw [en_eq h (Or.inl rfl)]
  show en_nx rel _ K c x u (en_op (tb_mth (mt_cls y) n) _) = _
  rw [hf]
  show en_nx rel _ K c x u (en_if (st.length ≤ 4 ∧ 1 = 1) (some (.inr (.inr (y', [v0], pc + 3, lv, st)))) none) = _
  rw [en_nx_if2]
  exact propext ⟨fun w => ⟨w.1.1, w.2⟩, fun w => ⟨⟨w.1, rfl⟩, w.2⟩⟩
theorem st_virt2 {n y' ci : Nat} {a : Nat} {v0 v1 : Value} (h : decode (mt_code y) pc = .ok (.invokevirtual n, 3)) (hf : tb_mth (mt_cls y) n = some (0, y', 2, ci)) : en_W rel y pc lv (v1 :: v0 :: .ref a :: st) c x u K = (en_rdO (c a) ci (fun _ => a < x ∧ st.length ≤ 4 ∧ en_cl rel y' [.ref a, v0, v1] c x u (fun v c' x' u' => en_W rel y (pc + 3) lv (v.toList ++ st) c' x' u' K))) := by
  rw [en_eq h (Or.inl rfl)]
  show en_nx rel _ K c x u (en_op (tb_mth (mt_cls y) n) _) = _
  rw [hf]
  show en_nx rel _ K c x u (en_if ((0 : Nat) = 0) _ none) = _
  rw [en_if_t rfl]
  show en_nx rel _ K c x u (en_if (a < x ∧ st.length ≤ 4 ∧ 2 = 2) (en_ob (c a) (fun ci' _ => en_if (ci' = ci) (some (.inr (.inr (y', [.ref a, v0, v1], pc + 3, lv, st)))) none)) none) = _
  rw [en_nx_if2]
  generalize c a = e
  match e with
  | .inl q => exact propext ⟨fun w => w.2.elim, fun w => w.elim⟩
  | .inr (ci', fs) =>
    show (_ ∧ en_nx rel _ K c x u (en_if (ci' = ci) _ none)) = _
    rw [en_nx_if2]
    exact propext ⟨fun w => ⟨w.2.1, w.1.1, w.1.2.1, w.2.2⟩, fun w => ⟨⟨w.2.1, w.2.2.1, rfl⟩, w.1, w.2.2.2⟩⟩
theorem st_init22 {n y' ci : Nat} {a : Nat} {v0 v1 : Value} (h : decode (mt_code y) pc = .ok (.invokespecial n, 3)) (hf : tb_mth (mt_cls y) n = some (2, y', 2, ci)) : en_W rel y pc lv (v1 :: v0 :: .ref a :: st) c x u K = (st.length ≤ 4 ∧ en_cl rel y' [.ref a, v0, v1] c x u (fun v c' x' u' => en_W rel y (pc + 3) lv (v.toList ++ st) c' x' u' K)) := by
  rw [en_eq h (Or.inl rfl)]
  show en_nx rel _ K c x u (en_op (tb_mth (mt_cls y) n) _) = _
  rw [hf]
  show en_nx rel _ K c x u (en_if (st.length ≤ 4 ∧ 2 = 2) (some (.inr (.inr (y', [.ref a, v0, v1], pc + 3, lv, st)))) none) = _
  rw [en_nx_if2]
  exact propext ⟨fun w => ⟨w.1.1, w.2⟩, fun w => ⟨⟨w.1, rfl⟩, w.2⟩⟩
theorem st_init32 {n y' ci : Nat} {a : Nat} {v0 v1 : Value} (h : decode (mt_code y) pc = .ok (.invokespecial n, 3)) (hf : tb_mth (mt_cls y) n = some (3, y', 2, ci)) : en_W rel y pc lv (v1 :: v0 :: .ref a :: st) c x u K = (st.length ≤ 4 ∧ en_cl rel y' [.ref a, v0, v1] c x u (fun v c' x' u' => en_W rel y (pc + 3) lv (v.toList ++ st) c' x' u' K)) := by
  rw [en_eq h (Or.inl rfl)]
  show en_nx rel _ K c x u (en_op (tb_mth (mt_cls y) n) _) = _
  rw [hf]
  show en_nx rel _ K c x u (en_if (st.length ≤ 4 ∧ 2 = 2) (some (.inr (.inr (y', [.ref a, v0, v1], pc + 3, lv, st)))) none) = _
  rw [en_nx_if2]
  exact propext ⟨fun w => ⟨w.1.1, w.2⟩, fun w => ⟨⟨w.1, rfl⟩, w.2⟩⟩
theorem st_stat2 {n y' ci : Nat} {v0 v1 : Value} (h : decode (mt_code y) pc = .ok (.invokestatic n, 3)) (hf : tb_mth (mt_cls y) n = some (1, y', 2, ci)) : en_W rel y pc lv (v1 :: v0 :: st) c x u K = (st.length ≤ 4 ∧ en_cl rel y' [v0, v1] c x u (fun v c' x' u' => en_W rel y (pc + 3) lv (v.toList ++ st) c' x' u' K)) := by
  rw [en_eq h (Or.inl rfl)]
  show en_nx rel _ K c x u (en_op (tb_mth (mt_cls y) n) _) = _
  rw [hf]
  show en_nx rel _ K c x u (en_if (st.length ≤ 4 ∧ 2 = 2) (some (.inr (.inr (y', [v0, v1], pc + 3, lv, st)))) none) = _
  rw [en_nx_if2]
  exact propext ⟨fun w => ⟨w.1.1, w.2⟩, fun w => ⟨⟨w.1, rfl⟩, w.2⟩⟩
theorem st_virt3 {n y' ci : Nat} {a : Nat} {v0 v1 v2 : Value} (h : decode (mt_code y) pc = .ok (.invokevirtual n, 3)) (hf : tb_mth (mt_cls y) n = some (0, y', 3, ci)) : en_W rel y pc lv (v2 :: v1 :: v0 :: .ref a :: st) c x u K = (en_rdO (c a) ci (fun _ => a < x ∧ st.length ≤ 4 ∧ en_cl rel y' [.ref a, v0, v1, v2] c x u (fun v c' x' u' => en_W rel y (pc + 3) lv (v.toList ++ st) c' x' u' K))) := by
  rw [en_eq h (Or.inl rfl)]
  show en_nx rel _ K c x u (en_op (tb_mth (mt_cls y) n) _) = _
  rw [hf]
  show en_nx rel _ K c x u (en_if ((0 : Nat) = 0) _ none) = _
  rw [en_if_t rfl]
  show en_nx rel _ K c x u (en_if (a < x ∧ st.length ≤ 4 ∧ 3 = 3) (en_ob (c a) (fun ci' _ => en_if (ci' = ci) (some (.inr (.inr (y', [.ref a, v0, v1, v2], pc + 3, lv, st)))) none)) none) = _
  rw [en_nx_if2]
  generalize c a = e
  match e with
  | .inl q => exact propext ⟨fun w => w.2.elim, fun w => w.elim⟩
  | .inr (ci', fs) =>
    show (_ ∧ en_nx rel _ K c x u (en_if (ci' = ci) _ none)) = _
    rw [en_nx_if2]
    exact propext ⟨fun w => ⟨w.2.1, w.1.1, w.1.2.1, w.2.2⟩, fun w => ⟨⟨w.2.1, w.2.2.1, rfl⟩, w.1, w.2.2.2⟩⟩
theorem st_init23 {n y' ci : Nat} {a : Nat} {v0 v1 v2 : Value} (h : decode (mt_code y) pc = .ok (.invokespecial n, 3)) (hf : tb_mth (mt_cls y) n = some (2, y', 3, ci)) : en_W rel y pc lv (v2 :: v1 :: v0 :: .ref a :: st) c x u K = (st.length ≤ 4 ∧ en_cl rel y' [.ref a, v0, v1, v2] c x u (fun v c' x' u' => en_W rel y (pc + 3) lv (v.toList ++ st) c' x' u' K)) := by
  rw [en_eq h (Or.inl rfl)]
  show en_nx rel _ K c x u (en_op (tb_mth (mt_cls y) n) _) = _
  rw [hf]
  show en_nx rel _ K c x u (en_if (st.length ≤ 4 ∧ 3 = 3) (some (.inr (.inr (y', [.ref a, v0, v1, v2], pc + 3, lv, st)))) none) = _
  rw [en_nx_if2]
  exact propext ⟨fun w => ⟨w.1.1, w.2⟩, fun w => ⟨⟨w.1, rfl⟩, w.2⟩⟩
theorem st_init33 {n y' ci : Nat} {a : Nat} {v0 v1 v2 : Value} (h : decode (mt_code y) pc = .ok (.invokespecial n, 3)) (hf : tb_mth (mt_cls y) n = some (3, y', 3, ci)) : en_W rel y pc lv (v2 :: v1 :: v0 :: .ref a :: st) c x u K = (st.length ≤ 4 ∧ en_cl rel y' [.ref a, v0, v1, v2] c x u (fun v c' x' u' => en_W rel y (pc + 3) lv (v.toList ++ st) c' x' u' K)) := by
  rw [en_eq h (Or.inl rfl)]
  show en_nx rel _ K c x u (en_op (tb_mth (mt_cls y) n) _) = _
  rw [hf]
  show en_nx rel _ K c x u (en_if (st.length ≤ 4 ∧ 3 = 3) (some (.inr (.inr (y', [.ref a, v0, v1, v2], pc + 3, lv, st)))) none) = _
  rw [en_nx_if2]
  exact propext ⟨fun w => ⟨w.1.1, w.2⟩, fun w => ⟨⟨w.1, rfl⟩, w.2⟩⟩
theorem st_stat3 {n y' ci : Nat} {v0 v1 v2 : Value} (h : decode (mt_code y) pc = .ok (.invokestatic n, 3)) (hf : tb_mth (mt_cls y) n = some (1, y', 3, ci)) : en_W rel y pc lv (v2 :: v1 :: v0 :: st) c x u K = (st.length ≤ 4 ∧ en_cl rel y' [v0, v1, v2] c x u (fun v c' x' u' => en_W rel y (pc + 3) lv (v.toList ++ st) c' x' u' K)) := by
  rw [en_eq h (Or.inl rfl)]
  show en_nx rel _ K c x u (en_op (tb_mth (mt_cls y) n) _) = _
  rw [hf]
  show en_nx rel _ K c x u (en_if (st.length ≤ 4 ∧ 3 = 3) (some (.inr (.inr (y', [v0, v1, v2], pc + 3, lv, st)))) none) = _
  rw [en_nx_if2]
  exact propext ⟨fun w => ⟨w.1.1, w.2⟩, fun w => ⟨⟨w.1, rfl⟩, w.2⟩⟩
theorem st_virt4 {n y' ci : Nat} {a : Nat} {v0 v1 v2 v3 : Value} (h : decode (mt_code y) pc = .ok (.invokevirtual n, 3)) (hf : tb_mth (mt_cls y) n = some (0, y', 4, ci)) : en_W rel y pc lv (v3 :: v2 :: v1 :: v0 :: .ref a :: st) c x u K = (en_rdO (c a) ci (fun _ => a < x ∧ st.length ≤ 4 ∧ en_cl rel y' [.ref a, v0, v1, v2, v3] c x u (fun v c' x' u' => en_W rel y (pc + 3) lv (v.toList ++ st) c' x' u' K))) := by
  rw [en_eq h (Or.inl rfl)]
  show en_nx rel _ K c x u (en_op (tb_mth (mt_cls y) n) _) = _
  rw [hf]
  show en_nx rel _ K c x u (en_if ((0 : Nat) = 0) _ none) = _
  rw [en_if_t rfl]
  show en_nx rel _ K c x u (en_if (a < x ∧ st.length ≤ 4 ∧ 4 = 4) (en_ob (c a) (fun ci' _ => en_if (ci' = ci) (some (.inr (.inr (y', [.ref a, v0, v1, v2, v3], pc + 3, lv, st)))) none)) none) = _
  rw [en_nx_if2]
  generalize c a = e
  match e with
  | .inl q => exact propext ⟨fun w => w.2.elim, fun w => w.elim⟩
  | .inr (ci', fs) =>
    show (_ ∧ en_nx rel _ K c x u (en_if (ci' = ci) _ none)) = _
    rw [en_nx_if2]
    exact propext ⟨fun w => ⟨w.2.1, w.1.1, w.1.2.1, w.2.2⟩, fun w => ⟨⟨w.2.1, w.2.2.1, rfl⟩, w.1, w.2.2.2⟩⟩
theorem st_stat4 {n y' ci : Nat} {v0 v1 v2 v3 : Value} (h : decode (mt_code y) pc = .ok (.invokestatic n, 3)) (hf : tb_mth (mt_cls y) n = some (1, y', 4, ci)) : en_W rel y pc lv (v3 :: v2 :: v1 :: v0 :: st) c x u K = (st.length ≤ 4 ∧ en_cl rel y' [v0, v1, v2, v3] c x u (fun v c' x' u' => en_W rel y (pc + 3) lv (v.toList ++ st) c' x' u' K)) := by
  rw [en_eq h (Or.inl rfl)]
  show en_nx rel _ K c x u (en_op (tb_mth (mt_cls y) n) _) = _
  rw [hf]
  show en_nx rel _ K c x u (en_if (st.length ≤ 4 ∧ 4 = 4) (some (.inr (.inr (y', [v0, v1, v2, v3], pc + 3, lv, st)))) none) = _
  rw [en_nx_if2]
  exact propext ⟨fun w => ⟨w.1.1, w.2⟩, fun w => ⟨⟨w.1, rfl⟩, w.2⟩⟩
theorem st_virt5 {n y' ci : Nat} {a : Nat} {v0 v1 v2 v3 v4 : Value} (h : decode (mt_code y) pc = .ok (.invokevirtual n, 3)) (hf : tb_mth (mt_cls y) n = some (0, y', 5, ci)) : en_W rel y pc lv (v4 :: v3 :: v2 :: v1 :: v0 :: .ref a :: st) c x u K = (en_rdO (c a) ci (fun _ => a < x ∧ st.length ≤ 4 ∧ en_cl rel y' [.ref a, v0, v1, v2, v3, v4] c x u (fun v c' x' u' => en_W rel y (pc + 3) lv (v.toList ++ st) c' x' u' K))) := by
  rw [en_eq h (Or.inl rfl)]
  show en_nx rel _ K c x u (en_op (tb_mth (mt_cls y) n) _) = _
  rw [hf]
  show en_nx rel _ K c x u (en_if ((0 : Nat) = 0) _ none) = _
  rw [en_if_t rfl]
  show en_nx rel _ K c x u (en_if (a < x ∧ st.length ≤ 4 ∧ 5 = 5) (en_ob (c a) (fun ci' _ => en_if (ci' = ci) (some (.inr (.inr (y', [.ref a, v0, v1, v2, v3, v4], pc + 3, lv, st)))) none)) none) = _
  rw [en_nx_if2]
  generalize c a = e
  match e with
  | .inl q => exact propext ⟨fun w => w.2.elim, fun w => w.elim⟩
  | .inr (ci', fs) =>
    show (_ ∧ en_nx rel _ K c x u (en_if (ci' = ci) _ none)) = _
    rw [en_nx_if2]
    exact propext ⟨fun w => ⟨w.2.1, w.1.1, w.1.2.1, w.2.2⟩, fun w => ⟨⟨w.2.1, w.2.2.1, rfl⟩, w.1, w.2.2.2⟩⟩
theorem st_stat5 {n y' ci : Nat} {v0 v1 v2 v3 v4 : Value} (h : decode (mt_code y) pc = .ok (.invokestatic n, 3)) (hf : tb_mth (mt_cls y) n = some (1, y', 5, ci)) : en_W rel y pc lv (v4 :: v3 :: v2 :: v1 :: v0 :: st) c x u K = (st.length ≤ 4 ∧ en_cl rel y' [v0, v1, v2, v3, v4] c x u (fun v c' x' u' => en_W rel y (pc + 3) lv (v.toList ++ st) c' x' u' K)) := by
  rw [en_eq h (Or.inl rfl)]
  show en_nx rel _ K c x u (en_op (tb_mth (mt_cls y) n) _) = _
  rw [hf]
  show en_nx rel _ K c x u (en_if (st.length ≤ 4 ∧ 5 = 5) (some (.inr (.inr (y', [v0, v1, v2, v3, v4], pc + 3, lv, st)))) none) = _
  rw [en_nx_if2]
  exact propext ⟨fun w => ⟨w.1.1, w.2⟩, fun w => ⟨⟨w.1, rfl⟩, w.2⟩⟩
theorem st_virt6 {n y' ci : Nat} {a : Nat} {v0 v1 v2 v3 v4 v5 : Value} (h : decode (mt_code y) pc = .ok (.invokevirtual n, 3)) (hf : tb_mth (mt_cls y) n = some (0, y', 6, ci)) : en_W rel y pc lv (v5 :: v4 :: v3 :: v2 :: v1 :: v0 :: .ref a :: st) c x u K = (en_rdO (c a) ci (fun _ => a < x ∧ st.length ≤ 4 ∧ en_cl rel y' [.ref a, v0, v1, v2, v3, v4, v5] c x u (fun v c' x' u' => en_W rel y (pc + 3) lv (v.toList ++ st) c' x' u' K))) := by
  rw [en_eq h (Or.inl rfl)]
  show en_nx rel _ K c x u (en_op (tb_mth (mt_cls y) n) _) = _
  rw [hf]
  show en_nx rel _ K c x u (en_if ((0 : Nat) = 0) _ none) = _
  rw [en_if_t rfl]
  show en_nx rel _ K c x u (en_if (a < x ∧ st.length ≤ 4 ∧ 6 = 6) (en_ob (c a) (fun ci' _ => en_if (ci' = ci) (some (.inr (.inr (y', [.ref a, v0, v1, v2, v3, v4, v5], pc + 3, lv, st)))) none)) none) = _
  rw [en_nx_if2]
  generalize c a = e
  match e with
  | .inl q => exact propext ⟨fun w => w.2.elim, fun w => w.elim⟩
  | .inr (ci', fs) =>
    show (_ ∧ en_nx rel _ K c x u (en_if (ci' = ci) _ none)) = _
    rw [en_nx_if2]
    exact propext ⟨fun w => ⟨w.2.1, w.1.1, w.1.2.1, w.2.2⟩, fun w => ⟨⟨w.2.1, w.2.2.1, rfl⟩, w.1, w.2.2.2⟩⟩
theorem st_stat6 {n y' ci : Nat} {v0 v1 v2 v3 v4 v5 : Value} (h : decode (mt_code y) pc = .ok (.invokestatic n, 3)) (hf : tb_mth (mt_cls y) n = some (1, y', 6, ci)) : en_W rel y pc lv (v5 :: v4 :: v3 :: v2 :: v1 :: v0 :: st) c x u K = (st.length ≤ 4 ∧ en_cl rel y' [v0, v1, v2, v3, v4, v5] c x u (fun v c' x' u' => en_W rel y (pc + 3) lv (v.toList ++ st) c' x' u' K)) := by
  rw [en_eq h (Or.inl rfl)]
  show en_nx rel _ K c x u (en_op (tb_mth (mt_cls y) n) _) = _
  rw [hf]
  show en_nx rel _ K c x u (en_if (st.length ≤ 4 ∧ 6 = 6) (some (.inr (.inr (y', [v0, v1, v2, v3, v4, v5], pc + 3, lv, st)))) none) = _
  rw [en_nx_if2]
  exact propext ⟨fun w => ⟨w.1.1, w.2⟩, fun w => ⟨⟨w.1, rfl⟩, w.2⟩⟩
theorem st_mmax {n y' m' ci : Nat} {a b : Int32} (h : decode (mt_code y) pc = .ok (.invokestatic n, 3)) (hf : tb_mth (mt_cls y) n = some (4, y', m', ci)) : en_W rel y pc lv (.int b :: .int a :: st) c x u K = (st.length ≤ 4 ∧ en_W rel y (pc + 3) lv (.int (if a < b then b else a) :: st) c x u K) := by
  rw [en_eq h (Or.inl rfl)]
  show en_nx rel _ K c x u (en_op (tb_mth (mt_cls y) n) _) = _
  rw [hf]
  exact (en_nx_if).trans (propext ⟨fun w => ⟨w.1, w.2.2⟩, fun w => ⟨w.1, en_ok_rf, w.2⟩⟩)
theorem st_mmin {n y' m' ci : Nat} {a b : Int32} (h : decode (mt_code y) pc = .ok (.invokestatic n, 3)) (hf : tb_mth (mt_cls y) n = some (5, y', m', ci)) : en_W rel y pc lv (.int b :: .int a :: st) c x u K = (st.length ≤ 4 ∧ en_W rel y (pc + 3) lv (.int (if b < a then b else a) :: st) c x u K) := by
  rw [en_eq h (Or.inl rfl)]
  show en_nx rel _ K c x u (en_op (tb_mth (mt_cls y) n) _) = _
  rw [hf]
  exact (en_nx_if).trans (propext ⟨fun w => ⟨w.1, w.2.2⟩, fun w => ⟨w.1, en_ok_rf, w.2⟩⟩)
theorem st_copy {n y' m' ci : Nat} {a0 a1 : Nat} {sp dp k : Int32} (h : decode (mt_code y) pc = .ok (.invokestatic n, 3)) (hf : tb_mth (mt_cls y) n = some (6, y', m', ci)) : en_W rel y pc lv (.int k :: .int dp :: .ref a1 :: .int sp :: .ref a0 :: st) c x u K = en_rdI (c a0) 0 (fun n0 f => en_rdI (c a1) 0 (fun n1 g => a0 < x ∧ a1 < x ∧ st.length ≤ 4 ∧ ¬ sp < 0 ∧ ¬ dp < 0 ∧ ¬ k < 0 ∧ sp.toNatClampNeg + k.toNatClampNeg ≤ n0 ∧ dp.toNatClampNeg + k.toNatClampNeg ≤ n1 ∧ en_W rel y (pc + 3) lv st (en_up c a1 (.inl (0, n1, .inl (va_cpy f g sp.toNatClampNeg dp.toNatClampNeg k.toNatClampNeg)))) x u K)) := by
  rw [en_eq h (Or.inl rfl)]
  show en_nx rel _ K c x u (en_op (tb_mth (mt_cls y) n) _) = _
  rw [hf]
  show en_nx rel _ K c x u (en_arI (c a0) (fun t0 n0 f => en_arI (c a1) (fun t1 n1 g =>
      en_if (a0 < x ∧ a1 < x ∧ t0 = 0 ∧ t1 = 0 ∧ st.length ≤ 4 ∧ ¬ sp < 0 ∧ ¬ dp < 0 ∧ ¬ k < 0 ∧ sp.toNatClampNeg + k.toNatClampNeg ≤ n0 ∧ dp.toNatClampNeg + k.toNatClampNeg ≤ n1)
        (en_fr (pc + 3) lv st (en_up c a1 (.inl (0, n1, .inl (va_cpy f g sp.toNatClampNeg dp.toNatClampNeg k.toNatClampNeg)))) x u) none))) = _
  generalize c a0 = e0
  match e0 with
  | .inl (t, n, .inr f) => rfl
  | .inr q => rfl
  | .inl (t0, n0, .inl f) =>
    show en_nx rel _ K c x u (en_arI (c a1) _) = (t0 = 0 ∧ en_rdI (c a1) 0 _)
    generalize c a1 = e1
    match e1 with
    | .inl (t, n, .inr f) => exact propext ⟨fun w => w.elim, fun w => w.2.elim⟩
    | .inr q => exact propext ⟨fun w => w.elim, fun w => w.2.elim⟩
    | .inl (t1, n1, .inl g) =>
      refine (en_nx_if).trans (propext ⟨fun w => ?_, fun w => ?_⟩)
      · obtain ⟨⟨h1, h2, h3, h4, h5, h6, h7, h8, h9, h10⟩, -, hw⟩ := w
        exact ⟨h3, h4, h1, h2, h5, h6, h7, h8, h9, h10, hw⟩
      · obtain ⟨h3, h4, h1, h2, h5, h6, h7, h8, h9, h10, hw⟩ := w
        exact ⟨⟨h1, h2, h3, h4, h5, h6, h7, h8, h9, h10⟩, en_ok_up h2, hw⟩
theorem st_obj {n y' m' ci : Nat} {a : Nat} (h : decode (mt_code y) pc = .ok (.invokespecial n, 3)) (hf : tb_mth (mt_cls y) n = some (7, y', m', ci)) : en_W rel y pc lv (.ref a :: st) c x u K = (st.length ≤ 4 ∧ en_W rel y (pc + 3) lv st c x u K) := by
  rw [en_eq h (Or.inl rfl)]
  show en_nx rel _ K c x u (en_op (tb_mth (mt_cls y) n) _) = _
  rw [hf]
  exact (en_nx_if).trans (propext ⟨fun w => ⟨w.1, w.2.2⟩, fun w => ⟨w.1, en_ok_rf, w.2⟩⟩)
theorem st_iret {a : Int32} (h : decode (mt_code y) pc = .ok (.ireturn, 1)) (hr : mt_rk y = 1) : en_W rel y pc lv ([.int a]) c x u K = K (some (.int a)) c x u := by
  exact en_rt h (Or.inl rfl) (en_if_t (Or.inl hr))
theorem st_zret {a : Int32} (h : decode (mt_code y) pc = .ok (.ireturn, 1)) (hr : mt_rk y = 2) : en_W rel y pc lv ([.int a]) c x u K = ((a = 0 ∨ a = 1) ∧ K (some (.int a)) c x u) := by
  rw [en_eq h (Or.inl rfl)]
  show en_nx rel _ K c x u (en_if (en_rz (mt_rk y) a) _ none) = _
  rw [en_nx_if2]
  refine propext ⟨fun w => ⟨?_, w.2.2⟩, fun w => ⟨Or.inr ⟨hr, w.1⟩, en_ok_rf, w.2⟩⟩
  rcases w.1 with q | q
  · rw [hr] at q; cases q
  · exact q.2
theorem st_aret {a : Nat} (h : decode (mt_code y) pc = .ok (.areturn, 1)) (hr : mt_rk y = 3) : en_W rel y pc lv ([.ref a]) c x u K = K (some (.ref a)) c x u := by
  exact en_rt h (Or.inl rfl) (en_if_t hr)
theorem st_vret (h : decode (mt_code y) pc = .ok (.return_, 1)) (hr : mt_rk y = 0) : en_W rel y pc lv ([]) c x u K = K none c x u := by
  exact en_rt h (Or.inl rfl) (en_if_t hr)
theorem st_tabO {d lo hi : Int} {offs : Array Int} {len tgt : Nat} {a : Int32} (h : decode (mt_code y) pc = .ok (.tableswitch d lo hi offs, len)) (ht : (pc : Int) + d = (tgt : Int)) (ha : a.toInt < lo ∨ hi < a.toInt) : en_W rel y pc lv (.int a :: st) c x u K = en_W rel y tgt lv st c x u K := by
  exact en_go h (Or.inr rfl) (by show en_if (a.toInt < lo ∨ hi < a.toInt) _ _ = _; rw [en_if_t ha]; exact en_tg_eq ht) en_ok_rf
theorem st_tabI {d lo hi off : Int} {offs : Array Int} {len tgt : Nat} {a : Int32} (h : decode (mt_code y) pc = .ok (.tableswitch d lo hi offs, len)) (ha : ¬ (a.toInt < lo ∨ hi < a.toInt)) (ho : offs[(a.toInt - lo).toNat]? = some off) (ht : (pc : Int) + off = (tgt : Int)) : en_W rel y pc lv (.int a :: st) c x u K = en_W rel y tgt lv st c x u K := by
  exact en_go h (Or.inr rfl) (by show en_if (a.toInt < lo ∨ hi < a.toInt) _ _ = _; rw [en_if_f ha, ho]; exact en_tg_eq ht) en_ok_rf
theorem st_look {d off : Int} {ps : Array (Int × Int)} {len tgt : Nat} {a : Int32} (h : decode (mt_code y) pc = .ok (.lookupswitch d ps, len)) (hp : (ps.toList.zip (ps.toList.drop 1)).all (fun (a, next) => a.1 < next.1) = true) (ho : Op.lookupswitch.offset ps.toList d a.toInt = off) (ht : (pc : Int) + off = (tgt : Int)) : en_W rel y pc lv (.int a :: st) c x u K = en_W rel y tgt lv st c x u K := by
  exact en_go h (Or.inr rfl) (by show en_if _ _ none = _; rw [en_if_t hp, ho]; exact en_tg_eq ht) en_ok_rf
end EST
