/-! WHAT THE DOCUMENT SAYS, as a state and seventeen functions (ours, written from the document). Symbols: a list, true for a variable. A statement: kind, symbols, mandatory hypotheses, pairs; the open one is the last. -/
abbrev sp_T : Type := Nat × List Nat × List Nat × List (Nat × Nat)
abbrev sp_S : Type := List Bool × List sp_T × Bool × (Nat → Nat → Bool) × List (List Nat) × List (List Nat)
def sp_t0 : sp_T := (0, [], [], [])
def sp_new : sp_S := ([], [], false, fun _ _ => false, [], [])
def sp_var (S : sp_S) (s : Nat) : Bool := S.1.getD s false
def sp_at (S : sp_S) (i : Nat) : sp_T := S.2.1.getD i sp_t0
def sp_kd (S : sp_S) (i : Nat) : Nat := (sp_at S i).1
def sp_tx (S : sp_S) (i : Nat) : List Nat := (sp_at S i).2.1
def sp_nd (S : sp_S) (i : Nat) : List Nat := (sp_at S i).2.2.1
def sp_pr (S : sp_S) (i : Nat) : List (Nat × Nat) := (sp_at S i).2.2.2
def sp_la (S : sp_S) : Nat := S.2.1.length - 1
/-- the floating hypotheses among these have the variable -/
def sp_fl (S : sp_S) (hs : List Nat) (s : Nat) : Bool := hs.any (fun h => sp_kd S h == 0 && (sp_tx S h).getD 1 0 == s)
def sp_all (S : sp_S) (hs : List Nat) (l : List Nat) : Bool := l.all (fun s => !sp_var S s || sp_fl S hs s)
def sp_put1 (S : sp_S) (t : sp_T) : sp_S := (S.1, S.2.1.dropLast ++ [t], S.2.2)
def sp_sum (rs : List (List Nat)) : Nat := rs.flatten.length
def sp_pile (S : sp_S) (pl sv : List (List Nat)) : sp_S := (S.1, S.2.1, S.2.2.1, S.2.2.2.1, pl, sv)
def sp_symbol (w : Int32) (S : sp_S) : Int32 × sp_S := if (w = 0 ∨ w = 1) ∧ S.1.length < 1000 then (nI S.1.length, (S.1 ++ [decide (w = 0)], S.2)) else (-1, S)
def sp_begin (w : Int32) (S : sp_S) : Int32 × sp_S := if S.2.2.1 = false ∧ (w = 0 ∨ w = 1 ∨ w = 2) ∧ S.2.1.length < 300 then (nI S.2.1.length, (S.1, S.2.1 ++ [(w.toNatClampNeg, [], [], [])], true, S.2.2.2)) else (-1, S)
def sp_may (S : sp_S) (s : Nat) : Bool := match (sp_tx S (sp_la S)).length with
  | 0 => !sp_var S s
  | 1 => sp_kd S (sp_la S) != 0 || sp_var S s
  | _ => sp_kd S (sp_la S) != 0
def sp_put (w : Int32) (S : sp_S) : Int32 × sp_S := if S.2.2.1 = true ∧ 0 ≤ w ∧ w.toNatClampNeg < S.1.length ∧ sp_may S w.toNatClampNeg = true ∧ (sp_tx S (sp_la S)).length < 300 then
    (nI ((sp_tx S (sp_la S)).length + 1), sp_put1 S (sp_kd S (sp_la S), sp_tx S (sp_la S) ++ [w.toNatClampNeg], sp_nd S (sp_la S), sp_pr S (sp_la S))) else (-1, S)
def sp_open2 (S : sp_S) : Bool := S.2.2.1 && sp_kd S (sp_la S) == 2
def sp_mayn (S : sp_S) (h : Nat) : Bool := if sp_kd S h = 0 then !sp_fl S (sp_nd S (sp_la S)) ((sp_tx S h).getD 1 0) else !(sp_nd S (sp_la S)).any (fun q => q == h) && sp_all S (sp_nd S (sp_la S)) (sp_tx S h)
def sp_need (w : Int32) (S : sp_S) : Int32 × sp_S := if sp_open2 S = true ∧ 0 ≤ w ∧ w.toNatClampNeg < sp_la S ∧ sp_kd S w.toNatClampNeg ≠ 2 ∧ sp_mayn S w.toNatClampNeg = true ∧ (sp_nd S (sp_la S)).length < 60 then
    (nI ((sp_nd S (sp_la S)).length + 1), sp_put1 S (sp_kd S (sp_la S), sp_tx S (sp_la S), sp_nd S (sp_la S) ++ [w.toNatClampNeg], sp_pr S (sp_la S))) else (-1, S)
def sp_isv (S : sp_S) (w : Int32) : Bool := decide (0 ≤ w) && decide (w.toNatClampNeg < S.1.length) && sp_var S w.toNatClampNeg
def sp_pair (v w : Int32) (S : sp_S) : Int32 × sp_S := if sp_open2 S = true ∧ v ≠ w ∧ sp_isv S v = true ∧ sp_isv S w = true ∧ sp_fl S (sp_nd S (sp_la S)) v.toNatClampNeg = true ∧ sp_fl S (sp_nd S (sp_la S)) w.toNatClampNeg = true ∧ ((sp_pr S (sp_la S)).any (fun q => (q.1 == v.toNatClampNeg && q.2 == w.toNatClampNeg) || (q.1 == w.toNatClampNeg && q.2 == v.toNatClampNeg))) = false ∧ (sp_pr S (sp_la S)).length < 200 then
    (nI ((sp_pr S (sp_la S)).length + 1), sp_put1 S (sp_kd S (sp_la S), sp_tx S (sp_la S), sp_nd S (sp_la S), sp_pr S (sp_la S) ++ [(v.toNatClampNeg, w.toNatClampNeg)])) else (-1, S)
def sp_fine (S : sp_S) : Bool := match sp_kd S (sp_la S) with
  | 0 => (sp_tx S (sp_la S)).length == 2
  | 2 => decide (0 < (sp_tx S (sp_la S)).length) && sp_all S (sp_nd S (sp_la S)) (sp_tx S (sp_la S))
  | _ => decide (0 < (sp_tx S (sp_la S)).length)
def sp_close (S : sp_S) : Int32 × sp_S := if S.2.2.1 = true ∧ sp_fine S = true then (1, (S.1, S.2.1, false, S.2.2.2)) else (0, S)
def sp_apart (v w : Int32) (S : sp_S) : Int32 × sp_S := if v ≠ w ∧ sp_isv S v = true ∧ sp_isv S w = true ∧ S.2.2.2.1 v.toNatClampNeg w.toNatClampNeg = false then
    (1, (S.1, S.2.1, S.2.2.1, (fun a b => S.2.2.2.1 a b || (a == v.toNatClampNeg && b == w.toNatClampNeg) || (a == w.toNatClampNeg && b == v.toNatClampNeg)), S.2.2.2.2)) else (0, S)
def sp_row (S : sp_S) (r : Nat) : List Nat := S.2.2.2.2.1.getD r []
/-- what a list of symbols becomes -/
def sp_sub (S : sp_S) (be : Nat → Nat) (l : List Nat) : List Nat := l.flatMap (fun s => if sp_var S s then (sp_row S (be s)).drop 1 else [s])
def sp_fit (S : sp_S) : List Nat → Nat → (Nat → Nat) → Option (Nat → Nat)
  | [], _, be => some be
  | h :: hs, r, be => if sp_kd S h = 0 then (if (sp_row S r).getD 0 0 = (sp_tx S h).getD 0 0 then sp_fit S hs (r + 1) (fun v => if v = (sp_tx S h).getD 1 0 then r else be v) else none)
    else (if sp_sub S be (sp_tx S h) = sp_row S r then sp_fit S hs (r + 1) be else none)
def sp_ap2 (S : sp_S) (l m : List Nat) : Bool := l.all (fun a => m.all (fun b => !sp_var S a || !sp_var S b || (a != b && S.2.2.2.1 a b)))
def sp_aps (S : sp_S) (be : Nat → Nat) (ps : List (Nat × Nat)) : Bool := ps.all (fun q => sp_ap2 S ((sp_row S (be q.1)).drop 1) ((sp_row S (be q.2)).drop 1))
def sp_fail (f : Int32) (S : sp_S) : Int32 × sp_S := (f, sp_pile S [] [])
def sp_push (pl : List (List Nat)) (l : List Nat) (S : sp_S) : Int32 × sp_S := if l.length ≤ 1000 ∧ pl.length < 200 ∧ sp_sum pl + l.length + sp_sum S.2.2.2.2.2 ≤ 40000 then (0, sp_pile S (pl ++ [l]) S.2.2.2.2.2) else sp_fail 5 S
def sp_assert (i : Nat) (S : sp_S) : Int32 × sp_S := if S.2.2.2.2.1.length < (sp_nd S i).length then sp_fail 15 S else
  match sp_fit S (sp_nd S i) (S.2.2.2.2.1.length - (sp_nd S i).length) (fun _ => 0) with
  | none => sp_fail 16 S
  | some be => if sp_aps S be (sp_pr S i) = false then sp_fail 17 S else sp_push (S.2.2.2.2.1.take (S.2.2.2.2.1.length - (sp_nd S i).length)) (sp_sub S be (sp_tx S i)) S
def sp_closed (S : sp_S) (w : Int32) : Bool := decide (0 ≤ w) && decide (w.toNatClampNeg < S.2.1.length) && !(S.2.2.1 && w.toNatClampNeg == sp_la S)
def sp_step (w : Int32) (S : sp_S) : Int32 × sp_S := if sp_closed S w = false then (-1, S) else if sp_kd S w.toNatClampNeg = 2 then sp_assert w.toNatClampNeg S else sp_push S.2.2.2.2.1 (sp_tx S w.toNatClampNeg) S
def sp_save (S : sp_S) : Int32 × sp_S := if S.2.2.2.2.1.length = 0 ∨ 300 ≤ S.2.2.2.2.2.length then (-1, S) else if 40000 < sp_sum S.2.2.2.2.1 + sp_sum S.2.2.2.2.2 + (sp_row S (S.2.2.2.2.1.length - 1)).length then sp_fail 5 S
  else (nI S.2.2.2.2.2.length, sp_pile S S.2.2.2.2.1 (S.2.2.2.2.2 ++ [sp_row S (S.2.2.2.2.1.length - 1)]))
def sp_again (w : Int32) (S : sp_S) : Int32 × sp_S := if 0 ≤ w ∧ w.toNatClampNeg < S.2.2.2.2.2.length then sp_push S.2.2.2.2.1 (S.2.2.2.2.2.getD w.toNatClampNeg []) S else (-1, S)
def sp_clear (S : sp_S) : Int32 × sp_S := (nI S.2.2.2.2.1.length, sp_pile S [] [])
def sp_count (w : Int32) (S : sp_S) : Int32 := if w = 0 then nI S.1.length else if w = 1 then nI S.2.1.length else if w = 2 then nI S.2.2.2.2.1.length else if w = 3 then nI S.2.2.2.2.2.length else if w = 4 then nI (sp_sum S.2.2.2.2.1 + sp_sum S.2.2.2.2.2) else -1
def sp_length (w : Int32) (S : sp_S) : Int32 := if 0 ≤ w ∧ w.toNatClampNeg < S.2.2.2.2.1.length then nI (sp_row S w.toNatClampNeg).length else -1
def sp_get (w k : Int32) (S : sp_S) : Int32 := if (0 ≤ w ∧ w.toNatClampNeg < S.2.2.2.2.1.length) ∧ 0 ≤ k ∧ k.toNatClampNeg < (sp_row S w.toNatClampNeg).length then nI ((sp_row S w.toNatClampNeg).getD k.toNatClampNeg 0) else -1
def sp_told (w k : Int32) (S : sp_S) : Int32 := if 0 ≤ w ∧ w.toNatClampNeg < S.2.1.length then
    (if k = 0 then nI (sp_tx S w.toNatClampNeg).length else if k = 1 then nI (sp_nd S w.toNatClampNeg).length else if k = 2 then nI (sp_pr S w.toNatClampNeg).length else if k = 3 then (if sp_closed S w then 1 else 0) else if k = 4 then nI (sp_kd S w.toNatClampNeg) else -1) else -1
def sp_is (w k : Int32) (S : sp_S) : Int32 := if (0 ≤ w ∧ w.toNatClampNeg < S.2.2.2.2.1.length) ∧ 0 ≤ k ∧ k.toNatClampNeg < S.2.1.length then (if sp_row S w.toNatClampNeg = sp_tx S k.toNatClampNeg then 1 else 0) else -1
/-- what holds of every state that calls come to -/
def sp_wfT (S : sp_S) (i : Nat) : Prop := sp_kd S i ≤ 2 ∧ (sp_tx S i).length ≤ 300 ∧ (sp_nd S i).length ≤ 60 ∧ (sp_pr S i).length ≤ 200 ∧ (∀ s ∈ sp_tx S i, s < S.1.length) ∧ (0 < (sp_tx S i).length → sp_var S ((sp_tx S i).getD 0 0) = false) ∧ (sp_kd S i = 0 → (sp_tx S i).length ≤ 2 ∧ (1 < (sp_tx S i).length → sp_var S ((sp_tx S i).getD 1 0) = true)) ∧
  (∀ k, k < (sp_nd S i).length → (sp_nd S i).getD k 0 < i ∧ sp_kd S ((sp_nd S i).getD k 0) ≠ 2 ∧ sp_all S ((sp_nd S i).take k) (if sp_kd S ((sp_nd S i).getD k 0) = 0 then [] else sp_tx S ((sp_nd S i).getD k 0)) = true) ∧
  (∀ q ∈ sp_pr S i, sp_fl S (sp_nd S i) q.1 = true ∧ sp_fl S (sp_nd S i) q.2 = true)
def sp_wfC (S : sp_S) (i : Nat) : Prop := 0 < (sp_tx S i).length ∧ (sp_kd S i = 0 → (sp_tx S i).length = 2) ∧ (sp_kd S i = 2 → sp_all S (sp_nd S i) (sp_tx S i) = true)
def sp_wfR (S : sp_S) (l : List Nat) : Prop := 0 < l.length ∧ l.length ≤ 1000 ∧ (∀ s ∈ l, s < S.1.length) ∧ sp_var S (l.getD 0 0) = false
def sp_wf (S : sp_S) : Prop := S.1.length ≤ 1000 ∧ S.2.1.length ≤ 300 ∧ (S.2.2.1 = true → 0 < S.2.1.length) ∧ (∀ i, i < S.2.1.length → sp_wfT S i) ∧ (∀ i, i < S.2.1.length → ¬ (S.2.2.1 = true ∧ i = sp_la S) → sp_wfC S i) ∧ (∀ a b, S.2.2.2.1 a b = S.2.2.2.1 b a) ∧ S.2.2.2.2.1.length ≤ 200 ∧ S.2.2.2.2.2.length ≤ 300 ∧ sp_sum S.2.2.2.2.1 + sp_sum S.2.2.2.2.2 ≤ 40000 ∧ (∀ l ∈ S.2.2.2.2.1, sp_wfR S l) ∧ ∀ l ∈ S.2.2.2.2.2, sp_wfR S l
