/-! Rows in one array: where each begins. -/
def ro_of (rs : List (List Nat)) (k : Nat) : Nat := (rs.take k).flatten.length
theorem ro_0 (rs : List (List Nat)) : ro_of rs 0 = 0 := rfl
theorem ro_len (rs : List (List Nat)) : ro_of rs rs.length = rs.flatten.length := by
  unfold ro_of
  rw [List.take_length]
theorem ro_succ {rs : List (List Nat)} {r : Nat} (h : r < rs.length) : ro_of rs (r + 1) = ro_of rs r + (rs.getD r []).length := by
  unfold ro_of
  rw [List.take_succ, List.flatten_append, List.length_append, List.getD_eq_getElem?_getD]
  rw [List.getElem?_eq_getElem h]
  simp
theorem ro_le1 (rs : List (List Nat)) (k : Nat) : ro_of rs k ≤ ro_of rs (k + 1) := by
  by_cases h : k < rs.length
  · rw [ro_succ h]; omega
  · unfold ro_of
    rw [List.take_of_length_le (by omega), List.take_of_length_le (by omega)]
    exact Nat.le_refl _
theorem ro_mono (rs : List (List Nat)) {a b : Nat} (h : a ≤ b) : ro_of rs a ≤ ro_of rs b := by
  induction h with
  | refl => exact Nat.le_refl _
  | step _ ih => exact Nat.le_trans ih (ro_le1 rs _)
theorem ro_lt {rs : List (List Nat)} {r k : Nat} (h : r < rs.length) (hk : k < (rs.getD r []).length) : ro_of rs r + k < rs.flatten.length := by
  have h1 := ro_succ h
  have h2 := ro_mono rs (a := r + 1) (b := rs.length) (by omega)
  rw [ro_len] at h2
  omega
theorem ro_top (rs : List (List Nat)) {k : Nat} (h : k ≤ rs.length) : ro_of rs k ≤ rs.flatten.length := by
  rw [← ro_len]
  exact ro_mono rs h
theorem ro_get {rs : List (List Nat)} {r k : Nat} (h : r < rs.length) (hk : k < (rs.getD r []).length) : rs.flatten.getD (ro_of rs r + k) 0 = (rs.getD r []).getD k 0 := by
  have e : rs = rs.take r ++ (rs.getD r [] :: rs.drop (r + 1)) := by
    rw [List.getD_eq_getElem?_getD, List.getElem?_eq_getElem h]
    simp
  have e2 : rs.flatten = (rs.take r).flatten ++ (rs.getD r [] ++ (rs.drop (r + 1)).flatten) := by
    conv => lhs; rw [e]
    rw [List.flatten_append, List.flatten_cons]
  rw [e2, List.getD_eq_getElem?_getD, List.getElem?_append_right (by unfold ro_of; omega), show ro_of rs r + k - (rs.take r).flatten.length = k by unfold ro_of; omega, List.getElem?_append_left hk, ← List.getD_eq_getElem?_getD]
theorem ro_app {rs : List (List Nat)} {k : Nat} (l : List Nat) (h : k ≤ rs.length) : ro_of (rs ++ [l]) k = ro_of rs k := by
  unfold ro_of
  rw [List.take_append_of_le_length h]
theorem ro_app1 (rs : List (List Nat)) (l : List Nat) : ro_of (rs ++ [l]) (rs.length + 1) = rs.flatten.length + l.length := by
  rw [show rs.length + 1 = (rs ++ [l]).length by simp, ro_len]
  simp
theorem ro_take {rs : List (List Nat)} {n k : Nat} (h : k ≤ n) : ro_of (rs.take n) k = ro_of rs k := by
  unfold ro_of
  rw [List.take_take, Nat.min_eq_left h]
theorem ro_tflat {rs : List (List Nat)} {n q : Nat} (h : q < (rs.take n).flatten.length) : (rs.take n).flatten.getD q 0 = rs.flatten.getD q 0 := by
  have e : rs.flatten = (rs.take n).flatten ++ (rs.drop n).flatten := by
    rw [← List.flatten_append, List.take_append_drop]
  rw [e, List.getD_eq_getElem?_getD, List.getD_eq_getElem?_getD, List.getElem?_append_left h]
/-- an array that begins with a list of numbers -/
def ra_is (f : Nat → Int32) (l : List Nat) : Prop := ∀ q, q < l.length → f q = nI (l.getD q 0) ∧ l.getD q 0 < 1000000
/-- the two arrays of rows: the numbers, the beginnings -/
def rr_is (N : Nat) (f : Nat → Int32) (m : Nat) (g : Nat → Int32) (rs : List (List Nat)) : Prop := rs.length ≤ m ∧ rs.flatten.length ≤ N ∧ (64 ≤ N ∧ N ≤ 1000000) ∧ m ≤ 1000 ∧ ra_is f rs.flatten ∧ ∀ k, k ≤ rs.length → g k = nI (ro_of rs k)
