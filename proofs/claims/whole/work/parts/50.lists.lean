-- LISTS HELD IN A COUNT AND A ROW
theorem put_at (m : Mem) (k j : Nat) (x : Int32) (k' j' : Nat) : put m k j x k' j' = if k' = k then (if j' = j then x else m k' j') else m k' j' := by
  unfold put stm
  by_cases h : k' = k
  · subst h
    simp [upd]
  · simp [h]
theorem put_row (m : Mem) (k j : Nat) (x : Int32) : put m k j x k = upd (m k) j x := by
  unfold put
  exact stm_same _ _ _
theorem put_ne (m : Mem) {k k' : Nat} (j : Nat) (x : Int32) (h : k' ≠ k) : put m k j x k' = m k' := by
  unfold put
  exact stm_ne _ _ h
theorem upd_at (f : Nat → Int32) (k : Nat) (x : Int32) (j : Nat) : upd f k x j = if j = k then x else f j := rfl
/-- the count c and the row hold the list xs, of at most cap numbers -/
def SR (c : Int32) (row : Nat → Int32) (cap : Nat) (xs : List Int32) : Prop := c = nI xs.length ∧ xs.length ≤ cap ∧ ∀ j, j < xs.length → row j = xs.getD j 0
theorem SR.nil {row : Nat → Int32} {cap : Nat} : SR 0 row cap [] := ⟨nI_0.symm, Nat.zero_le _, fun j h => absurd h (Nat.not_lt_zero j)⟩
theorem SR.clamp {c : Int32} {row : Nat → Int32} {cap : Nat} {xs : List Int32} (h : SR c row cap xs) (hc : cap < 2 ^ 31) : c.toNatClampNeg = xs.length := by
  rw [h.1]
  exact nI_clamp (Nat.lt_of_le_of_lt h.2.1 hc)
theorem SR.congr {c : Int32} {row row' : Nat → Int32} {cap : Nat} {xs : List Int32} (h : SR c row cap xs) (hr : ∀ j, j < xs.length → row' j = row j) : SR c row' cap xs := ⟨h.1, h.2.1, fun j hj => (hr j hj).trans (h.2.2 j hj)⟩
theorem SR.push {c : Int32} {row : Nat → Int32} {cap : Nat} {xs : List Int32} (h : SR c row cap xs) (hl : xs.length < cap) (x : Int32) : SR (c + 1) (upd row xs.length x) cap (xs ++ [x]) := by
  refine ⟨by rw [h.1, nI_1]; simp, by rw [List.length_append]; exact hl, fun j hj => ?_⟩
  rw [upd_at]
  by_cases e : j = xs.length
  · subst e
    simp
  · have hj : j < xs.length := by
      simp at hj
      omega
    rw [if_neg e, h.2.2 j hj]
    simp [List.getD_eq_getElem?_getD, List.getElem?_append_left hj]
theorem SR.set {c : Int32} {row : Nat → Int32} {cap : Nat} {xs : List Int32} (h : SR c row cap xs) {i : Nat} (hi : i < xs.length) (x : Int32) : SR c (upd row i x) cap (xs.set i x) := by
  refine ⟨by rw [h.1]; simp, by simpa using h.2.1, fun j hj => ?_⟩
  have hj : j < xs.length := by simpa using hj
  rw [upd_at]
  by_cases e : j = i
  · subst e
    rw [if_pos rfl, List.getD_eq_getElem?_getD, List.getElem?_set_self hi]
    rfl
  · rw [if_neg e, h.2.2 j hj]
    simp [List.getD_eq_getElem?_getD, List.getElem?_set_ne (fun z => e z.symm)]
theorem SR.cut {c : Int32} {row : Nat → Int32} {cap : Nat} {xs : List Int32} (h : SR c row cap xs) {n : Nat} (hn : n ≤ xs.length) : SR (nI n) row cap (xs.take n) := by
  have hl : (xs.take n).length = n := by simp; omega
  refine ⟨by rw [hl], by rw [hl]; exact Nat.le_trans hn h.2.1, fun j hj => ?_⟩
  rw [hl] at hj
  rw [h.2.2 j (by omega)]
  simp [List.getD_eq_getElem?_getD, List.getElem?_take, hj]
theorem SR.drop {c : Int32} {row row' : Nat → Int32} {cap : Nat} {xs : List Int32} (h : SR c row cap xs) {n : Nat} (hr : ∀ j, j < xs.length - n → row' j = row (j + n)) : SR (nI (xs.length - n)) row' cap (xs.drop n) := by
  refine ⟨by simp, by simp; have := h.2.1; omega, fun j hj => ?_⟩
  have hj : j < xs.length - n := by simpa using hj
  rw [hr j hj, h.2.2 _ (by omega)]
  simp [List.getD_eq_getElem?_getD, List.getElem?_drop, Nat.add_comm]
theorem SR.get {c : Int32} {row : Nat → Int32} {cap : Nat} {xs : List Int32} (h : SR c row cap xs) {i : Nat} (hi : i < xs.length) : row i = xs[i] := by
  rw [h.2.2 i hi]
  simp [List.getD_eq_getElem?_getD, hi]
theorem wn_bm {n : Int} (h1 : -2147483648 ≤ n) (h2 : n < 2147483648) : n.bmod (2 ^ 32) = n := by
  rw [Int.bmod_def]
  omega
theorem wn_add {x y : Int32} (h1 : -2147483648 ≤ x.toInt + y.toInt) (h2 : x.toInt + y.toInt < 2147483648) : (x + y).toInt = x.toInt + y.toInt := by
  rw [Int32.toInt_add, wn_bm h1 h2]
theorem wn_sub {x y : Int32} (h1 : -2147483648 ≤ x.toInt - y.toInt) (h2 : x.toInt - y.toInt < 2147483648) : (x - y).toInt = x.toInt - y.toInt := by
  rw [Int32.toInt_sub, wn_bm h1 h2]
theorem wn_neg {x : Int32} (h : x.toInt ≠ -2147483648) : (-x).toInt = -x.toInt := by
  have h1 := x.toInt_lt
  have h2 := x.le_toInt
  rw [Int32.toInt_neg, wn_bm (by omega) (by omega)]
