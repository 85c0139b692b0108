-- CODINGS 0 AND 1: the class and the reference agree
theorem rd_some {α β : Type} (x : α) (f : α → Option β) : rd (some x) f = f x := rfl
theorem cal_some {α β : Type} (x : α) (m : Mem) (f : α → Mem → Option β) : cal (some (x, m)) f = f x m := rfl
theorem bnd_eq {α β : Type} (x : α) (f : α → β) : bnd x f = f x := rfl
theorem gp_pos {β : Type} {c : Prop} [Decidable c] (h : c) (e : Option β) : gp c e = e := if_pos h
theorem om_no {β : Type} (A : Option β) (B : Nat → Option β) : om none A B = A := rfl
theorem om_so {β : Type} (k : Nat) (A : Option β) (B : Nat → Option β) : om (some k) A B = B k := rfl
def IsS (x : Int32) : Prop := -32768 ≤ x.toInt ∧ x.toInt ≤ 32767
def IsB (b : Int32) : Prop := ∃ n : Nat, n < 256 ∧ b = nI n
def decI (c b : Int32) : Int32 := (F_Intervals_middleOf c b).getD 0
def encI (c x : Int32) : Int32 := (F_Intervals_codeOf c x).getD 0
set_option maxRecDepth 100000 in
theorem dec_all : ∀ n, n < 256 → (F_Intervals_middleOf 0 (nI n) = some (decI 0 (nI n)) ∧ F_Model_expand 0 (nI n) = some (decI 0 (nI n)) ∧ -32768 ≤ (decI 0 (nI n)).toInt ∧ (decI 0 (nI n)).toInt ≤ 32767) ∧ (F_Intervals_middleOf 1 (nI n) = some (decI 1 (nI n)) ∧ F_Model_expand 1 (nI n) = some (decI 1 (nI n)) ∧ -32768 ≤ (decI 1 (nI n)).toInt ∧ (decI 1 (nI n)).toInt ≤ 32767) := by decide +kernel
theorem dec_ok {c b : Int32} (hc : c = 0 ∨ c = 1) (hb : IsB b) : F_Intervals_middleOf c b = some (decI c b) ∧ F_Model_expand c b = some (decI c b) ∧ IsS (decI c b) := by
  obtain ⟨n, hn, rfl⟩ := hb
  rcases hc with rfl | rfl
  · exact (dec_all n hn).1
  · exact (dec_all n hn).2
/-- the first magnitude of an interval -/
def bgN (c i : Nat) : Nat := if c = 0 ∧ i < 16 then 16 * i else (16 + i % 16) * 2 ^ (i / 16 + 3)
set_option maxRecDepth 100000 in
theorem bg_all : ∀ i, i < 128 → F_Model_begins 0 (nI i) = some (nI (bgN 0 i)) ∧ F_Model_begins 1 (nI i) = some (nI (bgN 1 i)) := by decide +kernel
theorem bg_up : ∀ i, i < 127 → bgN 0 i < bgN 0 (i + 1) ∧ bgN 1 i < bgN 1 (i + 1) := by decide +kernel
theorem bg_lt : ∀ i, i < 128 → bgN 0 i < 2 ^ 31 ∧ bgN 1 i < 2 ^ 31 := by decide +kernel
theorem bg_mono {c : Nat} (hc : c = 0 ∨ c = 1) {i : Nat} : ∀ d, i + d < 128 → bgN c i ≤ bgN c (i + d) := by
  intro d
  induction d with
  | zero => intro _; exact Nat.le_refl _
  | succ d ih =>
    intro h
    have h1 := ih (by omega)
    have h2 := bg_up (i + d) (by omega)
    rcases hc with rfl | rfl
    · exact Nat.le_trans h1 (Nat.le_of_lt h2.1)
    · exact Nat.le_trans h1 (Nat.le_of_lt h2.2)
def sgm (m : Nat) : Nat := if m < 256 then 0 else if m < 512 then 1 else if m < 1024 then 2 else if m < 2048 then 3 else if m < 4096 then 4 else if m < 8192 then 5 else if m < 16384 then 6 else 7
theorem seg_step : ∀ k, k < 7 → (¬ (7 : Int32) ≤ nI k) ∧ ((256 : Int32) <<< (nI k &&& (31 : Int32))) = nI (256 * 2 ^ k) ∧ nI k + 1 = nI (k + 1) := by decide +kernel
theorem seg_loop {m : Nat} (hm : m < 2 ^ 31) (n : Nat) {k : Nat} (hk : k < 7) : F_Intervals_segmentOf_2 (n + 1) (nI m) (nI k) = if m < 256 * 2 ^ k then some (nI k) else F_Intervals_segmentOf_2 n (nI m) (nI (k + 1)) := by
  obtain ⟨h1, h2, h3⟩ := seg_step k hk
  have hb : 256 * 2 ^ k < 2 ^ 31 := by
    have : 2 ^ k ≤ 2 ^ 7 := Nat.pow_le_pow_right (by decide) (by omega)
    omega
  rw [F_Intervals_segmentOf_2, if_neg h1, h2, h3]
  by_cases h : m < 256 * 2 ^ k
  · rw [if_pos h, if_pos ((nI_ltI hm hb).mpr h)]
  · rw [if_neg h, if_neg (fun q => h ((nI_ltI hm hb).mp q))]
theorem seg_eq {m : Nat} (hm : m < 2 ^ 31) : F_Intervals_segmentOf (nI m) = some (nI (sgm m)) := by
  unfold F_Intervals_segmentOf
  rw [show (0 : Int32) = nI 0 from nI_0.symm, seg_loop hm _ (by decide), seg_loop hm _ (by decide), seg_loop hm _ (by decide), seg_loop hm _ (by decide), seg_loop hm _ (by decide), seg_loop hm _ (by decide), seg_loop hm _ (by decide)]
  have h7 : F_Intervals_segmentOf_2 293 (nI m) (nI (6 + 1)) = some (nI 7) := by
    rw [F_Intervals_segmentOf_2, if_pos (by decide)]
  rw [h7]
  unfold sgm
  simp only [Nat.pow_zero, Nat.reducePow, Nat.reduceMul, Nat.mul_one, Nat.zero_add, Nat.reduceAdd]
  split
  · rfl
  · split
    · rfl
    · split
      · rfl
      · split
        · rfl
        · split
          · rfl
          · split
            · rfl
            · split <;> rfl
/-- the interval that the class finds -/
def itv (c m : Nat) : Nat := if c = 0 ∧ sgm m = 0 then m / 16 else 16 * sgm m + (m / 2 ^ (sgm m + 3) - 16)
theorem itv_ok {c m : Nat} (hc : c = 0 ∨ (c = 1 ∧ 132 ≤ m)) (hm : m < 32768) : itv c m < 128 ∧ bgN c (itv c m) ≤ m ∧ (itv c m = 127 ∨ m < bgN c (itv c m + 1)) := by
  have hs : sgm m = 0 ∧ m < 256 ∨ sgm m = 1 ∧ 256 ≤ m ∧ m < 512 ∨ sgm m = 2 ∧ 512 ≤ m ∧ m < 1024 ∨ sgm m = 3 ∧ 1024 ≤ m ∧ m < 2048 ∨ sgm m = 4 ∧ 2048 ≤ m ∧ m < 4096 ∨ sgm m = 5 ∧ 4096 ≤ m ∧ m < 8192 ∨ sgm m = 6 ∧ 8192 ≤ m ∧ m < 16384 ∨ sgm m = 7 ∧ 16384 ≤ m := by
    unfold sgm
    repeat' split
    all_goals omega
  have key : ∀ i j s, i / 16 = s → j / 16 = s → True := fun _ _ _ _ _ => trivial
  unfold itv bgN
  rcases hs with ⟨e, h⟩ | ⟨e, h1, h2⟩ | ⟨e, h1, h2⟩ | ⟨e, h1, h2⟩ | ⟨e, h1, h2⟩ | ⟨e, h1, h2⟩ | ⟨e, h1, h2⟩ | ⟨e, h1⟩ <;> rw [e] <;> rcases hc with rfl | ⟨rfl, h3⟩ <;> simp
  all_goals sorry
