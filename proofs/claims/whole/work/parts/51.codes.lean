-- CODINGS 0 AND 1: the class and the reference agree
theorem rd_some {α β : Type} (x : α) (f : α → Option β) : rd (some x) f = f x := rfl
theorem cal_some {α β : Type} (x : α) (m : Mem) (f : α → Mem → Option β) : cal (some (x, m)) f = f x m := rfl
theorem bnd_eq {α β : Type} (x : α) (f : α → β) : bnd x f = f x := rfl
theorem gp_pos {β : Type} {c : Prop} [Decidable c] (h : c) (e : Option β) : gp c e = e := if_pos h
theorem om_no {β : Type} (A : Option β) (B : Nat → Option β) : om none A B = A := rfl
theorem om_so {β : Type} (k : Nat) (A : Option β) (B : Nat → Option β) : om (some k) A B = B k := rfl
def IsS (x : Int32) : Prop := -32768 ≤ x.toInt ∧ x.toInt ≤ 32767
def IsB (b : Int32) : Prop := ∃ n : Nat, n < 256 ∧ b = nI n
def decI (c b : Int32) : Int32 := (F_Intervals_middleOf c b).getD 0
def encI (c x : Int32) : Int32 := (F_Intervals_codeOf c x).getD 0
set_option maxRecDepth 100000 in
theorem dec_all : ∀ n, n < 256 → (F_Intervals_middleOf 0 (nI n) = some (decI 0 (nI n)) ∧ F_Model_expand 0 (nI n) = some (decI 0 (nI n)) ∧ -32768 ≤ (decI 0 (nI n)).toInt ∧ (decI 0 (nI n)).toInt ≤ 32767) ∧ (F_Intervals_middleOf 1 (nI n) = some (decI 1 (nI n)) ∧ F_Model_expand 1 (nI n) = some (decI 1 (nI n)) ∧ -32768 ≤ (decI 1 (nI n)).toInt ∧ (decI 1 (nI n)).toInt ≤ 32767) := by decide +kernel
theorem dec_ok {c b : Int32} (hc : c = 0 ∨ c = 1) (hb : IsB b) : F_Intervals_middleOf c b = some (decI c b) ∧ F_Model_expand c b = some (decI c b) ∧ IsS (decI c b) := by
  obtain ⟨n, hn, rfl⟩ := hb
  rcases hc with rfl | rfl
  · exact (dec_all n hn).1
  · exact (dec_all n hn).2
/-- the first magnitude of an interval -/
def bgN (c i : Nat) : Nat := if c = 0 ∧ i < 16 then 16 * i else (16 + i % 16) * 2 ^ (i / 16 + 3)
set_option maxRecDepth 100000 in
theorem bg_all : ∀ i, i < 128 → F_Model_begins (nI 0) (nI i) = some (nI (bgN 0 i)) ∧ F_Model_begins (nI 1) (nI i) = some (nI (bgN 1 i)) := by decide +kernel
theorem bg_up : ∀ i, i < 127 → bgN 0 i < bgN 0 (i + 1) ∧ bgN 1 i < bgN 1 (i + 1) := by decide +kernel
theorem bg_lt : ∀ i, i < 128 → bgN 0 i < 2 ^ 31 ∧ bgN 1 i < 2 ^ 31 := by decide +kernel
theorem bg_mono {c : Nat} (hc : c = 0 ∨ c = 1) {i : Nat} : ∀ d, i + d < 128 → bgN c i ≤ bgN c (i + d) := by
  intro d
  induction d with
  | zero => intro _; exact Nat.le_refl _
  | succ d ih =>
    intro h
    have h1 := ih (by omega)
    have h2 := bg_up (i + d) (by omega)
    rcases hc with rfl | rfl
    · exact Nat.le_trans h1 (Nat.le_of_lt h2.1)
    · exact Nat.le_trans h1 (Nat.le_of_lt h2.2)
def sgm (m : Nat) : Nat := if m < 256 then 0 else if m < 512 then 1 else if m < 1024 then 2 else if m < 2048 then 3 else if m < 4096 then 4 else if m < 8192 then 5 else if m < 16384 then 6 else 7
theorem seg_step : ∀ k, k < 7 → (¬ (7 : Int32) ≤ nI k) ∧ ((256 : Int32) <<< (nI k &&& (31 : Int32))) = nI (256 * 2 ^ k) ∧ nI k + 1 = nI (k + 1) := by decide +kernel
theorem seg_loop {m : Nat} (hm : m < 2 ^ 31) (n : Nat) {k : Nat} (hk : k < 7) : F_Intervals_segmentOf_2 (n + 1) (nI m) (nI k) = if m < 256 * 2 ^ k then some (nI k) else F_Intervals_segmentOf_2 n (nI m) (nI (k + 1)) := by
  obtain ⟨h1, h2, h3⟩ := seg_step k hk
  have hb : 256 * 2 ^ k < 2 ^ 31 := by
    have : 2 ^ k ≤ 2 ^ 7 := Nat.pow_le_pow_right (by decide) (by omega)
    omega
  rw [F_Intervals_segmentOf_2, if_neg h1, h2, h3]
  by_cases h : m < 256 * 2 ^ k
  · rw [if_pos h, if_pos ((nI_ltI hm hb).mpr h)]
  · rw [if_neg h, if_neg (fun q => h ((nI_ltI hm hb).mp q))]
theorem seg_eq {m : Nat} (hm : m < 2 ^ 31) : F_Intervals_segmentOf (nI m) = some (nI (sgm m)) := by
  unfold F_Intervals_segmentOf
  rw [show (0 : Int32) = nI 0 from nI_0.symm, seg_loop hm _ (by decide), seg_loop hm _ (by decide), seg_loop hm _ (by decide), seg_loop hm _ (by decide), seg_loop hm _ (by decide), seg_loop hm _ (by decide), seg_loop hm _ (by decide)]
  have h7 : F_Intervals_segmentOf_2 293 (nI m) (nI (6 + 1)) = some (nI 7) := by
    rw [F_Intervals_segmentOf_2, if_pos (by decide)]
  rw [h7]
  unfold sgm
  simp only [Nat.pow_zero, Nat.reducePow, Nat.reduceMul, Nat.mul_one, Nat.zero_add, Nat.reduceAdd]
  split
  · rfl
  · split
    · rfl
    · split
      · rfl
      · split
        · rfl
        · split
          · rfl
          · split
            · rfl
            · split <;> rfl
/-- the interval that the class finds -/
def itv (c m : Nat) : Nat := if c = 0 ∧ sgm m = 0 then m / 16 else 16 * sgm m + (m / 2 ^ (sgm m + 3) - 16)
theorem bgN_sk {c s k : Nat} (hk : k < 16) (h : ¬ (c = 0 ∧ s = 0)) : bgN c (16 * s + k) = (16 + k) * 2 ^ (s + 3) := by
  unfold bgN
  rw [if_neg (fun q => h ⟨q.1, by have := q.2; omega⟩), show (16 * s + k) % 16 = k by omega, show (16 * s + k) / 16 = s by omega]
theorem itv_case {c m s P : Nat} (hns : ¬ (c = 0 ∧ s = 0)) (hP : 2 ^ (s + 3) = P) (hp : 0 < P) (h1 : 16 * P ≤ m) (h2 : m < 32 * P) (hs : s < 8) : 16 * s + (m / P - 16) < 128 ∧ bgN c (16 * s + (m / P - 16)) ≤ m ∧ (16 * s + (m / P - 16) = 127 ∨ m < bgN c (16 * s + (m / P - 16) + 1)) := by
  have k1 : 16 ≤ m / P := (Nat.le_div_iff_mul_le hp).mpr h1
  have k2 : m / P < 32 := (Nat.div_lt_iff_lt_mul hp).mpr h2
  have d1 : m / P * P ≤ m := Nat.div_mul_le_self m P
  have d2 : m < (m / P + 1) * P := by
    rw [Nat.mul_comm]
    exact Nat.lt_mul_div_succ m hp
  generalize m / P = q at k1 k2 d1 d2
  obtain ⟨k, rfl⟩ : ∃ k, q = 16 + k := ⟨q - 16, by omega⟩
  rw [Nat.add_sub_cancel_left]
  have hk : k < 16 := by omega
  refine ⟨by omega, by rw [bgN_sk hk hns, hP]; exact d1, ?_⟩
  by_cases h15 : k = 15
  · subst h15
    by_cases h7 : s = 7
    · left
      omega
    · right
      rw [show 16 * s + 15 + 1 = 16 * (s + 1) + 0 by omega, bgN_sk (by decide) (by omega), show s + 1 + 3 = s + 3 + 1 by omega, Nat.pow_succ, hP]
      omega
  · right
    rw [show 16 * s + k + 1 = 16 * s + (k + 1) by omega, bgN_sk (by omega) hns, hP, show 16 + (k + 1) = 16 + k + 1 by omega]
    exact d2
theorem sgm_cases {m : Nat} (hm : m < 32768) : sgm m < 8 ∧ (sgm m ≠ 0 → 16 * 2 ^ (sgm m + 3) ≤ m) ∧ m < 32 * 2 ^ (sgm m + 3) := by
  unfold sgm
  repeat' split
  all_goals simp
  all_goals omega
theorem itv_ok {c m : Nat} (hc : c = 0 ∨ (c = 1 ∧ 132 ≤ m)) (hm : m < 32768) : itv c m < 128 ∧ bgN c (itv c m) ≤ m ∧ (itv c m = 127 ∨ m < bgN c (itv c m + 1)) := by
  obtain ⟨s1, s2, s3⟩ := sgm_cases hm
  unfold itv
  by_cases h0 : c = 0 ∧ sgm m = 0
  · rw [if_pos h0]
    obtain ⟨rfl, e⟩ := h0
    rw [e] at s3
    have h256 : m < 256 := by simpa using s3
    refine ⟨by omega, ?_, Or.inr ?_⟩
    · unfold bgN
      rw [if_pos ⟨rfl, by omega⟩]
      omega
    · by_cases h15 : m / 16 = 15
      · rw [h15]
        have : bgN 0 (15 + 1) = 256 := by decide
        omega
      · unfold bgN
        rw [if_pos ⟨rfl, by omega⟩]
        omega
  · rw [if_neg h0]
    refine itv_case (P := 2 ^ (sgm m + 3)) h0 rfl (Nat.two_pow_pos _) ?_ s3 s1
    by_cases e : sgm m = 0
    · rw [e]
      rcases hc with rfl | ⟨rfl, h⟩
      · exact absurd ⟨rfl, e⟩ h0
      · simp
        omega
    · exact s2 e
/-- the reference's search comes to the same interval -/
theorem cmp_loop {c : Nat} (hc : c = 0 ∨ c = 1) {x : Int32} {m i0 : Nat} (hm : m < 2 ^ 31) (hi : i0 < 128) (h1 : bgN c i0 ≤ m) (h2 : i0 = 127 ∨ m < bgN c (i0 + 1)) : ∀ (d n : Nat), i0 + d < 128 → d < n →
    F_Model_compress_72 n (nI c) x (nI m) (nI (i0 + d)) = F_Model_compress_72 1 (nI c) x (nI m) (nI i0) := by
  have hb : ∀ i, i < 128 → F_Model_begins (nI c) (nI i) = some (nI (bgN c i)) ∧ bgN c i < 2 ^ 31 := fun i h => by
    rcases hc with rfl | rfl
    · exact ⟨(bg_all i h).1, (bg_lt i h).1⟩
    · exact ⟨(bg_all i h).2, (bg_lt i h).2⟩
  intro d
  induction d with
  | zero =>
    intro n hd hn
    obtain ⟨n, rfl⟩ : ∃ k, n = k + 1 := ⟨n - 1, by omega⟩
    simp only [Nat.add_zero]
    rw [F_Model_compress_72, F_Model_compress_72]
    simp only [(hb i0 hi).1, rd_some, if_pos ((nI_leI (hb i0 hi).2 hm).mpr h1)]
  | succ d ih =>
    intro n hd hn
    obtain ⟨n, rfl⟩ : ∃ k, n = k + 1 := ⟨n - 1, by omega⟩
    have hlt : m < bgN c (i0 + (d + 1)) := by
      rcases h2 with e | e
      · omega
      · have := bg_mono hc (i := i0 + 1) d (by omega)
        rw [show i0 + 1 + d = i0 + (d + 1) by omega] at this
        omega
    rw [F_Model_compress_72, (hb _ hd).1, rd_some, if_neg (fun q => Nat.not_le.mpr hlt ((nI_leI (hb _ hd).2 hm).mp q)), show i0 + (d + 1) = i0 + d + 1 by omega, show nI (i0 + d + 1) + (-1 : Int32) = nI (i0 + d) from pk_m1 _]
    exact ih n (by omega) (by omega)
theorem cmp_end {c : Nat} (hc : c = 0 ∨ c = 1) {x : Int32} {m i0 : Nat} (hm : m < 2 ^ 31) (hi : i0 < 128) (h1 : bgN c i0 ≤ m) : F_Model_compress_72 1 (nI c) x (nI m) (nI i0) = some (if c = 0 then (if 0 ≤ x then (nI i0 + 128) ^^^ 85 else nI i0 ^^^ 85) else (if 0 ≤ x then 255 - nI i0 else 127 - nI i0)) := by
  rw [F_Model_compress_72]
  rcases hc with rfl | rfl
  · rw [(bg_all i0 hi).1, rd_some, if_pos ((nI_leI (bg_lt i0 hi).1 hm).mpr h1), if_pos nI_0, if_pos rfl]
    by_cases h : 0 ≤ x
    · rw [if_pos h, if_pos h]
    · rw [if_neg h, if_neg h]
  · rw [(bg_all i0 hi).2, rd_some, if_pos ((nI_leI (bg_lt i0 hi).2 hm).mpr h1), if_neg (show ¬ nI 1 = 0 by decide), if_neg (show ¬ (1 : Nat) = 0 by decide)]
    by_cases h : 0 ≤ x
    · rw [if_pos h, if_pos h]
    · rw [if_neg h, if_neg h]
theorem cmp_find {c : Nat} {x : Int32} {m : Nat} (hc : c = 0 ∨ (c = 1 ∧ 132 ≤ m)) (hm : m < 32768) : F_Model_compress_72 300 (nI c) x (nI m) (127 : Int32) = some (if c = 0 then (if 0 ≤ x then (nI (itv c m) + 128) ^^^ 85 else nI (itv c m) ^^^ 85) else (if 0 ≤ x then 255 - nI (itv c m) else 127 - nI (itv c m))) := by
  have hc' : c = 0 ∨ c = 1 := by
    rcases hc with h | h
    · exact Or.inl h
    · exact Or.inr h.1
  obtain ⟨h1, h2, h3⟩ := itv_ok hc hm
  have := cmp_loop hc' (x := x) (m := m) (by omega) h1 h2 h3 (127 - itv c m) 300 (by omega) (by omega)
  rw [show itv c m + (127 - itv c m) = 127 by omega] at this
  rw [show (127 : Int32) = nI 127 from rfl, this]
  exact cmp_end hc' (by omega) h1 h2
/-- the class's answer -/
theorem c48 {s k : Nat} {z : Int32} : F_Intervals_codeOf0_48 (nI s) (nI k) z = some ((nI (16 * s + k) + z) ^^^ 85) := by
  unfold F_Intervals_codeOf0_48
  rw [show (16 : Int32) = nI 16 from rfl, pk_mul, nI_add]
theorem sh_s : ∀ s, s < 8 → (((nI s + (3 : Int32)) &&& (31 : Int32)).toBitVec.smod 32).toNat = s + 3 := by decide +kernel
theorem cls0 {x : Int32} {m : Nat} (hm : m < 32768) : F_Intervals_codeOf0_12 x (nI m) = some (if 0 ≤ x then (nI (itv 0 m) + 128) ^^^ 85 else nI (itv 0 m) ^^^ 85) := by
  obtain ⟨s1, s2, s3⟩ := sgm_cases hm
  have hend : ∀ k, F_Intervals_codeOf0_36 x (nI (sgm m)) (nI k) = some (if 0 ≤ x then (nI (16 * sgm m + k) + 128) ^^^ 85 else nI (16 * sgm m + k) ^^^ 85) := fun k => by
    unfold F_Intervals_codeOf0_36
    by_cases h : 0 ≤ x
    · rw [if_pos h, if_pos h, c48]
    · rw [if_neg h, if_neg h, c48]
      simp
  unfold F_Intervals_codeOf0_12
  rw [seg_eq (by omega), rd_some]
  by_cases h0 : sgm m = 0
  · rw [if_pos (by rw [h0]; exact nI_0), show nI m >>> ((4 : Int32) &&& (31 : Int32)) = nI (m / 16) from pk_shrN (by omega) _ 4 (by decide), hend]
    have e1 : itv 0 m = m / 16 := by
      unfold itv
      exact if_pos ⟨rfl, h0⟩
    rw [e1, h0]
    simp
  · have e : nI m >>> ((nI (sgm m) + (3 : Int32)) &&& (31 : Int32)) = nI (m / 2 ^ (sgm m + 3)) := pk_shrN (by omega) _ (sgm m + 3) (sh_s _ s1)
    have h16 : 16 ≤ m / 2 ^ (sgm m + 3) := (Nat.le_div_iff_mul_le (Nat.two_pow_pos _)).mpr (s2 h0)
    have e2 : itv 0 m = 16 * sgm m + (m / 2 ^ (sgm m + 3) - 16) := by
      unfold itv
      exact if_neg (fun q => h0 q.2)
    rw [if_neg (nI_ne0 (by omega) (by omega)), e, show (16 : Int32) = nI 16 from rfl, pk_sub h16, hend, e2]
theorem cls1 {x : Int32} {m : Nat} (h132 : m + 132 < 32768) : F_Intervals_codeOf1_25 x (nI m) = some (if 0 ≤ x then 255 - nI (itv 1 (m + 132)) else 127 - nI (itv 1 (m + 132))) := by
  obtain ⟨s1, s2, s3⟩ := sgm_cases h132
  unfold F_Intervals_codeOf1_25
  have e0 : nI m + (132 : Int32) = nI (m + 132) := nI_add m 132
  have e : nI (m + 132) >>> ((nI (sgm (m + 132)) + (3 : Int32)) &&& (31 : Int32)) = nI ((m + 132) / 2 ^ (sgm (m + 132) + 3)) := pk_shrN (by omega) _ (sgm (m + 132) + 3) (sh_s _ s1)
  have h16 : 16 ≤ (m + 132) / 2 ^ (sgm (m + 132) + 3) := by
    refine (Nat.le_div_iff_mul_le (Nat.two_pow_pos _)).mpr ?_
    by_cases h0 : sgm (m + 132) = 0
    · rw [h0]
      simp
    · exact s2 h0
  have h1 : itv 1 (m + 132) = 16 * sgm (m + 132) + ((m + 132) / 2 ^ (sgm (m + 132) + 3) - 16) := by
    unfold itv
    rw [if_neg (by omega)]
  obtain ⟨i1, -, -⟩ := itv_ok (c := 1) (m := m + 132) (Or.inr ⟨rfl, by omega⟩) h132
  simp only [bnd_eq]
  rw [e0, seg_eq (by omega), rd_some, e, show ((16 : Int32)) = nI 16 from rfl, pk_sub h16]
  unfold F_Intervals_codeOf1_56
  have e2 : nI 16 * nI (sgm (m + 132)) + nI ((m + 132) / 2 ^ (sgm (m + 132) + 3) - 16) = nI (itv 1 (m + 132)) := by rw [pk_mul, nI_add, h1]
  by_cases h : 0 ≤ x
  · rw [if_pos h, if_pos h, show (16 : Int32) = nI 16 from rfl, e2]
    simp
  · rw [if_neg h, if_neg h, show (16 : Int32) = nI 16 from rfl, e2]
    exact congrArg some ((by decide +kernel : ∀ i, i < 128 → (255 : Int32) - nI i - 128 = 127 - nI i) _ i1)
theorem smp1 {x : Int32} (h : IsS x) : F_Gate_isSample x = some 1 ∧ F_Model_isSample x = some 1 := by
  have h1 : ¬ x < (-32768 : Int32) := by
    rw [Int32.lt_iff_toInt_lt, show (-32768 : Int32).toInt = -32768 from rfl]
    have := h.1
    omega
  have h2 : ¬ (32767 : Int32) < x := by
    rw [Int32.lt_iff_toInt_lt, show (32767 : Int32).toInt = 32767 from rfl]
    have := h.2
    omega
  unfold F_Gate_isSample F_Model_isSample
  rw [if_neg h1, if_neg h2]
  exact ⟨rfl, rfl⟩
theorem smp0 {x : Int32} (h : ¬ IsS x) : F_Gate_isSample x = some 0 ∧ F_Model_isSample x = some 0 := by
  unfold F_Gate_isSample F_Model_isSample
  by_cases h1 : x < (-32768 : Int32)
  · rw [if_pos h1]
    exact ⟨rfl, rfl⟩
  · by_cases h2 : (32767 : Int32) < x
    · rw [if_neg h1, if_pos h2]
      exact ⟨rfl, rfl⟩
    · rw [Int32.lt_iff_toInt_lt, show (-32768 : Int32).toInt = -32768 from rfl] at h1
      rw [Int32.lt_iff_toInt_lt, show (32767 : Int32).toInt = 32767 from rfl] at h2
      exact absurd ⟨by omega, by omega⟩ h
theorem smp_cases {x : Int32} (h : IsS x) : (0 ≤ x ∧ ∃ m, m < 32768 ∧ x = nI m) ∨ (¬ 0 ≤ x ∧ ∃ m, m < 32768 ∧ -x - 1 = nI m ∧ -x = nI (m + 1)) := by
  obtain ⟨h1, h2⟩ := h
  by_cases h0 : 0 ≤ x
  · left
    obtain ⟨j, hj, rfl⟩ := nI_of (x := x) (fun q => Int32.not_lt.mpr h0 q)
    rw [nI_toInt hj] at h2
    exact ⟨h0, j, by omega, rfl⟩
  · right
    have hx : x.toInt < 0 := by
      rw [Int32.le_iff_toInt_le, Int32.toInt_zero] at h0
      omega
    have e : (-x).toInt = -x.toInt := wn_neg (by omega)
    obtain ⟨j, hj, ej⟩ := nI_of (x := -x) (by rw [Int32.lt_iff_toInt_lt, e, Int32.toInt_zero]; omega)
    rw [ej, nI_toInt hj] at e
    obtain ⟨m, rfl⟩ : ∃ m, j = m + 1 := ⟨j - 1, by omega⟩
    exact ⟨h0, m, by omega, by rw [ej]; exact nI_pred m, ej⟩
theorem enc_b0 : ∀ i, i < 128 → (∃ n, n < 256 ∧ (nI i + 128) ^^^ 85 = nI n) ∧ ∃ n, n < 256 ∧ nI i ^^^ 85 = nI n := by
  intro i hi
  refine ⟨⟨(i + 128) ^^^ 85, ?_, ?_⟩, ⟨i ^^^ 85, ?_, ?_⟩⟩
  · exact (by decide +kernel : ∀ i, i < 128 → (i + 128) ^^^ 85 < 256) i hi
  · exact (by decide +kernel : ∀ i, i < 128 → (nI i + 128) ^^^ 85 = nI ((i + 128) ^^^ 85)) i hi
  · exact (by decide +kernel : ∀ i, i < 128 → i ^^^ 85 < 256) i hi
  · exact (by decide +kernel : ∀ i, i < 128 → nI i ^^^ 85 = nI (i ^^^ 85)) i hi
theorem enc_b1 : ∀ i, i < 128 → (∃ n, n < 256 ∧ (255 : Int32) - nI i = nI n) ∧ ∃ n, n < 256 ∧ (127 : Int32) - nI i = nI n := by
  intro i hi
  exact ⟨⟨255 - i, by omega, pk_sub (a := 255) (by omega)⟩, ⟨127 - i, by omega, pk_sub (a := 127) (by omega)⟩⟩
theorem enc_of {c x v : Int32} (h1 : F_Intervals_codeOf c x = some v) (h2 : F_Model_compress c x = some v) (h3 : IsB v) : F_Intervals_codeOf c x = some (encI c x) ∧ F_Model_compress c x = some (encI c x) ∧ IsB (encI c x) := by
  have e : encI c x = v := by
    unfold encI
    rw [h1]
    rfl
  rw [e]
  exact ⟨h1, h2, h3⟩
theorem mc_start {c x : Int32} (hc : c = 0 ∨ c = 1) (hx : IsS x) : F_Model_compress c x = if 0 ≤ x then F_Model_compress_28 c x x else F_Model_compress_28 c x (-x) := by
  unfold F_Model_compress
  have h1 : ¬ c < 0 := by rcases hc with rfl | rfl <;> decide
  have h2 : ¬ (1 : Int32) < c := by rcases hc with rfl | rfl <;> decide
  rw [if_neg h1, if_neg h2, (smp1 hx).2, rd_some, if_neg (by decide)]
theorem enc_ok {c x : Int32} (hc : c = 0 ∨ c = 1) (hx : IsS x) : F_Intervals_codeOf c x = some (encI c x) ∧ F_Model_compress c x = some (encI c x) ∧ IsB (encI c x) := by
  have hms := mc_start hc hx
  have hi0 : ∀ m, m < 32768 → itv 0 m < 128 := fun m h => (itv_ok (c := 0) (Or.inl rfl) h).1
  have hi1 : ∀ m, 132 ≤ m → m < 32768 → itv 1 m < 128 := fun m h1 h => (itv_ok (c := 1) (Or.inr ⟨rfl, h1⟩) h).1
  rcases hc with rfl | rfl
  · rcases smp_cases hx with ⟨h0, m, hm, e⟩ | ⟨h0, m, hm, e, -⟩
    · refine enc_of (v := (nI (itv 0 m) + 128) ^^^ 85) ?_ ?_ (enc_b0 _ (hi0 m hm)).1
      · unfold F_Intervals_codeOf F_Intervals_codeOf0
        have := cls0 (x := x) hm
        rw [if_pos h0, ← e] at this
        rw [if_pos rfl, if_pos h0, this, rd_some]
      · rw [hms, if_pos h0]
        unfold F_Model_compress_28
        have := cmp_find (c := 0) (x := x) (Or.inl rfl) hm
        rw [nI_0, if_pos rfl, if_pos h0, ← e] at this
        rw [if_pos rfl, if_pos h0, this]
    · refine enc_of (v := nI (itv 0 m) ^^^ 85) ?_ ?_ (enc_b0 _ (hi0 m hm)).2
      · unfold F_Intervals_codeOf F_Intervals_codeOf0
        have := cls0 (x := x) hm
        rw [if_neg h0, ← e] at this
        rw [if_pos rfl, if_neg h0, this, rd_some]
      · rw [hms, if_neg h0]
        unfold F_Model_compress_28
        have := cmp_find (c := 0) (x := x) (Or.inl rfl) hm
        rw [nI_0, if_pos rfl, if_neg h0, ← e] at this
        rw [if_pos rfl, if_neg h0, bnd_eq, this]
  · have h1c : ¬ (1 : Int32) = 0 := by decide
    have key : ∀ (s : Int32) (m : Nat), s = nI m → m ≤ 32768 → ∃ i, i < 128 ∧ F_Intervals_codeOf1_10 x s = some (if 0 ≤ x then 255 - nI i else 127 - nI i) ∧ F_Model_compress_28 1 x s = some (if 0 ≤ x then 255 - nI i else 127 - nI i) := by
      rintro s m rfl hm
      unfold F_Intervals_codeOf1_10 F_Model_compress_28
      by_cases h : m ≤ 32635
      · have hle : nI m ≤ (32635 : Int32) := nI_le (b := 32635) h (by decide)
        refine ⟨itv 1 (m + 132), hi1 _ (by omega) (by omega), ?_, ?_⟩
        · rw [if_pos hle, cls1 (by omega)]
        · have := cmp_find (c := 1) (x := x) (m := m + 132) (Or.inr ⟨rfl, by omega⟩) (by omega)
          rw [if_neg (show ¬ (1 : Nat) = 0 by decide)] at this
          simp only [bnd_eq]
          rw [if_neg h1c, if_pos hle, show nI m + (132 : Int32) = nI (m + 132) from nI_add m 132]
          exact this
      · have hle : ¬ nI m ≤ (32635 : Int32) := nI_ge (a := 32635) (by omega) (by omega)
        refine ⟨itv 1 (32635 + 132), hi1 _ (by omega) (by omega), ?_, ?_⟩
        · rw [if_neg hle]
          exact cls1 (x := x) (m := 32635) (by omega)
        · have := cmp_find (c := 1) (x := x) (m := 32635 + 132) (Or.inr ⟨rfl, by omega⟩) (by omega)
          rw [if_neg (show ¬ (1 : Nat) = 0 by decide)] at this
          rw [if_neg h1c, if_neg hle]
          exact this
    have fin : ∀ (i : Nat), i < 128 → IsB (if 0 ≤ x then 255 - nI i else 127 - nI i) := fun i hi => by
      by_cases h : 0 ≤ x
      · rw [if_pos h]
        exact (enc_b1 i hi).1
      · rw [if_neg h]
        exact (enc_b1 i hi).2
    rcases smp_cases hx with ⟨h0, m, hm, e⟩ | ⟨h0, m, hm, -, e⟩
    · obtain ⟨i, hi, k1, k2⟩ := key x m e (by omega)
      refine enc_of ?_ ?_ (fin i hi)
      · unfold F_Intervals_codeOf F_Intervals_codeOf1
        rw [if_neg h1c, if_pos h0, k1, rd_some]
      · rw [hms, if_pos h0, k2]
    · obtain ⟨i, hi, k1, k2⟩ := key (-x) (m + 1) e (by omega)
      refine enc_of ?_ ?_ (fin i hi)
      · unfold F_Intervals_codeOf F_Intervals_codeOf1
        rw [if_neg h1c, if_neg h0, k1, rd_some]
      · rw [hms, if_neg h0, k2]
