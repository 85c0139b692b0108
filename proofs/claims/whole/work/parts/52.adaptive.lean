-- CODING 2: value and index, one code
def wi (x lo hi : Int32) : Int32 := if lo ≤ x then (if x ≤ hi then x else hi) else lo
theorem within_eq (x lo hi : Int32) : F_Adaptive_within x lo hi = some (wi x lo hi) := by
  unfold F_Adaptive_within wi
  by_cases h1 : lo ≤ x
  · by_cases h2 : x ≤ hi
    · rw [if_pos h1, if_pos h2, if_pos h1, if_pos h2]
    · rw [if_pos h1, if_neg h2, if_pos h1, if_neg h2]
  · rw [if_neg h1, if_neg h1]
def dl3 (q : Nat) (t a : Int32) : Int32 := if q % 2 = 0 then a else a + t / 4
def dl2 (q : Nat) (t a : Int32) : Int32 := if q % 4 < 2 then a else a + t / 2
def dl1 (q : Nat) (t : Int32) : Int32 := if q % 8 < 4 then t / 8 else t / 8 + t
def dl (q : Nat) (t : Int32) : Int32 := dl3 q t (dl2 q t (dl1 q t))
def ic (q : Nat) : Int32 := if q % 8 < 4 then -1 else 2 + 2 * nI (q % 4)
def nv (v t : Int32) (q : Nat) : Int32 := wi (if q < 8 then v + dl q t else v - dl q t) (-32768) 32767
def nx (i : Int32) (q : Nat) : Int32 := wi (i + ic q) 0 88
theorem cb_bits : ∀ q, q < 16 → ((nI q &&& (4 : Int32)) = 0 ↔ q % 8 < 4) ∧ ((nI q &&& (2 : Int32)) = 0 ↔ q % 4 < 2) ∧ ((nI q &&& (1 : Int32)) = 0 ↔ q % 2 = 0) ∧ ((nI q &&& (8 : Int32)) = 0 ↔ q < 8) ∧ (nI q &&& (3 : Int32)) = nI (q % 4) := by decide +kernel
theorem cm_bits : ∀ q, q < 16 → ((nI q - nI q / (8 : Int32) * (8 : Int32)) < (4 : Int32) ↔ q % 8 < 4) ∧ ((nI q - nI q / (4 : Int32) * (4 : Int32)) < (2 : Int32) ↔ q % 4 < 2) ∧ ((nI q - nI q / (2 : Int32) * (2 : Int32)) = (1 : Int32) ↔ ¬ q % 2 = 0) ∧ (nI q < (8 : Int32) ↔ q < 8) ∧ ((4 : Int32) ≤ (nI q - nI q / (8 : Int32) * (8 : Int32)) ↔ ¬ q % 8 < 4) ∧ (nI q - nI q / (4 : Int32) * (4 : Int32)) = nI (q % 4) := by decide +kernel
theorem cb90 (m : Mem) (t : Nat) (d s : Int32) : F_Adaptive_changeBy_90 m t d t s = some (put (put m t 0 (wi s (-32768) 32767)) t 1 (wi (m t 1 + d) 0 88)) := by
  unfold F_Adaptive_changeBy_90
  simp only [within_eq, rd_some, bnd_eq]
  have e : put m t 0 (wi s (-32768) 32767) t 1 = m t 1 := by simp [put_at]
  rw [e]
theorem cb65 (m : Mem) (t : Nat) {q : Nat} (hq : q < 16) (a d : Int32) : F_Adaptive_changeBy_65 m t (nI q) a d = some (put (put m t 0 (wi (if q < 8 then m t 0 + a else m t 0 - a) (-32768) 32767)) t 1 (wi (m t 1 + d) 0 88)) := by
  obtain ⟨-, -, -, h8, -⟩ := cb_bits q hq
  unfold F_Adaptive_changeBy_65
  by_cases h : q < 8
  · rw [if_pos (h8.mpr h), cb90, if_pos h]
  · rw [if_neg (fun z => h (h8.mp z)), cb90, if_neg h]
theorem cb48 (m : Mem) (t : Nat) {q : Nat} (hq : q < 16) (a : Int32) : F_Adaptive_changeBy_48 m t (nI q) a = some (put (put m t 0 (wi (if q < 8 then m t 0 + a else m t 0 - a) (-32768) 32767)) t 1 (nx (m t 1) q)) := by
  obtain ⟨h4, -, -, -, h3⟩ := cb_bits q hq
  unfold F_Adaptive_changeBy_48 nx ic
  by_cases h : q % 8 < 4
  · rw [if_pos (h4.mpr h), cb65 m t hq, if_pos h]
  · rw [if_neg (fun z => h (h4.mp z)), cb65 m t hq, if_neg h, h3]
theorem cb36 (m : Mem) (t : Nat) {q : Nat} (hq : q < 16) (st a : Int32) : F_Adaptive_changeBy_36 m t (nI q) st a = some (put (put m t 0 (wi (if q < 8 then m t 0 + dl3 q st a else m t 0 - dl3 q st a) (-32768) 32767)) t 1 (nx (m t 1) q)) := by
  obtain ⟨-, -, h1, -, -⟩ := cb_bits q hq
  unfold F_Adaptive_changeBy_36 dl3
  by_cases h : q % 2 = 0
  · rw [if_pos (h1.mpr h), cb48 m t hq, if_pos h]
  · rw [if_neg (fun z => h (h1.mp z)), bnd_eq, cb48 m t hq, if_neg h]
theorem cb24 (m : Mem) (t : Nat) {q : Nat} (hq : q < 16) (st a : Int32) : F_Adaptive_changeBy_24 m t (nI q) st a = some (put (put m t 0 (wi (if q < 8 then m t 0 + dl3 q st (dl2 q st a) else m t 0 - dl3 q st (dl2 q st a)) (-32768) 32767)) t 1 (nx (m t 1) q)) := by
  obtain ⟨-, h2, -, -, -⟩ := cb_bits q hq
  unfold F_Adaptive_changeBy_24 dl2
  by_cases h : q % 4 < 2
  · rw [if_pos (h2.mpr h), cb36 m t hq, if_pos h]
  · rw [if_neg (fun z => h (h2.mp z)), bnd_eq, cb36 m t hq, if_neg h]
theorem chg_cls {m : Mem} {t q : Nat} (hq : q < 16) (hi : ¬ (m t 1 < 0 ∨ 89 ≤ (m t 1).toNatClampNeg)) : F_Adaptive_changeBy m t (nI q) = some (put (put m t 0 (nv (m t 0) (tb_STEPS (m t 1).toNatClampNeg) q)) t 1 (nx (m t 1) q)) := by
  obtain ⟨h4, -, -, -, -⟩ := cb_bits q hq
  unfold F_Adaptive_changeBy nv dl dl1
  rw [if_neg hi]
  simp only [bnd_eq]
  by_cases h : q % 8 < 4
  · rw [if_pos (h4.mpr h), cb24 m t hq, if_pos h]
  · rw [if_neg (fun z => h (h4.mp z)), cb24 m t hq, if_neg h]
/-- the reference's scratch: level and place -/
def FrS (m m' : Mem) : Prop := ∀ k j, ¬ (k = 17 ∧ (j = 23 ∨ j = 24)) → m' k j = m k j
theorem FrS.put {m m' : Mem} (h : FrS m m') {j : Nat} (hj : j = 23 ∨ j = 24) (x : Int32) : FrS m (put m' 17 j x) := fun k i hki => by
  rw [put_at]
  by_cases hk : k = 17
  · by_cases hij : i = j
    · exact absurd ⟨hk, by rw [hij]; exact hj⟩ hki
    · rw [if_pos hk, if_neg hij]
      exact h k i hki
  · rw [if_neg hk]
    exact h k i hki
theorem FrS.rf (m : Mem) : FrS m m := fun _ _ _ => rfl
theorem FrS.tr {m m' m'' : Mem} (h : FrS m m') (h' : FrS m' m'') : FrS m m'' := fun k j q => (h' k j q).trans (h k j q)
theorem mc154 (m : Mem) (s d : Int32) : ∃ m', F_Model_change_154 m s d = some m' ∧ m' 17 24 = wi (s + d) 0 88 ∧ m' 17 23 = m 17 23 ∧ FrS m m' := by
  unfold F_Model_change_154
  simp only [bnd_eq]
  have e : put m 17 24 (s + d) 17 24 = s + d := by simp [put_at]
  have f : FrS m (put m 17 24 (s + d)) := (FrS.rf m).put (Or.inr rfl) _
  rw [e]
  unfold wi
  by_cases h1 : 0 ≤ s + d
  · by_cases h2 : s + d ≤ (88 : Int32)
    · rw [if_pos h1, if_pos h2, if_pos h1, if_pos h2]
      exact ⟨_, rfl, by simp [put_at], by simp [put_at], f.put (Or.inr rfl) _⟩
    · rw [if_pos h1, if_neg h2, if_pos h1, if_neg h2]
      exact ⟨_, rfl, by simp [put_at], by simp [put_at], f.put (Or.inr rfl) _⟩
  · rw [if_neg h1, if_neg h1]
    exact ⟨_, rfl, by simp [put_at], by simp [put_at], f.put (Or.inr rfl) _⟩
theorem mc127 (m : Mem) {q : Nat} (hq : q < 16) (s : Int32) : ∃ m', F_Model_change_127 m (nI q) s = some m' ∧ m' 17 23 = s ∧ m' 17 24 = nx (m 17 24) q ∧ FrS m m' := by
  obtain ⟨-, -, -, -, h4, h3⟩ := cm_bits q hq
  unfold F_Model_change_127
  simp only [bnd_eq]
  have e : put m 17 23 s 17 24 = m 17 24 := by simp [put_at]
  have f : FrS m (put m 17 23 s) := (FrS.rf m).put (Or.inl rfl) _
  rw [e]
  unfold nx ic
  by_cases h : q % 8 < 4
  · rw [if_neg (fun z => h4.mp z h), if_pos h]
    obtain ⟨m', g1, g2, g3, g4⟩ := mc154 (put m 17 23 s) (m 17 24) (-1)
    exact ⟨m', g1, by rw [g3]; simp [put_at], g2, f.tr g4⟩
  · rw [if_pos (h4.mpr h), if_neg h, h3]
    obtain ⟨m', g1, g2, g3, g4⟩ := mc154 (put m 17 23 s) (m 17 24) (2 + 2 * nI (q % 4))
    exact ⟨m', g1, by rw [g3]; simp [put_at], g2, f.tr g4⟩
theorem mc87 (m : Mem) {q : Nat} (hq : q < 16) (s : Int32) : ∃ m', F_Model_change_87 m (nI q) s = some m' ∧ m' 17 23 = wi s (-32768) 32767 ∧ m' 17 24 = nx (m 17 24) q ∧ FrS m m' := by
  unfold F_Model_change_87
  simp only [bnd_eq]
  have e : put m 17 23 s 17 23 = s := by simp [put_at]
  have e2 : put m 17 23 s 17 24 = m 17 24 := by simp [put_at]
  have f : FrS m (put m 17 23 s) := (FrS.rf m).put (Or.inl rfl) _
  rw [e]
  have w : wi s (-32768) 32767 = if s ≤ (32767 : Int32) then (if (-32768 : Int32) ≤ s then s else -32768) else 32767 := by
    unfold wi
    by_cases h1 : (-32768 : Int32) ≤ s
    · by_cases h2 : s ≤ (32767 : Int32)
      · simp [h1, h2]
      · simp [h1, h2]
    · have h2 : s ≤ (32767 : Int32) := by
        rw [Int32.le_iff_toInt_le] at h1 ⊢
        have a1 : (-32768 : Int32).toInt = -32768 := rfl
        have a2 : (32767 : Int32).toInt = 32767 := rfl
        omega
      simp [h1, h2]
  rw [w]
  by_cases h1 : s ≤ (32767 : Int32)
  · by_cases h2 : (-32768 : Int32) ≤ s
    · rw [if_pos h1, if_pos h2, if_pos h1, if_pos h2]
      obtain ⟨m', g1, g2, g3, g4⟩ := mc127 (put m 17 23 s) hq s
      exact ⟨m', g1, g2, by rw [g3, e2], f.tr g4⟩
    · rw [if_pos h1, if_neg h2, if_pos h1, if_neg h2]
      obtain ⟨m', g1, g2, g3, g4⟩ := mc127 (put m 17 23 s) hq (-32768)
      exact ⟨m', g1, g2, by rw [g3, e2], f.tr g4⟩
  · rw [if_neg h1, if_neg h1]
    obtain ⟨m', g1, g2, g3, g4⟩ := mc127 (put m 17 23 s) hq 32767
    exact ⟨m', g1, g2, by rw [g3, e2], f.tr g4⟩
theorem chg_mod {m : Mem} {q : Nat} (hq : q < 16) (hi : ¬ (m 17 24 < 0 ∨ 89 ≤ (m 17 24).toNatClampNeg)) (hs : ∀ j, j < 89 → m 18 j = tb_STEPS j) : ∃ m', F_Model_change m (nI q) = some m' ∧ m' 17 23 = nv (m 17 23) (tb_STEPS (m 17 24).toNatClampNeg) q ∧ m' 17 24 = nx (m 17 24) q ∧ FrS m m' := by
  obtain ⟨h4, h2, h1, h8, -, -⟩ := cm_bits q hq
  have hst : m 18 (m 17 24).toNatClampNeg = tb_STEPS (m 17 24).toNatClampNeg := hs _ (Nat.not_le.mp (fun z => hi (Or.inr z)))
  have c63 : ∀ a b : Int32, ∃ m', F_Model_change_63 m (nI q) a b = some m' ∧ m' 17 23 = wi (if q < 8 then m 17 23 + (a + b) else m 17 23 - (a + b)) (-32768) 32767 ∧ m' 17 24 = nx (m 17 24) q ∧ FrS m m' := fun a b => by
    unfold F_Model_change_63
    simp only [bnd_eq]
    by_cases h : q < 8
    · rw [if_pos (h8.mpr h), if_pos h]
      exact mc87 m hq _
    · rw [if_neg (fun z => h (h8.mp z)), if_neg h]
      exact mc87 m hq _
  have c46 : ∀ st a b : Int32, ∃ m', F_Model_change_46 m (nI q) st a b = some m' ∧ m' 17 23 = wi (if q < 8 then m 17 23 + dl3 q st (a + b) else m 17 23 - dl3 q st (a + b)) (-32768) 32767 ∧ m' 17 24 = nx (m 17 24) q ∧ FrS m m' := fun st a b => by
    unfold F_Model_change_46 dl3
    simp only [bnd_eq]
    by_cases h : q % 2 = 0
    · rw [if_neg (fun z => h1.mp z h), if_pos h]
      have := c63 (a + b) 0
      rw [Int32.add_zero] at this
      exact this
    · rw [if_pos (h1.mpr h), if_neg h]
      exact c63 (a + b) (st / 4)
  have c29 : ∀ st a b : Int32, ∃ m', F_Model_change_29 m (nI q) st a b = some m' ∧ m' 17 23 = wi (if q < 8 then m 17 23 + dl3 q st (dl2 q st (a + b)) else m 17 23 - dl3 q st (dl2 q st (a + b))) (-32768) 32767 ∧ m' 17 24 = nx (m 17 24) q ∧ FrS m m' := fun st a b => by
    unfold F_Model_change_29 dl2
    simp only [bnd_eq]
    by_cases h : q % 4 < 2
    · rw [if_pos (h2.mpr h), if_pos h]
      have := c46 st (a + b) 0
      rw [Int32.add_zero] at this
      exact this
    · rw [if_neg (fun z => h (h2.mp z)), if_neg h]
      exact c46 st (a + b) (st / 2)
  unfold F_Model_change nv dl dl1
  rw [if_neg (by exact hi)]
  simp only [bnd_eq]
  rw [hst]
  by_cases h : q % 8 < 4
  · rw [if_pos (h4.mpr h), if_pos h]
    have := c29 (tb_STEPS (m 17 24).toNatClampNeg) (tb_STEPS (m 17 24).toNatClampNeg / 8) 0
    rw [Int32.add_zero] at this
    exact this
  · rw [if_neg (fun z => h (h4.mp z)), if_neg h]
    exact c29 _ _ _
theorem wi_bd {x lo hi : Int32} (h : lo.toInt ≤ hi.toInt) : lo.toInt ≤ (wi x lo hi).toInt ∧ (wi x lo hi).toInt ≤ hi.toInt := by
  unfold wi
  by_cases h1 : lo ≤ x
  · rw [if_pos h1]
    rw [Int32.le_iff_toInt_le] at h1
    by_cases h2 : x ≤ hi
    · rw [if_pos h2]
      rw [Int32.le_iff_toInt_le] at h2
      exact ⟨h1, h2⟩
    · rw [if_neg h2]
      exact ⟨h, Int.le_refl _⟩
  · rw [if_neg h1]
    exact ⟨Int.le_refl _, h⟩
theorem nv_S (v t : Int32) (q : Nat) : IsS (nv v t q) := wi_bd (lo := -32768) (hi := 32767) (by decide)
theorem nx_88 (i : Int32) (q : Nat) : ∃ n, n ≤ 88 ∧ nx i q = nI n := by
  have h := wi_bd (x := i + ic q) (lo := 0) (hi := 88) (by decide)
  exact nI_of2 (M := 88) (n := 88) rfl (by rw [Int32.lt_iff_toInt_lt]; have := h.1; unfold nx; omega) (by rw [Int32.le_iff_toInt_le]; exact h.2)
theorem ix_ok {x : Int32} {n : Nat} (h : x = nI n) (hn : n ≤ 88) : ¬ (x < 0 ∨ 89 ≤ x.toNatClampNeg) := by
  rw [h]
  exact nI_in (by omega) (by decide)
-- a sample's code
theorem cod_eq (m m' : Mem) (t c r : Int32) : F_Adaptive_codeOf_38 m t c r = F_Model_codeOf_48 m' t r c := rfl
theorem cod_16 (m : Mem) (t c r : Int32) (hc : c = 0 ∨ c = 8) : ∃ q, q < 16 ∧ F_Adaptive_codeOf_38 m t c r = some (nI q) := by
  unfold F_Adaptive_codeOf_38 F_Adaptive_codeOf_55 F_Adaptive_codeOf_74
  simp only [bnd_eq]
  rcases hc with rfl | rfl
  · repeat' split
    · exact ⟨0, by decide, rfl⟩
    · exact ⟨1, by decide, rfl⟩
    · exact ⟨2, by decide, rfl⟩
    · exact ⟨3, by decide, rfl⟩
    · exact ⟨4, by decide, rfl⟩
    · exact ⟨5, by decide, rfl⟩
    · exact ⟨6, by decide, rfl⟩
    · exact ⟨7, by decide, rfl⟩
  · repeat' split
    · exact ⟨8, by decide, rfl⟩
    · exact ⟨9, by decide, rfl⟩
    · exact ⟨10, by decide, rfl⟩
    · exact ⟨11, by decide, rfl⟩
    · exact ⟨12, by decide, rfl⟩
    · exact ⟨13, by decide, rfl⟩
    · exact ⟨14, by decide, rfl⟩
    · exact ⟨15, by decide, rfl⟩
def cdr (v t x : Int32) : Option Int32 := F_Adaptive_codeOf_38 (fun _ _ => 0) t (if v ≤ x then 0 else 8) (if v ≤ x then x - v else v - x)
def cdN (v t x : Int32) : Nat := ((cdr v t x).getD 0).toNatClampNeg
theorem cdr_eq (v t x : Int32) : cdr v t x = some (nI (cdN v t x)) ∧ cdN v t x < 16 := by
  obtain ⟨q, hq, e⟩ := cod_16 (fun _ _ => 0) t (if v ≤ x then 0 else 8) (if v ≤ x then x - v else v - x) (by by_cases h : v ≤ x <;> simp [h])
  have e1 : cdr v t x = some (nI q) := e
  have e2 : cdN v t x = q := by
    unfold cdN
    rw [e1]
    exact nI_clamp (by omega)
  rw [e2]
  exact ⟨e1, hq⟩
theorem sub_ge {v x : Int32} (hv : IsS v) (hx : IsS x) : 0 ≤ x - v ↔ v ≤ x := by
  obtain ⟨a1, a2⟩ := hv
  obtain ⟨b1, b2⟩ := hx
  rw [Int32.le_iff_toInt_le, Int32.le_iff_toInt_le, wn_sub (by omega) (by omega), Int32.toInt_zero]
  omega
theorem cod_cls {m : Mem} {t : Nat} {x : Int32} (hi : ¬ (m t 1 < 0 ∨ 89 ≤ (m t 1).toNatClampNeg)) (hv : IsS (m t 0)) (hx : IsS x) : F_Adaptive_codeOf m t x = some (nI (cdN (m t 0) (tb_STEPS (m t 1).toNatClampNeg) x)) := by
  rw [← (cdr_eq _ _ _).1]
  unfold F_Adaptive_codeOf cdr
  rw [if_neg hi]
  simp only [bnd_eq]
  by_cases h : m t 0 ≤ x
  · rw [if_pos ((sub_ge hv hx).mpr h), if_pos h, if_pos h]
    unfold F_Adaptive_codeOf_26
    rw [if_pos ((sub_ge hv hx).mpr h)]
    rfl
  · have h' : ¬ 0 ≤ x - m t 0 := fun z => h ((sub_ge hv hx).mp z)
    rw [if_neg h', if_neg h, if_neg h]
    unfold F_Adaptive_codeOf_26
    rw [if_neg h', Int32.neg_sub]
    rfl
theorem cod_mod {m : Mem} {x : Int32} (hi : ¬ (m 17 24 < 0 ∨ 89 ≤ (m 17 24).toNatClampNeg)) (hs : ∀ j, j < 89 → m 18 j = tb_STEPS j) : F_Model_codeOf m x = some (nI (cdN (m 17 23) (tb_STEPS (m 17 24).toNatClampNeg) x)) := by
  have hst : m 18 (m 17 24).toNatClampNeg = tb_STEPS (m 17 24).toNatClampNeg := hs _ (Nat.not_le.mp (fun z => hi (Or.inr z)))
  rw [← (cdr_eq _ _ _).1]
  unfold F_Model_codeOf cdr F_Model_codeOf_33
  rw [if_neg (by exact hi)]
  simp only [bnd_eq]
  rw [hst]
  by_cases h : m 17 23 ≤ x
  · rw [if_pos h, if_pos h, if_pos h, if_pos h]
    rfl
  · rw [if_neg h, if_neg h, if_neg h, if_neg h]
    rfl
