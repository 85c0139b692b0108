-- WHAT IS MISSING
theorem dv_S {z : Int32} {M : Nat} (hz : IsS z) (h0 : 0 < M) (hM : M < 2 ^ 30) : IsS (z / nI M) := by
  have e : (nI M).toInt = (M : Int) := nI_toInt (by omega)
  obtain ⟨a1, a2⟩ := hz
  have hb : -32768 ≤ z.toInt.tdiv (M : Int) ∧ z.toInt.tdiv (M : Int) ≤ 32767 := by
    rcases Int.lt_or_le z.toInt 0 with q | q
    · obtain ⟨y, hy⟩ : ∃ y : Nat, z.toInt = -(y : Int) := ⟨(-z.toInt).toNat, by omega⟩
      rw [hy, Int.neg_tdiv, Int.tdiv_eq_ediv_of_nonneg (by omega)]
      have c1 : (y : Int) / (M : Int) ≤ y := Int.ediv_le_self _ (by omega)
      have c2 : 0 ≤ (y : Int) / (M : Int) := Int.ediv_nonneg (by omega) (by omega)
      omega
    · rw [Int.tdiv_eq_ediv_of_nonneg q]
      have c1 : z.toInt / (M : Int) ≤ z.toInt := Int.ediv_le_self _ q
      have c2 : 0 ≤ z.toInt / (M : Int) := Int.ediv_nonneg q (by omega)
      omega
  have ed : (z / nI M).toInt = z.toInt.tdiv (M : Int) := by
    rw [Int32.toInt_div, e, wn_bm (by omega) (by omega)]
  unfold IsS
  rw [ed]
  exact hb
section CO
variable {m : Mem} {st nxt mi : Nat} {buf : Nat → Option (List Int32)} {ρ : Nat → Option Nat} {p ys zs : List Int32}
theorem cc_50 {k : Nat} (k0 : 0 < k) (hk : k < 2 ^ 30) : ∀ (d n j : Nat) (m : Mem) (ys : List Int32), zs.length = j + d → d < n → SR (m 5 1) (m (5 + 1)) (ln (5 + 1)) zs → SR (m 3 1) (m (3 + 1)) (ln (3 + 1)) ys → ys.length + d ≤ 256 → ∃ m', F_Player_conceal_50 n m 3 (nI zs.length) (nI k) (nI j) = (rd (F_Buffer_goOn (put m' 11 2 (m' 11 2 + nI zs.length))) fun m10 => some (nI zs.length, m10)) ∧ SR (m' 3 1) (m' (3 + 1)) (ln (3 + 1)) (ys ++ (zs.drop j).map (· / nI k)) ∧ CH (fun a b => (a = 3 ∧ b = 1) ∨ a = 3 + 1) m m' := by
  have l4 : ln (3 + 1) = 256 := rfl
  intro d
  induction d with
  | zero =>
    intro n j m ys e hn hz hy hr
    obtain ⟨n, rfl⟩ : ∃ q, n = q + 1 := ⟨n - 1, by omega⟩
    have hzl := hz.2.1
    have l6 : ln (5 + 1) = 16 := rfl
    refine ⟨m, ?_, by rw [List.drop_of_length_le (by omega)]; simpa using hy, CH.rf⟩
    rw [F_Player_conceal_50, if_pos (nI_le (by omega) (by omega)), bnd_eq]
  | succ d ih =>
    intro n j m ys e hn hz hy hr
    obtain ⟨n, rfl⟩ : ∃ q, n = q + 1 := ⟨n - 1, by omega⟩
    have hzl := hz.2.1
    have l6 : ln (5 + 1) = 16 := rfl
    have hj : j < zs.length := by omega
    obtain ⟨m1, g1, g2, g3⟩ := sa_add hy (by decide) (by omega) (zs.getD j 0 / nI k)
    have hz1 : SR (m1 5 1) (m1 (5 + 1)) (ln (5 + 1)) zs := by
      rw [g3 5 1 (by omega)]
      exact hz.congr (fun i _ => g3 _ _ (by omega))
    obtain ⟨m2, f1, f2, f3⟩ := ih n (j + 1) m1 _ (by omega) (by omega) hz1 g2 (by rw [List.length_append, List.length_singleton]; omega)
    have eq : (zs.drop j).map (· / nI k) = (zs.getD j 0 / nI k) :: (zs.drop (j + 1)).map (· / nI k) := by
      rw [List.drop_eq_getElem_cons hj, List.map_cons, show zs.getD j 0 = zs[j] by simp [List.getD_eq_getElem?_getD, hj]]
    refine ⟨m2, ?_, by rw [eq]; simpa using f2, g3.tr f3⟩
    rw [F_Player_conceal_50, if_neg (nI_ge (by omega) (by omega)), sa_get hz (by decide) hj, rd_some, if_neg (nI_ne0 k0 (by omega)), g1, rd_some, nI_1]
    exact f1
theorem cm_58 {k : Nat} (k0 : 0 < k) (hk : k < 2 ^ 30) : ∀ (d n j : Nat) (m : Mem) (ys : List Int32), zs.length = j + d → d < n → SR (m 17 20) (m 23) 16 zs → SR (m 17 3) (m 20) 256 ys → ys.length + d ≤ 256 → ∃ m', F_Model_conceal_58 n m (nI k) (nI j) = some (put m' 17 18 (m' 17 18 + nI zs.length)) ∧ SR (m' 17 3) (m' 20) 256 (ys ++ (zs.drop j).map (· / nI k)) ∧ CH (fun a b => (a = 17 ∧ b = 3) ∨ a = 20) m m' := by
  intro d
  induction d with
  | zero =>
    intro n j m ys e hn hz hy hr
    obtain ⟨n, rfl⟩ : ∃ q, n = q + 1 := ⟨n - 1, by omega⟩
    have hzl := hz.2.1
    refine ⟨m, ?_, by rw [List.drop_of_length_le (by omega)]; simpa using hy, CH.rf⟩
    rw [F_Model_conceal_58, hz.1, if_pos (nI_le (by omega) (by omega)), bnd_eq]
  | succ d ih =>
    intro n j m ys e hn hz hy hr
    obtain ⟨n, rfl⟩ : ∃ q, n = q + 1 := ⟨n - 1, by omega⟩
    have hzl := hz.2.1
    have hj : j < zs.length := by omega
    obtain ⟨m1, em⟩ : ∃ z, z = put (put m 20 ys.length (zs.getD j 0 / nI k)) 17 3 (m 17 3 + 1) := ⟨_, rfl⟩
    have c1 : CH (fun a b => (a = 17 ∧ b = 3) ∨ a = 20) m m1 := by
      rw [em]
      exact (CH.rf.put (by omega) _).put (by omega) _
    have g2 : SR (m1 17 3) (m1 20) 256 (ys ++ [zs.getD j 0 / nI k]) := by
      rw [em, show put (put m 20 ys.length (zs.getD j 0 / nI k)) 17 3 (m 17 3 + 1) 17 3 = m 17 3 + 1 by simp [put_at], put_ne _ _ _ (by decide), put_row]
      exact hy.push (by omega) _
    have hz1 : SR (m1 17 20) (m1 23) 16 zs := by
      rw [c1 17 20 (by omega)]
      exact hz.congr (fun i _ => c1 _ _ (by omega))
    obtain ⟨m2, f1, f2, f3⟩ := ih n (j + 1) m1 _ (by omega) (by omega) hz1 g2 (by rw [List.length_append, List.length_singleton]; omega)
    have eq : (zs.drop j).map (· / nI k) = (zs.getD j 0 / nI k) :: (zs.drop (j + 1)).map (· / nI k) := by
      rw [List.drop_eq_getElem_cons hj, List.map_cons, show zs.getD j 0 = zs[j] by simp [List.getD_eq_getElem?_getD, hj]]
    refine ⟨m2, ?_, by rw [eq]; simpa using f2, c1.tr f3⟩
    rw [F_Model_conceal_58, hz.1, if_neg (nI_ge (by omega) (by omega)), if_neg (show ¬ (nI j < 0 ∨ ln 23 ≤ (nI j).toNatClampNeg) from nI_in (N := 16) (by omega) (by decide)), if_neg (nI_ne0 k0 (by omega)), hy.1, if_neg (show ¬ (nI ys.length < 0 ∨ ln 20 ≤ (nI ys.length).toNatClampNeg) from nI_in (N := 256) (by omega) (by decide)), nI_clamp (by omega), nI_clamp (by omega), hz.2.2 j hj, bnd_eq, bnd_eq, nI_1, show put m 20 ys.length (zs.getD j 0 / nI k) 17 3 = m 17 3 by simp [put_at], ← em]
    exact f1
theorem cm_38 {k : Nat} (hk : k < 20) (h : m 17 19 = nI k) : ∀ (d n j : Nat), k = j + d → d < n → F_Model_conceal_38 n m (nI (2 ^ j)) (nI j) = F_Model_conceal_58 300 m (nI (2 ^ k)) 0 := by
  intro d
  induction d with
  | zero =>
    intro n j e hn
    obtain ⟨n, rfl⟩ : ∃ q, n = q + 1 := ⟨n - 1, by omega⟩
    rw [F_Model_conceal_38, h, if_pos (nI_le (by omega) (by omega)), show j = k by omega]
  | succ d ih =>
    intro n j e hn
    obtain ⟨n, rfl⟩ : ∃ q, n = q + 1 := ⟨n - 1, by omega⟩
    rw [F_Model_conceal_38, h, if_neg (nI_ge (by omega) (by omega)), bnd_eq, show (2 : Int32) = nI 2 from rfl, pk_mul, show 2 * 2 ^ j = 2 ^ (j + 1) by rw [Nat.pow_succ, Nat.mul_comm], nI_1]
    exact ih n (j + 1) (by omega) (by omega)
theorem cr_2 : ∀ (d n j : Nat) (m : Mem), 8 = j + d → d < n → (∀ i, i < j → m 15 i = 0) → ∃ m', F_Buffer_comeToRest_2 n m (nI j) = some (put (put m' 13 4 0) 13 3 0) ∧ (∀ i, i < 8 → m' 15 i = 0) ∧ CH (fun x _ => x = 15) m m' := by
  intro d
  induction d with
  | zero =>
    intro n j m e hn h0
    obtain ⟨n, rfl⟩ : ∃ q, n = q + 1 := ⟨n - 1, by omega⟩
    refine ⟨m, ?_, fun i hi => h0 i (by omega), CH.rf⟩
    rw [F_Buffer_comeToRest_2, if_pos (kGE 8 8 rfl (by omega) (by omega)), bnd_eq, bnd_eq]
  | succ d ih =>
    intro n j m e hn h0
    obtain ⟨n, rfl⟩ : ∃ q, n = q + 1 := ⟨n - 1, by omega⟩
    have c1 : CH (fun x _ => x = 15) m (put m 15 j 0) := CH.put (P := fun x _ => x = 15) CH.rf rfl _
    obtain ⟨m', f1, f2, f3⟩ := ih n (j + 1) (put m 15 j 0) (by omega) (by omega) (fun i hi => by
      rw [put_at, if_pos rfl]
      by_cases w : i = j
      · rw [if_pos w]
      · rw [if_neg w]
        exact h0 i (by omega))
    refine ⟨m', ?_, f2, c1.tr f3⟩
    rw [F_Buffer_comeToRest_2, if_neg (kNGE 8 8 rfl (by omega) (by decide)), if_neg (show ¬ (nI j < 0 ∨ ln 15 ≤ (nI j).toNatClampNeg) from nI_in (N := 8) (by omega) (by decide)), nI_clamp (by omega), bnd_eq, show vp_nar .boolean (0 : Int32) = 0 from rfl, nI_1]
    exact f1
theorem mr_8 : ∀ (d n j : Nat) (m : Mem), 16 = j + d → d < n → 8 ≤ j → (∀ i, 8 ≤ i → i < j → m 21 i = -1) → ∃ m', F_Model_rest_8 n m (nI j) = some m' ∧ (∀ i, 8 ≤ i → i < 16 → m' 21 i = -1) ∧ CH (fun x y => x = 21 ∧ 8 ≤ y) m m' := by
  intro d
  induction d with
  | zero =>
    intro n j m e hn h8 h0
    obtain ⟨n, rfl⟩ : ∃ q, n = q + 1 := ⟨n - 1, by omega⟩
    refine ⟨m, ?_, fun i h hi => h0 i h (by omega), CH.rf⟩
    rw [F_Model_rest_8, if_pos (kGE 16 16 rfl (by omega) (by omega))]
  | succ d ih =>
    intro n j m e hn h8 h0
    obtain ⟨n, rfl⟩ : ∃ q, n = q + 1 := ⟨n - 1, by omega⟩
    have c1 : CH (fun x y => x = 21 ∧ 8 ≤ y) m (put m 21 j (-1)) := CH.rf.put ⟨rfl, h8⟩ _
    obtain ⟨m', f1, f2, f3⟩ := ih n (j + 1) (put m 21 j (-1)) (by omega) (by omega) (by omega) (fun i h hi => by
      rw [put_at, if_pos rfl]
      by_cases w : i = j
      · rw [if_pos w]
      · rw [if_neg w]
        exact h0 i h (by omega))
    refine ⟨m', ?_, f2, c1.tr f3⟩
    rw [F_Model_rest_8, if_neg (kNGE 16 16 rfl (by omega) (by decide)), if_neg (show ¬ (nI j < 0 ∨ ln 21 ≤ (nI j).toNatClampNeg) from nI_in (N := 16) (by omega) (by decide)), nI_clamp (by omega), bnd_eq, nI_1]
    exact f1
/-- the reference's step to the next number -/
theorem pl_66 (hn : nxt < 65536) (h14 : m 17 14 = nI nxt) (hy : SR (m 17 3) (m 20) 256 ys) (l : Int32) {n : Nat} (hnn : n < 2 ^ 30) : (ys.length + n ≤ 256 → F_Model_play_66 m l (nI n) = F_Model_play_107 (put m 17 13 2) l (nI n) (nI ((nxt + 1) % 65536))) ∧ (¬ ys.length + n ≤ 256 → F_Model_play_66 m l (nI n) = some (-3, m)) := by
  obtain ⟨s1, s2⟩ := sq_mod hn
  have hyl := hy.2.1
  unfold F_Model_play_66
  rw [hy.1, nI_add]
  constructor
  · intro h
    rw [if_pos (kLE 256 256 rfl h (by decide)), bnd_eq, show put m 17 13 2 17 14 = m 17 14 by simp [put_at], h14]
    by_cases q : nI nxt = (65535 : Int32)
    · rw [if_pos q, s1 q]
    · rw [if_neg q, s2 q]
  · intro h
    rw [if_neg (kNLE 256 256 rfl (by omega) (by omega))]
end CO
