-- LISTS OF SAMPLES
section SA
variable {m : Mem} {k : Nat} {xs : List Int32}
theorem sa_add (h : SR (m k 1) (m (k + 1)) (ln (k + 1)) xs) (hL : ln (k + 1) < 2 ^ 31) (hl : xs.length < ln (k + 1)) (x : Int32) : ∃ m', F_Samples_add m k x = some m' ∧ SR (m' k 1) (m' (k + 1)) (ln (k + 1)) (xs ++ [x]) ∧ CH (fun a b => (a = k ∧ b = 1) ∨ a = k + 1) m m' := by
  have e := h.1
  refine ⟨put (put m (k + 1) xs.length x) k 1 (m k 1 + 1), ?_, ?_, (CH.rf.put (Or.inr rfl) _).put (Or.inl ⟨rfl, rfl⟩) _⟩
  · unfold F_Samples_add
    rw [if_neg (by rw [e]; exact nI_ge hl hL), if_neg (by rw [e]; exact nI_in hl hL), h.clamp hL]
    simp only [bnd_eq]
    rw [show put m (k + 1) xs.length x k 1 = m k 1 by simp [put_at]]
  · rw [show put (put m (k + 1) xs.length x) k 1 (m k 1 + 1) k 1 = m k 1 + 1 by simp [put_at], put_ne _ _ _ (by omega), put_row]
    exact h.push hl x
theorem sa_get (h : SR (m k 1) (m (k + 1)) (ln (k + 1)) xs) (hL : ln (k + 1) < 2 ^ 31) {j : Nat} (hj : j < xs.length) : F_Samples_get m k (nI j) = some (xs.getD j 0) := by
  have hc := h.2.1
  unfold F_Samples_get
  rw [if_neg (nI_pos (by omega)), if_neg (by rw [h.1]; exact nI_ge hj (by omega)), if_neg (nI_in (by omega) hL), nI_clamp (by omega), h.2.2 j hj]
def gtS (xs : List Int32) (i : Int32) : Int32 := if i < 0 then 40000 else if nI xs.length ≤ i then 40000 else xs.getD i.toNatClampNeg 0
theorem in_of {i : Int32} {n N : Nat} (h0 : ¬ i < 0) (h : ¬ nI n ≤ i) (hn : n ≤ N) (hN : N < 2 ^ 31) : ∃ j, j < n ∧ i = nI j := by
  obtain ⟨j, hj, rfl⟩ := nI_of h0
  refine ⟨j, ?_, rfl⟩
  rw [nI_leI (by omega) hj] at h
  omega
theorem sa_getE (h : SR (m k 1) (m (k + 1)) (ln (k + 1)) xs) (hL : ln (k + 1) < 2 ^ 31) (i : Int32) : F_Samples_get m k i = some (gtS xs i) := by
  unfold gtS
  by_cases h0 : i < 0
  · unfold F_Samples_get
    rw [if_pos h0, if_pos h0]
  · by_cases h1 : nI xs.length ≤ i
    · unfold F_Samples_get
      rw [if_neg h0, if_pos (by rw [h.1]; exact h1), if_neg h0, if_pos h1]
    · obtain ⟨j, hj, rfl⟩ := in_of h0 h1 h.2.1 hL
      have hc := h.2.1
      rw [sa_get h hL hj, if_neg h0, if_neg h1, nI_clamp (by omega)]
theorem sa_room (h : SR (m k 1) (m (k + 1)) (ln (k + 1)) xs) (hL : ln (k + 1) < 2 ^ 31) {n : Nat} (hn : n < 2 ^ 30) : F_Samples_hasRoom m k (nI n) = some (if xs.length + n ≤ ln (k + 1) then 1 else 0) := by
  have hc := h.2.1
  unfold F_Samples_hasRoom
  rw [h.1, pk_sub hc]
  by_cases hr : xs.length + n ≤ ln (k + 1)
  · rw [if_neg (nI_nlt (by omega) (by omega)), if_pos hr]
  · rw [if_pos (nI_lt (by omega) (by omega)), if_neg hr]
theorem sa_drop (h : SR (m k 1) (m (k + 1)) (ln (k + 1)) xs) (hL : ln (k + 1) < 2 ^ 31) {n : Nat} (hn : n ≤ xs.length) : ∃ m', F_Samples_dropFirst m k (nI n) = some m' ∧ SR (m' k 1) (m' (k + 1)) (ln (k + 1)) (xs.drop n) ∧ CH (fun a b => (a = k ∧ b = 1) ∨ a = k + 1) m m' := by
  have hc := h.2.1
  by_cases h0 : n = 0
  · subst h0
    refine ⟨m, ?_, h, CH.rf⟩
    unfold F_Samples_dropFirst
    rw [if_pos (by rw [nI_0]; exact Int32.le_refl 0)]
  · have hsub : m k 1 - nI n = nI (xs.length - n) := by rw [h.1, pk_sub hn]
    have z : (0 : Int32).toNatClampNeg = 0 := rfl
    refine ⟨put (stm m (k + 1) (va_cpy (m (k + 1)) (m (k + 1)) n 0 (xs.length - n))) k 1 (nI (xs.length - n)), ?_, ?_, ?_⟩
    · unfold F_Samples_dropFirst
      rw [if_neg (nI_nle (by omega) (by omega)), if_neg (by rw [h.1]; exact nI_nlt hn (by omega)), hsub, nI_clamp (by omega), nI_clamp (by omega), z, if_neg]
      · simp only [bnd_eq]
        rw [show stm m (k + 1) (va_cpy (m (k + 1)) (m (k + 1)) n 0 (xs.length - n)) k 1 = m k 1 by rw [stm_ne _ _ (by omega)], hsub]
      · rintro (q | q | q | q | q)
        · exact nI_pos (by omega) q
        · exact absurd q (by decide)
        · exact nI_pos (by omega) q
        · omega
        · omega
    · rw [show put (stm m (k + 1) (va_cpy (m (k + 1)) (m (k + 1)) n 0 (xs.length - n))) k 1 (nI (xs.length - n)) k 1 = nI (xs.length - n) by simp [put_at], put_ne _ _ _ (by omega), stm_same]
      refine h.drop (fun j hj => ?_)
      unfold va_cpy
      rw [if_pos (by omega)]
      congr 1
      omega
    · exact (CH.rf.stm (fun _ => Or.inr rfl) _).put (Or.inl ⟨rfl, rfl⟩) _
end SA
theorem drop_cons {ys : List Int32} {j : Nat} (h : j < ys.length) (d : Nat) (xs : List Int32) : xs ++ [ys.getD j 0] ++ (ys.drop (j + 1)).take d = xs ++ (ys.drop j).take (d + 1) := by
  have e : ys.getD j 0 = ys[j] := by simp [List.getD_eq_getElem?_getD, h]
  rw [List.drop_eq_getElem_cons h, List.take_succ_cons, e, List.append_assoc]
  rfl
theorem sa_first {k l cnt : Nat} (h1 : k ≠ l) (h2 : k + 1 ≠ l) (h3 : k ≠ l + 1) (hLk : ln (k + 1) < 2 ^ 31) (hLl : ln (l + 1) < 2 ^ 31) {ys : List Int32} (hc : cnt ≤ ys.length) : ∀ (d n j : Nat) (m : Mem) (xs : List Int32), cnt = j + d → d < n → SR (m k 1) (m (k + 1)) (ln (k + 1)) xs → SR (m l 1) (m (l + 1)) (ln (l + 1)) ys → xs.length + d ≤ ln (k + 1) →
    ∃ m', F_Samples_addFirstOf_2 n m k l (nI cnt) (nI j) = some m' ∧ SR (m' k 1) (m' (k + 1)) (ln (k + 1)) (xs ++ (ys.drop j).take d) ∧ CH (fun a b => (a = k ∧ b = 1) ∨ a = k + 1) m m' := by
  intro d
  induction d with
  | zero =>
    intro n j m xs e hn hx hy hr
    obtain ⟨n, rfl⟩ : ∃ q, n = q + 1 := ⟨n - 1, by omega⟩
    refine ⟨m, ?_, by simpa using hx, CH.rf⟩
    rw [F_Samples_addFirstOf_2, if_pos (by rw [e, Nat.add_zero]; exact Int32.le_refl _)]
  | succ d ih =>
    intro n j m xs e hn hx hy hr
    obtain ⟨n, rfl⟩ : ∃ q, n = q + 1 := ⟨n - 1, by omega⟩
    have hj : j < ys.length := by omega
    have hyl := hy.2.1
    obtain ⟨m1, g1, g2, g3⟩ := sa_add hx hLk (by omega) (ys.getD j 0)
    have hy1 : SR (m1 l 1) (m1 (l + 1)) (ln (l + 1)) ys := by
      rw [g3 l 1 (by omega)]
      exact hy.congr (fun i _ => g3 _ _ (by omega))
    obtain ⟨m2, f1, f2, f3⟩ := ih n (j + 1) m1 (xs ++ [ys.getD j 0]) (by omega) (by omega) g2 hy1 (by simp; omega)
    rw [drop_cons hj] at f2
    refine ⟨m2, ?_, f2, g3.tr f3⟩
    rw [F_Samples_addFirstOf_2, if_neg (nI_ge (by omega) (by omega)), if_neg (by rw [hy.1]; exact nI_ge hj (by omega)), if_neg (nI_in (by omega) hLl), nI_clamp (by omega), hy.2.2 j hj, g1, rd_some, show nI j + (1 : Int32) = nI (j + 1) from nI_1 j]
    exact f1
-- the reference's lists
theorem mo_p27 {cnt : Nat} {ys : List Int32} (hc : cnt ≤ ys.length) : ∀ (d n j : Nat) (m : Mem) (xs : List Int32), cnt = j + d → d < n → SR (m 17 1) (m 19) 64 xs → SR (m 17 3) (m 20) 256 ys → xs.length + d ≤ 64 →
    ∃ m', F_Model_pass_27 n m (nI cnt) (nI j) = F_Model_pass_75 300 (put m' 17 3 (m' 17 3 - nI cnt)) (nI cnt) 0 ∧ SR (m' 17 1) (m' 19) 64 (xs ++ (ys.drop j).take d) ∧ CH (fun a b => (a = 17 ∧ b = 1) ∨ a = 19) m m' := by
  intro d
  induction d with
  | zero =>
    intro n j m xs e hn hx hy hr
    obtain ⟨n, rfl⟩ : ∃ q, n = q + 1 := ⟨n - 1, by omega⟩
    refine ⟨m, ?_, by simpa using hx, CH.rf⟩
    rw [F_Model_pass_27, if_pos (by rw [e, Nat.add_zero]; exact Int32.le_refl _), bnd_eq]
  | succ d ih =>
    intro n j m xs e hn hx hy hr
    obtain ⟨n, rfl⟩ : ∃ q, n = q + 1 := ⟨n - 1, by omega⟩
    have hj : j < ys.length := by omega
    have hyl := hy.2.1
    have hxl := hx.2.1
    have l19 : ln 19 = 64 := rfl
    have l20 : ln 20 = 256 := rfl
    have hm1 : SR (put (put m 19 xs.length (ys.getD j 0)) 17 1 (m 17 1 + 1) 17 1) (put (put m 19 xs.length (ys.getD j 0)) 17 1 (m 17 1 + 1) 19) 64 (xs ++ [ys.getD j 0]) := by
      rw [show put (put m 19 xs.length (ys.getD j 0)) 17 1 (m 17 1 + 1) 17 1 = m 17 1 + 1 by simp [put_at], put_ne _ _ _ (by decide), put_row]
      exact hx.push (by omega) _
    have hc1 : CH (fun a b => (a = 17 ∧ b = 1) ∨ a = 19) m (put (put m 19 xs.length (ys.getD j 0)) 17 1 (m 17 1 + 1)) := (CH.rf.put (Or.inr rfl) _).put (Or.inl ⟨rfl, rfl⟩) _
    have hy1 : SR (put (put m 19 xs.length (ys.getD j 0)) 17 1 (m 17 1 + 1) 17 3) (put (put m 19 xs.length (ys.getD j 0)) 17 1 (m 17 1 + 1) 20) 256 ys := by
      rw [hc1 17 3 (by omega)]
      exact hy.congr (fun i _ => hc1 _ _ (by omega))
    obtain ⟨m2, f1, f2, f3⟩ := ih n (j + 1) _ (xs ++ [ys.getD j 0]) (by omega) (by omega) hm1 hy1 (by simp; omega)
    rw [drop_cons hj] at f2
    refine ⟨m2, ?_, f2, hc1.tr f3⟩
    rw [F_Model_pass_27, if_neg (nI_ge (by omega) (by omega)), if_neg (nI_in (by omega) (by omega)), if_neg (by rw [hx.1]; exact nI_in (by omega) (by omega)), nI_clamp (by omega), hy.2.2 j hj, hx.clamp (by decide)]
    simp only [bnd_eq]
    rw [show put m 19 xs.length (ys.getD j 0) 17 1 = m 17 1 by simp [put_at], show nI j + (1 : Int32) = nI (j + 1) from nI_1 j]
    exact f1
theorem mo_p75 {f : Nat → Int32} {tot n : Nat} (hN : tot + n ≤ 256) : ∀ (d fu j : Nat) (m : Mem), tot = j + d → d < fu → m 17 3 = nI tot → (∀ i, i < j → m 20 i = f (i + n)) → (∀ i, j ≤ i → m 20 i = f i) →
    ∃ m', F_Model_pass_75 fu m (nI n) (nI j) = some ((1 : Int32), m') ∧ (∀ i, i < tot → m' 20 i = f (i + n)) ∧ CH (fun a _ => a = 20) m m' := by
  intro d
  have l20 : ln 20 = 256 := rfl
  induction d with
  | zero =>
    intro fu j m e hf h3 h1 h2
    obtain ⟨fu, rfl⟩ : ∃ q, fu = q + 1 := ⟨fu - 1, by omega⟩
    refine ⟨m, ?_, fun i hi => h1 i (by omega), CH.rf⟩
    rw [F_Model_pass_75, if_pos (by rw [h3, e, Nat.add_zero]; exact Int32.le_refl _)]
  | succ d ih =>
    intro fu j m e hf h3 h1 h2
    obtain ⟨fu, rfl⟩ : ∃ q, fu = q + 1 := ⟨fu - 1, by omega⟩
    have hc1 : CH (fun a _ => a = 20) m (put m 20 j (m 20 (j + n))) := CH.put (P := fun a _ => a = 20) CH.rf rfl _
    obtain ⟨m2, f1, f2, f3⟩ := ih fu (j + 1) (put m 20 j (m 20 (j + n))) (by omega) (by omega) (by rw [hc1 17 3 (by omega)]; exact h3)
      (fun i hi => by
        rw [put_at, if_pos rfl]
        by_cases hij : i = j
        · rw [if_pos hij, hij]
          exact h2 _ (by omega)
        · rw [if_neg hij]
          exact h1 i (by omega))
      (fun i hi => by
        rw [put_at, if_pos rfl, if_neg (by omega)]
        exact h2 i (by omega))
    refine ⟨m2, ?_, f2, hc1.tr f3⟩
    rw [F_Model_pass_75, if_neg (by rw [h3]; exact nI_ge (by omega) (by omega)), nI_add, if_neg (nI_in (by omega) (by omega)), if_neg (nI_in (by omega) (by omega)), nI_clamp (by omega), nI_clamp (by omega), bnd_eq, show nI j + (1 : Int32) = nI (j + 1) from nI_1 j]
    exact f1
