-- THE LINE
theorem kd_pk : ∀ j, j < 16 → kd (25 + 2 * j) = 3 := by decide
theorem ln_pk : ∀ j, j < 16 → ln (25 + 2 * j + 1) = 44 := by decide
section LINE
variable {m m' : Mem} {ps : List (List Int32)} {π : Nat → Nat}
theorem LC.id (h : LC m ps π) {k : Nat} (hk : k < 8) : (m 8 k).toNatClampNeg = 25 + 2 * π k ∧ kd (25 + 2 * π k) = 3 := by
  obtain ⟨h1, h2⟩ := h.2.1 k hk
  rw [h2]
  exact ⟨nI_clamp (by omega), kd_pk _ (by omega)⟩
theorem wi_no (h : LC m ps π) {i : Int32} (hi : i < 0 ∨ nI ps.length ≤ i) : F_Wire_at m i = some none := by
  unfold F_Wire_at
  by_cases h0 : i < 0
  · rw [if_pos h0]
  · rcases hi with q | q
    · exact absurd q h0
    · rw [if_neg h0, if_pos (by rw [h.1]; exact q)]
theorem wi_at (hl : ps.length ≤ 8) (h : LC m ps π) {k : Nat} (hk : k < ps.length) : F_Wire_at m (nI k) = some (some (25 + 2 * π k)) := by
  obtain ⟨e1, e2⟩ := h.id (k := k) (by omega)
  unfold F_Wire_at
  rw [if_neg (nI_pos (by omega)), if_neg (by rw [h.1]; exact nI_ge hk (by omega)), if_neg (show ¬ (nI k < 0 ∨ ln 8 ≤ (nI k).toNatClampNeg) from nI_in (N := 8) (by omega) (by decide)), nI_clamp (by omega), e1, gp_pos e2]
/-- one packet is changed -/
theorem LC.upd (hl : ps.length ≤ 8) (h : LC m ps π) {k : Nat} (hk : k < ps.length) {p : List Int32} (c : CH (fun a b => (a = 25 + 2 * π k ∧ b = 1) ∨ a = 26 + 2 * π k) m m') (hp : SR (m' (25 + 2 * π k) 1) (m' (26 + 2 * π k)) 44 p) : LC m' (ps.set k p) π := by
  obtain ⟨h1, h2, h3, h4⟩ := h
  have hpk := (h2 k (by omega)).1
  refine ⟨by rw [c 7 1 (by omega), h1]; simp, fun i hi => ⟨(h2 i hi).1, by rw [c 8 i (by omega)]; exact (h2 i hi).2⟩, h3, fun i hi => ?_⟩
  have hi : i < ps.length := by simpa using hi
  by_cases e : i = k
  · subst e
    rw [show (ps.set i p).getD i [] = p by rw [List.getD_eq_getElem?_getD, List.getElem?_set_self hk]; rfl]
    exact hp
  · have hne : π i ≠ π k := fun q => e (h3 i k (by omega) (by omega) q)
    rw [show (ps.set k p).getD i [] = ps.getD i [] by simp [List.getD_eq_getElem?_getD, List.getElem?_set_ne (fun z => e z.symm)], c _ 1 (by omega)]
    exact (h4 i hi).congr (fun j _ => c _ _ (by omega))
theorem LM.upd (h : LM m ps) {k : Nat} (hk : k < ps.length) {p : List Int32} (c : CH (fun a b => (a = 21 ∧ b = k) ∨ (a = 22 ∧ 44 * k ≤ b ∧ b < 44 * k + 44)) m m') (hp : SR (m' 21 k) (fun i => m' 22 (44 * k + i)) 44 p) : LM m' (ps.set k p) := by
  obtain ⟨h1, h2⟩ := h
  refine ⟨by rw [c 17 10 (by omega), h1]; simp, fun i hi => ?_⟩
  have hi : i < ps.length := by simpa using hi
  by_cases e : i = k
  · subst e
    rw [show (ps.set i p).getD i [] = p by rw [List.getD_eq_getElem?_getD, List.getElem?_set_self hk]; rfl]
    exact hp
  · have h44 := (h2 i hi).2.1
    rw [show (ps.set k p).getD i [] = ps.getD i [] by simp [List.getD_eq_getElem?_getD, List.getElem?_set_ne (fun z => e z.symm)], c _ _ (by omega)]
    exact (h2 i hi).congr (fun j hj => c _ _ (by omega))
/-- references change places -/
theorem LC.perm (h : LC m ps π) {qs : List (List Int32)} {τ : Nat → Nat} (c : CH (fun a b => (a = 7 ∧ b = 1) ∨ a = 8) m m') (h7 : m' 7 1 = nI qs.length) (hτ : ∀ i, i < 8 → τ i < 8) (hi : ∀ i j, i < 8 → j < 8 → τ i = τ j → i = j) (h8 : ∀ i, i < 8 → m' 8 i = m 8 (τ i)) (hq8 : qs.length ≤ 8) (hq : ∀ i, i < qs.length → τ i < ps.length ∧ qs.getD i [] = ps.getD (τ i) []) : LC m' qs (fun i => π (τ i)) := by
  obtain ⟨h1, h2, h3, h4⟩ := h
  refine ⟨h7, fun i hk => ⟨(h2 _ (hτ i hk)).1, by rw [h8 i hk]; exact (h2 _ (hτ i hk)).2⟩, fun i j a b e => hi i j a b (h3 _ _ (hτ i a) (hτ j b) e), fun i hk => ?_⟩
  obtain ⟨q1, q2⟩ := hq i hk
  have hpi := (h2 _ (hτ i (by omega))).1
  show SR (m' (25 + 2 * π (τ i)) 1) (m' (26 + 2 * π (τ i))) 44 _
  rw [q2, c _ 1 (by omega)]
  exact (h4 _ q1).congr (fun j _ => c _ _ (by omega))
end LINE
-- the reference's copy
theorem mo_c14 {f : Nat → Int32} {a b : Nat} (ha : a < 16) (hb : b < 16) (hab : a ≠ b) : ∀ (d n j : Nat) (m : Mem), 44 = j + d → d < n → (∀ i, i < j → m 22 (44 * b + i) = f i) → (∀ i, i < 44 → m 22 (44 * a + i) = f i) →
    ∃ m', F_Model_copy_14 n m (nI a) (nI b) (nI j) = some m' ∧ (∀ i, i < 44 → m' 22 (44 * b + i) = f i) ∧ CH (fun x y => x = 22 ∧ 44 * b ≤ y ∧ y < 44 * b + 44) m m' := by
  have l22 : ln 22 = 704 := rfl
  intro d
  induction d with
  | zero =>
    intro n j m e hn h1 h2
    obtain ⟨n, rfl⟩ : ∃ q, n = q + 1 := ⟨n - 1, by omega⟩
    refine ⟨m, ?_, fun i hi => h1 i (by omega), CH.rf⟩
    rw [F_Model_copy_14, if_pos (kGE 44 44 rfl (by omega) (by omega))]
  | succ d ih =>
    intro n j m e hn h1 h2
    obtain ⟨n, rfl⟩ : ∃ q, n = q + 1 := ⟨n - 1, by omega⟩
    have c1 : CH (fun x y => x = 22 ∧ 44 * b ≤ y ∧ y < 44 * b + 44) m (put m 22 (44 * b + j) (m 22 (44 * a + j))) := CH.rf.put (by omega) _
    obtain ⟨m2, f1, f2, f3⟩ := ih n (j + 1) (put m 22 (44 * b + j) (m 22 (44 * a + j))) (by omega) (by omega)
      (fun i hi => by
        rw [put_at, if_pos rfl]
        by_cases e2 : i = j
        · rw [if_pos (by omega), e2]
          exact h2 j (by omega)
        · rw [if_neg (by omega)]
          exact h1 i (by omega))
      (fun i hi => by
        rw [put_at, if_pos rfl, if_neg (by omega)]
        exact h2 i hi)
    refine ⟨m2, ?_, f2, c1.tr f3⟩
    rw [F_Model_copy_14, if_neg (kNGE 44 44 rfl (by omega) (by omega)), show (44 : Int32) = nI 44 from rfl, pk_mul, pk_mul, nI_add, nI_add, if_neg (nI_in (by omega) (by omega)), if_neg (nI_in (by omega) (by omega)), nI_clamp (by omega), nI_clamp (by omega), bnd_eq, show nI j + (1 : Int32) = nI (j + 1) from nI_1 j]
    exact f1
theorem mo_copy {m : Mem} {a b : Nat} (ha : a < 16) (hb : b < 16) (hab : a ≠ b) : ∃ m', F_Model_copy m (nI a) (nI b) = some m' ∧ m' 21 b = m 21 a ∧ (∀ i, i < 44 → m' 22 (44 * b + i) = m 22 (44 * a + i)) ∧ CH (fun x y => (x = 21 ∧ y = b) ∨ (x = 22 ∧ 44 * b ≤ y ∧ y < 44 * b + 44)) m m' := by
  have c1 : CH (fun x y => x = 21 ∧ y = b) m (put m 21 b (m 21 a)) := CH.rf.put ⟨rfl, rfl⟩ _
  obtain ⟨m2, f1, f2, f3⟩ := mo_c14 (f := fun i => m 22 (44 * a + i)) ha hb hab 44 300 0 (put m 21 b (m 21 a)) (by omega) (by omega) (fun i hi => absurd hi (by omega)) (fun i _ => c1 _ _ (by omega))
  refine ⟨m2, ?_, ?_, f2, (c1.mo (fun k j q => by omega)).tr (f3.mo (fun k j q => by omega))⟩
  · unfold F_Model_copy
    rw [if_neg (show ¬ (nI a < 0 ∨ ln 21 ≤ (nI a).toNatClampNeg) from nI_in (N := 16) ha (by decide)), if_neg (show ¬ (nI b < 0 ∨ ln 21 ≤ (nI b).toNatClampNeg) from nI_in (N := 16) hb (by decide)), nI_clamp (by omega), nI_clamp (by omega), bnd_eq, show (0 : Int32) = nI 0 from nI_0.symm]
    exact f1
  · rw [f3 21 b (by omega)]
    simp [put_at]
theorem SR.copied {m m' : Mem} {a b : Nat} {p : List Int32} (h : SR (m 21 a) (fun i => m 22 (44 * a + i)) 44 p) (h1 : m' 21 b = m 21 a) (h2 : ∀ i, i < 44 → m' 22 (44 * b + i) = m 22 (44 * a + i)) : SR (m' 21 b) (fun i => m' 22 (44 * b + i)) 44 p := by
  have h44 := h.2.1
  rw [h1]
  exact h.congr (fun j hj => h2 j (by omega))
-- one packet goes out
def erD (k : Nat) (ps : List (List Int32)) (i : Nat) : List Int32 := if i < k then ps.getD i [] else ps.getD (i + 1) []
theorem er_get {ps : List (List Int32)} {k : Nat} (hk : k < ps.length) (i : Nat) : (ps.eraseIdx k).getD i [] = erD k ps i := by
  unfold erD
  rw [List.getD_eq_getElem?_getD, List.getElem?_eraseIdx]
  by_cases h : i < k
  · rw [if_pos h, if_pos h, List.getD_eq_getElem?_getD]
  · rw [if_neg h, if_neg h, List.getD_eq_getElem?_getD]
theorem mo_rem {ps : List (List Int32)} {k tot : Nat} (ht : tot + 1 = ps.length) (h8 : ps.length ≤ 8) : ∀ (d n j : Nat) (m : Mem), tot = j + d → d < n → k ≤ j → m 17 10 = nI tot → (∀ i, i < j → SR (m 21 i) (fun x => m 22 (44 * i + x)) 44 (erD k ps i)) → (∀ i, j ≤ i → i < ps.length → SR (m 21 i) (fun x => m 22 (44 * i + x)) 44 (ps.getD i [])) →
    ∃ m', F_Model_remove_12 n m (nI j) = some m' ∧ (∀ i, i < tot → SR (m' 21 i) (fun x => m' 22 (44 * i + x)) 44 (erD k ps i)) ∧ CH (fun x y => (x = 21 ∧ y < 8) ∨ (x = 22 ∧ y < 352)) m m' := by
  intro d
  induction d with
  | zero =>
    intro n j m e hn hkj h0 h1 h2
    obtain ⟨n, rfl⟩ : ∃ q, n = q + 1 := ⟨n - 1, by omega⟩
    refine ⟨m, ?_, fun i hi => h1 i (by omega), CH.rf⟩
    rw [F_Model_remove_12, if_pos (by rw [h0, e, Nat.add_zero]; exact Int32.le_refl _)]
  | succ d ih =>
    intro n j m e hn hkj h0 h1 h2
    obtain ⟨n, rfl⟩ : ∃ q, n = q + 1 := ⟨n - 1, by omega⟩
    obtain ⟨m1, g1, g2, g3, g4⟩ := mo_copy (m := m) (a := j + 1) (b := j) (by omega) (by omega) (by omega)
    obtain ⟨m2, f1, f2, f3⟩ := ih n (j + 1) m1 (by omega) (by omega) (by omega) (by rw [g4 17 10 (by omega)]; exact h0)
      (fun i hi => by
        by_cases e2 : i = j
        · subst e2
          have := SR.copied (h2 (i + 1) (by omega) (by omega)) g2 g3
          unfold erD
          rw [if_neg (by omega)]
          exact this
        · have s := h1 i (by omega)
          have s44 := s.2.1
          rw [g4 21 i (by omega)]
          exact s.congr (fun x hx => g4 _ _ (by omega)))
      (fun i hi hi2 => by
        have s := h2 i (by omega) hi2
        have s44 := s.2.1
        rw [g4 21 i (by omega)]
        exact s.congr (fun x hx => g4 _ _ (by omega)))
    refine ⟨m2, ?_, f2, (g4.mo (fun x y q => by omega)).tr f3⟩
    rw [F_Model_remove_12, if_neg (by rw [h0]; exact nI_ge (by omega) (by omega)), show nI j + (1 : Int32) = nI (j + 1) from nI_1 j, g1, rd_some]
    exact f1
theorem LM.rem {m : Mem} {ps : List (List Int32)} (h8 : ps.length ≤ 8) (h : LM m ps) {k : Nat} (hk : k < ps.length) : ∃ m', F_Model_remove m (nI k) = some m' ∧ LM m' (ps.eraseIdx k) ∧ CH (fun x y => (x = 17 ∧ y = 10) ∨ (x = 21 ∧ y < 8) ∨ (x = 22 ∧ y < 352)) m m' := by
  obtain ⟨h1, h2⟩ := h
  have e1 : m 17 10 - 1 = nI (ps.length - 1) := by
    rw [h1, show (1 : Int32) = nI 1 from rfl, pk_sub (by omega)]
  have c1 : CH (fun x y => x = 17 ∧ y = 10) m (put m 17 10 (nI (ps.length - 1))) := CH.rf.put ⟨rfl, rfl⟩ _
  have el : (ps.eraseIdx k).length = ps.length - 1 := by rw [List.length_eraseIdx, if_pos hk]
  have hs : ∀ i, i < ps.length → SR (put m 17 10 (nI (ps.length - 1)) 21 i) (fun x => put m 17 10 (nI (ps.length - 1)) 22 (44 * i + x)) 44 (ps.getD i []) := fun i hi => by
    rw [c1 21 i (by omega)]
    exact (h2 i hi).congr (fun x _ => c1 _ _ (by omega))
  obtain ⟨m2, f1, f2, f3⟩ := mo_rem (k := k) (tot := ps.length - 1) (by omega) h8 (ps.length - 1 - k) 300 k (put m 17 10 (nI (ps.length - 1))) (by omega) (by omega) (Nat.le_refl _) (by simp [put_at])
    (fun i hi => by
      unfold erD
      rw [if_pos hi]
      exact hs i (by omega)) (fun i _ hi => hs i hi)
  refine ⟨m2, ?_, ⟨?_, fun i hi => ?_⟩, (c1.mo (fun x y q => by omega)).tr (f3.mo (fun x y q => by omega))⟩
  · unfold F_Model_remove
    rw [e1, bnd_eq]
    exact f1
  · rw [f3 17 10 (by omega), el]
    simp [put_at]
  · rw [er_get hk]
    exact f2 i (by omega)
/-- where the class's references go -/
def τL (k len i : Nat) : Nat := if i < k then i else if i + 1 < len then i + 1 else if i + 1 = len then k else i
theorem τL_ok {k len : Nat} (hk : k < len) (hl : len ≤ 8) : (∀ i, i < 8 → τL k len i < 8) ∧ ∀ i j, i < 8 → j < 8 → τL k len i = τL k len j → i = j := by
  unfold τL
  constructor
  · intro i hi
    repeat' split
    all_goals omega
  · intro i j hi hj h
    repeat' split at h
    all_goals omega
theorem cl_lose {v : Nat → Int32} {k len id : Nat} (hk : k < len) (hl : len ≤ 8) (hv : ∀ i, i < 8 → kd (v i).toNatClampNeg = 3 ∧ nI (v i).toNatClampNeg = v i) : ∀ (d n j : Nat) (m : Mem), len = j + d + 1 → d < n → k ≤ j → m 7 1 = nI len → (∀ i, i < 8 → m 8 i = if i < k then v i else if i < j then v (i + 1) else v i) →
    ∃ m', F_Wire_lose_14 n m id (nI j) = some ((1 : Int32), m') ∧ m' 7 1 = nI (len - 1) ∧ (∀ i, i < 8 → m' 8 i = if i < k then v i else if i + 1 < len then v (i + 1) else if i + 1 = len then nI id else v i) ∧ CH (fun x y => (x = 7 ∧ y = 1) ∨ x = 8) m m' := by
  have l8 : ln 8 = 8 := rfl
  intro d
  induction d with
  | zero =>
    intro n j m e hn hkj h7 h8
    obtain ⟨n, rfl⟩ : ∃ q, n = q + 1 := ⟨n - 1, by omega⟩
    have e1 : m 7 1 - 1 = nI (len - 1) := by rw [h7, show (1 : Int32) = nI 1 from rfl, pk_sub (by omega)]
    have e2 : put m 7 1 (nI (len - 1)) 7 1 = nI (len - 1) := by simp [put_at]
    refine ⟨put (put m 7 1 (nI (len - 1))) 8 (len - 1) (nI id), ?_, by simp [put_at], fun i hi => ?_, (CH.rf.put (by omega) _).put (by omega) _⟩
    · rw [F_Wire_lose_14, if_pos (by rw [h7, nI_1]; exact nI_le (by omega) (by omega)), e1, bnd_eq, e2, if_neg (nI_in (by omega) (by omega)), nI_clamp (by omega), bnd_eq]
    · rw [put_at, if_pos rfl]
      by_cases q : i = len - 1
      · rw [if_pos q, if_neg (by omega), if_neg (by omega), if_pos (by omega)]
      · rw [if_neg q, put_at, if_neg (by decide), h8 i hi]
        by_cases q1 : i < k
        · rw [if_pos q1, if_pos q1]
        · rw [if_neg q1, if_neg q1]
          by_cases q2 : i < j
          · rw [if_pos q2, if_pos (by omega)]
          · rw [if_neg q2, if_neg (by omega), if_neg (by omega)]
  | succ d ih =>
    intro n j m e hn hkj h7 h8
    obtain ⟨n, rfl⟩ : ∃ q, n = q + 1 := ⟨n - 1, by omega⟩
    have ej : m 8 (j + 1) = v (j + 1) := by rw [h8 (j + 1) (by omega), if_neg (by omega), if_neg (by omega)]
    obtain ⟨kd1, kd2⟩ := hv (j + 1) (by omega)
    have c1 : CH (fun x y => (x = 7 ∧ y = 1) ∨ x = 8) m (put m 8 j (v (j + 1))) := CH.rf.put (by omega) _
    obtain ⟨m2, f1, f2, f3, f4⟩ := ih n (j + 1) (put m 8 j (v (j + 1))) (by omega) (by omega) (by omega) (by rw [put_at, if_neg (by decide)]; exact h7)
      (fun i hi => by
        rw [put_at, if_pos rfl]
        by_cases q : i = j
        · rw [if_pos q, if_neg (by omega), if_pos (by omega), q]
        · rw [if_neg q, h8 i hi]
          by_cases q1 : i < k
          · rw [if_pos q1, if_pos q1]
          · rw [if_neg q1, if_neg q1]
            by_cases q2 : i < j
            · rw [if_pos q2, if_pos (by omega)]
            · rw [if_neg q2, if_neg (by omega)])
    refine ⟨m2, ?_, f2, f3, c1.tr f4⟩
    rw [F_Wire_lose_14, if_neg (by rw [h7, nI_1]; exact nI_ge (by omega) (by omega)), nI_1, if_neg (nI_in (by omega) (by omega)), nI_clamp (by omega), ej, gp_pos kd1, if_neg (nI_in (by omega) (by omega)), nI_clamp (by omega), kd2, bnd_eq]
    exact f1
theorem LC.lose {m : Mem} {ps : List (List Int32)} {π : Nat → Nat} (hl : ps.length ≤ 8) (h : LC m ps π) {k : Nat} (hk : k < ps.length) : ∃ m' π', F_Wire_lose m (nI k) = some ((1 : Int32), m') ∧ LC m' (ps.eraseIdx k) π' ∧ CH (fun x y => (x = 7 ∧ y = 1) ∨ x = 8) m m' := by
  have hv : ∀ i, i < 8 → kd (m 8 i).toNatClampNeg = 3 ∧ nI (m 8 i).toNatClampNeg = m 8 i := fun i hi => by
    obtain ⟨e1, e2⟩ := h.id hi
    rw [e1]
    exact ⟨e2, (h.2.1 i hi).2.symm⟩
  obtain ⟨m1, g1, g2, g3, g4⟩ := cl_lose (v := m 8) (k := k) (len := ps.length) (id := 25 + 2 * π k) hk hl hv (ps.length - k - 1) 300 k m (by omega) (by omega) (Nat.le_refl _) h.1 (fun i hi => by
    by_cases q : i < k
    · rw [if_pos q]
    · rw [if_neg q, if_neg q])
  obtain ⟨t1, t2⟩ := τL_ok hk hl
  have el : (ps.eraseIdx k).length = ps.length - 1 := by rw [List.length_eraseIdx, if_pos hk]
  refine ⟨m1, fun i => π (τL k ps.length i), ?_, h.perm g4 (by rw [el]; exact g2) t1 t2 (fun i hi => ?_) (by omega) (fun i hi => ?_), g4⟩
  · unfold F_Wire_lose
    rw [wi_at hl h hk, rd_some, om_so, gp_pos (h.id (by omega)).2]
    exact g1
  · rw [g3 i hi]
    unfold τL
    by_cases q1 : i < k
    · rw [if_pos q1, if_pos q1]
    · rw [if_neg q1, if_neg q1]
      by_cases q2 : i + 1 < ps.length
      · rw [if_pos q2, if_pos q2]
      · rw [if_neg q2, if_neg q2]
        by_cases q3 : i + 1 = ps.length
        · rw [if_pos q3, if_pos q3]
          exact (h.2.1 k (by omega)).2.symm
        · rw [if_neg q3, if_neg q3]
  · rw [el] at hi
    rw [er_get hk]
    unfold τL erD
    by_cases q1 : i < k
    · rw [if_pos q1, if_pos q1]
      exact ⟨by omega, rfl⟩
    · rw [if_neg q1, if_neg q1, if_pos (by omega)]
      exact ⟨by omega, rfl⟩
