-- receive
def cR (r : Nat) (x y : Nat) : Prop := (x = 41 + 2 * r ∧ y = 1) ∨ x = 42 + 2 * r
theorem ds_same {q q' nxt : Nat} (h1 : q < 65536) (h2 : q' < 65536) (h3 : nxt < 65536) (h4 : dsN q nxt < 8) (h5 : dsN q' nxt < 8) (h6 : q % 8 = q' % 8) : q = q' := by
  unfold dsN at h4 h5
  omega
theorem cb_ins {buf : Nat → Option (List Int32)} {r : Nat} (hr : r < 8) (h : buf r = none) (p : List Int32) : cbN (va_up buf r (some p)) = cbN buf + 1 := by
  unfold cbN
  refine c8_up hr (by rw [h]; rfl) (by simp [va_up]) (fun s hs => by simp [va_up, hs])
theorem cn_ins {ρ : Nat → Option Nat} {s r : Nat} (hs : s < 8) (h : ρ s = none) : cnS (va_up ρ s (some r)) = cnS ρ + 1 := by
  unfold cnS
  refine c8_up hs (by rw [h]; rfl) (by simp [va_up]) (fun i hi => by simp [va_up, hi])
theorem up_eq {α : Type} (f : Nat → α) (k : Nat) (x : α) : va_up f k x k = x := by simp [va_up]
theorem up_ne {α : Type} (f : Nat → α) {k i : Nat} (x : α) (h : i ≠ k) : va_up f k x i = f i := by simp [va_up, h]
section RC
variable {m m' : Mem} {st nxt mi : Nat} {buf : Nat → Option (List Int32)} {ρ : Nat → Option Nat} {p : List Int32}
theorem BC.ins (h : BC m st nxt mi buf) {r : Nat} (hr : r < 8) (hn : buf r = none) (c : CH (fun x y => (x = 41 + 2 * r ∧ y = 1) ∨ x = 42 + 2 * r ∨ (x = 15 ∧ y = r) ∨ (x = 13 ∧ y = 4)) m m') (h15 : m' 15 r = 1) (h4 : m' 13 4 = nI (cbN buf + 1)) (hp : SR (m' (41 + 2 * r) 1) (m' (42 + 2 * r)) 44 p) : BC m' st nxt mi (va_up buf r (some p)) := by
  obtain ⟨h1, h2, h3, -, h5⟩ := h
  refine ⟨by rw [c 13 3 (by omega)]; exact h1, fun z => by rw [c 13 5 (by omega)]; exact h2 z, by rw [c 11 3 (by omega)]; exact h3, by rw [cb_ins hr hn]; exact h4, fun i hi => ?_⟩
  obtain ⟨g1, g2, g3⟩ := h5 i hi
  refine ⟨by rw [c 14 i (by omega)]; exact g1, ?_, ?_⟩
  · intro z
    by_cases e : i = r
    · subst e
      rw [up_eq] at z
      cases z
    · rw [up_ne _ _ e] at z
      rw [c 15 i (by omega)]
      exact g2 z
  · intro q hq
    by_cases e : i = r
    · subst e
      rw [up_eq] at hq
      cases hq
      exact ⟨h15, hp⟩
    · rw [up_ne _ _ e] at hq
      obtain ⟨g4, g5⟩ := g3 q hq
      rw [c 15 i (by omega), c (41 + 2 * i) 1 (by omega)]
      exact ⟨g4, g5.congr (fun j _ => c _ _ (by omega))⟩
theorem BM.ins (h : BM m st nxt mi buf ρ) {r s : Nat} (hr : r < 8) (hs : s < 8) (hn : buf r = none) (hf : ρ s = none) (c : CH (cM (8 + s)) m m') (hp : PM (8 + s) m' p) : BM m' st nxt mi (va_up buf r (some p)) (va_up ρ s (some r)) := by
  obtain ⟨h1, h2, h3, h4, h5, h6, h7, h8⟩ := h
  have nor : ∀ i, i < 8 → ρ i ≠ some r := fun i hi z => by
    obtain ⟨-, q, hq, -⟩ := (h5 i hi).2 r z
    rw [hn] at hq
    cases hq
  refine ⟨by rw [c 17 13 (by omega)]; exact h1, fun z => by rw [c 17 14 (by omega), c 17 19 (by omega)]; exact h2 z, fun z => by rw [c 17 17 (by omega)]; exact h3 z, fun z => by rw [c 17 17 (by omega)]; exact h4 z, fun i hi => ?_, fun i j q hi hj a b => ?_, fun q hq hb => ?_, by rw [cn_ins hs hf, cb_ins hr hn, h8]⟩
  · by_cases e : i = s
    · subst e
      rw [up_eq]
      refine ⟨fun z => (by cases z), fun q hq => ?_⟩
      cases hq
      exact ⟨hr, p, up_eq _ _ _, hp⟩
    · rw [up_ne _ _ e]
      refine ⟨fun z => by rw [c 21 _ (by omega)]; exact (h5 i hi).1 z, fun q hq => ?_⟩
      obtain ⟨g1, p', g2, g3⟩ := (h5 i hi).2 q hq
      have hne : q ≠ r := fun z => nor i hi (by rw [hq, z])
      have g44 := g3.2.1
      refine ⟨g1, p', by rw [up_ne _ _ hne]; exact g2, ?_⟩
      rw [c 21 _ (by omega)]
      exact g3.congr (fun x hx => c _ _ (by omega))
  · by_cases e1 : i = s
    · by_cases e2 : j = s
      · omega
      · rw [e1, up_eq] at a
        rw [up_ne _ _ e2] at b
        cases a
        exact absurd b (nor j hj)
    · rw [up_ne _ _ e1] at a
      by_cases e2 : j = s
      · rw [e2, up_eq] at b
        cases b
        exact absurd a (nor i hi)
      · rw [up_ne _ _ e2] at b
        exact h6 i j q hi hj a b
  · by_cases e : q = r
    · subst e
      exact ⟨s, hs, up_eq _ _ _⟩
    · rw [up_ne _ _ e] at hb
      obtain ⟨i, hi, z⟩ := h7 q hq hb
      refine ⟨i, hi, ?_⟩
      rw [up_ne]
      · exact z
      · intro w
        rw [w, hf] at z
        cases z
theorem fr_loop (h : BM m st nxt mi buf ρ) (l2 : Int32) : ∀ (d n j : Nat), 7 = j + d → d < n → (∀ i, i < j → ρ i ≠ none) → ∃ s, s < 8 ∧ (ρ s = none ∨ (s = 7 ∧ ∀ i, i < 7 → ρ i ≠ none)) ∧ F_Model_receive_105 n m l2 (nI (8 + j)) = F_Model_receive_126 m l2 (nI (8 + s)) := by
  intro d
  induction d with
  | zero =>
    intro n j e hn ho
    obtain ⟨n, rfl⟩ : ∃ q, n = q + 1 := ⟨n - 1, by omega⟩
    refine ⟨7, by omega, Or.inr ⟨rfl, fun i hi => ho i (by omega)⟩, ?_⟩
    rw [F_Model_receive_105, if_pos (kGE 15 15 rfl (by omega) (by omega)), show j = 7 by omega]
  | succ d ih =>
    intro n j e hn ho
    obtain ⟨n, rfl⟩ : ∃ q, n = q + 1 := ⟨n - 1, by omega⟩
    obtain ⟨a1, a2⟩ := h.size (s := j) (by omega)
    have g0 : ¬ (nI (8 + j) < 0 ∨ ln 21 ≤ (nI (8 + j)).toNatClampNeg) := nI_in (N := 16) (by omega) (by decide)
    cases hq : ρ j with
    | none =>
      refine ⟨j, by omega, Or.inl hq, ?_⟩
      rw [F_Model_receive_105, if_neg (kNGE 15 15 rfl (by omega) (by decide)), if_neg g0, nI_clamp (by omega), if_pos (a2 (by rw [hq]; rfl))]
    | some r =>
      obtain ⟨s, s1, s2, s3⟩ := ih n (j + 1) (by omega) (by omega) (fun i hi => by
        rcases Nat.lt_or_ge i j with w | w
        · exact ho i w
        · rw [show i = j by omega, hq]
          exact fun z => by cases z)
      refine ⟨s, s1, s2, ?_⟩
      rw [F_Model_receive_105, if_neg (kNGE 15 15 rfl (by omega) (by decide)), if_neg g0, nI_clamp (by omega), if_neg (a1 (by rw [hq]; rfl)), nI_1, show 8 + j + 1 = 8 + (j + 1) by omega]
      exact s3
theorem fr_slot (h : BM m st nxt mi buf ρ) {r : Nat} (hr : r < 8) (hn : buf r = none) (l2 : Int32) : ∃ s, s < 8 ∧ ρ s = none ∧ F_Model_receive_105 300 m l2 (nI 8) = F_Model_receive_126 m l2 (nI (8 + s)) := by
  obtain ⟨s, s1, s2, s3⟩ := fr_loop h l2 7 300 0 (by omega) (by omega) (fun i hi => absurd hi (by omega))
  refine ⟨s, s1, ?_, s3⟩
  rcases s2 with z | ⟨rfl, z⟩
  · exact z
  · have e := h.2.2.2.2.2.2.2
    have c1 := cb_ins hr hn []
    have c2 := c8_le (fun r' => (va_up buf r (some []) r').isSome)
    have c3 : cbN (va_up buf r (some [])) ≤ 8 := c2
    have hz : ∀ i, i < 7 → (ρ i).isSome = true := fun i hi => by
      cases hq : ρ i with
      | none => exact absurd hq (z i hi)
      | some q => rfl
    have c4 : cnS ρ = 7 + ((ρ 7).isSome).toNat := by
      unfold cnS c8
      simp only [hz 0 (by decide), hz 1 (by decide), hz 2 (by decide), hz 3 (by decide), hz 4 (by decide), hz 5 (by decide), hz 6 (by decide), Bool.toNat_true]
    cases hq : ρ 7 with
    | none => rfl
    | some q =>
      rw [hq] at c4
      simp at c4
      omega
end RC
