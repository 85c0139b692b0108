-- WHAT HOLDS BETWEEN TWO CALLS
/-- only cells of P have changed -/
def CH (P : Nat → Nat → Prop) (m m' : Mem) : Prop := ∀ k j, ¬ P k j → m' k j = m k j
theorem CH.rf {P : Nat → Nat → Prop} {m : Mem} : CH P m m := fun _ _ _ => rfl
theorem CH.put {P : Nat → Nat → Prop} {m m' : Mem} (h : CH P m m') {k j : Nat} (hp : P k j) (x : Int32) : CH P m (put m' k j x) := fun a b hab => by
  rw [put_at]
  by_cases ha : a = k
  · by_cases hb : b = j
    · subst ha
      subst hb
      exact absurd hp hab
    · rw [if_pos ha, if_neg hb]
      exact h a b hab
  · rw [if_neg ha]
    exact h a b hab
theorem CH.stm {P : Nat → Nat → Prop} {m m' : Mem} (h : CH P m m') {k : Nat} (hp : ∀ j, P k j) (r : Nat → Int32) : CH P m (stm m' k r) := fun a b hab => by
  by_cases ha : a = k
  · subst ha
    exact absurd (hp b) hab
  · rw [stm_ne _ _ ha]
    exact h a b hab
theorem CH.tr {P : Nat → Nat → Prop} {m m' m'' : Mem} (h : CH P m m') (h' : CH P m' m'') : CH P m m'' := fun k j q => (h' k j q).trans (h k j q)
theorem CH.mo {P Q : Nat → Nat → Prop} {m m' : Mem} (h : CH P m m') (hq : ∀ k j, P k j → Q k j) : CH Q m m' := fun k j q => h k j (fun z => q (hq k j z))
/-- a packet's sequence number -/
def sqN (p : List Int32) : Nat := 256 * (p.getD 2 0).toNatClampNeg + (p.getD 3 0).toNatClampNeg
def codN (p : List Int32) : Int32 := if (p.getD 1 0).toNatClampNeg % 128 = 8 then 0 else if (p.getD 1 0).toNatClampNeg % 128 = 0 then 1 else if (p.getD 1 0).toNatClampNeg % 128 = 5 then 2 else if (p.getD 1 0).toNatClampNeg % 128 = 11 then 3 else -1
/-- how many samples a packet brings: 0 where it is damaged -/
def smN (p : List Int32) : Nat :=
  if p.length ≤ 12 ∨ ¬ p.getD 0 0 = 128 then 0
  else if codN p = 3 then (if (p.length - 12) % 2 = 0 ∧ (p.length - 12) / 2 ≤ 16 then (p.length - 12) / 2 else 0)
  else if codN p = 2 then (if 16 < p.length ∧ (p.getD 14 0).toNatClampNeg ≤ 88 ∧ p.getD 15 0 = 0 ∧ 2 * (p.length - 16) ≤ 16 then 2 * (p.length - 16) else 0)
  else if codN p = -1 then 0 else (if p.length - 12 ≤ 16 then p.length - 12 else 0)
def okP (p : List Int32) : Prop := p.length ≤ 44 ∧ (∀ b ∈ p, IsB b) ∧ smN p ≠ 0
/-- how many places are taken -/
def c8 (f : Nat → Bool) : Nat := (f 0).toNat + (f 1).toNat + (f 2).toNat + (f 3).toNat + (f 4).toNat + (f 5).toNat + (f 6).toNat + (f 7).toNat
def cbN (buf : Nat → Option (List Int32)) : Nat := c8 (fun r => (buf r).isSome)
def cnS (ρ : Nat → Option Nat) : Nat := c8 (fun s => (ρ s).isSome)
theorem c8_up {f g : Nat → Bool} {r : Nat} (hr : r < 8) (h0 : f r = false) (h1 : g r = true) (h : ∀ s, s ≠ r → g s = f s) : c8 g = c8 f + 1 := by
  unfold c8
  rcases (show r = 0 ∨ r = 1 ∨ r = 2 ∨ r = 3 ∨ r = 4 ∨ r = 5 ∨ r = 6 ∨ r = 7 by omega) with rfl | rfl | rfl | rfl | rfl | rfl | rfl | rfl
  · rw [h0, h1, h 1 (by decide), h 2 (by decide), h 3 (by decide), h 4 (by decide), h 5 (by decide), h 6 (by decide), h 7 (by decide)]; simp only [Bool.toNat_true, Bool.toNat_false]; omega
  · rw [h0, h1, h 0 (by decide), h 2 (by decide), h 3 (by decide), h 4 (by decide), h 5 (by decide), h 6 (by decide), h 7 (by decide)]; simp only [Bool.toNat_true, Bool.toNat_false]; omega
  · rw [h0, h1, h 0 (by decide), h 1 (by decide), h 3 (by decide), h 4 (by decide), h 5 (by decide), h 6 (by decide), h 7 (by decide)]; simp only [Bool.toNat_true, Bool.toNat_false]; omega
  · rw [h0, h1, h 0 (by decide), h 1 (by decide), h 2 (by decide), h 4 (by decide), h 5 (by decide), h 6 (by decide), h 7 (by decide)]; simp only [Bool.toNat_true, Bool.toNat_false]; omega
  · rw [h0, h1, h 0 (by decide), h 1 (by decide), h 2 (by decide), h 3 (by decide), h 5 (by decide), h 6 (by decide), h 7 (by decide)]; simp only [Bool.toNat_true, Bool.toNat_false]; omega
  · rw [h0, h1, h 0 (by decide), h 1 (by decide), h 2 (by decide), h 3 (by decide), h 4 (by decide), h 6 (by decide), h 7 (by decide)]; simp only [Bool.toNat_true, Bool.toNat_false]; omega
  · rw [h0, h1, h 0 (by decide), h 1 (by decide), h 2 (by decide), h 3 (by decide), h 4 (by decide), h 5 (by decide), h 7 (by decide)]; simp only [Bool.toNat_true, Bool.toNat_false]; omega
  · rw [h0, h1, h 0 (by decide), h 1 (by decide), h 2 (by decide), h 3 (by decide), h 4 (by decide), h 5 (by decide), h 6 (by decide)]; simp only [Bool.toNat_true, Bool.toNat_false]
theorem c8_le (f : Nat → Bool) : c8 f ≤ 8 := by
  unfold c8
  have := fun s => Bool.toNat_le (f s)
  have a0 := this 0
  have a1 := this 1
  have a2 := this 2
  have a3 := this 3
  have a4 := this 4
  have a5 := this 5
  have a6 := this 6
  have a7 := this 7
  omega
def I1 (m : Mem) : Prop := ∃ xs : List Int32, (∀ x ∈ xs, IsS x) ∧ SR (m 1 1) (m 2) 64 xs ∧ SR (m 17 1) (m 19) 64 xs
def I2 (m : Mem) : Prop := ∃ xs : List Int32, (∀ x ∈ xs, IsS x) ∧ SR (m 3 1) (m 4) 256 xs ∧ SR (m 17 3) (m 20) 256 xs
def I3 (m : Mem) : Prop := ∃ xs : List Int32, (∀ x ∈ xs, IsS x) ∧ SR (m 5 1) (m 6) 16 xs ∧ SR (m 17 20) (m 23) 16 xs
/-- the line in the class's cells, and in the reference's -/
def LC (m : Mem) (ps : List (List Int32)) (π : Nat → Nat) : Prop := m 7 1 = nI ps.length ∧ (∀ k, k < 8 → π k < 8 ∧ m 8 k = nI (25 + 2 * π k)) ∧ (∀ i j, i < 8 → j < 8 → π i = π j → i = j) ∧ ∀ k, k < ps.length → SR (m (25 + 2 * π k) 1) (m (26 + 2 * π k)) 44 (ps.getD k [])
def LM (m : Mem) (ps : List (List Int32)) : Prop := m 17 10 = nI ps.length ∧ ∀ k, k < ps.length → SR (m 21 k) (fun i => m 22 (44 * k + i)) 44 (ps.getD k [])
def LB (ps : List (List Int32)) : Prop := ps.length ≤ 8 ∧ ∀ p ∈ ps, ∀ b ∈ p, IsB b
def I4 (m : Mem) : Prop := ∃ (ps : List (List Int32)) (π : Nat → Nat), LB ps ∧ LC m ps π ∧ LM m ps
def I5 (m : Mem) : Prop := (m 9 0 = m 17 5 ∧ m 9 1 = m 17 6 ∧ m 9 2 = m 17 7) ∧ (m 10 0 = m 17 8 ∧ m 10 1 = m 17 9) ∧ (∃ n, n < 65536 ∧ m 9 0 = nI n) ∧ IsS (m 10 0) ∧ ∃ n, n ≤ 88 ∧ m 10 1 = nI n
/-- the buffer in the class's cells -/
def BC (m : Mem) (st nxt mi : Nat) (buf : Nat → Option (List Int32)) : Prop :=
  m 13 3 = nI st ∧ (st ≠ 0 → m 13 5 = nI nxt) ∧ m 11 3 = nI mi ∧ m 13 4 = nI (cbN buf) ∧ ∀ r, r < 8 → m 14 r = nI (41 + 2 * r) ∧ (buf r = none → m 15 r = 0) ∧ ∀ p, buf r = some p → m 15 r = 1 ∧ SR (m (41 + 2 * r) 1) (m (42 + 2 * r)) 44 p
/-- the buffer in the reference's cells -/
def BM (m : Mem) (st nxt mi : Nat) (buf : Nat → Option (List Int32)) (ρ : Nat → Option Nat) : Prop :=
  m 17 13 = nI st ∧ (st ≠ 0 → m 17 14 = nI nxt ∧ m 17 19 = nI mi) ∧ (st = 1 → m 17 17 = 0) ∧ (st = 2 → m 17 17 = 1) ∧
  (∀ s, s < 8 → (ρ s = none → m 21 (8 + s) = -1) ∧ ∀ r, ρ s = some r → r < 8 ∧ ∃ p, buf r = some p ∧ SR (m 21 (8 + s)) (fun i => m 22 (44 * (8 + s) + i)) 44 p) ∧
  (∀ s s' r, s < 8 → s' < 8 → ρ s = some r → ρ s' = some r → s = s') ∧ (∀ r, r < 8 → buf r ≠ none → ∃ s, s < 8 ∧ ρ s = some r) ∧ cnS ρ = cbN buf
def BB (st nxt mi : Nat) (buf : Nat → Option (List Int32)) : Prop :=
  st ≤ 2 ∧ nxt < 65536 ∧ mi ≤ 4 ∧ (st ≠ 2 → mi = 0) ∧ (∀ r, r < 8 → ∀ p, buf r = some p → okP p ∧ sqN p % 8 = r ∧ (sqN p + 65536 - nxt) % 65536 < 8) ∧ (st = 0 → ∀ r, r < 8 → buf r = none) ∧ (st = 1 → ∃ p, buf (nxt % 8) = some p ∧ sqN p = nxt)
/-- what both sides keep as numbers -/
def BE (m : Mem) (st : Nat) : Prop := (st ≠ 0 → m 13 6 = m 17 15) ∧ m 13 7 = m 17 16 ∧ (∃ f, 1 ≤ f ∧ f ≤ 4 ∧ m 13 7 = nI f) ∧ (st = 2 → m 11 2 = m 17 18) ∧ m 11 4 = m 24 8 ∧ m 11 5 = m 24 9 ∧ m 16 1 = m 24 3 ∧ m 16 4 = m 24 4 ∧ m 16 5 = m 24 5 ∧ m 16 6 = m 24 6 ∧ m 16 7 = m 24 7
def I6 (m : Mem) : Prop := ∃ (st nxt mi : Nat) (buf : Nat → Option (List Int32)) (ρ : Nat → Option Nat), BB st nxt mi buf ∧ BC m st nxt mi buf ∧ BM m st nxt mi buf ρ ∧ BE m st
def I8 (m : Mem) : Prop := ∀ j, j < 89 → m 18 j = tb_STEPS j
def Inv (m : Mem) : Prop := I1 m ∧ I2 m ∧ I3 m ∧ I4 m ∧ I5 m ∧ I6 m ∧ I8 m
-- each part looks at its own cells
section CG
variable {P : Nat → Nat → Prop} {m m' : Mem}
theorem I1.cg (h : I1 m) (c : CH P m m') (hp : ∀ k j, (k = 1 ∨ k = 2 ∨ k = 19 ∨ (k = 17 ∧ j = 1)) → ¬ P k j) : I1 m' := by
  obtain ⟨xs, h0, h1, h2⟩ := h
  refine ⟨xs, h0, ?_, ?_⟩
  · rw [c 1 1 (hp _ _ (by omega))]
    exact h1.congr (fun j _ => c _ _ (hp _ _ (by omega)))
  · rw [c 17 1 (hp _ _ (by omega))]
    exact h2.congr (fun j _ => c _ _ (hp _ _ (by omega)))
theorem I2.cg (h : I2 m) (c : CH P m m') (hp : ∀ k j, (k = 3 ∨ k = 4 ∨ k = 20 ∨ (k = 17 ∧ j = 3)) → ¬ P k j) : I2 m' := by
  obtain ⟨xs, h0, h1, h2⟩ := h
  refine ⟨xs, h0, ?_, ?_⟩
  · rw [c 3 1 (hp _ _ (by omega))]
    exact h1.congr (fun j _ => c _ _ (hp _ _ (by omega)))
  · rw [c 17 3 (hp _ _ (by omega))]
    exact h2.congr (fun j _ => c _ _ (hp _ _ (by omega)))
theorem I3.cg (h : I3 m) (c : CH P m m') (hp : ∀ k j, (k = 5 ∨ k = 6 ∨ k = 23 ∨ (k = 17 ∧ j = 20)) → ¬ P k j) : I3 m' := by
  obtain ⟨xs, h0, h1, h2⟩ := h
  refine ⟨xs, h0, ?_, ?_⟩
  · rw [c 5 1 (hp _ _ (by omega))]
    exact h1.congr (fun j _ => c _ _ (hp _ _ (by omega)))
  · rw [c 17 20 (hp _ _ (by omega))]
    exact h2.congr (fun j _ => c _ _ (hp _ _ (by omega)))
theorem LC.cg {ps : List (List Int32)} {π : Nat → Nat} (hl : ps.length ≤ 8) (h : LC m ps π) (c : CH P m m') (hp : ∀ k j, (k = 7 ∨ k = 8 ∨ (25 ≤ k ∧ k ≤ 40)) → ¬ P k j) : LC m' ps π := by
  obtain ⟨h1, h2, h3, h4⟩ := h
  refine ⟨by rw [c _ _ (hp _ _ (by omega))]; exact h1, fun k hk => ⟨(h2 k hk).1, by rw [c _ _ (hp _ _ (by omega))]; exact (h2 k hk).2⟩, h3, fun k hk => ?_⟩
  have hpi := (h2 k (by omega)).1
  rw [c _ _ (hp _ _ (by omega))]
  exact (h4 k hk).congr (fun j _ => c _ _ (hp _ _ (by omega)))
theorem LM.cg {ps : List (List Int32)} (hl : ps.length ≤ 8) (h : LM m ps) (c : CH P m m') (hp : ∀ k j, ((k = 17 ∧ j = 10) ∨ (k = 21 ∧ j < 8) ∨ (k = 22 ∧ j < 352)) → ¬ P k j) : LM m' ps := by
  obtain ⟨h1, h2⟩ := h
  refine ⟨by rw [c _ _ (hp _ _ (by omega))]; exact h1, fun k hk => ?_⟩
  have h44 := (h2 k hk).2.1
  rw [c _ _ (hp _ _ (by omega))]
  exact (h2 k hk).congr (fun j hj => c _ _ (hp _ _ (by omega)))
theorem I4.cg (h : I4 m) (c : CH P m m') (hp : ∀ k j, (k = 7 ∨ k = 8 ∨ (25 ≤ k ∧ k ≤ 40) ∨ (k = 17 ∧ j = 10) ∨ (k = 21 ∧ j < 8) ∨ (k = 22 ∧ j < 352)) → ¬ P k j) : I4 m' := by
  obtain ⟨ps, π, h0, h1, h2⟩ := h
  exact ⟨ps, π, h0, h1.cg h0.1 c (fun k j q => hp k j (by omega)), h2.cg h0.1 c (fun k j q => hp k j (by omega))⟩
theorem I5.cg (h : I5 m) (c : CH P m m') (hp : ∀ k j, (k = 9 ∨ k = 10 ∨ (k = 17 ∧ 5 ≤ j ∧ j ≤ 9)) → ¬ P k j) : I5 m' := by
  have e : ∀ k j, (k = 9 ∨ k = 10 ∨ (k = 17 ∧ 5 ≤ j ∧ j ≤ 9)) → m' k j = m k j := fun k j q => c k j (hp k j q)
  unfold I5
  rw [e 9 0 (by omega), e 9 1 (by omega), e 9 2 (by omega), e 10 0 (by omega), e 10 1 (by omega), e 17 5 (by omega), e 17 6 (by omega), e 17 7 (by omega), e 17 8 (by omega), e 17 9 (by omega)]
  exact h
theorem BC.cg {st nxt mi : Nat} {buf : Nat → Option (List Int32)} (h : BC m st nxt mi buf) (c : CH P m m') (hp : ∀ k j, ((k = 13 ∧ 3 ≤ j ∧ j ≤ 5) ∨ (k = 11 ∧ j = 3) ∨ k = 14 ∨ k = 15 ∨ (41 ≤ k ∧ k ≤ 56)) → ¬ P k j) : BC m' st nxt mi buf := by
  obtain ⟨h1, h2, h3, h4, h5⟩ := h
  refine ⟨by rw [c _ _ (hp _ _ (by omega))]; exact h1, fun z => by rw [c _ _ (hp _ _ (by omega))]; exact h2 z, by rw [c _ _ (hp _ _ (by omega))]; exact h3, by rw [c _ _ (hp _ _ (by omega))]; exact h4, fun r hr => ?_⟩
  obtain ⟨g1, g2, g3⟩ := h5 r hr
  refine ⟨by rw [c _ _ (hp _ _ (by omega))]; exact g1, fun z => by rw [c _ _ (hp _ _ (by omega))]; exact g2 z, fun p hb => ?_⟩
  obtain ⟨g4, g5⟩ := g3 p hb
  rw [c 15 _ (hp _ _ (by omega)), c (41 + 2 * r) _ (hp _ _ (by omega))]
  exact ⟨g4, g5.congr (fun j _ => c _ _ (hp _ _ (by omega)))⟩
theorem BM.cg {st nxt mi : Nat} {buf : Nat → Option (List Int32)} {ρ : Nat → Option Nat} (h : BM m st nxt mi buf ρ) (c : CH P m m') (hp : ∀ k j, ((k = 17 ∧ (j = 13 ∨ j = 14 ∨ j = 17 ∨ j = 19)) ∨ (k = 21 ∧ 8 ≤ j ∧ j < 16) ∨ (k = 22 ∧ 352 ≤ j)) → ¬ P k j) : BM m' st nxt mi buf ρ := by
  obtain ⟨h1, h2, h3, h4, h5, h6⟩ := h
  refine ⟨by rw [c _ _ (hp _ _ (by omega))]; exact h1, fun z => by rw [c _ _ (hp _ _ (by omega)), c _ _ (hp _ _ (by omega))]; exact h2 z, fun z => by rw [c _ _ (hp _ _ (by omega))]; exact h3 z, fun z => by rw [c _ _ (hp _ _ (by omega))]; exact h4 z, fun s hs => ⟨fun z => by rw [c _ _ (hp _ _ (by omega))]; exact (h5 s hs).1 z, fun r hr => ?_⟩, h6⟩
  obtain ⟨g1, p, g2, g3⟩ := (h5 s hs).2 r hr
  refine ⟨g1, p, g2, ?_⟩
  rw [c 21 _ (hp _ _ (by omega))]
  exact g3.congr (fun j _ => c _ _ (hp _ _ (by omega)))
theorem BE.cg {st : Nat} (h : BE m st) (c : CH P m m') (hp : ∀ k j, ((k = 13 ∧ (j = 6 ∨ j = 7)) ∨ (k = 11 ∧ (j = 2 ∨ j = 4 ∨ j = 5)) ∨ k = 16 ∨ k = 24 ∨ (k = 17 ∧ (j = 15 ∨ j = 16 ∨ j = 18))) → ¬ P k j) : BE m' st := by
  have e : ∀ k j, ((k = 13 ∧ (j = 6 ∨ j = 7)) ∨ (k = 11 ∧ (j = 2 ∨ j = 4 ∨ j = 5)) ∨ k = 16 ∨ k = 24 ∨ (k = 17 ∧ (j = 15 ∨ j = 16 ∨ j = 18))) → m' k j = m k j := fun k j q => c k j (hp k j q)
  unfold BE
  rw [e 13 6 (by omega), e 13 7 (by omega), e 11 2 (by omega), e 11 4 (by omega), e 11 5 (by omega), e 16 1 (by omega), e 16 4 (by omega), e 16 5 (by omega), e 16 6 (by omega), e 16 7 (by omega), e 24 3 (by omega), e 24 4 (by omega), e 24 5 (by omega), e 24 6 (by omega), e 24 7 (by omega), e 24 8 (by omega), e 24 9 (by omega), e 17 15 (by omega), e 17 16 (by omega), e 17 18 (by omega)]
  exact h
theorem I6.cg (h : I6 m) (c : CH P m m') (hp : ∀ k j, (k = 11 ∨ k = 13 ∨ k = 14 ∨ k = 15 ∨ k = 16 ∨ k = 24 ∨ (41 ≤ k ∧ k ≤ 56) ∨ (k = 17 ∧ 13 ≤ j ∧ j ≤ 19) ∨ (k = 21 ∧ 8 ≤ j ∧ j < 16) ∨ (k = 22 ∧ 352 ≤ j)) → ¬ P k j) : I6 m' := by
  obtain ⟨st, nxt, mi, buf, ρ, h0, h1, h2, h3⟩ := h
  exact ⟨st, nxt, mi, buf, ρ, h0, h1.cg c (fun k j q => hp k j (by omega)), h2.cg c (fun k j q => hp k j (by omega)), h3.cg c (fun k j q => hp k j (by omega))⟩
theorem I8.cg (h : I8 m) (c : CH P m m') (hp : ∀ k j, k = 18 → ¬ P k j) : I8 m' := fun j hj => by
  rw [c _ _ (hp _ _ rfl)]
  exact h j hj
end CG
/-- a call: both sides answer alike, and all holds again -/
def Step (m : Mem) (F : Option (Int32 × Mem)) (G : Mem → Option (Int32 × Mem)) : Prop := ∃ r m1 m2, F = some (r, m1) ∧ G m1 = some (r, m2) ∧ Inv m2
