-- THE BUFFER: held, buffered, figure
section BU
variable {m : Mem} {st nxt mi : Nat} {buf : Nat → Option (List Int32)} {ρ : Nat → Option Nat}
theorem BM.size (h : BM m st nxt mi buf ρ) {s : Nat} (hs : s < 8) : ((ρ s).isSome = true → ¬ m 21 (8 + s) < 0) ∧ ((ρ s).isSome = false → m 21 (8 + s) < 0) := by
  obtain ⟨h1, h2⟩ := h.2.2.2.2.1 s hs
  constructor
  · intro z
    obtain ⟨r, hr⟩ := Option.isSome_iff_exists.mp z
    obtain ⟨-, p, -, g⟩ := h2 r hr
    have := g.2.1
    rw [g.1]
    exact nI_pos (by omega)
  · intro z
    have hn : ρ s = none := by
      cases hq : ρ s with
      | none => rfl
      | some r => rw [hq] at z; cases z
    rw [h1 hn]
    decide
theorem bf_step (h : BM m st nxt mi buf ρ) {s : Nat} (hs : s < 8) (n acc : Nat) : F_Model_buffered_5 (n + 1) m (nI acc) (nI (8 + s)) = F_Model_buffered_5 n m (nI (acc + ((ρ s).isSome).toNat)) (nI (8 + (s + 1))) := by
  obtain ⟨a1, a2⟩ := h.size hs
  rw [F_Model_buffered_5, if_neg (kNGE 16 16 rfl (by omega) (by decide)), if_neg (show ¬ (nI (8 + s) < 0 ∨ ln 21 ≤ (nI (8 + s)).toNatClampNeg) from nI_in (N := 16) (by omega) (by decide)), nI_clamp (by omega), nI_1, show 8 + s + 1 = 8 + (s + 1) by omega]
  cases hq : (ρ s).isSome with
  | true => rw [if_neg (a1 hq), bnd_eq, nI_1]; rfl
  | false => rw [if_pos (a2 hq), bnd_eq, Int32.add_zero]; rfl
theorem bf_eq (h : BM m st nxt mi buf ρ) : F_Model_buffered m = some (nI (cbN buf)) := by
  unfold F_Model_buffered
  rw [show (0 : Int32) = nI 0 from nI_0.symm, show (8 : Int32) = nI (8 + 0) from rfl, bf_step h (by decide), bf_step h (by decide), bf_step h (by decide), bf_step h (by decide), bf_step h (by decide), bf_step h (by decide), bf_step h (by decide), bf_step h (by decide), F_Model_buffered_5, if_pos (by decide), ← h.2.2.2.2.2.2.2]
  unfold cnS c8
  simp only [Nat.zero_add]
/-- slot s holds a packet of the sequence number q -/
def hit (buf : Nat → Option (List Int32)) (ρ : Nat → Option Nat) (q s : Nat) : Prop := ∃ r p, ρ s = some r ∧ buf r = some p ∧ sqN p = q
theorem okP_len {p : List Int32} (h : okP p) : 12 < p.length := by
  rcases Nat.lt_or_ge 12 p.length with q | q
  · exact q
  · exact absurd (by unfold smN; rw [if_pos (Or.inl q)]) h.2.2
theorem sqN_eq (p : List Int32) : sqN p = p2N p 2 := rfl
theorem he_step (hb : BB st nxt mi buf) (h : BM m st nxt mi buf ρ) {s q : Nat} (hs : s < 8) (hq : q < 65536) (n : Nat) : (hit buf ρ q s → F_Model_held_3 (n + 1) m (nI q) (nI (8 + s)) = some (nI (8 + s))) ∧ (¬ hit buf ρ q s → F_Model_held_3 (n + 1) m (nI q) (nI (8 + s)) = F_Model_held_3 n m (nI q) (nI (8 + (s + 1)))) := by
  obtain ⟨a1, a2⟩ := h.size hs
  obtain ⟨h1, h2⟩ := h.2.2.2.2.1 s hs
  have g0 : ¬ (nI (8 + s) < 0 ∨ ln 21 ≤ (nI (8 + s)).toNatClampNeg) := nI_in (N := 16) (by omega) (by decide)
  have g1 : ¬ (16 : Int32) ≤ nI (8 + s) := kNGE 16 16 rfl (by omega) (by decide)
  cases hr : ρ s with
  | none =>
    refine ⟨fun ⟨r, p, z, _⟩ => (by rw [hr] at z; cases z), fun _ => ?_⟩
    rw [F_Model_held_3, if_neg g1, if_neg g0, nI_clamp (by omega), if_pos (a2 (by rw [hr]; rfl)), nI_1, show 8 + s + 1 = 8 + (s + 1) by omega]
  | some r =>
    obtain ⟨r8, p, e1, e2⟩ := h2 r hr
    obtain ⟨okp, -, -⟩ := hb.2.2.2.2.1 r r8 p e1
    have hl := okP_len okp
    have hp := rd_pairM (s := 8 + s) (by omega) e2 okp.2.1 (i := 2) (by omega)
    have hlt := p2_lt okp.2.1 (i := 2) (by omega)
    have hd : F_Model_held_3 (n + 1) m (nI q) (nI (8 + s)) = if nI (p2N p 2) = nI q then some (nI (8 + s)) else F_Model_held_3 n m (nI q) (nI (8 + (s + 1))) := by
      rw [F_Model_held_3, if_neg g1, if_neg g0, nI_clamp (by omega), if_neg (a1 (by rw [hr]; rfl)), show (2 : Int32) = nI 2 from rfl, hp, rd_some, nI_1, show 8 + s + 1 = 8 + (s + 1) by omega]
    rw [hd]
    constructor
    · rintro ⟨r', p', z1, z2, z3⟩
      rw [hr] at z1
      cases z1
      rw [e1] at z2
      cases z2
      rw [if_pos (by rw [← sqN_eq, z3])]
    · intro hn
      rw [if_neg]
      intro z
      rw [nI_eq (by omega) (by omega)] at z
      exact hn ⟨r, p, hr, e1, z⟩
theorem he_loop (hb : BB st nxt mi buf) (h : BM m st nxt mi buf ρ) {q : Nat} (hq : q < 65536) : ∀ (d n j : Nat), 8 = j + d → d < n → ((∃ s, j ≤ s ∧ s < 8 ∧ hit buf ρ q s) → ∃ s, s < 8 ∧ hit buf ρ q s ∧ F_Model_held_3 n m (nI q) (nI (8 + j)) = some (nI (8 + s))) ∧ ((¬ ∃ s, j ≤ s ∧ s < 8 ∧ hit buf ρ q s) → F_Model_held_3 n m (nI q) (nI (8 + j)) = some (-1 : Int32)) := by
  intro d
  induction d with
  | zero =>
    intro n j e hn
    obtain ⟨n, rfl⟩ : ∃ q, n = q + 1 := ⟨n - 1, by omega⟩
    refine ⟨fun ⟨s, z1, z2, _⟩ => absurd z2 (by omega), fun _ => ?_⟩
    rw [F_Model_held_3, if_pos (kGE 16 16 rfl (by omega) (by omega))]
  | succ d ih =>
    intro n j e hn
    obtain ⟨n, rfl⟩ : ∃ q, n = q + 1 := ⟨n - 1, by omega⟩
    obtain ⟨s1, s2⟩ := he_step hb h (s := j) (by omega) hq n
    obtain ⟨i1, i2⟩ := ih n (j + 1) (by omega) (by omega)
    by_cases hj : hit buf ρ q j
    · exact ⟨fun _ => ⟨j, by omega, hj, s1 hj⟩, fun z => absurd ⟨j, Nat.le_refl _, by omega, hj⟩ z⟩
    · rw [s2 hj]
      refine ⟨fun ⟨s, z1, z2, z3⟩ => i1 ⟨s, ?_, z2, z3⟩, fun z => i2 (fun ⟨s, z1, z2, z3⟩ => z ⟨s, by omega, z2, z3⟩)⟩
      rcases Nat.lt_or_ge j s with w | w
      · exact w
      · exact absurd (by rw [show j = s by omega]; exact z3) hj
/-- held: the slot of the number q, or -1 -/
theorem he_yes (hb : BB st nxt mi buf) (h : BM m st nxt mi buf ρ) {q : Nat} (hq : q < 65536) {p : List Int32} (hp : buf (q % 8) = some p) (hsq : sqN p = q) : ∃ s, s < 8 ∧ ρ s = some (q % 8) ∧ F_Model_held m (nI q) = some (nI (8 + s)) ∧ PM (8 + s) m p := by
  obtain ⟨s0, h1, h2⟩ := h.2.2.2.2.2.2.1 (q % 8) (Nat.mod_lt _ (by decide)) (by rw [hp]; exact fun z => by cases z)
  obtain ⟨s, z1, ⟨r, p', z2, z3, z4⟩, z5⟩ := (he_loop hb h hq 8 300 0 (by omega) (by omega)).1 ⟨s0, by omega, h1, _, p, h2, hp, hsq⟩
  obtain ⟨r8, p2, e1, e2⟩ := (h.2.2.2.2.1 s z1).2 r z2
  have hr : r = q % 8 := by
    have := (hb.2.2.2.2.1 r r8 p' z3).2.1
    rw [z4] at this
    exact this.symm
  subst hr
  rw [hp] at e1
  cases e1
  exact ⟨s, z1, z2, z5, e2⟩
theorem he_no (hb : BB st nxt mi buf) (h : BM m st nxt mi buf ρ) {q : Nat} (hq : q < 65536) (hn : ∀ p, buf (q % 8) = some p → sqN p ≠ q) : F_Model_held m (nI q) = some (-1 : Int32) := by
  refine (he_loop hb h hq 8 300 0 (by omega) (by omega)).2 ?_
  rintro ⟨s, -, z1, r, p, z2, z3, z4⟩
  obtain ⟨r8, -⟩ := (h.2.2.2.2.1 s z1).2 r z2
  have hr : r = q % 8 := by
    have := (hb.2.2.2.2.1 r r8 p z3).2.1
    rw [z4] at this
    exact this.symm
  subst hr
  exact hn p z3 z4
end BU
section FG
variable {m : Mem}
theorem fg_m {k : Nat} (h3 : 3 ≤ k) (h9 : k ≤ 9) : (if nI k < (3 : Int32) then some (-1 : Int32) else if (9 : Int32) < nI k then some (-1 : Int32) else if nI k < 0 ∨ ln 24 ≤ (Int32.toNatClampNeg (nI k)) then none else some (m 24 (Int32.toNatClampNeg (nI k)))) = some (m 24 k) := by
  rw [if_neg (kNLT 3 3 rfl h3 (by omega)), if_neg (kNGT 9 9 rfl h9 (by decide)), if_neg (show ¬ (nI k < 0 ∨ ln 24 ≤ (nI k).toNatClampNeg) from nI_in (N := 10) (by omega) (by decide)), nI_clamp (by omega)]
theorem st_figure (h : Inv m) (k : Int32) : ∃ r, F_Gate_figure m k = some r ∧ F_Model_figure m k = some r := by
  obtain ⟨-, -, -, -, i5, ⟨st, nxt, mi, buf, ρ, bb, bc, bm, be⟩, -⟩ := h
  have hbf := bf_eq bm
  obtain ⟨e1, e2, e3, e4, e5, e6, e7, e8, e9, e10, e11⟩ := be
  unfold F_Gate_figure F_Model_figure
  by_cases h0 : k = 0
  · rw [if_pos h0, if_pos h0]
    exact ⟨m 17 13, by rw [show F_Buffer_state m = some (m 13 3) from rfl, rd_some, bc.1, bm.1], rfl⟩
  · rw [if_neg h0, if_neg h0]
    by_cases h1 : k = 1
    · rw [if_pos h1, if_pos h1, hbf]
      exact ⟨nI (cbN buf), by rw [show F_Buffer_size m = some (m 13 4) from rfl, rd_some, bc.2.2.2.1], rfl⟩
    · rw [if_neg h1, if_neg h1]
      by_cases h2 : k = 2
      · rw [if_pos h2, if_pos h2]
        unfold F_Buffer_nextSequence
        rw [bc.1, bm.1]
        by_cases hz : st = 0
        · rw [if_pos (by rw [hz]; rfl), if_pos (by rw [hz]; rfl)]
          exact ⟨-1, rfl, rfl⟩
        · have := bb.1
          rw [if_neg (nI_ne0 (by omega) (by omega)), if_neg (nI_ne0 (by omega) (by omega))]
          exact ⟨m 17 14, by rw [rd_some, bc.2.1 hz, (bm.2.1 hz).1], rfl⟩
      · rw [if_neg h2, if_neg h2]
        by_cases h3 : k = 3
        · rw [if_pos h3, if_pos h3, h3]
          exact ⟨m 24 3, by rw [← e7]; rfl, fg_m (k := 3) (by omega) (by omega)⟩
        · rw [if_neg h3, if_neg h3]
          by_cases h4 : k = 4
          · rw [if_pos h4, if_pos h4, h4]
            exact ⟨m 24 4, by rw [← e8]; rfl, fg_m (k := 4) (by omega) (by omega)⟩
          · rw [if_neg h4, if_neg h4]
            by_cases h5 : k = 5
            · rw [if_pos h5, if_pos h5, h5]
              exact ⟨m 24 5, by rw [← e9]; rfl, fg_m (k := 5) (by omega) (by omega)⟩
            · rw [if_neg h5, if_neg h5]
              by_cases h6 : k = 6
              · rw [if_pos h6, if_pos h6, h6]
                exact ⟨m 24 6, by rw [← e10]; rfl, fg_m (k := 6) (by omega) (by omega)⟩
              · rw [if_neg h6, if_neg h6]
                by_cases h7 : k = 7
                · rw [if_pos h7, if_pos h7, h7]
                  exact ⟨m 24 7, by rw [← e11]; rfl, fg_m (k := 7) (by omega) (by omega)⟩
                · rw [if_neg h7, if_neg h7]
                  by_cases h8 : k = 8
                  · rw [if_pos h8, if_pos h8, h8]
                    exact ⟨m 24 8, by rw [← e5]; rfl, fg_m (k := 8) (by omega) (by omega)⟩
                  · rw [if_neg h8, if_neg h8]
                    by_cases h9 : k = 9
                    · rw [if_pos h9, if_pos h9, h9]
                      exact ⟨m 24 9, by rw [← e6]; rfl, fg_m (k := 9) (by omega) (by omega)⟩
                    · rw [if_neg h9, if_neg h9]
                      by_cases h10 : k = 10
                      · rw [if_pos h10, if_pos h10]
                        exact ⟨m 17 8, by rw [← i5.2.1.1]; rfl, rfl⟩
                      · rw [if_neg h10, if_neg h10]
                        by_cases h11 : k = 11
                        · rw [if_pos h11, if_pos h11]
                          exact ⟨m 17 9, by rw [← i5.2.1.2]; rfl, rfl⟩
                        · rw [if_neg h11, if_neg h11]
                          by_cases h12 : k = 12
                          · rw [if_pos h12, if_pos h12]
                            exact ⟨m 17 5, by rw [← i5.1.1]; rfl, rfl⟩
                          · rw [if_neg h12, if_neg h12]
                            refine ⟨-1, rfl, ?_⟩
                            by_cases q3 : k < (3 : Int32)
                            · rw [if_pos q3]
                            · by_cases q9 : (9 : Int32) < k
                              · rw [if_neg q3, if_pos q9]
                              · exfalso
                                have k0 : ¬ k < 0 := fun q => q3 (by
                                  rw [Int32.lt_iff_toInt_lt] at q ⊢
                                  have a1 : (0 : Int32).toInt = 0 := rfl
                                  have a2 : (3 : Int32).toInt = 3 := rfl
                                  omega)
                                obtain ⟨j, hj, rfl⟩ := nI_of2 (M := 9) (n := 9) rfl k0 (Int32.not_lt.mp q9)
                                have j3 : 3 ≤ j := by
                                  rcases Nat.lt_or_ge j 3 with w | w
                                  · exact absurd (kLT 3 3 rfl w (by decide)) q3
                                  · exact w
                                rcases (show j = 3 ∨ j = 4 ∨ j = 5 ∨ j = 6 ∨ j = 7 ∨ j = 8 ∨ j = 9 by omega) with rfl | rfl | rfl | rfl | rfl | rfl | rfl
                                · exact h3 rfl
                                · exact h4 rfl
                                · exact h5 rfl
                                · exact h6 rfl
                                · exact h7 rfl
                                · exact h8 rfl
                                · exact h9 rfl
end FG
