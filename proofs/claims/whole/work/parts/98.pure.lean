-- THE START, AND ALL CALLS IN A ROW
theorem inv_0 {f1 f2 : Nat → Int32} (h1 : ∀ j, j < 89 → f1 j = tb_STEPS j) (h2 : ∀ j, j < 16 → f2 j = if j < 8 then 0 else (-1 : Int32)) : Inv (mu0 f1 f2) := by
  have nn : ∀ x : Int32, x ∈ ([] : List Int32) → IsS x := fun x hx => absurd hx (List.not_mem_nil)
  refine ⟨⟨[], nn, SR.nil, SR.nil⟩, ⟨[], nn, SR.nil, SR.nil⟩, ⟨[], nn, SR.nil, SR.nil⟩, ⟨[], id, ⟨by decide, fun p hp => absurd hp (List.not_mem_nil)⟩, ⟨nI_0.symm, fun k hk => ⟨hk, rfl⟩, fun i j _ _ e => e, fun k hk => absurd hk (Nat.not_lt_zero k)⟩, ⟨nI_0.symm, fun k hk => absurd hk (Nat.not_lt_zero k)⟩⟩, ⟨⟨rfl, rfl, rfl⟩, ⟨rfl, rfl⟩, ⟨0, by decide, nI_0.symm⟩, (show IsS 0 from ⟨by decide, by decide⟩), ⟨0, by decide, nI_0.symm⟩⟩, ⟨0, 0, 0, fun _ => none, fun _ => none, ?_, ?_, ?_, ?_⟩, fun j hj => h1 j hj⟩
  · exact ⟨by decide, by decide, by decide, fun _ => rfl, fun r hr p hp => (by cases hp), fun _ _ _ => rfl, fun z => absurd z (by decide)⟩
  · exact ⟨nI_0.symm, fun z => absurd rfl z, nI_0.symm, nI_0.symm, fun r hr => ⟨rfl, fun _ => rfl, fun p hp => (by cases hp)⟩⟩
  · refine ⟨nI_0.symm, fun z => absurd rfl z, fun z => absurd z (by decide), fun z => absurd z (by decide), fun s hs => ⟨fun _ => ?_, fun r hr => (by cases hr)⟩, fun s s' r _ _ z => (by cases z), fun r _ z => absurd rfl z, rfl⟩
    have := h2 (8 + s) (by omega)
    rw [if_neg (by omega)] at this
    exact this
  · exact ⟨fun z => absurd rfl z, rfl, ⟨1, by decide, by decide, rfl⟩, fun z => absurd z (by decide), rfl, rfl, rfl, rfl, rfl, rfl, rfl⟩
theorem law_loop {L : Nat} (hL : L ≤ 2048) (xs : Nat → Int32) : ∀ (fu i : Nat) (m : Mem), Inv m → i ≤ L → L + 4 ≤ i + 4 * fu → ∃ m9, F_law_18 fu L xs m (nI i) = some ((1 : Int32), m9) := by
  intro fu
  induction fu with
  | zero =>
    intro i m h hi hf
    omega
  | succ n ih =>
    intro i m h hi hf
    have hcond : ((nI L) - (4 : Int32)) < nI i ↔ L < i + 4 := by
      rw [Int32.lt_iff_toInt_lt, show (4 : Int32) = nI 4 from rfl, pk_sub_toInt (by omega) (by decide), nI_toInt (by omega)]
      omega
    by_cases hc : L < i + 4
    · refine ⟨m, ?_⟩
      rw [F_law_18, if_pos (hcond.mpr hc)]
    · have go : ∀ m2, Inv m2 → ∃ m9, F_law_18 n L xs m2 (nI (i + 4)) = some ((1 : Int32), m9) := fun m2 h2 => ih (i + 4) m2 h2 (by omega) (by omega)
      have rdS : ∀ (F G : Option Int32), (∃ r, F = some r ∧ G = some r) → ∃ m9, (rd F fun a => rd G fun b => if a = b then F_law_18 n L xs m (nI (i + 4)) else some ((0 : Int32), m)) = some ((1 : Int32), m9) := by
        rintro F G ⟨r, rfl, rfl⟩
        rw [rd_some, rd_some, if_pos rfl]
        exact go m h
      have calS : ∀ (F : Option (Int32 × Mem)) (G : Mem → Option (Int32 × Mem)), Step m F G → ∃ m9, (cal F fun a m1 => cal (G m1) fun b m2 => if a = b then F_law_18 n L xs m2 (nI (i + 4)) else some ((0 : Int32), m2)) = some ((1 : Int32), m9) := by
        rintro F G ⟨r, m1, m2, rfl, hG, hI⟩
        rw [cal_some, hG, cal_some, if_pos rfl]
        exact go m2 hI
      have e1 : nI i + (1 : Int32) = nI (i + 1) := nI_1 i
      have e2 : nI i + (2 : Int32) = nI (i + 2) := nI_add i 2
      have e3 : nI i + (3 : Int32) = nI (i + 3) := nI_add i 3
      have e4 : nI i + (4 : Int32) = nI (i + 4) := nI_add i 4
      have k0 : (nI i).toNatClampNeg = i := nI_clamp (by omega)
      have k1 : (nI (i + 1)).toNatClampNeg = i + 1 := nI_clamp (by omega)
      have k2 : (nI (i + 2)).toNatClampNeg = i + 2 := nI_clamp (by omega)
      have k3 : (nI (i + 3)).toNatClampNeg = i + 3 := nI_clamp (by omega)
      have g0 : ¬ (nI i < 0 ∨ L ≤ i) := by
        have := nI_in (c := i) (N := L) (by omega) (by omega)
        rw [k0] at this
        exact this
      have g1 : ¬ (nI (i + 1) < 0 ∨ L ≤ i + 1) := by
        have := nI_in (c := i + 1) (N := L) (by omega) (by omega)
        rw [k1] at this
        exact this
      have g2 : ¬ (nI (i + 2) < 0 ∨ L ≤ i + 2) := by
        have := nI_in (c := i + 2) (N := L) (by omega) (by omega)
        rw [k2] at this
        exact this
      have g3 : ¬ (nI (i + 3) < 0 ∨ L ≤ i + 3) := by
        have := nI_in (c := i + 3) (N := L) (by omega) (by omega)
        rw [k3] at this
        exact this
      rw [F_law_18, if_neg (fun z => hc (hcond.mp z)), e1, e2, e3, e4, k0, k1, k2, k3, if_neg g0]
      generalize (xs i &&& (15 : Int32)) = c
      by_cases c0 : c = 0
      · rw [if_pos c0, if_neg g1, if_neg g2]
        exact rdS _ _ (st_compress _ _)
      rw [if_neg c0]
      by_cases c1 : c = 1
      · rw [if_pos c1, if_neg g1, if_neg g2]
        exact rdS _ _ (st_expand _ _)
      rw [if_neg c1]
      by_cases c2 : c = 2
      · rw [if_pos c2, if_neg g1]
        exact calS _ (fun m1 => F_Model_feed m1 _) (st_feed h _)
      rw [if_neg c2]
      by_cases c3 : c = 3
      · rw [if_pos c3, if_neg g1, if_neg g2, if_neg g3]
        exact calS _ (fun m1 => F_Model_begin m1 _ _ _) (st_begin h _ _ _)
      rw [if_neg c3]
      by_cases c4 : c = 4
      · rw [if_pos c4, if_neg g1, if_neg g2, if_neg g3]
        by_cases hx : xs (i + 3) = 0
        · simp only [if_pos hx]
          exact calS _ (fun m1 => F_Model_send m1 _ _ _) (st_send h _ _ _)
        · simp only [if_neg hx]
          exact calS _ (fun m1 => F_Model_send m1 _ _ _) (st_send h _ _ _)
      rw [if_neg c4]
      by_cases c5 : c = 5
      · rw [if_pos c5]
        exact rdS _ _ (st_line h)
      rw [if_neg c5]
      by_cases c6 : c = 6
      · rw [if_pos c6, if_neg g1, if_neg g2]
        exact rdS _ _ (st_byteAt h _ _)
      rw [if_neg c6]
      by_cases c7 : c = 7
      · rw [if_pos c7, if_neg g1, if_neg g2, if_neg g3]
        exact calS _ (fun m1 => F_Model_poke m1 _ _ _) (st_poke h _ _ _)
      rw [if_neg c7]
      by_cases c8 : c = 8
      · rw [if_pos c8, if_neg g1, if_neg g2]
        exact calS _ (fun m1 => F_Model_disturb m1 _ _) (st_disturb h _ _)
      rw [if_neg c8]
      by_cases c9 : c = 9
      · rw [if_pos c9]
        exact calS _ (fun m1 => F_Model_receive m1) (st_receive h)
      rw [if_neg c9]
      by_cases c10 : c = 10
      · rw [if_pos c10, if_neg g1]
        exact calS _ (fun m1 => F_Model_prefill m1 _) (st_prefill h _)
      rw [if_neg c10]
      by_cases c11 : c = 11
      · rw [if_pos c11]
        exact calS _ (fun m1 => F_Model_play m1) (st_play h)
      rw [if_neg c11]
      by_cases c12 : c = 12
      · rw [if_pos c12]
        exact rdS _ _ (st_output h)
      rw [if_neg c12]
      by_cases c13 : c = 13
      · rw [if_pos c13, if_neg g1]
        exact rdS _ _ (st_sample h _)
      rw [if_neg c13]
      by_cases c14 : c = 14
      · rw [if_pos c14, if_neg g1]
        exact calS _ (fun m1 => F_Model_pass m1 _) (st_pass h _)
      rw [if_neg c14]
      by_cases c15 : c = 15
      · rw [if_pos c15, if_neg g1]
        exact rdS _ _ (st_figure h _)
      rw [if_neg c15]
      exact go m h
theorem pure_law {L : Nat} {xs : Nat → Int32} {f1 f2 : Nat → Int32} (hL : L ≤ 2048) (h1 : ∀ j, j < 89 → f1 j = tb_STEPS j) (h2 : ∀ j, j < 16 → f2 j = if j < 8 then 0 else (-1 : Int32)) : ∃ m9, F_law L xs (mu0 f1 f2) = some ((1 : Int32), m9) := law_loop hL xs 600 0 _ (inv_0 h1 h2) (Nat.zero_le _) (by omega)
