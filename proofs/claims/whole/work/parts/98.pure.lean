theorem pure_law {L : Nat} {xs : Nat → Int32} {f1 f2 : Nat → Int32} (hL : L ≤ 2048) (h1 : ∀ j, j < 89 → f1 j = tb_STEPS j) (h2 : ∀ j, j < 16 → f2 j = if j < 8 then 0 else (-1 : Int32)) : ∃ m9, F_law L xs (mu0 f1 f2) = some ((1 : Int32), m9) := by
  sorry
