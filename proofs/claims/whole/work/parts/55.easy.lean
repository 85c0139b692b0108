-- THE CALLS THAT ARE SOON DONE
section KK
variable {n : Nat} (K : Int32) (k : Nat)
theorem kLT (hK : K = nI k) (h : n < k) (hk : k < 2 ^ 31) : nI n < K := by rw [hK]; exact nI_lt h hk
theorem kNLT (hK : K = nI k) (h : k ≤ n) (hn : n < 2 ^ 31) : ¬ nI n < K := by rw [hK]; exact nI_nlt h hn
theorem kLE (hK : K = nI k) (h : n ≤ k) (hk : k < 2 ^ 31) : nI n ≤ K := by rw [hK]; exact nI_le h hk
theorem kNLE (hK : K = nI k) (h : k < n) (hn : n < 2 ^ 31) : ¬ nI n ≤ K := by rw [hK]; exact nI_ge h hn
theorem kGT (hK : K = nI k) (h : k < n) (hn : n < 2 ^ 31) : K < nI n := by rw [hK]; exact nI_lt h hn
theorem kNGT (hK : K = nI k) (h : n ≤ k) (hk : k < 2 ^ 31) : ¬ K < nI n := by rw [hK]; exact nI_nlt h hk
theorem kGE (hK : K = nI k) (h : k ≤ n) (hn : n < 2 ^ 31) : K ≤ nI n := by rw [hK]; exact nI_le h hn
theorem kNGE (hK : K = nI k) (h : n < k) (hk : k < 2 ^ 31) : ¬ K ≤ nI n := by rw [hK]; exact nI_ge h hk
theorem kEQ (hK : K = nI k) (hn : n < 2 ^ 31) (hk : k < 2 ^ 31) : nI n = K ↔ n = k := by rw [hK]; exact nI_eq hn hk
end KK
section EASY
variable {m : Mem}
theorem st_compress (c x : Int32) : ∃ r, F_Gate_compress c x = some r ∧ F_Model_compress c x = some r := by
  by_cases hc : c = 0 ∨ c = 1
  · have hh : F_Intervals_has c = some 1 := by rcases hc with rfl | rfl <;> rfl
    by_cases hx : IsS x
    · obtain ⟨e1, e2, -⟩ := enc_ok hc hx
      refine ⟨encI c x, ?_, e2⟩
      unfold F_Gate_compress
      rw [hh, rd_some, if_neg (by decide), (smp1 hx).1, rd_some, if_neg (by decide), e1, rd_some]
    · refine ⟨-1, ?_, ?_⟩
      · unfold F_Gate_compress
        rw [hh, rd_some, if_neg (by decide), (smp0 hx).1, rd_some, if_pos rfl]
      · unfold F_Model_compress
        have h1 : ¬ c < 0 := by rcases hc with rfl | rfl <;> decide
        have h2 : ¬ (1 : Int32) < c := by rcases hc with rfl | rfl <;> decide
        rw [if_neg h1, if_neg h2, (smp0 hx).2, rd_some, if_pos rfl]
  · obtain ⟨h0, h1⟩ := not_or.mp hc
    have hh : F_Intervals_has c = some 0 := by
      unfold F_Intervals_has
      rw [if_neg h0, if_neg h1]
    refine ⟨-1, ?_, ?_⟩
    · unfold F_Gate_compress
      rw [hh, rd_some, if_pos rfl]
    · unfold F_Model_compress
      by_cases g0 : c < 0
      · rw [if_pos g0]
      · have g1 : (1 : Int32) < c := by
          obtain ⟨j, hj, rfl⟩ := nI_of g0
          refine nI_lt (a := 1) ?_ hj
          have a0 : j ≠ 0 := fun e => h0 (by rw [e]; rfl)
          have a1 : j ≠ 1 := fun e => h1 (by rw [e]; rfl)
          omega
        rw [if_neg g0, if_pos g1]
theorem byte_of {b : Int32} (h0 : ¬ b < 0) (h1 : ¬ (255 : Int32) < b) : IsB b := by
  obtain ⟨j, hj, rfl⟩ := nI_of h0
  refine ⟨j, ?_, rfl⟩
  rcases Nat.lt_or_ge 255 j with q | q
  · exact absurd (nI_lt (a := 255) q hj) h1
  · omega
theorem byte_c {b : Int32} (h : IsB b) : F_Gate_isByte b = some 1 ∧ ¬ b < 0 ∧ b ≤ (255 : Int32) := by
  obtain ⟨n, hn, rfl⟩ := h
  refine ⟨?_, nI_pos (by omega), nI_le (b := 255) (by omega) (by decide)⟩
  unfold F_Gate_isByte
  rw [if_neg (nI_pos (by omega)), if_neg (kNGT 255 255 rfl (by omega) (by decide))]
theorem byte_n {b : Int32} (h : ¬ IsB b) : F_Gate_isByte b = some 0 ∧ (b < 0 ∨ ¬ b ≤ (255 : Int32)) := by
  unfold F_Gate_isByte
  by_cases h0 : b < 0
  · rw [if_pos h0]
    exact ⟨rfl, Or.inl h0⟩
  · by_cases h1 : (255 : Int32) < b
    · rw [if_neg h0, if_pos h1]
      exact ⟨rfl, Or.inr (Int32.not_le.mpr h1)⟩
    · exact absurd (byte_of h0 h1) h
theorem st_expand (c x : Int32) : ∃ r, F_Gate_expand c x = some r ∧ F_Model_expand c x = some r := by
  by_cases hc : c = 0 ∨ c = 1
  · have hh : F_Intervals_has c = some 1 := by rcases hc with rfl | rfl <;> rfl
    by_cases hx : IsB x
    · obtain ⟨e1, e2, -⟩ := dec_ok hc hx
      refine ⟨decI c x, ?_, e2⟩
      unfold F_Gate_expand
      rw [hh, rd_some, if_neg (by decide), (byte_c hx).1, rd_some, if_neg (by decide), e1, rd_some]
    · refine ⟨40000, ?_, ?_⟩
      · unfold F_Gate_expand
        rw [hh, rd_some, if_neg (by decide), (byte_n hx).1, rd_some, if_pos rfl]
      · unfold F_Model_expand
        have h1 : ¬ c < 0 := by rcases hc with rfl | rfl <;> decide
        have h2 : ¬ (1 : Int32) < c := by rcases hc with rfl | rfl <;> decide
        rw [if_neg h1, if_neg h2]
        by_cases g : x < 0
        · rw [if_pos g]
        · rcases (byte_n hx).2 with q | q
          · exact absurd q g
          · rw [if_neg g, if_neg q]
  · obtain ⟨h0, h1⟩ := not_or.mp hc
    have hh : F_Intervals_has c = some 0 := by
      unfold F_Intervals_has
      rw [if_neg h0, if_neg h1]
    refine ⟨40000, ?_, ?_⟩
    · unfold F_Gate_expand
      rw [hh, rd_some, if_pos rfl]
    · unfold F_Model_expand
      by_cases g0 : c < 0
      · rw [if_pos g0]
      · have g1 : (1 : Int32) < c := by
          obtain ⟨j, hj, rfl⟩ := nI_of g0
          refine nI_lt (a := 1) ?_ hj
          have a0 : j ≠ 0 := fun e => h0 (by rw [e]; rfl)
          have a1 : j ≠ 1 := fun e => h1 (by rw [e]; rfl)
          omega
        rw [if_neg g0, if_pos g1]
theorem st_feed (h : Inv m) (x : Int32) : Step m (F_Gate_feed m x) (fun m1 => F_Model_feed m1 x) := by
  obtain ⟨i1, i2, i3, i4, i5, i6, i8⟩ := id h
  by_cases hx : IsS x
  · obtain ⟨xs, h0, h1, h2⟩ := i1
    have h1' : SR (m 1 1) (m (1 + 1)) (ln (1 + 1)) xs := h1
    have e0 : F_Samples_hasRoom m 1 (1 : Int32) = some (if xs.length + 1 ≤ ln (1 + 1) then 1 else 0) := sa_room (n := 1) h1' (by decide) (by decide)
    have l2 : ln (1 + 1) = 64 := rfl
    by_cases hr : xs.length + 1 ≤ 64
    · obtain ⟨m1, g1, g2, g3⟩ := sa_add h1' (by decide) (by omega) x
      have h2' : SR (m1 17 1) (m1 19) 64 xs := by
        rw [g3 17 1 (by omega)]
        exact h2.congr (fun j _ => g3 _ _ (by omega))
      refine ⟨1, m1, put (put m1 19 xs.length x) 17 1 (m1 17 1 + 1), ?_, ?_, ?_⟩
      · unfold F_Gate_feed
        rw [(smp1 hx).1, rd_some, if_neg (by decide), e0, if_pos (by omega), rd_some, if_neg (by decide), g1, rd_some]
      · show F_Model_feed m1 x = _
        unfold F_Model_feed
        rw [(smp1 hx).2, rd_some, if_neg (by decide), if_neg (by
          rw [h2'.1, show (64 : Int32) = nI 64 from rfl, nI_eq (by omega) (by omega)]
          omega), if_neg (by rw [h2'.1]; exact nI_in (N := 64) (by omega) (by decide)), h2'.clamp (by decide)]
        simp only [bnd_eq]
        rw [show put m1 19 xs.length x 17 1 = m1 17 1 by simp [put_at]]
      · have c : CH (fun a b => (a = 1 ∧ b = 1) ∨ a = 1 + 1 ∨ a = 19 ∨ (a = 17 ∧ b = 1)) m (put (put m1 19 xs.length x) 17 1 (m1 17 1 + 1)) := ((g3.mo (fun k j q => by omega)).put (by omega) _).put (by omega) _
        refine ⟨⟨xs ++ [x], ?_, ?_, ?_⟩, i2.cg c (fun k j q => by omega), i3.cg c (fun k j q => by omega), i4.cg c (fun k j q => by omega), i5.cg c (fun k j q => by omega), i6.cg c (fun k j q => by omega), i8.cg c (fun k j q => by omega)⟩
        · intro y hy
          rcases List.mem_append.mp hy with q | q
          · exact h0 y q
          · rw [List.mem_singleton.mp q]
            exact hx
        · have c2 : CH (fun a b => a = 19 ∨ (a = 17 ∧ b = 1)) m1 (put (put m1 19 xs.length x) 17 1 (m1 17 1 + 1)) := (CH.rf.put (by omega) _).put (by omega) _
          have g2' : SR (m1 1 1) (m1 2) 64 (xs ++ [x]) := g2
          rw [c2 1 1 (by omega)]
          exact g2'.congr (fun j _ => c2 _ _ (by omega))
        · rw [show put (put m1 19 xs.length x) 17 1 (m1 17 1 + 1) 17 1 = m1 17 1 + 1 by simp [put_at], put_ne _ _ _ (by decide), put_row]
          exact h2'.push (by omega) x
    · refine ⟨0, m, m, ?_, ?_, h⟩
      · unfold F_Gate_feed
        rw [(smp1 hx).1, rd_some, if_neg (by decide), e0, if_neg (by omega), rd_some, if_pos rfl]
      · have hc := h1.2.1
        show F_Model_feed m x = _
        unfold F_Model_feed
        rw [(smp1 hx).2, rd_some, if_neg (by decide), if_pos (by rw [h2.1, show xs.length = 64 by omega]; rfl)]
  · refine ⟨0, m, m, ?_, ?_, h⟩
    · unfold F_Gate_feed
      rw [(smp0 hx).1, rd_some, if_pos rfl]
    · show F_Model_feed m x = _
      unfold F_Model_feed
      rw [(smp0 hx).2, rd_some, if_pos rfl]
theorem st_begin (h : Inv m) (a b c : Int32) : Step m (F_Gate_begin m a b c) (fun m1 => F_Model_begin m1 a b c) := by
  obtain ⟨i1, i2, i3, i4, i5, i6, i8⟩ := id h
  by_cases h0 : a < 0
  · refine ⟨0, m, m, ?_, ?_, h⟩
    · unfold F_Gate_begin
      rw [if_pos h0]
    · show F_Model_begin m a b c = _
      unfold F_Model_begin
      rw [if_pos h0]
  · obtain ⟨n, hn, rfl⟩ := nI_of h0
    by_cases h1 : n < 65536
    · refine ⟨1, put (put (put m 9 0 (nI n)) 9 1 b) 9 2 c, put (put (put (put (put (put m 9 0 (nI n)) 9 1 b) 9 2 c) 17 5 (nI n)) 17 6 b) 17 7 c, ?_, ?_, ?_⟩
      · unfold F_Gate_begin F_Sender_restart
        rw [if_neg h0, if_pos (kLT 65536 65536 rfl h1 (by decide))]
        rfl
      · show F_Model_begin _ (nI n) b c = _
        unfold F_Model_begin
        rw [if_neg h0, if_pos (kLE 65535 65535 rfl (by omega) (by decide))]
        rfl
      · have cc : CH (fun a b => a = 9 ∨ (a = 17 ∧ 5 ≤ b ∧ b ≤ 7)) m (put (put (put (put (put (put m 9 0 (nI n)) 9 1 b) 9 2 c) 17 5 (nI n)) 17 6 b) 17 7 c) := (((((CH.rf.put (by omega) _).put (by omega) _).put (by omega) _).put (by omega) _).put (by omega) _).put (by omega) _
        refine ⟨i1.cg cc (fun k j q => by omega), i2.cg cc (fun k j q => by omega), i3.cg cc (fun k j q => by omega), i4.cg cc (fun k j q => by omega), ?_, i6.cg cc (fun k j q => by omega), i8.cg cc (fun k j q => by omega)⟩
        obtain ⟨-, h2, -, h4, h5⟩ := i5
        unfold I5
        simp only [put_at]
        simp
        exact ⟨h2, ⟨n, h1, rfl⟩, h4, h5⟩
    · refine ⟨0, m, m, ?_, ?_, h⟩
      · unfold F_Gate_begin
        rw [if_neg h0, if_neg (kNLT 65536 65536 rfl (by omega) hn)]
      · show F_Model_begin m (nI n) b c = _
        unfold F_Model_begin
        rw [if_neg h0, if_neg (kNLE 65535 65535 rfl (by omega) hn)]
theorem st_prefill (h : Inv m) (a : Int32) : Step m (F_Gate_prefill m a) (fun m1 => F_Model_prefill m1 a) := by
  obtain ⟨i1, i2, i3, i4, i5, i6, i8⟩ := id h
  by_cases h0 : a < (1 : Int32)
  · refine ⟨0, m, m, ?_, ?_, h⟩
    · unfold F_Gate_prefill F_Buffer_setPrefill
      rw [if_pos h0, cal_some, gp_pos (by decide)]
    · show F_Model_prefill m a = _
      unfold F_Model_prefill
      rw [if_pos h0]
  · by_cases h1 : a ≤ (4 : Int32)
    · refine ⟨1, put m 13 7 a, put (put m 13 7 a) 17 16 a, ?_, ?_, ?_⟩
      · unfold F_Gate_prefill F_Buffer_setPrefill
        rw [if_neg h0, if_pos h1, bnd_eq, cal_some, gp_pos (by decide)]
      · show F_Model_prefill _ a = _
        unfold F_Model_prefill
        rw [if_neg h0, if_pos h1, bnd_eq]
      · have cc : CH (fun a b => (a = 13 ∧ b = 7) ∨ (a = 17 ∧ b = 16)) m (put (put m 13 7 a) 17 16 a) := (CH.rf.put (by omega) _).put (by omega) _
        refine ⟨i1.cg cc (fun k j q => by omega), i2.cg cc (fun k j q => by omega), i3.cg cc (fun k j q => by omega), i4.cg cc (fun k j q => by omega), i5.cg cc (fun k j q => by omega), ?_, i8.cg cc (fun k j q => by omega)⟩
        obtain ⟨st, nxt, mi, buf, ρ, b0, b1, b2, b3⟩ := i6
        refine ⟨st, nxt, mi, buf, ρ, b0, b1.cg cc (fun k j q => by omega), b2.cg cc (fun k j q => by omega), ?_⟩
        obtain ⟨c1, c2, c3, c4⟩ := b3
        unfold BE
        simp only [put_at]
        simp
        refine ⟨c1, ?_, c4⟩
        have h0' : ¬ a < 0 := fun q => h0 (by
          rw [Int32.lt_iff_toInt_lt] at q ⊢
          have a1 : (0 : Int32).toInt = 0 := rfl
          have a2 : (1 : Int32).toInt = 1 := rfl
          omega)
        obtain ⟨f, hf, e⟩ := nI_of2 (M := 4) (n := 4) rfl h0' h1
        refine ⟨f, ?_, hf, e⟩
        rcases Nat.eq_zero_or_pos f with q | q
        · exact absurd (by rw [e, q]; decide) h0
        · exact q
    · refine ⟨0, m, m, ?_, ?_, h⟩
      · unfold F_Gate_prefill F_Buffer_setPrefill
        rw [if_neg h0, if_neg h1, cal_some, gp_pos (by decide)]
      · show F_Model_prefill m a = _
        unfold F_Model_prefill
        rw [if_neg h0, if_neg h1]
theorem st_output (h : Inv m) : ∃ r, F_Gate_output m = some r ∧ F_Model_output m = some r := by
  obtain ⟨-, ⟨xs, -, h1, h2⟩, -⟩ := h
  exact ⟨m 17 3, by unfold F_Gate_output F_Samples_size; rw [rd_some, h1.1, h2.1], rfl⟩
theorem st_line (h : Inv m) : ∃ r, F_Gate_line m = some r ∧ F_Model_line m = some r := by
  obtain ⟨-, -, -, ⟨ps, π, -, h1, h2⟩, -⟩ := h
  exact ⟨m 17 10, by unfold F_Gate_line F_Wire_size; rw [rd_some, h1.1, h2.1], rfl⟩
theorem st_sample (h : Inv m) (i : Int32) : ∃ r, F_Gate_sample m i = some r ∧ F_Model_sample m i = some r := by
  obtain ⟨-, ⟨xs, -, h1, h2⟩, -⟩ := h
  have h1' : SR (m 3 1) (m (3 + 1)) (ln (3 + 1)) xs := h1
  refine ⟨gtS xs i, ?_, ?_⟩
  · unfold F_Gate_sample
    rw [sa_getE h1' (by decide), rd_some]
  · unfold F_Model_sample gtS
    by_cases h0 : i < 0
    · rw [if_pos h0, if_pos h0]
    · by_cases g : nI xs.length ≤ i
      · rw [if_neg h0, if_pos (by rw [h2.1]; exact g), if_neg h0, if_pos g]
      · obtain ⟨j, hj, rfl⟩ := in_of h0 g h2.2.1 (by decide)
        have hc := h2.2.1
        rw [if_neg h0, if_neg (by rw [h2.1]; exact g), if_neg (show ¬ (nI j < 0 ∨ ln 20 ≤ (nI j).toNatClampNeg) from nI_in (N := 256) (by omega) (by decide)), if_neg h0, if_neg g, nI_clamp (by omega), h2.2.2 j hj]
theorem st_pass (h : Inv m) (a : Int32) : Step m (F_Gate_pass m a) (fun m1 => F_Model_pass m1 a) := by
  obtain ⟨i1, i2, i3, i4, i5, i6, i8⟩ := id h
  obtain ⟨xs, x0, x1, x2⟩ := i1
  obtain ⟨ys, y0, y1, y2⟩ := i2
  have x1' : SR (m 1 1) (m (1 + 1)) (ln (1 + 1)) xs := x1
  have y1' : SR (m 3 1) (m (3 + 1)) (ln (3 + 1)) ys := y1
  have l2 : ln (1 + 1) = 64 := rfl
  have l4 : ln (3 + 1) = 256 := rfl
  have xl := x1.2.1
  have yl := y1.2.1
  by_cases h0 : a < 0
  · refine ⟨0, m, m, ?_, ?_, h⟩
    · unfold F_Gate_pass
      rw [if_pos h0]
    · show F_Model_pass m a = _
      unfold F_Model_pass
      rw [if_pos h0]
  · obtain ⟨n, hn, rfl⟩ := nI_of h0
    by_cases h1 : n ≤ ys.length
    · have hs : F_Samples_size m 3 = some (m 3 1) := rfl
      have q1 : ¬ m 3 1 < nI n := by
        rw [y1.1]
        exact nI_nlt h1 (by omega)
      have q2 : ¬ m 17 3 < nI n := by
        rw [y2.1]
        exact nI_nlt h1 (by omega)
      by_cases hr : xs.length + n ≤ 64
      · obtain ⟨m1, g1, g2, g3⟩ := sa_first (k := 1) (l := 3) (cnt := n) (by decide) (by decide) (by decide) (by decide) (by decide) h1 n 300 0 m xs (by omega) (by omega) x1' y1' (by omega)
        rw [List.drop_zero] at g2
        have y11 : SR (m1 3 1) (m1 (3 + 1)) (ln (3 + 1)) ys := by
          rw [g3 3 1 (by omega)]
          exact y1'.congr (fun j _ => g3 _ _ (by omega))
        obtain ⟨m2, g4, g5, g6⟩ := sa_drop y11 (by decide) h1
        have c2 : CH (fun a b => (a = 1 ∧ b = 1) ∨ a = 2 ∨ (a = 3 ∧ b = 1) ∨ a = 4) m m2 := (g3.mo (fun k j q => by omega)).tr (g6.mo (fun k j q => by omega))
        have x22 : SR (m2 17 1) (m2 19) 64 xs := by
          rw [c2 17 1 (by omega)]
          exact x2.congr (fun j _ => c2 _ _ (by omega))
        have y22 : SR (m2 17 3) (m2 20) 256 ys := by
          rw [c2 17 3 (by omega)]
          exact y2.congr (fun j _ => c2 _ _ (by omega))
        obtain ⟨m3, f1, f2, f3⟩ := mo_p27 h1 n 300 0 m2 xs (by omega) (by omega) x22 y22 (by omega)
        rw [List.drop_zero] at f2
        have y23 : m3 17 3 - nI n = nI (ys.length - n) := by rw [f3 17 3 (by omega), y22.1, pk_sub h1]
        have c4 : CH (fun a b => a = 17 ∧ b = 3) m3 (put m3 17 3 (nI (ys.length - n))) := CH.rf.put ⟨rfl, rfl⟩ _
        obtain ⟨m4, k1, k2, k3⟩ := mo_p75 (f := m2 20) (tot := ys.length - n) (n := n) (by omega) (ys.length - n) 300 0 (put m3 17 3 (nI (ys.length - n))) (by omega) (by omega) (by simp [put_at]) (fun i hi => absurd hi (by omega)) (fun i _ => by rw [c4 20 i (by omega), f3 20 i (by omega)])
        have c5 : CH (fun a b => (a = 17 ∧ (b = 1 ∨ b = 3)) ∨ a = 19 ∨ a = 20) m2 m4 := ((f3.mo (fun k j q => by omega)).tr (c4.mo (fun k j q => by omega))).tr (k3.mo (fun k j q => by omega))
        have c6 : CH (fun a b => (a = 1 ∧ b = 1) ∨ a = 2 ∨ (a = 3 ∧ b = 1) ∨ a = 4 ∨ (a = 17 ∧ (b = 1 ∨ b = 3)) ∨ a = 19 ∨ a = 20) m m4 := (c2.mo (fun k j q => by omega)).tr (c5.mo (fun k j q => by omega))
        have c7 : CH (fun a b => (a = 17 ∧ b = 3) ∨ a = 20) m3 m4 := (c4.mo (fun k j q => by omega)).tr (k3.mo (fun k j q => by omega))
        refine ⟨1, m2, m4, ?_, ?_, ⟨⟨xs ++ ys.take n, ?_, ?_, ?_⟩, ⟨ys.drop n, ?_, ?_, ?_⟩, i3.cg c6 (fun k j q => by omega), i4.cg c6 (fun k j q => by omega), i5.cg c6 (fun k j q => by omega), i6.cg c6 (fun k j q => by omega), i8.cg c6 (fun k j q => by omega)⟩⟩
        · unfold F_Gate_pass F_Samples_addFirstOf
          rw [if_neg h0, hs, rd_some, if_neg q1, sa_room x1' (by decide) (by omega), if_pos (by omega), rd_some, if_neg (by decide), show (0 : Int32) = nI 0 from nI_0.symm, g1, rd_some, g4, rd_some]
        · show F_Model_pass m2 (nI n) = _
          unfold F_Model_pass
          rw [if_neg h0, if_neg (by rw [c2 17 3 (by omega)]; exact q2), x22.1, nI_add, if_pos (kLE 64 64 rfl hr (by decide)), show (0 : Int32) = nI 0 from nI_0.symm, f1, y23, show (0 : Int32) = nI 0 from nI_0.symm]
          exact k1
        · intro y hy
          rcases List.mem_append.mp hy with q | q
          · exact x0 y q
          · exact y0 y (List.mem_of_mem_take q)
        · have g2' : SR (m1 1 1) (m1 2) 64 (xs ++ ys.take n) := g2
          rw [c5 1 1 (by omega), g6 1 1 (by omega)]
          exact g2'.congr (fun j _ => by rw [c5 2 j (by omega), g6 2 j (by omega)])
        · rw [c7 17 1 (by omega)]
          exact f2.congr (fun j _ => c7 _ _ (by omega))
        · intro y hy
          exact y0 y (List.mem_of_mem_drop hy)
        · have g5' : SR (m2 3 1) (m2 4) 256 (ys.drop n) := g5
          rw [c5 3 1 (by omega)]
          exact g5'.congr (fun j _ => c5 _ _ (by omega))
        · rw [k3 17 3 (by omega), show put m3 17 3 (nI (ys.length - n)) 17 3 = nI (ys.length - n) by simp [put_at]]
          exact y22.drop (fun j hj => k2 j hj)
      · refine ⟨0, m, m, ?_, ?_, h⟩
        · unfold F_Gate_pass
          rw [if_neg h0, hs, rd_some, if_neg q1, sa_room x1' (by decide) (by omega), if_neg (by omega), rd_some, if_pos rfl]
        · show F_Model_pass m (nI n) = _
          unfold F_Model_pass
          rw [if_neg h0, if_neg q2, x2.1, nI_add, if_neg (kNLE 64 64 rfl (by omega) (by omega))]
    · refine ⟨0, m, m, ?_, ?_, h⟩
      · unfold F_Gate_pass
        rw [if_neg h0, show F_Samples_size m 3 = some (m 3 1) from rfl, rd_some, if_pos (by rw [y1.1]; exact nI_lt (by omega) hn)]
      · show F_Model_pass m (nI n) = _
        unfold F_Model_pass
        rw [if_neg h0, if_pos (by rw [y2.1]; exact nI_lt (by omega) hn)]
end EASY
