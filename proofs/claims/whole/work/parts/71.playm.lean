-- THE REFERENCE PLAYS A PACKET
theorem PM.cg {s : Nat} {m m' : Mem} {p : List Int32} {P : Nat → Nat → Prop} (h : PM s m p) (c : CH P m m') (h1 : ¬ P 21 s) (h2 : ∀ j, ¬ P 22 j) : PM s m' p := by
  show SR (m' 21 s) (fun i => m' 22 (44 * s + i)) 44 p
  rw [c 21 s h1]
  exact h.congr (fun j _ => c _ _ (h2 _))
section PMo
variable {m : Mem} {st nxt mi : Nat} {buf : Nat → Option (List Int32)} {ρ : Nat → Option Nat} {p ys : List Int32}
theorem svM {S : Nat} (hS : S < 16) (hp : PM S m p) (hb : ∀ b ∈ p, IsB b) {i : Nat} (hi : i + 1 < p.length) : (256 : Int32) * m 22 (44 * S + i) + m 22 (44 * S + (i + 1)) = nI (p2N p i) := by
  obtain ⟨a1, a2⟩ := getB hb (i := i) (by omega)
  obtain ⟨b1, b2⟩ := getB hb (i := i + 1) hi
  have g1 : m 22 (44 * S + i) = p.getD i 0 := hp.2.2 i (by omega)
  have g2 : m 22 (44 * S + (i + 1)) = p.getD (i + 1) 0 := hp.2.2 (i + 1) hi
  unfold p2N
  rw [g1, g2]
  generalize (p.getD i 0).toNatClampNeg = x at a1 a2
  generalize (p.getD (i + 1) 0).toNatClampNeg = y at b1 b2
  rw [a1, b1, show (256 : Int32) = nI 256 from rfl, pk_mul, nI_add]
theorem so_ok {S : Nat} (hS : S < 16) (hp : PM S m p) (ok : okP p) (h8 : I8 m) {i : Nat} (hi : i < smN p) (hA : codN p = 2 → m 17 23 = (adS p i).1 ∧ m 17 24 = (adS p i).2) : ∃ m', F_Model_sampleOf m (nI S) (codN p) (nI i) = some (smp p i, m') ∧ (codN p = 2 → m' 17 23 = (adS p (i + 1)).1 ∧ m' 17 24 = (adS p (i + 1)).2) ∧ FrS m m' := by
  obtain ⟨e1, -, -⟩ := at_44 (k := S) (j := 12) hS (by omega)
  have e1' : (44 : Int32) * nI S + (12 : Int32) = nI (44 * S + 12) := e1
  unfold F_Model_sampleOf
  rw [e1', bnd_eq]
  have h44 := ok.1
  obtain ⟨n1, n2, q | q | q⟩ := okP_cases ok
  · obtain ⟨-, f2, f3⟩ := at_44 (k := S) (j := 12 + 2 * i) hS (by omega)
    obtain ⟨-, f5, f6⟩ := at_44 (k := S) (j := 12 + 2 * i + 1) hS (by omega)
    have ep : nI (44 * S + 12) + (2 : Int32) * nI i = nI (44 * S + (12 + 2 * i)) := by
      rw [show (2 : Int32) = nI 2 from rfl, pk_mul, nI_add, Nat.add_assoc]
    have hl := p2_lt ok.2.1 (p := p) (i := 12 + 2 * i) (by omega)
    have es : smp p i = sv p (12 + 2 * i) := by
      unfold smp
      rw [if_pos q.1]
    refine ⟨m, ?_, fun z => absurd z (by rw [q.1]; decide), FrS.rf m⟩
    rw [q.1, if_pos (by decide), if_pos rfl, ep, if_neg f2, nI_1, Nat.add_assoc (44 * S), if_neg f5, bnd_eq, f3, f6, svM hS hp ok.2.1 (by omega), es]
    unfold sv
    by_cases w : p2N p (12 + 2 * i) ≤ 32767
    · rw [if_pos (kLE 32767 32767 rfl w (by decide)), if_pos w]
    · rw [if_neg (kNLE 32767 32767 rfl (by omega) (by omega)), if_neg w]
  · have e3 : ¬ codN p = 3 := by rcases q.1 with z | z <;> rw [z] <;> decide
    have e2 : ¬ codN p = 2 := by rcases q.1 with z | z <;> rw [z] <;> decide
    have e0 : ¬ (2 : Int32) ≤ codN p := by rcases q.1 with z | z <;> rw [z] <;> decide
    obtain ⟨-, f2, f3⟩ := at_44 (k := S) (j := 12 + i) hS (by omega)
    obtain ⟨b1, b2⟩ := getB ok.2.1 (i := 12 + i) (by omega)
    have es : smp p i = decI (codN p) (p.getD (12 + i) 0) := by
      unfold smp
      rw [if_neg e3, if_neg e2]
    have g1 : m 22 (44 * S + (12 + i)) = p.getD (12 + i) 0 := hp.2.2 (12 + i) (by omega)
    refine ⟨m, ?_, fun z => absurd z e2, FrS.rf m⟩
    rw [if_neg e0, nI_add, Nat.add_assoc, if_neg f2, f3, g1, (dec_ok q.1 ⟨_, b2, b1⟩).2.1, rd_some, es]
  · obtain ⟨-, f2, f3⟩ := at_44 (k := S) (j := 16 + i / 2) hS (by omega)
    obtain ⟨b1, b2⟩ := getB ok.2.1 (i := 16 + i / 2) (by omega)
    obtain ⟨-, -, k3, k4, -⟩ := nb_c _ b2
    rw [← b1] at k3 k4
    have g1 : m 22 (44 * S + (16 + i / 2)) = p.getD (16 + i / 2) 0 := hp.2.2 (16 + i / 2) (by omega)
    have ep : nI (44 * S + 12) + (4 : Int32) + nI i / (2 : Int32) = nI (44 * S + (16 + i / 2)) := by
      rw [show (2 : Int32) = nI 2 from rfl, pk_div (by omega) (by decide) (by decide), show (4 : Int32) = nI 4 from rfl, nI_add, nI_add]
      congr 1
      omega
    have ev : nI i - nI i / (2 : Int32) * (2 : Int32) = nI (i % 2) := by
      rw [show (2 : Int32) = nI 2 from rfl, pk_rem (by omega) (by decide) (by decide)]
    have es : smp p i = (adS p (i + 1)).1 := by
      unfold smp
      rw [if_neg (by rw [q.1]; decide), if_pos q.1]
    obtain ⟨hv, hw⟩ := hA q.1
    obtain ⟨i0, hi0, ei0⟩ := (adS_ok ok q.1 i).2
    have hq : nib p i < 16 := nib_16 ok.2.1 (by omega)
    obtain ⟨m', a1, a2, a3, a4⟩ := chg_mod (m := m) hq (ix_ok (hw.trans ei0) hi0) h8
    rw [hv, hw] at a2
    rw [hw] at a3
    refine ⟨m', ?_, fun _ => ⟨a2, a3⟩, a4⟩
    rw [q.1, if_pos (by decide), if_neg (by decide), ep, if_neg f2, bnd_eq, f3, g1, ev, es]
    unfold nib at a1
    by_cases w : i % 2 = 0
    · rw [if_pos w] at a1
      rw [if_pos (by rw [w]; exact nI_0), k3, a1, rd_some]
      exact congrArg (fun z => some (z, m')) a2
    · rw [if_neg w] at a1
      rw [if_neg (nI_ne0 (by omega) (by omega)), k4, a1, rd_some]
      exact congrArg (fun z => some (z, m')) a2
def fin87 (m0 : Mem) (l1 l2 : Int32) : Option Mem :=
  bnd (put m0 17 20 l2) fun m10 =>
  if (((44 : Int32) * l1) + (1 : Int32)) < 0 ∨ ln 22 ≤ (Int32.toNatClampNeg (((44 : Int32) * l1) + (1 : Int32))) then none else
  if (m10 22 (Int32.toNatClampNeg (((44 : Int32) * l1) + (1 : Int32)))) ≤ (127 : Int32) then (
    F_Model_playPacket_166 m10 l1 l2 (0 : Int32)
  ) else (
    F_Model_playPacket_166 m10 l1 l2 (1 : Int32)
  )
theorem p87_ok {S : Nat} (hS : S < 16) (ok : okP p) : ∀ (d n i : Nat) (m : Mem), smN p = i + d → d < n → PM S m p → I8 m → SR (m 17 3) (m 20) 256 (ys ++ spl p i) → ys.length + smN p ≤ 256 → (∀ j, j < i → m 23 j = smp p j) → (codN p = 2 → m 17 23 = (adS p i).1 ∧ m 17 24 = (adS p i).2) → ∃ m', F_Model_playPacket_87 n m (nI S) (nI (smN p)) (codN p) (nI i) = fin87 m' (nI S) (nI (smN p)) ∧ SR (m' 17 3) (m' 20) 256 (ys ++ spl p (smN p)) ∧ (∀ j, j < smN p → m' 23 j = smp p j) ∧ CH (fun x y => x = 20 ∨ x = 23 ∨ (x = 17 ∧ (y = 3 ∨ y = 23 ∨ y = 24))) m m' := by
  have h16 := (okP_cases ok).1
  intro d
  induction d with
  | zero =>
    intro n i m e hn hp h8 hy hr h23 hA
    obtain ⟨n, rfl⟩ : ∃ q, n = q + 1 := ⟨n - 1, by omega⟩
    have ei : smN p = i := by omega
    refine ⟨m, ?_, by rw [ei]; exact hy, fun j hj => h23 j (by omega), CH.rf⟩
    rw [F_Model_playPacket_87, if_pos (nI_le (by omega) (by omega))]
    rfl
  | succ d ih =>
    intro n i m e hn hp h8 hy hr h23 hA
    obtain ⟨n, rfl⟩ : ∃ q, n = q + 1 := ⟨n - 1, by omega⟩
    obtain ⟨m14, a1, a2, a3⟩ := so_ok hS hp ok h8 (i := i) (by omega) hA
    have c14 : CH (fun x y => x = 20 ∨ x = 23 ∨ (x = 17 ∧ (y = 3 ∨ y = 23 ∨ y = 24))) m m14 := fun x y q => a3 x y (by omega)
    have hy14 : SR (m14 17 3) (m14 20) 256 (ys ++ spl p i) := by
      rw [a3 17 3 (by omega)]
      exact hy.congr (fun j _ => a3 _ _ (by omega))
    have hln : (ys ++ spl p i).length = ys.length + i := by rw [List.length_append, spl_len]
    obtain ⟨m19, em⟩ : ∃ z, z = put (put (put m14 23 i (smp p i)) 20 (ys.length + i) (smp p i)) 17 3 (m14 17 3 + 1) := ⟨_, rfl⟩
    have c19 : CH (fun x y => x = 20 ∨ x = 23 ∨ (x = 17 ∧ y = 3)) m14 m19 := by
      rw [em]
      exact ((CH.rf.put (by omega) _).put (by omega) _).put (by omega) _
    have cT : CH (fun x y => x = 20 ∨ x = 23 ∨ (x = 17 ∧ (y = 3 ∨ y = 23 ∨ y = 24))) m m19 := c14.tr (c19.mo (fun x y q => by omega))
    have hy19 : SR (m19 17 3) (m19 20) 256 (ys ++ spl p (i + 1)) := by
      have := hy14.push (by omega) (smp p i)
      rw [hln, List.append_assoc, ← spl_s] at this
      rw [em, show put (put (put m14 23 i (smp p i)) 20 (ys.length + i) (smp p i)) 17 3 (m14 17 3 + 1) 17 3 = m14 17 3 + 1 by simp [put_at], put_ne _ _ _ (by decide), put_row, put_ne _ _ _ (by decide)]
      exact this
    have v3 : m14 17 3 = nI (ys.length + i) := by rw [hy14.1, hln]
    obtain ⟨m', f1, f2, f3, f4⟩ := ih n (i + 1) m19 (by omega) (by omega) (hp.cg cT (by omega) (fun j => by omega)) (fun j hj => by rw [cT 18 j (by omega)]; exact h8 j hj) hy19 hr
      (fun j hj => by
        rw [em, put_at, if_neg (by decide), put_at, if_neg (by decide), put_at, if_pos rfl]
        by_cases w : j = i
        · rw [if_pos w, w]
        · rw [if_neg w, a3 23 j (by omega)]
          exact h23 j (by omega))
      (fun z => by
        rw [c19 17 23 (by omega), c19 17 24 (by omega)]
        exact a2 z)
    refine ⟨m', ?_, f2, f3, cT.tr f4⟩
    rw [F_Model_playPacket_87, if_neg (nI_ge (by omega) (by omega)), a1, cal_some, if_neg (show ¬ (nI i < 0 ∨ ln 23 ≤ (nI i).toNatClampNeg) from nI_in (N := 16) (by omega) (by decide)), nI_clamp (by omega), bnd_eq, show put m14 23 i (smp p i) 17 3 = m14 17 3 by simp [put_at], v3, if_neg (show ¬ (nI (ys.length + i) < 0 ∨ ln 20 ≤ (nI (ys.length + i)).toNatClampNeg) from nI_in (N := 256) (by omega) (by decide)), nI_clamp (by omega), bnd_eq, bnd_eq, nI_1]
    rw [show put m14 23 i (smp p i) 23 i = smp p i by simp [put_at], show put (put m14 23 i (smp p i)) 20 (ys.length + i) (smp p i) 17 3 = m14 17 3 by simp [put_at], ← em]
    exact f1
theorem p210_ok {S : Nat} (hS : S < 16) (n tm z : Int32) : ∃ m', F_Model_playPacket_210 m (nI S) n tm 9 (m 24 9) z = some m' ∧ m' 24 9 = m 24 9 + z ∧ m' 17 18 = tm + n ∧ m' 17 17 = 1 ∧ m' 17 19 = 0 ∧ m' 21 S = -1 ∧ CH (fun x y => (x = 24 ∧ y = 9) ∨ (x = 17 ∧ (17 ≤ y ∧ y ≤ 19)) ∨ (x = 21 ∧ y = S)) m m' := by
  refine ⟨put (put (put (put (put m 24 9 (m 24 9 + z)) 17 18 (tm + n)) 17 17 1) 17 19 0) 21 S (-1), ?_, by simp [put_at], by simp [put_at], by simp [put_at], by simp [put_at], by simp [put_at], ((((CH.rf.put (by omega) _).put (by omega) _).put (by omega) _).put (by omega) _).put (by omega) _⟩
  unfold F_Model_playPacket_210
  rw [if_neg (by decide), bnd_eq, bnd_eq, bnd_eq, bnd_eq, if_neg (show ¬ (nI S < 0 ∨ ln 21 ≤ (nI S).toNatClampNeg) from nI_in (N := 16) hS (by decide)), nI_clamp (by omega)]
  rfl
theorem p166_ok {S : Nat} (hS : S < 16) (hp : PM S m p) (ok : okP p) (hst : st = 1 ∨ st = 2) (h1 : st = 1 → m 17 17 = 0) (h2 : st = 2 → m 17 17 = 1) (n s0 : Int32) (hs : s0 = if (p.getD 1 0).toNatClampNeg < 128 then 0 else 1) : ∃ m', F_Model_playPacket_166 m (nI S) n s0 = some m' ∧ m' 24 9 = m 24 9 + jpN st p (m 17 18) ∧ m' 17 18 = p4N p 4 + n ∧ m' 17 17 = 1 ∧ m' 17 19 = 0 ∧ m' 21 S = -1 ∧ CH (fun x y => (x = 24 ∧ y = 9) ∨ (x = 17 ∧ (17 ≤ y ∧ y ≤ 19)) ∨ (x = 21 ∧ y = S)) m m' := by
  have h12 := okP_len ok
  unfold F_Model_playPacket_166 jpN
  rw [show (4 : Int32) = nI 4 from rfl, rd_fourM hS hp ok.2.1 (by omega), rd_some, if_neg (by decide), show (9 : Int32).toNatClampNeg = 9 from rfl, hs]
  by_cases q : (p.getD 1 0).toNatClampNeg < 128
  · rw [if_pos q, if_pos q, if_pos rfl]
    rcases hst with s | s
    · rw [if_pos (h1 s), if_neg (by omega)]
      exact p210_ok hS _ _ _
    · rw [if_neg (by rw [h2 s]; decide), if_pos s]
      by_cases w : p4N p 4 = m 17 18
      · rw [if_pos w, if_pos w]
        exact p210_ok hS _ _ _
      · rw [if_neg w, if_neg w]
        exact p210_ok hS _ _ _
  · rw [if_neg q, if_neg q, if_neg (by decide)]
    have : (if st = 2 then (0 : Int32) else 0) = 0 := by split <;> rfl
    rw [this]
    exact p210_ok hS _ _ _
theorem mp_ok {S : Nat} (hS : S < 16) (hp : PM S m p) (ok : okP p) (h8 : I8 m) (hy : SR (m 17 3) (m 20) 256 ys) (hr : ys.length + smN p ≤ 256) (hst : st = 1 ∨ st = 2) (h1 : st = 1 → m 17 17 = 0) (h2 : st = 2 → m 17 17 = 1) : ∃ m', F_Model_playPacket m (nI S) (nI (smN p)) = some m' ∧ SR (m' 17 3) (m' 20) 256 (ys ++ spl p (smN p)) ∧ SR (m' 17 20) (m' 23) 16 (spl p (smN p)) ∧ m' 24 9 = m 24 9 + jpN st p (m 17 18) ∧ m' 17 18 = p4N p 4 + nI (smN p) ∧ m' 17 17 = 1 ∧ m' 17 19 = 0 ∧ m' 21 S = -1 ∧ CH (fun x y => x = 20 ∨ x = 23 ∨ (x = 17 ∧ (y = 3 ∨ (17 ≤ y ∧ y ≤ 20) ∨ y = 23 ∨ y = 24)) ∨ (x = 24 ∧ y = 9) ∨ (x = 21 ∧ y = S)) m m' := by
  have h12 := okP_len ok
  have h44 := ok.1
  have h16 := (okP_cases ok).1
  obtain ⟨e12, f12, k12⟩ := at_44 (k := S) (j := 12) hS (by omega)
  obtain ⟨e13, f13, k13⟩ := at_44 (k := S) (j := 13) hS (by omega)
  obtain ⟨e14, f14, k14⟩ := at_44 (k := S) (j := 14) hS (by omega)
  obtain ⟨e01, f01, k01⟩ := at_44 (k := S) (j := 1) hS (by omega)
  have e12' : (44 : Int32) * nI S + (12 : Int32) = nI (44 * S + 12) := e12
  have e13' : (44 : Int32) * nI S + (13 : Int32) = nI (44 * S + 13) := e13
  have e14' : (44 : Int32) * nI S + (14 : Int32) = nI (44 * S + 14) := e14
  have e01' : (44 : Int32) * nI S + (1 : Int32) = nI (44 * S + 1) := e01
  obtain ⟨b1, b2⟩ := getB ok.2.1 (i := 1) (by omega)
  obtain ⟨-, -, -, -, -, kb⟩ := nb_c _ b2
  rw [← b1] at kb
  -- from here on as one loop
  have tail : ∀ mA : Mem, CH (fun x y => x = 17 ∧ (y = 23 ∨ y = 24)) m mA → (codN p = 2 → mA 17 23 = (adS p 0).1 ∧ mA 17 24 = (adS p 0).2) → ∃ m', F_Model_playPacket_87 300 mA (nI S) (nI (smN p)) (codN p) (nI 0) = some m' ∧ SR (m' 17 3) (m' 20) 256 (ys ++ spl p (smN p)) ∧ SR (m' 17 20) (m' 23) 16 (spl p (smN p)) ∧ m' 24 9 = m 24 9 + jpN st p (m 17 18) ∧ m' 17 18 = p4N p 4 + nI (smN p) ∧ m' 17 17 = 1 ∧ m' 17 19 = 0 ∧ m' 21 S = -1 ∧ CH (fun x y => x = 20 ∨ x = 23 ∨ (x = 17 ∧ (y = 3 ∨ (17 ≤ y ∧ y ≤ 20) ∨ y = 23 ∨ y = 24)) ∨ (x = 24 ∧ y = 9) ∨ (x = 21 ∧ y = S)) m m' := by
    intro mA cA hA
    obtain ⟨mB, a1, a2, a3, a4⟩ := p87_ok (ys := ys) hS ok (smN p) 300 0 mA (by omega) (by omega) (hp.cg cA (by omega) (fun j => by omega)) (fun j hj => by rw [cA 18 j (by omega)]; exact h8 j hj) (by
      rw [cA 17 3 (by omega)]
      show SR (m 17 3) (mA 20) 256 (ys ++ [])
      rw [List.append_nil]
      exact hy.congr (fun j _ => cA _ _ (by omega))) hr (fun j hj => absurd hj (by omega)) hA
    have cB : CH (fun x y => x = 20 ∨ x = 23 ∨ (x = 17 ∧ (y = 3 ∨ y = 20 ∨ y = 23 ∨ y = 24))) m (put mB 17 20 (nI (smN p))) := ((cA.mo (fun x y q => by omega)).tr (a4.mo (fun x y q => by omega))).put (by omega) _
    have hpC := hp.cg cB (by omega) (fun j => by omega)
    have g1 : put mB 17 20 (nI (smN p)) 22 (44 * S + 1) = p.getD 1 0 := hpC.2.2 1 (by omega)
    obtain ⟨m', d1, d2, d3, d4, d5, d6, d7⟩ := p166_ok (m := put mB 17 20 (nI (smN p))) hS hpC ok hst (fun z => by rw [cB 17 17 (by omega)]; exact h1 z) (fun z => by rw [cB 17 17 (by omega)]; exact h2 z) (nI (smN p)) _ rfl
    rw [cB 24 9 (by omega), cB 17 18 (by omega)] at d2
    refine ⟨m', ?_, ?_, ?_, d2, d3, d4, d5, d6, (cB.mo (fun x y q => by omega)).tr (d7.mo (fun x y q => by omega))⟩
    · rw [a1]
      unfold fin87
      rw [bnd_eq, e01', if_neg f01, k01, g1, ← d1]
      by_cases q : (p.getD 1 0).toNatClampNeg < 128
      · rw [if_pos (kb.mpr q), if_pos q]
      · rw [if_neg (fun z => q (kb.mp z)), if_neg q]
    · rw [d7 17 3 (by omega), show put mB 17 20 (nI (smN p)) 17 3 = mB 17 3 by simp [put_at]]
      exact a2.congr (fun j _ => by rw [d7 20 j (by omega), put_at, if_neg (by decide)])
    · rw [d7 17 20 (by omega), show put mB 17 20 (nI (smN p)) 17 20 = nI (smN p) by simp [put_at]]
      refine ⟨by rw [spl_len], by rw [spl_len]; exact h16, fun j hj => ?_⟩
      rw [spl_len] at hj
      rw [d7 23 j (by omega), put_at, if_neg (by decide), a3 j hj, spl_at _ hj]
  have hl : p.length > 13 ∨ p.length = 13 := by omega
  have p56 : ∀ v : Int32, (codN p = 2 → v = sv p 12) → ∃ m', F_Model_playPacket_56 m (nI S) (nI (smN p)) (codN p) v = some m' ∧ SR (m' 17 3) (m' 20) 256 (ys ++ spl p (smN p)) ∧ SR (m' 17 20) (m' 23) 16 (spl p (smN p)) ∧ m' 24 9 = m 24 9 + jpN st p (m 17 18) ∧ m' 17 18 = p4N p 4 + nI (smN p) ∧ m' 17 17 = 1 ∧ m' 17 19 = 0 ∧ m' 21 S = -1 ∧ CH (fun x y => x = 20 ∨ x = 23 ∨ (x = 17 ∧ (y = 3 ∨ (17 ≤ y ∧ y ≤ 20) ∨ y = 23 ∨ y = 24)) ∨ (x = 24 ∧ y = 9) ∨ (x = 21 ∧ y = S)) m m' := by
    intro v hv
    unfold F_Model_playPacket_56
    rw [bnd_eq]
    by_cases c2 : codN p = 2
    · obtain ⟨n1, n2, q | q | q⟩ := okP_cases ok
      · rw [c2] at q
        exact absurd q.1 (by decide)
      · rw [c2] at q
        exact absurd q.1 (by decide)
      · have g14 : m 22 (44 * S + 14) = p.getD 14 0 := hp.2.2 14 (by omega)
        rw [if_pos c2, e14', if_neg f14, k14, bnd_eq, show put m 17 23 v 22 (44 * S + 14) = m 22 (44 * S + 14) by simp [put_at], g14]
        exact tail _ ((CH.rf.put (by omega) _).put (by omega) _) (fun _ => ⟨by simp [put_at, adS, hv c2], by simp [put_at, adS]⟩)
    · rw [if_neg c2, bnd_eq]
      exact tail _ ((CH.rf.put (by omega) _).put (by omega) _) (fun z => absurd z c2)
  unfold F_Model_playPacket
  rw [rd_codM hS hp ok.2.1 (by omega), rd_some, e12', e13', if_neg f12, if_neg f13, bnd_eq, k12, k13]
  have hsv : codN p = 2 → (256 : Int32) * m 22 (44 * S + 12) + m 22 (44 * S + 13) = nI (p2N p 12) ∧ p2N p 12 < 65536 := fun c2 => by
    obtain ⟨n1, n2, q | q | q⟩ := okP_cases ok
    · rw [c2] at q
      exact absurd q.1 (by decide)
    · rw [c2] at q
      exact absurd q.1 (by decide)
    · exact ⟨svM hS hp ok.2.1 (i := 12) (by omega), p2_lt ok.2.1 (by omega)⟩
  by_cases w : (256 : Int32) * m 22 (44 * S + 12) + m 22 (44 * S + 13) ≤ (32767 : Int32)
  · rw [if_pos w]
    refine p56 _ (fun c2 => ?_)
    obtain ⟨z1, z2⟩ := hsv c2
    unfold sv
    rw [z1] at w ⊢
    rw [show (32767 : Int32) = nI 32767 from rfl, nI_leI (by omega) (by decide)] at w
    rw [if_pos w]
  · rw [if_neg w]
    refine p56 _ (fun c2 => ?_)
    obtain ⟨z1, z2⟩ := hsv c2
    unfold sv
    rw [z1] at w ⊢
    rw [show (32767 : Int32) = nI 32767 from rfl, nI_leI (by omega) (by decide)] at w
    rw [if_neg w]
end PMo
