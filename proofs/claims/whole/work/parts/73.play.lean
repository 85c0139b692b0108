-- PLAY
theorem CH.tu {P Q : Nat → Nat → Prop} {m m' m'' : Mem} (h : CH P m m') (h' : CH Q m' m'') : CH (fun x y => P x y ∨ Q x y) m m'' := fun k j q => (h' k j (fun z => q (Or.inr z))).trans (h k j (fun z => q (Or.inl z)))
section PL
variable {m m' : Mem} {st nxt mi st' nxt' mi' : Nat} {buf : Nat → Option (List Int32)} {ρ : Nat → Option Nat} {p ys zs : List Int32}
theorem BB.nx (bb : BB st nxt mi buf) (hmi : mi' ≤ 4) : BB 2 ((nxt + 1) % 65536) mi' (va_up buf (nxt % 8) none) := by
  refine ⟨by decide, Nat.mod_lt _ (by decide), hmi, fun z => absurd rfl z, fun r hr p hp => ?_, fun z => absurd z (by decide), fun z => absurd z (by decide)⟩
  by_cases e : r = nxt % 8
  · rw [e, up_eq] at hp
    cases hp
  · rw [up_ne _ _ e] at hp
    obtain ⟨o, h1, h2⟩ := bb.2.2.2.2.1 r hr p hp
    have hq : sqN p < 65536 := p2_lt o.2.1 (i := 2) (by have := okP_len o; omega)
    have hn := bb.2.1
    exact ⟨o, h1, by omega⟩
theorem BM.del (h : BM m st nxt mi buf ρ) {r s : Nat} (hs : s < 8) (hr : ρ s = some r) (c : CH (fun x y => (x ≠ 21 ∧ x ≠ 22) ∨ (x = 21 ∧ y = 8 + s)) m m') (k1 : m' 17 13 = nI st') (k2 : st' ≠ 0 → m' 17 14 = nI nxt' ∧ m' 17 19 = nI mi') (k3 : st' = 1 → m' 17 17 = 0) (k4 : st' = 2 → m' 17 17 = 1) (hm : m' 21 (8 + s) = -1) : BM m' st' nxt' mi' (va_up buf r none) (va_up ρ s none) := by
  obtain ⟨h1, h2, h3, h4, h5, h6, h7, h8⟩ := h
  obtain ⟨r8, p0, hb0, -⟩ := (h5 s hs).2 r hr
  refine ⟨k1, k2, k3, k4, fun i hi => ?_, fun i j q hi hj a b => ?_, fun q hq hb => ?_, by have := cn_del hs hr; have := cb_del r8 hb0; omega⟩
  · by_cases e : i = s
    · subst e
      rw [up_eq]
      exact ⟨fun _ => hm, fun q hq => by cases hq⟩
    · rw [up_ne _ _ e]
      refine ⟨fun z => by rw [c 21 _ (by omega)]; exact (h5 i hi).1 z, fun q hq => ?_⟩
      obtain ⟨g1, p', g2, g3⟩ := (h5 i hi).2 q hq
      have hne : q ≠ r := fun z => e (h6 i s r hi hs (by rw [hq, z]) hr)
      refine ⟨g1, p', by rw [up_ne _ _ hne]; exact g2, ?_⟩
      rw [c 21 _ (by omega)]
      exact g3.congr (fun x hx => c _ _ (by omega))
  · by_cases e1 : i = s
    · rw [e1, up_eq] at a
      cases a
    · rw [up_ne _ _ e1] at a
      by_cases e2 : j = s
      · rw [e2, up_eq] at b
        cases b
      · rw [up_ne _ _ e2] at b
        exact h6 i j q hi hj a b
  · by_cases e : q = r
    · rw [e, up_eq] at hb
      exact absurd rfl hb
    · rw [up_ne _ _ e] at hb
      obtain ⟨i, hi, z⟩ := h7 q hq hb
      refine ⟨i, hi, ?_⟩
      rw [up_ne]
      · exact z
      · intro w
        rw [w, hr] at z
        cases z
        exact e rfl
theorem BM.re (h : BM m st nxt mi buf ρ) (c : CH (fun x _ => x ≠ 21 ∧ x ≠ 22) m m') (k1 : m' 17 13 = nI st') (k2 : st' ≠ 0 → m' 17 14 = nI nxt' ∧ m' 17 19 = nI mi') (k3 : st' = 1 → m' 17 17 = 0) (k4 : st' = 2 → m' 17 17 = 1) : BM m' st' nxt' mi' buf ρ := by
  obtain ⟨h1, h2, h3, h4, h5, h6⟩ := h
  refine ⟨k1, k2, k3, k4, fun i hi => ⟨fun z => by rw [c 21 _ (by omega)]; exact (h5 i hi).1 z, fun q hq => ?_⟩, h6⟩
  obtain ⟨g1, p', g2, g3⟩ := (h5 i hi).2 q hq
  refine ⟨g1, p', g2, ?_⟩
  rw [c 21 _ (by omega)]
  exact g3.congr (fun x hx => c _ _ (by omega))
theorem due_c (bc : BC m st nxt mi buf) (hst : st ≠ 0) (hn : nxt < 65536) : F_Buffer_due m = some (if (buf (nxt % 8)).isSome then some (41 + 2 * (nxt % 8)) else none) := by
  have hr : nxt % 8 < 8 := Nat.mod_lt _ (by decide)
  obtain ⟨g1, g2, g3⟩ := bc.2.2.2.2 (nxt % 8) hr
  unfold F_Buffer_due
  rw [bc.2.1 hst, pl_eq hn, rd_some, if_neg (show ¬ (nI (nxt % 8) < 0 ∨ ln 15 ≤ (nI (nxt % 8)).toNatClampNeg) from nI_in (N := 8) hr (by decide)), nI_clamp (by omega)]
  cases hbf : buf (nxt % 8) with
  | none => rw [if_pos (g2 hbf)]; rfl
  | some p =>
    have gA : ¬ (nI (nxt % 8) < 0 ∨ ln 14 ≤ (nI (nxt % 8)).toNatClampNeg) := nI_in (N := 8) hr (by decide)
    rw [nI_clamp (by omega)] at gA
    rw [if_neg (by rw [(g3 p hbf).1]; decide), if_neg gA, g1, nI_clamp (by omega), gp_pos (kd_bf _ hr)]
    rfl
theorem pl_pkt (h : Inv m) (bb : BB st nxt mi buf) (bc : BC m st nxt mi buf) (bm : BM m st nxt mi buf ρ) (be : BE m st) (y0 : ∀ x ∈ ys, IsS x) (y1 : SR (m 3 1) (m 4) 256 ys) (y2 : SR (m 17 3) (m 20) 256 ys) (z1 : SR (m 5 1) (m 6) 16 zs) (hst : st = 1 ∨ st = 2) (hbf : buf (nxt % 8) = some p) (ecl : ∀ r m1, F_Player_playPacket m (41 + 2 * (nxt % 8)) 3 = some (r, m1) → F_Gate_play m = some (r, m1)) (emo : ∀ m1, BM m1 st nxt mi buf ρ → m1 17 16 = m 17 16 → F_Model_play m1 = F_Model_play_29 m1) : Step m (F_Gate_play m) (fun m1 => F_Model_play m1) := by
  obtain ⟨i1, i2, i3, i4, i5, i6, i8⟩ := id h
  have hr8 : nxt % 8 < 8 := Nat.mod_lt _ (by decide)
  have hn := bb.2.1
  have hs0 : st ≠ 0 := by omega
  obtain ⟨ok, q1, q2⟩ := bb.2.2.2.2.1 _ hr8 p hbf
  have h12 := okP_len ok
  have h16 := (okP_cases ok).1
  have hq : sqN p < 65536 := p2_lt ok.2.1 (i := 2) (by omega)
  have hsq : sqN p = nxt := ds_same hq hn hn q2 (by unfold dsN; omega) q1
  have n2 : nI 2 = 2 := rfl
  by_cases hr : ys.length + smN p ≤ 256
  · obtain ⟨m1, a1, a2, a3, a4, a5, a6, a7⟩ := pp_ok bb bc hs0 hbf z1 y1 hr
    have bm1 : BM m1 st nxt mi buf ρ := bm.cg a7 (fun x y q => by omega)
    have y21 : SR (m1 17 3) (m1 20) 256 ys := by
      rw [a7 17 3 (by omega)]
      exact y2.congr (fun j _ => a7 _ _ (by omega))
    obtain ⟨s, s1, s2, s3, s4⟩ := he_yes bb bm1 hn hbf hsq
    have e14 := (bm1.2.1 hs0).1
    obtain ⟨mB, emB⟩ : ∃ z, z = put (put m1 17 13 2) 17 14 (nI ((nxt + 1) % 65536)) := ⟨_, rfl⟩
    have cB : CH (fun x y => x = 17 ∧ (y = 13 ∨ y = 14)) m1 mB := by
      rw [emB]
      exact (CH.rf.put (by omega) _).put (by omega) _
    obtain ⟨m2, d1, d2, d3, d4, d5, d6, d7, d8, d9⟩ := mp_ok (m := mB) (S := 8 + s) (st := st) (by omega) (s4.cg cB (by omega) (fun j => by omega)) ok (fun j hj => by rw [cB 18 j (by omega), a7 18 j (by omega)]; exact i8 j hj) (ys := ys) (by rw [cB 17 3 (by omega)]; exact y21.congr (fun j _ => cB _ _ (by omega))) hr hst (fun z => by rw [cB 17 17 (by omega)]; exact bm1.2.2.1 z) (fun z => by rw [cB 17 17 (by omega)]; exact bm1.2.2.2.1 z)
    have cM : CH (fun x y => (x = 17 ∧ (y = 13 ∨ y = 14)) ∨ (x = 20 ∨ x = 23 ∨ (x = 17 ∧ (y = 3 ∨ (17 ≤ y ∧ y ≤ 20) ∨ y = 23 ∨ y = 24)) ∨ (x = 24 ∧ y = 9) ∨ (x = 21 ∧ y = 8 + s))) m1 m2 := cB.tu d9
    have cT : CH (fun x y => ((x = 11 ∧ (y = 2 ∨ y = 3 ∨ y = 5)) ∨ (x = 5 ∧ y = 1) ∨ x = 6 ∨ x = 12 ∨ (x = 3 ∧ y = 1) ∨ x = 4 ∨ x = 15 ∨ (x = 13 ∧ (y = 3 ∨ y = 4 ∨ y = 5))) ∨ (x = 17 ∧ (y = 13 ∨ y = 14)) ∨ (x = 20 ∨ x = 23 ∨ (x = 17 ∧ (y = 3 ∨ (17 ≤ y ∧ y ≤ 20) ∨ y = 23 ∨ y = 24)) ∨ (x = 24 ∧ y = 9) ∨ (x = 21 ∧ y = 8 + s))) m m2 := a7.tu cM
    refine ⟨nI (smN p), m1, m2, ecl _ _ a1, ?_, i1.cg cT (fun x y q => by omega), ⟨ys ++ spl p (smN p), ?_, ?_, d2⟩, ⟨spl p (smN p), spl_S ok, ?_, d3⟩, i4.cg cT (fun x y q => by omega), i5.cg cT (fun x y q => by omega), ⟨2, (nxt + 1) % 65536, 0, va_up buf (nxt % 8) none, va_up ρ s none, bb.nx (by omega), a6.cg cM (fun x y q => by omega), bm1.del s1 s2 (cM.mo (fun x y q => by omega)) (by rw [d9 17 13 (by omega), emB]; simp [put_at, n2]) (fun _ => ⟨by rw [d9 17 14 (by omega), emB]; simp [put_at], by rw [d7, nI_0]⟩) (fun z => absurd z (by decide)) (fun _ => d6) d8, ?_⟩, i8.cg cT (fun x y q => by omega)⟩
    · show F_Model_play m1 = _
      rw [emo m1 bm1 (a7 17 16 (by omega))]
      unfold F_Model_play_29
      rw [e14, s3, rd_some, if_neg (nI_pos (by omega)), rd_smM (by omega) s4 ok.2.1, rd_some, (pl_66 hn e14 y21 _ (by omega)).1 hr]
      unfold F_Model_play_107
      rw [bnd_eq, if_neg (nI_pos (by omega)), ← emB, d1, rd_some]
    · intro x hx
      rcases List.mem_append.mp hx with w | w
      · exact y0 x w
      · exact spl_S ok x w
    · rw [cM 3 1 (by omega)]
      exact a5.congr (fun j _ => cM _ _ (by omega))
    · rw [cM 5 1 (by omega)]
      exact a4.congr (fun j _ => cM _ _ (by omega))
    · obtain ⟨x1, x2, x3, x4, x5, x6, x7, x8, x9, x10, x11⟩ := be
      have ej : jpN st p (m 11 2) = jpN st p (mB 17 18) := by
        rw [cB 17 18 (by omega), a7 17 18 (by omega)]
        rcases hst with w | w
        · unfold jpN
          rw [if_neg (by omega), if_neg (by omega)]
        · rw [x4 w]
      have e1 : m2 11 5 = m2 24 9 := by
        rw [cM 11 5 (by omega), a2, d4, ej, cB 24 9 (by omega), a7 24 9 (by omega), x6]
      have e2 : m2 11 2 = m2 17 18 := by rw [cM 11 2 (by omega), a3, d5]
      unfold BE
      rw [e1, e2, cT 13 6 (by omega), cT 17 15 (by omega), cT 13 7 (by omega), cT 17 16 (by omega), cT 11 4 (by omega), cT 24 8 (by omega), cT 16 1 (by omega), cT 24 3 (by omega), cT 16 4 (by omega), cT 24 4 (by omega), cT 16 5 (by omega), cT 24 5 (by omega), cT 16 6 (by omega), cT 24 6 (by omega), cT 16 7 (by omega), cT 24 7 (by omega)]
      exact ⟨fun _ => x1 hs0, x2, x3, fun _ => rfl, x5, rfl, x7, x8, x9, x10, x11⟩
  · have ht := kd_bf (nxt % 8) hr8
    have hp : PC (41 + 2 * (nxt % 8)) m p := by
      show SR _ (m (41 + 2 * (nxt % 8) + 1)) 44 p
      rw [show 41 + 2 * (nxt % 8) + 1 = 42 + 2 * (nxt % 8) by omega]
      exact ((bc.2.2.2.2 (nxt % 8) hr8).2.2 p hbf).2
    have esm := ((rd_snd ht hp ok.2.1).2 ok.2.2).1
    have y1' : SR (m 3 1) (m (3 + 1)) (ln (3 + 1)) ys := y1
    obtain ⟨s, s1, s2, s3, s4⟩ := he_yes bb bm hn hbf hsq
    have e14 := (bm.2.1 hs0).1
    refine ⟨-3, m, m, ecl _ _ ?_, ?_, h⟩
    · unfold F_Player_playPacket
      rw [esm, rd_some, sa_room y1' (by decide) (by omega), if_neg (show ¬ ys.length + smN p ≤ ln (3 + 1) from hr), rd_some, if_pos rfl]
    · show F_Model_play m = _
      rw [emo m bm rfl]
      unfold F_Model_play_29
      rw [e14, s3, rd_some, if_neg (nI_pos (by omega)), rd_smM (by omega) s4 ok.2.1, rd_some, (pl_66 hn e14 y2 _ (by omega)).2 hr]
theorem sh_k : ∀ k, k < 5 → ((1 : Int32) <<< (nI k &&& (31 : Int32))) = nI (2 ^ k) := by decide +kernel
theorem pl_con (h : Inv m) (bb : BB 2 nxt mi buf) (bc : BC m 2 nxt mi buf) (bm : BM m 2 nxt mi buf ρ) (be : BE m 2) (y0 : ∀ x ∈ ys, IsS x) (y1 : SR (m 3 1) (m 4) 256 ys) (y2 : SR (m 17 3) (m 20) 256 ys) (z0 : ∀ x ∈ zs, IsS x) (z1 : SR (m 5 1) (m 6) 16 zs) (z2 : SR (m 17 20) (m 23) 16 zs) (hbf : buf (nxt % 8) = none) (hmi : mi < 4) (ecl : ∀ r m1, F_Player_conceal m 3 = some (r, m1) → F_Gate_play m = some (r, m1)) (emo : ∀ m1, BM m1 2 nxt mi buf ρ → m1 17 16 = m 17 16 → F_Model_play m1 = F_Model_play_29 m1) : Step m (F_Gate_play m) (fun m1 => F_Model_play m1) := by
  obtain ⟨i1, i2, i3, i4, i5, i6, i8⟩ := id h
  have hn := bb.2.1
  have n2 : nI 2 = 2 := rfl
  have hzl := z1.2.1
  have y1' : SR (m 3 1) (m (3 + 1)) (ln (3 + 1)) ys := y1
  have z1' : SR (m 5 1) (m (5 + 1)) (ln (5 + 1)) zs := z1
  have ezs : F_Samples_size m 5 = some (nI zs.length) := by
    show some (m 5 1) = _
    rw [z1.1]
  have ehe : ∀ m1, BM m1 2 nxt mi buf ρ → F_Model_held m1 (nI nxt) = some (-1) := fun m1 b => he_no bb b hn (fun p q => by rw [hbf] at q; cases q)
  have e29 : ∀ m1, BM m1 2 nxt mi buf ρ → m1 17 20 = nI zs.length → F_Model_play_29 m1 = F_Model_play_66 m1 (-1) (nI zs.length) := fun m1 b e => by
    obtain ⟨w1, w2⟩ := b.2.1 (by decide)
    unfold F_Model_play_29
    rw [w1, ehe m1 b, rd_some, if_pos (by decide), if_neg (by rw [w2, kEQ 4 4 rfl (by omega) (by decide)]; omega), e]
  by_cases hr : ys.length + zs.length ≤ 256
  · obtain ⟨m6, em6⟩ : ∃ z, z = put (put m 11 4 (m 11 4 + 1)) 11 3 (nI (mi + 1)) := ⟨_, rfl⟩
    have c6 : CH (fun x y => x = 11 ∧ (y = 3 ∨ y = 4)) m m6 := by
      rw [em6]
      exact (CH.rf.put (by omega) _).put (by omega) _
    have z16 : SR (m6 5 1) (m6 (5 + 1)) (ln (5 + 1)) zs := by
      rw [c6 5 1 (by omega)]
      exact z1'.congr (fun j _ => c6 _ _ (by omega))
    have y16 : SR (m6 3 1) (m6 (3 + 1)) (ln (3 + 1)) ys := by
      rw [c6 3 1 (by omega)]
      exact y1'.congr (fun j _ => c6 _ _ (by omega))
    have k0 : 0 < 2 ^ (mi + 1) := Nat.pos_of_ne_zero (by simp)
    have k30 : 2 ^ (mi + 1) < 2 ^ 30 := Nat.pow_lt_pow_right (by decide) (by omega)
    obtain ⟨m8, a1, a2, a3⟩ := cc_50 (zs := zs) k0 k30 zs.length 300 0 m6 ys (by omega) (by omega) z16 y16 hr
    rw [List.drop_zero] at a2
    obtain ⟨m9, em9⟩ : ∃ z, z = put m8 11 2 (m8 11 2 + nI zs.length) := ⟨_, rfl⟩
    have c9 : CH (fun x y => (x = 11 ∧ (y = 2 ∨ y = 3 ∨ y = 4)) ∨ (x = 3 ∧ y = 1) ∨ x = 4) m m9 := by
      rw [em9]
      exact ((c6.mo (fun x y q => by omega)).tr (a3.mo (fun x y q => by omega))).put (by omega) _
    have c89 : CH (fun x y => x = 11 ∧ y = 2) m8 m9 := by
      rw [em9]
      exact CH.rf.put (by omega) _
    have e3 : m9 11 3 = nI (mi + 1) := by
      rw [c89 11 3 (by omega), a3 11 3 (by omega), em6]
      simp [put_at]
    have bc9 : BC m9 2 nxt (mi + 1) buf := by
      obtain ⟨h1, h2, h3, h4, h5⟩ := bc
      refine ⟨by rw [c9 13 3 (by omega)]; exact h1, fun z => by rw [c9 13 5 (by omega)]; exact h2 z, e3, by rw [c9 13 4 (by omega)]; exact h4, fun r hr => ?_⟩
      obtain ⟨k1, k2, k3⟩ := h5 r hr
      refine ⟨by rw [c9 14 r (by omega)]; exact k1, fun z => by rw [c9 15 r (by omega)]; exact k2 z, fun q hq => ?_⟩
      obtain ⟨k4, k5⟩ := k3 q hq
      rw [c9 15 r (by omega), c9 (41 + 2 * r) 1 (by omega)]
      exact ⟨k4, k5.congr (fun j _ => c9 _ _ (by omega))⟩
    obtain ⟨m1, b1, b2, b3⟩ := go_ok bc9 (by decide) hn
    rw [up_no hbf] at b2
    have c1 : CH (fun x y => ((x = 11 ∧ (y = 2 ∨ y = 3 ∨ y = 4)) ∨ (x = 3 ∧ y = 1) ∨ x = 4) ∨ ((x = 15 ∧ y = nxt % 8) ∨ (x = 13 ∧ (y = 3 ∨ y = 4 ∨ y = 5)))) m m1 := c9.tu b3
    have bm1 : BM m1 2 nxt mi buf ρ := bm.cg c1 (fun x y q => by omega)
    have y21 : SR (m1 17 3) (m1 20) 256 ys := by
      rw [c1 17 3 (by omega)]
      exact y2.congr (fun j _ => c1 _ _ (by omega))
    have z21 : SR (m1 17 20) (m1 23) 16 zs := by
      rw [c1 17 20 (by omega)]
      exact z2.congr (fun j _ => c1 _ _ (by omega))
    obtain ⟨e14, e19⟩ := bm1.2.1 (by decide)
    obtain ⟨mB, emB⟩ : ∃ z, z = put (put (put (put m1 17 13 2) 17 14 (nI ((nxt + 1) % 65536))) 17 19 (nI (mi + 1))) 24 8 (m1 24 8 + 1) := ⟨_, rfl⟩
    have cB : CH (fun x y => (x = 17 ∧ (y = 13 ∨ y = 14 ∨ y = 19)) ∨ (x = 24 ∧ y = 8)) m1 mB := by
      rw [emB]
      exact (((CH.rf.put (by omega) _).put (by omega) _).put (by omega) _).put (by omega) _
    have eB19 : mB 17 19 = nI (mi + 1) := by
      rw [emB]
      simp [put_at]
    obtain ⟨m8', d1, d2, d3⟩ := cm_58 (zs := zs) k0 k30 zs.length 300 0 mB ys (by omega) (by omega) (by rw [cB 17 20 (by omega)]; exact z21.congr (fun j _ => cB _ _ (by omega))) (by rw [cB 17 3 (by omega)]; exact y21.congr (fun j _ => cB _ _ (by omega))) hr
    rw [List.drop_zero] at d2
    have e38 := cm_38 (m := mB) (k := mi + 1) (by omega) eB19 (mi + 1) 300 0 (by omega) (by omega)
    obtain ⟨m2, em2⟩ : ∃ z, z = put m8' 17 18 (m8' 17 18 + nI zs.length) := ⟨_, rfl⟩
    have c82 : CH (fun x y => x = 17 ∧ y = 18) m8' m2 := by
      rw [em2]
      exact CH.rf.put ⟨rfl, rfl⟩ _
    have cM : CH (fun x y => (((x = 17 ∧ (y = 13 ∨ y = 14 ∨ y = 19)) ∨ (x = 24 ∧ y = 8)) ∨ ((x = 17 ∧ y = 3) ∨ x = 20)) ∨ (x = 17 ∧ y = 18)) m1 m2 := (cB.tu d3).tu c82
    have cT : CH (fun x y => (((x = 11 ∧ (y = 2 ∨ y = 3 ∨ y = 4)) ∨ (x = 3 ∧ y = 1) ∨ x = 4) ∨ ((x = 15 ∧ y = nxt % 8) ∨ (x = 13 ∧ (y = 3 ∨ y = 4 ∨ y = 5)))) ∨ ((((x = 17 ∧ (y = 13 ∨ y = 14 ∨ y = 19)) ∨ (x = 24 ∧ y = 8)) ∨ ((x = 17 ∧ y = 3) ∨ x = 20)) ∨ (x = 17 ∧ y = 18))) m m2 := c1.tu cM
    refine ⟨nI zs.length, m1, m2, ecl _ _ ?_, ?_, i1.cg cT (fun x y q => by omega), ⟨ys ++ zs.map (· / nI (2 ^ (mi + 1))), ?_, ?_, ?_⟩, i3.cg cT (fun x y q => by omega), i4.cg cT (fun x y q => by omega), i5.cg cT (fun x y q => by omega), ⟨2, (nxt + 1) % 65536, mi + 1, buf, ρ, ?_, b2.cg cM (fun x y q => by omega), bm1.re (cM.mo (fun x y q => by omega)) ?_ (fun _ => ⟨?_, ?_⟩) (fun z => absurd z (by decide)) (fun _ => ?_), ?_⟩, i8.cg cT (fun x y q => by omega)⟩
    · unfold F_Player_conceal
      rw [ezs, rd_some, sa_room y1' (by decide) (by omega), if_pos (show ys.length + zs.length ≤ ln (3 + 1) from hr), rd_some, if_neg (by decide), bnd_eq, bnd_eq, bnd_eq, show put m 11 4 (m 11 4 + 1) 11 3 = m 11 3 by simp [put_at], bc.2.2.1, nI_1, ← em6, show m6 11 3 = nI (mi + 1) by rw [em6]; simp [put_at], sh_k _ (by omega), show (0 : Int32) = nI 0 from nI_0.symm, a1, ← em9, b1, rd_some]
    · show F_Model_play m1 = _
      rw [emo m1 bm1 (c1 17 16 (by omega)), e29 m1 bm1 z21.1, (pl_66 hn e14 y21 _ (by omega)).1 hr]
      unfold F_Model_play_107 F_Model_conceal
      rw [bnd_eq, if_pos (by decide), bnd_eq, if_neg (by decide), show (8 : Int32).toNatClampNeg = 8 from rfl, bnd_eq, show put (put m1 17 13 2) 17 14 (nI ((nxt + 1) % 65536)) 17 19 = m1 17 19 by simp [put_at], e19, nI_1, show put (put (put m1 17 13 2) 17 14 (nI ((nxt + 1) % 65536))) 17 19 (nI (mi + 1)) 24 8 = m1 24 8 by simp [put_at], ← emB, eB19, if_neg (by rw [kEQ 5 5 rfl (by omega) (by decide)]; omega)]
      rw [show F_Model_conceal_38 300 mB 1 0 = F_Model_conceal_58 300 mB (nI (2 ^ (mi + 1))) 0 from e38, show F_Model_conceal_58 300 mB (nI (2 ^ (mi + 1))) 0 = some m2 by rw [em2]; exact d1, rd_some]
    · intro x hx
      rcases List.mem_append.mp hx with w | w
      · exact y0 x w
      · obtain ⟨z, hz, rfl⟩ := List.mem_map.mp w
        exact dv_S (z0 z hz) k0 k30
    · rw [cM 3 1 (by omega), b3 3 1 (by omega), c89 3 1 (by omega)]
      exact (show SR (m8 3 1) (m8 4) 256 _ from a2).congr (fun j _ => by rw [cM 4 j (by omega), b3 4 j (by omega), c89 4 j (by omega)])
    · rw [c82 17 3 (by omega)]
      exact d2.congr (fun j _ => c82 _ _ (by omega))
    · have := bb.nx (mi' := mi + 1) (by omega)
      rw [up_no hbf] at this
      exact this
    · rw [c82 17 13 (by omega), d3 17 13 (by omega), emB]
      simp [put_at, n2]
    · rw [c82 17 14 (by omega), d3 17 14 (by omega), emB]
      simp [put_at]
    · rw [c82 17 19 (by omega), d3 17 19 (by omega), eB19]
    · rw [cM 17 17 (by omega)]
      exact bm1.2.2.2.1 rfl
    · obtain ⟨x1, x2, x3, x4, x5, x6, x7, x8, x9, x10, x11⟩ := be
      have e1 : m2 11 4 = m2 24 8 := by
        rw [cM 11 4 (by omega), b3 11 4 (by omega), c89 11 4 (by omega), a3 11 4 (by omega), em6, c82 24 8 (by omega), d3 24 8 (by omega), emB]
        simp [put_at]
        rw [c1 24 8 (by omega), x5]
      have e2 : m2 11 2 = m2 17 18 := by
        rw [cM 11 2 (by omega), b3 11 2 (by omega), em9, em2]
        simp [put_at]
        rw [a3 11 2 (by omega), c6 11 2 (by omega), d3 17 18 (by omega), cB 17 18 (by omega), c1 17 18 (by omega), x4 rfl]
      unfold BE
      rw [e1, e2, cT 13 6 (by omega), cT 17 15 (by omega), cT 13 7 (by omega), cT 17 16 (by omega), cT 11 5 (by omega), cT 24 9 (by omega), cT 16 1 (by omega), cT 24 3 (by omega), cT 16 4 (by omega), cT 24 4 (by omega), cT 16 5 (by omega), cT 24 5 (by omega), cT 16 6 (by omega), cT 24 6 (by omega), cT 16 7 (by omega), cT 24 7 (by omega)]
      exact ⟨x1, x2, x3, fun _ => rfl, rfl, x6, x7, x8, x9, x10, x11⟩
  · refine ⟨-3, m, m, ecl _ _ ?_, ?_, h⟩
    · unfold F_Player_conceal
      rw [ezs, rd_some, sa_room y1' (by decide) (by omega), if_neg (show ¬ ys.length + zs.length ≤ ln (3 + 1) from hr), rd_some, if_pos rfl]
    · show F_Model_play m = _
      rw [emo m bm rfl, e29 m bm z2.1, (pl_66 hn (bm.2.1 (by decide)).1 y2 _ (by omega)).2 hr]
theorem pl_rest (h : Inv m) (bb : BB 2 nxt 4 buf) (bc : BC m 2 nxt 4 buf) (bm : BM m 2 nxt 4 buf ρ) (be : BE m 2) (y2 : SR (m 17 3) (m 20) 256 ys) (hbf : buf (nxt % 8) = none) (ecl : ∀ r m1, F_Player_giveUp m = some (r, m1) → F_Gate_play m = some (r, m1)) (emo : ∀ m1, BM m1 2 nxt 4 buf ρ → m1 17 16 = m 17 16 → F_Model_play m1 = F_Model_play_29 m1) : Step m (F_Gate_play m) (fun m1 => F_Model_play m1) := by
  obtain ⟨i1, i2, i3, i4, i5, i6, i8⟩ := id h
  have hn := bb.2.1
  have n2 : nI 2 = 2 := rfl
  obtain ⟨m2a, em2a⟩ : ∃ z, z = put (put m 11 4 (m 11 4 + 1)) 11 3 0 := ⟨_, rfl⟩
  have c2a : CH (fun x y => x = 11 ∧ (y = 3 ∨ y = 4)) m m2a := by
    rw [em2a]
    exact (CH.rf.put (by omega) _).put (by omega) _
  obtain ⟨m3, a1, a2, a3⟩ := cr_2 8 300 0 m2a (by omega) (by omega) (fun i hi => absurd hi (by omega))
  obtain ⟨m1, em1⟩ : ∃ z, z = put (put m3 13 4 0) 13 3 0 := ⟨_, rfl⟩
  have c31 : CH (fun x y => x = 13 ∧ (y = 3 ∨ y = 4)) m3 m1 := by
    rw [em1]
    exact (CH.rf.put (by omega) _).put (by omega) _
  have c1 : CH (fun x y => ((x = 11 ∧ (y = 3 ∨ y = 4)) ∨ x = 15) ∨ (x = 13 ∧ (y = 3 ∨ y = 4))) m m1 := (c2a.tu a3).tu c31
  have bm1 : BM m1 2 nxt 4 buf ρ := bm.cg c1 (fun x y q => by omega)
  have y21 : SR (m1 17 3) (m1 20) 256 ys := by
    rw [c1 17 3 (by omega)]
    exact y2.congr (fun j _ => c1 _ _ (by omega))
  have hyl := y2.2.1
  obtain ⟨e14, e19⟩ := bm1.2.1 (by decide)
  have ehe : F_Model_held m1 (nI nxt) = some (-1) := he_no bb bm1 hn (fun p q => by rw [hbf] at q; cases q)
  obtain ⟨mB, emB⟩ : ∃ z, z = put (put (put (put (put m1 17 13 2) 17 14 (nI ((nxt + 1) % 65536))) 17 19 5) 24 8 (m1 24 8 + 1)) 17 13 0 := ⟨_, rfl⟩
  have cB : CH (fun x y => (x = 17 ∧ (y = 13 ∨ y = 14 ∨ y = 19)) ∨ (x = 24 ∧ y = 8)) m1 mB := by
    rw [emB]
    exact ((((CH.rf.put (by omega) _).put (by omega) _).put (by omega) _).put (by omega) _).put (by omega) _
  obtain ⟨m2, d1, d2, d3⟩ := mr_8 8 300 8 mB (by omega) (by omega) (by omega) (fun i h hi => absurd hi (by omega))
  have cM : CH (fun x y => ((x = 17 ∧ (y = 13 ∨ y = 14 ∨ y = 19)) ∨ (x = 24 ∧ y = 8)) ∨ (x = 21 ∧ 8 ≤ y)) m1 m2 := cB.tu d3
  have cT : CH (fun x y => (((x = 11 ∧ (y = 3 ∨ y = 4)) ∨ x = 15) ∨ (x = 13 ∧ (y = 3 ∨ y = 4))) ∨ (((x = 17 ∧ (y = 13 ∨ y = 14 ∨ y = 19)) ∨ (x = 24 ∧ y = 8)) ∨ (x = 21 ∧ 8 ≤ y))) m m2 := c1.tu cM
  refine ⟨0, m1, m2, ecl _ _ ?_, ?_, i1.cg cT (fun x y q => by omega), i2.cg cT (fun x y q => by omega), i3.cg cT (fun x y q => by omega), i4.cg cT (fun x y q => by omega), i5.cg cT (fun x y q => by omega), ⟨0, 0, 0, fun _ => none, fun _ => none, ?_, ?_, ?_, ?_⟩, i8.cg cT (fun x y q => by omega)⟩
  · unfold F_Player_giveUp F_Buffer_comeToRest
    rw [bnd_eq, bnd_eq, ← em2a]
    rw [show F_Buffer_comeToRest_2 300 m2a 0 = some m1 by rw [em1]; exact a1, rd_some]
  · show F_Model_play m1 = _
    rw [emo m1 bm1 (c1 17 16 (by omega))]
    unfold F_Model_play_29
    rw [e14, ehe, rd_some, if_pos (by decide), if_pos (by rw [e19]; rfl), show (0 : Int32) = nI 0 from nI_0.symm, (pl_66 hn e14 y21 _ (by omega)).1 (by omega)]
    unfold F_Model_play_107 F_Model_conceal F_Model_rest
    rw [bnd_eq, if_pos (by decide), bnd_eq, if_neg (by decide), show (8 : Int32).toNatClampNeg = 8 from rfl, bnd_eq, show put (put m1 17 13 2) 17 14 (nI ((nxt + 1) % 65536)) 17 19 = m1 17 19 by simp [put_at], e19, show nI 4 + (1 : Int32) = 5 from rfl, show put (put (put m1 17 13 2) 17 14 (nI ((nxt + 1) % 65536))) 17 19 5 24 8 = m1 24 8 by simp [put_at], if_pos (by simp [put_at]), bnd_eq, nI_0, ← emB]
    rw [show F_Model_rest_8 300 mB 8 = some m2 from d1, rd_some, rd_some]
  · exact ⟨by decide, by decide, by decide, fun _ => rfl, fun r hr p hp => (by cases hp), fun _ _ _ => rfl, fun z => absurd z (by decide)⟩
  · refine ⟨?_, fun z => absurd rfl z, ?_, ?_, fun r hr => ⟨?_, fun _ => ?_, fun p hp => by cases hp⟩⟩
    · rw [cM 13 3 (by omega), em1]
      simp [put_at, nI_0]
    · rw [cM 11 3 (by omega), c31 11 3 (by omega), a3 11 3 (by omega), em2a]
      simp [put_at, nI_0]
    · rw [cM 13 4 (by omega), em1]
      simp [put_at]
      rfl
    · rw [cT 14 r (by omega)]
      exact (bc.2.2.2.2 r hr).1
    · rw [cM 15 r (by omega), c31 15 r (by omega)]
      exact a2 r hr
  · refine ⟨?_, fun z => absurd rfl z, fun z => absurd z (by decide), fun z => absurd z (by decide), fun s hs => ⟨fun _ => d2 _ (by omega) (by omega), fun r hr => (by cases hr)⟩, fun s s' r _ _ z => (by cases z), fun r _ z => absurd rfl z, rfl⟩
    rw [d3 17 13 (by omega), emB]
    simp [put_at, nI_0]
  · obtain ⟨x1, x2, x3, x4, x5, x6, x7, x8, x9, x10, x11⟩ := be
    have e1 : m2 11 4 = m2 24 8 := by
      rw [cM 11 4 (by omega), c31 11 4 (by omega), a3 11 4 (by omega), em2a, d3 24 8 (by omega), emB]
      simp [put_at]
      rw [c1 24 8 (by omega), x5]
    unfold BE
    rw [e1, cT 13 6 (by omega), cT 17 15 (by omega), cT 11 2 (by omega), cT 17 18 (by omega), cT 13 7 (by omega), cT 17 16 (by omega), cT 11 5 (by omega), cT 24 9 (by omega), cT 16 1 (by omega), cT 24 3 (by omega), cT 16 4 (by omega), cT 24 4 (by omega), cT 16 5 (by omega), cT 24 5 (by omega), cT 16 6 (by omega), cT 24 6 (by omega), cT 16 7 (by omega), cT 24 7 (by omega)]
    exact ⟨fun z => absurd rfl z, x2, x3, fun z => absurd z (by decide), rfl, x6, x7, x8, x9, x10, x11⟩
theorem st_play (h : Inv m) : Step m (F_Gate_play m) (fun m1 => F_Model_play m1) := by
  obtain ⟨i1, ⟨ys, y0, y1, y2⟩, ⟨zs, z0, z1, z2⟩, i4, i5, ⟨st, nxt, mi, buf, ρ, bb, bc, bm, be⟩, i8⟩ := id h
  obtain ⟨f, f1, f2, f3⟩ := be.2.2.1
  have hst := bb.1
  have hn := bb.2.1
  have hc8 : cbN buf ≤ 8 := c8_le _
  have f4 : m 17 16 = nI f := by rw [← be.2.1]; exact f3
  have k2 := kEQ (n := st) 2 2 rfl (by omega) (by decide)
  have k1 := kEQ (n := st) 1 1 rfl (by omega) (by decide)
  by_cases hrd : st = 2 ∨ (st = 1 ∧ f ≤ cbN buf)
  · have hs0 : st ≠ 0 := by omega
    have eis : F_Buffer_isReady m = some 1 := by
      unfold F_Buffer_isReady
      rw [bc.1, bc.2.2.2.1, f3]
      rcases hrd with w | ⟨w, w2⟩
      · rw [if_pos (k2.mpr w)]
      · rw [if_neg (fun z => by have := k2.mp z; omega), if_pos (k1.mpr w), if_neg (nI_nlt w2 (by omega))]
    have emo : ∀ m1, BM m1 st nxt mi buf ρ → m1 17 16 = m 17 16 → F_Model_play m1 = F_Model_play_29 m1 := fun m1 b e => by
      unfold F_Model_play
      rw [b.1, if_neg (nI_ne0 (by omega) (by omega)), e, f4]
      rcases hrd with w | ⟨w, w2⟩
      · rw [if_neg (fun z => by have := k1.mp z; omega)]
      · rw [if_pos (k1.mpr w), bf_eq b, rd_some, if_pos (nI_le w2 (by omega))]
    have edu := due_c bc hs0 hn
    have hr8 : nxt % 8 < 8 := Nat.mod_lt _ (by decide)
    cases hbf : buf (nxt % 8) with
    | some p =>
      refine pl_pkt h bb bc bm be y0 y1 y2 z1 (by omega) hbf (fun r m1 e => ?_) emo
      unfold F_Gate_play F_Player_playNext
      rw [eis, rd_some, if_neg (by decide), edu, rd_some, hbf]
      show cal (gp (kd (41 + 2 * (nxt % 8)) = 3) <| cal (F_Player_playPacket m (41 + 2 * (nxt % 8)) 3) fun r14 m15 => some (r14, m15)) (fun r2 m3 => some (r2, m3)) = _
      rw [gp_pos (kd_bf _ hr8), e]
      rfl
    | none =>
      have hs2 : st = 2 := by
        rcases hrd with w | ⟨w, -⟩
        · exact w
        · obtain ⟨p, hp, -⟩ := bb.2.2.2.2.2.2 w
          rw [hbf] at hp
          cases hp
      subst hs2
      have hmi := bb.2.2.1
      by_cases hm4 : mi = 4
      · subst hm4
        refine pl_rest h bb bc bm be y2 hbf (fun r m1 e => ?_) emo
        unfold F_Gate_play F_Player_playNext
        rw [eis, rd_some, if_neg (by decide), edu, rd_some, hbf]
        show cal (if (4 : Int32) ≤ (m 11 3) then cal (F_Player_giveUp m) (fun r7 m8 => some (r7, m8)) else _) (fun r2 m3 => some (r2, m3)) = _
        rw [if_pos (by rw [bc.2.2.1]; decide), e]
        rfl
      · refine pl_con h bb bc bm be y0 y1 y2 z0 z1 z2 hbf (by omega) (fun r m1 e => ?_) emo
        unfold F_Gate_play F_Player_playNext
        rw [eis, rd_some, if_neg (by decide), edu, rd_some, hbf]
        show cal (if (4 : Int32) ≤ (m 11 3) then _ else cal (F_Player_conceal m 3) (fun r7 m8 => some (r7, m8))) (fun r2 m3 => some (r2, m3)) = _
        rw [if_neg (by rw [bc.2.2.1]; exact kNGE 4 4 rfl (by omega) (by decide)), e]
        rfl
  · refine ⟨-2, m, m, ?_, ?_, h⟩
    · have eis : F_Buffer_isReady m = some 0 := by
        unfold F_Buffer_isReady
        rw [bc.1, bc.2.2.2.1, f3, if_neg (fun z => by have := k2.mp z; omega)]
        by_cases w : st = 1
        · rw [if_pos (k1.mpr w), if_pos (nI_lt (by omega) (by omega))]
        · rw [if_neg (fun z => w (k1.mp z))]
      unfold F_Gate_play F_Player_playNext
      rw [eis, rd_some, if_pos rfl]
      rfl
    · show F_Model_play m = _
      unfold F_Model_play
      rw [bm.1]
      by_cases w : st = 1
      · rw [if_neg (nI_ne0 (by omega) (by omega)), if_pos (k1.mpr w), bf_eq bm, rd_some, f4, if_neg (nI_ge (by omega) (by omega))]
      · rw [if_pos (by rw [show st = 0 by omega]; rfl)]
end PL
