-- receive: a packet is taken
section R3
variable {m : Mem} {st nxt mi : Nat} {buf : Nat → Option (List Int32)} {ρ : Nat → Option Nat} {p : List Int32}
theorem ac_51 {t : Nat} (ht : kd t = 3) (h25 : 25 ≤ t) (h40 : t ≤ 39) (hp : PC t m p) (hb : ∀ b ∈ p, IsB b) (h12 : 12 < p.length) (bc : BC m st nxt mi buf) (hn : buf (sqN p % 8) = none) (l2 : Int32) : ∃ m', F_Buffer_accept_51 m t l2 = some (l2, m') ∧ BC m' st nxt mi (va_up buf (sqN p % 8) (some p)) ∧ CH (fun x y => (x = 41 + 2 * (sqN p % 8) ∧ y = 1) ∨ x = 42 + 2 * (sqN p % 8) ∨ (x = 15 ∧ y = sqN p % 8) ∨ (x = 13 ∧ y = 4)) m m' := by
  have hq : sqN p < 65536 := p2_lt hb (i := 2) (by omega)
  have hr : sqN p % 8 < 8 := Nat.mod_lt _ (by decide)
  have esq : F_Packet_sequence m t = some (nI (sqN p)) := by
    unfold F_Packet_sequence
    rw [show (2 : Int32) = nI 2 from rfl, rd_pair ht hp hb (by omega), rd_some]
    rfl
  have hpl := pl_eq hq
  generalize hR : sqN p % 8 = r at hn hr hpl ⊢
  have hkr := kd_bf r hr
  have g14 := (bc.2.2.2.2 r hr).1
  obtain ⟨m1, a1, a2, a3⟩ := pk_copy (t := 41 + 2 * r) (u := t) hkr ht (by omega) (by omega) hp
  have e4 : m1 13 4 + 1 = nI (cbN buf + 1) := by rw [a3 13 4 (by omega), bc.2.2.2.1, nI_1]
  have c2 : CH (fun x y => (x = 41 + 2 * r ∧ y = 1) ∨ x = 42 + 2 * r ∨ (x = 15 ∧ y = r) ∨ (x = 13 ∧ y = 4)) m (put (put m1 15 r 1) 13 4 (nI (cbN buf + 1))) := ((a3.mo (fun x y q => by omega)).put (by omega) _).put (by omega) _
  have c3 : CH (fun x y => (x = 15 ∧ y = r) ∨ (x = 13 ∧ y = 4)) m1 (put (put m1 15 r 1) 13 4 (nI (cbN buf + 1))) := (CH.rf.put (by omega) _).put (by omega) _
  refine ⟨put (put m1 15 r 1) 13 4 (nI (cbN buf + 1)), ?_, ?_, c2⟩
  · unfold F_Buffer_accept_51
    have gA : ¬ (nI r < 0 ∨ ln 14 ≤ (nI r).toNatClampNeg) := nI_in (N := 8) hr (by decide)
    have gB : ¬ (nI r < 0 ∨ ln 15 ≤ (nI r).toNatClampNeg) := nI_in (N := 8) hr (by decide)
    rw [esq, rd_some, hpl, rd_some, if_neg gA, nI_clamp (by omega), g14, nI_clamp (by omega), gp_pos hkr, a1, rd_some]
    rw [nI_clamp (by omega)] at gB
    rw [if_neg gB, bnd_eq, bnd_eq, show vp_nar .boolean (1 : Int32) = 1 from rfl, show put m1 15 r 1 13 4 = m1 13 4 by simp [put_at], e4]
  · refine bc.ins hr hn c2 (by rw [put_at, if_neg (by decide), put_at, if_pos rfl, if_pos rfl]) (by simp [put_at]) ?_
    rw [c3 _ 1 (by omega)]
    exact (show SR (m1 (41 + 2 * r) 1) (m1 (42 + 2 * r)) 44 p from by rw [show 42 + 2 * r = 41 + 2 * r + 1 by omega]; exact a2).congr (fun j _ => c3 _ _ (by omega))
theorem rm_91 {ps : List (List Int32)} (lb : LB ps) (lm : LM m ps) (hl : 0 < ps.length) (h12 : 12 < (ps.getD 0 []).length) (hnx : nxt < 65536) (hst : st ≠ 0) (bm : BM m st nxt mi buf ρ) (hn : buf (sqN (ps.getD 0 []) % 8) = none) (hd : dsN (sqN (ps.getD 0 [])) nxt < 8) : ∃ m' s, F_Model_receive_91 m = some (nI (dsN (sqN (ps.getD 0 [])) nxt), m') ∧ BM m' st nxt mi (va_up buf (sqN (ps.getD 0 []) % 8) (some (ps.getD 0 []))) (va_up ρ s (some (sqN (ps.getD 0 []) % 8))) ∧ LM m' (ps.eraseIdx 0) ∧ CH (fun x y => (x = 17 ∧ y = 10) ∨ x = 21 ∨ x = 22) m m' := by
  have hb := lb.mem hl
  have hp := lm.2 0 hl
  have hq : sqN (ps.getD 0 []) < 65536 := p2_lt hb (i := 2) (by omega)
  have hr : sqN (ps.getD 0 []) % 8 < 8 := Nat.mod_lt _ (by decide)
  have epr := rd_pairM (s := 0) (by decide) hp hb (i := 2) (by omega)
  rw [nI_0, ← sqN_eq] at epr
  obtain ⟨s, s1, s2, s3⟩ := fr_slot bm hr hn (nI (dsN (sqN (ps.getD 0 [])) nxt))
  have hd0 : dsN (sqN (ps.getD 0 [])) nxt < 65536 := Nat.mod_lt _ (by decide)
  have hd1 : dvN (dsN (sqN (ps.getD 0 [])) nxt) = nI (dsN (sqN (ps.getD 0 [])) nxt) := (dv_lt hd0).2 (by omega)
  obtain ⟨m1, a1, a2, a3, a4⟩ := mo_copy (m := m) (a := 0) (b := 8 + s) (by decide) (by omega) (by omega)
  have hp1 : PM (8 + s) m1 (ps.getD 0 []) := SR.copied hp a2 a3
  have bm1 := bm.ins hr s1 hn s2 a4 hp1
  have lm1 := lm.cg lb.1 a4 (fun x y q => by omega)
  obtain ⟨m2, f1, f2, f3⟩ := lm1.rem lb.1 hl
  refine ⟨m2, s, ?_, bm1.cg f3 (fun x y q => by omega), f2, (a4.mo (fun x y q => by omega)).tr (f3.mo (fun x y q => by omega))⟩
  unfold F_Model_receive_91
  rw [show (2 : Int32) = nI 2 from rfl, epr, rd_some, ds_m hq hnx (bm.2.1 hst).1, rd_some, hd1, show (8 : Int32) = nI 8 from rfl, s3]
  unfold F_Model_receive_126
  rw [nI_0] at a1 f1
  rw [a1, rd_some, f1, rd_some]
theorem rc_tail (h : Inv m) {ps : List (List Int32)} {π : Nat → Nat} (lb : LB ps) (lc : LC m ps π) (lm : LM m ps) (hl : 0 < ps.length) {st' nxt' : Nat} (hst : st' ≠ 0) (bb' : BB st' nxt' mi (va_up buf (sqN (ps.getD 0 []) % 8) (some (ps.getD 0 [])))) (h12 : 12 < (ps.getD 0 []).length) (hn : buf (sqN (ps.getD 0 []) % 8) = none) (hd : dsN (sqN (ps.getD 0 [])) nxt' < 8)
    {mA : Mem} (cA : CH (fun x y => x = 13 ∧ (y = 3 ∨ y = 5 ∨ y = 6)) m mA) (bcA : BC mA st' nxt' mi buf) (own : Int32) (oA : mA 13 6 = own) (hac : F_Buffer_accept m (25 + 2 * π 0) = F_Buffer_accept_51 mA (25 + 2 * π 0) (nI (dsN (sqN (ps.getD 0 [])) nxt')))
    (hmod : ∀ m10, LM m10 ps → CH (fun x y => x = 7 ∨ x = 8 ∨ x = 13 ∨ x = 15 ∨ (41 ≤ x ∧ x ≤ 56)) m m10 → ∃ mC, F_Model_receive m10 = F_Model_receive_91 mC ∧ CH (fun x y => x = 17 ∧ ((13 ≤ y ∧ y ≤ 15) ∨ y = 17 ∨ y = 19)) m10 mC ∧ BM mC st' nxt' mi buf ρ ∧ mC 17 15 = own) (be : BE m st) (h2 : st' = 2 → st = 2) : Step m (F_Gate_receive m) (fun m1 => F_Model_receive m1) := by
  obtain ⟨i1, i2, i3, i4, i5, i6, i8⟩ := id h
  have lb1 := lb.1
  obtain ⟨p1, p2⟩ := lc.pk lb.1 hl
  have hpb := lb.mem hl
  have hp0 := (lc.2.1 0 (by omega)).1
  have hr : sqN (ps.getD 0 []) % 8 < 8 := Nat.mod_lt _ (by decide)
  have pA : PC (25 + 2 * π 0) mA (ps.getD 0 []) := by
    show SR (mA (25 + 2 * π 0) 1) (mA (25 + 2 * π 0 + 1)) 44 _
    rw [cA _ 1 (by omega)]
    exact p2.congr (fun j _ => cA _ _ (by omega))
  obtain ⟨mB, b1, b2, b3⟩ := ac_51 p1 (by omega) (by omega) pA hpb h12 bcA hn (nI (dsN (sqN (ps.getD 0 [])) nxt'))
  have cB : CH (fun x y => x = 13 ∨ x = 15 ∨ (41 ≤ x ∧ x ≤ 56)) m mB := (cA.mo (fun x y q => by omega)).tr (b3.mo (fun x y q => by omega))
  have lcB := lc.cg lb.1 cB (fun x y q => by omega)
  obtain ⟨m10, π', g1, g2, g3⟩ := lcB.lose lb.1 hl
  have c10 : CH (fun x y => x = 7 ∨ x = 8 ∨ x = 13 ∨ x = 15 ∨ (41 ≤ x ∧ x ≤ 56)) m m10 := (cB.mo (fun x y q => by omega)).tr (g3.mo (fun x y q => by omega))
  have lm10 := lm.cg lb.1 c10 (fun x y q => by omega)
  obtain ⟨mC, k1, k2, k3, k4⟩ := hmod m10 lm10 c10
  have lmC := lm10.cg lb.1 k2 (fun x y q => by omega)
  obtain ⟨mD, s, d1, d2, d3, d4⟩ := rm_91 lb lmC hl h12 bb'.2.1 hst k3 hn hd
  have cD : CH (fun x y => (x = 17 ∧ (y = 10 ∨ (13 ≤ y ∧ y ≤ 15) ∨ y = 17 ∨ y = 19)) ∨ x = 21 ∨ x = 22) m10 mD := (k2.mo (fun x y q => by omega)).tr (d4.mo (fun x y q => by omega))
  have cT : CH (fun x y => x = 7 ∨ x = 8 ∨ x = 13 ∨ x = 15 ∨ (41 ≤ x ∧ x ≤ 56) ∨ (x = 17 ∧ (y = 10 ∨ (13 ≤ y ∧ y ≤ 15) ∨ y = 17 ∨ y = 19)) ∨ x = 21 ∨ x = 22) m mD := (c10.mo (fun x y q => by omega)).tr (cD.mo (fun x y q => by omega))
  have cBD : CH (fun x y => (x = 7 ∧ y = 1) ∨ x = 8 ∨ (x = 17 ∧ (y = 10 ∨ (13 ≤ y ∧ y ≤ 15) ∨ y = 17 ∨ y = 19)) ∨ x = 21 ∨ x = 22) mB mD := (g3.mo (fun x y q => by omega)).tr (cD.mo (fun x y q => by omega))
  refine ⟨nI (dsN (sqN (ps.getD 0 [])) nxt'), m10, mD, ?_, ?_, i1.cg cT (fun x y q => by omega), i2.cg cT (fun x y q => by omega), i3.cg cT (fun x y q => by omega), ⟨_, π', lb.er 0, g2.cg (lb.er 0).1 cD (fun x y q => by omega), d3⟩, i5.cg cT (fun x y q => by omega), ⟨st', nxt', mi, _, _, bb', b2.cg cBD (fun x y q => by omega), d2, ?_⟩, i8.cg cT (fun x y q => by omega)⟩
  · unfold F_Gate_receive
    have ew := wi_at lb.1 lc hl
    rw [nI_0] at ew g1
    rw [ew, rd_some, om_so, gp_pos p1, hac, b1, cal_some, g1, cal_some]
  · show F_Model_receive m10 = _
    rw [k1, d1]
  · obtain ⟨a1, a2, a3, a4, a5, a6, a7, a8, a9, a10, a11⟩ := be
    unfold BE
    have e137 : mD 13 7 = m 13 7 := by rw [cBD 13 7 (by omega), b3 13 7 (by omega), cA 13 7 (by omega)]
    have e136 : mD 13 6 = own := by rw [cBD 13 6 (by omega), b3 13 6 (by omega), oA]
    have e1715 : mD 17 15 = own := by rw [d4 17 15 (by omega), k4]
    rw [e136, e1715, e137, cT 17 16 (by omega), cT 11 2 (by omega), cT 17 18 (by omega), cT 11 4 (by omega), cT 24 8 (by omega), cT 11 5 (by omega), cT 24 9 (by omega), cT 16 1 (by omega), cT 24 3 (by omega), cT 16 4 (by omega), cT 24 4 (by omega), cT 16 5 (by omega), cT 24 5 (by omega), cT 16 6 (by omega), cT 24 6 (by omega), cT 16 7 (by omega), cT 24 7 (by omega)]
    exact ⟨fun _ => rfl, a2, a3, fun z => a4 (h2 z), a5, a6, a7, a8, a9, a10, a11⟩
theorem st_receive (h : Inv m) : Step m (F_Gate_receive m) (fun m1 => F_Model_receive m1) := by
  obtain ⟨i1, i2, i3, ⟨ps, π, lb, lc, lm⟩, i5, ⟨st, nxt, mi, buf, ρ, bb, bc, bm, be⟩, i8⟩ := id h
  have lb1 := lb.1
  by_cases hl : 0 < ps.length
  · have hpb := lb.mem hl
    have hp44 := (lc.pk lb.1 hl).2.2.1
    obtain ⟨p1, p2⟩ := lc.pk lb.1 hl
    have ejc := jd_c p1 p2 hpb bb bc
    have ejm := jd_m (lm.2 0 hl) hpb bb bm
    obtain ⟨-, s2⟩ := rd_snd p1 p2 hpb
    by_cases h0 : smN (ps.getD 0 []) = 0
    · refine rc_ref h lb lc lm hl bb bc bm be (r := -1) (j := 1) (w := 3) (Or.inl ⟨rfl, rfl, rfl⟩) ?_ ?_
      · unfold jvC
        rw [if_pos h0]
      · unfold jvM
        rw [if_pos h0]
    · obtain ⟨-, -, h12⟩ := s2 h0
      have okp : okP (ps.getD 0 []) := ⟨hp44, hpb, h0⟩
      have hq : sqN (ps.getD 0 []) < 65536 := p2_lt hpb (i := 2) (by omega)
      by_cases hs : st = 0
      · subst hs
        have hbn := bb.2.2.2.2.2.1 rfl
        have hn : buf (sqN (ps.getD 0 []) % 8) = none := hbn _ (Nat.mod_lt _ (by decide))
        have hmi := bb.2.2.2.1 (by decide)
        subst hmi
        have ds0 : dsN (sqN (ps.getD 0 [])) (sqN (ps.getD 0 [])) = 0 := by
          unfold dsN
          omega
        have esq : ∀ mm : Mem, PC (25 + 2 * π 0) mm (ps.getD 0 []) → F_Packet_sequence mm (25 + 2 * π 0) = some (nI (sqN (ps.getD 0 []))) := fun mm hm => by
          unfold F_Packet_sequence
          rw [show (2 : Int32) = nI 2 from rfl, rd_pair p1 hm hpb (by omega), rd_some]
          rfl
        have eso : ∀ mm : Mem, PC (25 + 2 * π 0) mm (ps.getD 0 []) → F_Packet_source mm (25 + 2 * π 0) = some (p4N (ps.getD 0 []) 8) := fun mm hm => by
          unfold F_Packet_source
          rw [show (8 : Int32) = nI 8 from rfl, rd_four p1 hm hpb (by omega), rd_some]
        have pcx : ∀ mm : Mem, CH (fun x y => x = 13 ∧ (y = 3 ∨ y = 5 ∨ y = 6)) m mm → PC (25 + 2 * π 0) mm (ps.getD 0 []) := fun mm c => by
          show SR (mm (25 + 2 * π 0) 1) (mm (25 + 2 * π 0 + 1)) 44 _
          rw [c _ 1 (by omega)]
          exact p2.congr (fun j _ => c _ _ (by omega))
        have x1 : CH (fun x y => x = 13 ∧ (y = 3 ∨ y = 5 ∨ y = 6)) m (put m 13 3 1) := CH.rf.put (by omega) _
        have x2 : CH (fun x y => x = 13 ∧ (y = 3 ∨ y = 5 ∨ y = 6)) m (put (put m 13 3 1) 13 5 (nI (sqN (ps.getD 0 [])))) := x1.put (by omega) _
        have x3 : CH (fun x y => x = 13 ∧ (y = 3 ∨ y = 5 ∨ y = 6)) m (put (put (put m 13 3 1) 13 5 (nI (sqN (ps.getD 0 [])))) 13 6 (p4N (ps.getD 0 []) 8)) := x2.put (by omega) _
        refine rc_tail h lb lc lm hl (st' := 1) (nxt' := sqN (ps.getD 0 [])) (mi := 0) (buf := buf) (ρ := ρ) (by decide) ⟨by decide, hq, by decide, fun _ => rfl, fun i hi q hq2 => ?_, fun z => absurd z (by decide), fun _ => ⟨_, up_eq _ _ _, rfl⟩⟩ h12 hn (by omega) x3 ?_ (p4N (ps.getD 0 []) 8) (by simp [put_at]) ?_ ?_ be (fun z => absurd z (by decide))
        · by_cases e : i = sqN (ps.getD 0 []) % 8
          · subst e
            rw [up_eq] at hq2
            cases hq2
            exact ⟨okp, rfl, by omega⟩
          · rw [up_ne _ _ e, hbn i hi] at hq2
            cases hq2
        · obtain ⟨a1, a2, a3, a4, a5⟩ := bc
          refine ⟨by simp [put_at, nI], fun _ => by simp [put_at], by rw [x3 11 3 (by omega)]; exact a3, by rw [x3 13 4 (by omega)]; exact a4, fun r hr => ?_⟩
          obtain ⟨g1, g2, g3⟩ := a5 r hr
          refine ⟨by rw [x3 14 r (by omega)]; exact g1, fun z => by rw [x3 15 r (by omega)]; exact g2 z, fun q hq3 => ?_⟩
          rw [hbn r hr] at hq3
          cases hq3
        · unfold F_Buffer_accept
          rw [ejc]
          unfold jvC
          rw [if_neg h0, if_pos rfl, rd_some, if_pos (by decide), if_pos (by rw [bc.1]; rfl), bnd_eq, esq _ (pcx _ x1), rd_some, bnd_eq, eso _ (pcx _ x2), rd_some, bnd_eq, ds0]
          rfl
        · intro m10 lm10 c10
          have hp10 := lm10.2 0 hl
          have bm10 : BM m10 0 nxt 0 buf ρ := bm.cg c10 (fun x y q => by omega)
          have ej10 := jd_m hp10 hpb bb bm10
          unfold jvM at ej10
          rw [if_neg h0, if_pos rfl] at ej10
          have y1 : CH (fun x y => x = 17 ∧ ((13 ≤ y ∧ y ≤ 15) ∨ y = 17 ∨ y = 19)) m10 (put m10 17 13 1) := CH.rf.put (by omega) _
          have y2 : CH (fun x y => x = 17 ∧ ((13 ≤ y ∧ y ≤ 15) ∨ y = 17 ∨ y = 19)) m10 (put (put m10 17 13 1) 17 14 (nI (sqN (ps.getD 0 [])))) := y1.put (by omega) _
          have y5 : CH (fun x y => x = 17 ∧ ((13 ≤ y ∧ y ≤ 15) ∨ y = 17 ∨ y = 19)) m10 (put (put (put (put (put m10 17 13 1) 17 14 (nI (sqN (ps.getD 0 [])))) 17 15 (p4N (ps.getD 0 []) 8)) 17 17 0) 17 19 0) := ((y2.put (by omega) _).put (by omega) _).put (by omega) _
          have pmx : ∀ mm : Mem, CH (fun x y => x = 17 ∧ ((13 ≤ y ∧ y ≤ 15) ∨ y = 17 ∨ y = 19)) m10 mm → PM 0 mm (ps.getD 0 []) := fun mm c => by
            show SR (mm 21 0) (fun i => mm 22 (44 * 0 + i)) 44 _
            rw [c 21 0 (by omega)]
            exact hp10.congr (fun j _ => c _ _ (by omega))
          have e1 := rd_pairM (s := 0) (by decide) (pmx _ y1) hpb (i := 2) (by omega)
          have e2 := rd_fourM (s := 0) (by decide) (pmx _ y2) hpb (i := 8) (by omega)
          rw [nI_0] at e1 e2
          refine ⟨_, ?_, y5, ?_, by simp [put_at]⟩
          · unfold F_Model_receive
            rw [if_neg (by rw [lm10.1]; exact nI_ne0 hl (by omega)), ej10, rd_some, if_pos rfl, if_pos (by rw [bm10.1]; rfl), bnd_eq, show (2 : Int32) = nI 2 from rfl, e1, rd_some, bnd_eq, show (8 : Int32) = nI 8 from rfl]
            rw [← sqN_eq, e2, rd_some, bnd_eq, bnd_eq, bnd_eq]
          · obtain ⟨a1, a2, a3, a4, a5, a6⟩ := bm10
            refine ⟨by simp [put_at, nI], fun _ => ⟨by simp [put_at], by simp [put_at, nI]⟩, fun _ => by simp [put_at], fun z => absurd z (by decide), fun s hs2 => ⟨fun z => by rw [y5 21 _ (by omega)]; exact (a5 s hs2).1 z, fun r hr => ?_⟩, a6⟩
            obtain ⟨g1, q, g2, g3⟩ := (a5 s hs2).2 r hr
            rw [hbn r g1] at g2
            cases g2
      · by_cases ho : p4N (ps.getD 0 []) 8 = m 13 6
        · have ho2 : p4N (ps.getD 0 []) 8 = m 17 15 := by rw [ho, be.1 hs]
          by_cases hd1 : dsN (sqN (ps.getD 0 [])) nxt < 32768
          · by_cases hd2 : dsN (sqN (ps.getD 0 [])) nxt < 8
            · cases hbf : (buf (sqN (ps.getD 0 []) % 8)) with
              | none =>
                have hb8 := bb.2.2.2.2.1
                refine rc_tail h lb lc lm hl (st' := st) (nxt' := nxt) (mi := mi) (buf := buf) (ρ := ρ) hs ⟨bb.1, bb.2.1, bb.2.2.1, bb.2.2.2.1, fun i hi q hq2 => ?_, fun z => absurd z hs, fun z => ?_⟩ h12 hbf hd2 (mA := m) CH.rf bc (m 13 6) rfl ?_ ?_ be id
                · by_cases e : i = sqN (ps.getD 0 []) % 8
                  · subst e
                    rw [up_eq] at hq2
                    cases hq2
                    exact ⟨okp, rfl, hd2⟩
                  · rw [up_ne _ _ e] at hq2
                    exact hb8 i hi q hq2
                · obtain ⟨q, q1, q2⟩ := bb.2.2.2.2.2.2 z
                  refine ⟨q, ?_, q2⟩
                  rw [up_ne]
                  · exact q1
                  · intro w
                    rw [w, hbf] at q1
                    cases q1
                · unfold F_Buffer_accept
                  rw [ejc]
                  unfold jvC
                  have hst := bb.1
                  rw [if_neg h0, if_neg hs, if_pos ho, if_pos hd1, if_pos hd2, if_pos (by rw [hbf]; rfl), rd_some, if_pos (nI_pos' (by omega)), if_neg (by rw [bc.1]; exact nI_ne0 (by omega) (by omega))]
                · intro m10 lm10 c10
                  have bm10 := bm.cg c10 (fun x y q => by omega)
                  have ej10 := jd_m (lm10.2 0 hl) hpb bb bm10
                  unfold jvM at ej10
                  have hst := bb.1
                  rw [if_neg h0, if_neg hs, c10 17 15 (by omega), if_pos ho2, if_pos hd1, if_pos hd2, if_pos (by rw [hbf]; rfl)] at ej10
                  refine ⟨m10, ?_, CH.rf, bm10, by rw [c10 17 15 (by omega), be.1 hs]⟩
                  unfold F_Model_receive
                  rw [if_neg (by rw [lm10.1]; exact nI_ne0 hl (by omega)), ej10, rd_some, if_pos rfl, if_neg (by rw [bm10.1]; exact nI_ne0 (by omega) (by omega))]
              | some p' =>
                refine rc_ref h lb lc lm hl bb bc bm be (r := -6) (j := 6) (w := 6) (Or.inr (Or.inr (Or.inr (Or.inl ⟨rfl, rfl, rfl⟩)))) ?_ ?_
                · unfold jvC
                  rw [if_neg h0, if_neg hs, if_pos ho, if_pos hd1, if_pos hd2, hbf, if_neg (by simp)]
                · unfold jvM
                  rw [if_neg h0, if_neg hs, if_pos ho2, if_pos hd1, if_pos hd2, hbf, if_neg (by simp)]
            · refine rc_ref h lb lc lm hl bb bc bm be (r := -5) (j := 5) (w := 5) (Or.inr (Or.inr (Or.inl ⟨rfl, rfl, rfl⟩))) ?_ ?_
              · unfold jvC
                rw [if_neg h0, if_neg hs, if_pos ho, if_pos hd1, if_neg hd2]
              · unfold jvM
                rw [if_neg h0, if_neg hs, if_pos ho2, if_pos hd1, if_neg hd2]
          · refine rc_ref h lb lc lm hl bb bc bm be (r := -4) (j := 4) (w := 4) (Or.inr (Or.inl ⟨rfl, rfl, rfl⟩)) ?_ ?_
            · unfold jvC
              rw [if_neg h0, if_neg hs, if_pos ho, if_neg hd1]
            · unfold jvM
              rw [if_neg h0, if_neg hs, if_pos ho2, if_neg hd1]
        · have ho2 : ¬ p4N (ps.getD 0 []) 8 = m 17 15 := by rw [← be.1 hs]; exact ho
          refine rc_ref h lb lc lm hl bb bc bm be (r := -7) (j := 7) (w := 7) (Or.inr (Or.inr (Or.inr (Or.inr ⟨rfl, rfl, rfl⟩)))) ?_ ?_
          · unfold jvC
            rw [if_neg h0, if_neg hs, if_neg ho]
          · unfold jvM
            rw [if_neg h0, if_neg hs, if_neg ho2]
  · have e0 : ps.length = 0 := by omega
    refine ⟨-2, m, m, ?_, ?_, h⟩
    · unfold F_Gate_receive
      rw [wi_no lc (i := 0) (Or.inr (by rw [e0]; decide)), rd_some, om_no]
    · show F_Model_receive m = _
      unfold F_Model_receive
      rw [if_pos (by rw [lm.1, e0]; rfl)]
end R3
