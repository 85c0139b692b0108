-- receive, both sides
theorem kd_bf : ∀ r, r < 8 → kd (41 + 2 * r) = 3 := by decide
def jvC (p : List Int32) (own : Int32) (st nxt : Nat) (buf : Nat → Option (List Int32)) : Int32 := if smN p = 0 then -1 else if st = 0 then 0 else if p4N p 8 = own then (if dsN (sqN p) nxt < 32768 then (if dsN (sqN p) nxt < 8 then (if (buf (sqN p % 8)).isSome = false then nI (dsN (sqN p) nxt) else -6) else -5) else -4) else -7
def jvM (p : List Int32) (own : Int32) (st nxt : Nat) (buf : Nat → Option (List Int32)) : Int32 := if smN p = 0 then -1 else if st = 0 then 0 else if p4N p 8 = own then (if dsN (sqN p) nxt < 32768 then (if dsN (sqN p) nxt < 8 then (if (buf (sqN p % 8)).isSome = false then 0 else -6) else -5) else -4) else -7
section R2
variable {m : Mem} {st nxt mi : Nat} {buf : Nat → Option (List Int32)} {ρ : Nat → Option Nat} {p : List Int32}
theorem jd_c {t : Nat} (ht : kd t = 3) (hp : PC t m p) (hb : ∀ b ∈ p, IsB b) (bb : BB st nxt mi buf) (bc : BC m st nxt mi buf) : F_Buffer_judge m t = some (jvC p (m 13 6) st nxt buf) := by
  obtain ⟨s1, s2⟩ := rd_snd ht hp hb
  unfold F_Buffer_judge jvC
  rw [s1, rd_some]
  by_cases h0 : smN p = 0
  · rw [if_pos h0, if_pos rfl, if_pos h0]
  · obtain ⟨-, -, h12⟩ := s2 h0
    have hq : sqN p < 65536 := p2_lt hb (i := 2) (by omega)
    rw [if_neg h0, if_neg (by decide), if_neg h0, bc.1]
    have hst := bb.1
    by_cases hs : st = 0
    · rw [if_pos (by rw [hs]; rfl), if_pos hs]
    · have esq : F_Packet_sequence m t = some (nI (sqN p)) := by
        unfold F_Packet_sequence
        rw [show (2 : Int32) = nI 2 from rfl, rd_pair ht hp hb (by omega), rd_some]
        rfl
      have hd : dsN (sqN p) nxt < 65536 := Nat.mod_lt _ (by decide)
      obtain ⟨d1, d2⟩ := dv_lt hd
      rw [if_neg (nI_ne0 (by omega) (by omega)), if_neg hs]
      unfold F_Packet_source
      rw [show (8 : Int32) = nI 8 from rfl, rd_four ht hp hb (by omega), rd_some, rd_some]
      by_cases ho : p4N p 8 = m 13 6
      · rw [if_pos ho, if_pos ho, esq, rd_some, ds_c hq bb.2.1 (bc.2.1 hs), rd_some]
        by_cases hd1 : dsN (sqN p) nxt < 32768
        · rw [if_pos (d1.mpr hd1), if_pos hd1, d2 hd1]
          by_cases hd2 : dsN (sqN p) nxt < 8
          · obtain ⟨-, g2, g3⟩ := bc.2.2.2.2 (sqN p % 8) (Nat.mod_lt _ (by decide))
            rw [if_pos (nI_lt hd2 (by decide)), if_pos hd2, rd_some, pl_eq hq, rd_some, if_neg (show ¬ (nI (sqN p % 8) < 0 ∨ ln 15 ≤ (nI (sqN p % 8)).toNatClampNeg) from nI_in (N := 8) (by omega) (by decide)), nI_clamp (by omega)]
            cases hbf : buf (sqN p % 8) with
            | none => rw [if_pos (g2 hbf)]; rfl
            | some p' => rw [if_neg (by rw [(g3 p' hbf).1]; decide)]; rfl
          · rw [if_neg (nI_nlt (by omega) (by omega)), if_neg hd2]
        · rw [if_neg (fun z => hd1 (d1.mp z)), if_neg hd1]
      · rw [if_neg ho, if_neg ho]
theorem jd_m (hp : PM 0 m p) (hb : ∀ b ∈ p, IsB b) (bb : BB st nxt mi buf) (bm : BM m st nxt mi buf ρ) : F_Model_refusal m = some (jvM p (m 17 15) st nxt buf) := by
  unfold F_Model_refusal jvM
  have e0 : (0 : Int32) = nI 0 := nI_0.symm
  have hsm := rd_smM (s := 0) (by decide) hp hb
  rw [nI_0] at hsm
  rw [hsm, rd_some]
  by_cases h0 : smN p = 0
  · rw [if_pos (by rw [h0]; rfl), if_pos h0]
  · have h12 : 12 < p.length := by
      rcases Nat.lt_or_ge 12 p.length with q | q
      · exact q
      · exact absurd (by unfold smN; rw [if_pos (Or.inl q)]) h0
    have hl := hp.2.1
    have sm16 : smN p < 100 := by
      unfold smN
      repeat' split
      all_goals omega
    have hq : sqN p < 65536 := p2_lt hb (i := 2) (by omega)
    have hst := bb.1
    rw [if_neg (nI_ne0 (by omega) (by omega)), if_neg h0, bm.1]
    by_cases hs : st = 0
    · rw [if_pos (by rw [hs]; rfl), if_pos hs]
    · have hd : dsN (sqN p) nxt < 65536 := Nat.mod_lt _ (by decide)
      obtain ⟨d1, d2⟩ := dv_lt hd
      have epr := rd_pairM (s := 0) (by decide) hp hb (i := 2) (by omega)
      have ewd := rd_fourM (s := 0) (by decide) hp hb (i := 8) (by omega)
      rw [nI_0] at epr ewd
      have hhe : ∃ z : Int32, F_Model_held m (nI (sqN p)) = some z ∧ (dsN (sqN p) nxt < 8 → (z < 0 ↔ (buf (sqN p % 8)).isSome = false)) := by
        cases hbf : buf (sqN p % 8) with
        | none =>
          refine ⟨-1, he_no bb bm hq (fun p' z => by rw [hbf] at z; cases z), fun _ => ⟨fun _ => rfl, fun _ => by decide⟩⟩
        | some p' =>
          obtain ⟨ok', q1, q2⟩ := bb.2.2.2.2.1 (sqN p % 8) (Nat.mod_lt _ (by decide)) p' hbf
          by_cases e : sqN p' = sqN p
          · obtain ⟨s, s1, -, s3, -⟩ := he_yes bb bm hq hbf e
            exact ⟨_, s3, fun _ => ⟨fun z => absurd z (nI_pos (by omega)), fun z => by cases z⟩⟩
          · refine ⟨-1, he_no bb bm hq (fun p2 z => by rw [hbf] at z; cases z; exact e), fun h8 => ?_⟩
            have hq' : sqN p' < 65536 := p2_lt ok'.2.1 (i := 2) (by have := okP_len ok'; omega)
            exact absurd (ds_same hq' hq bb.2.1 q2 h8 q1) e
      obtain ⟨z, z1, z2⟩ := hhe
      rw [if_neg (nI_ne0 (by omega) (by omega)), if_neg hs, show (2 : Int32) = nI 2 from rfl, epr, rd_some, show (8 : Int32) = nI 8 from rfl, ewd, rd_some, ← sqN_eq, ds_m hq bb.2.1 (bm.2.1 hs).1, rd_some, z1, rd_some]
      by_cases ho : p4N p 8 = m 17 15
      · rw [if_pos ho, if_pos ho]
        by_cases hd1 : dsN (sqN p) nxt < 32768
        · rw [if_pos (d1.mpr hd1), if_pos hd1, d2 hd1]
          by_cases hd2 : dsN (sqN p) nxt < 8
          · rw [if_pos (kLE 7 7 rfl (by omega) (by decide)), if_pos hd2]
            by_cases hz : z < 0
            · rw [if_pos hz, if_pos ((z2 hd2).mp hz)]
            · rw [if_neg hz, if_neg (fun w => hz ((z2 hd2).mpr w))]
          · rw [if_neg (kNLE 7 7 rfl (by omega) (by omega)), if_neg hd2]
        · rw [if_neg (fun w => hd1 (d1.mp w)), if_neg hd1]
      · rw [if_neg ho, if_neg ho]
/-- which counter a refusal counts in -/
def RJ (r : Int32) (j w : Nat) : Prop := (r = -1 ∧ j = 1 ∧ w = 3) ∨ (r = -4 ∧ j = 4 ∧ w = 4) ∨ (r = -5 ∧ j = 5 ∧ w = 5) ∨ (r = -6 ∧ j = 6 ∧ w = 6) ∨ (r = -7 ∧ j = 7 ∧ w = 7)
theorem ac_ref {t : Nat} {r : Int32} {j w : Nat} (hr : RJ r j w) (h : F_Buffer_judge m t = some r) : F_Buffer_accept m t = some (r, put m 16 j (m 16 j + 1)) := by
  unfold F_Buffer_accept
  rw [h, rd_some]
  rcases hr with ⟨rfl, rfl, rfl⟩ | ⟨rfl, rfl, rfl⟩ | ⟨rfl, rfl, rfl⟩ | ⟨rfl, rfl, rfl⟩ | ⟨rfl, rfl, rfl⟩ <;> rfl
theorem re_ref {r : Int32} {j w : Nat} (hr : RJ r j w) (h0 : ¬ m 17 10 = 0) (h : F_Model_refusal m = some r) : F_Model_receive m = rd (F_Model_remove (put m 24 w (m 24 w + 1)) 0) (fun m15 => some (r, m15)) := by
  unfold F_Model_receive
  rw [if_neg h0, h, rd_some]
  rcases hr with ⟨rfl, rfl, rfl⟩ | ⟨rfl, rfl, rfl⟩ | ⟨rfl, rfl, rfl⟩ | ⟨rfl, rfl, rfl⟩ | ⟨rfl, rfl, rfl⟩ <;> rfl
theorem BE.inc {m' : Mem} {j w : Nat} {r : Int32} (hr : RJ r j w) (h : BE m st) (c : CH (fun x y => (x = 16 ∧ y = j) ∨ (x = 24 ∧ y = w) ∨ (x = 7 ∧ y = 1) ∨ x = 8 ∨ (x = 17 ∧ y = 10) ∨ (x = 21 ∧ y < 8) ∨ (x = 22 ∧ y < 352)) m m') (e1 : m' 16 j = m 16 j + 1) (e2 : m' 24 w = m 24 w + 1) : BE m' st := by
  obtain ⟨a1, a2, a3, a4, a5, a6, a7, a8, a9, a10, a11⟩ := h
  unfold BE
  rcases hr with ⟨-, rfl, rfl⟩ | ⟨-, rfl, rfl⟩ | ⟨-, rfl, rfl⟩ | ⟨-, rfl, rfl⟩ | ⟨-, rfl, rfl⟩
  · rw [c 13 6 (by omega), c 17 15 (by omega), c 13 7 (by omega), c 17 16 (by omega), c 11 2 (by omega), c 17 18 (by omega), c 11 4 (by omega), c 24 8 (by omega), c 11 5 (by omega), c 24 9 (by omega), e1, e2, c 16 4 (by omega), c 24 4 (by omega), c 16 5 (by omega), c 24 5 (by omega), c 16 6 (by omega), c 24 6 (by omega), c 16 7 (by omega), c 24 7 (by omega), a7]
    exact ⟨a1, a2, a3, a4, a5, a6, rfl, a8, a9, a10, a11⟩
  · rw [c 13 6 (by omega), c 17 15 (by omega), c 13 7 (by omega), c 17 16 (by omega), c 11 2 (by omega), c 17 18 (by omega), c 11 4 (by omega), c 24 8 (by omega), c 11 5 (by omega), c 24 9 (by omega), e1, e2, c 16 1 (by omega), c 24 3 (by omega), c 16 5 (by omega), c 24 5 (by omega), c 16 6 (by omega), c 24 6 (by omega), c 16 7 (by omega), c 24 7 (by omega), a8]
    exact ⟨a1, a2, a3, a4, a5, a6, a7, rfl, a9, a10, a11⟩
  · rw [c 13 6 (by omega), c 17 15 (by omega), c 13 7 (by omega), c 17 16 (by omega), c 11 2 (by omega), c 17 18 (by omega), c 11 4 (by omega), c 24 8 (by omega), c 11 5 (by omega), c 24 9 (by omega), e1, e2, c 16 1 (by omega), c 24 3 (by omega), c 16 4 (by omega), c 24 4 (by omega), c 16 6 (by omega), c 24 6 (by omega), c 16 7 (by omega), c 24 7 (by omega), a9]
    exact ⟨a1, a2, a3, a4, a5, a6, a7, a8, rfl, a10, a11⟩
  · rw [c 13 6 (by omega), c 17 15 (by omega), c 13 7 (by omega), c 17 16 (by omega), c 11 2 (by omega), c 17 18 (by omega), c 11 4 (by omega), c 24 8 (by omega), c 11 5 (by omega), c 24 9 (by omega), e1, e2, c 16 1 (by omega), c 24 3 (by omega), c 16 4 (by omega), c 24 4 (by omega), c 16 5 (by omega), c 24 5 (by omega), c 16 7 (by omega), c 24 7 (by omega), a10]
    exact ⟨a1, a2, a3, a4, a5, a6, a7, a8, a9, rfl, a11⟩
  · rw [c 13 6 (by omega), c 17 15 (by omega), c 13 7 (by omega), c 17 16 (by omega), c 11 2 (by omega), c 17 18 (by omega), c 11 4 (by omega), c 24 8 (by omega), c 11 5 (by omega), c 24 9 (by omega), e1, e2, c 16 1 (by omega), c 24 3 (by omega), c 16 4 (by omega), c 24 4 (by omega), c 16 5 (by omega), c 24 5 (by omega), c 16 6 (by omega), c 24 6 (by omega), a11]
    exact ⟨a1, a2, a3, a4, a5, a6, a7, a8, a9, a10, rfl⟩
theorem rc_ref (h : Inv m) {ps : List (List Int32)} {π : Nat → Nat} (lb : LB ps) (lc : LC m ps π) (lm : LM m ps) (hl : 0 < ps.length) (bb : BB st nxt mi buf) (bc : BC m st nxt mi buf) (bm : BM m st nxt mi buf ρ) (be : BE m st) {r : Int32} {j w : Nat} (hr : RJ r j w) (hj : jvC (ps.getD 0 []) (m 13 6) st nxt buf = r) (hj2 : jvM (ps.getD 0 []) (m 17 15) st nxt buf = r) : Step m (F_Gate_receive m) (fun m1 => F_Model_receive m1) := by
  obtain ⟨i1, i2, i3, i4, i5, i6, i8⟩ := id h
  have hjw : 1 ≤ j ∧ j ≤ 7 ∧ 3 ≤ w ∧ w ≤ 7 := by
    rcases hr with ⟨-, rfl, rfl⟩ | ⟨-, rfl, rfl⟩ | ⟨-, rfl, rfl⟩ | ⟨-, rfl, rfl⟩ | ⟨-, rfl, rfl⟩ <;> omega
  obtain ⟨p1, p2⟩ := lc.pk lb.1 hl
  have hpb := lb.mem hl
  have ej := jd_c p1 p2 hpb bb bc
  rw [hj] at ej
  have eac := ac_ref hr ej
  have c1 : CH (fun x y => x = 16 ∧ y = j) m (put m 16 j (m 16 j + 1)) := CH.rf.put ⟨rfl, rfl⟩ _
  have lc1 := lc.cg lb.1 c1 (fun x y q => by omega)
  obtain ⟨m10, π', g1, g2, g3⟩ := lc1.lose lb.1 hl
  have c10 : CH (fun x y => (x = 16 ∧ y = j) ∨ (x = 7 ∧ y = 1) ∨ x = 8) m m10 := (c1.mo (fun x y q => by omega)).tr (g3.mo (fun x y q => by omega))
  have lm10 := lm.cg lb.1 c10 (fun x y q => by omega)
  have bm10 := bm.cg c10 (fun x y q => by omega)
  have ejm := jd_m (lm10.2 0 hl) hpb bb bm10
  rw [c10 17 15 (by omega), hj2] at ejm
  have lb1 := lb.1
  have ere := re_ref hr (by rw [lm10.1]; exact nI_ne0 hl (by omega)) ejm
  have c2 : CH (fun x y => x = 24 ∧ y = w) m10 (put m10 24 w (m10 24 w + 1)) := CH.rf.put ⟨rfl, rfl⟩ _
  have lm11 := lm10.cg lb.1 c2 (fun x y q => by omega)
  obtain ⟨m15, f1, f2, f3⟩ := lm11.rem lb.1 hl
  rw [nI_0] at f1 g1
  have cT : CH (fun x y => (x = 16 ∧ y = j) ∨ (x = 24 ∧ y = w) ∨ (x = 7 ∧ y = 1) ∨ x = 8 ∨ (x = 17 ∧ y = 10) ∨ (x = 21 ∧ y < 8) ∨ (x = 22 ∧ y < 352)) m m15 := ((c10.mo (fun x y q => by omega)).tr (c2.mo (fun x y q => by omega))).tr (f3.mo (fun x y q => by omega))
  have c23 : CH (fun x y => (x = 24 ∧ y = w) ∨ (x = 17 ∧ y = 10) ∨ (x = 21 ∧ y < 8) ∨ (x = 22 ∧ y < 352)) m10 m15 := (c2.mo (fun x y q => by omega)).tr (f3.mo (fun x y q => by omega))
  refine ⟨r, m10, m15, ?_, ?_, i1.cg cT (fun x y q => by omega), i2.cg cT (fun x y q => by omega), i3.cg cT (fun x y q => by omega), ⟨_, π', lb.er 0, g2.cg (lb.er 0).1 c23 (fun x y q => by omega), f2⟩, i5.cg cT (fun x y q => by omega), ⟨st, nxt, mi, buf, ρ, bb, bc.cg cT (fun x y q => by omega), bm.cg cT (fun x y q => by omega), be.inc hr cT ?_ ?_⟩, i8.cg cT (fun x y q => by omega)⟩
  · unfold F_Gate_receive
    have ew := wi_at lb.1 lc hl
    rw [nI_0] at ew
    rw [ew, rd_some, om_so, gp_pos p1, eac, cal_some, g1, cal_some]
  · show F_Model_receive m10 = _
    rw [ere, f1, rd_some]
  · rw [c23 16 j (by omega), g3 16 j (by omega)]
    simp [put_at]
  · rw [f3 24 w (by omega), put_at, if_pos rfl, if_pos rfl, c10 24 w (by omega)]
end R2
