-- THE CLASS PLAYS A PACKET
theorem cb_del {buf : Nat → Option (List Int32)} {r : Nat} (hr : r < 8) {p : List Int32} (h : buf r = some p) : cbN buf = cbN (va_up buf r none) + 1 := by
  unfold cbN
  exact c8_up hr (by rw [up_eq]; rfl) (by rw [h]; rfl) (fun s hs => by rw [up_ne _ _ hs])
theorem cn_del {ρ : Nat → Option Nat} {s r : Nat} (hs : s < 8) (h : ρ s = some r) : cnS ρ = cnS (va_up ρ s none) + 1 := by
  unfold cnS
  exact c8_up hs (by rw [up_eq]; rfl) (by rw [h]; rfl) (fun i hi => by rw [up_ne _ _ hi])
theorem up_no {α : Type} {f : Nat → Option α} {r : Nat} (h : f r = none) : va_up f r none = f := by
  funext i
  by_cases e : i = r
  · rw [e, up_eq, h]
  · rw [up_ne _ _ e]
section PC
variable {m : Mem} {st nxt mi : Nat} {buf : Nat → Option (List Int32)} {ρ : Nat → Option Nat} {p ys : List Int32}
theorem go_34 {m0 : Mem} (hn : nxt < 65536) (h5 : m0 13 5 = nI nxt) : F_Buffer_goOn_34 m0 = some (put (put m0 13 5 (nI ((nxt + 1) % 65536))) 13 3 2) := by
  unfold F_Buffer_goOn_34
  rw [h5, sq_cls hn, rd_some]
  rfl
theorem go_ok (h : BC m st nxt mi buf) (hst : st ≠ 0) (hn : nxt < 65536) : ∃ m', F_Buffer_goOn m = some m' ∧ BC m' 2 ((nxt + 1) % 65536) mi (va_up buf (nxt % 8) none) ∧ CH (fun x y => (x = 15 ∧ y = nxt % 8) ∨ (x = 13 ∧ (y = 3 ∨ y = 4 ∨ y = 5))) m m' := by
  obtain ⟨h1, h2, h3, h4, h5⟩ := id h
  have hr : nxt % 8 < 8 := Nat.mod_lt _ (by decide)
  obtain ⟨g1, g2, g3⟩ := h5 (nxt % 8) hr
  have gB : ¬ (nI (nxt % 8) < 0 ∨ ln 15 ≤ (nI (nxt % 8)).toNatClampNeg) := nI_in (N := 8) hr (by decide)
  have n2 : nI 2 = 2 := rfl
  cases hbf : buf (nxt % 8) with
  | none =>
    have c : CH (fun x y => (x = 15 ∧ y = nxt % 8) ∨ (x = 13 ∧ (y = 3 ∨ y = 4 ∨ y = 5))) m (put (put m 13 5 (nI ((nxt + 1) % 65536))) 13 3 2) := (CH.rf.put (by omega) _).put (by omega) _
    have c' : CH (fun x y => x = 13 ∧ (y = 3 ∨ y = 5)) m (put (put m 13 5 (nI ((nxt + 1) % 65536))) 13 3 2) := (CH.rf.put (by omega) _).put (by omega) _
    refine ⟨_, ?_, ?_, c⟩
    · unfold F_Buffer_goOn
      rw [h2 hst, pl_eq hn, rd_some, if_neg gB, nI_clamp (by omega), if_pos (g2 hbf)]
      exact go_34 hn (h2 hst)
    · rw [up_no hbf]
      refine ⟨by simp [put_at, n2], fun _ => by simp [put_at], by rw [c' 11 3 (by omega)]; exact h3, by rw [c' 13 4 (by omega)]; exact h4, fun r hr => ?_⟩
      obtain ⟨k1, k2, k3⟩ := h5 r hr
      refine ⟨by rw [c' 14 r (by omega)]; exact k1, fun z => by rw [c' 15 r (by omega)]; exact k2 z, fun q hq => ?_⟩
      obtain ⟨k4, k5⟩ := k3 q hq
      rw [c' 15 r (by omega), c' (41 + 2 * r) 1 (by omega)]
      exact ⟨k4, k5.congr (fun j _ => c' _ _ (by omega))⟩
  | some p =>
    have hcb := cb_del hr hbf
    have e4 : m 13 4 - 1 = nI (cbN (va_up buf (nxt % 8) none)) := by
      rw [h4, show (1 : Int32) = nI 1 from rfl, pk_sub (by omega), hcb]
      rfl
    have c : CH (fun x y => (x = 15 ∧ y = nxt % 8) ∨ (x = 13 ∧ (y = 3 ∨ y = 4 ∨ y = 5))) m (put (put (put (put m 15 (nxt % 8) 0) 13 4 (nI (cbN (va_up buf (nxt % 8) none)))) 13 5 (nI ((nxt + 1) % 65536))) 13 3 2) := (((CH.rf.put (by omega) _).put (by omega) _).put (by omega) _).put (by omega) _
    refine ⟨_, ?_, ?_, c⟩
    · unfold F_Buffer_goOn
      rw [h2 hst, pl_eq hn, rd_some, if_neg gB, nI_clamp (by omega), if_neg (by rw [(g3 p hbf).1]; decide), bnd_eq, bnd_eq, show vp_nar .boolean (0 : Int32) = 0 from rfl, show put m 15 (nxt % 8) 0 13 4 = m 13 4 by simp [put_at], e4]
      exact go_34 hn (by simp [put_at, h2 hst])
    · refine ⟨by simp [put_at, n2], fun _ => by simp [put_at], by rw [c 11 3 (by omega)]; exact h3, by simp [put_at], fun r hr => ?_⟩
      obtain ⟨k1, k2, k3⟩ := h5 r hr
      refine ⟨by rw [c 14 r (by omega)]; exact k1, fun z => ?_, fun q hq => ?_⟩
      · by_cases e : r = nxt % 8
        · rw [e]
          simp [put_at]
        · rw [up_ne _ _ e] at z
          rw [c 15 r (by omega)]
          exact k2 z
      · by_cases e : r = nxt % 8
        · rw [e, up_eq] at hq
          cases hq
        · rw [up_ne _ _ e] at hq
          obtain ⟨k4, k5⟩ := k3 q hq
          rw [c 15 r (by omega), c (41 + 2 * r) 1 (by omega)]
          exact ⟨k4, k5.congr (fun j _ => c _ _ (by omega))⟩
theorem ti_c {t : Nat} (ht : kd t = 3) (ok : okP p) (hp : PC t m p) : F_Packet_time m t = some (p4N p 4) := by
  have h12 := okP_len ok
  unfold F_Packet_time
  rw [show (4 : Int32) = nI 4 from rfl, rd_four ht hp ok.2.1 (by omega), rd_some]
theorem mk_c {t : Nat} (ht : kd t = 3) (ok : okP p) (hp : PC t m p) : F_Packet_hasMark m t = some (if (p.getD 1 0).toNatClampNeg < 128 then 0 else 1) := by
  have h12 := okP_len ok
  obtain ⟨b1, b2⟩ := getB ok.2.1 (i := 1) (by omega)
  obtain ⟨-, -, -, -, k, -⟩ := nb_c _ b2
  rw [← b1] at k
  unfold F_Packet_hasMark
  rw [ln_byt ht, if_neg (by decide), show (1 : Int32).toNatClampNeg = 1 from rfl, hp.2.2 1 (by omega)]
  by_cases q : (p.getD 1 0).toNatClampNeg < 128
  · rw [if_pos (k.mpr q), if_pos q]
  · rw [if_neg (fun z => q (k.mp z)), if_neg q]
/-- is the time a jump -/
def jpN (st : Nat) (p : List Int32) (e : Int32) : Int32 := if st = 2 then (if (p.getD 1 0).toNatClampNeg < 128 then (if p4N p 4 = e then 0 else 1) else 0) else 0
theorem p66_ok {xs0 : List Int32} (bc : BC m st nxt mi buf) (hst : st ≠ 0) (hn : nxt < 65536) (hb : buf (nxt % 8) = some p) (ok : okP p) (hz : SR (m 5 1) (m 6) 16 xs0) (hy : SR (m 3 1) (m 4) 256 ys) (hr : ys.length + smN p ≤ 256) : ∃ m', F_Player_playPacket_66 m (41 + 2 * (nxt % 8)) 3 (nI (smN p)) = some (nI (smN p), m') ∧ m' 11 2 = p4N p 4 + nI (smN p) ∧ SR (m' 5 1) (m' 6) 16 (spl p (smN p)) ∧ SR (m' 3 1) (m' 4) 256 (ys ++ spl p (smN p)) ∧ BC m' 2 ((nxt + 1) % 65536) 0 (va_up buf (nxt % 8) none) ∧ CH (fun x y => (x = 11 ∧ (y = 2 ∨ y = 3)) ∨ (x = 5 ∧ y = 1) ∨ x = 6 ∨ x = 12 ∨ (x = 3 ∧ y = 1) ∨ x = 4 ∨ x = 15 ∨ (x = 13 ∧ (y = 3 ∨ y = 4 ∨ y = 5))) m m' := by
  have hr8 : nxt % 8 < 8 := Nat.mod_lt _ (by decide)
  have ht := kd_bf (nxt % 8) hr8
  have hp : PC (41 + 2 * (nxt % 8)) m p := by
    show SR _ (m (41 + 2 * (nxt % 8) + 1)) 44 p
    rw [show 41 + 2 * (nxt % 8) + 1 = 42 + 2 * (nxt % 8) by omega]
    exact ((bc.2.2.2.2 (nxt % 8) hr8).2.2 p hb).2
  have c1 : CH (fun x y => (x = 11 ∧ y = 2) ∨ (x = 5 ∧ y = 1)) m (put (put m 11 2 (p4N p 4 + nI (smN p))) 5 1 0) := (CH.rf.put (by omega) _).put (by omega) _
  have hx0 : SR (put (put m 11 2 (p4N p 4 + nI (smN p))) 5 1 0 5 1) (put (put m 11 2 (p4N p 4 + nI (smN p))) 5 1 0 (5 + 1)) (ln (5 + 1)) [] := by
    rw [show put (put m 11 2 (p4N p 4 + nI (smN p))) 5 1 0 5 1 = 0 by simp [put_at]]
    exact SR.nil
  obtain ⟨m18, a1, a2, a3⟩ := ri_ok ht (by omega) ok (hp.cg c1 (by omega) (fun j => by omega)) hx0
  have c18 : CH (fun x y => (x = 11 ∧ y = 2) ∨ (x = 5 ∧ y = 1) ∨ x = 6 ∨ x = 12) m m18 := (c1.mo (fun x y q => by omega)).tr (a3.mo (fun x y q => by omega))
  have hy18 : SR (m18 3 1) (m18 (3 + 1)) (ln (3 + 1)) ys := by
    rw [c18 3 1 (by omega)]
    exact (show SR (m 3 1) (m (3 + 1)) (ln (3 + 1)) ys from hy).congr (fun j _ => c18 _ _ (by omega))
  have l4 : ln (3 + 1) = 256 := rfl
  obtain ⟨m20, b1, b2, b3⟩ := sa_first (k := 3) (l := 5) (cnt := smN p) (by decide) (by decide) (by decide) (by decide) (by decide) (ys := spl p (smN p)) (by rw [spl_len]; exact Nat.le_refl _) (smN p) 300 0 m18 ys (by omega) (by have := (okP_cases ok).1; omega) hy18 a2 (by omega)
  rw [List.drop_zero, List.take_of_length_le (by rw [spl_len]; exact Nat.le_refl _)] at b2
  have c21 : CH (fun x y => (x = 11 ∧ (y = 2 ∨ y = 3)) ∨ (x = 5 ∧ y = 1) ∨ x = 6 ∨ x = 12 ∨ (x = 3 ∧ y = 1) ∨ x = 4) m (put m20 11 3 0) := ((c18.mo (fun x y q => by omega)).tr (b3.mo (fun x y q => by omega))).put (by omega) _
  have bc21 : BC (put m20 11 3 0) st nxt 0 buf := by
    obtain ⟨h1, h2, h3, h4, h5⟩ := bc
    refine ⟨by rw [c21 13 3 (by omega)]; exact h1, fun z => by rw [c21 13 5 (by omega)]; exact h2 z, by simp [put_at, nI_0], by rw [c21 13 4 (by omega)]; exact h4, fun r hr => ?_⟩
    obtain ⟨k1, k2, k3⟩ := h5 r hr
    refine ⟨by rw [c21 14 r (by omega)]; exact k1, fun z => by rw [c21 15 r (by omega)]; exact k2 z, fun q hq => ?_⟩
    obtain ⟨k4, k5⟩ := k3 q hq
    rw [c21 15 r (by omega), c21 (41 + 2 * r) 1 (by omega)]
    exact ⟨k4, k5.congr (fun j _ => c21 _ _ (by omega))⟩
  obtain ⟨m23, d1, d2, d3⟩ := go_ok bc21 hst hn
  have cE : CH (fun x y => (x = 11 ∧ y = 3) ∨ x = 15 ∨ (x = 13 ∧ (y = 3 ∨ y = 4 ∨ y = 5))) m20 m23 := (CH.put (P := fun x y => (x = 11 ∧ y = 3) ∨ x = 15 ∨ (x = 13 ∧ (y = 3 ∨ y = 4 ∨ y = 5))) CH.rf (by omega) _).tr (d3.mo (fun x y q => by omega))
  refine ⟨m23, ?_, ?_, ?_, ?_, d2, (c21.mo (fun x y q => by omega)).tr (d3.mo (fun x y q => by omega))⟩
  · unfold F_Player_playPacket_66 F_Samples_clear F_Samples_addFirstOf
    rw [ti_c ht ok hp, rd_some, bnd_eq, bnd_eq, rd_some, a1, rd_some, show (0 : Int32) = nI 0 from nI_0.symm, b1, rd_some, bnd_eq, nI_0, d1, rd_some]
  · rw [cE 11 2 (by omega), b3 11 2 (by omega), a3 11 2 (by omega)]
    simp [put_at]
  · rw [cE 5 1 (by omega), b3 5 1 (by omega)]
    exact (show SR (m18 5 1) (m18 6) 16 (spl p (smN p)) from a2).congr (fun j _ => by rw [cE 6 j (by omega), b3 6 j (by omega)])
  · rw [cE 3 1 (by omega)]
    exact (show SR (m20 3 1) (m20 4) 256 (ys ++ spl p (smN p)) from b2).congr (fun j _ => by rw [cE 4 j (by omega)])
theorem pp_ok (bb : BB st nxt mi buf) (bc : BC m st nxt mi buf) (hst : st ≠ 0) (hb : buf (nxt % 8) = some p) {xs0 : List Int32} (hz : SR (m 5 1) (m 6) 16 xs0) (hy : SR (m 3 1) (m 4) 256 ys) (hr : ys.length + smN p ≤ 256) : ∃ m', F_Player_playPacket m (41 + 2 * (nxt % 8)) 3 = some (nI (smN p), m') ∧ m' 11 5 = m 11 5 + jpN st p (m 11 2) ∧ m' 11 2 = p4N p 4 + nI (smN p) ∧ SR (m' 5 1) (m' 6) 16 (spl p (smN p)) ∧ SR (m' 3 1) (m' 4) 256 (ys ++ spl p (smN p)) ∧ BC m' 2 ((nxt + 1) % 65536) 0 (va_up buf (nxt % 8) none) ∧ CH (fun x y => (x = 11 ∧ (y = 2 ∨ y = 3 ∨ y = 5)) ∨ (x = 5 ∧ y = 1) ∨ x = 6 ∨ x = 12 ∨ (x = 3 ∧ y = 1) ∨ x = 4 ∨ x = 15 ∨ (x = 13 ∧ (y = 3 ∨ y = 4 ∨ y = 5))) m m' := by
  have hr8 : nxt % 8 < 8 := Nat.mod_lt _ (by decide)
  have ht := kd_bf (nxt % 8) hr8
  have ok := (bb.2.2.2.2.1 _ hr8 p hb).1
  have hn := bb.2.1
  have h16 := (okP_cases ok).1
  have hp : PC (41 + 2 * (nxt % 8)) m p := by
    show SR _ (m (41 + 2 * (nxt % 8) + 1)) 44 p
    rw [show 41 + 2 * (nxt % 8) + 1 = 42 + 2 * (nxt % 8) by omega]
    exact ((bc.2.2.2.2 (nxt % 8) hr8).2.2 p hb).2
  have esm := ((rd_snd ht hp ok.2.1).2 ok.2.2).1
  have hy' : SR (m 3 1) (m (3 + 1)) (ln (3 + 1)) ys := hy
  have ero : F_Samples_hasRoom m 3 (nI (smN p)) = some 1 := by
    rw [sa_room hy' (by decide) (by omega), if_pos (show ys.length + smN p ≤ ln (3 + 1) from hr)]
  have hst2 := bb.1
  have key : F_Player_playPacket m (41 + 2 * (nxt % 8)) 3 = F_Player_playPacket_66 (if jpN st p (m 11 2) = 0 then m else put m 11 5 (m 11 5 + 1)) (41 + 2 * (nxt % 8)) 3 (nI (smN p)) := by
    unfold F_Player_playPacket F_Buffer_state jpN
    rw [esm, rd_some, ero, rd_some, if_neg (by decide), rd_some, bc.1]
    by_cases s2 : st = 2
    · rw [if_pos (by rw [s2]; rfl), if_pos s2]
      unfold F_Player_playPacket_31
      rw [if_neg (by decide), mk_c ht ok hp, rd_some]
      by_cases q : (p.getD 1 0).toNatClampNeg < 128
      · rw [if_pos q, if_pos q, if_pos rfl, ti_c ht ok hp, rd_some]
        by_cases w : p4N p 4 = m 11 2
        · rw [if_pos w, if_pos w, if_pos rfl]
        · rw [if_neg w, if_neg w, if_neg (by decide), bnd_eq]
      · rw [if_neg q, if_neg q, if_neg (by decide), if_pos rfl]
    · rw [if_neg (by rw [show (2 : Int32) = nI 2 from rfl, nI_eq (by omega) (by decide)]; exact s2), if_neg s2, if_pos rfl]
      unfold F_Player_playPacket_31
      rw [if_pos rfl]
  have jc : jpN st p (m 11 2) = 0 ∨ jpN st p (m 11 2) = 1 := by
    unfold jpN
    repeat' split
    all_goals simp
  rw [key]
  rcases jc with j | j
  · rw [if_pos j, j]
    obtain ⟨m', a1, a2, a3, a4, a5, a6⟩ := p66_ok bc hst hn hb ok hz hy hr
    exact ⟨m', a1, by rw [a6 11 5 (by omega), Int32.add_zero], a2, a3, a4, a5, a6.mo (fun x y q => by omega)⟩
  · rw [if_neg (by rw [j]; decide), j]
    have c : CH (fun x y => x = 11 ∧ y = 5) m (put m 11 5 (m 11 5 + 1)) := CH.rf.put ⟨rfl, rfl⟩ _
    obtain ⟨m', a1, a2, a3, a4, a5, a6⟩ := p66_ok (m := put m 11 5 (m 11 5 + 1)) (bc.cg c (fun x y q => by omega)) hst hn hb ok (xs0 := xs0) (by rw [c 5 1 (by omega)]; exact hz.congr (fun j _ => c _ _ (by omega))) (ys := ys) (by rw [c 3 1 (by omega)]; exact hy.congr (fun j _ => c _ _ (by omega))) hr
    exact ⟨m', a1, by rw [a6 11 5 (by omega)]; simp [put_at], a2, a3, a4, a5, (c.mo (fun x y q => by omega)).tr (a6.mo (fun x y q => by omega))⟩
end PC
