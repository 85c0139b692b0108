-- IS IT SOUND, AND HOW MANY SAMPLES
theorem l44 : ∀ l, l < 45 → (nI l - (12 : Int32) < 1 ↔ l ≤ 12) ∧ ((2 : Int32) * (nI l - (16 : Int32)) < 1 ↔ l ≤ 16) ∧ (16 < l → (2 : Int32) * (nI l - (16 : Int32)) = nI (2 * (l - 16))) ∧ (16 < l → (2 : Int32) * (nI (l - 12) - (4 : Int32)) = nI (2 * (l - 16))) := by decide +kernel
section SD
variable {m : Mem} {t s : Nat} {p : List Int32}
theorem rd_smI (ht : kd t = 3) (h : PC t m p) (hb : ∀ b ∈ p, IsB b) (h12 : 12 < p.length) : ∃ r, F_Packet_samplesIn m t = some r ∧ ((codN p = 0 ∨ codN p = 1) → r = nI (p.length - 12)) ∧ (codN p = 2 → (r < 1 ↔ p.length ≤ 16) ∧ (16 < p.length → r = nI (2 * (p.length - 16)))) ∧ (codN p = 3 → r = nI (if (p.length - 12) % 2 = 0 then (p.length - 12) / 2 else 0)) ∧ (codN p = -1 → r = 0) := by
  have hc := h.2.1
  obtain ⟨-, f2, f3, -⟩ := l44 p.length (by omega)
  have e : m t 1 - (12 : Int32) = nI (p.length - 12) := by
    rw [h.1, show (12 : Int32) = nI 12 from rfl, pk_sub (by omega)]
  have hod : nI (p.length - 12) - nI (p.length - 12) / (2 : Int32) * (2 : Int32) = nI ((p.length - 12) % 2) := by
    rw [show (2 : Int32) = nI 2 from rfl, pk_rem (by omega) (by decide) (by decide)]
  have hdv : nI (p.length - 12) / (2 : Int32) = nI ((p.length - 12) / 2) := by
    rw [show (2 : Int32) = nI 2 from rfl, pk_div (by omega) (by decide) (by decide)]
  unfold F_Packet_samplesIn
  rw [e, bnd_eq, rd_cod ht h hb (by omega), rd_some]
  rcases codN_cases p with q | q | q | q | q <;> rw [q]
  · rw [if_pos rfl]
    exact ⟨_, rfl, fun _ => rfl, fun z => absurd z (by decide), fun z => absurd z (by decide), fun z => absurd z (by decide)⟩
  · rw [if_neg (by decide), if_pos rfl]
    exact ⟨_, rfl, fun _ => rfl, fun z => absurd z (by decide), fun z => absurd z (by decide), fun z => absurd z (by decide)⟩
  · rw [if_neg (by decide), if_neg (by decide), if_pos rfl, h.1]
    exact ⟨_, rfl, fun z => absurd z (by decide), fun _ => ⟨f2, f3⟩, fun z => absurd z (by decide), fun z => absurd z (by decide)⟩
  · rw [if_neg (by decide), if_neg (by decide), if_neg (by decide), if_pos rfl, hod]
    by_cases z : (p.length - 12) % 2 = 0
    · rw [if_pos (by rw [z]; exact nI_0), hdv]
      exact ⟨_, rfl, fun w => absurd w (by decide), fun w => absurd w (by decide), fun _ => by rw [if_pos z], fun w => absurd w (by decide)⟩
    · rw [if_neg (nI_ne0 (by omega) (by omega))]
      exact ⟨_, rfl, fun w => absurd w (by decide), fun w => absurd w (by decide), fun _ => by rw [if_neg z]; rfl, fun w => absurd w (by decide)⟩
  · rw [if_neg (by decide), if_neg (by decide), if_neg (by decide), if_neg (by decide)]
    exact ⟨_, rfl, fun w => absurd w (by decide), fun w => absurd w (by decide), fun w => absurd w (by decide), fun _ => rfl⟩
theorem rd_snd (ht : kd t = 3) (h : PC t m p) (hb : ∀ b ∈ p, IsB b) : F_Packet_isSound m t = some (if smN p = 0 then 0 else 1) ∧ (smN p ≠ 0 → F_Packet_samplesIn m t = some (nI (smN p)) ∧ smN p ≤ 16 ∧ 12 < p.length) := by
  have hc := h.2.1
  have l := ln_byt ht
  have z0 : (Int32.toNatClampNeg (0 : Int32)) = 0 := rfl
  have z14 : (Int32.toNatClampNeg (14 : Int32)) = 14 := rfl
  have z15 : (Int32.toNatClampNeg (15 : Int32)) = 15 := rfl
  unfold F_Packet_isSound
  by_cases h12 : p.length ≤ 12
  · have e : smN p = 0 := by
      unfold smN
      rw [if_pos (Or.inl h12)]
    rw [if_pos (by rw [h.1]; exact kLE 12 12 rfl h12 (by decide)), if_pos e]
    exact ⟨rfl, fun q => absurd e q⟩
  · rw [if_neg (by rw [h.1]; exact kNLE 12 12 rfl (by omega) (by omega)), l, if_neg (by decide), z0, h.2.2 0 (by omega)]
    by_cases h128 : p.getD 0 0 = 128
    · rw [if_pos h128]
      obtain ⟨r, r1, r2, r3, r4, r5⟩ := rd_smI ht h hb (by omega)
      rw [r1, rd_some, rd_cod ht h hb (by omega)]
      have hs : smN p = if codN p = 3 then (if (p.length - 12) % 2 = 0 ∧ (p.length - 12) / 2 ≤ 16 then (p.length - 12) / 2 else 0) else if codN p = 2 then (if 16 < p.length ∧ (p.getD 14 0).toNatClampNeg ≤ 88 ∧ p.getD 15 0 = 0 ∧ 2 * (p.length - 16) ≤ 16 then 2 * (p.length - 16) else 0) else if codN p = -1 then 0 else (if p.length - 12 ≤ 16 then p.length - 12 else 0) := by
        show (if p.length ≤ 12 ∨ ¬ p.getD 0 0 = 128 then 0 else _) = _
        rw [if_neg (fun z => z.elim h12 (fun w => w h128))]
      by_cases c2 : codN p = 2
      · obtain ⟨r31, r32⟩ := r3 c2
        rw [c2, if_neg (by decide), if_pos rfl] at hs
        by_cases g16 : 16 < p.length
        · obtain ⟨a1, a2⟩ := getB hb (i := 14) (by omega)
          have er := r32 g16
          rw [if_neg (fun z => absurd (r31.mp z) (by omega)), er]
          by_cases q2 : 2 * (p.length - 16) ≤ 16
          · rw [if_pos (kLE 16 16 rfl q2 (by decide)), rd_some, c2, if_pos rfl, z14, z15, if_neg (by decide), h.2.2 14 (by omega), h.2.2 15 (by omega)]
            have hidx : F_Adaptive_isIndex (p.getD 14 0) = some (if (p.getD 14 0).toNatClampNeg ≤ 88 then 1 else 0) := by
              unfold F_Adaptive_isIndex
              generalize (p.getD 14 0).toNatClampNeg = x at a1 a2
              rw [a1, if_neg (nI_pos (by omega))]
              by_cases q : x ≤ 88
              · rw [if_neg (kNGT 88 88 rfl q (by decide)), if_pos q]
              · rw [if_pos (kGT 88 88 rfl (by omega) (by omega)), if_neg q]
            rw [hidx, rd_some]
            by_cases q3 : (p.getD 14 0).toNatClampNeg ≤ 88
            · rw [if_pos q3, if_neg (by decide), if_neg (by decide)]
              by_cases q4 : p.getD 15 0 = 0
              · rw [if_pos ⟨g16, q3, q4, q2⟩] at hs
                rw [if_pos q4, hs, if_neg (by omega)]
                exact ⟨rfl, fun _ => ⟨rfl, q2, by omega⟩⟩
              · rw [if_neg (fun z => q4 z.2.2.1)] at hs
                rw [if_neg q4, hs, if_pos rfl]
                exact ⟨rfl, fun z => absurd rfl z⟩
            · rw [if_neg (fun z => q3 z.2.1)] at hs
              rw [if_neg q3, if_pos rfl, hs, if_pos rfl]
              exact ⟨rfl, fun z => absurd rfl z⟩
          · rw [if_neg (fun z => q2 z.2.2.2)] at hs
            rw [if_neg (kNLE 16 16 rfl (by omega) (by omega)), hs, if_pos rfl]
            exact ⟨rfl, fun z => absurd rfl z⟩
        · rw [if_neg (fun z => g16 z.1)] at hs
          rw [if_pos (r31.mpr (by omega)), hs, if_pos rfl]
          exact ⟨rfl, fun z => absurd rfl z⟩
      · have key : ∃ n, n < 100 ∧ r = nI n ∧ smN p = (if 1 ≤ n ∧ n ≤ 16 then n else 0) := by
          rcases codN_cases p with q | q | q | q | q
          · refine ⟨p.length - 12, by omega, r2 (Or.inl q), ?_⟩
            rw [hs, q, if_neg (by decide), if_neg (by decide), if_neg (by decide)]
            by_cases z : p.length - 12 ≤ 16
            · rw [if_pos z, if_pos ⟨by omega, z⟩]
            · rw [if_neg z, if_neg (fun w => z w.2)]
          · refine ⟨p.length - 12, by omega, r2 (Or.inr q), ?_⟩
            rw [hs, q, if_neg (by decide), if_neg (by decide), if_neg (by decide)]
            by_cases z : p.length - 12 ≤ 16
            · rw [if_pos z, if_pos ⟨by omega, z⟩]
            · rw [if_neg z, if_neg (fun w => z w.2)]
          · exact absurd q c2
          · refine ⟨if (p.length - 12) % 2 = 0 then (p.length - 12) / 2 else 0, by split <;> omega, r4 q, ?_⟩
            rw [hs, q, if_pos rfl]
            by_cases z : (p.length - 12) % 2 = 0
            · rw [if_pos z]
              by_cases w : (p.length - 12) / 2 ≤ 16
              · rw [if_pos ⟨z, w⟩, if_pos ⟨by omega, w⟩]
              · rw [if_neg (fun y => w y.2), if_neg (fun y => w y.2)]
            · rw [if_neg z, if_neg (fun y => z y.1), if_neg (by omega)]
          · refine ⟨0, by omega, by rw [r5 q]; rfl, ?_⟩
            rw [hs, q, if_neg (by decide), if_neg (by decide), if_pos rfl, if_neg (by omega)]
        obtain ⟨n, hn, e1, e2⟩ := key
        rw [e1]
        by_cases q1 : 1 ≤ n
        · rw [if_neg (kNLT 1 1 rfl q1 (by omega))]
          by_cases q2 : n ≤ 16
          · rw [if_pos ⟨q1, q2⟩] at e2
            rw [if_pos (kLE 16 16 rfl q2 (by decide)), rd_some, if_neg c2, e2, if_neg (by omega)]
            exact ⟨rfl, fun _ => ⟨rfl, q2, by omega⟩⟩
          · rw [if_neg (fun z => q2 z.2)] at e2
            rw [if_neg (kNLE 16 16 rfl (by omega) (by omega)), e2, if_pos rfl]
            exact ⟨rfl, fun z => absurd rfl z⟩
        · rw [if_neg (fun z => q1 z.1)] at e2
          rw [if_pos (kLT 1 1 rfl (by omega) (by decide)), e2, if_pos rfl]
          exact ⟨rfl, fun z => absurd rfl z⟩
    · have e : smN p = 0 := by
        unfold smN
        rw [if_pos (Or.inr h128)]
      rw [if_neg h128, if_pos e]
      exact ⟨rfl, fun q => absurd e q⟩
theorem rd_smM (hs : s < 16) (h : PM s m p) (hb : ∀ b ∈ p, IsB b) : F_Model_samplesOf m (nI s) = some (nI (smN p)) := by
  have hc := h.2.1
  obtain ⟨f1, -, -, f4⟩ := l44 p.length (by omega)
  unfold F_Model_samplesOf
  rw [if_neg (show ¬ (nI s < 0 ∨ ln 21 ≤ (nI s).toNatClampNeg) from nI_in (N := 16) hs (by decide)), nI_clamp (by omega), h.1, bnd_eq, bnd_eq]
  by_cases h12 : p.length ≤ 12
  · have e : smN p = 0 := by
      unfold smN
      rw [if_pos (Or.inl h12)]
    rw [if_pos (f1.mpr h12), e]
    rfl
  · have e12 : nI p.length - (12 : Int32) = nI (p.length - 12) := by rw [show (12 : Int32) = nI 12 from rfl, pk_sub (by omega)]
    obtain ⟨g1, g2, g3⟩ := at_44 (k := s) (j := 0) hs (by omega)
    have g0 : (44 : Int32) * nI s = nI (44 * s + 0) := by
      rw [show (44 : Int32) = nI 44 from rfl, pk_mul]
      rfl
    have h0 : m 22 (44 * s + 0) = p.getD 0 0 := h.2.2 0 (by omega)
    rw [if_neg (fun z => h12 (f1.mp z)), g0, if_neg g2, g3, h0]
    by_cases h128 : p.getD 0 0 = 128
    · have hsm : smN p = if codN p = 3 then (if (p.length - 12) % 2 = 0 ∧ (p.length - 12) / 2 ≤ 16 then (p.length - 12) / 2 else 0) else if codN p = 2 then (if 16 < p.length ∧ (p.getD 14 0).toNatClampNeg ≤ 88 ∧ p.getD 15 0 = 0 ∧ 2 * (p.length - 16) ≤ 16 then 2 * (p.length - 16) else 0) else if codN p = -1 then 0 else (if p.length - 12 ≤ 16 then p.length - 12 else 0) := by
        show (if p.length ≤ 12 ∨ ¬ p.getD 0 0 = 128 then 0 else _) = _
        rw [if_neg (fun z => z.elim h12 (fun w => w h128))]
      have e145 : ∀ n, n < 100 → F_Model_samplesOf_145 m 1 (nI n) = some (nI (if n ≤ 16 then n else 0)) := fun n hn => by
        unfold F_Model_samplesOf_145
        rw [if_neg (by decide)]
        by_cases z : n ≤ 16
        · rw [if_neg (kNGT 16 16 rfl z (by decide)), if_pos z]
        · rw [if_pos (kGT 16 16 rfl (by omega) (by omega)), if_neg z]
          rfl
      have e0 : ∀ x : Int32, F_Model_samplesOf_145 m 0 x = some (nI 0) := fun x => by
        unfold F_Model_samplesOf_145
        rw [if_pos rfl]
        rfl
      rw [if_pos h128, e12, rd_codM hs h hb (by omega), rd_some]
      have hod : nI (p.length - 12) - nI (p.length - 12) / (2 : Int32) * (2 : Int32) = nI ((p.length - 12) % 2) := by
        rw [show (2 : Int32) = nI 2 from rfl, pk_rem (by omega) (by decide) (by decide)]
      have hdv : nI (p.length - 12) / (2 : Int32) = nI ((p.length - 12) / 2) := by
        rw [show (2 : Int32) = nI 2 from rfl, pk_div (by omega) (by decide) (by decide)]
      rcases codN_cases p with q | q | q | q | q
      · rw [q, if_neg (by decide), if_neg (by decide), if_neg (by decide)]
        rw [q, if_neg (by decide), if_neg (by decide), if_neg (by decide)] at hsm
        unfold F_Model_samplesOf_116
        rw [if_neg (by decide), if_neg (by decide), e145 _ (by omega), hsm]
      · rw [q, if_neg (by decide), if_neg (by decide), if_neg (by decide)]
        rw [q, if_neg (by decide), if_neg (by decide), if_neg (by decide)] at hsm
        unfold F_Model_samplesOf_116
        rw [if_neg (by decide), if_neg (by decide), e145 _ (by omega), hsm]
      · rw [q, if_neg (by decide), if_pos rfl]
        rw [q, if_neg (by decide), if_pos rfl] at hsm
        have e116 : ∀ z : Int32, F_Model_samplesOf_116 m (nI (p.length - 12)) 2 z = F_Model_samplesOf_145 m z ((2 : Int32) * (nI (p.length - 12) - (4 : Int32))) := fun z => by
          unfold F_Model_samplesOf_116
          rw [if_neg (by decide), if_pos rfl]
        by_cases g16 : 16 < p.length
        · obtain ⟨k1, k2, k3⟩ := at_44 (k := s) (j := 14) hs (by omega)
          obtain ⟨-, k5, k6⟩ := at_44 (k := s) (j := 15) hs (by omega)
          have u1 : nI (44 * s + 0) + (14 : Int32) = nI (44 * s + 14) := nI_add (44 * s + 0) 14
          have u2 : nI (44 * s + 0) + (15 : Int32) = nI (44 * s + 15) := nI_add (44 * s + 0) 15
          have w1 : m 22 (44 * s + 14) = p.getD 14 0 := h.2.2 14 (by omega)
          have w2 : m 22 (44 * s + 15) = p.getD 15 0 := h.2.2 15 (by omega)
          obtain ⟨a1, a2⟩ := getB hb (i := 14) (by omega)
          rw [if_neg (kNLE 4 4 rfl (by omega) (by omega)), u1, if_neg k2, k3, w1, u2, if_neg k5, k6, w2]
          by_cases q3 : (p.getD 14 0).toNatClampNeg ≤ 88
          · have n3 : ¬ (88 : Int32) < p.getD 14 0 := by
              generalize (p.getD 14 0).toNatClampNeg = x at a1 a2 q3
              rw [a1]
              exact kNGT 88 88 rfl q3 (by decide)
            rw [if_neg n3]
            by_cases q4 : p.getD 15 0 = 0
            · rw [if_pos q4, e116, f4 g16, e145 _ (by omega), hsm]
              by_cases q5 : 2 * (p.length - 16) ≤ 16
              · rw [if_pos q5, if_pos ⟨g16, q3, q4, q5⟩]
              · rw [if_neg q5, if_neg (fun z => q5 z.2.2.2)]
            · rw [if_neg q4, e116, e0, hsm, if_neg (fun z => q4 z.2.2.1)]
          · have n3 : (88 : Int32) < p.getD 14 0 := by
              generalize (p.getD 14 0).toNatClampNeg = x at a1 a2 q3
              rw [a1]
              exact kGT 88 88 rfl (by omega) (by omega)
            rw [if_pos n3, e116, e0, hsm, if_neg (fun z => q3 z.2.1)]
        · rw [if_pos (kLE 4 4 rfl (by omega) (by decide)), e116, e0, hsm, if_neg (fun z => g16 z.1)]
      · rw [q, if_pos rfl, hod]
        rw [q, if_pos rfl] at hsm
        have e116 : ∀ z : Int32, F_Model_samplesOf_116 m (nI (p.length - 12)) 3 z = F_Model_samplesOf_145 m z (nI ((p.length - 12) / 2)) := fun z => by
          unfold F_Model_samplesOf_116
          rw [if_pos rfl, hdv]
        by_cases z : (p.length - 12) % 2 = 0
        · rw [if_pos (by rw [z]; exact nI_0), e116, e145 _ (by omega), hsm]
          by_cases w : (p.length - 12) / 2 ≤ 16
          · rw [if_pos w, if_pos ⟨z, w⟩]
          · rw [if_neg w, if_neg (fun y => w y.2)]
        · rw [if_neg (nI_ne0 (by omega) (by omega)), e116, e0, hsm, if_neg (fun y => z y.1)]
      · rw [q, if_neg (by decide), if_neg (by decide), if_pos (by decide)]
        unfold F_Model_samplesOf_116
        rw [if_neg (by decide), if_neg (by decide), e0, hsm, q, if_neg (by decide), if_neg (by decide), if_pos rfl]
    · have e : smN p = 0 := by
        unfold smN
        rw [if_pos (Or.inr h128)]
      rw [if_neg h128, e]
      rfl
end SD
