-- READING A PACKET
theorem msb_le (x : Int32) : 0 ≤ x ↔ x.toBitVec.msb = false := by
  rw [Int32.le_iff_toInt_le, Int32.toInt_zero, BitVec.msb_eq_toInt]
  show 0 ≤ x.toBitVec.toInt ↔ _
  rw [decide_eq_false_iff_not]
  omega
theorem xor_le {x y : Int32} (hy : 0 ≤ y) : 0 ≤ x ^^^ y ↔ 0 ≤ x := by
  rw [msb_le] at hy
  rw [msb_le, msb_le, Int32.toBitVec_xor, BitVec.msb_xor, hy]
  simp
theorem fm_eq {x : Int32} {M : Nat} (h0 : 0 < M) (hM : M < 2 ^ 30) : F_Math_floorMod x (nI M) = some (nI (x.toInt % (M : Int)).toNat) := by
  have hMi : (nI M).toInt = (M : Int) := nI_toInt (by omega)
  have hr : (x - x / nI M * nI M).toInt = x.toInt.tmod (M : Int) := by
    have := rem_toInt x (nI M)
    rw [hMi] at this
    exact this
  have hm0 : (M : Int) ≠ 0 := by omega
  have e1 := Int.emod_nonneg x.toInt hm0
  have e2 := Int.emod_lt_of_pos x.toInt (show (0 : Int) < M by omega)
  have hfin : (nI (x.toInt % (M : Int)).toNat).toInt = x.toInt % (M : Int) := by
    rw [nI_toInt (by omega)]
    omega
  unfold F_Math_floorMod
  rw [if_neg (nI_ne0 h0 (by omega)), bnd_eq]
  by_cases hx : 0 ≤ x
  · have hx' : 0 ≤ x.toInt := by
      rw [Int32.le_iff_toInt_le, Int32.toInt_zero] at hx
      exact hx
    rw [if_pos ((xor_le (nI_pos' (by omega))).mpr hx)]
    congr 1
    apply Int32.toInt_inj.mp
    rw [hr, hfin, Int.tmod_eq_emod_of_nonneg hx']
  · have hx' : x.toInt < 0 := by
      rw [Int32.le_iff_toInt_le, Int32.toInt_zero] at hx
      omega
    rw [if_neg (fun z => hx ((xor_le (nI_pos' (by omega))).mp z))]
    obtain ⟨y, hy⟩ : ∃ y : Nat, x.toInt = -(y : Int) := ⟨(-x.toInt).toNat, by omega⟩
    have ht : x.toInt.tmod (M : Int) = -((y : Int) % (M : Int)) := by
      rw [hy, Int.neg_tmod, Int.tmod_eq_emod_of_nonneg (by omega)]
    have hq := Int.emod_nonneg (y : Int) hm0
    have hq2 := Int.emod_lt_of_pos (y : Int) (show (0 : Int) < M by omega)
    have hdv := Int.mul_ediv_add_emod (y : Int) (M : Int)
    by_cases hz : x - x / nI M * nI M = 0
    · rw [if_pos hz, hz]
      have hz0 : (y : Int) % (M : Int) = 0 := by
        have := congrArg Int32.toInt hz
        rw [hr, ht, Int32.toInt_zero] at this
        omega
      have : x.toInt % (M : Int) = 0 := by
        rw [hy]
        exact Int.emod_eq_zero_of_dvd (Int.dvd_neg.mpr (Int.dvd_of_emod_eq_zero hz0))
      rw [this]
      rfl
    · rw [if_neg hz]
      have hz0 : (y : Int) % (M : Int) ≠ 0 := fun q => hz (Int32.toInt_inj.mp (by rw [hr, ht, q]; rfl))
      congr 1
      apply Int32.toInt_inj.mp
      rw [hfin, wn_add (by rw [hr, ht, hMi]; omega) (by rw [hr, ht, hMi]; omega), hr, ht, hMi, hy]
      have h3 : (-(y : Int)) % (M : Int) = (M : Int) - (y : Int) % (M : Int) := by
        have h4 : (-(y : Int)) = ((M : Int) - (y : Int) % (M : Int)) + (M : Int) * (-((y : Int) / (M : Int)) - 1) := by
          have : (M : Int) * (-((y : Int) / (M : Int)) - 1) = -((M : Int) * ((y : Int) / (M : Int))) - M := by
            rw [Int.mul_sub, Int.mul_neg, Int.mul_one]
          omega
        rw [h4, Int.add_mul_emod_self_left]
        exact Int.emod_eq_of_lt (by omega) (by omega)
      omega
theorem pl_eq {q : Nat} (hq : q < 65536) : F_Buffer_placeOf (nI q) = some (nI (q % 8)) := by
  unfold F_Buffer_placeOf
  rw [show (8 : Int32) = nI 8 from rfl, fm_eq (by decide) (by decide), rd_some, nI_toInt (by omega)]
  congr 2
def dsN (q nxt : Nat) : Nat := (q + 65536 - nxt) % 65536
def dvN (d : Nat) : Int32 := if d < 32768 then nI d else nI d - 65536
theorem ds_c {m : Mem} {q nxt : Nat} (hq : q < 65536) (hn : nxt < 65536) (h : m 13 5 = nI nxt) : F_Buffer_distanceOf m (nI q) = some (dvN (dsN q nxt)) := by
  have hx : (nI q - nI nxt).toInt = (q : Int) - nxt := pk_sub_toInt (by omega) (by omega)
  have hd : dsN q nxt < 65536 := Nat.mod_lt _ (by decide)
  have e : (nI ((nI q - nI nxt).toInt % ((65536 : Nat) : Int)).toNat) = nI (dsN q nxt) := by
    rw [hx]
    congr 1
    unfold dsN
    omega
  unfold F_Buffer_distanceOf dvN
  rw [h, show (65536 : Int32) = nI 65536 from rfl, fm_eq (by decide) (by decide), e, rd_some]
  by_cases hh : dsN q nxt < 32768
  · rw [if_pos (kLT 32768 32768 rfl hh (by decide)), if_pos hh]
  · rw [if_neg (kNLT 32768 32768 rfl (by omega) (by omega)), if_neg hh]
theorem ds_m {m : Mem} {q nxt : Nat} (hq : q < 65536) (hn : nxt < 65536) (h : m 17 14 = nI nxt) : F_Model_distance m (nI q) = some (dvN (dsN q nxt)) := by
  have hd : dsN q nxt < 65536 := Nat.mod_lt _ (by decide)
  have hx : (nI q - nI nxt).toInt = (q : Int) - nxt := pk_sub_toInt (by omega) (by omega)
  have e0 : nI q - nI nxt + (131072 : Int32) = nI (q + 131072 - nxt) := by
    apply Int32.toInt_inj.mp
    have a1 : (131072 : Int32).toInt = 131072 := rfl
    rw [wn_add (by rw [hx, a1]; omega) (by rw [hx, a1]; omega), hx, a1, nI_toInt (by omega)]
    omega
  have e1 : (q + 131072 - nxt) % 65536 = dsN q nxt := by
    unfold dsN
    omega
  unfold F_Model_distance dvN
  rw [h, e0, show (65536 : Int32) = nI 65536 from rfl, pk_rem (by omega) (by decide) (by decide), e1, bnd_eq]
  by_cases hh : dsN q nxt < 32768
  · rw [if_pos (kLE 32767 32767 rfl (by omega) (by decide)), if_pos hh]
  · rw [if_neg (kNLE 32767 32767 rfl (by omega) (by omega)), if_neg hh]
theorem dv_lt {d : Nat} (hd : d < 65536) : (0 ≤ dvN d ↔ d < 32768) ∧ (d < 32768 → dvN d = nI d) := by
  unfold dvN
  constructor
  · by_cases h : d < 32768
    · rw [if_pos h]
      exact ⟨fun _ => h, fun _ => nI_pos' (by omega)⟩
    · rw [if_neg h]
      refine ⟨fun z => absurd z ?_, fun z => absurd z h⟩
      rw [Int32.le_iff_toInt_le, Int32.toInt_zero, show (65536 : Int32) = nI 65536 from rfl, pk_sub_toInt (by omega) (by decide)]
      omega
  · intro h
    rw [if_pos h]
-- bytes as numbers
theorem getB {p : List Int32} (hp : ∀ b ∈ p, IsB b) {i : Nat} (hi : i < p.length) : p.getD i 0 = nI (p.getD i 0).toNatClampNeg ∧ (p.getD i 0).toNatClampNeg < 256 := by
  have e : p.getD i 0 = p[i] := by simp [List.getD_eq_getElem?_getD, hi]
  obtain ⟨n, hn, e2⟩ := hp _ (List.getElem_mem hi)
  rw [e, e2, nI_clamp (by omega)]
  exact ⟨rfl, hn⟩
def p2N (p : List Int32) (i : Nat) : Nat := 256 * (p.getD i 0).toNatClampNeg + (p.getD (i + 1) 0).toNatClampNeg
theorem p2_lt {p : List Int32} (hp : ∀ b ∈ p, IsB b) {i : Nat} (hi : i + 1 < p.length) : p2N p i < 65536 := by
  have a := (getB hp (i := i) (by omega)).2
  have b := (getB hp (i := i + 1) (by omega)).2
  unfold p2N
  omega
section RD
variable {m : Mem} {t s : Nat} {p : List Int32}
theorem rd_pair (ht : kd t = 3) (h : PC t m p) (hb : ∀ b ∈ p, IsB b) {i : Nat} (hi : i + 1 < p.length) : F_Packet_pairAt m t (nI i) = some (nI (p2N p i)) := by
  have l := ln_byt ht
  have hc := h.2.1
  obtain ⟨a1, a2⟩ := getB hb (i := i) (by omega)
  obtain ⟨b1, b2⟩ := getB hb (i := i + 1) hi
  unfold F_Packet_pairAt p2N
  rw [if_neg (nI_pos (by omega)), nI_1, if_neg (kNGE 44 44 rfl (by omega) (by decide)), l, if_neg (nI_in (by omega) (by decide)), if_neg (nI_in (by omega) (by decide)), nI_clamp (by omega), nI_clamp (by omega), h.2.2 i (by omega), h.2.2 (i + 1) hi]
  generalize (p.getD i 0).toNatClampNeg = x at a1 a2
  generalize (p.getD (i + 1) 0).toNatClampNeg = y at b1 b2
  rw [a1, b1, show (256 : Int32) = nI 256 from rfl, pk_mul, nI_add, Nat.mul_comm]
theorem rd_pairM (hs : s < 16) (h : PM s m p) (hb : ∀ b ∈ p, IsB b) {i : Nat} (hi : i + 1 < p.length) : F_Model_pair m (nI s) (nI i) = some (nI (p2N p i)) := by
  have hc := h.2.1
  obtain ⟨a1, a2⟩ := getB hb (i := i) (by omega)
  obtain ⟨b1, b2⟩ := getB hb (i := i + 1) hi
  obtain ⟨e1, e2, e3⟩ := at_44 (k := s) (j := i) hs (by omega)
  obtain ⟨-, e5, e6⟩ := at_44 (k := s) (j := i + 1) hs (by omega)
  have g1 : m 22 (44 * s + i) = p.getD i 0 := h.2.2 i (by omega)
  have g2 : m 22 (44 * s + (i + 1)) = p.getD (i + 1) 0 := h.2.2 (i + 1) hi
  unfold F_Model_pair p2N
  rw [e1, nI_1, show 44 * s + i + 1 = 44 * s + (i + 1) by omega, if_neg e2, if_neg e5, e3, e6, g1, g2]
  generalize (p.getD i 0).toNatClampNeg = x at a1 a2
  generalize (p.getD (i + 1) 0).toNatClampNeg = y at b1 b2
  rw [a1, b1, show (256 : Int32) = nI 256 from rfl, pk_mul, nI_add]
def p4N (p : List Int32) (i : Nat) : Int32 := (nI (p2N p i) <<< ((16 : Int32) &&& (31 : Int32))) ||| nI (p2N p (i + 2))
theorem rd_four (ht : kd t = 3) (h : PC t m p) (hb : ∀ b ∈ p, IsB b) {i : Nat} (hi : i + 3 < p.length) : F_Packet_fourAt m t (nI i) = some (p4N p i) := by
  unfold F_Packet_fourAt p4N
  rw [rd_pair ht h hb (by omega), rd_some, show nI i + (2 : Int32) = nI (i + 2) from nI_add i 2, rd_pair ht h hb (by omega), rd_some]
theorem rd_fourM (hs : s < 16) (h : PM s m p) (hb : ∀ b ∈ p, IsB b) {i : Nat} (hi : i + 3 < p.length) : F_Model_word m (nI s) (nI i) = some (p4N p i) := by
  unfold F_Model_word p4N
  rw [rd_pairM hs h hb (by omega), rd_some, show nI i + (2 : Int32) = nI (i + 2) from nI_add i 2, rd_pairM hs h hb (by omega), rd_some]
-- the coding
def cdB (b : Nat) : Int32 := if b % 128 = 8 then 0 else if b % 128 = 0 then 1 else if b % 128 = 5 then 2 else if b % 128 = 11 then 3 else -1
set_option maxRecDepth 100000 in
theorem cd_c : ∀ b, b < 256 → F_Packet_coding_12 300 (fun _ _ => 0) (nI b &&& (127 : Int32)) 0 = some (cdB b) := by decide +kernel
theorem cd_free (m : Mem) : ∀ (n : Nat) (a b : Int32), F_Packet_coding_12 n m a b = F_Packet_coding_12 n (fun _ _ => 0) a b := by
  intro n
  induction n with
  | zero => intro a b; rfl
  | succ n ih =>
    intro a b
    rw [F_Packet_coding_12, F_Packet_coding_12, ih]
theorem codN_eq (p : List Int32) : codN p = cdB (p.getD 1 0).toNatClampNeg := rfl
theorem rd_cod (ht : kd t = 3) (h : PC t m p) (hb : ∀ b ∈ p, IsB b) (h1 : 1 < p.length) : F_Packet_coding m t = some (codN p) := by
  have l := ln_byt ht
  have hc := h.2.1
  obtain ⟨a1, a2⟩ := getB hb (i := 1) h1
  unfold F_Packet_coding
  rw [l, if_neg (by decide), bnd_eq, cd_free, show (Int32.toNatClampNeg (1 : Int32)) = 1 from rfl, h.2.2 1 h1, codN_eq]
  generalize (p.getD 1 0).toNatClampNeg = x at a1 a2
  rw [a1]
  exact cd_c x a2
theorem cm_b : ∀ b, b < 256 → (nI b - nI b / (128 : Int32) * (128 : Int32)) = nI (b % 128) := fun b hb => by
  rw [show (128 : Int32) = nI 128 from rfl, pk_rem (by omega) (by decide) (by decide)]
theorem rd_codM (hs : s < 16) (h : PM s m p) (hb : ∀ b ∈ p, IsB b) (h1 : 1 < p.length) : F_Model_codingOf m (nI s) = some (codN p) := by
  have hc := h.2.1
  obtain ⟨a1, a2⟩ := getB hb (i := 1) h1
  obtain ⟨e1, e2, e3⟩ := at_44 (k := s) (j := 1) hs (by omega)
  have g1 : m 22 (44 * s + 1) = p.getD 1 0 := h.2.2 1 h1
  unfold F_Model_codingOf
  rw [show (1 : Int32) = nI 1 from rfl, e1, if_neg e2, e3, g1, codN_eq]
  unfold cdB
  generalize (p.getD 1 0).toNatClampNeg = x at a1 a2
  rw [a1, cm_b x a2, bnd_eq]
  have k0 := kEQ (n := x % 128) 8 8 rfl (by omega) (by decide)
  have k1 := kEQ (n := x % 128) 0 0 nI_0.symm (by omega) (by decide)
  have k2 := kEQ (n := x % 128) 5 5 rfl (by omega) (by decide)
  have k3 := kEQ (n := x % 128) 11 11 rfl (by omega) (by decide)
  by_cases q0 : x % 128 = 8
  · rw [if_pos (k0.mpr q0), if_pos q0]
  · rw [if_neg (fun z => q0 (k0.mp z)), if_neg q0]
    by_cases q1 : x % 128 = 0
    · rw [if_pos (k1.mpr q1), if_pos q1]
      rfl
    · rw [if_neg (fun z => q1 (k1.mp z)), if_neg q1]
      by_cases q2 : x % 128 = 5
      · rw [if_pos (k2.mpr q2), if_pos q2]
      · rw [if_neg (fun z => q2 (k2.mp z)), if_neg q2]
        by_cases q3 : x % 128 = 11
        · rw [if_pos (k3.mpr q3), if_pos q3]
        · rw [if_neg (fun z => q3 (k3.mp z)), if_neg q3]
          rfl
theorem codN_cases (p : List Int32) : codN p = 0 ∨ codN p = 1 ∨ codN p = 2 ∨ codN p = 3 ∨ codN p = -1 := by
  unfold codN
  repeat' split
  all_goals simp
end RD
