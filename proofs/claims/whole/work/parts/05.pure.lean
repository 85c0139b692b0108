def F_Intervals_has (p0 : Int32) : Option (Int32) :=
  if p0 = 0 then (
    some (1 : Int32)
  ) else (
    if p0 = (1 : Int32) then (
      some (1 : Int32)
    ) else (
      some (0 : Int32)
    )
  )
def F_Gate_isSample (p0 : Int32) : Option (Int32) :=
  if p0 < (-32768 : Int32) then (
    some (0 : Int32)
  ) else (
    if (32767 : Int32) < p0 then (
      some (0 : Int32)
    ) else (
      some (1 : Int32)
    )
  )
def F_Intervals_segmentOf_2 (fu : Nat) (l0 : Int32) (l1 : Int32) : Option (Int32) := match fu with
  | 0 => none
  | n + 1 =>
    if (7 : Int32) ≤ l1 then (
      some l1
    ) else (
      if l0 < ((256 : Int32) <<< (l1 &&& (31 : Int32))) then (
        some l1
      ) else (
        F_Intervals_segmentOf_2 n l0 (l1 + (1 : Int32))
      )
    )
def F_Intervals_segmentOf (p0 : Int32) : Option (Int32) :=
  F_Intervals_segmentOf_2 300 p0 (0 : Int32)
def F_Intervals_codeOf0_48 (l2 : Int32) (l3 : Int32) (s0 : Int32) : Option (Int32) :=
  some (((((16 : Int32) * l2) + l3) + s0) ^^^ (85 : Int32))
def F_Intervals_codeOf0_36 (l0 : Int32) (l2 : Int32) (s0 : Int32) : Option (Int32) :=
  if 0 ≤ l0 then (
    F_Intervals_codeOf0_48 l2 s0 (128 : Int32)
  ) else (
    F_Intervals_codeOf0_48 l2 s0 (0 : Int32)
  )
def F_Intervals_codeOf0_12 (l0 : Int32) (s0 : Int32) : Option (Int32) :=
  rd (F_Intervals_segmentOf s0) fun r2 =>
  if r2 = 0 then (
    F_Intervals_codeOf0_36 l0 r2 (s0 >>> ((4 : Int32) &&& (31 : Int32)))
  ) else (
    F_Intervals_codeOf0_36 l0 r2 ((s0 >>> ((r2 + (3 : Int32)) &&& (31 : Int32))) - (16 : Int32))
  )
def F_Intervals_codeOf0 (p0 : Int32) : Option (Int32) :=
  if 0 ≤ p0 then (
    F_Intervals_codeOf0_12 p0 p0
  ) else (
    F_Intervals_codeOf0_12 p0 ((-p0) - (1 : Int32))
  )
def F_Intervals_codeOf1_56 (l3 : Int32) (l4 : Int32) (s0 : Int32) : Option (Int32) :=
  some (((255 : Int32) - (((16 : Int32) * l3) + l4)) - s0)
def F_Intervals_codeOf1_25 (l0 : Int32) (s0 : Int32) : Option (Int32) :=
  bnd (s0 + (132 : Int32)) fun v1 =>
  rd (F_Intervals_segmentOf v1) fun r3 =>
  bnd ((v1 >>> ((r3 + (3 : Int32)) &&& (31 : Int32))) - (16 : Int32)) fun v4 =>
  if 0 ≤ l0 then (
    F_Intervals_codeOf1_56 r3 v4 (0 : Int32)
  ) else (
    F_Intervals_codeOf1_56 r3 v4 (128 : Int32)
  )
def F_Intervals_codeOf1_10 (l0 : Int32) (s0 : Int32) : Option (Int32) :=
  if s0 ≤ (32635 : Int32) then (
    F_Intervals_codeOf1_25 l0 s0
  ) else (
    F_Intervals_codeOf1_25 l0 (32635 : Int32)
  )
def F_Intervals_codeOf1 (p0 : Int32) : Option (Int32) :=
  if 0 ≤ p0 then (
    F_Intervals_codeOf1_10 p0 p0
  ) else (
    F_Intervals_codeOf1_10 p0 (-p0)
  )
def F_Intervals_codeOf (p0 : Int32) (p1 : Int32) : Option (Int32) :=
  if p0 = 0 then (
    rd (F_Intervals_codeOf0 p1) fun r4 =>
    some r4
  ) else (
    rd (F_Intervals_codeOf1 p1) fun r2 =>
    some r2
  )
def F_Gate_compress (p1 : Int32) (p2 : Int32) : Option (Int32) :=
  rd (F_Intervals_has p1) fun r2 =>
  if r2 = 0 then (
    some (-1 : Int32)
  ) else (
    rd (F_Gate_isSample p2) fun r4 =>
    if r4 = 0 then (
      some (-1 : Int32)
    ) else (
      rd (F_Intervals_codeOf p1 p2) fun r6 =>
      some r6
    )
  )
def F_Gate_isByte (p0 : Int32) : Option (Int32) :=
  if p0 < 0 then (
    some (0 : Int32)
  ) else (
    if (255 : Int32) < p0 then (
      some (0 : Int32)
    ) else (
      some (1 : Int32)
    )
  )
def F_Intervals_middleOfInterval (p0 : Int32) (p1 : Int32) : Option (Int32) :=
  some ((((16 : Int32) + p1) <<< ((p0 + (3 : Int32)) &&& (31 : Int32))) + ((1 : Int32) <<< ((p0 + (2 : Int32)) &&& (31 : Int32))))
def F_Intervals_middleOf0_36 (l1 : Int32) (s0 : Int32) : Option (Int32) :=
  if (l1 &&& (128 : Int32)) = 0 then (
    some (-s0)
  ) else (
    some s0
  )
def F_Intervals_middleOf0 (p0 : Int32) : Option (Int32) :=
  bnd (p0 ^^^ (85 : Int32)) fun v1 =>
  bnd ((v1 >>> ((4 : Int32) &&& (31 : Int32))) &&& (7 : Int32)) fun v2 =>
  bnd (v1 &&& (15 : Int32)) fun v3 =>
  if v2 = 0 then (
    F_Intervals_middleOf0_36 v1 (((16 : Int32) * v3) + (8 : Int32))
  ) else (
    rd (F_Intervals_middleOfInterval v2 v3) fun r5 =>
    F_Intervals_middleOf0_36 v1 r5
  )
def F_Intervals_middleOf1 (p0 : Int32) : Option (Int32) :=
  bnd ((255 : Int32) - p0) fun v1 =>
  bnd ((v1 >>> ((4 : Int32) &&& (31 : Int32))) &&& (7 : Int32)) fun v2 =>
  bnd (v1 &&& (15 : Int32)) fun v3 =>
  rd (F_Intervals_middleOfInterval v2 v3) fun r5 =>
  bnd (r5 - (132 : Int32)) fun v6 =>
  if (128 : Int32) ≤ p0 then (
    some v6
  ) else (
    some (-v6)
  )
def F_Intervals_middleOf (p0 : Int32) (p1 : Int32) : Option (Int32) :=
  if p0 = 0 then (
    rd (F_Intervals_middleOf0 p1) fun r4 =>
    some r4
  ) else (
    rd (F_Intervals_middleOf1 p1) fun r2 =>
    some r2
  )
def F_Gate_expand (p1 : Int32) (p2 : Int32) : Option (Int32) :=
  rd (F_Intervals_has p1) fun r2 =>
  if r2 = 0 then (
    some (40000 : Int32)
  ) else (
    rd (F_Gate_isByte p2) fun r4 =>
    if r4 = 0 then (
      some (40000 : Int32)
    ) else (
      rd (F_Intervals_middleOf p1 p2) fun r6 =>
      some r6
    )
  )
def F_Samples_hasRoom (m0 : Mem) (t : Nat) (p1 : Int32) : Option (Int32) :=
  if ((nI (ln (t + 1))) - (m0 t 1)) < p1 then (
    some (0 : Int32)
  ) else (
    some (1 : Int32)
  )
def F_Samples_add (m0 : Mem) (t : Nat) (p1 : Int32) : Option (Mem) :=
  if (nI (ln (t + 1))) ≤ (m0 t 1) then (
    some m0
  ) else (
    if (m0 t 1) < 0 ∨ ln (t + 1) ≤ (Int32.toNatClampNeg (m0 t 1)) then none else
    bnd (put m0 (t + 1) (Int32.toNatClampNeg (m0 t 1)) p1) fun m2 =>
    bnd (put m2 t 1 ((m2 t 1) + (1 : Int32))) fun m3 =>
    some m3
  )
def F_Gate_feed (m0 : Mem) (p1 : Int32) : Option (Int32 × Mem) :=
  rd (F_Gate_isSample p1) fun r2 =>
  if r2 = 0 then (
    some ((0 : Int32), m0)
  ) else (
    rd (F_Samples_hasRoom m0 1 (1 : Int32)) fun r4 =>
    if r4 = 0 then (
      some ((0 : Int32), m0)
    ) else (
      rd (F_Samples_add m0 1 p1) fun m6 =>
      some ((1 : Int32), m6)
    )
  )
def F_Sender_restart (m0 : Mem) (p1 : Int32) (p2 : Int32) (p3 : Int32) : Option (Mem) :=
  bnd (put m0 9 0 p1) fun m1 =>
  bnd (put m1 9 1 p2) fun m2 =>
  bnd (put m2 9 2 p3) fun m3 =>
  some m3
def F_Gate_begin (m0 : Mem) (p1 : Int32) (p2 : Int32) (p3 : Int32) : Option (Int32 × Mem) :=
  if p1 < 0 then (
    some ((0 : Int32), m0)
  ) else (
    if p1 < (65536 : Int32) then (
      rd (F_Sender_restart m0 p1 p2 p3) fun m2 =>
      some ((1 : Int32), m2)
    ) else (
      some ((0 : Int32), m0)
    )
  )
def F_Sender_canPack (p0 : Int32) (p1 : Int32) : Option (Int32) :=
  if p0 < 0 then (
    some (0 : Int32)
  ) else (
    if (3 : Int32) < p0 then (
      some (0 : Int32)
    ) else (
      if p1 < (1 : Int32) then (
        some (0 : Int32)
      ) else (
        if p1 ≤ (16 : Int32) then (
          if p0 = (2 : Int32) then (
            if (p1 - p1 / (2 : Int32) * (2 : Int32)) = 0 then (
              some (1 : Int32)
            ) else (
              some (0 : Int32)
            )
          ) else (
            some (1 : Int32)
          )
        ) else (
          some (0 : Int32)
        )
      )
    )
  )
def F_Samples_size (m0 : Mem) (t : Nat) : Option (Int32) :=
  some (m0 t 1)
def F_Packet_clear (m0 : Mem) (t : Nat) : Option (Mem) :=
  bnd (put m0 t 1 (0 : Int32)) fun m1 =>
  some m1
def F_Wire_append (m0 : Mem) : Option (Option Nat × Mem) :=
  if (m0 7 1) < (8 : Int32) then (
    if (m0 7 1) < 0 ∨ ln 8 ≤ (Int32.toNatClampNeg (m0 7 1)) then none else
    gp (kd (Int32.toNatClampNeg (m0 8 (Int32.toNatClampNeg (m0 7 1)))) = 3) <|
    rd (F_Packet_clear m0 (Int32.toNatClampNeg (m0 8 (Int32.toNatClampNeg (m0 7 1))))) fun m4 =>
    bnd (put m4 7 1 ((m4 7 1) + (1 : Int32))) fun m5 =>
    some ((some (Int32.toNatClampNeg (m0 8 (Int32.toNatClampNeg (m0 7 1))))), m5)
  ) else (
    some (none, m0)
  )
def F_Packet_addByte (m0 : Mem) (t : Nat) (p1 : Int32) : Option (Mem) :=
  if (44 : Int32) ≤ (m0 t 1) then (
    some m0
  ) else (
    if (m0 t 1) < 0 ∨ ln (t + 1) ≤ (Int32.toNatClampNeg (m0 t 1)) then none else
    bnd (put m0 (t + 1) (Int32.toNatClampNeg (m0 t 1)) (p1 &&& (255 : Int32))) fun m2 =>
    bnd (put m2 t 1 ((m2 t 1) + (1 : Int32))) fun m3 =>
    some m3
  )
def F_Packet_addHead (m0 : Mem) (t : Nat) (p1 : Int32) (p2 : Int32) : Option (Mem) :=
  rd (F_Packet_addByte m0 t (128 : Int32)) fun m2 =>
  if (p1 &&& (3 : Int32)) < 0 ∨ 4 ≤ (Int32.toNatClampNeg (p1 &&& (3 : Int32))) then none else
  if p2 = 0 then (
    rd (F_Packet_addByte m2 t ((tb_TYPES (Int32.toNatClampNeg (p1 &&& (3 : Int32)))) + (0 : Int32))) fun m5 =>
    some m5
  ) else (
    rd (F_Packet_addByte m2 t ((tb_TYPES (Int32.toNatClampNeg (p1 &&& (3 : Int32)))) + (128 : Int32))) fun m7 =>
    some m7
  )
def F_Packet_addPair (m0 : Mem) (t : Nat) (p1 : Int32) : Option (Mem) :=
  rd (F_Packet_addByte m0 t (p1 >>> ((8 : Int32) &&& (31 : Int32)))) fun m2 =>
  rd (F_Packet_addByte m2 t p1) fun m4 =>
  some m4
def F_Packet_addFour (m0 : Mem) (t : Nat) (p1 : Int32) : Option (Mem) :=
  rd (F_Packet_addPair m0 t (p1 >>> ((16 : Int32) &&& (31 : Int32)))) fun m2 =>
  rd (F_Packet_addPair m2 t p1) fun m4 =>
  some m4
def F_Adaptive_value (m0 : Mem) (t : Nat) : Option (Int32) :=
  some (m0 t 0)
def F_Adaptive_index (m0 : Mem) (t : Nat) : Option (Int32) :=
  some (m0 t 1)
def F_Samples_get (m0 : Mem) (t : Nat) (p1 : Int32) : Option (Int32) :=
  if p1 < 0 then (
    some (40000 : Int32)
  ) else (
    if (m0 t 1) ≤ p1 then (
      some (40000 : Int32)
    ) else (
      if p1 < 0 ∨ ln (t + 1) ≤ (Int32.toNatClampNeg p1) then none else
      some (m0 (t + 1) (Int32.toNatClampNeg p1))
    )
  )
def F_Adaptive_codeOf_74 (m0 : Mem) (l2 : Int32) (l4 : Int32) (l5 : Int32) : Option (Int32) :=
  if l5 < (l2 / (4 : Int32)) then (
    some l4
  ) else (
    some (l4 + (1 : Int32))
  )
def F_Adaptive_codeOf_55 (m0 : Mem) (l2 : Int32) (l4 : Int32) (l5 : Int32) : Option (Int32) :=
  if l5 < (l2 / (2 : Int32)) then (
    F_Adaptive_codeOf_74 m0 l2 l4 l5
  ) else (
    bnd (l5 - (l2 / (2 : Int32))) fun v5 =>
    F_Adaptive_codeOf_74 m0 l2 (l4 + (2 : Int32)) v5
  )
def F_Adaptive_codeOf_38 (m0 : Mem) (l2 : Int32) (l4 : Int32) (s0 : Int32) : Option (Int32) :=
  if s0 < l2 then (
    F_Adaptive_codeOf_55 m0 l2 l4 s0
  ) else (
    bnd (s0 - l2) fun v4 =>
    F_Adaptive_codeOf_55 m0 l2 (l4 + (4 : Int32)) v4
  )
def F_Adaptive_codeOf_26 (m0 : Mem) (l2 : Int32) (l3 : Int32) (s0 : Int32) : Option (Int32) :=
  if 0 ≤ l3 then (
    F_Adaptive_codeOf_38 m0 l2 s0 l3
  ) else (
    F_Adaptive_codeOf_38 m0 l2 s0 (-l3)
  )
def F_Adaptive_codeOf (m0 : Mem) (t : Nat) (p1 : Int32) : Option (Int32) :=
  if (m0 t 1) < 0 ∨ 89 ≤ (Int32.toNatClampNeg (m0 t 1)) then none else
  bnd (tb_STEPS (Int32.toNatClampNeg (m0 t 1))) fun v2 =>
  bnd (p1 - (m0 t 0)) fun v3 =>
  if 0 ≤ v3 then (
    F_Adaptive_codeOf_26 m0 v2 v3 (0 : Int32)
  ) else (
    F_Adaptive_codeOf_26 m0 v2 v3 (8 : Int32)
  )
def F_Adaptive_within (p0 : Int32) (p1 : Int32) (p2 : Int32) : Option (Int32) :=
  if p1 ≤ p0 then (
    if p0 ≤ p2 then (
      some p0
    ) else (
      some p2
    )
  ) else (
    some p1
  )
def F_Adaptive_changeBy_90 (m0 : Mem) (l0 : Nat) (l4 : Int32) (s0 : Nat) (s1 : Int32) : Option (Mem) :=
  rd (F_Adaptive_within s1 (-32768 : Int32) (32767 : Int32)) fun r8 =>
  bnd (put m0 s0 0 r8) fun m9 =>
  rd (F_Adaptive_within ((m9 l0 1) + l4) (0 : Int32) (88 : Int32)) fun r11 =>
  bnd (put m9 l0 1 r11) fun m12 =>
  some m12
def F_Adaptive_changeBy_65 (m0 : Mem) (l0 : Nat) (l1 : Int32) (l3 : Int32) (s0 : Int32) : Option (Mem) :=
  if (l1 &&& (8 : Int32)) = 0 then (
    F_Adaptive_changeBy_90 m0 l0 s0 l0 ((m0 l0 0) + l3)
  ) else (
    F_Adaptive_changeBy_90 m0 l0 s0 l0 ((m0 l0 0) - l3)
  )
def F_Adaptive_changeBy_48 (m0 : Mem) (l0 : Nat) (l1 : Int32) (l3 : Int32) : Option (Mem) :=
  if (l1 &&& (4 : Int32)) = 0 then (
    F_Adaptive_changeBy_65 m0 l0 l1 l3 (-1 : Int32)
  ) else (
    F_Adaptive_changeBy_65 m0 l0 l1 l3 ((2 : Int32) + ((2 : Int32) * (l1 &&& (3 : Int32))))
  )
def F_Adaptive_changeBy_36 (m0 : Mem) (l0 : Nat) (l1 : Int32) (l2 : Int32) (l3 : Int32) : Option (Mem) :=
  if (l1 &&& (1 : Int32)) = 0 then (
    F_Adaptive_changeBy_48 m0 l0 l1 l3
  ) else (
    bnd (l3 + (l2 / (4 : Int32))) fun v6 =>
    F_Adaptive_changeBy_48 m0 l0 l1 v6
  )
def F_Adaptive_changeBy_24 (m0 : Mem) (l0 : Nat) (l1 : Int32) (l2 : Int32) (l3 : Int32) : Option (Mem) :=
  if (l1 &&& (2 : Int32)) = 0 then (
    F_Adaptive_changeBy_36 m0 l0 l1 l2 l3
  ) else (
    bnd (l3 + (l2 / (2 : Int32))) fun v5 =>
    F_Adaptive_changeBy_36 m0 l0 l1 l2 v5
  )
def F_Adaptive_changeBy (m0 : Mem) (t : Nat) (p1 : Int32) : Option (Mem) :=
  if (m0 t 1) < 0 ∨ 89 ≤ (Int32.toNatClampNeg (m0 t 1)) then none else
  bnd (tb_STEPS (Int32.toNatClampNeg (m0 t 1))) fun v2 =>
  bnd (v2 / (8 : Int32)) fun v3 =>
  if (p1 &&& (4 : Int32)) = 0 then (
    F_Adaptive_changeBy_24 m0 t p1 v2 v3
  ) else (
    bnd (v3 + v2) fun v4 =>
    F_Adaptive_changeBy_24 m0 t p1 v2 v4
  )
def F_Adaptive_codeAndChange (m0 : Mem) (t : Nat) (p1 : Int32) : Option (Int32 × Mem) :=
  rd (F_Adaptive_codeOf m0 t p1) fun r2 =>
  rd (F_Adaptive_changeBy m0 t r2) fun m4 =>
  some (r2, m4)
def F_Sender_packAdaptive_30 (fu : Nat) (m0 : Mem) (l1 : Nat) (l2 : Nat) (l3 : Int32) (l4 : Int32) : Option (Mem) := match fu with
  | 0 => none
  | n + 1 =>
    if l3 ≤ (l4 + (1 : Int32)) then (
      some m0
    ) else (
      rd (F_Samples_get m0 l2 l4) fun r12 =>
      cal (F_Adaptive_codeAndChange m0 10 r12) fun r14 m15 =>
      rd (F_Samples_get m15 l2 (l4 + (1 : Int32))) fun r17 =>
      cal (F_Adaptive_codeAndChange m15 10 r17) fun r19 m20 =>
      rd (F_Packet_addByte m20 l1 (((16 : Int32) * r14) + r19)) fun m22 =>
      F_Sender_packAdaptive_30 n m22 l1 l2 l3 (l4 + (2 : Int32))
    )
def F_Sender_packAdaptive (m0 : Mem) (p1 : Nat) (p2 : Nat) (p3 : Int32) : Option (Mem) :=
  rd (F_Adaptive_value m0 10) fun r2 =>
  rd (F_Packet_addPair m0 p1 r2) fun m4 =>
  rd (F_Adaptive_index m4 10) fun r6 =>
  rd (F_Packet_addByte m4 p1 r6) fun m8 =>
  rd (F_Packet_addByte m8 p1 (0 : Int32)) fun m10 =>
  F_Sender_packAdaptive_30 300 m10 p1 p2 p3 (0 : Int32)
def F_Sender_packPlain_3 (fu : Nat) (m0 : Mem) (l0 : Nat) (l1 : Int32) (l2 : Nat) (l3 : Int32) (l4 : Int32) : Option (Mem) := match fu with
  | 0 => none
  | n + 1 =>
    if l3 ≤ l4 then (
      some m0
    ) else (
      rd (F_Samples_get m0 l2 l4) fun r2 =>
      if l1 = (3 : Int32) then (
        rd (F_Packet_addPair m0 l0 r2) fun m8 =>
        F_Sender_packPlain_3 n m8 l0 l1 l2 l3 (l4 + (1 : Int32))
      ) else (
        rd (F_Intervals_codeOf l1 r2) fun r4 =>
        rd (F_Packet_addByte m0 l0 r4) fun m6 =>
        F_Sender_packPlain_3 n m6 l0 l1 l2 l3 (l4 + (1 : Int32))
      )
    )
def F_Sender_packPlain (m0 : Mem) (p0 : Nat) (p1 : Int32) (p2 : Nat) (p3 : Int32) : Option (Mem) :=
  F_Sender_packPlain_3 300 m0 p0 p1 p2 p3 (0 : Int32)
def F_Gate_sequenceAfter (p0 : Int32) : Option (Int32) :=
  some ((p0 + (1 : Int32)) - (p0 + (1 : Int32)) / (65536 : Int32) * (65536 : Int32))
def F_Sender_pack_56 (m0 : Mem) (l5 : Int32) : Option (Mem) :=
  rd (F_Gate_sequenceAfter (m0 9 0)) fun r14 =>
  bnd (put m0 9 0 r14) fun m15 =>
  bnd (put m15 9 1 ((m15 9 1) + l5)) fun m16 =>
  some m16
def F_Sender_pack (m0 : Mem) (p1 : Nat) (p2 : Int32) (p3 : Int32) (p4 : Nat) (p5 : Int32) : Option (Mem) :=
  rd (F_Packet_addHead m0 p1 p2 p3) fun m2 =>
  rd (F_Packet_addPair m2 p1 (m2 9 0)) fun m4 =>
  rd (F_Packet_addFour m4 p1 (m4 9 1)) fun m6 =>
  rd (F_Packet_addFour m6 p1 (m6 9 2)) fun m8 =>
  if p2 = (2 : Int32) then (
    rd (F_Sender_packAdaptive m8 p1 p4 p5) fun m12 =>
    F_Sender_pack_56 m12 p5
  ) else (
    rd (F_Sender_packPlain m8 p1 p2 p4 p5) fun m10 =>
    F_Sender_pack_56 m10 p5
  )
def F_Samples_dropFirst (m0 : Mem) (t : Nat) (p1 : Int32) : Option (Mem) :=
  if p1 ≤ 0 then (
    some m0
  ) else (
    if (m0 t 1) < p1 then (
      some m0
    ) else (
      if p1 < 0 ∨ (0 : Int32) < 0 ∨ ((m0 t 1) - p1) < 0 ∨ ln (t + 1) < (Int32.toNatClampNeg p1) + (Int32.toNatClampNeg ((m0 t 1) - p1)) ∨ ln (t + 1) < (Int32.toNatClampNeg (0 : Int32)) + (Int32.toNatClampNeg ((m0 t 1) - p1)) then none else
      bnd (stm m0 (t + 1) (va_cpy (m0 (t + 1)) (m0 (t + 1)) (Int32.toNatClampNeg p1) (Int32.toNatClampNeg (0 : Int32)) (Int32.toNatClampNeg ((m0 t 1) - p1)))) fun m2 =>
      bnd (put m2 t 1 ((m2 t 1) - p1)) fun m3 =>
      some m3
    )
  )
def F_Packet_length (m0 : Mem) (t : Nat) : Option (Int32) :=
  some (m0 t 1)
def F_Gate_send (m0 : Mem) (p1 : Int32) (p2 : Int32) (p3 : Int32) : Option (Int32 × Mem) :=
  rd (F_Sender_canPack p1 p2) fun r2 =>
  if r2 = 0 then (
    some ((-1 : Int32), m0)
  ) else (
    rd (F_Samples_size m0 1) fun r4 =>
    if p2 ≤ r4 then (
      cal (F_Wire_append m0) fun r6 m7 =>
      om r6 (
        some ((-3 : Int32), m7)
      ) fun k8 =>
      gp (kd k8 = 3) <|
      rd (F_Sender_pack m7 k8 p1 p3 1 p2) fun m11 =>
      rd (F_Samples_dropFirst m11 1 p2) fun m13 =>
      rd (F_Packet_length m13 k8) fun r15 =>
      some (r15, m13)
    ) else (
      some ((-2 : Int32), m0)
    )
  )
def F_Wire_size (m0 : Mem) : Option (Int32) :=
  some (m0 7 1)
def F_Gate_line (m0 : Mem) : Option (Int32) :=
  rd (F_Wire_size m0) fun r2 =>
  some r2
def F_Wire_at (m0 : Mem) (p1 : Int32) : Option (Option Nat) :=
  if p1 < 0 then (
    some none
  ) else (
    if (m0 7 1) ≤ p1 then (
      some none
    ) else (
      if p1 < 0 ∨ ln 8 ≤ (Int32.toNatClampNeg p1) then none else
      gp (kd (Int32.toNatClampNeg (m0 8 (Int32.toNatClampNeg p1))) = 3) <|
      some (some (Int32.toNatClampNeg (m0 8 (Int32.toNatClampNeg p1))))
    )
  )
def F_Packet_has (m0 : Mem) (t : Nat) (p1 : Int32) : Option (Int32) :=
  if p1 < 0 then (
    some (0 : Int32)
  ) else (
    if (m0 t 1) ≤ p1 then (
      some (0 : Int32)
    ) else (
      some (1 : Int32)
    )
  )
def F_Packet_get (m0 : Mem) (t : Nat) (p1 : Int32) : Option (Int32) :=
  rd (F_Packet_has m0 t p1) fun r2 =>
  if r2 = 0 then (
    some (-1 : Int32)
  ) else (
    if p1 < 0 ∨ ln (t + 1) ≤ (Int32.toNatClampNeg p1) then none else
    some (m0 (t + 1) (Int32.toNatClampNeg p1))
  )
def F_Gate_byteAt (m0 : Mem) (p1 : Int32) (p2 : Int32) : Option (Int32) :=
  rd (F_Wire_at m0 p1) fun r2 =>
  om r2 (
    some (-1 : Int32)
  ) fun k3 =>
  gp (kd k3 = 3) <|
  rd (F_Packet_get m0 k3 p2) fun r6 =>
  some r6
def F_Packet_put (m0 : Mem) (t : Nat) (p1 : Int32) (p2 : Int32) : Option (Int32 × Mem) :=
  rd (F_Packet_has m0 t p1) fun r2 =>
  if r2 = 0 then (
    some ((0 : Int32), m0)
  ) else (
    if p1 < 0 ∨ ln (t + 1) ≤ (Int32.toNatClampNeg p1) then none else
    bnd (put m0 (t + 1) (Int32.toNatClampNeg p1) p2) fun m4 =>
    some ((1 : Int32), m4)
  )
def F_Gate_poke (m0 : Mem) (p1 : Int32) (p2 : Int32) (p3 : Int32) : Option (Int32 × Mem) :=
  rd (F_Wire_at m0 p1) fun r2 =>
  om r2 (
    some ((0 : Int32), m0)
  ) fun k3 =>
  gp (kd k3 = 3) <|
  rd (F_Gate_isByte p3) fun r6 =>
  if r6 = 0 then (
    some ((0 : Int32), m0)
  ) else (
    cal (F_Packet_put m0 k3 p2 p3) fun r8 m9 =>
    if r8 = 0 then (
      some ((0 : Int32), m9)
    ) else (
      some ((1 : Int32), m9)
    )
  )
def F_Wire_lose_14 (fu : Nat) (m0 : Mem) (l2 : Nat) (l3 : Int32) : Option (Int32 × Mem) := match fu with
  | 0 => none
  | n + 1 =>
    if (m0 7 1) ≤ (l3 + (1 : Int32)) then (
      bnd (put m0 7 1 ((m0 7 1) - (1 : Int32))) fun m5 =>
      if (m5 7 1) < 0 ∨ ln 8 ≤ (Int32.toNatClampNeg (m5 7 1)) then none else
      bnd (put m5 8 (Int32.toNatClampNeg (m5 7 1)) (nI l2)) fun m7 =>
      some ((1 : Int32), m7)
    ) else (
      if (l3 + (1 : Int32)) < 0 ∨ ln 8 ≤ (Int32.toNatClampNeg (l3 + (1 : Int32))) then none else
      gp (kd (Int32.toNatClampNeg (m0 8 (Int32.toNatClampNeg (l3 + (1 : Int32))))) = 3) <|
      if l3 < 0 ∨ ln 8 ≤ (Int32.toNatClampNeg l3) then none else
      bnd (put m0 8 (Int32.toNatClampNeg l3) (nI (Int32.toNatClampNeg (m0 8 (Int32.toNatClampNeg (l3 + (1 : Int32))))))) fun m11 =>
      F_Wire_lose_14 n m11 l2 (l3 + (1 : Int32))
    )
def F_Wire_lose (m0 : Mem) (p1 : Int32) : Option (Int32 × Mem) :=
  rd (F_Wire_at m0 p1) fun r2 =>
  om r2 (
    some ((0 : Int32), m0)
  ) fun k3 =>
  gp (kd k3 = 3) <|
  F_Wire_lose_14 300 m0 k3 p1
def F_Wire_exchange (m0 : Mem) (p1 : Int32) : Option (Int32 × Mem) :=
  rd (F_Wire_at m0 p1) fun r2 =>
  om r2 (
    some ((0 : Int32), m0)
  ) fun k3 =>
  gp (kd k3 = 3) <|
  if (p1 + (1 : Int32)) < (m0 7 1) then (
    if (p1 + (1 : Int32)) < 0 ∨ ln 8 ≤ (Int32.toNatClampNeg (p1 + (1 : Int32))) then none else
    gp (kd (Int32.toNatClampNeg (m0 8 (Int32.toNatClampNeg (p1 + (1 : Int32))))) = 3) <|
    if p1 < 0 ∨ ln 8 ≤ (Int32.toNatClampNeg p1) then none else
    bnd (put m0 8 (Int32.toNatClampNeg p1) (nI (Int32.toNatClampNeg (m0 8 (Int32.toNatClampNeg (p1 + (1 : Int32))))))) fun m8 =>
    bnd (put m8 8 (Int32.toNatClampNeg (p1 + (1 : Int32))) (nI k3)) fun m9 =>
    some ((1 : Int32), m9)
  ) else (
    some ((0 : Int32), m0)
  )
def F_Packet_copyFrom (m0 : Mem) (t : Nat) (p1 : Nat) : Option (Mem) :=
  if (0 : Int32) < 0 ∨ (0 : Int32) < 0 ∨ (44 : Int32) < 0 ∨ ln (p1 + 1) < (Int32.toNatClampNeg (0 : Int32)) + (Int32.toNatClampNeg (44 : Int32)) ∨ ln (t + 1) < (Int32.toNatClampNeg (0 : Int32)) + (Int32.toNatClampNeg (44 : Int32)) then none else
  bnd (stm m0 (t + 1) (va_cpy (m0 (p1 + 1)) (m0 (t + 1)) (Int32.toNatClampNeg (0 : Int32)) (Int32.toNatClampNeg (0 : Int32)) (Int32.toNatClampNeg (44 : Int32)))) fun m2 =>
  bnd (put m2 t 1 (m2 p1 1)) fun m3 =>
  some m3
def F_Wire_repeat (m0 : Mem) (p1 : Int32) : Option (Int32 × Mem) :=
  rd (F_Wire_at m0 p1) fun r2 =>
  om r2 (
    some ((0 : Int32), m0)
  ) fun k3 =>
  gp (kd k3 = 3) <|
  cal (F_Wire_append m0) fun r6 m7 =>
  om r6 (
    some ((0 : Int32), m7)
  ) fun k8 =>
  gp (kd k8 = 3) <|
  rd (F_Packet_copyFrom m7 k8 k3) fun m11 =>
  some ((1 : Int32), m11)
def F_Packet_cutLast (m0 : Mem) (t : Nat) : Option (Int32 × Mem) :=
  if (m0 t 1) = 0 then (
    some ((0 : Int32), m0)
  ) else (
    bnd (put m0 t 1 ((m0 t 1) - (1 : Int32))) fun m1 =>
    some ((1 : Int32), m1)
  )
def F_Wire_shorten (m0 : Mem) (p1 : Int32) : Option (Int32 × Mem) :=
  rd (F_Wire_at m0 p1) fun r2 =>
  om r2 (
    some ((0 : Int32), m0)
  ) fun k3 =>
  gp (kd k3 = 3) <|
  cal (F_Packet_cutLast m0 k3) fun r6 m7 =>
  if r6 = 0 then (
    some ((0 : Int32), m7)
  ) else (
    some ((1 : Int32), m7)
  )
def F_Gate_disturb (m0 : Mem) (p1 : Int32) (p2 : Int32) : Option (Int32 × Mem) :=
  if p2 = (0 : Int32) then (
    cal (F_Wire_lose m0 p1) fun r14 m15 =>
    gp (r14 = 0 ∨ r14 = 1) <|
    some (r14, m15)
  ) else (
    if p2 = (1 : Int32) then (
      cal (F_Wire_exchange m0 p1) fun r10 m11 =>
      gp (r10 = 0 ∨ r10 = 1) <|
      some (r10, m11)
    ) else (
      if p2 = (2 : Int32) then (
        cal (F_Wire_repeat m0 p1) fun r6 m7 =>
        gp (r6 = 0 ∨ r6 = 1) <|
        some (r6, m7)
      ) else (
        if p2 = (3 : Int32) then (
          cal (F_Wire_shorten m0 p1) fun r2 m3 =>
          gp (r2 = 0 ∨ r2 = 1) <|
          some (r2, m3)
        ) else (
          some ((0 : Int32), m0)
        )
      )
    )
  )
def F_Packet_coding_12 (fu : Nat) (m0 : Mem) (l1 : Int32) (l2 : Int32) : Option (Int32) := match fu with
  | 0 => none
  | n + 1 =>
    if (4 : Int32) ≤ l2 then (
      some (-1 : Int32)
    ) else (
      if l2 < 0 ∨ 4 ≤ (Int32.toNatClampNeg l2) then none else
      if (tb_TYPES (Int32.toNatClampNeg l2)) = l1 then (
        some l2
      ) else (
        F_Packet_coding_12 n m0 l1 (l2 + (1 : Int32))
      )
    )
def F_Packet_coding (m0 : Mem) (t : Nat) : Option (Int32) :=
  if (1 : Int32) < 0 ∨ ln (t + 1) ≤ (Int32.toNatClampNeg (1 : Int32)) then none else
  bnd ((m0 (t + 1) (Int32.toNatClampNeg (1 : Int32))) &&& (127 : Int32)) fun v2 =>
  F_Packet_coding_12 300 m0 v2 (0 : Int32)
def F_Packet_samplesIn (m0 : Mem) (t : Nat) : Option (Int32) :=
  bnd ((m0 t 1) - (12 : Int32)) fun v1 =>
  rd (F_Packet_coding m0 t) fun r3 =>
  if r3 = (0 : Int32) then (
    some v1
  ) else (
    if r3 = (1 : Int32) then (
      some v1
    ) else (
      if r3 = (2 : Int32) then (
        some ((2 : Int32) * ((m0 t 1) - (16 : Int32)))
      ) else (
        if r3 = (3 : Int32) then (
          if (v1 - v1 / (2 : Int32) * (2 : Int32)) = 0 then (
            some (v1 / (2 : Int32))
          ) else (
            some (0 : Int32)
          )
        ) else (
          some (0 : Int32)
        )
      )
    )
  )
def F_Adaptive_isIndex (p0 : Int32) : Option (Int32) :=
  if p0 < 0 then (
    some (0 : Int32)
  ) else (
    if (88 : Int32) < p0 then (
      some (0 : Int32)
    ) else (
      some (1 : Int32)
    )
  )
def F_Packet_isSound (m0 : Mem) (t : Nat) : Option (Int32) :=
  if (m0 t 1) ≤ (12 : Int32) then (
    some (0 : Int32)
  ) else (
    if (0 : Int32) < 0 ∨ ln (t + 1) ≤ (Int32.toNatClampNeg (0 : Int32)) then none else
    if (m0 (t + 1) (Int32.toNatClampNeg (0 : Int32))) = (128 : Int32) then (
      rd (F_Packet_samplesIn m0 t) fun r3 =>
      if r3 < (1 : Int32) then (
        some (0 : Int32)
      ) else (
        if r3 ≤ (16 : Int32) then (
          rd (F_Packet_coding m0 t) fun r5 =>
          if r5 = (2 : Int32) then (
            if (14 : Int32) < 0 ∨ ln (t + 1) ≤ (Int32.toNatClampNeg (14 : Int32)) then none else
            rd (F_Adaptive_isIndex (m0 (t + 1) (Int32.toNatClampNeg (14 : Int32)))) fun r8 =>
            if r8 = 0 then (
              some (0 : Int32)
            ) else (
              if (15 : Int32) < 0 ∨ ln (t + 1) ≤ (Int32.toNatClampNeg (15 : Int32)) then none else
              if (m0 (t + 1) (Int32.toNatClampNeg (15 : Int32))) = 0 then (
                some (1 : Int32)
              ) else (
                some (0 : Int32)
              )
            )
          ) else (
            some (1 : Int32)
          )
        ) else (
          some (0 : Int32)
        )
      )
    ) else (
      some (0 : Int32)
    )
  )
def F_Packet_pairAt (m0 : Mem) (t : Nat) (p1 : Int32) : Option (Int32) :=
  if p1 < 0 then (
    some (0 : Int32)
  ) else (
    if (44 : Int32) ≤ (p1 + (1 : Int32)) then (
      some (0 : Int32)
    ) else (
      if p1 < 0 ∨ ln (t + 1) ≤ (Int32.toNatClampNeg p1) then none else
      if (p1 + (1 : Int32)) < 0 ∨ ln (t + 1) ≤ (Int32.toNatClampNeg (p1 + (1 : Int32))) then none else
      some (((m0 (t + 1) (Int32.toNatClampNeg p1)) * (256 : Int32)) + (m0 (t + 1) (Int32.toNatClampNeg (p1 + (1 : Int32)))))
    )
  )
def F_Packet_fourAt (m0 : Mem) (t : Nat) (p1 : Int32) : Option (Int32) :=
  rd (F_Packet_pairAt m0 t p1) fun r2 =>
  rd (F_Packet_pairAt m0 t (p1 + (2 : Int32))) fun r4 =>
  some ((r2 <<< ((16 : Int32) &&& (31 : Int32))) ||| r4)
def F_Packet_source (m0 : Mem) (t : Nat) : Option (Int32) :=
  rd (F_Packet_fourAt m0 t (8 : Int32)) fun r2 =>
  some r2
def F_Packet_sequence (m0 : Mem) (t : Nat) : Option (Int32) :=
  rd (F_Packet_pairAt m0 t (2 : Int32)) fun r2 =>
  some r2
def F_Math_floorMod (p0 : Int32) (p1 : Int32) : Option (Int32) :=
  if p1 = 0 then none else
  bnd (p0 - p0 / p1 * p1) fun v2 =>
  if 0 ≤ (p0 ^^^ p1) then (
    some v2
  ) else (
    if v2 = 0 then (
      some v2
    ) else (
      some (v2 + p1)
    )
  )
def F_Buffer_distanceOf (m0 : Mem) (p1 : Int32) : Option (Int32) :=
  rd (F_Math_floorMod (p1 - (m0 13 5)) (65536 : Int32)) fun r2 =>
  if r2 < (32768 : Int32) then (
    some r2
  ) else (
    some (r2 - (65536 : Int32))
  )
def F_Buffer_placeOf (p0 : Int32) : Option (Int32) :=
  rd (F_Math_floorMod p0 (8 : Int32)) fun r2 =>
  some r2
def F_Buffer_judge (m0 : Mem) (p1 : Nat) : Option (Int32) :=
  rd (F_Packet_isSound m0 p1) fun r2 =>
  if r2 = 0 then (
    some (-1 : Int32)
  ) else (
    if (m0 13 3) = 0 then (
      some (0 : Int32)
    ) else (
      rd (F_Packet_source m0 p1) fun r4 =>
      if r4 = (m0 13 6) then (
        rd (F_Packet_sequence m0 p1) fun r6 =>
        rd (F_Buffer_distanceOf m0 r6) fun r8 =>
        if 0 ≤ r8 then (
          if r8 < (8 : Int32) then (
            rd (F_Packet_sequence m0 p1) fun r10 =>
            rd (F_Buffer_placeOf r10) fun r12 =>
            if r12 < 0 ∨ ln 15 ≤ (Int32.toNatClampNeg r12) then none else
            if (m0 15 (Int32.toNatClampNeg r12)) = 0 then (
              some r8
            ) else (
              some (-6 : Int32)
            )
          ) else (
            some (-5 : Int32)
          )
        ) else (
          some (-4 : Int32)
        )
      ) else (
        some (-7 : Int32)
      )
    )
  )
def F_Buffer_accept_51 (m0 : Mem) (l1 : Nat) (l2 : Int32) : Option (Int32 × Mem) :=
  rd (F_Packet_sequence m0 l1) fun r13 =>
  rd (F_Buffer_placeOf r13) fun r15 =>
  if r15 < 0 ∨ ln 14 ≤ (Int32.toNatClampNeg r15) then none else
  gp (kd (Int32.toNatClampNeg (m0 14 (Int32.toNatClampNeg r15))) = 3) <|
  rd (F_Packet_copyFrom m0 (Int32.toNatClampNeg (m0 14 (Int32.toNatClampNeg r15))) l1) fun m19 =>
  if r15 < 0 ∨ ln 15 ≤ (Int32.toNatClampNeg r15) then none else
  bnd (put m19 15 (Int32.toNatClampNeg r15) (vp_nar .boolean (1 : Int32))) fun m21 =>
  bnd (put m21 13 4 ((m21 13 4) + (1 : Int32))) fun m22 =>
  some (l2, m22)
def F_Buffer_accept (m0 : Mem) (p1 : Nat) : Option (Int32 × Mem) :=
  rd (F_Buffer_judge m0 p1) fun r2 =>
  if 0 ≤ r2 then (
    if (m0 13 3) = 0 then (
      bnd (put m0 13 3 (1 : Int32)) fun m3 =>
      rd (F_Packet_sequence m3 p1) fun r5 =>
      bnd (put m3 13 5 r5) fun m6 =>
      rd (F_Packet_source m6 p1) fun r8 =>
      bnd (put m6 13 6 r8) fun m9 =>
      F_Buffer_accept_51 m9 p1 r2
    ) else (
      F_Buffer_accept_51 m0 p1 r2
    )
  ) else (
    if (-r2) < 0 ∨ ln 16 ≤ (Int32.toNatClampNeg (-r2)) then none else
    bnd (put m0 16 (Int32.toNatClampNeg (-r2)) ((m0 16 (Int32.toNatClampNeg (-r2))) + (1 : Int32))) fun m11 =>
    some (r2, m11)
  )
def F_Gate_receive (m0 : Mem) : Option (Int32 × Mem) :=
  rd (F_Wire_at m0 (0 : Int32)) fun r2 =>
  om r2 (
    some ((-2 : Int32), m0)
  ) fun k3 =>
  gp (kd k3 = 3) <|
  cal (F_Buffer_accept m0 k3) fun r6 m7 =>
  cal (F_Wire_lose m7 (0 : Int32)) fun r9 m10 =>
  some (r6, m10)
def F_Buffer_setPrefill (m0 : Mem) (p1 : Int32) : Option (Int32 × Mem) :=
  if p1 < (1 : Int32) then (
    some ((0 : Int32), m0)
  ) else (
    if p1 ≤ (4 : Int32) then (
      bnd (put m0 13 7 p1) fun m1 =>
      some ((1 : Int32), m1)
    ) else (
      some ((0 : Int32), m0)
    )
  )
def F_Gate_prefill (m0 : Mem) (p1 : Int32) : Option (Int32 × Mem) :=
  cal (F_Buffer_setPrefill m0 p1) fun r2 m3 =>
  gp (r2 = 0 ∨ r2 = 1) <|
  some (r2, m3)
def F_Buffer_isReady (m0 : Mem) : Option (Int32) :=
  if (m0 13 3) = (2 : Int32) then (
    some (1 : Int32)
  ) else (
    if (m0 13 3) = (1 : Int32) then (
      if (m0 13 4) < (m0 13 7) then (
        some (0 : Int32)
      ) else (
        some (1 : Int32)
      )
    ) else (
      some (0 : Int32)
    )
  )
def F_Buffer_due (m0 : Mem) : Option (Option Nat) :=
  rd (F_Buffer_placeOf (m0 13 5)) fun r2 =>
  if r2 < 0 ∨ ln 15 ≤ (Int32.toNatClampNeg r2) then none else
  if (m0 15 (Int32.toNatClampNeg r2)) = 0 then (
    some none
  ) else (
    if r2 < 0 ∨ ln 14 ≤ (Int32.toNatClampNeg r2) then none else
    gp (kd (Int32.toNatClampNeg (m0 14 (Int32.toNatClampNeg r2))) = 3) <|
    some (some (Int32.toNatClampNeg (m0 14 (Int32.toNatClampNeg r2))))
  )
def F_Buffer_state (m0 : Mem) : Option (Int32) :=
  some (m0 13 3)
def F_Packet_hasMark (m0 : Mem) (t : Nat) : Option (Int32) :=
  if (1 : Int32) < 0 ∨ ln (t + 1) ≤ (Int32.toNatClampNeg (1 : Int32)) then none else
  if ((m0 (t + 1) (Int32.toNatClampNeg (1 : Int32))) &&& (128 : Int32)) = 0 then (
    some (0 : Int32)
  ) else (
    some (1 : Int32)
  )
def F_Packet_time (m0 : Mem) (t : Nat) : Option (Int32) :=
  rd (F_Packet_fourAt m0 t (4 : Int32)) fun r2 =>
  some r2
def F_Samples_clear (m0 : Mem) (t : Nat) : Option (Mem) :=
  bnd (put m0 t 1 (0 : Int32)) fun m1 =>
  some m1
def F_Packet_sampleAt (m0 : Mem) (t : Nat) (p1 : Int32) : Option (Int32) :=
  rd (F_Packet_pairAt m0 t p1) fun r2 =>
  if r2 ≤ (32767 : Int32) then (
    some r2
  ) else (
    some (r2 - (65536 : Int32))
  )
def F_Adaptive_set (m0 : Mem) (t : Nat) (p1 : Int32) (p2 : Int32) : Option (Mem) :=
  rd (F_Adaptive_within p1 (-32768 : Int32) (32767 : Int32)) fun r2 =>
  bnd (put m0 t 0 r2) fun m3 =>
  rd (F_Adaptive_within p2 (0 : Int32) (88 : Int32)) fun r5 =>
  bnd (put m3 t 1 r5) fun m6 =>
  some m6
def F_Packet_readAdaptive_20 (fu : Nat) (m0 : Mem) (l0 : Nat) (l1 : Nat) (l2 : Nat) (l3 : Int32) : Option (Mem) := match fu with
  | 0 => none
  | n + 1 =>
    if (m0 l0 1) ≤ l3 then (
      some m0
    ) else (
      if l3 < 0 ∨ ln (l0 + 1) ≤ (Int32.toNatClampNeg l3) then none else
      rd (F_Adaptive_changeBy m0 l2 ((m0 (l0 + 1) (Int32.toNatClampNeg l3)) >>> ((4 : Int32) &&& (31 : Int32)))) fun m8 =>
      rd (F_Adaptive_value m8 l2) fun r10 =>
      rd (F_Samples_add m8 l1 r10) fun m12 =>
      rd (F_Adaptive_changeBy m12 l2 ((m12 (l0 + 1) (Int32.toNatClampNeg l3)) &&& (15 : Int32))) fun m14 =>
      rd (F_Adaptive_value m14 l2) fun r16 =>
      rd (F_Samples_add m14 l1 r16) fun m18 =>
      F_Packet_readAdaptive_20 n m18 l0 l1 l2 (l3 + (1 : Int32))
    )
def F_Packet_readAdaptive (m0 : Mem) (t : Nat) (p1 : Nat) (p2 : Nat) : Option (Mem) :=
  rd (F_Packet_sampleAt m0 t (12 : Int32)) fun r2 =>
  if (14 : Int32) < 0 ∨ ln (t + 1) ≤ (Int32.toNatClampNeg (14 : Int32)) then none else
  rd (F_Adaptive_set m0 p2 r2 (m0 (t + 1) (Int32.toNatClampNeg (14 : Int32)))) fun m5 =>
  F_Packet_readAdaptive_20 300 m5 t p1 p2 (16 : Int32)
def F_Packet_readInto_33 (fu : Nat) (m0 : Mem) (l0 : Nat) (l1 : Nat) (l3 : Int32) (l4 : Int32) (l5 : Int32) : Option (Mem) := match fu with
  | 0 => none
  | n + 1 =>
    if (m0 l0 1) < (l5 + l4) then (
      some m0
    ) else (
      if l3 = (3 : Int32) then (
        rd (F_Packet_sampleAt m0 l0 l5) fun r12 =>
        rd (F_Samples_add m0 l1 r12) fun m14 =>
        bnd (l5 + l4) fun v15 =>
        F_Packet_readInto_33 n m14 l0 l1 l3 l4 v15
      ) else (
        if l5 < 0 ∨ ln (l0 + 1) ≤ (Int32.toNatClampNeg l5) then none else
        rd (F_Intervals_middleOf l3 (m0 (l0 + 1) (Int32.toNatClampNeg l5))) fun r7 =>
        rd (F_Samples_add m0 l1 r7) fun m9 =>
        bnd (l5 + l4) fun v10 =>
        F_Packet_readInto_33 n m9 l0 l1 l3 l4 v10
      )
    )
def F_Packet_readInto (m0 : Mem) (t : Nat) (p1 : Nat) (p2 : Nat) : Option (Mem) :=
  rd (F_Packet_coding m0 t) fun r2 =>
  if r2 = (2 : Int32) then (
    rd (F_Packet_readAdaptive m0 t p1 p2) fun m4 =>
    some m4
  ) else (
    if r2 = (3 : Int32) then (
      F_Packet_readInto_33 300 m0 t p1 r2 (2 : Int32) (12 : Int32)
    ) else (
      F_Packet_readInto_33 300 m0 t p1 r2 (1 : Int32) (12 : Int32)
    )
  )
def F_Samples_addFirstOf_2 (fu : Nat) (m0 : Mem) (l0 : Nat) (l1 : Nat) (l2 : Int32) (l3 : Int32) : Option (Mem) := match fu with
  | 0 => none
  | n + 1 =>
    if l2 ≤ l3 then (
      some m0
    ) else (
      if (m0 l1 1) ≤ l3 then (
        some m0
      ) else (
        if l3 < 0 ∨ ln (l1 + 1) ≤ (Int32.toNatClampNeg l3) then none else
        rd (F_Samples_add m0 l0 (m0 (l1 + 1) (Int32.toNatClampNeg l3))) fun m3 =>
        F_Samples_addFirstOf_2 n m3 l0 l1 l2 (l3 + (1 : Int32))
      )
    )
def F_Samples_addFirstOf (m0 : Mem) (t : Nat) (p1 : Nat) (p2 : Int32) : Option (Mem) :=
  F_Samples_addFirstOf_2 300 m0 t p1 p2 (0 : Int32)
def F_Buffer_goOn_34 (m0 : Mem) : Option (Mem) :=
  rd (F_Gate_sequenceAfter (m0 13 5)) fun r7 =>
  bnd (put m0 13 5 r7) fun m8 =>
  bnd (put m8 13 3 (2 : Int32)) fun m9 =>
  some m9
def F_Buffer_goOn (m0 : Mem) : Option (Mem) :=
  rd (F_Buffer_placeOf (m0 13 5)) fun r2 =>
  if r2 < 0 ∨ ln 15 ≤ (Int32.toNatClampNeg r2) then none else
  if (m0 15 (Int32.toNatClampNeg r2)) = 0 then (
    F_Buffer_goOn_34 m0
  ) else (
    bnd (put m0 15 (Int32.toNatClampNeg r2) (vp_nar .boolean (0 : Int32))) fun m4 =>
    bnd (put m4 13 4 ((m4 13 4) - (1 : Int32))) fun m5 =>
    F_Buffer_goOn_34 m5
  )
def F_Player_playPacket_66 (m0 : Mem) (l1 : Nat) (l3 : Nat) (l4 : Int32) : Option (Int32 × Mem) :=
  rd (F_Packet_time m0 l1) fun r13 =>
  bnd (put m0 11 2 (r13 + l4)) fun m14 =>
  rd (F_Samples_clear m14 5) fun m16 =>
  rd (F_Packet_readInto m16 l1 5 12) fun m18 =>
  rd (F_Samples_addFirstOf m18 l3 5 l4) fun m20 =>
  bnd (put m20 11 3 (0 : Int32)) fun m21 =>
  rd (F_Buffer_goOn m21) fun m23 =>
  some (l4, m23)
def F_Player_playPacket_31 (m0 : Mem) (l1 : Nat) (l3 : Nat) (l4 : Int32) (s0 : Int32) : Option (Int32 × Mem) :=
  if s0 = 0 then (
    F_Player_playPacket_66 m0 l1 l3 l4
  ) else (
    rd (F_Packet_hasMark m0 l1) fun r8 =>
    if r8 = 0 then (
      rd (F_Packet_time m0 l1) fun r10 =>
      if r10 = (m0 11 2) then (
        F_Player_playPacket_66 m0 l1 l3 l4
      ) else (
        bnd (put m0 11 5 ((m0 11 5) + (1 : Int32))) fun m11 =>
        F_Player_playPacket_66 m11 l1 l3 l4
      )
    ) else (
      F_Player_playPacket_66 m0 l1 l3 l4
    )
  )
def F_Player_playPacket (m0 : Mem) (p1 : Nat) (p3 : Nat) : Option (Int32 × Mem) :=
  rd (F_Packet_samplesIn m0 p1) fun r2 =>
  rd (F_Samples_hasRoom m0 p3 r2) fun r4 =>
  if r4 = 0 then (
    some ((-3 : Int32), m0)
  ) else (
    rd (F_Buffer_state m0) fun r6 =>
    if r6 = (2 : Int32) then (
      F_Player_playPacket_31 m0 p1 p3 r2 (1 : Int32)
    ) else (
      F_Player_playPacket_31 m0 p1 p3 r2 (0 : Int32)
    )
  )
def F_Player_conceal_50 (fu : Nat) (m0 : Mem) (l2 : Nat) (l3 : Int32) (l4 : Int32) (l5 : Int32) : Option (Int32 × Mem) := match fu with
  | 0 => none
  | n + 1 =>
    if l3 ≤ l5 then (
      bnd (put m0 11 2 ((m0 11 2) + l3)) fun m8 =>
      rd (F_Buffer_goOn m8) fun m10 =>
      some (l3, m10)
    ) else (
      rd (F_Samples_get m0 5 l5) fun r12 =>
      if l4 = 0 then none else
      rd (F_Samples_add m0 l2 (r12 / l4)) fun m15 =>
      F_Player_conceal_50 n m15 l2 l3 l4 (l5 + (1 : Int32))
    )
def F_Player_conceal (m0 : Mem) (p2 : Nat) : Option (Int32 × Mem) :=
  rd (F_Samples_size m0 5) fun r2 =>
  rd (F_Samples_hasRoom m0 p2 r2) fun r4 =>
  if r4 = 0 then (
    some ((-3 : Int32), m0)
  ) else (
    bnd (put m0 11 4 ((m0 11 4) + (1 : Int32))) fun m5 =>
    bnd (put m5 11 3 ((m5 11 3) + (1 : Int32))) fun m6 =>
    bnd ((1 : Int32) <<< ((m6 11 3) &&& (31 : Int32))) fun v7 =>
    F_Player_conceal_50 300 m6 p2 r2 v7 (0 : Int32)
  )
def F_Buffer_comeToRest_2 (fu : Nat) (m0 : Mem) (l1 : Int32) : Option (Mem) := match fu with
  | 0 => none
  | n + 1 =>
    if (8 : Int32) ≤ l1 then (
      bnd (put m0 13 4 (0 : Int32)) fun m1 =>
      bnd (put m1 13 3 (0 : Int32)) fun m2 =>
      some m2
    ) else (
      if l1 < 0 ∨ ln 15 ≤ (Int32.toNatClampNeg l1) then none else
      bnd (put m0 15 (Int32.toNatClampNeg l1) (vp_nar .boolean (0 : Int32))) fun m4 =>
      F_Buffer_comeToRest_2 n m4 (l1 + (1 : Int32))
    )
def F_Buffer_comeToRest (m0 : Mem) : Option (Mem) :=
  F_Buffer_comeToRest_2 300 m0 (0 : Int32)
def F_Player_giveUp (m0 : Mem) : Option (Int32 × Mem) :=
  bnd (put m0 11 4 ((m0 11 4) + (1 : Int32))) fun m1 =>
  bnd (put m1 11 3 (0 : Int32)) fun m2 =>
  rd (F_Buffer_comeToRest m2) fun m4 =>
  some ((0 : Int32), m4)
def F_Player_playNext (m0 : Mem) (p2 : Nat) : Option (Int32 × Mem) :=
  rd (F_Buffer_isReady m0) fun r2 =>
  if r2 = 0 then (
    some ((-2 : Int32), m0)
  ) else (
    rd (F_Buffer_due m0) fun r4 =>
    om r4 (
      if (4 : Int32) ≤ (m0 11 3) then (
        cal (F_Player_giveUp m0) fun r7 m8 =>
        some (r7, m8)
      ) else (
        cal (F_Player_conceal m0 p2) fun r10 m11 =>
        some (r10, m11)
      )
    ) fun k5 =>
    gp (kd k5 = 3) <|
    cal (F_Player_playPacket m0 k5 p2) fun r14 m15 =>
    some (r14, m15)
  )
def F_Gate_play (m0 : Mem) : Option (Int32 × Mem) :=
  cal (F_Player_playNext m0 3) fun r2 m3 =>
  some (r2, m3)
def F_Gate_output (m0 : Mem) : Option (Int32) :=
  rd (F_Samples_size m0 3) fun r2 =>
  some r2
def F_Gate_sample (m0 : Mem) (p1 : Int32) : Option (Int32) :=
  rd (F_Samples_get m0 3 p1) fun r2 =>
  some r2
def F_Gate_pass (m0 : Mem) (p1 : Int32) : Option (Int32 × Mem) :=
  if p1 < 0 then (
    some ((0 : Int32), m0)
  ) else (
    rd (F_Samples_size m0 3) fun r2 =>
    if r2 < p1 then (
      some ((0 : Int32), m0)
    ) else (
      rd (F_Samples_hasRoom m0 1 p1) fun r4 =>
      if r4 = 0 then (
        some ((0 : Int32), m0)
      ) else (
        rd (F_Samples_addFirstOf m0 1 3 p1) fun m6 =>
        rd (F_Samples_dropFirst m6 3 p1) fun m8 =>
        some ((1 : Int32), m8)
      )
    )
  )
def F_Buffer_size (m0 : Mem) : Option (Int32) :=
  some (m0 13 4)
def F_Buffer_nextSequence (m0 : Mem) : Option (Int32) :=
  if (m0 13 3) = 0 then (
    some (-1 : Int32)
  ) else (
    some (m0 13 5)
  )
def F_Buffer_refusals (m0 : Mem) (p1 : Int32) : Option (Int32) :=
  if p1 < (-7 : Int32) then (
    some (0 : Int32)
  ) else (
    if 0 ≤ p1 then (
      some (0 : Int32)
    ) else (
      if (-p1) < 0 ∨ ln 16 ≤ (Int32.toNatClampNeg (-p1)) then none else
      some (m0 16 (Int32.toNatClampNeg (-p1)))
    )
  )
def F_Player_lostPackets (m0 : Mem) : Option (Int32) :=
  some (m0 11 4)
def F_Player_jumps (m0 : Mem) : Option (Int32) :=
  some (m0 11 5)
def F_Sender_value (m0 : Mem) : Option (Int32) :=
  rd (F_Adaptive_value m0 10) fun r2 =>
  some r2
def F_Sender_index (m0 : Mem) : Option (Int32) :=
  rd (F_Adaptive_index m0 10) fun r2 =>
  some r2
def F_Sender_nextSequence (m0 : Mem) : Option (Int32) :=
  some (m0 9 0)
def F_Gate_figure (m0 : Mem) (p1 : Int32) : Option (Int32) :=
  if p1 = (0 : Int32) then (
    rd (F_Buffer_state m0) fun r26 =>
    some r26
  ) else (
    if p1 = (1 : Int32) then (
      rd (F_Buffer_size m0) fun r24 =>
      some r24
    ) else (
      if p1 = (2 : Int32) then (
        rd (F_Buffer_nextSequence m0) fun r22 =>
        some r22
      ) else (
        if p1 = (3 : Int32) then (
          rd (F_Buffer_refusals m0 (-1 : Int32)) fun r20 =>
          some r20
        ) else (
          if p1 = (4 : Int32) then (
            rd (F_Buffer_refusals m0 (-4 : Int32)) fun r18 =>
            some r18
          ) else (
            if p1 = (5 : Int32) then (
              rd (F_Buffer_refusals m0 (-5 : Int32)) fun r16 =>
              some r16
            ) else (
              if p1 = (6 : Int32) then (
                rd (F_Buffer_refusals m0 (-6 : Int32)) fun r14 =>
                some r14
              ) else (
                if p1 = (7 : Int32) then (
                  rd (F_Buffer_refusals m0 (-7 : Int32)) fun r12 =>
                  some r12
                ) else (
                  if p1 = (8 : Int32) then (
                    rd (F_Player_lostPackets m0) fun r10 =>
                    some r10
                  ) else (
                    if p1 = (9 : Int32) then (
                      rd (F_Player_jumps m0) fun r8 =>
                      some r8
                    ) else (
                      if p1 = (10 : Int32) then (
                        rd (F_Sender_value m0) fun r6 =>
                        some r6
                      ) else (
                        if p1 = (11 : Int32) then (
                          rd (F_Sender_index m0) fun r4 =>
                          some r4
                        ) else (
                          if p1 = (12 : Int32) then (
                            rd (F_Sender_nextSequence m0) fun r2 =>
                            some r2
                          ) else (
                            some (-1 : Int32)
                          )
                        )
                      )
                    )
                  )
                )
              )
            )
          )
        )
      )
    )
  )
def F_Model_isSample (p0 : Int32) : Option (Int32) :=
  if p0 < (-32768 : Int32) then (
    some (0 : Int32)
  ) else (
    if (32767 : Int32) < p0 then (
      some (0 : Int32)
    ) else (
      some (1 : Int32)
    )
  )
def F_Model_begins_19 (fu : Nat) (l0 : Int32) (l2 : Int32) (l3 : Int32) (l4 : Int32) (l5 : Int32) : Option (Int32) := match fu with
  | 0 => none
  | n + 1 =>
    if (l2 + (3 : Int32)) ≤ l5 then (
      if l0 = 0 then (
        if l2 = 0 then (
          some ((16 : Int32) * l3)
        ) else (
          some l4
        )
      ) else (
        some l4
      )
    ) else (
      bnd ((2 : Int32) * l4) fun v4 =>
      F_Model_begins_19 n l0 l2 l3 v4 (l5 + (1 : Int32))
    )
def F_Model_begins (p0 : Int32) (p1 : Int32) : Option (Int32) :=
  bnd (p1 / (16 : Int32)) fun v1 =>
  bnd (p1 - p1 / (16 : Int32) * (16 : Int32)) fun v2 =>
  bnd ((16 : Int32) + v2) fun v3 =>
  F_Model_begins_19 300 p0 v1 v2 v3 (0 : Int32)
def F_Model_compress_72 (fu : Nat) (l1 : Int32) (l2 : Int32) (l4 : Int32) (l5 : Int32) : Option (Int32) := match fu with
  | 0 => none
  | n + 1 =>
    rd (F_Model_begins l1 l5) fun r6 =>
    if r6 ≤ l4 then (
      if l1 = 0 then (
        if 0 ≤ l2 then (
          some ((l5 + (128 : Int32)) ^^^ (85 : Int32))
        ) else (
          some (l5 ^^^ (85 : Int32))
        )
      ) else (
        if 0 ≤ l2 then (
          some ((255 : Int32) - l5)
        ) else (
          some ((127 : Int32) - l5)
        )
      )
    ) else (
      F_Model_compress_72 n l1 l2 l4 (l5 + (-1 : Int32))
    )
def F_Model_compress_28 (l1 : Int32) (l2 : Int32) (s0 : Int32) : Option (Int32) :=
  if l1 = 0 then (
    if 0 ≤ l2 then (
      F_Model_compress_72 300 l1 l2 l2 (127 : Int32)
    ) else (
      bnd ((-l2) - (1 : Int32)) fun v4 =>
      F_Model_compress_72 300 l1 l2 v4 (127 : Int32)
    )
  ) else (
    if s0 ≤ (32635 : Int32) then (
      bnd (s0 + (132 : Int32)) fun v3 =>
      F_Model_compress_72 300 l1 l2 v3 (127 : Int32)
    ) else (
      F_Model_compress_72 300 l1 l2 (32767 : Int32) (127 : Int32)
    )
  )
def F_Model_compress (p1 : Int32) (p2 : Int32) : Option (Int32) :=
  if p1 < 0 then (
    some (-1 : Int32)
  ) else (
    if (1 : Int32) < p1 then (
      some (-1 : Int32)
    ) else (
      rd (F_Model_isSample p2) fun r2 =>
      if r2 = 0 then (
        some (-1 : Int32)
      ) else (
        if 0 ≤ p2 then (
          F_Model_compress_28 p1 p2 p2
        ) else (
          F_Model_compress_28 p1 p2 (-p2)
        )
      )
    )
  )
def F_Model_half_4 (fu : Nat) (l0 : Int32) (l1 : Int32) (l2 : Int32) (l3 : Int32) : Option (Int32) := match fu with
  | 0 => none
  | n + 1 =>
    if (l1 / (16 : Int32)) ≤ l3 then (
      if l0 = 0 then (
        if (16 : Int32) ≤ l1 then (
          some l2
        ) else (
          some (8 : Int32)
        )
      ) else (
        some l2
      )
    ) else (
      bnd ((2 : Int32) * l2) fun v1 =>
      F_Model_half_4 n l0 l1 v1 (l3 + (1 : Int32))
    )
def F_Model_half (p0 : Int32) (p1 : Int32) : Option (Int32) :=
  F_Model_half_4 300 p0 p1 (4 : Int32) (0 : Int32)
def F_Model_expand_115 (l4 : Int32) (s0 : Int32) : Option (Int32) :=
  if s0 = 0 then (
    some (-l4)
  ) else (
    some l4
  )
def F_Model_expand_80 (l1 : Int32) (l2 : Int32) (s0 : Int32) (s1 : Int32) : Option (Int32) :=
  bnd (s0 - s1) fun v5 =>
  if l1 = 0 then (
    if (l2 ^^^ (85 : Int32)) ≤ (127 : Int32) then (
      F_Model_expand_115 v5 (0 : Int32)
    ) else (
      F_Model_expand_115 v5 (1 : Int32)
    )
  ) else (
    if l2 ≤ (127 : Int32) then (
      F_Model_expand_115 v5 (0 : Int32)
    ) else (
      F_Model_expand_115 v5 (1 : Int32)
    )
  )
def F_Model_expand_57 (l1 : Int32) (l2 : Int32) (s0 : Int32) : Option (Int32) :=
  rd (F_Model_begins l1 s0) fun r2 =>
  rd (F_Model_half l1 s0) fun r4 =>
  if l1 = 0 then (
    F_Model_expand_80 l1 l2 (r2 + r4) (0 : Int32)
  ) else (
    F_Model_expand_80 l1 l2 (r2 + r4) (132 : Int32)
  )
def F_Model_expand (p1 : Int32) (p2 : Int32) : Option (Int32) :=
  if p1 < 0 then (
    some (40000 : Int32)
  ) else (
    if (1 : Int32) < p1 then (
      some (40000 : Int32)
    ) else (
      if p2 < 0 then (
        some (40000 : Int32)
      ) else (
        if p2 ≤ (255 : Int32) then (
          if p1 = 0 then (
            F_Model_expand_57 p1 p2 ((p2 ^^^ (85 : Int32)) - (p2 ^^^ (85 : Int32)) / (128 : Int32) * (128 : Int32))
          ) else (
            if (128 : Int32) ≤ p2 then (
              F_Model_expand_57 p1 p2 ((255 : Int32) - p2)
            ) else (
              F_Model_expand_57 p1 p2 ((127 : Int32) - p2)
            )
          )
        ) else (
          some (40000 : Int32)
        )
      )
    )
  )
def F_Model_feed (m0 : Mem) (p1 : Int32) : Option (Int32 × Mem) :=
  rd (F_Model_isSample p1) fun r2 =>
  if r2 = 0 then (
    some ((0 : Int32), m0)
  ) else (
    if (m0 17 1) = (64 : Int32) then (
      some ((0 : Int32), m0)
    ) else (
      if (m0 17 1) < 0 ∨ ln 19 ≤ (Int32.toNatClampNeg (m0 17 1)) then none else
      bnd (put m0 19 (Int32.toNatClampNeg (m0 17 1)) p1) fun m4 =>
      bnd (put m4 17 1 ((m4 17 1) + (1 : Int32))) fun m5 =>
      some ((1 : Int32), m5)
    )
  )
def F_Model_begin (m0 : Mem) (p1 : Int32) (p2 : Int32) (p3 : Int32) : Option (Int32 × Mem) :=
  if p1 < 0 then (
    some ((0 : Int32), m0)
  ) else (
    if p1 ≤ (65535 : Int32) then (
      bnd (put m0 17 5 p1) fun m1 =>
      bnd (put m1 17 6 p2) fun m2 =>
      bnd (put m2 17 7 p3) fun m3 =>
      some ((1 : Int32), m3)
    ) else (
      some ((0 : Int32), m0)
    )
  )
def F_Model_write (m0 : Mem) (p1 : Int32) (p2 : Int32) : Option (Mem) :=
  if p1 < 0 ∨ ln 21 ≤ (Int32.toNatClampNeg p1) then none else
  if (((44 : Int32) * p1) + (m0 21 (Int32.toNatClampNeg p1))) < 0 ∨ ln 22 ≤ (Int32.toNatClampNeg (((44 : Int32) * p1) + (m0 21 (Int32.toNatClampNeg p1)))) then none else
  bnd (put m0 22 (Int32.toNatClampNeg (((44 : Int32) * p1) + (m0 21 (Int32.toNatClampNeg p1)))) (p2 &&& (255 : Int32))) fun m3 =>
  bnd (put m3 21 (Int32.toNatClampNeg p1) ((m3 21 (Int32.toNatClampNeg p1)) + (1 : Int32))) fun m4 =>
  some m4
def F_Model_writeWord (m0 : Mem) (p1 : Int32) (p2 : Int32) : Option (Mem) :=
  rd (F_Model_write m0 p1 (p2 >>> ((24 : Int32) &&& (31 : Int32)))) fun m2 =>
  rd (F_Model_write m2 p1 (p2 >>> ((16 : Int32) &&& (31 : Int32)))) fun m4 =>
  rd (F_Model_write m4 p1 (p2 >>> ((8 : Int32) &&& (31 : Int32)))) fun m6 =>
  rd (F_Model_write m6 p1 p2) fun m8 =>
  some m8
def F_Model_codeOf_78 (m0 : Mem) (l2 : Int32) (l3 : Int32) (l4 : Int32) : Option (Int32) :=
  if l3 < (l2 / (4 : Int32)) then (
    some l4
  ) else (
    some (l4 + (1 : Int32))
  )
def F_Model_codeOf_62 (m0 : Mem) (l2 : Int32) (l3 : Int32) (l4 : Int32) : Option (Int32) :=
  if l3 < (l2 / (2 : Int32)) then (
    F_Model_codeOf_78 m0 l2 l3 l4
  ) else (
    bnd (l3 - (l2 / (2 : Int32))) fun v4 =>
    F_Model_codeOf_78 m0 l2 v4 (l4 + (2 : Int32))
  )
def F_Model_codeOf_48 (m0 : Mem) (l2 : Int32) (l3 : Int32) (s0 : Int32) : Option (Int32) :=
  if l3 < l2 then (
    F_Model_codeOf_62 m0 l2 l3 s0
  ) else (
    bnd (l3 - l2) fun v3 =>
    F_Model_codeOf_62 m0 l2 v3 (s0 + (4 : Int32))
  )
def F_Model_codeOf_33 (m0 : Mem) (l1 : Int32) (l2 : Int32) (s0 : Int32) : Option (Int32) :=
  if (m0 17 23) ≤ l1 then (
    F_Model_codeOf_48 m0 l2 s0 (0 : Int32)
  ) else (
    F_Model_codeOf_48 m0 l2 s0 (8 : Int32)
  )
def F_Model_codeOf (m0 : Mem) (p1 : Int32) : Option (Int32) :=
  if (m0 17 24) < 0 ∨ ln 18 ≤ (Int32.toNatClampNeg (m0 17 24)) then none else
  bnd (m0 18 (Int32.toNatClampNeg (m0 17 24))) fun v2 =>
  if (m0 17 23) ≤ p1 then (
    F_Model_codeOf_33 m0 p1 v2 (p1 - (m0 17 23))
  ) else (
    F_Model_codeOf_33 m0 p1 v2 ((m0 17 23) - p1)
  )
def F_Model_change_154 (m0 : Mem) (s1 : Int32) (s2 : Int32) : Option (Mem) :=
  bnd (put m0 17 24 (s1 + s2)) fun m9 =>
  if 0 ≤ (m9 17 24) then (
    if (m9 17 24) ≤ (88 : Int32) then (
      bnd (put m9 17 24 (m9 17 24)) fun m10 =>
      some m10
    ) else (
      bnd (put m9 17 24 (88 : Int32)) fun m11 =>
      some m11
    )
  ) else (
    bnd (put m9 17 24 (0 : Int32)) fun m12 =>
    some m12
  )
def F_Model_change_127 (m0 : Mem) (l1 : Int32) (s1 : Int32) : Option (Mem) :=
  bnd (put m0 17 23 s1) fun m8 =>
  if (4 : Int32) ≤ (l1 - l1 / (8 : Int32) * (8 : Int32)) then (
    F_Model_change_154 m8 (m8 17 24) ((2 : Int32) + ((2 : Int32) * (l1 - l1 / (4 : Int32) * (4 : Int32))))
  ) else (
    F_Model_change_154 m8 (m8 17 24) (-1 : Int32)
  )
def F_Model_change_87 (m0 : Mem) (l1 : Int32) (s1 : Int32) : Option (Mem) :=
  bnd (put m0 17 23 s1) fun m7 =>
  if (m7 17 23) ≤ (32767 : Int32) then (
    if (-32768 : Int32) ≤ (m7 17 23) then (
      F_Model_change_127 m7 l1 (m7 17 23)
    ) else (
      F_Model_change_127 m7 l1 (-32768 : Int32)
    )
  ) else (
    F_Model_change_127 m7 l1 (32767 : Int32)
  )
def F_Model_change_63 (m0 : Mem) (l1 : Int32) (s0 : Int32) (s1 : Int32) : Option (Mem) :=
  bnd (s0 + s1) fun v6 =>
  if l1 < (8 : Int32) then (
    F_Model_change_87 m0 l1 ((m0 17 23) + v6)
  ) else (
    F_Model_change_87 m0 l1 ((m0 17 23) - v6)
  )
def F_Model_change_46 (m0 : Mem) (l1 : Int32) (l2 : Int32) (s0 : Int32) (s1 : Int32) : Option (Mem) :=
  bnd (s0 + s1) fun v5 =>
  if (l1 - l1 / (2 : Int32) * (2 : Int32)) = (1 : Int32) then (
    F_Model_change_63 m0 l1 v5 (l2 / (4 : Int32))
  ) else (
    F_Model_change_63 m0 l1 v5 (0 : Int32)
  )
def F_Model_change_29 (m0 : Mem) (l1 : Int32) (l2 : Int32) (s0 : Int32) (s1 : Int32) : Option (Mem) :=
  bnd (s0 + s1) fun v4 =>
  if (l1 - l1 / (4 : Int32) * (4 : Int32)) < (2 : Int32) then (
    F_Model_change_46 m0 l1 l2 v4 (0 : Int32)
  ) else (
    F_Model_change_46 m0 l1 l2 v4 (l2 / (2 : Int32))
  )
def F_Model_change (m0 : Mem) (p1 : Int32) : Option (Mem) :=
  if (m0 17 24) < 0 ∨ ln 18 ≤ (Int32.toNatClampNeg (m0 17 24)) then none else
  bnd (m0 18 (Int32.toNatClampNeg (m0 17 24))) fun v2 =>
  bnd (v2 / (8 : Int32)) fun v3 =>
  if (p1 - p1 / (8 : Int32) * (8 : Int32)) < (4 : Int32) then (
    F_Model_change_29 m0 p1 v2 v3 (0 : Int32)
  ) else (
    F_Model_change_29 m0 p1 v2 v3 v2
  )
def F_Model_samples_63 (fu : Nat) (m0 : Mem) (l1 : Int32) (l2 : Int32) (l3 : Int32) (l4 : Int32) (l5 : Int32) : Option (Mem) := match fu with
  | 0 => none
  | n + 1 =>
    if l3 ≤ l5 then (
      bnd (put m0 17 8 (m0 17 23)) fun m11 =>
      bnd (put m11 17 9 (m11 17 24)) fun m12 =>
      some m12
    ) else (
      if l5 < 0 ∨ ln 19 ≤ (Int32.toNatClampNeg l5) then none else
      bnd (m0 19 (Int32.toNatClampNeg l5)) fun v14 =>
      if (2 : Int32) ≤ l2 then (
        if l2 = (3 : Int32) then (
          rd (F_Model_write m0 l1 (v14 >>> ((8 : Int32) &&& (31 : Int32)))) fun m22 =>
          rd (F_Model_write m22 l1 v14) fun m24 =>
          F_Model_samples_63 n m24 l1 l2 l3 l4 (l5 + (1 : Int32))
        ) else (
          rd (F_Model_codeOf m0 v14) fun r16 =>
          rd (F_Model_change m0 r16) fun m18 =>
          if (l5 - l5 / (2 : Int32) * (2 : Int32)) = (1 : Int32) then (
            rd (F_Model_write m18 l1 (((16 : Int32) * l4) + r16)) fun m20 =>
            F_Model_samples_63 n m20 l1 l2 l3 r16 (l5 + (1 : Int32))
          ) else (
            F_Model_samples_63 n m18 l1 l2 l3 r16 (l5 + (1 : Int32))
          )
        )
      ) else (
        rd (F_Model_compress l2 v14) fun r26 =>
        rd (F_Model_write m0 l1 r26) fun m28 =>
        F_Model_samples_63 n m28 l1 l2 l3 l4 (l5 + (1 : Int32))
      )
    )
def F_Model_samples (m0 : Mem) (p1 : Int32) (p2 : Int32) (p3 : Int32) : Option (Mem) :=
  bnd (put m0 17 23 (m0 17 8)) fun m1 =>
  bnd (put m1 17 24 (m1 17 9)) fun m2 =>
  if p2 = (2 : Int32) then (
    rd (F_Model_write m2 p1 ((m2 17 8) >>> ((8 : Int32) &&& (31 : Int32)))) fun m4 =>
    rd (F_Model_write m4 p1 (m4 17 8)) fun m6 =>
    rd (F_Model_write m6 p1 (m6 17 9)) fun m8 =>
    rd (F_Model_write m8 p1 (0 : Int32)) fun m10 =>
    F_Model_samples_63 300 m10 p1 p2 p3 (0 : Int32) (0 : Int32)
  ) else (
    F_Model_samples_63 300 m2 p1 p2 p3 (0 : Int32) (0 : Int32)
  )
def F_Model_send_252 (m0 : Mem) (l2 : Int32) (l4 : Int32) (s1 : Int32) : Option (Int32 × Mem) :=
  bnd (put m0 17 5 s1) fun m23 =>
  bnd (put m23 17 6 ((m23 17 6) + l2)) fun m24 =>
  if l4 < 0 ∨ ln 21 ≤ (Int32.toNatClampNeg l4) then none else
  some ((m24 21 (Int32.toNatClampNeg l4)), m24)
def F_Model_send_201 (fu : Nat) (m0 : Mem) (l2 : Int32) (l4 : Int32) (l5 : Int32) : Option (Int32 × Mem) := match fu with
  | 0 => none
  | n + 1 =>
    if (m0 17 1) ≤ l5 then (
      if (m0 17 5) = (65535 : Int32) then (
        F_Model_send_252 m0 l2 l4 (0 : Int32)
      ) else (
        F_Model_send_252 m0 l2 l4 ((m0 17 5) + (1 : Int32))
      )
    ) else (
      if (l5 + l2) < 0 ∨ ln 19 ≤ (Int32.toNatClampNeg (l5 + l2)) then none else
      if l5 < 0 ∨ ln 19 ≤ (Int32.toNatClampNeg l5) then none else
      bnd (put m0 19 (Int32.toNatClampNeg l5) (m0 19 (Int32.toNatClampNeg (l5 + l2)))) fun m22 =>
      F_Model_send_201 n m22 l2 l4 (l5 + (1 : Int32))
    )
def F_Model_send_123 (m0 : Mem) (l1 : Int32) (l2 : Int32) (l4 : Int32) (s1 : Int32) (s2 : Int32) (s3 : Int32) : Option (Int32 × Mem) :=
  rd (F_Model_write m0 s1 (s2 + s3)) fun m7 =>
  rd (F_Model_write m7 l4 ((m7 17 5) >>> ((8 : Int32) &&& (31 : Int32)))) fun m9 =>
  rd (F_Model_write m9 l4 (m9 17 5)) fun m11 =>
  rd (F_Model_writeWord m11 l4 (m11 17 6)) fun m13 =>
  rd (F_Model_writeWord m13 l4 (m13 17 7)) fun m15 =>
  rd (F_Model_samples m15 l4 l1 l2) fun m17 =>
  bnd (put m17 17 10 ((m17 17 10) + (1 : Int32))) fun m18 =>
  bnd (put m18 17 1 ((m18 17 1) - l2)) fun m19 =>
  F_Model_send_201 300 m19 l2 l4 (0 : Int32)
def F_Model_send_112 (m0 : Mem) (l1 : Int32) (l2 : Int32) (l3 : Int32) (l4 : Int32) (s1 : Int32) (s2 : Int32) : Option (Int32 × Mem) :=
  if l3 = 0 then (
    F_Model_send_123 m0 l1 l2 l4 s1 s2 (0 : Int32)
  ) else (
    F_Model_send_123 m0 l1 l2 l4 s1 s2 (128 : Int32)
  )
def F_Model_send_34 (m0 : Mem) (l1 : Int32) (l2 : Int32) (l3 : Int32) : Option (Int32 × Mem) :=
  if l2 ≤ (m0 17 1) then (
    if (m0 17 10) = (8 : Int32) then (
      some ((-3 : Int32), m0)
    ) else (
      bnd (m0 17 10) fun v1 =>
      if v1 < 0 ∨ ln 21 ≤ (Int32.toNatClampNeg v1) then none else
      bnd (put m0 21 (Int32.toNatClampNeg v1) (0 : Int32)) fun m3 =>
      rd (F_Model_write m3 v1 (128 : Int32)) fun m5 =>
      if l1 = 0 then (
        F_Model_send_112 m5 l1 l2 l3 v1 v1 (8 : Int32)
      ) else (
        if l1 = (1 : Int32) then (
          F_Model_send_112 m5 l1 l2 l3 v1 v1 (0 : Int32)
        ) else (
          if l1 = (2 : Int32) then (
            F_Model_send_112 m5 l1 l2 l3 v1 v1 (5 : Int32)
          ) else (
            F_Model_send_112 m5 l1 l2 l3 v1 v1 (11 : Int32)
          )
        )
      )
    )
  ) else (
    some ((-2 : Int32), m0)
  )
def F_Model_send (m0 : Mem) (p1 : Int32) (p2 : Int32) (p3 : Int32) : Option (Int32 × Mem) :=
  if p1 < 0 then (
    some ((-1 : Int32), m0)
  ) else (
    if (3 : Int32) < p1 then (
      some ((-1 : Int32), m0)
    ) else (
      if p2 < (1 : Int32) then (
        some ((-1 : Int32), m0)
      ) else (
        if (16 : Int32) < p2 then (
          some ((-1 : Int32), m0)
        ) else (
          if p1 = (2 : Int32) then (
            if (p2 - p2 / (2 : Int32) * (2 : Int32)) = (1 : Int32) then (
              some ((-1 : Int32), m0)
            ) else (
              F_Model_send_34 m0 p1 p2 p3
            )
          ) else (
            F_Model_send_34 m0 p1 p2 p3
          )
        )
      )
    )
  )
def F_Model_line (m0 : Mem) : Option (Int32) :=
  some (m0 17 10)
def F_Model_there (m0 : Mem) (p1 : Int32) (p2 : Int32) : Option (Int32) :=
  if p1 < 0 then (
    some (0 : Int32)
  ) else (
    if (m0 17 10) ≤ p1 then (
      some (0 : Int32)
    ) else (
      if p2 < 0 then (
        some (0 : Int32)
      ) else (
        if p1 < 0 ∨ ln 21 ≤ (Int32.toNatClampNeg p1) then none else
        if (m0 21 (Int32.toNatClampNeg p1)) ≤ p2 then (
          some (0 : Int32)
        ) else (
          some (1 : Int32)
        )
      )
    )
  )
def F_Model_byteAt (m0 : Mem) (p1 : Int32) (p2 : Int32) : Option (Int32) :=
  rd (F_Model_there m0 p1 p2) fun r2 =>
  if r2 = 0 then (
    some (-1 : Int32)
  ) else (
    if (((44 : Int32) * p1) + p2) < 0 ∨ ln 22 ≤ (Int32.toNatClampNeg (((44 : Int32) * p1) + p2)) then none else
    some (m0 22 (Int32.toNatClampNeg (((44 : Int32) * p1) + p2)))
  )
def F_Model_poke (m0 : Mem) (p1 : Int32) (p2 : Int32) (p3 : Int32) : Option (Int32 × Mem) :=
  rd (F_Model_there m0 p1 p2) fun r2 =>
  if r2 = 0 then (
    some ((0 : Int32), m0)
  ) else (
    if p3 < 0 then (
      some ((0 : Int32), m0)
    ) else (
      if p3 ≤ (255 : Int32) then (
        if (((44 : Int32) * p1) + p2) < 0 ∨ ln 22 ≤ (Int32.toNatClampNeg (((44 : Int32) * p1) + p2)) then none else
        bnd (put m0 22 (Int32.toNatClampNeg (((44 : Int32) * p1) + p2)) p3) fun m4 =>
        some ((1 : Int32), m4)
      ) else (
        some ((0 : Int32), m0)
      )
    )
  )
def F_Model_copy_14 (fu : Nat) (m0 : Mem) (l1 : Int32) (l2 : Int32) (l3 : Int32) : Option (Mem) := match fu with
  | 0 => none
  | n + 1 =>
    if (44 : Int32) ≤ l3 then (
      some m0
    ) else (
      if (((44 : Int32) * l1) + l3) < 0 ∨ ln 22 ≤ (Int32.toNatClampNeg (((44 : Int32) * l1) + l3)) then none else
      if (((44 : Int32) * l2) + l3) < 0 ∨ ln 22 ≤ (Int32.toNatClampNeg (((44 : Int32) * l2) + l3)) then none else
      bnd (put m0 22 (Int32.toNatClampNeg (((44 : Int32) * l2) + l3)) (m0 22 (Int32.toNatClampNeg (((44 : Int32) * l1) + l3)))) fun m6 =>
      F_Model_copy_14 n m6 l1 l2 (l3 + (1 : Int32))
    )
def F_Model_copy (m0 : Mem) (p1 : Int32) (p2 : Int32) : Option (Mem) :=
  if p1 < 0 ∨ ln 21 ≤ (Int32.toNatClampNeg p1) then none else
  if p2 < 0 ∨ ln 21 ≤ (Int32.toNatClampNeg p2) then none else
  bnd (put m0 21 (Int32.toNatClampNeg p2) (m0 21 (Int32.toNatClampNeg p1))) fun m3 =>
  F_Model_copy_14 300 m3 p1 p2 (0 : Int32)
def F_Model_remove_12 (fu : Nat) (m0 : Mem) (l2 : Int32) : Option (Mem) := match fu with
  | 0 => none
  | n + 1 =>
    if (m0 17 10) ≤ l2 then (
      some m0
    ) else (
      rd (F_Model_copy m0 (l2 + (1 : Int32)) l2) fun m3 =>
      F_Model_remove_12 n m3 (l2 + (1 : Int32))
    )
def F_Model_remove (m0 : Mem) (p1 : Int32) : Option (Mem) :=
  bnd (put m0 17 10 ((m0 17 10) - (1 : Int32))) fun m1 =>
  F_Model_remove_12 300 m1 p1
def F_Model_exchange_32 (fu : Nat) (m0 : Mem) (l1 : Int32) (l3 : Int32) : Option (Mem) := match fu with
  | 0 => none
  | n + 1 =>
    if (44 : Int32) ≤ l3 then (
      some m0
    ) else (
      if (((44 : Int32) * l1) + l3) < 0 ∨ ln 22 ≤ (Int32.toNatClampNeg (((44 : Int32) * l1) + l3)) then none else
      bnd (m0 22 (Int32.toNatClampNeg (((44 : Int32) * l1) + l3))) fun v7 =>
      if ((((44 : Int32) * l1) + (44 : Int32)) + l3) < 0 ∨ ln 22 ≤ (Int32.toNatClampNeg ((((44 : Int32) * l1) + (44 : Int32)) + l3)) then none else
      bnd (put m0 22 (Int32.toNatClampNeg (((44 : Int32) * l1) + l3)) (m0 22 (Int32.toNatClampNeg ((((44 : Int32) * l1) + (44 : Int32)) + l3)))) fun m9 =>
      bnd (put m9 22 (Int32.toNatClampNeg ((((44 : Int32) * l1) + (44 : Int32)) + l3)) v7) fun m10 =>
      F_Model_exchange_32 n m10 l1 (l3 + (1 : Int32))
    )
def F_Model_exchange (m0 : Mem) (p1 : Int32) : Option (Mem) :=
  if p1 < 0 ∨ ln 21 ≤ (Int32.toNatClampNeg p1) then none else
  bnd (m0 21 (Int32.toNatClampNeg p1)) fun v2 =>
  if (p1 + (1 : Int32)) < 0 ∨ ln 21 ≤ (Int32.toNatClampNeg (p1 + (1 : Int32))) then none else
  bnd (put m0 21 (Int32.toNatClampNeg p1) (m0 21 (Int32.toNatClampNeg (p1 + (1 : Int32))))) fun m4 =>
  bnd (put m4 21 (Int32.toNatClampNeg (p1 + (1 : Int32))) v2) fun m5 =>
  F_Model_exchange_32 300 m5 p1 (0 : Int32)
def F_Model_disturb_68 (m0 : Mem) (l1 : Int32) (l2 : Int32) : Option (Int32 × Mem) :=
  if l2 = 0 then (
    rd (F_Model_remove m0 l1) fun m10 =>
    some ((1 : Int32), m10)
  ) else (
    if l2 = (1 : Int32) then (
      rd (F_Model_exchange m0 l1) fun m8 =>
      some ((1 : Int32), m8)
    ) else (
      if l2 = (2 : Int32) then (
        rd (F_Model_copy m0 l1 (m0 17 10)) fun m5 =>
        bnd (put m5 17 10 ((m5 17 10) + (1 : Int32))) fun m6 =>
        some ((1 : Int32), m6)
      ) else (
        if l1 < 0 ∨ ln 21 ≤ (Int32.toNatClampNeg l1) then none else
        bnd (put m0 21 (Int32.toNatClampNeg l1) ((m0 21 (Int32.toNatClampNeg l1)) - (1 : Int32))) fun m3 =>
        some ((1 : Int32), m3)
      )
    )
  )
def F_Model_disturb_52 (m0 : Mem) (l1 : Int32) (l2 : Int32) : Option (Int32 × Mem) :=
  if l2 = (3 : Int32) then (
    if l1 < 0 ∨ ln 21 ≤ (Int32.toNatClampNeg l1) then none else
    if (m0 21 (Int32.toNatClampNeg l1)) = 0 then (
      some ((0 : Int32), m0)
    ) else (
      F_Model_disturb_68 m0 l1 l2
    )
  ) else (
    F_Model_disturb_68 m0 l1 l2
  )
def F_Model_disturb_38 (m0 : Mem) (l1 : Int32) (l2 : Int32) : Option (Int32 × Mem) :=
  if l2 = (2 : Int32) then (
    if (m0 17 10) = (8 : Int32) then (
      some ((0 : Int32), m0)
    ) else (
      F_Model_disturb_52 m0 l1 l2
    )
  ) else (
    F_Model_disturb_52 m0 l1 l2
  )
def F_Model_disturb (m0 : Mem) (p1 : Int32) (p2 : Int32) : Option (Int32 × Mem) :=
  if p1 < 0 then (
    some ((0 : Int32), m0)
  ) else (
    if (m0 17 10) ≤ p1 then (
      some ((0 : Int32), m0)
    ) else (
      if p2 < 0 then (
        some ((0 : Int32), m0)
      ) else (
        if p2 ≤ (3 : Int32) then (
          if p2 = (1 : Int32) then (
            if (p1 + (1 : Int32)) = (m0 17 10) then (
              some ((0 : Int32), m0)
            ) else (
              F_Model_disturb_38 m0 p1 p2
            )
          ) else (
            F_Model_disturb_38 m0 p1 p2
          )
        ) else (
          some ((0 : Int32), m0)
        )
      )
    )
  )
def F_Model_codingOf (m0 : Mem) (p1 : Int32) : Option (Int32) :=
  if (((44 : Int32) * p1) + (1 : Int32)) < 0 ∨ ln 22 ≤ (Int32.toNatClampNeg (((44 : Int32) * p1) + (1 : Int32))) then none else
  bnd ((m0 22 (Int32.toNatClampNeg (((44 : Int32) * p1) + (1 : Int32)))) - (m0 22 (Int32.toNatClampNeg (((44 : Int32) * p1) + (1 : Int32)))) / (128 : Int32) * (128 : Int32)) fun v2 =>
  if v2 = (8 : Int32) then (
    some (0 : Int32)
  ) else (
    if v2 = 0 then (
      some (1 : Int32)
    ) else (
      if v2 = (5 : Int32) then (
        some (2 : Int32)
      ) else (
        if v2 = (11 : Int32) then (
          some (3 : Int32)
        ) else (
          some (-1 : Int32)
        )
      )
    )
  )
def F_Model_samplesOf_145 (m0 : Mem) (l5 : Int32) (s0 : Int32) : Option (Int32) :=
  if l5 = 0 then (
    some (0 : Int32)
  ) else (
    if (16 : Int32) < s0 then (
      some (0 : Int32)
    ) else (
      some s0
    )
  )
def F_Model_samplesOf_116 (m0 : Mem) (l2 : Int32) (l4 : Int32) (s0 : Int32) : Option (Int32) :=
  if l4 = (3 : Int32) then (
    F_Model_samplesOf_145 m0 s0 (l2 / (2 : Int32))
  ) else (
    if l4 = (2 : Int32) then (
      F_Model_samplesOf_145 m0 s0 ((2 : Int32) * (l2 - (4 : Int32)))
    ) else (
      F_Model_samplesOf_145 m0 s0 l2
    )
  )
def F_Model_samplesOf (m0 : Mem) (p1 : Int32) : Option (Int32) :=
  if p1 < 0 ∨ ln 21 ≤ (Int32.toNatClampNeg p1) then none else
  bnd ((m0 21 (Int32.toNatClampNeg p1)) - (12 : Int32)) fun v2 =>
  bnd ((44 : Int32) * p1) fun v3 =>
  if v2 < (1 : Int32) then (
    some (0 : Int32)
  ) else (
    if v3 < 0 ∨ ln 22 ≤ (Int32.toNatClampNeg v3) then none else
    if (m0 22 (Int32.toNatClampNeg v3)) = (128 : Int32) then (
      rd (F_Model_codingOf m0 p1) fun r6 =>
      if r6 = (3 : Int32) then (
        if (v2 - v2 / (2 : Int32) * (2 : Int32)) = 0 then (
          F_Model_samplesOf_116 m0 v2 r6 (1 : Int32)
        ) else (
          F_Model_samplesOf_116 m0 v2 r6 (0 : Int32)
        )
      ) else (
        if r6 = (2 : Int32) then (
          if v2 ≤ (4 : Int32) then (
            F_Model_samplesOf_116 m0 v2 r6 (0 : Int32)
          ) else (
            if (v3 + (14 : Int32)) < 0 ∨ ln 22 ≤ (Int32.toNatClampNeg (v3 + (14 : Int32))) then none else
            if (88 : Int32) < (m0 22 (Int32.toNatClampNeg (v3 + (14 : Int32)))) then (
              F_Model_samplesOf_116 m0 v2 r6 (0 : Int32)
            ) else (
              if (v3 + (15 : Int32)) < 0 ∨ ln 22 ≤ (Int32.toNatClampNeg (v3 + (15 : Int32))) then none else
              if (m0 22 (Int32.toNatClampNeg (v3 + (15 : Int32)))) = 0 then (
                F_Model_samplesOf_116 m0 v2 r6 (1 : Int32)
              ) else (
                F_Model_samplesOf_116 m0 v2 r6 (0 : Int32)
              )
            )
          )
        ) else (
          if r6 < 0 then (
            F_Model_samplesOf_116 m0 v2 r6 (0 : Int32)
          ) else (
            F_Model_samplesOf_116 m0 v2 r6 (1 : Int32)
          )
        )
      )
    ) else (
      some (0 : Int32)
    )
  )
def F_Model_pair (m0 : Mem) (p1 : Int32) (p2 : Int32) : Option (Int32) :=
  if (((44 : Int32) * p1) + p2) < 0 ∨ ln 22 ≤ (Int32.toNatClampNeg (((44 : Int32) * p1) + p2)) then none else
  if ((((44 : Int32) * p1) + p2) + (1 : Int32)) < 0 ∨ ln 22 ≤ (Int32.toNatClampNeg ((((44 : Int32) * p1) + p2) + (1 : Int32))) then none else
  some (((256 : Int32) * (m0 22 (Int32.toNatClampNeg (((44 : Int32) * p1) + p2)))) + (m0 22 (Int32.toNatClampNeg ((((44 : Int32) * p1) + p2) + (1 : Int32)))))
def F_Model_word (m0 : Mem) (p1 : Int32) (p2 : Int32) : Option (Int32) :=
  rd (F_Model_pair m0 p1 p2) fun r2 =>
  rd (F_Model_pair m0 p1 (p2 + (2 : Int32))) fun r4 =>
  some ((r2 <<< ((16 : Int32) &&& (31 : Int32))) ||| r4)
def F_Model_distance (m0 : Mem) (p1 : Int32) : Option (Int32) :=
  bnd (((p1 - (m0 17 14)) + (131072 : Int32)) - ((p1 - (m0 17 14)) + (131072 : Int32)) / (65536 : Int32) * (65536 : Int32)) fun v1 =>
  if v1 ≤ (32767 : Int32) then (
    some v1
  ) else (
    some (v1 - (65536 : Int32))
  )
def F_Model_held_3 (fu : Nat) (m0 : Mem) (l1 : Int32) (l2 : Int32) : Option (Int32) := match fu with
  | 0 => none
  | n + 1 =>
    if (16 : Int32) ≤ l2 then (
      some (-1 : Int32)
    ) else (
      if l2 < 0 ∨ ln 21 ≤ (Int32.toNatClampNeg l2) then none else
      if (m0 21 (Int32.toNatClampNeg l2)) < 0 then (
        F_Model_held_3 n m0 l1 (l2 + (1 : Int32))
      ) else (
        rd (F_Model_pair m0 l2 (2 : Int32)) fun r3 =>
        if r3 = l1 then (
          some l2
        ) else (
          F_Model_held_3 n m0 l1 (l2 + (1 : Int32))
        )
      )
    )
def F_Model_held (m0 : Mem) (p1 : Int32) : Option (Int32) :=
  F_Model_held_3 300 m0 p1 (8 : Int32)
def F_Model_refusal (m0 : Mem) : Option (Int32) :=
  rd (F_Model_samplesOf m0 (0 : Int32)) fun r2 =>
  if r2 = 0 then (
    some (-1 : Int32)
  ) else (
    if (m0 17 13) = 0 then (
      some (0 : Int32)
    ) else (
      rd (F_Model_pair m0 (0 : Int32) (2 : Int32)) fun r4 =>
      rd (F_Model_word m0 (0 : Int32) (8 : Int32)) fun r6 =>
      rd (F_Model_distance m0 r4) fun r8 =>
      rd (F_Model_held m0 r4) fun r10 =>
      if r6 = (m0 17 15) then (
        if 0 ≤ r8 then (
          if r8 ≤ (7 : Int32) then (
            if r10 < 0 then (
              some (0 : Int32)
            ) else (
              some (-6 : Int32)
            )
          ) else (
            some (-5 : Int32)
          )
        ) else (
          some (-4 : Int32)
        )
      ) else (
        some (-7 : Int32)
      )
    )
  )
def F_Model_receive_30 (m0 : Mem) (l1 : Int32) (s0 : Int32) : Option (Int32 × Mem) :=
  if s0 < 0 ∨ ln 24 ≤ (Int32.toNatClampNeg s0) then none else
  bnd (put m0 24 (Int32.toNatClampNeg s0) ((m0 24 (Int32.toNatClampNeg s0)) + (1 : Int32))) fun m13 =>
  rd (F_Model_remove m13 (0 : Int32)) fun m15 =>
  some (l1, m15)
def F_Model_receive_126 (m0 : Mem) (l2 : Int32) (l3 : Int32) : Option (Int32 × Mem) :=
  rd (F_Model_copy m0 (0 : Int32) l3) fun m22 =>
  rd (F_Model_remove m22 (0 : Int32)) fun m24 =>
  some (l2, m24)
def F_Model_receive_105 (fu : Nat) (m0 : Mem) (l2 : Int32) (l3 : Int32) : Option (Int32 × Mem) := match fu with
  | 0 => none
  | n + 1 =>
    if (15 : Int32) ≤ l3 then (
      F_Model_receive_126 m0 l2 l3
    ) else (
      if l3 < 0 ∨ ln 21 ≤ (Int32.toNatClampNeg l3) then none else
      if (m0 21 (Int32.toNatClampNeg l3)) < 0 then (
        F_Model_receive_126 m0 l2 l3
      ) else (
        F_Model_receive_105 n m0 l2 (l3 + (1 : Int32))
      )
    )
def F_Model_receive_91 (m0 : Mem) : Option (Int32 × Mem) :=
  rd (F_Model_pair m0 (0 : Int32) (2 : Int32)) fun r17 =>
  rd (F_Model_distance m0 r17) fun r19 =>
  F_Model_receive_105 300 m0 r19 (8 : Int32)
def F_Model_receive (m0 : Mem) : Option (Int32 × Mem) :=
  if (m0 17 10) = 0 then (
    some ((-2 : Int32), m0)
  ) else (
    rd (F_Model_refusal m0) fun r2 =>
    if r2 = 0 then (
      if (m0 17 13) = 0 then (
        bnd (put m0 17 13 (1 : Int32)) fun m3 =>
        rd (F_Model_pair m3 (0 : Int32) (2 : Int32)) fun r5 =>
        bnd (put m3 17 14 r5) fun m6 =>
        rd (F_Model_word m6 (0 : Int32) (8 : Int32)) fun r8 =>
        bnd (put m6 17 15 r8) fun m9 =>
        bnd (put m9 17 17 (0 : Int32)) fun m10 =>
        bnd (put m10 17 19 (0 : Int32)) fun m11 =>
        F_Model_receive_91 m11
      ) else (
        F_Model_receive_91 m0
      )
    ) else (
      if r2 = (-1 : Int32) then (
        F_Model_receive_30 m0 r2 (3 : Int32)
      ) else (
        F_Model_receive_30 m0 r2 (-r2)
      )
    )
  )
def F_Model_prefill (m0 : Mem) (p1 : Int32) : Option (Int32 × Mem) :=
  if p1 < (1 : Int32) then (
    some ((0 : Int32), m0)
  ) else (
    if p1 ≤ (4 : Int32) then (
      bnd (put m0 17 16 p1) fun m1 =>
      some ((1 : Int32), m1)
    ) else (
      some ((0 : Int32), m0)
    )
  )
def F_Model_buffered_5 (fu : Nat) (m0 : Mem) (l1 : Int32) (l2 : Int32) : Option (Int32) := match fu with
  | 0 => none
  | n + 1 =>
    if (16 : Int32) ≤ l2 then (
      some l1
    ) else (
      if l2 < 0 ∨ ln 21 ≤ (Int32.toNatClampNeg l2) then none else
      if (m0 21 (Int32.toNatClampNeg l2)) < 0 then (
        bnd (l1 + (0 : Int32)) fun v2 =>
        F_Model_buffered_5 n m0 v2 (l2 + (1 : Int32))
      ) else (
        bnd (l1 + (1 : Int32)) fun v3 =>
        F_Model_buffered_5 n m0 v3 (l2 + (1 : Int32))
      )
    )
def F_Model_buffered (m0 : Mem) : Option (Int32) :=
  F_Model_buffered_5 300 m0 (0 : Int32) (8 : Int32)
def F_Model_sampleOf (m0 : Mem) (p1 : Int32) (p2 : Int32) (p3 : Int32) : Option (Int32 × Mem) :=
  bnd (((44 : Int32) * p1) + (12 : Int32)) fun v1 =>
  if (2 : Int32) ≤ p2 then (
    if p2 = (3 : Int32) then (
      if (v1 + ((2 : Int32) * p3)) < 0 ∨ ln 22 ≤ (Int32.toNatClampNeg (v1 + ((2 : Int32) * p3))) then none else
      if ((v1 + ((2 : Int32) * p3)) + (1 : Int32)) < 0 ∨ ln 22 ≤ (Int32.toNatClampNeg ((v1 + ((2 : Int32) * p3)) + (1 : Int32))) then none else
      bnd (((256 : Int32) * (m0 22 (Int32.toNatClampNeg (v1 + ((2 : Int32) * p3))))) + (m0 22 (Int32.toNatClampNeg ((v1 + ((2 : Int32) * p3)) + (1 : Int32))))) fun v10 =>
      if v10 ≤ (32767 : Int32) then (
        some (v10, m0)
      ) else (
        some ((v10 - (65536 : Int32)), m0)
      )
    ) else (
      if ((v1 + (4 : Int32)) + (p3 / (2 : Int32))) < 0 ∨ ln 22 ≤ (Int32.toNatClampNeg ((v1 + (4 : Int32)) + (p3 / (2 : Int32)))) then none else
      bnd (m0 22 (Int32.toNatClampNeg ((v1 + (4 : Int32)) + (p3 / (2 : Int32))))) fun v3 =>
      if (p3 - p3 / (2 : Int32) * (2 : Int32)) = 0 then (
        rd (F_Model_change m0 (v3 / (16 : Int32))) fun m7 =>
        some ((m7 17 23), m7)
      ) else (
        rd (F_Model_change m0 (v3 - v3 / (16 : Int32) * (16 : Int32))) fun m5 =>
        some ((m5 17 23), m5)
      )
    )
  ) else (
    if (v1 + p3) < 0 ∨ ln 22 ≤ (Int32.toNatClampNeg (v1 + p3)) then none else
    rd (F_Model_expand p2 (m0 22 (Int32.toNatClampNeg (v1 + p3)))) fun r13 =>
    some (r13, m0)
  )
def F_Model_playPacket_210 (m0 : Mem) (l1 : Int32) (l2 : Int32) (l6 : Int32) (s1 : Int32) (s2 : Int32) (s3 : Int32) : Option (Mem) :=
  if s1 < 0 ∨ ln 24 ≤ (Int32.toNatClampNeg s1) then none else
  bnd (put m0 24 (Int32.toNatClampNeg s1) (s2 + s3)) fun m24 =>
  bnd (put m24 17 18 (l6 + l2)) fun m25 =>
  bnd (put m25 17 17 (1 : Int32)) fun m26 =>
  bnd (put m26 17 19 (0 : Int32)) fun m27 =>
  if l1 < 0 ∨ ln 21 ≤ (Int32.toNatClampNeg l1) then none else
  bnd (put m27 21 (Int32.toNatClampNeg l1) (-1 : Int32)) fun m29 =>
  some m29
def F_Model_playPacket_166 (m0 : Mem) (l1 : Int32) (l2 : Int32) (s0 : Int32) : Option (Mem) :=
  rd (F_Model_word m0 l1 (4 : Int32)) fun r21 =>
  if (9 : Int32) < 0 ∨ ln 24 ≤ (Int32.toNatClampNeg (9 : Int32)) then none else
  if s0 = 0 then (
    if (m0 17 17) = 0 then (
      F_Model_playPacket_210 m0 l1 l2 r21 (9 : Int32) (m0 24 (Int32.toNatClampNeg (9 : Int32))) (0 : Int32)
    ) else (
      if r21 = (m0 17 18) then (
        F_Model_playPacket_210 m0 l1 l2 r21 (9 : Int32) (m0 24 (Int32.toNatClampNeg (9 : Int32))) (0 : Int32)
      ) else (
        F_Model_playPacket_210 m0 l1 l2 r21 (9 : Int32) (m0 24 (Int32.toNatClampNeg (9 : Int32))) (1 : Int32)
      )
    )
  ) else (
    F_Model_playPacket_210 m0 l1 l2 r21 (9 : Int32) (m0 24 (Int32.toNatClampNeg (9 : Int32))) (0 : Int32)
  )
def F_Model_playPacket_87 (fu : Nat) (m0 : Mem) (l1 : Int32) (l2 : Int32) (l3 : Int32) (l5 : Int32) : Option (Mem) := match fu with
  | 0 => none
  | n + 1 =>
    if l2 ≤ l5 then (
      bnd (put m0 17 20 l2) fun m10 =>
      if (((44 : Int32) * l1) + (1 : Int32)) < 0 ∨ ln 22 ≤ (Int32.toNatClampNeg (((44 : Int32) * l1) + (1 : Int32))) then none else
      if (m10 22 (Int32.toNatClampNeg (((44 : Int32) * l1) + (1 : Int32)))) ≤ (127 : Int32) then (
        F_Model_playPacket_166 m10 l1 l2 (0 : Int32)
      ) else (
        F_Model_playPacket_166 m10 l1 l2 (1 : Int32)
      )
    ) else (
      cal (F_Model_sampleOf m0 l1 l3 l5) fun r13 m14 =>
      if l5 < 0 ∨ ln 23 ≤ (Int32.toNatClampNeg l5) then none else
      bnd (put m14 23 (Int32.toNatClampNeg l5) r13) fun m16 =>
      if (m16 17 3) < 0 ∨ ln 20 ≤ (Int32.toNatClampNeg (m16 17 3)) then none else
      bnd (put m16 20 (Int32.toNatClampNeg (m16 17 3)) (m16 23 (Int32.toNatClampNeg l5))) fun m18 =>
      bnd (put m18 17 3 ((m18 17 3) + (1 : Int32))) fun m19 =>
      F_Model_playPacket_87 n m19 l1 l2 l3 (l5 + (1 : Int32))
    )
def F_Model_playPacket_56 (m0 : Mem) (l1 : Int32) (l2 : Int32) (l3 : Int32) (s1 : Int32) : Option (Mem) :=
  bnd (put m0 17 23 s1) fun m6 =>
  if l3 = (2 : Int32) then (
    if (((44 : Int32) * l1) + (14 : Int32)) < 0 ∨ ln 22 ≤ (Int32.toNatClampNeg (((44 : Int32) * l1) + (14 : Int32))) then none else
    bnd (put m6 17 24 (m6 22 (Int32.toNatClampNeg (((44 : Int32) * l1) + (14 : Int32))))) fun m9 =>
    F_Model_playPacket_87 300 m9 l1 l2 l3 (0 : Int32)
  ) else (
    bnd (put m6 17 24 (0 : Int32)) fun m7 =>
    F_Model_playPacket_87 300 m7 l1 l2 l3 (0 : Int32)
  )
def F_Model_playPacket (m0 : Mem) (p1 : Int32) (p2 : Int32) : Option (Mem) :=
  rd (F_Model_codingOf m0 p1) fun r2 =>
  if (((44 : Int32) * p1) + (12 : Int32)) < 0 ∨ ln 22 ≤ (Int32.toNatClampNeg (((44 : Int32) * p1) + (12 : Int32))) then none else
  if (((44 : Int32) * p1) + (13 : Int32)) < 0 ∨ ln 22 ≤ (Int32.toNatClampNeg (((44 : Int32) * p1) + (13 : Int32))) then none else
  bnd (((256 : Int32) * (m0 22 (Int32.toNatClampNeg (((44 : Int32) * p1) + (12 : Int32))))) + (m0 22 (Int32.toNatClampNeg (((44 : Int32) * p1) + (13 : Int32))))) fun v5 =>
  if v5 ≤ (32767 : Int32) then (
    F_Model_playPacket_56 m0 p1 p2 r2 v5
  ) else (
    F_Model_playPacket_56 m0 p1 p2 r2 (v5 - (65536 : Int32))
  )
def F_Model_rest_8 (fu : Nat) (m0 : Mem) (l1 : Int32) : Option (Mem) := match fu with
  | 0 => none
  | n + 1 =>
    if (16 : Int32) ≤ l1 then (
      some m0
    ) else (
      if l1 < 0 ∨ ln 21 ≤ (Int32.toNatClampNeg l1) then none else
      bnd (put m0 21 (Int32.toNatClampNeg l1) (-1 : Int32)) fun m3 =>
      F_Model_rest_8 n m3 (l1 + (1 : Int32))
    )
def F_Model_rest (m0 : Mem) : Option (Mem) :=
  bnd (put m0 17 13 (0 : Int32)) fun m1 =>
  F_Model_rest_8 300 m1 (8 : Int32)
def F_Model_conceal_58 (fu : Nat) (m0 : Mem) (l1 : Int32) (l2 : Int32) : Option (Mem) := match fu with
  | 0 => none
  | n + 1 =>
    if (m0 17 20) ≤ l2 then (
      bnd (put m0 17 18 ((m0 17 18) + (m0 17 20))) fun m7 =>
      some m7
    ) else (
      if l2 < 0 ∨ ln 23 ≤ (Int32.toNatClampNeg l2) then none else
      if l1 = 0 then none else
      if (m0 17 3) < 0 ∨ ln 20 ≤ (Int32.toNatClampNeg (m0 17 3)) then none else
      bnd (put m0 20 (Int32.toNatClampNeg (m0 17 3)) ((m0 23 (Int32.toNatClampNeg l2)) / l1)) fun m11 =>
      bnd (put m11 17 3 ((m11 17 3) + (1 : Int32))) fun m12 =>
      F_Model_conceal_58 n m12 l1 (l2 + (1 : Int32))
    )
def F_Model_conceal_38 (fu : Nat) (m0 : Mem) (l1 : Int32) (l2 : Int32) : Option (Mem) := match fu with
  | 0 => none
  | n + 1 =>
    if (m0 17 19) ≤ l2 then (
      F_Model_conceal_58 300 m0 l1 (0 : Int32)
    ) else (
      bnd ((2 : Int32) * l1) fun v6 =>
      F_Model_conceal_38 n m0 v6 (l2 + (1 : Int32))
    )
def F_Model_conceal (m0 : Mem) : Option (Mem) :=
  bnd (put m0 17 19 ((m0 17 19) + (1 : Int32))) fun m1 =>
  if (8 : Int32) < 0 ∨ ln 24 ≤ (Int32.toNatClampNeg (8 : Int32)) then none else
  bnd (put m1 24 (Int32.toNatClampNeg (8 : Int32)) ((m1 24 (Int32.toNatClampNeg (8 : Int32))) + (1 : Int32))) fun m3 =>
  if (m3 17 19) = (5 : Int32) then (
    rd (F_Model_rest m3) fun m5 =>
    some m5
  ) else (
    F_Model_conceal_38 300 m3 (1 : Int32) (0 : Int32)
  )
def F_Model_play_107 (m0 : Mem) (l1 : Int32) (l2 : Int32) (s1 : Int32) : Option (Int32 × Mem) :=
  bnd (put m0 17 14 s1) fun m8 =>
  if l1 < 0 then (
    rd (F_Model_conceal m8) fun m10 =>
    some (l2, m10)
  ) else (
    rd (F_Model_playPacket m8 l1 l2) fun m12 =>
    some (l2, m12)
  )
def F_Model_play_66 (m0 : Mem) (l1 : Int32) (s0 : Int32) : Option (Int32 × Mem) :=
  if ((m0 17 3) + s0) ≤ (256 : Int32) then (
    bnd (put m0 17 13 (2 : Int32)) fun m7 =>
    if (m7 17 14) = (65535 : Int32) then (
      F_Model_play_107 m7 l1 s0 (0 : Int32)
    ) else (
      F_Model_play_107 m7 l1 s0 ((m7 17 14) + (1 : Int32))
    )
  ) else (
    some ((-3 : Int32), m0)
  )
def F_Model_play_29 (m0 : Mem) : Option (Int32 × Mem) :=
  rd (F_Model_held m0 (m0 17 14)) fun r4 =>
  if r4 < 0 then (
    if (m0 17 19) = (4 : Int32) then (
      F_Model_play_66 m0 r4 (0 : Int32)
    ) else (
      F_Model_play_66 m0 r4 (m0 17 20)
    )
  ) else (
    rd (F_Model_samplesOf m0 r4) fun r6 =>
    F_Model_play_66 m0 r4 r6
  )
def F_Model_play (m0 : Mem) : Option (Int32 × Mem) :=
  if (m0 17 13) = 0 then (
    some ((-2 : Int32), m0)
  ) else (
    if (m0 17 13) = (1 : Int32) then (
      rd (F_Model_buffered m0) fun r2 =>
      if (m0 17 16) ≤ r2 then (
        F_Model_play_29 m0
      ) else (
        some ((-2 : Int32), m0)
      )
    ) else (
      F_Model_play_29 m0
    )
  )
def F_Model_output (m0 : Mem) : Option (Int32) :=
  some (m0 17 3)
def F_Model_sample (m0 : Mem) (p1 : Int32) : Option (Int32) :=
  if p1 < 0 then (
    some (40000 : Int32)
  ) else (
    if (m0 17 3) ≤ p1 then (
      some (40000 : Int32)
    ) else (
      if p1 < 0 ∨ ln 20 ≤ (Int32.toNatClampNeg p1) then none else
      some (m0 20 (Int32.toNatClampNeg p1))
    )
  )
def F_Model_pass_75 (fu : Nat) (m0 : Mem) (l1 : Int32) (l2 : Int32) : Option (Int32 × Mem) := match fu with
  | 0 => none
  | n + 1 =>
    if (m0 17 3) ≤ l2 then (
      some ((1 : Int32), m0)
    ) else (
      if (l2 + l1) < 0 ∨ ln 20 ≤ (Int32.toNatClampNeg (l2 + l1)) then none else
      if l2 < 0 ∨ ln 20 ≤ (Int32.toNatClampNeg l2) then none else
      bnd (put m0 20 (Int32.toNatClampNeg l2) (m0 20 (Int32.toNatClampNeg (l2 + l1)))) fun m8 =>
      F_Model_pass_75 n m8 l1 (l2 + (1 : Int32))
    )
def F_Model_pass_27 (fu : Nat) (m0 : Mem) (l1 : Int32) (l2 : Int32) : Option (Int32 × Mem) := match fu with
  | 0 => none
  | n + 1 =>
    if l1 ≤ l2 then (
      bnd (put m0 17 3 ((m0 17 3) - l1)) fun m1 =>
      F_Model_pass_75 300 m1 l1 (0 : Int32)
    ) else (
      if l2 < 0 ∨ ln 20 ≤ (Int32.toNatClampNeg l2) then none else
      if (m0 17 1) < 0 ∨ ln 19 ≤ (Int32.toNatClampNeg (m0 17 1)) then none else
      bnd (put m0 19 (Int32.toNatClampNeg (m0 17 1)) (m0 20 (Int32.toNatClampNeg l2))) fun m4 =>
      bnd (put m4 17 1 ((m4 17 1) + (1 : Int32))) fun m5 =>
      F_Model_pass_27 n m5 l1 (l2 + (1 : Int32))
    )
def F_Model_pass (m0 : Mem) (p1 : Int32) : Option (Int32 × Mem) :=
  if p1 < 0 then (
    some ((0 : Int32), m0)
  ) else (
    if (m0 17 3) < p1 then (
      some ((0 : Int32), m0)
    ) else (
      if ((m0 17 1) + p1) ≤ (64 : Int32) then (
        F_Model_pass_27 300 m0 p1 (0 : Int32)
      ) else (
        some ((0 : Int32), m0)
      )
    )
  )
def F_Model_figure (m0 : Mem) (p1 : Int32) : Option (Int32) :=
  if p1 = (0 : Int32) then (
    some (m0 17 13)
  ) else (
    if p1 = (1 : Int32) then (
      rd (F_Model_buffered m0) fun r10 =>
      some r10
    ) else (
      if p1 = (2 : Int32) then (
        if (m0 17 13) = 0 then (
          some (-1 : Int32)
        ) else (
          some (m0 17 14)
        )
      ) else (
        if p1 = (3 : Int32) then (
          if p1 < (3 : Int32) then (
            some (-1 : Int32)
          ) else (
            if (9 : Int32) < p1 then (
              some (-1 : Int32)
            ) else (
              if p1 < 0 ∨ ln 24 ≤ (Int32.toNatClampNeg p1) then none else
              some (m0 24 (Int32.toNatClampNeg p1))
            )
          )
        ) else (
          if p1 = (4 : Int32) then (
            if p1 < (3 : Int32) then (
              some (-1 : Int32)
            ) else (
              if (9 : Int32) < p1 then (
                some (-1 : Int32)
              ) else (
                if p1 < 0 ∨ ln 24 ≤ (Int32.toNatClampNeg p1) then none else
                some (m0 24 (Int32.toNatClampNeg p1))
              )
            )
          ) else (
            if p1 = (5 : Int32) then (
              if p1 < (3 : Int32) then (
                some (-1 : Int32)
              ) else (
                if (9 : Int32) < p1 then (
                  some (-1 : Int32)
                ) else (
                  if p1 < 0 ∨ ln 24 ≤ (Int32.toNatClampNeg p1) then none else
                  some (m0 24 (Int32.toNatClampNeg p1))
                )
              )
            ) else (
              if p1 = (6 : Int32) then (
                if p1 < (3 : Int32) then (
                  some (-1 : Int32)
                ) else (
                  if (9 : Int32) < p1 then (
                    some (-1 : Int32)
                  ) else (
                    if p1 < 0 ∨ ln 24 ≤ (Int32.toNatClampNeg p1) then none else
                    some (m0 24 (Int32.toNatClampNeg p1))
                  )
                )
              ) else (
                if p1 = (7 : Int32) then (
                  if p1 < (3 : Int32) then (
                    some (-1 : Int32)
                  ) else (
                    if (9 : Int32) < p1 then (
                      some (-1 : Int32)
                    ) else (
                      if p1 < 0 ∨ ln 24 ≤ (Int32.toNatClampNeg p1) then none else
                      some (m0 24 (Int32.toNatClampNeg p1))
                    )
                  )
                ) else (
                  if p1 = (8 : Int32) then (
                    if p1 < (3 : Int32) then (
                      some (-1 : Int32)
                    ) else (
                      if (9 : Int32) < p1 then (
                        some (-1 : Int32)
                      ) else (
                        if p1 < 0 ∨ ln 24 ≤ (Int32.toNatClampNeg p1) then none else
                        some (m0 24 (Int32.toNatClampNeg p1))
                      )
                    )
                  ) else (
                    if p1 = (9 : Int32) then (
                      if p1 < (3 : Int32) then (
                        some (-1 : Int32)
                      ) else (
                        if (9 : Int32) < p1 then (
                          some (-1 : Int32)
                        ) else (
                          if p1 < 0 ∨ ln 24 ≤ (Int32.toNatClampNeg p1) then none else
                          some (m0 24 (Int32.toNatClampNeg p1))
                        )
                      )
                    ) else (
                      if p1 = (10 : Int32) then (
                        some (m0 17 8)
                      ) else (
                        if p1 = (11 : Int32) then (
                          some (m0 17 9)
                        ) else (
                          if p1 = (12 : Int32) then (
                            some (m0 17 5)
                          ) else (
                            if p1 < (3 : Int32) then (
                              some (-1 : Int32)
                            ) else (
                              if (9 : Int32) < p1 then (
                                some (-1 : Int32)
                              ) else (
                                if p1 < 0 ∨ ln 24 ≤ (Int32.toNatClampNeg p1) then none else
                                some (m0 24 (Int32.toNatClampNeg p1))
                              )
                            )
                          )
                        )
                      )
                    )
                  )
                )
              )
            )
          )
        )
      )
    )
  )
