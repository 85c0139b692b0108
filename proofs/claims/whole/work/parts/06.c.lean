set_option maxHeartbeats 4000000 in
set_option maxRecDepth 100000 in
theorem C_Intervals_has {l : Launch} {ca : Nat → ClassId} {a : Nat → Nat} {m0 : Mem} {p0 : Int32} {r : Int32}  (hF : F_Intervals_has p0 = some r) : CT l ca a y_Intervals_has b_Intervals_has 1 (some .boolean) (RM 0 0) [.int p0] m0 (some (.int r)) m0 := by
  refine ct_of (own := R_Intervals) (lv := [some (.int p0)]) (plainFor_of_name (by decide)) rfl (cat_ok rfl) (Nat.le_of_ble_eq_true rfl) rfl ?_
  unfold F_Intervals_has at hF
  refine ww_iload_0 1 rfl (by decide +kernel) ?_
  refine ww_if_eq 4 rfl (8) 9 (by decide +kernel) (by decide) (fun h => ?_) (fun h => ?_)
  · rw [if_pos h] at hF
    refine ww_iconst 10 rfl (1) (1 : Int32) (by decide +kernel) (by decide) ?_
    refine ww_goto (4) 14 (by decide +kernel) (by decide) ?_
    cases hF
    exact ww_zret (by decide +kernel) rfl (by decide)
  · rw [if_neg h] at hF
    refine ww_iload_0 5 rfl (by decide +kernel) ?_
    refine ww_iconst 6 rfl (1) (1 : Int32) (by decide +kernel) (by decide) ?_
    refine ww_icmp_ne 9 rfl (7) 13 (by decide +kernel) (by decide) (fun h => ?_) (fun h => ?_)
    · rw [if_neg h] at hF
      refine ww_iconst 14 rfl (0) (0 : Int32) (by decide +kernel) (by decide) ?_
      cases hF
      exact ww_zret (by decide +kernel) rfl (by decide)
    · rw [if_pos h] at hF
      refine ww_iconst 10 rfl (1) (1 : Int32) (by decide +kernel) (by decide) ?_
      refine ww_goto (4) 14 (by decide +kernel) (by decide) ?_
      cases hF
      exact ww_zret (by decide +kernel) rfl (by decide)
set_option maxHeartbeats 4000000 in
set_option maxRecDepth 100000 in
theorem C_Gate_isSample {l : Launch} {ca : Nat → ClassId} {a : Nat → Nat} {m0 : Mem} {p0 : Int32} {r : Int32}  (hF : F_Gate_isSample p0 = some r) : CT l ca a y_Gate_isSample b_Gate_isSample 1 (some .boolean) (RM 0 0) [.int p0] m0 (some (.int r)) m0 := by
  refine ct_of (own := R_Gate) (lv := [some (.int p0)]) (plainFor_of_name (by decide)) rfl (cat_ok rfl) (Nat.le_of_ble_eq_true rfl) rfl ?_
  unfold F_Gate_isSample at hF
  refine ww_iload_0 1 rfl (by decide +kernel) ?_
  refine ww_sipush 4 rfl (-32768) (-32768 : Int32) (by decide +kernel) (by decide) ?_
  refine ww_icmp_lt 7 rfl (14) 18 (by decide +kernel) (by decide) (fun h => ?_) (fun h => ?_)
  · rw [if_pos h] at hF
    refine ww_iconst 19 rfl (0) (0 : Int32) (by decide +kernel) (by decide) ?_
    cases hF
    exact ww_zret (by decide +kernel) rfl (by decide)
  · rw [if_neg h] at hF
    refine ww_iload_0 8 rfl (by decide +kernel) ?_
    refine ww_sipush 11 rfl (32767) (32767 : Int32) (by decide +kernel) (by decide) ?_
    refine ww_icmp_gt 14 rfl (7) 18 (by decide +kernel) (by decide) (fun h => ?_) (fun h => ?_)
    · rw [if_pos h] at hF
      refine ww_iconst 19 rfl (0) (0 : Int32) (by decide +kernel) (by decide) ?_
      cases hF
      exact ww_zret (by decide +kernel) rfl (by decide)
    · rw [if_neg h] at hF
      refine ww_iconst 15 rfl (1) (1 : Int32) (by decide +kernel) (by decide) ?_
      refine ww_goto (4) 19 (by decide +kernel) (by decide) ?_
      cases hF
      exact ww_zret (by decide +kernel) rfl (by decide)
set_option maxHeartbeats 4000000 in
set_option maxRecDepth 100000 in
theorem B_Intervals_segmentOf_2 {l : Launch} {ca : Nat → ClassId} {a : Nat → Nat} {r : Int32} (n : Nat) : ∀ {m0 : Mem} {l0 : Int32} {l1 : Int32}   (hF : F_Intervals_segmentOf_2 n l0 l1 = some r), WW l b_Intervals_segmentOf 2 (some .int) R_Intervals (RM 0 0) ca a (EM ca a (some (.int r)) m0) 2 [some (.int l0), some (.int l1)] [] m0 := by
  induction n with
  | zero => intros; rename_i hF; rw [F_Intervals_segmentOf_2] at hF; cases hF
  | succ n ih =>
    intro m0 l0 l1   hF
    rw [F_Intervals_segmentOf_2] at hF
    refine ww_iload_1 3 rfl (by decide +kernel) ?_
    refine ww_bipush 5 rfl (7) (7 : Int32) (by decide +kernel) (by decide) ?_
    refine ww_icmp_ge 8 rfl (18) 23 (by decide +kernel) (by decide) (fun h => ?_) (fun h => ?_)
    · rw [if_pos h] at hF
      refine ww_iload_1 24 rfl (by decide +kernel) ?_
      cases hF
      exact ww_iret (by decide +kernel) rfl
    · rw [if_neg h] at hF
      refine ww_iload_0 9 rfl (by decide +kernel) ?_
      refine ww_sipush 12 rfl (256) (256 : Int32) (by decide +kernel) (by decide) ?_
      refine ww_iload_1 13 rfl (by decide +kernel) ?_
      refine ww_ishl 14 rfl (by decide +kernel) ?_
      refine ww_icmp_lt 17 rfl (9) 23 (by decide +kernel) (by decide) (fun h => ?_) (fun h => ?_)
      · rw [if_pos h] at hF
        refine ww_iload_1 24 rfl (by decide +kernel) ?_
        cases hF
        exact ww_iret (by decide +kernel) rfl
      · rw [if_neg h] at hF
        refine ww_iinc_1 20 rfl (1) (1 : Int32) (by decide +kernel) (by decide) (by decide) ?_
        refine ww_goto (-18) 2 (by decide +kernel) (by decide) ?_
        exact ih hF
set_option maxHeartbeats 4000000 in
set_option maxRecDepth 100000 in
theorem C_Intervals_segmentOf {l : Launch} {ca : Nat → ClassId} {a : Nat → Nat} {m0 : Mem} {p0 : Int32} {r : Int32}  (hF : F_Intervals_segmentOf p0 = some r) : CT l ca a y_Intervals_segmentOf b_Intervals_segmentOf 2 (some .int) (RM 0 0) [.int p0] m0 (some (.int r)) m0 := by
  refine ct_of (own := R_Intervals) (lv := [some (.int p0), none]) (plainFor_of_name (by decide)) rfl (cat_ok rfl) (Nat.le_of_ble_eq_true rfl) rfl ?_
  unfold F_Intervals_segmentOf at hF
  refine ww_iconst 1 rfl (0) (0 : Int32) (by decide +kernel) (by decide) ?_
  refine ww_istore_1 2 rfl (by decide +kernel) (by decide) ?_
  exact B_Intervals_segmentOf_2 _ hF
set_option maxHeartbeats 4000000 in
set_option maxRecDepth 100000 in
theorem B_Intervals_codeOf0_48 {l : Launch} {ca : Nat → ClassId} {a : Nat → Nat} {m0 : Mem} {l2 : Int32} {l3 : Int32} {s0 : Int32} {z0 : Option Value} {z1 : Option Value} {z4 : Option Value} {r : Int32}  (hF : F_Intervals_codeOf0_48 l2 l3 s0 = some r) : WW l b_Intervals_codeOf0 5 (some .int) R_Intervals (RM 1 21) ca a (EM ca a (some (.int r)) m0) 48 [z0, z1, some (.int l2), some (.int l3), z4] [.int s0] m0 := by
  unfold F_Intervals_codeOf0_48 at hF
  refine ww_istore_4 50 rfl (by decide +kernel) (by decide) ?_
  refine ww_bipush 52 rfl (16) (16 : Int32) (by decide +kernel) (by decide) ?_
  refine ww_iload_2 53 rfl (by decide +kernel) ?_
  refine ww_imul 54 rfl (by decide +kernel) ?_
  refine ww_iload_3 55 rfl (by decide +kernel) ?_
  refine ww_iadd 56 rfl (by decide +kernel) ?_
  refine ww_iload_4 58 rfl (by decide +kernel) ?_
  refine ww_iadd 59 rfl (by decide +kernel) ?_
  refine ww_bipush 61 rfl (85) (85 : Int32) (by decide +kernel) (by decide) ?_
  refine ww_ixor 62 rfl (by decide +kernel) ?_
  cases hF
  exact ww_iret (by decide +kernel) rfl
set_option maxHeartbeats 4000000 in
set_option maxRecDepth 100000 in
theorem B_Intervals_codeOf0_36 {l : Launch} {ca : Nat → ClassId} {a : Nat → Nat} {m0 : Mem} {l0 : Int32} {l2 : Int32} {s0 : Int32} {z1 : Option Value} {z3 : Option Value} {z4 : Option Value} {r : Int32}  (hF : F_Intervals_codeOf0_36 l0 l2 s0 = some r) : WW l b_Intervals_codeOf0 5 (some .int) R_Intervals (RM 1 21) ca a (EM ca a (some (.int r)) m0) 36 [some (.int l0), z1, some (.int l2), z3, z4] [.int s0] m0 := by
  unfold F_Intervals_codeOf0_36 at hF
  refine ww_istore_3 37 rfl (by decide +kernel) (by decide) ?_
  refine ww_iload_0 38 rfl (by decide +kernel) ?_
  refine ww_if_ge 41 rfl (7) 45 (by decide +kernel) (by decide) (fun h => ?_) (fun h => ?_)
  · rw [if_pos h] at hF
    refine ww_sipush 48 rfl (128) (128 : Int32) (by decide +kernel) (by decide) ?_
    exact B_Intervals_codeOf0_48 hF
  · rw [if_neg h] at hF
    refine ww_iconst 42 rfl (0) (0 : Int32) (by decide +kernel) (by decide) ?_
    refine ww_goto (6) 48 (by decide +kernel) (by decide) ?_
    exact B_Intervals_codeOf0_48 hF
set_option maxHeartbeats 4000000 in
set_option maxRecDepth 100000 in
theorem B_Intervals_codeOf0_12 {l : Launch} {ca : Nat → ClassId} {a : Nat → Nat} {m0 : Mem} {l0 : Int32} {s0 : Int32} {z1 : Option Value} {z2 : Option Value} {z3 : Option Value} {z4 : Option Value} {r : Int32}  (hF : F_Intervals_codeOf0_12 l0 s0 = some r) : WW l b_Intervals_codeOf0 5 (some .int) R_Intervals (RM 1 21) ca a (EM ca a (some (.int r)) m0) 12 [some (.int l0), z1, z2, z3, z4] [.int s0] m0 := by
  unfold F_Intervals_codeOf0_12 at hF
  refine ww_istore_1 13 rfl (by decide +kernel) (by decide) ?_
  refine ww_iload_1 14 rfl (by decide +kernel) ?_
  obtain ⟨r2, h1, hF⟩ := rd_at hF
  refine ww_cS1i 17 rfl 22 (by decide +kernel) mf_Intervals_segmentOf k_Intervals_22 ⟨by decide, by decide⟩ ⟨rfl, rfl⟩ (Nat.le_of_ble_eq_true rfl) (C_Intervals_segmentOf h1) ?_
  refine ww_istore_2 18 rfl (by decide +kernel) (by decide) ?_
  refine ww_iload_2 19 rfl (by decide +kernel) ?_
  refine ww_if_ne 22 rfl (9) 28 (by decide +kernel) (by decide) (fun h => ?_) (fun h => ?_)
  · rw [if_neg h] at hF
    refine ww_iload_1 29 rfl (by decide +kernel) ?_
    refine ww_iload_2 30 rfl (by decide +kernel) ?_
    refine ww_iconst 31 rfl (3) (3 : Int32) (by decide +kernel) (by decide) ?_
    refine ww_iadd 32 rfl (by decide +kernel) ?_
    refine ww_ishr 33 rfl (by decide +kernel) ?_
    refine ww_bipush 35 rfl (16) (16 : Int32) (by decide +kernel) (by decide) ?_
    refine ww_isub 36 rfl (by decide +kernel) ?_
    exact B_Intervals_codeOf0_36 hF
  · rw [if_pos h] at hF
    refine ww_iload_1 23 rfl (by decide +kernel) ?_
    refine ww_iconst 24 rfl (4) (4 : Int32) (by decide +kernel) (by decide) ?_
    refine ww_ishr 25 rfl (by decide +kernel) ?_
    refine ww_goto (11) 36 (by decide +kernel) (by decide) ?_
    exact B_Intervals_codeOf0_36 hF
set_option maxHeartbeats 4000000 in
set_option maxRecDepth 100000 in
theorem C_Intervals_codeOf0 {l : Launch} {ca : Nat → ClassId} {a : Nat → Nat} {m0 : Mem} {p0 : Int32} {r : Int32}  (hF : F_Intervals_codeOf0 p0 = some r) : CT l ca a y_Intervals_codeOf0 b_Intervals_codeOf0 5 (some .int) (RM 1 21) [.int p0] m0 (some (.int r)) m0 := by
  refine ct_of (own := R_Intervals) (lv := [some (.int p0), none, none, none, none]) (plainFor_of_name (by decide)) rfl (cat_ok rfl) (Nat.le_of_ble_eq_true rfl) rfl ?_
  unfold F_Intervals_codeOf0 at hF
  refine ww_iload_0 1 rfl (by decide +kernel) ?_
  refine ww_if_ge 4 rfl (10) 11 (by decide +kernel) (by decide) (fun h => ?_) (fun h => ?_)
  · rw [if_pos h] at hF
    refine ww_iload_0 12 rfl (by decide +kernel) ?_
    exact B_Intervals_codeOf0_12 hF
  · rw [if_neg h] at hF
    refine ww_iload_0 5 rfl (by decide +kernel) ?_
    refine ww_ineg 6 rfl (by decide +kernel) ?_
    refine ww_iconst 7 rfl (1) (1 : Int32) (by decide +kernel) (by decide) ?_
    refine ww_isub 8 rfl (by decide +kernel) ?_
    refine ww_goto (4) 12 (by decide +kernel) (by decide) ?_
    exact B_Intervals_codeOf0_12 hF
set_option maxHeartbeats 4000000 in
set_option maxRecDepth 100000 in
theorem B_Intervals_codeOf1_56 {l : Launch} {ca : Nat → ClassId} {a : Nat → Nat} {m0 : Mem} {l3 : Int32} {l4 : Int32} {s0 : Int32} {z0 : Option Value} {z1 : Option Value} {z2 : Option Value} {z5 : Option Value} {r : Int32}  (hF : F_Intervals_codeOf1_56 l3 l4 s0 = some r) : WW l b_Intervals_codeOf1 6 (some .int) R_Intervals (RM 1 21) ca a (EM ca a (some (.int r)) m0) 56 [z0, z1, z2, some (.int l3), some (.int l4), z5] [.int s0] m0 := by
  unfold F_Intervals_codeOf1_56 at hF
  refine ww_istore_5 58 rfl (by decide +kernel) (by decide) ?_
  refine ww_sipush 61 rfl (255) (255 : Int32) (by decide +kernel) (by decide) ?_
  refine ww_bipush 63 rfl (16) (16 : Int32) (by decide +kernel) (by decide) ?_
  refine ww_iload_3 64 rfl (by decide +kernel) ?_
  refine ww_imul 65 rfl (by decide +kernel) ?_
  refine ww_iload_4 67 rfl (by decide +kernel) ?_
  refine ww_iadd 68 rfl (by decide +kernel) ?_
  refine ww_isub 69 rfl (by decide +kernel) ?_
  refine ww_iload_5 71 rfl (by decide +kernel) ?_
  refine ww_isub 72 rfl (by decide +kernel) ?_
  cases hF
  exact ww_iret (by decide +kernel) rfl
set_option maxHeartbeats 4000000 in
set_option maxRecDepth 100000 in
theorem B_Intervals_codeOf1_25 {l : Launch} {ca : Nat → ClassId} {a : Nat → Nat} {m0 : Mem} {l0 : Int32} {s0 : Int32} {z1 : Option Value} {z2 : Option Value} {z3 : Option Value} {z4 : Option Value} {z5 : Option Value} {r : Int32}  (hF : F_Intervals_codeOf1_25 l0 s0 = some r) : WW l b_Intervals_codeOf1 6 (some .int) R_Intervals (RM 1 21) ca a (EM ca a (some (.int r)) m0) 25 [some (.int l0), z1, z2, z3, z4, z5] [.int s0] m0 := by
  unfold F_Intervals_codeOf1_25 at hF
  refine ww_sipush 28 rfl (132) (132 : Int32) (by decide +kernel) (by decide) ?_
  refine ww_iadd 29 rfl (by decide +kernel) ?_
  refine ww_nmi (fun v1 ev1 => ?_)
  replace hF := bnd_at hF ev1
  refine ww_istore_2 30 rfl (by decide +kernel) (by decide) ?_
  refine ww_iload_2 31 rfl (by decide +kernel) ?_
  obtain ⟨r3, h2, hF⟩ := rd_at hF
  refine ww_cS1i 34 rfl 22 (by decide +kernel) mf_Intervals_segmentOf k_Intervals_22 ⟨by decide, by decide⟩ ⟨rfl, rfl⟩ (Nat.le_of_ble_eq_true rfl) (C_Intervals_segmentOf h2) ?_
  refine ww_istore_3 35 rfl (by decide +kernel) (by decide) ?_
  refine ww_iload_2 36 rfl (by decide +kernel) ?_
  refine ww_iload_3 37 rfl (by decide +kernel) ?_
  refine ww_iconst 38 rfl (3) (3 : Int32) (by decide +kernel) (by decide) ?_
  refine ww_iadd 39 rfl (by decide +kernel) ?_
  refine ww_ishr 40 rfl (by decide +kernel) ?_
  refine ww_bipush 42 rfl (16) (16 : Int32) (by decide +kernel) (by decide) ?_
  refine ww_isub 43 rfl (by decide +kernel) ?_
  refine ww_nmi (fun v4 ev4 => ?_)
  replace hF := bnd_at hF ev4
  refine ww_istore_4 45 rfl (by decide +kernel) (by decide) ?_
  refine ww_iload_0 46 rfl (by decide +kernel) ?_
  refine ww_if_ge 49 rfl (9) 55 (by decide +kernel) (by decide) (fun h => ?_) (fun h => ?_)
  · rw [if_pos h] at hF
    refine ww_iconst 56 rfl (0) (0 : Int32) (by decide +kernel) (by decide) ?_
    exact B_Intervals_codeOf1_56 hF
  · rw [if_neg h] at hF
    refine ww_sipush 52 rfl (128) (128 : Int32) (by decide +kernel) (by decide) ?_
    refine ww_goto (4) 56 (by decide +kernel) (by decide) ?_
    exact B_Intervals_codeOf1_56 hF
set_option maxHeartbeats 4000000 in
set_option maxRecDepth 100000 in
theorem B_Intervals_codeOf1_10 {l : Launch} {ca : Nat → ClassId} {a : Nat → Nat} {m0 : Mem} {l0 : Int32} {s0 : Int32} {z1 : Option Value} {z2 : Option Value} {z3 : Option Value} {z4 : Option Value} {z5 : Option Value} {r : Int32}  (hF : F_Intervals_codeOf1_10 l0 s0 = some r) : WW l b_Intervals_codeOf1 6 (some .int) R_Intervals (RM 1 21) ca a (EM ca a (some (.int r)) m0) 10 [some (.int l0), z1, z2, z3, z4, z5] [.int s0] m0 := by
  unfold F_Intervals_codeOf1_10 at hF
  refine ww_istore_1 11 rfl (by decide +kernel) (by decide) ?_
  refine ww_iload_1 12 rfl (by decide +kernel) ?_
  refine ww_sipush 15 rfl (32635) (32635 : Int32) (by decide +kernel) (by decide) ?_
  refine ww_icmp_le 18 rfl (9) 24 (by decide +kernel) (by decide) (fun h => ?_) (fun h => ?_)
  · rw [if_pos h] at hF
    refine ww_iload_1 25 rfl (by decide +kernel) ?_
    exact B_Intervals_codeOf1_25 hF
  · rw [if_neg h] at hF
    refine ww_sipush 21 rfl (32635) (32635 : Int32) (by decide +kernel) (by decide) ?_
    refine ww_goto (4) 25 (by decide +kernel) (by decide) ?_
    exact B_Intervals_codeOf1_25 hF
set_option maxHeartbeats 4000000 in
set_option maxRecDepth 100000 in
theorem C_Intervals_codeOf1 {l : Launch} {ca : Nat → ClassId} {a : Nat → Nat} {m0 : Mem} {p0 : Int32} {r : Int32}  (hF : F_Intervals_codeOf1 p0 = some r) : CT l ca a y_Intervals_codeOf1 b_Intervals_codeOf1 6 (some .int) (RM 1 21) [.int p0] m0 (some (.int r)) m0 := by
  refine ct_of (own := R_Intervals) (lv := [some (.int p0), none, none, none, none, none]) (plainFor_of_name (by decide)) rfl (cat_ok rfl) (Nat.le_of_ble_eq_true rfl) rfl ?_
  unfold F_Intervals_codeOf1 at hF
  refine ww_iload_0 1 rfl (by decide +kernel) ?_
  refine ww_if_ge 4 rfl (8) 9 (by decide +kernel) (by decide) (fun h => ?_) (fun h => ?_)
  · rw [if_pos h] at hF
    refine ww_iload_0 10 rfl (by decide +kernel) ?_
    exact B_Intervals_codeOf1_10 hF
  · rw [if_neg h] at hF
    refine ww_iload_0 5 rfl (by decide +kernel) ?_
    refine ww_ineg 6 rfl (by decide +kernel) ?_
    refine ww_goto (4) 10 (by decide +kernel) (by decide) ?_
    exact B_Intervals_codeOf1_10 hF
set_option maxHeartbeats 4000000 in
set_option maxRecDepth 100000 in
theorem C_Intervals_codeOf {l : Launch} {ca : Nat → ClassId} {a : Nat → Nat} {m0 : Mem} {p0 : Int32} {p1 : Int32} {r : Int32}  (hF : F_Intervals_codeOf p0 p1 = some r) : CT l ca a y_Intervals_codeOf b_Intervals_codeOf 2 (some .int) (RM 2 46) [.int p0, .int p1] m0 (some (.int r)) m0 := by
  refine ct_of (own := R_Intervals) (lv := [some (.int p0), some (.int p1)]) (plainFor_of_name (by decide)) rfl (cat_ok rfl) (Nat.le_of_ble_eq_true rfl) rfl ?_
  unfold F_Intervals_codeOf at hF
  refine ww_iload_0 1 rfl (by decide +kernel) ?_
  refine ww_if_ne 4 rfl (10) 11 (by decide +kernel) (by decide) (fun h => ?_) (fun h => ?_)
  · rw [if_neg h] at hF
    refine ww_iload_1 12 rfl (by decide +kernel) ?_
    obtain ⟨r2, h1, hF⟩ := rd_at hF
    refine ww_cS1i 15 rfl 13 (by decide +kernel) mf_Intervals_codeOf1 k_Intervals_13 ⟨by decide, by decide⟩ ⟨rfl, rfl⟩ (Nat.le_of_ble_eq_true rfl) (C_Intervals_codeOf1 h1) ?_
    cases hF
    exact ww_iret (by decide +kernel) rfl
  · rw [if_pos h] at hF
    refine ww_iload_1 5 rfl (by decide +kernel) ?_
    obtain ⟨r4, h3, hF⟩ := rd_at hF
    refine ww_cS1i 8 rfl 7 (by decide +kernel) mf_Intervals_codeOf0 k_Intervals_7 ⟨by decide, by decide⟩ ⟨rfl, rfl⟩ (Nat.le_of_ble_eq_true rfl) (C_Intervals_codeOf0 h3) ?_
    refine ww_goto (7) 15 (by decide +kernel) (by decide) ?_
    cases hF
    exact ww_iret (by decide +kernel) rfl
set_option maxHeartbeats 4000000 in
set_option maxRecDepth 100000 in
theorem C_Gate_compress {l : Launch} {ca : Nat → ClassId} {a : Nat → Nat} {m0 : Mem} {p1 : Int32} {p2 : Int32} {r : Int32}  (hF : F_Gate_compress p1 p2 = some r) : CT l ca a y_Gate_compress b_Gate_compress 3 (some .int) (RM 3 67) [.ref (a 0), .int p1, .int p2] m0 (some (.int r)) m0 := by
  refine ct_of (own := R_Gate) (lv := [some (.ref (a 0)), some (.int p1), some (.int p2)]) (plainFor_of_name (by decide)) rfl (cat_ok rfl) (Nat.le_of_ble_eq_true rfl) rfl ?_
  unfold F_Gate_compress at hF
  refine ww_iload_1 1 rfl (by decide +kernel) ?_
  obtain ⟨r2, h1, hF⟩ := rd_at hF
  refine ww_cS1i 4 rfl 49 (by decide +kernel) mf_Intervals_has k_Gate_49 ⟨by decide, by decide⟩ ⟨rfl, rfl⟩ (Nat.le_of_ble_eq_true rfl) (C_Intervals_has h1) ?_
  refine ww_if_eq 7 rfl (10) 14 (by decide +kernel) (by decide) (fun h => ?_) (fun h => ?_)
  · rw [if_pos h] at hF
    refine ww_iconst 15 rfl (-1) (-1 : Int32) (by decide +kernel) (by decide) ?_
    cases hF
    exact ww_iret (by decide +kernel) rfl
  · rw [if_neg h] at hF
    refine ww_iload_2 8 rfl (by decide +kernel) ?_
    obtain ⟨r4, h3, hF⟩ := rd_at hF
    refine ww_cS1i 11 rfl 55 (by decide +kernel) mf_Gate_isSample k_Gate_55 ⟨by decide, by decide⟩ ⟨rfl, rfl⟩ (Nat.le_of_ble_eq_true rfl) (C_Gate_isSample h3) ?_
    refine ww_if_ne 14 rfl (5) 16 (by decide +kernel) (by decide) (fun h => ?_) (fun h => ?_)
    · rw [if_neg h] at hF
      refine ww_iload_1 17 rfl (by decide +kernel) ?_
      refine ww_iload_2 18 rfl (by decide +kernel) ?_
      obtain ⟨r6, h5, hF⟩ := rd_at hF
      refine ww_cS2i 21 rfl 58 (by decide +kernel) mf_Intervals_codeOf k_Gate_58 ⟨by decide, by decide⟩ ⟨rfl, rfl⟩ (Nat.le_of_ble_eq_true rfl) (C_Intervals_codeOf h5) ?_
      cases hF
      exact ww_iret (by decide +kernel) rfl
    · rw [if_pos h] at hF
      refine ww_iconst 15 rfl (-1) (-1 : Int32) (by decide +kernel) (by decide) ?_
      cases hF
      exact ww_iret (by decide +kernel) rfl
set_option maxHeartbeats 4000000 in
set_option maxRecDepth 100000 in
theorem C_Gate_isByte {l : Launch} {ca : Nat → ClassId} {a : Nat → Nat} {m0 : Mem} {p0 : Int32} {r : Int32}  (hF : F_Gate_isByte p0 = some r) : CT l ca a y_Gate_isByte b_Gate_isByte 1 (some .boolean) (RM 0 0) [.int p0] m0 (some (.int r)) m0 := by
  refine ct_of (own := R_Gate) (lv := [some (.int p0)]) (plainFor_of_name (by decide)) rfl (cat_ok rfl) (Nat.le_of_ble_eq_true rfl) rfl ?_
  unfold F_Gate_isByte at hF
  refine ww_iload_0 1 rfl (by decide +kernel) ?_
  refine ww_if_lt 4 rfl (14) 15 (by decide +kernel) (by decide) (fun h => ?_) (fun h => ?_)
  · rw [if_pos h] at hF
    refine ww_iconst 16 rfl (0) (0 : Int32) (by decide +kernel) (by decide) ?_
    cases hF
    exact ww_zret (by decide +kernel) rfl (by decide)
  · rw [if_neg h] at hF
    refine ww_iload_0 5 rfl (by decide +kernel) ?_
    refine ww_sipush 8 rfl (255) (255 : Int32) (by decide +kernel) (by decide) ?_
    refine ww_icmp_gt 11 rfl (7) 15 (by decide +kernel) (by decide) (fun h => ?_) (fun h => ?_)
    · rw [if_pos h] at hF
      refine ww_iconst 16 rfl (0) (0 : Int32) (by decide +kernel) (by decide) ?_
      cases hF
      exact ww_zret (by decide +kernel) rfl (by decide)
    · rw [if_neg h] at hF
      refine ww_iconst 12 rfl (1) (1 : Int32) (by decide +kernel) (by decide) ?_
      refine ww_goto (4) 16 (by decide +kernel) (by decide) ?_
      cases hF
      exact ww_zret (by decide +kernel) rfl (by decide)
set_option maxHeartbeats 4000000 in
set_option maxRecDepth 100000 in
theorem C_Intervals_middleOfInterval {l : Launch} {ca : Nat → ClassId} {a : Nat → Nat} {m0 : Mem} {p0 : Int32} {p1 : Int32} {r : Int32}  (hF : F_Intervals_middleOfInterval p0 p1 = some r) : CT l ca a y_Intervals_middleOfInterval b_Intervals_middleOfInterval 2 (some .int) (RM 0 0) [.int p0, .int p1] m0 (some (.int r)) m0 := by
  refine ct_of (own := R_Intervals) (lv := [some (.int p0), some (.int p1)]) (plainFor_of_name (by decide)) rfl (cat_ok rfl) (Nat.le_of_ble_eq_true rfl) rfl ?_
  unfold F_Intervals_middleOfInterval at hF
  refine ww_bipush 2 rfl (16) (16 : Int32) (by decide +kernel) (by decide) ?_
  refine ww_iload_1 3 rfl (by decide +kernel) ?_
  refine ww_iadd 4 rfl (by decide +kernel) ?_
  refine ww_iload_0 5 rfl (by decide +kernel) ?_
  refine ww_iconst 6 rfl (3) (3 : Int32) (by decide +kernel) (by decide) ?_
  refine ww_iadd 7 rfl (by decide +kernel) ?_
  refine ww_ishl 8 rfl (by decide +kernel) ?_
  refine ww_iconst 9 rfl (1) (1 : Int32) (by decide +kernel) (by decide) ?_
  refine ww_iload_0 10 rfl (by decide +kernel) ?_
  refine ww_iconst 11 rfl (2) (2 : Int32) (by decide +kernel) (by decide) ?_
  refine ww_iadd 12 rfl (by decide +kernel) ?_
  refine ww_ishl 13 rfl (by decide +kernel) ?_
  refine ww_iadd 14 rfl (by decide +kernel) ?_
  cases hF
  exact ww_iret (by decide +kernel) rfl
set_option maxHeartbeats 4000000 in
set_option maxRecDepth 100000 in
theorem B_Intervals_middleOf0_36 {l : Launch} {ca : Nat → ClassId} {a : Nat → Nat} {m0 : Mem} {l1 : Int32} {s0 : Int32} {z0 : Option Value} {z2 : Option Value} {z3 : Option Value} {z4 : Option Value} {r : Int32}  (hF : F_Intervals_middleOf0_36 l1 s0 = some r) : WW l b_Intervals_middleOf0 5 (some .int) R_Intervals (RM 1 21) ca a (EM ca a (some (.int r)) m0) 36 [z0, some (.int l1), z2, z3, z4] [.int s0] m0 := by
  unfold F_Intervals_middleOf0_36 at hF
  refine ww_istore_4 38 rfl (by decide +kernel) (by decide) ?_
  refine ww_iload_1 39 rfl (by decide +kernel) ?_
  refine ww_sipush 42 rfl (128) (128 : Int32) (by decide +kernel) (by decide) ?_
  refine ww_iand 43 rfl (by decide +kernel) ?_
  refine ww_if_ne 46 rfl (9) 52 (by decide +kernel) (by decide) (fun h => ?_) (fun h => ?_)
  · rw [if_neg h] at hF
    refine ww_iload_4 54 rfl (by decide +kernel) ?_
    cases hF
    exact ww_iret (by decide +kernel) rfl
  · rw [if_pos h] at hF
    refine ww_iload_4 48 rfl (by decide +kernel) ?_
    refine ww_ineg 49 rfl (by decide +kernel) ?_
    refine ww_goto (5) 54 (by decide +kernel) (by decide) ?_
    cases hF
    exact ww_iret (by decide +kernel) rfl
set_option maxHeartbeats 4000000 in
set_option maxRecDepth 100000 in
theorem C_Intervals_middleOf0 {l : Launch} {ca : Nat → ClassId} {a : Nat → Nat} {m0 : Mem} {p0 : Int32} {r : Int32}  (hF : F_Intervals_middleOf0 p0 = some r) : CT l ca a y_Intervals_middleOf0 b_Intervals_middleOf0 5 (some .int) (RM 1 21) [.int p0] m0 (some (.int r)) m0 := by
  refine ct_of (own := R_Intervals) (lv := [some (.int p0), none, none, none, none]) (plainFor_of_name (by decide)) rfl (cat_ok rfl) (Nat.le_of_ble_eq_true rfl) rfl ?_
  unfold F_Intervals_middleOf0 at hF
  refine ww_iload_0 1 rfl (by decide +kernel) ?_
  refine ww_bipush 3 rfl (85) (85 : Int32) (by decide +kernel) (by decide) ?_
  refine ww_ixor 4 rfl (by decide +kernel) ?_
  refine ww_nmi (fun v1 ev1 => ?_)
  replace hF := bnd_at hF ev1
  refine ww_istore_1 5 rfl (by decide +kernel) (by decide) ?_
  refine ww_iload_1 6 rfl (by decide +kernel) ?_
  refine ww_iconst 7 rfl (4) (4 : Int32) (by decide +kernel) (by decide) ?_
  refine ww_ishr 8 rfl (by decide +kernel) ?_
  refine ww_bipush 10 rfl (7) (7 : Int32) (by decide +kernel) (by decide) ?_
  refine ww_iand 11 rfl (by decide +kernel) ?_
  refine ww_nmi (fun v2 ev2 => ?_)
  replace hF := bnd_at hF ev2
  refine ww_istore_2 12 rfl (by decide +kernel) (by decide) ?_
  refine ww_iload_1 13 rfl (by decide +kernel) ?_
  refine ww_bipush 15 rfl (15) (15 : Int32) (by decide +kernel) (by decide) ?_
  refine ww_iand 16 rfl (by decide +kernel) ?_
  refine ww_nmi (fun v3 ev3 => ?_)
  replace hF := bnd_at hF ev3
  refine ww_istore_3 17 rfl (by decide +kernel) (by decide) ?_
  refine ww_iload_2 18 rfl (by decide +kernel) ?_
  refine ww_if_ne 21 rfl (13) 31 (by decide +kernel) (by decide) (fun h => ?_) (fun h => ?_)
  · rw [if_neg h] at hF
    refine ww_iload_2 32 rfl (by decide +kernel) ?_
    refine ww_iload_3 33 rfl (by decide +kernel) ?_
    obtain ⟨r5, h4, hF⟩ := rd_at hF
    refine ww_cS2i 36 rfl 25 (by decide +kernel) mf_Intervals_middleOfInterval k_Intervals_25 ⟨by decide, by decide⟩ ⟨rfl, rfl⟩ (Nat.le_of_ble_eq_true rfl) (C_Intervals_middleOfInterval h4) ?_
    exact B_Intervals_middleOf0_36 hF
  · rw [if_pos h] at hF
    refine ww_bipush 23 rfl (16) (16 : Int32) (by decide +kernel) (by decide) ?_
    refine ww_iload_3 24 rfl (by decide +kernel) ?_
    refine ww_imul 25 rfl (by decide +kernel) ?_
    refine ww_bipush 27 rfl (8) (8 : Int32) (by decide +kernel) (by decide) ?_
    refine ww_iadd 28 rfl (by decide +kernel) ?_
    refine ww_goto (8) 36 (by decide +kernel) (by decide) ?_
    exact B_Intervals_middleOf0_36 hF
