set_option maxHeartbeats 4000000 in
set_option maxRecDepth 100000 in
theorem B_Model_begins_19 {l : Launch} {ca : Nat → ClassId} {a : Nat → Nat} {r : Int32} (n : Nat) : ∀ {m0 : Mem} {l0 : Int32} {l2 : Int32} {l3 : Int32} {l4 : Int32} {l5 : Int32} {z1 : Option Value}  (hF : F_Model_begins_19 n l0 l2 l3 l4 l5 = some r), WW l b_Model_begins 6 (some .int) R_Model (RM 0 0) ca a (EM ca a (some (.int r)) m0) 19 [some (.int l0), z1, some (.int l2), some (.int l3), some (.int l4), some (.int l5)] [] m0 := by
  induction n with
  | zero => intros; rename_i hF; rw [F_Model_begins_19] at hF; cases hF
  | succ n ih =>
    intro m0 l0 l2 l3 l4 l5 z1  hF
    rw [F_Model_begins_19] at hF
    refine ww_iload_5 21 rfl (by decide +kernel) ?_
    refine ww_iload_2 22 rfl (by decide +kernel) ?_
    refine ww_iconst 23 rfl (3) (3 : Int32) (by decide +kernel) (by decide) ?_
    refine ww_iadd 24 rfl (by decide +kernel) ?_
    refine ww_icmp_ge 27 rfl (15) 39 (by decide +kernel) (by decide) (fun h => ?_) (fun h => ?_)
    · rw [if_pos h] at hF
      refine ww_iload_0 40 rfl (by decide +kernel) ?_
      refine ww_if_ne 43 rfl (14) 54 (by decide +kernel) (by decide) (fun h => ?_) (fun h => ?_)
      · rw [if_neg h] at hF
        refine ww_iload_4 56 rfl (by decide +kernel) ?_
        cases hF
        exact ww_iret (by decide +kernel) rfl
      · rw [if_pos h] at hF
        refine ww_iload_2 44 rfl (by decide +kernel) ?_
        refine ww_if_ne 47 rfl (10) 54 (by decide +kernel) (by decide) (fun h => ?_) (fun h => ?_)
        · rw [if_neg h] at hF
          refine ww_iload_4 56 rfl (by decide +kernel) ?_
          cases hF
          exact ww_iret (by decide +kernel) rfl
        · rw [if_pos h] at hF
          refine ww_bipush 49 rfl (16) (16 : Int32) (by decide +kernel) (by decide) ?_
          refine ww_iload_3 50 rfl (by decide +kernel) ?_
          refine ww_imul 51 rfl (by decide +kernel) ?_
          refine ww_goto (5) 56 (by decide +kernel) (by decide) ?_
          cases hF
          exact ww_iret (by decide +kernel) rfl
    · rw [if_neg h] at hF
      refine ww_iconst 28 rfl (2) (2 : Int32) (by decide +kernel) (by decide) ?_
      refine ww_iload_4 30 rfl (by decide +kernel) ?_
      refine ww_imul 31 rfl (by decide +kernel) ?_
      refine ww_nmi (fun v4 ev4 => ?_)
      replace hF := bnd_at hF ev4
      refine ww_istore_4 33 rfl (by decide +kernel) (by decide) ?_
      refine ww_iinc_5 36 rfl (1) (1 : Int32) (by decide +kernel) (by decide) (by decide) ?_
      refine ww_goto (-17) 19 (by decide +kernel) (by decide) ?_
      exact ih hF
set_option maxHeartbeats 4000000 in
set_option maxRecDepth 100000 in
theorem C_Model_begins {l : Launch} {ca : Nat → ClassId} {a : Nat → Nat} {m0 : Mem} {p0 : Int32} {p1 : Int32} {r : Int32}  (hF : F_Model_begins p0 p1 = some r) : CT l ca a y_Model_begins b_Model_begins 6 (some .int) (RM 0 0) [.int p0, .int p1] m0 (some (.int r)) m0 := by
  refine ct_of (own := R_Model) (lv := [some (.int p0), some (.int p1), none, none, none, none]) (plainFor_of_name (by decide)) rfl (cat_ok rfl) (Nat.le_of_ble_eq_true rfl) rfl ?_
  unfold F_Model_begins at hF
  refine ww_iload_1 1 rfl (by decide +kernel) ?_
  refine ww_bipush 3 rfl (16) (16 : Int32) (by decide +kernel) (by decide) ?_
  refine ww_idiv 4 rfl (by decide +kernel) (by decide) ?_
  refine ww_nmi (fun v1 ev1 => ?_)
  replace hF := bnd_at hF ev1
  refine ww_istore_2 5 rfl (by decide +kernel) (by decide) ?_
  refine ww_iload_1 6 rfl (by decide +kernel) ?_
  refine ww_bipush 8 rfl (16) (16 : Int32) (by decide +kernel) (by decide) ?_
  refine ww_irem 9 rfl (by decide +kernel) (by decide) ?_
  refine ww_nmi (fun v2 ev2 => ?_)
  replace hF := bnd_at hF ev2
  refine ww_istore_3 10 rfl (by decide +kernel) (by decide) ?_
  refine ww_bipush 12 rfl (16) (16 : Int32) (by decide +kernel) (by decide) ?_
  refine ww_iload_3 13 rfl (by decide +kernel) ?_
  refine ww_iadd 14 rfl (by decide +kernel) ?_
  refine ww_nmi (fun v3 ev3 => ?_)
  replace hF := bnd_at hF ev3
  refine ww_istore_4 16 rfl (by decide +kernel) (by decide) ?_
  refine ww_iconst 17 rfl (0) (0 : Int32) (by decide +kernel) (by decide) ?_
  refine ww_istore_5 19 rfl (by decide +kernel) (by decide) ?_
  exact B_Model_begins_19 _ hF
set_option maxHeartbeats 4000000 in
set_option maxRecDepth 100000 in
theorem B_Model_compress_72 {l : Launch} {ca : Nat → ClassId} {a : Nat → Nat} {r : Int32} (n : Nat) : ∀ {m0 : Mem} {l1 : Int32} {l2 : Int32} {l4 : Int32} {l5 : Int32} {z0 : Option Value} {z3 : Option Value}  (hF : F_Model_compress_72 n l1 l2 l4 l5 = some r), WW l b_Model_compress 6 (some .int) R_Model (RM 1 25) ca a (EM ca a (some (.int r)) m0) 72 [z0, some (.int l1), some (.int l2), z3, some (.int l4), some (.int l5)] [] m0 := by
  induction n with
  | zero => intros; rename_i hF; rw [F_Model_compress_72] at hF; cases hF
  | succ n ih =>
    intro m0 l1 l2 l4 l5 z0 z3  hF
    rw [F_Model_compress_72] at hF
    refine ww_iload_1 73 rfl (by decide +kernel) ?_
    refine ww_iload_5 75 rfl (by decide +kernel) ?_
    obtain ⟨r6, h5, hF⟩ := rd_at hF
    refine ww_cS2i 78 rfl 39 (by decide +kernel) mf_Model_begins k_Model_39 ⟨by decide, by decide⟩ ⟨rfl, rfl⟩ (Nat.le_of_ble_eq_true rfl) (C_Model_begins h5) ?_
    refine ww_iload_4 80 rfl (by decide +kernel) ?_
    refine ww_icmp_le 83 rfl (9) 89 (by decide +kernel) (by decide) (fun h => ?_) (fun h => ?_)
    · rw [if_pos h] at hF
      refine ww_iload_1 90 rfl (by decide +kernel) ?_
      refine ww_if_ne 93 rfl (22) 112 (by decide +kernel) (by decide) (fun h => ?_) (fun h => ?_)
      · rw [if_neg h] at hF
        refine ww_iload_2 113 rfl (by decide +kernel) ?_
        refine ww_if_ge 116 rfl (11) 124 (by decide +kernel) (by decide) (fun h => ?_) (fun h => ?_)
        · rw [if_pos h] at hF
          refine ww_sipush 127 rfl (255) (255 : Int32) (by decide +kernel) (by decide) ?_
          refine ww_iload_5 129 rfl (by decide +kernel) ?_
          refine ww_isub 130 rfl (by decide +kernel) ?_
          cases hF
          exact ww_iret (by decide +kernel) rfl
        · rw [if_neg h] at hF
          refine ww_bipush 118 rfl (127) (127 : Int32) (by decide +kernel) (by decide) ?_
          refine ww_iload_5 120 rfl (by decide +kernel) ?_
          refine ww_isub 121 rfl (by decide +kernel) ?_
          refine ww_goto (9) 130 (by decide +kernel) (by decide) ?_
          cases hF
          exact ww_iret (by decide +kernel) rfl
      · rw [if_pos h] at hF
        refine ww_iload_2 94 rfl (by decide +kernel) ?_
        refine ww_if_ge 97 rfl (8) 102 (by decide +kernel) (by decide) (fun h => ?_) (fun h => ?_)
        · rw [if_pos h] at hF
          refine ww_iload_5 104 rfl (by decide +kernel) ?_
          refine ww_sipush 107 rfl (128) (128 : Int32) (by decide +kernel) (by decide) ?_
          refine ww_iadd 108 rfl (by decide +kernel) ?_
          refine ww_bipush 110 rfl (85) (85 : Int32) (by decide +kernel) (by decide) ?_
          refine ww_ixor 111 rfl (by decide +kernel) ?_
          cases hF
          exact ww_iret (by decide +kernel) rfl
        · rw [if_neg h] at hF
          refine ww_iload_5 99 rfl (by decide +kernel) ?_
          refine ww_goto (9) 108 (by decide +kernel) (by decide) ?_
          refine ww_bipush 110 rfl (85) (85 : Int32) (by decide +kernel) (by decide) ?_
          refine ww_ixor 111 rfl (by decide +kernel) ?_
          cases hF
          exact ww_iret (by decide +kernel) rfl
    · rw [if_neg h] at hF
      refine ww_iinc_5 86 rfl (-1) (-1 : Int32) (by decide +kernel) (by decide) (by decide) ?_
      refine ww_goto (-14) 72 (by decide +kernel) (by decide) ?_
      exact ih hF
set_option maxHeartbeats 4000000 in
set_option maxRecDepth 100000 in
theorem B_Model_compress_28 {l : Launch} {ca : Nat → ClassId} {a : Nat → Nat} {m0 : Mem} {l1 : Int32} {l2 : Int32} {s0 : Int32} {z0 : Option Value} {z3 : Option Value} {z4 : Option Value} {z5 : Option Value} {r : Int32}  (hF : F_Model_compress_28 l1 l2 s0 = some r) : WW l b_Model_compress 6 (some .int) R_Model (RM 1 25) ca a (EM ca a (some (.int r)) m0) 28 [z0, some (.int l1), some (.int l2), z3, z4, z5] [.int s0] m0 := by
  unfold F_Model_compress_28 at hF
  refine ww_istore_3 29 rfl (by decide +kernel) (by decide) ?_
  refine ww_iload_1 30 rfl (by decide +kernel) ?_
  refine ww_if_ne 33 rfl (18) 48 (by decide +kernel) (by decide) (fun h => ?_) (fun h => ?_)
  · rw [if_neg h] at hF
    refine ww_iload_3 49 rfl (by decide +kernel) ?_
    refine ww_sipush 52 rfl (32635) (32635 : Int32) (by decide +kernel) (by decide) ?_
    refine ww_icmp_le 55 rfl (9) 61 (by decide +kernel) (by decide) (fun h => ?_) (fun h => ?_)
    · rw [if_pos h] at hF
      refine ww_iload_3 62 rfl (by decide +kernel) ?_
      refine ww_sipush 65 rfl (132) (132 : Int32) (by decide +kernel) (by decide) ?_
      refine ww_iadd 66 rfl (by decide +kernel) ?_
      refine ww_nmi (fun v3 ev3 => ?_)
      replace hF := bnd_at hF ev3
      refine ww_istore_4 68 rfl (by decide +kernel) (by decide) ?_
      refine ww_bipush 70 rfl (127) (127 : Int32) (by decide +kernel) (by decide) ?_
      refine ww_istore_5 72 rfl (by decide +kernel) (by decide) ?_
      exact B_Model_compress_72 _ hF
    · rw [if_neg h] at hF
      refine ww_sipush 58 rfl (32767) (32767 : Int32) (by decide +kernel) (by decide) ?_
      refine ww_goto (8) 66 (by decide +kernel) (by decide) ?_
      refine ww_istore_4 68 rfl (by decide +kernel) (by decide) ?_
      refine ww_bipush 70 rfl (127) (127 : Int32) (by decide +kernel) (by decide) ?_
      refine ww_istore_5 72 rfl (by decide +kernel) (by decide) ?_
      exact B_Model_compress_72 _ hF
  · rw [if_pos h] at hF
    refine ww_iload_2 34 rfl (by decide +kernel) ?_
    refine ww_if_ge 37 rfl (10) 44 (by decide +kernel) (by decide) (fun h => ?_) (fun h => ?_)
    · rw [if_pos h] at hF
      refine ww_iload_2 45 rfl (by decide +kernel) ?_
      refine ww_goto (21) 66 (by decide +kernel) (by decide) ?_
      refine ww_istore_4 68 rfl (by decide +kernel) (by decide) ?_
      refine ww_bipush 70 rfl (127) (127 : Int32) (by decide +kernel) (by decide) ?_
      refine ww_istore_5 72 rfl (by decide +kernel) (by decide) ?_
      exact B_Model_compress_72 _ hF
    · rw [if_neg h] at hF
      refine ww_iload_2 38 rfl (by decide +kernel) ?_
      refine ww_ineg 39 rfl (by decide +kernel) ?_
      refine ww_iconst 40 rfl (1) (1 : Int32) (by decide +kernel) (by decide) ?_
      refine ww_isub 41 rfl (by decide +kernel) ?_
      refine ww_goto (25) 66 (by decide +kernel) (by decide) ?_
      refine ww_nmi (fun v4 ev4 => ?_)
      replace hF := bnd_at hF ev4
      refine ww_istore_4 68 rfl (by decide +kernel) (by decide) ?_
      refine ww_bipush 70 rfl (127) (127 : Int32) (by decide +kernel) (by decide) ?_
      refine ww_istore_5 72 rfl (by decide +kernel) (by decide) ?_
      exact B_Model_compress_72 _ hF
set_option maxHeartbeats 4000000 in
set_option maxRecDepth 100000 in
theorem C_Model_compress {l : Launch} {ca : Nat → ClassId} {a : Nat → Nat} {m0 : Mem} {p1 : Int32} {p2 : Int32} {r : Int32}  (hF : F_Model_compress p1 p2 = some r) : CT l ca a y_Model_compress b_Model_compress 6 (some .int) (RM 1 25) [.ref (a 17), .int p1, .int p2] m0 (some (.int r)) m0 := by
  refine ct_of (own := R_Model) (lv := [some (.ref (a 17)), some (.int p1), some (.int p2), none, none, none]) (plainFor_of_name (by decide)) rfl (cat_ok rfl) (Nat.le_of_ble_eq_true rfl) rfl ?_
  unfold F_Model_compress at hF
  refine ww_iload_1 1 rfl (by decide +kernel) ?_
  refine ww_if_lt 4 rfl (15) 16 (by decide +kernel) (by decide) (fun h => ?_) (fun h => ?_)
  · rw [if_pos h] at hF
    refine ww_iconst 17 rfl (-1) (-1 : Int32) (by decide +kernel) (by decide) ?_
    cases hF
    exact ww_iret (by decide +kernel) rfl
  · rw [if_neg h] at hF
    refine ww_iload_1 5 rfl (by decide +kernel) ?_
    refine ww_iconst 6 rfl (1) (1 : Int32) (by decide +kernel) (by decide) ?_
    refine ww_icmp_gt 9 rfl (10) 16 (by decide +kernel) (by decide) (fun h => ?_) (fun h => ?_)
    · rw [if_pos h] at hF
      refine ww_iconst 17 rfl (-1) (-1 : Int32) (by decide +kernel) (by decide) ?_
      cases hF
      exact ww_iret (by decide +kernel) rfl
    · rw [if_neg h] at hF
      refine ww_iload_2 10 rfl (by decide +kernel) ?_
      obtain ⟨r2, h1, hF⟩ := rd_at hF
      refine ww_cS1i 13 rfl 35 (by decide +kernel) mf_Model_isSample k_Model_35 ⟨by decide, by decide⟩ ⟨rfl, rfl⟩ (Nat.le_of_ble_eq_true rfl) (C_Model_isSample h1) ?_
      refine ww_if_ne 16 rfl (5) 18 (by decide +kernel) (by decide) (fun h => ?_) (fun h => ?_)
      · rw [if_neg h] at hF
        refine ww_iload_2 19 rfl (by decide +kernel) ?_
        refine ww_if_ge 22 rfl (8) 27 (by decide +kernel) (by decide) (fun h => ?_) (fun h => ?_)
        · rw [if_pos h] at hF
          refine ww_iload_2 28 rfl (by decide +kernel) ?_
          exact B_Model_compress_28 hF
        · rw [if_neg h] at hF
          refine ww_iload_2 23 rfl (by decide +kernel) ?_
          refine ww_ineg 24 rfl (by decide +kernel) ?_
          refine ww_goto (4) 28 (by decide +kernel) (by decide) ?_
          exact B_Model_compress_28 hF
      · rw [if_pos h] at hF
        refine ww_iconst 17 rfl (-1) (-1 : Int32) (by decide +kernel) (by decide) ?_
        cases hF
        exact ww_iret (by decide +kernel) rfl
set_option maxHeartbeats 4000000 in
set_option maxRecDepth 100000 in
theorem B_Model_half_4 {l : Launch} {ca : Nat → ClassId} {a : Nat → Nat} {r : Int32} (n : Nat) : ∀ {m0 : Mem} {l0 : Int32} {l1 : Int32} {l2 : Int32} {l3 : Int32}   (hF : F_Model_half_4 n l0 l1 l2 l3 = some r), WW l b_Model_half 4 (some .int) R_Model (RM 0 0) ca a (EM ca a (some (.int r)) m0) 4 [some (.int l0), some (.int l1), some (.int l2), some (.int l3)] [] m0 := by
  induction n with
  | zero => intros; rename_i hF; rw [F_Model_half_4] at hF; cases hF
  | succ n ih =>
    intro m0 l0 l1 l2 l3   hF
    rw [F_Model_half_4] at hF
    refine ww_iload_3 5 rfl (by decide +kernel) ?_
    refine ww_iload_1 6 rfl (by decide +kernel) ?_
    refine ww_bipush 8 rfl (16) (16 : Int32) (by decide +kernel) (by decide) ?_
    refine ww_idiv 9 rfl (by decide +kernel) (by decide) ?_
    refine ww_icmp_ge 12 rfl (13) 22 (by decide +kernel) (by decide) (fun h => ?_) (fun h => ?_)
    · rw [if_pos h] at hF
      refine ww_iload_0 23 rfl (by decide +kernel) ?_
      refine ww_if_ne 26 rfl (14) 37 (by decide +kernel) (by decide) (fun h => ?_) (fun h => ?_)
      · rw [if_neg h] at hF
        refine ww_iload_2 38 rfl (by decide +kernel) ?_
        cases hF
        exact ww_iret (by decide +kernel) rfl
      · rw [if_pos h] at hF
        refine ww_iload_1 27 rfl (by decide +kernel) ?_
        refine ww_bipush 29 rfl (16) (16 : Int32) (by decide +kernel) (by decide) ?_
        refine ww_icmp_ge 32 rfl (8) 37 (by decide +kernel) (by decide) (fun h => ?_) (fun h => ?_)
        · rw [if_pos h] at hF
          refine ww_iload_2 38 rfl (by decide +kernel) ?_
          cases hF
          exact ww_iret (by decide +kernel) rfl
        · rw [if_neg h] at hF
          refine ww_bipush 34 rfl (8) (8 : Int32) (by decide +kernel) (by decide) ?_
          refine ww_goto (4) 38 (by decide +kernel) (by decide) ?_
          cases hF
          exact ww_iret (by decide +kernel) rfl
    · rw [if_neg h] at hF
      refine ww_iconst 13 rfl (2) (2 : Int32) (by decide +kernel) (by decide) ?_
      refine ww_iload_2 14 rfl (by decide +kernel) ?_
      refine ww_imul 15 rfl (by decide +kernel) ?_
      refine ww_nmi (fun v1 ev1 => ?_)
      replace hF := bnd_at hF ev1
      refine ww_istore_2 16 rfl (by decide +kernel) (by decide) ?_
      refine ww_iinc_3 19 rfl (1) (1 : Int32) (by decide +kernel) (by decide) (by decide) ?_
      refine ww_goto (-15) 4 (by decide +kernel) (by decide) ?_
      exact ih hF
set_option maxHeartbeats 4000000 in
set_option maxRecDepth 100000 in
theorem C_Model_half {l : Launch} {ca : Nat → ClassId} {a : Nat → Nat} {m0 : Mem} {p0 : Int32} {p1 : Int32} {r : Int32}  (hF : F_Model_half p0 p1 = some r) : CT l ca a y_Model_half b_Model_half 4 (some .int) (RM 0 0) [.int p0, .int p1] m0 (some (.int r)) m0 := by
  refine ct_of (own := R_Model) (lv := [some (.int p0), some (.int p1), none, none]) (plainFor_of_name (by decide)) rfl (cat_ok rfl) (Nat.le_of_ble_eq_true rfl) rfl ?_
  unfold F_Model_half at hF
  refine ww_iconst 1 rfl (4) (4 : Int32) (by decide +kernel) (by decide) ?_
  refine ww_istore_2 2 rfl (by decide +kernel) (by decide) ?_
  refine ww_iconst 3 rfl (0) (0 : Int32) (by decide +kernel) (by decide) ?_
  refine ww_istore_3 4 rfl (by decide +kernel) (by decide) ?_
  exact B_Model_half_4 _ hF
set_option maxHeartbeats 4000000 in
set_option maxRecDepth 100000 in
theorem B_Model_expand_115 {l : Launch} {ca : Nat → ClassId} {a : Nat → Nat} {m0 : Mem} {l4 : Int32} {s0 : Int32} {z0 : Option Value} {z1 : Option Value} {z2 : Option Value} {z3 : Option Value} {z5 : Option Value} {r : Int32}  (hF : F_Model_expand_115 l4 s0 = some r) : WW l b_Model_expand 6 (some .int) R_Model (RM 1 25) ca a (EM ca a (some (.int r)) m0) 115 [z0, z1, z2, z3, some (.int l4), z5] [.int s0] m0 := by
  unfold F_Model_expand_115 at hF
  refine ww_istore_5 117 rfl (by decide +kernel) (by decide) ?_
  refine ww_iload_5 119 rfl (by decide +kernel) ?_
  refine ww_if_eq 122 rfl (8) 127 (by decide +kernel) (by decide) (fun h => ?_) (fun h => ?_)
  · rw [if_pos h] at hF
    refine ww_iload_4 129 rfl (by decide +kernel) ?_
    refine ww_ineg 130 rfl (by decide +kernel) ?_
    cases hF
    exact ww_iret (by decide +kernel) rfl
  · rw [if_neg h] at hF
    refine ww_iload_4 124 rfl (by decide +kernel) ?_
    refine ww_goto (6) 130 (by decide +kernel) (by decide) ?_
    cases hF
    exact ww_iret (by decide +kernel) rfl
set_option maxHeartbeats 4000000 in
set_option maxRecDepth 100000 in
theorem B_Model_expand_80 {l : Launch} {ca : Nat → ClassId} {a : Nat → Nat} {m0 : Mem} {l1 : Int32} {l2 : Int32} {s0 : Int32} {s1 : Int32} {z0 : Option Value} {z3 : Option Value} {z4 : Option Value} {z5 : Option Value} {r : Int32}  (hF : F_Model_expand_80 l1 l2 s0 s1 = some r) : WW l b_Model_expand 6 (some .int) R_Model (RM 1 25) ca a (EM ca a (some (.int r)) m0) 80 [z0, some (.int l1), some (.int l2), z3, z4, z5] [.int s1, .int s0] m0 := by
  unfold F_Model_expand_80 at hF
  refine ww_isub 81 rfl (by decide +kernel) ?_
  refine ww_nmi (fun v5 ev5 => ?_)
  replace hF := bnd_at hF ev5
  refine ww_istore_4 83 rfl (by decide +kernel) (by decide) ?_
  refine ww_iload_1 84 rfl (by decide +kernel) ?_
  refine ww_if_ne 87 rfl (20) 104 (by decide +kernel) (by decide) (fun h => ?_) (fun h => ?_)
  · rw [if_neg h] at hF
    refine ww_iload_2 105 rfl (by decide +kernel) ?_
    refine ww_bipush 107 rfl (127) (127 : Int32) (by decide +kernel) (by decide) ?_
    refine ww_icmp_le 110 rfl (7) 114 (by decide +kernel) (by decide) (fun h => ?_) (fun h => ?_)
    · rw [if_pos h] at hF
      refine ww_iconst 115 rfl (0) (0 : Int32) (by decide +kernel) (by decide) ?_
      exact B_Model_expand_115 hF
    · rw [if_neg h] at hF
      refine ww_iconst 111 rfl (1) (1 : Int32) (by decide +kernel) (by decide) ?_
      refine ww_goto (4) 115 (by decide +kernel) (by decide) ?_
      exact B_Model_expand_115 hF
  · rw [if_pos h] at hF
    refine ww_iload_2 88 rfl (by decide +kernel) ?_
    refine ww_bipush 90 rfl (85) (85 : Int32) (by decide +kernel) (by decide) ?_
    refine ww_ixor 91 rfl (by decide +kernel) ?_
    refine ww_bipush 93 rfl (127) (127 : Int32) (by decide +kernel) (by decide) ?_
    refine ww_icmp_le 96 rfl (7) 100 (by decide +kernel) (by decide) (fun h => ?_) (fun h => ?_)
    · rw [if_pos h] at hF
      refine ww_iconst 101 rfl (0) (0 : Int32) (by decide +kernel) (by decide) ?_
      refine ww_goto (14) 115 (by decide +kernel) (by decide) ?_
      exact B_Model_expand_115 hF
    · rw [if_neg h] at hF
      refine ww_iconst 97 rfl (1) (1 : Int32) (by decide +kernel) (by decide) ?_
      refine ww_goto (18) 115 (by decide +kernel) (by decide) ?_
      exact B_Model_expand_115 hF
set_option maxHeartbeats 4000000 in
set_option maxRecDepth 100000 in
theorem B_Model_expand_57 {l : Launch} {ca : Nat → ClassId} {a : Nat → Nat} {m0 : Mem} {l1 : Int32} {l2 : Int32} {s0 : Int32} {z0 : Option Value} {z3 : Option Value} {z4 : Option Value} {z5 : Option Value} {r : Int32}  (hF : F_Model_expand_57 l1 l2 s0 = some r) : WW l b_Model_expand 6 (some .int) R_Model (RM 1 25) ca a (EM ca a (some (.int r)) m0) 57 [z0, some (.int l1), some (.int l2), z3, z4, z5] [.int s0] m0 := by
  unfold F_Model_expand_57 at hF
  refine ww_istore_3 58 rfl (by decide +kernel) (by decide) ?_
  refine ww_iload_1 59 rfl (by decide +kernel) ?_
  refine ww_iload_3 60 rfl (by decide +kernel) ?_
  obtain ⟨r2, h1, hF⟩ := rd_at hF
  refine ww_cS2i 63 rfl 39 (by decide +kernel) mf_Model_begins k_Model_39 ⟨by decide, by decide⟩ ⟨rfl, rfl⟩ (Nat.le_of_ble_eq_true rfl) (C_Model_begins h1) ?_
  refine ww_iload_1 64 rfl (by decide +kernel) ?_
  refine ww_iload_3 65 rfl (by decide +kernel) ?_
  obtain ⟨r4, h3, hF⟩ := rd_at hF
  refine ww_cS2i 68 rfl 44 (by decide +kernel) mf_Model_half k_Model_44 ⟨by decide, by decide⟩ ⟨rfl, rfl⟩ (Nat.le_of_ble_eq_true rfl) (C_Model_half h3) ?_
  refine ww_iadd 69 rfl (by decide +kernel) ?_
  refine ww_iload_1 70 rfl (by decide +kernel) ?_
  refine ww_if_ne 73 rfl (7) 77 (by decide +kernel) (by decide) (fun h => ?_) (fun h => ?_)
  · rw [if_neg h] at hF
    refine ww_sipush 80 rfl (132) (132 : Int32) (by decide +kernel) (by decide) ?_
    exact B_Model_expand_80 hF
  · rw [if_pos h] at hF
    refine ww_iconst 74 rfl (0) (0 : Int32) (by decide +kernel) (by decide) ?_
    refine ww_goto (6) 80 (by decide +kernel) (by decide) ?_
    exact B_Model_expand_80 hF
set_option maxHeartbeats 4000000 in
set_option maxRecDepth 100000 in
theorem C_Model_expand {l : Launch} {ca : Nat → ClassId} {a : Nat → Nat} {m0 : Mem} {p1 : Int32} {p2 : Int32} {r : Int32}  (hF : F_Model_expand p1 p2 = some r) : CT l ca a y_Model_expand b_Model_expand 6 (some .int) (RM 1 25) [.ref (a 17), .int p1, .int p2] m0 (some (.int r)) m0 := by
  refine ct_of (own := R_Model) (lv := [some (.ref (a 17)), some (.int p1), some (.int p2), none, none, none]) (plainFor_of_name (by decide)) rfl (cat_ok rfl) (Nat.le_of_ble_eq_true rfl) rfl ?_
  unfold F_Model_expand at hF
  refine ww_iload_1 1 rfl (by decide +kernel) ?_
  refine ww_if_lt 4 rfl (19) 20 (by decide +kernel) (by decide) (fun h => ?_) (fun h => ?_)
  · rw [if_pos h] at hF
    refine ww_ldc 22 rfl 43 (40000 : Int32) (by decide +kernel) k_Model_43 ?_
    cases hF
    exact ww_iret (by decide +kernel) rfl
  · rw [if_neg h] at hF
    refine ww_iload_1 5 rfl (by decide +kernel) ?_
    refine ww_iconst 6 rfl (1) (1 : Int32) (by decide +kernel) (by decide) ?_
    refine ww_icmp_gt 9 rfl (14) 20 (by decide +kernel) (by decide) (fun h => ?_) (fun h => ?_)
    · rw [if_pos h] at hF
      refine ww_ldc 22 rfl 43 (40000 : Int32) (by decide +kernel) k_Model_43 ?_
      cases hF
      exact ww_iret (by decide +kernel) rfl
    · rw [if_neg h] at hF
      refine ww_iload_2 10 rfl (by decide +kernel) ?_
      refine ww_if_lt 13 rfl (10) 20 (by decide +kernel) (by decide) (fun h => ?_) (fun h => ?_)
      · rw [if_pos h] at hF
        refine ww_ldc 22 rfl 43 (40000 : Int32) (by decide +kernel) k_Model_43 ?_
        cases hF
        exact ww_iret (by decide +kernel) rfl
      · rw [if_neg h] at hF
        refine ww_iload_2 14 rfl (by decide +kernel) ?_
        refine ww_sipush 17 rfl (255) (255 : Int32) (by decide +kernel) (by decide) ?_
        refine ww_icmp_le 20 rfl (6) 23 (by decide +kernel) (by decide) (fun h => ?_) (fun h => ?_)
        · rw [if_pos h] at hF
          refine ww_iload_1 24 rfl (by decide +kernel) ?_
          refine ww_if_ne 27 rfl (14) 38 (by decide +kernel) (by decide) (fun h => ?_) (fun h => ?_)
          · rw [if_neg h] at hF
            refine ww_iload_2 39 rfl (by decide +kernel) ?_
            refine ww_sipush 42 rfl (128) (128 : Int32) (by decide +kernel) (by decide) ?_
            refine ww_icmp_ge 45 rfl (10) 52 (by decide +kernel) (by decide) (fun h => ?_) (fun h => ?_)
            · rw [if_pos h] at hF
              refine ww_sipush 55 rfl (255) (255 : Int32) (by decide +kernel) (by decide) ?_
              refine ww_iload_2 56 rfl (by decide +kernel) ?_
              refine ww_isub 57 rfl (by decide +kernel) ?_
              exact B_Model_expand_57 hF
            · rw [if_neg h] at hF
              refine ww_bipush 47 rfl (127) (127 : Int32) (by decide +kernel) (by decide) ?_
              refine ww_iload_2 48 rfl (by decide +kernel) ?_
              refine ww_isub 49 rfl (by decide +kernel) ?_
              refine ww_goto (8) 57 (by decide +kernel) (by decide) ?_
              exact B_Model_expand_57 hF
          · rw [if_pos h] at hF
            refine ww_iload_2 28 rfl (by decide +kernel) ?_
            refine ww_bipush 30 rfl (85) (85 : Int32) (by decide +kernel) (by decide) ?_
            refine ww_ixor 31 rfl (by decide +kernel) ?_
            refine ww_sipush 34 rfl (128) (128 : Int32) (by decide +kernel) (by decide) ?_
            refine ww_irem 35 rfl (by decide +kernel) (by decide) ?_
            refine ww_goto (22) 57 (by decide +kernel) (by decide) ?_
            exact B_Model_expand_57 hF
        · rw [if_neg h] at hF
          refine ww_ldc 22 rfl 43 (40000 : Int32) (by decide +kernel) k_Model_43 ?_
          cases hF
          exact ww_iret (by decide +kernel) rfl
