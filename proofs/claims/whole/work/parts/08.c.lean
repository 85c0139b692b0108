set_option maxHeartbeats 4000000 in
set_option maxRecDepth 100000 in
theorem C_Packet_addHead {l : Launch} {ca : Nat → ClassId} {a : Nat → Nat} {m0 : Mem} {t : Nat} {p1 : Int32} {p2 : Int32} {m9 : Mem} (ht : kd t = 3) (hF : F_Packet_addHead m0 t p1 p2 = some m9) : CT l ca a y_Packet_addHead b_Packet_addHead 3 none (RM 1 21) [.ref (a t), .int p1, .int p2] m0 none m9 := by
  refine ct_of (own := R_Packet) (lv := [some (.ref (a t)), some (.int p1), some (.int p2)]) (plainFor_of_name (by decide)) rfl (cat_ok rfl) (Nat.le_of_ble_eq_true rfl) rfl ?_
  unfold F_Packet_addHead at hF
  refine ww_aload_0 1 rfl (by decide +kernel) ?_
  refine ww_sipush 4 rfl (128) (128 : Int32) (by decide +kernel) (by decide) ?_
  obtain ⟨m2, h1, hF⟩ := rd_at hF
  refine ww_cV1v 7 rfl 3 29 (by decide +kernel) mf_Packet_addByte k_Packet_29 ht (by decide) rfl ⟨by decide, by decide⟩ ⟨rfl, rfl⟩ (Nat.le_of_ble_eq_true rfl) (C_Packet_addByte ht h1) ?_
  refine ww_aload_0 8 rfl (by decide +kernel) ?_
  refine ww_gTY 11 rfl 36 (by decide +kernel) k_Packet_36 ?_
  refine ww_iload_1 12 rfl (by decide +kernel) ?_
  refine ww_iconst 13 rfl (3) (3 : Int32) (by decide +kernel) (by decide) ?_
  refine ww_iand 14 rfl (by decide +kernel) ?_
  obtain ⟨g3, hF⟩ := gd_at hF
  refine ww_tTY 15 rfl (by decide +kernel) g3 ?_
  refine ww_iload_2 16 rfl (by decide +kernel) ?_
  refine ww_if_eq 19 rfl (9) 25 (by decide +kernel) (by decide) (fun h => ?_) (fun h => ?_)
  · rw [if_pos h] at hF
    refine ww_iconst 26 rfl (0) (0 : Int32) (by decide +kernel) (by decide) ?_
    refine ww_iadd 27 rfl (by decide +kernel) ?_
    obtain ⟨m5, h4, hF⟩ := rd_at hF
    refine ww_cV1v 30 rfl 3 29 (by decide +kernel) mf_Packet_addByte k_Packet_29 ht (by decide) rfl ⟨by decide, by decide⟩ ⟨rfl, rfl⟩ (Nat.le_of_ble_eq_true rfl) (C_Packet_addByte ht h4) ?_
    cases hF
    exact ww_vret (by decide +kernel) rfl
  · rw [if_neg h] at hF
    refine ww_sipush 22 rfl (128) (128 : Int32) (by decide +kernel) (by decide) ?_
    refine ww_goto (4) 26 (by decide +kernel) (by decide) ?_
    refine ww_iadd 27 rfl (by decide +kernel) ?_
    obtain ⟨m7, h6, hF⟩ := rd_at hF
    refine ww_cV1v 30 rfl 3 29 (by decide +kernel) mf_Packet_addByte k_Packet_29 ht (by decide) rfl ⟨by decide, by decide⟩ ⟨rfl, rfl⟩ (Nat.le_of_ble_eq_true rfl) (C_Packet_addByte ht h6) ?_
    cases hF
    exact ww_vret (by decide +kernel) rfl
set_option maxHeartbeats 4000000 in
set_option maxRecDepth 100000 in
theorem C_Packet_addPair {l : Launch} {ca : Nat → ClassId} {a : Nat → Nat} {m0 : Mem} {t : Nat} {p1 : Int32} {m9 : Mem} (ht : kd t = 3) (hF : F_Packet_addPair m0 t p1 = some m9) : CT l ca a y_Packet_addPair b_Packet_addPair 2 none (RM 1 21) [.ref (a t), .int p1] m0 none m9 := by
  refine ct_of (own := R_Packet) (lv := [some (.ref (a t)), some (.int p1)]) (plainFor_of_name (by decide)) rfl (cat_ok rfl) (Nat.le_of_ble_eq_true rfl) rfl ?_
  unfold F_Packet_addPair at hF
  refine ww_aload_0 1 rfl (by decide +kernel) ?_
  refine ww_iload_1 2 rfl (by decide +kernel) ?_
  refine ww_bipush 4 rfl (8) (8 : Int32) (by decide +kernel) (by decide) ?_
  refine ww_ishr 5 rfl (by decide +kernel) ?_
  obtain ⟨m2, h1, hF⟩ := rd_at hF
  refine ww_cV1v 8 rfl 3 29 (by decide +kernel) mf_Packet_addByte k_Packet_29 ht (by decide) rfl ⟨by decide, by decide⟩ ⟨rfl, rfl⟩ (Nat.le_of_ble_eq_true rfl) (C_Packet_addByte ht h1) ?_
  refine ww_aload_0 9 rfl (by decide +kernel) ?_
  refine ww_iload_1 10 rfl (by decide +kernel) ?_
  obtain ⟨m4, h3, hF⟩ := rd_at hF
  refine ww_cV1v 13 rfl 3 29 (by decide +kernel) mf_Packet_addByte k_Packet_29 ht (by decide) rfl ⟨by decide, by decide⟩ ⟨rfl, rfl⟩ (Nat.le_of_ble_eq_true rfl) (C_Packet_addByte ht h3) ?_
  cases hF
  exact ww_vret (by decide +kernel) rfl
set_option maxHeartbeats 4000000 in
set_option maxRecDepth 100000 in
theorem C_Packet_addFour {l : Launch} {ca : Nat → ClassId} {a : Nat → Nat} {m0 : Mem} {t : Nat} {p1 : Int32} {m9 : Mem} (ht : kd t = 3) (hF : F_Packet_addFour m0 t p1 = some m9) : CT l ca a y_Packet_addFour b_Packet_addFour 2 none (RM 2 42) [.ref (a t), .int p1] m0 none m9 := by
  refine ct_of (own := R_Packet) (lv := [some (.ref (a t)), some (.int p1)]) (plainFor_of_name (by decide)) rfl (cat_ok rfl) (Nat.le_of_ble_eq_true rfl) rfl ?_
  unfold F_Packet_addFour at hF
  refine ww_aload_0 1 rfl (by decide +kernel) ?_
  refine ww_iload_1 2 rfl (by decide +kernel) ?_
  refine ww_bipush 4 rfl (16) (16 : Int32) (by decide +kernel) (by decide) ?_
  refine ww_ishr 5 rfl (by decide +kernel) ?_
  obtain ⟨m2, h1, hF⟩ := rd_at hF
  refine ww_cV1v 8 rfl 3 33 (by decide +kernel) mf_Packet_addPair k_Packet_33 ht (by decide) rfl ⟨by decide, by decide⟩ ⟨rfl, rfl⟩ (Nat.le_of_ble_eq_true rfl) (C_Packet_addPair ht h1) ?_
  refine ww_aload_0 9 rfl (by decide +kernel) ?_
  refine ww_iload_1 10 rfl (by decide +kernel) ?_
  obtain ⟨m4, h3, hF⟩ := rd_at hF
  refine ww_cV1v 13 rfl 3 33 (by decide +kernel) mf_Packet_addPair k_Packet_33 ht (by decide) rfl ⟨by decide, by decide⟩ ⟨rfl, rfl⟩ (Nat.le_of_ble_eq_true rfl) (C_Packet_addPair ht h3) ?_
  cases hF
  exact ww_vret (by decide +kernel) rfl
set_option maxHeartbeats 4000000 in
set_option maxRecDepth 100000 in
theorem C_Adaptive_value {l : Launch} {ca : Nat → ClassId} {a : Nat → Nat} {m0 : Mem} {t : Nat} {r : Int32} (ht : kd t = 1) (hF : F_Adaptive_value m0 t = some r) : CT l ca a y_Adaptive_value b_Adaptive_value 1 (some .int) (RM 0 0) [.ref (a t)] m0 (some (.int r)) m0 := by
  refine ct_of (own := R_Adaptive) (lv := [some (.ref (a t))]) (plainFor_of_name (by decide)) rfl (cat_ok rfl) (Nat.le_of_ble_eq_true rfl) rfl ?_
  unfold F_Adaptive_value at hF
  refine ww_aload_0 1 rfl (by decide +kernel) ?_
  refine ww_geti 4 rfl 1 0 9 (by decide +kernel) ht k_Adaptive_9 (by decide) (by decide) rfl rfl ?_
  cases hF
  exact ww_iret (by decide +kernel) rfl
set_option maxHeartbeats 4000000 in
set_option maxRecDepth 100000 in
theorem C_Adaptive_index {l : Launch} {ca : Nat → ClassId} {a : Nat → Nat} {m0 : Mem} {t : Nat} {r : Int32} (ht : kd t = 1) (hF : F_Adaptive_index m0 t = some r) : CT l ca a y_Adaptive_index b_Adaptive_index 1 (some .int) (RM 0 0) [.ref (a t)] m0 (some (.int r)) m0 := by
  refine ct_of (own := R_Adaptive) (lv := [some (.ref (a t))]) (plainFor_of_name (by decide)) rfl (cat_ok rfl) (Nat.le_of_ble_eq_true rfl) rfl ?_
  unfold F_Adaptive_index at hF
  refine ww_aload_0 1 rfl (by decide +kernel) ?_
  refine ww_geti 4 rfl 1 1 15 (by decide +kernel) ht k_Adaptive_15 (by decide) (by decide) rfl rfl ?_
  cases hF
  exact ww_iret (by decide +kernel) rfl
set_option maxHeartbeats 4000000 in
set_option maxRecDepth 100000 in
theorem C_Samples_get {l : Launch} {ca : Nat → ClassId} {a : Nat → Nat} {m0 : Mem} {t : Nat} {p1 : Int32} {r : Int32} (ht : kd t = 5) (hF : F_Samples_get m0 t p1 = some r) : CT l ca a y_Samples_get b_Samples_get 2 (some .int) (RM 0 0) [.ref (a t), .int p1] m0 (some (.int r)) m0 := by
  refine ct_of (own := R_Samples) (lv := [some (.ref (a t)), some (.int p1)]) (plainFor_of_name (by decide)) rfl (cat_ok rfl) (Nat.le_of_ble_eq_true rfl) rfl ?_
  unfold F_Samples_get at hF
  refine ww_iload_1 1 rfl (by decide +kernel) ?_
  refine ww_if_lt 4 rfl (20) 21 (by decide +kernel) (by decide) (fun h => ?_) (fun h => ?_)
  · rw [if_pos h] at hF
    refine ww_ldc 23 rfl 19 (40000 : Int32) (by decide +kernel) k_Samples_19 ?_
    cases hF
    exact ww_iret (by decide +kernel) rfl
  · rw [if_neg h] at hF
    refine ww_iload_1 5 rfl (by decide +kernel) ?_
    refine ww_aload_0 6 rfl (by decide +kernel) ?_
    refine ww_geti 9 rfl 5 1 15 (by decide +kernel) ht k_Samples_15 (by decide) (by decide) rfl rfl ?_
    refine ww_icmp_ge 12 rfl (12) 21 (by decide +kernel) (by decide) (fun h => ?_) (fun h => ?_)
    · rw [if_pos h] at hF
      refine ww_ldc 23 rfl 19 (40000 : Int32) (by decide +kernel) k_Samples_19 ?_
      cases hF
      exact ww_iret (by decide +kernel) rfl
    · rw [if_neg h] at hF
      refine ww_aload_0 13 rfl (by decide +kernel) ?_
      refine ww_getr 16 rfl 5 0 9 (t + 1) (by decide +kernel) ht k_Samples_9 (by decide) (by decide) rfl rfl (by omega) ?_
      refine ww_iload_1 17 rfl (by decide +kernel) ?_
      obtain ⟨g1, hF⟩ := gd_at hF
      refine ww_iald 18 rfl (by decide +kernel) (kd_row ht) g1 ?_
      refine ww_goto (5) 23 (by decide +kernel) (by decide) ?_
      cases hF
      exact ww_iret (by decide +kernel) rfl
set_option maxHeartbeats 4000000 in
set_option maxRecDepth 100000 in
theorem B_Adaptive_codeOf_74 {l : Launch} {ca : Nat → ClassId} {a : Nat → Nat} {m0 : Mem} {l2 : Int32} {l4 : Int32} {l5 : Int32} {z0 : Option Value} {z1 : Option Value} {z3 : Option Value} {r : Int32}  (hF : F_Adaptive_codeOf_74 m0 l2 l4 l5 = some r) : WW l b_Adaptive_codeOf 6 (some .int) R_Adaptive (RM 0 0) ca a (EM ca a (some (.int r)) m0) 74 [z0, z1, some (.int l2), z3, some (.int l4), some (.int l5)] [] m0 := by
  unfold F_Adaptive_codeOf_74 at hF
  refine ww_iload_5 76 rfl (by decide +kernel) ?_
  refine ww_iload_2 77 rfl (by decide +kernel) ?_
  refine ww_iconst 78 rfl (4) (4 : Int32) (by decide +kernel) (by decide) ?_
  refine ww_idiv 79 rfl (by decide +kernel) (by decide) ?_
  refine ww_icmp_lt 82 rfl (6) 85 (by decide +kernel) (by decide) (fun h => ?_) (fun h => ?_)
  · rw [if_pos h] at hF
    refine ww_iload_4 87 rfl (by decide +kernel) ?_
    cases hF
    exact ww_iret (by decide +kernel) rfl
  · rw [if_neg h] at hF
    refine ww_iinc_4 85 rfl (1) (1 : Int32) (by decide +kernel) (by decide) (by decide) ?_
    refine ww_iload_4 87 rfl (by decide +kernel) ?_
    cases hF
    exact ww_iret (by decide +kernel) rfl
set_option maxHeartbeats 4000000 in
set_option maxRecDepth 100000 in
theorem B_Adaptive_codeOf_55 {l : Launch} {ca : Nat → ClassId} {a : Nat → Nat} {m0 : Mem} {l2 : Int32} {l4 : Int32} {l5 : Int32} {z0 : Option Value} {z1 : Option Value} {z3 : Option Value} {r : Int32}  (hF : F_Adaptive_codeOf_55 m0 l2 l4 l5 = some r) : WW l b_Adaptive_codeOf 6 (some .int) R_Adaptive (RM 0 0) ca a (EM ca a (some (.int r)) m0) 55 [z0, z1, some (.int l2), z3, some (.int l4), some (.int l5)] [] m0 := by
  unfold F_Adaptive_codeOf_55 at hF
  refine ww_iload_5 57 rfl (by decide +kernel) ?_
  refine ww_iload_2 58 rfl (by decide +kernel) ?_
  refine ww_iconst 59 rfl (2) (2 : Int32) (by decide +kernel) (by decide) ?_
  refine ww_idiv 60 rfl (by decide +kernel) (by decide) ?_
  refine ww_icmp_lt 63 rfl (14) 74 (by decide +kernel) (by decide) (fun h => ?_) (fun h => ?_)
  · rw [if_pos h] at hF
    exact B_Adaptive_codeOf_74 hF
  · rw [if_neg h] at hF
    refine ww_iinc_4 66 rfl (2) (2 : Int32) (by decide +kernel) (by decide) (by decide) ?_
    refine ww_iload_5 68 rfl (by decide +kernel) ?_
    refine ww_iload_2 69 rfl (by decide +kernel) ?_
    refine ww_iconst 70 rfl (2) (2 : Int32) (by decide +kernel) (by decide) ?_
    refine ww_idiv 71 rfl (by decide +kernel) (by decide) ?_
    refine ww_isub 72 rfl (by decide +kernel) ?_
    refine ww_nmi (fun v5 ev5 => ?_)
    replace hF := bnd_at hF ev5
    refine ww_istore_5 74 rfl (by decide +kernel) (by decide) ?_
    exact B_Adaptive_codeOf_74 hF
set_option maxHeartbeats 4000000 in
set_option maxRecDepth 100000 in
theorem B_Adaptive_codeOf_38 {l : Launch} {ca : Nat → ClassId} {a : Nat → Nat} {m0 : Mem} {l2 : Int32} {l4 : Int32} {s0 : Int32} {z0 : Option Value} {z1 : Option Value} {z3 : Option Value} {z5 : Option Value} {r : Int32}  (hF : F_Adaptive_codeOf_38 m0 l2 l4 s0 = some r) : WW l b_Adaptive_codeOf 6 (some .int) R_Adaptive (RM 0 0) ca a (EM ca a (some (.int r)) m0) 38 [z0, z1, some (.int l2), z3, some (.int l4), z5] [.int s0] m0 := by
  unfold F_Adaptive_codeOf_38 at hF
  refine ww_istore_5 40 rfl (by decide +kernel) (by decide) ?_
  refine ww_iload_5 42 rfl (by decide +kernel) ?_
  refine ww_iload_2 43 rfl (by decide +kernel) ?_
  refine ww_icmp_lt 46 rfl (12) 55 (by decide +kernel) (by decide) (fun h => ?_) (fun h => ?_)
  · rw [if_pos h] at hF
    exact B_Adaptive_codeOf_55 hF
  · rw [if_neg h] at hF
    refine ww_iinc_4 49 rfl (4) (4 : Int32) (by decide +kernel) (by decide) (by decide) ?_
    refine ww_iload_5 51 rfl (by decide +kernel) ?_
    refine ww_iload_2 52 rfl (by decide +kernel) ?_
    refine ww_isub 53 rfl (by decide +kernel) ?_
    refine ww_nmi (fun v4 ev4 => ?_)
    replace hF := bnd_at hF ev4
    refine ww_istore_5 55 rfl (by decide +kernel) (by decide) ?_
    exact B_Adaptive_codeOf_55 hF
set_option maxHeartbeats 4000000 in
set_option maxRecDepth 100000 in
theorem B_Adaptive_codeOf_26 {l : Launch} {ca : Nat → ClassId} {a : Nat → Nat} {m0 : Mem} {l2 : Int32} {l3 : Int32} {s0 : Int32} {z0 : Option Value} {z1 : Option Value} {z4 : Option Value} {z5 : Option Value} {r : Int32}  (hF : F_Adaptive_codeOf_26 m0 l2 l3 s0 = some r) : WW l b_Adaptive_codeOf 6 (some .int) R_Adaptive (RM 0 0) ca a (EM ca a (some (.int r)) m0) 26 [z0, z1, some (.int l2), some (.int l3), z4, z5] [.int s0] m0 := by
  unfold F_Adaptive_codeOf_26 at hF
  refine ww_istore_4 28 rfl (by decide +kernel) (by decide) ?_
  refine ww_iload_3 29 rfl (by decide +kernel) ?_
  refine ww_if_ge 32 rfl (8) 37 (by decide +kernel) (by decide) (fun h => ?_) (fun h => ?_)
  · rw [if_pos h] at hF
    refine ww_iload_3 38 rfl (by decide +kernel) ?_
    exact B_Adaptive_codeOf_38 hF
  · rw [if_neg h] at hF
    refine ww_iload_3 33 rfl (by decide +kernel) ?_
    refine ww_ineg 34 rfl (by decide +kernel) ?_
    refine ww_goto (4) 38 (by decide +kernel) (by decide) ?_
    exact B_Adaptive_codeOf_38 hF
set_option maxHeartbeats 4000000 in
set_option maxRecDepth 100000 in
theorem C_Adaptive_codeOf {l : Launch} {ca : Nat → ClassId} {a : Nat → Nat} {m0 : Mem} {t : Nat} {p1 : Int32} {r : Int32} (ht : kd t = 1) (hF : F_Adaptive_codeOf m0 t p1 = some r) : CT l ca a y_Adaptive_codeOf b_Adaptive_codeOf 6 (some .int) (RM 0 0) [.ref (a t), .int p1] m0 (some (.int r)) m0 := by
  refine ct_of (own := R_Adaptive) (lv := [some (.ref (a t)), some (.int p1), none, none, none, none]) (plainFor_of_name (by decide)) rfl (cat_ok rfl) (Nat.le_of_ble_eq_true rfl) rfl ?_
  unfold F_Adaptive_codeOf at hF
  refine ww_gST 3 rfl 30 (by decide +kernel) k_Adaptive_30 ?_
  refine ww_aload_0 4 rfl (by decide +kernel) ?_
  refine ww_geti 7 rfl 1 1 15 (by decide +kernel) ht k_Adaptive_15 (by decide) (by decide) rfl rfl ?_
  obtain ⟨g1, hF⟩ := gd_at hF
  refine ww_tST 8 rfl (by decide +kernel) g1 ?_
  refine ww_nmi (fun v2 ev2 => ?_)
  replace hF := bnd_at hF ev2
  refine ww_istore_2 9 rfl (by decide +kernel) (by decide) ?_
  refine ww_iload_1 10 rfl (by decide +kernel) ?_
  refine ww_aload_0 11 rfl (by decide +kernel) ?_
  refine ww_geti 14 rfl 1 0 9 (by decide +kernel) ht k_Adaptive_9 (by decide) (by decide) rfl rfl ?_
  refine ww_isub 15 rfl (by decide +kernel) ?_
  refine ww_nmi (fun v3 ev3 => ?_)
  replace hF := bnd_at hF ev3
  refine ww_istore_3 16 rfl (by decide +kernel) (by decide) ?_
  refine ww_iload_3 17 rfl (by decide +kernel) ?_
  refine ww_if_ge 20 rfl (8) 25 (by decide +kernel) (by decide) (fun h => ?_) (fun h => ?_)
  · rw [if_pos h] at hF
    refine ww_iconst 26 rfl (0) (0 : Int32) (by decide +kernel) (by decide) ?_
    exact B_Adaptive_codeOf_26 hF
  · rw [if_neg h] at hF
    refine ww_bipush 22 rfl (8) (8 : Int32) (by decide +kernel) (by decide) ?_
    refine ww_goto (4) 26 (by decide +kernel) (by decide) ?_
    exact B_Adaptive_codeOf_26 hF
set_option maxHeartbeats 4000000 in
set_option maxRecDepth 100000 in
theorem C_Adaptive_within {l : Launch} {ca : Nat → ClassId} {a : Nat → Nat} {m0 : Mem} {p0 : Int32} {p1 : Int32} {p2 : Int32} {r : Int32}  (hF : F_Adaptive_within p0 p1 p2 = some r) : CT l ca a y_Adaptive_within b_Adaptive_within 3 (some .int) (RM 0 0) [.int p0, .int p1, .int p2] m0 (some (.int r)) m0 := by
  refine ct_of (own := R_Adaptive) (lv := [some (.int p0), some (.int p1), some (.int p2)]) (plainFor_of_name (by decide)) rfl (cat_ok rfl) (Nat.le_of_ble_eq_true rfl) rfl ?_
  unfold F_Adaptive_within at hF
  refine ww_iload_0 1 rfl (by decide +kernel) ?_
  refine ww_iload_1 2 rfl (by decide +kernel) ?_
  refine ww_icmp_ge 5 rfl (7) 9 (by decide +kernel) (by decide) (fun h => ?_) (fun h => ?_)
  · rw [if_pos h] at hF
    refine ww_iload_0 10 rfl (by decide +kernel) ?_
    refine ww_iload_2 11 rfl (by decide +kernel) ?_
    refine ww_icmp_le 14 rfl (7) 18 (by decide +kernel) (by decide) (fun h => ?_) (fun h => ?_)
    · rw [if_pos h] at hF
      refine ww_iload_0 19 rfl (by decide +kernel) ?_
      cases hF
      exact ww_iret (by decide +kernel) rfl
    · rw [if_neg h] at hF
      refine ww_iload_2 15 rfl (by decide +kernel) ?_
      refine ww_goto (4) 19 (by decide +kernel) (by decide) ?_
      cases hF
      exact ww_iret (by decide +kernel) rfl
  · rw [if_neg h] at hF
    refine ww_iload_1 6 rfl (by decide +kernel) ?_
    refine ww_goto (13) 19 (by decide +kernel) (by decide) ?_
    cases hF
    exact ww_iret (by decide +kernel) rfl
set_option maxHeartbeats 4000000 in
set_option maxRecDepth 100000 in
theorem B_Adaptive_changeBy_90 {l : Launch} {ca : Nat → ClassId} {a : Nat → Nat} {m0 : Mem} {l0 : Nat} {l4 : Int32} {s0 : Nat} {s1 : Int32} {z1 : Option Value} {z2 : Option Value} {z3 : Option Value} {m9 : Mem} (hl0 : kd l0 = 1) (hs0 : kd s0 = 1) (hF : F_Adaptive_changeBy_90 m0 l0 l4 s0 s1 = some m9) : WW l b_Adaptive_changeBy 5 none R_Adaptive (RM 1 22) ca a (EM ca a none m9) 90 [some (.ref (a l0)), z1, z2, z3, some (.int l4)] [.int s1, .ref (a s0)] m0 := by
  unfold F_Adaptive_changeBy_90 at hF
  refine ww_sipush 93 rfl (-32768) (-32768 : Int32) (by decide +kernel) (by decide) ?_
  refine ww_sipush 96 rfl (32767) (32767 : Int32) (by decide +kernel) (by decide) ?_
  obtain ⟨r8, h7, hF⟩ := rd_at hF
  refine ww_cS3i 99 rfl 18 (by decide +kernel) mf_Adaptive_within k_Adaptive_18 ⟨by decide, by decide⟩ ⟨rfl, rfl⟩ (Nat.le_of_ble_eq_true rfl) (C_Adaptive_within h7) ?_
  refine ww_put 102 rfl 1 0 9 (by decide +kernel) hs0 k_Adaptive_9 (by decide) (by decide) rfl rfl rfl rfl rfl rfl ?_
  refine ww_nmm (fun m9 em9 => ?_)
  replace hF := bnd_at hF em9
  refine ww_aload_0 103 rfl (by decide +kernel) ?_
  refine ww_aload_0 104 rfl (by decide +kernel) ?_
  refine ww_geti 107 rfl 1 1 15 (by decide +kernel) hl0 k_Adaptive_15 (by decide) (by decide) rfl rfl ?_
  refine ww_iload_4 109 rfl (by decide +kernel) ?_
  refine ww_iadd 110 rfl (by decide +kernel) ?_
  refine ww_iconst 111 rfl (0) (0 : Int32) (by decide +kernel) (by decide) ?_
  refine ww_bipush 113 rfl (88) (88 : Int32) (by decide +kernel) (by decide) ?_
  obtain ⟨r11, h10, hF⟩ := rd_at hF
  refine ww_cS3i 116 rfl 18 (by decide +kernel) mf_Adaptive_within k_Adaptive_18 ⟨by decide, by decide⟩ ⟨rfl, rfl⟩ (Nat.le_of_ble_eq_true rfl) (C_Adaptive_within h10) ?_
  refine ww_put 119 rfl 1 1 15 (by decide +kernel) hl0 k_Adaptive_15 (by decide) (by decide) rfl rfl rfl rfl rfl rfl ?_
  refine ww_nmm (fun m12 em12 => ?_)
  replace hF := bnd_at hF em12
  cases hF
  exact ww_vret (by decide +kernel) rfl
set_option maxHeartbeats 4000000 in
set_option maxRecDepth 100000 in
theorem B_Adaptive_changeBy_65 {l : Launch} {ca : Nat → ClassId} {a : Nat → Nat} {m0 : Mem} {l0 : Nat} {l1 : Int32} {l3 : Int32} {s0 : Int32} {z2 : Option Value} {z4 : Option Value} {m9 : Mem} (hl0 : kd l0 = 1) (hF : F_Adaptive_changeBy_65 m0 l0 l1 l3 s0 = some m9) : WW l b_Adaptive_changeBy 5 none R_Adaptive (RM 1 22) ca a (EM ca a none m9) 65 [some (.ref (a l0)), some (.int l1), z2, some (.int l3), z4] [.int s0] m0 := by
  unfold F_Adaptive_changeBy_65 at hF
  refine ww_istore_4 67 rfl (by decide +kernel) (by decide) ?_
  refine ww_aload_0 68 rfl (by decide +kernel) ?_
  refine ww_iload_1 69 rfl (by decide +kernel) ?_
  refine ww_bipush 71 rfl (8) (8 : Int32) (by decide +kernel) (by decide) ?_
  refine ww_iand 72 rfl (by decide +kernel) ?_
  refine ww_if_eq 75 rfl (12) 84 (by decide +kernel) (by decide) (fun h => ?_) (fun h => ?_)
  · rw [if_pos h] at hF
    refine ww_aload_0 85 rfl (by decide +kernel) ?_
    refine ww_geti 88 rfl 1 0 9 (by decide +kernel) hl0 k_Adaptive_9 (by decide) (by decide) rfl rfl ?_
    refine ww_iload_3 89 rfl (by decide +kernel) ?_
    refine ww_iadd 90 rfl (by decide +kernel) ?_
    exact B_Adaptive_changeBy_90 hl0 hl0 hF
  · rw [if_neg h] at hF
    refine ww_aload_0 76 rfl (by decide +kernel) ?_
    refine ww_geti 79 rfl 1 0 9 (by decide +kernel) hl0 k_Adaptive_9 (by decide) (by decide) rfl rfl ?_
    refine ww_iload_3 80 rfl (by decide +kernel) ?_
    refine ww_isub 81 rfl (by decide +kernel) ?_
    refine ww_goto (9) 90 (by decide +kernel) (by decide) ?_
    exact B_Adaptive_changeBy_90 hl0 hl0 hF
set_option maxHeartbeats 4000000 in
set_option maxRecDepth 100000 in
theorem B_Adaptive_changeBy_48 {l : Launch} {ca : Nat → ClassId} {a : Nat → Nat} {m0 : Mem} {l0 : Nat} {l1 : Int32} {l3 : Int32} {z2 : Option Value} {z4 : Option Value} {m9 : Mem} (hl0 : kd l0 = 1) (hF : F_Adaptive_changeBy_48 m0 l0 l1 l3 = some m9) : WW l b_Adaptive_changeBy 5 none R_Adaptive (RM 1 22) ca a (EM ca a none m9) 48 [some (.ref (a l0)), some (.int l1), z2, some (.int l3), z4] [] m0 := by
  unfold F_Adaptive_changeBy_48 at hF
  refine ww_iload_1 49 rfl (by decide +kernel) ?_
  refine ww_iconst 50 rfl (4) (4 : Int32) (by decide +kernel) (by decide) ?_
  refine ww_iand 51 rfl (by decide +kernel) ?_
  refine ww_if_eq 54 rfl (13) 64 (by decide +kernel) (by decide) (fun h => ?_) (fun h => ?_)
  · rw [if_pos h] at hF
    refine ww_iconst 65 rfl (-1) (-1 : Int32) (by decide +kernel) (by decide) ?_
    exact B_Adaptive_changeBy_65 hl0 hF
  · rw [if_neg h] at hF
    refine ww_iconst 55 rfl (2) (2 : Int32) (by decide +kernel) (by decide) ?_
    refine ww_iconst 56 rfl (2) (2 : Int32) (by decide +kernel) (by decide) ?_
    refine ww_iload_1 57 rfl (by decide +kernel) ?_
    refine ww_iconst 58 rfl (3) (3 : Int32) (by decide +kernel) (by decide) ?_
    refine ww_iand 59 rfl (by decide +kernel) ?_
    refine ww_imul 60 rfl (by decide +kernel) ?_
    refine ww_iadd 61 rfl (by decide +kernel) ?_
    refine ww_goto (4) 65 (by decide +kernel) (by decide) ?_
    exact B_Adaptive_changeBy_65 hl0 hF
set_option maxHeartbeats 4000000 in
set_option maxRecDepth 100000 in
theorem B_Adaptive_changeBy_36 {l : Launch} {ca : Nat → ClassId} {a : Nat → Nat} {m0 : Mem} {l0 : Nat} {l1 : Int32} {l2 : Int32} {l3 : Int32} {z4 : Option Value} {m9 : Mem} (hl0 : kd l0 = 1) (hF : F_Adaptive_changeBy_36 m0 l0 l1 l2 l3 = some m9) : WW l b_Adaptive_changeBy 5 none R_Adaptive (RM 1 22) ca a (EM ca a none m9) 36 [some (.ref (a l0)), some (.int l1), some (.int l2), some (.int l3), z4] [] m0 := by
  unfold F_Adaptive_changeBy_36 at hF
  refine ww_iload_1 37 rfl (by decide +kernel) ?_
  refine ww_iconst 38 rfl (1) (1 : Int32) (by decide +kernel) (by decide) ?_
  refine ww_iand 39 rfl (by decide +kernel) ?_
  refine ww_if_eq 42 rfl (9) 48 (by decide +kernel) (by decide) (fun h => ?_) (fun h => ?_)
  · rw [if_pos h] at hF
    exact B_Adaptive_changeBy_48 hl0 hF
  · rw [if_neg h] at hF
    refine ww_iload_3 43 rfl (by decide +kernel) ?_
    refine ww_iload_2 44 rfl (by decide +kernel) ?_
    refine ww_iconst 45 rfl (4) (4 : Int32) (by decide +kernel) (by decide) ?_
    refine ww_idiv 46 rfl (by decide +kernel) (by decide) ?_
    refine ww_iadd 47 rfl (by decide +kernel) ?_
    refine ww_nmi (fun v6 ev6 => ?_)
    replace hF := bnd_at hF ev6
    refine ww_istore_3 48 rfl (by decide +kernel) (by decide) ?_
    exact B_Adaptive_changeBy_48 hl0 hF
set_option maxHeartbeats 4000000 in
set_option maxRecDepth 100000 in
theorem B_Adaptive_changeBy_24 {l : Launch} {ca : Nat → ClassId} {a : Nat → Nat} {m0 : Mem} {l0 : Nat} {l1 : Int32} {l2 : Int32} {l3 : Int32} {z4 : Option Value} {m9 : Mem} (hl0 : kd l0 = 1) (hF : F_Adaptive_changeBy_24 m0 l0 l1 l2 l3 = some m9) : WW l b_Adaptive_changeBy 5 none R_Adaptive (RM 1 22) ca a (EM ca a none m9) 24 [some (.ref (a l0)), some (.int l1), some (.int l2), some (.int l3), z4] [] m0 := by
  unfold F_Adaptive_changeBy_24 at hF
  refine ww_iload_1 25 rfl (by decide +kernel) ?_
  refine ww_iconst 26 rfl (2) (2 : Int32) (by decide +kernel) (by decide) ?_
  refine ww_iand 27 rfl (by decide +kernel) ?_
  refine ww_if_eq 30 rfl (9) 36 (by decide +kernel) (by decide) (fun h => ?_) (fun h => ?_)
  · rw [if_pos h] at hF
    exact B_Adaptive_changeBy_36 hl0 hF
  · rw [if_neg h] at hF
    refine ww_iload_3 31 rfl (by decide +kernel) ?_
    refine ww_iload_2 32 rfl (by decide +kernel) ?_
    refine ww_iconst 33 rfl (2) (2 : Int32) (by decide +kernel) (by decide) ?_
    refine ww_idiv 34 rfl (by decide +kernel) (by decide) ?_
    refine ww_iadd 35 rfl (by decide +kernel) ?_
    refine ww_nmi (fun v5 ev5 => ?_)
    replace hF := bnd_at hF ev5
    refine ww_istore_3 36 rfl (by decide +kernel) (by decide) ?_
    exact B_Adaptive_changeBy_36 hl0 hF
set_option maxHeartbeats 4000000 in
set_option maxRecDepth 100000 in
theorem C_Adaptive_changeBy {l : Launch} {ca : Nat → ClassId} {a : Nat → Nat} {m0 : Mem} {t : Nat} {p1 : Int32} {m9 : Mem} (ht : kd t = 1) (hF : F_Adaptive_changeBy m0 t p1 = some m9) : CT l ca a y_Adaptive_changeBy b_Adaptive_changeBy 5 none (RM 1 22) [.ref (a t), .int p1] m0 none m9 := by
  refine ct_of (own := R_Adaptive) (lv := [some (.ref (a t)), some (.int p1), none, none, none]) (plainFor_of_name (by decide)) rfl (cat_ok rfl) (Nat.le_of_ble_eq_true rfl) rfl ?_
  unfold F_Adaptive_changeBy at hF
  refine ww_gST 3 rfl 30 (by decide +kernel) k_Adaptive_30 ?_
  refine ww_aload_0 4 rfl (by decide +kernel) ?_
  refine ww_geti 7 rfl 1 1 15 (by decide +kernel) ht k_Adaptive_15 (by decide) (by decide) rfl rfl ?_
  obtain ⟨g1, hF⟩ := gd_at hF
  refine ww_tST 8 rfl (by decide +kernel) g1 ?_
  refine ww_nmi (fun v2 ev2 => ?_)
  replace hF := bnd_at hF ev2
  refine ww_istore_2 9 rfl (by decide +kernel) (by decide) ?_
  refine ww_iload_2 10 rfl (by decide +kernel) ?_
  refine ww_bipush 12 rfl (8) (8 : Int32) (by decide +kernel) (by decide) ?_
  refine ww_idiv 13 rfl (by decide +kernel) (by decide) ?_
  refine ww_nmi (fun v3 ev3 => ?_)
  replace hF := bnd_at hF ev3
  refine ww_istore_3 14 rfl (by decide +kernel) (by decide) ?_
  refine ww_iload_1 15 rfl (by decide +kernel) ?_
  refine ww_iconst 16 rfl (4) (4 : Int32) (by decide +kernel) (by decide) ?_
  refine ww_iand 17 rfl (by decide +kernel) ?_
  refine ww_if_eq 20 rfl (7) 24 (by decide +kernel) (by decide) (fun h => ?_) (fun h => ?_)
  · rw [if_pos h] at hF
    exact B_Adaptive_changeBy_24 ht hF
  · rw [if_neg h] at hF
    refine ww_iload_3 21 rfl (by decide +kernel) ?_
    refine ww_iload_2 22 rfl (by decide +kernel) ?_
    refine ww_iadd 23 rfl (by decide +kernel) ?_
    refine ww_nmi (fun v4 ev4 => ?_)
    replace hF := bnd_at hF ev4
    refine ww_istore_3 24 rfl (by decide +kernel) (by decide) ?_
    exact B_Adaptive_changeBy_24 ht hF
