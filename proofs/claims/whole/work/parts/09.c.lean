set_option maxHeartbeats 4000000 in
set_option maxRecDepth 100000 in
theorem C_Adaptive_codeAndChange {l : Launch} {ca : Nat → ClassId} {a : Nat → Nat} {m0 : Mem} {t : Nat} {p1 : Int32} {r : Int32} {m9 : Mem} (ht : kd t = 1) (hF : F_Adaptive_codeAndChange m0 t p1 = some (r, m9)) : CT l ca a y_Adaptive_codeAndChange b_Adaptive_codeAndChange 3 (some .int) (RM 2 46) [.ref (a t), .int p1] m0 (some (.int r)) m9 := by
  refine ct_of (own := R_Adaptive) (lv := [some (.ref (a t)), some (.int p1), none]) (plainFor_of_name (by decide)) rfl (cat_ok rfl) (Nat.le_of_ble_eq_true rfl) rfl ?_
  unfold F_Adaptive_codeAndChange at hF
  refine ww_aload_0 1 rfl (by decide +kernel) ?_
  refine ww_iload_1 2 rfl (by decide +kernel) ?_
  obtain ⟨r2, h1, hF⟩ := rd_at hF
  refine ww_cV1i 5 rfl 1 22 (by decide +kernel) mf_Adaptive_codeOf k_Adaptive_22 ht (by decide) rfl ⟨by decide, by decide⟩ ⟨rfl, rfl⟩ (Nat.le_of_ble_eq_true rfl) (C_Adaptive_codeOf ht h1) ?_
  refine ww_istore_2 6 rfl (by decide +kernel) (by decide) ?_
  refine ww_aload_0 7 rfl (by decide +kernel) ?_
  refine ww_iload_2 8 rfl (by decide +kernel) ?_
  obtain ⟨m4, h3, hF⟩ := rd_at hF
  refine ww_cV1v 11 rfl 1 26 (by decide +kernel) mf_Adaptive_changeBy k_Adaptive_26 ht (by decide) rfl ⟨by decide, by decide⟩ ⟨rfl, rfl⟩ (Nat.le_of_ble_eq_true rfl) (C_Adaptive_changeBy ht h3) ?_
  refine ww_iload_2 12 rfl (by decide +kernel) ?_
  cases hF
  exact ww_iret (by decide +kernel) rfl
set_option maxHeartbeats 4000000 in
set_option maxRecDepth 100000 in
theorem B_Sender_packAdaptive_30 {l : Launch} {ca : Nat → ClassId} {a : Nat → Nat} {m9 : Mem} (n : Nat) : ∀ {m0 : Mem} {l1 : Nat} {l2 : Nat} {l3 : Int32} {l4 : Int32} {z5 : Option Value} {z6 : Option Value} (hl1 : kd l1 = 3) (hl2 : kd l2 = 5) (hF : F_Sender_packAdaptive_30 n m0 l1 l2 l3 l4 = some m9), WW l b_Sender_packAdaptive 7 none R_Sender (RM 3 68) ca a (EM ca a none m9) 30 [some (.ref (a 9)), some (.ref (a l1)), some (.ref (a l2)), some (.int l3), some (.int l4), z5, z6] [] m0 := by
  induction n with
  | zero => intros; rename_i hF; rw [F_Sender_packAdaptive_30] at hF; cases hF
  | succ n ih =>
    intro m0 l1 l2 l3 l4 z5 z6 hl1 hl2 hF
    rw [F_Sender_packAdaptive_30] at hF
    refine ww_iload_4 32 rfl (by decide +kernel) ?_
    refine ww_iconst 33 rfl (1) (1 : Int32) (by decide +kernel) (by decide) ?_
    refine ww_iadd 34 rfl (by decide +kernel) ?_
    refine ww_iload_3 35 rfl (by decide +kernel) ?_
    refine ww_icmp_ge 38 rfl (53) 88 (by decide +kernel) (by decide) (fun h => ?_) (fun h => ?_)
    · rw [if_pos h] at hF
      cases hF
      exact ww_vret (by decide +kernel) rfl
    · rw [if_neg h] at hF
      refine ww_aload_0 39 rfl (by decide +kernel) ?_
      refine ww_getr 42 rfl 6 3 24 10 (by decide +kernel) rfl k_Sender_24 (by decide) (by decide) rfl rfl (by omega) ?_
      refine ww_aload_2 43 rfl (by decide +kernel) ?_
      refine ww_iload_4 45 rfl (by decide +kernel) ?_
      obtain ⟨r12, h11, hF⟩ := rd_at hF
      refine ww_cV1i 48 rfl 5 60 (by decide +kernel) mf_Samples_get k_Sender_60 hl2 (by decide) rfl ⟨by decide, by decide⟩ ⟨rfl, rfl⟩ (Nat.le_of_ble_eq_true rfl) (C_Samples_get hl2 h11) ?_
      obtain ⟨r14, m15, h13, hF⟩ := cal_at hF
      refine ww_cV1i 51 rfl 1 74 (by decide +kernel) mf_Adaptive_codeAndChange k_Sender_74 rfl (by decide) rfl ⟨by decide, by decide⟩ ⟨rfl, rfl⟩ (Nat.le_of_ble_eq_true rfl) (C_Adaptive_codeAndChange rfl h13) ?_
      refine ww_istore_5 53 rfl (by decide +kernel) (by decide) ?_
      refine ww_aload_0 54 rfl (by decide +kernel) ?_
      refine ww_getr 57 rfl 6 3 24 10 (by decide +kernel) rfl k_Sender_24 (by decide) (by decide) rfl rfl (by omega) ?_
      refine ww_aload_2 58 rfl (by decide +kernel) ?_
      refine ww_iload_4 60 rfl (by decide +kernel) ?_
      refine ww_iconst 61 rfl (1) (1 : Int32) (by decide +kernel) (by decide) ?_
      refine ww_iadd 62 rfl (by decide +kernel) ?_
      obtain ⟨r17, h16, hF⟩ := rd_at hF
      refine ww_cV1i 65 rfl 5 60 (by decide +kernel) mf_Samples_get k_Sender_60 hl2 (by decide) rfl ⟨by decide, by decide⟩ ⟨rfl, rfl⟩ (Nat.le_of_ble_eq_true rfl) (C_Samples_get hl2 h16) ?_
      obtain ⟨r19, m20, h18, hF⟩ := cal_at hF
      refine ww_cV1i 68 rfl 1 74 (by decide +kernel) mf_Adaptive_codeAndChange k_Sender_74 rfl (by decide) rfl ⟨by decide, by decide⟩ ⟨rfl, rfl⟩ (Nat.le_of_ble_eq_true rfl) (C_Adaptive_codeAndChange rfl h18) ?_
      refine ww_istore_6 70 rfl (by decide +kernel) (by decide) ?_
      refine ww_aload_1 71 rfl (by decide +kernel) ?_
      refine ww_bipush 73 rfl (16) (16 : Int32) (by decide +kernel) (by decide) ?_
      refine ww_iload_5 75 rfl (by decide +kernel) ?_
      refine ww_imul 76 rfl (by decide +kernel) ?_
      refine ww_iload_6 78 rfl (by decide +kernel) ?_
      refine ww_iadd 79 rfl (by decide +kernel) ?_
      obtain ⟨m22, h21, hF⟩ := rd_at hF
      refine ww_cV1v 82 rfl 3 71 (by decide +kernel) mf_Packet_addByte k_Sender_71 hl1 (by decide) rfl ⟨by decide, by decide⟩ ⟨rfl, rfl⟩ (Nat.le_of_ble_eq_true rfl) (C_Packet_addByte hl1 h21) ?_
      refine ww_iinc_4 85 rfl (2) (2 : Int32) (by decide +kernel) (by decide) (by decide) ?_
      refine ww_goto (-55) 30 (by decide +kernel) (by decide) ?_
      exact ih hl1 hl2 hF
set_option maxHeartbeats 4000000 in
set_option maxRecDepth 100000 in
theorem C_Sender_packAdaptive {l : Launch} {ca : Nat → ClassId} {a : Nat → Nat} {m0 : Mem} {p1 : Nat} {p2 : Nat} {p3 : Int32} {m9 : Mem} (hp1 : kd p1 = 3) (hp2 : kd p2 = 5) (hF : F_Sender_packAdaptive m0 p1 p2 p3 = some m9) : CT l ca a y_Sender_packAdaptive b_Sender_packAdaptive 7 none (RM 3 68) [.ref (a 9), .ref (a p1), .ref (a p2), .int p3] m0 none m9 := by
  refine ct_of (own := R_Sender) (lv := [some (.ref (a 9)), some (.ref (a p1)), some (.ref (a p2)), some (.int p3), none, none, none]) (plainFor_of_name (by decide)) rfl (cat_ok rfl) (Nat.le_of_ble_eq_true rfl) rfl ?_
  unfold F_Sender_packAdaptive at hF
  refine ww_aload_1 1 rfl (by decide +kernel) ?_
  refine ww_aload_0 2 rfl (by decide +kernel) ?_
  refine ww_getr 5 rfl 6 3 24 10 (by decide +kernel) rfl k_Sender_24 (by decide) (by decide) rfl rfl (by omega) ?_
  obtain ⟨r2, h1, hF⟩ := rd_at hF
  refine ww_cV0i 8 rfl 1 28 (by decide +kernel) mf_Adaptive_value k_Sender_28 rfl (by decide) rfl ⟨by decide, by decide⟩ ⟨rfl, rfl⟩ (Nat.le_of_ble_eq_true rfl) (C_Adaptive_value rfl h1) ?_
  obtain ⟨m4, h3, hF⟩ := rd_at hF
  refine ww_cV1v 11 rfl 3 41 (by decide +kernel) mf_Packet_addPair k_Sender_41 hp1 (by decide) rfl ⟨by decide, by decide⟩ ⟨rfl, rfl⟩ (Nat.le_of_ble_eq_true rfl) (C_Packet_addPair hp1 h3) ?_
  refine ww_aload_1 12 rfl (by decide +kernel) ?_
  refine ww_aload_0 13 rfl (by decide +kernel) ?_
  refine ww_getr 16 rfl 6 3 24 10 (by decide +kernel) rfl k_Sender_24 (by decide) (by decide) rfl rfl (by omega) ?_
  obtain ⟨r6, h5, hF⟩ := rd_at hF
  refine ww_cV0i 19 rfl 1 32 (by decide +kernel) mf_Adaptive_index k_Sender_32 rfl (by decide) rfl ⟨by decide, by decide⟩ ⟨rfl, rfl⟩ (Nat.le_of_ble_eq_true rfl) (C_Adaptive_index rfl h5) ?_
  obtain ⟨m8, h7, hF⟩ := rd_at hF
  refine ww_cV1v 22 rfl 3 71 (by decide +kernel) mf_Packet_addByte k_Sender_71 hp1 (by decide) rfl ⟨by decide, by decide⟩ ⟨rfl, rfl⟩ (Nat.le_of_ble_eq_true rfl) (C_Packet_addByte hp1 h7) ?_
  refine ww_aload_1 23 rfl (by decide +kernel) ?_
  refine ww_iconst 24 rfl (0) (0 : Int32) (by decide +kernel) (by decide) ?_
  obtain ⟨m10, h9, hF⟩ := rd_at hF
  refine ww_cV1v 27 rfl 3 71 (by decide +kernel) mf_Packet_addByte k_Sender_71 hp1 (by decide) rfl ⟨by decide, by decide⟩ ⟨rfl, rfl⟩ (Nat.le_of_ble_eq_true rfl) (C_Packet_addByte hp1 h9) ?_
  refine ww_iconst 28 rfl (0) (0 : Int32) (by decide +kernel) (by decide) ?_
  refine ww_istore_4 30 rfl (by decide +kernel) (by decide) ?_
  exact B_Sender_packAdaptive_30 _ hp1 hp2 hF
set_option maxHeartbeats 4000000 in
set_option maxRecDepth 100000 in
theorem B_Sender_packPlain_3 {l : Launch} {ca : Nat → ClassId} {a : Nat → Nat} {m9 : Mem} (n : Nat) : ∀ {m0 : Mem} {l0 : Nat} {l1 : Int32} {l2 : Nat} {l3 : Int32} {l4 : Int32} {z5 : Option Value} (hl0 : kd l0 = 3) (hl2 : kd l2 = 5) (hF : F_Sender_packPlain_3 n m0 l0 l1 l2 l3 l4 = some m9), WW l b_Sender_packPlain 6 none R_Sender (RM 3 67) ca a (EM ca a none m9) 3 [some (.ref (a l0)), some (.int l1), some (.ref (a l2)), some (.int l3), some (.int l4), z5] [] m0 := by
  induction n with
  | zero => intros; rename_i hF; rw [F_Sender_packPlain_3] at hF; cases hF
  | succ n ih =>
    intro m0 l0 l1 l2 l3 l4 z5 hl0 hl2 hF
    rw [F_Sender_packPlain_3] at hF
    refine ww_iload_4 5 rfl (by decide +kernel) ?_
    refine ww_iload_3 6 rfl (by decide +kernel) ?_
    refine ww_icmp_ge 9 rfl (41) 47 (by decide +kernel) (by decide) (fun h => ?_) (fun h => ?_)
    · rw [if_pos h] at hF
      cases hF
      exact ww_vret (by decide +kernel) rfl
    · rw [if_neg h] at hF
      refine ww_aload_2 10 rfl (by decide +kernel) ?_
      refine ww_iload_4 12 rfl (by decide +kernel) ?_
      obtain ⟨r2, h1, hF⟩ := rd_at hF
      refine ww_cV1i 15 rfl 5 60 (by decide +kernel) mf_Samples_get k_Sender_60 hl2 (by decide) rfl ⟨by decide, by decide⟩ ⟨rfl, rfl⟩ (Nat.le_of_ble_eq_true rfl) (C_Samples_get hl2 h1) ?_
      refine ww_istore_5 17 rfl (by decide +kernel) (by decide) ?_
      refine ww_iload_1 18 rfl (by decide +kernel) ?_
      refine ww_iconst 19 rfl (3) (3 : Int32) (by decide +kernel) (by decide) ?_
      refine ww_icmp_ne 22 rfl (12) 31 (by decide +kernel) (by decide) (fun h => ?_) (fun h => ?_)
      · rw [if_neg h] at hF
        refine ww_aload_0 32 rfl (by decide +kernel) ?_
        refine ww_iload_1 33 rfl (by decide +kernel) ?_
        refine ww_iload_5 35 rfl (by decide +kernel) ?_
        obtain ⟨r4, h3, hF⟩ := rd_at hF
        refine ww_cS2i 38 rfl 65 (by decide +kernel) mf_Intervals_codeOf k_Sender_65 ⟨by decide, by decide⟩ ⟨rfl, rfl⟩ (Nat.le_of_ble_eq_true rfl) (C_Intervals_codeOf h3) ?_
        obtain ⟨m6, h5, hF⟩ := rd_at hF
        refine ww_cV1v 41 rfl 3 71 (by decide +kernel) mf_Packet_addByte k_Sender_71 hl0 (by decide) rfl ⟨by decide, by decide⟩ ⟨rfl, rfl⟩ (Nat.le_of_ble_eq_true rfl) (C_Packet_addByte hl0 h5) ?_
        refine ww_iinc_4 44 rfl (1) (1 : Int32) (by decide +kernel) (by decide) (by decide) ?_
        refine ww_goto (-41) 3 (by decide +kernel) (by decide) ?_
        exact ih hl0 hl2 hF
      · rw [if_pos h] at hF
        refine ww_aload_0 23 rfl (by decide +kernel) ?_
        refine ww_iload_5 25 rfl (by decide +kernel) ?_
        obtain ⟨m8, h7, hF⟩ := rd_at hF
        refine ww_cV1v 28 rfl 3 41 (by decide +kernel) mf_Packet_addPair k_Sender_41 hl0 (by decide) rfl ⟨by decide, by decide⟩ ⟨rfl, rfl⟩ (Nat.le_of_ble_eq_true rfl) (C_Packet_addPair hl0 h7) ?_
        refine ww_goto (13) 41 (by decide +kernel) (by decide) ?_
        refine ww_iinc_4 44 rfl (1) (1 : Int32) (by decide +kernel) (by decide) (by decide) ?_
        refine ww_goto (-41) 3 (by decide +kernel) (by decide) ?_
        exact ih hl0 hl2 hF
set_option maxHeartbeats 4000000 in
set_option maxRecDepth 100000 in
theorem C_Sender_packPlain {l : Launch} {ca : Nat → ClassId} {a : Nat → Nat} {m0 : Mem} {p0 : Nat} {p1 : Int32} {p2 : Nat} {p3 : Int32} {m9 : Mem} (hp0 : kd p0 = 3) (hp2 : kd p2 = 5) (hF : F_Sender_packPlain m0 p0 p1 p2 p3 = some m9) : CT l ca a y_Sender_packPlain b_Sender_packPlain 6 none (RM 3 67) [.ref (a p0), .int p1, .ref (a p2), .int p3] m0 none m9 := by
  refine ct_of (own := R_Sender) (lv := [some (.ref (a p0)), some (.int p1), some (.ref (a p2)), some (.int p3), none, none]) (plainFor_of_name (by decide)) rfl (cat_ok rfl) (Nat.le_of_ble_eq_true rfl) rfl ?_
  unfold F_Sender_packPlain at hF
  refine ww_iconst 1 rfl (0) (0 : Int32) (by decide +kernel) (by decide) ?_
  refine ww_istore_4 3 rfl (by decide +kernel) (by decide) ?_
  exact B_Sender_packPlain_3 _ hp0 hp2 hF
set_option maxHeartbeats 4000000 in
set_option maxRecDepth 100000 in
theorem C_Gate_sequenceAfter {l : Launch} {ca : Nat → ClassId} {a : Nat → Nat} {m0 : Mem} {p0 : Int32} {r : Int32}  (hF : F_Gate_sequenceAfter p0 = some r) : CT l ca a y_Gate_sequenceAfter b_Gate_sequenceAfter 1 (some .int) (RM 0 0) [.int p0] m0 (some (.int r)) m0 := by
  refine ct_of (own := R_Gate) (lv := [some (.int p0)]) (plainFor_of_name (by decide)) rfl (cat_ok rfl) (Nat.le_of_ble_eq_true rfl) rfl ?_
  unfold F_Gate_sequenceAfter at hF
  refine ww_iload_0 1 rfl (by decide +kernel) ?_
  refine ww_iconst 2 rfl (1) (1 : Int32) (by decide +kernel) (by decide) ?_
  refine ww_iadd 3 rfl (by decide +kernel) ?_
  refine ww_ldc 5 rfl 75 (65536 : Int32) (by decide +kernel) k_Gate_75 ?_
  refine ww_irem 6 rfl (by decide +kernel) (by decide) ?_
  cases hF
  exact ww_iret (by decide +kernel) rfl
set_option maxHeartbeats 4000000 in
set_option maxRecDepth 100000 in
theorem B_Sender_pack_56 {l : Launch} {ca : Nat → ClassId} {a : Nat → Nat} {m0 : Mem} {l5 : Int32} {z1 : Option Value} {z2 : Option Value} {z3 : Option Value} {z4 : Option Value} {m9 : Mem}  (hF : F_Sender_pack_56 m0 l5 = some m9) : WW l b_Sender_pack 6 none R_Sender (RM 4 94) ca a (EM ca a none m9) 56 [some (.ref (a 9)), z1, z2, z3, z4, some (.int l5)] [] m0 := by
  unfold F_Sender_pack_56 at hF
  refine ww_aload_0 57 rfl (by decide +kernel) ?_
  refine ww_aload_0 58 rfl (by decide +kernel) ?_
  refine ww_geti 61 rfl 6 0 9 (by decide +kernel) rfl k_Sender_9 (by decide) (by decide) rfl rfl ?_
  obtain ⟨r14, h13, hF⟩ := rd_at hF
  refine ww_cN1i 64 rfl 56 (by decide +kernel) mf_Gate_sequenceAfter (fun _ _ _ h => h.2.2.1) ⟨by decide, by decide⟩ ⟨rfl, rfl⟩ (Nat.le_of_ble_eq_true rfl) (C_Gate_sequenceAfter h13) ?_
  refine ww_put 67 rfl 6 0 9 (by decide +kernel) rfl k_Sender_9 (by decide) (by decide) rfl rfl rfl rfl rfl rfl ?_
  refine ww_nmm (fun m15 em15 => ?_)
  replace hF := bnd_at hF em15
  refine ww_aload_0 68 rfl (by decide +kernel) ?_
  refine ww_dup 69 rfl (by decide +kernel) rfl ?_
  refine ww_geti 72 rfl 6 1 15 (by decide +kernel) rfl k_Sender_15 (by decide) (by decide) rfl rfl ?_
  refine ww_iload_5 74 rfl (by decide +kernel) ?_
  refine ww_iadd 75 rfl (by decide +kernel) ?_
  refine ww_put 78 rfl 6 1 15 (by decide +kernel) rfl k_Sender_15 (by decide) (by decide) rfl rfl rfl rfl rfl rfl ?_
  refine ww_nmm (fun m16 em16 => ?_)
  replace hF := bnd_at hF em16
  cases hF
  exact ww_vret (by decide +kernel) rfl
set_option maxHeartbeats 4000000 in
set_option maxRecDepth 100000 in
theorem C_Sender_pack {l : Launch} {ca : Nat → ClassId} {a : Nat → Nat} {m0 : Mem} {p1 : Nat} {p2 : Int32} {p3 : Int32} {p4 : Nat} {p5 : Int32} {m9 : Mem} (hp1 : kd p1 = 3) (hp4 : kd p4 = 5) (hF : F_Sender_pack m0 p1 p2 p3 p4 p5 = some m9) : CT l ca a y_Sender_pack b_Sender_pack 6 none (RM 4 94) [.ref (a 9), .ref (a p1), .int p2, .int p3, .ref (a p4), .int p5] m0 none m9 := by
  refine ct_of (own := R_Sender) (lv := [some (.ref (a 9)), some (.ref (a p1)), some (.int p2), some (.int p3), some (.ref (a p4)), some (.int p5)]) (plainFor_of_name (by decide)) rfl (cat_ok rfl) (Nat.le_of_ble_eq_true rfl) rfl ?_
  unfold F_Sender_pack at hF
  refine ww_aload_1 1 rfl (by decide +kernel) ?_
  refine ww_iload_2 2 rfl (by decide +kernel) ?_
  refine ww_iload_3 3 rfl (by decide +kernel) ?_
  obtain ⟨m2, h1, hF⟩ := rd_at hF
  refine ww_cV2v 6 rfl 3 35 (by decide +kernel) mf_Packet_addHead k_Sender_35 hp1 (by decide) rfl ⟨by decide, by decide⟩ ⟨rfl, rfl⟩ (Nat.le_of_ble_eq_true rfl) (C_Packet_addHead hp1 h1) ?_
  refine ww_aload_1 7 rfl (by decide +kernel) ?_
  refine ww_aload_0 8 rfl (by decide +kernel) ?_
  refine ww_geti 11 rfl 6 0 9 (by decide +kernel) rfl k_Sender_9 (by decide) (by decide) rfl rfl ?_
  obtain ⟨m4, h3, hF⟩ := rd_at hF
  refine ww_cV1v 14 rfl 3 41 (by decide +kernel) mf_Packet_addPair k_Sender_41 hp1 (by decide) rfl ⟨by decide, by decide⟩ ⟨rfl, rfl⟩ (Nat.le_of_ble_eq_true rfl) (C_Packet_addPair hp1 h3) ?_
  refine ww_aload_1 15 rfl (by decide +kernel) ?_
  refine ww_aload_0 16 rfl (by decide +kernel) ?_
  refine ww_geti 19 rfl 6 1 15 (by decide +kernel) rfl k_Sender_15 (by decide) (by decide) rfl rfl ?_
  obtain ⟨m6, h5, hF⟩ := rd_at hF
  refine ww_cV1v 22 rfl 3 45 (by decide +kernel) mf_Packet_addFour k_Sender_45 hp1 (by decide) rfl ⟨by decide, by decide⟩ ⟨rfl, rfl⟩ (Nat.le_of_ble_eq_true rfl) (C_Packet_addFour hp1 h5) ?_
  refine ww_aload_1 23 rfl (by decide +kernel) ?_
  refine ww_aload_0 24 rfl (by decide +kernel) ?_
  refine ww_geti 27 rfl 6 2 18 (by decide +kernel) rfl k_Sender_18 (by decide) (by decide) rfl rfl ?_
  obtain ⟨m8, h7, hF⟩ := rd_at hF
  refine ww_cV1v 30 rfl 3 45 (by decide +kernel) mf_Packet_addFour k_Sender_45 hp1 (by decide) rfl ⟨by decide, by decide⟩ ⟨rfl, rfl⟩ (Nat.le_of_ble_eq_true rfl) (C_Packet_addFour hp1 h7) ?_
  refine ww_iload_2 31 rfl (by decide +kernel) ?_
  refine ww_iconst 32 rfl (2) (2 : Int32) (by decide +kernel) (by decide) ?_
  refine ww_icmp_ne 35 rfl (15) 47 (by decide +kernel) (by decide) (fun h => ?_) (fun h => ?_)
  · rw [if_neg h] at hF
    refine ww_aload_1 48 rfl (by decide +kernel) ?_
    refine ww_iload_2 49 rfl (by decide +kernel) ?_
    refine ww_aload_4 51 rfl (by decide +kernel) ?_
    refine ww_iload_5 53 rfl (by decide +kernel) ?_
    obtain ⟨m10, h9, hF⟩ := rd_at hF
    refine ww_cS4v 56 rfl 52 (by decide +kernel) mf_Sender_packPlain k_Sender_52 ⟨by decide, by decide⟩ ⟨rfl, rfl⟩ (Nat.le_of_ble_eq_true rfl) (C_Sender_packPlain hp1 hp4 h9) ?_
    exact B_Sender_pack_56 hF
  · rw [if_pos h] at hF
    refine ww_aload_0 36 rfl (by decide +kernel) ?_
    refine ww_aload_1 37 rfl (by decide +kernel) ?_
    refine ww_aload_4 39 rfl (by decide +kernel) ?_
    refine ww_iload_5 41 rfl (by decide +kernel) ?_
    obtain ⟨m12, h11, hF⟩ := rd_at hF
    refine ww_cV3v 44 rfl 6 48 (by decide +kernel) mf_Sender_packAdaptive k_Sender_48 rfl (by decide) rfl ⟨by decide, by decide⟩ ⟨rfl, rfl⟩ (Nat.le_of_ble_eq_true rfl) (C_Sender_packAdaptive hp1 hp4 h11) ?_
    refine ww_goto (12) 56 (by decide +kernel) (by decide) ?_
    exact B_Sender_pack_56 hF
set_option maxHeartbeats 4000000 in
set_option maxRecDepth 100000 in
theorem C_Samples_dropFirst {l : Launch} {ca : Nat → ClassId} {a : Nat → Nat} {m0 : Mem} {t : Nat} {p1 : Int32} {m9 : Mem} (ht : kd t = 5) (hF : F_Samples_dropFirst m0 t p1 = some m9) : CT l ca a y_Samples_dropFirst b_Samples_dropFirst 2 none (RM 1 26) [.ref (a t), .int p1] m0 none m9 := by
  refine ct_of (own := R_Samples) (lv := [some (.ref (a t)), some (.int p1)]) (plainFor_of_name (by decide)) rfl (cat_ok rfl) (Nat.le_of_ble_eq_true rfl) rfl ?_
  unfold F_Samples_dropFirst at hF
  refine ww_iload_1 1 rfl (by decide +kernel) ?_
  refine ww_if_le 4 rfl (40) 41 (by decide +kernel) (by decide) (fun h => ?_) (fun h => ?_)
  · rw [if_pos h] at hF
    cases hF
    exact ww_vret (by decide +kernel) rfl
  · rw [if_neg h] at hF
    refine ww_iload_1 5 rfl (by decide +kernel) ?_
    refine ww_aload_0 6 rfl (by decide +kernel) ?_
    refine ww_geti 9 rfl 5 1 15 (by decide +kernel) ht k_Samples_15 (by decide) (by decide) rfl rfl ?_
    refine ww_icmp_gt 12 rfl (32) 41 (by decide +kernel) (by decide) (fun h => ?_) (fun h => ?_)
    · rw [if_pos h] at hF
      cases hF
      exact ww_vret (by decide +kernel) rfl
    · rw [if_neg h] at hF
      refine ww_aload_0 13 rfl (by decide +kernel) ?_
      refine ww_getr 16 rfl 5 0 9 (t + 1) (by decide +kernel) ht k_Samples_9 (by decide) (by decide) rfl rfl (by omega) ?_
      refine ww_iload_1 17 rfl (by decide +kernel) ?_
      refine ww_aload_0 18 rfl (by decide +kernel) ?_
      refine ww_getr 21 rfl 5 0 9 (t + 1) (by decide +kernel) ht k_Samples_9 (by decide) (by decide) rfl rfl (by omega) ?_
      refine ww_iconst 22 rfl (0) (0 : Int32) (by decide +kernel) (by decide) ?_
      refine ww_aload_0 23 rfl (by decide +kernel) ?_
      refine ww_geti 26 rfl 5 1 15 (by decide +kernel) ht k_Samples_15 (by decide) (by decide) rfl rfl ?_
      refine ww_iload_1 27 rfl (by decide +kernel) ?_
      refine ww_isub 28 rfl (by decide +kernel) ?_
      obtain ⟨g1, hF⟩ := gd_at hF
      refine ww_copy 31 rfl 24 (by decide +kernel) k_Samples_24 (kd_row ht) (kd_row ht) g1 (Nat.le_of_ble_eq_true rfl) ⟨by decide, by decide⟩ ?_
      refine ww_nmm (fun m2 em2 => ?_)
      replace hF := bnd_at hF em2
      refine ww_aload_0 32 rfl (by decide +kernel) ?_
      refine ww_dup 33 rfl (by decide +kernel) rfl ?_
      refine ww_geti 36 rfl 5 1 15 (by decide +kernel) ht k_Samples_15 (by decide) (by decide) rfl rfl ?_
      refine ww_iload_1 37 rfl (by decide +kernel) ?_
      refine ww_isub 38 rfl (by decide +kernel) ?_
      refine ww_put 41 rfl 5 1 15 (by decide +kernel) ht k_Samples_15 (by decide) (by decide) rfl rfl rfl rfl rfl rfl ?_
      refine ww_nmm (fun m3 em3 => ?_)
      replace hF := bnd_at hF em3
      cases hF
      exact ww_vret (by decide +kernel) rfl
set_option maxHeartbeats 4000000 in
set_option maxRecDepth 100000 in
theorem C_Packet_length {l : Launch} {ca : Nat → ClassId} {a : Nat → Nat} {m0 : Mem} {t : Nat} {r : Int32} (ht : kd t = 3) (hF : F_Packet_length m0 t = some r) : CT l ca a y_Packet_length b_Packet_length 1 (some .int) (RM 0 0) [.ref (a t)] m0 (some (.int r)) m0 := by
  refine ct_of (own := R_Packet) (lv := [some (.ref (a t))]) (plainFor_of_name (by decide)) rfl (cat_ok rfl) (Nat.le_of_ble_eq_true rfl) rfl ?_
  unfold F_Packet_length at hF
  refine ww_aload_0 1 rfl (by decide +kernel) ?_
  refine ww_geti 4 rfl 3 1 15 (by decide +kernel) ht k_Packet_15 (by decide) (by decide) rfl rfl ?_
  cases hF
  exact ww_iret (by decide +kernel) rfl
set_option maxHeartbeats 4000000 in
set_option maxRecDepth 100000 in
theorem C_Gate_send {l : Launch} {ca : Nat → ClassId} {a : Nat → Nat} {m0 : Mem} {p1 : Int32} {p2 : Int32} {p3 : Int32} {r : Int32} {m9 : Mem}  (hF : F_Gate_send m0 p1 p2 p3 = some (r, m9)) : CT l ca a y_Gate_send b_Gate_send 5 (some .int) (RM 5 119) [.ref (a 0), .int p1, .int p2, .int p3] m0 (some (.int r)) m9 := by
  refine ct_of (own := R_Gate) (lv := [some (.ref (a 0)), some (.int p1), some (.int p2), some (.int p3), none]) (plainFor_of_name (by decide)) rfl (cat_ok rfl) (Nat.le_of_ble_eq_true rfl) rfl ?_
  unfold F_Gate_send at hF
  refine ww_iload_1 1 rfl (by decide +kernel) ?_
  refine ww_iload_2 2 rfl (by decide +kernel) ?_
  obtain ⟨r2, h1, hF⟩ := rd_at hF
  refine ww_cS2i 5 rfl 80 (by decide +kernel) mf_Sender_canPack k_Gate_80 ⟨by decide, by decide⟩ ⟨rfl, rfl⟩ (Nat.le_of_ble_eq_true rfl) (C_Sender_canPack h1) ?_
  refine ww_if_ne 8 rfl (5) 10 (by decide +kernel) (by decide) (fun h => ?_) (fun h => ?_)
  · rw [if_neg h] at hF
    refine ww_aload_0 11 rfl (by decide +kernel) ?_
    refine ww_getr 14 rfl 0 0 14 1 (by decide +kernel) rfl k_Gate_14 (by decide) (by decide) rfl rfl (by omega) ?_
    obtain ⟨r4, h3, hF⟩ := rd_at hF
    refine ww_cV0i 17 rfl 5 84 (by decide +kernel) mf_Samples_size k_Gate_84 rfl (by decide) rfl ⟨by decide, by decide⟩ ⟨rfl, rfl⟩ (Nat.le_of_ble_eq_true rfl) (C_Samples_size rfl h3) ?_
    refine ww_iload_2 18 rfl (by decide +kernel) ?_
    refine ww_icmp_ge 21 rfl (6) 24 (by decide +kernel) (by decide) (fun h => ?_) (fun h => ?_)
    · rw [if_pos h] at hF
      refine ww_aload_0 25 rfl (by decide +kernel) ?_
      refine ww_getr 28 rfl 0 2 24 7 (by decide +kernel) rfl k_Gate_24 (by decide) (by decide) rfl rfl (by omega) ?_
      obtain ⟨r6, m7, h5, hF⟩ := cal_at hF
      refine ww_cV0q 31 rfl 7 88 (by decide +kernel) mf_Wire_append k_Gate_88 rfl (by decide) rfl ⟨by decide, by decide⟩ ⟨rfl, rfl⟩ (Nat.le_of_ble_eq_true rfl) (C_Wire_append h5) ?_ ?_
      · intro e
        subst e
        replace hF := om_none hF
        refine ww_astore_4N 33 rfl (by decide +kernel) (by decide) ?_
        refine ww_aload_4N 35 rfl (by decide +kernel) ?_
        refine ww_ifnonnullN 38 rfl (6) (by decide +kernel) ?_
        refine ww_bipush 40 rfl (-3) (-3 : Int32) (by decide +kernel) (by decide) ?_
        cases hF
        exact ww_iret (by decide +kernel) rfl
      · intro k8 e
        subst e
        replace hF := om_some hF
        obtain ⟨g9, hF⟩ := gp_at hF
        refine ww_astore_4 33 rfl (by decide +kernel) (by decide) ?_
        refine ww_aload_4 35 rfl (by decide +kernel) ?_
        refine ww_ifnonnull (6) 41 (by decide +kernel) (by decide) ?_
        refine ww_aload_0 42 rfl (by decide +kernel) ?_
        refine ww_getr 45 rfl 0 3 31 9 (by decide +kernel) rfl k_Gate_31 (by decide) (by decide) rfl rfl (by omega) ?_
        refine ww_aload_4 47 rfl (by decide +kernel) ?_
        refine ww_iload_1 48 rfl (by decide +kernel) ?_
        refine ww_iload_3 49 rfl (by decide +kernel) ?_
        refine ww_aload_0 50 rfl (by decide +kernel) ?_
        refine ww_getr 53 rfl 0 0 14 1 (by decide +kernel) rfl k_Gate_14 (by decide) (by decide) rfl rfl (by omega) ?_
        refine ww_iload_2 54 rfl (by decide +kernel) ?_
        obtain ⟨m11, h10, hF⟩ := rd_at hF
        refine ww_cV5v 57 rfl 6 92 (by decide +kernel) mf_Sender_pack k_Gate_92 rfl (by decide) rfl ⟨by decide, by decide⟩ ⟨rfl, rfl⟩ (Nat.le_of_ble_eq_true rfl) (C_Sender_pack g9 rfl h10) ?_
        refine ww_aload_0 58 rfl (by decide +kernel) ?_
        refine ww_getr 61 rfl 0 0 14 1 (by decide +kernel) rfl k_Gate_14 (by decide) (by decide) rfl rfl (by omega) ?_
        refine ww_iload_2 62 rfl (by decide +kernel) ?_
        obtain ⟨m13, h12, hF⟩ := rd_at hF
        refine ww_cV1v 65 rfl 5 96 (by decide +kernel) mf_Samples_dropFirst k_Gate_96 rfl (by decide) rfl ⟨by decide, by decide⟩ ⟨rfl, rfl⟩ (Nat.le_of_ble_eq_true rfl) (C_Samples_dropFirst rfl h12) ?_
        refine ww_aload_4 67 rfl (by decide +kernel) ?_
        obtain ⟨r15, h14, hF⟩ := rd_at hF
        refine ww_cV0i 70 rfl 3 99 (by decide +kernel) mf_Packet_length k_Gate_99 g9 (by decide) rfl ⟨by decide, by decide⟩ ⟨rfl, rfl⟩ (Nat.le_of_ble_eq_true rfl) (C_Packet_length g9 h14) ?_
        cases hF
        exact ww_iret (by decide +kernel) rfl
    · rw [if_neg h] at hF
      refine ww_bipush 23 rfl (-2) (-2 : Int32) (by decide +kernel) (by decide) ?_
      cases hF
      exact ww_iret (by decide +kernel) rfl
  · rw [if_pos h] at hF
    refine ww_iconst 9 rfl (-1) (-1 : Int32) (by decide +kernel) (by decide) ?_
    cases hF
    exact ww_iret (by decide +kernel) rfl
set_option maxHeartbeats 4000000 in
set_option maxRecDepth 100000 in
theorem C_Wire_size {l : Launch} {ca : Nat → ClassId} {a : Nat → Nat} {m0 : Mem}  {r : Int32}  (hF : F_Wire_size m0 = some r) : CT l ca a y_Wire_size b_Wire_size 1 (some .int) (RM 0 0) [.ref (a 7)] m0 (some (.int r)) m0 := by
  refine ct_of (own := R_Wire) (lv := [some (.ref (a 7))]) (plainFor_of_name (by decide)) rfl (cat_ok rfl) (Nat.le_of_ble_eq_true rfl) rfl ?_
  unfold F_Wire_size at hF
  refine ww_aload_0 1 rfl (by decide +kernel) ?_
  refine ww_geti 4 rfl 7 1 16 (by decide +kernel) rfl k_Wire_16 (by decide) (by decide) rfl rfl ?_
  cases hF
  exact ww_iret (by decide +kernel) rfl
set_option maxHeartbeats 4000000 in
set_option maxRecDepth 100000 in
theorem C_Gate_line {l : Launch} {ca : Nat → ClassId} {a : Nat → Nat} {m0 : Mem}  {r : Int32}  (hF : F_Gate_line m0 = some r) : CT l ca a y_Gate_line b_Gate_line 1 (some .int) (RM 1 20) [.ref (a 0)] m0 (some (.int r)) m0 := by
  refine ct_of (own := R_Gate) (lv := [some (.ref (a 0))]) (plainFor_of_name (by decide)) rfl (cat_ok rfl) (Nat.le_of_ble_eq_true rfl) rfl ?_
  unfold F_Gate_line at hF
  refine ww_aload_0 1 rfl (by decide +kernel) ?_
  refine ww_getr 4 rfl 0 2 24 7 (by decide +kernel) rfl k_Gate_24 (by decide) (by decide) rfl rfl (by omega) ?_
  obtain ⟨r2, h1, hF⟩ := rd_at hF
  refine ww_cV0i 7 rfl 7 104 (by decide +kernel) mf_Wire_size k_Gate_104 rfl (by decide) rfl ⟨by decide, by decide⟩ ⟨rfl, rfl⟩ (Nat.le_of_ble_eq_true rfl) (C_Wire_size h1) ?_
  cases hF
  exact ww_iret (by decide +kernel) rfl
set_option maxHeartbeats 4000000 in
set_option maxRecDepth 100000 in
theorem C_Wire_at {l : Launch} {ca : Nat → ClassId} {a : Nat → Nat} {m0 : Mem} {p1 : Int32} {r : Option Nat}  (hF : F_Wire_at m0 p1 = some r) : CT l ca a y_Wire_at b_Wire_at 2 (some (.object R_Packet)) (RM 0 0) [.ref (a 7), .int p1] m0 (some (rvq a r)) m0 := by
  refine ct_of (own := R_Wire) (lv := [some (.ref (a 7)), some (.int p1)]) (plainFor_of_name (by decide)) rfl (cat_ok rfl) (Nat.le_of_ble_eq_true rfl) rfl ?_
  unfold F_Wire_at at hF
  refine ww_iload_1 1 rfl (by decide +kernel) ?_
  refine ww_if_lt 4 rfl (20) 21 (by decide +kernel) (by decide) (fun h => ?_) (fun h => ?_)
  · rw [if_pos h] at hF
    refine ww_null 22 rfl (by decide +kernel) ?_
    cases hF
    exact ww_aretN (by decide +kernel) rfl
  · rw [if_neg h] at hF
    refine ww_iload_1 5 rfl (by decide +kernel) ?_
    refine ww_aload_0 6 rfl (by decide +kernel) ?_
    refine ww_geti 9 rfl 7 1 16 (by decide +kernel) rfl k_Wire_16 (by decide) (by decide) rfl rfl ?_
    refine ww_icmp_ge 12 rfl (12) 21 (by decide +kernel) (by decide) (fun h => ?_) (fun h => ?_)
    · rw [if_pos h] at hF
      refine ww_null 22 rfl (by decide +kernel) ?_
      cases hF
      exact ww_aretN (by decide +kernel) rfl
    · rw [if_neg h] at hF
      refine ww_aload_0 13 rfl (by decide +kernel) ?_
      refine ww_getr 16 rfl 7 0 11 8 (by decide +kernel) rfl k_Wire_11 (by decide) (by decide) rfl rfl (by omega) ?_
      refine ww_iload_1 17 rfl (by decide +kernel) ?_
      obtain ⟨g1, hF⟩ := gd_at hF
      refine ww_aald 18 rfl (by decide +kernel) rfl g1 ?_
      obtain ⟨g2, hF⟩ := gp_at hF
      refine ww_goto (4) 22 (by decide +kernel) (by decide) ?_
      cases hF
      exact ww_aret (by decide +kernel) rfl
