set_option maxHeartbeats 4000000 in
set_option maxRecDepth 100000 in
theorem B_Buffer_goOn_34 {l : Launch} {ca : Nat → ClassId} {a : Nat → Nat} {m0 : Mem}  {z1 : Option Value} {m9 : Mem}  (hF : F_Buffer_goOn_34 m0 = some m9) : WW l b_Buffer_goOn 2 none R_Buffer (RM 2 42) ca a (EM ca a none m9) 34 [some (.ref (a 13)), z1] [] m0 := by
  unfold F_Buffer_goOn_34 at hF
  refine ww_aload_0 35 rfl (by decide +kernel) ?_
  refine ww_aload_0 36 rfl (by decide +kernel) ?_
  refine ww_geti 39 rfl 2 5 33 (by decide +kernel) rfl k_Buffer_33 (by decide) (by decide) rfl rfl ?_
  obtain ⟨r7, h6, hF⟩ := rd_at hF
  refine ww_cN1i 42 rfl 75 (by decide +kernel) mf_Gate_sequenceAfter (fun _ _ _ h => h.2.2.2) ⟨by decide, by decide⟩ ⟨rfl, rfl⟩ (Nat.le_of_ble_eq_true rfl) (C_Gate_sequenceAfter h6) ?_
  refine ww_put 45 rfl 2 5 33 (by decide +kernel) rfl k_Buffer_33 (by decide) (by decide) rfl rfl rfl rfl rfl rfl ?_
  refine ww_nmm (fun m8 em8 => ?_)
  replace hF := bnd_at hF em8
  refine ww_aload_0 46 rfl (by decide +kernel) ?_
  refine ww_iconst 47 rfl (2) (2 : Int32) (by decide +kernel) (by decide) ?_
  refine ww_put 50 rfl 2 3 26 (by decide +kernel) rfl k_Buffer_26 (by decide) (by decide) rfl rfl rfl rfl rfl rfl ?_
  refine ww_nmm (fun m9 em9 => ?_)
  replace hF := bnd_at hF em9
  cases hF
  exact ww_vret (by decide +kernel) rfl
set_option maxHeartbeats 4000000 in
set_option maxRecDepth 100000 in
theorem C_Buffer_goOn {l : Launch} {ca : Nat → ClassId} {a : Nat → Nat} {m0 : Mem}  {m9 : Mem}  (hF : F_Buffer_goOn m0 = some m9) : CT l ca a y_Buffer_goOn b_Buffer_goOn 2 none (RM 2 42) [.ref (a 13)] m0 none m9 := by
  refine ct_of (own := R_Buffer) (lv := [some (.ref (a 13)), none]) (plainFor_of_name (by decide)) rfl (cat_ok rfl) (Nat.le_of_ble_eq_true rfl) rfl ?_
  unfold F_Buffer_goOn at hF
  refine ww_aload_0 1 rfl (by decide +kernel) ?_
  refine ww_geti 4 rfl 2 5 33 (by decide +kernel) rfl k_Buffer_33 (by decide) (by decide) rfl rfl ?_
  obtain ⟨r2, h1, hF⟩ := rd_at hF
  refine ww_cS1i 7 rfl 52 (by decide +kernel) mf_Buffer_placeOf k_Buffer_52 ⟨by decide, by decide⟩ ⟨rfl, rfl⟩ (Nat.le_of_ble_eq_true rfl) (C_Buffer_placeOf h1) ?_
  refine ww_istore_1 8 rfl (by decide +kernel) (by decide) ?_
  refine ww_aload_0 9 rfl (by decide +kernel) ?_
  refine ww_getr 12 rfl 2 1 18 15 (by decide +kernel) rfl k_Buffer_18 (by decide) (by decide) rfl rfl (by omega) ?_
  refine ww_iload_1 13 rfl (by decide +kernel) ?_
  obtain ⟨g3, hF⟩ := gd_at hF
  refine ww_zald 14 rfl (by decide +kernel) rfl g3 ?_
  refine ww_if_eq 17 rfl (20) 34 (by decide +kernel) (by decide) (fun h => ?_) (fun h => ?_)
  · rw [if_pos h] at hF
    exact B_Buffer_goOn_34 hF
  · rw [if_neg h] at hF
    refine ww_aload_0 18 rfl (by decide +kernel) ?_
    refine ww_getr 21 rfl 2 1 18 15 (by decide +kernel) rfl k_Buffer_18 (by decide) (by decide) rfl rfl (by omega) ?_
    refine ww_iload_1 22 rfl (by decide +kernel) ?_
    refine ww_iconst 23 rfl (0) (0 : Int32) (by decide +kernel) (by decide) ?_
    refine ww_zast 24 rfl (by decide +kernel) rfl g3 ?_
    refine ww_nmm (fun m4 em4 => ?_)
    replace hF := bnd_at hF em4
    refine ww_aload_0 25 rfl (by decide +kernel) ?_
    refine ww_dup 26 rfl (by decide +kernel) rfl ?_
    refine ww_geti 29 rfl 2 4 30 (by decide +kernel) rfl k_Buffer_30 (by decide) (by decide) rfl rfl ?_
    refine ww_iconst 30 rfl (1) (1 : Int32) (by decide +kernel) (by decide) ?_
    refine ww_isub 31 rfl (by decide +kernel) ?_
    refine ww_put 34 rfl 2 4 30 (by decide +kernel) rfl k_Buffer_30 (by decide) (by decide) rfl rfl rfl rfl rfl rfl ?_
    refine ww_nmm (fun m5 em5 => ?_)
    replace hF := bnd_at hF em5
    exact B_Buffer_goOn_34 hF
set_option maxHeartbeats 4000000 in
set_option maxRecDepth 100000 in
theorem B_Player_playPacket_66 {l : Launch} {ca : Nat → ClassId} {a : Nat → Nat} {m0 : Mem} {l1 : Nat} {l3 : Nat} {l4 : Int32} {z5 : Option Value} {r : Int32} {m9 : Mem} (hl1 : kd l1 = 3) (hl3 : kd l3 = 5) (hF : F_Player_playPacket_66 m0 l1 l3 l4 = some (r, m9)) : WW l b_Player_playPacket 6 (some .int) R_Player (RM 4 94) ca a (EM ca a (some (.int r)) m9) 66 [some (.ref (a 11)), some (.ref (a l1)), some (.ref (a 13)), some (.ref (a l3)), some (.int l4), z5] [] m0 := by
  unfold F_Player_playPacket_66 at hF
  refine ww_aload_0 67 rfl (by decide +kernel) ?_
  refine ww_aload_1 68 rfl (by decide +kernel) ?_
  obtain ⟨r13, h12, hF⟩ := rd_at hF
  refine ww_cV0i 71 rfl 3 78 (by decide +kernel) mf_Packet_time k_Player_78 hl1 (by decide) rfl ⟨by decide, by decide⟩ ⟨rfl, rfl⟩ (Nat.le_of_ble_eq_true rfl) (C_Packet_time hl1 h12) ?_
  refine ww_iload_4 73 rfl (by decide +kernel) ?_
  refine ww_iadd 74 rfl (by decide +kernel) ?_
  refine ww_put 77 rfl 4 2 27 (by decide +kernel) rfl k_Player_27 (by decide) (by decide) rfl rfl rfl rfl rfl rfl ?_
  refine ww_nmm (fun m14 em14 => ?_)
  replace hF := bnd_at hF em14
  refine ww_aload_0 78 rfl (by decide +kernel) ?_
  refine ww_getr 81 rfl 4 0 14 5 (by decide +kernel) rfl k_Player_14 (by decide) (by decide) rfl rfl (by omega) ?_
  obtain ⟨m16, h15, hF⟩ := rd_at hF
  refine ww_cV0v 84 rfl 5 81 (by decide +kernel) mf_Samples_clear k_Player_81 rfl (by decide) rfl ⟨by decide, by decide⟩ ⟨rfl, rfl⟩ (Nat.le_of_ble_eq_true rfl) (C_Samples_clear rfl h15) ?_
  refine ww_aload_1 85 rfl (by decide +kernel) ?_
  refine ww_aload_0 86 rfl (by decide +kernel) ?_
  refine ww_getr 89 rfl 4 0 14 5 (by decide +kernel) rfl k_Player_14 (by decide) (by decide) rfl rfl (by omega) ?_
  refine ww_aload_0 90 rfl (by decide +kernel) ?_
  refine ww_getr 93 rfl 4 1 23 12 (by decide +kernel) rfl k_Player_23 (by decide) (by decide) rfl rfl (by omega) ?_
  obtain ⟨m18, h17, hF⟩ := rd_at hF
  refine ww_cV2v 96 rfl 3 84 (by decide +kernel) mf_Packet_readInto k_Player_84 hl1 (by decide) rfl ⟨by decide, by decide⟩ ⟨rfl, rfl⟩ (Nat.le_of_ble_eq_true rfl) (C_Packet_readInto hl1 rfl rfl h17) ?_
  refine ww_aload_3 97 rfl (by decide +kernel) ?_
  refine ww_aload_0 98 rfl (by decide +kernel) ?_
  refine ww_getr 101 rfl 4 0 14 5 (by decide +kernel) rfl k_Player_14 (by decide) (by decide) rfl rfl (by omega) ?_
  refine ww_iload_4 103 rfl (by decide +kernel) ?_
  obtain ⟨m20, h19, hF⟩ := rd_at hF
  refine ww_cV2v 106 rfl 5 88 (by decide +kernel) mf_Samples_addFirstOf k_Player_88 hl3 (by decide) rfl ⟨by decide, by decide⟩ ⟨rfl, rfl⟩ (Nat.le_of_ble_eq_true rfl) (C_Samples_addFirstOf hl3 rfl h19) ?_
  refine ww_aload_0 107 rfl (by decide +kernel) ?_
  refine ww_iconst 108 rfl (0) (0 : Int32) (by decide +kernel) (by decide) ?_
  refine ww_put 111 rfl 4 3 31 (by decide +kernel) rfl k_Player_31 (by decide) (by decide) rfl rfl rfl rfl rfl rfl ?_
  refine ww_nmm (fun m21 em21 => ?_)
  replace hF := bnd_at hF em21
  refine ww_aload_2 112 rfl (by decide +kernel) ?_
  obtain ⟨m23, h22, hF⟩ := rd_at hF
  refine ww_cV0v 115 rfl 2 92 (by decide +kernel) mf_Buffer_goOn k_Player_92 rfl (by decide) rfl ⟨by decide, by decide⟩ ⟨rfl, rfl⟩ (Nat.le_of_ble_eq_true rfl) (C_Buffer_goOn h22) ?_
  refine ww_iload_4 117 rfl (by decide +kernel) ?_
  cases hF
  exact ww_iret (by decide +kernel) rfl
set_option maxHeartbeats 4000000 in
set_option maxRecDepth 100000 in
theorem B_Player_playPacket_31 {l : Launch} {ca : Nat → ClassId} {a : Nat → Nat} {m0 : Mem} {l1 : Nat} {l3 : Nat} {l4 : Int32} {s0 : Int32} {z5 : Option Value} {r : Int32} {m9 : Mem} (hl1 : kd l1 = 3) (hl3 : kd l3 = 5) (hF : F_Player_playPacket_31 m0 l1 l3 l4 s0 = some (r, m9)) : WW l b_Player_playPacket 6 (some .int) R_Player (RM 4 94) ca a (EM ca a (some (.int r)) m9) 31 [some (.ref (a 11)), some (.ref (a l1)), some (.ref (a 13)), some (.ref (a l3)), some (.int l4), z5] [.int s0] m0 := by
  unfold F_Player_playPacket_31 at hF
  refine ww_istore_5 33 rfl (by decide +kernel) (by decide) ?_
  refine ww_iload_5 35 rfl (by decide +kernel) ?_
  refine ww_if_eq 38 rfl (31) 66 (by decide +kernel) (by decide) (fun h => ?_) (fun h => ?_)
  · rw [if_pos h] at hF
    exact B_Player_playPacket_66 hl1 hl3 hF
  · rw [if_neg h] at hF
    refine ww_aload_1 39 rfl (by decide +kernel) ?_
    obtain ⟨r8, h7, hF⟩ := rd_at hF
    refine ww_cV0i 42 rfl 3 75 (by decide +kernel) mf_Packet_hasMark k_Player_75 hl1 (by decide) rfl ⟨by decide, by decide⟩ ⟨rfl, rfl⟩ (Nat.le_of_ble_eq_true rfl) (C_Packet_hasMark hl1 h7) ?_
    refine ww_if_ne 45 rfl (24) 66 (by decide +kernel) (by decide) (fun h => ?_) (fun h => ?_)
    · rw [if_neg h] at hF
      exact B_Player_playPacket_66 hl1 hl3 hF
    · rw [if_pos h] at hF
      refine ww_aload_1 46 rfl (by decide +kernel) ?_
      obtain ⟨r10, h9, hF⟩ := rd_at hF
      refine ww_cV0i 49 rfl 3 78 (by decide +kernel) mf_Packet_time k_Player_78 hl1 (by decide) rfl ⟨by decide, by decide⟩ ⟨rfl, rfl⟩ (Nat.le_of_ble_eq_true rfl) (C_Packet_time hl1 h9) ?_
      refine ww_aload_0 50 rfl (by decide +kernel) ?_
      refine ww_geti 53 rfl 4 2 27 (by decide +kernel) rfl k_Player_27 (by decide) (by decide) rfl rfl ?_
      refine ww_icmp_eq 56 rfl (13) 66 (by decide +kernel) (by decide) (fun h => ?_) (fun h => ?_)
      · rw [if_pos h] at hF
        exact B_Player_playPacket_66 hl1 hl3 hF
      · rw [if_neg h] at hF
        refine ww_aload_0 57 rfl (by decide +kernel) ?_
        refine ww_dup 58 rfl (by decide +kernel) rfl ?_
        refine ww_geti 61 rfl 4 5 37 (by decide +kernel) rfl k_Player_37 (by decide) (by decide) rfl rfl ?_
        refine ww_iconst 62 rfl (1) (1 : Int32) (by decide +kernel) (by decide) ?_
        refine ww_iadd 63 rfl (by decide +kernel) ?_
        refine ww_put 66 rfl 4 5 37 (by decide +kernel) rfl k_Player_37 (by decide) (by decide) rfl rfl rfl rfl rfl rfl ?_
        refine ww_nmm (fun m11 em11 => ?_)
        replace hF := bnd_at hF em11
        exact B_Player_playPacket_66 hl1 hl3 hF
set_option maxHeartbeats 4000000 in
set_option maxRecDepth 100000 in
theorem C_Player_playPacket {l : Launch} {ca : Nat → ClassId} {a : Nat → Nat} {m0 : Mem} {p1 : Nat} {p3 : Nat} {r : Int32} {m9 : Mem} (hp1 : kd p1 = 3) (hp3 : kd p3 = 5) (hF : F_Player_playPacket m0 p1 p3 = some (r, m9)) : CT l ca a y_Player_playPacket b_Player_playPacket 6 (some .int) (RM 4 94) [.ref (a 11), .ref (a p1), .ref (a 13), .ref (a p3)] m0 (some (.int r)) m9 := by
  refine ct_of (own := R_Player) (lv := [some (.ref (a 11)), some (.ref (a p1)), some (.ref (a 13)), some (.ref (a p3)), none, none]) (plainFor_of_name (by decide)) rfl (cat_ok rfl) (Nat.le_of_ble_eq_true rfl) rfl ?_
  unfold F_Player_playPacket at hF
  refine ww_aload_1 1 rfl (by decide +kernel) ?_
  obtain ⟨r2, h1, hF⟩ := rd_at hF
  refine ww_cV0i 4 rfl 3 62 (by decide +kernel) mf_Packet_samplesIn k_Player_62 hp1 (by decide) rfl ⟨by decide, by decide⟩ ⟨rfl, rfl⟩ (Nat.le_of_ble_eq_true rfl) (C_Packet_samplesIn hp1 h1) ?_
  refine ww_istore_4 6 rfl (by decide +kernel) (by decide) ?_
  refine ww_aload_3 7 rfl (by decide +kernel) ?_
  refine ww_iload_4 9 rfl (by decide +kernel) ?_
  obtain ⟨r4, h3, hF⟩ := rd_at hF
  refine ww_cV1i 12 rfl 5 68 (by decide +kernel) mf_Samples_hasRoom k_Player_68 hp3 (by decide) rfl ⟨by decide, by decide⟩ ⟨rfl, rfl⟩ (Nat.le_of_ble_eq_true rfl) (C_Samples_hasRoom hp3 h3) ?_
  refine ww_if_ne 15 rfl (6) 18 (by decide +kernel) (by decide) (fun h => ?_) (fun h => ?_)
  · rw [if_neg h] at hF
    refine ww_aload_2 19 rfl (by decide +kernel) ?_
    obtain ⟨r6, h5, hF⟩ := rd_at hF
    refine ww_cV0i 22 rfl 2 72 (by decide +kernel) mf_Buffer_state k_Player_72 rfl (by decide) rfl ⟨by decide, by decide⟩ ⟨rfl, rfl⟩ (Nat.le_of_ble_eq_true rfl) (C_Buffer_state h5) ?_
    refine ww_iconst 23 rfl (2) (2 : Int32) (by decide +kernel) (by decide) ?_
    refine ww_icmp_ne 26 rfl (7) 30 (by decide +kernel) (by decide) (fun h => ?_) (fun h => ?_)
    · rw [if_neg h] at hF
      refine ww_iconst 31 rfl (0) (0 : Int32) (by decide +kernel) (by decide) ?_
      exact B_Player_playPacket_31 hp1 hp3 hF
    · rw [if_pos h] at hF
      refine ww_iconst 27 rfl (1) (1 : Int32) (by decide +kernel) (by decide) ?_
      refine ww_goto (4) 31 (by decide +kernel) (by decide) ?_
      exact B_Player_playPacket_31 hp1 hp3 hF
  · rw [if_pos h] at hF
    refine ww_bipush 17 rfl (-3) (-3 : Int32) (by decide +kernel) (by decide) ?_
    cases hF
    exact ww_iret (by decide +kernel) rfl
set_option maxHeartbeats 4000000 in
set_option maxRecDepth 100000 in
theorem B_Player_conceal_50 {l : Launch} {ca : Nat → ClassId} {a : Nat → Nat} {r : Int32} {m9 : Mem} (n : Nat) : ∀ {m0 : Mem} {l2 : Nat} {l3 : Int32} {l4 : Int32} {l5 : Int32}  (hl2 : kd l2 = 5) (hF : F_Player_conceal_50 n m0 l2 l3 l4 l5 = some (r, m9)), WW l b_Player_conceal 6 (some .int) R_Player (RM 3 63) ca a (EM ca a (some (.int r)) m9) 50 [some (.ref (a 11)), some (.ref (a 13)), some (.ref (a l2)), some (.int l3), some (.int l4), some (.int l5)] [] m0 := by
  induction n with
  | zero => intros; rename_i hF; rw [F_Player_conceal_50] at hF; cases hF
  | succ n ih =>
    intro m0 l2 l3 l4 l5  hl2 hF
    rw [F_Player_conceal_50] at hF
    refine ww_iload_5 52 rfl (by decide +kernel) ?_
    refine ww_iload_3 53 rfl (by decide +kernel) ?_
    refine ww_icmp_ge 56 rfl (25) 78 (by decide +kernel) (by decide) (fun h => ?_) (fun h => ?_)
    · rw [if_pos h] at hF
      refine ww_aload_0 79 rfl (by decide +kernel) ?_
      refine ww_dup 80 rfl (by decide +kernel) rfl ?_
      refine ww_geti 83 rfl 4 2 27 (by decide +kernel) rfl k_Player_27 (by decide) (by decide) rfl rfl ?_
      refine ww_iload_3 84 rfl (by decide +kernel) ?_
      refine ww_iadd 85 rfl (by decide +kernel) ?_
      refine ww_put 88 rfl 4 2 27 (by decide +kernel) rfl k_Player_27 (by decide) (by decide) rfl rfl rfl rfl rfl rfl ?_
      refine ww_nmm (fun m8 em8 => ?_)
      replace hF := bnd_at hF em8
      refine ww_aload_1 89 rfl (by decide +kernel) ?_
      obtain ⟨m10, h9, hF⟩ := rd_at hF
      refine ww_cV0v 92 rfl 2 92 (by decide +kernel) mf_Buffer_goOn k_Player_92 rfl (by decide) rfl ⟨by decide, by decide⟩ ⟨rfl, rfl⟩ (Nat.le_of_ble_eq_true rfl) (C_Buffer_goOn h9) ?_
      refine ww_iload_3 93 rfl (by decide +kernel) ?_
      cases hF
      exact ww_iret (by decide +kernel) rfl
    · rw [if_neg h] at hF
      refine ww_aload_2 57 rfl (by decide +kernel) ?_
      refine ww_aload_0 58 rfl (by decide +kernel) ?_
      refine ww_getr 61 rfl 4 0 14 5 (by decide +kernel) rfl k_Player_14 (by decide) (by decide) rfl rfl (by omega) ?_
      refine ww_iload_5 63 rfl (by decide +kernel) ?_
      obtain ⟨r12, h11, hF⟩ := rd_at hF
      refine ww_cV1i 66 rfl 5 98 (by decide +kernel) mf_Samples_get k_Player_98 rfl (by decide) rfl ⟨by decide, by decide⟩ ⟨rfl, rfl⟩ (Nat.le_of_ble_eq_true rfl) (C_Samples_get rfl h11) ?_
      refine ww_iload_4 68 rfl (by decide +kernel) ?_
      obtain ⟨g13, hF⟩ := gd_at hF
      refine ww_idiv 69 rfl (by decide +kernel) g13 ?_
      obtain ⟨m15, h14, hF⟩ := rd_at hF
      refine ww_cV1v 72 rfl 5 102 (by decide +kernel) mf_Samples_add k_Player_102 hl2 (by decide) rfl ⟨by decide, by decide⟩ ⟨rfl, rfl⟩ (Nat.le_of_ble_eq_true rfl) (C_Samples_add hl2 h14) ?_
      refine ww_iinc_5 75 rfl (1) (1 : Int32) (by decide +kernel) (by decide) (by decide) ?_
      refine ww_goto (-25) 50 (by decide +kernel) (by decide) ?_
      exact ih hl2 hF
set_option maxHeartbeats 4000000 in
set_option maxRecDepth 100000 in
theorem C_Player_conceal {l : Launch} {ca : Nat → ClassId} {a : Nat → Nat} {m0 : Mem} {p2 : Nat} {r : Int32} {m9 : Mem} (hp2 : kd p2 = 5) (hF : F_Player_conceal m0 p2 = some (r, m9)) : CT l ca a y_Player_conceal b_Player_conceal 6 (some .int) (RM 3 63) [.ref (a 11), .ref (a 13), .ref (a p2)] m0 (some (.int r)) m9 := by
  refine ct_of (own := R_Player) (lv := [some (.ref (a 11)), some (.ref (a 13)), some (.ref (a p2)), none, none, none]) (plainFor_of_name (by decide)) rfl (cat_ok rfl) (Nat.le_of_ble_eq_true rfl) rfl ?_
  unfold F_Player_conceal at hF
  refine ww_aload_0 1 rfl (by decide +kernel) ?_
  refine ww_getr 4 rfl 4 0 14 5 (by decide +kernel) rfl k_Player_14 (by decide) (by decide) rfl rfl (by omega) ?_
  obtain ⟨r2, h1, hF⟩ := rd_at hF
  refine ww_cV0i 7 rfl 5 95 (by decide +kernel) mf_Samples_size k_Player_95 rfl (by decide) rfl ⟨by decide, by decide⟩ ⟨rfl, rfl⟩ (Nat.le_of_ble_eq_true rfl) (C_Samples_size rfl h1) ?_
  refine ww_istore_3 8 rfl (by decide +kernel) (by decide) ?_
  refine ww_aload_2 9 rfl (by decide +kernel) ?_
  refine ww_iload_3 10 rfl (by decide +kernel) ?_
  obtain ⟨r4, h3, hF⟩ := rd_at hF
  refine ww_cV1i 13 rfl 5 68 (by decide +kernel) mf_Samples_hasRoom k_Player_68 hp2 (by decide) rfl ⟨by decide, by decide⟩ ⟨rfl, rfl⟩ (Nat.le_of_ble_eq_true rfl) (C_Samples_hasRoom hp2 h3) ?_
  refine ww_if_ne 16 rfl (6) 19 (by decide +kernel) (by decide) (fun h => ?_) (fun h => ?_)
  · rw [if_neg h] at hF
    refine ww_aload_0 20 rfl (by decide +kernel) ?_
    refine ww_dup 21 rfl (by decide +kernel) rfl ?_
    refine ww_geti 24 rfl 4 4 34 (by decide +kernel) rfl k_Player_34 (by decide) (by decide) rfl rfl ?_
    refine ww_iconst 25 rfl (1) (1 : Int32) (by decide +kernel) (by decide) ?_
    refine ww_iadd 26 rfl (by decide +kernel) ?_
    refine ww_put 29 rfl 4 4 34 (by decide +kernel) rfl k_Player_34 (by decide) (by decide) rfl rfl rfl rfl rfl rfl ?_
    refine ww_nmm (fun m5 em5 => ?_)
    replace hF := bnd_at hF em5
    refine ww_aload_0 30 rfl (by decide +kernel) ?_
    refine ww_dup 31 rfl (by decide +kernel) rfl ?_
    refine ww_geti 34 rfl 4 3 31 (by decide +kernel) rfl k_Player_31 (by decide) (by decide) rfl rfl ?_
    refine ww_iconst 35 rfl (1) (1 : Int32) (by decide +kernel) (by decide) ?_
    refine ww_iadd 36 rfl (by decide +kernel) ?_
    refine ww_put 39 rfl 4 3 31 (by decide +kernel) rfl k_Player_31 (by decide) (by decide) rfl rfl rfl rfl rfl rfl ?_
    refine ww_nmm (fun m6 em6 => ?_)
    replace hF := bnd_at hF em6
    refine ww_iconst 40 rfl (1) (1 : Int32) (by decide +kernel) (by decide) ?_
    refine ww_aload_0 41 rfl (by decide +kernel) ?_
    refine ww_geti 44 rfl 4 3 31 (by decide +kernel) rfl k_Player_31 (by decide) (by decide) rfl rfl ?_
    refine ww_ishl 45 rfl (by decide +kernel) ?_
    refine ww_nmi (fun v7 ev7 => ?_)
    replace hF := bnd_at hF ev7
    refine ww_istore_4 47 rfl (by decide +kernel) (by decide) ?_
    refine ww_iconst 48 rfl (0) (0 : Int32) (by decide +kernel) (by decide) ?_
    refine ww_istore_5 50 rfl (by decide +kernel) (by decide) ?_
    exact B_Player_conceal_50 _ hp2 hF
  · rw [if_pos h] at hF
    refine ww_bipush 18 rfl (-3) (-3 : Int32) (by decide +kernel) (by decide) ?_
    cases hF
    exact ww_iret (by decide +kernel) rfl
set_option maxHeartbeats 4000000 in
set_option maxRecDepth 100000 in
theorem B_Buffer_comeToRest_2 {l : Launch} {ca : Nat → ClassId} {a : Nat → Nat} {m9 : Mem} (n : Nat) : ∀ {m0 : Mem} {l1 : Int32}   (hF : F_Buffer_comeToRest_2 n m0 l1 = some m9), WW l b_Buffer_comeToRest 2 none R_Buffer (RM 0 0) ca a (EM ca a none m9) 2 [some (.ref (a 13)), some (.int l1)] [] m0 := by
  induction n with
  | zero => intros; rename_i hF; rw [F_Buffer_comeToRest_2] at hF; cases hF
  | succ n ih =>
    intro m0 l1   hF
    rw [F_Buffer_comeToRest_2] at hF
    refine ww_iload_1 3 rfl (by decide +kernel) ?_
    refine ww_bipush 5 rfl (8) (8 : Int32) (by decide +kernel) (by decide) ?_
    refine ww_icmp_ge 8 rfl (16) 21 (by decide +kernel) (by decide) (fun h => ?_) (fun h => ?_)
    · rw [if_pos h] at hF
      refine ww_aload_0 22 rfl (by decide +kernel) ?_
      refine ww_iconst 23 rfl (0) (0 : Int32) (by decide +kernel) (by decide) ?_
      refine ww_put 26 rfl 2 4 30 (by decide +kernel) rfl k_Buffer_30 (by decide) (by decide) rfl rfl rfl rfl rfl rfl ?_
      refine ww_nmm (fun m1 em1 => ?_)
      replace hF := bnd_at hF em1
      refine ww_aload_0 27 rfl (by decide +kernel) ?_
      refine ww_iconst 28 rfl (0) (0 : Int32) (by decide +kernel) (by decide) ?_
      refine ww_put 31 rfl 2 3 26 (by decide +kernel) rfl k_Buffer_26 (by decide) (by decide) rfl rfl rfl rfl rfl rfl ?_
      refine ww_nmm (fun m2 em2 => ?_)
      replace hF := bnd_at hF em2
      cases hF
      exact ww_vret (by decide +kernel) rfl
    · rw [if_neg h] at hF
      refine ww_aload_0 9 rfl (by decide +kernel) ?_
      refine ww_getr 12 rfl 2 1 18 15 (by decide +kernel) rfl k_Buffer_18 (by decide) (by decide) rfl rfl (by omega) ?_
      refine ww_iload_1 13 rfl (by decide +kernel) ?_
      refine ww_iconst 14 rfl (0) (0 : Int32) (by decide +kernel) (by decide) ?_
      obtain ⟨g3, hF⟩ := gd_at hF
      refine ww_zast 15 rfl (by decide +kernel) rfl g3 ?_
      refine ww_nmm (fun m4 em4 => ?_)
      replace hF := bnd_at hF em4
      refine ww_iinc_1 18 rfl (1) (1 : Int32) (by decide +kernel) (by decide) (by decide) ?_
      refine ww_goto (-16) 2 (by decide +kernel) (by decide) ?_
      exact ih hF
set_option maxHeartbeats 4000000 in
set_option maxRecDepth 100000 in
theorem C_Buffer_comeToRest {l : Launch} {ca : Nat → ClassId} {a : Nat → Nat} {m0 : Mem}  {m9 : Mem}  (hF : F_Buffer_comeToRest m0 = some m9) : CT l ca a y_Buffer_comeToRest b_Buffer_comeToRest 2 none (RM 0 0) [.ref (a 13)] m0 none m9 := by
  refine ct_of (own := R_Buffer) (lv := [some (.ref (a 13)), none]) (plainFor_of_name (by decide)) rfl (cat_ok rfl) (Nat.le_of_ble_eq_true rfl) rfl ?_
  unfold F_Buffer_comeToRest at hF
  refine ww_iconst 1 rfl (0) (0 : Int32) (by decide +kernel) (by decide) ?_
  refine ww_istore_1 2 rfl (by decide +kernel) (by decide) ?_
  exact B_Buffer_comeToRest_2 _ hF
set_option maxHeartbeats 4000000 in
set_option maxRecDepth 100000 in
theorem C_Player_giveUp {l : Launch} {ca : Nat → ClassId} {a : Nat → Nat} {m0 : Mem}  {r : Int32} {m9 : Mem}  (hF : F_Player_giveUp m0 = some (r, m9)) : CT l ca a y_Player_giveUp b_Player_giveUp 2 (some .int) (RM 1 21) [.ref (a 11), .ref (a 13)] m0 (some (.int r)) m9 := by
  refine ct_of (own := R_Player) (lv := [some (.ref (a 11)), some (.ref (a 13))]) (plainFor_of_name (by decide)) rfl (cat_ok rfl) (Nat.le_of_ble_eq_true rfl) rfl ?_
  unfold F_Player_giveUp at hF
  refine ww_aload_0 1 rfl (by decide +kernel) ?_
  refine ww_dup 2 rfl (by decide +kernel) rfl ?_
  refine ww_geti 5 rfl 4 4 34 (by decide +kernel) rfl k_Player_34 (by decide) (by decide) rfl rfl ?_
  refine ww_iconst 6 rfl (1) (1 : Int32) (by decide +kernel) (by decide) ?_
  refine ww_iadd 7 rfl (by decide +kernel) ?_
  refine ww_put 10 rfl 4 4 34 (by decide +kernel) rfl k_Player_34 (by decide) (by decide) rfl rfl rfl rfl rfl rfl ?_
  refine ww_nmm (fun m1 em1 => ?_)
  replace hF := bnd_at hF em1
  refine ww_aload_0 11 rfl (by decide +kernel) ?_
  refine ww_iconst 12 rfl (0) (0 : Int32) (by decide +kernel) (by decide) ?_
  refine ww_put 15 rfl 4 3 31 (by decide +kernel) rfl k_Player_31 (by decide) (by decide) rfl rfl rfl rfl rfl rfl ?_
  refine ww_nmm (fun m2 em2 => ?_)
  replace hF := bnd_at hF em2
  refine ww_aload_1 16 rfl (by decide +kernel) ?_
  obtain ⟨m4, h3, hF⟩ := rd_at hF
  refine ww_cV0v 19 rfl 2 105 (by decide +kernel) mf_Buffer_comeToRest k_Player_105 rfl (by decide) rfl ⟨by decide, by decide⟩ ⟨rfl, rfl⟩ (Nat.le_of_ble_eq_true rfl) (C_Buffer_comeToRest h3) ?_
  refine ww_iconst 20 rfl (0) (0 : Int32) (by decide +kernel) (by decide) ?_
  cases hF
  exact ww_iret (by decide +kernel) rfl
set_option maxHeartbeats 4000000 in
set_option maxRecDepth 100000 in
theorem C_Player_playNext {l : Launch} {ca : Nat → ClassId} {a : Nat → Nat} {m0 : Mem} {p2 : Nat} {r : Int32} {m9 : Mem} (hp2 : kd p2 = 5) (hF : F_Player_playNext m0 p2 = some (r, m9)) : CT l ca a y_Player_playNext b_Player_playNext 4 (some .int) (RM 5 119) [.ref (a 11), .ref (a 13), .ref (a p2)] m0 (some (.int r)) m9 := by
  refine ct_of (own := R_Player) (lv := [some (.ref (a 11)), some (.ref (a 13)), some (.ref (a p2)), none]) (plainFor_of_name (by decide)) rfl (cat_ok rfl) (Nat.le_of_ble_eq_true rfl) rfl ?_
  unfold F_Player_playNext at hF
  refine ww_aload_1 1 rfl (by decide +kernel) ?_
  obtain ⟨r2, h1, hF⟩ := rd_at hF
  refine ww_cV0i 4 rfl 2 40 (by decide +kernel) mf_Buffer_isReady k_Player_40 rfl (by decide) rfl ⟨by decide, by decide⟩ ⟨rfl, rfl⟩ (Nat.le_of_ble_eq_true rfl) (C_Buffer_isReady h1) ?_
  refine ww_if_ne 7 rfl (6) 10 (by decide +kernel) (by decide) (fun h => ?_) (fun h => ?_)
  · rw [if_neg h] at hF
    refine ww_aload_1 11 rfl (by decide +kernel) ?_
    obtain ⟨r4, h3, hF⟩ := rd_at hF
    refine ww_cV0q 14 rfl 2 46 (by decide +kernel) mf_Buffer_due k_Player_46 rfl (by decide) rfl ⟨by decide, by decide⟩ ⟨rfl, rfl⟩ (Nat.le_of_ble_eq_true rfl) (C_Buffer_due h3) ?_ ?_
    · intro e
      subst e
      replace hF := om_none hF
      refine ww_astore_3N 15 rfl (by decide +kernel) (by decide) ?_
      refine ww_aload_3N 16 rfl (by decide +kernel) ?_
      refine ww_ifnullN (11) 27 (by decide +kernel) (by decide) ?_
      refine ww_aload_0 28 rfl (by decide +kernel) ?_
      refine ww_geti 31 rfl 4 3 31 (by decide +kernel) rfl k_Player_31 (by decide) (by decide) rfl rfl ?_
      refine ww_iconst 32 rfl (4) (4 : Int32) (by decide +kernel) (by decide) ?_
      refine ww_icmp_ge 35 rfl (12) 44 (by decide +kernel) (by decide) (fun h => ?_) (fun h => ?_)
      · rw [if_pos h] at hF
        refine ww_aload_0 45 rfl (by decide +kernel) ?_
        refine ww_aload_1 46 rfl (by decide +kernel) ?_
        obtain ⟨r7, m8, h6, hF⟩ := cal_at hF
        refine ww_cV1i 49 rfl 4 58 (by decide +kernel) mf_Player_giveUp k_Player_58 rfl (by decide) rfl ⟨by decide, by decide⟩ ⟨rfl, rfl⟩ (Nat.le_of_ble_eq_true rfl) (C_Player_giveUp h6) ?_
        cases hF
        exact ww_iret (by decide +kernel) rfl
      · rw [if_neg h] at hF
        refine ww_aload_0 36 rfl (by decide +kernel) ?_
        refine ww_aload_1 37 rfl (by decide +kernel) ?_
        refine ww_aload_2 38 rfl (by decide +kernel) ?_
        obtain ⟨r10, m11, h9, hF⟩ := cal_at hF
        refine ww_cV2i 41 rfl 4 54 (by decide +kernel) mf_Player_conceal k_Player_54 rfl (by decide) rfl ⟨by decide, by decide⟩ ⟨rfl, rfl⟩ (Nat.le_of_ble_eq_true rfl) (C_Player_conceal hp2 h9) ?_
        refine ww_goto (8) 49 (by decide +kernel) (by decide) ?_
        cases hF
        exact ww_iret (by decide +kernel) rfl
    · intro k5 e
      subst e
      replace hF := om_some hF
      obtain ⟨g12, hF⟩ := gp_at hF
      refine ww_astore_3 15 rfl (by decide +kernel) (by decide) ?_
      refine ww_aload_3 16 rfl (by decide +kernel) ?_
      refine ww_ifnull 19 rfl (11) (by decide +kernel) ?_
      refine ww_aload_0 20 rfl (by decide +kernel) ?_
      refine ww_aload_3 21 rfl (by decide +kernel) ?_
      refine ww_aload_1 22 rfl (by decide +kernel) ?_
      refine ww_aload_2 23 rfl (by decide +kernel) ?_
      obtain ⟨r14, m15, h13, hF⟩ := cal_at hF
      refine ww_cV3i 26 rfl 4 50 (by decide +kernel) mf_Player_playPacket k_Player_50 rfl (by decide) rfl ⟨by decide, by decide⟩ ⟨rfl, rfl⟩ (Nat.le_of_ble_eq_true rfl) (C_Player_playPacket g12 hp2 h13) ?_
      cases hF
      exact ww_iret (by decide +kernel) rfl
  · rw [if_pos h] at hF
    refine ww_bipush 9 rfl (-2) (-2 : Int32) (by decide +kernel) (by decide) ?_
    cases hF
    exact ww_iret (by decide +kernel) rfl
