set_option maxHeartbeats 4000000 in
set_option maxRecDepth 100000 in
theorem C_Gate_play {l : Launch} {ca : Nat → ClassId} {a : Nat → Nat} {m0 : Mem}  {r : Int32} {m9 : Mem}  (hF : F_Gate_play m0 = some (r, m9)) : CT l ca a y_Gate_play b_Gate_play 1 (some .int) (RM 6 142) [.ref (a 0)] m0 (some (.int r)) m9 := by
  refine ct_of (own := R_Gate) (lv := [some (.ref (a 0))]) (plainFor_of_name (by decide)) rfl (cat_ok rfl) (Nat.le_of_ble_eq_true rfl) rfl ?_
  unfold F_Gate_play at hF
  refine ww_aload_0 1 rfl (by decide +kernel) ?_
  refine ww_getr 4 rfl 0 5 45 11 (by decide +kernel) rfl k_Gate_45 (by decide) (by decide) rfl rfl (by omega) ?_
  refine ww_aload_0 5 rfl (by decide +kernel) ?_
  refine ww_getr 8 rfl 0 4 38 13 (by decide +kernel) rfl k_Gate_38 (by decide) (by decide) rfl rfl (by omega) ?_
  refine ww_aload_0 9 rfl (by decide +kernel) ?_
  refine ww_getr 12 rfl 0 1 18 3 (by decide +kernel) rfl k_Gate_18 (by decide) (by decide) rfl rfl (by omega) ?_
  obtain ⟨r2, m3, h1, hF⟩ := cal_at hF
  refine ww_cV2i 15 rfl 4 135 (by decide +kernel) mf_Player_playNext k_Gate_135 rfl (by decide) rfl ⟨by decide, by decide⟩ ⟨rfl, rfl⟩ (Nat.le_of_ble_eq_true rfl) (C_Player_playNext rfl h1) ?_
  cases hF
  exact ww_iret (by decide +kernel) rfl
set_option maxHeartbeats 4000000 in
set_option maxRecDepth 100000 in
theorem C_Gate_output {l : Launch} {ca : Nat → ClassId} {a : Nat → Nat} {m0 : Mem}  {r : Int32}  (hF : F_Gate_output m0 = some r) : CT l ca a y_Gate_output b_Gate_output 1 (some .int) (RM 1 20) [.ref (a 0)] m0 (some (.int r)) m0 := by
  refine ct_of (own := R_Gate) (lv := [some (.ref (a 0))]) (plainFor_of_name (by decide)) rfl (cat_ok rfl) (Nat.le_of_ble_eq_true rfl) rfl ?_
  unfold F_Gate_output at hF
  refine ww_aload_0 1 rfl (by decide +kernel) ?_
  refine ww_getr 4 rfl 0 1 18 3 (by decide +kernel) rfl k_Gate_18 (by decide) (by decide) rfl rfl (by omega) ?_
  obtain ⟨r2, h1, hF⟩ := rd_at hF
  refine ww_cV0i 7 rfl 5 84 (by decide +kernel) mf_Samples_size k_Gate_84 rfl (by decide) rfl ⟨by decide, by decide⟩ ⟨rfl, rfl⟩ (Nat.le_of_ble_eq_true rfl) (C_Samples_size rfl h1) ?_
  cases hF
  exact ww_iret (by decide +kernel) rfl
set_option maxHeartbeats 4000000 in
set_option maxRecDepth 100000 in
theorem C_Gate_sample {l : Launch} {ca : Nat → ClassId} {a : Nat → Nat} {m0 : Mem} {p1 : Int32} {r : Int32}  (hF : F_Gate_sample m0 p1 = some r) : CT l ca a y_Gate_sample b_Gate_sample 2 (some .int) (RM 1 21) [.ref (a 0), .int p1] m0 (some (.int r)) m0 := by
  refine ct_of (own := R_Gate) (lv := [some (.ref (a 0)), some (.int p1)]) (plainFor_of_name (by decide)) rfl (cat_ok rfl) (Nat.le_of_ble_eq_true rfl) rfl ?_
  unfold F_Gate_sample at hF
  refine ww_aload_0 1 rfl (by decide +kernel) ?_
  refine ww_getr 4 rfl 0 1 18 3 (by decide +kernel) rfl k_Gate_18 (by decide) (by decide) rfl rfl (by omega) ?_
  refine ww_iload_1 5 rfl (by decide +kernel) ?_
  obtain ⟨r2, h1, hF⟩ := rd_at hF
  refine ww_cV1i 8 rfl 5 139 (by decide +kernel) mf_Samples_get k_Gate_139 rfl (by decide) rfl ⟨by decide, by decide⟩ ⟨rfl, rfl⟩ (Nat.le_of_ble_eq_true rfl) (C_Samples_get rfl h1) ?_
  cases hF
  exact ww_iret (by decide +kernel) rfl
set_option maxHeartbeats 4000000 in
set_option maxRecDepth 100000 in
theorem C_Gate_pass {l : Launch} {ca : Nat → ClassId} {a : Nat → Nat} {m0 : Mem} {p1 : Int32} {r : Int32} {m9 : Mem}  (hF : F_Gate_pass m0 p1 = some (r, m9)) : CT l ca a y_Gate_pass b_Gate_pass 2 (some .boolean) (RM 2 47) [.ref (a 0), .int p1] m0 (some (.int r)) m9 := by
  refine ct_of (own := R_Gate) (lv := [some (.ref (a 0)), some (.int p1)]) (plainFor_of_name (by decide)) rfl (cat_ok rfl) (Nat.le_of_ble_eq_true rfl) rfl ?_
  unfold F_Gate_pass at hF
  refine ww_iload_1 1 rfl (by decide +kernel) ?_
  refine ww_if_lt 4 rfl (25) 26 (by decide +kernel) (by decide) (fun h => ?_) (fun h => ?_)
  · rw [if_pos h] at hF
    refine ww_iconst 27 rfl (0) (0 : Int32) (by decide +kernel) (by decide) ?_
    cases hF
    exact ww_zret (by decide +kernel) rfl (by decide)
  · rw [if_neg h] at hF
    refine ww_iload_1 5 rfl (by decide +kernel) ?_
    refine ww_aload_0 6 rfl (by decide +kernel) ?_
    refine ww_getr 9 rfl 0 1 18 3 (by decide +kernel) rfl k_Gate_18 (by decide) (by decide) rfl rfl (by omega) ?_
    obtain ⟨r2, h1, hF⟩ := rd_at hF
    refine ww_cV0i 12 rfl 5 84 (by decide +kernel) mf_Samples_size k_Gate_84 rfl (by decide) rfl ⟨by decide, by decide⟩ ⟨rfl, rfl⟩ (Nat.le_of_ble_eq_true rfl) (C_Samples_size rfl h1) ?_
    refine ww_icmp_gt 15 rfl (14) 26 (by decide +kernel) (by decide) (fun h => ?_) (fun h => ?_)
    · rw [if_pos h] at hF
      refine ww_iconst 27 rfl (0) (0 : Int32) (by decide +kernel) (by decide) ?_
      cases hF
      exact ww_zret (by decide +kernel) rfl (by decide)
    · rw [if_neg h] at hF
      refine ww_aload_0 16 rfl (by decide +kernel) ?_
      refine ww_getr 19 rfl 0 0 14 1 (by decide +kernel) rfl k_Gate_14 (by decide) (by decide) rfl rfl (by omega) ?_
      refine ww_iload_1 20 rfl (by decide +kernel) ?_
      obtain ⟨r4, h3, hF⟩ := rd_at hF
      refine ww_cV1i 23 rfl 5 69 (by decide +kernel) mf_Samples_hasRoom k_Gate_69 rfl (by decide) rfl ⟨by decide, by decide⟩ ⟨rfl, rfl⟩ (Nat.le_of_ble_eq_true rfl) (C_Samples_hasRoom rfl h3) ?_
      refine ww_if_ne 26 rfl (5) 28 (by decide +kernel) (by decide) (fun h => ?_) (fun h => ?_)
      · rw [if_neg h] at hF
        refine ww_aload_0 29 rfl (by decide +kernel) ?_
        refine ww_getr 32 rfl 0 0 14 1 (by decide +kernel) rfl k_Gate_14 (by decide) (by decide) rfl rfl (by omega) ?_
        refine ww_aload_0 33 rfl (by decide +kernel) ?_
        refine ww_getr 36 rfl 0 1 18 3 (by decide +kernel) rfl k_Gate_18 (by decide) (by decide) rfl rfl (by omega) ?_
        refine ww_iload_1 37 rfl (by decide +kernel) ?_
        obtain ⟨m6, h5, hF⟩ := rd_at hF
        refine ww_cV2v 40 rfl 5 140 (by decide +kernel) mf_Samples_addFirstOf k_Gate_140 rfl (by decide) rfl ⟨by decide, by decide⟩ ⟨rfl, rfl⟩ (Nat.le_of_ble_eq_true rfl) (C_Samples_addFirstOf rfl rfl h5) ?_
        refine ww_aload_0 41 rfl (by decide +kernel) ?_
        refine ww_getr 44 rfl 0 1 18 3 (by decide +kernel) rfl k_Gate_18 (by decide) (by decide) rfl rfl (by omega) ?_
        refine ww_iload_1 45 rfl (by decide +kernel) ?_
        obtain ⟨m8, h7, hF⟩ := rd_at hF
        refine ww_cV1v 48 rfl 5 96 (by decide +kernel) mf_Samples_dropFirst k_Gate_96 rfl (by decide) rfl ⟨by decide, by decide⟩ ⟨rfl, rfl⟩ (Nat.le_of_ble_eq_true rfl) (C_Samples_dropFirst rfl h7) ?_
        refine ww_iconst 49 rfl (1) (1 : Int32) (by decide +kernel) (by decide) ?_
        cases hF
        exact ww_zret (by decide +kernel) rfl (by decide)
      · rw [if_pos h] at hF
        refine ww_iconst 27 rfl (0) (0 : Int32) (by decide +kernel) (by decide) ?_
        cases hF
        exact ww_zret (by decide +kernel) rfl (by decide)
set_option maxHeartbeats 4000000 in
set_option maxRecDepth 100000 in
theorem C_Buffer_size {l : Launch} {ca : Nat → ClassId} {a : Nat → Nat} {m0 : Mem}  {r : Int32}  (hF : F_Buffer_size m0 = some r) : CT l ca a y_Buffer_size b_Buffer_size 1 (some .int) (RM 0 0) [.ref (a 13)] m0 (some (.int r)) m0 := by
  refine ct_of (own := R_Buffer) (lv := [some (.ref (a 13))]) (plainFor_of_name (by decide)) rfl (cat_ok rfl) (Nat.le_of_ble_eq_true rfl) rfl ?_
  unfold F_Buffer_size at hF
  refine ww_aload_0 1 rfl (by decide +kernel) ?_
  refine ww_geti 4 rfl 2 4 30 (by decide +kernel) rfl k_Buffer_30 (by decide) (by decide) rfl rfl ?_
  cases hF
  exact ww_iret (by decide +kernel) rfl
set_option maxHeartbeats 4000000 in
set_option maxRecDepth 100000 in
theorem C_Buffer_nextSequence {l : Launch} {ca : Nat → ClassId} {a : Nat → Nat} {m0 : Mem}  {r : Int32}  (hF : F_Buffer_nextSequence m0 = some r) : CT l ca a y_Buffer_nextSequence b_Buffer_nextSequence 1 (some .int) (RM 0 0) [.ref (a 13)] m0 (some (.int r)) m0 := by
  refine ct_of (own := R_Buffer) (lv := [some (.ref (a 13))]) (plainFor_of_name (by decide)) rfl (cat_ok rfl) (Nat.le_of_ble_eq_true rfl) rfl ?_
  unfold F_Buffer_nextSequence at hF
  refine ww_aload_0 1 rfl (by decide +kernel) ?_
  refine ww_geti 4 rfl 2 3 26 (by decide +kernel) rfl k_Buffer_26 (by decide) (by decide) rfl rfl ?_
  refine ww_if_ne 7 rfl (7) 11 (by decide +kernel) (by decide) (fun h => ?_) (fun h => ?_)
  · rw [if_neg h] at hF
    refine ww_aload_0 12 rfl (by decide +kernel) ?_
    refine ww_geti 15 rfl 2 5 33 (by decide +kernel) rfl k_Buffer_33 (by decide) (by decide) rfl rfl ?_
    cases hF
    exact ww_iret (by decide +kernel) rfl
  · rw [if_pos h] at hF
    refine ww_iconst 8 rfl (-1) (-1 : Int32) (by decide +kernel) (by decide) ?_
    refine ww_goto (7) 15 (by decide +kernel) (by decide) ?_
    cases hF
    exact ww_iret (by decide +kernel) rfl
set_option maxHeartbeats 4000000 in
set_option maxRecDepth 100000 in
theorem C_Buffer_refusals {l : Launch} {ca : Nat → ClassId} {a : Nat → Nat} {m0 : Mem} {p1 : Int32} {r : Int32}  (hF : F_Buffer_refusals m0 p1 = some r) : CT l ca a y_Buffer_refusals b_Buffer_refusals 2 (some .int) (RM 0 0) [.ref (a 13), .int p1] m0 (some (.int r)) m0 := by
  refine ct_of (own := R_Buffer) (lv := [some (.ref (a 13)), some (.int p1)]) (plainFor_of_name (by decide)) rfl (cat_ok rfl) (Nat.le_of_ble_eq_true rfl) rfl ?_
  unfold F_Buffer_refusals at hF
  refine ww_iload_1 1 rfl (by decide +kernel) ?_
  refine ww_bipush 3 rfl (-7) (-7 : Int32) (by decide +kernel) (by decide) ?_
  refine ww_icmp_lt 6 rfl (17) 20 (by decide +kernel) (by decide) (fun h => ?_) (fun h => ?_)
  · rw [if_pos h] at hF
    refine ww_iconst 21 rfl (0) (0 : Int32) (by decide +kernel) (by decide) ?_
    cases hF
    exact ww_iret (by decide +kernel) rfl
  · rw [if_neg h] at hF
    refine ww_iload_1 7 rfl (by decide +kernel) ?_
    refine ww_if_ge 10 rfl (13) 20 (by decide +kernel) (by decide) (fun h => ?_) (fun h => ?_)
    · rw [if_pos h] at hF
      refine ww_iconst 21 rfl (0) (0 : Int32) (by decide +kernel) (by decide) ?_
      cases hF
      exact ww_iret (by decide +kernel) rfl
    · rw [if_neg h] at hF
      refine ww_aload_0 11 rfl (by decide +kernel) ?_
      refine ww_getr 14 rfl 2 2 22 16 (by decide +kernel) rfl k_Buffer_22 (by decide) (by decide) rfl rfl (by omega) ?_
      refine ww_iload_1 15 rfl (by decide +kernel) ?_
      refine ww_ineg 16 rfl (by decide +kernel) ?_
      obtain ⟨g1, hF⟩ := gd_at hF
      refine ww_iald 17 rfl (by decide +kernel) rfl g1 ?_
      refine ww_goto (4) 21 (by decide +kernel) (by decide) ?_
      cases hF
      exact ww_iret (by decide +kernel) rfl
set_option maxHeartbeats 4000000 in
set_option maxRecDepth 100000 in
theorem C_Player_lostPackets {l : Launch} {ca : Nat → ClassId} {a : Nat → Nat} {m0 : Mem}  {r : Int32}  (hF : F_Player_lostPackets m0 = some r) : CT l ca a y_Player_lostPackets b_Player_lostPackets 1 (some .int) (RM 0 0) [.ref (a 11)] m0 (some (.int r)) m0 := by
  refine ct_of (own := R_Player) (lv := [some (.ref (a 11))]) (plainFor_of_name (by decide)) rfl (cat_ok rfl) (Nat.le_of_ble_eq_true rfl) rfl ?_
  unfold F_Player_lostPackets at hF
  refine ww_aload_0 1 rfl (by decide +kernel) ?_
  refine ww_geti 4 rfl 4 4 34 (by decide +kernel) rfl k_Player_34 (by decide) (by decide) rfl rfl ?_
  cases hF
  exact ww_iret (by decide +kernel) rfl
set_option maxHeartbeats 4000000 in
set_option maxRecDepth 100000 in
theorem C_Player_jumps {l : Launch} {ca : Nat → ClassId} {a : Nat → Nat} {m0 : Mem}  {r : Int32}  (hF : F_Player_jumps m0 = some r) : CT l ca a y_Player_jumps b_Player_jumps 1 (some .int) (RM 0 0) [.ref (a 11)] m0 (some (.int r)) m0 := by
  refine ct_of (own := R_Player) (lv := [some (.ref (a 11))]) (plainFor_of_name (by decide)) rfl (cat_ok rfl) (Nat.le_of_ble_eq_true rfl) rfl ?_
  unfold F_Player_jumps at hF
  refine ww_aload_0 1 rfl (by decide +kernel) ?_
  refine ww_geti 4 rfl 4 5 37 (by decide +kernel) rfl k_Player_37 (by decide) (by decide) rfl rfl ?_
  cases hF
  exact ww_iret (by decide +kernel) rfl
set_option maxHeartbeats 4000000 in
set_option maxRecDepth 100000 in
theorem C_Sender_value {l : Launch} {ca : Nat → ClassId} {a : Nat → Nat} {m0 : Mem}  {r : Int32}  (hF : F_Sender_value m0 = some r) : CT l ca a y_Sender_value b_Sender_value 1 (some .int) (RM 1 20) [.ref (a 9)] m0 (some (.int r)) m0 := by
  refine ct_of (own := R_Sender) (lv := [some (.ref (a 9))]) (plainFor_of_name (by decide)) rfl (cat_ok rfl) (Nat.le_of_ble_eq_true rfl) rfl ?_
  unfold F_Sender_value at hF
  refine ww_aload_0 1 rfl (by decide +kernel) ?_
  refine ww_getr 4 rfl 6 3 24 10 (by decide +kernel) rfl k_Sender_24 (by decide) (by decide) rfl rfl (by omega) ?_
  obtain ⟨r2, h1, hF⟩ := rd_at hF
  refine ww_cV0i 7 rfl 1 28 (by decide +kernel) mf_Adaptive_value k_Sender_28 rfl (by decide) rfl ⟨by decide, by decide⟩ ⟨rfl, rfl⟩ (Nat.le_of_ble_eq_true rfl) (C_Adaptive_value rfl h1) ?_
  cases hF
  exact ww_iret (by decide +kernel) rfl
set_option maxHeartbeats 4000000 in
set_option maxRecDepth 100000 in
theorem C_Sender_index {l : Launch} {ca : Nat → ClassId} {a : Nat → Nat} {m0 : Mem}  {r : Int32}  (hF : F_Sender_index m0 = some r) : CT l ca a y_Sender_index b_Sender_index 1 (some .int) (RM 1 20) [.ref (a 9)] m0 (some (.int r)) m0 := by
  refine ct_of (own := R_Sender) (lv := [some (.ref (a 9))]) (plainFor_of_name (by decide)) rfl (cat_ok rfl) (Nat.le_of_ble_eq_true rfl) rfl ?_
  unfold F_Sender_index at hF
  refine ww_aload_0 1 rfl (by decide +kernel) ?_
  refine ww_getr 4 rfl 6 3 24 10 (by decide +kernel) rfl k_Sender_24 (by decide) (by decide) rfl rfl (by omega) ?_
  obtain ⟨r2, h1, hF⟩ := rd_at hF
  refine ww_cV0i 7 rfl 1 32 (by decide +kernel) mf_Adaptive_index k_Sender_32 rfl (by decide) rfl ⟨by decide, by decide⟩ ⟨rfl, rfl⟩ (Nat.le_of_ble_eq_true rfl) (C_Adaptive_index rfl h1) ?_
  cases hF
  exact ww_iret (by decide +kernel) rfl
set_option maxHeartbeats 4000000 in
set_option maxRecDepth 100000 in
theorem C_Sender_nextSequence {l : Launch} {ca : Nat → ClassId} {a : Nat → Nat} {m0 : Mem}  {r : Int32}  (hF : F_Sender_nextSequence m0 = some r) : CT l ca a y_Sender_nextSequence b_Sender_nextSequence 1 (some .int) (RM 0 0) [.ref (a 9)] m0 (some (.int r)) m0 := by
  refine ct_of (own := R_Sender) (lv := [some (.ref (a 9))]) (plainFor_of_name (by decide)) rfl (cat_ok rfl) (Nat.le_of_ble_eq_true rfl) rfl ?_
  unfold F_Sender_nextSequence at hF
  refine ww_aload_0 1 rfl (by decide +kernel) ?_
  refine ww_geti 4 rfl 6 0 9 (by decide +kernel) rfl k_Sender_9 (by decide) (by decide) rfl rfl ?_
  cases hF
  exact ww_iret (by decide +kernel) rfl
set_option maxHeartbeats 4000000 in
set_option maxRecDepth 100000 in
theorem C_Gate_figure {l : Launch} {ca : Nat → ClassId} {a : Nat → Nat} {m0 : Mem} {p1 : Int32} {r : Int32}  (hF : F_Gate_figure m0 p1 = some r) : CT l ca a y_Gate_figure b_Gate_figure 2 (some .int) (RM 2 40) [.ref (a 0), .int p1] m0 (some (.int r)) m0 := by
  refine ct_of (own := R_Gate) (lv := [some (.ref (a 0)), some (.int p1)]) (plainFor_of_name (by decide)) rfl (cat_ok rfl) (Nat.le_of_ble_eq_true rfl) rfl ?_
  unfold F_Gate_figure at hF
  refine ww_iload_1 1 rfl (by decide +kernel) ?_
  by_cases h0 : p1 = (0 : Int32)
  · rw [if_pos h0] at hF
    refine ww_swIn (180) (0) (12) #[67, 75, 83, 91, 100, 110, 120, 130, 140, 148, 156, 164, 172] 67 (0 : Int32) (67) 68 (by decide +kernel) h0 (by decide) (by decide) (by decide) (by decide) ?_
    refine ww_aload_0 69 rfl (by decide +kernel) ?_
    refine ww_getr 72 rfl 0 4 38 13 (by decide +kernel) rfl k_Gate_38 (by decide) (by decide) rfl rfl (by omega) ?_
    obtain ⟨r26, h25, hF⟩ := rd_at hF
    refine ww_cV0i 75 rfl 2 144 (by decide +kernel) mf_Buffer_state k_Gate_144 rfl (by decide) rfl ⟨by decide, by decide⟩ ⟨rfl, rfl⟩ (Nat.le_of_ble_eq_true rfl) (C_Buffer_state h25) ?_
    cases hF
    exact ww_iret (by decide +kernel) rfl
  · rw [if_neg h0] at hF
    by_cases h1 : p1 = (1 : Int32)
    · rw [if_pos h1] at hF
      refine ww_swIn (180) (0) (12) #[67, 75, 83, 91, 100, 110, 120, 130, 140, 148, 156, 164, 172] 67 (1 : Int32) (75) 76 (by decide +kernel) h1 (by decide) (by decide) (by decide) (by decide) ?_
      refine ww_aload_0 77 rfl (by decide +kernel) ?_
      refine ww_getr 80 rfl 0 4 38 13 (by decide +kernel) rfl k_Gate_38 (by decide) (by decide) rfl rfl (by omega) ?_
      obtain ⟨r24, h23, hF⟩ := rd_at hF
      refine ww_cV0i 83 rfl 2 147 (by decide +kernel) mf_Buffer_size k_Gate_147 rfl (by decide) rfl ⟨by decide, by decide⟩ ⟨rfl, rfl⟩ (Nat.le_of_ble_eq_true rfl) (C_Buffer_size h23) ?_
      cases hF
      exact ww_iret (by decide +kernel) rfl
    · rw [if_neg h1] at hF
      by_cases h2 : p1 = (2 : Int32)
      · rw [if_pos h2] at hF
        refine ww_swIn (180) (0) (12) #[67, 75, 83, 91, 100, 110, 120, 130, 140, 148, 156, 164, 172] 67 (2 : Int32) (83) 84 (by decide +kernel) h2 (by decide) (by decide) (by decide) (by decide) ?_
        refine ww_aload_0 85 rfl (by decide +kernel) ?_
        refine ww_getr 88 rfl 0 4 38 13 (by decide +kernel) rfl k_Gate_38 (by decide) (by decide) rfl rfl (by omega) ?_
        obtain ⟨r22, h21, hF⟩ := rd_at hF
        refine ww_cV0i 91 rfl 2 148 (by decide +kernel) mf_Buffer_nextSequence k_Gate_148 rfl (by decide) rfl ⟨by decide, by decide⟩ ⟨rfl, rfl⟩ (Nat.le_of_ble_eq_true rfl) (C_Buffer_nextSequence h21) ?_
        cases hF
        exact ww_iret (by decide +kernel) rfl
      · rw [if_neg h2] at hF
        by_cases h3 : p1 = (3 : Int32)
        · rw [if_pos h3] at hF
          refine ww_swIn (180) (0) (12) #[67, 75, 83, 91, 100, 110, 120, 130, 140, 148, 156, 164, 172] 67 (3 : Int32) (91) 92 (by decide +kernel) h3 (by decide) (by decide) (by decide) (by decide) ?_
          refine ww_aload_0 93 rfl (by decide +kernel) ?_
          refine ww_getr 96 rfl 0 4 38 13 (by decide +kernel) rfl k_Gate_38 (by decide) (by decide) rfl rfl (by omega) ?_
          refine ww_iconst 97 rfl (-1) (-1 : Int32) (by decide +kernel) (by decide) ?_
          obtain ⟨r20, h19, hF⟩ := rd_at hF
          refine ww_cV1i 100 rfl 2 151 (by decide +kernel) mf_Buffer_refusals k_Gate_151 rfl (by decide) rfl ⟨by decide, by decide⟩ ⟨rfl, rfl⟩ (Nat.le_of_ble_eq_true rfl) (C_Buffer_refusals h19) ?_
          cases hF
          exact ww_iret (by decide +kernel) rfl
        · rw [if_neg h3] at hF
          by_cases h4 : p1 = (4 : Int32)
          · rw [if_pos h4] at hF
            refine ww_swIn (180) (0) (12) #[67, 75, 83, 91, 100, 110, 120, 130, 140, 148, 156, 164, 172] 67 (4 : Int32) (100) 101 (by decide +kernel) h4 (by decide) (by decide) (by decide) (by decide) ?_
            refine ww_aload_0 102 rfl (by decide +kernel) ?_
            refine ww_getr 105 rfl 0 4 38 13 (by decide +kernel) rfl k_Gate_38 (by decide) (by decide) rfl rfl (by omega) ?_
            refine ww_bipush 107 rfl (-4) (-4 : Int32) (by decide +kernel) (by decide) ?_
            obtain ⟨r18, h17, hF⟩ := rd_at hF
            refine ww_cV1i 110 rfl 2 151 (by decide +kernel) mf_Buffer_refusals k_Gate_151 rfl (by decide) rfl ⟨by decide, by decide⟩ ⟨rfl, rfl⟩ (Nat.le_of_ble_eq_true rfl) (C_Buffer_refusals h17) ?_
            cases hF
            exact ww_iret (by decide +kernel) rfl
          · rw [if_neg h4] at hF
            by_cases h5 : p1 = (5 : Int32)
            · rw [if_pos h5] at hF
              refine ww_swIn (180) (0) (12) #[67, 75, 83, 91, 100, 110, 120, 130, 140, 148, 156, 164, 172] 67 (5 : Int32) (110) 111 (by decide +kernel) h5 (by decide) (by decide) (by decide) (by decide) ?_
              refine ww_aload_0 112 rfl (by decide +kernel) ?_
              refine ww_getr 115 rfl 0 4 38 13 (by decide +kernel) rfl k_Gate_38 (by decide) (by decide) rfl rfl (by omega) ?_
              refine ww_bipush 117 rfl (-5) (-5 : Int32) (by decide +kernel) (by decide) ?_
              obtain ⟨r16, h15, hF⟩ := rd_at hF
              refine ww_cV1i 120 rfl 2 151 (by decide +kernel) mf_Buffer_refusals k_Gate_151 rfl (by decide) rfl ⟨by decide, by decide⟩ ⟨rfl, rfl⟩ (Nat.le_of_ble_eq_true rfl) (C_Buffer_refusals h15) ?_
              cases hF
              exact ww_iret (by decide +kernel) rfl
            · rw [if_neg h5] at hF
              by_cases h6 : p1 = (6 : Int32)
              · rw [if_pos h6] at hF
                refine ww_swIn (180) (0) (12) #[67, 75, 83, 91, 100, 110, 120, 130, 140, 148, 156, 164, 172] 67 (6 : Int32) (120) 121 (by decide +kernel) h6 (by decide) (by decide) (by decide) (by decide) ?_
                refine ww_aload_0 122 rfl (by decide +kernel) ?_
                refine ww_getr 125 rfl 0 4 38 13 (by decide +kernel) rfl k_Gate_38 (by decide) (by decide) rfl rfl (by omega) ?_
                refine ww_bipush 127 rfl (-6) (-6 : Int32) (by decide +kernel) (by decide) ?_
                obtain ⟨r14, h13, hF⟩ := rd_at hF
                refine ww_cV1i 130 rfl 2 151 (by decide +kernel) mf_Buffer_refusals k_Gate_151 rfl (by decide) rfl ⟨by decide, by decide⟩ ⟨rfl, rfl⟩ (Nat.le_of_ble_eq_true rfl) (C_Buffer_refusals h13) ?_
                cases hF
                exact ww_iret (by decide +kernel) rfl
              · rw [if_neg h6] at hF
                by_cases h7 : p1 = (7 : Int32)
                · rw [if_pos h7] at hF
                  refine ww_swIn (180) (0) (12) #[67, 75, 83, 91, 100, 110, 120, 130, 140, 148, 156, 164, 172] 67 (7 : Int32) (130) 131 (by decide +kernel) h7 (by decide) (by decide) (by decide) (by decide) ?_
                  refine ww_aload_0 132 rfl (by decide +kernel) ?_
                  refine ww_getr 135 rfl 0 4 38 13 (by decide +kernel) rfl k_Gate_38 (by decide) (by decide) rfl rfl (by omega) ?_
                  refine ww_bipush 137 rfl (-7) (-7 : Int32) (by decide +kernel) (by decide) ?_
                  obtain ⟨r12, h11, hF⟩ := rd_at hF
                  refine ww_cV1i 140 rfl 2 151 (by decide +kernel) mf_Buffer_refusals k_Gate_151 rfl (by decide) rfl ⟨by decide, by decide⟩ ⟨rfl, rfl⟩ (Nat.le_of_ble_eq_true rfl) (C_Buffer_refusals h11) ?_
                  cases hF
                  exact ww_iret (by decide +kernel) rfl
                · rw [if_neg h7] at hF
                  by_cases h8 : p1 = (8 : Int32)
                  · rw [if_pos h8] at hF
                    refine ww_swIn (180) (0) (12) #[67, 75, 83, 91, 100, 110, 120, 130, 140, 148, 156, 164, 172] 67 (8 : Int32) (140) 141 (by decide +kernel) h8 (by decide) (by decide) (by decide) (by decide) ?_
                    refine ww_aload_0 142 rfl (by decide +kernel) ?_
                    refine ww_getr 145 rfl 0 5 45 11 (by decide +kernel) rfl k_Gate_45 (by decide) (by decide) rfl rfl (by omega) ?_
                    obtain ⟨r10, h9, hF⟩ := rd_at hF
                    refine ww_cV0i 148 rfl 4 154 (by decide +kernel) mf_Player_lostPackets k_Gate_154 rfl (by decide) rfl ⟨by decide, by decide⟩ ⟨rfl, rfl⟩ (Nat.le_of_ble_eq_true rfl) (C_Player_lostPackets h9) ?_
                    cases hF
                    exact ww_iret (by decide +kernel) rfl
                  · rw [if_neg h8] at hF
                    by_cases h9 : p1 = (9 : Int32)
                    · rw [if_pos h9] at hF
                      refine ww_swIn (180) (0) (12) #[67, 75, 83, 91, 100, 110, 120, 130, 140, 148, 156, 164, 172] 67 (9 : Int32) (148) 149 (by decide +kernel) h9 (by decide) (by decide) (by decide) (by decide) ?_
                      refine ww_aload_0 150 rfl (by decide +kernel) ?_
                      refine ww_getr 153 rfl 0 5 45 11 (by decide +kernel) rfl k_Gate_45 (by decide) (by decide) rfl rfl (by omega) ?_
                      obtain ⟨r8, h7, hF⟩ := rd_at hF
                      refine ww_cV0i 156 rfl 4 157 (by decide +kernel) mf_Player_jumps k_Gate_157 rfl (by decide) rfl ⟨by decide, by decide⟩ ⟨rfl, rfl⟩ (Nat.le_of_ble_eq_true rfl) (C_Player_jumps h7) ?_
                      cases hF
                      exact ww_iret (by decide +kernel) rfl
                    · rw [if_neg h9] at hF
                      by_cases h10 : p1 = (10 : Int32)
                      · rw [if_pos h10] at hF
                        refine ww_swIn (180) (0) (12) #[67, 75, 83, 91, 100, 110, 120, 130, 140, 148, 156, 164, 172] 67 (10 : Int32) (156) 157 (by decide +kernel) h10 (by decide) (by decide) (by decide) (by decide) ?_
                        refine ww_aload_0 158 rfl (by decide +kernel) ?_
                        refine ww_getr 161 rfl 0 3 31 9 (by decide +kernel) rfl k_Gate_31 (by decide) (by decide) rfl rfl (by omega) ?_
                        obtain ⟨r6, h5, hF⟩ := rd_at hF
                        refine ww_cV0i 164 rfl 6 160 (by decide +kernel) mf_Sender_value k_Gate_160 rfl (by decide) rfl ⟨by decide, by decide⟩ ⟨rfl, rfl⟩ (Nat.le_of_ble_eq_true rfl) (C_Sender_value h5) ?_
                        cases hF
                        exact ww_iret (by decide +kernel) rfl
                      · rw [if_neg h10] at hF
                        by_cases h11 : p1 = (11 : Int32)
                        · rw [if_pos h11] at hF
                          refine ww_swIn (180) (0) (12) #[67, 75, 83, 91, 100, 110, 120, 130, 140, 148, 156, 164, 172] 67 (11 : Int32) (164) 165 (by decide +kernel) h11 (by decide) (by decide) (by decide) (by decide) ?_
                          refine ww_aload_0 166 rfl (by decide +kernel) ?_
                          refine ww_getr 169 rfl 0 3 31 9 (by decide +kernel) rfl k_Gate_31 (by decide) (by decide) rfl rfl (by omega) ?_
                          obtain ⟨r4, h3, hF⟩ := rd_at hF
                          refine ww_cV0i 172 rfl 6 163 (by decide +kernel) mf_Sender_index k_Gate_163 rfl (by decide) rfl ⟨by decide, by decide⟩ ⟨rfl, rfl⟩ (Nat.le_of_ble_eq_true rfl) (C_Sender_index h3) ?_
                          cases hF
                          exact ww_iret (by decide +kernel) rfl
                        · rw [if_neg h11] at hF
                          by_cases h12 : p1 = (12 : Int32)
                          · rw [if_pos h12] at hF
                            refine ww_swIn (180) (0) (12) #[67, 75, 83, 91, 100, 110, 120, 130, 140, 148, 156, 164, 172] 67 (12 : Int32) (172) 173 (by decide +kernel) h12 (by decide) (by decide) (by decide) (by decide) ?_
                            refine ww_aload_0 174 rfl (by decide +kernel) ?_
                            refine ww_getr 177 rfl 0 3 31 9 (by decide +kernel) rfl k_Gate_31 (by decide) (by decide) rfl rfl (by omega) ?_
                            obtain ⟨r2, h1, hF⟩ := rd_at hF
                            refine ww_cV0i 180 rfl 6 166 (by decide +kernel) mf_Sender_nextSequence k_Gate_166 rfl (by decide) rfl ⟨by decide, by decide⟩ ⟨rfl, rfl⟩ (Nat.le_of_ble_eq_true rfl) (C_Sender_nextSequence h1) ?_
                            cases hF
                            exact ww_iret (by decide +kernel) rfl
                          · rw [if_neg h12] at hF
                            refine ww_swOut (180) (0) (12) #[67, 75, 83, 91, 100, 110, 120, 130, 140, 148, 156, 164, 172] 67 181 (by decide +kernel) ?_ (by decide) ?_
                            · have := sw_ne h0 (n := 0) (by decide)
                              have := sw_ne h1 (n := 1) (by decide)
                              have := sw_ne h2 (n := 2) (by decide)
                              have := sw_ne h3 (n := 3) (by decide)
                              have := sw_ne h4 (n := 4) (by decide)
                              have := sw_ne h5 (n := 5) (by decide)
                              have := sw_ne h6 (n := 6) (by decide)
                              have := sw_ne h7 (n := 7) (by decide)
                              have := sw_ne h8 (n := 8) (by decide)
                              have := sw_ne h9 (n := 9) (by decide)
                              have := sw_ne h10 (n := 10) (by decide)
                              have := sw_ne h11 (n := 11) (by decide)
                              have := sw_ne h12 (n := 12) (by decide)
                              omega
                            · refine ww_iconst 182 rfl (-1) (-1 : Int32) (by decide +kernel) (by decide) ?_
                              cases hF
                              exact ww_iret (by decide +kernel) rfl
set_option maxHeartbeats 4000000 in
set_option maxRecDepth 100000 in
theorem C_Model_isSample {l : Launch} {ca : Nat → ClassId} {a : Nat → Nat} {m0 : Mem} {p0 : Int32} {r : Int32}  (hF : F_Model_isSample p0 = some r) : CT l ca a y_Model_isSample b_Model_isSample 1 (some .boolean) (RM 0 0) [.int p0] m0 (some (.int r)) m0 := by
  refine ct_of (own := R_Model) (lv := [some (.int p0)]) (plainFor_of_name (by decide)) rfl (cat_ok rfl) (Nat.le_of_ble_eq_true rfl) rfl ?_
  unfold F_Model_isSample at hF
  refine ww_iload_0 1 rfl (by decide +kernel) ?_
  refine ww_sipush 4 rfl (-32768) (-32768 : Int32) (by decide +kernel) (by decide) ?_
  refine ww_icmp_lt 7 rfl (14) 18 (by decide +kernel) (by decide) (fun h => ?_) (fun h => ?_)
  · rw [if_pos h] at hF
    refine ww_iconst 19 rfl (0) (0 : Int32) (by decide +kernel) (by decide) ?_
    cases hF
    exact ww_zret (by decide +kernel) rfl (by decide)
  · rw [if_neg h] at hF
    refine ww_iload_0 8 rfl (by decide +kernel) ?_
    refine ww_sipush 11 rfl (32767) (32767 : Int32) (by decide +kernel) (by decide) ?_
    refine ww_icmp_gt 14 rfl (7) 18 (by decide +kernel) (by decide) (fun h => ?_) (fun h => ?_)
    · rw [if_pos h] at hF
      refine ww_iconst 19 rfl (0) (0 : Int32) (by decide +kernel) (by decide) ?_
      cases hF
      exact ww_zret (by decide +kernel) rfl (by decide)
    · rw [if_neg h] at hF
      refine ww_iconst 15 rfl (1) (1 : Int32) (by decide +kernel) (by decide) ?_
      refine ww_goto (4) 19 (by decide +kernel) (by decide) ?_
      cases hF
      exact ww_zret (by decide +kernel) rfl (by decide)
