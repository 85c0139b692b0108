set_option maxHeartbeats 4000000 in
set_option maxRecDepth 100000 in
theorem C_Buffer_isReady {l : Launch} {ca : Nat → ClassId} {a : Nat → Nat} {m0 : Mem}  {r : Int32}  (hF : F_Buffer_isReady m0 = some r) : CT l ca a y_Buffer_isReady b_Buffer_isReady 1 (some .boolean) (RM 0 0) [.ref (a 13)] m0 (some (.int r)) m0 := by
  refine ct_of (own := R_Buffer) (lv := [some (.ref (a 13))]) (plainFor_of_name (by decide)) rfl (cat_ok rfl) (Nat.le_of_ble_eq_true rfl) rfl ?_
  unfold F_Buffer_isReady at hF
  refine ww_aload_0 1 rfl (by decide +kernel) ?_
  refine ww_geti 4 rfl 2 3 26 (by decide +kernel) rfl k_Buffer_26 (by decide) (by decide) rfl rfl ?_
  refine ww_iconst 5 rfl (2) (2 : Int32) (by decide +kernel) (by decide) ?_
  refine ww_icmp_eq 8 rfl (22) 27 (by decide +kernel) (by decide) (fun h => ?_) (fun h => ?_)
  · rw [if_pos h] at hF
    refine ww_iconst 28 rfl (1) (1 : Int32) (by decide +kernel) (by decide) ?_
    refine ww_goto (4) 32 (by decide +kernel) (by decide) ?_
    cases hF
    exact ww_zret (by decide +kernel) rfl (by decide)
  · rw [if_neg h] at hF
    refine ww_aload_0 9 rfl (by decide +kernel) ?_
    refine ww_geti 12 rfl 2 3 26 (by decide +kernel) rfl k_Buffer_26 (by decide) (by decide) rfl rfl ?_
    refine ww_iconst 13 rfl (1) (1 : Int32) (by decide +kernel) (by decide) ?_
    refine ww_icmp_ne 16 rfl (18) 31 (by decide +kernel) (by decide) (fun h => ?_) (fun h => ?_)
    · rw [if_neg h] at hF
      refine ww_iconst 32 rfl (0) (0 : Int32) (by decide +kernel) (by decide) ?_
      cases hF
      exact ww_zret (by decide +kernel) rfl (by decide)
    · rw [if_pos h] at hF
      refine ww_aload_0 17 rfl (by decide +kernel) ?_
      refine ww_geti 20 rfl 2 4 30 (by decide +kernel) rfl k_Buffer_30 (by decide) (by decide) rfl rfl ?_
      refine ww_aload_0 21 rfl (by decide +kernel) ?_
      refine ww_geti 24 rfl 2 7 39 (by decide +kernel) rfl k_Buffer_39 (by decide) (by decide) rfl rfl ?_
      refine ww_icmp_lt 27 rfl (7) 31 (by decide +kernel) (by decide) (fun h => ?_) (fun h => ?_)
      · rw [if_pos h] at hF
        refine ww_iconst 32 rfl (0) (0 : Int32) (by decide +kernel) (by decide) ?_
        cases hF
        exact ww_zret (by decide +kernel) rfl (by decide)
      · rw [if_neg h] at hF
        refine ww_iconst 28 rfl (1) (1 : Int32) (by decide +kernel) (by decide) ?_
        refine ww_goto (4) 32 (by decide +kernel) (by decide) ?_
        cases hF
        exact ww_zret (by decide +kernel) rfl (by decide)
set_option maxHeartbeats 4000000 in
set_option maxRecDepth 100000 in
theorem C_Buffer_due {l : Launch} {ca : Nat → ClassId} {a : Nat → Nat} {m0 : Mem}  {r : Option Nat}  (hF : F_Buffer_due m0 = some r) : CT l ca a y_Buffer_due b_Buffer_due 2 (some (.object R_Packet)) (RM 2 42) [.ref (a 13)] m0 (some (rvq a r)) m0 := by
  refine ct_of (own := R_Buffer) (lv := [some (.ref (a 13)), none]) (plainFor_of_name (by decide)) rfl (cat_ok rfl) (Nat.le_of_ble_eq_true rfl) rfl ?_
  unfold F_Buffer_due at hF
  refine ww_aload_0 1 rfl (by decide +kernel) ?_
  refine ww_geti 4 rfl 2 5 33 (by decide +kernel) rfl k_Buffer_33 (by decide) (by decide) rfl rfl ?_
  obtain ⟨r2, h1, hF⟩ := rd_at hF
  refine ww_cS1i 7 rfl 52 (by decide +kernel) mf_Buffer_placeOf k_Buffer_52 ⟨by decide, by decide⟩ ⟨rfl, rfl⟩ (Nat.le_of_ble_eq_true rfl) (C_Buffer_placeOf h1) ?_
  refine ww_istore_1 8 rfl (by decide +kernel) (by decide) ?_
  refine ww_aload_0 9 rfl (by decide +kernel) ?_
  refine ww_getr 12 rfl 2 1 18 15 (by decide +kernel) rfl k_Buffer_18 (by decide) (by decide) rfl rfl (by omega) ?_
  refine ww_iload_1 13 rfl (by decide +kernel) ?_
  obtain ⟨g3, hF⟩ := gd_at hF
  refine ww_zald 14 rfl (by decide +kernel) rfl g3 ?_
  refine ww_if_eq 17 rfl (12) 26 (by decide +kernel) (by decide) (fun h => ?_) (fun h => ?_)
  · rw [if_pos h] at hF
    refine ww_null 27 rfl (by decide +kernel) ?_
    cases hF
    exact ww_aretN (by decide +kernel) rfl
  · rw [if_neg h] at hF
    refine ww_aload_0 18 rfl (by decide +kernel) ?_
    refine ww_getr 21 rfl 2 0 13 14 (by decide +kernel) rfl k_Buffer_13 (by decide) (by decide) rfl rfl (by omega) ?_
    refine ww_iload_1 22 rfl (by decide +kernel) ?_
    obtain ⟨g4, hF⟩ := gd_at hF
    refine ww_aald 23 rfl (by decide +kernel) rfl g4 ?_
    obtain ⟨g5, hF⟩ := gp_at hF
    refine ww_goto (4) 27 (by decide +kernel) (by decide) ?_
    cases hF
    exact ww_aret (by decide +kernel) rfl
set_option maxHeartbeats 4000000 in
set_option maxRecDepth 100000 in
theorem C_Buffer_state {l : Launch} {ca : Nat → ClassId} {a : Nat → Nat} {m0 : Mem}  {r : Int32}  (hF : F_Buffer_state m0 = some r) : CT l ca a y_Buffer_state b_Buffer_state 1 (some .int) (RM 0 0) [.ref (a 13)] m0 (some (.int r)) m0 := by
  refine ct_of (own := R_Buffer) (lv := [some (.ref (a 13))]) (plainFor_of_name (by decide)) rfl (cat_ok rfl) (Nat.le_of_ble_eq_true rfl) rfl ?_
  unfold F_Buffer_state at hF
  refine ww_aload_0 1 rfl (by decide +kernel) ?_
  refine ww_geti 4 rfl 2 3 26 (by decide +kernel) rfl k_Buffer_26 (by decide) (by decide) rfl rfl ?_
  cases hF
  exact ww_iret (by decide +kernel) rfl
set_option maxHeartbeats 4000000 in
set_option maxRecDepth 100000 in
theorem C_Packet_hasMark {l : Launch} {ca : Nat → ClassId} {a : Nat → Nat} {m0 : Mem} {t : Nat} {r : Int32} (ht : kd t = 3) (hF : F_Packet_hasMark m0 t = some r) : CT l ca a y_Packet_hasMark b_Packet_hasMark 1 (some .boolean) (RM 0 0) [.ref (a t)] m0 (some (.int r)) m0 := by
  refine ct_of (own := R_Packet) (lv := [some (.ref (a t))]) (plainFor_of_name (by decide)) rfl (cat_ok rfl) (Nat.le_of_ble_eq_true rfl) rfl ?_
  unfold F_Packet_hasMark at hF
  refine ww_aload_0 1 rfl (by decide +kernel) ?_
  refine ww_getr 4 rfl 3 0 11 (t + 1) (by decide +kernel) ht k_Packet_11 (by decide) (by decide) rfl rfl (by omega) ?_
  refine ww_iconst 5 rfl (1) (1 : Int32) (by decide +kernel) (by decide) ?_
  obtain ⟨g1, hF⟩ := gd_at hF
  refine ww_iald 6 rfl (by decide +kernel) (kd_byt ht) g1 ?_
  refine ww_sipush 9 rfl (128) (128 : Int32) (by decide +kernel) (by decide) ?_
  refine ww_iand 10 rfl (by decide +kernel) ?_
  refine ww_if_eq 13 rfl (7) 17 (by decide +kernel) (by decide) (fun h => ?_) (fun h => ?_)
  · rw [if_pos h] at hF
    refine ww_iconst 18 rfl (0) (0 : Int32) (by decide +kernel) (by decide) ?_
    cases hF
    exact ww_zret (by decide +kernel) rfl (by decide)
  · rw [if_neg h] at hF
    refine ww_iconst 14 rfl (1) (1 : Int32) (by decide +kernel) (by decide) ?_
    refine ww_goto (4) 18 (by decide +kernel) (by decide) ?_
    cases hF
    exact ww_zret (by decide +kernel) rfl (by decide)
set_option maxHeartbeats 4000000 in
set_option maxRecDepth 100000 in
theorem C_Packet_time {l : Launch} {ca : Nat → ClassId} {a : Nat → Nat} {m0 : Mem} {t : Nat} {r : Int32} (ht : kd t = 3) (hF : F_Packet_time m0 t = some r) : CT l ca a y_Packet_time b_Packet_time 1 (some .int) (RM 2 42) [.ref (a t)] m0 (some (.int r)) m0 := by
  refine ct_of (own := R_Packet) (lv := [some (.ref (a t))]) (plainFor_of_name (by decide)) rfl (cat_ok rfl) (Nat.le_of_ble_eq_true rfl) rfl ?_
  unfold F_Packet_time at hF
  refine ww_aload_0 1 rfl (by decide +kernel) ?_
  refine ww_iconst 2 rfl (4) (4 : Int32) (by decide +kernel) (by decide) ?_
  obtain ⟨r2, h1, hF⟩ := rd_at hF
  refine ww_cV1i 5 rfl 3 44 (by decide +kernel) mf_Packet_fourAt k_Packet_44 ht (by decide) rfl ⟨by decide, by decide⟩ ⟨rfl, rfl⟩ (Nat.le_of_ble_eq_true rfl) (C_Packet_fourAt ht h1) ?_
  cases hF
  exact ww_iret (by decide +kernel) rfl
set_option maxHeartbeats 4000000 in
set_option maxRecDepth 100000 in
theorem C_Samples_clear {l : Launch} {ca : Nat → ClassId} {a : Nat → Nat} {m0 : Mem} {t : Nat} {m9 : Mem} (ht : kd t = 5) (hF : F_Samples_clear m0 t = some m9) : CT l ca a y_Samples_clear b_Samples_clear 1 none (RM 0 0) [.ref (a t)] m0 none m9 := by
  refine ct_of (own := R_Samples) (lv := [some (.ref (a t))]) (plainFor_of_name (by decide)) rfl (cat_ok rfl) (Nat.le_of_ble_eq_true rfl) rfl ?_
  unfold F_Samples_clear at hF
  refine ww_aload_0 1 rfl (by decide +kernel) ?_
  refine ww_iconst 2 rfl (0) (0 : Int32) (by decide +kernel) (by decide) ?_
  refine ww_put 5 rfl 5 1 15 (by decide +kernel) ht k_Samples_15 (by decide) (by decide) rfl rfl rfl rfl rfl rfl ?_
  refine ww_nmm (fun m1 em1 => ?_)
  replace hF := bnd_at hF em1
  cases hF
  exact ww_vret (by decide +kernel) rfl
set_option maxHeartbeats 4000000 in
set_option maxRecDepth 100000 in
theorem C_Packet_sampleAt {l : Launch} {ca : Nat → ClassId} {a : Nat → Nat} {m0 : Mem} {t : Nat} {p1 : Int32} {r : Int32} (ht : kd t = 3) (hF : F_Packet_sampleAt m0 t p1 = some r) : CT l ca a y_Packet_sampleAt b_Packet_sampleAt 3 (some .int) (RM 1 21) [.ref (a t), .int p1] m0 (some (.int r)) m0 := by
  refine ct_of (own := R_Packet) (lv := [some (.ref (a t)), some (.int p1), none]) (plainFor_of_name (by decide)) rfl (cat_ok rfl) (Nat.le_of_ble_eq_true rfl) rfl ?_
  unfold F_Packet_sampleAt at hF
  refine ww_aload_0 1 rfl (by decide +kernel) ?_
  refine ww_iload_1 2 rfl (by decide +kernel) ?_
  obtain ⟨r2, h1, hF⟩ := rd_at hF
  refine ww_cV1i 5 rfl 3 39 (by decide +kernel) mf_Packet_pairAt k_Packet_39 ht (by decide) rfl ⟨by decide, by decide⟩ ⟨rfl, rfl⟩ (Nat.le_of_ble_eq_true rfl) (C_Packet_pairAt ht h1) ?_
  refine ww_istore_2 6 rfl (by decide +kernel) (by decide) ?_
  refine ww_iload_2 7 rfl (by decide +kernel) ?_
  refine ww_sipush 10 rfl (32767) (32767 : Int32) (by decide +kernel) (by decide) ?_
  refine ww_icmp_le 13 rfl (10) 20 (by decide +kernel) (by decide) (fun h => ?_) (fun h => ?_)
  · rw [if_pos h] at hF
    refine ww_iload_2 21 rfl (by decide +kernel) ?_
    cases hF
    exact ww_iret (by decide +kernel) rfl
  · rw [if_neg h] at hF
    refine ww_iload_2 14 rfl (by decide +kernel) ?_
    refine ww_ldc 16 rfl 43 (65536 : Int32) (by decide +kernel) k_Packet_43 ?_
    refine ww_isub 17 rfl (by decide +kernel) ?_
    refine ww_goto (4) 21 (by decide +kernel) (by decide) ?_
    cases hF
    exact ww_iret (by decide +kernel) rfl
set_option maxHeartbeats 4000000 in
set_option maxRecDepth 100000 in
theorem C_Adaptive_set {l : Launch} {ca : Nat → ClassId} {a : Nat → Nat} {m0 : Mem} {t : Nat} {p1 : Int32} {p2 : Int32} {m9 : Mem} (ht : kd t = 1) (hF : F_Adaptive_set m0 t p1 p2 = some m9) : CT l ca a y_Adaptive_set b_Adaptive_set 3 none (RM 1 22) [.ref (a t), .int p1, .int p2] m0 none m9 := by
  refine ct_of (own := R_Adaptive) (lv := [some (.ref (a t)), some (.int p1), some (.int p2)]) (plainFor_of_name (by decide)) rfl (cat_ok rfl) (Nat.le_of_ble_eq_true rfl) rfl ?_
  unfold F_Adaptive_set at hF
  refine ww_aload_0 1 rfl (by decide +kernel) ?_
  refine ww_iload_1 2 rfl (by decide +kernel) ?_
  refine ww_sipush 5 rfl (-32768) (-32768 : Int32) (by decide +kernel) (by decide) ?_
  refine ww_sipush 8 rfl (32767) (32767 : Int32) (by decide +kernel) (by decide) ?_
  obtain ⟨r2, h1, hF⟩ := rd_at hF
  refine ww_cS3i 11 rfl 18 (by decide +kernel) mf_Adaptive_within k_Adaptive_18 ⟨by decide, by decide⟩ ⟨rfl, rfl⟩ (Nat.le_of_ble_eq_true rfl) (C_Adaptive_within h1) ?_
  refine ww_put 14 rfl 1 0 9 (by decide +kernel) ht k_Adaptive_9 (by decide) (by decide) rfl rfl rfl rfl rfl rfl ?_
  refine ww_nmm (fun m3 em3 => ?_)
  replace hF := bnd_at hF em3
  refine ww_aload_0 15 rfl (by decide +kernel) ?_
  refine ww_iload_2 16 rfl (by decide +kernel) ?_
  refine ww_iconst 17 rfl (0) (0 : Int32) (by decide +kernel) (by decide) ?_
  refine ww_bipush 19 rfl (88) (88 : Int32) (by decide +kernel) (by decide) ?_
  obtain ⟨r5, h4, hF⟩ := rd_at hF
  refine ww_cS3i 22 rfl 18 (by decide +kernel) mf_Adaptive_within k_Adaptive_18 ⟨by decide, by decide⟩ ⟨rfl, rfl⟩ (Nat.le_of_ble_eq_true rfl) (C_Adaptive_within h4) ?_
  refine ww_put 25 rfl 1 1 15 (by decide +kernel) ht k_Adaptive_15 (by decide) (by decide) rfl rfl rfl rfl rfl rfl ?_
  refine ww_nmm (fun m6 em6 => ?_)
  replace hF := bnd_at hF em6
  cases hF
  exact ww_vret (by decide +kernel) rfl
set_option maxHeartbeats 4000000 in
set_option maxRecDepth 100000 in
theorem B_Packet_readAdaptive_20 {l : Launch} {ca : Nat → ClassId} {a : Nat → Nat} {m9 : Mem} (n : Nat) : ∀ {m0 : Mem} {l0 : Nat} {l1 : Nat} {l2 : Nat} {l3 : Int32}  (hl0 : kd l0 = 3) (hl1 : kd l1 = 5) (hl2 : kd l2 = 1) (hF : F_Packet_readAdaptive_20 n m0 l0 l1 l2 l3 = some m9), WW l b_Packet_readAdaptive 4 none R_Packet (RM 2 46) ca a (EM ca a none m9) 20 [some (.ref (a l0)), some (.ref (a l1)), some (.ref (a l2)), some (.int l3)] [] m0 := by
  induction n with
  | zero => intros; rename_i hF; rw [F_Packet_readAdaptive_20] at hF; cases hF
  | succ n ih =>
    intro m0 l0 l1 l2 l3  hl0 hl1 hl2 hF
    rw [F_Packet_readAdaptive_20] at hF
    refine ww_iload_3 21 rfl (by decide +kernel) ?_
    refine ww_aload_0 22 rfl (by decide +kernel) ?_
    refine ww_geti 25 rfl 3 1 15 (by decide +kernel) hl0 k_Packet_15 (by decide) (by decide) rfl rfl ?_
    refine ww_icmp_ge 28 rfl (50) 75 (by decide +kernel) (by decide) (fun h => ?_) (fun h => ?_)
    · rw [if_pos h] at hF
      cases hF
      exact ww_vret (by decide +kernel) rfl
    · rw [if_neg h] at hF
      refine ww_aload_2 29 rfl (by decide +kernel) ?_
      refine ww_aload_0 30 rfl (by decide +kernel) ?_
      refine ww_getr 33 rfl 3 0 11 (l0 + 1) (by decide +kernel) hl0 k_Packet_11 (by decide) (by decide) rfl rfl (by omega) ?_
      refine ww_iload_3 34 rfl (by decide +kernel) ?_
      obtain ⟨g6, hF⟩ := gd_at hF
      refine ww_iald 35 rfl (by decide +kernel) (kd_byt hl0) g6 ?_
      refine ww_iconst 36 rfl (4) (4 : Int32) (by decide +kernel) (by decide) ?_
      refine ww_ishr 37 rfl (by decide +kernel) ?_
      obtain ⟨m8, h7, hF⟩ := rd_at hF
      refine ww_cV1v 40 rfl 1 81 (by decide +kernel) mf_Adaptive_changeBy k_Packet_81 hl2 (by decide) rfl ⟨by decide, by decide⟩ ⟨rfl, rfl⟩ (Nat.le_of_ble_eq_true rfl) (C_Adaptive_changeBy hl2 h7) ?_
      refine ww_aload_1 41 rfl (by decide +kernel) ?_
      refine ww_aload_2 42 rfl (by decide +kernel) ?_
      obtain ⟨r10, h9, hF⟩ := rd_at hF
      refine ww_cV0i 45 rfl 1 84 (by decide +kernel) mf_Adaptive_value k_Packet_84 hl2 (by decide) rfl ⟨by decide, by decide⟩ ⟨rfl, rfl⟩ (Nat.le_of_ble_eq_true rfl) (C_Adaptive_value hl2 h9) ?_
      obtain ⟨m12, h11, hF⟩ := rd_at hF
      refine ww_cV1v 48 rfl 5 72 (by decide +kernel) mf_Samples_add k_Packet_72 hl1 (by decide) rfl ⟨by decide, by decide⟩ ⟨rfl, rfl⟩ (Nat.le_of_ble_eq_true rfl) (C_Samples_add hl1 h11) ?_
      refine ww_aload_2 49 rfl (by decide +kernel) ?_
      refine ww_aload_0 50 rfl (by decide +kernel) ?_
      refine ww_getr 53 rfl 3 0 11 (l0 + 1) (by decide +kernel) hl0 k_Packet_11 (by decide) (by decide) rfl rfl (by omega) ?_
      refine ww_iload_3 54 rfl (by decide +kernel) ?_
      refine ww_iald 55 rfl (by decide +kernel) (kd_byt hl0) g6 ?_
      refine ww_bipush 57 rfl (15) (15 : Int32) (by decide +kernel) (by decide) ?_
      refine ww_iand 58 rfl (by decide +kernel) ?_
      obtain ⟨m14, h13, hF⟩ := rd_at hF
      refine ww_cV1v 61 rfl 1 81 (by decide +kernel) mf_Adaptive_changeBy k_Packet_81 hl2 (by decide) rfl ⟨by decide, by decide⟩ ⟨rfl, rfl⟩ (Nat.le_of_ble_eq_true rfl) (C_Adaptive_changeBy hl2 h13) ?_
      refine ww_aload_1 62 rfl (by decide +kernel) ?_
      refine ww_aload_2 63 rfl (by decide +kernel) ?_
      obtain ⟨r16, h15, hF⟩ := rd_at hF
      refine ww_cV0i 66 rfl 1 84 (by decide +kernel) mf_Adaptive_value k_Packet_84 hl2 (by decide) rfl ⟨by decide, by decide⟩ ⟨rfl, rfl⟩ (Nat.le_of_ble_eq_true rfl) (C_Adaptive_value hl2 h15) ?_
      obtain ⟨m18, h17, hF⟩ := rd_at hF
      refine ww_cV1v 69 rfl 5 72 (by decide +kernel) mf_Samples_add k_Packet_72 hl1 (by decide) rfl ⟨by decide, by decide⟩ ⟨rfl, rfl⟩ (Nat.le_of_ble_eq_true rfl) (C_Samples_add hl1 h17) ?_
      refine ww_iinc_3 72 rfl (1) (1 : Int32) (by decide +kernel) (by decide) (by decide) ?_
      refine ww_goto (-52) 20 (by decide +kernel) (by decide) ?_
      exact ih hl0 hl1 hl2 hF
set_option maxHeartbeats 4000000 in
set_option maxRecDepth 100000 in
theorem C_Packet_readAdaptive {l : Launch} {ca : Nat → ClassId} {a : Nat → Nat} {m0 : Mem} {t : Nat} {p1 : Nat} {p2 : Nat} {m9 : Mem} (ht : kd t = 3) (hp1 : kd p1 = 5) (hp2 : kd p2 = 1) (hF : F_Packet_readAdaptive m0 t p1 p2 = some m9) : CT l ca a y_Packet_readAdaptive b_Packet_readAdaptive 4 none (RM 2 46) [.ref (a t), .ref (a p1), .ref (a p2)] m0 none m9 := by
  refine ct_of (own := R_Packet) (lv := [some (.ref (a t)), some (.ref (a p1)), some (.ref (a p2)), none]) (plainFor_of_name (by decide)) rfl (cat_ok rfl) (Nat.le_of_ble_eq_true rfl) rfl ?_
  unfold F_Packet_readAdaptive at hF
  refine ww_aload_2 1 rfl (by decide +kernel) ?_
  refine ww_aload_0 2 rfl (by decide +kernel) ?_
  refine ww_bipush 4 rfl (12) (12 : Int32) (by decide +kernel) (by decide) ?_
  obtain ⟨r2, h1, hF⟩ := rd_at hF
  refine ww_cV1i 7 rfl 3 63 (by decide +kernel) mf_Packet_sampleAt k_Packet_63 ht (by decide) rfl ⟨by decide, by decide⟩ ⟨rfl, rfl⟩ (Nat.le_of_ble_eq_true rfl) (C_Packet_sampleAt ht h1) ?_
  refine ww_aload_0 8 rfl (by decide +kernel) ?_
  refine ww_getr 11 rfl 3 0 11 (t + 1) (by decide +kernel) ht k_Packet_11 (by decide) (by decide) rfl rfl (by omega) ?_
  refine ww_bipush 13 rfl (14) (14 : Int32) (by decide +kernel) (by decide) ?_
  obtain ⟨g3, hF⟩ := gd_at hF
  refine ww_iald 14 rfl (by decide +kernel) (kd_byt ht) g3 ?_
  obtain ⟨m5, h4, hF⟩ := rd_at hF
  refine ww_cV2v 17 rfl 1 77 (by decide +kernel) mf_Adaptive_set k_Packet_77 hp2 (by decide) rfl ⟨by decide, by decide⟩ ⟨rfl, rfl⟩ (Nat.le_of_ble_eq_true rfl) (C_Adaptive_set hp2 h4) ?_
  refine ww_bipush 19 rfl (16) (16 : Int32) (by decide +kernel) (by decide) ?_
  refine ww_istore_3 20 rfl (by decide +kernel) (by decide) ?_
  exact B_Packet_readAdaptive_20 _ ht hp1 hp2 hF
set_option maxHeartbeats 4000000 in
set_option maxRecDepth 100000 in
theorem B_Packet_readInto_33 {l : Launch} {ca : Nat → ClassId} {a : Nat → Nat} {m9 : Mem} (n : Nat) : ∀ {m0 : Mem} {l0 : Nat} {l1 : Nat} {l3 : Int32} {l4 : Int32} {l5 : Int32} {z2 : Option Value} (hl0 : kd l0 = 3) (hl1 : kd l1 = 5) (hF : F_Packet_readInto_33 n m0 l0 l1 l3 l4 l5 = some m9), WW l b_Packet_readInto 6 none R_Packet (RM 3 69) ca a (EM ca a none m9) 33 [some (.ref (a l0)), some (.ref (a l1)), z2, some (.int l3), some (.int l4), some (.int l5)] [] m0 := by
  induction n with
  | zero => intros; rename_i hF; rw [F_Packet_readInto_33] at hF; cases hF
  | succ n ih =>
    intro m0 l0 l1 l3 l4 l5 z2 hl0 hl1 hF
    rw [F_Packet_readInto_33] at hF
    refine ww_iload_5 35 rfl (by decide +kernel) ?_
    refine ww_iload_4 37 rfl (by decide +kernel) ?_
    refine ww_iadd 38 rfl (by decide +kernel) ?_
    refine ww_aload_0 39 rfl (by decide +kernel) ?_
    refine ww_geti 42 rfl 3 1 15 (by decide +kernel) hl0 k_Packet_15 (by decide) (by decide) rfl rfl ?_
    refine ww_icmp_gt 45 rfl (42) 84 (by decide +kernel) (by decide) (fun h => ?_) (fun h => ?_)
    · rw [if_pos h] at hF
      cases hF
      exact ww_vret (by decide +kernel) rfl
    · rw [if_neg h] at hF
      refine ww_aload_1 46 rfl (by decide +kernel) ?_
      refine ww_iload_3 47 rfl (by decide +kernel) ?_
      refine ww_iconst 48 rfl (3) (3 : Int32) (by decide +kernel) (by decide) ?_
      refine ww_icmp_ne 51 rfl (12) 60 (by decide +kernel) (by decide) (fun h => ?_) (fun h => ?_)
      · rw [if_neg h] at hF
        refine ww_iload_3 61 rfl (by decide +kernel) ?_
        refine ww_aload_0 62 rfl (by decide +kernel) ?_
        refine ww_getr 65 rfl 3 0 11 (l0 + 1) (by decide +kernel) hl0 k_Packet_11 (by decide) (by decide) rfl rfl (by omega) ?_
        refine ww_iload_5 67 rfl (by decide +kernel) ?_
        obtain ⟨g5, hF⟩ := gd_at hF
        refine ww_iald 68 rfl (by decide +kernel) (kd_byt hl0) g5 ?_
        obtain ⟨r7, h6, hF⟩ := rd_at hF
        refine ww_cS2i 71 rfl 66 (by decide +kernel) mf_Intervals_middleOf k_Packet_66 ⟨by decide, by decide⟩ ⟨rfl, rfl⟩ (Nat.le_of_ble_eq_true rfl) (C_Intervals_middleOf h6) ?_
        obtain ⟨m9, h8, hF⟩ := rd_at hF
        refine ww_cV1v 74 rfl 5 72 (by decide +kernel) mf_Samples_add k_Packet_72 hl1 (by decide) rfl ⟨by decide, by decide⟩ ⟨rfl, rfl⟩ (Nat.le_of_ble_eq_true rfl) (C_Samples_add hl1 h8) ?_
        refine ww_iload_5 76 rfl (by decide +kernel) ?_
        refine ww_iload_4 78 rfl (by decide +kernel) ?_
        refine ww_iadd 79 rfl (by decide +kernel) ?_
        refine ww_nmi (fun v10 ev10 => ?_)
        replace hF := bnd_at hF ev10
        refine ww_istore_5 81 rfl (by decide +kernel) (by decide) ?_
        refine ww_goto (-48) 33 (by decide +kernel) (by decide) ?_
        exact ih hl0 hl1 hF
      · rw [if_pos h] at hF
        refine ww_aload_0 52 rfl (by decide +kernel) ?_
        refine ww_iload_5 54 rfl (by decide +kernel) ?_
        obtain ⟨r12, h11, hF⟩ := rd_at hF
        refine ww_cV1i 57 rfl 3 63 (by decide +kernel) mf_Packet_sampleAt k_Packet_63 hl0 (by decide) rfl ⟨by decide, by decide⟩ ⟨rfl, rfl⟩ (Nat.le_of_ble_eq_true rfl) (C_Packet_sampleAt hl0 h11) ?_
        refine ww_goto (14) 71 (by decide +kernel) (by decide) ?_
        obtain ⟨m14, h13, hF⟩ := rd_at hF
        refine ww_cV1v 74 rfl 5 72 (by decide +kernel) mf_Samples_add k_Packet_72 hl1 (by decide) rfl ⟨by decide, by decide⟩ ⟨rfl, rfl⟩ (Nat.le_of_ble_eq_true rfl) (C_Samples_add hl1 h13) ?_
        refine ww_iload_5 76 rfl (by decide +kernel) ?_
        refine ww_iload_4 78 rfl (by decide +kernel) ?_
        refine ww_iadd 79 rfl (by decide +kernel) ?_
        refine ww_nmi (fun v15 ev15 => ?_)
        replace hF := bnd_at hF ev15
        refine ww_istore_5 81 rfl (by decide +kernel) (by decide) ?_
        refine ww_goto (-48) 33 (by decide +kernel) (by decide) ?_
        exact ih hl0 hl1 hF
set_option maxHeartbeats 4000000 in
set_option maxRecDepth 100000 in
theorem C_Packet_readInto {l : Launch} {ca : Nat → ClassId} {a : Nat → Nat} {m0 : Mem} {t : Nat} {p1 : Nat} {p2 : Nat} {m9 : Mem} (ht : kd t = 3) (hp1 : kd p1 = 5) (hp2 : kd p2 = 1) (hF : F_Packet_readInto m0 t p1 p2 = some m9) : CT l ca a y_Packet_readInto b_Packet_readInto 6 none (RM 3 69) [.ref (a t), .ref (a p1), .ref (a p2)] m0 none m9 := by
  refine ct_of (own := R_Packet) (lv := [some (.ref (a t)), some (.ref (a p1)), some (.ref (a p2)), none, none, none]) (plainFor_of_name (by decide)) rfl (cat_ok rfl) (Nat.le_of_ble_eq_true rfl) rfl ?_
  unfold F_Packet_readInto at hF
  refine ww_aload_0 1 rfl (by decide +kernel) ?_
  obtain ⟨r2, h1, hF⟩ := rd_at hF
  refine ww_cV0i 4 rfl 3 47 (by decide +kernel) mf_Packet_coding k_Packet_47 ht (by decide) rfl ⟨by decide, by decide⟩ ⟨rfl, rfl⟩ (Nat.le_of_ble_eq_true rfl) (C_Packet_coding ht h1) ?_
  refine ww_istore_3 5 rfl (by decide +kernel) (by decide) ?_
  refine ww_iload_3 6 rfl (by decide +kernel) ?_
  refine ww_iconst 7 rfl (2) (2 : Int32) (by decide +kernel) (by decide) ?_
  refine ww_icmp_ne 10 rfl (10) 17 (by decide +kernel) (by decide) (fun h => ?_) (fun h => ?_)
  · rw [if_neg h] at hF
    refine ww_iload_3 18 rfl (by decide +kernel) ?_
    refine ww_iconst 19 rfl (3) (3 : Int32) (by decide +kernel) (by decide) ?_
    refine ww_icmp_ne 22 rfl (7) 26 (by decide +kernel) (by decide) (fun h => ?_) (fun h => ?_)
    · rw [if_neg h] at hF
      refine ww_iconst 27 rfl (1) (1 : Int32) (by decide +kernel) (by decide) ?_
      refine ww_istore_4 29 rfl (by decide +kernel) (by decide) ?_
      refine ww_bipush 31 rfl (12) (12 : Int32) (by decide +kernel) (by decide) ?_
      refine ww_istore_5 33 rfl (by decide +kernel) (by decide) ?_
      exact B_Packet_readInto_33 _ ht hp1 hF
    · rw [if_pos h] at hF
      refine ww_iconst 23 rfl (2) (2 : Int32) (by decide +kernel) (by decide) ?_
      refine ww_goto (4) 27 (by decide +kernel) (by decide) ?_
      refine ww_istore_4 29 rfl (by decide +kernel) (by decide) ?_
      refine ww_bipush 31 rfl (12) (12 : Int32) (by decide +kernel) (by decide) ?_
      refine ww_istore_5 33 rfl (by decide +kernel) (by decide) ?_
      exact B_Packet_readInto_33 _ ht hp1 hF
  · rw [if_pos h] at hF
    refine ww_aload_0 11 rfl (by decide +kernel) ?_
    refine ww_aload_1 12 rfl (by decide +kernel) ?_
    refine ww_aload_2 13 rfl (by decide +kernel) ?_
    obtain ⟨m4, h3, hF⟩ := rd_at hF
    refine ww_cV2v 16 rfl 3 59 (by decide +kernel) mf_Packet_readAdaptive k_Packet_59 ht (by decide) rfl ⟨by decide, by decide⟩ ⟨rfl, rfl⟩ (Nat.le_of_ble_eq_true rfl) (C_Packet_readAdaptive ht hp1 hp2 h3) ?_
    cases hF
    exact ww_vret (by decide +kernel) rfl
set_option maxHeartbeats 4000000 in
set_option maxRecDepth 100000 in
theorem B_Samples_addFirstOf_2 {l : Launch} {ca : Nat → ClassId} {a : Nat → Nat} {m9 : Mem} (n : Nat) : ∀ {m0 : Mem} {l0 : Nat} {l1 : Nat} {l2 : Int32} {l3 : Int32}  (hl0 : kd l0 = 5) (hl1 : kd l1 = 5) (hF : F_Samples_addFirstOf_2 n m0 l0 l1 l2 l3 = some m9), WW l b_Samples_addFirstOf 4 none R_Samples (RM 1 21) ca a (EM ca a none m9) 2 [some (.ref (a l0)), some (.ref (a l1)), some (.int l2), some (.int l3)] [] m0 := by
  induction n with
  | zero => intros; rename_i hF; rw [F_Samples_addFirstOf_2] at hF; cases hF
  | succ n ih =>
    intro m0 l0 l1 l2 l3  hl0 hl1 hF
    rw [F_Samples_addFirstOf_2] at hF
    refine ww_iload_3 3 rfl (by decide +kernel) ?_
    refine ww_iload_2 4 rfl (by decide +kernel) ?_
    refine ww_icmp_ge 7 rfl (27) 31 (by decide +kernel) (by decide) (fun h => ?_) (fun h => ?_)
    · rw [if_pos h] at hF
      cases hF
      exact ww_vret (by decide +kernel) rfl
    · rw [if_neg h] at hF
      refine ww_iload_3 8 rfl (by decide +kernel) ?_
      refine ww_aload_1 9 rfl (by decide +kernel) ?_
      refine ww_geti 12 rfl 5 1 15 (by decide +kernel) hl1 k_Samples_15 (by decide) (by decide) rfl rfl ?_
      refine ww_icmp_ge 15 rfl (19) 31 (by decide +kernel) (by decide) (fun h => ?_) (fun h => ?_)
      · rw [if_pos h] at hF
        cases hF
        exact ww_vret (by decide +kernel) rfl
      · rw [if_neg h] at hF
        refine ww_aload_0 16 rfl (by decide +kernel) ?_
        refine ww_aload_1 17 rfl (by decide +kernel) ?_
        refine ww_getr 20 rfl 5 0 9 (l1 + 1) (by decide +kernel) hl1 k_Samples_9 (by decide) (by decide) rfl rfl (by omega) ?_
        refine ww_iload_3 21 rfl (by decide +kernel) ?_
        obtain ⟨g1, hF⟩ := gd_at hF
        refine ww_iald 22 rfl (by decide +kernel) (kd_row hl1) g1 ?_
        obtain ⟨m3, h2, hF⟩ := rd_at hF
        refine ww_cV1v 25 rfl 5 20 (by decide +kernel) mf_Samples_add k_Samples_20 hl0 (by decide) rfl ⟨by decide, by decide⟩ ⟨rfl, rfl⟩ (Nat.le_of_ble_eq_true rfl) (C_Samples_add hl0 h2) ?_
        refine ww_iinc_3 28 rfl (1) (1 : Int32) (by decide +kernel) (by decide) (by decide) ?_
        refine ww_goto (-26) 2 (by decide +kernel) (by decide) ?_
        exact ih hl0 hl1 hF
set_option maxHeartbeats 4000000 in
set_option maxRecDepth 100000 in
theorem C_Samples_addFirstOf {l : Launch} {ca : Nat → ClassId} {a : Nat → Nat} {m0 : Mem} {t : Nat} {p1 : Nat} {p2 : Int32} {m9 : Mem} (ht : kd t = 5) (hp1 : kd p1 = 5) (hF : F_Samples_addFirstOf m0 t p1 p2 = some m9) : CT l ca a y_Samples_addFirstOf b_Samples_addFirstOf 4 none (RM 1 21) [.ref (a t), .ref (a p1), .int p2] m0 none m9 := by
  refine ct_of (own := R_Samples) (lv := [some (.ref (a t)), some (.ref (a p1)), some (.int p2), none]) (plainFor_of_name (by decide)) rfl (cat_ok rfl) (Nat.le_of_ble_eq_true rfl) rfl ?_
  unfold F_Samples_addFirstOf at hF
  refine ww_iconst 1 rfl (0) (0 : Int32) (by decide +kernel) (by decide) ?_
  refine ww_istore_3 2 rfl (by decide +kernel) (by decide) ?_
  exact B_Samples_addFirstOf_2 _ ht hp1 hF
