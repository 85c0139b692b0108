set_option maxHeartbeats 4000000 in
set_option maxRecDepth 100000 in
theorem C_Packet_fourAt {l : Launch} {ca : Nat → ClassId} {a : Nat → Nat} {m0 : Mem} {t : Nat} {p1 : Int32} {r : Int32} (ht : kd t = 3) (hF : F_Packet_fourAt m0 t p1 = some r) : CT l ca a y_Packet_fourAt b_Packet_fourAt 2 (some .int) (RM 1 21) [.ref (a t), .int p1] m0 (some (.int r)) m0 := by
  refine ct_of (own := R_Packet) (lv := [some (.ref (a t)), some (.int p1)]) (plainFor_of_name (by decide)) rfl (cat_ok rfl) (Nat.le_of_ble_eq_true rfl) rfl ?_
  unfold F_Packet_fourAt at hF
  refine ww_aload_0 1 rfl (by decide +kernel) ?_
  refine ww_iload_1 2 rfl (by decide +kernel) ?_
  obtain ⟨r2, h1, hF⟩ := rd_at hF
  refine ww_cV1i 5 rfl 3 39 (by decide +kernel) mf_Packet_pairAt k_Packet_39 ht (by decide) rfl ⟨by decide, by decide⟩ ⟨rfl, rfl⟩ (Nat.le_of_ble_eq_true rfl) (C_Packet_pairAt ht h1) ?_
  refine ww_bipush 7 rfl (16) (16 : Int32) (by decide +kernel) (by decide) ?_
  refine ww_ishl 8 rfl (by decide +kernel) ?_
  refine ww_aload_0 9 rfl (by decide +kernel) ?_
  refine ww_iload_1 10 rfl (by decide +kernel) ?_
  refine ww_iconst 11 rfl (2) (2 : Int32) (by decide +kernel) (by decide) ?_
  refine ww_iadd 12 rfl (by decide +kernel) ?_
  obtain ⟨r4, h3, hF⟩ := rd_at hF
  refine ww_cV1i 15 rfl 3 39 (by decide +kernel) mf_Packet_pairAt k_Packet_39 ht (by decide) rfl ⟨by decide, by decide⟩ ⟨rfl, rfl⟩ (Nat.le_of_ble_eq_true rfl) (C_Packet_pairAt ht h3) ?_
  refine ww_ior 16 rfl (by decide +kernel) ?_
  cases hF
  exact ww_iret (by decide +kernel) rfl
set_option maxHeartbeats 4000000 in
set_option maxRecDepth 100000 in
theorem C_Packet_source {l : Launch} {ca : Nat → ClassId} {a : Nat → Nat} {m0 : Mem} {t : Nat} {r : Int32} (ht : kd t = 3) (hF : F_Packet_source m0 t = some r) : CT l ca a y_Packet_source b_Packet_source 1 (some .int) (RM 2 42) [.ref (a t)] m0 (some (.int r)) m0 := by
  refine ct_of (own := R_Packet) (lv := [some (.ref (a t))]) (plainFor_of_name (by decide)) rfl (cat_ok rfl) (Nat.le_of_ble_eq_true rfl) rfl ?_
  unfold F_Packet_source at hF
  refine ww_aload_0 1 rfl (by decide +kernel) ?_
  refine ww_bipush 3 rfl (8) (8 : Int32) (by decide +kernel) (by decide) ?_
  obtain ⟨r2, h1, hF⟩ := rd_at hF
  refine ww_cV1i 6 rfl 3 44 (by decide +kernel) mf_Packet_fourAt k_Packet_44 ht (by decide) rfl ⟨by decide, by decide⟩ ⟨rfl, rfl⟩ (Nat.le_of_ble_eq_true rfl) (C_Packet_fourAt ht h1) ?_
  cases hF
  exact ww_iret (by decide +kernel) rfl
set_option maxHeartbeats 4000000 in
set_option maxRecDepth 100000 in
theorem C_Packet_sequence {l : Launch} {ca : Nat → ClassId} {a : Nat → Nat} {m0 : Mem} {t : Nat} {r : Int32} (ht : kd t = 3) (hF : F_Packet_sequence m0 t = some r) : CT l ca a y_Packet_sequence b_Packet_sequence 1 (some .int) (RM 1 21) [.ref (a t)] m0 (some (.int r)) m0 := by
  refine ct_of (own := R_Packet) (lv := [some (.ref (a t))]) (plainFor_of_name (by decide)) rfl (cat_ok rfl) (Nat.le_of_ble_eq_true rfl) rfl ?_
  unfold F_Packet_sequence at hF
  refine ww_aload_0 1 rfl (by decide +kernel) ?_
  refine ww_iconst 2 rfl (2) (2 : Int32) (by decide +kernel) (by decide) ?_
  obtain ⟨r2, h1, hF⟩ := rd_at hF
  refine ww_cV1i 5 rfl 3 39 (by decide +kernel) mf_Packet_pairAt k_Packet_39 ht (by decide) rfl ⟨by decide, by decide⟩ ⟨rfl, rfl⟩ (Nat.le_of_ble_eq_true rfl) (C_Packet_pairAt ht h1) ?_
  cases hF
  exact ww_iret (by decide +kernel) rfl
set_option maxHeartbeats 4000000 in
set_option maxRecDepth 100000 in
theorem C_Math_floorMod {l : Launch} {ca : Nat → ClassId} {a : Nat → Nat} {m0 : Mem} {p0 : Int32} {p1 : Int32} {r : Int32}  (hF : F_Math_floorMod p0 p1 = some r) : CT l ca a y_Math_floorMod b_Math_floorMod 3 (some .int) (RM 0 0) [.int p0, .int p1] m0 (some (.int r)) m0 := by
  refine ct_of (own := R_Math) (lv := [some (.int p0), some (.int p1), none]) (by decide +kernel) rfl (cat_ok rfl) (Nat.le_of_ble_eq_true rfl) rfl ?_
  unfold F_Math_floorMod at hF
  refine ww_iload_0 1 rfl (by decide +kernel) ?_
  refine ww_iload_1 2 rfl (by decide +kernel) ?_
  obtain ⟨g1, hF⟩ := gd_at hF
  refine ww_irem 3 rfl (by decide +kernel) g1 ?_
  refine ww_nmi (fun v2 ev2 => ?_)
  replace hF := bnd_at hF ev2
  refine ww_istore_2 4 rfl (by decide +kernel) (by decide) ?_
  refine ww_iload_0 5 rfl (by decide +kernel) ?_
  refine ww_iload_1 6 rfl (by decide +kernel) ?_
  refine ww_ixor 7 rfl (by decide +kernel) ?_
  refine ww_if_ge 10 rfl (11) 18 (by decide +kernel) (by decide) (fun h => ?_) (fun h => ?_)
  · rw [if_pos h] at hF
    refine ww_iload_2 19 rfl (by decide +kernel) ?_
    cases hF
    exact ww_iret (by decide +kernel) rfl
  · rw [if_neg h] at hF
    refine ww_iload_2 11 rfl (by decide +kernel) ?_
    refine ww_if_eq 14 rfl (7) 18 (by decide +kernel) (by decide) (fun h => ?_) (fun h => ?_)
    · rw [if_pos h] at hF
      refine ww_iload_2 19 rfl (by decide +kernel) ?_
      cases hF
      exact ww_iret (by decide +kernel) rfl
    · rw [if_neg h] at hF
      refine ww_iload_2 15 rfl (by decide +kernel) ?_
      refine ww_iload_1 16 rfl (by decide +kernel) ?_
      refine ww_iadd 17 rfl (by decide +kernel) ?_
      cases hF
      exact ww_iret (by decide +kernel) rfl
set_option maxHeartbeats 4000000 in
set_option maxRecDepth 100000 in
theorem C_Buffer_distanceOf {l : Launch} {ca : Nat → ClassId} {a : Nat → Nat} {m0 : Mem} {p1 : Int32} {r : Int32}  (hF : F_Buffer_distanceOf m0 p1 = some r) : CT l ca a y_Buffer_distanceOf b_Buffer_distanceOf 3 (some .int) (RM 1 22) [.ref (a 13), .int p1] m0 (some (.int r)) m0 := by
  refine ct_of (own := R_Buffer) (lv := [some (.ref (a 13)), some (.int p1), none]) (plainFor_of_name (by decide)) rfl (cat_ok rfl) (Nat.le_of_ble_eq_true rfl) rfl ?_
  unfold F_Buffer_distanceOf at hF
  refine ww_iload_1 1 rfl (by decide +kernel) ?_
  refine ww_aload_0 2 rfl (by decide +kernel) ?_
  refine ww_geti 5 rfl 2 5 33 (by decide +kernel) rfl k_Buffer_33 (by decide) (by decide) rfl rfl ?_
  refine ww_isub 6 rfl (by decide +kernel) ?_
  refine ww_ldc 8 rfl 67 (65536 : Int32) (by decide +kernel) k_Buffer_67 ?_
  obtain ⟨r2, h1, hF⟩ := rd_at hF
  refine ww_cS2i 11 rfl 68 (by decide +kernel) mf_Math_floorMod k_Buffer_68 ⟨by decide, by decide⟩ ⟨rfl, rfl⟩ (Nat.le_of_ble_eq_true rfl) (C_Math_floorMod h1) ?_
  refine ww_istore_2 12 rfl (by decide +kernel) (by decide) ?_
  refine ww_iload_2 13 rfl (by decide +kernel) ?_
  refine ww_ldc 15 rfl 74 (32768 : Int32) (by decide +kernel) k_Buffer_74 ?_
  refine ww_icmp_lt 18 rfl (10) 25 (by decide +kernel) (by decide) (fun h => ?_) (fun h => ?_)
  · rw [if_pos h] at hF
    refine ww_iload_2 26 rfl (by decide +kernel) ?_
    cases hF
    exact ww_iret (by decide +kernel) rfl
  · rw [if_neg h] at hF
    refine ww_iload_2 19 rfl (by decide +kernel) ?_
    refine ww_ldc 21 rfl 67 (65536 : Int32) (by decide +kernel) k_Buffer_67 ?_
    refine ww_isub 22 rfl (by decide +kernel) ?_
    refine ww_goto (4) 26 (by decide +kernel) (by decide) ?_
    cases hF
    exact ww_iret (by decide +kernel) rfl
set_option maxHeartbeats 4000000 in
set_option maxRecDepth 100000 in
theorem C_Buffer_placeOf {l : Launch} {ca : Nat → ClassId} {a : Nat → Nat} {m0 : Mem} {p0 : Int32} {r : Int32}  (hF : F_Buffer_placeOf p0 = some r) : CT l ca a y_Buffer_placeOf b_Buffer_placeOf 1 (some .int) (RM 1 22) [.int p0] m0 (some (.int r)) m0 := by
  refine ct_of (own := R_Buffer) (lv := [some (.int p0)]) (plainFor_of_name (by decide)) rfl (cat_ok rfl) (Nat.le_of_ble_eq_true rfl) rfl ?_
  unfold F_Buffer_placeOf at hF
  refine ww_iload_0 1 rfl (by decide +kernel) ?_
  refine ww_bipush 3 rfl (8) (8 : Int32) (by decide +kernel) (by decide) ?_
  obtain ⟨r2, h1, hF⟩ := rd_at hF
  refine ww_cS2i 6 rfl 68 (by decide +kernel) mf_Math_floorMod k_Buffer_68 ⟨by decide, by decide⟩ ⟨rfl, rfl⟩ (Nat.le_of_ble_eq_true rfl) (C_Math_floorMod h1) ?_
  cases hF
  exact ww_iret (by decide +kernel) rfl
set_option maxHeartbeats 4000000 in
set_option maxRecDepth 100000 in
theorem C_Buffer_judge {l : Launch} {ca : Nat → ClassId} {a : Nat → Nat} {m0 : Mem} {p1 : Nat} {r : Int32} (hp1 : kd p1 = 3) (hF : F_Buffer_judge m0 p1 = some r) : CT l ca a y_Buffer_judge b_Buffer_judge 3 (some .int) (RM 3 64) [.ref (a 13), .ref (a p1)] m0 (some (.int r)) m0 := by
  refine ct_of (own := R_Buffer) (lv := [some (.ref (a 13)), some (.ref (a p1)), none]) (plainFor_of_name (by decide)) rfl (cat_ok rfl) (Nat.le_of_ble_eq_true rfl) rfl ?_
  unfold F_Buffer_judge at hF
  refine ww_aload_1 1 rfl (by decide +kernel) ?_
  obtain ⟨r2, h1, hF⟩ := rd_at hF
  refine ww_cV0i 4 rfl 3 60 (by decide +kernel) mf_Packet_isSound k_Buffer_60 hp1 (by decide) rfl ⟨by decide, by decide⟩ ⟨rfl, rfl⟩ (Nat.le_of_ble_eq_true rfl) (C_Packet_isSound hp1 h1) ?_
  refine ww_if_ne 7 rfl (5) 9 (by decide +kernel) (by decide) (fun h => ?_) (fun h => ?_)
  · rw [if_neg h] at hF
    refine ww_aload_0 10 rfl (by decide +kernel) ?_
    refine ww_geti 13 rfl 2 3 26 (by decide +kernel) rfl k_Buffer_26 (by decide) (by decide) rfl rfl ?_
    refine ww_if_ne 16 rfl (5) 18 (by decide +kernel) (by decide) (fun h => ?_) (fun h => ?_)
    · rw [if_neg h] at hF
      refine ww_aload_1 19 rfl (by decide +kernel) ?_
      obtain ⟨r4, h3, hF⟩ := rd_at hF
      refine ww_cV0i 22 rfl 3 50 (by decide +kernel) mf_Packet_source k_Buffer_50 hp1 (by decide) rfl ⟨by decide, by decide⟩ ⟨rfl, rfl⟩ (Nat.le_of_ble_eq_true rfl) (C_Packet_source hp1 h3) ?_
      refine ww_aload_0 23 rfl (by decide +kernel) ?_
      refine ww_geti 26 rfl 2 6 36 (by decide +kernel) rfl k_Buffer_36 (by decide) (by decide) rfl rfl ?_
      refine ww_icmp_eq 29 rfl (6) 32 (by decide +kernel) (by decide) (fun h => ?_) (fun h => ?_)
      · rw [if_pos h] at hF
        refine ww_aload_0 33 rfl (by decide +kernel) ?_
        refine ww_aload_1 34 rfl (by decide +kernel) ?_
        obtain ⟨r6, h5, hF⟩ := rd_at hF
        refine ww_cV0i 37 rfl 3 46 (by decide +kernel) mf_Packet_sequence k_Buffer_46 hp1 (by decide) rfl ⟨by decide, by decide⟩ ⟨rfl, rfl⟩ (Nat.le_of_ble_eq_true rfl) (C_Packet_sequence hp1 h5) ?_
        obtain ⟨r8, h7, hF⟩ := rd_at hF
        refine ww_cV1i 40 rfl 2 64 (by decide +kernel) mf_Buffer_distanceOf k_Buffer_64 rfl (by decide) rfl ⟨by decide, by decide⟩ ⟨rfl, rfl⟩ (Nat.le_of_ble_eq_true rfl) (C_Buffer_distanceOf h7) ?_
        refine ww_istore_2 41 rfl (by decide +kernel) (by decide) ?_
        refine ww_iload_2 42 rfl (by decide +kernel) ?_
        refine ww_if_ge 45 rfl (6) 48 (by decide +kernel) (by decide) (fun h => ?_) (fun h => ?_)
        · rw [if_pos h] at hF
          refine ww_iload_2 49 rfl (by decide +kernel) ?_
          refine ww_bipush 51 rfl (8) (8 : Int32) (by decide +kernel) (by decide) ?_
          refine ww_icmp_lt 54 rfl (6) 57 (by decide +kernel) (by decide) (fun h => ?_) (fun h => ?_)
          · rw [if_pos h] at hF
            refine ww_aload_0 58 rfl (by decide +kernel) ?_
            refine ww_getr 61 rfl 2 1 18 15 (by decide +kernel) rfl k_Buffer_18 (by decide) (by decide) rfl rfl (by omega) ?_
            refine ww_aload_1 62 rfl (by decide +kernel) ?_
            obtain ⟨r10, h9, hF⟩ := rd_at hF
            refine ww_cV0i 65 rfl 3 46 (by decide +kernel) mf_Packet_sequence k_Buffer_46 hp1 (by decide) rfl ⟨by decide, by decide⟩ ⟨rfl, rfl⟩ (Nat.le_of_ble_eq_true rfl) (C_Packet_sequence hp1 h9) ?_
            obtain ⟨r12, h11, hF⟩ := rd_at hF
            refine ww_cS1i 68 rfl 52 (by decide +kernel) mf_Buffer_placeOf k_Buffer_52 ⟨by decide, by decide⟩ ⟨rfl, rfl⟩ (Nat.le_of_ble_eq_true rfl) (C_Buffer_placeOf h11) ?_
            obtain ⟨g13, hF⟩ := gd_at hF
            refine ww_zald 69 rfl (by decide +kernel) rfl g13 ?_
            refine ww_if_eq 72 rfl (8) 77 (by decide +kernel) (by decide) (fun h => ?_) (fun h => ?_)
            · rw [if_pos h] at hF
              refine ww_iload_2 78 rfl (by decide +kernel) ?_
              cases hF
              exact ww_iret (by decide +kernel) rfl
            · rw [if_neg h] at hF
              refine ww_bipush 74 rfl (-6) (-6 : Int32) (by decide +kernel) (by decide) ?_
              refine ww_goto (4) 78 (by decide +kernel) (by decide) ?_
              cases hF
              exact ww_iret (by decide +kernel) rfl
          · rw [if_neg h] at hF
            refine ww_bipush 56 rfl (-5) (-5 : Int32) (by decide +kernel) (by decide) ?_
            cases hF
            exact ww_iret (by decide +kernel) rfl
        · rw [if_neg h] at hF
          refine ww_bipush 47 rfl (-4) (-4 : Int32) (by decide +kernel) (by decide) ?_
          cases hF
          exact ww_iret (by decide +kernel) rfl
      · rw [if_neg h] at hF
        refine ww_bipush 31 rfl (-7) (-7 : Int32) (by decide +kernel) (by decide) ?_
        cases hF
        exact ww_iret (by decide +kernel) rfl
    · rw [if_pos h] at hF
      refine ww_iconst 17 rfl (0) (0 : Int32) (by decide +kernel) (by decide) ?_
      cases hF
      exact ww_iret (by decide +kernel) rfl
  · rw [if_pos h] at hF
    refine ww_iconst 8 rfl (-1) (-1 : Int32) (by decide +kernel) (by decide) ?_
    cases hF
    exact ww_iret (by decide +kernel) rfl
set_option maxHeartbeats 4000000 in
set_option maxRecDepth 100000 in
theorem B_Buffer_accept_51 {l : Launch} {ca : Nat → ClassId} {a : Nat → Nat} {m0 : Mem} {l1 : Nat} {l2 : Int32} {z3 : Option Value} {r : Int32} {m9 : Mem} (hl1 : kd l1 = 3) (hF : F_Buffer_accept_51 m0 l1 l2 = some (r, m9)) : WW l b_Buffer_accept 4 (some .int) R_Buffer (RM 4 86) ca a (EM ca a (some (.int r)) m9) 51 [some (.ref (a 13)), some (.ref (a l1)), some (.int l2), z3] [] m0 := by
  unfold F_Buffer_accept_51 at hF
  refine ww_aload_1 52 rfl (by decide +kernel) ?_
  obtain ⟨r13, h12, hF⟩ := rd_at hF
  refine ww_cV0i 55 rfl 3 46 (by decide +kernel) mf_Packet_sequence k_Buffer_46 hl1 (by decide) rfl ⟨by decide, by decide⟩ ⟨rfl, rfl⟩ (Nat.le_of_ble_eq_true rfl) (C_Packet_sequence hl1 h12) ?_
  obtain ⟨r15, h14, hF⟩ := rd_at hF
  refine ww_cS1i 58 rfl 52 (by decide +kernel) mf_Buffer_placeOf k_Buffer_52 ⟨by decide, by decide⟩ ⟨rfl, rfl⟩ (Nat.le_of_ble_eq_true rfl) (C_Buffer_placeOf h14) ?_
  refine ww_istore_3 59 rfl (by decide +kernel) (by decide) ?_
  refine ww_aload_0 60 rfl (by decide +kernel) ?_
  refine ww_getr 63 rfl 2 0 13 14 (by decide +kernel) rfl k_Buffer_13 (by decide) (by decide) rfl rfl (by omega) ?_
  refine ww_iload_3 64 rfl (by decide +kernel) ?_
  obtain ⟨g16, hF⟩ := gd_at hF
  refine ww_aald 65 rfl (by decide +kernel) rfl g16 ?_
  obtain ⟨g17, hF⟩ := gp_at hF
  refine ww_aload_1 66 rfl (by decide +kernel) ?_
  obtain ⟨m19, h18, hF⟩ := rd_at hF
  refine ww_cV1v 69 rfl 3 56 (by decide +kernel) mf_Packet_copyFrom k_Buffer_56 g17 (by decide) rfl ⟨by decide, by decide⟩ ⟨rfl, rfl⟩ (Nat.le_of_ble_eq_true rfl) (C_Packet_copyFrom g17 hl1 h18) ?_
  refine ww_aload_0 70 rfl (by decide +kernel) ?_
  refine ww_getr 73 rfl 2 1 18 15 (by decide +kernel) rfl k_Buffer_18 (by decide) (by decide) rfl rfl (by omega) ?_
  refine ww_iload_3 74 rfl (by decide +kernel) ?_
  refine ww_iconst 75 rfl (1) (1 : Int32) (by decide +kernel) (by decide) ?_
  obtain ⟨g20, hF⟩ := gd_at hF
  refine ww_zast 76 rfl (by decide +kernel) rfl g20 ?_
  refine ww_nmm (fun m21 em21 => ?_)
  replace hF := bnd_at hF em21
  refine ww_aload_0 77 rfl (by decide +kernel) ?_
  refine ww_dup 78 rfl (by decide +kernel) rfl ?_
  refine ww_geti 81 rfl 2 4 30 (by decide +kernel) rfl k_Buffer_30 (by decide) (by decide) rfl rfl ?_
  refine ww_iconst 82 rfl (1) (1 : Int32) (by decide +kernel) (by decide) ?_
  refine ww_iadd 83 rfl (by decide +kernel) ?_
  refine ww_put 86 rfl 2 4 30 (by decide +kernel) rfl k_Buffer_30 (by decide) (by decide) rfl rfl rfl rfl rfl rfl ?_
  refine ww_nmm (fun m22 em22 => ?_)
  replace hF := bnd_at hF em22
  refine ww_iload_2 87 rfl (by decide +kernel) ?_
  cases hF
  exact ww_iret (by decide +kernel) rfl
set_option maxHeartbeats 4000000 in
set_option maxRecDepth 100000 in
theorem C_Buffer_accept {l : Launch} {ca : Nat → ClassId} {a : Nat → Nat} {m0 : Mem} {p1 : Nat} {r : Int32} {m9 : Mem} (hp1 : kd p1 = 3) (hF : F_Buffer_accept m0 p1 = some (r, m9)) : CT l ca a y_Buffer_accept b_Buffer_accept 4 (some .int) (RM 4 86) [.ref (a 13), .ref (a p1)] m0 (some (.int r)) m9 := by
  refine ct_of (own := R_Buffer) (lv := [some (.ref (a 13)), some (.ref (a p1)), none, none]) (plainFor_of_name (by decide)) rfl (cat_ok rfl) (Nat.le_of_ble_eq_true rfl) rfl ?_
  unfold F_Buffer_accept at hF
  refine ww_aload_0 1 rfl (by decide +kernel) ?_
  refine ww_aload_1 2 rfl (by decide +kernel) ?_
  obtain ⟨r2, h1, hF⟩ := rd_at hF
  refine ww_cV1i 5 rfl 2 42 (by decide +kernel) mf_Buffer_judge k_Buffer_42 rfl (by decide) rfl ⟨by decide, by decide⟩ ⟨rfl, rfl⟩ (Nat.le_of_ble_eq_true rfl) (C_Buffer_judge hp1 h1) ?_
  refine ww_istore_2 6 rfl (by decide +kernel) (by decide) ?_
  refine ww_iload_2 7 rfl (by decide +kernel) ?_
  refine ww_if_ge 10 rfl (16) 23 (by decide +kernel) (by decide) (fun h => ?_) (fun h => ?_)
  · rw [if_pos h] at hF
    refine ww_aload_0 24 rfl (by decide +kernel) ?_
    refine ww_geti 27 rfl 2 3 26 (by decide +kernel) rfl k_Buffer_26 (by decide) (by decide) rfl rfl ?_
    refine ww_if_ne 30 rfl (24) 51 (by decide +kernel) (by decide) (fun h => ?_) (fun h => ?_)
    · rw [if_neg h] at hF
      exact B_Buffer_accept_51 hp1 hF
    · rw [if_pos h] at hF
      refine ww_aload_0 31 rfl (by decide +kernel) ?_
      refine ww_iconst 32 rfl (1) (1 : Int32) (by decide +kernel) (by decide) ?_
      refine ww_put 35 rfl 2 3 26 (by decide +kernel) rfl k_Buffer_26 (by decide) (by decide) rfl rfl rfl rfl rfl rfl ?_
      refine ww_nmm (fun m3 em3 => ?_)
      replace hF := bnd_at hF em3
      refine ww_aload_0 36 rfl (by decide +kernel) ?_
      refine ww_aload_1 37 rfl (by decide +kernel) ?_
      obtain ⟨r5, h4, hF⟩ := rd_at hF
      refine ww_cV0i 40 rfl 3 46 (by decide +kernel) mf_Packet_sequence k_Buffer_46 hp1 (by decide) rfl ⟨by decide, by decide⟩ ⟨rfl, rfl⟩ (Nat.le_of_ble_eq_true rfl) (C_Packet_sequence hp1 h4) ?_
      refine ww_put 43 rfl 2 5 33 (by decide +kernel) rfl k_Buffer_33 (by decide) (by decide) rfl rfl rfl rfl rfl rfl ?_
      refine ww_nmm (fun m6 em6 => ?_)
      replace hF := bnd_at hF em6
      refine ww_aload_0 44 rfl (by decide +kernel) ?_
      refine ww_aload_1 45 rfl (by decide +kernel) ?_
      obtain ⟨r8, h7, hF⟩ := rd_at hF
      refine ww_cV0i 48 rfl 3 50 (by decide +kernel) mf_Packet_source k_Buffer_50 hp1 (by decide) rfl ⟨by decide, by decide⟩ ⟨rfl, rfl⟩ (Nat.le_of_ble_eq_true rfl) (C_Packet_source hp1 h7) ?_
      refine ww_put 51 rfl 2 6 36 (by decide +kernel) rfl k_Buffer_36 (by decide) (by decide) rfl rfl rfl rfl rfl rfl ?_
      refine ww_nmm (fun m9 em9 => ?_)
      replace hF := bnd_at hF em9
      exact B_Buffer_accept_51 hp1 hF
  · rw [if_neg h] at hF
    refine ww_aload_0 11 rfl (by decide +kernel) ?_
    refine ww_getr 14 rfl 2 2 22 16 (by decide +kernel) rfl k_Buffer_22 (by decide) (by decide) rfl rfl (by omega) ?_
    refine ww_iload_2 15 rfl (by decide +kernel) ?_
    refine ww_ineg 16 rfl (by decide +kernel) ?_
    refine ww_dup2 17 rfl (by decide +kernel) rfl rfl ?_
    obtain ⟨g10, hF⟩ := gd_at hF
    refine ww_iald 18 rfl (by decide +kernel) rfl g10 ?_
    refine ww_iconst 19 rfl (1) (1 : Int32) (by decide +kernel) (by decide) ?_
    refine ww_iadd 20 rfl (by decide +kernel) ?_
    refine ww_iast 21 rfl (by decide +kernel) rfl g10 ?_
    refine ww_nmm (fun m11 em11 => ?_)
    replace hF := bnd_at hF em11
    refine ww_iload_2 22 rfl (by decide +kernel) ?_
    cases hF
    exact ww_iret (by decide +kernel) rfl
set_option maxHeartbeats 4000000 in
set_option maxRecDepth 100000 in
theorem C_Gate_receive {l : Launch} {ca : Nat → ClassId} {a : Nat → Nat} {m0 : Mem}  {r : Int32} {m9 : Mem}  (hF : F_Gate_receive m0 = some (r, m9)) : CT l ca a y_Gate_receive b_Gate_receive 3 (some .int) (RM 5 109) [.ref (a 0)] m0 (some (.int r)) m9 := by
  refine ct_of (own := R_Gate) (lv := [some (.ref (a 0)), none, none]) (plainFor_of_name (by decide)) rfl (cat_ok rfl) (Nat.le_of_ble_eq_true rfl) rfl ?_
  unfold F_Gate_receive at hF
  refine ww_aload_0 1 rfl (by decide +kernel) ?_
  refine ww_getr 4 rfl 0 2 24 7 (by decide +kernel) rfl k_Gate_24 (by decide) (by decide) rfl rfl (by omega) ?_
  refine ww_iconst 5 rfl (0) (0 : Int32) (by decide +kernel) (by decide) ?_
  obtain ⟨r2, h1, hF⟩ := rd_at hF
  refine ww_cV1q 8 rfl 7 105 (by decide +kernel) mf_Wire_at k_Gate_105 rfl (by decide) rfl ⟨by decide, by decide⟩ ⟨rfl, rfl⟩ (Nat.le_of_ble_eq_true rfl) (C_Wire_at h1) ?_ ?_
  · intro e
    subst e
    replace hF := om_none hF
    refine ww_astore_1N 9 rfl (by decide +kernel) (by decide) ?_
    refine ww_aload_1N 10 rfl (by decide +kernel) ?_
    refine ww_ifnonnullN 13 rfl (6) (by decide +kernel) ?_
    refine ww_bipush 15 rfl (-2) (-2 : Int32) (by decide +kernel) (by decide) ?_
    cases hF
    exact ww_iret (by decide +kernel) rfl
  · intro k3 e
    subst e
    replace hF := om_some hF
    obtain ⟨g4, hF⟩ := gp_at hF
    refine ww_astore_1 9 rfl (by decide +kernel) (by decide) ?_
    refine ww_aload_1 10 rfl (by decide +kernel) ?_
    refine ww_ifnonnull (6) 16 (by decide +kernel) (by decide) ?_
    refine ww_aload_0 17 rfl (by decide +kernel) ?_
    refine ww_getr 20 rfl 0 4 38 13 (by decide +kernel) rfl k_Gate_38 (by decide) (by decide) rfl rfl (by omega) ?_
    refine ww_aload_1 21 rfl (by decide +kernel) ?_
    obtain ⟨r6, m7, h5, hF⟩ := cal_at hF
    refine ww_cV1i 24 rfl 2 128 (by decide +kernel) mf_Buffer_accept k_Gate_128 rfl (by decide) rfl ⟨by decide, by decide⟩ ⟨rfl, rfl⟩ (Nat.le_of_ble_eq_true rfl) (C_Buffer_accept g4 h5) ?_
    refine ww_istore_2 25 rfl (by decide +kernel) (by decide) ?_
    refine ww_aload_0 26 rfl (by decide +kernel) ?_
    refine ww_getr 29 rfl 0 2 24 7 (by decide +kernel) rfl k_Gate_24 (by decide) (by decide) rfl rfl (by omega) ?_
    refine ww_iconst 30 rfl (0) (0 : Int32) (by decide +kernel) (by decide) ?_
    obtain ⟨r9, m10, h8, hF⟩ := cal_at hF
    refine ww_cV1i 33 rfl 7 116 (by decide +kernel) mf_Wire_lose k_Gate_116 rfl (by decide) rfl ⟨by decide, by decide⟩ ⟨rfl, rfl⟩ (Nat.le_of_ble_eq_true rfl) (C_Wire_lose h8) ?_
    refine ww_pop 34 rfl (by decide +kernel) rfl ?_
    refine ww_iload_2 35 rfl (by decide +kernel) ?_
    cases hF
    exact ww_iret (by decide +kernel) rfl
set_option maxHeartbeats 4000000 in
set_option maxRecDepth 100000 in
theorem C_Buffer_setPrefill {l : Launch} {ca : Nat → ClassId} {a : Nat → Nat} {m0 : Mem} {p1 : Int32} {r : Int32} {m9 : Mem}  (hF : F_Buffer_setPrefill m0 p1 = some (r, m9)) : CT l ca a y_Buffer_setPrefill b_Buffer_setPrefill 2 (some .boolean) (RM 0 0) [.ref (a 13), .int p1] m0 (some (.int r)) m9 := by
  refine ct_of (own := R_Buffer) (lv := [some (.ref (a 13)), some (.int p1)]) (plainFor_of_name (by decide)) rfl (cat_ok rfl) (Nat.le_of_ble_eq_true rfl) rfl ?_
  unfold F_Buffer_setPrefill at hF
  refine ww_iload_1 1 rfl (by decide +kernel) ?_
  refine ww_iconst 2 rfl (1) (1 : Int32) (by decide +kernel) (by decide) ?_
  refine ww_icmp_lt 5 rfl (8) 10 (by decide +kernel) (by decide) (fun h => ?_) (fun h => ?_)
  · rw [if_pos h] at hF
    refine ww_iconst 11 rfl (0) (0 : Int32) (by decide +kernel) (by decide) ?_
    cases hF
    exact ww_zret (by decide +kernel) rfl (by decide)
  · rw [if_neg h] at hF
    refine ww_iload_1 6 rfl (by decide +kernel) ?_
    refine ww_iconst 7 rfl (4) (4 : Int32) (by decide +kernel) (by decide) ?_
    refine ww_icmp_le 10 rfl (5) 12 (by decide +kernel) (by decide) (fun h => ?_) (fun h => ?_)
    · rw [if_pos h] at hF
      refine ww_aload_0 13 rfl (by decide +kernel) ?_
      refine ww_iload_1 14 rfl (by decide +kernel) ?_
      refine ww_put 17 rfl 2 7 39 (by decide +kernel) rfl k_Buffer_39 (by decide) (by decide) rfl rfl rfl rfl rfl rfl ?_
      refine ww_nmm (fun m1 em1 => ?_)
      replace hF := bnd_at hF em1
      refine ww_iconst 18 rfl (1) (1 : Int32) (by decide +kernel) (by decide) ?_
      cases hF
      exact ww_zret (by decide +kernel) rfl (by decide)
    · rw [if_neg h] at hF
      refine ww_iconst 11 rfl (0) (0 : Int32) (by decide +kernel) (by decide) ?_
      cases hF
      exact ww_zret (by decide +kernel) rfl (by decide)
set_option maxHeartbeats 4000000 in
set_option maxRecDepth 100000 in
theorem C_Gate_prefill {l : Launch} {ca : Nat → ClassId} {a : Nat → Nat} {m0 : Mem} {p1 : Int32} {r : Int32} {m9 : Mem}  (hF : F_Gate_prefill m0 p1 = some (r, m9)) : CT l ca a y_Gate_prefill b_Gate_prefill 2 (some .boolean) (RM 1 21) [.ref (a 0), .int p1] m0 (some (.int r)) m9 := by
  refine ct_of (own := R_Gate) (lv := [some (.ref (a 0)), some (.int p1)]) (plainFor_of_name (by decide)) rfl (cat_ok rfl) (Nat.le_of_ble_eq_true rfl) rfl ?_
  unfold F_Gate_prefill at hF
  refine ww_aload_0 1 rfl (by decide +kernel) ?_
  refine ww_getr 4 rfl 0 4 38 13 (by decide +kernel) rfl k_Gate_38 (by decide) (by decide) rfl rfl (by omega) ?_
  refine ww_iload_1 5 rfl (by decide +kernel) ?_
  obtain ⟨r2, m3, h1, hF⟩ := cal_at hF
  refine ww_cV1i 8 rfl 2 132 (by decide +kernel) mf_Buffer_setPrefill k_Gate_132 rfl (by decide) rfl ⟨by decide, by decide⟩ ⟨rfl, rfl⟩ (Nat.le_of_ble_eq_true rfl) (C_Buffer_setPrefill h1) ?_
  obtain ⟨g4, hF⟩ := gp_at hF
  cases hF
  exact ww_zret (by decide +kernel) rfl g4
