set_option maxHeartbeats 4000000 in
set_option maxRecDepth 100000 in
theorem C_Packet_cutLast {l : Launch} {ca : Nat → ClassId} {a : Nat → Nat} {m0 : Mem} {t : Nat} {r : Int32} {m9 : Mem} (ht : kd t = 3) (hF : F_Packet_cutLast m0 t = some (r, m9)) : CT l ca a y_Packet_cutLast b_Packet_cutLast 1 (some .boolean) (RM 0 0) [.ref (a t)] m0 (some (.int r)) m9 := by
  refine ct_of (own := R_Packet) (lv := [some (.ref (a t))]) (plainFor_of_name (by decide)) rfl (cat_ok rfl) (Nat.le_of_ble_eq_true rfl) rfl ?_
  unfold F_Packet_cutLast at hF
  refine ww_aload_0 1 rfl (by decide +kernel) ?_
  refine ww_geti 4 rfl 3 1 15 (by decide +kernel) ht k_Packet_15 (by decide) (by decide) rfl rfl ?_
  refine ww_if_ne 7 rfl (5) 9 (by decide +kernel) (by decide) (fun h => ?_) (fun h => ?_)
  · rw [if_neg h] at hF
    refine ww_aload_0 10 rfl (by decide +kernel) ?_
    refine ww_dup 11 rfl (by decide +kernel) rfl ?_
    refine ww_geti 14 rfl 3 1 15 (by decide +kernel) ht k_Packet_15 (by decide) (by decide) rfl rfl ?_
    refine ww_iconst 15 rfl (1) (1 : Int32) (by decide +kernel) (by decide) ?_
    refine ww_isub 16 rfl (by decide +kernel) ?_
    refine ww_put 19 rfl 3 1 15 (by decide +kernel) ht k_Packet_15 (by decide) (by decide) rfl rfl rfl rfl rfl rfl ?_
    refine ww_nmm (fun m1 em1 => ?_)
    replace hF := bnd_at hF em1
    refine ww_iconst 20 rfl (1) (1 : Int32) (by decide +kernel) (by decide) ?_
    cases hF
    exact ww_zret (by decide +kernel) rfl (by decide)
  · rw [if_pos h] at hF
    refine ww_iconst 8 rfl (0) (0 : Int32) (by decide +kernel) (by decide) ?_
    cases hF
    exact ww_zret (by decide +kernel) rfl (by decide)
set_option maxHeartbeats 4000000 in
set_option maxRecDepth 100000 in
theorem C_Wire_shorten {l : Launch} {ca : Nat → ClassId} {a : Nat → Nat} {m0 : Mem} {p1 : Int32} {r : Int32} {m9 : Mem}  (hF : F_Wire_shorten m0 p1 = some (r, m9)) : CT l ca a y_Wire_shorten b_Wire_shorten 3 (some .boolean) (RM 1 21) [.ref (a 7), .int p1] m0 (some (.int r)) m9 := by
  refine ct_of (own := R_Wire) (lv := [some (.ref (a 7)), some (.int p1), none]) (plainFor_of_name (by decide)) rfl (cat_ok rfl) (Nat.le_of_ble_eq_true rfl) rfl ?_
  unfold F_Wire_shorten at hF
  refine ww_aload_0 1 rfl (by decide +kernel) ?_
  refine ww_iload_1 2 rfl (by decide +kernel) ?_
  obtain ⟨r2, h1, hF⟩ := rd_at hF
  refine ww_cV1q 5 rfl 7 23 (by decide +kernel) mf_Wire_at k_Wire_23 rfl (by decide) rfl ⟨by decide, by decide⟩ ⟨rfl, rfl⟩ (Nat.le_of_ble_eq_true rfl) (C_Wire_at h1) ?_ ?_
  · intro e
    subst e
    replace hF := om_none hF
    refine ww_astore_2N 6 rfl (by decide +kernel) (by decide) ?_
    refine ww_aload_2N 7 rfl (by decide +kernel) ?_
    refine ww_ifnullN (14) 21 (by decide +kernel) (by decide) ?_
    refine ww_iconst 22 rfl (0) (0 : Int32) (by decide +kernel) (by decide) ?_
    cases hF
    exact ww_zret (by decide +kernel) rfl (by decide)
  · intro k3 e
    subst e
    replace hF := om_some hF
    obtain ⟨g4, hF⟩ := gp_at hF
    refine ww_astore_2 6 rfl (by decide +kernel) (by decide) ?_
    refine ww_aload_2 7 rfl (by decide +kernel) ?_
    refine ww_ifnull 10 rfl (14) (by decide +kernel) ?_
    refine ww_aload_2 11 rfl (by decide +kernel) ?_
    obtain ⟨r6, m7, h5, hF⟩ := cal_at hF
    refine ww_cV0i 14 rfl 3 35 (by decide +kernel) mf_Packet_cutLast k_Wire_35 g4 (by decide) rfl ⟨by decide, by decide⟩ ⟨rfl, rfl⟩ (Nat.le_of_ble_eq_true rfl) (C_Packet_cutLast g4 h5) ?_
    refine ww_if_eq 17 rfl (7) 21 (by decide +kernel) (by decide) (fun h => ?_) (fun h => ?_)
    · rw [if_pos h] at hF
      refine ww_iconst 22 rfl (0) (0 : Int32) (by decide +kernel) (by decide) ?_
      cases hF
      exact ww_zret (by decide +kernel) rfl (by decide)
    · rw [if_neg h] at hF
      refine ww_iconst 18 rfl (1) (1 : Int32) (by decide +kernel) (by decide) ?_
      refine ww_goto (4) 22 (by decide +kernel) (by decide) ?_
      cases hF
      exact ww_zret (by decide +kernel) rfl (by decide)
set_option maxHeartbeats 4000000 in
set_option maxRecDepth 100000 in
theorem C_Gate_disturb {l : Launch} {ca : Nat → ClassId} {a : Nat → Nat} {m0 : Mem} {p1 : Int32} {p2 : Int32} {r : Int32} {m9 : Mem}  (hF : F_Gate_disturb m0 p1 p2 = some (r, m9)) : CT l ca a y_Gate_disturb b_Gate_disturb 3 (some .boolean) (RM 3 70) [.ref (a 0), .int p1, .int p2] m0 (some (.int r)) m9 := by
  refine ct_of (own := R_Gate) (lv := [some (.ref (a 0)), some (.int p1), some (.int p2)]) (plainFor_of_name (by decide)) rfl (cat_ok rfl) (Nat.le_of_ble_eq_true rfl) rfl ?_
  unfold F_Gate_disturb at hF
  refine ww_iload_2 1 rfl (by decide +kernel) ?_
  by_cases h0 : p2 = (0 : Int32)
  · rw [if_pos h0] at hF
    refine ww_swIn (67) (0) (3) #[31, 40, 49, 58] 31 (0 : Int32) (31) 32 (by decide +kernel) h0 (by decide) (by decide) (by decide) (by decide) ?_
    refine ww_aload_0 33 rfl (by decide +kernel) ?_
    refine ww_getr 36 rfl 0 2 24 7 (by decide +kernel) rfl k_Gate_24 (by decide) (by decide) rfl rfl (by omega) ?_
    refine ww_iload_1 37 rfl (by decide +kernel) ?_
    obtain ⟨r14, m15, h13, hF⟩ := cal_at hF
    refine ww_cV1i 40 rfl 7 116 (by decide +kernel) mf_Wire_lose k_Gate_116 rfl (by decide) rfl ⟨by decide, by decide⟩ ⟨rfl, rfl⟩ (Nat.le_of_ble_eq_true rfl) (C_Wire_lose h13) ?_
    obtain ⟨g16, hF⟩ := gp_at hF
    cases hF
    exact ww_zret (by decide +kernel) rfl g16
  · rw [if_neg h0] at hF
    by_cases h1 : p2 = (1 : Int32)
    · rw [if_pos h1] at hF
      refine ww_swIn (67) (0) (3) #[31, 40, 49, 58] 31 (1 : Int32) (40) 41 (by decide +kernel) h1 (by decide) (by decide) (by decide) (by decide) ?_
      refine ww_aload_0 42 rfl (by decide +kernel) ?_
      refine ww_getr 45 rfl 0 2 24 7 (by decide +kernel) rfl k_Gate_24 (by decide) (by decide) rfl rfl (by omega) ?_
      refine ww_iload_1 46 rfl (by decide +kernel) ?_
      obtain ⟨r10, m11, h9, hF⟩ := cal_at hF
      refine ww_cV1i 49 rfl 7 119 (by decide +kernel) mf_Wire_exchange k_Gate_119 rfl (by decide) rfl ⟨by decide, by decide⟩ ⟨rfl, rfl⟩ (Nat.le_of_ble_eq_true rfl) (C_Wire_exchange h9) ?_
      obtain ⟨g12, hF⟩ := gp_at hF
      cases hF
      exact ww_zret (by decide +kernel) rfl g12
    · rw [if_neg h1] at hF
      by_cases h2 : p2 = (2 : Int32)
      · rw [if_pos h2] at hF
        refine ww_swIn (67) (0) (3) #[31, 40, 49, 58] 31 (2 : Int32) (49) 50 (by decide +kernel) h2 (by decide) (by decide) (by decide) (by decide) ?_
        refine ww_aload_0 51 rfl (by decide +kernel) ?_
        refine ww_getr 54 rfl 0 2 24 7 (by decide +kernel) rfl k_Gate_24 (by decide) (by decide) rfl rfl (by omega) ?_
        refine ww_iload_1 55 rfl (by decide +kernel) ?_
        obtain ⟨r6, m7, h5, hF⟩ := cal_at hF
        refine ww_cV1i 58 rfl 7 122 (by decide +kernel) mf_Wire_repeat k_Gate_122 rfl (by decide) rfl ⟨by decide, by decide⟩ ⟨rfl, rfl⟩ (Nat.le_of_ble_eq_true rfl) (C_Wire_repeat h5) ?_
        obtain ⟨g8, hF⟩ := gp_at hF
        cases hF
        exact ww_zret (by decide +kernel) rfl g8
      · rw [if_neg h2] at hF
        by_cases h3 : p2 = (3 : Int32)
        · rw [if_pos h3] at hF
          refine ww_swIn (67) (0) (3) #[31, 40, 49, 58] 31 (3 : Int32) (58) 59 (by decide +kernel) h3 (by decide) (by decide) (by decide) (by decide) ?_
          refine ww_aload_0 60 rfl (by decide +kernel) ?_
          refine ww_getr 63 rfl 0 2 24 7 (by decide +kernel) rfl k_Gate_24 (by decide) (by decide) rfl rfl (by omega) ?_
          refine ww_iload_1 64 rfl (by decide +kernel) ?_
          obtain ⟨r2, m3, h1, hF⟩ := cal_at hF
          refine ww_cV1i 67 rfl 7 125 (by decide +kernel) mf_Wire_shorten k_Gate_125 rfl (by decide) rfl ⟨by decide, by decide⟩ ⟨rfl, rfl⟩ (Nat.le_of_ble_eq_true rfl) (C_Wire_shorten h1) ?_
          obtain ⟨g4, hF⟩ := gp_at hF
          cases hF
          exact ww_zret (by decide +kernel) rfl g4
        · rw [if_neg h3] at hF
          refine ww_swOut (67) (0) (3) #[31, 40, 49, 58] 31 68 (by decide +kernel) ?_ (by decide) ?_
          · have := sw_ne h0 (n := 0) (by decide)
            have := sw_ne h1 (n := 1) (by decide)
            have := sw_ne h2 (n := 2) (by decide)
            have := sw_ne h3 (n := 3) (by decide)
            omega
          · refine ww_iconst 69 rfl (0) (0 : Int32) (by decide +kernel) (by decide) ?_
            cases hF
            exact ww_zret (by decide +kernel) rfl (by decide)
set_option maxHeartbeats 4000000 in
set_option maxRecDepth 100000 in
theorem B_Packet_coding_12 {l : Launch} {ca : Nat → ClassId} {a : Nat → Nat} {r : Int32} (n : Nat) : ∀ {m0 : Mem} {l1 : Int32} {l2 : Int32} {z0 : Option Value}  (hF : F_Packet_coding_12 n m0 l1 l2 = some r), WW l b_Packet_coding 3 (some .int) R_Packet (RM 0 0) ca a (EM ca a (some (.int r)) m0) 12 [z0, some (.int l1), some (.int l2)] [] m0 := by
  induction n with
  | zero => intros; rename_i hF; rw [F_Packet_coding_12] at hF; cases hF
  | succ n ih =>
    intro m0 l1 l2 z0  hF
    rw [F_Packet_coding_12] at hF
    refine ww_iload_2 13 rfl (by decide +kernel) ?_
    refine ww_gTY 16 rfl 36 (by decide +kernel) k_Packet_36 ?_
    refine ww_lTY 17 rfl (by decide +kernel) ?_
    refine ww_icmp_ge 20 rfl (20) 37 (by decide +kernel) (by decide) (fun h => ?_) (fun h => ?_)
    · rw [if_pos h] at hF
      refine ww_iconst 38 rfl (-1) (-1 : Int32) (by decide +kernel) (by decide) ?_
      cases hF
      exact ww_iret (by decide +kernel) rfl
    · rw [if_neg h] at hF
      refine ww_gTY 23 rfl 36 (by decide +kernel) k_Packet_36 ?_
      refine ww_iload_2 24 rfl (by decide +kernel) ?_
      obtain ⟨g3, hF⟩ := gd_at hF
      refine ww_tTY 25 rfl (by decide +kernel) g3 ?_
      refine ww_iload_1 26 rfl (by decide +kernel) ?_
      refine ww_icmp_ne 29 rfl (5) 31 (by decide +kernel) (by decide) (fun h => ?_) (fun h => ?_)
      · rw [if_neg h] at hF
        refine ww_iinc_2 34 rfl (1) (1 : Int32) (by decide +kernel) (by decide) (by decide) ?_
        refine ww_goto (-22) 12 (by decide +kernel) (by decide) ?_
        exact ih hF
      · rw [if_pos h] at hF
        refine ww_iload_2 30 rfl (by decide +kernel) ?_
        cases hF
        exact ww_iret (by decide +kernel) rfl
set_option maxHeartbeats 4000000 in
set_option maxRecDepth 100000 in
theorem C_Packet_coding {l : Launch} {ca : Nat → ClassId} {a : Nat → Nat} {m0 : Mem} {t : Nat} {r : Int32} (ht : kd t = 3) (hF : F_Packet_coding m0 t = some r) : CT l ca a y_Packet_coding b_Packet_coding 3 (some .int) (RM 0 0) [.ref (a t)] m0 (some (.int r)) m0 := by
  refine ct_of (own := R_Packet) (lv := [some (.ref (a t)), none, none]) (plainFor_of_name (by decide)) rfl (cat_ok rfl) (Nat.le_of_ble_eq_true rfl) rfl ?_
  unfold F_Packet_coding at hF
  refine ww_aload_0 1 rfl (by decide +kernel) ?_
  refine ww_getr 4 rfl 3 0 11 (t + 1) (by decide +kernel) ht k_Packet_11 (by decide) (by decide) rfl rfl (by omega) ?_
  refine ww_iconst 5 rfl (1) (1 : Int32) (by decide +kernel) (by decide) ?_
  obtain ⟨g1, hF⟩ := gd_at hF
  refine ww_iald 6 rfl (by decide +kernel) (kd_byt ht) g1 ?_
  refine ww_bipush 8 rfl (127) (127 : Int32) (by decide +kernel) (by decide) ?_
  refine ww_iand 9 rfl (by decide +kernel) ?_
  refine ww_nmi (fun v2 ev2 => ?_)
  replace hF := bnd_at hF ev2
  refine ww_istore_1 10 rfl (by decide +kernel) (by decide) ?_
  refine ww_iconst 11 rfl (0) (0 : Int32) (by decide +kernel) (by decide) ?_
  refine ww_istore_2 12 rfl (by decide +kernel) (by decide) ?_
  exact B_Packet_coding_12 _ hF
set_option maxHeartbeats 4000000 in
set_option maxRecDepth 100000 in
theorem C_Packet_samplesIn {l : Launch} {ca : Nat → ClassId} {a : Nat → Nat} {m0 : Mem} {t : Nat} {r : Int32} (ht : kd t = 3) (hF : F_Packet_samplesIn m0 t = some r) : CT l ca a y_Packet_samplesIn b_Packet_samplesIn 2 (some .int) (RM 1 22) [.ref (a t)] m0 (some (.int r)) m0 := by
  refine ct_of (own := R_Packet) (lv := [some (.ref (a t)), none]) (plainFor_of_name (by decide)) rfl (cat_ok rfl) (Nat.le_of_ble_eq_true rfl) rfl ?_
  unfold F_Packet_samplesIn at hF
  refine ww_aload_0 1 rfl (by decide +kernel) ?_
  refine ww_geti 4 rfl 3 1 15 (by decide +kernel) ht k_Packet_15 (by decide) (by decide) rfl rfl ?_
  refine ww_bipush 6 rfl (12) (12 : Int32) (by decide +kernel) (by decide) ?_
  refine ww_isub 7 rfl (by decide +kernel) ?_
  refine ww_nmi (fun v1 ev1 => ?_)
  replace hF := bnd_at hF ev1
  refine ww_istore_1 8 rfl (by decide +kernel) (by decide) ?_
  refine ww_aload_0 9 rfl (by decide +kernel) ?_
  obtain ⟨r3, h2, hF⟩ := rd_at hF
  refine ww_cV0i 12 rfl 3 47 (by decide +kernel) mf_Packet_coding k_Packet_47 ht (by decide) rfl ⟨by decide, by decide⟩ ⟨rfl, rfl⟩ (Nat.le_of_ble_eq_true rfl) (C_Packet_coding ht h2) ?_
  by_cases h0 : r3 = (0 : Int32)
  · rw [if_pos h0] at hF
    refine ww_swIn (58) (0) (3) #[32, 32, 34, 44] 32 (0 : Int32) (32) 44 (by decide +kernel) h0 (by decide) (by decide) (by decide) (by decide) ?_
    refine ww_iload_1 45 rfl (by decide +kernel) ?_
    cases hF
    exact ww_iret (by decide +kernel) rfl
  · rw [if_neg h0] at hF
    by_cases h1 : r3 = (1 : Int32)
    · rw [if_pos h1] at hF
      refine ww_swIn (58) (0) (3) #[32, 32, 34, 44] 32 (1 : Int32) (32) 44 (by decide +kernel) h1 (by decide) (by decide) (by decide) (by decide) ?_
      refine ww_iload_1 45 rfl (by decide +kernel) ?_
      cases hF
      exact ww_iret (by decide +kernel) rfl
    · rw [if_neg h1] at hF
      by_cases h2 : r3 = (2 : Int32)
      · rw [if_pos h2] at hF
        refine ww_swIn (58) (0) (3) #[32, 32, 34, 44] 32 (2 : Int32) (34) 46 (by decide +kernel) h2 (by decide) (by decide) (by decide) (by decide) ?_
        refine ww_iconst 47 rfl (2) (2 : Int32) (by decide +kernel) (by decide) ?_
        refine ww_aload_0 48 rfl (by decide +kernel) ?_
        refine ww_geti 51 rfl 3 1 15 (by decide +kernel) ht k_Packet_15 (by decide) (by decide) rfl rfl ?_
        refine ww_bipush 53 rfl (16) (16 : Int32) (by decide +kernel) (by decide) ?_
        refine ww_isub 54 rfl (by decide +kernel) ?_
        refine ww_imul 55 rfl (by decide +kernel) ?_
        cases hF
        exact ww_iret (by decide +kernel) rfl
      · rw [if_neg h2] at hF
        by_cases h3 : r3 = (3 : Int32)
        · rw [if_pos h3] at hF
          refine ww_swIn (58) (0) (3) #[32, 32, 34, 44] 32 (3 : Int32) (44) 56 (by decide +kernel) h3 (by decide) (by decide) (by decide) (by decide) ?_
          refine ww_iload_1 57 rfl (by decide +kernel) ?_
          refine ww_iconst 58 rfl (2) (2 : Int32) (by decide +kernel) (by decide) ?_
          refine ww_irem 59 rfl (by decide +kernel) (by decide) ?_
          refine ww_if_ne 62 rfl (9) 68 (by decide +kernel) (by decide) (fun h => ?_) (fun h => ?_)
          · rw [if_neg h] at hF
            refine ww_iconst 69 rfl (0) (0 : Int32) (by decide +kernel) (by decide) ?_
            cases hF
            exact ww_iret (by decide +kernel) rfl
          · rw [if_pos h] at hF
            refine ww_iload_1 63 rfl (by decide +kernel) ?_
            refine ww_iconst 64 rfl (2) (2 : Int32) (by decide +kernel) (by decide) ?_
            refine ww_idiv 65 rfl (by decide +kernel) (by decide) ?_
            refine ww_goto (4) 69 (by decide +kernel) (by decide) ?_
            cases hF
            exact ww_iret (by decide +kernel) rfl
        · rw [if_neg h3] at hF
          refine ww_swOut (58) (0) (3) #[32, 32, 34, 44] 32 70 (by decide +kernel) ?_ (by decide) ?_
          · have := sw_ne h0 (n := 0) (by decide)
            have := sw_ne h1 (n := 1) (by decide)
            have := sw_ne h2 (n := 2) (by decide)
            have := sw_ne h3 (n := 3) (by decide)
            omega
          · refine ww_iconst 71 rfl (0) (0 : Int32) (by decide +kernel) (by decide) ?_
            cases hF
            exact ww_iret (by decide +kernel) rfl
set_option maxHeartbeats 4000000 in
set_option maxRecDepth 100000 in
theorem C_Adaptive_isIndex {l : Launch} {ca : Nat → ClassId} {a : Nat → Nat} {m0 : Mem} {p0 : Int32} {r : Int32}  (hF : F_Adaptive_isIndex p0 = some r) : CT l ca a y_Adaptive_isIndex b_Adaptive_isIndex 1 (some .boolean) (RM 0 0) [.int p0] m0 (some (.int r)) m0 := by
  refine ct_of (own := R_Adaptive) (lv := [some (.int p0)]) (plainFor_of_name (by decide)) rfl (cat_ok rfl) (Nat.le_of_ble_eq_true rfl) rfl ?_
  unfold F_Adaptive_isIndex at hF
  refine ww_iload_0 1 rfl (by decide +kernel) ?_
  refine ww_if_lt 4 rfl (13) 14 (by decide +kernel) (by decide) (fun h => ?_) (fun h => ?_)
  · rw [if_pos h] at hF
    refine ww_iconst 15 rfl (0) (0 : Int32) (by decide +kernel) (by decide) ?_
    cases hF
    exact ww_zret (by decide +kernel) rfl (by decide)
  · rw [if_neg h] at hF
    refine ww_iload_0 5 rfl (by decide +kernel) ?_
    refine ww_bipush 7 rfl (88) (88 : Int32) (by decide +kernel) (by decide) ?_
    refine ww_icmp_gt 10 rfl (7) 14 (by decide +kernel) (by decide) (fun h => ?_) (fun h => ?_)
    · rw [if_pos h] at hF
      refine ww_iconst 15 rfl (0) (0 : Int32) (by decide +kernel) (by decide) ?_
      cases hF
      exact ww_zret (by decide +kernel) rfl (by decide)
    · rw [if_neg h] at hF
      refine ww_iconst 11 rfl (1) (1 : Int32) (by decide +kernel) (by decide) ?_
      refine ww_goto (4) 15 (by decide +kernel) (by decide) ?_
      cases hF
      exact ww_zret (by decide +kernel) rfl (by decide)
set_option maxHeartbeats 4000000 in
set_option maxRecDepth 100000 in
theorem C_Packet_isSound {l : Launch} {ca : Nat → ClassId} {a : Nat → Nat} {m0 : Mem} {t : Nat} {r : Int32} (ht : kd t = 3) (hF : F_Packet_isSound m0 t = some r) : CT l ca a y_Packet_isSound b_Packet_isSound 2 (some .boolean) (RM 2 43) [.ref (a t)] m0 (some (.int r)) m0 := by
  refine ct_of (own := R_Packet) (lv := [some (.ref (a t)), none]) (plainFor_of_name (by decide)) rfl (cat_ok rfl) (Nat.le_of_ble_eq_true rfl) rfl ?_
  unfold F_Packet_isSound at hF
  refine ww_aload_0 1 rfl (by decide +kernel) ?_
  refine ww_geti 4 rfl 3 1 15 (by decide +kernel) ht k_Packet_15 (by decide) (by decide) rfl rfl ?_
  refine ww_bipush 6 rfl (12) (12 : Int32) (by decide +kernel) (by decide) ?_
  refine ww_icmp_le 9 rfl (15) 21 (by decide +kernel) (by decide) (fun h => ?_) (fun h => ?_)
  · rw [if_pos h] at hF
    refine ww_iconst 22 rfl (0) (0 : Int32) (by decide +kernel) (by decide) ?_
    cases hF
    exact ww_zret (by decide +kernel) rfl (by decide)
  · rw [if_neg h] at hF
    refine ww_aload_0 10 rfl (by decide +kernel) ?_
    refine ww_getr 13 rfl 3 0 11 (t + 1) (by decide +kernel) ht k_Packet_11 (by decide) (by decide) rfl rfl (by omega) ?_
    refine ww_iconst 14 rfl (0) (0 : Int32) (by decide +kernel) (by decide) ?_
    obtain ⟨g1, hF⟩ := gd_at hF
    refine ww_iald 15 rfl (by decide +kernel) (kd_byt ht) g1 ?_
    refine ww_sipush 18 rfl (128) (128 : Int32) (by decide +kernel) (by decide) ?_
    refine ww_icmp_eq 21 rfl (5) 23 (by decide +kernel) (by decide) (fun h => ?_) (fun h => ?_)
    · rw [if_pos h] at hF
      refine ww_aload_0 24 rfl (by decide +kernel) ?_
      obtain ⟨r3, h2, hF⟩ := rd_at hF
      refine ww_cV0i 27 rfl 3 51 (by decide +kernel) mf_Packet_samplesIn k_Packet_51 ht (by decide) rfl ⟨by decide, by decide⟩ ⟨rfl, rfl⟩ (Nat.le_of_ble_eq_true rfl) (C_Packet_samplesIn ht h2) ?_
      refine ww_istore_1 28 rfl (by decide +kernel) (by decide) ?_
      refine ww_iload_1 29 rfl (by decide +kernel) ?_
      refine ww_iconst 30 rfl (1) (1 : Int32) (by decide +kernel) (by decide) ?_
      refine ww_icmp_lt 33 rfl (9) 39 (by decide +kernel) (by decide) (fun h => ?_) (fun h => ?_)
      · rw [if_pos h] at hF
        refine ww_iconst 40 rfl (0) (0 : Int32) (by decide +kernel) (by decide) ?_
        cases hF
        exact ww_zret (by decide +kernel) rfl (by decide)
      · rw [if_neg h] at hF
        refine ww_iload_1 34 rfl (by decide +kernel) ?_
        refine ww_bipush 36 rfl (16) (16 : Int32) (by decide +kernel) (by decide) ?_
        refine ww_icmp_le 39 rfl (5) 41 (by decide +kernel) (by decide) (fun h => ?_) (fun h => ?_)
        · rw [if_pos h] at hF
          refine ww_aload_0 42 rfl (by decide +kernel) ?_
          obtain ⟨r5, h4, hF⟩ := rd_at hF
          refine ww_cV0i 45 rfl 3 47 (by decide +kernel) mf_Packet_coding k_Packet_47 ht (by decide) rfl ⟨by decide, by decide⟩ ⟨rfl, rfl⟩ (Nat.le_of_ble_eq_true rfl) (C_Packet_coding ht h4) ?_
          refine ww_iconst 46 rfl (2) (2 : Int32) (by decide +kernel) (by decide) ?_
          refine ww_icmp_ne 49 rfl (26) 72 (by decide +kernel) (by decide) (fun h => ?_) (fun h => ?_)
          · rw [if_neg h] at hF
            refine ww_iconst 73 rfl (1) (1 : Int32) (by decide +kernel) (by decide) ?_
            refine ww_goto (4) 77 (by decide +kernel) (by decide) ?_
            cases hF
            exact ww_zret (by decide +kernel) rfl (by decide)
          · rw [if_pos h] at hF
            refine ww_aload_0 50 rfl (by decide +kernel) ?_
            refine ww_getr 53 rfl 3 0 11 (t + 1) (by decide +kernel) ht k_Packet_11 (by decide) (by decide) rfl rfl (by omega) ?_
            refine ww_bipush 55 rfl (14) (14 : Int32) (by decide +kernel) (by decide) ?_
            obtain ⟨g6, hF⟩ := gd_at hF
            refine ww_iald 56 rfl (by decide +kernel) (kd_byt ht) g6 ?_
            obtain ⟨r8, h7, hF⟩ := rd_at hF
            refine ww_cS1i 59 rfl 54 (by decide +kernel) mf_Adaptive_isIndex k_Packet_54 ⟨by decide, by decide⟩ ⟨rfl, rfl⟩ (Nat.le_of_ble_eq_true rfl) (C_Adaptive_isIndex h7) ?_
            refine ww_if_eq 62 rfl (17) 76 (by decide +kernel) (by decide) (fun h => ?_) (fun h => ?_)
            · rw [if_pos h] at hF
              refine ww_iconst 77 rfl (0) (0 : Int32) (by decide +kernel) (by decide) ?_
              cases hF
              exact ww_zret (by decide +kernel) rfl (by decide)
            · rw [if_neg h] at hF
              refine ww_aload_0 63 rfl (by decide +kernel) ?_
              refine ww_getr 66 rfl 3 0 11 (t + 1) (by decide +kernel) ht k_Packet_11 (by decide) (by decide) rfl rfl (by omega) ?_
              refine ww_bipush 68 rfl (15) (15 : Int32) (by decide +kernel) (by decide) ?_
              obtain ⟨g9, hF⟩ := gd_at hF
              refine ww_iald 69 rfl (by decide +kernel) (kd_byt ht) g9 ?_
              refine ww_if_ne 72 rfl (7) 76 (by decide +kernel) (by decide) (fun h => ?_) (fun h => ?_)
              · rw [if_neg h] at hF
                refine ww_iconst 77 rfl (0) (0 : Int32) (by decide +kernel) (by decide) ?_
                cases hF
                exact ww_zret (by decide +kernel) rfl (by decide)
              · rw [if_pos h] at hF
                refine ww_iconst 73 rfl (1) (1 : Int32) (by decide +kernel) (by decide) ?_
                refine ww_goto (4) 77 (by decide +kernel) (by decide) ?_
                cases hF
                exact ww_zret (by decide +kernel) rfl (by decide)
        · rw [if_neg h] at hF
          refine ww_iconst 40 rfl (0) (0 : Int32) (by decide +kernel) (by decide) ?_
          cases hF
          exact ww_zret (by decide +kernel) rfl (by decide)
    · rw [if_neg h] at hF
      refine ww_iconst 22 rfl (0) (0 : Int32) (by decide +kernel) (by decide) ?_
      cases hF
      exact ww_zret (by decide +kernel) rfl (by decide)
set_option maxHeartbeats 4000000 in
set_option maxRecDepth 100000 in
theorem C_Packet_pairAt {l : Launch} {ca : Nat → ClassId} {a : Nat → Nat} {m0 : Mem} {t : Nat} {p1 : Int32} {r : Int32} (ht : kd t = 3) (hF : F_Packet_pairAt m0 t p1 = some r) : CT l ca a y_Packet_pairAt b_Packet_pairAt 2 (some .int) (RM 0 0) [.ref (a t), .int p1] m0 (some (.int r)) m0 := by
  refine ct_of (own := R_Packet) (lv := [some (.ref (a t)), some (.int p1)]) (plainFor_of_name (by decide)) rfl (cat_ok rfl) (Nat.le_of_ble_eq_true rfl) rfl ?_
  unfold F_Packet_pairAt at hF
  refine ww_iload_1 1 rfl (by decide +kernel) ?_
  refine ww_if_lt 4 rfl (33) 34 (by decide +kernel) (by decide) (fun h => ?_) (fun h => ?_)
  · rw [if_pos h] at hF
    refine ww_iconst 35 rfl (0) (0 : Int32) (by decide +kernel) (by decide) ?_
    cases hF
    exact ww_iret (by decide +kernel) rfl
  · rw [if_neg h] at hF
    refine ww_iload_1 5 rfl (by decide +kernel) ?_
    refine ww_iconst 6 rfl (1) (1 : Int32) (by decide +kernel) (by decide) ?_
    refine ww_iadd 7 rfl (by decide +kernel) ?_
    refine ww_bipush 9 rfl (44) (44 : Int32) (by decide +kernel) (by decide) ?_
    refine ww_icmp_ge 12 rfl (25) 34 (by decide +kernel) (by decide) (fun h => ?_) (fun h => ?_)
    · rw [if_pos h] at hF
      refine ww_iconst 35 rfl (0) (0 : Int32) (by decide +kernel) (by decide) ?_
      cases hF
      exact ww_iret (by decide +kernel) rfl
    · rw [if_neg h] at hF
      refine ww_aload_0 13 rfl (by decide +kernel) ?_
      refine ww_getr 16 rfl 3 0 11 (t + 1) (by decide +kernel) ht k_Packet_11 (by decide) (by decide) rfl rfl (by omega) ?_
      refine ww_iload_1 17 rfl (by decide +kernel) ?_
      obtain ⟨g1, hF⟩ := gd_at hF
      refine ww_iald 18 rfl (by decide +kernel) (kd_byt ht) g1 ?_
      refine ww_sipush 21 rfl (256) (256 : Int32) (by decide +kernel) (by decide) ?_
      refine ww_imul 22 rfl (by decide +kernel) ?_
      refine ww_aload_0 23 rfl (by decide +kernel) ?_
      refine ww_getr 26 rfl 3 0 11 (t + 1) (by decide +kernel) ht k_Packet_11 (by decide) (by decide) rfl rfl (by omega) ?_
      refine ww_iload_1 27 rfl (by decide +kernel) ?_
      refine ww_iconst 28 rfl (1) (1 : Int32) (by decide +kernel) (by decide) ?_
      refine ww_iadd 29 rfl (by decide +kernel) ?_
      obtain ⟨g2, hF⟩ := gd_at hF
      refine ww_iald 30 rfl (by decide +kernel) (kd_byt ht) g2 ?_
      refine ww_iadd 31 rfl (by decide +kernel) ?_
      refine ww_goto (4) 35 (by decide +kernel) (by decide) ?_
      cases hF
      exact ww_iret (by decide +kernel) rfl
