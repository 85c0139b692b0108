set_option maxHeartbeats 4000000 in
set_option maxRecDepth 100000 in
theorem C_Intervals_middleOf1 {l : Launch} {ca : Nat → ClassId} {a : Nat → Nat} {m0 : Mem} {p0 : Int32} {r : Int32}  (hF : F_Intervals_middleOf1 p0 = some r) : CT l ca a y_Intervals_middleOf1 b_Intervals_middleOf1 5 (some .int) (RM 1 21) [.int p0] m0 (some (.int r)) m0 := by
  refine ct_of (own := R_Intervals) (lv := [some (.int p0), none, none, none, none]) (plainFor_of_name (by decide)) rfl (cat_ok rfl) (Nat.le_of_ble_eq_true rfl) rfl ?_
  unfold F_Intervals_middleOf1 at hF
  refine ww_sipush 3 rfl (255) (255 : Int32) (by decide +kernel) (by decide) ?_
  refine ww_iload_0 4 rfl (by decide +kernel) ?_
  refine ww_isub 5 rfl (by decide +kernel) ?_
  refine ww_nmi (fun v1 ev1 => ?_)
  replace hF := bnd_at hF ev1
  refine ww_istore_1 6 rfl (by decide +kernel) (by decide) ?_
  refine ww_iload_1 7 rfl (by decide +kernel) ?_
  refine ww_iconst 8 rfl (4) (4 : Int32) (by decide +kernel) (by decide) ?_
  refine ww_ishr 9 rfl (by decide +kernel) ?_
  refine ww_bipush 11 rfl (7) (7 : Int32) (by decide +kernel) (by decide) ?_
  refine ww_iand 12 rfl (by decide +kernel) ?_
  refine ww_nmi (fun v2 ev2 => ?_)
  replace hF := bnd_at hF ev2
  refine ww_istore_2 13 rfl (by decide +kernel) (by decide) ?_
  refine ww_iload_1 14 rfl (by decide +kernel) ?_
  refine ww_bipush 16 rfl (15) (15 : Int32) (by decide +kernel) (by decide) ?_
  refine ww_iand 17 rfl (by decide +kernel) ?_
  refine ww_nmi (fun v3 ev3 => ?_)
  replace hF := bnd_at hF ev3
  refine ww_istore_3 18 rfl (by decide +kernel) (by decide) ?_
  refine ww_iload_2 19 rfl (by decide +kernel) ?_
  refine ww_iload_3 20 rfl (by decide +kernel) ?_
  obtain ⟨r5, h4, hF⟩ := rd_at hF
  refine ww_cS2i 23 rfl 25 (by decide +kernel) mf_Intervals_middleOfInterval k_Intervals_25 ⟨by decide, by decide⟩ ⟨rfl, rfl⟩ (Nat.le_of_ble_eq_true rfl) (C_Intervals_middleOfInterval h4) ?_
  refine ww_sipush 26 rfl (132) (132 : Int32) (by decide +kernel) (by decide) ?_
  refine ww_isub 27 rfl (by decide +kernel) ?_
  refine ww_nmi (fun v6 ev6 => ?_)
  replace hF := bnd_at hF ev6
  refine ww_istore_4 29 rfl (by decide +kernel) (by decide) ?_
  refine ww_iload_0 30 rfl (by decide +kernel) ?_
  refine ww_sipush 33 rfl (128) (128 : Int32) (by decide +kernel) (by decide) ?_
  refine ww_icmp_ge 36 rfl (9) 42 (by decide +kernel) (by decide) (fun h => ?_) (fun h => ?_)
  · rw [if_pos h] at hF
    refine ww_iload_4 44 rfl (by decide +kernel) ?_
    cases hF
    exact ww_iret (by decide +kernel) rfl
  · rw [if_neg h] at hF
    refine ww_iload_4 38 rfl (by decide +kernel) ?_
    refine ww_ineg 39 rfl (by decide +kernel) ?_
    refine ww_goto (5) 44 (by decide +kernel) (by decide) ?_
    cases hF
    exact ww_iret (by decide +kernel) rfl
set_option maxHeartbeats 4000000 in
set_option maxRecDepth 100000 in
theorem C_Intervals_middleOf {l : Launch} {ca : Nat → ClassId} {a : Nat → Nat} {m0 : Mem} {p0 : Int32} {p1 : Int32} {r : Int32}  (hF : F_Intervals_middleOf p0 p1 = some r) : CT l ca a y_Intervals_middleOf b_Intervals_middleOf 2 (some .int) (RM 2 45) [.int p0, .int p1] m0 (some (.int r)) m0 := by
  refine ct_of (own := R_Intervals) (lv := [some (.int p0), some (.int p1)]) (plainFor_of_name (by decide)) rfl (cat_ok rfl) (Nat.le_of_ble_eq_true rfl) rfl ?_
  unfold F_Intervals_middleOf at hF
  refine ww_iload_0 1 rfl (by decide +kernel) ?_
  refine ww_if_ne 4 rfl (10) 11 (by decide +kernel) (by decide) (fun h => ?_) (fun h => ?_)
  · rw [if_neg h] at hF
    refine ww_iload_1 12 rfl (by decide +kernel) ?_
    obtain ⟨r2, h1, hF⟩ := rd_at hF
    refine ww_cS1i 15 rfl 19 (by decide +kernel) mf_Intervals_middleOf1 k_Intervals_19 ⟨by decide, by decide⟩ ⟨rfl, rfl⟩ (Nat.le_of_ble_eq_true rfl) (C_Intervals_middleOf1 h1) ?_
    cases hF
    exact ww_iret (by decide +kernel) rfl
  · rw [if_pos h] at hF
    refine ww_iload_1 5 rfl (by decide +kernel) ?_
    obtain ⟨r4, h3, hF⟩ := rd_at hF
    refine ww_cS1i 8 rfl 16 (by decide +kernel) mf_Intervals_middleOf0 k_Intervals_16 ⟨by decide, by decide⟩ ⟨rfl, rfl⟩ (Nat.le_of_ble_eq_true rfl) (C_Intervals_middleOf0 h3) ?_
    refine ww_goto (7) 15 (by decide +kernel) (by decide) ?_
    cases hF
    exact ww_iret (by decide +kernel) rfl
set_option maxHeartbeats 4000000 in
set_option maxRecDepth 100000 in
theorem C_Gate_expand {l : Launch} {ca : Nat → ClassId} {a : Nat → Nat} {m0 : Mem} {p1 : Int32} {p2 : Int32} {r : Int32}  (hF : F_Gate_expand p1 p2 = some r) : CT l ca a y_Gate_expand b_Gate_expand 3 (some .int) (RM 3 66) [.ref (a 0), .int p1, .int p2] m0 (some (.int r)) m0 := by
  refine ct_of (own := R_Gate) (lv := [some (.ref (a 0)), some (.int p1), some (.int p2)]) (plainFor_of_name (by decide)) rfl (cat_ok rfl) (Nat.le_of_ble_eq_true rfl) rfl ?_
  unfold F_Gate_expand at hF
  refine ww_iload_1 1 rfl (by decide +kernel) ?_
  obtain ⟨r2, h1, hF⟩ := rd_at hF
  refine ww_cS1i 4 rfl 49 (by decide +kernel) mf_Intervals_has k_Gate_49 ⟨by decide, by decide⟩ ⟨rfl, rfl⟩ (Nat.le_of_ble_eq_true rfl) (C_Intervals_has h1) ?_
  refine ww_if_eq 7 rfl (10) 14 (by decide +kernel) (by decide) (fun h => ?_) (fun h => ?_)
  · rw [if_pos h] at hF
    refine ww_ldc 16 rfl 65 (40000 : Int32) (by decide +kernel) k_Gate_65 ?_
    cases hF
    exact ww_iret (by decide +kernel) rfl
  · rw [if_neg h] at hF
    refine ww_iload_2 8 rfl (by decide +kernel) ?_
    obtain ⟨r4, h3, hF⟩ := rd_at hF
    refine ww_cS1i 11 rfl 62 (by decide +kernel) mf_Gate_isByte k_Gate_62 ⟨by decide, by decide⟩ ⟨rfl, rfl⟩ (Nat.le_of_ble_eq_true rfl) (C_Gate_isByte h3) ?_
    refine ww_if_ne 14 rfl (6) 17 (by decide +kernel) (by decide) (fun h => ?_) (fun h => ?_)
    · rw [if_neg h] at hF
      refine ww_iload_1 18 rfl (by decide +kernel) ?_
      refine ww_iload_2 19 rfl (by decide +kernel) ?_
      obtain ⟨r6, h5, hF⟩ := rd_at hF
      refine ww_cS2i 22 rfl 66 (by decide +kernel) mf_Intervals_middleOf k_Gate_66 ⟨by decide, by decide⟩ ⟨rfl, rfl⟩ (Nat.le_of_ble_eq_true rfl) (C_Intervals_middleOf h5) ?_
      cases hF
      exact ww_iret (by decide +kernel) rfl
    · rw [if_pos h] at hF
      refine ww_ldc 16 rfl 65 (40000 : Int32) (by decide +kernel) k_Gate_65 ?_
      cases hF
      exact ww_iret (by decide +kernel) rfl
set_option maxHeartbeats 4000000 in
set_option maxRecDepth 100000 in
theorem C_Samples_hasRoom {l : Launch} {ca : Nat → ClassId} {a : Nat → Nat} {m0 : Mem} {t : Nat} {p1 : Int32} {r : Int32} (ht : kd t = 5) (hF : F_Samples_hasRoom m0 t p1 = some r) : CT l ca a y_Samples_hasRoom b_Samples_hasRoom 2 (some .boolean) (RM 0 0) [.ref (a t), .int p1] m0 (some (.int r)) m0 := by
  refine ct_of (own := R_Samples) (lv := [some (.ref (a t)), some (.int p1)]) (plainFor_of_name (by decide)) rfl (cat_ok rfl) (Nat.le_of_ble_eq_true rfl) rfl ?_
  unfold F_Samples_hasRoom at hF
  refine ww_iload_1 1 rfl (by decide +kernel) ?_
  refine ww_aload_0 2 rfl (by decide +kernel) ?_
  refine ww_getr 5 rfl 5 0 9 (t + 1) (by decide +kernel) ht k_Samples_9 (by decide) (by decide) rfl rfl (by omega) ?_
  refine ww_alen 6 rfl (by decide +kernel) (kd_row ht) ?_
  refine ww_aload_0 7 rfl (by decide +kernel) ?_
  refine ww_geti 10 rfl 5 1 15 (by decide +kernel) ht k_Samples_15 (by decide) (by decide) rfl rfl ?_
  refine ww_isub 11 rfl (by decide +kernel) ?_
  refine ww_icmp_gt 14 rfl (7) 18 (by decide +kernel) (by decide) (fun h => ?_) (fun h => ?_)
  · rw [if_pos h] at hF
    refine ww_iconst 19 rfl (0) (0 : Int32) (by decide +kernel) (by decide) ?_
    cases hF
    exact ww_zret (by decide +kernel) rfl (by decide)
  · rw [if_neg h] at hF
    refine ww_iconst 15 rfl (1) (1 : Int32) (by decide +kernel) (by decide) ?_
    refine ww_goto (4) 19 (by decide +kernel) (by decide) ?_
    cases hF
    exact ww_zret (by decide +kernel) rfl (by decide)
set_option maxHeartbeats 4000000 in
set_option maxRecDepth 100000 in
theorem C_Samples_add {l : Launch} {ca : Nat → ClassId} {a : Nat → Nat} {m0 : Mem} {t : Nat} {p1 : Int32} {m9 : Mem} (ht : kd t = 5) (hF : F_Samples_add m0 t p1 = some m9) : CT l ca a y_Samples_add b_Samples_add 2 none (RM 0 0) [.ref (a t), .int p1] m0 none m9 := by
  refine ct_of (own := R_Samples) (lv := [some (.ref (a t)), some (.int p1)]) (plainFor_of_name (by decide)) rfl (cat_ok rfl) (Nat.le_of_ble_eq_true rfl) rfl ?_
  unfold F_Samples_add at hF
  refine ww_aload_0 1 rfl (by decide +kernel) ?_
  refine ww_geti 4 rfl 5 1 15 (by decide +kernel) ht k_Samples_15 (by decide) (by decide) rfl rfl ?_
  refine ww_aload_0 5 rfl (by decide +kernel) ?_
  refine ww_getr 8 rfl 5 0 9 (t + 1) (by decide +kernel) ht k_Samples_9 (by decide) (by decide) rfl rfl (by omega) ?_
  refine ww_alen 9 rfl (by decide +kernel) (kd_row ht) ?_
  refine ww_icmp_ge 12 rfl (23) 32 (by decide +kernel) (by decide) (fun h => ?_) (fun h => ?_)
  · rw [if_pos h] at hF
    cases hF
    exact ww_vret (by decide +kernel) rfl
  · rw [if_neg h] at hF
    refine ww_aload_0 13 rfl (by decide +kernel) ?_
    refine ww_getr 16 rfl 5 0 9 (t + 1) (by decide +kernel) ht k_Samples_9 (by decide) (by decide) rfl rfl (by omega) ?_
    refine ww_aload_0 17 rfl (by decide +kernel) ?_
    refine ww_geti 20 rfl 5 1 15 (by decide +kernel) ht k_Samples_15 (by decide) (by decide) rfl rfl ?_
    refine ww_iload_1 21 rfl (by decide +kernel) ?_
    obtain ⟨g1, hF⟩ := gd_at hF
    refine ww_iast 22 rfl (by decide +kernel) (kd_row ht) g1 ?_
    refine ww_nmm (fun m2 em2 => ?_)
    replace hF := bnd_at hF em2
    refine ww_aload_0 23 rfl (by decide +kernel) ?_
    refine ww_dup 24 rfl (by decide +kernel) rfl ?_
    refine ww_geti 27 rfl 5 1 15 (by decide +kernel) ht k_Samples_15 (by decide) (by decide) rfl rfl ?_
    refine ww_iconst 28 rfl (1) (1 : Int32) (by decide +kernel) (by decide) ?_
    refine ww_iadd 29 rfl (by decide +kernel) ?_
    refine ww_put 32 rfl 5 1 15 (by decide +kernel) ht k_Samples_15 (by decide) (by decide) rfl rfl rfl rfl rfl rfl ?_
    refine ww_nmm (fun m3 em3 => ?_)
    replace hF := bnd_at hF em3
    cases hF
    exact ww_vret (by decide +kernel) rfl
set_option maxHeartbeats 4000000 in
set_option maxRecDepth 100000 in
theorem C_Gate_feed {l : Launch} {ca : Nat → ClassId} {a : Nat → Nat} {m0 : Mem} {p1 : Int32} {r : Int32} {m9 : Mem}  (hF : F_Gate_feed m0 p1 = some (r, m9)) : CT l ca a y_Gate_feed b_Gate_feed 2 (some .boolean) (RM 1 21) [.ref (a 0), .int p1] m0 (some (.int r)) m9 := by
  refine ct_of (own := R_Gate) (lv := [some (.ref (a 0)), some (.int p1)]) (plainFor_of_name (by decide)) rfl (cat_ok rfl) (Nat.le_of_ble_eq_true rfl) rfl ?_
  unfold F_Gate_feed at hF
  refine ww_iload_1 1 rfl (by decide +kernel) ?_
  obtain ⟨r2, h1, hF⟩ := rd_at hF
  refine ww_cS1i 4 rfl 55 (by decide +kernel) mf_Gate_isSample k_Gate_55 ⟨by decide, by decide⟩ ⟨rfl, rfl⟩ (Nat.le_of_ble_eq_true rfl) (C_Gate_isSample h1) ?_
  refine ww_if_eq 7 rfl (14) 18 (by decide +kernel) (by decide) (fun h => ?_) (fun h => ?_)
  · rw [if_pos h] at hF
    refine ww_iconst 19 rfl (0) (0 : Int32) (by decide +kernel) (by decide) ?_
    cases hF
    exact ww_zret (by decide +kernel) rfl (by decide)
  · rw [if_neg h] at hF
    refine ww_aload_0 8 rfl (by decide +kernel) ?_
    refine ww_getr 11 rfl 0 0 14 1 (by decide +kernel) rfl k_Gate_14 (by decide) (by decide) rfl rfl (by omega) ?_
    refine ww_iconst 12 rfl (1) (1 : Int32) (by decide +kernel) (by decide) ?_
    obtain ⟨r4, h3, hF⟩ := rd_at hF
    refine ww_cV1i 15 rfl 5 69 (by decide +kernel) mf_Samples_hasRoom k_Gate_69 rfl (by decide) rfl ⟨by decide, by decide⟩ ⟨rfl, rfl⟩ (Nat.le_of_ble_eq_true rfl) (C_Samples_hasRoom rfl h3) ?_
    refine ww_if_ne 18 rfl (5) 20 (by decide +kernel) (by decide) (fun h => ?_) (fun h => ?_)
    · rw [if_neg h] at hF
      refine ww_aload_0 21 rfl (by decide +kernel) ?_
      refine ww_getr 24 rfl 0 0 14 1 (by decide +kernel) rfl k_Gate_14 (by decide) (by decide) rfl rfl (by omega) ?_
      refine ww_iload_1 25 rfl (by decide +kernel) ?_
      obtain ⟨m6, h5, hF⟩ := rd_at hF
      refine ww_cV1v 28 rfl 5 72 (by decide +kernel) mf_Samples_add k_Gate_72 rfl (by decide) rfl ⟨by decide, by decide⟩ ⟨rfl, rfl⟩ (Nat.le_of_ble_eq_true rfl) (C_Samples_add rfl h5) ?_
      refine ww_iconst 29 rfl (1) (1 : Int32) (by decide +kernel) (by decide) ?_
      cases hF
      exact ww_zret (by decide +kernel) rfl (by decide)
    · rw [if_pos h] at hF
      refine ww_iconst 19 rfl (0) (0 : Int32) (by decide +kernel) (by decide) ?_
      cases hF
      exact ww_zret (by decide +kernel) rfl (by decide)
set_option maxHeartbeats 4000000 in
set_option maxRecDepth 100000 in
theorem C_Sender_restart {l : Launch} {ca : Nat → ClassId} {a : Nat → Nat} {m0 : Mem} {p1 : Int32} {p2 : Int32} {p3 : Int32} {m9 : Mem}  (hF : F_Sender_restart m0 p1 p2 p3 = some m9) : CT l ca a y_Sender_restart b_Sender_restart 4 none (RM 0 0) [.ref (a 9), .int p1, .int p2, .int p3] m0 none m9 := by
  refine ct_of (own := R_Sender) (lv := [some (.ref (a 9)), some (.int p1), some (.int p2), some (.int p3)]) (plainFor_of_name (by decide)) rfl (cat_ok rfl) (Nat.le_of_ble_eq_true rfl) rfl ?_
  unfold F_Sender_restart at hF
  refine ww_aload_0 1 rfl (by decide +kernel) ?_
  refine ww_iload_1 2 rfl (by decide +kernel) ?_
  refine ww_put 5 rfl 6 0 9 (by decide +kernel) rfl k_Sender_9 (by decide) (by decide) rfl rfl rfl rfl rfl rfl ?_
  refine ww_nmm (fun m1 em1 => ?_)
  replace hF := bnd_at hF em1
  refine ww_aload_0 6 rfl (by decide +kernel) ?_
  refine ww_iload_2 7 rfl (by decide +kernel) ?_
  refine ww_put 10 rfl 6 1 15 (by decide +kernel) rfl k_Sender_15 (by decide) (by decide) rfl rfl rfl rfl rfl rfl ?_
  refine ww_nmm (fun m2 em2 => ?_)
  replace hF := bnd_at hF em2
  refine ww_aload_0 11 rfl (by decide +kernel) ?_
  refine ww_iload_3 12 rfl (by decide +kernel) ?_
  refine ww_put 15 rfl 6 2 18 (by decide +kernel) rfl k_Sender_18 (by decide) (by decide) rfl rfl rfl rfl rfl rfl ?_
  refine ww_nmm (fun m3 em3 => ?_)
  replace hF := bnd_at hF em3
  cases hF
  exact ww_vret (by decide +kernel) rfl
set_option maxHeartbeats 4000000 in
set_option maxRecDepth 100000 in
theorem C_Gate_begin {l : Launch} {ca : Nat → ClassId} {a : Nat → Nat} {m0 : Mem} {p1 : Int32} {p2 : Int32} {p3 : Int32} {r : Int32} {m9 : Mem}  (hF : F_Gate_begin m0 p1 p2 p3 = some (r, m9)) : CT l ca a y_Gate_begin b_Gate_begin 4 (some .boolean) (RM 1 23) [.ref (a 0), .int p1, .int p2, .int p3] m0 (some (.int r)) m9 := by
  refine ct_of (own := R_Gate) (lv := [some (.ref (a 0)), some (.int p1), some (.int p2), some (.int p3)]) (plainFor_of_name (by decide)) rfl (cat_ok rfl) (Nat.le_of_ble_eq_true rfl) rfl ?_
  unfold F_Gate_begin at hF
  refine ww_iload_1 1 rfl (by decide +kernel) ?_
  refine ww_if_lt 4 rfl (9) 10 (by decide +kernel) (by decide) (fun h => ?_) (fun h => ?_)
  · rw [if_pos h] at hF
    refine ww_iconst 11 rfl (0) (0 : Int32) (by decide +kernel) (by decide) ?_
    cases hF
    exact ww_zret (by decide +kernel) rfl (by decide)
  · rw [if_neg h] at hF
    refine ww_iload_1 5 rfl (by decide +kernel) ?_
    refine ww_ldc 7 rfl 75 (65536 : Int32) (by decide +kernel) k_Gate_75 ?_
    refine ww_icmp_lt 10 rfl (5) 12 (by decide +kernel) (by decide) (fun h => ?_) (fun h => ?_)
    · rw [if_pos h] at hF
      refine ww_aload_0 13 rfl (by decide +kernel) ?_
      refine ww_getr 16 rfl 0 3 31 9 (by decide +kernel) rfl k_Gate_31 (by decide) (by decide) rfl rfl (by omega) ?_
      refine ww_iload_1 17 rfl (by decide +kernel) ?_
      refine ww_iload_2 18 rfl (by decide +kernel) ?_
      refine ww_iload_3 19 rfl (by decide +kernel) ?_
      obtain ⟨m2, h1, hF⟩ := rd_at hF
      refine ww_cV3v 22 rfl 6 76 (by decide +kernel) mf_Sender_restart k_Gate_76 rfl (by decide) rfl ⟨by decide, by decide⟩ ⟨rfl, rfl⟩ (Nat.le_of_ble_eq_true rfl) (C_Sender_restart h1) ?_
      refine ww_iconst 23 rfl (1) (1 : Int32) (by decide +kernel) (by decide) ?_
      cases hF
      exact ww_zret (by decide +kernel) rfl (by decide)
    · rw [if_neg h] at hF
      refine ww_iconst 11 rfl (0) (0 : Int32) (by decide +kernel) (by decide) ?_
      cases hF
      exact ww_zret (by decide +kernel) rfl (by decide)
set_option maxHeartbeats 4000000 in
set_option maxRecDepth 100000 in
theorem C_Sender_canPack {l : Launch} {ca : Nat → ClassId} {a : Nat → Nat} {m0 : Mem} {p0 : Int32} {p1 : Int32} {r : Int32}  (hF : F_Sender_canPack p0 p1 = some r) : CT l ca a y_Sender_canPack b_Sender_canPack 2 (some .boolean) (RM 0 0) [.int p0, .int p1] m0 (some (.int r)) m0 := by
  refine ct_of (own := R_Sender) (lv := [some (.int p0), some (.int p1)]) (plainFor_of_name (by decide)) rfl (cat_ok rfl) (Nat.le_of_ble_eq_true rfl) rfl ?_
  unfold F_Sender_canPack at hF
  refine ww_iload_0 1 rfl (by decide +kernel) ?_
  refine ww_if_lt 4 rfl (19) 20 (by decide +kernel) (by decide) (fun h => ?_) (fun h => ?_)
  · rw [if_pos h] at hF
    refine ww_iconst 21 rfl (0) (0 : Int32) (by decide +kernel) (by decide) ?_
    cases hF
    exact ww_zret (by decide +kernel) rfl (by decide)
  · rw [if_neg h] at hF
    refine ww_iload_0 5 rfl (by decide +kernel) ?_
    refine ww_iconst 6 rfl (3) (3 : Int32) (by decide +kernel) (by decide) ?_
    refine ww_icmp_gt 9 rfl (14) 20 (by decide +kernel) (by decide) (fun h => ?_) (fun h => ?_)
    · rw [if_pos h] at hF
      refine ww_iconst 21 rfl (0) (0 : Int32) (by decide +kernel) (by decide) ?_
      cases hF
      exact ww_zret (by decide +kernel) rfl (by decide)
    · rw [if_neg h] at hF
      refine ww_iload_1 10 rfl (by decide +kernel) ?_
      refine ww_iconst 11 rfl (1) (1 : Int32) (by decide +kernel) (by decide) ?_
      refine ww_icmp_lt 14 rfl (9) 20 (by decide +kernel) (by decide) (fun h => ?_) (fun h => ?_)
      · rw [if_pos h] at hF
        refine ww_iconst 21 rfl (0) (0 : Int32) (by decide +kernel) (by decide) ?_
        cases hF
        exact ww_zret (by decide +kernel) rfl (by decide)
      · rw [if_neg h] at hF
        refine ww_iload_1 15 rfl (by decide +kernel) ?_
        refine ww_bipush 17 rfl (16) (16 : Int32) (by decide +kernel) (by decide) ?_
        refine ww_icmp_le 20 rfl (5) 22 (by decide +kernel) (by decide) (fun h => ?_) (fun h => ?_)
        · rw [if_pos h] at hF
          refine ww_iload_0 23 rfl (by decide +kernel) ?_
          refine ww_iconst 24 rfl (2) (2 : Int32) (by decide +kernel) (by decide) ?_
          refine ww_icmp_ne 27 rfl (9) 33 (by decide +kernel) (by decide) (fun h => ?_) (fun h => ?_)
          · rw [if_neg h] at hF
            refine ww_iconst 34 rfl (1) (1 : Int32) (by decide +kernel) (by decide) ?_
            refine ww_goto (4) 38 (by decide +kernel) (by decide) ?_
            cases hF
            exact ww_zret (by decide +kernel) rfl (by decide)
          · rw [if_pos h] at hF
            refine ww_iload_1 28 rfl (by decide +kernel) ?_
            refine ww_iconst 29 rfl (2) (2 : Int32) (by decide +kernel) (by decide) ?_
            refine ww_irem 30 rfl (by decide +kernel) (by decide) ?_
            refine ww_if_ne 33 rfl (7) 37 (by decide +kernel) (by decide) (fun h => ?_) (fun h => ?_)
            · rw [if_neg h] at hF
              refine ww_iconst 38 rfl (0) (0 : Int32) (by decide +kernel) (by decide) ?_
              cases hF
              exact ww_zret (by decide +kernel) rfl (by decide)
            · rw [if_pos h] at hF
              refine ww_iconst 34 rfl (1) (1 : Int32) (by decide +kernel) (by decide) ?_
              refine ww_goto (4) 38 (by decide +kernel) (by decide) ?_
              cases hF
              exact ww_zret (by decide +kernel) rfl (by decide)
        · rw [if_neg h] at hF
          refine ww_iconst 21 rfl (0) (0 : Int32) (by decide +kernel) (by decide) ?_
          cases hF
          exact ww_zret (by decide +kernel) rfl (by decide)
set_option maxHeartbeats 4000000 in
set_option maxRecDepth 100000 in
theorem C_Samples_size {l : Launch} {ca : Nat → ClassId} {a : Nat → Nat} {m0 : Mem} {t : Nat} {r : Int32} (ht : kd t = 5) (hF : F_Samples_size m0 t = some r) : CT l ca a y_Samples_size b_Samples_size 1 (some .int) (RM 0 0) [.ref (a t)] m0 (some (.int r)) m0 := by
  refine ct_of (own := R_Samples) (lv := [some (.ref (a t))]) (plainFor_of_name (by decide)) rfl (cat_ok rfl) (Nat.le_of_ble_eq_true rfl) rfl ?_
  unfold F_Samples_size at hF
  refine ww_aload_0 1 rfl (by decide +kernel) ?_
  refine ww_geti 4 rfl 5 1 15 (by decide +kernel) ht k_Samples_15 (by decide) (by decide) rfl rfl ?_
  cases hF
  exact ww_iret (by decide +kernel) rfl
set_option maxHeartbeats 4000000 in
set_option maxRecDepth 100000 in
theorem C_Packet_clear {l : Launch} {ca : Nat → ClassId} {a : Nat → Nat} {m0 : Mem} {t : Nat} {m9 : Mem} (ht : kd t = 3) (hF : F_Packet_clear m0 t = some m9) : CT l ca a y_Packet_clear b_Packet_clear 1 none (RM 0 0) [.ref (a t)] m0 none m9 := by
  refine ct_of (own := R_Packet) (lv := [some (.ref (a t))]) (plainFor_of_name (by decide)) rfl (cat_ok rfl) (Nat.le_of_ble_eq_true rfl) rfl ?_
  unfold F_Packet_clear at hF
  refine ww_aload_0 1 rfl (by decide +kernel) ?_
  refine ww_iconst 2 rfl (0) (0 : Int32) (by decide +kernel) (by decide) ?_
  refine ww_put 5 rfl 3 1 15 (by decide +kernel) ht k_Packet_15 (by decide) (by decide) rfl rfl rfl rfl rfl rfl ?_
  refine ww_nmm (fun m1 em1 => ?_)
  replace hF := bnd_at hF em1
  cases hF
  exact ww_vret (by decide +kernel) rfl
set_option maxHeartbeats 4000000 in
set_option maxRecDepth 100000 in
theorem C_Wire_append {l : Launch} {ca : Nat → ClassId} {a : Nat → Nat} {m0 : Mem}  {r : Option Nat} {m9 : Mem}  (hF : F_Wire_append m0 = some (r, m9)) : CT l ca a y_Wire_append b_Wire_append 2 (some (.object R_Packet)) (RM 1 20) [.ref (a 7)] m0 (some (rvq a r)) m9 := by
  refine ct_of (own := R_Wire) (lv := [some (.ref (a 7)), none]) (plainFor_of_name (by decide)) rfl (cat_ok rfl) (Nat.le_of_ble_eq_true rfl) rfl ?_
  unfold F_Wire_append at hF
  refine ww_aload_0 1 rfl (by decide +kernel) ?_
  refine ww_geti 4 rfl 7 1 16 (by decide +kernel) rfl k_Wire_16 (by decide) (by decide) rfl rfl ?_
  refine ww_bipush 6 rfl (8) (8 : Int32) (by decide +kernel) (by decide) ?_
  refine ww_icmp_lt 9 rfl (5) 11 (by decide +kernel) (by decide) (fun h => ?_) (fun h => ?_)
  · rw [if_pos h] at hF
    refine ww_aload_0 12 rfl (by decide +kernel) ?_
    refine ww_getr 15 rfl 7 0 11 8 (by decide +kernel) rfl k_Wire_11 (by decide) (by decide) rfl rfl (by omega) ?_
    refine ww_aload_0 16 rfl (by decide +kernel) ?_
    refine ww_geti 19 rfl 7 1 16 (by decide +kernel) rfl k_Wire_16 (by decide) (by decide) rfl rfl ?_
    obtain ⟨g1, hF⟩ := gd_at hF
    refine ww_aald 20 rfl (by decide +kernel) rfl g1 ?_
    obtain ⟨g2, hF⟩ := gp_at hF
    refine ww_astore_1 21 rfl (by decide +kernel) (by decide) ?_
    refine ww_aload_1 22 rfl (by decide +kernel) ?_
    obtain ⟨m4, h3, hF⟩ := rd_at hF
    refine ww_cV0v 25 rfl 3 20 (by decide +kernel) mf_Packet_clear k_Wire_20 g2 (by decide) rfl ⟨by decide, by decide⟩ ⟨rfl, rfl⟩ (Nat.le_of_ble_eq_true rfl) (C_Packet_clear g2 h3) ?_
    refine ww_aload_0 26 rfl (by decide +kernel) ?_
    refine ww_dup 27 rfl (by decide +kernel) rfl ?_
    refine ww_geti 30 rfl 7 1 16 (by decide +kernel) rfl k_Wire_16 (by decide) (by decide) rfl rfl ?_
    refine ww_iconst 31 rfl (1) (1 : Int32) (by decide +kernel) (by decide) ?_
    refine ww_iadd 32 rfl (by decide +kernel) ?_
    refine ww_put 35 rfl 7 1 16 (by decide +kernel) rfl k_Wire_16 (by decide) (by decide) rfl rfl rfl rfl rfl rfl ?_
    refine ww_nmm (fun m5 em5 => ?_)
    replace hF := bnd_at hF em5
    refine ww_aload_1 36 rfl (by decide +kernel) ?_
    cases hF
    exact ww_aret (by decide +kernel) rfl
  · rw [if_neg h] at hF
    refine ww_null 10 rfl (by decide +kernel) ?_
    cases hF
    exact ww_aretN (by decide +kernel) rfl
set_option maxHeartbeats 4000000 in
set_option maxRecDepth 100000 in
theorem C_Packet_addByte {l : Launch} {ca : Nat → ClassId} {a : Nat → Nat} {m0 : Mem} {t : Nat} {p1 : Int32} {m9 : Mem} (ht : kd t = 3) (hF : F_Packet_addByte m0 t p1 = some m9) : CT l ca a y_Packet_addByte b_Packet_addByte 2 none (RM 0 0) [.ref (a t), .int p1] m0 none m9 := by
  refine ct_of (own := R_Packet) (lv := [some (.ref (a t)), some (.int p1)]) (plainFor_of_name (by decide)) rfl (cat_ok rfl) (Nat.le_of_ble_eq_true rfl) rfl ?_
  unfold F_Packet_addByte at hF
  refine ww_aload_0 1 rfl (by decide +kernel) ?_
  refine ww_geti 4 rfl 3 1 15 (by decide +kernel) ht k_Packet_15 (by decide) (by decide) rfl rfl ?_
  refine ww_bipush 6 rfl (44) (44 : Int32) (by decide +kernel) (by decide) ?_
  refine ww_icmp_ge 9 rfl (27) 33 (by decide +kernel) (by decide) (fun h => ?_) (fun h => ?_)
  · rw [if_pos h] at hF
    cases hF
    exact ww_vret (by decide +kernel) rfl
  · rw [if_neg h] at hF
    refine ww_aload_0 10 rfl (by decide +kernel) ?_
    refine ww_getr 13 rfl 3 0 11 (t + 1) (by decide +kernel) ht k_Packet_11 (by decide) (by decide) rfl rfl (by omega) ?_
    refine ww_aload_0 14 rfl (by decide +kernel) ?_
    refine ww_geti 17 rfl 3 1 15 (by decide +kernel) ht k_Packet_15 (by decide) (by decide) rfl rfl ?_
    refine ww_iload_1 18 rfl (by decide +kernel) ?_
    refine ww_sipush 21 rfl (255) (255 : Int32) (by decide +kernel) (by decide) ?_
    refine ww_iand 22 rfl (by decide +kernel) ?_
    obtain ⟨g1, hF⟩ := gd_at hF
    refine ww_iast 23 rfl (by decide +kernel) (kd_byt ht) g1 ?_
    refine ww_nmm (fun m2 em2 => ?_)
    replace hF := bnd_at hF em2
    refine ww_aload_0 24 rfl (by decide +kernel) ?_
    refine ww_dup 25 rfl (by decide +kernel) rfl ?_
    refine ww_geti 28 rfl 3 1 15 (by decide +kernel) ht k_Packet_15 (by decide) (by decide) rfl rfl ?_
    refine ww_iconst 29 rfl (1) (1 : Int32) (by decide +kernel) (by decide) ?_
    refine ww_iadd 30 rfl (by decide +kernel) ?_
    refine ww_put 33 rfl 3 1 15 (by decide +kernel) ht k_Packet_15 (by decide) (by decide) rfl rfl rfl rfl rfl rfl ?_
    refine ww_nmm (fun m3 em3 => ?_)
    replace hF := bnd_at hF em3
    cases hF
    exact ww_vret (by decide +kernel) rfl
