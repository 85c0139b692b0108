set_option maxHeartbeats 4000000 in
set_option maxRecDepth 100000 in
theorem C_Model_feed {l : Launch} {ca : Nat → ClassId} {a : Nat → Nat} {m0 : Mem} {p1 : Int32} {r : Int32} {m9 : Mem}  (hF : F_Model_feed m0 p1 = some (r, m9)) : CT l ca a y_Model_feed b_Model_feed 2 (some .boolean) (RM 1 20) [.ref (a 17), .int p1] m0 (some (.int r)) m9 := by
  refine ct_of (own := R_Model) (lv := [some (.ref (a 17)), some (.int p1)]) (plainFor_of_name (by decide)) rfl (cat_ok rfl) (Nat.le_of_ble_eq_true rfl) rfl ?_
  unfold F_Model_feed at hF
  refine ww_iload_1 1 rfl (by decide +kernel) ?_
  obtain ⟨r2, h1, hF⟩ := rd_at hF
  refine ww_cS1i 4 rfl 35 (by decide +kernel) mf_Model_isSample k_Model_35 ⟨by decide, by decide⟩ ⟨rfl, rfl⟩ (Nat.le_of_ble_eq_true rfl) (C_Model_isSample h1) ?_
  refine ww_if_eq 7 rfl (12) 16 (by decide +kernel) (by decide) (fun h => ?_) (fun h => ?_)
  · rw [if_pos h] at hF
    refine ww_iconst 17 rfl (0) (0 : Int32) (by decide +kernel) (by decide) ?_
    cases hF
    exact ww_zret (by decide +kernel) rfl (by decide)
  · rw [if_neg h] at hF
    refine ww_aload_0 8 rfl (by decide +kernel) ?_
    refine ww_geti 11 rfl 8 1 53 (by decide +kernel) rfl k_Model_53 (by decide) (by decide) rfl rfl ?_
    refine ww_bipush 13 rfl (64) (64 : Int32) (by decide +kernel) (by decide) ?_
    refine ww_icmp_ne 16 rfl (5) 18 (by decide +kernel) (by decide) (fun h => ?_) (fun h => ?_)
    · rw [if_neg h] at hF
      refine ww_aload_0 19 rfl (by decide +kernel) ?_
      refine ww_getr 22 rfl 8 2 13 19 (by decide +kernel) rfl k_Model_13 (by decide) (by decide) rfl rfl (by omega) ?_
      refine ww_aload_0 23 rfl (by decide +kernel) ?_
      refine ww_geti 26 rfl 8 1 53 (by decide +kernel) rfl k_Model_53 (by decide) (by decide) rfl rfl ?_
      refine ww_iload_1 27 rfl (by decide +kernel) ?_
      obtain ⟨g3, hF⟩ := gd_at hF
      refine ww_iast 28 rfl (by decide +kernel) rfl g3 ?_
      refine ww_nmm (fun m4 em4 => ?_)
      replace hF := bnd_at hF em4
      refine ww_aload_0 29 rfl (by decide +kernel) ?_
      refine ww_dup 30 rfl (by decide +kernel) rfl ?_
      refine ww_geti 33 rfl 8 1 53 (by decide +kernel) rfl k_Model_53 (by decide) (by decide) rfl rfl ?_
      refine ww_iconst 34 rfl (1) (1 : Int32) (by decide +kernel) (by decide) ?_
      refine ww_iadd 35 rfl (by decide +kernel) ?_
      refine ww_put 38 rfl 8 1 53 (by decide +kernel) rfl k_Model_53 (by decide) (by decide) rfl rfl rfl rfl rfl rfl ?_
      refine ww_nmm (fun m5 em5 => ?_)
      replace hF := bnd_at hF em5
      refine ww_iconst 39 rfl (1) (1 : Int32) (by decide +kernel) (by decide) ?_
      cases hF
      exact ww_zret (by decide +kernel) rfl (by decide)
    · rw [if_pos h] at hF
      refine ww_iconst 17 rfl (0) (0 : Int32) (by decide +kernel) (by decide) ?_
      cases hF
      exact ww_zret (by decide +kernel) rfl (by decide)
set_option maxHeartbeats 4000000 in
set_option maxRecDepth 100000 in
theorem C_Model_begin {l : Launch} {ca : Nat → ClassId} {a : Nat → Nat} {m0 : Mem} {p1 : Int32} {p2 : Int32} {p3 : Int32} {r : Int32} {m9 : Mem}  (hF : F_Model_begin m0 p1 p2 p3 = some (r, m9)) : CT l ca a y_Model_begin b_Model_begin 4 (some .boolean) (RM 0 0) [.ref (a 17), .int p1, .int p2, .int p3] m0 (some (.int r)) m9 := by
  refine ct_of (own := R_Model) (lv := [some (.ref (a 17)), some (.int p1), some (.int p2), some (.int p3)]) (plainFor_of_name (by decide)) rfl (cat_ok rfl) (Nat.le_of_ble_eq_true rfl) rfl ?_
  unfold F_Model_begin at hF
  refine ww_iload_1 1 rfl (by decide +kernel) ?_
  refine ww_if_lt 4 rfl (9) 10 (by decide +kernel) (by decide) (fun h => ?_) (fun h => ?_)
  · rw [if_pos h] at hF
    refine ww_iconst 11 rfl (0) (0 : Int32) (by decide +kernel) (by decide) ?_
    cases hF
    exact ww_zret (by decide +kernel) rfl (by decide)
  · rw [if_neg h] at hF
    refine ww_iload_1 5 rfl (by decide +kernel) ?_
    refine ww_ldc 7 rfl 56 (65535 : Int32) (by decide +kernel) k_Model_56 ?_
    refine ww_icmp_le 10 rfl (5) 12 (by decide +kernel) (by decide) (fun h => ?_) (fun h => ?_)
    · rw [if_pos h] at hF
      refine ww_aload_0 13 rfl (by decide +kernel) ?_
      refine ww_iload_1 14 rfl (by decide +kernel) ?_
      refine ww_put 17 rfl 8 5 57 (by decide +kernel) rfl k_Model_57 (by decide) (by decide) rfl rfl rfl rfl rfl rfl ?_
      refine ww_nmm (fun m1 em1 => ?_)
      replace hF := bnd_at hF em1
      refine ww_aload_0 18 rfl (by decide +kernel) ?_
      refine ww_iload_2 19 rfl (by decide +kernel) ?_
      refine ww_put 22 rfl 8 6 60 (by decide +kernel) rfl k_Model_60 (by decide) (by decide) rfl rfl rfl rfl rfl rfl ?_
      refine ww_nmm (fun m2 em2 => ?_)
      replace hF := bnd_at hF em2
      refine ww_aload_0 23 rfl (by decide +kernel) ?_
      refine ww_iload_3 24 rfl (by decide +kernel) ?_
      refine ww_put 27 rfl 8 7 63 (by decide +kernel) rfl k_Model_63 (by decide) (by decide) rfl rfl rfl rfl rfl rfl ?_
      refine ww_nmm (fun m3 em3 => ?_)
      replace hF := bnd_at hF em3
      refine ww_iconst 28 rfl (1) (1 : Int32) (by decide +kernel) (by decide) ?_
      cases hF
      exact ww_zret (by decide +kernel) rfl (by decide)
    · rw [if_neg h] at hF
      refine ww_iconst 11 rfl (0) (0 : Int32) (by decide +kernel) (by decide) ?_
      cases hF
      exact ww_zret (by decide +kernel) rfl (by decide)
set_option maxHeartbeats 4000000 in
set_option maxRecDepth 100000 in
theorem C_Model_write {l : Launch} {ca : Nat → ClassId} {a : Nat → Nat} {m0 : Mem} {p1 : Int32} {p2 : Int32} {m9 : Mem}  (hF : F_Model_write m0 p1 p2 = some m9) : CT l ca a y_Model_write b_Model_write 3 none (RM 0 0) [.ref (a 17), .int p1, .int p2] m0 none m9 := by
  refine ct_of (own := R_Model) (lv := [some (.ref (a 17)), some (.int p1), some (.int p2)]) (plainFor_of_name (by decide)) rfl (cat_ok rfl) (Nat.le_of_ble_eq_true rfl) rfl ?_
  unfold F_Model_write at hF
  refine ww_aload_0 1 rfl (by decide +kernel) ?_
  refine ww_getr 4 rfl 8 12 22 22 (by decide +kernel) rfl k_Model_22 (by decide) (by decide) rfl rfl (by omega) ?_
  refine ww_bipush 6 rfl (44) (44 : Int32) (by decide +kernel) (by decide) ?_
  refine ww_iload_1 7 rfl (by decide +kernel) ?_
  refine ww_imul 8 rfl (by decide +kernel) ?_
  refine ww_aload_0 9 rfl (by decide +kernel) ?_
  refine ww_getr 12 rfl 8 11 19 21 (by decide +kernel) rfl k_Model_19 (by decide) (by decide) rfl rfl (by omega) ?_
  refine ww_iload_1 13 rfl (by decide +kernel) ?_
  obtain ⟨g1, hF⟩ := gd_at hF
  refine ww_iald 14 rfl (by decide +kernel) rfl g1 ?_
  refine ww_iadd 15 rfl (by decide +kernel) ?_
  refine ww_iload_2 16 rfl (by decide +kernel) ?_
  refine ww_sipush 19 rfl (255) (255 : Int32) (by decide +kernel) (by decide) ?_
  refine ww_iand 20 rfl (by decide +kernel) ?_
  obtain ⟨g2, hF⟩ := gd_at hF
  refine ww_iast 21 rfl (by decide +kernel) rfl g2 ?_
  refine ww_nmm (fun m3 em3 => ?_)
  replace hF := bnd_at hF em3
  refine ww_aload_0 22 rfl (by decide +kernel) ?_
  refine ww_getr 25 rfl 8 11 19 21 (by decide +kernel) rfl k_Model_19 (by decide) (by decide) rfl rfl (by omega) ?_
  refine ww_iload_1 26 rfl (by decide +kernel) ?_
  refine ww_dup2 27 rfl (by decide +kernel) rfl rfl ?_
  refine ww_iald 28 rfl (by decide +kernel) rfl g1 ?_
  refine ww_iconst 29 rfl (1) (1 : Int32) (by decide +kernel) (by decide) ?_
  refine ww_iadd 30 rfl (by decide +kernel) ?_
  refine ww_iast 31 rfl (by decide +kernel) rfl g1 ?_
  refine ww_nmm (fun m4 em4 => ?_)
  replace hF := bnd_at hF em4
  cases hF
  exact ww_vret (by decide +kernel) rfl
set_option maxHeartbeats 4000000 in
set_option maxRecDepth 100000 in
theorem C_Model_writeWord {l : Launch} {ca : Nat → ClassId} {a : Nat → Nat} {m0 : Mem} {p1 : Int32} {p2 : Int32} {m9 : Mem}  (hF : F_Model_writeWord m0 p1 p2 = some m9) : CT l ca a y_Model_writeWord b_Model_writeWord 3 none (RM 1 22) [.ref (a 17), .int p1, .int p2] m0 none m9 := by
  refine ct_of (own := R_Model) (lv := [some (.ref (a 17)), some (.int p1), some (.int p2)]) (plainFor_of_name (by decide)) rfl (cat_ok rfl) (Nat.le_of_ble_eq_true rfl) rfl ?_
  unfold F_Model_writeWord at hF
  refine ww_aload_0 1 rfl (by decide +kernel) ?_
  refine ww_iload_1 2 rfl (by decide +kernel) ?_
  refine ww_iload_2 3 rfl (by decide +kernel) ?_
  refine ww_bipush 5 rfl (24) (24 : Int32) (by decide +kernel) (by decide) ?_
  refine ww_ishr 6 rfl (by decide +kernel) ?_
  obtain ⟨m2, h1, hF⟩ := rd_at hF
  refine ww_cV2v 9 rfl 8 66 (by decide +kernel) mf_Model_write k_Model_66 rfl (by decide) rfl ⟨by decide, by decide⟩ ⟨rfl, rfl⟩ (Nat.le_of_ble_eq_true rfl) (C_Model_write h1) ?_
  refine ww_aload_0 10 rfl (by decide +kernel) ?_
  refine ww_iload_1 11 rfl (by decide +kernel) ?_
  refine ww_iload_2 12 rfl (by decide +kernel) ?_
  refine ww_bipush 14 rfl (16) (16 : Int32) (by decide +kernel) (by decide) ?_
  refine ww_ishr 15 rfl (by decide +kernel) ?_
  obtain ⟨m4, h3, hF⟩ := rd_at hF
  refine ww_cV2v 18 rfl 8 66 (by decide +kernel) mf_Model_write k_Model_66 rfl (by decide) rfl ⟨by decide, by decide⟩ ⟨rfl, rfl⟩ (Nat.le_of_ble_eq_true rfl) (C_Model_write h3) ?_
  refine ww_aload_0 19 rfl (by decide +kernel) ?_
  refine ww_iload_1 20 rfl (by decide +kernel) ?_
  refine ww_iload_2 21 rfl (by decide +kernel) ?_
  refine ww_bipush 23 rfl (8) (8 : Int32) (by decide +kernel) (by decide) ?_
  refine ww_ishr 24 rfl (by decide +kernel) ?_
  obtain ⟨m6, h5, hF⟩ := rd_at hF
  refine ww_cV2v 27 rfl 8 66 (by decide +kernel) mf_Model_write k_Model_66 rfl (by decide) rfl ⟨by decide, by decide⟩ ⟨rfl, rfl⟩ (Nat.le_of_ble_eq_true rfl) (C_Model_write h5) ?_
  refine ww_aload_0 28 rfl (by decide +kernel) ?_
  refine ww_iload_1 29 rfl (by decide +kernel) ?_
  refine ww_iload_2 30 rfl (by decide +kernel) ?_
  obtain ⟨m8, h7, hF⟩ := rd_at hF
  refine ww_cV2v 33 rfl 8 66 (by decide +kernel) mf_Model_write k_Model_66 rfl (by decide) rfl ⟨by decide, by decide⟩ ⟨rfl, rfl⟩ (Nat.le_of_ble_eq_true rfl) (C_Model_write h7) ?_
  cases hF
  exact ww_vret (by decide +kernel) rfl
set_option maxHeartbeats 4000000 in
set_option maxRecDepth 100000 in
theorem B_Model_codeOf_78 {l : Launch} {ca : Nat → ClassId} {a : Nat → Nat} {m0 : Mem} {l2 : Int32} {l3 : Int32} {l4 : Int32} {z0 : Option Value} {z1 : Option Value} {r : Int32}  (hF : F_Model_codeOf_78 m0 l2 l3 l4 = some r) : WW l b_Model_codeOf 5 (some .int) R_Model (RM 0 0) ca a (EM ca a (some (.int r)) m0) 78 [z0, z1, some (.int l2), some (.int l3), some (.int l4)] [] m0 := by
  unfold F_Model_codeOf_78 at hF
  refine ww_iload_3 79 rfl (by decide +kernel) ?_
  refine ww_iload_2 80 rfl (by decide +kernel) ?_
  refine ww_iconst 81 rfl (4) (4 : Int32) (by decide +kernel) (by decide) ?_
  refine ww_idiv 82 rfl (by decide +kernel) (by decide) ?_
  refine ww_icmp_lt 85 rfl (10) 92 (by decide +kernel) (by decide) (fun h => ?_) (fun h => ?_)
  · rw [if_pos h] at hF
    refine ww_iload_4 94 rfl (by decide +kernel) ?_
    cases hF
    exact ww_iret (by decide +kernel) rfl
  · rw [if_neg h] at hF
    refine ww_iload_4 87 rfl (by decide +kernel) ?_
    refine ww_iconst 88 rfl (1) (1 : Int32) (by decide +kernel) (by decide) ?_
    refine ww_iadd 89 rfl (by decide +kernel) ?_
    refine ww_goto (5) 94 (by decide +kernel) (by decide) ?_
    cases hF
    exact ww_iret (by decide +kernel) rfl
set_option maxHeartbeats 4000000 in
set_option maxRecDepth 100000 in
theorem B_Model_codeOf_62 {l : Launch} {ca : Nat → ClassId} {a : Nat → Nat} {m0 : Mem} {l2 : Int32} {l3 : Int32} {l4 : Int32} {z0 : Option Value} {z1 : Option Value} {r : Int32}  (hF : F_Model_codeOf_62 m0 l2 l3 l4 = some r) : WW l b_Model_codeOf 5 (some .int) R_Model (RM 0 0) ca a (EM ca a (some (.int r)) m0) 62 [z0, z1, some (.int l2), some (.int l3), some (.int l4)] [] m0 := by
  unfold F_Model_codeOf_62 at hF
  refine ww_iload_3 63 rfl (by decide +kernel) ?_
  refine ww_iload_2 64 rfl (by decide +kernel) ?_
  refine ww_iconst 65 rfl (2) (2 : Int32) (by decide +kernel) (by decide) ?_
  refine ww_idiv 66 rfl (by decide +kernel) (by decide) ?_
  refine ww_icmp_lt 69 rfl (12) 78 (by decide +kernel) (by decide) (fun h => ?_) (fun h => ?_)
  · rw [if_pos h] at hF
    exact B_Model_codeOf_78 hF
  · rw [if_neg h] at hF
    refine ww_iinc_4 72 rfl (2) (2 : Int32) (by decide +kernel) (by decide) (by decide) ?_
    refine ww_iload_3 73 rfl (by decide +kernel) ?_
    refine ww_iload_2 74 rfl (by decide +kernel) ?_
    refine ww_iconst 75 rfl (2) (2 : Int32) (by decide +kernel) (by decide) ?_
    refine ww_idiv 76 rfl (by decide +kernel) (by decide) ?_
    refine ww_isub 77 rfl (by decide +kernel) ?_
    refine ww_nmi (fun v4 ev4 => ?_)
    replace hF := bnd_at hF ev4
    refine ww_istore_3 78 rfl (by decide +kernel) (by decide) ?_
    exact B_Model_codeOf_78 hF
set_option maxHeartbeats 4000000 in
set_option maxRecDepth 100000 in
theorem B_Model_codeOf_48 {l : Launch} {ca : Nat → ClassId} {a : Nat → Nat} {m0 : Mem} {l2 : Int32} {l3 : Int32} {s0 : Int32} {z0 : Option Value} {z1 : Option Value} {z4 : Option Value} {r : Int32}  (hF : F_Model_codeOf_48 m0 l2 l3 s0 = some r) : WW l b_Model_codeOf 5 (some .int) R_Model (RM 0 0) ca a (EM ca a (some (.int r)) m0) 48 [z0, z1, some (.int l2), some (.int l3), z4] [.int s0] m0 := by
  unfold F_Model_codeOf_48 at hF
  refine ww_istore_4 50 rfl (by decide +kernel) (by decide) ?_
  refine ww_iload_3 51 rfl (by decide +kernel) ?_
  refine ww_iload_2 52 rfl (by decide +kernel) ?_
  refine ww_icmp_lt 55 rfl (10) 62 (by decide +kernel) (by decide) (fun h => ?_) (fun h => ?_)
  · rw [if_pos h] at hF
    exact B_Model_codeOf_62 hF
  · rw [if_neg h] at hF
    refine ww_iinc_4 58 rfl (4) (4 : Int32) (by decide +kernel) (by decide) (by decide) ?_
    refine ww_iload_3 59 rfl (by decide +kernel) ?_
    refine ww_iload_2 60 rfl (by decide +kernel) ?_
    refine ww_isub 61 rfl (by decide +kernel) ?_
    refine ww_nmi (fun v3 ev3 => ?_)
    replace hF := bnd_at hF ev3
    refine ww_istore_3 62 rfl (by decide +kernel) (by decide) ?_
    exact B_Model_codeOf_62 hF
set_option maxHeartbeats 4000000 in
set_option maxRecDepth 100000 in
theorem B_Model_codeOf_33 {l : Launch} {ca : Nat → ClassId} {a : Nat → Nat} {m0 : Mem} {l1 : Int32} {l2 : Int32} {s0 : Int32} {z3 : Option Value} {z4 : Option Value} {r : Int32}  (hF : F_Model_codeOf_33 m0 l1 l2 s0 = some r) : WW l b_Model_codeOf 5 (some .int) R_Model (RM 0 0) ca a (EM ca a (some (.int r)) m0) 33 [some (.ref (a 17)), some (.int l1), some (.int l2), z3, z4] [.int s0] m0 := by
  unfold F_Model_codeOf_33 at hF
  refine ww_istore_3 34 rfl (by decide +kernel) (by decide) ?_
  refine ww_iload_1 35 rfl (by decide +kernel) ?_
  refine ww_aload_0 36 rfl (by decide +kernel) ?_
  refine ww_geti 39 rfl 8 23 50 (by decide +kernel) rfl k_Model_50 (by decide) (by decide) rfl rfl ?_
  refine ww_icmp_ge 42 rfl (8) 47 (by decide +kernel) (by decide) (fun h => ?_) (fun h => ?_)
  · rw [if_pos h] at hF
    refine ww_iconst 48 rfl (0) (0 : Int32) (by decide +kernel) (by decide) ?_
    exact B_Model_codeOf_48 hF
  · rw [if_neg h] at hF
    refine ww_bipush 44 rfl (8) (8 : Int32) (by decide +kernel) (by decide) ?_
    refine ww_goto (4) 48 (by decide +kernel) (by decide) ?_
    exact B_Model_codeOf_48 hF
set_option maxHeartbeats 4000000 in
set_option maxRecDepth 100000 in
theorem C_Model_codeOf {l : Launch} {ca : Nat → ClassId} {a : Nat → Nat} {m0 : Mem} {p1 : Int32} {r : Int32}  (hF : F_Model_codeOf m0 p1 = some r) : CT l ca a y_Model_codeOf b_Model_codeOf 5 (some .int) (RM 0 0) [.ref (a 17), .int p1] m0 (some (.int r)) m0 := by
  refine ct_of (own := R_Model) (lv := [some (.ref (a 17)), some (.int p1), none, none, none]) (plainFor_of_name (by decide)) rfl (cat_ok rfl) (Nat.le_of_ble_eq_true rfl) rfl ?_
  unfold F_Model_codeOf at hF
  refine ww_aload_0 1 rfl (by decide +kernel) ?_
  refine ww_getr 4 rfl 8 0 7 18 (by decide +kernel) rfl k_Model_7 (by decide) (by decide) rfl rfl (by omega) ?_
  refine ww_aload_0 5 rfl (by decide +kernel) ?_
  refine ww_geti 8 rfl 8 24 47 (by decide +kernel) rfl k_Model_47 (by decide) (by decide) rfl rfl ?_
  obtain ⟨g1, hF⟩ := gd_at hF
  refine ww_iald 9 rfl (by decide +kernel) rfl g1 ?_
  refine ww_nmi (fun v2 ev2 => ?_)
  replace hF := bnd_at hF ev2
  refine ww_istore_2 10 rfl (by decide +kernel) (by decide) ?_
  refine ww_iload_1 11 rfl (by decide +kernel) ?_
  refine ww_aload_0 12 rfl (by decide +kernel) ?_
  refine ww_geti 15 rfl 8 23 50 (by decide +kernel) rfl k_Model_50 (by decide) (by decide) rfl rfl ?_
  refine ww_icmp_ge 18 rfl (12) 27 (by decide +kernel) (by decide) (fun h => ?_) (fun h => ?_)
  · rw [if_pos h] at hF
    refine ww_iload_1 28 rfl (by decide +kernel) ?_
    refine ww_aload_0 29 rfl (by decide +kernel) ?_
    refine ww_geti 32 rfl 8 23 50 (by decide +kernel) rfl k_Model_50 (by decide) (by decide) rfl rfl ?_
    refine ww_isub 33 rfl (by decide +kernel) ?_
    exact B_Model_codeOf_33 hF
  · rw [if_neg h] at hF
    refine ww_aload_0 19 rfl (by decide +kernel) ?_
    refine ww_geti 22 rfl 8 23 50 (by decide +kernel) rfl k_Model_50 (by decide) (by decide) rfl rfl ?_
    refine ww_iload_1 23 rfl (by decide +kernel) ?_
    refine ww_isub 24 rfl (by decide +kernel) ?_
    refine ww_goto (9) 33 (by decide +kernel) (by decide) ?_
    exact B_Model_codeOf_33 hF
set_option maxHeartbeats 4000000 in
set_option maxRecDepth 100000 in
theorem B_Model_change_154 {l : Launch} {ca : Nat → ClassId} {a : Nat → Nat} {m0 : Mem} {s1 : Int32} {s2 : Int32} {z1 : Option Value} {z2 : Option Value} {z3 : Option Value} {m9 : Mem}  (hF : F_Model_change_154 m0 s1 s2 = some m9) : WW l b_Model_change 4 none R_Model (RM 0 0) ca a (EM ca a none m9) 154 [some (.ref (a 17)), z1, z2, z3] [.int s2, .int s1, .ref (a 17)] m0 := by
  unfold F_Model_change_154 at hF
  refine ww_iadd 155 rfl (by decide +kernel) ?_
  refine ww_put 158 rfl 8 24 47 (by decide +kernel) rfl k_Model_47 (by decide) (by decide) rfl rfl rfl rfl rfl rfl ?_
  refine ww_nmm (fun m9 em9 => ?_)
  replace hF := bnd_at hF em9
  refine ww_aload_0 159 rfl (by decide +kernel) ?_
  refine ww_aload_0 160 rfl (by decide +kernel) ?_
  refine ww_geti 163 rfl 8 24 47 (by decide +kernel) rfl k_Model_47 (by decide) (by decide) rfl rfl ?_
  refine ww_if_ge 166 rfl (7) 170 (by decide +kernel) (by decide) (fun h => ?_) (fun h => ?_)
  · rw [if_pos h] at hF
    refine ww_aload_0 171 rfl (by decide +kernel) ?_
    refine ww_geti 174 rfl 8 24 47 (by decide +kernel) rfl k_Model_47 (by decide) (by decide) rfl rfl ?_
    refine ww_bipush 176 rfl (88) (88 : Int32) (by decide +kernel) (by decide) ?_
    refine ww_icmp_le 179 rfl (8) 184 (by decide +kernel) (by decide) (fun h => ?_) (fun h => ?_)
    · rw [if_pos h] at hF
      refine ww_aload_0 185 rfl (by decide +kernel) ?_
      refine ww_geti 188 rfl 8 24 47 (by decide +kernel) rfl k_Model_47 (by decide) (by decide) rfl rfl ?_
      refine ww_put 191 rfl 8 24 47 (by decide +kernel) rfl k_Model_47 (by decide) (by decide) rfl rfl rfl rfl rfl rfl ?_
      refine ww_nmm (fun m10 em10 => ?_)
      replace hF := bnd_at hF em10
      cases hF
      exact ww_vret (by decide +kernel) rfl
    · rw [if_neg h] at hF
      refine ww_bipush 181 rfl (88) (88 : Int32) (by decide +kernel) (by decide) ?_
      refine ww_goto (7) 188 (by decide +kernel) (by decide) ?_
      refine ww_put 191 rfl 8 24 47 (by decide +kernel) rfl k_Model_47 (by decide) (by decide) rfl rfl rfl rfl rfl rfl ?_
      refine ww_nmm (fun m11 em11 => ?_)
      replace hF := bnd_at hF em11
      cases hF
      exact ww_vret (by decide +kernel) rfl
  · rw [if_neg h] at hF
    refine ww_iconst 167 rfl (0) (0 : Int32) (by decide +kernel) (by decide) ?_
    refine ww_goto (21) 188 (by decide +kernel) (by decide) ?_
    refine ww_put 191 rfl 8 24 47 (by decide +kernel) rfl k_Model_47 (by decide) (by decide) rfl rfl rfl rfl rfl rfl ?_
    refine ww_nmm (fun m12 em12 => ?_)
    replace hF := bnd_at hF em12
    cases hF
    exact ww_vret (by decide +kernel) rfl
set_option maxHeartbeats 4000000 in
set_option maxRecDepth 100000 in
theorem B_Model_change_127 {l : Launch} {ca : Nat → ClassId} {a : Nat → Nat} {m0 : Mem} {l1 : Int32} {s1 : Int32} {z2 : Option Value} {z3 : Option Value} {m9 : Mem}  (hF : F_Model_change_127 m0 l1 s1 = some m9) : WW l b_Model_change 4 none R_Model (RM 0 0) ca a (EM ca a none m9) 127 [some (.ref (a 17)), some (.int l1), z2, z3] [.int s1, .ref (a 17)] m0 := by
  unfold F_Model_change_127 at hF
  refine ww_put 130 rfl 8 23 50 (by decide +kernel) rfl k_Model_50 (by decide) (by decide) rfl rfl rfl rfl rfl rfl ?_
  refine ww_nmm (fun m8 em8 => ?_)
  replace hF := bnd_at hF em8
  refine ww_aload_0 131 rfl (by decide +kernel) ?_
  refine ww_dup 132 rfl (by decide +kernel) rfl ?_
  refine ww_geti 135 rfl 8 24 47 (by decide +kernel) rfl k_Model_47 (by decide) (by decide) rfl rfl ?_
  refine ww_iload_1 136 rfl (by decide +kernel) ?_
  refine ww_bipush 138 rfl (8) (8 : Int32) (by decide +kernel) (by decide) ?_
  refine ww_irem 139 rfl (by decide +kernel) (by decide) ?_
  refine ww_iconst 140 rfl (4) (4 : Int32) (by decide +kernel) (by decide) ?_
  refine ww_icmp_ge 143 rfl (7) 147 (by decide +kernel) (by decide) (fun h => ?_) (fun h => ?_)
  · rw [if_pos h] at hF
    refine ww_iconst 148 rfl (2) (2 : Int32) (by decide +kernel) (by decide) ?_
    refine ww_iconst 149 rfl (2) (2 : Int32) (by decide +kernel) (by decide) ?_
    refine ww_iload_1 150 rfl (by decide +kernel) ?_
    refine ww_iconst 151 rfl (4) (4 : Int32) (by decide +kernel) (by decide) ?_
    refine ww_irem 152 rfl (by decide +kernel) (by decide) ?_
    refine ww_imul 153 rfl (by decide +kernel) ?_
    refine ww_iadd 154 rfl (by decide +kernel) ?_
    exact B_Model_change_154 hF
  · rw [if_neg h] at hF
    refine ww_iconst 144 rfl (-1) (-1 : Int32) (by decide +kernel) (by decide) ?_
    refine ww_goto (10) 154 (by decide +kernel) (by decide) ?_
    exact B_Model_change_154 hF
set_option maxHeartbeats 4000000 in
set_option maxRecDepth 100000 in
theorem B_Model_change_87 {l : Launch} {ca : Nat → ClassId} {a : Nat → Nat} {m0 : Mem} {l1 : Int32} {s1 : Int32} {z2 : Option Value} {z3 : Option Value} {m9 : Mem}  (hF : F_Model_change_87 m0 l1 s1 = some m9) : WW l b_Model_change 4 none R_Model (RM 0 0) ca a (EM ca a none m9) 87 [some (.ref (a 17)), some (.int l1), z2, z3] [.int s1, .ref (a 17)] m0 := by
  unfold F_Model_change_87 at hF
  refine ww_put 90 rfl 8 23 50 (by decide +kernel) rfl k_Model_50 (by decide) (by decide) rfl rfl rfl rfl rfl rfl ?_
  refine ww_nmm (fun m7 em7 => ?_)
  replace hF := bnd_at hF em7
  refine ww_aload_0 91 rfl (by decide +kernel) ?_
  refine ww_aload_0 92 rfl (by decide +kernel) ?_
  refine ww_geti 95 rfl 8 23 50 (by decide +kernel) rfl k_Model_50 (by decide) (by decide) rfl rfl ?_
  refine ww_sipush 98 rfl (32767) (32767 : Int32) (by decide +kernel) (by decide) ?_
  refine ww_icmp_le 101 rfl (9) 107 (by decide +kernel) (by decide) (fun h => ?_) (fun h => ?_)
  · rw [if_pos h] at hF
    refine ww_aload_0 108 rfl (by decide +kernel) ?_
    refine ww_geti 111 rfl 8 23 50 (by decide +kernel) rfl k_Model_50 (by decide) (by decide) rfl rfl ?_
    refine ww_sipush 114 rfl (-32768) (-32768 : Int32) (by decide +kernel) (by decide) ?_
    refine ww_icmp_ge 117 rfl (9) 123 (by decide +kernel) (by decide) (fun h => ?_) (fun h => ?_)
    · rw [if_pos h] at hF
      refine ww_aload_0 124 rfl (by decide +kernel) ?_
      refine ww_geti 127 rfl 8 23 50 (by decide +kernel) rfl k_Model_50 (by decide) (by decide) rfl rfl ?_
      exact B_Model_change_127 hF
    · rw [if_neg h] at hF
      refine ww_sipush 120 rfl (-32768) (-32768 : Int32) (by decide +kernel) (by decide) ?_
      refine ww_goto (7) 127 (by decide +kernel) (by decide) ?_
      exact B_Model_change_127 hF
  · rw [if_neg h] at hF
    refine ww_sipush 104 rfl (32767) (32767 : Int32) (by decide +kernel) (by decide) ?_
    refine ww_goto (23) 127 (by decide +kernel) (by decide) ?_
    exact B_Model_change_127 hF
set_option maxHeartbeats 4000000 in
set_option maxRecDepth 100000 in
theorem B_Model_change_63 {l : Launch} {ca : Nat → ClassId} {a : Nat → Nat} {m0 : Mem} {l1 : Int32} {s0 : Int32} {s1 : Int32} {z2 : Option Value} {z3 : Option Value} {m9 : Mem}  (hF : F_Model_change_63 m0 l1 s0 s1 = some m9) : WW l b_Model_change 4 none R_Model (RM 0 0) ca a (EM ca a none m9) 63 [some (.ref (a 17)), some (.int l1), z2, z3] [.int s1, .int s0] m0 := by
  unfold F_Model_change_63 at hF
  refine ww_iadd 64 rfl (by decide +kernel) ?_
  refine ww_nmi (fun v6 ev6 => ?_)
  replace hF := bnd_at hF ev6
  refine ww_istore_3 65 rfl (by decide +kernel) (by decide) ?_
  refine ww_aload_0 66 rfl (by decide +kernel) ?_
  refine ww_iload_1 67 rfl (by decide +kernel) ?_
  refine ww_bipush 69 rfl (8) (8 : Int32) (by decide +kernel) (by decide) ?_
  refine ww_icmp_lt 72 rfl (12) 81 (by decide +kernel) (by decide) (fun h => ?_) (fun h => ?_)
  · rw [if_pos h] at hF
    refine ww_aload_0 82 rfl (by decide +kernel) ?_
    refine ww_geti 85 rfl 8 23 50 (by decide +kernel) rfl k_Model_50 (by decide) (by decide) rfl rfl ?_
    refine ww_iload_3 86 rfl (by decide +kernel) ?_
    refine ww_iadd 87 rfl (by decide +kernel) ?_
    exact B_Model_change_87 hF
  · rw [if_neg h] at hF
    refine ww_aload_0 73 rfl (by decide +kernel) ?_
    refine ww_geti 76 rfl 8 23 50 (by decide +kernel) rfl k_Model_50 (by decide) (by decide) rfl rfl ?_
    refine ww_iload_3 77 rfl (by decide +kernel) ?_
    refine ww_isub 78 rfl (by decide +kernel) ?_
    refine ww_goto (9) 87 (by decide +kernel) (by decide) ?_
    exact B_Model_change_87 hF
set_option maxHeartbeats 4000000 in
set_option maxRecDepth 100000 in
theorem B_Model_change_46 {l : Launch} {ca : Nat → ClassId} {a : Nat → Nat} {m0 : Mem} {l1 : Int32} {l2 : Int32} {s0 : Int32} {s1 : Int32} {z3 : Option Value} {m9 : Mem}  (hF : F_Model_change_46 m0 l1 l2 s0 s1 = some m9) : WW l b_Model_change 4 none R_Model (RM 0 0) ca a (EM ca a none m9) 46 [some (.ref (a 17)), some (.int l1), some (.int l2), z3] [.int s1, .int s0] m0 := by
  unfold F_Model_change_46 at hF
  refine ww_iadd 47 rfl (by decide +kernel) ?_
  refine ww_nmi (fun v5 ev5 => ?_)
  replace hF := bnd_at hF ev5
  refine ww_istore_3 48 rfl (by decide +kernel) (by decide) ?_
  refine ww_iload_3 49 rfl (by decide +kernel) ?_
  refine ww_iload_1 50 rfl (by decide +kernel) ?_
  refine ww_iconst 51 rfl (2) (2 : Int32) (by decide +kernel) (by decide) ?_
  refine ww_irem 52 rfl (by decide +kernel) (by decide) ?_
  refine ww_iconst 53 rfl (1) (1 : Int32) (by decide +kernel) (by decide) ?_
  refine ww_icmp_ne 56 rfl (9) 62 (by decide +kernel) (by decide) (fun h => ?_) (fun h => ?_)
  · rw [if_neg h] at hF
    refine ww_iconst 63 rfl (0) (0 : Int32) (by decide +kernel) (by decide) ?_
    exact B_Model_change_63 hF
  · rw [if_pos h] at hF
    refine ww_iload_2 57 rfl (by decide +kernel) ?_
    refine ww_iconst 58 rfl (4) (4 : Int32) (by decide +kernel) (by decide) ?_
    refine ww_idiv 59 rfl (by decide +kernel) (by decide) ?_
    refine ww_goto (4) 63 (by decide +kernel) (by decide) ?_
    exact B_Model_change_63 hF
set_option maxHeartbeats 4000000 in
set_option maxRecDepth 100000 in
theorem B_Model_change_29 {l : Launch} {ca : Nat → ClassId} {a : Nat → Nat} {m0 : Mem} {l1 : Int32} {l2 : Int32} {s0 : Int32} {s1 : Int32} {z3 : Option Value} {m9 : Mem}  (hF : F_Model_change_29 m0 l1 l2 s0 s1 = some m9) : WW l b_Model_change 4 none R_Model (RM 0 0) ca a (EM ca a none m9) 29 [some (.ref (a 17)), some (.int l1), some (.int l2), z3] [.int s1, .int s0] m0 := by
  unfold F_Model_change_29 at hF
  refine ww_iadd 30 rfl (by decide +kernel) ?_
  refine ww_nmi (fun v4 ev4 => ?_)
  replace hF := bnd_at hF ev4
  refine ww_istore_3 31 rfl (by decide +kernel) (by decide) ?_
  refine ww_iload_3 32 rfl (by decide +kernel) ?_
  refine ww_iload_1 33 rfl (by decide +kernel) ?_
  refine ww_iconst 34 rfl (4) (4 : Int32) (by decide +kernel) (by decide) ?_
  refine ww_irem 35 rfl (by decide +kernel) (by decide) ?_
  refine ww_iconst 36 rfl (2) (2 : Int32) (by decide +kernel) (by decide) ?_
  refine ww_icmp_lt 39 rfl (9) 45 (by decide +kernel) (by decide) (fun h => ?_) (fun h => ?_)
  · rw [if_pos h] at hF
    refine ww_iconst 46 rfl (0) (0 : Int32) (by decide +kernel) (by decide) ?_
    exact B_Model_change_46 hF
  · rw [if_neg h] at hF
    refine ww_iload_2 40 rfl (by decide +kernel) ?_
    refine ww_iconst 41 rfl (2) (2 : Int32) (by decide +kernel) (by decide) ?_
    refine ww_idiv 42 rfl (by decide +kernel) (by decide) ?_
    refine ww_goto (4) 46 (by decide +kernel) (by decide) ?_
    exact B_Model_change_46 hF
set_option maxHeartbeats 4000000 in
set_option maxRecDepth 100000 in
theorem C_Model_change {l : Launch} {ca : Nat → ClassId} {a : Nat → Nat} {m0 : Mem} {p1 : Int32} {m9 : Mem}  (hF : F_Model_change m0 p1 = some m9) : CT l ca a y_Model_change b_Model_change 4 none (RM 0 0) [.ref (a 17), .int p1] m0 none m9 := by
  refine ct_of (own := R_Model) (lv := [some (.ref (a 17)), some (.int p1), none, none]) (plainFor_of_name (by decide)) rfl (cat_ok rfl) (Nat.le_of_ble_eq_true rfl) rfl ?_
  unfold F_Model_change at hF
  refine ww_aload_0 1 rfl (by decide +kernel) ?_
  refine ww_getr 4 rfl 8 0 7 18 (by decide +kernel) rfl k_Model_7 (by decide) (by decide) rfl rfl (by omega) ?_
  refine ww_aload_0 5 rfl (by decide +kernel) ?_
  refine ww_geti 8 rfl 8 24 47 (by decide +kernel) rfl k_Model_47 (by decide) (by decide) rfl rfl ?_
  obtain ⟨g1, hF⟩ := gd_at hF
  refine ww_iald 9 rfl (by decide +kernel) rfl g1 ?_
  refine ww_nmi (fun v2 ev2 => ?_)
  replace hF := bnd_at hF ev2
  refine ww_istore_2 10 rfl (by decide +kernel) (by decide) ?_
  refine ww_iload_2 11 rfl (by decide +kernel) ?_
  refine ww_bipush 13 rfl (8) (8 : Int32) (by decide +kernel) (by decide) ?_
  refine ww_idiv 14 rfl (by decide +kernel) (by decide) ?_
  refine ww_nmi (fun v3 ev3 => ?_)
  replace hF := bnd_at hF ev3
  refine ww_istore_3 15 rfl (by decide +kernel) (by decide) ?_
  refine ww_iload_3 16 rfl (by decide +kernel) ?_
  refine ww_iload_1 17 rfl (by decide +kernel) ?_
  refine ww_bipush 19 rfl (8) (8 : Int32) (by decide +kernel) (by decide) ?_
  refine ww_irem 20 rfl (by decide +kernel) (by decide) ?_
  refine ww_iconst 21 rfl (4) (4 : Int32) (by decide +kernel) (by decide) ?_
  refine ww_icmp_lt 24 rfl (7) 28 (by decide +kernel) (by decide) (fun h => ?_) (fun h => ?_)
  · rw [if_pos h] at hF
    refine ww_iconst 29 rfl (0) (0 : Int32) (by decide +kernel) (by decide) ?_
    exact B_Model_change_29 hF
  · rw [if_neg h] at hF
    refine ww_iload_2 25 rfl (by decide +kernel) ?_
    refine ww_goto (4) 29 (by decide +kernel) (by decide) ?_
    exact B_Model_change_29 hF
