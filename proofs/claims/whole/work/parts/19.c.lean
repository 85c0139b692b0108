set_option maxHeartbeats 4000000 in
set_option maxRecDepth 100000 in
theorem C_Model_line {l : Launch} {ca : Nat → ClassId} {a : Nat → Nat} {m0 : Mem}  {r : Int32}  (hF : F_Model_line m0 = some r) : CT l ca a y_Model_line b_Model_line 1 (some .int) (RM 0 0) [.ref (a 17)] m0 (some (.int r)) m0 := by
  refine ct_of (own := R_Model) (lv := [some (.ref (a 17))]) (plainFor_of_name (by decide)) rfl (cat_ok rfl) (Nat.le_of_ble_eq_true rfl) rfl ?_
  unfold F_Model_line at hF
  refine ww_aload_0 1 rfl (by decide +kernel) ?_
  refine ww_geti 4 rfl 8 10 87 (by decide +kernel) rfl k_Model_87 (by decide) (by decide) rfl rfl ?_
  cases hF
  exact ww_iret (by decide +kernel) rfl
set_option maxHeartbeats 4000000 in
set_option maxRecDepth 100000 in
theorem C_Model_there {l : Launch} {ca : Nat → ClassId} {a : Nat → Nat} {m0 : Mem} {p1 : Int32} {p2 : Int32} {r : Int32}  (hF : F_Model_there m0 p1 p2 = some r) : CT l ca a y_Model_there b_Model_there 3 (some .boolean) (RM 0 0) [.ref (a 17), .int p1, .int p2] m0 (some (.int r)) m0 := by
  refine ct_of (own := R_Model) (lv := [some (.ref (a 17)), some (.int p1), some (.int p2)]) (plainFor_of_name (by decide)) rfl (cat_ok rfl) (Nat.le_of_ble_eq_true rfl) rfl ?_
  unfold F_Model_there at hF
  refine ww_iload_1 1 rfl (by decide +kernel) ?_
  refine ww_if_lt 4 rfl (29) 30 (by decide +kernel) (by decide) (fun h => ?_) (fun h => ?_)
  · rw [if_pos h] at hF
    refine ww_iconst 31 rfl (0) (0 : Int32) (by decide +kernel) (by decide) ?_
    cases hF
    exact ww_zret (by decide +kernel) rfl (by decide)
  · rw [if_neg h] at hF
    refine ww_iload_1 5 rfl (by decide +kernel) ?_
    refine ww_aload_0 6 rfl (by decide +kernel) ?_
    refine ww_geti 9 rfl 8 10 87 (by decide +kernel) rfl k_Model_87 (by decide) (by decide) rfl rfl ?_
    refine ww_icmp_ge 12 rfl (21) 30 (by decide +kernel) (by decide) (fun h => ?_) (fun h => ?_)
    · rw [if_pos h] at hF
      refine ww_iconst 31 rfl (0) (0 : Int32) (by decide +kernel) (by decide) ?_
      cases hF
      exact ww_zret (by decide +kernel) rfl (by decide)
    · rw [if_neg h] at hF
      refine ww_iload_2 13 rfl (by decide +kernel) ?_
      refine ww_if_lt 16 rfl (17) 30 (by decide +kernel) (by decide) (fun h => ?_) (fun h => ?_)
      · rw [if_pos h] at hF
        refine ww_iconst 31 rfl (0) (0 : Int32) (by decide +kernel) (by decide) ?_
        cases hF
        exact ww_zret (by decide +kernel) rfl (by decide)
      · rw [if_neg h] at hF
        refine ww_iload_2 17 rfl (by decide +kernel) ?_
        refine ww_aload_0 18 rfl (by decide +kernel) ?_
        refine ww_getr 21 rfl 8 11 19 21 (by decide +kernel) rfl k_Model_19 (by decide) (by decide) rfl rfl (by omega) ?_
        refine ww_iload_1 22 rfl (by decide +kernel) ?_
        obtain ⟨g1, hF⟩ := gd_at hF
        refine ww_iald 23 rfl (by decide +kernel) rfl g1 ?_
        refine ww_icmp_ge 26 rfl (7) 30 (by decide +kernel) (by decide) (fun h => ?_) (fun h => ?_)
        · rw [if_pos h] at hF
          refine ww_iconst 31 rfl (0) (0 : Int32) (by decide +kernel) (by decide) ?_
          cases hF
          exact ww_zret (by decide +kernel) rfl (by decide)
        · rw [if_neg h] at hF
          refine ww_iconst 27 rfl (1) (1 : Int32) (by decide +kernel) (by decide) ?_
          refine ww_goto (4) 31 (by decide +kernel) (by decide) ?_
          cases hF
          exact ww_zret (by decide +kernel) rfl (by decide)
set_option maxHeartbeats 4000000 in
set_option maxRecDepth 100000 in
theorem C_Model_byteAt {l : Launch} {ca : Nat → ClassId} {a : Nat → Nat} {m0 : Mem} {p1 : Int32} {p2 : Int32} {r : Int32}  (hF : F_Model_byteAt m0 p1 p2 = some r) : CT l ca a y_Model_byteAt b_Model_byteAt 3 (some .int) (RM 1 22) [.ref (a 17), .int p1, .int p2] m0 (some (.int r)) m0 := by
  refine ct_of (own := R_Model) (lv := [some (.ref (a 17)), some (.int p1), some (.int p2)]) (plainFor_of_name (by decide)) rfl (cat_ok rfl) (Nat.le_of_ble_eq_true rfl) rfl ?_
  unfold F_Model_byteAt at hF
  refine ww_aload_0 1 rfl (by decide +kernel) ?_
  refine ww_iload_1 2 rfl (by decide +kernel) ?_
  refine ww_iload_2 3 rfl (by decide +kernel) ?_
  obtain ⟨r2, h1, hF⟩ := rd_at hF
  refine ww_cV2i 6 rfl 8 97 (by decide +kernel) mf_Model_there k_Model_97 rfl (by decide) rfl ⟨by decide, by decide⟩ ⟨rfl, rfl⟩ (Nat.le_of_ble_eq_true rfl) (C_Model_there h1) ?_
  refine ww_if_eq 9 rfl (17) 23 (by decide +kernel) (by decide) (fun h => ?_) (fun h => ?_)
  · rw [if_pos h] at hF
    refine ww_iconst 24 rfl (-1) (-1 : Int32) (by decide +kernel) (by decide) ?_
    cases hF
    exact ww_iret (by decide +kernel) rfl
  · rw [if_neg h] at hF
    refine ww_aload_0 10 rfl (by decide +kernel) ?_
    refine ww_getr 13 rfl 8 12 22 22 (by decide +kernel) rfl k_Model_22 (by decide) (by decide) rfl rfl (by omega) ?_
    refine ww_bipush 15 rfl (44) (44 : Int32) (by decide +kernel) (by decide) ?_
    refine ww_iload_1 16 rfl (by decide +kernel) ?_
    refine ww_imul 17 rfl (by decide +kernel) ?_
    refine ww_iload_2 18 rfl (by decide +kernel) ?_
    refine ww_iadd 19 rfl (by decide +kernel) ?_
    obtain ⟨g3, hF⟩ := gd_at hF
    refine ww_iald 20 rfl (by decide +kernel) rfl g3 ?_
    refine ww_goto (4) 24 (by decide +kernel) (by decide) ?_
    cases hF
    exact ww_iret (by decide +kernel) rfl
set_option maxHeartbeats 4000000 in
set_option maxRecDepth 100000 in
theorem C_Model_poke {l : Launch} {ca : Nat → ClassId} {a : Nat → Nat} {m0 : Mem} {p1 : Int32} {p2 : Int32} {p3 : Int32} {r : Int32} {m9 : Mem}  (hF : F_Model_poke m0 p1 p2 p3 = some (r, m9)) : CT l ca a y_Model_poke b_Model_poke 4 (some .boolean) (RM 1 22) [.ref (a 17), .int p1, .int p2, .int p3] m0 (some (.int r)) m9 := by
  refine ct_of (own := R_Model) (lv := [some (.ref (a 17)), some (.int p1), some (.int p2), some (.int p3)]) (plainFor_of_name (by decide)) rfl (cat_ok rfl) (Nat.le_of_ble_eq_true rfl) rfl ?_
  unfold F_Model_poke at hF
  refine ww_aload_0 1 rfl (by decide +kernel) ?_
  refine ww_iload_1 2 rfl (by decide +kernel) ?_
  refine ww_iload_2 3 rfl (by decide +kernel) ?_
  obtain ⟨r2, h1, hF⟩ := rd_at hF
  refine ww_cV2i 6 rfl 8 97 (by decide +kernel) mf_Model_there k_Model_97 rfl (by decide) rfl ⟨by decide, by decide⟩ ⟨rfl, rfl⟩ (Nat.le_of_ble_eq_true rfl) (C_Model_there h1) ?_
  refine ww_if_eq 9 rfl (14) 20 (by decide +kernel) (by decide) (fun h => ?_) (fun h => ?_)
  · rw [if_pos h] at hF
    refine ww_iconst 21 rfl (0) (0 : Int32) (by decide +kernel) (by decide) ?_
    cases hF
    exact ww_zret (by decide +kernel) rfl (by decide)
  · rw [if_neg h] at hF
    refine ww_iload_3 10 rfl (by decide +kernel) ?_
    refine ww_if_lt 13 rfl (10) 20 (by decide +kernel) (by decide) (fun h => ?_) (fun h => ?_)
    · rw [if_pos h] at hF
      refine ww_iconst 21 rfl (0) (0 : Int32) (by decide +kernel) (by decide) ?_
      cases hF
      exact ww_zret (by decide +kernel) rfl (by decide)
    · rw [if_neg h] at hF
      refine ww_iload_3 14 rfl (by decide +kernel) ?_
      refine ww_sipush 17 rfl (255) (255 : Int32) (by decide +kernel) (by decide) ?_
      refine ww_icmp_le 20 rfl (5) 22 (by decide +kernel) (by decide) (fun h => ?_) (fun h => ?_)
      · rw [if_pos h] at hF
        refine ww_aload_0 23 rfl (by decide +kernel) ?_
        refine ww_getr 26 rfl 8 12 22 22 (by decide +kernel) rfl k_Model_22 (by decide) (by decide) rfl rfl (by omega) ?_
        refine ww_bipush 28 rfl (44) (44 : Int32) (by decide +kernel) (by decide) ?_
        refine ww_iload_1 29 rfl (by decide +kernel) ?_
        refine ww_imul 30 rfl (by decide +kernel) ?_
        refine ww_iload_2 31 rfl (by decide +kernel) ?_
        refine ww_iadd 32 rfl (by decide +kernel) ?_
        refine ww_iload_3 33 rfl (by decide +kernel) ?_
        obtain ⟨g3, hF⟩ := gd_at hF
        refine ww_iast 34 rfl (by decide +kernel) rfl g3 ?_
        refine ww_nmm (fun m4 em4 => ?_)
        replace hF := bnd_at hF em4
        refine ww_iconst 35 rfl (1) (1 : Int32) (by decide +kernel) (by decide) ?_
        cases hF
        exact ww_zret (by decide +kernel) rfl (by decide)
      · rw [if_neg h] at hF
        refine ww_iconst 21 rfl (0) (0 : Int32) (by decide +kernel) (by decide) ?_
        cases hF
        exact ww_zret (by decide +kernel) rfl (by decide)
set_option maxHeartbeats 4000000 in
set_option maxRecDepth 100000 in
theorem B_Model_copy_14 {l : Launch} {ca : Nat → ClassId} {a : Nat → Nat} {m9 : Mem} (n : Nat) : ∀ {m0 : Mem} {l1 : Int32} {l2 : Int32} {l3 : Int32}   (hF : F_Model_copy_14 n m0 l1 l2 l3 = some m9), WW l b_Model_copy 4 none R_Model (RM 0 0) ca a (EM ca a none m9) 14 [some (.ref (a 17)), some (.int l1), some (.int l2), some (.int l3)] [] m0 := by
  induction n with
  | zero => intros; rename_i hF; rw [F_Model_copy_14] at hF; cases hF
  | succ n ih =>
    intro m0 l1 l2 l3   hF
    rw [F_Model_copy_14] at hF
    refine ww_iload_3 15 rfl (by decide +kernel) ?_
    refine ww_bipush 17 rfl (44) (44 : Int32) (by decide +kernel) (by decide) ?_
    refine ww_icmp_ge 20 rfl (31) 48 (by decide +kernel) (by decide) (fun h => ?_) (fun h => ?_)
    · rw [if_pos h] at hF
      cases hF
      exact ww_vret (by decide +kernel) rfl
    · rw [if_neg h] at hF
      refine ww_aload_0 21 rfl (by decide +kernel) ?_
      refine ww_getr 24 rfl 8 12 22 22 (by decide +kernel) rfl k_Model_22 (by decide) (by decide) rfl rfl (by omega) ?_
      refine ww_bipush 26 rfl (44) (44 : Int32) (by decide +kernel) (by decide) ?_
      refine ww_iload_2 27 rfl (by decide +kernel) ?_
      refine ww_imul 28 rfl (by decide +kernel) ?_
      refine ww_iload_3 29 rfl (by decide +kernel) ?_
      refine ww_iadd 30 rfl (by decide +kernel) ?_
      refine ww_aload_0 31 rfl (by decide +kernel) ?_
      refine ww_getr 34 rfl 8 12 22 22 (by decide +kernel) rfl k_Model_22 (by decide) (by decide) rfl rfl (by omega) ?_
      refine ww_bipush 36 rfl (44) (44 : Int32) (by decide +kernel) (by decide) ?_
      refine ww_iload_1 37 rfl (by decide +kernel) ?_
      refine ww_imul 38 rfl (by decide +kernel) ?_
      refine ww_iload_3 39 rfl (by decide +kernel) ?_
      refine ww_iadd 40 rfl (by decide +kernel) ?_
      obtain ⟨g4, hF⟩ := gd_at hF
      refine ww_iald 41 rfl (by decide +kernel) rfl g4 ?_
      obtain ⟨g5, hF⟩ := gd_at hF
      refine ww_iast 42 rfl (by decide +kernel) rfl g5 ?_
      refine ww_nmm (fun m6 em6 => ?_)
      replace hF := bnd_at hF em6
      refine ww_iinc_3 45 rfl (1) (1 : Int32) (by decide +kernel) (by decide) (by decide) ?_
      refine ww_goto (-31) 14 (by decide +kernel) (by decide) ?_
      exact ih hF
set_option maxHeartbeats 4000000 in
set_option maxRecDepth 100000 in
theorem C_Model_copy {l : Launch} {ca : Nat → ClassId} {a : Nat → Nat} {m0 : Mem} {p1 : Int32} {p2 : Int32} {m9 : Mem}  (hF : F_Model_copy m0 p1 p2 = some m9) : CT l ca a y_Model_copy b_Model_copy 4 none (RM 0 0) [.ref (a 17), .int p1, .int p2] m0 none m9 := by
  refine ct_of (own := R_Model) (lv := [some (.ref (a 17)), some (.int p1), some (.int p2), none]) (plainFor_of_name (by decide)) rfl (cat_ok rfl) (Nat.le_of_ble_eq_true rfl) rfl ?_
  unfold F_Model_copy at hF
  refine ww_aload_0 1 rfl (by decide +kernel) ?_
  refine ww_getr 4 rfl 8 11 19 21 (by decide +kernel) rfl k_Model_19 (by decide) (by decide) rfl rfl (by omega) ?_
  refine ww_iload_2 5 rfl (by decide +kernel) ?_
  refine ww_aload_0 6 rfl (by decide +kernel) ?_
  refine ww_getr 9 rfl 8 11 19 21 (by decide +kernel) rfl k_Model_19 (by decide) (by decide) rfl rfl (by omega) ?_
  refine ww_iload_1 10 rfl (by decide +kernel) ?_
  obtain ⟨g1, hF⟩ := gd_at hF
  refine ww_iald 11 rfl (by decide +kernel) rfl g1 ?_
  obtain ⟨g2, hF⟩ := gd_at hF
  refine ww_iast 12 rfl (by decide +kernel) rfl g2 ?_
  refine ww_nmm (fun m3 em3 => ?_)
  replace hF := bnd_at hF em3
  refine ww_iconst 13 rfl (0) (0 : Int32) (by decide +kernel) (by decide) ?_
  refine ww_istore_3 14 rfl (by decide +kernel) (by decide) ?_
  exact B_Model_copy_14 _ hF
set_option maxHeartbeats 4000000 in
set_option maxRecDepth 100000 in
theorem B_Model_remove_12 {l : Launch} {ca : Nat → ClassId} {a : Nat → Nat} {m9 : Mem} (n : Nat) : ∀ {m0 : Mem} {l2 : Int32} {z1 : Option Value}  (hF : F_Model_remove_12 n m0 l2 = some m9), WW l b_Model_remove 3 none R_Model (RM 1 23) ca a (EM ca a none m9) 12 [some (.ref (a 17)), z1, some (.int l2)] [] m0 := by
  induction n with
  | zero => intros; rename_i hF; rw [F_Model_remove_12] at hF; cases hF
  | succ n ih =>
    intro m0 l2 z1  hF
    rw [F_Model_remove_12] at hF
    refine ww_iload_2 13 rfl (by decide +kernel) ?_
    refine ww_aload_0 14 rfl (by decide +kernel) ?_
    refine ww_geti 17 rfl 8 10 87 (by decide +kernel) rfl k_Model_87 (by decide) (by decide) rfl rfl ?_
    refine ww_icmp_ge 20 rfl (17) 34 (by decide +kernel) (by decide) (fun h => ?_) (fun h => ?_)
    · rw [if_pos h] at hF
      cases hF
      exact ww_vret (by decide +kernel) rfl
    · rw [if_neg h] at hF
      refine ww_aload_0 21 rfl (by decide +kernel) ?_
      refine ww_iload_2 22 rfl (by decide +kernel) ?_
      refine ww_iconst 23 rfl (1) (1 : Int32) (by decide +kernel) (by decide) ?_
      refine ww_iadd 24 rfl (by decide +kernel) ?_
      refine ww_iload_2 25 rfl (by decide +kernel) ?_
      obtain ⟨m3, h2, hF⟩ := rd_at hF
      refine ww_cV2v 28 rfl 8 101 (by decide +kernel) mf_Model_copy k_Model_101 rfl (by decide) rfl ⟨by decide, by decide⟩ ⟨rfl, rfl⟩ (Nat.le_of_ble_eq_true rfl) (C_Model_copy h2) ?_
      refine ww_iinc_2 31 rfl (1) (1 : Int32) (by decide +kernel) (by decide) (by decide) ?_
      refine ww_goto (-19) 12 (by decide +kernel) (by decide) ?_
      exact ih hF
set_option maxHeartbeats 4000000 in
set_option maxRecDepth 100000 in
theorem C_Model_remove {l : Launch} {ca : Nat → ClassId} {a : Nat → Nat} {m0 : Mem} {p1 : Int32} {m9 : Mem}  (hF : F_Model_remove m0 p1 = some m9) : CT l ca a y_Model_remove b_Model_remove 3 none (RM 1 23) [.ref (a 17), .int p1] m0 none m9 := by
  refine ct_of (own := R_Model) (lv := [some (.ref (a 17)), some (.int p1), none]) (plainFor_of_name (by decide)) rfl (cat_ok rfl) (Nat.le_of_ble_eq_true rfl) rfl ?_
  unfold F_Model_remove at hF
  refine ww_aload_0 1 rfl (by decide +kernel) ?_
  refine ww_dup 2 rfl (by decide +kernel) rfl ?_
  refine ww_geti 5 rfl 8 10 87 (by decide +kernel) rfl k_Model_87 (by decide) (by decide) rfl rfl ?_
  refine ww_iconst 6 rfl (1) (1 : Int32) (by decide +kernel) (by decide) ?_
  refine ww_isub 7 rfl (by decide +kernel) ?_
  refine ww_put 10 rfl 8 10 87 (by decide +kernel) rfl k_Model_87 (by decide) (by decide) rfl rfl rfl rfl rfl rfl ?_
  refine ww_nmm (fun m1 em1 => ?_)
  replace hF := bnd_at hF em1
  refine ww_iload_1 11 rfl (by decide +kernel) ?_
  refine ww_istore_2 12 rfl (by decide +kernel) (by decide) ?_
  exact B_Model_remove_12 _ hF
set_option maxHeartbeats 4000000 in
set_option maxRecDepth 100000 in
theorem B_Model_exchange_32 {l : Launch} {ca : Nat → ClassId} {a : Nat → Nat} {m9 : Mem} (n : Nat) : ∀ {m0 : Mem} {l1 : Int32} {l3 : Int32} {z2 : Option Value} {z4 : Option Value}  (hF : F_Model_exchange_32 n m0 l1 l3 = some m9), WW l b_Model_exchange 5 none R_Model (RM 0 0) ca a (EM ca a none m9) 32 [some (.ref (a 17)), some (.int l1), z2, some (.int l3), z4] [] m0 := by
  induction n with
  | zero => intros; rename_i hF; rw [F_Model_exchange_32] at hF; cases hF
  | succ n ih =>
    intro m0 l1 l3 z2 z4  hF
    rw [F_Model_exchange_32] at hF
    refine ww_iload_3 33 rfl (by decide +kernel) ?_
    refine ww_bipush 35 rfl (44) (44 : Int32) (by decide +kernel) (by decide) ?_
    refine ww_icmp_ge 38 rfl (63) 98 (by decide +kernel) (by decide) (fun h => ?_) (fun h => ?_)
    · rw [if_pos h] at hF
      cases hF
      exact ww_vret (by decide +kernel) rfl
    · rw [if_neg h] at hF
      refine ww_aload_0 39 rfl (by decide +kernel) ?_
      refine ww_getr 42 rfl 8 12 22 22 (by decide +kernel) rfl k_Model_22 (by decide) (by decide) rfl rfl (by omega) ?_
      refine ww_bipush 44 rfl (44) (44 : Int32) (by decide +kernel) (by decide) ?_
      refine ww_iload_1 45 rfl (by decide +kernel) ?_
      refine ww_imul 46 rfl (by decide +kernel) ?_
      refine ww_iload_3 47 rfl (by decide +kernel) ?_
      refine ww_iadd 48 rfl (by decide +kernel) ?_
      obtain ⟨g6, hF⟩ := gd_at hF
      refine ww_iald 49 rfl (by decide +kernel) rfl g6 ?_
      refine ww_nmi (fun v7 ev7 => ?_)
      replace hF := bnd_at hF ev7
      refine ww_istore_4 51 rfl (by decide +kernel) (by decide) ?_
      refine ww_aload_0 52 rfl (by decide +kernel) ?_
      refine ww_getr 55 rfl 8 12 22 22 (by decide +kernel) rfl k_Model_22 (by decide) (by decide) rfl rfl (by omega) ?_
      refine ww_bipush 57 rfl (44) (44 : Int32) (by decide +kernel) (by decide) ?_
      refine ww_iload_1 58 rfl (by decide +kernel) ?_
      refine ww_imul 59 rfl (by decide +kernel) ?_
      refine ww_iload_3 60 rfl (by decide +kernel) ?_
      refine ww_iadd 61 rfl (by decide +kernel) ?_
      refine ww_aload_0 62 rfl (by decide +kernel) ?_
      refine ww_getr 65 rfl 8 12 22 22 (by decide +kernel) rfl k_Model_22 (by decide) (by decide) rfl rfl (by omega) ?_
      refine ww_bipush 67 rfl (44) (44 : Int32) (by decide +kernel) (by decide) ?_
      refine ww_iload_1 68 rfl (by decide +kernel) ?_
      refine ww_imul 69 rfl (by decide +kernel) ?_
      refine ww_bipush 71 rfl (44) (44 : Int32) (by decide +kernel) (by decide) ?_
      refine ww_iadd 72 rfl (by decide +kernel) ?_
      refine ww_iload_3 73 rfl (by decide +kernel) ?_
      refine ww_iadd 74 rfl (by decide +kernel) ?_
      obtain ⟨g8, hF⟩ := gd_at hF
      refine ww_iald 75 rfl (by decide +kernel) rfl g8 ?_
      refine ww_iast 76 rfl (by decide +kernel) rfl g6 ?_
      refine ww_nmm (fun m9 em9 => ?_)
      replace hF := bnd_at hF em9
      refine ww_aload_0 77 rfl (by decide +kernel) ?_
      refine ww_getr 80 rfl 8 12 22 22 (by decide +kernel) rfl k_Model_22 (by decide) (by decide) rfl rfl (by omega) ?_
      refine ww_bipush 82 rfl (44) (44 : Int32) (by decide +kernel) (by decide) ?_
      refine ww_iload_1 83 rfl (by decide +kernel) ?_
      refine ww_imul 84 rfl (by decide +kernel) ?_
      refine ww_bipush 86 rfl (44) (44 : Int32) (by decide +kernel) (by decide) ?_
      refine ww_iadd 87 rfl (by decide +kernel) ?_
      refine ww_iload_3 88 rfl (by decide +kernel) ?_
      refine ww_iadd 89 rfl (by decide +kernel) ?_
      refine ww_iload_4 91 rfl (by decide +kernel) ?_
      refine ww_iast 92 rfl (by decide +kernel) rfl g8 ?_
      refine ww_nmm (fun m10 em10 => ?_)
      replace hF := bnd_at hF em10
      refine ww_iinc_3 95 rfl (1) (1 : Int32) (by decide +kernel) (by decide) (by decide) ?_
      refine ww_goto (-63) 32 (by decide +kernel) (by decide) ?_
      exact ih hF
set_option maxHeartbeats 4000000 in
set_option maxRecDepth 100000 in
theorem C_Model_exchange {l : Launch} {ca : Nat → ClassId} {a : Nat → Nat} {m0 : Mem} {p1 : Int32} {m9 : Mem}  (hF : F_Model_exchange m0 p1 = some m9) : CT l ca a y_Model_exchange b_Model_exchange 5 none (RM 0 0) [.ref (a 17), .int p1] m0 none m9 := by
  refine ct_of (own := R_Model) (lv := [some (.ref (a 17)), some (.int p1), none, none, none]) (plainFor_of_name (by decide)) rfl (cat_ok rfl) (Nat.le_of_ble_eq_true rfl) rfl ?_
  unfold F_Model_exchange at hF
  refine ww_aload_0 1 rfl (by decide +kernel) ?_
  refine ww_getr 4 rfl 8 11 19 21 (by decide +kernel) rfl k_Model_19 (by decide) (by decide) rfl rfl (by omega) ?_
  refine ww_iload_1 5 rfl (by decide +kernel) ?_
  obtain ⟨g1, hF⟩ := gd_at hF
  refine ww_iald 6 rfl (by decide +kernel) rfl g1 ?_
  refine ww_nmi (fun v2 ev2 => ?_)
  replace hF := bnd_at hF ev2
  refine ww_istore_2 7 rfl (by decide +kernel) (by decide) ?_
  refine ww_aload_0 8 rfl (by decide +kernel) ?_
  refine ww_getr 11 rfl 8 11 19 21 (by decide +kernel) rfl k_Model_19 (by decide) (by decide) rfl rfl (by omega) ?_
  refine ww_iload_1 12 rfl (by decide +kernel) ?_
  refine ww_aload_0 13 rfl (by decide +kernel) ?_
  refine ww_getr 16 rfl 8 11 19 21 (by decide +kernel) rfl k_Model_19 (by decide) (by decide) rfl rfl (by omega) ?_
  refine ww_iload_1 17 rfl (by decide +kernel) ?_
  refine ww_iconst 18 rfl (1) (1 : Int32) (by decide +kernel) (by decide) ?_
  refine ww_iadd 19 rfl (by decide +kernel) ?_
  obtain ⟨g3, hF⟩ := gd_at hF
  refine ww_iald 20 rfl (by decide +kernel) rfl g3 ?_
  refine ww_iast 21 rfl (by decide +kernel) rfl g1 ?_
  refine ww_nmm (fun m4 em4 => ?_)
  replace hF := bnd_at hF em4
  refine ww_aload_0 22 rfl (by decide +kernel) ?_
  refine ww_getr 25 rfl 8 11 19 21 (by decide +kernel) rfl k_Model_19 (by decide) (by decide) rfl rfl (by omega) ?_
  refine ww_iload_1 26 rfl (by decide +kernel) ?_
  refine ww_iconst 27 rfl (1) (1 : Int32) (by decide +kernel) (by decide) ?_
  refine ww_iadd 28 rfl (by decide +kernel) ?_
  refine ww_iload_2 29 rfl (by decide +kernel) ?_
  refine ww_iast 30 rfl (by decide +kernel) rfl g3 ?_
  refine ww_nmm (fun m5 em5 => ?_)
  replace hF := bnd_at hF em5
  refine ww_iconst 31 rfl (0) (0 : Int32) (by decide +kernel) (by decide) ?_
  refine ww_istore_3 32 rfl (by decide +kernel) (by decide) ?_
  exact B_Model_exchange_32 _ hF
set_option maxHeartbeats 4000000 in
set_option maxRecDepth 100000 in
theorem B_Model_disturb_68 {l : Launch} {ca : Nat → ClassId} {a : Nat → Nat} {m0 : Mem} {l1 : Int32} {l2 : Int32}  {r : Int32} {m9 : Mem}  (hF : F_Model_disturb_68 m0 l1 l2 = some (r, m9)) : WW l b_Model_disturb 3 (some .boolean) R_Model (RM 2 45) ca a (EM ca a (some (.int r)) m9) 68 [some (.ref (a 17)), some (.int l1), some (.int l2)] [] m0 := by
  unfold F_Model_disturb_68 at hF
  refine ww_iload_2 69 rfl (by decide +kernel) ?_
  refine ww_if_ne 72 rfl (11) 80 (by decide +kernel) (by decide) (fun h => ?_) (fun h => ?_)
  · rw [if_neg h] at hF
    refine ww_iload_2 81 rfl (by decide +kernel) ?_
    refine ww_iconst 82 rfl (1) (1 : Int32) (by decide +kernel) (by decide) ?_
    refine ww_icmp_ne 85 rfl (11) 93 (by decide +kernel) (by decide) (fun h => ?_) (fun h => ?_)
    · rw [if_neg h] at hF
      refine ww_iload_2 94 rfl (by decide +kernel) ?_
      refine ww_iconst 95 rfl (2) (2 : Int32) (by decide +kernel) (by decide) ?_
      refine ww_icmp_ne 98 rfl (25) 120 (by decide +kernel) (by decide) (fun h => ?_) (fun h => ?_)
      · rw [if_neg h] at hF
        refine ww_aload_0 121 rfl (by decide +kernel) ?_
        refine ww_getr 124 rfl 8 11 19 21 (by decide +kernel) rfl k_Model_19 (by decide) (by decide) rfl rfl (by omega) ?_
        refine ww_iload_1 125 rfl (by decide +kernel) ?_
        refine ww_dup2 126 rfl (by decide +kernel) rfl rfl ?_
        obtain ⟨g2, hF⟩ := gd_at hF
        refine ww_iald 127 rfl (by decide +kernel) rfl g2 ?_
        refine ww_iconst 128 rfl (1) (1 : Int32) (by decide +kernel) (by decide) ?_
        refine ww_isub 129 rfl (by decide +kernel) ?_
        refine ww_iast 130 rfl (by decide +kernel) rfl g2 ?_
        refine ww_nmm (fun m3 em3 => ?_)
        replace hF := bnd_at hF em3
        refine ww_iconst 131 rfl (1) (1 : Int32) (by decide +kernel) (by decide) ?_
        cases hF
        exact ww_zret (by decide +kernel) rfl (by decide)
      · rw [if_pos h] at hF
        refine ww_aload_0 99 rfl (by decide +kernel) ?_
        refine ww_iload_1 100 rfl (by decide +kernel) ?_
        refine ww_aload_0 101 rfl (by decide +kernel) ?_
        refine ww_geti 104 rfl 8 10 87 (by decide +kernel) rfl k_Model_87 (by decide) (by decide) rfl rfl ?_
        obtain ⟨m5, h4, hF⟩ := rd_at hF
        refine ww_cV2v 107 rfl 8 101 (by decide +kernel) mf_Model_copy k_Model_101 rfl (by decide) rfl ⟨by decide, by decide⟩ ⟨rfl, rfl⟩ (Nat.le_of_ble_eq_true rfl) (C_Model_copy h4) ?_
        refine ww_aload_0 108 rfl (by decide +kernel) ?_
        refine ww_dup 109 rfl (by decide +kernel) rfl ?_
        refine ww_geti 112 rfl 8 10 87 (by decide +kernel) rfl k_Model_87 (by decide) (by decide) rfl rfl ?_
        refine ww_iconst 113 rfl (1) (1 : Int32) (by decide +kernel) (by decide) ?_
        refine ww_iadd 114 rfl (by decide +kernel) ?_
        refine ww_put 117 rfl 8 10 87 (by decide +kernel) rfl k_Model_87 (by decide) (by decide) rfl rfl rfl rfl rfl rfl ?_
        refine ww_nmm (fun m6 em6 => ?_)
        replace hF := bnd_at hF em6
        refine ww_goto (13) 130 (by decide +kernel) (by decide) ?_
        refine ww_iconst 131 rfl (1) (1 : Int32) (by decide +kernel) (by decide) ?_
        cases hF
        exact ww_zret (by decide +kernel) rfl (by decide)
    · rw [if_pos h] at hF
      refine ww_aload_0 86 rfl (by decide +kernel) ?_
      refine ww_iload_1 87 rfl (by decide +kernel) ?_
      obtain ⟨m8, h7, hF⟩ := rd_at hF
      refine ww_cV1v 90 rfl 8 107 (by decide +kernel) mf_Model_exchange k_Model_107 rfl (by decide) rfl ⟨by decide, by decide⟩ ⟨rfl, rfl⟩ (Nat.le_of_ble_eq_true rfl) (C_Model_exchange h7) ?_
      refine ww_goto (40) 130 (by decide +kernel) (by decide) ?_
      refine ww_iconst 131 rfl (1) (1 : Int32) (by decide +kernel) (by decide) ?_
      cases hF
      exact ww_zret (by decide +kernel) rfl (by decide)
  · rw [if_pos h] at hF
    refine ww_aload_0 73 rfl (by decide +kernel) ?_
    refine ww_iload_1 74 rfl (by decide +kernel) ?_
    obtain ⟨m10, h9, hF⟩ := rd_at hF
    refine ww_cV1v 77 rfl 8 104 (by decide +kernel) mf_Model_remove k_Model_104 rfl (by decide) rfl ⟨by decide, by decide⟩ ⟨rfl, rfl⟩ (Nat.le_of_ble_eq_true rfl) (C_Model_remove h9) ?_
    refine ww_goto (53) 130 (by decide +kernel) (by decide) ?_
    refine ww_iconst 131 rfl (1) (1 : Int32) (by decide +kernel) (by decide) ?_
    cases hF
    exact ww_zret (by decide +kernel) rfl (by decide)
set_option maxHeartbeats 4000000 in
set_option maxRecDepth 100000 in
theorem B_Model_disturb_52 {l : Launch} {ca : Nat → ClassId} {a : Nat → Nat} {m0 : Mem} {l1 : Int32} {l2 : Int32}  {r : Int32} {m9 : Mem}  (hF : F_Model_disturb_52 m0 l1 l2 = some (r, m9)) : WW l b_Model_disturb 3 (some .boolean) R_Model (RM 2 45) ca a (EM ca a (some (.int r)) m9) 52 [some (.ref (a 17)), some (.int l1), some (.int l2)] [] m0 := by
  unfold F_Model_disturb_52 at hF
  refine ww_iload_2 53 rfl (by decide +kernel) ?_
  refine ww_iconst 54 rfl (3) (3 : Int32) (by decide +kernel) (by decide) ?_
  refine ww_icmp_ne 57 rfl (14) 68 (by decide +kernel) (by decide) (fun h => ?_) (fun h => ?_)
  · rw [if_neg h] at hF
    exact B_Model_disturb_68 hF
  · rw [if_pos h] at hF
    refine ww_aload_0 58 rfl (by decide +kernel) ?_
    refine ww_getr 61 rfl 8 11 19 21 (by decide +kernel) rfl k_Model_19 (by decide) (by decide) rfl rfl (by omega) ?_
    refine ww_iload_1 62 rfl (by decide +kernel) ?_
    obtain ⟨g1, hF⟩ := gd_at hF
    refine ww_iald 63 rfl (by decide +kernel) rfl g1 ?_
    refine ww_if_ne 66 rfl (5) 68 (by decide +kernel) (by decide) (fun h => ?_) (fun h => ?_)
    · rw [if_neg h] at hF
      exact B_Model_disturb_68 hF
    · rw [if_pos h] at hF
      refine ww_iconst 67 rfl (0) (0 : Int32) (by decide +kernel) (by decide) ?_
      cases hF
      exact ww_zret (by decide +kernel) rfl (by decide)
set_option maxHeartbeats 4000000 in
set_option maxRecDepth 100000 in
theorem B_Model_disturb_38 {l : Launch} {ca : Nat → ClassId} {a : Nat → Nat} {m0 : Mem} {l1 : Int32} {l2 : Int32}  {r : Int32} {m9 : Mem}  (hF : F_Model_disturb_38 m0 l1 l2 = some (r, m9)) : WW l b_Model_disturb 3 (some .boolean) R_Model (RM 2 45) ca a (EM ca a (some (.int r)) m9) 38 [some (.ref (a 17)), some (.int l1), some (.int l2)] [] m0 := by
  unfold F_Model_disturb_38 at hF
  refine ww_iload_2 39 rfl (by decide +kernel) ?_
  refine ww_iconst 40 rfl (2) (2 : Int32) (by decide +kernel) (by decide) ?_
  refine ww_icmp_ne 43 rfl (12) 52 (by decide +kernel) (by decide) (fun h => ?_) (fun h => ?_)
  · rw [if_neg h] at hF
    exact B_Model_disturb_52 hF
  · rw [if_pos h] at hF
    refine ww_aload_0 44 rfl (by decide +kernel) ?_
    refine ww_geti 47 rfl 8 10 87 (by decide +kernel) rfl k_Model_87 (by decide) (by decide) rfl rfl ?_
    refine ww_bipush 49 rfl (8) (8 : Int32) (by decide +kernel) (by decide) ?_
    refine ww_icmp_eq 52 rfl (17) 66 (by decide +kernel) (by decide) (fun h => ?_) (fun h => ?_)
    · rw [if_pos h] at hF
      refine ww_iconst 67 rfl (0) (0 : Int32) (by decide +kernel) (by decide) ?_
      cases hF
      exact ww_zret (by decide +kernel) rfl (by decide)
    · rw [if_neg h] at hF
      exact B_Model_disturb_52 hF
set_option maxHeartbeats 4000000 in
set_option maxRecDepth 100000 in
theorem C_Model_disturb {l : Launch} {ca : Nat → ClassId} {a : Nat → Nat} {m0 : Mem} {p1 : Int32} {p2 : Int32} {r : Int32} {m9 : Mem}  (hF : F_Model_disturb m0 p1 p2 = some (r, m9)) : CT l ca a y_Model_disturb b_Model_disturb 3 (some .boolean) (RM 2 45) [.ref (a 17), .int p1, .int p2] m0 (some (.int r)) m9 := by
  refine ct_of (own := R_Model) (lv := [some (.ref (a 17)), some (.int p1), some (.int p2)]) (plainFor_of_name (by decide)) rfl (cat_ok rfl) (Nat.le_of_ble_eq_true rfl) rfl ?_
  unfold F_Model_disturb at hF
  refine ww_iload_1 1 rfl (by decide +kernel) ?_
  refine ww_if_lt 4 rfl (20) 21 (by decide +kernel) (by decide) (fun h => ?_) (fun h => ?_)
  · rw [if_pos h] at hF
    refine ww_iconst 22 rfl (0) (0 : Int32) (by decide +kernel) (by decide) ?_
    cases hF
    exact ww_zret (by decide +kernel) rfl (by decide)
  · rw [if_neg h] at hF
    refine ww_iload_1 5 rfl (by decide +kernel) ?_
    refine ww_aload_0 6 rfl (by decide +kernel) ?_
    refine ww_geti 9 rfl 8 10 87 (by decide +kernel) rfl k_Model_87 (by decide) (by decide) rfl rfl ?_
    refine ww_icmp_ge 12 rfl (12) 21 (by decide +kernel) (by decide) (fun h => ?_) (fun h => ?_)
    · rw [if_pos h] at hF
      refine ww_iconst 22 rfl (0) (0 : Int32) (by decide +kernel) (by decide) ?_
      cases hF
      exact ww_zret (by decide +kernel) rfl (by decide)
    · rw [if_neg h] at hF
      refine ww_iload_2 13 rfl (by decide +kernel) ?_
      refine ww_if_lt 16 rfl (8) 21 (by decide +kernel) (by decide) (fun h => ?_) (fun h => ?_)
      · rw [if_pos h] at hF
        refine ww_iconst 22 rfl (0) (0 : Int32) (by decide +kernel) (by decide) ?_
        cases hF
        exact ww_zret (by decide +kernel) rfl (by decide)
      · rw [if_neg h] at hF
        refine ww_iload_2 17 rfl (by decide +kernel) ?_
        refine ww_iconst 18 rfl (3) (3 : Int32) (by decide +kernel) (by decide) ?_
        refine ww_icmp_le 21 rfl (5) 23 (by decide +kernel) (by decide) (fun h => ?_) (fun h => ?_)
        · rw [if_pos h] at hF
          refine ww_iload_2 24 rfl (by decide +kernel) ?_
          refine ww_iconst 25 rfl (1) (1 : Int32) (by decide +kernel) (by decide) ?_
          refine ww_icmp_ne 28 rfl (13) 38 (by decide +kernel) (by decide) (fun h => ?_) (fun h => ?_)
          · rw [if_neg h] at hF
            exact B_Model_disturb_38 hF
          · rw [if_pos h] at hF
            refine ww_iload_1 29 rfl (by decide +kernel) ?_
            refine ww_iconst 30 rfl (1) (1 : Int32) (by decide +kernel) (by decide) ?_
            refine ww_iadd 31 rfl (by decide +kernel) ?_
            refine ww_aload_0 32 rfl (by decide +kernel) ?_
            refine ww_geti 35 rfl 8 10 87 (by decide +kernel) rfl k_Model_87 (by decide) (by decide) rfl rfl ?_
            refine ww_icmp_eq 38 rfl (31) 66 (by decide +kernel) (by decide) (fun h => ?_) (fun h => ?_)
            · rw [if_pos h] at hF
              refine ww_iconst 67 rfl (0) (0 : Int32) (by decide +kernel) (by decide) ?_
              cases hF
              exact ww_zret (by decide +kernel) rfl (by decide)
            · rw [if_neg h] at hF
              exact B_Model_disturb_38 hF
        · rw [if_neg h] at hF
          refine ww_iconst 22 rfl (0) (0 : Int32) (by decide +kernel) (by decide) ?_
          cases hF
          exact ww_zret (by decide +kernel) rfl (by decide)
