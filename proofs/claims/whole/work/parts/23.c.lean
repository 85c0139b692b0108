set_option maxHeartbeats 4000000 in
set_option maxRecDepth 100000 in
theorem B_Model_play_107 {l : Launch} {ca : Nat → ClassId} {a : Nat → Nat} {m0 : Mem} {l1 : Int32} {l2 : Int32} {s1 : Int32}  {r : Int32} {m9 : Mem}  (hF : F_Model_play_107 m0 l1 l2 s1 = some (r, m9)) : WW l b_Model_play 3 (some .int) R_Model (RM 4 101) ca a (EM ca a (some (.int r)) m9) 107 [some (.ref (a 17)), some (.int l1), some (.int l2)] [.int s1, .ref (a 17)] m0 := by
  unfold F_Model_play_107 at hF
  refine ww_put 110 rfl 8 14 116 (by decide +kernel) rfl k_Model_116 (by decide) (by decide) rfl rfl rfl rfl rfl rfl ?_
  refine ww_nmm (fun m8 em8 => ?_)
  replace hF := bnd_at hF em8
  refine ww_iload_1 111 rfl (by decide +kernel) ?_
  refine ww_if_lt 114 rfl (12) 123 (by decide +kernel) (by decide) (fun h => ?_) (fun h => ?_)
  · rw [if_pos h] at hF
    refine ww_aload_0 124 rfl (by decide +kernel) ?_
    obtain ⟨m10, h9, hF⟩ := rd_at hF
    refine ww_cV0v 127 rfl 8 175 (by decide +kernel) mf_Model_conceal k_Model_175 rfl (by decide) rfl ⟨by decide, by decide⟩ ⟨rfl, rfl⟩ (Nat.le_of_ble_eq_true rfl) (C_Model_conceal h9) ?_
    refine ww_iload_2 128 rfl (by decide +kernel) ?_
    cases hF
    exact ww_iret (by decide +kernel) rfl
  · rw [if_neg h] at hF
    refine ww_aload_0 115 rfl (by decide +kernel) ?_
    refine ww_iload_1 116 rfl (by decide +kernel) ?_
    refine ww_iload_2 117 rfl (by decide +kernel) ?_
    obtain ⟨m12, h11, hF⟩ := rd_at hF
    refine ww_cV2v 120 rfl 8 172 (by decide +kernel) mf_Model_playPacket k_Model_172 rfl (by decide) rfl ⟨by decide, by decide⟩ ⟨rfl, rfl⟩ (Nat.le_of_ble_eq_true rfl) (C_Model_playPacket h11) ?_
    refine ww_goto (7) 127 (by decide +kernel) (by decide) ?_
    refine ww_iload_2 128 rfl (by decide +kernel) ?_
    cases hF
    exact ww_iret (by decide +kernel) rfl
set_option maxHeartbeats 4000000 in
set_option maxRecDepth 100000 in
theorem B_Model_play_66 {l : Launch} {ca : Nat → ClassId} {a : Nat → Nat} {m0 : Mem} {l1 : Int32} {s0 : Int32} {z2 : Option Value} {r : Int32} {m9 : Mem}  (hF : F_Model_play_66 m0 l1 s0 = some (r, m9)) : WW l b_Model_play 3 (some .int) R_Model (RM 4 101) ca a (EM ca a (some (.int r)) m9) 66 [some (.ref (a 17)), some (.int l1), z2] [.int s0] m0 := by
  unfold F_Model_play_66 at hF
  refine ww_istore_2 67 rfl (by decide +kernel) (by decide) ?_
  refine ww_aload_0 68 rfl (by decide +kernel) ?_
  refine ww_geti 71 rfl 8 3 157 (by decide +kernel) rfl k_Model_157 (by decide) (by decide) rfl rfl ?_
  refine ww_iload_2 72 rfl (by decide +kernel) ?_
  refine ww_iadd 73 rfl (by decide +kernel) ?_
  refine ww_sipush 76 rfl (256) (256 : Int32) (by decide +kernel) (by decide) ?_
  refine ww_icmp_le 79 rfl (6) 82 (by decide +kernel) (by decide) (fun h => ?_) (fun h => ?_)
  · rw [if_pos h] at hF
    refine ww_aload_0 83 rfl (by decide +kernel) ?_
    refine ww_iconst 84 rfl (2) (2 : Int32) (by decide +kernel) (by decide) ?_
    refine ww_put 87 rfl 8 13 124 (by decide +kernel) rfl k_Model_124 (by decide) (by decide) rfl rfl rfl rfl rfl rfl ?_
    refine ww_nmm (fun m7 em7 => ?_)
    replace hF := bnd_at hF em7
    refine ww_aload_0 88 rfl (by decide +kernel) ?_
    refine ww_aload_0 89 rfl (by decide +kernel) ?_
    refine ww_geti 92 rfl 8 14 116 (by decide +kernel) rfl k_Model_116 (by decide) (by decide) rfl rfl ?_
    refine ww_ldc 94 rfl 56 (65535 : Int32) (by decide +kernel) k_Model_56 ?_
    refine ww_icmp_ne 97 rfl (7) 101 (by decide +kernel) (by decide) (fun h => ?_) (fun h => ?_)
    · rw [if_neg h] at hF
      refine ww_aload_0 102 rfl (by decide +kernel) ?_
      refine ww_geti 105 rfl 8 14 116 (by decide +kernel) rfl k_Model_116 (by decide) (by decide) rfl rfl ?_
      refine ww_iconst 106 rfl (1) (1 : Int32) (by decide +kernel) (by decide) ?_
      refine ww_iadd 107 rfl (by decide +kernel) ?_
      exact B_Model_play_107 hF
    · rw [if_pos h] at hF
      refine ww_iconst 98 rfl (0) (0 : Int32) (by decide +kernel) (by decide) ?_
      refine ww_goto (9) 107 (by decide +kernel) (by decide) ?_
      exact B_Model_play_107 hF
  · rw [if_neg h] at hF
    refine ww_bipush 81 rfl (-3) (-3 : Int32) (by decide +kernel) (by decide) ?_
    cases hF
    exact ww_iret (by decide +kernel) rfl
set_option maxHeartbeats 4000000 in
set_option maxRecDepth 100000 in
theorem B_Model_play_29 {l : Launch} {ca : Nat → ClassId} {a : Nat → Nat} {m0 : Mem}  {z1 : Option Value} {z2 : Option Value} {r : Int32} {m9 : Mem}  (hF : F_Model_play_29 m0 = some (r, m9)) : WW l b_Model_play 3 (some .int) R_Model (RM 4 101) ca a (EM ca a (some (.int r)) m9) 29 [some (.ref (a 17)), z1, z2] [] m0 := by
  unfold F_Model_play_29 at hF
  refine ww_aload_0 30 rfl (by decide +kernel) ?_
  refine ww_aload_0 31 rfl (by decide +kernel) ?_
  refine ww_geti 34 rfl 8 14 116 (by decide +kernel) rfl k_Model_116 (by decide) (by decide) rfl rfl ?_
  obtain ⟨r4, h3, hF⟩ := rd_at hF
  refine ww_cV1i 37 rfl 8 133 (by decide +kernel) mf_Model_held k_Model_133 rfl (by decide) rfl ⟨by decide, by decide⟩ ⟨rfl, rfl⟩ (Nat.le_of_ble_eq_true rfl) (C_Model_held h3) ?_
  refine ww_istore_1 38 rfl (by decide +kernel) (by decide) ?_
  refine ww_iload_1 39 rfl (by decide +kernel) ?_
  refine ww_if_lt 42 rfl (11) 50 (by decide +kernel) (by decide) (fun h => ?_) (fun h => ?_)
  · rw [if_pos h] at hF
    refine ww_aload_0 51 rfl (by decide +kernel) ?_
    refine ww_geti 54 rfl 8 19 147 (by decide +kernel) rfl k_Model_147 (by decide) (by decide) rfl rfl ?_
    refine ww_iconst 55 rfl (4) (4 : Int32) (by decide +kernel) (by decide) ?_
    refine ww_icmp_ne 58 rfl (7) 62 (by decide +kernel) (by decide) (fun h => ?_) (fun h => ?_)
    · rw [if_neg h] at hF
      refine ww_aload_0 63 rfl (by decide +kernel) ?_
      refine ww_geti 66 rfl 8 20 160 (by decide +kernel) rfl k_Model_160 (by decide) (by decide) rfl rfl ?_
      exact B_Model_play_66 hF
    · rw [if_pos h] at hF
      refine ww_iconst 59 rfl (0) (0 : Int32) (by decide +kernel) (by decide) ?_
      refine ww_goto (7) 66 (by decide +kernel) (by decide) ?_
      exact B_Model_play_66 hF
  · rw [if_neg h] at hF
    refine ww_aload_0 43 rfl (by decide +kernel) ?_
    refine ww_iload_1 44 rfl (by decide +kernel) ?_
    obtain ⟨r6, h5, hF⟩ := rd_at hF
    refine ww_cV1i 47 rfl 8 121 (by decide +kernel) mf_Model_samplesOf k_Model_121 rfl (by decide) rfl ⟨by decide, by decide⟩ ⟨rfl, rfl⟩ (Nat.le_of_ble_eq_true rfl) (C_Model_samplesOf h5) ?_
    refine ww_goto (19) 66 (by decide +kernel) (by decide) ?_
    exact B_Model_play_66 hF
set_option maxHeartbeats 4000000 in
set_option maxRecDepth 100000 in
theorem C_Model_play {l : Launch} {ca : Nat → ClassId} {a : Nat → Nat} {m0 : Mem}  {r : Int32} {m9 : Mem}  (hF : F_Model_play m0 = some (r, m9)) : CT l ca a y_Model_play b_Model_play 3 (some .int) (RM 4 101) [.ref (a 17)] m0 (some (.int r)) m9 := by
  refine ct_of (own := R_Model) (lv := [some (.ref (a 17)), none, none]) (plainFor_of_name (by decide)) rfl (cat_ok rfl) (Nat.le_of_ble_eq_true rfl) rfl ?_
  unfold F_Model_play at hF
  refine ww_aload_0 1 rfl (by decide +kernel) ?_
  refine ww_geti 4 rfl 8 13 124 (by decide +kernel) rfl k_Model_124 (by decide) (by decide) rfl rfl ?_
  refine ww_if_eq 7 rfl (22) 26 (by decide +kernel) (by decide) (fun h => ?_) (fun h => ?_)
  · rw [if_pos h] at hF
    refine ww_bipush 28 rfl (-2) (-2 : Int32) (by decide +kernel) (by decide) ?_
    cases hF
    exact ww_iret (by decide +kernel) rfl
  · rw [if_neg h] at hF
    refine ww_aload_0 8 rfl (by decide +kernel) ?_
    refine ww_geti 11 rfl 8 13 124 (by decide +kernel) rfl k_Model_124 (by decide) (by decide) rfl rfl ?_
    refine ww_iconst 12 rfl (1) (1 : Int32) (by decide +kernel) (by decide) ?_
    refine ww_icmp_ne 15 rfl (17) 29 (by decide +kernel) (by decide) (fun h => ?_) (fun h => ?_)
    · rw [if_neg h] at hF
      exact B_Model_play_29 hF
    · rw [if_pos h] at hF
      refine ww_aload_0 16 rfl (by decide +kernel) ?_
      obtain ⟨r2, h1, hF⟩ := rd_at hF
      refine ww_cV0i 19 rfl 8 169 (by decide +kernel) mf_Model_buffered k_Model_169 rfl (by decide) rfl ⟨by decide, by decide⟩ ⟨rfl, rfl⟩ (Nat.le_of_ble_eq_true rfl) (C_Model_buffered h1) ?_
      refine ww_aload_0 20 rfl (by decide +kernel) ?_
      refine ww_geti 23 rfl 8 16 25 (by decide +kernel) rfl k_Model_25 (by decide) (by decide) rfl rfl ?_
      refine ww_icmp_ge 26 rfl (6) 29 (by decide +kernel) (by decide) (fun h => ?_) (fun h => ?_)
      · rw [if_pos h] at hF
        exact B_Model_play_29 hF
      · rw [if_neg h] at hF
        refine ww_bipush 28 rfl (-2) (-2 : Int32) (by decide +kernel) (by decide) ?_
        cases hF
        exact ww_iret (by decide +kernel) rfl
set_option maxHeartbeats 4000000 in
set_option maxRecDepth 100000 in
theorem C_Model_output {l : Launch} {ca : Nat → ClassId} {a : Nat → Nat} {m0 : Mem}  {r : Int32}  (hF : F_Model_output m0 = some r) : CT l ca a y_Model_output b_Model_output 1 (some .int) (RM 0 0) [.ref (a 17)] m0 (some (.int r)) m0 := by
  refine ct_of (own := R_Model) (lv := [some (.ref (a 17))]) (plainFor_of_name (by decide)) rfl (cat_ok rfl) (Nat.le_of_ble_eq_true rfl) rfl ?_
  unfold F_Model_output at hF
  refine ww_aload_0 1 rfl (by decide +kernel) ?_
  refine ww_geti 4 rfl 8 3 157 (by decide +kernel) rfl k_Model_157 (by decide) (by decide) rfl rfl ?_
  cases hF
  exact ww_iret (by decide +kernel) rfl
set_option maxHeartbeats 4000000 in
set_option maxRecDepth 100000 in
theorem C_Model_sample {l : Launch} {ca : Nat → ClassId} {a : Nat → Nat} {m0 : Mem} {p1 : Int32} {r : Int32}  (hF : F_Model_sample m0 p1 = some r) : CT l ca a y_Model_sample b_Model_sample 2 (some .int) (RM 0 0) [.ref (a 17), .int p1] m0 (some (.int r)) m0 := by
  refine ct_of (own := R_Model) (lv := [some (.ref (a 17)), some (.int p1)]) (plainFor_of_name (by decide)) rfl (cat_ok rfl) (Nat.le_of_ble_eq_true rfl) rfl ?_
  unfold F_Model_sample at hF
  refine ww_iload_1 1 rfl (by decide +kernel) ?_
  refine ww_if_lt 4 rfl (20) 21 (by decide +kernel) (by decide) (fun h => ?_) (fun h => ?_)
  · rw [if_pos h] at hF
    refine ww_ldc 23 rfl 43 (40000 : Int32) (by decide +kernel) k_Model_43 ?_
    cases hF
    exact ww_iret (by decide +kernel) rfl
  · rw [if_neg h] at hF
    refine ww_iload_1 5 rfl (by decide +kernel) ?_
    refine ww_aload_0 6 rfl (by decide +kernel) ?_
    refine ww_geti 9 rfl 8 3 157 (by decide +kernel) rfl k_Model_157 (by decide) (by decide) rfl rfl ?_
    refine ww_icmp_ge 12 rfl (12) 21 (by decide +kernel) (by decide) (fun h => ?_) (fun h => ?_)
    · rw [if_pos h] at hF
      refine ww_ldc 23 rfl 43 (40000 : Int32) (by decide +kernel) k_Model_43 ?_
      cases hF
      exact ww_iret (by decide +kernel) rfl
    · rw [if_neg h] at hF
      refine ww_aload_0 13 rfl (by decide +kernel) ?_
      refine ww_getr 16 rfl 8 4 16 20 (by decide +kernel) rfl k_Model_16 (by decide) (by decide) rfl rfl (by omega) ?_
      refine ww_iload_1 17 rfl (by decide +kernel) ?_
      obtain ⟨g1, hF⟩ := gd_at hF
      refine ww_iald 18 rfl (by decide +kernel) rfl g1 ?_
      refine ww_goto (5) 23 (by decide +kernel) (by decide) ?_
      cases hF
      exact ww_iret (by decide +kernel) rfl
set_option maxHeartbeats 4000000 in
set_option maxRecDepth 100000 in
theorem B_Model_pass_75 {l : Launch} {ca : Nat → ClassId} {a : Nat → Nat} {r : Int32} {m9 : Mem} (n : Nat) : ∀ {m0 : Mem} {l1 : Int32} {l2 : Int32}   (hF : F_Model_pass_75 n m0 l1 l2 = some (r, m9)), WW l b_Model_pass 3 (some .boolean) R_Model (RM 0 0) ca a (EM ca a (some (.int r)) m9) 75 [some (.ref (a 17)), some (.int l1), some (.int l2)] [] m0 := by
  induction n with
  | zero => intros; rename_i hF; rw [F_Model_pass_75] at hF; cases hF
  | succ n ih =>
    intro m0 l1 l2   hF
    rw [F_Model_pass_75] at hF
    refine ww_iload_2 76 rfl (by decide +kernel) ?_
    refine ww_aload_0 77 rfl (by decide +kernel) ?_
    refine ww_geti 80 rfl 8 3 157 (by decide +kernel) rfl k_Model_157 (by decide) (by decide) rfl rfl ?_
    refine ww_icmp_ge 83 rfl (23) 103 (by decide +kernel) (by decide) (fun h => ?_) (fun h => ?_)
    · rw [if_pos h] at hF
      refine ww_iconst 104 rfl (1) (1 : Int32) (by decide +kernel) (by decide) ?_
      cases hF
      exact ww_zret (by decide +kernel) rfl (by decide)
    · rw [if_neg h] at hF
      refine ww_aload_0 84 rfl (by decide +kernel) ?_
      refine ww_getr 87 rfl 8 4 16 20 (by decide +kernel) rfl k_Model_16 (by decide) (by decide) rfl rfl (by omega) ?_
      refine ww_iload_2 88 rfl (by decide +kernel) ?_
      refine ww_aload_0 89 rfl (by decide +kernel) ?_
      refine ww_getr 92 rfl 8 4 16 20 (by decide +kernel) rfl k_Model_16 (by decide) (by decide) rfl rfl (by omega) ?_
      refine ww_iload_2 93 rfl (by decide +kernel) ?_
      refine ww_iload_1 94 rfl (by decide +kernel) ?_
      refine ww_iadd 95 rfl (by decide +kernel) ?_
      obtain ⟨g6, hF⟩ := gd_at hF
      refine ww_iald 96 rfl (by decide +kernel) rfl g6 ?_
      obtain ⟨g7, hF⟩ := gd_at hF
      refine ww_iast 97 rfl (by decide +kernel) rfl g7 ?_
      refine ww_nmm (fun m8 em8 => ?_)
      replace hF := bnd_at hF em8
      refine ww_iinc_2 100 rfl (1) (1 : Int32) (by decide +kernel) (by decide) (by decide) ?_
      refine ww_goto (-25) 75 (by decide +kernel) (by decide) ?_
      exact ih hF
set_option maxHeartbeats 4000000 in
set_option maxRecDepth 100000 in
theorem B_Model_pass_27 {l : Launch} {ca : Nat → ClassId} {a : Nat → Nat} {r : Int32} {m9 : Mem} (n : Nat) : ∀ {m0 : Mem} {l1 : Int32} {l2 : Int32}   (hF : F_Model_pass_27 n m0 l1 l2 = some (r, m9)), WW l b_Model_pass 3 (some .boolean) R_Model (RM 0 0) ca a (EM ca a (some (.int r)) m9) 27 [some (.ref (a 17)), some (.int l1), some (.int l2)] [] m0 := by
  induction n with
  | zero => intros; rename_i hF; rw [F_Model_pass_27] at hF; cases hF
  | succ n ih =>
    intro m0 l1 l2   hF
    rw [F_Model_pass_27] at hF
    refine ww_iload_2 28 rfl (by decide +kernel) ?_
    refine ww_iload_1 29 rfl (by decide +kernel) ?_
    refine ww_icmp_ge 32 rfl (34) 63 (by decide +kernel) (by decide) (fun h => ?_) (fun h => ?_)
    · rw [if_pos h] at hF
      refine ww_aload_0 64 rfl (by decide +kernel) ?_
      refine ww_dup 65 rfl (by decide +kernel) rfl ?_
      refine ww_geti 68 rfl 8 3 157 (by decide +kernel) rfl k_Model_157 (by decide) (by decide) rfl rfl ?_
      refine ww_iload_1 69 rfl (by decide +kernel) ?_
      refine ww_isub 70 rfl (by decide +kernel) ?_
      refine ww_put 73 rfl 8 3 157 (by decide +kernel) rfl k_Model_157 (by decide) (by decide) rfl rfl rfl rfl rfl rfl ?_
      refine ww_nmm (fun m1 em1 => ?_)
      replace hF := bnd_at hF em1
      refine ww_iconst 74 rfl (0) (0 : Int32) (by decide +kernel) (by decide) ?_
      refine ww_istore_2 75 rfl (by decide +kernel) (by decide) ?_
      exact B_Model_pass_75 _ hF
    · rw [if_neg h] at hF
      refine ww_aload_0 33 rfl (by decide +kernel) ?_
      refine ww_getr 36 rfl 8 2 13 19 (by decide +kernel) rfl k_Model_13 (by decide) (by decide) rfl rfl (by omega) ?_
      refine ww_aload_0 37 rfl (by decide +kernel) ?_
      refine ww_geti 40 rfl 8 1 53 (by decide +kernel) rfl k_Model_53 (by decide) (by decide) rfl rfl ?_
      refine ww_aload_0 41 rfl (by decide +kernel) ?_
      refine ww_getr 44 rfl 8 4 16 20 (by decide +kernel) rfl k_Model_16 (by decide) (by decide) rfl rfl (by omega) ?_
      refine ww_iload_2 45 rfl (by decide +kernel) ?_
      obtain ⟨g2, hF⟩ := gd_at hF
      refine ww_iald 46 rfl (by decide +kernel) rfl g2 ?_
      obtain ⟨g3, hF⟩ := gd_at hF
      refine ww_iast 47 rfl (by decide +kernel) rfl g3 ?_
      refine ww_nmm (fun m4 em4 => ?_)
      replace hF := bnd_at hF em4
      refine ww_aload_0 48 rfl (by decide +kernel) ?_
      refine ww_dup 49 rfl (by decide +kernel) rfl ?_
      refine ww_geti 52 rfl 8 1 53 (by decide +kernel) rfl k_Model_53 (by decide) (by decide) rfl rfl ?_
      refine ww_iconst 53 rfl (1) (1 : Int32) (by decide +kernel) (by decide) ?_
      refine ww_iadd 54 rfl (by decide +kernel) ?_
      refine ww_put 57 rfl 8 1 53 (by decide +kernel) rfl k_Model_53 (by decide) (by decide) rfl rfl rfl rfl rfl rfl ?_
      refine ww_nmm (fun m5 em5 => ?_)
      replace hF := bnd_at hF em5
      refine ww_iinc_2 60 rfl (1) (1 : Int32) (by decide +kernel) (by decide) (by decide) ?_
      refine ww_goto (-33) 27 (by decide +kernel) (by decide) ?_
      exact ih hF
set_option maxHeartbeats 4000000 in
set_option maxRecDepth 100000 in
theorem C_Model_pass {l : Launch} {ca : Nat → ClassId} {a : Nat → Nat} {m0 : Mem} {p1 : Int32} {r : Int32} {m9 : Mem}  (hF : F_Model_pass m0 p1 = some (r, m9)) : CT l ca a y_Model_pass b_Model_pass 3 (some .boolean) (RM 0 0) [.ref (a 17), .int p1] m0 (some (.int r)) m9 := by
  refine ct_of (own := R_Model) (lv := [some (.ref (a 17)), some (.int p1), none]) (plainFor_of_name (by decide)) rfl (cat_ok rfl) (Nat.le_of_ble_eq_true rfl) rfl ?_
  unfold F_Model_pass at hF
  refine ww_iload_1 1 rfl (by decide +kernel) ?_
  refine ww_if_lt 4 rfl (22) 23 (by decide +kernel) (by decide) (fun h => ?_) (fun h => ?_)
  · rw [if_pos h] at hF
    refine ww_iconst 24 rfl (0) (0 : Int32) (by decide +kernel) (by decide) ?_
    cases hF
    exact ww_zret (by decide +kernel) rfl (by decide)
  · rw [if_neg h] at hF
    refine ww_iload_1 5 rfl (by decide +kernel) ?_
    refine ww_aload_0 6 rfl (by decide +kernel) ?_
    refine ww_geti 9 rfl 8 3 157 (by decide +kernel) rfl k_Model_157 (by decide) (by decide) rfl rfl ?_
    refine ww_icmp_gt 12 rfl (14) 23 (by decide +kernel) (by decide) (fun h => ?_) (fun h => ?_)
    · rw [if_pos h] at hF
      refine ww_iconst 24 rfl (0) (0 : Int32) (by decide +kernel) (by decide) ?_
      cases hF
      exact ww_zret (by decide +kernel) rfl (by decide)
    · rw [if_neg h] at hF
      refine ww_aload_0 13 rfl (by decide +kernel) ?_
      refine ww_geti 16 rfl 8 1 53 (by decide +kernel) rfl k_Model_53 (by decide) (by decide) rfl rfl ?_
      refine ww_iload_1 17 rfl (by decide +kernel) ?_
      refine ww_iadd 18 rfl (by decide +kernel) ?_
      refine ww_bipush 20 rfl (64) (64 : Int32) (by decide +kernel) (by decide) ?_
      refine ww_icmp_le 23 rfl (5) 25 (by decide +kernel) (by decide) (fun h => ?_) (fun h => ?_)
      · rw [if_pos h] at hF
        refine ww_iconst 26 rfl (0) (0 : Int32) (by decide +kernel) (by decide) ?_
        refine ww_istore_2 27 rfl (by decide +kernel) (by decide) ?_
        exact B_Model_pass_27 _ hF
      · rw [if_neg h] at hF
        refine ww_iconst 24 rfl (0) (0 : Int32) (by decide +kernel) (by decide) ?_
        cases hF
        exact ww_zret (by decide +kernel) rfl (by decide)
set_option maxHeartbeats 4000000 in
set_option maxRecDepth 100000 in
theorem C_Model_figure {l : Launch} {ca : Nat → ClassId} {a : Nat → Nat} {m0 : Mem} {p1 : Int32} {r : Int32}  (hF : F_Model_figure m0 p1 = some r) : CT l ca a y_Model_figure b_Model_figure 2 (some .int) (RM 1 22) [.ref (a 17), .int p1] m0 (some (.int r)) m0 := by
  refine ct_of (own := R_Model) (lv := [some (.ref (a 17)), some (.int p1)]) (plainFor_of_name (by decide)) rfl (cat_ok rfl) (Nat.le_of_ble_eq_true rfl) rfl ?_
  unfold F_Model_figure at hF
  refine ww_iload_1 1 rfl (by decide +kernel) ?_
  by_cases h0 : p1 = (0 : Int32)
  · rw [if_pos h0] at hF
    refine ww_swIn (108) (0) (12) #[67, 72, 77, 108, 108, 108, 108, 108, 108, 108, 93, 98, 103] 67 (0 : Int32) (67) 68 (by decide +kernel) h0 (by decide) (by decide) (by decide) (by decide) ?_
    refine ww_aload_0 69 rfl (by decide +kernel) ?_
    refine ww_geti 72 rfl 8 13 124 (by decide +kernel) rfl k_Model_124 (by decide) (by decide) rfl rfl ?_
    cases hF
    exact ww_iret (by decide +kernel) rfl
  · rw [if_neg h0] at hF
    by_cases h1 : p1 = (1 : Int32)
    · rw [if_pos h1] at hF
      refine ww_swIn (108) (0) (12) #[67, 72, 77, 108, 108, 108, 108, 108, 108, 108, 93, 98, 103] 67 (1 : Int32) (72) 73 (by decide +kernel) h1 (by decide) (by decide) (by decide) (by decide) ?_
      refine ww_aload_0 74 rfl (by decide +kernel) ?_
      obtain ⟨r10, h9, hF⟩ := rd_at hF
      refine ww_cV0i 77 rfl 8 169 (by decide +kernel) mf_Model_buffered k_Model_169 rfl (by decide) rfl ⟨by decide, by decide⟩ ⟨rfl, rfl⟩ (Nat.le_of_ble_eq_true rfl) (C_Model_buffered h9) ?_
      cases hF
      exact ww_iret (by decide +kernel) rfl
    · rw [if_neg h1] at hF
      by_cases h2 : p1 = (2 : Int32)
      · rw [if_pos h2] at hF
        refine ww_swIn (108) (0) (12) #[67, 72, 77, 108, 108, 108, 108, 108, 108, 108, 93, 98, 103] 67 (2 : Int32) (77) 78 (by decide +kernel) h2 (by decide) (by decide) (by decide) (by decide) ?_
        refine ww_aload_0 79 rfl (by decide +kernel) ?_
        refine ww_geti 82 rfl 8 13 124 (by decide +kernel) rfl k_Model_124 (by decide) (by decide) rfl rfl ?_
        refine ww_if_ne 85 rfl (7) 89 (by decide +kernel) (by decide) (fun h => ?_) (fun h => ?_)
        · rw [if_neg h] at hF
          refine ww_aload_0 90 rfl (by decide +kernel) ?_
          refine ww_geti 93 rfl 8 14 116 (by decide +kernel) rfl k_Model_116 (by decide) (by decide) rfl rfl ?_
          cases hF
          exact ww_iret (by decide +kernel) rfl
        · rw [if_pos h] at hF
          refine ww_iconst 86 rfl (-1) (-1 : Int32) (by decide +kernel) (by decide) ?_
          refine ww_goto (7) 93 (by decide +kernel) (by decide) ?_
          cases hF
          exact ww_iret (by decide +kernel) rfl
      · rw [if_neg h2] at hF
        by_cases h3 : p1 = (3 : Int32)
        · rw [if_pos h3] at hF
          refine ww_swIn (108) (0) (12) #[67, 72, 77, 108, 108, 108, 108, 108, 108, 108, 93, 98, 103] 67 (3 : Int32) (108) 109 (by decide +kernel) h3 (by decide) (by decide) (by decide) (by decide) ?_
          refine ww_iload_1 110 rfl (by decide +kernel) ?_
          refine ww_iconst 111 rfl (3) (3 : Int32) (by decide +kernel) (by decide) ?_
          refine ww_icmp_lt 114 rfl (18) 129 (by decide +kernel) (by decide) (fun h => ?_) (fun h => ?_)
          · rw [if_pos h] at hF
            refine ww_iconst 130 rfl (-1) (-1 : Int32) (by decide +kernel) (by decide) ?_
            cases hF
            exact ww_iret (by decide +kernel) rfl
          · rw [if_neg h] at hF
            refine ww_iload_1 115 rfl (by decide +kernel) ?_
            refine ww_bipush 117 rfl (9) (9 : Int32) (by decide +kernel) (by decide) ?_
            refine ww_icmp_gt 120 rfl (12) 129 (by decide +kernel) (by decide) (fun h => ?_) (fun h => ?_)
            · rw [if_pos h] at hF
              refine ww_iconst 130 rfl (-1) (-1 : Int32) (by decide +kernel) (by decide) ?_
              cases hF
              exact ww_iret (by decide +kernel) rfl
            · rw [if_neg h] at hF
              refine ww_aload_0 121 rfl (by decide +kernel) ?_
              refine ww_getr 124 rfl 8 22 32 24 (by decide +kernel) rfl k_Model_32 (by decide) (by decide) rfl rfl (by omega) ?_
              refine ww_iload_1 125 rfl (by decide +kernel) ?_
              obtain ⟨g8, hF⟩ := gd_at hF
              refine ww_iald 126 rfl (by decide +kernel) rfl g8 ?_
              refine ww_goto (4) 130 (by decide +kernel) (by decide) ?_
              cases hF
              exact ww_iret (by decide +kernel) rfl
        · rw [if_neg h3] at hF
          by_cases h4 : p1 = (4 : Int32)
          · rw [if_pos h4] at hF
            refine ww_swIn (108) (0) (12) #[67, 72, 77, 108, 108, 108, 108, 108, 108, 108, 93, 98, 103] 67 (4 : Int32) (108) 109 (by decide +kernel) h4 (by decide) (by decide) (by decide) (by decide) ?_
            refine ww_iload_1 110 rfl (by decide +kernel) ?_
            refine ww_iconst 111 rfl (3) (3 : Int32) (by decide +kernel) (by decide) ?_
            refine ww_icmp_lt 114 rfl (18) 129 (by decide +kernel) (by decide) (fun h => ?_) (fun h => ?_)
            · rw [if_pos h] at hF
              refine ww_iconst 130 rfl (-1) (-1 : Int32) (by decide +kernel) (by decide) ?_
              cases hF
              exact ww_iret (by decide +kernel) rfl
            · rw [if_neg h] at hF
              refine ww_iload_1 115 rfl (by decide +kernel) ?_
              refine ww_bipush 117 rfl (9) (9 : Int32) (by decide +kernel) (by decide) ?_
              refine ww_icmp_gt 120 rfl (12) 129 (by decide +kernel) (by decide) (fun h => ?_) (fun h => ?_)
              · rw [if_pos h] at hF
                refine ww_iconst 130 rfl (-1) (-1 : Int32) (by decide +kernel) (by decide) ?_
                cases hF
                exact ww_iret (by decide +kernel) rfl
              · rw [if_neg h] at hF
                refine ww_aload_0 121 rfl (by decide +kernel) ?_
                refine ww_getr 124 rfl 8 22 32 24 (by decide +kernel) rfl k_Model_32 (by decide) (by decide) rfl rfl (by omega) ?_
                refine ww_iload_1 125 rfl (by decide +kernel) ?_
                obtain ⟨g7, hF⟩ := gd_at hF
                refine ww_iald 126 rfl (by decide +kernel) rfl g7 ?_
                refine ww_goto (4) 130 (by decide +kernel) (by decide) ?_
                cases hF
                exact ww_iret (by decide +kernel) rfl
          · rw [if_neg h4] at hF
            by_cases h5 : p1 = (5 : Int32)
            · rw [if_pos h5] at hF
              refine ww_swIn (108) (0) (12) #[67, 72, 77, 108, 108, 108, 108, 108, 108, 108, 93, 98, 103] 67 (5 : Int32) (108) 109 (by decide +kernel) h5 (by decide) (by decide) (by decide) (by decide) ?_
              refine ww_iload_1 110 rfl (by decide +kernel) ?_
              refine ww_iconst 111 rfl (3) (3 : Int32) (by decide +kernel) (by decide) ?_
              refine ww_icmp_lt 114 rfl (18) 129 (by decide +kernel) (by decide) (fun h => ?_) (fun h => ?_)
              · rw [if_pos h] at hF
                refine ww_iconst 130 rfl (-1) (-1 : Int32) (by decide +kernel) (by decide) ?_
                cases hF
                exact ww_iret (by decide +kernel) rfl
              · rw [if_neg h] at hF
                refine ww_iload_1 115 rfl (by decide +kernel) ?_
                refine ww_bipush 117 rfl (9) (9 : Int32) (by decide +kernel) (by decide) ?_
                refine ww_icmp_gt 120 rfl (12) 129 (by decide +kernel) (by decide) (fun h => ?_) (fun h => ?_)
                · rw [if_pos h] at hF
                  refine ww_iconst 130 rfl (-1) (-1 : Int32) (by decide +kernel) (by decide) ?_
                  cases hF
                  exact ww_iret (by decide +kernel) rfl
                · rw [if_neg h] at hF
                  refine ww_aload_0 121 rfl (by decide +kernel) ?_
                  refine ww_getr 124 rfl 8 22 32 24 (by decide +kernel) rfl k_Model_32 (by decide) (by decide) rfl rfl (by omega) ?_
                  refine ww_iload_1 125 rfl (by decide +kernel) ?_
                  obtain ⟨g6, hF⟩ := gd_at hF
                  refine ww_iald 126 rfl (by decide +kernel) rfl g6 ?_
                  refine ww_goto (4) 130 (by decide +kernel) (by decide) ?_
                  cases hF
                  exact ww_iret (by decide +kernel) rfl
            · rw [if_neg h5] at hF
              by_cases h6 : p1 = (6 : Int32)
              · rw [if_pos h6] at hF
                refine ww_swIn (108) (0) (12) #[67, 72, 77, 108, 108, 108, 108, 108, 108, 108, 93, 98, 103] 67 (6 : Int32) (108) 109 (by decide +kernel) h6 (by decide) (by decide) (by decide) (by decide) ?_
                refine ww_iload_1 110 rfl (by decide +kernel) ?_
                refine ww_iconst 111 rfl (3) (3 : Int32) (by decide +kernel) (by decide) ?_
                refine ww_icmp_lt 114 rfl (18) 129 (by decide +kernel) (by decide) (fun h => ?_) (fun h => ?_)
                · rw [if_pos h] at hF
                  refine ww_iconst 130 rfl (-1) (-1 : Int32) (by decide +kernel) (by decide) ?_
                  cases hF
                  exact ww_iret (by decide +kernel) rfl
                · rw [if_neg h] at hF
                  refine ww_iload_1 115 rfl (by decide +kernel) ?_
                  refine ww_bipush 117 rfl (9) (9 : Int32) (by decide +kernel) (by decide) ?_
                  refine ww_icmp_gt 120 rfl (12) 129 (by decide +kernel) (by decide) (fun h => ?_) (fun h => ?_)
                  · rw [if_pos h] at hF
                    refine ww_iconst 130 rfl (-1) (-1 : Int32) (by decide +kernel) (by decide) ?_
                    cases hF
                    exact ww_iret (by decide +kernel) rfl
                  · rw [if_neg h] at hF
                    refine ww_aload_0 121 rfl (by decide +kernel) ?_
                    refine ww_getr 124 rfl 8 22 32 24 (by decide +kernel) rfl k_Model_32 (by decide) (by decide) rfl rfl (by omega) ?_
                    refine ww_iload_1 125 rfl (by decide +kernel) ?_
                    obtain ⟨g5, hF⟩ := gd_at hF
                    refine ww_iald 126 rfl (by decide +kernel) rfl g5 ?_
                    refine ww_goto (4) 130 (by decide +kernel) (by decide) ?_
                    cases hF
                    exact ww_iret (by decide +kernel) rfl
              · rw [if_neg h6] at hF
                by_cases h7 : p1 = (7 : Int32)
                · rw [if_pos h7] at hF
                  refine ww_swIn (108) (0) (12) #[67, 72, 77, 108, 108, 108, 108, 108, 108, 108, 93, 98, 103] 67 (7 : Int32) (108) 109 (by decide +kernel) h7 (by decide) (by decide) (by decide) (by decide) ?_
                  refine ww_iload_1 110 rfl (by decide +kernel) ?_
                  refine ww_iconst 111 rfl (3) (3 : Int32) (by decide +kernel) (by decide) ?_
                  refine ww_icmp_lt 114 rfl (18) 129 (by decide +kernel) (by decide) (fun h => ?_) (fun h => ?_)
                  · rw [if_pos h] at hF
                    refine ww_iconst 130 rfl (-1) (-1 : Int32) (by decide +kernel) (by decide) ?_
                    cases hF
                    exact ww_iret (by decide +kernel) rfl
                  · rw [if_neg h] at hF
                    refine ww_iload_1 115 rfl (by decide +kernel) ?_
                    refine ww_bipush 117 rfl (9) (9 : Int32) (by decide +kernel) (by decide) ?_
                    refine ww_icmp_gt 120 rfl (12) 129 (by decide +kernel) (by decide) (fun h => ?_) (fun h => ?_)
                    · rw [if_pos h] at hF
                      refine ww_iconst 130 rfl (-1) (-1 : Int32) (by decide +kernel) (by decide) ?_
                      cases hF
                      exact ww_iret (by decide +kernel) rfl
                    · rw [if_neg h] at hF
                      refine ww_aload_0 121 rfl (by decide +kernel) ?_
                      refine ww_getr 124 rfl 8 22 32 24 (by decide +kernel) rfl k_Model_32 (by decide) (by decide) rfl rfl (by omega) ?_
                      refine ww_iload_1 125 rfl (by decide +kernel) ?_
                      obtain ⟨g4, hF⟩ := gd_at hF
                      refine ww_iald 126 rfl (by decide +kernel) rfl g4 ?_
                      refine ww_goto (4) 130 (by decide +kernel) (by decide) ?_
                      cases hF
                      exact ww_iret (by decide +kernel) rfl
                · rw [if_neg h7] at hF
                  by_cases h8 : p1 = (8 : Int32)
                  · rw [if_pos h8] at hF
                    refine ww_swIn (108) (0) (12) #[67, 72, 77, 108, 108, 108, 108, 108, 108, 108, 93, 98, 103] 67 (8 : Int32) (108) 109 (by decide +kernel) h8 (by decide) (by decide) (by decide) (by decide) ?_
                    refine ww_iload_1 110 rfl (by decide +kernel) ?_
                    refine ww_iconst 111 rfl (3) (3 : Int32) (by decide +kernel) (by decide) ?_
                    refine ww_icmp_lt 114 rfl (18) 129 (by decide +kernel) (by decide) (fun h => ?_) (fun h => ?_)
                    · rw [if_pos h] at hF
                      refine ww_iconst 130 rfl (-1) (-1 : Int32) (by decide +kernel) (by decide) ?_
                      cases hF
                      exact ww_iret (by decide +kernel) rfl
                    · rw [if_neg h] at hF
                      refine ww_iload_1 115 rfl (by decide +kernel) ?_
                      refine ww_bipush 117 rfl (9) (9 : Int32) (by decide +kernel) (by decide) ?_
                      refine ww_icmp_gt 120 rfl (12) 129 (by decide +kernel) (by decide) (fun h => ?_) (fun h => ?_)
                      · rw [if_pos h] at hF
                        refine ww_iconst 130 rfl (-1) (-1 : Int32) (by decide +kernel) (by decide) ?_
                        cases hF
                        exact ww_iret (by decide +kernel) rfl
                      · rw [if_neg h] at hF
                        refine ww_aload_0 121 rfl (by decide +kernel) ?_
                        refine ww_getr 124 rfl 8 22 32 24 (by decide +kernel) rfl k_Model_32 (by decide) (by decide) rfl rfl (by omega) ?_
                        refine ww_iload_1 125 rfl (by decide +kernel) ?_
                        obtain ⟨g3, hF⟩ := gd_at hF
                        refine ww_iald 126 rfl (by decide +kernel) rfl g3 ?_
                        refine ww_goto (4) 130 (by decide +kernel) (by decide) ?_
                        cases hF
                        exact ww_iret (by decide +kernel) rfl
                  · rw [if_neg h8] at hF
                    by_cases h9 : p1 = (9 : Int32)
                    · rw [if_pos h9] at hF
                      refine ww_swIn (108) (0) (12) #[67, 72, 77, 108, 108, 108, 108, 108, 108, 108, 93, 98, 103] 67 (9 : Int32) (108) 109 (by decide +kernel) h9 (by decide) (by decide) (by decide) (by decide) ?_
                      refine ww_iload_1 110 rfl (by decide +kernel) ?_
                      refine ww_iconst 111 rfl (3) (3 : Int32) (by decide +kernel) (by decide) ?_
                      refine ww_icmp_lt 114 rfl (18) 129 (by decide +kernel) (by decide) (fun h => ?_) (fun h => ?_)
                      · rw [if_pos h] at hF
                        refine ww_iconst 130 rfl (-1) (-1 : Int32) (by decide +kernel) (by decide) ?_
                        cases hF
                        exact ww_iret (by decide +kernel) rfl
                      · rw [if_neg h] at hF
                        refine ww_iload_1 115 rfl (by decide +kernel) ?_
                        refine ww_bipush 117 rfl (9) (9 : Int32) (by decide +kernel) (by decide) ?_
                        refine ww_icmp_gt 120 rfl (12) 129 (by decide +kernel) (by decide) (fun h => ?_) (fun h => ?_)
                        · rw [if_pos h] at hF
                          refine ww_iconst 130 rfl (-1) (-1 : Int32) (by decide +kernel) (by decide) ?_
                          cases hF
                          exact ww_iret (by decide +kernel) rfl
                        · rw [if_neg h] at hF
                          refine ww_aload_0 121 rfl (by decide +kernel) ?_
                          refine ww_getr 124 rfl 8 22 32 24 (by decide +kernel) rfl k_Model_32 (by decide) (by decide) rfl rfl (by omega) ?_
                          refine ww_iload_1 125 rfl (by decide +kernel) ?_
                          obtain ⟨g2, hF⟩ := gd_at hF
                          refine ww_iald 126 rfl (by decide +kernel) rfl g2 ?_
                          refine ww_goto (4) 130 (by decide +kernel) (by decide) ?_
                          cases hF
                          exact ww_iret (by decide +kernel) rfl
                    · rw [if_neg h9] at hF
                      by_cases h10 : p1 = (10 : Int32)
                      · rw [if_pos h10] at hF
                        refine ww_swIn (108) (0) (12) #[67, 72, 77, 108, 108, 108, 108, 108, 108, 108, 93, 98, 103] 67 (10 : Int32) (93) 94 (by decide +kernel) h10 (by decide) (by decide) (by decide) (by decide) ?_
                        refine ww_aload_0 95 rfl (by decide +kernel) ?_
                        refine ww_geti 98 rfl 8 8 70 (by decide +kernel) rfl k_Model_70 (by decide) (by decide) rfl rfl ?_
                        cases hF
                        exact ww_iret (by decide +kernel) rfl
                      · rw [if_neg h10] at hF
                        by_cases h11 : p1 = (11 : Int32)
                        · rw [if_pos h11] at hF
                          refine ww_swIn (108) (0) (12) #[67, 72, 77, 108, 108, 108, 108, 108, 108, 108, 93, 98, 103] 67 (11 : Int32) (98) 99 (by decide +kernel) h11 (by decide) (by decide) (by decide) (by decide) ?_
                          refine ww_aload_0 100 rfl (by decide +kernel) ?_
                          refine ww_geti 103 rfl 8 9 73 (by decide +kernel) rfl k_Model_73 (by decide) (by decide) rfl rfl ?_
                          cases hF
                          exact ww_iret (by decide +kernel) rfl
                        · rw [if_neg h11] at hF
                          by_cases h12 : p1 = (12 : Int32)
                          · rw [if_pos h12] at hF
                            refine ww_swIn (108) (0) (12) #[67, 72, 77, 108, 108, 108, 108, 108, 108, 108, 93, 98, 103] 67 (12 : Int32) (103) 104 (by decide +kernel) h12 (by decide) (by decide) (by decide) (by decide) ?_
                            refine ww_aload_0 105 rfl (by decide +kernel) ?_
                            refine ww_geti 108 rfl 8 5 57 (by decide +kernel) rfl k_Model_57 (by decide) (by decide) rfl rfl ?_
                            cases hF
                            exact ww_iret (by decide +kernel) rfl
                          · rw [if_neg h12] at hF
                            refine ww_swOut (108) (0) (12) #[67, 72, 77, 108, 108, 108, 108, 108, 108, 108, 93, 98, 103] 67 109 (by decide +kernel) ?_ (by decide) ?_
                            · have := sw_ne h0 (n := 0) (by decide)
                              have := sw_ne h1 (n := 1) (by decide)
                              have := sw_ne h2 (n := 2) (by decide)
                              have := sw_ne h3 (n := 3) (by decide)
                              have := sw_ne h4 (n := 4) (by decide)
                              have := sw_ne h5 (n := 5) (by decide)
                              have := sw_ne h6 (n := 6) (by decide)
                              have := sw_ne h7 (n := 7) (by decide)
                              have := sw_ne h8 (n := 8) (by decide)
                              have := sw_ne h9 (n := 9) (by decide)
                              have := sw_ne h10 (n := 10) (by decide)
                              have := sw_ne h11 (n := 11) (by decide)
                              have := sw_ne h12 (n := 12) (by decide)
                              omega
                            · refine ww_iload_1 110 rfl (by decide +kernel) ?_
                              refine ww_iconst 111 rfl (3) (3 : Int32) (by decide +kernel) (by decide) ?_
                              refine ww_icmp_lt 114 rfl (18) 129 (by decide +kernel) (by decide) (fun h => ?_) (fun h => ?_)
                              · rw [if_pos h] at hF
                                refine ww_iconst 130 rfl (-1) (-1 : Int32) (by decide +kernel) (by decide) ?_
                                cases hF
                                exact ww_iret (by decide +kernel) rfl
                              · rw [if_neg h] at hF
                                refine ww_iload_1 115 rfl (by decide +kernel) ?_
                                refine ww_bipush 117 rfl (9) (9 : Int32) (by decide +kernel) (by decide) ?_
                                refine ww_icmp_gt 120 rfl (12) 129 (by decide +kernel) (by decide) (fun h => ?_) (fun h => ?_)
                                · rw [if_pos h] at hF
                                  refine ww_iconst 130 rfl (-1) (-1 : Int32) (by decide +kernel) (by decide) ?_
                                  cases hF
                                  exact ww_iret (by decide +kernel) rfl
                                · rw [if_neg h] at hF
                                  refine ww_aload_0 121 rfl (by decide +kernel) ?_
                                  refine ww_getr 124 rfl 8 22 32 24 (by decide +kernel) rfl k_Model_32 (by decide) (by decide) rfl rfl (by omega) ?_
                                  refine ww_iload_1 125 rfl (by decide +kernel) ?_
                                  obtain ⟨g1, hF⟩ := gd_at hF
                                  refine ww_iald 126 rfl (by decide +kernel) rfl g1 ?_
                                  refine ww_goto (4) 130 (by decide +kernel) (by decide) ?_
                                  cases hF
                                  exact ww_iret (by decide +kernel) rfl
