set_option maxHeartbeats 4000000 in
set_option maxRecDepth 100000 in
theorem B_Model_samples_63 {l : Launch} {ca : Nat → ClassId} {a : Nat → Nat} {m9 : Mem} (n : Nat) : ∀ {m0 : Mem} {l1 : Int32} {l2 : Int32} {l3 : Int32} {l4 : Int32} {l5 : Int32} {z6 : Option Value} {z7 : Option Value}  (hF : F_Model_samples_63 n m0 l1 l2 l3 l4 l5 = some m9), WW l b_Model_samples 8 none R_Model (RM 2 50) ca a (EM ca a none m9) 63 [some (.ref (a 17)), some (.int l1), some (.int l2), some (.int l3), some (.int l4), some (.int l5), z6, z7] [] m0 := by
  induction n with
  | zero => intros; rename_i hF; rw [F_Model_samples_63] at hF; cases hF
  | succ n ih =>
    intro m0 l1 l2 l3 l4 l5 z6 z7  hF
    rw [F_Model_samples_63] at hF
    refine ww_iload_5 65 rfl (by decide +kernel) ?_
    refine ww_iload_3 66 rfl (by decide +kernel) ?_
    refine ww_icmp_ge 69 rfl (106) 172 (by decide +kernel) (by decide) (fun h => ?_) (fun h => ?_)
    · rw [if_pos h] at hF
      refine ww_aload_0 173 rfl (by decide +kernel) ?_
      refine ww_aload_0 174 rfl (by decide +kernel) ?_
      refine ww_geti 177 rfl 8 23 50 (by decide +kernel) rfl k_Model_50 (by decide) (by decide) rfl rfl ?_
      refine ww_put 180 rfl 8 8 70 (by decide +kernel) rfl k_Model_70 (by decide) (by decide) rfl rfl rfl rfl rfl rfl ?_
      refine ww_nmm (fun m11 em11 => ?_)
      replace hF := bnd_at hF em11
      refine ww_aload_0 181 rfl (by decide +kernel) ?_
      refine ww_aload_0 182 rfl (by decide +kernel) ?_
      refine ww_geti 185 rfl 8 24 47 (by decide +kernel) rfl k_Model_47 (by decide) (by decide) rfl rfl ?_
      refine ww_put 188 rfl 8 9 73 (by decide +kernel) rfl k_Model_73 (by decide) (by decide) rfl rfl rfl rfl rfl rfl ?_
      refine ww_nmm (fun m12 em12 => ?_)
      replace hF := bnd_at hF em12
      cases hF
      exact ww_vret (by decide +kernel) rfl
    · rw [if_neg h] at hF
      refine ww_aload_0 70 rfl (by decide +kernel) ?_
      refine ww_getr 73 rfl 8 2 13 19 (by decide +kernel) rfl k_Model_13 (by decide) (by decide) rfl rfl (by omega) ?_
      refine ww_iload_5 75 rfl (by decide +kernel) ?_
      obtain ⟨g13, hF⟩ := gd_at hF
      refine ww_iald 76 rfl (by decide +kernel) rfl g13 ?_
      refine ww_nmi (fun v14 ev14 => ?_)
      replace hF := bnd_at hF ev14
      refine ww_istore_6 78 rfl (by decide +kernel) (by decide) ?_
      refine ww_iload_2 79 rfl (by decide +kernel) ?_
      refine ww_iconst 80 rfl (2) (2 : Int32) (by decide +kernel) (by decide) ?_
      refine ww_icmp_ge 83 rfl (22) 102 (by decide +kernel) (by decide) (fun h => ?_) (fun h => ?_)
      · rw [if_pos h] at hF
        refine ww_iload_2 103 rfl (by decide +kernel) ?_
        refine ww_iconst 104 rfl (3) (3 : Int32) (by decide +kernel) (by decide) ?_
        refine ww_icmp_ne 107 rfl (23) 127 (by decide +kernel) (by decide) (fun h => ?_) (fun h => ?_)
        · rw [if_neg h] at hF
          refine ww_aload_0 128 rfl (by decide +kernel) ?_
          refine ww_iload_6 130 rfl (by decide +kernel) ?_
          obtain ⟨r16, h15, hF⟩ := rd_at hF
          refine ww_cV1i 133 rfl 8 79 (by decide +kernel) mf_Model_codeOf k_Model_79 rfl (by decide) rfl ⟨by decide, by decide⟩ ⟨rfl, rfl⟩ (Nat.le_of_ble_eq_true rfl) (C_Model_codeOf h15) ?_
          refine ww_istore_7 135 rfl (by decide +kernel) (by decide) ?_
          refine ww_aload_0 136 rfl (by decide +kernel) ?_
          refine ww_iload_7 138 rfl (by decide +kernel) ?_
          obtain ⟨m18, h17, hF⟩ := rd_at hF
          refine ww_cV1v 141 rfl 8 83 (by decide +kernel) mf_Model_change k_Model_83 rfl (by decide) rfl ⟨by decide, by decide⟩ ⟨rfl, rfl⟩ (Nat.le_of_ble_eq_true rfl) (C_Model_change h17) ?_
          refine ww_iload_5 143 rfl (by decide +kernel) ?_
          refine ww_iconst 144 rfl (2) (2 : Int32) (by decide +kernel) (by decide) ?_
          refine ww_irem 145 rfl (by decide +kernel) (by decide) ?_
          refine ww_iconst 146 rfl (1) (1 : Int32) (by decide +kernel) (by decide) ?_
          refine ww_icmp_ne 149 rfl (16) 162 (by decide +kernel) (by decide) (fun h => ?_) (fun h => ?_)
          · rw [if_neg h] at hF
            refine ww_iload_7 164 rfl (by decide +kernel) ?_
            refine ww_istore_4 166 rfl (by decide +kernel) (by decide) ?_
            refine ww_iinc_5 169 rfl (1) (1 : Int32) (by decide +kernel) (by decide) (by decide) ?_
            refine ww_goto (-106) 63 (by decide +kernel) (by decide) ?_
            exact ih hF
          · rw [if_pos h] at hF
            refine ww_aload_0 150 rfl (by decide +kernel) ?_
            refine ww_iload_1 151 rfl (by decide +kernel) ?_
            refine ww_bipush 153 rfl (16) (16 : Int32) (by decide +kernel) (by decide) ?_
            refine ww_iload_4 155 rfl (by decide +kernel) ?_
            refine ww_imul 156 rfl (by decide +kernel) ?_
            refine ww_iload_7 158 rfl (by decide +kernel) ?_
            refine ww_iadd 159 rfl (by decide +kernel) ?_
            obtain ⟨m20, h19, hF⟩ := rd_at hF
            refine ww_cV2v 162 rfl 8 66 (by decide +kernel) mf_Model_write k_Model_66 rfl (by decide) rfl ⟨by decide, by decide⟩ ⟨rfl, rfl⟩ (Nat.le_of_ble_eq_true rfl) (C_Model_write h19) ?_
            refine ww_iload_7 164 rfl (by decide +kernel) ?_
            refine ww_istore_4 166 rfl (by decide +kernel) (by decide) ?_
            refine ww_iinc_5 169 rfl (1) (1 : Int32) (by decide +kernel) (by decide) (by decide) ?_
            refine ww_goto (-106) 63 (by decide +kernel) (by decide) ?_
            exact ih hF
        · rw [if_pos h] at hF
          refine ww_aload_0 108 rfl (by decide +kernel) ?_
          refine ww_iload_1 109 rfl (by decide +kernel) ?_
          refine ww_iload_6 111 rfl (by decide +kernel) ?_
          refine ww_bipush 113 rfl (8) (8 : Int32) (by decide +kernel) (by decide) ?_
          refine ww_ishr 114 rfl (by decide +kernel) ?_
          obtain ⟨m22, h21, hF⟩ := rd_at hF
          refine ww_cV2v 117 rfl 8 66 (by decide +kernel) mf_Model_write k_Model_66 rfl (by decide) rfl ⟨by decide, by decide⟩ ⟨rfl, rfl⟩ (Nat.le_of_ble_eq_true rfl) (C_Model_write h21) ?_
          refine ww_aload_0 118 rfl (by decide +kernel) ?_
          refine ww_iload_1 119 rfl (by decide +kernel) ?_
          refine ww_iload_6 121 rfl (by decide +kernel) ?_
          obtain ⟨m24, h23, hF⟩ := rd_at hF
          refine ww_cV2v 124 rfl 8 66 (by decide +kernel) mf_Model_write k_Model_66 rfl (by decide) rfl ⟨by decide, by decide⟩ ⟨rfl, rfl⟩ (Nat.le_of_ble_eq_true rfl) (C_Model_write h23) ?_
          refine ww_goto (42) 166 (by decide +kernel) (by decide) ?_
          refine ww_iinc_5 169 rfl (1) (1 : Int32) (by decide +kernel) (by decide) (by decide) ?_
          refine ww_goto (-106) 63 (by decide +kernel) (by decide) ?_
          exact ih hF
      · rw [if_neg h] at hF
        refine ww_aload_0 84 rfl (by decide +kernel) ?_
        refine ww_iload_2 85 rfl (by decide +kernel) ?_
        refine ww_iload_6 87 rfl (by decide +kernel) ?_
        obtain ⟨r26, h25, hF⟩ := rd_at hF
        refine ww_cV2i 90 rfl 8 76 (by decide +kernel) mf_Model_compress k_Model_76 rfl (by decide) rfl ⟨by decide, by decide⟩ ⟨rfl, rfl⟩ (Nat.le_of_ble_eq_true rfl) (C_Model_compress h25) ?_
        refine ww_istore_7 92 rfl (by decide +kernel) (by decide) ?_
        refine ww_aload_0 93 rfl (by decide +kernel) ?_
        refine ww_iload_1 94 rfl (by decide +kernel) ?_
        refine ww_iload_7 96 rfl (by decide +kernel) ?_
        obtain ⟨m28, h27, hF⟩ := rd_at hF
        refine ww_cV2v 99 rfl 8 66 (by decide +kernel) mf_Model_write k_Model_66 rfl (by decide) rfl ⟨by decide, by decide⟩ ⟨rfl, rfl⟩ (Nat.le_of_ble_eq_true rfl) (C_Model_write h27) ?_
        refine ww_goto (67) 166 (by decide +kernel) (by decide) ?_
        refine ww_iinc_5 169 rfl (1) (1 : Int32) (by decide +kernel) (by decide) (by decide) ?_
        refine ww_goto (-106) 63 (by decide +kernel) (by decide) ?_
        exact ih hF
set_option maxHeartbeats 4000000 in
set_option maxRecDepth 100000 in
theorem C_Model_samples {l : Launch} {ca : Nat → ClassId} {a : Nat → Nat} {m0 : Mem} {p1 : Int32} {p2 : Int32} {p3 : Int32} {m9 : Mem}  (hF : F_Model_samples m0 p1 p2 p3 = some m9) : CT l ca a y_Model_samples b_Model_samples 8 none (RM 2 50) [.ref (a 17), .int p1, .int p2, .int p3] m0 none m9 := by
  refine ct_of (own := R_Model) (lv := [some (.ref (a 17)), some (.int p1), some (.int p2), some (.int p3), none, none, none, none]) (plainFor_of_name (by decide)) rfl (cat_ok rfl) (Nat.le_of_ble_eq_true rfl) rfl ?_
  unfold F_Model_samples at hF
  refine ww_aload_0 1 rfl (by decide +kernel) ?_
  refine ww_aload_0 2 rfl (by decide +kernel) ?_
  refine ww_geti 5 rfl 8 8 70 (by decide +kernel) rfl k_Model_70 (by decide) (by decide) rfl rfl ?_
  refine ww_put 8 rfl 8 23 50 (by decide +kernel) rfl k_Model_50 (by decide) (by decide) rfl rfl rfl rfl rfl rfl ?_
  refine ww_nmm (fun m1 em1 => ?_)
  replace hF := bnd_at hF em1
  refine ww_aload_0 9 rfl (by decide +kernel) ?_
  refine ww_aload_0 10 rfl (by decide +kernel) ?_
  refine ww_geti 13 rfl 8 9 73 (by decide +kernel) rfl k_Model_73 (by decide) (by decide) rfl rfl ?_
  refine ww_put 16 rfl 8 24 47 (by decide +kernel) rfl k_Model_47 (by decide) (by decide) rfl rfl rfl rfl rfl rfl ?_
  refine ww_nmm (fun m2 em2 => ?_)
  replace hF := bnd_at hF em2
  refine ww_iload_2 17 rfl (by decide +kernel) ?_
  refine ww_iconst 18 rfl (2) (2 : Int32) (by decide +kernel) (by decide) ?_
  refine ww_icmp_ne 21 rfl (39) 57 (by decide +kernel) (by decide) (fun h => ?_) (fun h => ?_)
  · rw [if_neg h] at hF
    refine ww_iconst 58 rfl (0) (0 : Int32) (by decide +kernel) (by decide) ?_
    refine ww_istore_4 60 rfl (by decide +kernel) (by decide) ?_
    refine ww_iconst 61 rfl (0) (0 : Int32) (by decide +kernel) (by decide) ?_
    refine ww_istore_5 63 rfl (by decide +kernel) (by decide) ?_
    exact B_Model_samples_63 _ hF
  · rw [if_pos h] at hF
    refine ww_aload_0 22 rfl (by decide +kernel) ?_
    refine ww_iload_1 23 rfl (by decide +kernel) ?_
    refine ww_aload_0 24 rfl (by decide +kernel) ?_
    refine ww_geti 27 rfl 8 8 70 (by decide +kernel) rfl k_Model_70 (by decide) (by decide) rfl rfl ?_
    refine ww_bipush 29 rfl (8) (8 : Int32) (by decide +kernel) (by decide) ?_
    refine ww_ishr 30 rfl (by decide +kernel) ?_
    obtain ⟨m4, h3, hF⟩ := rd_at hF
    refine ww_cV2v 33 rfl 8 66 (by decide +kernel) mf_Model_write k_Model_66 rfl (by decide) rfl ⟨by decide, by decide⟩ ⟨rfl, rfl⟩ (Nat.le_of_ble_eq_true rfl) (C_Model_write h3) ?_
    refine ww_aload_0 34 rfl (by decide +kernel) ?_
    refine ww_iload_1 35 rfl (by decide +kernel) ?_
    refine ww_aload_0 36 rfl (by decide +kernel) ?_
    refine ww_geti 39 rfl 8 8 70 (by decide +kernel) rfl k_Model_70 (by decide) (by decide) rfl rfl ?_
    obtain ⟨m6, h5, hF⟩ := rd_at hF
    refine ww_cV2v 42 rfl 8 66 (by decide +kernel) mf_Model_write k_Model_66 rfl (by decide) rfl ⟨by decide, by decide⟩ ⟨rfl, rfl⟩ (Nat.le_of_ble_eq_true rfl) (C_Model_write h5) ?_
    refine ww_aload_0 43 rfl (by decide +kernel) ?_
    refine ww_iload_1 44 rfl (by decide +kernel) ?_
    refine ww_aload_0 45 rfl (by decide +kernel) ?_
    refine ww_geti 48 rfl 8 9 73 (by decide +kernel) rfl k_Model_73 (by decide) (by decide) rfl rfl ?_
    obtain ⟨m8, h7, hF⟩ := rd_at hF
    refine ww_cV2v 51 rfl 8 66 (by decide +kernel) mf_Model_write k_Model_66 rfl (by decide) rfl ⟨by decide, by decide⟩ ⟨rfl, rfl⟩ (Nat.le_of_ble_eq_true rfl) (C_Model_write h7) ?_
    refine ww_aload_0 52 rfl (by decide +kernel) ?_
    refine ww_iload_1 53 rfl (by decide +kernel) ?_
    refine ww_iconst 54 rfl (0) (0 : Int32) (by decide +kernel) (by decide) ?_
    obtain ⟨m10, h9, hF⟩ := rd_at hF
    refine ww_cV2v 57 rfl 8 66 (by decide +kernel) mf_Model_write k_Model_66 rfl (by decide) rfl ⟨by decide, by decide⟩ ⟨rfl, rfl⟩ (Nat.le_of_ble_eq_true rfl) (C_Model_write h9) ?_
    refine ww_iconst 58 rfl (0) (0 : Int32) (by decide +kernel) (by decide) ?_
    refine ww_istore_4 60 rfl (by decide +kernel) (by decide) ?_
    refine ww_iconst 61 rfl (0) (0 : Int32) (by decide +kernel) (by decide) ?_
    refine ww_istore_5 63 rfl (by decide +kernel) (by decide) ?_
    exact B_Model_samples_63 _ hF
set_option maxHeartbeats 4000000 in
set_option maxRecDepth 100000 in
theorem B_Model_send_252 {l : Launch} {ca : Nat → ClassId} {a : Nat → Nat} {m0 : Mem} {l2 : Int32} {l4 : Int32} {s1 : Int32} {z1 : Option Value} {z3 : Option Value} {z5 : Option Value} {r : Int32} {m9 : Mem}  (hF : F_Model_send_252 m0 l2 l4 s1 = some (r, m9)) : WW l b_Model_send 6 (some .int) R_Model (RM 3 77) ca a (EM ca a (some (.int r)) m9) 252 [some (.ref (a 17)), z1, some (.int l2), z3, some (.int l4), z5] [.int s1, .ref (a 17)] m0 := by
  unfold F_Model_send_252 at hF
  refine ww_put 255 rfl 8 5 57 (by decide +kernel) rfl k_Model_57 (by decide) (by decide) rfl rfl rfl rfl rfl rfl ?_
  refine ww_nmm (fun m23 em23 => ?_)
  replace hF := bnd_at hF em23
  refine ww_aload_0 256 rfl (by decide +kernel) ?_
  refine ww_dup 257 rfl (by decide +kernel) rfl ?_
  refine ww_geti 260 rfl 8 6 60 (by decide +kernel) rfl k_Model_60 (by decide) (by decide) rfl rfl ?_
  refine ww_iload_2 261 rfl (by decide +kernel) ?_
  refine ww_iadd 262 rfl (by decide +kernel) ?_
  refine ww_put 265 rfl 8 6 60 (by decide +kernel) rfl k_Model_60 (by decide) (by decide) rfl rfl rfl rfl rfl rfl ?_
  refine ww_nmm (fun m24 em24 => ?_)
  replace hF := bnd_at hF em24
  refine ww_aload_0 266 rfl (by decide +kernel) ?_
  refine ww_getr 269 rfl 8 11 19 21 (by decide +kernel) rfl k_Model_19 (by decide) (by decide) rfl rfl (by omega) ?_
  refine ww_iload_4 271 rfl (by decide +kernel) ?_
  obtain ⟨g25, hF⟩ := gd_at hF
  refine ww_iald 272 rfl (by decide +kernel) rfl g25 ?_
  cases hF
  exact ww_iret (by decide +kernel) rfl
set_option maxHeartbeats 4000000 in
set_option maxRecDepth 100000 in
theorem B_Model_send_201 {l : Launch} {ca : Nat → ClassId} {a : Nat → Nat} {r : Int32} {m9 : Mem} (n : Nat) : ∀ {m0 : Mem} {l2 : Int32} {l4 : Int32} {l5 : Int32} {z1 : Option Value} {z3 : Option Value}  (hF : F_Model_send_201 n m0 l2 l4 l5 = some (r, m9)), WW l b_Model_send 6 (some .int) R_Model (RM 3 77) ca a (EM ca a (some (.int r)) m9) 201 [some (.ref (a 17)), z1, some (.int l2), z3, some (.int l4), some (.int l5)] [] m0 := by
  induction n with
  | zero => intros; rename_i hF; rw [F_Model_send_201] at hF; cases hF
  | succ n ih =>
    intro m0 l2 l4 l5 z1 z3  hF
    rw [F_Model_send_201] at hF
    refine ww_iload_5 203 rfl (by decide +kernel) ?_
    refine ww_aload_0 204 rfl (by decide +kernel) ?_
    refine ww_geti 207 rfl 8 1 53 (by decide +kernel) rfl k_Model_53 (by decide) (by decide) rfl rfl ?_
    refine ww_icmp_ge 210 rfl (25) 232 (by decide +kernel) (by decide) (fun h => ?_) (fun h => ?_)
    · rw [if_pos h] at hF
      refine ww_aload_0 233 rfl (by decide +kernel) ?_
      refine ww_aload_0 234 rfl (by decide +kernel) ?_
      refine ww_geti 237 rfl 8 5 57 (by decide +kernel) rfl k_Model_57 (by decide) (by decide) rfl rfl ?_
      refine ww_ldc 239 rfl 56 (65535 : Int32) (by decide +kernel) k_Model_56 ?_
      refine ww_icmp_ne 242 rfl (7) 246 (by decide +kernel) (by decide) (fun h => ?_) (fun h => ?_)
      · rw [if_neg h] at hF
        refine ww_aload_0 247 rfl (by decide +kernel) ?_
        refine ww_geti 250 rfl 8 5 57 (by decide +kernel) rfl k_Model_57 (by decide) (by decide) rfl rfl ?_
        refine ww_iconst 251 rfl (1) (1 : Int32) (by decide +kernel) (by decide) ?_
        refine ww_iadd 252 rfl (by decide +kernel) ?_
        exact B_Model_send_252 hF
      · rw [if_pos h] at hF
        refine ww_iconst 243 rfl (0) (0 : Int32) (by decide +kernel) (by decide) ?_
        refine ww_goto (9) 252 (by decide +kernel) (by decide) ?_
        exact B_Model_send_252 hF
    · rw [if_neg h] at hF
      refine ww_aload_0 211 rfl (by decide +kernel) ?_
      refine ww_getr 214 rfl 8 2 13 19 (by decide +kernel) rfl k_Model_13 (by decide) (by decide) rfl rfl (by omega) ?_
      refine ww_iload_5 216 rfl (by decide +kernel) ?_
      refine ww_aload_0 217 rfl (by decide +kernel) ?_
      refine ww_getr 220 rfl 8 2 13 19 (by decide +kernel) rfl k_Model_13 (by decide) (by decide) rfl rfl (by omega) ?_
      refine ww_iload_5 222 rfl (by decide +kernel) ?_
      refine ww_iload_2 223 rfl (by decide +kernel) ?_
      refine ww_iadd 224 rfl (by decide +kernel) ?_
      obtain ⟨g20, hF⟩ := gd_at hF
      refine ww_iald 225 rfl (by decide +kernel) rfl g20 ?_
      obtain ⟨g21, hF⟩ := gd_at hF
      refine ww_iast 226 rfl (by decide +kernel) rfl g21 ?_
      refine ww_nmm (fun m22 em22 => ?_)
      replace hF := bnd_at hF em22
      refine ww_iinc_5 229 rfl (1) (1 : Int32) (by decide +kernel) (by decide) (by decide) ?_
      refine ww_goto (-28) 201 (by decide +kernel) (by decide) ?_
      exact ih hF
set_option maxHeartbeats 4000000 in
set_option maxRecDepth 100000 in
theorem B_Model_send_123 {l : Launch} {ca : Nat → ClassId} {a : Nat → Nat} {m0 : Mem} {l1 : Int32} {l2 : Int32} {l4 : Int32} {s1 : Int32} {s2 : Int32} {s3 : Int32} {z3 : Option Value} {z5 : Option Value} {r : Int32} {m9 : Mem}  (hF : F_Model_send_123 m0 l1 l2 l4 s1 s2 s3 = some (r, m9)) : WW l b_Model_send 6 (some .int) R_Model (RM 3 77) ca a (EM ca a (some (.int r)) m9) 123 [some (.ref (a 17)), some (.int l1), some (.int l2), z3, some (.int l4), z5] [.int s3, .int s2, .int s1, .ref (a 17)] m0 := by
  unfold F_Model_send_123 at hF
  refine ww_iadd 124 rfl (by decide +kernel) ?_
  obtain ⟨m7, h6, hF⟩ := rd_at hF
  refine ww_cV2v 127 rfl 8 66 (by decide +kernel) mf_Model_write k_Model_66 rfl (by decide) rfl ⟨by decide, by decide⟩ ⟨rfl, rfl⟩ (Nat.le_of_ble_eq_true rfl) (C_Model_write h6) ?_
  refine ww_aload_0 128 rfl (by decide +kernel) ?_
  refine ww_iload_4 130 rfl (by decide +kernel) ?_
  refine ww_aload_0 131 rfl (by decide +kernel) ?_
  refine ww_geti 134 rfl 8 5 57 (by decide +kernel) rfl k_Model_57 (by decide) (by decide) rfl rfl ?_
  refine ww_bipush 136 rfl (8) (8 : Int32) (by decide +kernel) (by decide) ?_
  refine ww_ishr 137 rfl (by decide +kernel) ?_
  obtain ⟨m9, h8, hF⟩ := rd_at hF
  refine ww_cV2v 140 rfl 8 66 (by decide +kernel) mf_Model_write k_Model_66 rfl (by decide) rfl ⟨by decide, by decide⟩ ⟨rfl, rfl⟩ (Nat.le_of_ble_eq_true rfl) (C_Model_write h8) ?_
  refine ww_aload_0 141 rfl (by decide +kernel) ?_
  refine ww_iload_4 143 rfl (by decide +kernel) ?_
  refine ww_aload_0 144 rfl (by decide +kernel) ?_
  refine ww_geti 147 rfl 8 5 57 (by decide +kernel) rfl k_Model_57 (by decide) (by decide) rfl rfl ?_
  obtain ⟨m11, h10, hF⟩ := rd_at hF
  refine ww_cV2v 150 rfl 8 66 (by decide +kernel) mf_Model_write k_Model_66 rfl (by decide) rfl ⟨by decide, by decide⟩ ⟨rfl, rfl⟩ (Nat.le_of_ble_eq_true rfl) (C_Model_write h10) ?_
  refine ww_aload_0 151 rfl (by decide +kernel) ?_
  refine ww_iload_4 153 rfl (by decide +kernel) ?_
  refine ww_aload_0 154 rfl (by decide +kernel) ?_
  refine ww_geti 157 rfl 8 6 60 (by decide +kernel) rfl k_Model_60 (by decide) (by decide) rfl rfl ?_
  obtain ⟨m13, h12, hF⟩ := rd_at hF
  refine ww_cV2v 160 rfl 8 90 (by decide +kernel) mf_Model_writeWord k_Model_90 rfl (by decide) rfl ⟨by decide, by decide⟩ ⟨rfl, rfl⟩ (Nat.le_of_ble_eq_true rfl) (C_Model_writeWord h12) ?_
  refine ww_aload_0 161 rfl (by decide +kernel) ?_
  refine ww_iload_4 163 rfl (by decide +kernel) ?_
  refine ww_aload_0 164 rfl (by decide +kernel) ?_
  refine ww_geti 167 rfl 8 7 63 (by decide +kernel) rfl k_Model_63 (by decide) (by decide) rfl rfl ?_
  obtain ⟨m15, h14, hF⟩ := rd_at hF
  refine ww_cV2v 170 rfl 8 90 (by decide +kernel) mf_Model_writeWord k_Model_90 rfl (by decide) rfl ⟨by decide, by decide⟩ ⟨rfl, rfl⟩ (Nat.le_of_ble_eq_true rfl) (C_Model_writeWord h14) ?_
  refine ww_aload_0 171 rfl (by decide +kernel) ?_
  refine ww_iload_4 173 rfl (by decide +kernel) ?_
  refine ww_iload_1 174 rfl (by decide +kernel) ?_
  refine ww_iload_2 175 rfl (by decide +kernel) ?_
  obtain ⟨m17, h16, hF⟩ := rd_at hF
  refine ww_cV3v 178 rfl 8 93 (by decide +kernel) mf_Model_samples k_Model_93 rfl (by decide) rfl ⟨by decide, by decide⟩ ⟨rfl, rfl⟩ (Nat.le_of_ble_eq_true rfl) (C_Model_samples h16) ?_
  refine ww_aload_0 179 rfl (by decide +kernel) ?_
  refine ww_dup 180 rfl (by decide +kernel) rfl ?_
  refine ww_geti 183 rfl 8 10 87 (by decide +kernel) rfl k_Model_87 (by decide) (by decide) rfl rfl ?_
  refine ww_iconst 184 rfl (1) (1 : Int32) (by decide +kernel) (by decide) ?_
  refine ww_iadd 185 rfl (by decide +kernel) ?_
  refine ww_put 188 rfl 8 10 87 (by decide +kernel) rfl k_Model_87 (by decide) (by decide) rfl rfl rfl rfl rfl rfl ?_
  refine ww_nmm (fun m18 em18 => ?_)
  replace hF := bnd_at hF em18
  refine ww_aload_0 189 rfl (by decide +kernel) ?_
  refine ww_dup 190 rfl (by decide +kernel) rfl ?_
  refine ww_geti 193 rfl 8 1 53 (by decide +kernel) rfl k_Model_53 (by decide) (by decide) rfl rfl ?_
  refine ww_iload_2 194 rfl (by decide +kernel) ?_
  refine ww_isub 195 rfl (by decide +kernel) ?_
  refine ww_put 198 rfl 8 1 53 (by decide +kernel) rfl k_Model_53 (by decide) (by decide) rfl rfl rfl rfl rfl rfl ?_
  refine ww_nmm (fun m19 em19 => ?_)
  replace hF := bnd_at hF em19
  refine ww_iconst 199 rfl (0) (0 : Int32) (by decide +kernel) (by decide) ?_
  refine ww_istore_5 201 rfl (by decide +kernel) (by decide) ?_
  exact B_Model_send_201 _ hF
set_option maxHeartbeats 4000000 in
set_option maxRecDepth 100000 in
theorem B_Model_send_112 {l : Launch} {ca : Nat → ClassId} {a : Nat → Nat} {m0 : Mem} {l1 : Int32} {l2 : Int32} {l3 : Int32} {l4 : Int32} {s1 : Int32} {s2 : Int32} {z5 : Option Value} {r : Int32} {m9 : Mem}  (hF : F_Model_send_112 m0 l1 l2 l3 l4 s1 s2 = some (r, m9)) : WW l b_Model_send 6 (some .int) R_Model (RM 3 77) ca a (EM ca a (some (.int r)) m9) 112 [some (.ref (a 17)), some (.int l1), some (.int l2), some (.int l3), some (.int l4), z5] [.int s2, .int s1, .ref (a 17)] m0 := by
  unfold F_Model_send_112 at hF
  refine ww_iload_3 113 rfl (by decide +kernel) ?_
  refine ww_if_eq 116 rfl (9) 122 (by decide +kernel) (by decide) (fun h => ?_) (fun h => ?_)
  · rw [if_pos h] at hF
    refine ww_iconst 123 rfl (0) (0 : Int32) (by decide +kernel) (by decide) ?_
    exact B_Model_send_123 hF
  · rw [if_neg h] at hF
    refine ww_sipush 119 rfl (128) (128 : Int32) (by decide +kernel) (by decide) ?_
    refine ww_goto (4) 123 (by decide +kernel) (by decide) ?_
    exact B_Model_send_123 hF
set_option maxHeartbeats 4000000 in
set_option maxRecDepth 100000 in
theorem B_Model_send_34 {l : Launch} {ca : Nat → ClassId} {a : Nat → Nat} {m0 : Mem} {l1 : Int32} {l2 : Int32} {l3 : Int32} {z4 : Option Value} {z5 : Option Value} {r : Int32} {m9 : Mem}  (hF : F_Model_send_34 m0 l1 l2 l3 = some (r, m9)) : WW l b_Model_send 6 (some .int) R_Model (RM 3 77) ca a (EM ca a (some (.int r)) m9) 34 [some (.ref (a 17)), some (.int l1), some (.int l2), some (.int l3), z4, z5] [] m0 := by
  unfold F_Model_send_34 at hF
  refine ww_aload_0 35 rfl (by decide +kernel) ?_
  refine ww_geti 38 rfl 8 1 53 (by decide +kernel) rfl k_Model_53 (by decide) (by decide) rfl rfl ?_
  refine ww_iload_2 39 rfl (by decide +kernel) ?_
  refine ww_icmp_ge 42 rfl (6) 45 (by decide +kernel) (by decide) (fun h => ?_) (fun h => ?_)
  · rw [if_pos h] at hF
    refine ww_aload_0 46 rfl (by decide +kernel) ?_
    refine ww_geti 49 rfl 8 10 87 (by decide +kernel) rfl k_Model_87 (by decide) (by decide) rfl rfl ?_
    refine ww_bipush 51 rfl (8) (8 : Int32) (by decide +kernel) (by decide) ?_
    refine ww_icmp_ne 54 rfl (6) 57 (by decide +kernel) (by decide) (fun h => ?_) (fun h => ?_)
    · rw [if_neg h] at hF
      refine ww_aload_0 58 rfl (by decide +kernel) ?_
      refine ww_geti 61 rfl 8 10 87 (by decide +kernel) rfl k_Model_87 (by decide) (by decide) rfl rfl ?_
      refine ww_nmi (fun v1 ev1 => ?_)
      replace hF := bnd_at hF ev1
      refine ww_istore_4 63 rfl (by decide +kernel) (by decide) ?_
      refine ww_aload_0 64 rfl (by decide +kernel) ?_
      refine ww_getr 67 rfl 8 11 19 21 (by decide +kernel) rfl k_Model_19 (by decide) (by decide) rfl rfl (by omega) ?_
      refine ww_iload_4 69 rfl (by decide +kernel) ?_
      refine ww_iconst 70 rfl (0) (0 : Int32) (by decide +kernel) (by decide) ?_
      obtain ⟨g2, hF⟩ := gd_at hF
      refine ww_iast 71 rfl (by decide +kernel) rfl g2 ?_
      refine ww_nmm (fun m3 em3 => ?_)
      replace hF := bnd_at hF em3
      refine ww_aload_0 72 rfl (by decide +kernel) ?_
      refine ww_iload_4 74 rfl (by decide +kernel) ?_
      refine ww_sipush 77 rfl (128) (128 : Int32) (by decide +kernel) (by decide) ?_
      obtain ⟨m5, h4, hF⟩ := rd_at hF
      refine ww_cV2v 80 rfl 8 66 (by decide +kernel) mf_Model_write k_Model_66 rfl (by decide) rfl ⟨by decide, by decide⟩ ⟨rfl, rfl⟩ (Nat.le_of_ble_eq_true rfl) (C_Model_write h4) ?_
      refine ww_aload_0 81 rfl (by decide +kernel) ?_
      refine ww_iload_4 83 rfl (by decide +kernel) ?_
      refine ww_iload_1 84 rfl (by decide +kernel) ?_
      refine ww_if_ne 87 rfl (8) 92 (by decide +kernel) (by decide) (fun h => ?_) (fun h => ?_)
      · rw [if_neg h] at hF
        refine ww_iload_1 93 rfl (by decide +kernel) ?_
        refine ww_iconst 94 rfl (1) (1 : Int32) (by decide +kernel) (by decide) ?_
        refine ww_icmp_ne 97 rfl (7) 101 (by decide +kernel) (by decide) (fun h => ?_) (fun h => ?_)
        · rw [if_neg h] at hF
          refine ww_iload_1 102 rfl (by decide +kernel) ?_
          refine ww_iconst 103 rfl (2) (2 : Int32) (by decide +kernel) (by decide) ?_
          refine ww_icmp_ne 106 rfl (7) 110 (by decide +kernel) (by decide) (fun h => ?_) (fun h => ?_)
          · rw [if_neg h] at hF
            refine ww_bipush 112 rfl (11) (11 : Int32) (by decide +kernel) (by decide) ?_
            exact B_Model_send_112 hF
          · rw [if_pos h] at hF
            refine ww_iconst 107 rfl (5) (5 : Int32) (by decide +kernel) (by decide) ?_
            refine ww_goto (5) 112 (by decide +kernel) (by decide) ?_
            exact B_Model_send_112 hF
        · rw [if_pos h] at hF
          refine ww_iconst 98 rfl (0) (0 : Int32) (by decide +kernel) (by decide) ?_
          refine ww_goto (14) 112 (by decide +kernel) (by decide) ?_
          exact B_Model_send_112 hF
      · rw [if_pos h] at hF
        refine ww_bipush 89 rfl (8) (8 : Int32) (by decide +kernel) (by decide) ?_
        refine ww_goto (23) 112 (by decide +kernel) (by decide) ?_
        exact B_Model_send_112 hF
    · rw [if_pos h] at hF
      refine ww_bipush 56 rfl (-3) (-3 : Int32) (by decide +kernel) (by decide) ?_
      cases hF
      exact ww_iret (by decide +kernel) rfl
  · rw [if_neg h] at hF
    refine ww_bipush 44 rfl (-2) (-2 : Int32) (by decide +kernel) (by decide) ?_
    cases hF
    exact ww_iret (by decide +kernel) rfl
set_option maxHeartbeats 4000000 in
set_option maxRecDepth 100000 in
theorem C_Model_send {l : Launch} {ca : Nat → ClassId} {a : Nat → Nat} {m0 : Mem} {p1 : Int32} {p2 : Int32} {p3 : Int32} {r : Int32} {m9 : Mem}  (hF : F_Model_send m0 p1 p2 p3 = some (r, m9)) : CT l ca a y_Model_send b_Model_send 6 (some .int) (RM 3 77) [.ref (a 17), .int p1, .int p2, .int p3] m0 (some (.int r)) m9 := by
  refine ct_of (own := R_Model) (lv := [some (.ref (a 17)), some (.int p1), some (.int p2), some (.int p3), none, none]) (plainFor_of_name (by decide)) rfl (cat_ok rfl) (Nat.le_of_ble_eq_true rfl) rfl ?_
  unfold F_Model_send at hF
  refine ww_iload_1 1 rfl (by decide +kernel) ?_
  refine ww_if_lt 4 rfl (31) 32 (by decide +kernel) (by decide) (fun h => ?_) (fun h => ?_)
  · rw [if_pos h] at hF
    refine ww_iconst 33 rfl (-1) (-1 : Int32) (by decide +kernel) (by decide) ?_
    cases hF
    exact ww_iret (by decide +kernel) rfl
  · rw [if_neg h] at hF
    refine ww_iload_1 5 rfl (by decide +kernel) ?_
    refine ww_iconst 6 rfl (3) (3 : Int32) (by decide +kernel) (by decide) ?_
    refine ww_icmp_gt 9 rfl (26) 32 (by decide +kernel) (by decide) (fun h => ?_) (fun h => ?_)
    · rw [if_pos h] at hF
      refine ww_iconst 33 rfl (-1) (-1 : Int32) (by decide +kernel) (by decide) ?_
      cases hF
      exact ww_iret (by decide +kernel) rfl
    · rw [if_neg h] at hF
      refine ww_iload_2 10 rfl (by decide +kernel) ?_
      refine ww_iconst 11 rfl (1) (1 : Int32) (by decide +kernel) (by decide) ?_
      refine ww_icmp_lt 14 rfl (21) 32 (by decide +kernel) (by decide) (fun h => ?_) (fun h => ?_)
      · rw [if_pos h] at hF
        refine ww_iconst 33 rfl (-1) (-1 : Int32) (by decide +kernel) (by decide) ?_
        cases hF
        exact ww_iret (by decide +kernel) rfl
      · rw [if_neg h] at hF
        refine ww_iload_2 15 rfl (by decide +kernel) ?_
        refine ww_bipush 17 rfl (16) (16 : Int32) (by decide +kernel) (by decide) ?_
        refine ww_icmp_gt 20 rfl (15) 32 (by decide +kernel) (by decide) (fun h => ?_) (fun h => ?_)
        · rw [if_pos h] at hF
          refine ww_iconst 33 rfl (-1) (-1 : Int32) (by decide +kernel) (by decide) ?_
          cases hF
          exact ww_iret (by decide +kernel) rfl
        · rw [if_neg h] at hF
          refine ww_iload_1 21 rfl (by decide +kernel) ?_
          refine ww_iconst 22 rfl (2) (2 : Int32) (by decide +kernel) (by decide) ?_
          refine ww_icmp_ne 25 rfl (12) 34 (by decide +kernel) (by decide) (fun h => ?_) (fun h => ?_)
          · rw [if_neg h] at hF
            exact B_Model_send_34 hF
          · rw [if_pos h] at hF
            refine ww_iload_2 26 rfl (by decide +kernel) ?_
            refine ww_iconst 27 rfl (2) (2 : Int32) (by decide +kernel) (by decide) ?_
            refine ww_irem 28 rfl (by decide +kernel) (by decide) ?_
            refine ww_iconst 29 rfl (1) (1 : Int32) (by decide +kernel) (by decide) ?_
            refine ww_icmp_ne 32 rfl (5) 34 (by decide +kernel) (by decide) (fun h => ?_) (fun h => ?_)
            · rw [if_neg h] at hF
              exact B_Model_send_34 hF
            · rw [if_pos h] at hF
              refine ww_iconst 33 rfl (-1) (-1 : Int32) (by decide +kernel) (by decide) ?_
              cases hF
              exact ww_iret (by decide +kernel) rfl
