set_option maxHeartbeats 4000000 in
set_option maxRecDepth 100000 in
theorem B_Model_playPacket_210 {l : Launch} {ca : Nat → ClassId} {a : Nat → Nat} {m0 : Mem} {l1 : Int32} {l2 : Int32} {l6 : Int32} {s1 : Int32} {s2 : Int32} {s3 : Int32} {z3 : Option Value} {z4 : Option Value} {z5 : Option Value} {m9 : Mem}  (hF : F_Model_playPacket_210 m0 l1 l2 l6 s1 s2 s3 = some m9) : WW l b_Model_playPacket 7 none R_Model (RM 3 75) ca a (EM ca a none m9) 210 [some (.ref (a 17)), some (.int l1), some (.int l2), z3, z4, z5, some (.int l6)] [.int s3, .int s2, .int s1, .ref (a 24)] m0 := by
  unfold F_Model_playPacket_210 at hF
  refine ww_iadd 211 rfl (by decide +kernel) ?_
  obtain ⟨g23, hF⟩ := gd_at hF
  refine ww_iast 212 rfl (by decide +kernel) rfl g23 ?_
  refine ww_nmm (fun m24 em24 => ?_)
  replace hF := bnd_at hF em24
  refine ww_aload_0 213 rfl (by decide +kernel) ?_
  refine ww_iload_6 215 rfl (by decide +kernel) ?_
  refine ww_iload_2 216 rfl (by decide +kernel) ?_
  refine ww_iadd 217 rfl (by decide +kernel) ?_
  refine ww_put 220 rfl 8 18 163 (by decide +kernel) rfl k_Model_163 (by decide) (by decide) rfl rfl rfl rfl rfl rfl ?_
  refine ww_nmm (fun m25 em25 => ?_)
  replace hF := bnd_at hF em25
  refine ww_aload_0 221 rfl (by decide +kernel) ?_
  refine ww_iconst 222 rfl (1) (1 : Int32) (by decide +kernel) (by decide) ?_
  refine ww_put 225 rfl 8 17 143 (by decide +kernel) rfl k_Model_143 (by decide) (by decide) rfl rfl rfl rfl rfl rfl ?_
  refine ww_nmm (fun m26 em26 => ?_)
  replace hF := bnd_at hF em26
  refine ww_aload_0 226 rfl (by decide +kernel) ?_
  refine ww_iconst 227 rfl (0) (0 : Int32) (by decide +kernel) (by decide) ?_
  refine ww_put 230 rfl 8 19 147 (by decide +kernel) rfl k_Model_147 (by decide) (by decide) rfl rfl rfl rfl rfl rfl ?_
  refine ww_nmm (fun m27 em27 => ?_)
  replace hF := bnd_at hF em27
  refine ww_aload_0 231 rfl (by decide +kernel) ?_
  refine ww_getr 234 rfl 8 11 19 21 (by decide +kernel) rfl k_Model_19 (by decide) (by decide) rfl rfl (by omega) ?_
  refine ww_iload_1 235 rfl (by decide +kernel) ?_
  refine ww_iconst 236 rfl (-1) (-1 : Int32) (by decide +kernel) (by decide) ?_
  obtain ⟨g28, hF⟩ := gd_at hF
  refine ww_iast 237 rfl (by decide +kernel) rfl g28 ?_
  refine ww_nmm (fun m29 em29 => ?_)
  replace hF := bnd_at hF em29
  cases hF
  exact ww_vret (by decide +kernel) rfl
set_option maxHeartbeats 4000000 in
set_option maxRecDepth 100000 in
theorem B_Model_playPacket_166 {l : Launch} {ca : Nat → ClassId} {a : Nat → Nat} {m0 : Mem} {l1 : Int32} {l2 : Int32} {s0 : Int32} {z3 : Option Value} {z4 : Option Value} {z5 : Option Value} {z6 : Option Value} {m9 : Mem}  (hF : F_Model_playPacket_166 m0 l1 l2 s0 = some m9) : WW l b_Model_playPacket 7 none R_Model (RM 3 75) ca a (EM ca a none m9) 166 [some (.ref (a 17)), some (.int l1), some (.int l2), z3, z4, z5, z6] [.int s0] m0 := by
  unfold F_Model_playPacket_166 at hF
  refine ww_istore_5 168 rfl (by decide +kernel) (by decide) ?_
  refine ww_aload_0 169 rfl (by decide +kernel) ?_
  refine ww_iload_1 170 rfl (by decide +kernel) ?_
  refine ww_iconst 171 rfl (4) (4 : Int32) (by decide +kernel) (by decide) ?_
  obtain ⟨r21, h20, hF⟩ := rd_at hF
  refine ww_cV2i 174 rfl 8 127 (by decide +kernel) mf_Model_word k_Model_127 rfl (by decide) rfl ⟨by decide, by decide⟩ ⟨rfl, rfl⟩ (Nat.le_of_ble_eq_true rfl) (C_Model_word h20) ?_
  refine ww_istore_6 176 rfl (by decide +kernel) (by decide) ?_
  refine ww_aload_0 177 rfl (by decide +kernel) ?_
  refine ww_getr 180 rfl 8 22 32 24 (by decide +kernel) rfl k_Model_32 (by decide) (by decide) rfl rfl (by omega) ?_
  refine ww_bipush 182 rfl (9) (9 : Int32) (by decide +kernel) (by decide) ?_
  refine ww_dup2 183 rfl (by decide +kernel) rfl rfl ?_
  obtain ⟨g22, hF⟩ := gd_at hF
  refine ww_iald 184 rfl (by decide +kernel) rfl g22 ?_
  refine ww_iload_5 186 rfl (by decide +kernel) ?_
  refine ww_if_ne 189 rfl (23) 209 (by decide +kernel) (by decide) (fun h => ?_) (fun h => ?_)
  · rw [if_neg h] at hF
    refine ww_iconst 210 rfl (0) (0 : Int32) (by decide +kernel) (by decide) ?_
    exact B_Model_playPacket_210 hF
  · rw [if_pos h] at hF
    refine ww_aload_0 190 rfl (by decide +kernel) ?_
    refine ww_geti 193 rfl 8 17 143 (by decide +kernel) rfl k_Model_143 (by decide) (by decide) rfl rfl ?_
    refine ww_if_eq 196 rfl (16) 209 (by decide +kernel) (by decide) (fun h => ?_) (fun h => ?_)
    · rw [if_pos h] at hF
      refine ww_iconst 210 rfl (0) (0 : Int32) (by decide +kernel) (by decide) ?_
      exact B_Model_playPacket_210 hF
    · rw [if_neg h] at hF
      refine ww_iload_6 198 rfl (by decide +kernel) ?_
      refine ww_aload_0 199 rfl (by decide +kernel) ?_
      refine ww_geti 202 rfl 8 18 163 (by decide +kernel) rfl k_Model_163 (by decide) (by decide) rfl rfl ?_
      refine ww_icmp_eq 205 rfl (7) 209 (by decide +kernel) (by decide) (fun h => ?_) (fun h => ?_)
      · rw [if_pos h] at hF
        refine ww_iconst 210 rfl (0) (0 : Int32) (by decide +kernel) (by decide) ?_
        exact B_Model_playPacket_210 hF
      · rw [if_neg h] at hF
        refine ww_iconst 206 rfl (1) (1 : Int32) (by decide +kernel) (by decide) ?_
        refine ww_goto (4) 210 (by decide +kernel) (by decide) ?_
        exact B_Model_playPacket_210 hF
set_option maxHeartbeats 4000000 in
set_option maxRecDepth 100000 in
theorem B_Model_playPacket_87 {l : Launch} {ca : Nat → ClassId} {a : Nat → Nat} {m9 : Mem} (n : Nat) : ∀ {m0 : Mem} {l1 : Int32} {l2 : Int32} {l3 : Int32} {l5 : Int32} {z4 : Option Value} {z6 : Option Value}  (hF : F_Model_playPacket_87 n m0 l1 l2 l3 l5 = some m9), WW l b_Model_playPacket 7 none R_Model (RM 3 75) ca a (EM ca a none m9) 87 [some (.ref (a 17)), some (.int l1), some (.int l2), some (.int l3), z4, some (.int l5), z6] [] m0 := by
  induction n with
  | zero => intros; rename_i hF; rw [F_Model_playPacket_87] at hF; cases hF
  | succ n ih =>
    intro m0 l1 l2 l3 l5 z4 z6  hF
    rw [F_Model_playPacket_87] at hF
    refine ww_iload_5 89 rfl (by decide +kernel) ?_
    refine ww_iload_2 90 rfl (by decide +kernel) ?_
    refine ww_icmp_ge 93 rfl (50) 140 (by decide +kernel) (by decide) (fun h => ?_) (fun h => ?_)
    · rw [if_pos h] at hF
      refine ww_aload_0 141 rfl (by decide +kernel) ?_
      refine ww_iload_2 142 rfl (by decide +kernel) ?_
      refine ww_put 145 rfl 8 20 160 (by decide +kernel) rfl k_Model_160 (by decide) (by decide) rfl rfl rfl rfl rfl rfl ?_
      refine ww_nmm (fun m10 em10 => ?_)
      replace hF := bnd_at hF em10
      refine ww_aload_0 146 rfl (by decide +kernel) ?_
      refine ww_getr 149 rfl 8 12 22 22 (by decide +kernel) rfl k_Model_22 (by decide) (by decide) rfl rfl (by omega) ?_
      refine ww_bipush 151 rfl (44) (44 : Int32) (by decide +kernel) (by decide) ?_
      refine ww_iload_1 152 rfl (by decide +kernel) ?_
      refine ww_imul 153 rfl (by decide +kernel) ?_
      refine ww_iconst 154 rfl (1) (1 : Int32) (by decide +kernel) (by decide) ?_
      refine ww_iadd 155 rfl (by decide +kernel) ?_
      obtain ⟨g11, hF⟩ := gd_at hF
      refine ww_iald 156 rfl (by decide +kernel) rfl g11 ?_
      refine ww_bipush 158 rfl (127) (127 : Int32) (by decide +kernel) (by decide) ?_
      refine ww_icmp_le 161 rfl (7) 165 (by decide +kernel) (by decide) (fun h => ?_) (fun h => ?_)
      · rw [if_pos h] at hF
        refine ww_iconst 166 rfl (0) (0 : Int32) (by decide +kernel) (by decide) ?_
        exact B_Model_playPacket_166 hF
      · rw [if_neg h] at hF
        refine ww_iconst 162 rfl (1) (1 : Int32) (by decide +kernel) (by decide) ?_
        refine ww_goto (4) 166 (by decide +kernel) (by decide) ?_
        exact B_Model_playPacket_166 hF
    · rw [if_neg h] at hF
      refine ww_aload_0 94 rfl (by decide +kernel) ?_
      refine ww_getr 97 rfl 8 21 29 23 (by decide +kernel) rfl k_Model_29 (by decide) (by decide) rfl rfl (by omega) ?_
      refine ww_iload_5 99 rfl (by decide +kernel) ?_
      refine ww_aload_0 100 rfl (by decide +kernel) ?_
      refine ww_iload_1 101 rfl (by decide +kernel) ?_
      refine ww_iload_3 102 rfl (by decide +kernel) ?_
      refine ww_iload_5 104 rfl (by decide +kernel) ?_
      obtain ⟨r13, m14, h12, hF⟩ := cal_at hF
      refine ww_cV3i 107 rfl 8 153 (by decide +kernel) mf_Model_sampleOf k_Model_153 rfl (by decide) rfl ⟨by decide, by decide⟩ ⟨rfl, rfl⟩ (Nat.le_of_ble_eq_true rfl) (C_Model_sampleOf h12) ?_
      obtain ⟨g15, hF⟩ := gd_at hF
      refine ww_iast 108 rfl (by decide +kernel) rfl g15 ?_
      refine ww_nmm (fun m16 em16 => ?_)
      replace hF := bnd_at hF em16
      refine ww_aload_0 109 rfl (by decide +kernel) ?_
      refine ww_getr 112 rfl 8 4 16 20 (by decide +kernel) rfl k_Model_16 (by decide) (by decide) rfl rfl (by omega) ?_
      refine ww_aload_0 113 rfl (by decide +kernel) ?_
      refine ww_geti 116 rfl 8 3 157 (by decide +kernel) rfl k_Model_157 (by decide) (by decide) rfl rfl ?_
      refine ww_aload_0 117 rfl (by decide +kernel) ?_
      refine ww_getr 120 rfl 8 21 29 23 (by decide +kernel) rfl k_Model_29 (by decide) (by decide) rfl rfl (by omega) ?_
      refine ww_iload_5 122 rfl (by decide +kernel) ?_
      refine ww_iald 123 rfl (by decide +kernel) rfl g15 ?_
      obtain ⟨g17, hF⟩ := gd_at hF
      refine ww_iast 124 rfl (by decide +kernel) rfl g17 ?_
      refine ww_nmm (fun m18 em18 => ?_)
      replace hF := bnd_at hF em18
      refine ww_aload_0 125 rfl (by decide +kernel) ?_
      refine ww_dup 126 rfl (by decide +kernel) rfl ?_
      refine ww_geti 129 rfl 8 3 157 (by decide +kernel) rfl k_Model_157 (by decide) (by decide) rfl rfl ?_
      refine ww_iconst 130 rfl (1) (1 : Int32) (by decide +kernel) (by decide) ?_
      refine ww_iadd 131 rfl (by decide +kernel) ?_
      refine ww_put 134 rfl 8 3 157 (by decide +kernel) rfl k_Model_157 (by decide) (by decide) rfl rfl rfl rfl rfl rfl ?_
      refine ww_nmm (fun m19 em19 => ?_)
      replace hF := bnd_at hF em19
      refine ww_iinc_5 137 rfl (1) (1 : Int32) (by decide +kernel) (by decide) (by decide) ?_
      refine ww_goto (-50) 87 (by decide +kernel) (by decide) ?_
      exact ih hF
set_option maxHeartbeats 4000000 in
set_option maxRecDepth 100000 in
theorem B_Model_playPacket_56 {l : Launch} {ca : Nat → ClassId} {a : Nat → Nat} {m0 : Mem} {l1 : Int32} {l2 : Int32} {l3 : Int32} {s1 : Int32} {z4 : Option Value} {z5 : Option Value} {z6 : Option Value} {m9 : Mem}  (hF : F_Model_playPacket_56 m0 l1 l2 l3 s1 = some m9) : WW l b_Model_playPacket 7 none R_Model (RM 3 75) ca a (EM ca a none m9) 56 [some (.ref (a 17)), some (.int l1), some (.int l2), some (.int l3), z4, z5, z6] [.int s1, .ref (a 17)] m0 := by
  unfold F_Model_playPacket_56 at hF
  refine ww_put 59 rfl 8 23 50 (by decide +kernel) rfl k_Model_50 (by decide) (by decide) rfl rfl rfl rfl rfl rfl ?_
  refine ww_nmm (fun m6 em6 => ?_)
  replace hF := bnd_at hF em6
  refine ww_aload_0 60 rfl (by decide +kernel) ?_
  refine ww_iload_3 61 rfl (by decide +kernel) ?_
  refine ww_iconst 62 rfl (2) (2 : Int32) (by decide +kernel) (by decide) ?_
  refine ww_icmp_ne 65 rfl (18) 80 (by decide +kernel) (by decide) (fun h => ?_) (fun h => ?_)
  · rw [if_neg h] at hF
    refine ww_iconst 81 rfl (0) (0 : Int32) (by decide +kernel) (by decide) ?_
    refine ww_put 84 rfl 8 24 47 (by decide +kernel) rfl k_Model_47 (by decide) (by decide) rfl rfl rfl rfl rfl rfl ?_
    refine ww_nmm (fun m7 em7 => ?_)
    replace hF := bnd_at hF em7
    refine ww_iconst 85 rfl (0) (0 : Int32) (by decide +kernel) (by decide) ?_
    refine ww_istore_5 87 rfl (by decide +kernel) (by decide) ?_
    exact B_Model_playPacket_87 _ hF
  · rw [if_pos h] at hF
    refine ww_aload_0 66 rfl (by decide +kernel) ?_
    refine ww_getr 69 rfl 8 12 22 22 (by decide +kernel) rfl k_Model_22 (by decide) (by decide) rfl rfl (by omega) ?_
    refine ww_bipush 71 rfl (44) (44 : Int32) (by decide +kernel) (by decide) ?_
    refine ww_iload_1 72 rfl (by decide +kernel) ?_
    refine ww_imul 73 rfl (by decide +kernel) ?_
    refine ww_bipush 75 rfl (14) (14 : Int32) (by decide +kernel) (by decide) ?_
    refine ww_iadd 76 rfl (by decide +kernel) ?_
    obtain ⟨g8, hF⟩ := gd_at hF
    refine ww_iald 77 rfl (by decide +kernel) rfl g8 ?_
    refine ww_goto (4) 81 (by decide +kernel) (by decide) ?_
    refine ww_put 84 rfl 8 24 47 (by decide +kernel) rfl k_Model_47 (by decide) (by decide) rfl rfl rfl rfl rfl rfl ?_
    refine ww_nmm (fun m9 em9 => ?_)
    replace hF := bnd_at hF em9
    refine ww_iconst 85 rfl (0) (0 : Int32) (by decide +kernel) (by decide) ?_
    refine ww_istore_5 87 rfl (by decide +kernel) (by decide) ?_
    exact B_Model_playPacket_87 _ hF
set_option maxHeartbeats 4000000 in
set_option maxRecDepth 100000 in
theorem C_Model_playPacket {l : Launch} {ca : Nat → ClassId} {a : Nat → Nat} {m0 : Mem} {p1 : Int32} {p2 : Int32} {m9 : Mem}  (hF : F_Model_playPacket m0 p1 p2 = some m9) : CT l ca a y_Model_playPacket b_Model_playPacket 7 none (RM 3 75) [.ref (a 17), .int p1, .int p2] m0 none m9 := by
  refine ct_of (own := R_Model) (lv := [some (.ref (a 17)), some (.int p1), some (.int p2), none, none, none, none]) (plainFor_of_name (by decide)) rfl (cat_ok rfl) (Nat.le_of_ble_eq_true rfl) rfl ?_
  unfold F_Model_playPacket at hF
  refine ww_aload_0 1 rfl (by decide +kernel) ?_
  refine ww_iload_1 2 rfl (by decide +kernel) ?_
  obtain ⟨r2, h1, hF⟩ := rd_at hF
  refine ww_cV1i 5 rfl 8 113 (by decide +kernel) mf_Model_codingOf k_Model_113 rfl (by decide) rfl ⟨by decide, by decide⟩ ⟨rfl, rfl⟩ (Nat.le_of_ble_eq_true rfl) (C_Model_codingOf h1) ?_
  refine ww_istore_3 6 rfl (by decide +kernel) (by decide) ?_
  refine ww_sipush 9 rfl (256) (256 : Int32) (by decide +kernel) (by decide) ?_
  refine ww_aload_0 10 rfl (by decide +kernel) ?_
  refine ww_getr 13 rfl 8 12 22 22 (by decide +kernel) rfl k_Model_22 (by decide) (by decide) rfl rfl (by omega) ?_
  refine ww_bipush 15 rfl (44) (44 : Int32) (by decide +kernel) (by decide) ?_
  refine ww_iload_1 16 rfl (by decide +kernel) ?_
  refine ww_imul 17 rfl (by decide +kernel) ?_
  refine ww_bipush 19 rfl (12) (12 : Int32) (by decide +kernel) (by decide) ?_
  refine ww_iadd 20 rfl (by decide +kernel) ?_
  obtain ⟨g3, hF⟩ := gd_at hF
  refine ww_iald 21 rfl (by decide +kernel) rfl g3 ?_
  refine ww_imul 22 rfl (by decide +kernel) ?_
  refine ww_aload_0 23 rfl (by decide +kernel) ?_
  refine ww_getr 26 rfl 8 12 22 22 (by decide +kernel) rfl k_Model_22 (by decide) (by decide) rfl rfl (by omega) ?_
  refine ww_bipush 28 rfl (44) (44 : Int32) (by decide +kernel) (by decide) ?_
  refine ww_iload_1 29 rfl (by decide +kernel) ?_
  refine ww_imul 30 rfl (by decide +kernel) ?_
  refine ww_bipush 32 rfl (13) (13 : Int32) (by decide +kernel) (by decide) ?_
  refine ww_iadd 33 rfl (by decide +kernel) ?_
  obtain ⟨g4, hF⟩ := gd_at hF
  refine ww_iald 34 rfl (by decide +kernel) rfl g4 ?_
  refine ww_iadd 35 rfl (by decide +kernel) ?_
  refine ww_nmi (fun v5 ev5 => ?_)
  replace hF := bnd_at hF ev5
  refine ww_istore_4 37 rfl (by decide +kernel) (by decide) ?_
  refine ww_aload_0 38 rfl (by decide +kernel) ?_
  refine ww_iload_4 40 rfl (by decide +kernel) ?_
  refine ww_sipush 43 rfl (32767) (32767 : Int32) (by decide +kernel) (by decide) ?_
  refine ww_icmp_le 46 rfl (11) 54 (by decide +kernel) (by decide) (fun h => ?_) (fun h => ?_)
  · rw [if_pos h] at hF
    refine ww_iload_4 56 rfl (by decide +kernel) ?_
    exact B_Model_playPacket_56 hF
  · rw [if_neg h] at hF
    refine ww_iload_4 48 rfl (by decide +kernel) ?_
    refine ww_ldc 50 rfl 120 (65536 : Int32) (by decide +kernel) k_Model_120 ?_
    refine ww_isub 51 rfl (by decide +kernel) ?_
    refine ww_goto (5) 56 (by decide +kernel) (by decide) ?_
    exact B_Model_playPacket_56 hF
set_option maxHeartbeats 4000000 in
set_option maxRecDepth 100000 in
theorem B_Model_rest_8 {l : Launch} {ca : Nat → ClassId} {a : Nat → Nat} {m9 : Mem} (n : Nat) : ∀ {m0 : Mem} {l1 : Int32}   (hF : F_Model_rest_8 n m0 l1 = some m9), WW l b_Model_rest 2 none R_Model (RM 0 0) ca a (EM ca a none m9) 8 [some (.ref (a 17)), some (.int l1)] [] m0 := by
  induction n with
  | zero => intros; rename_i hF; rw [F_Model_rest_8] at hF; cases hF
  | succ n ih =>
    intro m0 l1   hF
    rw [F_Model_rest_8] at hF
    refine ww_iload_1 9 rfl (by decide +kernel) ?_
    refine ww_bipush 11 rfl (16) (16 : Int32) (by decide +kernel) (by decide) ?_
    refine ww_icmp_ge 14 rfl (16) 27 (by decide +kernel) (by decide) (fun h => ?_) (fun h => ?_)
    · rw [if_pos h] at hF
      cases hF
      exact ww_vret (by decide +kernel) rfl
    · rw [if_neg h] at hF
      refine ww_aload_0 15 rfl (by decide +kernel) ?_
      refine ww_getr 18 rfl 8 11 19 21 (by decide +kernel) rfl k_Model_19 (by decide) (by decide) rfl rfl (by omega) ?_
      refine ww_iload_1 19 rfl (by decide +kernel) ?_
      refine ww_iconst 20 rfl (-1) (-1 : Int32) (by decide +kernel) (by decide) ?_
      obtain ⟨g2, hF⟩ := gd_at hF
      refine ww_iast 21 rfl (by decide +kernel) rfl g2 ?_
      refine ww_nmm (fun m3 em3 => ?_)
      replace hF := bnd_at hF em3
      refine ww_iinc_1 24 rfl (1) (1 : Int32) (by decide +kernel) (by decide) (by decide) ?_
      refine ww_goto (-16) 8 (by decide +kernel) (by decide) ?_
      exact ih hF
set_option maxHeartbeats 4000000 in
set_option maxRecDepth 100000 in
theorem C_Model_rest {l : Launch} {ca : Nat → ClassId} {a : Nat → Nat} {m0 : Mem}  {m9 : Mem}  (hF : F_Model_rest m0 = some m9) : CT l ca a y_Model_rest b_Model_rest 2 none (RM 0 0) [.ref (a 17)] m0 none m9 := by
  refine ct_of (own := R_Model) (lv := [some (.ref (a 17)), none]) (plainFor_of_name (by decide)) rfl (cat_ok rfl) (Nat.le_of_ble_eq_true rfl) rfl ?_
  unfold F_Model_rest at hF
  refine ww_aload_0 1 rfl (by decide +kernel) ?_
  refine ww_iconst 2 rfl (0) (0 : Int32) (by decide +kernel) (by decide) ?_
  refine ww_put 5 rfl 8 13 124 (by decide +kernel) rfl k_Model_124 (by decide) (by decide) rfl rfl rfl rfl rfl rfl ?_
  refine ww_nmm (fun m1 em1 => ?_)
  replace hF := bnd_at hF em1
  refine ww_bipush 7 rfl (8) (8 : Int32) (by decide +kernel) (by decide) ?_
  refine ww_istore_1 8 rfl (by decide +kernel) (by decide) ?_
  exact B_Model_rest_8 _ hF
set_option maxHeartbeats 4000000 in
set_option maxRecDepth 100000 in
theorem B_Model_conceal_58 {l : Launch} {ca : Nat → ClassId} {a : Nat → Nat} {m9 : Mem} (n : Nat) : ∀ {m0 : Mem} {l1 : Int32} {l2 : Int32}   (hF : F_Model_conceal_58 n m0 l1 l2 = some m9), WW l b_Model_conceal 3 none R_Model (RM 1 21) ca a (EM ca a none m9) 58 [some (.ref (a 17)), some (.int l1), some (.int l2)] [] m0 := by
  induction n with
  | zero => intros; rename_i hF; rw [F_Model_conceal_58] at hF; cases hF
  | succ n ih =>
    intro m0 l1 l2   hF
    rw [F_Model_conceal_58] at hF
    refine ww_iload_2 59 rfl (by decide +kernel) ?_
    refine ww_aload_0 60 rfl (by decide +kernel) ?_
    refine ww_geti 63 rfl 8 20 160 (by decide +kernel) rfl k_Model_160 (by decide) (by decide) rfl rfl ?_
    refine ww_icmp_ge 66 rfl (36) 99 (by decide +kernel) (by decide) (fun h => ?_) (fun h => ?_)
    · rw [if_pos h] at hF
      refine ww_aload_0 100 rfl (by decide +kernel) ?_
      refine ww_dup 101 rfl (by decide +kernel) rfl ?_
      refine ww_geti 104 rfl 8 18 163 (by decide +kernel) rfl k_Model_163 (by decide) (by decide) rfl rfl ?_
      refine ww_aload_0 105 rfl (by decide +kernel) ?_
      refine ww_geti 108 rfl 8 20 160 (by decide +kernel) rfl k_Model_160 (by decide) (by decide) rfl rfl ?_
      refine ww_iadd 109 rfl (by decide +kernel) ?_
      refine ww_put 112 rfl 8 18 163 (by decide +kernel) rfl k_Model_163 (by decide) (by decide) rfl rfl rfl rfl rfl rfl ?_
      refine ww_nmm (fun m7 em7 => ?_)
      replace hF := bnd_at hF em7
      cases hF
      exact ww_vret (by decide +kernel) rfl
    · rw [if_neg h] at hF
      refine ww_aload_0 67 rfl (by decide +kernel) ?_
      refine ww_getr 70 rfl 8 4 16 20 (by decide +kernel) rfl k_Model_16 (by decide) (by decide) rfl rfl (by omega) ?_
      refine ww_aload_0 71 rfl (by decide +kernel) ?_
      refine ww_geti 74 rfl 8 3 157 (by decide +kernel) rfl k_Model_157 (by decide) (by decide) rfl rfl ?_
      refine ww_aload_0 75 rfl (by decide +kernel) ?_
      refine ww_getr 78 rfl 8 21 29 23 (by decide +kernel) rfl k_Model_29 (by decide) (by decide) rfl rfl (by omega) ?_
      refine ww_iload_2 79 rfl (by decide +kernel) ?_
      obtain ⟨g8, hF⟩ := gd_at hF
      refine ww_iald 80 rfl (by decide +kernel) rfl g8 ?_
      refine ww_iload_1 81 rfl (by decide +kernel) ?_
      obtain ⟨g9, hF⟩ := gd_at hF
      refine ww_idiv 82 rfl (by decide +kernel) g9 ?_
      obtain ⟨g10, hF⟩ := gd_at hF
      refine ww_iast 83 rfl (by decide +kernel) rfl g10 ?_
      refine ww_nmm (fun m11 em11 => ?_)
      replace hF := bnd_at hF em11
      refine ww_aload_0 84 rfl (by decide +kernel) ?_
      refine ww_dup 85 rfl (by decide +kernel) rfl ?_
      refine ww_geti 88 rfl 8 3 157 (by decide +kernel) rfl k_Model_157 (by decide) (by decide) rfl rfl ?_
      refine ww_iconst 89 rfl (1) (1 : Int32) (by decide +kernel) (by decide) ?_
      refine ww_iadd 90 rfl (by decide +kernel) ?_
      refine ww_put 93 rfl 8 3 157 (by decide +kernel) rfl k_Model_157 (by decide) (by decide) rfl rfl rfl rfl rfl rfl ?_
      refine ww_nmm (fun m12 em12 => ?_)
      replace hF := bnd_at hF em12
      refine ww_iinc_2 96 rfl (1) (1 : Int32) (by decide +kernel) (by decide) (by decide) ?_
      refine ww_goto (-38) 58 (by decide +kernel) (by decide) ?_
      exact ih hF
set_option maxHeartbeats 4000000 in
set_option maxRecDepth 100000 in
theorem B_Model_conceal_38 {l : Launch} {ca : Nat → ClassId} {a : Nat → Nat} {m9 : Mem} (n : Nat) : ∀ {m0 : Mem} {l1 : Int32} {l2 : Int32}   (hF : F_Model_conceal_38 n m0 l1 l2 = some m9), WW l b_Model_conceal 3 none R_Model (RM 1 21) ca a (EM ca a none m9) 38 [some (.ref (a 17)), some (.int l1), some (.int l2)] [] m0 := by
  induction n with
  | zero => intros; rename_i hF; rw [F_Model_conceal_38] at hF; cases hF
  | succ n ih =>
    intro m0 l1 l2   hF
    rw [F_Model_conceal_38] at hF
    refine ww_iload_2 39 rfl (by decide +kernel) ?_
    refine ww_aload_0 40 rfl (by decide +kernel) ?_
    refine ww_geti 43 rfl 8 19 147 (by decide +kernel) rfl k_Model_147 (by decide) (by decide) rfl rfl ?_
    refine ww_icmp_ge 46 rfl (13) 56 (by decide +kernel) (by decide) (fun h => ?_) (fun h => ?_)
    · rw [if_pos h] at hF
      refine ww_iconst 57 rfl (0) (0 : Int32) (by decide +kernel) (by decide) ?_
      refine ww_istore_2 58 rfl (by decide +kernel) (by decide) ?_
      exact B_Model_conceal_58 _ hF
    · rw [if_neg h] at hF
      refine ww_iconst 47 rfl (2) (2 : Int32) (by decide +kernel) (by decide) ?_
      refine ww_iload_1 48 rfl (by decide +kernel) ?_
      refine ww_imul 49 rfl (by decide +kernel) ?_
      refine ww_nmi (fun v6 ev6 => ?_)
      replace hF := bnd_at hF ev6
      refine ww_istore_1 50 rfl (by decide +kernel) (by decide) ?_
      refine ww_iinc_2 53 rfl (1) (1 : Int32) (by decide +kernel) (by decide) (by decide) ?_
      refine ww_goto (-15) 38 (by decide +kernel) (by decide) ?_
      exact ih hF
set_option maxHeartbeats 4000000 in
set_option maxRecDepth 100000 in
theorem C_Model_conceal {l : Launch} {ca : Nat → ClassId} {a : Nat → Nat} {m0 : Mem}  {m9 : Mem}  (hF : F_Model_conceal m0 = some m9) : CT l ca a y_Model_conceal b_Model_conceal 3 none (RM 1 21) [.ref (a 17)] m0 none m9 := by
  refine ct_of (own := R_Model) (lv := [some (.ref (a 17)), none, none]) (plainFor_of_name (by decide)) rfl (cat_ok rfl) (Nat.le_of_ble_eq_true rfl) rfl ?_
  unfold F_Model_conceal at hF
  refine ww_aload_0 1 rfl (by decide +kernel) ?_
  refine ww_dup 2 rfl (by decide +kernel) rfl ?_
  refine ww_geti 5 rfl 8 19 147 (by decide +kernel) rfl k_Model_147 (by decide) (by decide) rfl rfl ?_
  refine ww_iconst 6 rfl (1) (1 : Int32) (by decide +kernel) (by decide) ?_
  refine ww_iadd 7 rfl (by decide +kernel) ?_
  refine ww_put 10 rfl 8 19 147 (by decide +kernel) rfl k_Model_147 (by decide) (by decide) rfl rfl rfl rfl rfl rfl ?_
  refine ww_nmm (fun m1 em1 => ?_)
  replace hF := bnd_at hF em1
  refine ww_aload_0 11 rfl (by decide +kernel) ?_
  refine ww_getr 14 rfl 8 22 32 24 (by decide +kernel) rfl k_Model_32 (by decide) (by decide) rfl rfl (by omega) ?_
  refine ww_bipush 16 rfl (8) (8 : Int32) (by decide +kernel) (by decide) ?_
  refine ww_dup2 17 rfl (by decide +kernel) rfl rfl ?_
  obtain ⟨g2, hF⟩ := gd_at hF
  refine ww_iald 18 rfl (by decide +kernel) rfl g2 ?_
  refine ww_iconst 19 rfl (1) (1 : Int32) (by decide +kernel) (by decide) ?_
  refine ww_iadd 20 rfl (by decide +kernel) ?_
  refine ww_iast 21 rfl (by decide +kernel) rfl g2 ?_
  refine ww_nmm (fun m3 em3 => ?_)
  replace hF := bnd_at hF em3
  refine ww_aload_0 22 rfl (by decide +kernel) ?_
  refine ww_geti 25 rfl 8 19 147 (by decide +kernel) rfl k_Model_147 (by decide) (by decide) rfl rfl ?_
  refine ww_iconst 26 rfl (5) (5 : Int32) (by decide +kernel) (by decide) ?_
  refine ww_icmp_ne 29 rfl (8) 34 (by decide +kernel) (by decide) (fun h => ?_) (fun h => ?_)
  · rw [if_neg h] at hF
    refine ww_iconst 35 rfl (1) (1 : Int32) (by decide +kernel) (by decide) ?_
    refine ww_istore_1 36 rfl (by decide +kernel) (by decide) ?_
    refine ww_iconst 37 rfl (0) (0 : Int32) (by decide +kernel) (by decide) ?_
    refine ww_istore_2 38 rfl (by decide +kernel) (by decide) ?_
    exact B_Model_conceal_38 _ hF
  · rw [if_pos h] at hF
    refine ww_aload_0 30 rfl (by decide +kernel) ?_
    obtain ⟨m5, h4, hF⟩ := rd_at hF
    refine ww_cV0v 33 rfl 8 166 (by decide +kernel) mf_Model_rest k_Model_166 rfl (by decide) rfl ⟨by decide, by decide⟩ ⟨rfl, rfl⟩ (Nat.le_of_ble_eq_true rfl) (C_Model_rest h4) ?_
    cases hF
    exact ww_vret (by decide +kernel) rfl
