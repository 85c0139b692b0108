set_option maxHeartbeats 4000000 in
set_option maxRecDepth 100000 in
theorem C_Model_codingOf {l : Launch} {ca : Nat → ClassId} {a : Nat → Nat} {m0 : Mem} {p1 : Int32} {r : Int32}  (hF : F_Model_codingOf m0 p1 = some r) : CT l ca a y_Model_codingOf b_Model_codingOf 3 (some .int) (RM 0 0) [.ref (a 17), .int p1] m0 (some (.int r)) m0 := by
  refine ct_of (own := R_Model) (lv := [some (.ref (a 17)), some (.int p1), none]) (plainFor_of_name (by decide)) rfl (cat_ok rfl) (Nat.le_of_ble_eq_true rfl) rfl ?_
  unfold F_Model_codingOf at hF
  refine ww_aload_0 1 rfl (by decide +kernel) ?_
  refine ww_getr 4 rfl 8 12 22 22 (by decide +kernel) rfl k_Model_22 (by decide) (by decide) rfl rfl (by omega) ?_
  refine ww_bipush 6 rfl (44) (44 : Int32) (by decide +kernel) (by decide) ?_
  refine ww_iload_1 7 rfl (by decide +kernel) ?_
  refine ww_imul 8 rfl (by decide +kernel) ?_
  refine ww_iconst 9 rfl (1) (1 : Int32) (by decide +kernel) (by decide) ?_
  refine ww_iadd 10 rfl (by decide +kernel) ?_
  obtain ⟨g1, hF⟩ := gd_at hF
  refine ww_iald 11 rfl (by decide +kernel) rfl g1 ?_
  refine ww_sipush 14 rfl (128) (128 : Int32) (by decide +kernel) (by decide) ?_
  refine ww_irem 15 rfl (by decide +kernel) (by decide) ?_
  refine ww_nmi (fun v2 ev2 => ?_)
  replace hF := bnd_at hF ev2
  refine ww_istore_2 16 rfl (by decide +kernel) (by decide) ?_
  refine ww_iload_2 17 rfl (by decide +kernel) ?_
  refine ww_bipush 19 rfl (8) (8 : Int32) (by decide +kernel) (by decide) ?_
  refine ww_icmp_ne 22 rfl (7) 26 (by decide +kernel) (by decide) (fun h => ?_) (fun h => ?_)
  · rw [if_neg h] at hF
    refine ww_iload_2 27 rfl (by decide +kernel) ?_
    refine ww_if_ne 30 rfl (7) 34 (by decide +kernel) (by decide) (fun h => ?_) (fun h => ?_)
    · rw [if_neg h] at hF
      refine ww_iload_2 35 rfl (by decide +kernel) ?_
      refine ww_iconst 36 rfl (5) (5 : Int32) (by decide +kernel) (by decide) ?_
      refine ww_icmp_ne 39 rfl (7) 43 (by decide +kernel) (by decide) (fun h => ?_) (fun h => ?_)
      · rw [if_neg h] at hF
        refine ww_iload_2 44 rfl (by decide +kernel) ?_
        refine ww_bipush 46 rfl (11) (11 : Int32) (by decide +kernel) (by decide) ?_
        refine ww_icmp_ne 49 rfl (7) 53 (by decide +kernel) (by decide) (fun h => ?_) (fun h => ?_)
        · rw [if_neg h] at hF
          refine ww_iconst 54 rfl (-1) (-1 : Int32) (by decide +kernel) (by decide) ?_
          cases hF
          exact ww_iret (by decide +kernel) rfl
        · rw [if_pos h] at hF
          refine ww_iconst 50 rfl (3) (3 : Int32) (by decide +kernel) (by decide) ?_
          refine ww_goto (4) 54 (by decide +kernel) (by decide) ?_
          cases hF
          exact ww_iret (by decide +kernel) rfl
      · rw [if_pos h] at hF
        refine ww_iconst 40 rfl (2) (2 : Int32) (by decide +kernel) (by decide) ?_
        refine ww_goto (14) 54 (by decide +kernel) (by decide) ?_
        cases hF
        exact ww_iret (by decide +kernel) rfl
    · rw [if_pos h] at hF
      refine ww_iconst 31 rfl (1) (1 : Int32) (by decide +kernel) (by decide) ?_
      refine ww_goto (23) 54 (by decide +kernel) (by decide) ?_
      cases hF
      exact ww_iret (by decide +kernel) rfl
  · rw [if_pos h] at hF
    refine ww_iconst 23 rfl (0) (0 : Int32) (by decide +kernel) (by decide) ?_
    refine ww_goto (31) 54 (by decide +kernel) (by decide) ?_
    cases hF
    exact ww_iret (by decide +kernel) rfl
set_option maxHeartbeats 4000000 in
set_option maxRecDepth 100000 in
theorem B_Model_samplesOf_145 {l : Launch} {ca : Nat → ClassId} {a : Nat → Nat} {m0 : Mem} {l5 : Int32} {s0 : Int32} {z0 : Option Value} {z1 : Option Value} {z2 : Option Value} {z3 : Option Value} {z4 : Option Value} {z6 : Option Value} {r : Int32}  (hF : F_Model_samplesOf_145 m0 l5 s0 = some r) : WW l b_Model_samplesOf 7 (some .int) R_Model (RM 1 22) ca a (EM ca a (some (.int r)) m0) 145 [z0, z1, z2, z3, z4, some (.int l5), z6] [.int s0] m0 := by
  unfold F_Model_samplesOf_145 at hF
  refine ww_istore_6 147 rfl (by decide +kernel) (by decide) ?_
  refine ww_iload_5 149 rfl (by decide +kernel) ?_
  refine ww_if_eq 152 rfl (15) 164 (by decide +kernel) (by decide) (fun h => ?_) (fun h => ?_)
  · rw [if_pos h] at hF
    refine ww_iconst 165 rfl (0) (0 : Int32) (by decide +kernel) (by decide) ?_
    cases hF
    exact ww_iret (by decide +kernel) rfl
  · rw [if_neg h] at hF
    refine ww_iload_6 154 rfl (by decide +kernel) ?_
    refine ww_bipush 156 rfl (16) (16 : Int32) (by decide +kernel) (by decide) ?_
    refine ww_icmp_gt 159 rfl (8) 164 (by decide +kernel) (by decide) (fun h => ?_) (fun h => ?_)
    · rw [if_pos h] at hF
      refine ww_iconst 165 rfl (0) (0 : Int32) (by decide +kernel) (by decide) ?_
      cases hF
      exact ww_iret (by decide +kernel) rfl
    · rw [if_neg h] at hF
      refine ww_iload_6 161 rfl (by decide +kernel) ?_
      refine ww_goto (4) 165 (by decide +kernel) (by decide) ?_
      cases hF
      exact ww_iret (by decide +kernel) rfl
set_option maxHeartbeats 4000000 in
set_option maxRecDepth 100000 in
theorem B_Model_samplesOf_116 {l : Launch} {ca : Nat → ClassId} {a : Nat → Nat} {m0 : Mem} {l2 : Int32} {l4 : Int32} {s0 : Int32} {z0 : Option Value} {z1 : Option Value} {z3 : Option Value} {z5 : Option Value} {z6 : Option Value} {r : Int32}  (hF : F_Model_samplesOf_116 m0 l2 l4 s0 = some r) : WW l b_Model_samplesOf 7 (some .int) R_Model (RM 1 22) ca a (EM ca a (some (.int r)) m0) 116 [z0, z1, some (.int l2), z3, some (.int l4), z5, z6] [.int s0] m0 := by
  unfold F_Model_samplesOf_116 at hF
  refine ww_istore_5 118 rfl (by decide +kernel) (by decide) ?_
  refine ww_iload_4 120 rfl (by decide +kernel) ?_
  refine ww_iconst 121 rfl (3) (3 : Int32) (by decide +kernel) (by decide) ?_
  refine ww_icmp_ne 124 rfl (9) 130 (by decide +kernel) (by decide) (fun h => ?_) (fun h => ?_)
  · rw [if_neg h] at hF
    refine ww_iload_4 132 rfl (by decide +kernel) ?_
    refine ww_iconst 133 rfl (2) (2 : Int32) (by decide +kernel) (by decide) ?_
    refine ww_icmp_ne 136 rfl (11) 144 (by decide +kernel) (by decide) (fun h => ?_) (fun h => ?_)
    · rw [if_neg h] at hF
      refine ww_iload_2 145 rfl (by decide +kernel) ?_
      exact B_Model_samplesOf_145 hF
    · rw [if_pos h] at hF
      refine ww_iconst 137 rfl (2) (2 : Int32) (by decide +kernel) (by decide) ?_
      refine ww_iload_2 138 rfl (by decide +kernel) ?_
      refine ww_iconst 139 rfl (4) (4 : Int32) (by decide +kernel) (by decide) ?_
      refine ww_isub 140 rfl (by decide +kernel) ?_
      refine ww_imul 141 rfl (by decide +kernel) ?_
      refine ww_goto (4) 145 (by decide +kernel) (by decide) ?_
      exact B_Model_samplesOf_145 hF
  · rw [if_pos h] at hF
    refine ww_iload_2 125 rfl (by decide +kernel) ?_
    refine ww_iconst 126 rfl (2) (2 : Int32) (by decide +kernel) (by decide) ?_
    refine ww_idiv 127 rfl (by decide +kernel) (by decide) ?_
    refine ww_goto (18) 145 (by decide +kernel) (by decide) ?_
    exact B_Model_samplesOf_145 hF
set_option maxHeartbeats 4000000 in
set_option maxRecDepth 100000 in
theorem C_Model_samplesOf {l : Launch} {ca : Nat → ClassId} {a : Nat → Nat} {m0 : Mem} {p1 : Int32} {r : Int32}  (hF : F_Model_samplesOf m0 p1 = some r) : CT l ca a y_Model_samplesOf b_Model_samplesOf 7 (some .int) (RM 1 22) [.ref (a 17), .int p1] m0 (some (.int r)) m0 := by
  refine ct_of (own := R_Model) (lv := [some (.ref (a 17)), some (.int p1), none, none, none, none, none]) (plainFor_of_name (by decide)) rfl (cat_ok rfl) (Nat.le_of_ble_eq_true rfl) rfl ?_
  unfold F_Model_samplesOf at hF
  refine ww_aload_0 1 rfl (by decide +kernel) ?_
  refine ww_getr 4 rfl 8 11 19 21 (by decide +kernel) rfl k_Model_19 (by decide) (by decide) rfl rfl (by omega) ?_
  refine ww_iload_1 5 rfl (by decide +kernel) ?_
  obtain ⟨g1, hF⟩ := gd_at hF
  refine ww_iald 6 rfl (by decide +kernel) rfl g1 ?_
  refine ww_bipush 8 rfl (12) (12 : Int32) (by decide +kernel) (by decide) ?_
  refine ww_isub 9 rfl (by decide +kernel) ?_
  refine ww_nmi (fun v2 ev2 => ?_)
  replace hF := bnd_at hF ev2
  refine ww_istore_2 10 rfl (by decide +kernel) (by decide) ?_
  refine ww_bipush 12 rfl (44) (44 : Int32) (by decide +kernel) (by decide) ?_
  refine ww_iload_1 13 rfl (by decide +kernel) ?_
  refine ww_imul 14 rfl (by decide +kernel) ?_
  refine ww_nmi (fun v3 ev3 => ?_)
  replace hF := bnd_at hF ev3
  refine ww_istore_3 15 rfl (by decide +kernel) (by decide) ?_
  refine ww_iload_2 16 rfl (by decide +kernel) ?_
  refine ww_iconst 17 rfl (1) (1 : Int32) (by decide +kernel) (by decide) ?_
  refine ww_icmp_lt 20 rfl (15) 32 (by decide +kernel) (by decide) (fun h => ?_) (fun h => ?_)
  · rw [if_pos h] at hF
    refine ww_iconst 33 rfl (0) (0 : Int32) (by decide +kernel) (by decide) ?_
    cases hF
    exact ww_iret (by decide +kernel) rfl
  · rw [if_neg h] at hF
    refine ww_aload_0 21 rfl (by decide +kernel) ?_
    refine ww_getr 24 rfl 8 12 22 22 (by decide +kernel) rfl k_Model_22 (by decide) (by decide) rfl rfl (by omega) ?_
    refine ww_iload_3 25 rfl (by decide +kernel) ?_
    obtain ⟨g4, hF⟩ := gd_at hF
    refine ww_iald 26 rfl (by decide +kernel) rfl g4 ?_
    refine ww_sipush 29 rfl (128) (128 : Int32) (by decide +kernel) (by decide) ?_
    refine ww_icmp_eq 32 rfl (5) 34 (by decide +kernel) (by decide) (fun h => ?_) (fun h => ?_)
    · rw [if_pos h] at hF
      refine ww_aload_0 35 rfl (by decide +kernel) ?_
      refine ww_iload_1 36 rfl (by decide +kernel) ?_
      obtain ⟨r6, h5, hF⟩ := rd_at hF
      refine ww_cV1i 39 rfl 8 113 (by decide +kernel) mf_Model_codingOf k_Model_113 rfl (by decide) rfl ⟨by decide, by decide⟩ ⟨rfl, rfl⟩ (Nat.le_of_ble_eq_true rfl) (C_Model_codingOf h5) ?_
      refine ww_istore_4 41 rfl (by decide +kernel) (by decide) ?_
      refine ww_iload_4 43 rfl (by decide +kernel) ?_
      refine ww_iconst 44 rfl (3) (3 : Int32) (by decide +kernel) (by decide) ?_
      refine ww_icmp_ne 47 rfl (17) 61 (by decide +kernel) (by decide) (fun h => ?_) (fun h => ?_)
      · rw [if_neg h] at hF
        refine ww_iload_4 63 rfl (by decide +kernel) ?_
        refine ww_iconst 64 rfl (2) (2 : Int32) (by decide +kernel) (by decide) ?_
        refine ww_icmp_ne 67 rfl (42) 106 (by decide +kernel) (by decide) (fun h => ?_) (fun h => ?_)
        · rw [if_neg h] at hF
          refine ww_iload_4 108 rfl (by decide +kernel) ?_
          refine ww_if_lt 111 rfl (7) 115 (by decide +kernel) (by decide) (fun h => ?_) (fun h => ?_)
          · rw [if_pos h] at hF
            refine ww_iconst 116 rfl (0) (0 : Int32) (by decide +kernel) (by decide) ?_
            exact B_Model_samplesOf_116 hF
          · rw [if_neg h] at hF
            refine ww_iconst 112 rfl (1) (1 : Int32) (by decide +kernel) (by decide) ?_
            refine ww_goto (4) 116 (by decide +kernel) (by decide) ?_
            exact B_Model_samplesOf_116 hF
        · rw [if_pos h] at hF
          refine ww_iload_2 68 rfl (by decide +kernel) ?_
          refine ww_iconst 69 rfl (4) (4 : Int32) (by decide +kernel) (by decide) ?_
          refine ww_icmp_le 72 rfl (33) 102 (by decide +kernel) (by decide) (fun h => ?_) (fun h => ?_)
          · rw [if_pos h] at hF
            refine ww_iconst 103 rfl (0) (0 : Int32) (by decide +kernel) (by decide) ?_
            refine ww_goto (13) 116 (by decide +kernel) (by decide) ?_
            exact B_Model_samplesOf_116 hF
          · rw [if_neg h] at hF
            refine ww_aload_0 73 rfl (by decide +kernel) ?_
            refine ww_getr 76 rfl 8 12 22 22 (by decide +kernel) rfl k_Model_22 (by decide) (by decide) rfl rfl (by omega) ?_
            refine ww_iload_3 77 rfl (by decide +kernel) ?_
            refine ww_bipush 79 rfl (14) (14 : Int32) (by decide +kernel) (by decide) ?_
            refine ww_iadd 80 rfl (by decide +kernel) ?_
            obtain ⟨g7, hF⟩ := gd_at hF
            refine ww_iald 81 rfl (by decide +kernel) rfl g7 ?_
            refine ww_bipush 83 rfl (88) (88 : Int32) (by decide +kernel) (by decide) ?_
            refine ww_icmp_gt 86 rfl (19) 102 (by decide +kernel) (by decide) (fun h => ?_) (fun h => ?_)
            · rw [if_pos h] at hF
              refine ww_iconst 103 rfl (0) (0 : Int32) (by decide +kernel) (by decide) ?_
              refine ww_goto (13) 116 (by decide +kernel) (by decide) ?_
              exact B_Model_samplesOf_116 hF
            · rw [if_neg h] at hF
              refine ww_aload_0 87 rfl (by decide +kernel) ?_
              refine ww_getr 90 rfl 8 12 22 22 (by decide +kernel) rfl k_Model_22 (by decide) (by decide) rfl rfl (by omega) ?_
              refine ww_iload_3 91 rfl (by decide +kernel) ?_
              refine ww_bipush 93 rfl (15) (15 : Int32) (by decide +kernel) (by decide) ?_
              refine ww_iadd 94 rfl (by decide +kernel) ?_
              obtain ⟨g8, hF⟩ := gd_at hF
              refine ww_iald 95 rfl (by decide +kernel) rfl g8 ?_
              refine ww_if_ne 98 rfl (7) 102 (by decide +kernel) (by decide) (fun h => ?_) (fun h => ?_)
              · rw [if_neg h] at hF
                refine ww_iconst 103 rfl (0) (0 : Int32) (by decide +kernel) (by decide) ?_
                refine ww_goto (13) 116 (by decide +kernel) (by decide) ?_
                exact B_Model_samplesOf_116 hF
              · rw [if_pos h] at hF
                refine ww_iconst 99 rfl (1) (1 : Int32) (by decide +kernel) (by decide) ?_
                refine ww_goto (17) 116 (by decide +kernel) (by decide) ?_
                exact B_Model_samplesOf_116 hF
      · rw [if_pos h] at hF
        refine ww_iload_2 48 rfl (by decide +kernel) ?_
        refine ww_iconst 49 rfl (2) (2 : Int32) (by decide +kernel) (by decide) ?_
        refine ww_irem 50 rfl (by decide +kernel) (by decide) ?_
        refine ww_if_ne 53 rfl (7) 57 (by decide +kernel) (by decide) (fun h => ?_) (fun h => ?_)
        · rw [if_neg h] at hF
          refine ww_iconst 58 rfl (0) (0 : Int32) (by decide +kernel) (by decide) ?_
          refine ww_goto (58) 116 (by decide +kernel) (by decide) ?_
          exact B_Model_samplesOf_116 hF
        · rw [if_pos h] at hF
          refine ww_iconst 54 rfl (1) (1 : Int32) (by decide +kernel) (by decide) ?_
          refine ww_goto (62) 116 (by decide +kernel) (by decide) ?_
          exact B_Model_samplesOf_116 hF
    · rw [if_neg h] at hF
      refine ww_iconst 33 rfl (0) (0 : Int32) (by decide +kernel) (by decide) ?_
      cases hF
      exact ww_iret (by decide +kernel) rfl
set_option maxHeartbeats 4000000 in
set_option maxRecDepth 100000 in
theorem C_Model_pair {l : Launch} {ca : Nat → ClassId} {a : Nat → Nat} {m0 : Mem} {p1 : Int32} {p2 : Int32} {r : Int32}  (hF : F_Model_pair m0 p1 p2 = some r) : CT l ca a y_Model_pair b_Model_pair 3 (some .int) (RM 0 0) [.ref (a 17), .int p1, .int p2] m0 (some (.int r)) m0 := by
  refine ct_of (own := R_Model) (lv := [some (.ref (a 17)), some (.int p1), some (.int p2)]) (plainFor_of_name (by decide)) rfl (cat_ok rfl) (Nat.le_of_ble_eq_true rfl) rfl ?_
  unfold F_Model_pair at hF
  refine ww_sipush 3 rfl (256) (256 : Int32) (by decide +kernel) (by decide) ?_
  refine ww_aload_0 4 rfl (by decide +kernel) ?_
  refine ww_getr 7 rfl 8 12 22 22 (by decide +kernel) rfl k_Model_22 (by decide) (by decide) rfl rfl (by omega) ?_
  refine ww_bipush 9 rfl (44) (44 : Int32) (by decide +kernel) (by decide) ?_
  refine ww_iload_1 10 rfl (by decide +kernel) ?_
  refine ww_imul 11 rfl (by decide +kernel) ?_
  refine ww_iload_2 12 rfl (by decide +kernel) ?_
  refine ww_iadd 13 rfl (by decide +kernel) ?_
  obtain ⟨g1, hF⟩ := gd_at hF
  refine ww_iald 14 rfl (by decide +kernel) rfl g1 ?_
  refine ww_imul 15 rfl (by decide +kernel) ?_
  refine ww_aload_0 16 rfl (by decide +kernel) ?_
  refine ww_getr 19 rfl 8 12 22 22 (by decide +kernel) rfl k_Model_22 (by decide) (by decide) rfl rfl (by omega) ?_
  refine ww_bipush 21 rfl (44) (44 : Int32) (by decide +kernel) (by decide) ?_
  refine ww_iload_1 22 rfl (by decide +kernel) ?_
  refine ww_imul 23 rfl (by decide +kernel) ?_
  refine ww_iload_2 24 rfl (by decide +kernel) ?_
  refine ww_iadd 25 rfl (by decide +kernel) ?_
  refine ww_iconst 26 rfl (1) (1 : Int32) (by decide +kernel) (by decide) ?_
  refine ww_iadd 27 rfl (by decide +kernel) ?_
  obtain ⟨g2, hF⟩ := gd_at hF
  refine ww_iald 28 rfl (by decide +kernel) rfl g2 ?_
  refine ww_iadd 29 rfl (by decide +kernel) ?_
  cases hF
  exact ww_iret (by decide +kernel) rfl
set_option maxHeartbeats 4000000 in
set_option maxRecDepth 100000 in
theorem C_Model_word {l : Launch} {ca : Nat → ClassId} {a : Nat → Nat} {m0 : Mem} {p1 : Int32} {p2 : Int32} {r : Int32}  (hF : F_Model_word m0 p1 p2 = some r) : CT l ca a y_Model_word b_Model_word 5 (some .int) (RM 1 22) [.ref (a 17), .int p1, .int p2] m0 (some (.int r)) m0 := by
  refine ct_of (own := R_Model) (lv := [some (.ref (a 17)), some (.int p1), some (.int p2), none, none]) (plainFor_of_name (by decide)) rfl (cat_ok rfl) (Nat.le_of_ble_eq_true rfl) rfl ?_
  unfold F_Model_word at hF
  refine ww_aload_0 1 rfl (by decide +kernel) ?_
  refine ww_iload_1 2 rfl (by decide +kernel) ?_
  refine ww_iload_2 3 rfl (by decide +kernel) ?_
  obtain ⟨r2, h1, hF⟩ := rd_at hF
  refine ww_cV2i 6 rfl 8 110 (by decide +kernel) mf_Model_pair k_Model_110 rfl (by decide) rfl ⟨by decide, by decide⟩ ⟨rfl, rfl⟩ (Nat.le_of_ble_eq_true rfl) (C_Model_pair h1) ?_
  refine ww_istore_3 7 rfl (by decide +kernel) (by decide) ?_
  refine ww_aload_0 8 rfl (by decide +kernel) ?_
  refine ww_iload_1 9 rfl (by decide +kernel) ?_
  refine ww_iload_2 10 rfl (by decide +kernel) ?_
  refine ww_iconst 11 rfl (2) (2 : Int32) (by decide +kernel) (by decide) ?_
  refine ww_iadd 12 rfl (by decide +kernel) ?_
  obtain ⟨r4, h3, hF⟩ := rd_at hF
  refine ww_cV2i 15 rfl 8 110 (by decide +kernel) mf_Model_pair k_Model_110 rfl (by decide) rfl ⟨by decide, by decide⟩ ⟨rfl, rfl⟩ (Nat.le_of_ble_eq_true rfl) (C_Model_pair h3) ?_
  refine ww_istore_4 17 rfl (by decide +kernel) (by decide) ?_
  refine ww_iload_3 18 rfl (by decide +kernel) ?_
  refine ww_bipush 20 rfl (16) (16 : Int32) (by decide +kernel) (by decide) ?_
  refine ww_ishl 21 rfl (by decide +kernel) ?_
  refine ww_iload_4 23 rfl (by decide +kernel) ?_
  refine ww_ior 24 rfl (by decide +kernel) ?_
  cases hF
  exact ww_iret (by decide +kernel) rfl
set_option maxHeartbeats 4000000 in
set_option maxRecDepth 100000 in
theorem C_Model_distance {l : Launch} {ca : Nat → ClassId} {a : Nat → Nat} {m0 : Mem} {p1 : Int32} {r : Int32}  (hF : F_Model_distance m0 p1 = some r) : CT l ca a y_Model_distance b_Model_distance 3 (some .int) (RM 0 0) [.ref (a 17), .int p1] m0 (some (.int r)) m0 := by
  refine ct_of (own := R_Model) (lv := [some (.ref (a 17)), some (.int p1), none]) (plainFor_of_name (by decide)) rfl (cat_ok rfl) (Nat.le_of_ble_eq_true rfl) rfl ?_
  unfold F_Model_distance at hF
  refine ww_iload_1 1 rfl (by decide +kernel) ?_
  refine ww_aload_0 2 rfl (by decide +kernel) ?_
  refine ww_geti 5 rfl 8 14 116 (by decide +kernel) rfl k_Model_116 (by decide) (by decide) rfl rfl ?_
  refine ww_isub 6 rfl (by decide +kernel) ?_
  refine ww_ldc 8 rfl 119 (131072 : Int32) (by decide +kernel) k_Model_119 ?_
  refine ww_iadd 9 rfl (by decide +kernel) ?_
  refine ww_ldc 11 rfl 120 (65536 : Int32) (by decide +kernel) k_Model_120 ?_
  refine ww_irem 12 rfl (by decide +kernel) (by decide) ?_
  refine ww_nmi (fun v1 ev1 => ?_)
  replace hF := bnd_at hF ev1
  refine ww_istore_2 13 rfl (by decide +kernel) (by decide) ?_
  refine ww_iload_2 14 rfl (by decide +kernel) ?_
  refine ww_sipush 17 rfl (32767) (32767 : Int32) (by decide +kernel) (by decide) ?_
  refine ww_icmp_le 20 rfl (10) 27 (by decide +kernel) (by decide) (fun h => ?_) (fun h => ?_)
  · rw [if_pos h] at hF
    refine ww_iload_2 28 rfl (by decide +kernel) ?_
    cases hF
    exact ww_iret (by decide +kernel) rfl
  · rw [if_neg h] at hF
    refine ww_iload_2 21 rfl (by decide +kernel) ?_
    refine ww_ldc 23 rfl 120 (65536 : Int32) (by decide +kernel) k_Model_120 ?_
    refine ww_isub 24 rfl (by decide +kernel) ?_
    refine ww_goto (4) 28 (by decide +kernel) (by decide) ?_
    cases hF
    exact ww_iret (by decide +kernel) rfl
set_option maxHeartbeats 4000000 in
set_option maxRecDepth 100000 in
theorem B_Model_held_3 {l : Launch} {ca : Nat → ClassId} {a : Nat → Nat} {r : Int32} (n : Nat) : ∀ {m0 : Mem} {l1 : Int32} {l2 : Int32}   (hF : F_Model_held_3 n m0 l1 l2 = some r), WW l b_Model_held 3 (some .int) R_Model (RM 1 22) ca a (EM ca a (some (.int r)) m0) 3 [some (.ref (a 17)), some (.int l1), some (.int l2)] [] m0 := by
  induction n with
  | zero => intros; rename_i hF; rw [F_Model_held_3] at hF; cases hF
  | succ n ih =>
    intro m0 l1 l2   hF
    rw [F_Model_held_3] at hF
    refine ww_iload_2 4 rfl (by decide +kernel) ?_
    refine ww_bipush 6 rfl (16) (16 : Int32) (by decide +kernel) (by decide) ?_
    refine ww_icmp_ge 9 rfl (30) 36 (by decide +kernel) (by decide) (fun h => ?_) (fun h => ?_)
    · rw [if_pos h] at hF
      refine ww_iconst 37 rfl (-1) (-1 : Int32) (by decide +kernel) (by decide) ?_
      cases hF
      exact ww_iret (by decide +kernel) rfl
    · rw [if_neg h] at hF
      refine ww_aload_0 10 rfl (by decide +kernel) ?_
      refine ww_getr 13 rfl 8 11 19 21 (by decide +kernel) rfl k_Model_19 (by decide) (by decide) rfl rfl (by omega) ?_
      refine ww_iload_2 14 rfl (by decide +kernel) ?_
      obtain ⟨g1, hF⟩ := gd_at hF
      refine ww_iald 15 rfl (by decide +kernel) rfl g1 ?_
      refine ww_if_lt 18 rfl (15) 30 (by decide +kernel) (by decide) (fun h => ?_) (fun h => ?_)
      · rw [if_pos h] at hF
        refine ww_iinc_2 33 rfl (1) (1 : Int32) (by decide +kernel) (by decide) (by decide) ?_
        refine ww_goto (-30) 3 (by decide +kernel) (by decide) ?_
        exact ih hF
      · rw [if_neg h] at hF
        refine ww_aload_0 19 rfl (by decide +kernel) ?_
        refine ww_iload_2 20 rfl (by decide +kernel) ?_
        refine ww_iconst 21 rfl (2) (2 : Int32) (by decide +kernel) (by decide) ?_
        obtain ⟨r3, h2, hF⟩ := rd_at hF
        refine ww_cV2i 24 rfl 8 110 (by decide +kernel) mf_Model_pair k_Model_110 rfl (by decide) rfl ⟨by decide, by decide⟩ ⟨rfl, rfl⟩ (Nat.le_of_ble_eq_true rfl) (C_Model_pair h2) ?_
        refine ww_iload_1 25 rfl (by decide +kernel) ?_
        refine ww_icmp_ne 28 rfl (5) 30 (by decide +kernel) (by decide) (fun h => ?_) (fun h => ?_)
        · rw [if_neg h] at hF
          refine ww_iinc_2 33 rfl (1) (1 : Int32) (by decide +kernel) (by decide) (by decide) ?_
          refine ww_goto (-30) 3 (by decide +kernel) (by decide) ?_
          exact ih hF
        · rw [if_pos h] at hF
          refine ww_iload_2 29 rfl (by decide +kernel) ?_
          cases hF
          exact ww_iret (by decide +kernel) rfl
set_option maxHeartbeats 4000000 in
set_option maxRecDepth 100000 in
theorem C_Model_held {l : Launch} {ca : Nat → ClassId} {a : Nat → Nat} {m0 : Mem} {p1 : Int32} {r : Int32}  (hF : F_Model_held m0 p1 = some r) : CT l ca a y_Model_held b_Model_held 3 (some .int) (RM 1 22) [.ref (a 17), .int p1] m0 (some (.int r)) m0 := by
  refine ct_of (own := R_Model) (lv := [some (.ref (a 17)), some (.int p1), none]) (plainFor_of_name (by decide)) rfl (cat_ok rfl) (Nat.le_of_ble_eq_true rfl) rfl ?_
  unfold F_Model_held at hF
  refine ww_bipush 2 rfl (8) (8 : Int32) (by decide +kernel) (by decide) ?_
  refine ww_istore_2 3 rfl (by decide +kernel) (by decide) ?_
  exact B_Model_held_3 _ hF
