set_option maxHeartbeats 4000000 in
set_option maxRecDepth 100000 in
theorem C_Model_refusal {l : Launch} {ca : Nat → ClassId} {a : Nat → Nat} {m0 : Mem}  {r : Int32}  (hF : F_Model_refusal m0 = some r) : CT l ca a y_Model_refusal b_Model_refusal 5 (some .int) (RM 2 48) [.ref (a 17)] m0 (some (.int r)) m0 := by
  refine ct_of (own := R_Model) (lv := [some (.ref (a 17)), none, none, none, none]) (plainFor_of_name (by decide)) rfl (cat_ok rfl) (Nat.le_of_ble_eq_true rfl) rfl ?_
  unfold F_Model_refusal at hF
  refine ww_aload_0 1 rfl (by decide +kernel) ?_
  refine ww_iconst 2 rfl (0) (0 : Int32) (by decide +kernel) (by decide) ?_
  obtain ⟨r2, h1, hF⟩ := rd_at hF
  refine ww_cV1i 5 rfl 8 121 (by decide +kernel) mf_Model_samplesOf k_Model_121 rfl (by decide) rfl ⟨by decide, by decide⟩ ⟨rfl, rfl⟩ (Nat.le_of_ble_eq_true rfl) (C_Model_samplesOf h1) ?_
  refine ww_if_ne 8 rfl (5) 10 (by decide +kernel) (by decide) (fun h => ?_) (fun h => ?_)
  · rw [if_neg h] at hF
    refine ww_aload_0 11 rfl (by decide +kernel) ?_
    refine ww_geti 14 rfl 8 13 124 (by decide +kernel) rfl k_Model_124 (by decide) (by decide) rfl rfl ?_
    refine ww_if_ne 17 rfl (5) 19 (by decide +kernel) (by decide) (fun h => ?_) (fun h => ?_)
    · rw [if_neg h] at hF
      refine ww_aload_0 20 rfl (by decide +kernel) ?_
      refine ww_iconst 21 rfl (0) (0 : Int32) (by decide +kernel) (by decide) ?_
      refine ww_iconst 22 rfl (2) (2 : Int32) (by decide +kernel) (by decide) ?_
      obtain ⟨r4, h3, hF⟩ := rd_at hF
      refine ww_cV2i 25 rfl 8 110 (by decide +kernel) mf_Model_pair k_Model_110 rfl (by decide) rfl ⟨by decide, by decide⟩ ⟨rfl, rfl⟩ (Nat.le_of_ble_eq_true rfl) (C_Model_pair h3) ?_
      refine ww_istore_1 26 rfl (by decide +kernel) (by decide) ?_
      refine ww_aload_0 27 rfl (by decide +kernel) ?_
      refine ww_iconst 28 rfl (0) (0 : Int32) (by decide +kernel) (by decide) ?_
      refine ww_bipush 30 rfl (8) (8 : Int32) (by decide +kernel) (by decide) ?_
      obtain ⟨r6, h5, hF⟩ := rd_at hF
      refine ww_cV2i 33 rfl 8 127 (by decide +kernel) mf_Model_word k_Model_127 rfl (by decide) rfl ⟨by decide, by decide⟩ ⟨rfl, rfl⟩ (Nat.le_of_ble_eq_true rfl) (C_Model_word h5) ?_
      refine ww_istore_2 34 rfl (by decide +kernel) (by decide) ?_
      refine ww_aload_0 35 rfl (by decide +kernel) ?_
      refine ww_iload_1 36 rfl (by decide +kernel) ?_
      obtain ⟨r8, h7, hF⟩ := rd_at hF
      refine ww_cV1i 39 rfl 8 130 (by decide +kernel) mf_Model_distance k_Model_130 rfl (by decide) rfl ⟨by decide, by decide⟩ ⟨rfl, rfl⟩ (Nat.le_of_ble_eq_true rfl) (C_Model_distance h7) ?_
      refine ww_istore_3 40 rfl (by decide +kernel) (by decide) ?_
      refine ww_aload_0 41 rfl (by decide +kernel) ?_
      refine ww_iload_1 42 rfl (by decide +kernel) ?_
      obtain ⟨r10, h9, hF⟩ := rd_at hF
      refine ww_cV1i 45 rfl 8 133 (by decide +kernel) mf_Model_held k_Model_133 rfl (by decide) rfl ⟨by decide, by decide⟩ ⟨rfl, rfl⟩ (Nat.le_of_ble_eq_true rfl) (C_Model_held h9) ?_
      refine ww_istore_4 47 rfl (by decide +kernel) (by decide) ?_
      refine ww_iload_2 48 rfl (by decide +kernel) ?_
      refine ww_aload_0 49 rfl (by decide +kernel) ?_
      refine ww_geti 52 rfl 8 15 136 (by decide +kernel) rfl k_Model_136 (by decide) (by decide) rfl rfl ?_
      refine ww_icmp_eq 55 rfl (8) 60 (by decide +kernel) (by decide) (fun h => ?_) (fun h => ?_)
      · rw [if_pos h] at hF
        refine ww_iload_3 61 rfl (by decide +kernel) ?_
        refine ww_if_ge 64 rfl (8) 69 (by decide +kernel) (by decide) (fun h => ?_) (fun h => ?_)
        · rw [if_pos h] at hF
          refine ww_iload_3 70 rfl (by decide +kernel) ?_
          refine ww_bipush 72 rfl (7) (7 : Int32) (by decide +kernel) (by decide) ?_
          refine ww_icmp_le 75 rfl (8) 80 (by decide +kernel) (by decide) (fun h => ?_) (fun h => ?_)
          · rw [if_pos h] at hF
            refine ww_iload_4 82 rfl (by decide +kernel) ?_
            refine ww_if_lt 85 rfl (8) 90 (by decide +kernel) (by decide) (fun h => ?_) (fun h => ?_)
            · rw [if_pos h] at hF
              refine ww_iconst 91 rfl (0) (0 : Int32) (by decide +kernel) (by decide) ?_
              cases hF
              exact ww_iret (by decide +kernel) rfl
            · rw [if_neg h] at hF
              refine ww_bipush 87 rfl (-6) (-6 : Int32) (by decide +kernel) (by decide) ?_
              refine ww_goto (4) 91 (by decide +kernel) (by decide) ?_
              cases hF
              exact ww_iret (by decide +kernel) rfl
          · rw [if_neg h] at hF
            refine ww_bipush 77 rfl (-5) (-5 : Int32) (by decide +kernel) (by decide) ?_
            refine ww_goto (14) 91 (by decide +kernel) (by decide) ?_
            cases hF
            exact ww_iret (by decide +kernel) rfl
        · rw [if_neg h] at hF
          refine ww_bipush 66 rfl (-4) (-4 : Int32) (by decide +kernel) (by decide) ?_
          refine ww_goto (25) 91 (by decide +kernel) (by decide) ?_
          cases hF
          exact ww_iret (by decide +kernel) rfl
      · rw [if_neg h] at hF
        refine ww_bipush 57 rfl (-7) (-7 : Int32) (by decide +kernel) (by decide) ?_
        refine ww_goto (34) 91 (by decide +kernel) (by decide) ?_
        cases hF
        exact ww_iret (by decide +kernel) rfl
    · rw [if_pos h] at hF
      refine ww_iconst 18 rfl (0) (0 : Int32) (by decide +kernel) (by decide) ?_
      cases hF
      exact ww_iret (by decide +kernel) rfl
  · rw [if_pos h] at hF
    refine ww_iconst 9 rfl (-1) (-1 : Int32) (by decide +kernel) (by decide) ?_
    cases hF
    exact ww_iret (by decide +kernel) rfl
set_option maxHeartbeats 4000000 in
set_option maxRecDepth 100000 in
theorem B_Model_receive_30 {l : Launch} {ca : Nat → ClassId} {a : Nat → Nat} {m0 : Mem} {l1 : Int32} {s0 : Int32} {z2 : Option Value} {z3 : Option Value} {r : Int32} {m9 : Mem}  (hF : F_Model_receive_30 m0 l1 s0 = some (r, m9)) : WW l b_Model_receive 4 (some .int) R_Model (RM 3 72) ca a (EM ca a (some (.int r)) m9) 30 [some (.ref (a 17)), some (.int l1), z2, z3] [.int s0] m0 := by
  unfold F_Model_receive_30 at hF
  refine ww_istore_2 31 rfl (by decide +kernel) (by decide) ?_
  refine ww_aload_0 32 rfl (by decide +kernel) ?_
  refine ww_getr 35 rfl 8 22 32 24 (by decide +kernel) rfl k_Model_32 (by decide) (by decide) rfl rfl (by omega) ?_
  refine ww_iload_2 36 rfl (by decide +kernel) ?_
  refine ww_dup2 37 rfl (by decide +kernel) rfl rfl ?_
  obtain ⟨g12, hF⟩ := gd_at hF
  refine ww_iald 38 rfl (by decide +kernel) rfl g12 ?_
  refine ww_iconst 39 rfl (1) (1 : Int32) (by decide +kernel) (by decide) ?_
  refine ww_iadd 40 rfl (by decide +kernel) ?_
  refine ww_iast 41 rfl (by decide +kernel) rfl g12 ?_
  refine ww_nmm (fun m13 em13 => ?_)
  replace hF := bnd_at hF em13
  refine ww_aload_0 42 rfl (by decide +kernel) ?_
  refine ww_iconst 43 rfl (0) (0 : Int32) (by decide +kernel) (by decide) ?_
  obtain ⟨m15, h14, hF⟩ := rd_at hF
  refine ww_cV1v 46 rfl 8 104 (by decide +kernel) mf_Model_remove k_Model_104 rfl (by decide) rfl ⟨by decide, by decide⟩ ⟨rfl, rfl⟩ (Nat.le_of_ble_eq_true rfl) (C_Model_remove h14) ?_
  refine ww_iload_1 47 rfl (by decide +kernel) ?_
  cases hF
  exact ww_iret (by decide +kernel) rfl
set_option maxHeartbeats 4000000 in
set_option maxRecDepth 100000 in
theorem B_Model_receive_126 {l : Launch} {ca : Nat → ClassId} {a : Nat → Nat} {m0 : Mem} {l2 : Int32} {l3 : Int32} {z1 : Option Value} {r : Int32} {m9 : Mem}  (hF : F_Model_receive_126 m0 l2 l3 = some (r, m9)) : WW l b_Model_receive 4 (some .int) R_Model (RM 3 72) ca a (EM ca a (some (.int r)) m9) 126 [some (.ref (a 17)), z1, some (.int l2), some (.int l3)] [] m0 := by
  unfold F_Model_receive_126 at hF
  refine ww_aload_0 127 rfl (by decide +kernel) ?_
  refine ww_iconst 128 rfl (0) (0 : Int32) (by decide +kernel) (by decide) ?_
  refine ww_iload_3 129 rfl (by decide +kernel) ?_
  obtain ⟨m22, h21, hF⟩ := rd_at hF
  refine ww_cV2v 132 rfl 8 101 (by decide +kernel) mf_Model_copy k_Model_101 rfl (by decide) rfl ⟨by decide, by decide⟩ ⟨rfl, rfl⟩ (Nat.le_of_ble_eq_true rfl) (C_Model_copy h21) ?_
  refine ww_aload_0 133 rfl (by decide +kernel) ?_
  refine ww_iconst 134 rfl (0) (0 : Int32) (by decide +kernel) (by decide) ?_
  obtain ⟨m24, h23, hF⟩ := rd_at hF
  refine ww_cV1v 137 rfl 8 104 (by decide +kernel) mf_Model_remove k_Model_104 rfl (by decide) rfl ⟨by decide, by decide⟩ ⟨rfl, rfl⟩ (Nat.le_of_ble_eq_true rfl) (C_Model_remove h23) ?_
  refine ww_iload_2 138 rfl (by decide +kernel) ?_
  cases hF
  exact ww_iret (by decide +kernel) rfl
set_option maxHeartbeats 4000000 in
set_option maxRecDepth 100000 in
theorem B_Model_receive_105 {l : Launch} {ca : Nat → ClassId} {a : Nat → Nat} {r : Int32} {m9 : Mem} (n : Nat) : ∀ {m0 : Mem} {l2 : Int32} {l3 : Int32} {z1 : Option Value}  (hF : F_Model_receive_105 n m0 l2 l3 = some (r, m9)), WW l b_Model_receive 4 (some .int) R_Model (RM 3 72) ca a (EM ca a (some (.int r)) m9) 105 [some (.ref (a 17)), z1, some (.int l2), some (.int l3)] [] m0 := by
  induction n with
  | zero => intros; rename_i hF; rw [F_Model_receive_105] at hF; cases hF
  | succ n ih =>
    intro m0 l2 l3 z1  hF
    rw [F_Model_receive_105] at hF
    refine ww_iload_3 106 rfl (by decide +kernel) ?_
    refine ww_bipush 108 rfl (15) (15 : Int32) (by decide +kernel) (by decide) ?_
    refine ww_icmp_ge 111 rfl (18) 126 (by decide +kernel) (by decide) (fun h => ?_) (fun h => ?_)
    · rw [if_pos h] at hF
      exact B_Model_receive_126 hF
    · rw [if_neg h] at hF
      refine ww_aload_0 112 rfl (by decide +kernel) ?_
      refine ww_getr 115 rfl 8 11 19 21 (by decide +kernel) rfl k_Model_19 (by decide) (by decide) rfl rfl (by omega) ?_
      refine ww_iload_3 116 rfl (by decide +kernel) ?_
      obtain ⟨g20, hF⟩ := gd_at hF
      refine ww_iald 117 rfl (by decide +kernel) rfl g20 ?_
      refine ww_if_lt 120 rfl (9) 126 (by decide +kernel) (by decide) (fun h => ?_) (fun h => ?_)
      · rw [if_pos h] at hF
        exact B_Model_receive_126 hF
      · rw [if_neg h] at hF
        refine ww_iinc_3 123 rfl (1) (1 : Int32) (by decide +kernel) (by decide) (by decide) ?_
        refine ww_goto (-18) 105 (by decide +kernel) (by decide) ?_
        exact ih hF
set_option maxHeartbeats 4000000 in
set_option maxRecDepth 100000 in
theorem B_Model_receive_91 {l : Launch} {ca : Nat → ClassId} {a : Nat → Nat} {m0 : Mem}  {z1 : Option Value} {z2 : Option Value} {z3 : Option Value} {r : Int32} {m9 : Mem}  (hF : F_Model_receive_91 m0 = some (r, m9)) : WW l b_Model_receive 4 (some .int) R_Model (RM 3 72) ca a (EM ca a (some (.int r)) m9) 91 [some (.ref (a 17)), z1, z2, z3] [] m0 := by
  unfold F_Model_receive_91 at hF
  refine ww_aload_0 92 rfl (by decide +kernel) ?_
  refine ww_aload_0 93 rfl (by decide +kernel) ?_
  refine ww_iconst 94 rfl (0) (0 : Int32) (by decide +kernel) (by decide) ?_
  refine ww_iconst 95 rfl (2) (2 : Int32) (by decide +kernel) (by decide) ?_
  obtain ⟨r17, h16, hF⟩ := rd_at hF
  refine ww_cV2i 98 rfl 8 110 (by decide +kernel) mf_Model_pair k_Model_110 rfl (by decide) rfl ⟨by decide, by decide⟩ ⟨rfl, rfl⟩ (Nat.le_of_ble_eq_true rfl) (C_Model_pair h16) ?_
  obtain ⟨r19, h18, hF⟩ := rd_at hF
  refine ww_cV1i 101 rfl 8 130 (by decide +kernel) mf_Model_distance k_Model_130 rfl (by decide) rfl ⟨by decide, by decide⟩ ⟨rfl, rfl⟩ (Nat.le_of_ble_eq_true rfl) (C_Model_distance h18) ?_
  refine ww_istore_2 102 rfl (by decide +kernel) (by decide) ?_
  refine ww_bipush 104 rfl (8) (8 : Int32) (by decide +kernel) (by decide) ?_
  refine ww_istore_3 105 rfl (by decide +kernel) (by decide) ?_
  exact B_Model_receive_105 _ hF
set_option maxHeartbeats 4000000 in
set_option maxRecDepth 100000 in
theorem C_Model_receive {l : Launch} {ca : Nat → ClassId} {a : Nat → Nat} {m0 : Mem}  {r : Int32} {m9 : Mem}  (hF : F_Model_receive m0 = some (r, m9)) : CT l ca a y_Model_receive b_Model_receive 4 (some .int) (RM 3 72) [.ref (a 17)] m0 (some (.int r)) m9 := by
  refine ct_of (own := R_Model) (lv := [some (.ref (a 17)), none, none, none]) (plainFor_of_name (by decide)) rfl (cat_ok rfl) (Nat.le_of_ble_eq_true rfl) rfl ?_
  unfold F_Model_receive at hF
  refine ww_aload_0 1 rfl (by decide +kernel) ?_
  refine ww_geti 4 rfl 8 10 87 (by decide +kernel) rfl k_Model_87 (by decide) (by decide) rfl rfl ?_
  refine ww_if_ne 7 rfl (6) 10 (by decide +kernel) (by decide) (fun h => ?_) (fun h => ?_)
  · rw [if_neg h] at hF
    refine ww_aload_0 11 rfl (by decide +kernel) ?_
    obtain ⟨r2, h1, hF⟩ := rd_at hF
    refine ww_cV0i 14 rfl 8 139 (by decide +kernel) mf_Model_refusal k_Model_139 rfl (by decide) rfl ⟨by decide, by decide⟩ ⟨rfl, rfl⟩ (Nat.le_of_ble_eq_true rfl) (C_Model_refusal h1) ?_
    refine ww_istore_1 15 rfl (by decide +kernel) (by decide) ?_
    refine ww_iload_1 16 rfl (by decide +kernel) ?_
    refine ww_if_eq 19 rfl (32) 48 (by decide +kernel) (by decide) (fun h => ?_) (fun h => ?_)
    · rw [if_pos h] at hF
      refine ww_aload_0 49 rfl (by decide +kernel) ?_
      refine ww_geti 52 rfl 8 13 124 (by decide +kernel) rfl k_Model_124 (by decide) (by decide) rfl rfl ?_
      refine ww_if_ne 55 rfl (39) 91 (by decide +kernel) (by decide) (fun h => ?_) (fun h => ?_)
      · rw [if_neg h] at hF
        exact B_Model_receive_91 hF
      · rw [if_pos h] at hF
        refine ww_aload_0 56 rfl (by decide +kernel) ?_
        refine ww_iconst 57 rfl (1) (1 : Int32) (by decide +kernel) (by decide) ?_
        refine ww_put 60 rfl 8 13 124 (by decide +kernel) rfl k_Model_124 (by decide) (by decide) rfl rfl rfl rfl rfl rfl ?_
        refine ww_nmm (fun m3 em3 => ?_)
        replace hF := bnd_at hF em3
        refine ww_aload_0 61 rfl (by decide +kernel) ?_
        refine ww_aload_0 62 rfl (by decide +kernel) ?_
        refine ww_iconst 63 rfl (0) (0 : Int32) (by decide +kernel) (by decide) ?_
        refine ww_iconst 64 rfl (2) (2 : Int32) (by decide +kernel) (by decide) ?_
        obtain ⟨r5, h4, hF⟩ := rd_at hF
        refine ww_cV2i 67 rfl 8 110 (by decide +kernel) mf_Model_pair k_Model_110 rfl (by decide) rfl ⟨by decide, by decide⟩ ⟨rfl, rfl⟩ (Nat.le_of_ble_eq_true rfl) (C_Model_pair h4) ?_
        refine ww_put 70 rfl 8 14 116 (by decide +kernel) rfl k_Model_116 (by decide) (by decide) rfl rfl rfl rfl rfl rfl ?_
        refine ww_nmm (fun m6 em6 => ?_)
        replace hF := bnd_at hF em6
        refine ww_aload_0 71 rfl (by decide +kernel) ?_
        refine ww_aload_0 72 rfl (by decide +kernel) ?_
        refine ww_iconst 73 rfl (0) (0 : Int32) (by decide +kernel) (by decide) ?_
        refine ww_bipush 75 rfl (8) (8 : Int32) (by decide +kernel) (by decide) ?_
        obtain ⟨r8, h7, hF⟩ := rd_at hF
        refine ww_cV2i 78 rfl 8 127 (by decide +kernel) mf_Model_word k_Model_127 rfl (by decide) rfl ⟨by decide, by decide⟩ ⟨rfl, rfl⟩ (Nat.le_of_ble_eq_true rfl) (C_Model_word h7) ?_
        refine ww_put 81 rfl 8 15 136 (by decide +kernel) rfl k_Model_136 (by decide) (by decide) rfl rfl rfl rfl rfl rfl ?_
        refine ww_nmm (fun m9 em9 => ?_)
        replace hF := bnd_at hF em9
        refine ww_aload_0 82 rfl (by decide +kernel) ?_
        refine ww_iconst 83 rfl (0) (0 : Int32) (by decide +kernel) (by decide) ?_
        refine ww_put 86 rfl 8 17 143 (by decide +kernel) rfl k_Model_143 (by decide) (by decide) rfl rfl rfl rfl rfl rfl ?_
        refine ww_nmm (fun m10 em10 => ?_)
        replace hF := bnd_at hF em10
        refine ww_aload_0 87 rfl (by decide +kernel) ?_
        refine ww_iconst 88 rfl (0) (0 : Int32) (by decide +kernel) (by decide) ?_
        refine ww_put 91 rfl 8 19 147 (by decide +kernel) rfl k_Model_147 (by decide) (by decide) rfl rfl rfl rfl rfl rfl ?_
        refine ww_nmm (fun m11 em11 => ?_)
        replace hF := bnd_at hF em11
        exact B_Model_receive_91 hF
    · rw [if_neg h] at hF
      refine ww_iload_1 20 rfl (by decide +kernel) ?_
      refine ww_iconst 21 rfl (-1) (-1 : Int32) (by decide +kernel) (by decide) ?_
      refine ww_icmp_ne 24 rfl (7) 28 (by decide +kernel) (by decide) (fun h => ?_) (fun h => ?_)
      · rw [if_neg h] at hF
        refine ww_iload_1 29 rfl (by decide +kernel) ?_
        refine ww_ineg 30 rfl (by decide +kernel) ?_
        exact B_Model_receive_30 hF
      · rw [if_pos h] at hF
        refine ww_iconst 25 rfl (3) (3 : Int32) (by decide +kernel) (by decide) ?_
        refine ww_goto (5) 30 (by decide +kernel) (by decide) ?_
        exact B_Model_receive_30 hF
  · rw [if_pos h] at hF
    refine ww_bipush 9 rfl (-2) (-2 : Int32) (by decide +kernel) (by decide) ?_
    cases hF
    exact ww_iret (by decide +kernel) rfl
set_option maxHeartbeats 4000000 in
set_option maxRecDepth 100000 in
theorem C_Model_prefill {l : Launch} {ca : Nat → ClassId} {a : Nat → Nat} {m0 : Mem} {p1 : Int32} {r : Int32} {m9 : Mem}  (hF : F_Model_prefill m0 p1 = some (r, m9)) : CT l ca a y_Model_prefill b_Model_prefill 2 (some .boolean) (RM 0 0) [.ref (a 17), .int p1] m0 (some (.int r)) m9 := by
  refine ct_of (own := R_Model) (lv := [some (.ref (a 17)), some (.int p1)]) (plainFor_of_name (by decide)) rfl (cat_ok rfl) (Nat.le_of_ble_eq_true rfl) rfl ?_
  unfold F_Model_prefill at hF
  refine ww_iload_1 1 rfl (by decide +kernel) ?_
  refine ww_iconst 2 rfl (1) (1 : Int32) (by decide +kernel) (by decide) ?_
  refine ww_icmp_lt 5 rfl (8) 10 (by decide +kernel) (by decide) (fun h => ?_) (fun h => ?_)
  · rw [if_pos h] at hF
    refine ww_iconst 11 rfl (0) (0 : Int32) (by decide +kernel) (by decide) ?_
    cases hF
    exact ww_zret (by decide +kernel) rfl (by decide)
  · rw [if_neg h] at hF
    refine ww_iload_1 6 rfl (by decide +kernel) ?_
    refine ww_iconst 7 rfl (4) (4 : Int32) (by decide +kernel) (by decide) ?_
    refine ww_icmp_le 10 rfl (5) 12 (by decide +kernel) (by decide) (fun h => ?_) (fun h => ?_)
    · rw [if_pos h] at hF
      refine ww_aload_0 13 rfl (by decide +kernel) ?_
      refine ww_iload_1 14 rfl (by decide +kernel) ?_
      refine ww_put 17 rfl 8 16 25 (by decide +kernel) rfl k_Model_25 (by decide) (by decide) rfl rfl rfl rfl rfl rfl ?_
      refine ww_nmm (fun m1 em1 => ?_)
      replace hF := bnd_at hF em1
      refine ww_iconst 18 rfl (1) (1 : Int32) (by decide +kernel) (by decide) ?_
      cases hF
      exact ww_zret (by decide +kernel) rfl (by decide)
    · rw [if_neg h] at hF
      refine ww_iconst 11 rfl (0) (0 : Int32) (by decide +kernel) (by decide) ?_
      cases hF
      exact ww_zret (by decide +kernel) rfl (by decide)
set_option maxHeartbeats 4000000 in
set_option maxRecDepth 100000 in
theorem B_Model_buffered_5 {l : Launch} {ca : Nat → ClassId} {a : Nat → Nat} {r : Int32} (n : Nat) : ∀ {m0 : Mem} {l1 : Int32} {l2 : Int32}   (hF : F_Model_buffered_5 n m0 l1 l2 = some r), WW l b_Model_buffered 3 (some .int) R_Model (RM 0 0) ca a (EM ca a (some (.int r)) m0) 5 [some (.ref (a 17)), some (.int l1), some (.int l2)] [] m0 := by
  induction n with
  | zero => intros; rename_i hF; rw [F_Model_buffered_5] at hF; cases hF
  | succ n ih =>
    intro m0 l1 l2   hF
    rw [F_Model_buffered_5] at hF
    refine ww_iload_2 6 rfl (by decide +kernel) ?_
    refine ww_bipush 8 rfl (16) (16 : Int32) (by decide +kernel) (by decide) ?_
    refine ww_icmp_ge 11 rfl (26) 34 (by decide +kernel) (by decide) (fun h => ?_) (fun h => ?_)
    · rw [if_pos h] at hF
      refine ww_iload_1 35 rfl (by decide +kernel) ?_
      cases hF
      exact ww_iret (by decide +kernel) rfl
    · rw [if_neg h] at hF
      refine ww_iload_1 12 rfl (by decide +kernel) ?_
      refine ww_aload_0 13 rfl (by decide +kernel) ?_
      refine ww_getr 16 rfl 8 11 19 21 (by decide +kernel) rfl k_Model_19 (by decide) (by decide) rfl rfl (by omega) ?_
      refine ww_iload_2 17 rfl (by decide +kernel) ?_
      obtain ⟨g1, hF⟩ := gd_at hF
      refine ww_iald 18 rfl (by decide +kernel) rfl g1 ?_
      refine ww_if_lt 21 rfl (7) 25 (by decide +kernel) (by decide) (fun h => ?_) (fun h => ?_)
      · rw [if_pos h] at hF
        refine ww_iconst 26 rfl (0) (0 : Int32) (by decide +kernel) (by decide) ?_
        refine ww_iadd 27 rfl (by decide +kernel) ?_
        refine ww_nmi (fun v2 ev2 => ?_)
        replace hF := bnd_at hF ev2
        refine ww_istore_1 28 rfl (by decide +kernel) (by decide) ?_
        refine ww_iinc_2 31 rfl (1) (1 : Int32) (by decide +kernel) (by decide) (by decide) ?_
        refine ww_goto (-26) 5 (by decide +kernel) (by decide) ?_
        exact ih hF
      · rw [if_neg h] at hF
        refine ww_iconst 22 rfl (1) (1 : Int32) (by decide +kernel) (by decide) ?_
        refine ww_goto (4) 26 (by decide +kernel) (by decide) ?_
        refine ww_iadd 27 rfl (by decide +kernel) ?_
        refine ww_nmi (fun v3 ev3 => ?_)
        replace hF := bnd_at hF ev3
        refine ww_istore_1 28 rfl (by decide +kernel) (by decide) ?_
        refine ww_iinc_2 31 rfl (1) (1 : Int32) (by decide +kernel) (by decide) (by decide) ?_
        refine ww_goto (-26) 5 (by decide +kernel) (by decide) ?_
        exact ih hF
set_option maxHeartbeats 4000000 in
set_option maxRecDepth 100000 in
theorem C_Model_buffered {l : Launch} {ca : Nat → ClassId} {a : Nat → Nat} {m0 : Mem}  {r : Int32}  (hF : F_Model_buffered m0 = some r) : CT l ca a y_Model_buffered b_Model_buffered 3 (some .int) (RM 0 0) [.ref (a 17)] m0 (some (.int r)) m0 := by
  refine ct_of (own := R_Model) (lv := [some (.ref (a 17)), none, none]) (plainFor_of_name (by decide)) rfl (cat_ok rfl) (Nat.le_of_ble_eq_true rfl) rfl ?_
  unfold F_Model_buffered at hF
  refine ww_iconst 1 rfl (0) (0 : Int32) (by decide +kernel) (by decide) ?_
  refine ww_istore_1 2 rfl (by decide +kernel) (by decide) ?_
  refine ww_bipush 4 rfl (8) (8 : Int32) (by decide +kernel) (by decide) ?_
  refine ww_istore_2 5 rfl (by decide +kernel) (by decide) ?_
  exact B_Model_buffered_5 _ hF
set_option maxHeartbeats 4000000 in
set_option maxRecDepth 100000 in
theorem C_Model_sampleOf {l : Launch} {ca : Nat → ClassId} {a : Nat → Nat} {m0 : Mem} {p1 : Int32} {p2 : Int32} {p3 : Int32} {r : Int32} {m9 : Mem}  (hF : F_Model_sampleOf m0 p1 p2 p3 = some (r, m9)) : CT l ca a y_Model_sampleOf b_Model_sampleOf 6 (some .int) (RM 2 50) [.ref (a 17), .int p1, .int p2, .int p3] m0 (some (.int r)) m9 := by
  refine ct_of (own := R_Model) (lv := [some (.ref (a 17)), some (.int p1), some (.int p2), some (.int p3), none, none]) (plainFor_of_name (by decide)) rfl (cat_ok rfl) (Nat.le_of_ble_eq_true rfl) rfl ?_
  unfold F_Model_sampleOf at hF
  refine ww_bipush 2 rfl (44) (44 : Int32) (by decide +kernel) (by decide) ?_
  refine ww_iload_1 3 rfl (by decide +kernel) ?_
  refine ww_imul 4 rfl (by decide +kernel) ?_
  refine ww_bipush 6 rfl (12) (12 : Int32) (by decide +kernel) (by decide) ?_
  refine ww_iadd 7 rfl (by decide +kernel) ?_
  refine ww_nmi (fun v1 ev1 => ?_)
  replace hF := bnd_at hF ev1
  refine ww_istore_4 9 rfl (by decide +kernel) (by decide) ?_
  refine ww_iload_2 10 rfl (by decide +kernel) ?_
  refine ww_iconst 11 rfl (2) (2 : Int32) (by decide +kernel) (by decide) ?_
  refine ww_icmp_ge 14 rfl (18) 29 (by decide +kernel) (by decide) (fun h => ?_) (fun h => ?_)
  · rw [if_pos h] at hF
    refine ww_iload_2 30 rfl (by decide +kernel) ?_
    refine ww_iconst 31 rfl (3) (3 : Int32) (by decide +kernel) (by decide) ?_
    refine ww_icmp_ne 34 rfl (53) 84 (by decide +kernel) (by decide) (fun h => ?_) (fun h => ?_)
    · rw [if_neg h] at hF
      refine ww_aload_0 85 rfl (by decide +kernel) ?_
      refine ww_getr 88 rfl 8 12 22 22 (by decide +kernel) rfl k_Model_22 (by decide) (by decide) rfl rfl (by omega) ?_
      refine ww_iload_4 90 rfl (by decide +kernel) ?_
      refine ww_iconst 91 rfl (4) (4 : Int32) (by decide +kernel) (by decide) ?_
      refine ww_iadd 92 rfl (by decide +kernel) ?_
      refine ww_iload_3 93 rfl (by decide +kernel) ?_
      refine ww_iconst 94 rfl (2) (2 : Int32) (by decide +kernel) (by decide) ?_
      refine ww_idiv 95 rfl (by decide +kernel) (by decide) ?_
      refine ww_iadd 96 rfl (by decide +kernel) ?_
      obtain ⟨g2, hF⟩ := gd_at hF
      refine ww_iald 97 rfl (by decide +kernel) rfl g2 ?_
      refine ww_nmi (fun v3 ev3 => ?_)
      replace hF := bnd_at hF ev3
      refine ww_istore_5 99 rfl (by decide +kernel) (by decide) ?_
      refine ww_aload_0 100 rfl (by decide +kernel) ?_
      refine ww_iload_3 101 rfl (by decide +kernel) ?_
      refine ww_iconst 102 rfl (2) (2 : Int32) (by decide +kernel) (by decide) ?_
      refine ww_irem 103 rfl (by decide +kernel) (by decide) ?_
      refine ww_if_ne 106 rfl (11) 114 (by decide +kernel) (by decide) (fun h => ?_) (fun h => ?_)
      · rw [if_neg h] at hF
        refine ww_iload_5 116 rfl (by decide +kernel) ?_
        refine ww_bipush 118 rfl (16) (16 : Int32) (by decide +kernel) (by decide) ?_
        refine ww_irem 119 rfl (by decide +kernel) (by decide) ?_
        obtain ⟨m5, h4, hF⟩ := rd_at hF
        refine ww_cV1v 122 rfl 8 83 (by decide +kernel) mf_Model_change k_Model_83 rfl (by decide) rfl ⟨by decide, by decide⟩ ⟨rfl, rfl⟩ (Nat.le_of_ble_eq_true rfl) (C_Model_change h4) ?_
        refine ww_aload_0 123 rfl (by decide +kernel) ?_
        refine ww_geti 126 rfl 8 23 50 (by decide +kernel) rfl k_Model_50 (by decide) (by decide) rfl rfl ?_
        cases hF
        exact ww_iret (by decide +kernel) rfl
      · rw [if_pos h] at hF
        refine ww_iload_5 108 rfl (by decide +kernel) ?_
        refine ww_bipush 110 rfl (16) (16 : Int32) (by decide +kernel) (by decide) ?_
        refine ww_idiv 111 rfl (by decide +kernel) (by decide) ?_
        refine ww_goto (8) 119 (by decide +kernel) (by decide) ?_
        obtain ⟨m7, h6, hF⟩ := rd_at hF
        refine ww_cV1v 122 rfl 8 83 (by decide +kernel) mf_Model_change k_Model_83 rfl (by decide) rfl ⟨by decide, by decide⟩ ⟨rfl, rfl⟩ (Nat.le_of_ble_eq_true rfl) (C_Model_change h6) ?_
        refine ww_aload_0 123 rfl (by decide +kernel) ?_
        refine ww_geti 126 rfl 8 23 50 (by decide +kernel) rfl k_Model_50 (by decide) (by decide) rfl rfl ?_
        cases hF
        exact ww_iret (by decide +kernel) rfl
    · rw [if_pos h] at hF
      refine ww_sipush 37 rfl (256) (256 : Int32) (by decide +kernel) (by decide) ?_
      refine ww_aload_0 38 rfl (by decide +kernel) ?_
      refine ww_getr 41 rfl 8 12 22 22 (by decide +kernel) rfl k_Model_22 (by decide) (by decide) rfl rfl (by omega) ?_
      refine ww_iload_4 43 rfl (by decide +kernel) ?_
      refine ww_iconst 44 rfl (2) (2 : Int32) (by decide +kernel) (by decide) ?_
      refine ww_iload_3 45 rfl (by decide +kernel) ?_
      refine ww_imul 46 rfl (by decide +kernel) ?_
      refine ww_iadd 47 rfl (by decide +kernel) ?_
      obtain ⟨g8, hF⟩ := gd_at hF
      refine ww_iald 48 rfl (by decide +kernel) rfl g8 ?_
      refine ww_imul 49 rfl (by decide +kernel) ?_
      refine ww_aload_0 50 rfl (by decide +kernel) ?_
      refine ww_getr 53 rfl 8 12 22 22 (by decide +kernel) rfl k_Model_22 (by decide) (by decide) rfl rfl (by omega) ?_
      refine ww_iload_4 55 rfl (by decide +kernel) ?_
      refine ww_iconst 56 rfl (2) (2 : Int32) (by decide +kernel) (by decide) ?_
      refine ww_iload_3 57 rfl (by decide +kernel) ?_
      refine ww_imul 58 rfl (by decide +kernel) ?_
      refine ww_iadd 59 rfl (by decide +kernel) ?_
      refine ww_iconst 60 rfl (1) (1 : Int32) (by decide +kernel) (by decide) ?_
      refine ww_iadd 61 rfl (by decide +kernel) ?_
      obtain ⟨g9, hF⟩ := gd_at hF
      refine ww_iald 62 rfl (by decide +kernel) rfl g9 ?_
      refine ww_iadd 63 rfl (by decide +kernel) ?_
      refine ww_nmi (fun v10 ev10 => ?_)
      replace hF := bnd_at hF ev10
      refine ww_istore_5 65 rfl (by decide +kernel) (by decide) ?_
      refine ww_iload_5 67 rfl (by decide +kernel) ?_
      refine ww_sipush 70 rfl (32767) (32767 : Int32) (by decide +kernel) (by decide) ?_
      refine ww_icmp_le 73 rfl (11) 81 (by decide +kernel) (by decide) (fun h => ?_) (fun h => ?_)
      · rw [if_pos h] at hF
        refine ww_iload_5 83 rfl (by decide +kernel) ?_
        cases hF
        exact ww_iret (by decide +kernel) rfl
      · rw [if_neg h] at hF
        refine ww_iload_5 75 rfl (by decide +kernel) ?_
        refine ww_ldc 77 rfl 120 (65536 : Int32) (by decide +kernel) k_Model_120 ?_
        refine ww_isub 78 rfl (by decide +kernel) ?_
        refine ww_goto (5) 83 (by decide +kernel) (by decide) ?_
        cases hF
        exact ww_iret (by decide +kernel) rfl
  · rw [if_neg h] at hF
    refine ww_aload_0 15 rfl (by decide +kernel) ?_
    refine ww_iload_2 16 rfl (by decide +kernel) ?_
    refine ww_aload_0 17 rfl (by decide +kernel) ?_
    refine ww_getr 20 rfl 8 12 22 22 (by decide +kernel) rfl k_Model_22 (by decide) (by decide) rfl rfl (by omega) ?_
    refine ww_iload_4 22 rfl (by decide +kernel) ?_
    refine ww_iload_3 23 rfl (by decide +kernel) ?_
    refine ww_iadd 24 rfl (by decide +kernel) ?_
    obtain ⟨g11, hF⟩ := gd_at hF
    refine ww_iald 25 rfl (by decide +kernel) rfl g11 ?_
    obtain ⟨r13, h12, hF⟩ := rd_at hF
    refine ww_cV2i 28 rfl 8 150 (by decide +kernel) mf_Model_expand k_Model_150 rfl (by decide) rfl ⟨by decide, by decide⟩ ⟨rfl, rfl⟩ (Nat.le_of_ble_eq_true rfl) (C_Model_expand h12) ?_
    cases hF
    exact ww_iret (by decide +kernel) rfl
