set_option maxHeartbeats 4000000 in
set_option maxRecDepth 100000 in
theorem C_Packet_has {l : Launch} {ca : Nat → ClassId} {a : Nat → Nat} {m0 : Mem} {t : Nat} {p1 : Int32} {r : Int32} (ht : kd t = 3) (hF : F_Packet_has m0 t p1 = some r) : CT l ca a y_Packet_has b_Packet_has 2 (some .boolean) (RM 0 0) [.ref (a t), .int p1] m0 (some (.int r)) m0 := by
  refine ct_of (own := R_Packet) (lv := [some (.ref (a t)), some (.int p1)]) (plainFor_of_name (by decide)) rfl (cat_ok rfl) (Nat.le_of_ble_eq_true rfl) rfl ?_
  unfold F_Packet_has at hF
  refine ww_iload_1 1 rfl (by decide +kernel) ?_
  refine ww_if_lt 4 rfl (15) 16 (by decide +kernel) (by decide) (fun h => ?_) (fun h => ?_)
  · rw [if_pos h] at hF
    refine ww_iconst 17 rfl (0) (0 : Int32) (by decide +kernel) (by decide) ?_
    cases hF
    exact ww_zret (by decide +kernel) rfl (by decide)
  · rw [if_neg h] at hF
    refine ww_iload_1 5 rfl (by decide +kernel) ?_
    refine ww_aload_0 6 rfl (by decide +kernel) ?_
    refine ww_geti 9 rfl 3 1 15 (by decide +kernel) ht k_Packet_15 (by decide) (by decide) rfl rfl ?_
    refine ww_icmp_ge 12 rfl (7) 16 (by decide +kernel) (by decide) (fun h => ?_) (fun h => ?_)
    · rw [if_pos h] at hF
      refine ww_iconst 17 rfl (0) (0 : Int32) (by decide +kernel) (by decide) ?_
      cases hF
      exact ww_zret (by decide +kernel) rfl (by decide)
    · rw [if_neg h] at hF
      refine ww_iconst 13 rfl (1) (1 : Int32) (by decide +kernel) (by decide) ?_
      refine ww_goto (4) 17 (by decide +kernel) (by decide) ?_
      cases hF
      exact ww_zret (by decide +kernel) rfl (by decide)
set_option maxHeartbeats 4000000 in
set_option maxRecDepth 100000 in
theorem C_Packet_get {l : Launch} {ca : Nat → ClassId} {a : Nat → Nat} {m0 : Mem} {t : Nat} {p1 : Int32} {r : Int32} (ht : kd t = 3) (hF : F_Packet_get m0 t p1 = some r) : CT l ca a y_Packet_get b_Packet_get 2 (some .int) (RM 1 21) [.ref (a t), .int p1] m0 (some (.int r)) m0 := by
  refine ct_of (own := R_Packet) (lv := [some (.ref (a t)), some (.int p1)]) (plainFor_of_name (by decide)) rfl (cat_ok rfl) (Nat.le_of_ble_eq_true rfl) rfl ?_
  unfold F_Packet_get at hF
  refine ww_aload_0 1 rfl (by decide +kernel) ?_
  refine ww_iload_1 2 rfl (by decide +kernel) ?_
  obtain ⟨r2, h1, hF⟩ := rd_at hF
  refine ww_cV1i 5 rfl 3 19 (by decide +kernel) mf_Packet_has k_Packet_19 ht (by decide) rfl ⟨by decide, by decide⟩ ⟨rfl, rfl⟩ (Nat.le_of_ble_eq_true rfl) (C_Packet_has ht h1) ?_
  refine ww_if_eq 8 rfl (12) 17 (by decide +kernel) (by decide) (fun h => ?_) (fun h => ?_)
  · rw [if_pos h] at hF
    refine ww_iconst 18 rfl (-1) (-1 : Int32) (by decide +kernel) (by decide) ?_
    cases hF
    exact ww_iret (by decide +kernel) rfl
  · rw [if_neg h] at hF
    refine ww_aload_0 9 rfl (by decide +kernel) ?_
    refine ww_getr 12 rfl 3 0 11 (t + 1) (by decide +kernel) ht k_Packet_11 (by decide) (by decide) rfl rfl (by omega) ?_
    refine ww_iload_1 13 rfl (by decide +kernel) ?_
    obtain ⟨g3, hF⟩ := gd_at hF
    refine ww_iald 14 rfl (by decide +kernel) (kd_byt ht) g3 ?_
    refine ww_goto (4) 18 (by decide +kernel) (by decide) ?_
    cases hF
    exact ww_iret (by decide +kernel) rfl
set_option maxHeartbeats 4000000 in
set_option maxRecDepth 100000 in
theorem C_Gate_byteAt {l : Launch} {ca : Nat → ClassId} {a : Nat → Nat} {m0 : Mem} {p1 : Int32} {p2 : Int32} {r : Int32}  (hF : F_Gate_byteAt m0 p1 p2 = some r) : CT l ca a y_Gate_byteAt b_Gate_byteAt 4 (some .int) (RM 2 42) [.ref (a 0), .int p1, .int p2] m0 (some (.int r)) m0 := by
  refine ct_of (own := R_Gate) (lv := [some (.ref (a 0)), some (.int p1), some (.int p2), none]) (plainFor_of_name (by decide)) rfl (cat_ok rfl) (Nat.le_of_ble_eq_true rfl) rfl ?_
  unfold F_Gate_byteAt at hF
  refine ww_aload_0 1 rfl (by decide +kernel) ?_
  refine ww_getr 4 rfl 0 2 24 7 (by decide +kernel) rfl k_Gate_24 (by decide) (by decide) rfl rfl (by omega) ?_
  refine ww_iload_1 5 rfl (by decide +kernel) ?_
  obtain ⟨r2, h1, hF⟩ := rd_at hF
  refine ww_cV1q 8 rfl 7 105 (by decide +kernel) mf_Wire_at k_Gate_105 rfl (by decide) rfl ⟨by decide, by decide⟩ ⟨rfl, rfl⟩ (Nat.le_of_ble_eq_true rfl) (C_Wire_at h1) ?_ ?_
  · intro e
    subst e
    replace hF := om_none hF
    refine ww_astore_3N 9 rfl (by decide +kernel) (by decide) ?_
    refine ww_aload_3N 10 rfl (by decide +kernel) ?_
    refine ww_ifnonnullN 13 rfl (7) (by decide +kernel) ?_
    refine ww_iconst 14 rfl (-1) (-1 : Int32) (by decide +kernel) (by decide) ?_
    refine ww_goto (8) 22 (by decide +kernel) (by decide) ?_
    cases hF
    exact ww_iret (by decide +kernel) rfl
  · intro k3 e
    subst e
    replace hF := om_some hF
    obtain ⟨g4, hF⟩ := gp_at hF
    refine ww_astore_3 9 rfl (by decide +kernel) (by decide) ?_
    refine ww_aload_3 10 rfl (by decide +kernel) ?_
    refine ww_ifnonnull (7) 17 (by decide +kernel) (by decide) ?_
    refine ww_aload_3 18 rfl (by decide +kernel) ?_
    refine ww_iload_2 19 rfl (by decide +kernel) ?_
    obtain ⟨r6, h5, hF⟩ := rd_at hF
    refine ww_cV1i 22 rfl 3 109 (by decide +kernel) mf_Packet_get k_Gate_109 g4 (by decide) rfl ⟨by decide, by decide⟩ ⟨rfl, rfl⟩ (Nat.le_of_ble_eq_true rfl) (C_Packet_get g4 h5) ?_
    cases hF
    exact ww_iret (by decide +kernel) rfl
set_option maxHeartbeats 4000000 in
set_option maxRecDepth 100000 in
theorem C_Packet_put {l : Launch} {ca : Nat → ClassId} {a : Nat → Nat} {m0 : Mem} {t : Nat} {p1 : Int32} {p2 : Int32} {r : Int32} {m9 : Mem} (ht : kd t = 3) (hF : F_Packet_put m0 t p1 p2 = some (r, m9)) : CT l ca a y_Packet_put b_Packet_put 3 (some .boolean) (RM 1 21) [.ref (a t), .int p1, .int p2] m0 (some (.int r)) m9 := by
  refine ct_of (own := R_Packet) (lv := [some (.ref (a t)), some (.int p1), some (.int p2)]) (plainFor_of_name (by decide)) rfl (cat_ok rfl) (Nat.le_of_ble_eq_true rfl) rfl ?_
  unfold F_Packet_put at hF
  refine ww_aload_0 1 rfl (by decide +kernel) ?_
  refine ww_iload_1 2 rfl (by decide +kernel) ?_
  obtain ⟨r2, h1, hF⟩ := rd_at hF
  refine ww_cV1i 5 rfl 3 19 (by decide +kernel) mf_Packet_has k_Packet_19 ht (by decide) rfl ⟨by decide, by decide⟩ ⟨rfl, rfl⟩ (Nat.le_of_ble_eq_true rfl) (C_Packet_has ht h1) ?_
  refine ww_if_ne 8 rfl (5) 10 (by decide +kernel) (by decide) (fun h => ?_) (fun h => ?_)
  · rw [if_neg h] at hF
    refine ww_aload_0 11 rfl (by decide +kernel) ?_
    refine ww_getr 14 rfl 3 0 11 (t + 1) (by decide +kernel) ht k_Packet_11 (by decide) (by decide) rfl rfl (by omega) ?_
    refine ww_iload_1 15 rfl (by decide +kernel) ?_
    refine ww_iload_2 16 rfl (by decide +kernel) ?_
    obtain ⟨g3, hF⟩ := gd_at hF
    refine ww_iast 17 rfl (by decide +kernel) (kd_byt ht) g3 ?_
    refine ww_nmm (fun m4 em4 => ?_)
    replace hF := bnd_at hF em4
    refine ww_iconst 18 rfl (1) (1 : Int32) (by decide +kernel) (by decide) ?_
    cases hF
    exact ww_zret (by decide +kernel) rfl (by decide)
  · rw [if_pos h] at hF
    refine ww_iconst 9 rfl (0) (0 : Int32) (by decide +kernel) (by decide) ?_
    cases hF
    exact ww_zret (by decide +kernel) rfl (by decide)
set_option maxHeartbeats 4000000 in
set_option maxRecDepth 100000 in
theorem C_Gate_poke {l : Launch} {ca : Nat → ClassId} {a : Nat → Nat} {m0 : Mem} {p1 : Int32} {p2 : Int32} {p3 : Int32} {r : Int32} {m9 : Mem}  (hF : F_Gate_poke m0 p1 p2 p3 = some (r, m9)) : CT l ca a y_Gate_poke b_Gate_poke 5 (some .boolean) (RM 2 43) [.ref (a 0), .int p1, .int p2, .int p3] m0 (some (.int r)) m9 := by
  refine ct_of (own := R_Gate) (lv := [some (.ref (a 0)), some (.int p1), some (.int p2), some (.int p3), none]) (plainFor_of_name (by decide)) rfl (cat_ok rfl) (Nat.le_of_ble_eq_true rfl) rfl ?_
  unfold F_Gate_poke at hF
  refine ww_aload_0 1 rfl (by decide +kernel) ?_
  refine ww_getr 4 rfl 0 2 24 7 (by decide +kernel) rfl k_Gate_24 (by decide) (by decide) rfl rfl (by omega) ?_
  refine ww_iload_1 5 rfl (by decide +kernel) ?_
  obtain ⟨r2, h1, hF⟩ := rd_at hF
  refine ww_cV1q 8 rfl 7 105 (by decide +kernel) mf_Wire_at k_Gate_105 rfl (by decide) rfl ⟨by decide, by decide⟩ ⟨rfl, rfl⟩ (Nat.le_of_ble_eq_true rfl) (C_Wire_at h1) ?_ ?_
  · intro e
    subst e
    replace hF := om_none hF
    refine ww_astore_4N 10 rfl (by decide +kernel) (by decide) ?_
    refine ww_aload_4N 12 rfl (by decide +kernel) ?_
    refine ww_ifnullN (24) 36 (by decide +kernel) (by decide) ?_
    refine ww_iconst 37 rfl (0) (0 : Int32) (by decide +kernel) (by decide) ?_
    cases hF
    exact ww_zret (by decide +kernel) rfl (by decide)
  · intro k3 e
    subst e
    replace hF := om_some hF
    obtain ⟨g4, hF⟩ := gp_at hF
    refine ww_astore_4 10 rfl (by decide +kernel) (by decide) ?_
    refine ww_aload_4 12 rfl (by decide +kernel) ?_
    refine ww_ifnull 15 rfl (24) (by decide +kernel) ?_
    refine ww_iload_3 16 rfl (by decide +kernel) ?_
    obtain ⟨r6, h5, hF⟩ := rd_at hF
    refine ww_cS1i 19 rfl 62 (by decide +kernel) mf_Gate_isByte k_Gate_62 ⟨by decide, by decide⟩ ⟨rfl, rfl⟩ (Nat.le_of_ble_eq_true rfl) (C_Gate_isByte h5) ?_
    refine ww_if_eq 22 rfl (17) 36 (by decide +kernel) (by decide) (fun h => ?_) (fun h => ?_)
    · rw [if_pos h] at hF
      refine ww_iconst 37 rfl (0) (0 : Int32) (by decide +kernel) (by decide) ?_
      cases hF
      exact ww_zret (by decide +kernel) rfl (by decide)
    · rw [if_neg h] at hF
      refine ww_aload_4 24 rfl (by decide +kernel) ?_
      refine ww_iload_2 25 rfl (by decide +kernel) ?_
      refine ww_iload_3 26 rfl (by decide +kernel) ?_
      obtain ⟨r8, m9, h7, hF⟩ := cal_at hF
      refine ww_cV2i 29 rfl 3 113 (by decide +kernel) mf_Packet_put k_Gate_113 g4 (by decide) rfl ⟨by decide, by decide⟩ ⟨rfl, rfl⟩ (Nat.le_of_ble_eq_true rfl) (C_Packet_put g4 h7) ?_
      refine ww_if_eq 32 rfl (7) 36 (by decide +kernel) (by decide) (fun h => ?_) (fun h => ?_)
      · rw [if_pos h] at hF
        refine ww_iconst 37 rfl (0) (0 : Int32) (by decide +kernel) (by decide) ?_
        cases hF
        exact ww_zret (by decide +kernel) rfl (by decide)
      · rw [if_neg h] at hF
        refine ww_iconst 33 rfl (1) (1 : Int32) (by decide +kernel) (by decide) ?_
        refine ww_goto (4) 37 (by decide +kernel) (by decide) ?_
        cases hF
        exact ww_zret (by decide +kernel) rfl (by decide)
set_option maxHeartbeats 4000000 in
set_option maxRecDepth 100000 in
theorem B_Wire_lose_14 {l : Launch} {ca : Nat → ClassId} {a : Nat → Nat} {r : Int32} {m9 : Mem} (n : Nat) : ∀ {m0 : Mem} {l2 : Nat} {l3 : Int32} {z1 : Option Value} (hl2 : kd l2 = 3) (hF : F_Wire_lose_14 n m0 l2 l3 = some (r, m9)), WW l b_Wire_lose 4 (some .boolean) R_Wire (RM 1 21) ca a (EM ca a (some (.int r)) m9) 14 [some (.ref (a 7)), z1, some (.ref (a l2)), some (.int l3)] [] m0 := by
  induction n with
  | zero => intros; rename_i hF; rw [F_Wire_lose_14] at hF; cases hF
  | succ n ih =>
    intro m0 l2 l3 z1 hl2 hF
    rw [F_Wire_lose_14] at hF
    refine ww_iload_3 15 rfl (by decide +kernel) ?_
    refine ww_iconst 16 rfl (1) (1 : Int32) (by decide +kernel) (by decide) ?_
    refine ww_iadd 17 rfl (by decide +kernel) ?_
    refine ww_aload_0 18 rfl (by decide +kernel) ?_
    refine ww_geti 21 rfl 7 1 16 (by decide +kernel) rfl k_Wire_16 (by decide) (by decide) rfl rfl ?_
    refine ww_icmp_ge 24 rfl (23) 44 (by decide +kernel) (by decide) (fun h => ?_) (fun h => ?_)
    · rw [if_pos h] at hF
      refine ww_aload_0 45 rfl (by decide +kernel) ?_
      refine ww_dup 46 rfl (by decide +kernel) rfl ?_
      refine ww_geti 49 rfl 7 1 16 (by decide +kernel) rfl k_Wire_16 (by decide) (by decide) rfl rfl ?_
      refine ww_iconst 50 rfl (1) (1 : Int32) (by decide +kernel) (by decide) ?_
      refine ww_isub 51 rfl (by decide +kernel) ?_
      refine ww_put 54 rfl 7 1 16 (by decide +kernel) rfl k_Wire_16 (by decide) (by decide) rfl rfl rfl rfl rfl rfl ?_
      refine ww_nmm (fun m5 em5 => ?_)
      replace hF := bnd_at hF em5
      refine ww_aload_0 55 rfl (by decide +kernel) ?_
      refine ww_getr 58 rfl 7 0 11 8 (by decide +kernel) rfl k_Wire_11 (by decide) (by decide) rfl rfl (by omega) ?_
      refine ww_aload_0 59 rfl (by decide +kernel) ?_
      refine ww_geti 62 rfl 7 1 16 (by decide +kernel) rfl k_Wire_16 (by decide) (by decide) rfl rfl ?_
      refine ww_aload_2 63 rfl (by decide +kernel) ?_
      obtain ⟨g6, hF⟩ := gd_at hF
      refine ww_aast 64 rfl (by decide +kernel) rfl hl2 g6 ?_
      refine ww_nmm (fun m7 em7 => ?_)
      replace hF := bnd_at hF em7
      refine ww_iconst 65 rfl (1) (1 : Int32) (by decide +kernel) (by decide) ?_
      cases hF
      exact ww_zret (by decide +kernel) rfl (by decide)
    · rw [if_neg h] at hF
      refine ww_aload_0 25 rfl (by decide +kernel) ?_
      refine ww_getr 28 rfl 7 0 11 8 (by decide +kernel) rfl k_Wire_11 (by decide) (by decide) rfl rfl (by omega) ?_
      refine ww_iload_3 29 rfl (by decide +kernel) ?_
      refine ww_aload_0 30 rfl (by decide +kernel) ?_
      refine ww_getr 33 rfl 7 0 11 8 (by decide +kernel) rfl k_Wire_11 (by decide) (by decide) rfl rfl (by omega) ?_
      refine ww_iload_3 34 rfl (by decide +kernel) ?_
      refine ww_iconst 35 rfl (1) (1 : Int32) (by decide +kernel) (by decide) ?_
      refine ww_iadd 36 rfl (by decide +kernel) ?_
      obtain ⟨g8, hF⟩ := gd_at hF
      refine ww_aald 37 rfl (by decide +kernel) rfl g8 ?_
      obtain ⟨g9, hF⟩ := gp_at hF
      obtain ⟨g10, hF⟩ := gd_at hF
      refine ww_aast 38 rfl (by decide +kernel) rfl g9 g10 ?_
      refine ww_nmm (fun m11 em11 => ?_)
      replace hF := bnd_at hF em11
      refine ww_iinc_3 41 rfl (1) (1 : Int32) (by decide +kernel) (by decide) (by decide) ?_
      refine ww_goto (-27) 14 (by decide +kernel) (by decide) ?_
      exact ih hl2 hF
set_option maxHeartbeats 4000000 in
set_option maxRecDepth 100000 in
theorem C_Wire_lose {l : Launch} {ca : Nat → ClassId} {a : Nat → Nat} {m0 : Mem} {p1 : Int32} {r : Int32} {m9 : Mem}  (hF : F_Wire_lose m0 p1 = some (r, m9)) : CT l ca a y_Wire_lose b_Wire_lose 4 (some .boolean) (RM 1 21) [.ref (a 7), .int p1] m0 (some (.int r)) m9 := by
  refine ct_of (own := R_Wire) (lv := [some (.ref (a 7)), some (.int p1), none, none]) (plainFor_of_name (by decide)) rfl (cat_ok rfl) (Nat.le_of_ble_eq_true rfl) rfl ?_
  unfold F_Wire_lose at hF
  refine ww_aload_0 1 rfl (by decide +kernel) ?_
  refine ww_iload_1 2 rfl (by decide +kernel) ?_
  obtain ⟨r2, h1, hF⟩ := rd_at hF
  refine ww_cV1q 5 rfl 7 23 (by decide +kernel) mf_Wire_at k_Wire_23 rfl (by decide) rfl ⟨by decide, by decide⟩ ⟨rfl, rfl⟩ (Nat.le_of_ble_eq_true rfl) (C_Wire_at h1) ?_ ?_
  · intro e
    subst e
    replace hF := om_none hF
    refine ww_astore_2N 6 rfl (by decide +kernel) (by decide) ?_
    refine ww_aload_2N 7 rfl (by decide +kernel) ?_
    refine ww_ifnonnullN 10 rfl (5) (by decide +kernel) ?_
    refine ww_iconst 11 rfl (0) (0 : Int32) (by decide +kernel) (by decide) ?_
    cases hF
    exact ww_zret (by decide +kernel) rfl (by decide)
  · intro k3 e
    subst e
    replace hF := om_some hF
    obtain ⟨g4, hF⟩ := gp_at hF
    refine ww_astore_2 6 rfl (by decide +kernel) (by decide) ?_
    refine ww_aload_2 7 rfl (by decide +kernel) ?_
    refine ww_ifnonnull (5) 12 (by decide +kernel) (by decide) ?_
    refine ww_iload_1 13 rfl (by decide +kernel) ?_
    refine ww_istore_3 14 rfl (by decide +kernel) (by decide) ?_
    exact B_Wire_lose_14 _ g4 hF
set_option maxHeartbeats 4000000 in
set_option maxRecDepth 100000 in
theorem C_Wire_exchange {l : Launch} {ca : Nat → ClassId} {a : Nat → Nat} {m0 : Mem} {p1 : Int32} {r : Int32} {m9 : Mem}  (hF : F_Wire_exchange m0 p1 = some (r, m9)) : CT l ca a y_Wire_exchange b_Wire_exchange 3 (some .boolean) (RM 1 21) [.ref (a 7), .int p1] m0 (some (.int r)) m9 := by
  refine ct_of (own := R_Wire) (lv := [some (.ref (a 7)), some (.int p1), none]) (plainFor_of_name (by decide)) rfl (cat_ok rfl) (Nat.le_of_ble_eq_true rfl) rfl ?_
  unfold F_Wire_exchange at hF
  refine ww_aload_0 1 rfl (by decide +kernel) ?_
  refine ww_iload_1 2 rfl (by decide +kernel) ?_
  obtain ⟨r2, h1, hF⟩ := rd_at hF
  refine ww_cV1q 5 rfl 7 23 (by decide +kernel) mf_Wire_at k_Wire_23 rfl (by decide) rfl ⟨by decide, by decide⟩ ⟨rfl, rfl⟩ (Nat.le_of_ble_eq_true rfl) (C_Wire_at h1) ?_ ?_
  · intro e
    subst e
    replace hF := om_none hF
    refine ww_astore_2N 6 rfl (by decide +kernel) (by decide) ?_
    refine ww_aload_2N 7 rfl (by decide +kernel) ?_
    refine ww_ifnullN (13) 20 (by decide +kernel) (by decide) ?_
    refine ww_iconst 21 rfl (0) (0 : Int32) (by decide +kernel) (by decide) ?_
    cases hF
    exact ww_zret (by decide +kernel) rfl (by decide)
  · intro k3 e
    subst e
    replace hF := om_some hF
    obtain ⟨g4, hF⟩ := gp_at hF
    refine ww_astore_2 6 rfl (by decide +kernel) (by decide) ?_
    refine ww_aload_2 7 rfl (by decide +kernel) ?_
    refine ww_ifnull 10 rfl (13) (by decide +kernel) ?_
    refine ww_iload_1 11 rfl (by decide +kernel) ?_
    refine ww_iconst 12 rfl (1) (1 : Int32) (by decide +kernel) (by decide) ?_
    refine ww_iadd 13 rfl (by decide +kernel) ?_
    refine ww_aload_0 14 rfl (by decide +kernel) ?_
    refine ww_geti 17 rfl 7 1 16 (by decide +kernel) rfl k_Wire_16 (by decide) (by decide) rfl rfl ?_
    refine ww_icmp_lt 20 rfl (5) 22 (by decide +kernel) (by decide) (fun h => ?_) (fun h => ?_)
    · rw [if_pos h] at hF
      refine ww_aload_0 23 rfl (by decide +kernel) ?_
      refine ww_getr 26 rfl 7 0 11 8 (by decide +kernel) rfl k_Wire_11 (by decide) (by decide) rfl rfl (by omega) ?_
      refine ww_iload_1 27 rfl (by decide +kernel) ?_
      refine ww_aload_0 28 rfl (by decide +kernel) ?_
      refine ww_getr 31 rfl 7 0 11 8 (by decide +kernel) rfl k_Wire_11 (by decide) (by decide) rfl rfl (by omega) ?_
      refine ww_iload_1 32 rfl (by decide +kernel) ?_
      refine ww_iconst 33 rfl (1) (1 : Int32) (by decide +kernel) (by decide) ?_
      refine ww_iadd 34 rfl (by decide +kernel) ?_
      obtain ⟨g5, hF⟩ := gd_at hF
      refine ww_aald 35 rfl (by decide +kernel) rfl g5 ?_
      obtain ⟨g6, hF⟩ := gp_at hF
      obtain ⟨g7, hF⟩ := gd_at hF
      refine ww_aast 36 rfl (by decide +kernel) rfl g6 g7 ?_
      refine ww_nmm (fun m8 em8 => ?_)
      replace hF := bnd_at hF em8
      refine ww_aload_0 37 rfl (by decide +kernel) ?_
      refine ww_getr 40 rfl 7 0 11 8 (by decide +kernel) rfl k_Wire_11 (by decide) (by decide) rfl rfl (by omega) ?_
      refine ww_iload_1 41 rfl (by decide +kernel) ?_
      refine ww_iconst 42 rfl (1) (1 : Int32) (by decide +kernel) (by decide) ?_
      refine ww_iadd 43 rfl (by decide +kernel) ?_
      refine ww_aload_2 44 rfl (by decide +kernel) ?_
      refine ww_aast 45 rfl (by decide +kernel) rfl g4 g5 ?_
      refine ww_nmm (fun m9 em9 => ?_)
      replace hF := bnd_at hF em9
      refine ww_iconst 46 rfl (1) (1 : Int32) (by decide +kernel) (by decide) ?_
      cases hF
      exact ww_zret (by decide +kernel) rfl (by decide)
    · rw [if_neg h] at hF
      refine ww_iconst 21 rfl (0) (0 : Int32) (by decide +kernel) (by decide) ?_
      cases hF
      exact ww_zret (by decide +kernel) rfl (by decide)
set_option maxHeartbeats 4000000 in
set_option maxRecDepth 100000 in
theorem C_Packet_copyFrom {l : Launch} {ca : Nat → ClassId} {a : Nat → Nat} {m0 : Mem} {t : Nat} {p1 : Nat} {m9 : Mem} (ht : kd t = 3) (hp1 : kd p1 = 3) (hF : F_Packet_copyFrom m0 t p1 = some m9) : CT l ca a y_Packet_copyFrom b_Packet_copyFrom 2 none (RM 1 26) [.ref (a t), .ref (a p1)] m0 none m9 := by
  refine ct_of (own := R_Packet) (lv := [some (.ref (a t)), some (.ref (a p1))]) (plainFor_of_name (by decide)) rfl (cat_ok rfl) (Nat.le_of_ble_eq_true rfl) rfl ?_
  unfold F_Packet_copyFrom at hF
  refine ww_aload_1 1 rfl (by decide +kernel) ?_
  refine ww_getr 4 rfl 3 0 11 (p1 + 1) (by decide +kernel) hp1 k_Packet_11 (by decide) (by decide) rfl rfl (by omega) ?_
  refine ww_iconst 5 rfl (0) (0 : Int32) (by decide +kernel) (by decide) ?_
  refine ww_aload_0 6 rfl (by decide +kernel) ?_
  refine ww_getr 9 rfl 3 0 11 (t + 1) (by decide +kernel) ht k_Packet_11 (by decide) (by decide) rfl rfl (by omega) ?_
  refine ww_iconst 10 rfl (0) (0 : Int32) (by decide +kernel) (by decide) ?_
  refine ww_bipush 12 rfl (44) (44 : Int32) (by decide +kernel) (by decide) ?_
  obtain ⟨g1, hF⟩ := gd_at hF
  refine ww_copy 15 rfl 23 (by decide +kernel) k_Packet_23 (kd_byt hp1) (kd_byt ht) g1 (Nat.le_of_ble_eq_true rfl) ⟨by decide, by decide⟩ ?_
  refine ww_nmm (fun m2 em2 => ?_)
  replace hF := bnd_at hF em2
  refine ww_aload_0 16 rfl (by decide +kernel) ?_
  refine ww_aload_1 17 rfl (by decide +kernel) ?_
  refine ww_geti 20 rfl 3 1 15 (by decide +kernel) hp1 k_Packet_15 (by decide) (by decide) rfl rfl ?_
  refine ww_put 23 rfl 3 1 15 (by decide +kernel) ht k_Packet_15 (by decide) (by decide) rfl rfl rfl rfl rfl rfl ?_
  refine ww_nmm (fun m3 em3 => ?_)
  replace hF := bnd_at hF em3
  cases hF
  exact ww_vret (by decide +kernel) rfl
set_option maxHeartbeats 4000000 in
set_option maxRecDepth 100000 in
theorem C_Wire_repeat {l : Launch} {ca : Nat → ClassId} {a : Nat → Nat} {m0 : Mem} {p1 : Int32} {r : Int32} {m9 : Mem}  (hF : F_Wire_repeat m0 p1 = some (r, m9)) : CT l ca a y_Wire_repeat b_Wire_repeat 4 (some .boolean) (RM 2 47) [.ref (a 7), .int p1] m0 (some (.int r)) m9 := by
  refine ct_of (own := R_Wire) (lv := [some (.ref (a 7)), some (.int p1), none, none]) (plainFor_of_name (by decide)) rfl (cat_ok rfl) (Nat.le_of_ble_eq_true rfl) rfl ?_
  unfold F_Wire_repeat at hF
  refine ww_aload_0 1 rfl (by decide +kernel) ?_
  refine ww_iload_1 2 rfl (by decide +kernel) ?_
  obtain ⟨r2, h1, hF⟩ := rd_at hF
  refine ww_cV1q 5 rfl 7 23 (by decide +kernel) mf_Wire_at k_Wire_23 rfl (by decide) rfl ⟨by decide, by decide⟩ ⟨rfl, rfl⟩ (Nat.le_of_ble_eq_true rfl) (C_Wire_at h1) ?_ ?_
  · intro e
    subst e
    replace hF := om_none hF
    refine ww_astore_2N 6 rfl (by decide +kernel) (by decide) ?_
    refine ww_aload_2N 7 rfl (by decide +kernel) ?_
    refine ww_ifnonnullN 10 rfl (5) (by decide +kernel) ?_
    refine ww_iconst 11 rfl (0) (0 : Int32) (by decide +kernel) (by decide) ?_
    cases hF
    exact ww_zret (by decide +kernel) rfl (by decide)
  · intro k3 e
    subst e
    replace hF := om_some hF
    obtain ⟨g4, hF⟩ := gp_at hF
    refine ww_astore_2 6 rfl (by decide +kernel) (by decide) ?_
    refine ww_aload_2 7 rfl (by decide +kernel) ?_
    refine ww_ifnonnull (5) 12 (by decide +kernel) (by decide) ?_
    refine ww_aload_0 13 rfl (by decide +kernel) ?_
    obtain ⟨r6, m7, h5, hF⟩ := cal_at hF
    refine ww_cV0q 16 rfl 7 27 (by decide +kernel) mf_Wire_append k_Wire_27 rfl (by decide) rfl ⟨by decide, by decide⟩ ⟨rfl, rfl⟩ (Nat.le_of_ble_eq_true rfl) (C_Wire_append h5) ?_ ?_
    · intro e
      subst e
      replace hF := om_none hF
      refine ww_astore_3N 17 rfl (by decide +kernel) (by decide) ?_
      refine ww_aload_3N 18 rfl (by decide +kernel) ?_
      refine ww_ifnonnullN 21 rfl (5) (by decide +kernel) ?_
      refine ww_iconst 22 rfl (0) (0 : Int32) (by decide +kernel) (by decide) ?_
      cases hF
      exact ww_zret (by decide +kernel) rfl (by decide)
    · intro k8 e
      subst e
      replace hF := om_some hF
      obtain ⟨g9, hF⟩ := gp_at hF
      refine ww_astore_3 17 rfl (by decide +kernel) (by decide) ?_
      refine ww_aload_3 18 rfl (by decide +kernel) ?_
      refine ww_ifnonnull (5) 23 (by decide +kernel) (by decide) ?_
      refine ww_aload_3 24 rfl (by decide +kernel) ?_
      refine ww_aload_2 25 rfl (by decide +kernel) ?_
      obtain ⟨m11, h10, hF⟩ := rd_at hF
      refine ww_cV1v 28 rfl 3 31 (by decide +kernel) mf_Packet_copyFrom k_Wire_31 g9 (by decide) rfl ⟨by decide, by decide⟩ ⟨rfl, rfl⟩ (Nat.le_of_ble_eq_true rfl) (C_Packet_copyFrom g9 g4 h10) ?_
      refine ww_iconst 29 rfl (1) (1 : Int32) (by decide +kernel) (by decide) ?_
      cases hF
      exact ww_zret (by decide +kernel) rfl (by decide)
