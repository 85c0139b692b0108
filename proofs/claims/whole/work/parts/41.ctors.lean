def P_Adaptive (ca : Nat → ClassId) (h0 : Nat) (w : va_W) : Prop :=  w = [(h0, .inr (1, [.int (0 : Int32), .int (0 : Int32)]))]
set_option maxHeartbeats 8000000 in
set_option maxRecDepth 100000 in
theorem I_Adaptive_init {l : Launch} {ca : Nat → ClassId} {h0 : Nat}  : CI l ca y_Adaptive_init b_Adaptive_init 1 { frames := 1, cells := 0, slots := 0, locals := 20 } [.ref h0] [(h0, .inr (1, [.int 0, .int 0]))] (P_Adaptive ca h0) 0 0 := by
  refine ci_of (own := R_Adaptive) (lv := [some (.ref h0)]) (by decide) rfl rfl (cat_ok rfl) (Nat.le_of_ble_eq_true rfl) rfl ?_
  refine vv_aload_0 1 rfl (by decide +kernel) ?_
  refine vv_obj 4 rfl 3 (by decide +kernel) k_Adaptive_3 ob_code ob_ins ⟨Nat.le_of_ble_eq_true rfl, Nat.le_of_ble_eq_true rfl⟩ (Nat.le_of_ble_eq_true rfl) ?_
  refine vv_aload_0 5 rfl (by decide +kernel) ?_
  refine vv_iconst 6 rfl (0) (0 : Int32) (by decide +kernel) (by decide) ?_
  refine vv_put 9 rfl (w1 := [(h0, .inr (1, [.int (0 : Int32), .int 0]))]) 1 0 9 0 (by decide +kernel) (by decide) (by decide) rfl k_Adaptive_9 rfl rfl (ty := .int) (by decide +kernel) rfl rfl (Nat.le_of_ble_eq_true rfl) rfl ?_
  refine vv_aload_0 10 rfl (by decide +kernel) ?_
  refine vv_iconst 11 rfl (0) (0 : Int32) (by decide +kernel) (by decide) ?_
  refine vv_put 14 rfl (w1 := [(h0, .inr (1, [.int (0 : Int32), .int (0 : Int32)]))]) 1 1 15 0 (by decide +kernel) (by decide) (by decide) rfl k_Adaptive_15 rfl rfl (ty := .int) (by decide +kernel) rfl rfl (Nat.le_of_ble_eq_true rfl) rfl ?_
  exact vv_ret (by decide +kernel) rfl (Nat.le_refl _) (Nat.le_refl _) rfl
def P_Samples (ca : Nat → ClassId) (h0 : Nat) (N : Nat) (w : va_W) : Prop := ∃ (q1 : Nat), w = [(h0, .inr (5, [.ref q1, .int (0 : Int32)])), (q1, .inl (ca 0, N, .inl (fun _ => 0)))]
set_option maxHeartbeats 8000000 in
set_option maxRecDepth 100000 in
theorem I_Samples_init {l : Launch} {ca : Nat → ClassId} {h0 : Nat} {N : Nat} {p1 : Int32} (hn : ¬ p1 < 0) (hN : p1.toNatClampNeg = N) (hb : N * 4 ≤ 536870912) : CI l ca y_Samples_init b_Samples_init 2 { frames := 1, cells := 1, slots := N, locals := 20 } [.ref h0, .int p1] [(h0, .inr (5, [.null, .int 0]))] (P_Samples ca h0 N) 1 N := by
  refine ci_of (own := R_Samples) (lv := [some (.ref h0), some (.int p1)]) (by decide) rfl rfl (cat_ok rfl) (Nat.le_of_ble_eq_true rfl) rfl ?_
  refine vv_aload_0 1 rfl (by decide +kernel) ?_
  refine vv_obj 4 rfl 3 (by decide +kernel) k_Samples_3 ob_code ob_ins ⟨Nat.le_of_ble_eq_true rfl, Nat.le_of_ble_eq_true rfl⟩ (Nat.le_of_ble_eq_true rfl) ?_
  refine vv_aload_0 5 rfl (by decide +kernel) ?_
  refine vv_iload_1 6 rfl (by decide +kernel) ?_
  refine vv_newi 8 rfl N (by decide +kernel) ar_int hn hN hb 1 N rfl (Nat.zero_add N) ⟨Nat.le_of_ble_eq_true rfl, Nat.le_refl N⟩ (fun q1 => ?_)
  refine vv_putF 11 rfl (w1 := [(h0, .inr (5, [.ref q1, .int 0])), (q1, .inl (ca 0, N, .inl (fun _ => 0)))]) 5 0 9 0 (by decide +kernel) (by decide) (by decide) rfl k_Samples_9 rfl rfl rfl (ty := .array .int) (by decide +kernel) rfl rfl (Nat.le_of_ble_eq_true rfl) rfl ?_
  refine vv_aload_0 12 rfl (by decide +kernel) ?_
  refine vv_iconst 13 rfl (0) (0 : Int32) (by decide +kernel) (by decide) ?_
  refine vv_put 16 rfl (w1 := [(h0, .inr (5, [.ref q1, .int (0 : Int32)])), (q1, .inl (ca 0, N, .inl (fun _ => 0)))]) 5 1 15 0 (by decide +kernel) (by decide) (by decide) rfl k_Samples_15 rfl rfl (ty := .int) (by decide +kernel) rfl rfl (Nat.le_of_ble_eq_true rfl) rfl ?_
  exact vv_ret (by decide +kernel) rfl (Nat.le_refl _) (Nat.le_refl _) ⟨q1, rfl⟩
def P_Packet (ca : Nat → ClassId) (h0 : Nat) (w : va_W) : Prop := ∃ (q1 : Nat), w = [(h0, .inr (3, [.ref q1, .int (0 : Int32)])), (q1, .inl (ca 0, 44, .inl (fun _ => 0)))]
set_option maxHeartbeats 8000000 in
set_option maxRecDepth 100000 in
theorem I_Packet_init {l : Launch} {ca : Nat → ClassId} {h0 : Nat}  : CI l ca y_Packet_init b_Packet_init 1 { frames := 1, cells := 1, slots := 44, locals := 20 } [.ref h0] [(h0, .inr (3, [.null, .int 0]))] (P_Packet ca h0) 1 44 := by
  refine ci_of (own := R_Packet) (lv := [some (.ref h0)]) (by decide) rfl rfl (cat_ok rfl) (Nat.le_of_ble_eq_true rfl) rfl ?_
  refine vv_aload_0 1 rfl (by decide +kernel) ?_
  refine vv_obj 4 rfl 3 (by decide +kernel) k_Packet_3 ob_code ob_ins ⟨Nat.le_of_ble_eq_true rfl, Nat.le_of_ble_eq_true rfl⟩ (Nat.le_of_ble_eq_true rfl) ?_
  refine vv_aload_0 5 rfl (by decide +kernel) ?_
  refine vv_bipush 7 rfl (44) (44 : Int32) (by decide +kernel) (by decide) ?_
  refine vv_newi 9 rfl 44 (by decide +kernel) ar_int (by decide) (by decide) (by decide) 1 44 rfl rfl ⟨Nat.le_of_ble_eq_true rfl, Nat.le_of_ble_eq_true rfl⟩ (fun q1 => ?_)
  refine vv_putF 12 rfl (w1 := [(h0, .inr (3, [.ref q1, .int 0])), (q1, .inl (ca 0, 44, .inl (fun _ => 0)))]) 3 0 11 0 (by decide +kernel) (by decide) (by decide) rfl k_Packet_11 rfl rfl rfl (ty := .array .int) (by decide +kernel) rfl rfl (Nat.le_of_ble_eq_true rfl) rfl ?_
  refine vv_aload_0 13 rfl (by decide +kernel) ?_
  refine vv_iconst 14 rfl (0) (0 : Int32) (by decide +kernel) (by decide) ?_
  refine vv_put 17 rfl (w1 := [(h0, .inr (3, [.ref q1, .int (0 : Int32)])), (q1, .inl (ca 0, 44, .inl (fun _ => 0)))]) 3 1 15 0 (by decide +kernel) (by decide) (by decide) rfl k_Packet_15 rfl rfl (ty := .int) (by decide +kernel) rfl rfl (Nat.le_of_ble_eq_true rfl) rfl ?_
  exact vv_ret (by decide +kernel) rfl (Nat.le_refl _) (Nat.le_refl _) ⟨q1, rfl⟩
def P_Wire (ca : Nat → ClassId) (h0 : Nat) (w : va_W) : Prop := ∃ (q1 : Nat), ∃ (q2 : Nat), ∃ (q4 : Nat), ∃ (q6 : Nat), ∃ (q8 : Nat), ∃ (q10 : Nat), ∃ (q12 : Nat), ∃ (q14 : Nat), ∃ (q16 : Nat), ∃ (q18 : Nat), ∃ (q20 : Nat), ∃ (q22 : Nat), ∃ (q24 : Nat), ∃ (q26 : Nat), ∃ (q28 : Nat), ∃ (q30 : Nat), ∃ (q32 : Nat), ∃ (f33 : Nat → Option Nat), (f33 0 = some q2 ∧ f33 1 = some q6 ∧ f33 2 = some q10 ∧ f33 3 = some q14 ∧ f33 4 = some q18 ∧ f33 5 = some q22 ∧ f33 6 = some q26 ∧ f33 7 = some q30) ∧ w = [(h0, .inr (7, [.ref q1, .int (0 : Int32)])), (q1, .inl (ca 2, 8, .inr (.inr (.inr (.inr f33))))), (q2, .inr (3, [.ref q4, .int (0 : Int32)])), (q4, .inl (ca 0, 44, .inl (fun _ => 0))), (q6, .inr (3, [.ref q8, .int (0 : Int32)])), (q8, .inl (ca 0, 44, .inl (fun _ => 0))), (q10, .inr (3, [.ref q12, .int (0 : Int32)])), (q12, .inl (ca 0, 44, .inl (fun _ => 0))), (q14, .inr (3, [.ref q16, .int (0 : Int32)])), (q16, .inl (ca 0, 44, .inl (fun _ => 0))), (q18, .inr (3, [.ref q20, .int (0 : Int32)])), (q20, .inl (ca 0, 44, .inl (fun _ => 0))), (q22, .inr (3, [.ref q24, .int (0 : Int32)])), (q24, .inl (ca 0, 44, .inl (fun _ => 0))), (q26, .inr (3, [.ref q28, .int (0 : Int32)])), (q28, .inl (ca 0, 44, .inl (fun _ => 0))), (q30, .inr (3, [.ref q32, .int (0 : Int32)])), (q32, .inl (ca 0, 44, .inl (fun _ => 0)))]
set_option maxHeartbeats 8000000 in
set_option maxRecDepth 100000 in
theorem I_Wire_init {l : Launch} {ca : Nat → ClassId} {h0 : Nat}  : CI l ca y_Wire_init b_Wire_init 2 { frames := 2, cells := 17, slots := 376, locals := 40 } [.ref h0] [(h0, .inr (7, [.null, .int 0]))] (P_Wire ca h0) 17 376 := by
  refine ci_of (own := R_Wire) (lv := [some (.ref h0), none]) (by decide) rfl rfl (cat_ok rfl) (Nat.le_of_ble_eq_true rfl) rfl ?_
  refine vv_aload_0 1 rfl (by decide +kernel) ?_
  refine vv_obj 4 rfl 1 (by decide +kernel) k_Wire_1 ob_code ob_ins ⟨Nat.le_of_ble_eq_true rfl, Nat.le_of_ble_eq_true rfl⟩ (Nat.le_of_ble_eq_true rfl) ?_
  refine vv_aload_0 5 rfl (by decide +kernel) ?_
  refine vv_bipush 7 rfl (8) (8 : Int32) (by decide +kernel) (by decide) ?_
  refine vv_newq 10 rfl 8 9 (by decide +kernel) k_Wire_9 (by decide) (by decide) (by decide) 1 8 rfl rfl ⟨Nat.le_of_ble_eq_true rfl, Nat.le_of_ble_eq_true rfl⟩ (fun q1 => ?_)
  refine vv_putF 13 rfl (w1 := [(h0, .inr (7, [.ref q1, .int 0])), (q1, .inl (ca 2, 8, .inr (.inr (.inr (.inr (fun _ => none))))))]) 7 0 11 0 (by decide +kernel) (by decide) (by decide) rfl k_Wire_11 rfl rfl rfl (ty := .array (.object "VoiceGateway$Packet")) (by decide +kernel) rfl rfl (Nat.le_of_ble_eq_true rfl) rfl ?_
  refine vv_iconst 14 rfl (0) (0 : Int32) (by decide +kernel) (by decide) ?_
  refine vv_istore_1 15 rfl (by decide +kernel) (by decide) ?_
  refine vv_iload_1 16 rfl (by decide +kernel) ?_
  refine vv_bipush 18 rfl (8) (8 : Int32) (by decide +kernel) (by decide) ?_
  refine vv_icmp_ge 21 rfl (22) 40 (by decide +kernel) (by decide) (fun h => absurd h (by decide)) (fun _ => ?_)
  refine vv_aload_0 22 rfl (by decide +kernel) ?_
  refine vv_get 25 rfl 7 0 11 0 (by decide +kernel) (by decide) (by decide) rfl k_Wire_11 rfl rfl ?_
  refine vv_iload_1 26 rfl (by decide +kernel) ?_
  refine vv_new 29 rfl 3 9 (by decide +kernel) (by decide) k_Wire_9 in_Packet ini_Packet bl_Packet 2 10 rfl rfl ⟨Nat.le_of_ble_eq_true rfl, Nat.le_of_ble_eq_true rfl⟩ (fun q2 => ?_)
  refine vv_dup 30 rfl (by decide +kernel) rfl ?_
  refine vv_init 33 rfl 15 [] (by decide +kernel) rfl mi_Packet.1 mi_Packet.2.1 mi_Packet.2.2.1 mi_Packet.2.2.2 k_Wire_15 rfl ⟨Nat.le_of_ble_eq_true rfl, Nat.le_of_ble_eq_true rfl⟩ ⟨rfl, rfl⟩ 3 54 rfl rfl ⟨Nat.le_of_ble_eq_true rfl, Nat.le_of_ble_eq_true rfl⟩ (Nat.le_of_ble_eq_true rfl) rfl (I_Packet_init) (fun w3 hw3 => ?_)
  obtain ⟨q4, rfl⟩ := hw3
  refine vv_w (w1 := [(h0, .inr (7, [.ref q1, .int 0])), (q1, .inl (ca 2, 8, .inr (.inr (.inr (.inr (fun _ => none)))))), (q2, .inr (3, [.ref q4, .int (0 : Int32)])), (q4, .inl (ca 0, 44, .inl (fun _ => 0)))]) rfl ?_
  refine vv_aast 34 rfl 1 2 (by decide +kernel) rfl rfl (by decide) (fun f5 ef5 => ?_)
  refine vv_w (w1 := [(h0, .inr (7, [.ref q1, .int 0])), (q1, .inl (ca 2, 8, .inr (.inr (.inr (.inr f5))))), (q2, .inr (3, [.ref q4, .int (0 : Int32)])), (q4, .inl (ca 0, 44, .inl (fun _ => 0)))]) rfl ?_
  refine vv_iinc_1 37 rfl (1) (1 : Int32) (by decide +kernel) (by decide) (by decide) ?_
  refine vv_goto (-22) 15 (by decide +kernel) (by decide) ?_
  refine vv_iload_1 16 rfl (by decide +kernel) ?_
  refine vv_bipush 18 rfl (8) (8 : Int32) (by decide +kernel) (by decide) ?_
  refine vv_icmp_ge 21 rfl (22) 40 (by decide +kernel) (by decide) (fun h => absurd h (by decide)) (fun _ => ?_)
  refine vv_aload_0 22 rfl (by decide +kernel) ?_
  refine vv_get 25 rfl 7 0 11 0 (by decide +kernel) (by decide) (by decide) rfl k_Wire_11 rfl rfl ?_
  refine vv_iload_1 26 rfl (by decide +kernel) ?_
  refine vv_new 29 rfl 3 9 (by decide +kernel) (by decide) k_Wire_9 in_Packet ini_Packet bl_Packet 4 56 rfl rfl ⟨Nat.le_of_ble_eq_true rfl, Nat.le_of_ble_eq_true rfl⟩ (fun q6 => ?_)
  refine vv_dup 30 rfl (by decide +kernel) rfl ?_
  refine vv_init 33 rfl 15 [] (by decide +kernel) rfl mi_Packet.1 mi_Packet.2.1 mi_Packet.2.2.1 mi_Packet.2.2.2 k_Wire_15 rfl ⟨Nat.le_of_ble_eq_true rfl, Nat.le_of_ble_eq_true rfl⟩ ⟨rfl, rfl⟩ 5 100 rfl rfl ⟨Nat.le_of_ble_eq_true rfl, Nat.le_of_ble_eq_true rfl⟩ (Nat.le_of_ble_eq_true rfl) rfl (I_Packet_init) (fun w7 hw7 => ?_)
  obtain ⟨q8, rfl⟩ := hw7
  refine vv_w (w1 := [(h0, .inr (7, [.ref q1, .int 0])), (q1, .inl (ca 2, 8, .inr (.inr (.inr (.inr f5))))), (q2, .inr (3, [.ref q4, .int (0 : Int32)])), (q4, .inl (ca 0, 44, .inl (fun _ => 0))), (q6, .inr (3, [.ref q8, .int (0 : Int32)])), (q8, .inl (ca 0, 44, .inl (fun _ => 0)))]) rfl ?_
  refine vv_aast 34 rfl 1 4 (by decide +kernel) rfl rfl (by decide) (fun f9 ef9 => ?_)
  refine vv_w (w1 := [(h0, .inr (7, [.ref q1, .int 0])), (q1, .inl (ca 2, 8, .inr (.inr (.inr (.inr f9))))), (q2, .inr (3, [.ref q4, .int (0 : Int32)])), (q4, .inl (ca 0, 44, .inl (fun _ => 0))), (q6, .inr (3, [.ref q8, .int (0 : Int32)])), (q8, .inl (ca 0, 44, .inl (fun _ => 0)))]) rfl ?_
  refine vv_iinc_1 37 rfl (1) (2 : Int32) (by decide +kernel) (by decide) (by decide) ?_
  refine vv_goto (-22) 15 (by decide +kernel) (by decide) ?_
  refine vv_iload_1 16 rfl (by decide +kernel) ?_
  refine vv_bipush 18 rfl (8) (8 : Int32) (by decide +kernel) (by decide) ?_
  refine vv_icmp_ge 21 rfl (22) 40 (by decide +kernel) (by decide) (fun h => absurd h (by decide)) (fun _ => ?_)
  refine vv_aload_0 22 rfl (by decide +kernel) ?_
  refine vv_get 25 rfl 7 0 11 0 (by decide +kernel) (by decide) (by decide) rfl k_Wire_11 rfl rfl ?_
  refine vv_iload_1 26 rfl (by decide +kernel) ?_
  refine vv_new 29 rfl 3 9 (by decide +kernel) (by decide) k_Wire_9 in_Packet ini_Packet bl_Packet 6 102 rfl rfl ⟨Nat.le_of_ble_eq_true rfl, Nat.le_of_ble_eq_true rfl⟩ (fun q10 => ?_)
  refine vv_dup 30 rfl (by decide +kernel) rfl ?_
  refine vv_init 33 rfl 15 [] (by decide +kernel) rfl mi_Packet.1 mi_Packet.2.1 mi_Packet.2.2.1 mi_Packet.2.2.2 k_Wire_15 rfl ⟨Nat.le_of_ble_eq_true rfl, Nat.le_of_ble_eq_true rfl⟩ ⟨rfl, rfl⟩ 7 146 rfl rfl ⟨Nat.le_of_ble_eq_true rfl, Nat.le_of_ble_eq_true rfl⟩ (Nat.le_of_ble_eq_true rfl) rfl (I_Packet_init) (fun w11 hw11 => ?_)
  obtain ⟨q12, rfl⟩ := hw11
  refine vv_w (w1 := [(h0, .inr (7, [.ref q1, .int 0])), (q1, .inl (ca 2, 8, .inr (.inr (.inr (.inr f9))))), (q2, .inr (3, [.ref q4, .int (0 : Int32)])), (q4, .inl (ca 0, 44, .inl (fun _ => 0))), (q6, .inr (3, [.ref q8, .int (0 : Int32)])), (q8, .inl (ca 0, 44, .inl (fun _ => 0))), (q10, .inr (3, [.ref q12, .int (0 : Int32)])), (q12, .inl (ca 0, 44, .inl (fun _ => 0)))]) rfl ?_
  refine vv_aast 34 rfl 1 6 (by decide +kernel) rfl rfl (by decide) (fun f13 ef13 => ?_)
  refine vv_w (w1 := [(h0, .inr (7, [.ref q1, .int 0])), (q1, .inl (ca 2, 8, .inr (.inr (.inr (.inr f13))))), (q2, .inr (3, [.ref q4, .int (0 : Int32)])), (q4, .inl (ca 0, 44, .inl (fun _ => 0))), (q6, .inr (3, [.ref q8, .int (0 : Int32)])), (q8, .inl (ca 0, 44, .inl (fun _ => 0))), (q10, .inr (3, [.ref q12, .int (0 : Int32)])), (q12, .inl (ca 0, 44, .inl (fun _ => 0)))]) rfl ?_
  refine vv_iinc_1 37 rfl (1) (3 : Int32) (by decide +kernel) (by decide) (by decide) ?_
  refine vv_goto (-22) 15 (by decide +kernel) (by decide) ?_
  refine vv_iload_1 16 rfl (by decide +kernel) ?_
  refine vv_bipush 18 rfl (8) (8 : Int32) (by decide +kernel) (by decide) ?_
  refine vv_icmp_ge 21 rfl (22) 40 (by decide +kernel) (by decide) (fun h => absurd h (by decide)) (fun _ => ?_)
  refine vv_aload_0 22 rfl (by decide +kernel) ?_
  refine vv_get 25 rfl 7 0 11 0 (by decide +kernel) (by decide) (by decide) rfl k_Wire_11 rfl rfl ?_
  refine vv_iload_1 26 rfl (by decide +kernel) ?_
  refine vv_new 29 rfl 3 9 (by decide +kernel) (by decide) k_Wire_9 in_Packet ini_Packet bl_Packet 8 148 rfl rfl ⟨Nat.le_of_ble_eq_true rfl, Nat.le_of_ble_eq_true rfl⟩ (fun q14 => ?_)
  refine vv_dup 30 rfl (by decide +kernel) rfl ?_
  refine vv_init 33 rfl 15 [] (by decide +kernel) rfl mi_Packet.1 mi_Packet.2.1 mi_Packet.2.2.1 mi_Packet.2.2.2 k_Wire_15 rfl ⟨Nat.le_of_ble_eq_true rfl, Nat.le_of_ble_eq_true rfl⟩ ⟨rfl, rfl⟩ 9 192 rfl rfl ⟨Nat.le_of_ble_eq_true rfl, Nat.le_of_ble_eq_true rfl⟩ (Nat.le_of_ble_eq_true rfl) rfl (I_Packet_init) (fun w15 hw15 => ?_)
  obtain ⟨q16, rfl⟩ := hw15
  refine vv_w (w1 := [(h0, .inr (7, [.ref q1, .int 0])), (q1, .inl (ca 2, 8, .inr (.inr (.inr (.inr f13))))), (q2, .inr (3, [.ref q4, .int (0 : Int32)])), (q4, .inl (ca 0, 44, .inl (fun _ => 0))), (q6, .inr (3, [.ref q8, .int (0 : Int32)])), (q8, .inl (ca 0, 44, .inl (fun _ => 0))), (q10, .inr (3, [.ref q12, .int (0 : Int32)])), (q12, .inl (ca 0, 44, .inl (fun _ => 0))), (q14, .inr (3, [.ref q16, .int (0 : Int32)])), (q16, .inl (ca 0, 44, .inl (fun _ => 0)))]) rfl ?_
  refine vv_aast 34 rfl 1 8 (by decide +kernel) rfl rfl (by decide) (fun f17 ef17 => ?_)
  refine vv_w (w1 := [(h0, .inr (7, [.ref q1, .int 0])), (q1, .inl (ca 2, 8, .inr (.inr (.inr (.inr f17))))), (q2, .inr (3, [.ref q4, .int (0 : Int32)])), (q4, .inl (ca 0, 44, .inl (fun _ => 0))), (q6, .inr (3, [.ref q8, .int (0 : Int32)])), (q8, .inl (ca 0, 44, .inl (fun _ => 0))), (q10, .inr (3, [.ref q12, .int (0 : Int32)])), (q12, .inl (ca 0, 44, .inl (fun _ => 0))), (q14, .inr (3, [.ref q16, .int (0 : Int32)])), (q16, .inl (ca 0, 44, .inl (fun _ => 0)))]) rfl ?_
  refine vv_iinc_1 37 rfl (1) (4 : Int32) (by decide +kernel) (by decide) (by decide) ?_
  refine vv_goto (-22) 15 (by decide +kernel) (by decide) ?_
  refine vv_iload_1 16 rfl (by decide +kernel) ?_
  refine vv_bipush 18 rfl (8) (8 : Int32) (by decide +kernel) (by decide) ?_
  refine vv_icmp_ge 21 rfl (22) 40 (by decide +kernel) (by decide) (fun h => absurd h (by decide)) (fun _ => ?_)
  refine vv_aload_0 22 rfl (by decide +kernel) ?_
  refine vv_get 25 rfl 7 0 11 0 (by decide +kernel) (by decide) (by decide) rfl k_Wire_11 rfl rfl ?_
  refine vv_iload_1 26 rfl (by decide +kernel) ?_
  refine vv_new 29 rfl 3 9 (by decide +kernel) (by decide) k_Wire_9 in_Packet ini_Packet bl_Packet 10 194 rfl rfl ⟨Nat.le_of_ble_eq_true rfl, Nat.le_of_ble_eq_true rfl⟩ (fun q18 => ?_)
  refine vv_dup 30 rfl (by decide +kernel) rfl ?_
  refine vv_init 33 rfl 15 [] (by decide +kernel) rfl mi_Packet.1 mi_Packet.2.1 mi_Packet.2.2.1 mi_Packet.2.2.2 k_Wire_15 rfl ⟨Nat.le_of_ble_eq_true rfl, Nat.le_of_ble_eq_true rfl⟩ ⟨rfl, rfl⟩ 11 238 rfl rfl ⟨Nat.le_of_ble_eq_true rfl, Nat.le_of_ble_eq_true rfl⟩ (Nat.le_of_ble_eq_true rfl) rfl (I_Packet_init) (fun w19 hw19 => ?_)
  obtain ⟨q20, rfl⟩ := hw19
  refine vv_w (w1 := [(h0, .inr (7, [.ref q1, .int 0])), (q1, .inl (ca 2, 8, .inr (.inr (.inr (.inr f17))))), (q2, .inr (3, [.ref q4, .int (0 : Int32)])), (q4, .inl (ca 0, 44, .inl (fun _ => 0))), (q6, .inr (3, [.ref q8, .int (0 : Int32)])), (q8, .inl (ca 0, 44, .inl (fun _ => 0))), (q10, .inr (3, [.ref q12, .int (0 : Int32)])), (q12, .inl (ca 0, 44, .inl (fun _ => 0))), (q14, .inr (3, [.ref q16, .int (0 : Int32)])), (q16, .inl (ca 0, 44, .inl (fun _ => 0))), (q18, .inr (3, [.ref q20, .int (0 : Int32)])), (q20, .inl (ca 0, 44, .inl (fun _ => 0)))]) rfl ?_
  refine vv_aast 34 rfl 1 10 (by decide +kernel) rfl rfl (by decide) (fun f21 ef21 => ?_)
  refine vv_w (w1 := [(h0, .inr (7, [.ref q1, .int 0])), (q1, .inl (ca 2, 8, .inr (.inr (.inr (.inr f21))))), (q2, .inr (3, [.ref q4, .int (0 : Int32)])), (q4, .inl (ca 0, 44, .inl (fun _ => 0))), (q6, .inr (3, [.ref q8, .int (0 : Int32)])), (q8, .inl (ca 0, 44, .inl (fun _ => 0))), (q10, .inr (3, [.ref q12, .int (0 : Int32)])), (q12, .inl (ca 0, 44, .inl (fun _ => 0))), (q14, .inr (3, [.ref q16, .int (0 : Int32)])), (q16, .inl (ca 0, 44, .inl (fun _ => 0))), (q18, .inr (3, [.ref q20, .int (0 : Int32)])), (q20, .inl (ca 0, 44, .inl (fun _ => 0)))]) rfl ?_
  refine vv_iinc_1 37 rfl (1) (5 : Int32) (by decide +kernel) (by decide) (by decide) ?_
  refine vv_goto (-22) 15 (by decide +kernel) (by decide) ?_
  refine vv_iload_1 16 rfl (by decide +kernel) ?_
  refine vv_bipush 18 rfl (8) (8 : Int32) (by decide +kernel) (by decide) ?_
  refine vv_icmp_ge 21 rfl (22) 40 (by decide +kernel) (by decide) (fun h => absurd h (by decide)) (fun _ => ?_)
  refine vv_aload_0 22 rfl (by decide +kernel) ?_
  refine vv_get 25 rfl 7 0 11 0 (by decide +kernel) (by decide) (by decide) rfl k_Wire_11 rfl rfl ?_
  refine vv_iload_1 26 rfl (by decide +kernel) ?_
  refine vv_new 29 rfl 3 9 (by decide +kernel) (by decide) k_Wire_9 in_Packet ini_Packet bl_Packet 12 240 rfl rfl ⟨Nat.le_of_ble_eq_true rfl, Nat.le_of_ble_eq_true rfl⟩ (fun q22 => ?_)
  refine vv_dup 30 rfl (by decide +kernel) rfl ?_
  refine vv_init 33 rfl 15 [] (by decide +kernel) rfl mi_Packet.1 mi_Packet.2.1 mi_Packet.2.2.1 mi_Packet.2.2.2 k_Wire_15 rfl ⟨Nat.le_of_ble_eq_true rfl, Nat.le_of_ble_eq_true rfl⟩ ⟨rfl, rfl⟩ 13 284 rfl rfl ⟨Nat.le_of_ble_eq_true rfl, Nat.le_of_ble_eq_true rfl⟩ (Nat.le_of_ble_eq_true rfl) rfl (I_Packet_init) (fun w23 hw23 => ?_)
  obtain ⟨q24, rfl⟩ := hw23
  refine vv_w (w1 := [(h0, .inr (7, [.ref q1, .int 0])), (q1, .inl (ca 2, 8, .inr (.inr (.inr (.inr f21))))), (q2, .inr (3, [.ref q4, .int (0 : Int32)])), (q4, .inl (ca 0, 44, .inl (fun _ => 0))), (q6, .inr (3, [.ref q8, .int (0 : Int32)])), (q8, .inl (ca 0, 44, .inl (fun _ => 0))), (q10, .inr (3, [.ref q12, .int (0 : Int32)])), (q12, .inl (ca 0, 44, .inl (fun _ => 0))), (q14, .inr (3, [.ref q16, .int (0 : Int32)])), (q16, .inl (ca 0, 44, .inl (fun _ => 0))), (q18, .inr (3, [.ref q20, .int (0 : Int32)])), (q20, .inl (ca 0, 44, .inl (fun _ => 0))), (q22, .inr (3, [.ref q24, .int (0 : Int32)])), (q24, .inl (ca 0, 44, .inl (fun _ => 0)))]) rfl ?_
  refine vv_aast 34 rfl 1 12 (by decide +kernel) rfl rfl (by decide) (fun f25 ef25 => ?_)
  refine vv_w (w1 := [(h0, .inr (7, [.ref q1, .int 0])), (q1, .inl (ca 2, 8, .inr (.inr (.inr (.inr f25))))), (q2, .inr (3, [.ref q4, .int (0 : Int32)])), (q4, .inl (ca 0, 44, .inl (fun _ => 0))), (q6, .inr (3, [.ref q8, .int (0 : Int32)])), (q8, .inl (ca 0, 44, .inl (fun _ => 0))), (q10, .inr (3, [.ref q12, .int (0 : Int32)])), (q12, .inl (ca 0, 44, .inl (fun _ => 0))), (q14, .inr (3, [.ref q16, .int (0 : Int32)])), (q16, .inl (ca 0, 44, .inl (fun _ => 0))), (q18, .inr (3, [.ref q20, .int (0 : Int32)])), (q20, .inl (ca 0, 44, .inl (fun _ => 0))), (q22, .inr (3, [.ref q24, .int (0 : Int32)])), (q24, .inl (ca 0, 44, .inl (fun _ => 0)))]) rfl ?_
  refine vv_iinc_1 37 rfl (1) (6 : Int32) (by decide +kernel) (by decide) (by decide) ?_
  refine vv_goto (-22) 15 (by decide +kernel) (by decide) ?_
  refine vv_iload_1 16 rfl (by decide +kernel) ?_
  refine vv_bipush 18 rfl (8) (8 : Int32) (by decide +kernel) (by decide) ?_
  refine vv_icmp_ge 21 rfl (22) 40 (by decide +kernel) (by decide) (fun h => absurd h (by decide)) (fun _ => ?_)
  refine vv_aload_0 22 rfl (by decide +kernel) ?_
  refine vv_get 25 rfl 7 0 11 0 (by decide +kernel) (by decide) (by decide) rfl k_Wire_11 rfl rfl ?_
  refine vv_iload_1 26 rfl (by decide +kernel) ?_
  refine vv_new 29 rfl 3 9 (by decide +kernel) (by decide) k_Wire_9 in_Packet ini_Packet bl_Packet 14 286 rfl rfl ⟨Nat.le_of_ble_eq_true rfl, Nat.le_of_ble_eq_true rfl⟩ (fun q26 => ?_)
  refine vv_dup 30 rfl (by decide +kernel) rfl ?_
  refine vv_init 33 rfl 15 [] (by decide +kernel) rfl mi_Packet.1 mi_Packet.2.1 mi_Packet.2.2.1 mi_Packet.2.2.2 k_Wire_15 rfl ⟨Nat.le_of_ble_eq_true rfl, Nat.le_of_ble_eq_true rfl⟩ ⟨rfl, rfl⟩ 15 330 rfl rfl ⟨Nat.le_of_ble_eq_true rfl, Nat.le_of_ble_eq_true rfl⟩ (Nat.le_of_ble_eq_true rfl) rfl (I_Packet_init) (fun w27 hw27 => ?_)
  obtain ⟨q28, rfl⟩ := hw27
  refine vv_w (w1 := [(h0, .inr (7, [.ref q1, .int 0])), (q1, .inl (ca 2, 8, .inr (.inr (.inr (.inr f25))))), (q2, .inr (3, [.ref q4, .int (0 : Int32)])), (q4, .inl (ca 0, 44, .inl (fun _ => 0))), (q6, .inr (3, [.ref q8, .int (0 : Int32)])), (q8, .inl (ca 0, 44, .inl (fun _ => 0))), (q10, .inr (3, [.ref q12, .int (0 : Int32)])), (q12, .inl (ca 0, 44, .inl (fun _ => 0))), (q14, .inr (3, [.ref q16, .int (0 : Int32)])), (q16, .inl (ca 0, 44, .inl (fun _ => 0))), (q18, .inr (3, [.ref q20, .int (0 : Int32)])), (q20, .inl (ca 0, 44, .inl (fun _ => 0))), (q22, .inr (3, [.ref q24, .int (0 : Int32)])), (q24, .inl (ca 0, 44, .inl (fun _ => 0))), (q26, .inr (3, [.ref q28, .int (0 : Int32)])), (q28, .inl (ca 0, 44, .inl (fun _ => 0)))]) rfl ?_
  refine vv_aast 34 rfl 1 14 (by decide +kernel) rfl rfl (by decide) (fun f29 ef29 => ?_)
  refine vv_w (w1 := [(h0, .inr (7, [.ref q1, .int 0])), (q1, .inl (ca 2, 8, .inr (.inr (.inr (.inr f29))))), (q2, .inr (3, [.ref q4, .int (0 : Int32)])), (q4, .inl (ca 0, 44, .inl (fun _ => 0))), (q6, .inr (3, [.ref q8, .int (0 : Int32)])), (q8, .inl (ca 0, 44, .inl (fun _ => 0))), (q10, .inr (3, [.ref q12, .int (0 : Int32)])), (q12, .inl (ca 0, 44, .inl (fun _ => 0))), (q14, .inr (3, [.ref q16, .int (0 : Int32)])), (q16, .inl (ca 0, 44, .inl (fun _ => 0))), (q18, .inr (3, [.ref q20, .int (0 : Int32)])), (q20, .inl (ca 0, 44, .inl (fun _ => 0))), (q22, .inr (3, [.ref q24, .int (0 : Int32)])), (q24, .inl (ca 0, 44, .inl (fun _ => 0))), (q26, .inr (3, [.ref q28, .int (0 : Int32)])), (q28, .inl (ca 0, 44, .inl (fun _ => 0)))]) rfl ?_
  refine vv_iinc_1 37 rfl (1) (7 : Int32) (by decide +kernel) (by decide) (by decide) ?_
  refine vv_goto (-22) 15 (by decide +kernel) (by decide) ?_
  refine vv_iload_1 16 rfl (by decide +kernel) ?_
  refine vv_bipush 18 rfl (8) (8 : Int32) (by decide +kernel) (by decide) ?_
  refine vv_icmp_ge 21 rfl (22) 40 (by decide +kernel) (by decide) (fun h => absurd h (by decide)) (fun _ => ?_)
  refine vv_aload_0 22 rfl (by decide +kernel) ?_
  refine vv_get 25 rfl 7 0 11 0 (by decide +kernel) (by decide) (by decide) rfl k_Wire_11 rfl rfl ?_
  refine vv_iload_1 26 rfl (by decide +kernel) ?_
  refine vv_new 29 rfl 3 9 (by decide +kernel) (by decide) k_Wire_9 in_Packet ini_Packet bl_Packet 16 332 rfl rfl ⟨Nat.le_of_ble_eq_true rfl, Nat.le_of_ble_eq_true rfl⟩ (fun q30 => ?_)
  refine vv_dup 30 rfl (by decide +kernel) rfl ?_
  refine vv_init 33 rfl 15 [] (by decide +kernel) rfl mi_Packet.1 mi_Packet.2.1 mi_Packet.2.2.1 mi_Packet.2.2.2 k_Wire_15 rfl ⟨Nat.le_of_ble_eq_true rfl, Nat.le_of_ble_eq_true rfl⟩ ⟨rfl, rfl⟩ 17 376 rfl rfl ⟨Nat.le_of_ble_eq_true rfl, Nat.le_of_ble_eq_true rfl⟩ (Nat.le_of_ble_eq_true rfl) rfl (I_Packet_init) (fun w31 hw31 => ?_)
  obtain ⟨q32, rfl⟩ := hw31
  refine vv_w (w1 := [(h0, .inr (7, [.ref q1, .int 0])), (q1, .inl (ca 2, 8, .inr (.inr (.inr (.inr f29))))), (q2, .inr (3, [.ref q4, .int (0 : Int32)])), (q4, .inl (ca 0, 44, .inl (fun _ => 0))), (q6, .inr (3, [.ref q8, .int (0 : Int32)])), (q8, .inl (ca 0, 44, .inl (fun _ => 0))), (q10, .inr (3, [.ref q12, .int (0 : Int32)])), (q12, .inl (ca 0, 44, .inl (fun _ => 0))), (q14, .inr (3, [.ref q16, .int (0 : Int32)])), (q16, .inl (ca 0, 44, .inl (fun _ => 0))), (q18, .inr (3, [.ref q20, .int (0 : Int32)])), (q20, .inl (ca 0, 44, .inl (fun _ => 0))), (q22, .inr (3, [.ref q24, .int (0 : Int32)])), (q24, .inl (ca 0, 44, .inl (fun _ => 0))), (q26, .inr (3, [.ref q28, .int (0 : Int32)])), (q28, .inl (ca 0, 44, .inl (fun _ => 0))), (q30, .inr (3, [.ref q32, .int (0 : Int32)])), (q32, .inl (ca 0, 44, .inl (fun _ => 0)))]) rfl ?_
  refine vv_aast 34 rfl 1 16 (by decide +kernel) rfl rfl (by decide) (fun f33 ef33 => ?_)
  refine vv_w (w1 := [(h0, .inr (7, [.ref q1, .int 0])), (q1, .inl (ca 2, 8, .inr (.inr (.inr (.inr f33))))), (q2, .inr (3, [.ref q4, .int (0 : Int32)])), (q4, .inl (ca 0, 44, .inl (fun _ => 0))), (q6, .inr (3, [.ref q8, .int (0 : Int32)])), (q8, .inl (ca 0, 44, .inl (fun _ => 0))), (q10, .inr (3, [.ref q12, .int (0 : Int32)])), (q12, .inl (ca 0, 44, .inl (fun _ => 0))), (q14, .inr (3, [.ref q16, .int (0 : Int32)])), (q16, .inl (ca 0, 44, .inl (fun _ => 0))), (q18, .inr (3, [.ref q20, .int (0 : Int32)])), (q20, .inl (ca 0, 44, .inl (fun _ => 0))), (q22, .inr (3, [.ref q24, .int (0 : Int32)])), (q24, .inl (ca 0, 44, .inl (fun _ => 0))), (q26, .inr (3, [.ref q28, .int (0 : Int32)])), (q28, .inl (ca 0, 44, .inl (fun _ => 0))), (q30, .inr (3, [.ref q32, .int (0 : Int32)])), (q32, .inl (ca 0, 44, .inl (fun _ => 0)))]) rfl ?_
  refine vv_iinc_1 37 rfl (1) (8 : Int32) (by decide +kernel) (by decide) (by decide) ?_
  refine vv_goto (-22) 15 (by decide +kernel) (by decide) ?_
  refine vv_iload_1 16 rfl (by decide +kernel) ?_
  refine vv_bipush 18 rfl (8) (8 : Int32) (by decide +kernel) (by decide) ?_
  refine vv_icmp_ge 21 rfl (22) 40 (by decide +kernel) (by decide) (fun _ => ?_) (fun h => absurd (by decide) h)
  refine vv_aload_0 41 rfl (by decide +kernel) ?_
  refine vv_iconst 42 rfl (0) (0 : Int32) (by decide +kernel) (by decide) ?_
  refine vv_put 45 rfl (w1 := [(h0, .inr (7, [.ref q1, .int (0 : Int32)])), (q1, .inl (ca 2, 8, .inr (.inr (.inr (.inr f33))))), (q2, .inr (3, [.ref q4, .int (0 : Int32)])), (q4, .inl (ca 0, 44, .inl (fun _ => 0))), (q6, .inr (3, [.ref q8, .int (0 : Int32)])), (q8, .inl (ca 0, 44, .inl (fun _ => 0))), (q10, .inr (3, [.ref q12, .int (0 : Int32)])), (q12, .inl (ca 0, 44, .inl (fun _ => 0))), (q14, .inr (3, [.ref q16, .int (0 : Int32)])), (q16, .inl (ca 0, 44, .inl (fun _ => 0))), (q18, .inr (3, [.ref q20, .int (0 : Int32)])), (q20, .inl (ca 0, 44, .inl (fun _ => 0))), (q22, .inr (3, [.ref q24, .int (0 : Int32)])), (q24, .inl (ca 0, 44, .inl (fun _ => 0))), (q26, .inr (3, [.ref q28, .int (0 : Int32)])), (q28, .inl (ca 0, 44, .inl (fun _ => 0))), (q30, .inr (3, [.ref q32, .int (0 : Int32)])), (q32, .inl (ca 0, 44, .inl (fun _ => 0)))]) 7 1 16 0 (by decide +kernel) (by decide) (by decide) rfl k_Wire_16 rfl rfl (ty := .int) (by decide +kernel) rfl rfl (Nat.le_of_ble_eq_true rfl) rfl ?_
  exact vv_ret (by decide +kernel) rfl (Nat.le_refl _) (Nat.le_refl _) ⟨q1, q2, q4, q6, q8, q10, q12, q14, q16, q18, q20, q22, q24, q26, q28, q30, q32, f33, by subst ef33 ef29 ef25 ef21 ef17 ef13 ef9 ef5; exact ⟨rfl, rfl, rfl, rfl, rfl, rfl, rfl, rfl⟩, rfl⟩
def P_Sender (ca : Nat → ClassId) (h0 : Nat) (w : va_W) : Prop := ∃ (q1 : Nat), w = [(h0, .inr (6, [.int (0 : Int32), .int (0 : Int32), .int (0 : Int32), .ref q1])), (q1, .inr (1, [.int (0 : Int32), .int (0 : Int32)]))]
set_option maxHeartbeats 8000000 in
set_option maxRecDepth 100000 in
theorem I_Sender_init {l : Launch} {ca : Nat → ClassId} {h0 : Nat}  : CI l ca y_Sender_init b_Sender_init 1 { frames := 2, cells := 1, slots := 2, locals := 40 } [.ref h0] [(h0, .inr (6, [.int 0, .int 0, .int 0, .null]))] (P_Sender ca h0) 1 2 := by
  refine ci_of (own := R_Sender) (lv := [some (.ref h0)]) (by decide) rfl rfl (cat_ok rfl) (Nat.le_of_ble_eq_true rfl) rfl ?_
  refine vv_aload_0 1 rfl (by decide +kernel) ?_
  refine vv_obj 4 rfl 3 (by decide +kernel) k_Sender_3 ob_code ob_ins ⟨Nat.le_of_ble_eq_true rfl, Nat.le_of_ble_eq_true rfl⟩ (Nat.le_of_ble_eq_true rfl) ?_
  refine vv_aload_0 5 rfl (by decide +kernel) ?_
  refine vv_iconst 6 rfl (0) (0 : Int32) (by decide +kernel) (by decide) ?_
  refine vv_put 9 rfl (w1 := [(h0, .inr (6, [.int (0 : Int32), .int 0, .int 0, .null]))]) 6 0 9 0 (by decide +kernel) (by decide) (by decide) rfl k_Sender_9 rfl rfl (ty := .int) (by decide +kernel) rfl rfl (Nat.le_of_ble_eq_true rfl) rfl ?_
  refine vv_aload_0 10 rfl (by decide +kernel) ?_
  refine vv_iconst 11 rfl (0) (0 : Int32) (by decide +kernel) (by decide) ?_
  refine vv_put 14 rfl (w1 := [(h0, .inr (6, [.int (0 : Int32), .int (0 : Int32), .int 0, .null]))]) 6 1 15 0 (by decide +kernel) (by decide) (by decide) rfl k_Sender_15 rfl rfl (ty := .int) (by decide +kernel) rfl rfl (Nat.le_of_ble_eq_true rfl) rfl ?_
  refine vv_aload_0 15 rfl (by decide +kernel) ?_
  refine vv_iconst 16 rfl (0) (0 : Int32) (by decide +kernel) (by decide) ?_
  refine vv_put 19 rfl (w1 := [(h0, .inr (6, [.int (0 : Int32), .int (0 : Int32), .int (0 : Int32), .null]))]) 6 2 18 0 (by decide +kernel) (by decide) (by decide) rfl k_Sender_18 rfl rfl (ty := .int) (by decide +kernel) rfl rfl (Nat.le_of_ble_eq_true rfl) rfl ?_
  refine vv_aload_0 20 rfl (by decide +kernel) ?_
  refine vv_new 23 rfl 1 21 (by decide +kernel) (by decide) k_Sender_21 in_Adaptive ini_Adaptive bl_Adaptive 1 2 rfl rfl ⟨Nat.le_of_ble_eq_true rfl, Nat.le_of_ble_eq_true rfl⟩ (fun q1 => ?_)
  refine vv_dup 24 rfl (by decide +kernel) rfl ?_
  refine vv_init 27 rfl 23 [] (by decide +kernel) rfl mi_Adaptive.1 mi_Adaptive.2.1 mi_Adaptive.2.2.1 mi_Adaptive.2.2.2 k_Sender_23 rfl ⟨Nat.le_of_ble_eq_true rfl, Nat.le_of_ble_eq_true rfl⟩ ⟨rfl, rfl⟩ 1 2 rfl rfl ⟨Nat.le_of_ble_eq_true rfl, Nat.le_of_ble_eq_true rfl⟩ (Nat.le_of_ble_eq_true rfl) rfl (I_Adaptive_init) (fun w2 hw2 => ?_)
  cases hw2
  refine vv_w (w1 := [(h0, .inr (6, [.int (0 : Int32), .int (0 : Int32), .int (0 : Int32), .null])), (q1, .inr (1, [.int (0 : Int32), .int (0 : Int32)]))]) rfl ?_
  refine vv_putF 30 rfl (w1 := [(h0, .inr (6, [.int (0 : Int32), .int (0 : Int32), .int (0 : Int32), .ref q1])), (q1, .inr (1, [.int (0 : Int32), .int (0 : Int32)]))]) 6 3 24 0 (by decide +kernel) (by decide) (by decide) rfl k_Sender_24 rfl rfl rfl (ty := .object "VoiceGateway$Adaptive") (by decide +kernel) rfl rfl (Nat.le_of_ble_eq_true rfl) rfl ?_
  exact vv_ret (by decide +kernel) rfl (Nat.le_refl _) (Nat.le_refl _) ⟨q1, rfl⟩
def P_Buffer (ca : Nat → ClassId) (h0 : Nat) (w : va_W) : Prop := ∃ (q1 : Nat), ∃ (q2 : Nat), ∃ (q4 : Nat), ∃ (q6 : Nat), ∃ (q8 : Nat), ∃ (q10 : Nat), ∃ (q12 : Nat), ∃ (q14 : Nat), ∃ (q16 : Nat), ∃ (q18 : Nat), ∃ (q20 : Nat), ∃ (q22 : Nat), ∃ (q24 : Nat), ∃ (q26 : Nat), ∃ (q28 : Nat), ∃ (q30 : Nat), ∃ (q32 : Nat), ∃ (q34 : Nat), ∃ (q35 : Nat), ∃ (f33 : Nat → Option Nat), (f33 0 = some q2 ∧ f33 1 = some q6 ∧ f33 2 = some q10 ∧ f33 3 = some q14 ∧ f33 4 = some q18 ∧ f33 5 = some q22 ∧ f33 6 = some q26 ∧ f33 7 = some q30) ∧ w = [(h0, .inr (2, [.ref q1, .ref q34, .ref q35, .int (0 : Int32), .int (0 : Int32), .int (0 : Int32), .int (0 : Int32), .int (1 : Int32)])), (q1, .inl (ca 2, 8, .inr (.inr (.inr (.inr f33))))), (q2, .inr (3, [.ref q4, .int (0 : Int32)])), (q4, .inl (ca 0, 44, .inl (fun _ => 0))), (q6, .inr (3, [.ref q8, .int (0 : Int32)])), (q8, .inl (ca 0, 44, .inl (fun _ => 0))), (q10, .inr (3, [.ref q12, .int (0 : Int32)])), (q12, .inl (ca 0, 44, .inl (fun _ => 0))), (q14, .inr (3, [.ref q16, .int (0 : Int32)])), (q16, .inl (ca 0, 44, .inl (fun _ => 0))), (q18, .inr (3, [.ref q20, .int (0 : Int32)])), (q20, .inl (ca 0, 44, .inl (fun _ => 0))), (q22, .inr (3, [.ref q24, .int (0 : Int32)])), (q24, .inl (ca 0, 44, .inl (fun _ => 0))), (q26, .inr (3, [.ref q28, .int (0 : Int32)])), (q28, .inl (ca 0, 44, .inl (fun _ => 0))), (q30, .inr (3, [.ref q32, .int (0 : Int32)])), (q32, .inl (ca 0, 44, .inl (fun _ => 0))), (q34, .inl (ca 1, 8, .inl (fun _ => 0))), (q35, .inl (ca 0, 8, .inl (fun _ => 0)))]
set_option maxHeartbeats 8000000 in
set_option maxRecDepth 100000 in
theorem I_Buffer_init {l : Launch} {ca : Nat → ClassId} {h0 : Nat}  : CI l ca y_Buffer_init b_Buffer_init 2 { frames := 2, cells := 19, slots := 392, locals := 40 } [.ref h0] [(h0, .inr (2, [.null, .null, .null, .int 0, .int 0, .int 0, .int 0, .int 0]))] (P_Buffer ca h0) 19 392 := by
  refine ci_of (own := R_Buffer) (lv := [some (.ref h0), none]) (by decide) rfl rfl (cat_ok rfl) (Nat.le_of_ble_eq_true rfl) rfl ?_
  refine vv_aload_0 1 rfl (by decide +kernel) ?_
  refine vv_obj 4 rfl 3 (by decide +kernel) k_Buffer_3 ob_code ob_ins ⟨Nat.le_of_ble_eq_true rfl, Nat.le_of_ble_eq_true rfl⟩ (Nat.le_of_ble_eq_true rfl) ?_
  refine vv_aload_0 5 rfl (by decide +kernel) ?_
  refine vv_bipush 7 rfl (8) (8 : Int32) (by decide +kernel) (by decide) ?_
  refine vv_newq 10 rfl 8 11 (by decide +kernel) k_Buffer_11 (by decide) (by decide) (by decide) 1 8 rfl rfl ⟨Nat.le_of_ble_eq_true rfl, Nat.le_of_ble_eq_true rfl⟩ (fun q1 => ?_)
  refine vv_putF 13 rfl (w1 := [(h0, .inr (2, [.ref q1, .null, .null, .int 0, .int 0, .int 0, .int 0, .int 0])), (q1, .inl (ca 2, 8, .inr (.inr (.inr (.inr (fun _ => none))))))]) 2 0 13 0 (by decide +kernel) (by decide) (by decide) rfl k_Buffer_13 rfl rfl rfl (ty := .array (.object "VoiceGateway$Packet")) (by decide +kernel) rfl rfl (Nat.le_of_ble_eq_true rfl) rfl ?_
  refine vv_iconst 14 rfl (0) (0 : Int32) (by decide +kernel) (by decide) ?_
  refine vv_istore_1 15 rfl (by decide +kernel) (by decide) ?_
  refine vv_iload_1 16 rfl (by decide +kernel) ?_
  refine vv_bipush 18 rfl (8) (8 : Int32) (by decide +kernel) (by decide) ?_
  refine vv_icmp_ge 21 rfl (22) 40 (by decide +kernel) (by decide) (fun h => absurd h (by decide)) (fun _ => ?_)
  refine vv_aload_0 22 rfl (by decide +kernel) ?_
  refine vv_get 25 rfl 2 0 13 0 (by decide +kernel) (by decide) (by decide) rfl k_Buffer_13 rfl rfl ?_
  refine vv_iload_1 26 rfl (by decide +kernel) ?_
  refine vv_new 29 rfl 3 11 (by decide +kernel) (by decide) k_Buffer_11 in_Packet ini_Packet bl_Packet 2 10 rfl rfl ⟨Nat.le_of_ble_eq_true rfl, Nat.le_of_ble_eq_true rfl⟩ (fun q2 => ?_)
  refine vv_dup 30 rfl (by decide +kernel) rfl ?_
  refine vv_init 33 rfl 17 [] (by decide +kernel) rfl mi_Packet.1 mi_Packet.2.1 mi_Packet.2.2.1 mi_Packet.2.2.2 k_Buffer_17 rfl ⟨Nat.le_of_ble_eq_true rfl, Nat.le_of_ble_eq_true rfl⟩ ⟨rfl, rfl⟩ 3 54 rfl rfl ⟨Nat.le_of_ble_eq_true rfl, Nat.le_of_ble_eq_true rfl⟩ (Nat.le_of_ble_eq_true rfl) rfl (I_Packet_init) (fun w3 hw3 => ?_)
  obtain ⟨q4, rfl⟩ := hw3
  refine vv_w (w1 := [(h0, .inr (2, [.ref q1, .null, .null, .int 0, .int 0, .int 0, .int 0, .int 0])), (q1, .inl (ca 2, 8, .inr (.inr (.inr (.inr (fun _ => none)))))), (q2, .inr (3, [.ref q4, .int (0 : Int32)])), (q4, .inl (ca 0, 44, .inl (fun _ => 0)))]) rfl ?_
  refine vv_aast 34 rfl 1 2 (by decide +kernel) rfl rfl (by decide) (fun f5 ef5 => ?_)
  refine vv_w (w1 := [(h0, .inr (2, [.ref q1, .null, .null, .int 0, .int 0, .int 0, .int 0, .int 0])), (q1, .inl (ca 2, 8, .inr (.inr (.inr (.inr f5))))), (q2, .inr (3, [.ref q4, .int (0 : Int32)])), (q4, .inl (ca 0, 44, .inl (fun _ => 0)))]) rfl ?_
  refine vv_iinc_1 37 rfl (1) (1 : Int32) (by decide +kernel) (by decide) (by decide) ?_
  refine vv_goto (-22) 15 (by decide +kernel) (by decide) ?_
  refine vv_iload_1 16 rfl (by decide +kernel) ?_
  refine vv_bipush 18 rfl (8) (8 : Int32) (by decide +kernel) (by decide) ?_
  refine vv_icmp_ge 21 rfl (22) 40 (by decide +kernel) (by decide) (fun h => absurd h (by decide)) (fun _ => ?_)
  refine vv_aload_0 22 rfl (by decide +kernel) ?_
  refine vv_get 25 rfl 2 0 13 0 (by decide +kernel) (by decide) (by decide) rfl k_Buffer_13 rfl rfl ?_
  refine vv_iload_1 26 rfl (by decide +kernel) ?_
  refine vv_new 29 rfl 3 11 (by decide +kernel) (by decide) k_Buffer_11 in_Packet ini_Packet bl_Packet 4 56 rfl rfl ⟨Nat.le_of_ble_eq_true rfl, Nat.le_of_ble_eq_true rfl⟩ (fun q6 => ?_)
  refine vv_dup 30 rfl (by decide +kernel) rfl ?_
  refine vv_init 33 rfl 17 [] (by decide +kernel) rfl mi_Packet.1 mi_Packet.2.1 mi_Packet.2.2.1 mi_Packet.2.2.2 k_Buffer_17 rfl ⟨Nat.le_of_ble_eq_true rfl, Nat.le_of_ble_eq_true rfl⟩ ⟨rfl, rfl⟩ 5 100 rfl rfl ⟨Nat.le_of_ble_eq_true rfl, Nat.le_of_ble_eq_true rfl⟩ (Nat.le_of_ble_eq_true rfl) rfl (I_Packet_init) (fun w7 hw7 => ?_)
  obtain ⟨q8, rfl⟩ := hw7
  refine vv_w (w1 := [(h0, .inr (2, [.ref q1, .null, .null, .int 0, .int 0, .int 0, .int 0, .int 0])), (q1, .inl (ca 2, 8, .inr (.inr (.inr (.inr f5))))), (q2, .inr (3, [.ref q4, .int (0 : Int32)])), (q4, .inl (ca 0, 44, .inl (fun _ => 0))), (q6, .inr (3, [.ref q8, .int (0 : Int32)])), (q8, .inl (ca 0, 44, .inl (fun _ => 0)))]) rfl ?_
  refine vv_aast 34 rfl 1 4 (by decide +kernel) rfl rfl (by decide) (fun f9 ef9 => ?_)
  refine vv_w (w1 := [(h0, .inr (2, [.ref q1, .null, .null, .int 0, .int 0, .int 0, .int 0, .int 0])), (q1, .inl (ca 2, 8, .inr (.inr (.inr (.inr f9))))), (q2, .inr (3, [.ref q4, .int (0 : Int32)])), (q4, .inl (ca 0, 44, .inl (fun _ => 0))), (q6, .inr (3, [.ref q8, .int (0 : Int32)])), (q8, .inl (ca 0, 44, .inl (fun _ => 0)))]) rfl ?_
  refine vv_iinc_1 37 rfl (1) (2 : Int32) (by decide +kernel) (by decide) (by decide) ?_
  refine vv_goto (-22) 15 (by decide +kernel) (by decide) ?_
  refine vv_iload_1 16 rfl (by decide +kernel) ?_
  refine vv_bipush 18 rfl (8) (8 : Int32) (by decide +kernel) (by decide) ?_
  refine vv_icmp_ge 21 rfl (22) 40 (by decide +kernel) (by decide) (fun h => absurd h (by decide)) (fun _ => ?_)
  refine vv_aload_0 22 rfl (by decide +kernel) ?_
  refine vv_get 25 rfl 2 0 13 0 (by decide +kernel) (by decide) (by decide) rfl k_Buffer_13 rfl rfl ?_
  refine vv_iload_1 26 rfl (by decide +kernel) ?_
  refine vv_new 29 rfl 3 11 (by decide +kernel) (by decide) k_Buffer_11 in_Packet ini_Packet bl_Packet 6 102 rfl rfl ⟨Nat.le_of_ble_eq_true rfl, Nat.le_of_ble_eq_true rfl⟩ (fun q10 => ?_)
  refine vv_dup 30 rfl (by decide +kernel) rfl ?_
  refine vv_init 33 rfl 17 [] (by decide +kernel) rfl mi_Packet.1 mi_Packet.2.1 mi_Packet.2.2.1 mi_Packet.2.2.2 k_Buffer_17 rfl ⟨Nat.le_of_ble_eq_true rfl, Nat.le_of_ble_eq_true rfl⟩ ⟨rfl, rfl⟩ 7 146 rfl rfl ⟨Nat.le_of_ble_eq_true rfl, Nat.le_of_ble_eq_true rfl⟩ (Nat.le_of_ble_eq_true rfl) rfl (I_Packet_init) (fun w11 hw11 => ?_)
  obtain ⟨q12, rfl⟩ := hw11
  refine vv_w (w1 := [(h0, .inr (2, [.ref q1, .null, .null, .int 0, .int 0, .int 0, .int 0, .int 0])), (q1, .inl (ca 2, 8, .inr (.inr (.inr (.inr f9))))), (q2, .inr (3, [.ref q4, .int (0 : Int32)])), (q4, .inl (ca 0, 44, .inl (fun _ => 0))), (q6, .inr (3, [.ref q8, .int (0 : Int32)])), (q8, .inl (ca 0, 44, .inl (fun _ => 0))), (q10, .inr (3, [.ref q12, .int (0 : Int32)])), (q12, .inl (ca 0, 44, .inl (fun _ => 0)))]) rfl ?_
  refine vv_aast 34 rfl 1 6 (by decide +kernel) rfl rfl (by decide) (fun f13 ef13 => ?_)
  refine vv_w (w1 := [(h0, .inr (2, [.ref q1, .null, .null, .int 0, .int 0, .int 0, .int 0, .int 0])), (q1, .inl (ca 2, 8, .inr (.inr (.inr (.inr f13))))), (q2, .inr (3, [.ref q4, .int (0 : Int32)])), (q4, .inl (ca 0, 44, .inl (fun _ => 0))), (q6, .inr (3, [.ref q8, .int (0 : Int32)])), (q8, .inl (ca 0, 44, .inl (fun _ => 0))), (q10, .inr (3, [.ref q12, .int (0 : Int32)])), (q12, .inl (ca 0, 44, .inl (fun _ => 0)))]) rfl ?_
  refine vv_iinc_1 37 rfl (1) (3 : Int32) (by decide +kernel) (by decide) (by decide) ?_
  refine vv_goto (-22) 15 (by decide +kernel) (by decide) ?_
  refine vv_iload_1 16 rfl (by decide +kernel) ?_
  refine vv_bipush 18 rfl (8) (8 : Int32) (by decide +kernel) (by decide) ?_
  refine vv_icmp_ge 21 rfl (22) 40 (by decide +kernel) (by decide) (fun h => absurd h (by decide)) (fun _ => ?_)
  refine vv_aload_0 22 rfl (by decide +kernel) ?_
  refine vv_get 25 rfl 2 0 13 0 (by decide +kernel) (by decide) (by decide) rfl k_Buffer_13 rfl rfl ?_
  refine vv_iload_1 26 rfl (by decide +kernel) ?_
  refine vv_new 29 rfl 3 11 (by decide +kernel) (by decide) k_Buffer_11 in_Packet ini_Packet bl_Packet 8 148 rfl rfl ⟨Nat.le_of_ble_eq_true rfl, Nat.le_of_ble_eq_true rfl⟩ (fun q14 => ?_)
  refine vv_dup 30 rfl (by decide +kernel) rfl ?_
  refine vv_init 33 rfl 17 [] (by decide +kernel) rfl mi_Packet.1 mi_Packet.2.1 mi_Packet.2.2.1 mi_Packet.2.2.2 k_Buffer_17 rfl ⟨Nat.le_of_ble_eq_true rfl, Nat.le_of_ble_eq_true rfl⟩ ⟨rfl, rfl⟩ 9 192 rfl rfl ⟨Nat.le_of_ble_eq_true rfl, Nat.le_of_ble_eq_true rfl⟩ (Nat.le_of_ble_eq_true rfl) rfl (I_Packet_init) (fun w15 hw15 => ?_)
  obtain ⟨q16, rfl⟩ := hw15
  refine vv_w (w1 := [(h0, .inr (2, [.ref q1, .null, .null, .int 0, .int 0, .int 0, .int 0, .int 0])), (q1, .inl (ca 2, 8, .inr (.inr (.inr (.inr f13))))), (q2, .inr (3, [.ref q4, .int (0 : Int32)])), (q4, .inl (ca 0, 44, .inl (fun _ => 0))), (q6, .inr (3, [.ref q8, .int (0 : Int32)])), (q8, .inl (ca 0, 44, .inl (fun _ => 0))), (q10, .inr (3, [.ref q12, .int (0 : Int32)])), (q12, .inl (ca 0, 44, .inl (fun _ => 0))), (q14, .inr (3, [.ref q16, .int (0 : Int32)])), (q16, .inl (ca 0, 44, .inl (fun _ => 0)))]) rfl ?_
  refine vv_aast 34 rfl 1 8 (by decide +kernel) rfl rfl (by decide) (fun f17 ef17 => ?_)
  refine vv_w (w1 := [(h0, .inr (2, [.ref q1, .null, .null, .int 0, .int 0, .int 0, .int 0, .int 0])), (q1, .inl (ca 2, 8, .inr (.inr (.inr (.inr f17))))), (q2, .inr (3, [.ref q4, .int (0 : Int32)])), (q4, .inl (ca 0, 44, .inl (fun _ => 0))), (q6, .inr (3, [.ref q8, .int (0 : Int32)])), (q8, .inl (ca 0, 44, .inl (fun _ => 0))), (q10, .inr (3, [.ref q12, .int (0 : Int32)])), (q12, .inl (ca 0, 44, .inl (fun _ => 0))), (q14, .inr (3, [.ref q16, .int (0 : Int32)])), (q16, .inl (ca 0, 44, .inl (fun _ => 0)))]) rfl ?_
  refine vv_iinc_1 37 rfl (1) (4 : Int32) (by decide +kernel) (by decide) (by decide) ?_
  refine vv_goto (-22) 15 (by decide +kernel) (by decide) ?_
  refine vv_iload_1 16 rfl (by decide +kernel) ?_
  refine vv_bipush 18 rfl (8) (8 : Int32) (by decide +kernel) (by decide) ?_
  refine vv_icmp_ge 21 rfl (22) 40 (by decide +kernel) (by decide) (fun h => absurd h (by decide)) (fun _ => ?_)
  refine vv_aload_0 22 rfl (by decide +kernel) ?_
  refine vv_get 25 rfl 2 0 13 0 (by decide +kernel) (by decide) (by decide) rfl k_Buffer_13 rfl rfl ?_
  refine vv_iload_1 26 rfl (by decide +kernel) ?_
  refine vv_new 29 rfl 3 11 (by decide +kernel) (by decide) k_Buffer_11 in_Packet ini_Packet bl_Packet 10 194 rfl rfl ⟨Nat.le_of_ble_eq_true rfl, Nat.le_of_ble_eq_true rfl⟩ (fun q18 => ?_)
  refine vv_dup 30 rfl (by decide +kernel) rfl ?_
  refine vv_init 33 rfl 17 [] (by decide +kernel) rfl mi_Packet.1 mi_Packet.2.1 mi_Packet.2.2.1 mi_Packet.2.2.2 k_Buffer_17 rfl ⟨Nat.le_of_ble_eq_true rfl, Nat.le_of_ble_eq_true rfl⟩ ⟨rfl, rfl⟩ 11 238 rfl rfl ⟨Nat.le_of_ble_eq_true rfl, Nat.le_of_ble_eq_true rfl⟩ (Nat.le_of_ble_eq_true rfl) rfl (I_Packet_init) (fun w19 hw19 => ?_)
  obtain ⟨q20, rfl⟩ := hw19
  refine vv_w (w1 := [(h0, .inr (2, [.ref q1, .null, .null, .int 0, .int 0, .int 0, .int 0, .int 0])), (q1, .inl (ca 2, 8, .inr (.inr (.inr (.inr f17))))), (q2, .inr (3, [.ref q4, .int (0 : Int32)])), (q4, .inl (ca 0, 44, .inl (fun _ => 0))), (q6, .inr (3, [.ref q8, .int (0 : Int32)])), (q8, .inl (ca 0, 44, .inl (fun _ => 0))), (q10, .inr (3, [.ref q12, .int (0 : Int32)])), (q12, .inl (ca 0, 44, .inl (fun _ => 0))), (q14, .inr (3, [.ref q16, .int (0 : Int32)])), (q16, .inl (ca 0, 44, .inl (fun _ => 0))), (q18, .inr (3, [.ref q20, .int (0 : Int32)])), (q20, .inl (ca 0, 44, .inl (fun _ => 0)))]) rfl ?_
  refine vv_aast 34 rfl 1 10 (by decide +kernel) rfl rfl (by decide) (fun f21 ef21 => ?_)
  refine vv_w (w1 := [(h0, .inr (2, [.ref q1, .null, .null, .int 0, .int 0, .int 0, .int 0, .int 0])), (q1, .inl (ca 2, 8, .inr (.inr (.inr (.inr f21))))), (q2, .inr (3, [.ref q4, .int (0 : Int32)])), (q4, .inl (ca 0, 44, .inl (fun _ => 0))), (q6, .inr (3, [.ref q8, .int (0 : Int32)])), (q8, .inl (ca 0, 44, .inl (fun _ => 0))), (q10, .inr (3, [.ref q12, .int (0 : Int32)])), (q12, .inl (ca 0, 44, .inl (fun _ => 0))), (q14, .inr (3, [.ref q16, .int (0 : Int32)])), (q16, .inl (ca 0, 44, .inl (fun _ => 0))), (q18, .inr (3, [.ref q20, .int (0 : Int32)])), (q20, .inl (ca 0, 44, .inl (fun _ => 0)))]) rfl ?_
  refine vv_iinc_1 37 rfl (1) (5 : Int32) (by decide +kernel) (by decide) (by decide) ?_
  refine vv_goto (-22) 15 (by decide +kernel) (by decide) ?_
  refine vv_iload_1 16 rfl (by decide +kernel) ?_
  refine vv_bipush 18 rfl (8) (8 : Int32) (by decide +kernel) (by decide) ?_
  refine vv_icmp_ge 21 rfl (22) 40 (by decide +kernel) (by decide) (fun h => absurd h (by decide)) (fun _ => ?_)
  refine vv_aload_0 22 rfl (by decide +kernel) ?_
  refine vv_get 25 rfl 2 0 13 0 (by decide +kernel) (by decide) (by decide) rfl k_Buffer_13 rfl rfl ?_
  refine vv_iload_1 26 rfl (by decide +kernel) ?_
  refine vv_new 29 rfl 3 11 (by decide +kernel) (by decide) k_Buffer_11 in_Packet ini_Packet bl_Packet 12 240 rfl rfl ⟨Nat.le_of_ble_eq_true rfl, Nat.le_of_ble_eq_true rfl⟩ (fun q22 => ?_)
  refine vv_dup 30 rfl (by decide +kernel) rfl ?_
  refine vv_init 33 rfl 17 [] (by decide +kernel) rfl mi_Packet.1 mi_Packet.2.1 mi_Packet.2.2.1 mi_Packet.2.2.2 k_Buffer_17 rfl ⟨Nat.le_of_ble_eq_true rfl, Nat.le_of_ble_eq_true rfl⟩ ⟨rfl, rfl⟩ 13 284 rfl rfl ⟨Nat.le_of_ble_eq_true rfl, Nat.le_of_ble_eq_true rfl⟩ (Nat.le_of_ble_eq_true rfl) rfl (I_Packet_init) (fun w23 hw23 => ?_)
  obtain ⟨q24, rfl⟩ := hw23
  refine vv_w (w1 := [(h0, .inr (2, [.ref q1, .null, .null, .int 0, .int 0, .int 0, .int 0, .int 0])), (q1, .inl (ca 2, 8, .inr (.inr (.inr (.inr f21))))), (q2, .inr (3, [.ref q4, .int (0 : Int32)])), (q4, .inl (ca 0, 44, .inl (fun _ => 0))), (q6, .inr (3, [.ref q8, .int (0 : Int32)])), (q8, .inl (ca 0, 44, .inl (fun _ => 0))), (q10, .inr (3, [.ref q12, .int (0 : Int32)])), (q12, .inl (ca 0, 44, .inl (fun _ => 0))), (q14, .inr (3, [.ref q16, .int (0 : Int32)])), (q16, .inl (ca 0, 44, .inl (fun _ => 0))), (q18, .inr (3, [.ref q20, .int (0 : Int32)])), (q20, .inl (ca 0, 44, .inl (fun _ => 0))), (q22, .inr (3, [.ref q24, .int (0 : Int32)])), (q24, .inl (ca 0, 44, .inl (fun _ => 0)))]) rfl ?_
  refine vv_aast 34 rfl 1 12 (by decide +kernel) rfl rfl (by decide) (fun f25 ef25 => ?_)
  refine vv_w (w1 := [(h0, .inr (2, [.ref q1, .null, .null, .int 0, .int 0, .int 0, .int 0, .int 0])), (q1, .inl (ca 2, 8, .inr (.inr (.inr (.inr f25))))), (q2, .inr (3, [.ref q4, .int (0 : Int32)])), (q4, .inl (ca 0, 44, .inl (fun _ => 0))), (q6, .inr (3, [.ref q8, .int (0 : Int32)])), (q8, .inl (ca 0, 44, .inl (fun _ => 0))), (q10, .inr (3, [.ref q12, .int (0 : Int32)])), (q12, .inl (ca 0, 44, .inl (fun _ => 0))), (q14, .inr (3, [.ref q16, .int (0 : Int32)])), (q16, .inl (ca 0, 44, .inl (fun _ => 0))), (q18, .inr (3, [.ref q20, .int (0 : Int32)])), (q20, .inl (ca 0, 44, .inl (fun _ => 0))), (q22, .inr (3, [.ref q24, .int (0 : Int32)])), (q24, .inl (ca 0, 44, .inl (fun _ => 0)))]) rfl ?_
  refine vv_iinc_1 37 rfl (1) (6 : Int32) (by decide +kernel) (by decide) (by decide) ?_
  refine vv_goto (-22) 15 (by decide +kernel) (by decide) ?_
  refine vv_iload_1 16 rfl (by decide +kernel) ?_
  refine vv_bipush 18 rfl (8) (8 : Int32) (by decide +kernel) (by decide) ?_
  refine vv_icmp_ge 21 rfl (22) 40 (by decide +kernel) (by decide) (fun h => absurd h (by decide)) (fun _ => ?_)
  refine vv_aload_0 22 rfl (by decide +kernel) ?_
  refine vv_get 25 rfl 2 0 13 0 (by decide +kernel) (by decide) (by decide) rfl k_Buffer_13 rfl rfl ?_
  refine vv_iload_1 26 rfl (by decide +kernel) ?_
  refine vv_new 29 rfl 3 11 (by decide +kernel) (by decide) k_Buffer_11 in_Packet ini_Packet bl_Packet 14 286 rfl rfl ⟨Nat.le_of_ble_eq_true rfl, Nat.le_of_ble_eq_true rfl⟩ (fun q26 => ?_)
  refine vv_dup 30 rfl (by decide +kernel) rfl ?_
  refine vv_init 33 rfl 17 [] (by decide +kernel) rfl mi_Packet.1 mi_Packet.2.1 mi_Packet.2.2.1 mi_Packet.2.2.2 k_Buffer_17 rfl ⟨Nat.le_of_ble_eq_true rfl, Nat.le_of_ble_eq_true rfl⟩ ⟨rfl, rfl⟩ 15 330 rfl rfl ⟨Nat.le_of_ble_eq_true rfl, Nat.le_of_ble_eq_true rfl⟩ (Nat.le_of_ble_eq_true rfl) rfl (I_Packet_init) (fun w27 hw27 => ?_)
  obtain ⟨q28, rfl⟩ := hw27
  refine vv_w (w1 := [(h0, .inr (2, [.ref q1, .null, .null, .int 0, .int 0, .int 0, .int 0, .int 0])), (q1, .inl (ca 2, 8, .inr (.inr (.inr (.inr f25))))), (q2, .inr (3, [.ref q4, .int (0 : Int32)])), (q4, .inl (ca 0, 44, .inl (fun _ => 0))), (q6, .inr (3, [.ref q8, .int (0 : Int32)])), (q8, .inl (ca 0, 44, .inl (fun _ => 0))), (q10, .inr (3, [.ref q12, .int (0 : Int32)])), (q12, .inl (ca 0, 44, .inl (fun _ => 0))), (q14, .inr (3, [.ref q16, .int (0 : Int32)])), (q16, .inl (ca 0, 44, .inl (fun _ => 0))), (q18, .inr (3, [.ref q20, .int (0 : Int32)])), (q20, .inl (ca 0, 44, .inl (fun _ => 0))), (q22, .inr (3, [.ref q24, .int (0 : Int32)])), (q24, .inl (ca 0, 44, .inl (fun _ => 0))), (q26, .inr (3, [.ref q28, .int (0 : Int32)])), (q28, .inl (ca 0, 44, .inl (fun _ => 0)))]) rfl ?_
  refine vv_aast 34 rfl 1 14 (by decide +kernel) rfl rfl (by decide) (fun f29 ef29 => ?_)
  refine vv_w (w1 := [(h0, .inr (2, [.ref q1, .null, .null, .int 0, .int 0, .int 0, .int 0, .int 0])), (q1, .inl (ca 2, 8, .inr (.inr (.inr (.inr f29))))), (q2, .inr (3, [.ref q4, .int (0 : Int32)])), (q4, .inl (ca 0, 44, .inl (fun _ => 0))), (q6, .inr (3, [.ref q8, .int (0 : Int32)])), (q8, .inl (ca 0, 44, .inl (fun _ => 0))), (q10, .inr (3, [.ref q12, .int (0 : Int32)])), (q12, .inl (ca 0, 44, .inl (fun _ => 0))), (q14, .inr (3, [.ref q16, .int (0 : Int32)])), (q16, .inl (ca 0, 44, .inl (fun _ => 0))), (q18, .inr (3, [.ref q20, .int (0 : Int32)])), (q20, .inl (ca 0, 44, .inl (fun _ => 0))), (q22, .inr (3, [.ref q24, .int (0 : Int32)])), (q24, .inl (ca 0, 44, .inl (fun _ => 0))), (q26, .inr (3, [.ref q28, .int (0 : Int32)])), (q28, .inl (ca 0, 44, .inl (fun _ => 0)))]) rfl ?_
  refine vv_iinc_1 37 rfl (1) (7 : Int32) (by decide +kernel) (by decide) (by decide) ?_
  refine vv_goto (-22) 15 (by decide +kernel) (by decide) ?_
  refine vv_iload_1 16 rfl (by decide +kernel) ?_
  refine vv_bipush 18 rfl (8) (8 : Int32) (by decide +kernel) (by decide) ?_
  refine vv_icmp_ge 21 rfl (22) 40 (by decide +kernel) (by decide) (fun h => absurd h (by decide)) (fun _ => ?_)
  refine vv_aload_0 22 rfl (by decide +kernel) ?_
  refine vv_get 25 rfl 2 0 13 0 (by decide +kernel) (by decide) (by decide) rfl k_Buffer_13 rfl rfl ?_
  refine vv_iload_1 26 rfl (by decide +kernel) ?_
  refine vv_new 29 rfl 3 11 (by decide +kernel) (by decide) k_Buffer_11 in_Packet ini_Packet bl_Packet 16 332 rfl rfl ⟨Nat.le_of_ble_eq_true rfl, Nat.le_of_ble_eq_true rfl⟩ (fun q30 => ?_)
  refine vv_dup 30 rfl (by decide +kernel) rfl ?_
  refine vv_init 33 rfl 17 [] (by decide +kernel) rfl mi_Packet.1 mi_Packet.2.1 mi_Packet.2.2.1 mi_Packet.2.2.2 k_Buffer_17 rfl ⟨Nat.le_of_ble_eq_true rfl, Nat.le_of_ble_eq_true rfl⟩ ⟨rfl, rfl⟩ 17 376 rfl rfl ⟨Nat.le_of_ble_eq_true rfl, Nat.le_of_ble_eq_true rfl⟩ (Nat.le_of_ble_eq_true rfl) rfl (I_Packet_init) (fun w31 hw31 => ?_)
  obtain ⟨q32, rfl⟩ := hw31
  refine vv_w (w1 := [(h0, .inr (2, [.ref q1, .null, .null, .int 0, .int 0, .int 0, .int 0, .int 0])), (q1, .inl (ca 2, 8, .inr (.inr (.inr (.inr f29))))), (q2, .inr (3, [.ref q4, .int (0 : Int32)])), (q4, .inl (ca 0, 44, .inl (fun _ => 0))), (q6, .inr (3, [.ref q8, .int (0 : Int32)])), (q8, .inl (ca 0, 44, .inl (fun _ => 0))), (q10, .inr (3, [.ref q12, .int (0 : Int32)])), (q12, .inl (ca 0, 44, .inl (fun _ => 0))), (q14, .inr (3, [.ref q16, .int (0 : Int32)])), (q16, .inl (ca 0, 44, .inl (fun _ => 0))), (q18, .inr (3, [.ref q20, .int (0 : Int32)])), (q20, .inl (ca 0, 44, .inl (fun _ => 0))), (q22, .inr (3, [.ref q24, .int (0 : Int32)])), (q24, .inl (ca 0, 44, .inl (fun _ => 0))), (q26, .inr (3, [.ref q28, .int (0 : Int32)])), (q28, .inl (ca 0, 44, .inl (fun _ => 0))), (q30, .inr (3, [.ref q32, .int (0 : Int32)])), (q32, .inl (ca 0, 44, .inl (fun _ => 0)))]) rfl ?_
  refine vv_aast 34 rfl 1 16 (by decide +kernel) rfl rfl (by decide) (fun f33 ef33 => ?_)
  refine vv_w (w1 := [(h0, .inr (2, [.ref q1, .null, .null, .int 0, .int 0, .int 0, .int 0, .int 0])), (q1, .inl (ca 2, 8, .inr (.inr (.inr (.inr f33))))), (q2, .inr (3, [.ref q4, .int (0 : Int32)])), (q4, .inl (ca 0, 44, .inl (fun _ => 0))), (q6, .inr (3, [.ref q8, .int (0 : Int32)])), (q8, .inl (ca 0, 44, .inl (fun _ => 0))), (q10, .inr (3, [.ref q12, .int (0 : Int32)])), (q12, .inl (ca 0, 44, .inl (fun _ => 0))), (q14, .inr (3, [.ref q16, .int (0 : Int32)])), (q16, .inl (ca 0, 44, .inl (fun _ => 0))), (q18, .inr (3, [.ref q20, .int (0 : Int32)])), (q20, .inl (ca 0, 44, .inl (fun _ => 0))), (q22, .inr (3, [.ref q24, .int (0 : Int32)])), (q24, .inl (ca 0, 44, .inl (fun _ => 0))), (q26, .inr (3, [.ref q28, .int (0 : Int32)])), (q28, .inl (ca 0, 44, .inl (fun _ => 0))), (q30, .inr (3, [.ref q32, .int (0 : Int32)])), (q32, .inl (ca 0, 44, .inl (fun _ => 0)))]) rfl ?_
  refine vv_iinc_1 37 rfl (1) (8 : Int32) (by decide +kernel) (by decide) (by decide) ?_
  refine vv_goto (-22) 15 (by decide +kernel) (by decide) ?_
  refine vv_iload_1 16 rfl (by decide +kernel) ?_
  refine vv_bipush 18 rfl (8) (8 : Int32) (by decide +kernel) (by decide) ?_
  refine vv_icmp_ge 21 rfl (22) 40 (by decide +kernel) (by decide) (fun _ => ?_) (fun h => absurd (by decide) h)
  refine vv_aload_0 41 rfl (by decide +kernel) ?_
  refine vv_bipush 43 rfl (8) (8 : Int32) (by decide +kernel) (by decide) ?_
  refine vv_newz 45 rfl 8 (by decide +kernel) ar_boo (by decide) (by decide) (by decide) 18 384 rfl rfl ⟨Nat.le_of_ble_eq_true rfl, Nat.le_of_ble_eq_true rfl⟩ (fun q34 => ?_)
  refine vv_putF 48 rfl (w1 := [(h0, .inr (2, [.ref q1, .ref q34, .null, .int 0, .int 0, .int 0, .int 0, .int 0])), (q1, .inl (ca 2, 8, .inr (.inr (.inr (.inr f33))))), (q2, .inr (3, [.ref q4, .int (0 : Int32)])), (q4, .inl (ca 0, 44, .inl (fun _ => 0))), (q6, .inr (3, [.ref q8, .int (0 : Int32)])), (q8, .inl (ca 0, 44, .inl (fun _ => 0))), (q10, .inr (3, [.ref q12, .int (0 : Int32)])), (q12, .inl (ca 0, 44, .inl (fun _ => 0))), (q14, .inr (3, [.ref q16, .int (0 : Int32)])), (q16, .inl (ca 0, 44, .inl (fun _ => 0))), (q18, .inr (3, [.ref q20, .int (0 : Int32)])), (q20, .inl (ca 0, 44, .inl (fun _ => 0))), (q22, .inr (3, [.ref q24, .int (0 : Int32)])), (q24, .inl (ca 0, 44, .inl (fun _ => 0))), (q26, .inr (3, [.ref q28, .int (0 : Int32)])), (q28, .inl (ca 0, 44, .inl (fun _ => 0))), (q30, .inr (3, [.ref q32, .int (0 : Int32)])), (q32, .inl (ca 0, 44, .inl (fun _ => 0))), (q34, .inl (ca 1, 8, .inl (fun _ => 0)))]) 2 1 18 0 (by decide +kernel) (by decide) (by decide) rfl k_Buffer_18 rfl rfl rfl (ty := .array .boolean) (by decide +kernel) rfl rfl (Nat.le_of_ble_eq_true rfl) rfl ?_
  refine vv_aload_0 49 rfl (by decide +kernel) ?_
  refine vv_bipush 51 rfl (8) (8 : Int32) (by decide +kernel) (by decide) ?_
  refine vv_newi 53 rfl 8 (by decide +kernel) ar_int (by decide) (by decide) (by decide) 19 392 rfl rfl ⟨Nat.le_of_ble_eq_true rfl, Nat.le_of_ble_eq_true rfl⟩ (fun q35 => ?_)
  refine vv_putF 56 rfl (w1 := [(h0, .inr (2, [.ref q1, .ref q34, .ref q35, .int 0, .int 0, .int 0, .int 0, .int 0])), (q1, .inl (ca 2, 8, .inr (.inr (.inr (.inr f33))))), (q2, .inr (3, [.ref q4, .int (0 : Int32)])), (q4, .inl (ca 0, 44, .inl (fun _ => 0))), (q6, .inr (3, [.ref q8, .int (0 : Int32)])), (q8, .inl (ca 0, 44, .inl (fun _ => 0))), (q10, .inr (3, [.ref q12, .int (0 : Int32)])), (q12, .inl (ca 0, 44, .inl (fun _ => 0))), (q14, .inr (3, [.ref q16, .int (0 : Int32)])), (q16, .inl (ca 0, 44, .inl (fun _ => 0))), (q18, .inr (3, [.ref q20, .int (0 : Int32)])), (q20, .inl (ca 0, 44, .inl (fun _ => 0))), (q22, .inr (3, [.ref q24, .int (0 : Int32)])), (q24, .inl (ca 0, 44, .inl (fun _ => 0))), (q26, .inr (3, [.ref q28, .int (0 : Int32)])), (q28, .inl (ca 0, 44, .inl (fun _ => 0))), (q30, .inr (3, [.ref q32, .int (0 : Int32)])), (q32, .inl (ca 0, 44, .inl (fun _ => 0))), (q34, .inl (ca 1, 8, .inl (fun _ => 0))), (q35, .inl (ca 0, 8, .inl (fun _ => 0)))]) 2 2 22 0 (by decide +kernel) (by decide) (by decide) rfl k_Buffer_22 rfl rfl rfl (ty := .array .int) (by decide +kernel) rfl rfl (Nat.le_of_ble_eq_true rfl) rfl ?_
  refine vv_aload_0 57 rfl (by decide +kernel) ?_
  refine vv_iconst 58 rfl (0) (0 : Int32) (by decide +kernel) (by decide) ?_
  refine vv_put 61 rfl (w1 := [(h0, .inr (2, [.ref q1, .ref q34, .ref q35, .int (0 : Int32), .int 0, .int 0, .int 0, .int 0])), (q1, .inl (ca 2, 8, .inr (.inr (.inr (.inr f33))))), (q2, .inr (3, [.ref q4, .int (0 : Int32)])), (q4, .inl (ca 0, 44, .inl (fun _ => 0))), (q6, .inr (3, [.ref q8, .int (0 : Int32)])), (q8, .inl (ca 0, 44, .inl (fun _ => 0))), (q10, .inr (3, [.ref q12, .int (0 : Int32)])), (q12, .inl (ca 0, 44, .inl (fun _ => 0))), (q14, .inr (3, [.ref q16, .int (0 : Int32)])), (q16, .inl (ca 0, 44, .inl (fun _ => 0))), (q18, .inr (3, [.ref q20, .int (0 : Int32)])), (q20, .inl (ca 0, 44, .inl (fun _ => 0))), (q22, .inr (3, [.ref q24, .int (0 : Int32)])), (q24, .inl (ca 0, 44, .inl (fun _ => 0))), (q26, .inr (3, [.ref q28, .int (0 : Int32)])), (q28, .inl (ca 0, 44, .inl (fun _ => 0))), (q30, .inr (3, [.ref q32, .int (0 : Int32)])), (q32, .inl (ca 0, 44, .inl (fun _ => 0))), (q34, .inl (ca 1, 8, .inl (fun _ => 0))), (q35, .inl (ca 0, 8, .inl (fun _ => 0)))]) 2 3 26 0 (by decide +kernel) (by decide) (by decide) rfl k_Buffer_26 rfl rfl (ty := .int) (by decide +kernel) rfl rfl (Nat.le_of_ble_eq_true rfl) rfl ?_
  refine vv_aload_0 62 rfl (by decide +kernel) ?_
  refine vv_iconst 63 rfl (0) (0 : Int32) (by decide +kernel) (by decide) ?_
  refine vv_put 66 rfl (w1 := [(h0, .inr (2, [.ref q1, .ref q34, .ref q35, .int (0 : Int32), .int (0 : Int32), .int 0, .int 0, .int 0])), (q1, .inl (ca 2, 8, .inr (.inr (.inr (.inr f33))))), (q2, .inr (3, [.ref q4, .int (0 : Int32)])), (q4, .inl (ca 0, 44, .inl (fun _ => 0))), (q6, .inr (3, [.ref q8, .int (0 : Int32)])), (q8, .inl (ca 0, 44, .inl (fun _ => 0))), (q10, .inr (3, [.ref q12, .int (0 : Int32)])), (q12, .inl (ca 0, 44, .inl (fun _ => 0))), (q14, .inr (3, [.ref q16, .int (0 : Int32)])), (q16, .inl (ca 0, 44, .inl (fun _ => 0))), (q18, .inr (3, [.ref q20, .int (0 : Int32)])), (q20, .inl (ca 0, 44, .inl (fun _ => 0))), (q22, .inr (3, [.ref q24, .int (0 : Int32)])), (q24, .inl (ca 0, 44, .inl (fun _ => 0))), (q26, .inr (3, [.ref q28, .int (0 : Int32)])), (q28, .inl (ca 0, 44, .inl (fun _ => 0))), (q30, .inr (3, [.ref q32, .int (0 : Int32)])), (q32, .inl (ca 0, 44, .inl (fun _ => 0))), (q34, .inl (ca 1, 8, .inl (fun _ => 0))), (q35, .inl (ca 0, 8, .inl (fun _ => 0)))]) 2 4 30 0 (by decide +kernel) (by decide) (by decide) rfl k_Buffer_30 rfl rfl (ty := .int) (by decide +kernel) rfl rfl (Nat.le_of_ble_eq_true rfl) rfl ?_
  refine vv_aload_0 67 rfl (by decide +kernel) ?_
  refine vv_iconst 68 rfl (0) (0 : Int32) (by decide +kernel) (by decide) ?_
  refine vv_put 71 rfl (w1 := [(h0, .inr (2, [.ref q1, .ref q34, .ref q35, .int (0 : Int32), .int (0 : Int32), .int (0 : Int32), .int 0, .int 0])), (q1, .inl (ca 2, 8, .inr (.inr (.inr (.inr f33))))), (q2, .inr (3, [.ref q4, .int (0 : Int32)])), (q4, .inl (ca 0, 44, .inl (fun _ => 0))), (q6, .inr (3, [.ref q8, .int (0 : Int32)])), (q8, .inl (ca 0, 44, .inl (fun _ => 0))), (q10, .inr (3, [.ref q12, .int (0 : Int32)])), (q12, .inl (ca 0, 44, .inl (fun _ => 0))), (q14, .inr (3, [.ref q16, .int (0 : Int32)])), (q16, .inl (ca 0, 44, .inl (fun _ => 0))), (q18, .inr (3, [.ref q20, .int (0 : Int32)])), (q20, .inl (ca 0, 44, .inl (fun _ => 0))), (q22, .inr (3, [.ref q24, .int (0 : Int32)])), (q24, .inl (ca 0, 44, .inl (fun _ => 0))), (q26, .inr (3, [.ref q28, .int (0 : Int32)])), (q28, .inl (ca 0, 44, .inl (fun _ => 0))), (q30, .inr (3, [.ref q32, .int (0 : Int32)])), (q32, .inl (ca 0, 44, .inl (fun _ => 0))), (q34, .inl (ca 1, 8, .inl (fun _ => 0))), (q35, .inl (ca 0, 8, .inl (fun _ => 0)))]) 2 5 33 0 (by decide +kernel) (by decide) (by decide) rfl k_Buffer_33 rfl rfl (ty := .int) (by decide +kernel) rfl rfl (Nat.le_of_ble_eq_true rfl) rfl ?_
  refine vv_aload_0 72 rfl (by decide +kernel) ?_
  refine vv_iconst 73 rfl (0) (0 : Int32) (by decide +kernel) (by decide) ?_
  refine vv_put 76 rfl (w1 := [(h0, .inr (2, [.ref q1, .ref q34, .ref q35, .int (0 : Int32), .int (0 : Int32), .int (0 : Int32), .int (0 : Int32), .int 0])), (q1, .inl (ca 2, 8, .inr (.inr (.inr (.inr f33))))), (q2, .inr (3, [.ref q4, .int (0 : Int32)])), (q4, .inl (ca 0, 44, .inl (fun _ => 0))), (q6, .inr (3, [.ref q8, .int (0 : Int32)])), (q8, .inl (ca 0, 44, .inl (fun _ => 0))), (q10, .inr (3, [.ref q12, .int (0 : Int32)])), (q12, .inl (ca 0, 44, .inl (fun _ => 0))), (q14, .inr (3, [.ref q16, .int (0 : Int32)])), (q16, .inl (ca 0, 44, .inl (fun _ => 0))), (q18, .inr (3, [.ref q20, .int (0 : Int32)])), (q20, .inl (ca 0, 44, .inl (fun _ => 0))), (q22, .inr (3, [.ref q24, .int (0 : Int32)])), (q24, .inl (ca 0, 44, .inl (fun _ => 0))), (q26, .inr (3, [.ref q28, .int (0 : Int32)])), (q28, .inl (ca 0, 44, .inl (fun _ => 0))), (q30, .inr (3, [.ref q32, .int (0 : Int32)])), (q32, .inl (ca 0, 44, .inl (fun _ => 0))), (q34, .inl (ca 1, 8, .inl (fun _ => 0))), (q35, .inl (ca 0, 8, .inl (fun _ => 0)))]) 2 6 36 0 (by decide +kernel) (by decide) (by decide) rfl k_Buffer_36 rfl rfl (ty := .int) (by decide +kernel) rfl rfl (Nat.le_of_ble_eq_true rfl) rfl ?_
  refine vv_aload_0 77 rfl (by decide +kernel) ?_
  refine vv_iconst 78 rfl (1) (1 : Int32) (by decide +kernel) (by decide) ?_
  refine vv_put 81 rfl (w1 := [(h0, .inr (2, [.ref q1, .ref q34, .ref q35, .int (0 : Int32), .int (0 : Int32), .int (0 : Int32), .int (0 : Int32), .int (1 : Int32)])), (q1, .inl (ca 2, 8, .inr (.inr (.inr (.inr f33))))), (q2, .inr (3, [.ref q4, .int (0 : Int32)])), (q4, .inl (ca 0, 44, .inl (fun _ => 0))), (q6, .inr (3, [.ref q8, .int (0 : Int32)])), (q8, .inl (ca 0, 44, .inl (fun _ => 0))), (q10, .inr (3, [.ref q12, .int (0 : Int32)])), (q12, .inl (ca 0, 44, .inl (fun _ => 0))), (q14, .inr (3, [.ref q16, .int (0 : Int32)])), (q16, .inl (ca 0, 44, .inl (fun _ => 0))), (q18, .inr (3, [.ref q20, .int (0 : Int32)])), (q20, .inl (ca 0, 44, .inl (fun _ => 0))), (q22, .inr (3, [.ref q24, .int (0 : Int32)])), (q24, .inl (ca 0, 44, .inl (fun _ => 0))), (q26, .inr (3, [.ref q28, .int (0 : Int32)])), (q28, .inl (ca 0, 44, .inl (fun _ => 0))), (q30, .inr (3, [.ref q32, .int (0 : Int32)])), (q32, .inl (ca 0, 44, .inl (fun _ => 0))), (q34, .inl (ca 1, 8, .inl (fun _ => 0))), (q35, .inl (ca 0, 8, .inl (fun _ => 0)))]) 2 7 39 0 (by decide +kernel) (by decide) (by decide) rfl k_Buffer_39 rfl rfl (ty := .int) (by decide +kernel) rfl rfl (Nat.le_of_ble_eq_true rfl) rfl ?_
  exact vv_ret (by decide +kernel) rfl (Nat.le_refl _) (Nat.le_refl _) ⟨q1, q2, q4, q6, q8, q10, q12, q14, q16, q18, q20, q22, q24, q26, q28, q30, q32, q34, q35, f33, by subst ef33 ef29 ef25 ef21 ef17 ef13 ef9 ef5; exact ⟨rfl, rfl, rfl, rfl, rfl, rfl, rfl, rfl⟩, rfl⟩
def P_Player (ca : Nat → ClassId) (h0 : Nat) (w : va_W) : Prop := ∃ (q1 : Nat), ∃ (q3 : Nat), ∃ (q4 : Nat), w = [(h0, .inr (4, [.ref q1, .ref q4, .int (0 : Int32), .int (0 : Int32), .int (0 : Int32), .int (0 : Int32)])), (q1, .inr (5, [.ref q3, .int (0 : Int32)])), (q3, .inl (ca 0, 16, .inl (fun _ => 0))), (q4, .inr (1, [.int (0 : Int32), .int (0 : Int32)]))]
set_option maxHeartbeats 8000000 in
set_option maxRecDepth 100000 in
theorem I_Player_init {l : Launch} {ca : Nat → ClassId} {h0 : Nat}  : CI l ca y_Player_init b_Player_init 1 { frames := 2, cells := 3, slots := 20, locals := 41 } [.ref h0] [(h0, .inr (4, [.null, .null, .int 0, .int 0, .int 0, .int 0]))] (P_Player ca h0) 3 20 := by
  refine ci_of (own := R_Player) (lv := [some (.ref h0)]) (by decide) rfl rfl (cat_ok rfl) (Nat.le_of_ble_eq_true rfl) rfl ?_
  refine vv_aload_0 1 rfl (by decide +kernel) ?_
  refine vv_obj 4 rfl 3 (by decide +kernel) k_Player_3 ob_code ob_ins ⟨Nat.le_of_ble_eq_true rfl, Nat.le_of_ble_eq_true rfl⟩ (Nat.le_of_ble_eq_true rfl) ?_
  refine vv_aload_0 5 rfl (by decide +kernel) ?_
  refine vv_new 8 rfl 5 9 (by decide +kernel) (by decide) k_Player_9 in_Samples ini_Samples bl_Samples 1 2 rfl rfl ⟨Nat.le_of_ble_eq_true rfl, Nat.le_of_ble_eq_true rfl⟩ (fun q1 => ?_)
  refine vv_dup 9 rfl (by decide +kernel) rfl ?_
  refine vv_bipush 11 rfl (16) (16 : Int32) (by decide +kernel) (by decide) ?_
  refine vv_init 14 rfl 11 [.int (16 : Int32)] (by decide +kernel) rfl mi_Samples.1 mi_Samples.2.1 mi_Samples.2.2.1 mi_Samples.2.2.2 k_Player_11 rfl ⟨Nat.le_of_ble_eq_true rfl, Nat.le_of_ble_eq_true rfl⟩ ⟨rfl, rfl⟩ 2 18 rfl rfl ⟨Nat.le_of_ble_eq_true rfl, Nat.le_of_ble_eq_true rfl⟩ (Nat.le_of_ble_eq_true rfl) rfl (I_Samples_init (N := 16) (by decide) (by decide) (by decide)) (fun w2 hw2 => ?_)
  obtain ⟨q3, rfl⟩ := hw2
  refine vv_w (w1 := [(h0, .inr (4, [.null, .null, .int 0, .int 0, .int 0, .int 0])), (q1, .inr (5, [.ref q3, .int (0 : Int32)])), (q3, .inl (ca 0, 16, .inl (fun _ => 0)))]) rfl ?_
  refine vv_putF 17 rfl (w1 := [(h0, .inr (4, [.ref q1, .null, .int 0, .int 0, .int 0, .int 0])), (q1, .inr (5, [.ref q3, .int (0 : Int32)])), (q3, .inl (ca 0, 16, .inl (fun _ => 0)))]) 4 0 14 0 (by decide +kernel) (by decide) (by decide) rfl k_Player_14 rfl rfl rfl (ty := .object "VoiceGateway$Samples") (by decide +kernel) rfl rfl (Nat.le_of_ble_eq_true rfl) rfl ?_
  refine vv_aload_0 18 rfl (by decide +kernel) ?_
  refine vv_new 21 rfl 1 20 (by decide +kernel) (by decide) k_Player_20 in_Adaptive ini_Adaptive bl_Adaptive 3 20 rfl rfl ⟨Nat.le_of_ble_eq_true rfl, Nat.le_of_ble_eq_true rfl⟩ (fun q4 => ?_)
  refine vv_dup 22 rfl (by decide +kernel) rfl ?_
  refine vv_init 25 rfl 22 [] (by decide +kernel) rfl mi_Adaptive.1 mi_Adaptive.2.1 mi_Adaptive.2.2.1 mi_Adaptive.2.2.2 k_Player_22 rfl ⟨Nat.le_of_ble_eq_true rfl, Nat.le_of_ble_eq_true rfl⟩ ⟨rfl, rfl⟩ 3 20 rfl rfl ⟨Nat.le_of_ble_eq_true rfl, Nat.le_of_ble_eq_true rfl⟩ (Nat.le_of_ble_eq_true rfl) rfl (I_Adaptive_init) (fun w5 hw5 => ?_)
  cases hw5
  refine vv_w (w1 := [(h0, .inr (4, [.ref q1, .null, .int 0, .int 0, .int 0, .int 0])), (q1, .inr (5, [.ref q3, .int (0 : Int32)])), (q3, .inl (ca 0, 16, .inl (fun _ => 0))), (q4, .inr (1, [.int (0 : Int32), .int (0 : Int32)]))]) rfl ?_
  refine vv_putF 28 rfl (w1 := [(h0, .inr (4, [.ref q1, .ref q4, .int 0, .int 0, .int 0, .int 0])), (q1, .inr (5, [.ref q3, .int (0 : Int32)])), (q3, .inl (ca 0, 16, .inl (fun _ => 0))), (q4, .inr (1, [.int (0 : Int32), .int (0 : Int32)]))]) 4 1 23 0 (by decide +kernel) (by decide) (by decide) rfl k_Player_23 rfl rfl rfl (ty := .object "VoiceGateway$Adaptive") (by decide +kernel) rfl rfl (Nat.le_of_ble_eq_true rfl) rfl ?_
  refine vv_aload_0 29 rfl (by decide +kernel) ?_
  refine vv_iconst 30 rfl (0) (0 : Int32) (by decide +kernel) (by decide) ?_
  refine vv_put 33 rfl (w1 := [(h0, .inr (4, [.ref q1, .ref q4, .int (0 : Int32), .int 0, .int 0, .int 0])), (q1, .inr (5, [.ref q3, .int (0 : Int32)])), (q3, .inl (ca 0, 16, .inl (fun _ => 0))), (q4, .inr (1, [.int (0 : Int32), .int (0 : Int32)]))]) 4 2 27 0 (by decide +kernel) (by decide) (by decide) rfl k_Player_27 rfl rfl (ty := .int) (by decide +kernel) rfl rfl (Nat.le_of_ble_eq_true rfl) rfl ?_
  refine vv_aload_0 34 rfl (by decide +kernel) ?_
  refine vv_iconst 35 rfl (0) (0 : Int32) (by decide +kernel) (by decide) ?_
  refine vv_put 38 rfl (w1 := [(h0, .inr (4, [.ref q1, .ref q4, .int (0 : Int32), .int (0 : Int32), .int 0, .int 0])), (q1, .inr (5, [.ref q3, .int (0 : Int32)])), (q3, .inl (ca 0, 16, .inl (fun _ => 0))), (q4, .inr (1, [.int (0 : Int32), .int (0 : Int32)]))]) 4 3 31 0 (by decide +kernel) (by decide) (by decide) rfl k_Player_31 rfl rfl (ty := .int) (by decide +kernel) rfl rfl (Nat.le_of_ble_eq_true rfl) rfl ?_
  refine vv_aload_0 39 rfl (by decide +kernel) ?_
  refine vv_iconst 40 rfl (0) (0 : Int32) (by decide +kernel) (by decide) ?_
  refine vv_put 43 rfl (w1 := [(h0, .inr (4, [.ref q1, .ref q4, .int (0 : Int32), .int (0 : Int32), .int (0 : Int32), .int 0])), (q1, .inr (5, [.ref q3, .int (0 : Int32)])), (q3, .inl (ca 0, 16, .inl (fun _ => 0))), (q4, .inr (1, [.int (0 : Int32), .int (0 : Int32)]))]) 4 4 34 0 (by decide +kernel) (by decide) (by decide) rfl k_Player_34 rfl rfl (ty := .int) (by decide +kernel) rfl rfl (Nat.le_of_ble_eq_true rfl) rfl ?_
  refine vv_aload_0 44 rfl (by decide +kernel) ?_
  refine vv_iconst 45 rfl (0) (0 : Int32) (by decide +kernel) (by decide) ?_
  refine vv_put 48 rfl (w1 := [(h0, .inr (4, [.ref q1, .ref q4, .int (0 : Int32), .int (0 : Int32), .int (0 : Int32), .int (0 : Int32)])), (q1, .inr (5, [.ref q3, .int (0 : Int32)])), (q3, .inl (ca 0, 16, .inl (fun _ => 0))), (q4, .inr (1, [.int (0 : Int32), .int (0 : Int32)]))]) 4 5 37 0 (by decide +kernel) (by decide) (by decide) rfl k_Player_37 rfl rfl (ty := .int) (by decide +kernel) rfl rfl (Nat.le_of_ble_eq_true rfl) rfl ?_
  exact vv_ret (by decide +kernel) rfl (Nat.le_refl _) (Nat.le_refl _) ⟨q1, q3, q4, rfl⟩
