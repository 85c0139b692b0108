def P_Gate (ca : Nat → ClassId) (h0 : Nat) (w : va_W) : Prop := ∃ (q1 : Nat), ∃ (q3 : Nat), ∃ (q4 : Nat), ∃ (q6 : Nat), ∃ (q7 : Nat), ∃ (q9 : Nat), ∃ (q10 : Nat), ∃ (q11 : Nat), ∃ (q12 : Nat), ∃ (q13 : Nat), ∃ (q14 : Nat), ∃ (q15 : Nat), ∃ (q16 : Nat), ∃ (q17 : Nat), ∃ (q18 : Nat), ∃ (q19 : Nat), ∃ (q20 : Nat), ∃ (q21 : Nat), ∃ (q22 : Nat), ∃ (q23 : Nat), ∃ (q24 : Nat), ∃ (q25 : Nat), ∃ (f26 : Nat → Option Nat), ∃ (q28 : Nat), ∃ (q30 : Nat), ∃ (q31 : Nat), ∃ (q33 : Nat), ∃ (q34 : Nat), ∃ (q35 : Nat), ∃ (q36 : Nat), ∃ (q37 : Nat), ∃ (q38 : Nat), ∃ (q39 : Nat), ∃ (q40 : Nat), ∃ (q41 : Nat), ∃ (q42 : Nat), ∃ (q43 : Nat), ∃ (q44 : Nat), ∃ (q45 : Nat), ∃ (q46 : Nat), ∃ (q47 : Nat), ∃ (q48 : Nat), ∃ (q49 : Nat), ∃ (q50 : Nat), ∃ (q51 : Nat), ∃ (f52 : Nat → Option Nat), ∃ (q54 : Nat), ∃ (q56 : Nat), ∃ (q57 : Nat), ∃ (q58 : Nat), (f26 0 = some q10 ∧ f26 1 = some q12 ∧ f26 2 = some q14 ∧ f26 3 = some q16 ∧ f26 4 = some q18 ∧ f26 5 = some q20 ∧ f26 6 = some q22 ∧ f26 7 = some q24) ∧ (f52 0 = some q34 ∧ f52 1 = some q36 ∧ f52 2 = some q38 ∧ f52 3 = some q40 ∧ f52 4 = some q42 ∧ f52 5 = some q44 ∧ f52 6 = some q46 ∧ f52 7 = some q48) ∧ w = [(h0, .inr (0, [.ref q1, .ref q4, .ref q7, .ref q28, .ref q31, .ref q54])), (q1, .inr (5, [.ref q3, .int (0 : Int32)])), (q3, .inl (ca 0, 64, .inl (fun _ => 0))), (q4, .inr (5, [.ref q6, .int (0 : Int32)])), (q6, .inl (ca 0, 256, .inl (fun _ => 0))), (q7, .inr (7, [.ref q9, .int (0 : Int32)])), (q9, .inl (ca 2, 8, .inr (.inr (.inr (.inr f26))))), (q10, .inr (3, [.ref q11, .int (0 : Int32)])), (q11, .inl (ca 0, 44, .inl (fun _ => 0))), (q12, .inr (3, [.ref q13, .int (0 : Int32)])), (q13, .inl (ca 0, 44, .inl (fun _ => 0))), (q14, .inr (3, [.ref q15, .int (0 : Int32)])), (q15, .inl (ca 0, 44, .inl (fun _ => 0))), (q16, .inr (3, [.ref q17, .int (0 : Int32)])), (q17, .inl (ca 0, 44, .inl (fun _ => 0))), (q18, .inr (3, [.ref q19, .int (0 : Int32)])), (q19, .inl (ca 0, 44, .inl (fun _ => 0))), (q20, .inr (3, [.ref q21, .int (0 : Int32)])), (q21, .inl (ca 0, 44, .inl (fun _ => 0))), (q22, .inr (3, [.ref q23, .int (0 : Int32)])), (q23, .inl (ca 0, 44, .inl (fun _ => 0))), (q24, .inr (3, [.ref q25, .int (0 : Int32)])), (q25, .inl (ca 0, 44, .inl (fun _ => 0))), (q28, .inr (6, [.int (0 : Int32), .int (0 : Int32), .int (0 : Int32), .ref q30])), (q30, .inr (1, [.int (0 : Int32), .int (0 : Int32)])), (q31, .inr (2, [.ref q33, .ref q50, .ref q51, .int (0 : Int32), .int (0 : Int32), .int (0 : Int32), .int (0 : Int32), .int (1 : Int32)])), (q33, .inl (ca 2, 8, .inr (.inr (.inr (.inr f52))))), (q34, .inr (3, [.ref q35, .int (0 : Int32)])), (q35, .inl (ca 0, 44, .inl (fun _ => 0))), (q36, .inr (3, [.ref q37, .int (0 : Int32)])), (q37, .inl (ca 0, 44, .inl (fun _ => 0))), (q38, .inr (3, [.ref q39, .int (0 : Int32)])), (q39, .inl (ca 0, 44, .inl (fun _ => 0))), (q40, .inr (3, [.ref q41, .int (0 : Int32)])), (q41, .inl (ca 0, 44, .inl (fun _ => 0))), (q42, .inr (3, [.ref q43, .int (0 : Int32)])), (q43, .inl (ca 0, 44, .inl (fun _ => 0))), (q44, .inr (3, [.ref q45, .int (0 : Int32)])), (q45, .inl (ca 0, 44, .inl (fun _ => 0))), (q46, .inr (3, [.ref q47, .int (0 : Int32)])), (q47, .inl (ca 0, 44, .inl (fun _ => 0))), (q48, .inr (3, [.ref q49, .int (0 : Int32)])), (q49, .inl (ca 0, 44, .inl (fun _ => 0))), (q50, .inl (ca 1, 8, .inl (fun _ => 0))), (q51, .inl (ca 0, 8, .inl (fun _ => 0))), (q54, .inr (4, [.ref q56, .ref q58, .int (0 : Int32), .int (0 : Int32), .int (0 : Int32), .int (0 : Int32)])), (q56, .inr (5, [.ref q57, .int (0 : Int32)])), (q57, .inl (ca 0, 16, .inl (fun _ => 0))), (q58, .inr (1, [.int (0 : Int32), .int (0 : Int32)]))]
set_option maxHeartbeats 8000000 in
set_option maxRecDepth 100000 in
theorem I_Gate_init {l : Launch} {ca : Nat → ClassId} {h0 : Nat}  : CI l ca y_Gate_init b_Gate_init 1 { frames := 3, cells := 48, slots := 1134, locals := 61 } [.ref h0] [(h0, .inr (0, [.null, .null, .null, .null, .null, .null]))] (P_Gate ca h0) 48 1134 := by
  refine ci_of (own := R_Gate) (lv := [some (.ref h0)]) (by decide) rfl rfl (cat_ok rfl) (Nat.le_of_ble_eq_true rfl) rfl ?_
  refine vv_aload_0 1 rfl (by decide +kernel) ?_
  refine vv_obj 4 rfl 1 (by decide +kernel) k_Gate_1 ob_code ob_ins ⟨Nat.le_of_ble_eq_true rfl, Nat.le_of_ble_eq_true rfl⟩ (Nat.le_of_ble_eq_true rfl) ?_
  refine vv_aload_0 5 rfl (by decide +kernel) ?_
  refine vv_new 8 rfl 5 7 (by decide +kernel) (by decide) k_Gate_7 in_Samples ini_Samples bl_Samples 1 2 rfl rfl ⟨Nat.le_of_ble_eq_true rfl, Nat.le_of_ble_eq_true rfl⟩ (fun q1 => ?_)
  refine vv_dup 9 rfl (by decide +kernel) rfl ?_
  refine vv_bipush 11 rfl (64) (64 : Int32) (by decide +kernel) (by decide) ?_
  refine vv_init 14 rfl 11 [.int (64 : Int32)] (by decide +kernel) rfl mi_Samples.1 mi_Samples.2.1 mi_Samples.2.2.1 mi_Samples.2.2.2 k_Gate_11 rfl ⟨Nat.le_of_ble_eq_true rfl, Nat.le_of_ble_eq_true rfl⟩ ⟨rfl, rfl⟩ 2 66 rfl rfl ⟨Nat.le_of_ble_eq_true rfl, Nat.le_of_ble_eq_true rfl⟩ (Nat.le_of_ble_eq_true rfl) rfl (I_Samples_init (N := 64) (by decide) (by decide) (by decide)) (fun w2 hw2 => ?_)
  obtain ⟨q3, rfl⟩ := hw2
  refine vv_w (w1 := [(h0, .inr (0, [.null, .null, .null, .null, .null, .null])), (q1, .inr (5, [.ref q3, .int (0 : Int32)])), (q3, .inl (ca 0, 64, .inl (fun _ => 0)))]) rfl ?_
  refine vv_putF 17 rfl (w1 := [(h0, .inr (0, [.ref q1, .null, .null, .null, .null, .null])), (q1, .inr (5, [.ref q3, .int (0 : Int32)])), (q3, .inl (ca 0, 64, .inl (fun _ => 0)))]) 0 0 14 0 (by decide +kernel) (by decide) (by decide) rfl k_Gate_14 rfl rfl rfl (ty := .object "VoiceGateway$Samples") (by decide +kernel) rfl rfl (Nat.le_of_ble_eq_true rfl) rfl ?_
  refine vv_aload_0 18 rfl (by decide +kernel) ?_
  refine vv_new 21 rfl 5 7 (by decide +kernel) (by decide) k_Gate_7 in_Samples ini_Samples bl_Samples 3 68 rfl rfl ⟨Nat.le_of_ble_eq_true rfl, Nat.le_of_ble_eq_true rfl⟩ (fun q4 => ?_)
  refine vv_dup 22 rfl (by decide +kernel) rfl ?_
  refine vv_sipush 25 rfl (256) (256 : Int32) (by decide +kernel) (by decide) ?_
  refine vv_init 28 rfl 11 [.int (256 : Int32)] (by decide +kernel) rfl mi_Samples.1 mi_Samples.2.1 mi_Samples.2.2.1 mi_Samples.2.2.2 k_Gate_11 rfl ⟨Nat.le_of_ble_eq_true rfl, Nat.le_of_ble_eq_true rfl⟩ ⟨rfl, rfl⟩ 4 324 rfl rfl ⟨Nat.le_of_ble_eq_true rfl, Nat.le_of_ble_eq_true rfl⟩ (Nat.le_of_ble_eq_true rfl) rfl (I_Samples_init (N := 256) (by decide) (by decide) (by decide)) (fun w5 hw5 => ?_)
  obtain ⟨q6, rfl⟩ := hw5
  refine vv_w (w1 := [(h0, .inr (0, [.ref q1, .null, .null, .null, .null, .null])), (q1, .inr (5, [.ref q3, .int (0 : Int32)])), (q3, .inl (ca 0, 64, .inl (fun _ => 0))), (q4, .inr (5, [.ref q6, .int (0 : Int32)])), (q6, .inl (ca 0, 256, .inl (fun _ => 0)))]) rfl ?_
  refine vv_putF 31 rfl (w1 := [(h0, .inr (0, [.ref q1, .ref q4, .null, .null, .null, .null])), (q1, .inr (5, [.ref q3, .int (0 : Int32)])), (q3, .inl (ca 0, 64, .inl (fun _ => 0))), (q4, .inr (5, [.ref q6, .int (0 : Int32)])), (q6, .inl (ca 0, 256, .inl (fun _ => 0)))]) 0 1 18 0 (by decide +kernel) (by decide) (by decide) rfl k_Gate_18 rfl rfl rfl (ty := .object "VoiceGateway$Samples") (by decide +kernel) rfl rfl (Nat.le_of_ble_eq_true rfl) rfl ?_
  refine vv_aload_0 32 rfl (by decide +kernel) ?_
  refine vv_new 35 rfl 7 21 (by decide +kernel) (by decide) k_Gate_21 in_Wire ini_Wire bl_Wire 5 326 rfl rfl ⟨Nat.le_of_ble_eq_true rfl, Nat.le_of_ble_eq_true rfl⟩ (fun q7 => ?_)
  refine vv_dup 36 rfl (by decide +kernel) rfl ?_
  refine vv_init 39 rfl 23 [] (by decide +kernel) rfl mi_Wire.1 mi_Wire.2.1 mi_Wire.2.2.1 mi_Wire.2.2.2 k_Gate_23 rfl ⟨Nat.le_of_ble_eq_true rfl, Nat.le_of_ble_eq_true rfl⟩ ⟨rfl, rfl⟩ 22 702 rfl rfl ⟨Nat.le_of_ble_eq_true rfl, Nat.le_of_ble_eq_true rfl⟩ (Nat.le_of_ble_eq_true rfl) rfl (I_Wire_init) (fun w8 hw8 => ?_)
  obtain ⟨q9, q10, q11, q12, q13, q14, q15, q16, q17, q18, q19, q20, q21, q22, q23, q24, q25, f26, hh27, rfl⟩ := hw8
  refine vv_w (w1 := [(h0, .inr (0, [.ref q1, .ref q4, .null, .null, .null, .null])), (q1, .inr (5, [.ref q3, .int (0 : Int32)])), (q3, .inl (ca 0, 64, .inl (fun _ => 0))), (q4, .inr (5, [.ref q6, .int (0 : Int32)])), (q6, .inl (ca 0, 256, .inl (fun _ => 0))), (q7, .inr (7, [.ref q9, .int (0 : Int32)])), (q9, .inl (ca 2, 8, .inr (.inr (.inr (.inr f26))))), (q10, .inr (3, [.ref q11, .int (0 : Int32)])), (q11, .inl (ca 0, 44, .inl (fun _ => 0))), (q12, .inr (3, [.ref q13, .int (0 : Int32)])), (q13, .inl (ca 0, 44, .inl (fun _ => 0))), (q14, .inr (3, [.ref q15, .int (0 : Int32)])), (q15, .inl (ca 0, 44, .inl (fun _ => 0))), (q16, .inr (3, [.ref q17, .int (0 : Int32)])), (q17, .inl (ca 0, 44, .inl (fun _ => 0))), (q18, .inr (3, [.ref q19, .int (0 : Int32)])), (q19, .inl (ca 0, 44, .inl (fun _ => 0))), (q20, .inr (3, [.ref q21, .int (0 : Int32)])), (q21, .inl (ca 0, 44, .inl (fun _ => 0))), (q22, .inr (3, [.ref q23, .int (0 : Int32)])), (q23, .inl (ca 0, 44, .inl (fun _ => 0))), (q24, .inr (3, [.ref q25, .int (0 : Int32)])), (q25, .inl (ca 0, 44, .inl (fun _ => 0)))]) rfl ?_
  refine vv_putF 42 rfl (w1 := [(h0, .inr (0, [.ref q1, .ref q4, .ref q7, .null, .null, .null])), (q1, .inr (5, [.ref q3, .int (0 : Int32)])), (q3, .inl (ca 0, 64, .inl (fun _ => 0))), (q4, .inr (5, [.ref q6, .int (0 : Int32)])), (q6, .inl (ca 0, 256, .inl (fun _ => 0))), (q7, .inr (7, [.ref q9, .int (0 : Int32)])), (q9, .inl (ca 2, 8, .inr (.inr (.inr (.inr f26))))), (q10, .inr (3, [.ref q11, .int (0 : Int32)])), (q11, .inl (ca 0, 44, .inl (fun _ => 0))), (q12, .inr (3, [.ref q13, .int (0 : Int32)])), (q13, .inl (ca 0, 44, .inl (fun _ => 0))), (q14, .inr (3, [.ref q15, .int (0 : Int32)])), (q15, .inl (ca 0, 44, .inl (fun _ => 0))), (q16, .inr (3, [.ref q17, .int (0 : Int32)])), (q17, .inl (ca 0, 44, .inl (fun _ => 0))), (q18, .inr (3, [.ref q19, .int (0 : Int32)])), (q19, .inl (ca 0, 44, .inl (fun _ => 0))), (q20, .inr (3, [.ref q21, .int (0 : Int32)])), (q21, .inl (ca 0, 44, .inl (fun _ => 0))), (q22, .inr (3, [.ref q23, .int (0 : Int32)])), (q23, .inl (ca 0, 44, .inl (fun _ => 0))), (q24, .inr (3, [.ref q25, .int (0 : Int32)])), (q25, .inl (ca 0, 44, .inl (fun _ => 0)))]) 0 2 24 0 (by decide +kernel) (by decide) (by decide) rfl k_Gate_24 rfl rfl rfl (ty := .object "VoiceGateway$Wire") (by decide +kernel) rfl rfl (Nat.le_of_ble_eq_true rfl) rfl ?_
  refine vv_aload_0 43 rfl (by decide +kernel) ?_
  refine vv_new 46 rfl 6 28 (by decide +kernel) (by decide) k_Gate_28 in_Sender ini_Sender bl_Sender 23 706 rfl rfl ⟨Nat.le_of_ble_eq_true rfl, Nat.le_of_ble_eq_true rfl⟩ (fun q28 => ?_)
  refine vv_dup 47 rfl (by decide +kernel) rfl ?_
  refine vv_init 50 rfl 30 [] (by decide +kernel) rfl mi_Sender.1 mi_Sender.2.1 mi_Sender.2.2.1 mi_Sender.2.2.2 k_Gate_30 rfl ⟨Nat.le_of_ble_eq_true rfl, Nat.le_of_ble_eq_true rfl⟩ ⟨rfl, rfl⟩ 24 708 rfl rfl ⟨Nat.le_of_ble_eq_true rfl, Nat.le_of_ble_eq_true rfl⟩ (Nat.le_of_ble_eq_true rfl) rfl (I_Sender_init) (fun w29 hw29 => ?_)
  obtain ⟨q30, rfl⟩ := hw29
  refine vv_w (w1 := [(h0, .inr (0, [.ref q1, .ref q4, .ref q7, .null, .null, .null])), (q1, .inr (5, [.ref q3, .int (0 : Int32)])), (q3, .inl (ca 0, 64, .inl (fun _ => 0))), (q4, .inr (5, [.ref q6, .int (0 : Int32)])), (q6, .inl (ca 0, 256, .inl (fun _ => 0))), (q7, .inr (7, [.ref q9, .int (0 : Int32)])), (q9, .inl (ca 2, 8, .inr (.inr (.inr (.inr f26))))), (q10, .inr (3, [.ref q11, .int (0 : Int32)])), (q11, .inl (ca 0, 44, .inl (fun _ => 0))), (q12, .inr (3, [.ref q13, .int (0 : Int32)])), (q13, .inl (ca 0, 44, .inl (fun _ => 0))), (q14, .inr (3, [.ref q15, .int (0 : Int32)])), (q15, .inl (ca 0, 44, .inl (fun _ => 0))), (q16, .inr (3, [.ref q17, .int (0 : Int32)])), (q17, .inl (ca 0, 44, .inl (fun _ => 0))), (q18, .inr (3, [.ref q19, .int (0 : Int32)])), (q19, .inl (ca 0, 44, .inl (fun _ => 0))), (q20, .inr (3, [.ref q21, .int (0 : Int32)])), (q21, .inl (ca 0, 44, .inl (fun _ => 0))), (q22, .inr (3, [.ref q23, .int (0 : Int32)])), (q23, .inl (ca 0, 44, .inl (fun _ => 0))), (q24, .inr (3, [.ref q25, .int (0 : Int32)])), (q25, .inl (ca 0, 44, .inl (fun _ => 0))), (q28, .inr (6, [.int (0 : Int32), .int (0 : Int32), .int (0 : Int32), .ref q30])), (q30, .inr (1, [.int (0 : Int32), .int (0 : Int32)]))]) rfl ?_
  refine vv_putF 53 rfl (w1 := [(h0, .inr (0, [.ref q1, .ref q4, .ref q7, .ref q28, .null, .null])), (q1, .inr (5, [.ref q3, .int (0 : Int32)])), (q3, .inl (ca 0, 64, .inl (fun _ => 0))), (q4, .inr (5, [.ref q6, .int (0 : Int32)])), (q6, .inl (ca 0, 256, .inl (fun _ => 0))), (q7, .inr (7, [.ref q9, .int (0 : Int32)])), (q9, .inl (ca 2, 8, .inr (.inr (.inr (.inr f26))))), (q10, .inr (3, [.ref q11, .int (0 : Int32)])), (q11, .inl (ca 0, 44, .inl (fun _ => 0))), (q12, .inr (3, [.ref q13, .int (0 : Int32)])), (q13, .inl (ca 0, 44, .inl (fun _ => 0))), (q14, .inr (3, [.ref q15, .int (0 : Int32)])), (q15, .inl (ca 0, 44, .inl (fun _ => 0))), (q16, .inr (3, [.ref q17, .int (0 : Int32)])), (q17, .inl (ca 0, 44, .inl (fun _ => 0))), (q18, .inr (3, [.ref q19, .int (0 : Int32)])), (q19, .inl (ca 0, 44, .inl (fun _ => 0))), (q20, .inr (3, [.ref q21, .int (0 : Int32)])), (q21, .inl (ca 0, 44, .inl (fun _ => 0))), (q22, .inr (3, [.ref q23, .int (0 : Int32)])), (q23, .inl (ca 0, 44, .inl (fun _ => 0))), (q24, .inr (3, [.ref q25, .int (0 : Int32)])), (q25, .inl (ca 0, 44, .inl (fun _ => 0))), (q28, .inr (6, [.int (0 : Int32), .int (0 : Int32), .int (0 : Int32), .ref q30])), (q30, .inr (1, [.int (0 : Int32), .int (0 : Int32)]))]) 0 3 31 0 (by decide +kernel) (by decide) (by decide) rfl k_Gate_31 rfl rfl rfl (ty := .object "VoiceGateway$Sender") (by decide +kernel) rfl rfl (Nat.le_of_ble_eq_true rfl) rfl ?_
  refine vv_aload_0 54 rfl (by decide +kernel) ?_
  refine vv_new 57 rfl 2 35 (by decide +kernel) (by decide) k_Gate_35 in_Buffer ini_Buffer bl_Buffer 25 716 rfl rfl ⟨Nat.le_of_ble_eq_true rfl, Nat.le_of_ble_eq_true rfl⟩ (fun q31 => ?_)
  refine vv_dup 58 rfl (by decide +kernel) rfl ?_
  refine vv_init 61 rfl 37 [] (by decide +kernel) rfl mi_Buffer.1 mi_Buffer.2.1 mi_Buffer.2.2.1 mi_Buffer.2.2.2 k_Gate_37 rfl ⟨Nat.le_of_ble_eq_true rfl, Nat.le_of_ble_eq_true rfl⟩ ⟨rfl, rfl⟩ 44 1108 rfl rfl ⟨Nat.le_of_ble_eq_true rfl, Nat.le_of_ble_eq_true rfl⟩ (Nat.le_of_ble_eq_true rfl) rfl (I_Buffer_init) (fun w32 hw32 => ?_)
  obtain ⟨q33, q34, q35, q36, q37, q38, q39, q40, q41, q42, q43, q44, q45, q46, q47, q48, q49, q50, q51, f52, hh53, rfl⟩ := hw32
  refine vv_w (w1 := [(h0, .inr (0, [.ref q1, .ref q4, .ref q7, .ref q28, .null, .null])), (q1, .inr (5, [.ref q3, .int (0 : Int32)])), (q3, .inl (ca 0, 64, .inl (fun _ => 0))), (q4, .inr (5, [.ref q6, .int (0 : Int32)])), (q6, .inl (ca 0, 256, .inl (fun _ => 0))), (q7, .inr (7, [.ref q9, .int (0 : Int32)])), (q9, .inl (ca 2, 8, .inr (.inr (.inr (.inr f26))))), (q10, .inr (3, [.ref q11, .int (0 : Int32)])), (q11, .inl (ca 0, 44, .inl (fun _ => 0))), (q12, .inr (3, [.ref q13, .int (0 : Int32)])), (q13, .inl (ca 0, 44, .inl (fun _ => 0))), (q14, .inr (3, [.ref q15, .int (0 : Int32)])), (q15, .inl (ca 0, 44, .inl (fun _ => 0))), (q16, .inr (3, [.ref q17, .int (0 : Int32)])), (q17, .inl (ca 0, 44, .inl (fun _ => 0))), (q18, .inr (3, [.ref q19, .int (0 : Int32)])), (q19, .inl (ca 0, 44, .inl (fun _ => 0))), (q20, .inr (3, [.ref q21, .int (0 : Int32)])), (q21, .inl (ca 0, 44, .inl (fun _ => 0))), (q22, .inr (3, [.ref q23, .int (0 : Int32)])), (q23, .inl (ca 0, 44, .inl (fun _ => 0))), (q24, .inr (3, [.ref q25, .int (0 : Int32)])), (q25, .inl (ca 0, 44, .inl (fun _ => 0))), (q28, .inr (6, [.int (0 : Int32), .int (0 : Int32), .int (0 : Int32), .ref q30])), (q30, .inr (1, [.int (0 : Int32), .int (0 : Int32)])), (q31, .inr (2, [.ref q33, .ref q50, .ref q51, .int (0 : Int32), .int (0 : Int32), .int (0 : Int32), .int (0 : Int32), .int (1 : Int32)])), (q33, .inl (ca 2, 8, .inr (.inr (.inr (.inr f52))))), (q34, .inr (3, [.ref q35, .int (0 : Int32)])), (q35, .inl (ca 0, 44, .inl (fun _ => 0))), (q36, .inr (3, [.ref q37, .int (0 : Int32)])), (q37, .inl (ca 0, 44, .inl (fun _ => 0))), (q38, .inr (3, [.ref q39, .int (0 : Int32)])), (q39, .inl (ca 0, 44, .inl (fun _ => 0))), (q40, .inr (3, [.ref q41, .int (0 : Int32)])), (q41, .inl (ca 0, 44, .inl (fun _ => 0))), (q42, .inr (3, [.ref q43, .int (0 : Int32)])), (q43, .inl (ca 0, 44, .inl (fun _ => 0))), (q44, .inr (3, [.ref q45, .int (0 : Int32)])), (q45, .inl (ca 0, 44, .inl (fun _ => 0))), (q46, .inr (3, [.ref q47, .int (0 : Int32)])), (q47, .inl (ca 0, 44, .inl (fun _ => 0))), (q48, .inr (3, [.ref q49, .int (0 : Int32)])), (q49, .inl (ca 0, 44, .inl (fun _ => 0))), (q50, .inl (ca 1, 8, .inl (fun _ => 0))), (q51, .inl (ca 0, 8, .inl (fun _ => 0)))]) rfl ?_
  refine vv_putF 64 rfl (w1 := [(h0, .inr (0, [.ref q1, .ref q4, .ref q7, .ref q28, .ref q31, .null])), (q1, .inr (5, [.ref q3, .int (0 : Int32)])), (q3, .inl (ca 0, 64, .inl (fun _ => 0))), (q4, .inr (5, [.ref q6, .int (0 : Int32)])), (q6, .inl (ca 0, 256, .inl (fun _ => 0))), (q7, .inr (7, [.ref q9, .int (0 : Int32)])), (q9, .inl (ca 2, 8, .inr (.inr (.inr (.inr f26))))), (q10, .inr (3, [.ref q11, .int (0 : Int32)])), (q11, .inl (ca 0, 44, .inl (fun _ => 0))), (q12, .inr (3, [.ref q13, .int (0 : Int32)])), (q13, .inl (ca 0, 44, .inl (fun _ => 0))), (q14, .inr (3, [.ref q15, .int (0 : Int32)])), (q15, .inl (ca 0, 44, .inl (fun _ => 0))), (q16, .inr (3, [.ref q17, .int (0 : Int32)])), (q17, .inl (ca 0, 44, .inl (fun _ => 0))), (q18, .inr (3, [.ref q19, .int (0 : Int32)])), (q19, .inl (ca 0, 44, .inl (fun _ => 0))), (q20, .inr (3, [.ref q21, .int (0 : Int32)])), (q21, .inl (ca 0, 44, .inl (fun _ => 0))), (q22, .inr (3, [.ref q23, .int (0 : Int32)])), (q23, .inl (ca 0, 44, .inl (fun _ => 0))), (q24, .inr (3, [.ref q25, .int (0 : Int32)])), (q25, .inl (ca 0, 44, .inl (fun _ => 0))), (q28, .inr (6, [.int (0 : Int32), .int (0 : Int32), .int (0 : Int32), .ref q30])), (q30, .inr (1, [.int (0 : Int32), .int (0 : Int32)])), (q31, .inr (2, [.ref q33, .ref q50, .ref q51, .int (0 : Int32), .int (0 : Int32), .int (0 : Int32), .int (0 : Int32), .int (1 : Int32)])), (q33, .inl (ca 2, 8, .inr (.inr (.inr (.inr f52))))), (q34, .inr (3, [.ref q35, .int (0 : Int32)])), (q35, .inl (ca 0, 44, .inl (fun _ => 0))), (q36, .inr (3, [.ref q37, .int (0 : Int32)])), (q37, .inl (ca 0, 44, .inl (fun _ => 0))), (q38, .inr (3, [.ref q39, .int (0 : Int32)])), (q39, .inl (ca 0, 44, .inl (fun _ => 0))), (q40, .inr (3, [.ref q41, .int (0 : Int32)])), (q41, .inl (ca 0, 44, .inl (fun _ => 0))), (q42, .inr (3, [.ref q43, .int (0 : Int32)])), (q43, .inl (ca 0, 44, .inl (fun _ => 0))), (q44, .inr (3, [.ref q45, .int (0 : Int32)])), (q45, .inl (ca 0, 44, .inl (fun _ => 0))), (q46, .inr (3, [.ref q47, .int (0 : Int32)])), (q47, .inl (ca 0, 44, .inl (fun _ => 0))), (q48, .inr (3, [.ref q49, .int (0 : Int32)])), (q49, .inl (ca 0, 44, .inl (fun _ => 0))), (q50, .inl (ca 1, 8, .inl (fun _ => 0))), (q51, .inl (ca 0, 8, .inl (fun _ => 0)))]) 0 4 38 0 (by decide +kernel) (by decide) (by decide) rfl k_Gate_38 rfl rfl rfl (ty := .object "VoiceGateway$Buffer") (by decide +kernel) rfl rfl (Nat.le_of_ble_eq_true rfl) rfl ?_
  refine vv_aload_0 65 rfl (by decide +kernel) ?_
  refine vv_new 68 rfl 4 42 (by decide +kernel) (by decide) k_Gate_42 in_Player ini_Player bl_Player 45 1114 rfl rfl ⟨Nat.le_of_ble_eq_true rfl, Nat.le_of_ble_eq_true rfl⟩ (fun q54 => ?_)
  refine vv_dup 69 rfl (by decide +kernel) rfl ?_
  refine vv_init 72 rfl 44 [] (by decide +kernel) rfl mi_Player.1 mi_Player.2.1 mi_Player.2.2.1 mi_Player.2.2.2 k_Gate_44 rfl ⟨Nat.le_of_ble_eq_true rfl, Nat.le_of_ble_eq_true rfl⟩ ⟨rfl, rfl⟩ 48 1134 rfl rfl ⟨Nat.le_of_ble_eq_true rfl, Nat.le_of_ble_eq_true rfl⟩ (Nat.le_of_ble_eq_true rfl) rfl (I_Player_init) (fun w55 hw55 => ?_)
  obtain ⟨q56, q57, q58, rfl⟩ := hw55
  refine vv_w (w1 := [(h0, .inr (0, [.ref q1, .ref q4, .ref q7, .ref q28, .ref q31, .null])), (q1, .inr (5, [.ref q3, .int (0 : Int32)])), (q3, .inl (ca 0, 64, .inl (fun _ => 0))), (q4, .inr (5, [.ref q6, .int (0 : Int32)])), (q6, .inl (ca 0, 256, .inl (fun _ => 0))), (q7, .inr (7, [.ref q9, .int (0 : Int32)])), (q9, .inl (ca 2, 8, .inr (.inr (.inr (.inr f26))))), (q10, .inr (3, [.ref q11, .int (0 : Int32)])), (q11, .inl (ca 0, 44, .inl (fun _ => 0))), (q12, .inr (3, [.ref q13, .int (0 : Int32)])), (q13, .inl (ca 0, 44, .inl (fun _ => 0))), (q14, .inr (3, [.ref q15, .int (0 : Int32)])), (q15, .inl (ca 0, 44, .inl (fun _ => 0))), (q16, .inr (3, [.ref q17, .int (0 : Int32)])), (q17, .inl (ca 0, 44, .inl (fun _ => 0))), (q18, .inr (3, [.ref q19, .int (0 : Int32)])), (q19, .inl (ca 0, 44, .inl (fun _ => 0))), (q20, .inr (3, [.ref q21, .int (0 : Int32)])), (q21, .inl (ca 0, 44, .inl (fun _ => 0))), (q22, .inr (3, [.ref q23, .int (0 : Int32)])), (q23, .inl (ca 0, 44, .inl (fun _ => 0))), (q24, .inr (3, [.ref q25, .int (0 : Int32)])), (q25, .inl (ca 0, 44, .inl (fun _ => 0))), (q28, .inr (6, [.int (0 : Int32), .int (0 : Int32), .int (0 : Int32), .ref q30])), (q30, .inr (1, [.int (0 : Int32), .int (0 : Int32)])), (q31, .inr (2, [.ref q33, .ref q50, .ref q51, .int (0 : Int32), .int (0 : Int32), .int (0 : Int32), .int (0 : Int32), .int (1 : Int32)])), (q33, .inl (ca 2, 8, .inr (.inr (.inr (.inr f52))))), (q34, .inr (3, [.ref q35, .int (0 : Int32)])), (q35, .inl (ca 0, 44, .inl (fun _ => 0))), (q36, .inr (3, [.ref q37, .int (0 : Int32)])), (q37, .inl (ca 0, 44, .inl (fun _ => 0))), (q38, .inr (3, [.ref q39, .int (0 : Int32)])), (q39, .inl (ca 0, 44, .inl (fun _ => 0))), (q40, .inr (3, [.ref q41, .int (0 : Int32)])), (q41, .inl (ca 0, 44, .inl (fun _ => 0))), (q42, .inr (3, [.ref q43, .int (0 : Int32)])), (q43, .inl (ca 0, 44, .inl (fun _ => 0))), (q44, .inr (3, [.ref q45, .int (0 : Int32)])), (q45, .inl (ca 0, 44, .inl (fun _ => 0))), (q46, .inr (3, [.ref q47, .int (0 : Int32)])), (q47, .inl (ca 0, 44, .inl (fun _ => 0))), (q48, .inr (3, [.ref q49, .int (0 : Int32)])), (q49, .inl (ca 0, 44, .inl (fun _ => 0))), (q50, .inl (ca 1, 8, .inl (fun _ => 0))), (q51, .inl (ca 0, 8, .inl (fun _ => 0))), (q54, .inr (4, [.ref q56, .ref q58, .int (0 : Int32), .int (0 : Int32), .int (0 : Int32), .int (0 : Int32)])), (q56, .inr (5, [.ref q57, .int (0 : Int32)])), (q57, .inl (ca 0, 16, .inl (fun _ => 0))), (q58, .inr (1, [.int (0 : Int32), .int (0 : Int32)]))]) rfl ?_
  refine vv_putF 75 rfl (w1 := [(h0, .inr (0, [.ref q1, .ref q4, .ref q7, .ref q28, .ref q31, .ref q54])), (q1, .inr (5, [.ref q3, .int (0 : Int32)])), (q3, .inl (ca 0, 64, .inl (fun _ => 0))), (q4, .inr (5, [.ref q6, .int (0 : Int32)])), (q6, .inl (ca 0, 256, .inl (fun _ => 0))), (q7, .inr (7, [.ref q9, .int (0 : Int32)])), (q9, .inl (ca 2, 8, .inr (.inr (.inr (.inr f26))))), (q10, .inr (3, [.ref q11, .int (0 : Int32)])), (q11, .inl (ca 0, 44, .inl (fun _ => 0))), (q12, .inr (3, [.ref q13, .int (0 : Int32)])), (q13, .inl (ca 0, 44, .inl (fun _ => 0))), (q14, .inr (3, [.ref q15, .int (0 : Int32)])), (q15, .inl (ca 0, 44, .inl (fun _ => 0))), (q16, .inr (3, [.ref q17, .int (0 : Int32)])), (q17, .inl (ca 0, 44, .inl (fun _ => 0))), (q18, .inr (3, [.ref q19, .int (0 : Int32)])), (q19, .inl (ca 0, 44, .inl (fun _ => 0))), (q20, .inr (3, [.ref q21, .int (0 : Int32)])), (q21, .inl (ca 0, 44, .inl (fun _ => 0))), (q22, .inr (3, [.ref q23, .int (0 : Int32)])), (q23, .inl (ca 0, 44, .inl (fun _ => 0))), (q24, .inr (3, [.ref q25, .int (0 : Int32)])), (q25, .inl (ca 0, 44, .inl (fun _ => 0))), (q28, .inr (6, [.int (0 : Int32), .int (0 : Int32), .int (0 : Int32), .ref q30])), (q30, .inr (1, [.int (0 : Int32), .int (0 : Int32)])), (q31, .inr (2, [.ref q33, .ref q50, .ref q51, .int (0 : Int32), .int (0 : Int32), .int (0 : Int32), .int (0 : Int32), .int (1 : Int32)])), (q33, .inl (ca 2, 8, .inr (.inr (.inr (.inr f52))))), (q34, .inr (3, [.ref q35, .int (0 : Int32)])), (q35, .inl (ca 0, 44, .inl (fun _ => 0))), (q36, .inr (3, [.ref q37, .int (0 : Int32)])), (q37, .inl (ca 0, 44, .inl (fun _ => 0))), (q38, .inr (3, [.ref q39, .int (0 : Int32)])), (q39, .inl (ca 0, 44, .inl (fun _ => 0))), (q40, .inr (3, [.ref q41, .int (0 : Int32)])), (q41, .inl (ca 0, 44, .inl (fun _ => 0))), (q42, .inr (3, [.ref q43, .int (0 : Int32)])), (q43, .inl (ca 0, 44, .inl (fun _ => 0))), (q44, .inr (3, [.ref q45, .int (0 : Int32)])), (q45, .inl (ca 0, 44, .inl (fun _ => 0))), (q46, .inr (3, [.ref q47, .int (0 : Int32)])), (q47, .inl (ca 0, 44, .inl (fun _ => 0))), (q48, .inr (3, [.ref q49, .int (0 : Int32)])), (q49, .inl (ca 0, 44, .inl (fun _ => 0))), (q50, .inl (ca 1, 8, .inl (fun _ => 0))), (q51, .inl (ca 0, 8, .inl (fun _ => 0))), (q54, .inr (4, [.ref q56, .ref q58, .int (0 : Int32), .int (0 : Int32), .int (0 : Int32), .int (0 : Int32)])), (q56, .inr (5, [.ref q57, .int (0 : Int32)])), (q57, .inl (ca 0, 16, .inl (fun _ => 0))), (q58, .inr (1, [.int (0 : Int32), .int (0 : Int32)]))]) 0 5 45 0 (by decide +kernel) (by decide) (by decide) rfl k_Gate_45 rfl rfl rfl (ty := .object "VoiceGateway$Player") (by decide +kernel) rfl rfl (Nat.le_of_ble_eq_true rfl) rfl ?_
  exact vv_ret (by decide +kernel) rfl (Nat.le_refl _) (Nat.le_refl _) ⟨q1, q3, q4, q6, q7, q9, q10, q11, q12, q13, q14, q15, q16, q17, q18, q19, q20, q21, q22, q23, q24, q25, f26, q28, q30, q31, q33, q34, q35, q36, q37, q38, q39, q40, q41, q42, q43, q44, q45, q46, q47, q48, q49, q50, q51, f52, q54, q56, q57, q58, hh27, hh53, rfl⟩
def P_Model (ca : Nat → ClassId) (h0 : Nat) (w : va_W) : Prop := ∃ (q1 : Nat), ∃ (q91 : Nat), ∃ (q92 : Nat), ∃ (q93 : Nat), ∃ (q94 : Nat), ∃ (q95 : Nat), ∃ (q96 : Nat), ∃ (f90 : Nat → Int32), ∃ (f104 : Nat → Int32), (∀ j, j < 89 → f90 j = tb_STEPS j) ∧ (∀ j, j < 16 → f104 j = if j < 8 then 0 else (-1 : Int32)) ∧ w = [(h0, .inr (8, [.ref q1, .int 0, .ref q91, .int 0, .ref q92, .int 0, .int 0, .int 0, .int 0, .int 0, .int 0, .ref q93, .ref q94, .int 0, .int 0, .int 0, .int (1 : Int32), .int 0, .int 0, .int 0, .int 0, .ref q95, .ref q96, .int 0, .int 0])), (q1, .inl (ca 0, 89, .inl f90)), (q91, .inl (ca 0, 64, .inl (fun _ => 0))), (q92, .inl (ca 0, 256, .inl (fun _ => 0))), (q93, .inl (ca 0, 16, .inl f104)), (q94, .inl (ca 0, 704, .inl (fun _ => 0))), (q95, .inl (ca 0, 16, .inl (fun _ => 0))), (q96, .inl (ca 0, 10, .inl (fun _ => 0)))]
set_option maxHeartbeats 8000000 in
set_option maxRecDepth 100000 in
theorem I_Model_init {l : Launch} {ca : Nat → ClassId} {h0 : Nat}  : CI l ca y_Model_init b_Model_init 2 { frames := 1, cells := 7, slots := 1155, locals := 20 } [.ref h0] [(h0, .inr (8, [.null, .int 0, .null, .int 0, .null, .int 0, .int 0, .int 0, .int 0, .int 0, .int 0, .null, .null, .int 0, .int 0, .int 0, .int 0, .int 0, .int 0, .int 0, .int 0, .null, .null, .int 0, .int 0]))] (P_Model ca h0) 7 1155 := by
  refine ci_of (own := R_Model) (lv := [some (.ref h0), none]) (by decide) rfl rfl (cat_ok rfl) (Nat.le_of_ble_eq_true rfl) rfl ?_
  refine vv_aload_0 1 rfl (by decide +kernel) ?_
  refine vv_obj 4 rfl 1 (by decide +kernel) k_Model_1 ob_code ob_ins ⟨Nat.le_of_ble_eq_true rfl, Nat.le_of_ble_eq_true rfl⟩ (Nat.le_of_ble_eq_true rfl) ?_
  refine vv_aload_0 5 rfl (by decide +kernel) ?_
  refine vv_bipush 7 rfl (89) (89 : Int32) (by decide +kernel) (by decide) ?_
  refine vv_newi 9 rfl 89 (by decide +kernel) ar_int (by decide) (by decide) (by decide) 1 89 rfl rfl ⟨Nat.le_of_ble_eq_true rfl, Nat.le_of_ble_eq_true rfl⟩ (fun q1 => ?_)
  refine vv_dup 10 rfl (by decide +kernel) rfl ?_
  refine vv_iconst 11 rfl (0) (0 : Int32) (by decide +kernel) (by decide) ?_
  refine vv_bipush 13 rfl (7) (7 : Int32) (by decide +kernel) (by decide) ?_
  refine vv_iast 14 rfl 1 (by decide +kernel) rfl (by decide) (fun f2 ef2 => ?_)
  refine vv_w (w1 := [(h0, .inr (8, [.null, .int 0, .null, .int 0, .null, .int 0, .int 0, .int 0, .int 0, .int 0, .int 0, .null, .null, .int 0, .int 0, .int 0, .int 0, .int 0, .int 0, .int 0, .int 0, .null, .null, .int 0, .int 0])), (q1, .inl (ca 0, 89, .inl f2))]) rfl ?_
  refine vv_dup 15 rfl (by decide +kernel) rfl ?_
  refine vv_iconst 16 rfl (1) (1 : Int32) (by decide +kernel) (by decide) ?_
  refine vv_bipush 18 rfl (8) (8 : Int32) (by decide +kernel) (by decide) ?_
  refine vv_iast 19 rfl 1 (by decide +kernel) rfl (by decide) (fun f3 ef3 => ?_)
  refine vv_w (w1 := [(h0, .inr (8, [.null, .int 0, .null, .int 0, .null, .int 0, .int 0, .int 0, .int 0, .int 0, .int 0, .null, .null, .int 0, .int 0, .int 0, .int 0, .int 0, .int 0, .int 0, .int 0, .null, .null, .int 0, .int 0])), (q1, .inl (ca 0, 89, .inl f3))]) rfl ?_
  refine vv_dup 20 rfl (by decide +kernel) rfl ?_
  refine vv_iconst 21 rfl (2) (2 : Int32) (by decide +kernel) (by decide) ?_
  refine vv_bipush 23 rfl (9) (9 : Int32) (by decide +kernel) (by decide) ?_
  refine vv_iast 24 rfl 1 (by decide +kernel) rfl (by decide) (fun f4 ef4 => ?_)
  refine vv_w (w1 := [(h0, .inr (8, [.null, .int 0, .null, .int 0, .null, .int 0, .int 0, .int 0, .int 0, .int 0, .int 0, .null, .null, .int 0, .int 0, .int 0, .int 0, .int 0, .int 0, .int 0, .int 0, .null, .null, .int 0, .int 0])), (q1, .inl (ca 0, 89, .inl f4))]) rfl ?_
  refine vv_dup 25 rfl (by decide +kernel) rfl ?_
  refine vv_iconst 26 rfl (3) (3 : Int32) (by decide +kernel) (by decide) ?_
  refine vv_bipush 28 rfl (10) (10 : Int32) (by decide +kernel) (by decide) ?_
  refine vv_iast 29 rfl 1 (by decide +kernel) rfl (by decide) (fun f5 ef5 => ?_)
  refine vv_w (w1 := [(h0, .inr (8, [.null, .int 0, .null, .int 0, .null, .int 0, .int 0, .int 0, .int 0, .int 0, .int 0, .null, .null, .int 0, .int 0, .int 0, .int 0, .int 0, .int 0, .int 0, .int 0, .null, .null, .int 0, .int 0])), (q1, .inl (ca 0, 89, .inl f5))]) rfl ?_
  refine vv_dup 30 rfl (by decide +kernel) rfl ?_
  refine vv_iconst 31 rfl (4) (4 : Int32) (by decide +kernel) (by decide) ?_
  refine vv_bipush 33 rfl (11) (11 : Int32) (by decide +kernel) (by decide) ?_
  refine vv_iast 34 rfl 1 (by decide +kernel) rfl (by decide) (fun f6 ef6 => ?_)
  refine vv_w (w1 := [(h0, .inr (8, [.null, .int 0, .null, .int 0, .null, .int 0, .int 0, .int 0, .int 0, .int 0, .int 0, .null, .null, .int 0, .int 0, .int 0, .int 0, .int 0, .int 0, .int 0, .int 0, .null, .null, .int 0, .int 0])), (q1, .inl (ca 0, 89, .inl f6))]) rfl ?_
  refine vv_dup 35 rfl (by decide +kernel) rfl ?_
  refine vv_iconst 36 rfl (5) (5 : Int32) (by decide +kernel) (by decide) ?_
  refine vv_bipush 38 rfl (12) (12 : Int32) (by decide +kernel) (by decide) ?_
  refine vv_iast 39 rfl 1 (by decide +kernel) rfl (by decide) (fun f7 ef7 => ?_)
  refine vv_w (w1 := [(h0, .inr (8, [.null, .int 0, .null, .int 0, .null, .int 0, .int 0, .int 0, .int 0, .int 0, .int 0, .null, .null, .int 0, .int 0, .int 0, .int 0, .int 0, .int 0, .int 0, .int 0, .null, .null, .int 0, .int 0])), (q1, .inl (ca 0, 89, .inl f7))]) rfl ?_
  refine vv_dup 40 rfl (by decide +kernel) rfl ?_
  refine vv_bipush 42 rfl (6) (6 : Int32) (by decide +kernel) (by decide) ?_
  refine vv_bipush 44 rfl (13) (13 : Int32) (by decide +kernel) (by decide) ?_
  refine vv_iast 45 rfl 1 (by decide +kernel) rfl (by decide) (fun f8 ef8 => ?_)
  refine vv_w (w1 := [(h0, .inr (8, [.null, .int 0, .null, .int 0, .null, .int 0, .int 0, .int 0, .int 0, .int 0, .int 0, .null, .null, .int 0, .int 0, .int 0, .int 0, .int 0, .int 0, .int 0, .int 0, .null, .null, .int 0, .int 0])), (q1, .inl (ca 0, 89, .inl f8))]) rfl ?_
  refine vv_dup 46 rfl (by decide +kernel) rfl ?_
  refine vv_bipush 48 rfl (7) (7 : Int32) (by decide +kernel) (by decide) ?_
  refine vv_bipush 50 rfl (14) (14 : Int32) (by decide +kernel) (by decide) ?_
  refine vv_iast 51 rfl 1 (by decide +kernel) rfl (by decide) (fun f9 ef9 => ?_)
  refine vv_w (w1 := [(h0, .inr (8, [.null, .int 0, .null, .int 0, .null, .int 0, .int 0, .int 0, .int 0, .int 0, .int 0, .null, .null, .int 0, .int 0, .int 0, .int 0, .int 0, .int 0, .int 0, .int 0, .null, .null, .int 0, .int 0])), (q1, .inl (ca 0, 89, .inl f9))]) rfl ?_
  refine vv_dup 52 rfl (by decide +kernel) rfl ?_
  refine vv_bipush 54 rfl (8) (8 : Int32) (by decide +kernel) (by decide) ?_
  refine vv_bipush 56 rfl (16) (16 : Int32) (by decide +kernel) (by decide) ?_
  refine vv_iast 57 rfl 1 (by decide +kernel) rfl (by decide) (fun f10 ef10 => ?_)
  refine vv_w (w1 := [(h0, .inr (8, [.null, .int 0, .null, .int 0, .null, .int 0, .int 0, .int 0, .int 0, .int 0, .int 0, .null, .null, .int 0, .int 0, .int 0, .int 0, .int 0, .int 0, .int 0, .int 0, .null, .null, .int 0, .int 0])), (q1, .inl (ca 0, 89, .inl f10))]) rfl ?_
  refine vv_dup 58 rfl (by decide +kernel) rfl ?_
  refine vv_bipush 60 rfl (9) (9 : Int32) (by decide +kernel) (by decide) ?_
  refine vv_bipush 62 rfl (17) (17 : Int32) (by decide +kernel) (by decide) ?_
  refine vv_iast 63 rfl 1 (by decide +kernel) rfl (by decide) (fun f11 ef11 => ?_)
  refine vv_w (w1 := [(h0, .inr (8, [.null, .int 0, .null, .int 0, .null, .int 0, .int 0, .int 0, .int 0, .int 0, .int 0, .null, .null, .int 0, .int 0, .int 0, .int 0, .int 0, .int 0, .int 0, .int 0, .null, .null, .int 0, .int 0])), (q1, .inl (ca 0, 89, .inl f11))]) rfl ?_
  refine vv_dup 64 rfl (by decide +kernel) rfl ?_
  refine vv_bipush 66 rfl (10) (10 : Int32) (by decide +kernel) (by decide) ?_
  refine vv_bipush 68 rfl (19) (19 : Int32) (by decide +kernel) (by decide) ?_
  refine vv_iast 69 rfl 1 (by decide +kernel) rfl (by decide) (fun f12 ef12 => ?_)
  refine vv_w (w1 := [(h0, .inr (8, [.null, .int 0, .null, .int 0, .null, .int 0, .int 0, .int 0, .int 0, .int 0, .int 0, .null, .null, .int 0, .int 0, .int 0, .int 0, .int 0, .int 0, .int 0, .int 0, .null, .null, .int 0, .int 0])), (q1, .inl (ca 0, 89, .inl f12))]) rfl ?_
  refine vv_dup 70 rfl (by decide +kernel) rfl ?_
  refine vv_bipush 72 rfl (11) (11 : Int32) (by decide +kernel) (by decide) ?_
  refine vv_bipush 74 rfl (21) (21 : Int32) (by decide +kernel) (by decide) ?_
  refine vv_iast 75 rfl 1 (by decide +kernel) rfl (by decide) (fun f13 ef13 => ?_)
  refine vv_w (w1 := [(h0, .inr (8, [.null, .int 0, .null, .int 0, .null, .int 0, .int 0, .int 0, .int 0, .int 0, .int 0, .null, .null, .int 0, .int 0, .int 0, .int 0, .int 0, .int 0, .int 0, .int 0, .null, .null, .int 0, .int 0])), (q1, .inl (ca 0, 89, .inl f13))]) rfl ?_
  refine vv_dup 76 rfl (by decide +kernel) rfl ?_
  refine vv_bipush 78 rfl (12) (12 : Int32) (by decide +kernel) (by decide) ?_
  refine vv_bipush 80 rfl (23) (23 : Int32) (by decide +kernel) (by decide) ?_
  refine vv_iast 81 rfl 1 (by decide +kernel) rfl (by decide) (fun f14 ef14 => ?_)
  refine vv_w (w1 := [(h0, .inr (8, [.null, .int 0, .null, .int 0, .null, .int 0, .int 0, .int 0, .int 0, .int 0, .int 0, .null, .null, .int 0, .int 0, .int 0, .int 0, .int 0, .int 0, .int 0, .int 0, .null, .null, .int 0, .int 0])), (q1, .inl (ca 0, 89, .inl f14))]) rfl ?_
  refine vv_dup 82 rfl (by decide +kernel) rfl ?_
  refine vv_bipush 84 rfl (13) (13 : Int32) (by decide +kernel) (by decide) ?_
  refine vv_bipush 86 rfl (25) (25 : Int32) (by decide +kernel) (by decide) ?_
  refine vv_iast 87 rfl 1 (by decide +kernel) rfl (by decide) (fun f15 ef15 => ?_)
  refine vv_w (w1 := [(h0, .inr (8, [.null, .int 0, .null, .int 0, .null, .int 0, .int 0, .int 0, .int 0, .int 0, .int 0, .null, .null, .int 0, .int 0, .int 0, .int 0, .int 0, .int 0, .int 0, .int 0, .null, .null, .int 0, .int 0])), (q1, .inl (ca 0, 89, .inl f15))]) rfl ?_
  refine vv_dup 88 rfl (by decide +kernel) rfl ?_
  refine vv_bipush 90 rfl (14) (14 : Int32) (by decide +kernel) (by decide) ?_
  refine vv_bipush 92 rfl (28) (28 : Int32) (by decide +kernel) (by decide) ?_
  refine vv_iast 93 rfl 1 (by decide +kernel) rfl (by decide) (fun f16 ef16 => ?_)
  refine vv_w (w1 := [(h0, .inr (8, [.null, .int 0, .null, .int 0, .null, .int 0, .int 0, .int 0, .int 0, .int 0, .int 0, .null, .null, .int 0, .int 0, .int 0, .int 0, .int 0, .int 0, .int 0, .int 0, .null, .null, .int 0, .int 0])), (q1, .inl (ca 0, 89, .inl f16))]) rfl ?_
  refine vv_dup 94 rfl (by decide +kernel) rfl ?_
  refine vv_bipush 96 rfl (15) (15 : Int32) (by decide +kernel) (by decide) ?_
  refine vv_bipush 98 rfl (31) (31 : Int32) (by decide +kernel) (by decide) ?_
  refine vv_iast 99 rfl 1 (by decide +kernel) rfl (by decide) (fun f17 ef17 => ?_)
  refine vv_w (w1 := [(h0, .inr (8, [.null, .int 0, .null, .int 0, .null, .int 0, .int 0, .int 0, .int 0, .int 0, .int 0, .null, .null, .int 0, .int 0, .int 0, .int 0, .int 0, .int 0, .int 0, .int 0, .null, .null, .int 0, .int 0])), (q1, .inl (ca 0, 89, .inl f17))]) rfl ?_
  refine vv_dup 100 rfl (by decide +kernel) rfl ?_
  refine vv_bipush 102 rfl (16) (16 : Int32) (by decide +kernel) (by decide) ?_
  refine vv_bipush 104 rfl (34) (34 : Int32) (by decide +kernel) (by decide) ?_
  refine vv_iast 105 rfl 1 (by decide +kernel) rfl (by decide) (fun f18 ef18 => ?_)
  refine vv_w (w1 := [(h0, .inr (8, [.null, .int 0, .null, .int 0, .null, .int 0, .int 0, .int 0, .int 0, .int 0, .int 0, .null, .null, .int 0, .int 0, .int 0, .int 0, .int 0, .int 0, .int 0, .int 0, .null, .null, .int 0, .int 0])), (q1, .inl (ca 0, 89, .inl f18))]) rfl ?_
  refine vv_dup 106 rfl (by decide +kernel) rfl ?_
  refine vv_bipush 108 rfl (17) (17 : Int32) (by decide +kernel) (by decide) ?_
  refine vv_bipush 110 rfl (37) (37 : Int32) (by decide +kernel) (by decide) ?_
  refine vv_iast 111 rfl 1 (by decide +kernel) rfl (by decide) (fun f19 ef19 => ?_)
  refine vv_w (w1 := [(h0, .inr (8, [.null, .int 0, .null, .int 0, .null, .int 0, .int 0, .int 0, .int 0, .int 0, .int 0, .null, .null, .int 0, .int 0, .int 0, .int 0, .int 0, .int 0, .int 0, .int 0, .null, .null, .int 0, .int 0])), (q1, .inl (ca 0, 89, .inl f19))]) rfl ?_
  refine vv_dup 112 rfl (by decide +kernel) rfl ?_
  refine vv_bipush 114 rfl (18) (18 : Int32) (by decide +kernel) (by decide) ?_
  refine vv_bipush 116 rfl (41) (41 : Int32) (by decide +kernel) (by decide) ?_
  refine vv_iast 117 rfl 1 (by decide +kernel) rfl (by decide) (fun f20 ef20 => ?_)
  refine vv_w (w1 := [(h0, .inr (8, [.null, .int 0, .null, .int 0, .null, .int 0, .int 0, .int 0, .int 0, .int 0, .int 0, .null, .null, .int 0, .int 0, .int 0, .int 0, .int 0, .int 0, .int 0, .int 0, .null, .null, .int 0, .int 0])), (q1, .inl (ca 0, 89, .inl f20))]) rfl ?_
  refine vv_dup 118 rfl (by decide +kernel) rfl ?_
  refine vv_bipush 120 rfl (19) (19 : Int32) (by decide +kernel) (by decide) ?_
  refine vv_bipush 122 rfl (45) (45 : Int32) (by decide +kernel) (by decide) ?_
  refine vv_iast 123 rfl 1 (by decide +kernel) rfl (by decide) (fun f21 ef21 => ?_)
  refine vv_w (w1 := [(h0, .inr (8, [.null, .int 0, .null, .int 0, .null, .int 0, .int 0, .int 0, .int 0, .int 0, .int 0, .null, .null, .int 0, .int 0, .int 0, .int 0, .int 0, .int 0, .int 0, .int 0, .null, .null, .int 0, .int 0])), (q1, .inl (ca 0, 89, .inl f21))]) rfl ?_
  refine vv_dup 124 rfl (by decide +kernel) rfl ?_
  refine vv_bipush 126 rfl (20) (20 : Int32) (by decide +kernel) (by decide) ?_
  refine vv_bipush 128 rfl (50) (50 : Int32) (by decide +kernel) (by decide) ?_
  refine vv_iast 129 rfl 1 (by decide +kernel) rfl (by decide) (fun f22 ef22 => ?_)
  refine vv_w (w1 := [(h0, .inr (8, [.null, .int 0, .null, .int 0, .null, .int 0, .int 0, .int 0, .int 0, .int 0, .int 0, .null, .null, .int 0, .int 0, .int 0, .int 0, .int 0, .int 0, .int 0, .int 0, .null, .null, .int 0, .int 0])), (q1, .inl (ca 0, 89, .inl f22))]) rfl ?_
  refine vv_dup 130 rfl (by decide +kernel) rfl ?_
  refine vv_bipush 132 rfl (21) (21 : Int32) (by decide +kernel) (by decide) ?_
  refine vv_bipush 134 rfl (55) (55 : Int32) (by decide +kernel) (by decide) ?_
  refine vv_iast 135 rfl 1 (by decide +kernel) rfl (by decide) (fun f23 ef23 => ?_)
  refine vv_w (w1 := [(h0, .inr (8, [.null, .int 0, .null, .int 0, .null, .int 0, .int 0, .int 0, .int 0, .int 0, .int 0, .null, .null, .int 0, .int 0, .int 0, .int 0, .int 0, .int 0, .int 0, .int 0, .null, .null, .int 0, .int 0])), (q1, .inl (ca 0, 89, .inl f23))]) rfl ?_
  refine vv_dup 136 rfl (by decide +kernel) rfl ?_
  refine vv_bipush 138 rfl (22) (22 : Int32) (by decide +kernel) (by decide) ?_
  refine vv_bipush 140 rfl (60) (60 : Int32) (by decide +kernel) (by decide) ?_
  refine vv_iast 141 rfl 1 (by decide +kernel) rfl (by decide) (fun f24 ef24 => ?_)
  refine vv_w (w1 := [(h0, .inr (8, [.null, .int 0, .null, .int 0, .null, .int 0, .int 0, .int 0, .int 0, .int 0, .int 0, .null, .null, .int 0, .int 0, .int 0, .int 0, .int 0, .int 0, .int 0, .int 0, .null, .null, .int 0, .int 0])), (q1, .inl (ca 0, 89, .inl f24))]) rfl ?_
  refine vv_dup 142 rfl (by decide +kernel) rfl ?_
  refine vv_bipush 144 rfl (23) (23 : Int32) (by decide +kernel) (by decide) ?_
  refine vv_bipush 146 rfl (66) (66 : Int32) (by decide +kernel) (by decide) ?_
  refine vv_iast 147 rfl 1 (by decide +kernel) rfl (by decide) (fun f25 ef25 => ?_)
  refine vv_w (w1 := [(h0, .inr (8, [.null, .int 0, .null, .int 0, .null, .int 0, .int 0, .int 0, .int 0, .int 0, .int 0, .null, .null, .int 0, .int 0, .int 0, .int 0, .int 0, .int 0, .int 0, .int 0, .null, .null, .int 0, .int 0])), (q1, .inl (ca 0, 89, .inl f25))]) rfl ?_
  refine vv_dup 148 rfl (by decide +kernel) rfl ?_
  refine vv_bipush 150 rfl (24) (24 : Int32) (by decide +kernel) (by decide) ?_
  refine vv_bipush 152 rfl (73) (73 : Int32) (by decide +kernel) (by decide) ?_
  refine vv_iast 153 rfl 1 (by decide +kernel) rfl (by decide) (fun f26 ef26 => ?_)
  refine vv_w (w1 := [(h0, .inr (8, [.null, .int 0, .null, .int 0, .null, .int 0, .int 0, .int 0, .int 0, .int 0, .int 0, .null, .null, .int 0, .int 0, .int 0, .int 0, .int 0, .int 0, .int 0, .int 0, .null, .null, .int 0, .int 0])), (q1, .inl (ca 0, 89, .inl f26))]) rfl ?_
  refine vv_dup 154 rfl (by decide +kernel) rfl ?_
  refine vv_bipush 156 rfl (25) (25 : Int32) (by decide +kernel) (by decide) ?_
  refine vv_bipush 158 rfl (80) (80 : Int32) (by decide +kernel) (by decide) ?_
  refine vv_iast 159 rfl 1 (by decide +kernel) rfl (by decide) (fun f27 ef27 => ?_)
  refine vv_w (w1 := [(h0, .inr (8, [.null, .int 0, .null, .int 0, .null, .int 0, .int 0, .int 0, .int 0, .int 0, .int 0, .null, .null, .int 0, .int 0, .int 0, .int 0, .int 0, .int 0, .int 0, .int 0, .null, .null, .int 0, .int 0])), (q1, .inl (ca 0, 89, .inl f27))]) rfl ?_
  refine vv_dup 160 rfl (by decide +kernel) rfl ?_
  refine vv_bipush 162 rfl (26) (26 : Int32) (by decide +kernel) (by decide) ?_
  refine vv_bipush 164 rfl (88) (88 : Int32) (by decide +kernel) (by decide) ?_
  refine vv_iast 165 rfl 1 (by decide +kernel) rfl (by decide) (fun f28 ef28 => ?_)
  refine vv_w (w1 := [(h0, .inr (8, [.null, .int 0, .null, .int 0, .null, .int 0, .int 0, .int 0, .int 0, .int 0, .int 0, .null, .null, .int 0, .int 0, .int 0, .int 0, .int 0, .int 0, .int 0, .int 0, .null, .null, .int 0, .int 0])), (q1, .inl (ca 0, 89, .inl f28))]) rfl ?_
  refine vv_dup 166 rfl (by decide +kernel) rfl ?_
  refine vv_bipush 168 rfl (27) (27 : Int32) (by decide +kernel) (by decide) ?_
  refine vv_bipush 170 rfl (97) (97 : Int32) (by decide +kernel) (by decide) ?_
  refine vv_iast 171 rfl 1 (by decide +kernel) rfl (by decide) (fun f29 ef29 => ?_)
  refine vv_w (w1 := [(h0, .inr (8, [.null, .int 0, .null, .int 0, .null, .int 0, .int 0, .int 0, .int 0, .int 0, .int 0, .null, .null, .int 0, .int 0, .int 0, .int 0, .int 0, .int 0, .int 0, .int 0, .null, .null, .int 0, .int 0])), (q1, .inl (ca 0, 89, .inl f29))]) rfl ?_
  refine vv_dup 172 rfl (by decide +kernel) rfl ?_
  refine vv_bipush 174 rfl (28) (28 : Int32) (by decide +kernel) (by decide) ?_
  refine vv_bipush 176 rfl (107) (107 : Int32) (by decide +kernel) (by decide) ?_
  refine vv_iast 177 rfl 1 (by decide +kernel) rfl (by decide) (fun f30 ef30 => ?_)
  refine vv_w (w1 := [(h0, .inr (8, [.null, .int 0, .null, .int 0, .null, .int 0, .int 0, .int 0, .int 0, .int 0, .int 0, .null, .null, .int 0, .int 0, .int 0, .int 0, .int 0, .int 0, .int 0, .int 0, .null, .null, .int 0, .int 0])), (q1, .inl (ca 0, 89, .inl f30))]) rfl ?_
  refine vv_dup 178 rfl (by decide +kernel) rfl ?_
  refine vv_bipush 180 rfl (29) (29 : Int32) (by decide +kernel) (by decide) ?_
  refine vv_bipush 182 rfl (118) (118 : Int32) (by decide +kernel) (by decide) ?_
  refine vv_iast 183 rfl 1 (by decide +kernel) rfl (by decide) (fun f31 ef31 => ?_)
  refine vv_w (w1 := [(h0, .inr (8, [.null, .int 0, .null, .int 0, .null, .int 0, .int 0, .int 0, .int 0, .int 0, .int 0, .null, .null, .int 0, .int 0, .int 0, .int 0, .int 0, .int 0, .int 0, .int 0, .null, .null, .int 0, .int 0])), (q1, .inl (ca 0, 89, .inl f31))]) rfl ?_
  refine vv_dup 184 rfl (by decide +kernel) rfl ?_
  refine vv_bipush 186 rfl (30) (30 : Int32) (by decide +kernel) (by decide) ?_
  refine vv_sipush 189 rfl (130) (130 : Int32) (by decide +kernel) (by decide) ?_
  refine vv_iast 190 rfl 1 (by decide +kernel) rfl (by decide) (fun f32 ef32 => ?_)
  refine vv_w (w1 := [(h0, .inr (8, [.null, .int 0, .null, .int 0, .null, .int 0, .int 0, .int 0, .int 0, .int 0, .int 0, .null, .null, .int 0, .int 0, .int 0, .int 0, .int 0, .int 0, .int 0, .int 0, .null, .null, .int 0, .int 0])), (q1, .inl (ca 0, 89, .inl f32))]) rfl ?_
  refine vv_dup 191 rfl (by decide +kernel) rfl ?_
  refine vv_bipush 193 rfl (31) (31 : Int32) (by decide +kernel) (by decide) ?_
  refine vv_sipush 196 rfl (143) (143 : Int32) (by decide +kernel) (by decide) ?_
  refine vv_iast 197 rfl 1 (by decide +kernel) rfl (by decide) (fun f33 ef33 => ?_)
  refine vv_w (w1 := [(h0, .inr (8, [.null, .int 0, .null, .int 0, .null, .int 0, .int 0, .int 0, .int 0, .int 0, .int 0, .null, .null, .int 0, .int 0, .int 0, .int 0, .int 0, .int 0, .int 0, .int 0, .null, .null, .int 0, .int 0])), (q1, .inl (ca 0, 89, .inl f33))]) rfl ?_
  refine vv_dup 198 rfl (by decide +kernel) rfl ?_
  refine vv_bipush 200 rfl (32) (32 : Int32) (by decide +kernel) (by decide) ?_
  refine vv_sipush 203 rfl (157) (157 : Int32) (by decide +kernel) (by decide) ?_
  refine vv_iast 204 rfl 1 (by decide +kernel) rfl (by decide) (fun f34 ef34 => ?_)
  refine vv_w (w1 := [(h0, .inr (8, [.null, .int 0, .null, .int 0, .null, .int 0, .int 0, .int 0, .int 0, .int 0, .int 0, .null, .null, .int 0, .int 0, .int 0, .int 0, .int 0, .int 0, .int 0, .int 0, .null, .null, .int 0, .int 0])), (q1, .inl (ca 0, 89, .inl f34))]) rfl ?_
  refine vv_dup 205 rfl (by decide +kernel) rfl ?_
  refine vv_bipush 207 rfl (33) (33 : Int32) (by decide +kernel) (by decide) ?_
  refine vv_sipush 210 rfl (173) (173 : Int32) (by decide +kernel) (by decide) ?_
  refine vv_iast 211 rfl 1 (by decide +kernel) rfl (by decide) (fun f35 ef35 => ?_)
  refine vv_w (w1 := [(h0, .inr (8, [.null, .int 0, .null, .int 0, .null, .int 0, .int 0, .int 0, .int 0, .int 0, .int 0, .null, .null, .int 0, .int 0, .int 0, .int 0, .int 0, .int 0, .int 0, .int 0, .null, .null, .int 0, .int 0])), (q1, .inl (ca 0, 89, .inl f35))]) rfl ?_
  refine vv_dup 212 rfl (by decide +kernel) rfl ?_
  refine vv_bipush 214 rfl (34) (34 : Int32) (by decide +kernel) (by decide) ?_
  refine vv_sipush 217 rfl (190) (190 : Int32) (by decide +kernel) (by decide) ?_
  refine vv_iast 218 rfl 1 (by decide +kernel) rfl (by decide) (fun f36 ef36 => ?_)
  refine vv_w (w1 := [(h0, .inr (8, [.null, .int 0, .null, .int 0, .null, .int 0, .int 0, .int 0, .int 0, .int 0, .int 0, .null, .null, .int 0, .int 0, .int 0, .int 0, .int 0, .int 0, .int 0, .int 0, .null, .null, .int 0, .int 0])), (q1, .inl (ca 0, 89, .inl f36))]) rfl ?_
  refine vv_dup 219 rfl (by decide +kernel) rfl ?_
  refine vv_bipush 221 rfl (35) (35 : Int32) (by decide +kernel) (by decide) ?_
  refine vv_sipush 224 rfl (209) (209 : Int32) (by decide +kernel) (by decide) ?_
  refine vv_iast 225 rfl 1 (by decide +kernel) rfl (by decide) (fun f37 ef37 => ?_)
  refine vv_w (w1 := [(h0, .inr (8, [.null, .int 0, .null, .int 0, .null, .int 0, .int 0, .int 0, .int 0, .int 0, .int 0, .null, .null, .int 0, .int 0, .int 0, .int 0, .int 0, .int 0, .int 0, .int 0, .null, .null, .int 0, .int 0])), (q1, .inl (ca 0, 89, .inl f37))]) rfl ?_
  refine vv_dup 226 rfl (by decide +kernel) rfl ?_
  refine vv_bipush 228 rfl (36) (36 : Int32) (by decide +kernel) (by decide) ?_
  refine vv_sipush 231 rfl (230) (230 : Int32) (by decide +kernel) (by decide) ?_
  refine vv_iast 232 rfl 1 (by decide +kernel) rfl (by decide) (fun f38 ef38 => ?_)
  refine vv_w (w1 := [(h0, .inr (8, [.null, .int 0, .null, .int 0, .null, .int 0, .int 0, .int 0, .int 0, .int 0, .int 0, .null, .null, .int 0, .int 0, .int 0, .int 0, .int 0, .int 0, .int 0, .int 0, .null, .null, .int 0, .int 0])), (q1, .inl (ca 0, 89, .inl f38))]) rfl ?_
  refine vv_dup 233 rfl (by decide +kernel) rfl ?_
  refine vv_bipush 235 rfl (37) (37 : Int32) (by decide +kernel) (by decide) ?_
  refine vv_sipush 238 rfl (253) (253 : Int32) (by decide +kernel) (by decide) ?_
  refine vv_iast 239 rfl 1 (by decide +kernel) rfl (by decide) (fun f39 ef39 => ?_)
  refine vv_w (w1 := [(h0, .inr (8, [.null, .int 0, .null, .int 0, .null, .int 0, .int 0, .int 0, .int 0, .int 0, .int 0, .null, .null, .int 0, .int 0, .int 0, .int 0, .int 0, .int 0, .int 0, .int 0, .null, .null, .int 0, .int 0])), (q1, .inl (ca 0, 89, .inl f39))]) rfl ?_
  refine vv_dup 240 rfl (by decide +kernel) rfl ?_
  refine vv_bipush 242 rfl (38) (38 : Int32) (by decide +kernel) (by decide) ?_
  refine vv_sipush 245 rfl (279) (279 : Int32) (by decide +kernel) (by decide) ?_
  refine vv_iast 246 rfl 1 (by decide +kernel) rfl (by decide) (fun f40 ef40 => ?_)
  refine vv_w (w1 := [(h0, .inr (8, [.null, .int 0, .null, .int 0, .null, .int 0, .int 0, .int 0, .int 0, .int 0, .int 0, .null, .null, .int 0, .int 0, .int 0, .int 0, .int 0, .int 0, .int 0, .int 0, .null, .null, .int 0, .int 0])), (q1, .inl (ca 0, 89, .inl f40))]) rfl ?_
  refine vv_dup 247 rfl (by decide +kernel) rfl ?_
  refine vv_bipush 249 rfl (39) (39 : Int32) (by decide +kernel) (by decide) ?_
  refine vv_sipush 252 rfl (307) (307 : Int32) (by decide +kernel) (by decide) ?_
  refine vv_iast 253 rfl 1 (by decide +kernel) rfl (by decide) (fun f41 ef41 => ?_)
  refine vv_w (w1 := [(h0, .inr (8, [.null, .int 0, .null, .int 0, .null, .int 0, .int 0, .int 0, .int 0, .int 0, .int 0, .null, .null, .int 0, .int 0, .int 0, .int 0, .int 0, .int 0, .int 0, .int 0, .null, .null, .int 0, .int 0])), (q1, .inl (ca 0, 89, .inl f41))]) rfl ?_
  refine vv_dup 254 rfl (by decide +kernel) rfl ?_
  refine vv_bipush 256 rfl (40) (40 : Int32) (by decide +kernel) (by decide) ?_
  refine vv_sipush 259 rfl (337) (337 : Int32) (by decide +kernel) (by decide) ?_
  refine vv_iast 260 rfl 1 (by decide +kernel) rfl (by decide) (fun f42 ef42 => ?_)
  refine vv_w (w1 := [(h0, .inr (8, [.null, .int 0, .null, .int 0, .null, .int 0, .int 0, .int 0, .int 0, .int 0, .int 0, .null, .null, .int 0, .int 0, .int 0, .int 0, .int 0, .int 0, .int 0, .int 0, .null, .null, .int 0, .int 0])), (q1, .inl (ca 0, 89, .inl f42))]) rfl ?_
  refine vv_dup 261 rfl (by decide +kernel) rfl ?_
  refine vv_bipush 263 rfl (41) (41 : Int32) (by decide +kernel) (by decide) ?_
  refine vv_sipush 266 rfl (371) (371 : Int32) (by decide +kernel) (by decide) ?_
  refine vv_iast 267 rfl 1 (by decide +kernel) rfl (by decide) (fun f43 ef43 => ?_)
  refine vv_w (w1 := [(h0, .inr (8, [.null, .int 0, .null, .int 0, .null, .int 0, .int 0, .int 0, .int 0, .int 0, .int 0, .null, .null, .int 0, .int 0, .int 0, .int 0, .int 0, .int 0, .int 0, .int 0, .null, .null, .int 0, .int 0])), (q1, .inl (ca 0, 89, .inl f43))]) rfl ?_
  refine vv_dup 268 rfl (by decide +kernel) rfl ?_
  refine vv_bipush 270 rfl (42) (42 : Int32) (by decide +kernel) (by decide) ?_
  refine vv_sipush 273 rfl (408) (408 : Int32) (by decide +kernel) (by decide) ?_
  refine vv_iast 274 rfl 1 (by decide +kernel) rfl (by decide) (fun f44 ef44 => ?_)
  refine vv_w (w1 := [(h0, .inr (8, [.null, .int 0, .null, .int 0, .null, .int 0, .int 0, .int 0, .int 0, .int 0, .int 0, .null, .null, .int 0, .int 0, .int 0, .int 0, .int 0, .int 0, .int 0, .int 0, .null, .null, .int 0, .int 0])), (q1, .inl (ca 0, 89, .inl f44))]) rfl ?_
  refine vv_dup 275 rfl (by decide +kernel) rfl ?_
  refine vv_bipush 277 rfl (43) (43 : Int32) (by decide +kernel) (by decide) ?_
  refine vv_sipush 280 rfl (449) (449 : Int32) (by decide +kernel) (by decide) ?_
  refine vv_iast 281 rfl 1 (by decide +kernel) rfl (by decide) (fun f45 ef45 => ?_)
  refine vv_w (w1 := [(h0, .inr (8, [.null, .int 0, .null, .int 0, .null, .int 0, .int 0, .int 0, .int 0, .int 0, .int 0, .null, .null, .int 0, .int 0, .int 0, .int 0, .int 0, .int 0, .int 0, .int 0, .null, .null, .int 0, .int 0])), (q1, .inl (ca 0, 89, .inl f45))]) rfl ?_
  refine vv_dup 282 rfl (by decide +kernel) rfl ?_
  refine vv_bipush 284 rfl (44) (44 : Int32) (by decide +kernel) (by decide) ?_
  refine vv_sipush 287 rfl (494) (494 : Int32) (by decide +kernel) (by decide) ?_
  refine vv_iast 288 rfl 1 (by decide +kernel) rfl (by decide) (fun f46 ef46 => ?_)
  refine vv_w (w1 := [(h0, .inr (8, [.null, .int 0, .null, .int 0, .null, .int 0, .int 0, .int 0, .int 0, .int 0, .int 0, .null, .null, .int 0, .int 0, .int 0, .int 0, .int 0, .int 0, .int 0, .int 0, .null, .null, .int 0, .int 0])), (q1, .inl (ca 0, 89, .inl f46))]) rfl ?_
  refine vv_dup 289 rfl (by decide +kernel) rfl ?_
  refine vv_bipush 291 rfl (45) (45 : Int32) (by decide +kernel) (by decide) ?_
  refine vv_sipush 294 rfl (544) (544 : Int32) (by decide +kernel) (by decide) ?_
  refine vv_iast 295 rfl 1 (by decide +kernel) rfl (by decide) (fun f47 ef47 => ?_)
  refine vv_w (w1 := [(h0, .inr (8, [.null, .int 0, .null, .int 0, .null, .int 0, .int 0, .int 0, .int 0, .int 0, .int 0, .null, .null, .int 0, .int 0, .int 0, .int 0, .int 0, .int 0, .int 0, .int 0, .null, .null, .int 0, .int 0])), (q1, .inl (ca 0, 89, .inl f47))]) rfl ?_
  refine vv_dup 296 rfl (by decide +kernel) rfl ?_
  refine vv_bipush 298 rfl (46) (46 : Int32) (by decide +kernel) (by decide) ?_
  refine vv_sipush 301 rfl (598) (598 : Int32) (by decide +kernel) (by decide) ?_
  refine vv_iast 302 rfl 1 (by decide +kernel) rfl (by decide) (fun f48 ef48 => ?_)
  refine vv_w (w1 := [(h0, .inr (8, [.null, .int 0, .null, .int 0, .null, .int 0, .int 0, .int 0, .int 0, .int 0, .int 0, .null, .null, .int 0, .int 0, .int 0, .int 0, .int 0, .int 0, .int 0, .int 0, .null, .null, .int 0, .int 0])), (q1, .inl (ca 0, 89, .inl f48))]) rfl ?_
  refine vv_dup 303 rfl (by decide +kernel) rfl ?_
  refine vv_bipush 305 rfl (47) (47 : Int32) (by decide +kernel) (by decide) ?_
  refine vv_sipush 308 rfl (658) (658 : Int32) (by decide +kernel) (by decide) ?_
  refine vv_iast 309 rfl 1 (by decide +kernel) rfl (by decide) (fun f49 ef49 => ?_)
  refine vv_w (w1 := [(h0, .inr (8, [.null, .int 0, .null, .int 0, .null, .int 0, .int 0, .int 0, .int 0, .int 0, .int 0, .null, .null, .int 0, .int 0, .int 0, .int 0, .int 0, .int 0, .int 0, .int 0, .null, .null, .int 0, .int 0])), (q1, .inl (ca 0, 89, .inl f49))]) rfl ?_
  refine vv_dup 310 rfl (by decide +kernel) rfl ?_
  refine vv_bipush 312 rfl (48) (48 : Int32) (by decide +kernel) (by decide) ?_
  refine vv_sipush 315 rfl (724) (724 : Int32) (by decide +kernel) (by decide) ?_
  refine vv_iast 316 rfl 1 (by decide +kernel) rfl (by decide) (fun f50 ef50 => ?_)
  refine vv_w (w1 := [(h0, .inr (8, [.null, .int 0, .null, .int 0, .null, .int 0, .int 0, .int 0, .int 0, .int 0, .int 0, .null, .null, .int 0, .int 0, .int 0, .int 0, .int 0, .int 0, .int 0, .int 0, .null, .null, .int 0, .int 0])), (q1, .inl (ca 0, 89, .inl f50))]) rfl ?_
  refine vv_dup 317 rfl (by decide +kernel) rfl ?_
  refine vv_bipush 319 rfl (49) (49 : Int32) (by decide +kernel) (by decide) ?_
  refine vv_sipush 322 rfl (796) (796 : Int32) (by decide +kernel) (by decide) ?_
  refine vv_iast 323 rfl 1 (by decide +kernel) rfl (by decide) (fun f51 ef51 => ?_)
  refine vv_w (w1 := [(h0, .inr (8, [.null, .int 0, .null, .int 0, .null, .int 0, .int 0, .int 0, .int 0, .int 0, .int 0, .null, .null, .int 0, .int 0, .int 0, .int 0, .int 0, .int 0, .int 0, .int 0, .null, .null, .int 0, .int 0])), (q1, .inl (ca 0, 89, .inl f51))]) rfl ?_
  refine vv_dup 324 rfl (by decide +kernel) rfl ?_
  refine vv_bipush 326 rfl (50) (50 : Int32) (by decide +kernel) (by decide) ?_
  refine vv_sipush 329 rfl (876) (876 : Int32) (by decide +kernel) (by decide) ?_
  refine vv_iast 330 rfl 1 (by decide +kernel) rfl (by decide) (fun f52 ef52 => ?_)
  refine vv_w (w1 := [(h0, .inr (8, [.null, .int 0, .null, .int 0, .null, .int 0, .int 0, .int 0, .int 0, .int 0, .int 0, .null, .null, .int 0, .int 0, .int 0, .int 0, .int 0, .int 0, .int 0, .int 0, .null, .null, .int 0, .int 0])), (q1, .inl (ca 0, 89, .inl f52))]) rfl ?_
  refine vv_dup 331 rfl (by decide +kernel) rfl ?_
  refine vv_bipush 333 rfl (51) (51 : Int32) (by decide +kernel) (by decide) ?_
  refine vv_sipush 336 rfl (963) (963 : Int32) (by decide +kernel) (by decide) ?_
  refine vv_iast 337 rfl 1 (by decide +kernel) rfl (by decide) (fun f53 ef53 => ?_)
  refine vv_w (w1 := [(h0, .inr (8, [.null, .int 0, .null, .int 0, .null, .int 0, .int 0, .int 0, .int 0, .int 0, .int 0, .null, .null, .int 0, .int 0, .int 0, .int 0, .int 0, .int 0, .int 0, .int 0, .null, .null, .int 0, .int 0])), (q1, .inl (ca 0, 89, .inl f53))]) rfl ?_
  refine vv_dup 338 rfl (by decide +kernel) rfl ?_
  refine vv_bipush 340 rfl (52) (52 : Int32) (by decide +kernel) (by decide) ?_
  refine vv_sipush 343 rfl (1060) (1060 : Int32) (by decide +kernel) (by decide) ?_
  refine vv_iast 344 rfl 1 (by decide +kernel) rfl (by decide) (fun f54 ef54 => ?_)
  refine vv_w (w1 := [(h0, .inr (8, [.null, .int 0, .null, .int 0, .null, .int 0, .int 0, .int 0, .int 0, .int 0, .int 0, .null, .null, .int 0, .int 0, .int 0, .int 0, .int 0, .int 0, .int 0, .int 0, .null, .null, .int 0, .int 0])), (q1, .inl (ca 0, 89, .inl f54))]) rfl ?_
  refine vv_dup 345 rfl (by decide +kernel) rfl ?_
  refine vv_bipush 347 rfl (53) (53 : Int32) (by decide +kernel) (by decide) ?_
  refine vv_sipush 350 rfl (1166) (1166 : Int32) (by decide +kernel) (by decide) ?_
  refine vv_iast 351 rfl 1 (by decide +kernel) rfl (by decide) (fun f55 ef55 => ?_)
  refine vv_w (w1 := [(h0, .inr (8, [.null, .int 0, .null, .int 0, .null, .int 0, .int 0, .int 0, .int 0, .int 0, .int 0, .null, .null, .int 0, .int 0, .int 0, .int 0, .int 0, .int 0, .int 0, .int 0, .null, .null, .int 0, .int 0])), (q1, .inl (ca 0, 89, .inl f55))]) rfl ?_
  refine vv_dup 352 rfl (by decide +kernel) rfl ?_
  refine vv_bipush 354 rfl (54) (54 : Int32) (by decide +kernel) (by decide) ?_
  refine vv_sipush 357 rfl (1282) (1282 : Int32) (by decide +kernel) (by decide) ?_
  refine vv_iast 358 rfl 1 (by decide +kernel) rfl (by decide) (fun f56 ef56 => ?_)
  refine vv_w (w1 := [(h0, .inr (8, [.null, .int 0, .null, .int 0, .null, .int 0, .int 0, .int 0, .int 0, .int 0, .int 0, .null, .null, .int 0, .int 0, .int 0, .int 0, .int 0, .int 0, .int 0, .int 0, .null, .null, .int 0, .int 0])), (q1, .inl (ca 0, 89, .inl f56))]) rfl ?_
  refine vv_dup 359 rfl (by decide +kernel) rfl ?_
  refine vv_bipush 361 rfl (55) (55 : Int32) (by decide +kernel) (by decide) ?_
  refine vv_sipush 364 rfl (1411) (1411 : Int32) (by decide +kernel) (by decide) ?_
  refine vv_iast 365 rfl 1 (by decide +kernel) rfl (by decide) (fun f57 ef57 => ?_)
  refine vv_w (w1 := [(h0, .inr (8, [.null, .int 0, .null, .int 0, .null, .int 0, .int 0, .int 0, .int 0, .int 0, .int 0, .null, .null, .int 0, .int 0, .int 0, .int 0, .int 0, .int 0, .int 0, .int 0, .null, .null, .int 0, .int 0])), (q1, .inl (ca 0, 89, .inl f57))]) rfl ?_
  refine vv_dup 366 rfl (by decide +kernel) rfl ?_
  refine vv_bipush 368 rfl (56) (56 : Int32) (by decide +kernel) (by decide) ?_
  refine vv_sipush 371 rfl (1552) (1552 : Int32) (by decide +kernel) (by decide) ?_
  refine vv_iast 372 rfl 1 (by decide +kernel) rfl (by decide) (fun f58 ef58 => ?_)
  refine vv_w (w1 := [(h0, .inr (8, [.null, .int 0, .null, .int 0, .null, .int 0, .int 0, .int 0, .int 0, .int 0, .int 0, .null, .null, .int 0, .int 0, .int 0, .int 0, .int 0, .int 0, .int 0, .int 0, .null, .null, .int 0, .int 0])), (q1, .inl (ca 0, 89, .inl f58))]) rfl ?_
  refine vv_dup 373 rfl (by decide +kernel) rfl ?_
  refine vv_bipush 375 rfl (57) (57 : Int32) (by decide +kernel) (by decide) ?_
  refine vv_sipush 378 rfl (1707) (1707 : Int32) (by decide +kernel) (by decide) ?_
  refine vv_iast 379 rfl 1 (by decide +kernel) rfl (by decide) (fun f59 ef59 => ?_)
  refine vv_w (w1 := [(h0, .inr (8, [.null, .int 0, .null, .int 0, .null, .int 0, .int 0, .int 0, .int 0, .int 0, .int 0, .null, .null, .int 0, .int 0, .int 0, .int 0, .int 0, .int 0, .int 0, .int 0, .null, .null, .int 0, .int 0])), (q1, .inl (ca 0, 89, .inl f59))]) rfl ?_
  refine vv_dup 380 rfl (by decide +kernel) rfl ?_
  refine vv_bipush 382 rfl (58) (58 : Int32) (by decide +kernel) (by decide) ?_
  refine vv_sipush 385 rfl (1878) (1878 : Int32) (by decide +kernel) (by decide) ?_
  refine vv_iast 386 rfl 1 (by decide +kernel) rfl (by decide) (fun f60 ef60 => ?_)
  refine vv_w (w1 := [(h0, .inr (8, [.null, .int 0, .null, .int 0, .null, .int 0, .int 0, .int 0, .int 0, .int 0, .int 0, .null, .null, .int 0, .int 0, .int 0, .int 0, .int 0, .int 0, .int 0, .int 0, .null, .null, .int 0, .int 0])), (q1, .inl (ca 0, 89, .inl f60))]) rfl ?_
  refine vv_dup 387 rfl (by decide +kernel) rfl ?_
  refine vv_bipush 389 rfl (59) (59 : Int32) (by decide +kernel) (by decide) ?_
  refine vv_sipush 392 rfl (2066) (2066 : Int32) (by decide +kernel) (by decide) ?_
  refine vv_iast 393 rfl 1 (by decide +kernel) rfl (by decide) (fun f61 ef61 => ?_)
  refine vv_w (w1 := [(h0, .inr (8, [.null, .int 0, .null, .int 0, .null, .int 0, .int 0, .int 0, .int 0, .int 0, .int 0, .null, .null, .int 0, .int 0, .int 0, .int 0, .int 0, .int 0, .int 0, .int 0, .null, .null, .int 0, .int 0])), (q1, .inl (ca 0, 89, .inl f61))]) rfl ?_
  refine vv_dup 394 rfl (by decide +kernel) rfl ?_
  refine vv_bipush 396 rfl (60) (60 : Int32) (by decide +kernel) (by decide) ?_
  refine vv_sipush 399 rfl (2272) (2272 : Int32) (by decide +kernel) (by decide) ?_
  refine vv_iast 400 rfl 1 (by decide +kernel) rfl (by decide) (fun f62 ef62 => ?_)
  refine vv_w (w1 := [(h0, .inr (8, [.null, .int 0, .null, .int 0, .null, .int 0, .int 0, .int 0, .int 0, .int 0, .int 0, .null, .null, .int 0, .int 0, .int 0, .int 0, .int 0, .int 0, .int 0, .int 0, .null, .null, .int 0, .int 0])), (q1, .inl (ca 0, 89, .inl f62))]) rfl ?_
  refine vv_dup 401 rfl (by decide +kernel) rfl ?_
  refine vv_bipush 403 rfl (61) (61 : Int32) (by decide +kernel) (by decide) ?_
  refine vv_sipush 406 rfl (2499) (2499 : Int32) (by decide +kernel) (by decide) ?_
  refine vv_iast 407 rfl 1 (by decide +kernel) rfl (by decide) (fun f63 ef63 => ?_)
  refine vv_w (w1 := [(h0, .inr (8, [.null, .int 0, .null, .int 0, .null, .int 0, .int 0, .int 0, .int 0, .int 0, .int 0, .null, .null, .int 0, .int 0, .int 0, .int 0, .int 0, .int 0, .int 0, .int 0, .null, .null, .int 0, .int 0])), (q1, .inl (ca 0, 89, .inl f63))]) rfl ?_
  refine vv_dup 408 rfl (by decide +kernel) rfl ?_
  refine vv_bipush 410 rfl (62) (62 : Int32) (by decide +kernel) (by decide) ?_
  refine vv_sipush 413 rfl (2749) (2749 : Int32) (by decide +kernel) (by decide) ?_
  refine vv_iast 414 rfl 1 (by decide +kernel) rfl (by decide) (fun f64 ef64 => ?_)
  refine vv_w (w1 := [(h0, .inr (8, [.null, .int 0, .null, .int 0, .null, .int 0, .int 0, .int 0, .int 0, .int 0, .int 0, .null, .null, .int 0, .int 0, .int 0, .int 0, .int 0, .int 0, .int 0, .int 0, .null, .null, .int 0, .int 0])), (q1, .inl (ca 0, 89, .inl f64))]) rfl ?_
  refine vv_dup 415 rfl (by decide +kernel) rfl ?_
  refine vv_bipush 417 rfl (63) (63 : Int32) (by decide +kernel) (by decide) ?_
  refine vv_sipush 420 rfl (3024) (3024 : Int32) (by decide +kernel) (by decide) ?_
  refine vv_iast 421 rfl 1 (by decide +kernel) rfl (by decide) (fun f65 ef65 => ?_)
  refine vv_w (w1 := [(h0, .inr (8, [.null, .int 0, .null, .int 0, .null, .int 0, .int 0, .int 0, .int 0, .int 0, .int 0, .null, .null, .int 0, .int 0, .int 0, .int 0, .int 0, .int 0, .int 0, .int 0, .null, .null, .int 0, .int 0])), (q1, .inl (ca 0, 89, .inl f65))]) rfl ?_
  refine vv_dup 422 rfl (by decide +kernel) rfl ?_
  refine vv_bipush 424 rfl (64) (64 : Int32) (by decide +kernel) (by decide) ?_
  refine vv_sipush 427 rfl (3327) (3327 : Int32) (by decide +kernel) (by decide) ?_
  refine vv_iast 428 rfl 1 (by decide +kernel) rfl (by decide) (fun f66 ef66 => ?_)
  refine vv_w (w1 := [(h0, .inr (8, [.null, .int 0, .null, .int 0, .null, .int 0, .int 0, .int 0, .int 0, .int 0, .int 0, .null, .null, .int 0, .int 0, .int 0, .int 0, .int 0, .int 0, .int 0, .int 0, .null, .null, .int 0, .int 0])), (q1, .inl (ca 0, 89, .inl f66))]) rfl ?_
  refine vv_dup 429 rfl (by decide +kernel) rfl ?_
  refine vv_bipush 431 rfl (65) (65 : Int32) (by decide +kernel) (by decide) ?_
  refine vv_sipush 434 rfl (3660) (3660 : Int32) (by decide +kernel) (by decide) ?_
  refine vv_iast 435 rfl 1 (by decide +kernel) rfl (by decide) (fun f67 ef67 => ?_)
  refine vv_w (w1 := [(h0, .inr (8, [.null, .int 0, .null, .int 0, .null, .int 0, .int 0, .int 0, .int 0, .int 0, .int 0, .null, .null, .int 0, .int 0, .int 0, .int 0, .int 0, .int 0, .int 0, .int 0, .null, .null, .int 0, .int 0])), (q1, .inl (ca 0, 89, .inl f67))]) rfl ?_
  refine vv_dup 436 rfl (by decide +kernel) rfl ?_
  refine vv_bipush 438 rfl (66) (66 : Int32) (by decide +kernel) (by decide) ?_
  refine vv_sipush 441 rfl (4026) (4026 : Int32) (by decide +kernel) (by decide) ?_
  refine vv_iast 442 rfl 1 (by decide +kernel) rfl (by decide) (fun f68 ef68 => ?_)
  refine vv_w (w1 := [(h0, .inr (8, [.null, .int 0, .null, .int 0, .null, .int 0, .int 0, .int 0, .int 0, .int 0, .int 0, .null, .null, .int 0, .int 0, .int 0, .int 0, .int 0, .int 0, .int 0, .int 0, .null, .null, .int 0, .int 0])), (q1, .inl (ca 0, 89, .inl f68))]) rfl ?_
  refine vv_dup 443 rfl (by decide +kernel) rfl ?_
  refine vv_bipush 445 rfl (67) (67 : Int32) (by decide +kernel) (by decide) ?_
  refine vv_sipush 448 rfl (4428) (4428 : Int32) (by decide +kernel) (by decide) ?_
  refine vv_iast 449 rfl 1 (by decide +kernel) rfl (by decide) (fun f69 ef69 => ?_)
  refine vv_w (w1 := [(h0, .inr (8, [.null, .int 0, .null, .int 0, .null, .int 0, .int 0, .int 0, .int 0, .int 0, .int 0, .null, .null, .int 0, .int 0, .int 0, .int 0, .int 0, .int 0, .int 0, .int 0, .null, .null, .int 0, .int 0])), (q1, .inl (ca 0, 89, .inl f69))]) rfl ?_
  refine vv_dup 450 rfl (by decide +kernel) rfl ?_
  refine vv_bipush 452 rfl (68) (68 : Int32) (by decide +kernel) (by decide) ?_
  refine vv_sipush 455 rfl (4871) (4871 : Int32) (by decide +kernel) (by decide) ?_
  refine vv_iast 456 rfl 1 (by decide +kernel) rfl (by decide) (fun f70 ef70 => ?_)
  refine vv_w (w1 := [(h0, .inr (8, [.null, .int 0, .null, .int 0, .null, .int 0, .int 0, .int 0, .int 0, .int 0, .int 0, .null, .null, .int 0, .int 0, .int 0, .int 0, .int 0, .int 0, .int 0, .int 0, .null, .null, .int 0, .int 0])), (q1, .inl (ca 0, 89, .inl f70))]) rfl ?_
  refine vv_dup 457 rfl (by decide +kernel) rfl ?_
  refine vv_bipush 459 rfl (69) (69 : Int32) (by decide +kernel) (by decide) ?_
  refine vv_sipush 462 rfl (5358) (5358 : Int32) (by decide +kernel) (by decide) ?_
  refine vv_iast 463 rfl 1 (by decide +kernel) rfl (by decide) (fun f71 ef71 => ?_)
  refine vv_w (w1 := [(h0, .inr (8, [.null, .int 0, .null, .int 0, .null, .int 0, .int 0, .int 0, .int 0, .int 0, .int 0, .null, .null, .int 0, .int 0, .int 0, .int 0, .int 0, .int 0, .int 0, .int 0, .null, .null, .int 0, .int 0])), (q1, .inl (ca 0, 89, .inl f71))]) rfl ?_
  refine vv_dup 464 rfl (by decide +kernel) rfl ?_
  refine vv_bipush 466 rfl (70) (70 : Int32) (by decide +kernel) (by decide) ?_
  refine vv_sipush 469 rfl (5894) (5894 : Int32) (by decide +kernel) (by decide) ?_
  refine vv_iast 470 rfl 1 (by decide +kernel) rfl (by decide) (fun f72 ef72 => ?_)
  refine vv_w (w1 := [(h0, .inr (8, [.null, .int 0, .null, .int 0, .null, .int 0, .int 0, .int 0, .int 0, .int 0, .int 0, .null, .null, .int 0, .int 0, .int 0, .int 0, .int 0, .int 0, .int 0, .int 0, .null, .null, .int 0, .int 0])), (q1, .inl (ca 0, 89, .inl f72))]) rfl ?_
  refine vv_dup 471 rfl (by decide +kernel) rfl ?_
  refine vv_bipush 473 rfl (71) (71 : Int32) (by decide +kernel) (by decide) ?_
  refine vv_sipush 476 rfl (6484) (6484 : Int32) (by decide +kernel) (by decide) ?_
  refine vv_iast 477 rfl 1 (by decide +kernel) rfl (by decide) (fun f73 ef73 => ?_)
  refine vv_w (w1 := [(h0, .inr (8, [.null, .int 0, .null, .int 0, .null, .int 0, .int 0, .int 0, .int 0, .int 0, .int 0, .null, .null, .int 0, .int 0, .int 0, .int 0, .int 0, .int 0, .int 0, .int 0, .null, .null, .int 0, .int 0])), (q1, .inl (ca 0, 89, .inl f73))]) rfl ?_
  refine vv_dup 478 rfl (by decide +kernel) rfl ?_
  refine vv_bipush 480 rfl (72) (72 : Int32) (by decide +kernel) (by decide) ?_
  refine vv_sipush 483 rfl (7132) (7132 : Int32) (by decide +kernel) (by decide) ?_
  refine vv_iast 484 rfl 1 (by decide +kernel) rfl (by decide) (fun f74 ef74 => ?_)
  refine vv_w (w1 := [(h0, .inr (8, [.null, .int 0, .null, .int 0, .null, .int 0, .int 0, .int 0, .int 0, .int 0, .int 0, .null, .null, .int 0, .int 0, .int 0, .int 0, .int 0, .int 0, .int 0, .int 0, .null, .null, .int 0, .int 0])), (q1, .inl (ca 0, 89, .inl f74))]) rfl ?_
  refine vv_dup 485 rfl (by decide +kernel) rfl ?_
  refine vv_bipush 487 rfl (73) (73 : Int32) (by decide +kernel) (by decide) ?_
  refine vv_sipush 490 rfl (7845) (7845 : Int32) (by decide +kernel) (by decide) ?_
  refine vv_iast 491 rfl 1 (by decide +kernel) rfl (by decide) (fun f75 ef75 => ?_)
  refine vv_w (w1 := [(h0, .inr (8, [.null, .int 0, .null, .int 0, .null, .int 0, .int 0, .int 0, .int 0, .int 0, .int 0, .null, .null, .int 0, .int 0, .int 0, .int 0, .int 0, .int 0, .int 0, .int 0, .null, .null, .int 0, .int 0])), (q1, .inl (ca 0, 89, .inl f75))]) rfl ?_
  refine vv_dup 492 rfl (by decide +kernel) rfl ?_
  refine vv_bipush 494 rfl (74) (74 : Int32) (by decide +kernel) (by decide) ?_
  refine vv_sipush 497 rfl (8630) (8630 : Int32) (by decide +kernel) (by decide) ?_
  refine vv_iast 498 rfl 1 (by decide +kernel) rfl (by decide) (fun f76 ef76 => ?_)
  refine vv_w (w1 := [(h0, .inr (8, [.null, .int 0, .null, .int 0, .null, .int 0, .int 0, .int 0, .int 0, .int 0, .int 0, .null, .null, .int 0, .int 0, .int 0, .int 0, .int 0, .int 0, .int 0, .int 0, .null, .null, .int 0, .int 0])), (q1, .inl (ca 0, 89, .inl f76))]) rfl ?_
  refine vv_dup 499 rfl (by decide +kernel) rfl ?_
  refine vv_bipush 501 rfl (75) (75 : Int32) (by decide +kernel) (by decide) ?_
  refine vv_sipush 504 rfl (9493) (9493 : Int32) (by decide +kernel) (by decide) ?_
  refine vv_iast 505 rfl 1 (by decide +kernel) rfl (by decide) (fun f77 ef77 => ?_)
  refine vv_w (w1 := [(h0, .inr (8, [.null, .int 0, .null, .int 0, .null, .int 0, .int 0, .int 0, .int 0, .int 0, .int 0, .null, .null, .int 0, .int 0, .int 0, .int 0, .int 0, .int 0, .int 0, .int 0, .null, .null, .int 0, .int 0])), (q1, .inl (ca 0, 89, .inl f77))]) rfl ?_
  refine vv_dup 506 rfl (by decide +kernel) rfl ?_
  refine vv_bipush 508 rfl (76) (76 : Int32) (by decide +kernel) (by decide) ?_
  refine vv_sipush 511 rfl (10442) (10442 : Int32) (by decide +kernel) (by decide) ?_
  refine vv_iast 512 rfl 1 (by decide +kernel) rfl (by decide) (fun f78 ef78 => ?_)
  refine vv_w (w1 := [(h0, .inr (8, [.null, .int 0, .null, .int 0, .null, .int 0, .int 0, .int 0, .int 0, .int 0, .int 0, .null, .null, .int 0, .int 0, .int 0, .int 0, .int 0, .int 0, .int 0, .int 0, .null, .null, .int 0, .int 0])), (q1, .inl (ca 0, 89, .inl f78))]) rfl ?_
  refine vv_dup 513 rfl (by decide +kernel) rfl ?_
  refine vv_bipush 515 rfl (77) (77 : Int32) (by decide +kernel) (by decide) ?_
  refine vv_sipush 518 rfl (11487) (11487 : Int32) (by decide +kernel) (by decide) ?_
  refine vv_iast 519 rfl 1 (by decide +kernel) rfl (by decide) (fun f79 ef79 => ?_)
  refine vv_w (w1 := [(h0, .inr (8, [.null, .int 0, .null, .int 0, .null, .int 0, .int 0, .int 0, .int 0, .int 0, .int 0, .null, .null, .int 0, .int 0, .int 0, .int 0, .int 0, .int 0, .int 0, .int 0, .null, .null, .int 0, .int 0])), (q1, .inl (ca 0, 89, .inl f79))]) rfl ?_
  refine vv_dup 520 rfl (by decide +kernel) rfl ?_
  refine vv_bipush 522 rfl (78) (78 : Int32) (by decide +kernel) (by decide) ?_
  refine vv_sipush 525 rfl (12635) (12635 : Int32) (by decide +kernel) (by decide) ?_
  refine vv_iast 526 rfl 1 (by decide +kernel) rfl (by decide) (fun f80 ef80 => ?_)
  refine vv_w (w1 := [(h0, .inr (8, [.null, .int 0, .null, .int 0, .null, .int 0, .int 0, .int 0, .int 0, .int 0, .int 0, .null, .null, .int 0, .int 0, .int 0, .int 0, .int 0, .int 0, .int 0, .int 0, .null, .null, .int 0, .int 0])), (q1, .inl (ca 0, 89, .inl f80))]) rfl ?_
  refine vv_dup 527 rfl (by decide +kernel) rfl ?_
  refine vv_bipush 529 rfl (79) (79 : Int32) (by decide +kernel) (by decide) ?_
  refine vv_sipush 532 rfl (13899) (13899 : Int32) (by decide +kernel) (by decide) ?_
  refine vv_iast 533 rfl 1 (by decide +kernel) rfl (by decide) (fun f81 ef81 => ?_)
  refine vv_w (w1 := [(h0, .inr (8, [.null, .int 0, .null, .int 0, .null, .int 0, .int 0, .int 0, .int 0, .int 0, .int 0, .null, .null, .int 0, .int 0, .int 0, .int 0, .int 0, .int 0, .int 0, .int 0, .null, .null, .int 0, .int 0])), (q1, .inl (ca 0, 89, .inl f81))]) rfl ?_
  refine vv_dup 534 rfl (by decide +kernel) rfl ?_
  refine vv_bipush 536 rfl (80) (80 : Int32) (by decide +kernel) (by decide) ?_
  refine vv_sipush 539 rfl (15289) (15289 : Int32) (by decide +kernel) (by decide) ?_
  refine vv_iast 540 rfl 1 (by decide +kernel) rfl (by decide) (fun f82 ef82 => ?_)
  refine vv_w (w1 := [(h0, .inr (8, [.null, .int 0, .null, .int 0, .null, .int 0, .int 0, .int 0, .int 0, .int 0, .int 0, .null, .null, .int 0, .int 0, .int 0, .int 0, .int 0, .int 0, .int 0, .int 0, .null, .null, .int 0, .int 0])), (q1, .inl (ca 0, 89, .inl f82))]) rfl ?_
  refine vv_dup 541 rfl (by decide +kernel) rfl ?_
  refine vv_bipush 543 rfl (81) (81 : Int32) (by decide +kernel) (by decide) ?_
  refine vv_sipush 546 rfl (16818) (16818 : Int32) (by decide +kernel) (by decide) ?_
  refine vv_iast 547 rfl 1 (by decide +kernel) rfl (by decide) (fun f83 ef83 => ?_)
  refine vv_w (w1 := [(h0, .inr (8, [.null, .int 0, .null, .int 0, .null, .int 0, .int 0, .int 0, .int 0, .int 0, .int 0, .null, .null, .int 0, .int 0, .int 0, .int 0, .int 0, .int 0, .int 0, .int 0, .null, .null, .int 0, .int 0])), (q1, .inl (ca 0, 89, .inl f83))]) rfl ?_
  refine vv_dup 548 rfl (by decide +kernel) rfl ?_
  refine vv_bipush 550 rfl (82) (82 : Int32) (by decide +kernel) (by decide) ?_
  refine vv_sipush 553 rfl (18500) (18500 : Int32) (by decide +kernel) (by decide) ?_
  refine vv_iast 554 rfl 1 (by decide +kernel) rfl (by decide) (fun f84 ef84 => ?_)
  refine vv_w (w1 := [(h0, .inr (8, [.null, .int 0, .null, .int 0, .null, .int 0, .int 0, .int 0, .int 0, .int 0, .int 0, .null, .null, .int 0, .int 0, .int 0, .int 0, .int 0, .int 0, .int 0, .int 0, .null, .null, .int 0, .int 0])), (q1, .inl (ca 0, 89, .inl f84))]) rfl ?_
  refine vv_dup 555 rfl (by decide +kernel) rfl ?_
  refine vv_bipush 557 rfl (83) (83 : Int32) (by decide +kernel) (by decide) ?_
  refine vv_sipush 560 rfl (20350) (20350 : Int32) (by decide +kernel) (by decide) ?_
  refine vv_iast 561 rfl 1 (by decide +kernel) rfl (by decide) (fun f85 ef85 => ?_)
  refine vv_w (w1 := [(h0, .inr (8, [.null, .int 0, .null, .int 0, .null, .int 0, .int 0, .int 0, .int 0, .int 0, .int 0, .null, .null, .int 0, .int 0, .int 0, .int 0, .int 0, .int 0, .int 0, .int 0, .null, .null, .int 0, .int 0])), (q1, .inl (ca 0, 89, .inl f85))]) rfl ?_
  refine vv_dup 562 rfl (by decide +kernel) rfl ?_
  refine vv_bipush 564 rfl (84) (84 : Int32) (by decide +kernel) (by decide) ?_
  refine vv_sipush 567 rfl (22385) (22385 : Int32) (by decide +kernel) (by decide) ?_
  refine vv_iast 568 rfl 1 (by decide +kernel) rfl (by decide) (fun f86 ef86 => ?_)
  refine vv_w (w1 := [(h0, .inr (8, [.null, .int 0, .null, .int 0, .null, .int 0, .int 0, .int 0, .int 0, .int 0, .int 0, .null, .null, .int 0, .int 0, .int 0, .int 0, .int 0, .int 0, .int 0, .int 0, .null, .null, .int 0, .int 0])), (q1, .inl (ca 0, 89, .inl f86))]) rfl ?_
  refine vv_dup 569 rfl (by decide +kernel) rfl ?_
  refine vv_bipush 571 rfl (85) (85 : Int32) (by decide +kernel) (by decide) ?_
  refine vv_sipush 574 rfl (24623) (24623 : Int32) (by decide +kernel) (by decide) ?_
  refine vv_iast 575 rfl 1 (by decide +kernel) rfl (by decide) (fun f87 ef87 => ?_)
  refine vv_w (w1 := [(h0, .inr (8, [.null, .int 0, .null, .int 0, .null, .int 0, .int 0, .int 0, .int 0, .int 0, .int 0, .null, .null, .int 0, .int 0, .int 0, .int 0, .int 0, .int 0, .int 0, .int 0, .null, .null, .int 0, .int 0])), (q1, .inl (ca 0, 89, .inl f87))]) rfl ?_
  refine vv_dup 576 rfl (by decide +kernel) rfl ?_
  refine vv_bipush 578 rfl (86) (86 : Int32) (by decide +kernel) (by decide) ?_
  refine vv_sipush 581 rfl (27086) (27086 : Int32) (by decide +kernel) (by decide) ?_
  refine vv_iast 582 rfl 1 (by decide +kernel) rfl (by decide) (fun f88 ef88 => ?_)
  refine vv_w (w1 := [(h0, .inr (8, [.null, .int 0, .null, .int 0, .null, .int 0, .int 0, .int 0, .int 0, .int 0, .int 0, .null, .null, .int 0, .int 0, .int 0, .int 0, .int 0, .int 0, .int 0, .int 0, .null, .null, .int 0, .int 0])), (q1, .inl (ca 0, 89, .inl f88))]) rfl ?_
  refine vv_dup 583 rfl (by decide +kernel) rfl ?_
  refine vv_bipush 585 rfl (87) (87 : Int32) (by decide +kernel) (by decide) ?_
  refine vv_sipush 588 rfl (29794) (29794 : Int32) (by decide +kernel) (by decide) ?_
  refine vv_iast 589 rfl 1 (by decide +kernel) rfl (by decide) (fun f89 ef89 => ?_)
  refine vv_w (w1 := [(h0, .inr (8, [.null, .int 0, .null, .int 0, .null, .int 0, .int 0, .int 0, .int 0, .int 0, .int 0, .null, .null, .int 0, .int 0, .int 0, .int 0, .int 0, .int 0, .int 0, .int 0, .null, .null, .int 0, .int 0])), (q1, .inl (ca 0, 89, .inl f89))]) rfl ?_
  refine vv_dup 590 rfl (by decide +kernel) rfl ?_
  refine vv_bipush 592 rfl (88) (88 : Int32) (by decide +kernel) (by decide) ?_
  refine vv_sipush 595 rfl (32767) (32767 : Int32) (by decide +kernel) (by decide) ?_
  refine vv_iast 596 rfl 1 (by decide +kernel) rfl (by decide) (fun f90 ef90 => ?_)
  refine vv_w (w1 := [(h0, .inr (8, [.null, .int 0, .null, .int 0, .null, .int 0, .int 0, .int 0, .int 0, .int 0, .int 0, .null, .null, .int 0, .int 0, .int 0, .int 0, .int 0, .int 0, .int 0, .int 0, .null, .null, .int 0, .int 0])), (q1, .inl (ca 0, 89, .inl f90))]) rfl ?_
  refine vv_putF 599 rfl (w1 := [(h0, .inr (8, [.ref q1, .int 0, .null, .int 0, .null, .int 0, .int 0, .int 0, .int 0, .int 0, .int 0, .null, .null, .int 0, .int 0, .int 0, .int 0, .int 0, .int 0, .int 0, .int 0, .null, .null, .int 0, .int 0])), (q1, .inl (ca 0, 89, .inl f90))]) 8 0 7 0 (by decide +kernel) (by decide) (by decide) rfl k_Model_7 rfl rfl rfl (ty := .array .int) (by decide +kernel) rfl rfl (Nat.le_of_ble_eq_true rfl) rfl ?_
  refine vv_aload_0 600 rfl (by decide +kernel) ?_
  refine vv_bipush 602 rfl (64) (64 : Int32) (by decide +kernel) (by decide) ?_
  refine vv_newi 604 rfl 64 (by decide +kernel) ar_int (by decide) (by decide) (by decide) 2 153 rfl rfl ⟨Nat.le_of_ble_eq_true rfl, Nat.le_of_ble_eq_true rfl⟩ (fun q91 => ?_)
  refine vv_putF 607 rfl (w1 := [(h0, .inr (8, [.ref q1, .int 0, .ref q91, .int 0, .null, .int 0, .int 0, .int 0, .int 0, .int 0, .int 0, .null, .null, .int 0, .int 0, .int 0, .int 0, .int 0, .int 0, .int 0, .int 0, .null, .null, .int 0, .int 0])), (q1, .inl (ca 0, 89, .inl f90)), (q91, .inl (ca 0, 64, .inl (fun _ => 0)))]) 8 2 13 0 (by decide +kernel) (by decide) (by decide) rfl k_Model_13 rfl rfl rfl (ty := .array .int) (by decide +kernel) rfl rfl (Nat.le_of_ble_eq_true rfl) rfl ?_
  refine vv_aload_0 608 rfl (by decide +kernel) ?_
  refine vv_sipush 611 rfl (256) (256 : Int32) (by decide +kernel) (by decide) ?_
  refine vv_newi 613 rfl 256 (by decide +kernel) ar_int (by decide) (by decide) (by decide) 3 409 rfl rfl ⟨Nat.le_of_ble_eq_true rfl, Nat.le_of_ble_eq_true rfl⟩ (fun q92 => ?_)
  refine vv_putF 616 rfl (w1 := [(h0, .inr (8, [.ref q1, .int 0, .ref q91, .int 0, .ref q92, .int 0, .int 0, .int 0, .int 0, .int 0, .int 0, .null, .null, .int 0, .int 0, .int 0, .int 0, .int 0, .int 0, .int 0, .int 0, .null, .null, .int 0, .int 0])), (q1, .inl (ca 0, 89, .inl f90)), (q91, .inl (ca 0, 64, .inl (fun _ => 0))), (q92, .inl (ca 0, 256, .inl (fun _ => 0)))]) 8 4 16 0 (by decide +kernel) (by decide) (by decide) rfl k_Model_16 rfl rfl rfl (ty := .array .int) (by decide +kernel) rfl rfl (Nat.le_of_ble_eq_true rfl) rfl ?_
  refine vv_aload_0 617 rfl (by decide +kernel) ?_
  refine vv_bipush 619 rfl (16) (16 : Int32) (by decide +kernel) (by decide) ?_
  refine vv_newi 621 rfl 16 (by decide +kernel) ar_int (by decide) (by decide) (by decide) 4 425 rfl rfl ⟨Nat.le_of_ble_eq_true rfl, Nat.le_of_ble_eq_true rfl⟩ (fun q93 => ?_)
  refine vv_putF 624 rfl (w1 := [(h0, .inr (8, [.ref q1, .int 0, .ref q91, .int 0, .ref q92, .int 0, .int 0, .int 0, .int 0, .int 0, .int 0, .ref q93, .null, .int 0, .int 0, .int 0, .int 0, .int 0, .int 0, .int 0, .int 0, .null, .null, .int 0, .int 0])), (q1, .inl (ca 0, 89, .inl f90)), (q91, .inl (ca 0, 64, .inl (fun _ => 0))), (q92, .inl (ca 0, 256, .inl (fun _ => 0))), (q93, .inl (ca 0, 16, .inl (fun _ => 0)))]) 8 11 19 0 (by decide +kernel) (by decide) (by decide) rfl k_Model_19 rfl rfl rfl (ty := .array .int) (by decide +kernel) rfl rfl (Nat.le_of_ble_eq_true rfl) rfl ?_
  refine vv_aload_0 625 rfl (by decide +kernel) ?_
  refine vv_sipush 628 rfl (704) (704 : Int32) (by decide +kernel) (by decide) ?_
  refine vv_newi 630 rfl 704 (by decide +kernel) ar_int (by decide) (by decide) (by decide) 5 1129 rfl rfl ⟨Nat.le_of_ble_eq_true rfl, Nat.le_of_ble_eq_true rfl⟩ (fun q94 => ?_)
  refine vv_putF 633 rfl (w1 := [(h0, .inr (8, [.ref q1, .int 0, .ref q91, .int 0, .ref q92, .int 0, .int 0, .int 0, .int 0, .int 0, .int 0, .ref q93, .ref q94, .int 0, .int 0, .int 0, .int 0, .int 0, .int 0, .int 0, .int 0, .null, .null, .int 0, .int 0])), (q1, .inl (ca 0, 89, .inl f90)), (q91, .inl (ca 0, 64, .inl (fun _ => 0))), (q92, .inl (ca 0, 256, .inl (fun _ => 0))), (q93, .inl (ca 0, 16, .inl (fun _ => 0))), (q94, .inl (ca 0, 704, .inl (fun _ => 0)))]) 8 12 22 0 (by decide +kernel) (by decide) (by decide) rfl k_Model_22 rfl rfl rfl (ty := .array .int) (by decide +kernel) rfl rfl (Nat.le_of_ble_eq_true rfl) rfl ?_
  refine vv_aload_0 634 rfl (by decide +kernel) ?_
  refine vv_iconst 635 rfl (1) (1 : Int32) (by decide +kernel) (by decide) ?_
  refine vv_put 638 rfl (w1 := [(h0, .inr (8, [.ref q1, .int 0, .ref q91, .int 0, .ref q92, .int 0, .int 0, .int 0, .int 0, .int 0, .int 0, .ref q93, .ref q94, .int 0, .int 0, .int 0, .int (1 : Int32), .int 0, .int 0, .int 0, .int 0, .null, .null, .int 0, .int 0])), (q1, .inl (ca 0, 89, .inl f90)), (q91, .inl (ca 0, 64, .inl (fun _ => 0))), (q92, .inl (ca 0, 256, .inl (fun _ => 0))), (q93, .inl (ca 0, 16, .inl (fun _ => 0))), (q94, .inl (ca 0, 704, .inl (fun _ => 0)))]) 8 16 25 0 (by decide +kernel) (by decide) (by decide) rfl k_Model_25 rfl rfl (ty := .int) (by decide +kernel) rfl rfl (Nat.le_of_ble_eq_true rfl) rfl ?_
  refine vv_aload_0 639 rfl (by decide +kernel) ?_
  refine vv_bipush 641 rfl (16) (16 : Int32) (by decide +kernel) (by decide) ?_
  refine vv_newi 643 rfl 16 (by decide +kernel) ar_int (by decide) (by decide) (by decide) 6 1145 rfl rfl ⟨Nat.le_of_ble_eq_true rfl, Nat.le_of_ble_eq_true rfl⟩ (fun q95 => ?_)
  refine vv_putF 646 rfl (w1 := [(h0, .inr (8, [.ref q1, .int 0, .ref q91, .int 0, .ref q92, .int 0, .int 0, .int 0, .int 0, .int 0, .int 0, .ref q93, .ref q94, .int 0, .int 0, .int 0, .int (1 : Int32), .int 0, .int 0, .int 0, .int 0, .ref q95, .null, .int 0, .int 0])), (q1, .inl (ca 0, 89, .inl f90)), (q91, .inl (ca 0, 64, .inl (fun _ => 0))), (q92, .inl (ca 0, 256, .inl (fun _ => 0))), (q93, .inl (ca 0, 16, .inl (fun _ => 0))), (q94, .inl (ca 0, 704, .inl (fun _ => 0))), (q95, .inl (ca 0, 16, .inl (fun _ => 0)))]) 8 21 29 0 (by decide +kernel) (by decide) (by decide) rfl k_Model_29 rfl rfl rfl (ty := .array .int) (by decide +kernel) rfl rfl (Nat.le_of_ble_eq_true rfl) rfl ?_
  refine vv_aload_0 647 rfl (by decide +kernel) ?_
  refine vv_bipush 649 rfl (10) (10 : Int32) (by decide +kernel) (by decide) ?_
  refine vv_newi 651 rfl 10 (by decide +kernel) ar_int (by decide) (by decide) (by decide) 7 1155 rfl rfl ⟨Nat.le_of_ble_eq_true rfl, Nat.le_of_ble_eq_true rfl⟩ (fun q96 => ?_)
  refine vv_putF 654 rfl (w1 := [(h0, .inr (8, [.ref q1, .int 0, .ref q91, .int 0, .ref q92, .int 0, .int 0, .int 0, .int 0, .int 0, .int 0, .ref q93, .ref q94, .int 0, .int 0, .int 0, .int (1 : Int32), .int 0, .int 0, .int 0, .int 0, .ref q95, .ref q96, .int 0, .int 0])), (q1, .inl (ca 0, 89, .inl f90)), (q91, .inl (ca 0, 64, .inl (fun _ => 0))), (q92, .inl (ca 0, 256, .inl (fun _ => 0))), (q93, .inl (ca 0, 16, .inl (fun _ => 0))), (q94, .inl (ca 0, 704, .inl (fun _ => 0))), (q95, .inl (ca 0, 16, .inl (fun _ => 0))), (q96, .inl (ca 0, 10, .inl (fun _ => 0)))]) 8 22 32 0 (by decide +kernel) (by decide) (by decide) rfl k_Model_32 rfl rfl rfl (ty := .array .int) (by decide +kernel) rfl rfl (Nat.le_of_ble_eq_true rfl) rfl ?_
  refine vv_bipush 656 rfl (8) (8 : Int32) (by decide +kernel) (by decide) ?_
  refine vv_istore_1 657 rfl (by decide +kernel) (by decide) ?_
  refine vv_iload_1 658 rfl (by decide +kernel) ?_
  refine vv_bipush 660 rfl (16) (16 : Int32) (by decide +kernel) (by decide) ?_
  refine vv_icmp_ge 663 rfl (16) 676 (by decide +kernel) (by decide) (fun h => absurd h (by decide)) (fun _ => ?_)
  refine vv_aload_0 664 rfl (by decide +kernel) ?_
  refine vv_get 667 rfl 8 11 19 0 (by decide +kernel) (by decide) (by decide) rfl k_Model_19 rfl rfl ?_
  refine vv_iload_1 668 rfl (by decide +kernel) ?_
  refine vv_iconst 669 rfl (-1) (-1 : Int32) (by decide +kernel) (by decide) ?_
  refine vv_iast 670 rfl 4 (by decide +kernel) rfl (by decide) (fun f97 ef97 => ?_)
  refine vv_w (w1 := [(h0, .inr (8, [.ref q1, .int 0, .ref q91, .int 0, .ref q92, .int 0, .int 0, .int 0, .int 0, .int 0, .int 0, .ref q93, .ref q94, .int 0, .int 0, .int 0, .int (1 : Int32), .int 0, .int 0, .int 0, .int 0, .ref q95, .ref q96, .int 0, .int 0])), (q1, .inl (ca 0, 89, .inl f90)), (q91, .inl (ca 0, 64, .inl (fun _ => 0))), (q92, .inl (ca 0, 256, .inl (fun _ => 0))), (q93, .inl (ca 0, 16, .inl f97)), (q94, .inl (ca 0, 704, .inl (fun _ => 0))), (q95, .inl (ca 0, 16, .inl (fun _ => 0))), (q96, .inl (ca 0, 10, .inl (fun _ => 0)))]) rfl ?_
  refine vv_iinc_1 673 rfl (1) (9 : Int32) (by decide +kernel) (by decide) (by decide) ?_
  refine vv_goto (-16) 657 (by decide +kernel) (by decide) ?_
  refine vv_iload_1 658 rfl (by decide +kernel) ?_
  refine vv_bipush 660 rfl (16) (16 : Int32) (by decide +kernel) (by decide) ?_
  refine vv_icmp_ge 663 rfl (16) 676 (by decide +kernel) (by decide) (fun h => absurd h (by decide)) (fun _ => ?_)
  refine vv_aload_0 664 rfl (by decide +kernel) ?_
  refine vv_get 667 rfl 8 11 19 0 (by decide +kernel) (by decide) (by decide) rfl k_Model_19 rfl rfl ?_
  refine vv_iload_1 668 rfl (by decide +kernel) ?_
  refine vv_iconst 669 rfl (-1) (-1 : Int32) (by decide +kernel) (by decide) ?_
  refine vv_iast 670 rfl 4 (by decide +kernel) rfl (by decide) (fun f98 ef98 => ?_)
  refine vv_w (w1 := [(h0, .inr (8, [.ref q1, .int 0, .ref q91, .int 0, .ref q92, .int 0, .int 0, .int 0, .int 0, .int 0, .int 0, .ref q93, .ref q94, .int 0, .int 0, .int 0, .int (1 : Int32), .int 0, .int 0, .int 0, .int 0, .ref q95, .ref q96, .int 0, .int 0])), (q1, .inl (ca 0, 89, .inl f90)), (q91, .inl (ca 0, 64, .inl (fun _ => 0))), (q92, .inl (ca 0, 256, .inl (fun _ => 0))), (q93, .inl (ca 0, 16, .inl f98)), (q94, .inl (ca 0, 704, .inl (fun _ => 0))), (q95, .inl (ca 0, 16, .inl (fun _ => 0))), (q96, .inl (ca 0, 10, .inl (fun _ => 0)))]) rfl ?_
  refine vv_iinc_1 673 rfl (1) (10 : Int32) (by decide +kernel) (by decide) (by decide) ?_
  refine vv_goto (-16) 657 (by decide +kernel) (by decide) ?_
  refine vv_iload_1 658 rfl (by decide +kernel) ?_
  refine vv_bipush 660 rfl (16) (16 : Int32) (by decide +kernel) (by decide) ?_
  refine vv_icmp_ge 663 rfl (16) 676 (by decide +kernel) (by decide) (fun h => absurd h (by decide)) (fun _ => ?_)
  refine vv_aload_0 664 rfl (by decide +kernel) ?_
  refine vv_get 667 rfl 8 11 19 0 (by decide +kernel) (by decide) (by decide) rfl k_Model_19 rfl rfl ?_
  refine vv_iload_1 668 rfl (by decide +kernel) ?_
  refine vv_iconst 669 rfl (-1) (-1 : Int32) (by decide +kernel) (by decide) ?_
  refine vv_iast 670 rfl 4 (by decide +kernel) rfl (by decide) (fun f99 ef99 => ?_)
  refine vv_w (w1 := [(h0, .inr (8, [.ref q1, .int 0, .ref q91, .int 0, .ref q92, .int 0, .int 0, .int 0, .int 0, .int 0, .int 0, .ref q93, .ref q94, .int 0, .int 0, .int 0, .int (1 : Int32), .int 0, .int 0, .int 0, .int 0, .ref q95, .ref q96, .int 0, .int 0])), (q1, .inl (ca 0, 89, .inl f90)), (q91, .inl (ca 0, 64, .inl (fun _ => 0))), (q92, .inl (ca 0, 256, .inl (fun _ => 0))), (q93, .inl (ca 0, 16, .inl f99)), (q94, .inl (ca 0, 704, .inl (fun _ => 0))), (q95, .inl (ca 0, 16, .inl (fun _ => 0))), (q96, .inl (ca 0, 10, .inl (fun _ => 0)))]) rfl ?_
  refine vv_iinc_1 673 rfl (1) (11 : Int32) (by decide +kernel) (by decide) (by decide) ?_
  refine vv_goto (-16) 657 (by decide +kernel) (by decide) ?_
  refine vv_iload_1 658 rfl (by decide +kernel) ?_
  refine vv_bipush 660 rfl (16) (16 : Int32) (by decide +kernel) (by decide) ?_
  refine vv_icmp_ge 663 rfl (16) 676 (by decide +kernel) (by decide) (fun h => absurd h (by decide)) (fun _ => ?_)
  refine vv_aload_0 664 rfl (by decide +kernel) ?_
  refine vv_get 667 rfl 8 11 19 0 (by decide +kernel) (by decide) (by decide) rfl k_Model_19 rfl rfl ?_
  refine vv_iload_1 668 rfl (by decide +kernel) ?_
  refine vv_iconst 669 rfl (-1) (-1 : Int32) (by decide +kernel) (by decide) ?_
  refine vv_iast 670 rfl 4 (by decide +kernel) rfl (by decide) (fun f100 ef100 => ?_)
  refine vv_w (w1 := [(h0, .inr (8, [.ref q1, .int 0, .ref q91, .int 0, .ref q92, .int 0, .int 0, .int 0, .int 0, .int 0, .int 0, .ref q93, .ref q94, .int 0, .int 0, .int 0, .int (1 : Int32), .int 0, .int 0, .int 0, .int 0, .ref q95, .ref q96, .int 0, .int 0])), (q1, .inl (ca 0, 89, .inl f90)), (q91, .inl (ca 0, 64, .inl (fun _ => 0))), (q92, .inl (ca 0, 256, .inl (fun _ => 0))), (q93, .inl (ca 0, 16, .inl f100)), (q94, .inl (ca 0, 704, .inl (fun _ => 0))), (q95, .inl (ca 0, 16, .inl (fun _ => 0))), (q96, .inl (ca 0, 10, .inl (fun _ => 0)))]) rfl ?_
  refine vv_iinc_1 673 rfl (1) (12 : Int32) (by decide +kernel) (by decide) (by decide) ?_
  refine vv_goto (-16) 657 (by decide +kernel) (by decide) ?_
  refine vv_iload_1 658 rfl (by decide +kernel) ?_
  refine vv_bipush 660 rfl (16) (16 : Int32) (by decide +kernel) (by decide) ?_
  refine vv_icmp_ge 663 rfl (16) 676 (by decide +kernel) (by decide) (fun h => absurd h (by decide)) (fun _ => ?_)
  refine vv_aload_0 664 rfl (by decide +kernel) ?_
  refine vv_get 667 rfl 8 11 19 0 (by decide +kernel) (by decide) (by decide) rfl k_Model_19 rfl rfl ?_
  refine vv_iload_1 668 rfl (by decide +kernel) ?_
  refine vv_iconst 669 rfl (-1) (-1 : Int32) (by decide +kernel) (by decide) ?_
  refine vv_iast 670 rfl 4 (by decide +kernel) rfl (by decide) (fun f101 ef101 => ?_)
  refine vv_w (w1 := [(h0, .inr (8, [.ref q1, .int 0, .ref q91, .int 0, .ref q92, .int 0, .int 0, .int 0, .int 0, .int 0, .int 0, .ref q93, .ref q94, .int 0, .int 0, .int 0, .int (1 : Int32), .int 0, .int 0, .int 0, .int 0, .ref q95, .ref q96, .int 0, .int 0])), (q1, .inl (ca 0, 89, .inl f90)), (q91, .inl (ca 0, 64, .inl (fun _ => 0))), (q92, .inl (ca 0, 256, .inl (fun _ => 0))), (q93, .inl (ca 0, 16, .inl f101)), (q94, .inl (ca 0, 704, .inl (fun _ => 0))), (q95, .inl (ca 0, 16, .inl (fun _ => 0))), (q96, .inl (ca 0, 10, .inl (fun _ => 0)))]) rfl ?_
  refine vv_iinc_1 673 rfl (1) (13 : Int32) (by decide +kernel) (by decide) (by decide) ?_
  refine vv_goto (-16) 657 (by decide +kernel) (by decide) ?_
  refine vv_iload_1 658 rfl (by decide +kernel) ?_
  refine vv_bipush 660 rfl (16) (16 : Int32) (by decide +kernel) (by decide) ?_
  refine vv_icmp_ge 663 rfl (16) 676 (by decide +kernel) (by decide) (fun h => absurd h (by decide)) (fun _ => ?_)
  refine vv_aload_0 664 rfl (by decide +kernel) ?_
  refine vv_get 667 rfl 8 11 19 0 (by decide +kernel) (by decide) (by decide) rfl k_Model_19 rfl rfl ?_
  refine vv_iload_1 668 rfl (by decide +kernel) ?_
  refine vv_iconst 669 rfl (-1) (-1 : Int32) (by decide +kernel) (by decide) ?_
  refine vv_iast 670 rfl 4 (by decide +kernel) rfl (by decide) (fun f102 ef102 => ?_)
  refine vv_w (w1 := [(h0, .inr (8, [.ref q1, .int 0, .ref q91, .int 0, .ref q92, .int 0, .int 0, .int 0, .int 0, .int 0, .int 0, .ref q93, .ref q94, .int 0, .int 0, .int 0, .int (1 : Int32), .int 0, .int 0, .int 0, .int 0, .ref q95, .ref q96, .int 0, .int 0])), (q1, .inl (ca 0, 89, .inl f90)), (q91, .inl (ca 0, 64, .inl (fun _ => 0))), (q92, .inl (ca 0, 256, .inl (fun _ => 0))), (q93, .inl (ca 0, 16, .inl f102)), (q94, .inl (ca 0, 704, .inl (fun _ => 0))), (q95, .inl (ca 0, 16, .inl (fun _ => 0))), (q96, .inl (ca 0, 10, .inl (fun _ => 0)))]) rfl ?_
  refine vv_iinc_1 673 rfl (1) (14 : Int32) (by decide +kernel) (by decide) (by decide) ?_
  refine vv_goto (-16) 657 (by decide +kernel) (by decide) ?_
  refine vv_iload_1 658 rfl (by decide +kernel) ?_
  refine vv_bipush 660 rfl (16) (16 : Int32) (by decide +kernel) (by decide) ?_
  refine vv_icmp_ge 663 rfl (16) 676 (by decide +kernel) (by decide) (fun h => absurd h (by decide)) (fun _ => ?_)
  refine vv_aload_0 664 rfl (by decide +kernel) ?_
  refine vv_get 667 rfl 8 11 19 0 (by decide +kernel) (by decide) (by decide) rfl k_Model_19 rfl rfl ?_
  refine vv_iload_1 668 rfl (by decide +kernel) ?_
  refine vv_iconst 669 rfl (-1) (-1 : Int32) (by decide +kernel) (by decide) ?_
  refine vv_iast 670 rfl 4 (by decide +kernel) rfl (by decide) (fun f103 ef103 => ?_)
  refine vv_w (w1 := [(h0, .inr (8, [.ref q1, .int 0, .ref q91, .int 0, .ref q92, .int 0, .int 0, .int 0, .int 0, .int 0, .int 0, .ref q93, .ref q94, .int 0, .int 0, .int 0, .int (1 : Int32), .int 0, .int 0, .int 0, .int 0, .ref q95, .ref q96, .int 0, .int 0])), (q1, .inl (ca 0, 89, .inl f90)), (q91, .inl (ca 0, 64, .inl (fun _ => 0))), (q92, .inl (ca 0, 256, .inl (fun _ => 0))), (q93, .inl (ca 0, 16, .inl f103)), (q94, .inl (ca 0, 704, .inl (fun _ => 0))), (q95, .inl (ca 0, 16, .inl (fun _ => 0))), (q96, .inl (ca 0, 10, .inl (fun _ => 0)))]) rfl ?_
  refine vv_iinc_1 673 rfl (1) (15 : Int32) (by decide +kernel) (by decide) (by decide) ?_
  refine vv_goto (-16) 657 (by decide +kernel) (by decide) ?_
  refine vv_iload_1 658 rfl (by decide +kernel) ?_
  refine vv_bipush 660 rfl (16) (16 : Int32) (by decide +kernel) (by decide) ?_
  refine vv_icmp_ge 663 rfl (16) 676 (by decide +kernel) (by decide) (fun h => absurd h (by decide)) (fun _ => ?_)
  refine vv_aload_0 664 rfl (by decide +kernel) ?_
  refine vv_get 667 rfl 8 11 19 0 (by decide +kernel) (by decide) (by decide) rfl k_Model_19 rfl rfl ?_
  refine vv_iload_1 668 rfl (by decide +kernel) ?_
  refine vv_iconst 669 rfl (-1) (-1 : Int32) (by decide +kernel) (by decide) ?_
  refine vv_iast 670 rfl 4 (by decide +kernel) rfl (by decide) (fun f104 ef104 => ?_)
  refine vv_w (w1 := [(h0, .inr (8, [.ref q1, .int 0, .ref q91, .int 0, .ref q92, .int 0, .int 0, .int 0, .int 0, .int 0, .int 0, .ref q93, .ref q94, .int 0, .int 0, .int 0, .int (1 : Int32), .int 0, .int 0, .int 0, .int 0, .ref q95, .ref q96, .int 0, .int 0])), (q1, .inl (ca 0, 89, .inl f90)), (q91, .inl (ca 0, 64, .inl (fun _ => 0))), (q92, .inl (ca 0, 256, .inl (fun _ => 0))), (q93, .inl (ca 0, 16, .inl f104)), (q94, .inl (ca 0, 704, .inl (fun _ => 0))), (q95, .inl (ca 0, 16, .inl (fun _ => 0))), (q96, .inl (ca 0, 10, .inl (fun _ => 0)))]) rfl ?_
  refine vv_iinc_1 673 rfl (1) (16 : Int32) (by decide +kernel) (by decide) (by decide) ?_
  refine vv_goto (-16) 657 (by decide +kernel) (by decide) ?_
  refine vv_iload_1 658 rfl (by decide +kernel) ?_
  refine vv_bipush 660 rfl (16) (16 : Int32) (by decide +kernel) (by decide) ?_
  refine vv_icmp_ge 663 rfl (16) 676 (by decide +kernel) (by decide) (fun _ => ?_) (fun h => absurd (by decide) h)
  exact vv_ret (by decide +kernel) rfl (Nat.le_refl _) (Nat.le_refl _) ⟨q1, q91, q92, q93, q94, q95, q96, f90, f104, by subst ef90 ef89 ef88 ef87 ef86 ef85 ef84 ef83 ef82 ef81 ef80 ef79 ef78 ef77 ef76 ef75 ef74 ef73 ef72 ef71 ef70 ef69 ef68 ef67 ef66 ef65 ef64 ef63 ef62 ef61 ef60 ef59 ef58 ef57 ef56 ef55 ef54 ef53 ef52 ef51 ef50 ef49 ef48 ef47 ef46 ef45 ef44 ef43 ef42 ef41 ef40 ef39 ef38 ef37 ef36 ef35 ef34 ef33 ef32 ef31 ef30 ef29 ef28 ef27 ef26 ef25 ef24 ef23 ef22 ef21 ef20 ef19 ef18 ef17 ef16 ef15 ef14 ef13 ef12 ef11 ef10 ef9 ef8 ef7 ef6 ef5 ef4 ef3 ef2; decide +kernel, by subst ef104 ef103 ef102 ef101 ef100 ef99 ef98 ef97; decide +kernel, rfl⟩
