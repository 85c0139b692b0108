theorem tw {w : Cond} (i : Nat) (h : tables_1[i]? = some w) : w ∈ lw_tbl := List.mem_append_right _ (List.mem_of_getElem? h)
theorem sw {w : Cond} (i : Nat) (h : (k2_sels lw_privs)[i]? = some w) : w ∈ lw_tbl := List.mem_append_left _ (List.mem_of_getElem? h)
set_option maxRecDepth 20000 in
theorem k_Intervals_22 : Cond.methodLink R_Intervals 22 y_Intervals_segmentOf ∈ AW := (aw (tw 192 rfl) rfl)
set_option maxRecDepth 20000 in
theorem k_Intervals_13 : Cond.methodLink R_Intervals 13 y_Intervals_codeOf1 ∈ AW := (aw (tw 195 rfl) rfl)
set_option maxRecDepth 20000 in
theorem k_Intervals_7 : Cond.methodLink R_Intervals 7 y_Intervals_codeOf0 ∈ AW := (aw (tw 189 rfl) rfl)
set_option maxRecDepth 20000 in
theorem k_Gate_49 : Cond.methodLink R_Gate 49 y_Intervals_has ∈ AW := (aw (tw 180 rfl) rfl)
set_option maxRecDepth 20000 in
theorem k_Gate_55 : Cond.methodLink R_Gate 55 y_Gate_isSample ∈ AW := (aw (tw 183 rfl) rfl)
set_option maxRecDepth 20000 in
theorem k_Gate_58 : Cond.methodLink R_Gate 58 y_Intervals_codeOf ∈ AW := (aw (tw 186 rfl) rfl)
set_option maxRecDepth 20000 in
theorem k_Intervals_25 : Cond.methodLink R_Intervals 25 y_Intervals_middleOfInterval ∈ AW := (aw (tw 212 rfl) rfl)
set_option maxRecDepth 20000 in
theorem k_Intervals_19 : Cond.methodLink R_Intervals 19 y_Intervals_middleOf1 ∈ AW := (aw (tw 215 rfl) rfl)
set_option maxRecDepth 20000 in
theorem k_Intervals_16 : Cond.methodLink R_Intervals 16 y_Intervals_middleOf0 ∈ AW := (aw (tw 209 rfl) rfl)
set_option maxRecDepth 20000 in
theorem k_Gate_65 : Cond.constant R_Gate 65 (40000 : Int32) ∈ AW := (aw (tw 205 rfl) rfl)
set_option maxRecDepth 20000 in
theorem k_Gate_62 : Cond.methodLink R_Gate 62 y_Gate_isByte ∈ AW := (aw (tw 202 rfl) rfl)
set_option maxRecDepth 20000 in
theorem k_Gate_66 : Cond.methodLink R_Gate 66 y_Intervals_middleOf ∈ AW := (aw (tw 206 rfl) rfl)
set_option maxRecDepth 20000 in
theorem k_Samples_9 : Cond.fieldLink R_Samples 9 (cn 5) (cT 5 0).2.1 (cT 5 0).2.2.1 ∈ AW := (aw (tw 27 rfl) rfl)
set_option maxRecDepth 20000 in
theorem k_Samples_15 : Cond.fieldLink R_Samples 15 (cn 5) (cT 5 1).2.1 (cT 5 1).2.2.1 ∈ AW := (aw (tw 28 rfl) rfl)
set_option maxRecDepth 20000 in
theorem k_Gate_14 : Cond.fieldLink R_Gate 14 (cn 0) (cT 0 0).2.1 (cT 0 0).2.2.1 ∈ AW := (aw (tw 157 rfl) rfl)
set_option maxRecDepth 20000 in
theorem k_Gate_69 : Cond.methodLink R_Gate 69 y_Samples_hasRoom ∈ AW := (aw (tw 222 rfl) rfl)
set_option maxRecDepth 20000 in
theorem k_Gate_72 : Cond.methodLink R_Gate 72 y_Samples_add ∈ AW := (aw (tw 226 rfl) rfl)
set_option maxRecDepth 20000 in
theorem k_Sender_9 : Cond.fieldLink R_Sender 9 (cn 6) (cT 6 0).2.1 (cT 6 0).2.2.1 ∈ AW := (aw (tw 81 rfl) rfl)
set_option maxRecDepth 20000 in
theorem k_Sender_15 : Cond.fieldLink R_Sender 15 (cn 6) (cT 6 1).2.1 (cT 6 1).2.2.1 ∈ AW := (aw (tw 82 rfl) rfl)
set_option maxRecDepth 20000 in
theorem k_Sender_18 : Cond.fieldLink R_Sender 18 (cn 6) (cT 6 2).2.1 (cT 6 2).2.2.1 ∈ AW := (aw (tw 83 rfl) rfl)
set_option maxRecDepth 20000 in
theorem k_Gate_75 : Cond.constant R_Gate 75 (65536 : Int32) ∈ AW := (aw (tw 234 rfl) rfl)
set_option maxRecDepth 20000 in
theorem k_Gate_31 : Cond.fieldLink R_Gate 31 (cn 0) (cT 0 3).2.1 (cT 0 3).2.2.1 ∈ AW := (aw (tw 160 rfl) rfl)
set_option maxRecDepth 20000 in
theorem k_Gate_76 : Cond.methodLink R_Gate 76 y_Sender_restart ∈ AW := (aw (tw 235 rfl) rfl)
set_option maxRecDepth 20000 in
theorem k_Packet_15 : Cond.fieldLink R_Packet 15 (cn 3) (cT 3 1).2.1 (cT 3 1).2.2.1 ∈ AW := (aw (tw 49 rfl) rfl)
set_option maxRecDepth 20000 in
theorem k_Wire_16 : Cond.fieldLink R_Wire 16 (cn 7) (cT 7 1).2.1 (cT 7 1).2.2.1 ∈ AW := (aw (tw 56 rfl) rfl)
set_option maxRecDepth 20000 in
theorem k_Wire_11 : Cond.fieldLink R_Wire 11 (cn 7) (cT 7 0).2.1 (cT 7 0).2.2.1 ∈ AW := (aw (tw 55 rfl) rfl)
set_option maxRecDepth 20000 in
theorem k_Wire_20 : Cond.methodLink R_Wire 20 y_Packet_clear ∈ AW := (aw (tw 254 rfl) rfl)
set_option maxRecDepth 20000 in
theorem k_Packet_11 : Cond.fieldLink R_Packet 11 (cn 3) (cT 3 0).2.1 (cT 3 0).2.2.1 ∈ AW := (aw (tw 48 rfl) rfl)
set_option maxRecDepth 20000 in
theorem k_Packet_29 : Cond.methodLink R_Packet 29 y_Packet_addByte ∈ AW := (aw (tw 266 rfl) rfl)
set_option maxRecDepth 20000 in
theorem k_Packet_36 : Cond.fieldLink R_Packet 36 R_Packet "TYPES" "[I" ∈ AW := (aw (tw 270 rfl) rfl)
set_option maxRecDepth 20000 in
theorem k_Packet_33 : Cond.methodLink R_Packet 33 y_Packet_addPair ∈ AW := (aw (tw 280 rfl) rfl)
set_option maxRecDepth 20000 in
theorem k_Adaptive_9 : Cond.fieldLink R_Adaptive 9 (cn 1) (cT 1 0).2.1 (cT 1 0).2.2.1 ∈ AW := (aw (tw 74 rfl) rfl)
set_option maxRecDepth 20000 in
theorem k_Adaptive_15 : Cond.fieldLink R_Adaptive 15 (cn 1) (cT 1 1).2.1 (cT 1 1).2.2.1 ∈ AW := (aw (tw 75 rfl) rfl)
set_option maxRecDepth 20000 in
theorem k_Samples_19 : Cond.constant R_Samples 19 (40000 : Int32) ∈ AW := (aw (tw 298 rfl) rfl)
set_option maxRecDepth 20000 in
theorem k_Adaptive_30 : Cond.fieldLink R_Adaptive 30 R_Adaptive "STEPS" "[I" ∈ AW := (aw (tw 307 rfl) rfl)
set_option maxRecDepth 20000 in
theorem k_Adaptive_18 : Cond.methodLink R_Adaptive 18 y_Adaptive_within ∈ AW := (aw (tw 313 rfl) rfl)
set_option maxRecDepth 20000 in
theorem k_Adaptive_22 : Cond.methodLink R_Adaptive 22 y_Adaptive_codeOf ∈ AW := (aw (tw 303 rfl) rfl)
set_option maxRecDepth 20000 in
theorem k_Adaptive_26 : Cond.methodLink R_Adaptive 26 y_Adaptive_changeBy ∈ AW := (aw (tw 309 rfl) rfl)
set_option maxRecDepth 20000 in
theorem k_Sender_24 : Cond.fieldLink R_Sender 24 (cn 6) (cT 6 3).2.1 (cT 6 3).2.2.1 ∈ AW := (aw (tw 84 rfl) rfl)
set_option maxRecDepth 20000 in
theorem k_Sender_28 : Cond.methodLink R_Sender 28 y_Adaptive_value ∈ AW := (aw (tw 285 rfl) rfl)
set_option maxRecDepth 20000 in
theorem k_Sender_41 : Cond.methodLink R_Sender 41 y_Packet_addPair ∈ AW := (aw (tw 272 rfl) rfl)
set_option maxRecDepth 20000 in
theorem k_Sender_32 : Cond.methodLink R_Sender 32 y_Adaptive_index ∈ AW := (aw (tw 289 rfl) rfl)
set_option maxRecDepth 20000 in
theorem k_Sender_71 : Cond.methodLink R_Sender 71 y_Packet_addByte ∈ AW := (aw (tw 293 rfl) rfl)
set_option maxRecDepth 20000 in
theorem k_Sender_60 : Cond.methodLink R_Sender 60 y_Samples_get ∈ AW := (aw (tw 294 rfl) rfl)
set_option maxRecDepth 20000 in
theorem k_Sender_74 : Cond.methodLink R_Sender 74 y_Adaptive_codeAndChange ∈ AW := (aw (tw 299 rfl) rfl)
set_option maxRecDepth 20000 in
theorem k_Sender_65 : Cond.methodLink R_Sender 65 y_Intervals_codeOf ∈ AW := (aw (tw 319 rfl) rfl)
set_option maxRecDepth 20000 in
theorem k_Sender_35 : Cond.methodLink R_Sender 35 y_Packet_addHead ∈ AW := (aw (tw 262 rfl) rfl)
set_option maxRecDepth 20000 in
theorem k_Sender_45 : Cond.methodLink R_Sender 45 y_Packet_addFour ∈ AW := (aw (tw 276 rfl) rfl)
set_option maxRecDepth 20000 in
theorem k_Sender_52 : Cond.methodLink R_Sender 52 y_Sender_packPlain ∈ AW := (aw (tw 316 rfl) rfl)
set_option maxRecDepth 20000 in
theorem k_Sender_48 : Cond.methodLink R_Sender 48 y_Sender_packAdaptive ∈ AW := (aw (tw 281 rfl) rfl)
set_option maxRecDepth 20000 in
theorem k_Samples_24 : Cond.methodLink R_Samples 24 arraycopyName ∈ AW := (aw (tw 327 rfl) rfl)
set_option maxRecDepth 20000 in
theorem k_Gate_80 : Cond.methodLink R_Gate 80 y_Sender_canPack ∈ AW := (aw (tw 243 rfl) rfl)
set_option maxRecDepth 20000 in
theorem k_Gate_84 : Cond.methodLink R_Gate 84 y_Samples_size ∈ AW := (aw (tw 246 rfl) rfl)
set_option maxRecDepth 20000 in
theorem k_Gate_24 : Cond.fieldLink R_Gate 24 (cn 0) (cT 0 2).2.1 (cT 0 2).2.2.1 ∈ AW := (aw (tw 159 rfl) rfl)
set_option maxRecDepth 20000 in
theorem k_Gate_88 : Cond.methodLink R_Gate 88 y_Wire_append ∈ AW := (aw (tw 250 rfl) rfl)
set_option maxRecDepth 20000 in
theorem k_Gate_92 : Cond.methodLink R_Gate 92 y_Sender_pack ∈ AW := (aw (tw 258 rfl) rfl)
set_option maxRecDepth 20000 in
theorem k_Gate_96 : Cond.methodLink R_Gate 96 y_Samples_dropFirst ∈ AW := (aw (tw 323 rfl) rfl)
set_option maxRecDepth 20000 in
theorem k_Gate_99 : Cond.methodLink R_Gate 99 y_Packet_length ∈ AW := (aw (tw 330 rfl) rfl)
set_option maxRecDepth 20000 in
theorem k_Gate_104 : Cond.methodLink R_Gate 104 y_Wire_size ∈ AW := (aw (tw 338 rfl) rfl)
set_option maxRecDepth 20000 in
theorem k_Packet_19 : Cond.methodLink R_Packet 19 y_Packet_has ∈ AW := (aw (tw 354 rfl) rfl)
set_option maxRecDepth 20000 in
theorem k_Gate_105 : Cond.methodLink R_Gate 105 y_Wire_at ∈ AW := (aw (tw 346 rfl) rfl)
set_option maxRecDepth 20000 in
theorem k_Gate_109 : Cond.methodLink R_Gate 109 y_Packet_get ∈ AW := (aw (tw 350 rfl) rfl)
set_option maxRecDepth 20000 in
theorem k_Gate_113 : Cond.methodLink R_Gate 113 y_Packet_put ∈ AW := (aw (tw 362 rfl) rfl)
set_option maxRecDepth 20000 in
theorem k_Wire_23 : Cond.methodLink R_Wire 23 y_Wire_at ∈ AW := (aw (tw 374 rfl) rfl)
set_option maxRecDepth 20000 in
theorem k_Packet_23 : Cond.methodLink R_Packet 23 arraycopyName ∈ AW := (aw (tw 388 rfl) rfl)
set_option maxRecDepth 20000 in
theorem k_Wire_27 : Cond.methodLink R_Wire 27 y_Wire_append ∈ AW := (aw (tw 383 rfl) rfl)
set_option maxRecDepth 20000 in
theorem k_Wire_31 : Cond.methodLink R_Wire 31 y_Packet_copyFrom ∈ AW := (aw (tw 384 rfl) rfl)
set_option maxRecDepth 20000 in
theorem k_Wire_35 : Cond.methodLink R_Wire 35 y_Packet_cutLast ∈ AW := (aw (tw 393 rfl) rfl)
set_option maxRecDepth 20000 in
theorem k_Gate_125 : Cond.methodLink R_Gate 125 y_Wire_shorten ∈ AW := (aw (tw 389 rfl) rfl)
set_option maxRecDepth 20000 in
theorem k_Gate_122 : Cond.methodLink R_Gate 122 y_Wire_repeat ∈ AW := (aw (tw 379 rfl) rfl)
set_option maxRecDepth 20000 in
theorem k_Gate_119 : Cond.methodLink R_Gate 119 y_Wire_exchange ∈ AW := (aw (tw 375 rfl) rfl)
set_option maxRecDepth 20000 in
theorem k_Gate_116 : Cond.methodLink R_Gate 116 y_Wire_lose ∈ AW := (aw (tw 370 rfl) rfl)
set_option maxRecDepth 20000 in
theorem k_Packet_47 : Cond.methodLink R_Packet 47 y_Packet_coding ∈ AW := (aw (tw 417 rfl) rfl)
set_option maxRecDepth 20000 in
theorem k_Packet_51 : Cond.methodLink R_Packet 51 y_Packet_samplesIn ∈ AW := (aw (tw 413 rfl) rfl)
set_option maxRecDepth 20000 in
theorem k_Packet_54 : Cond.methodLink R_Packet 54 y_Adaptive_isIndex ∈ AW := (aw (tw 421 rfl) rfl)
set_option maxRecDepth 20000 in
theorem k_Packet_39 : Cond.methodLink R_Packet 39 y_Packet_pairAt ∈ AW := (aw (tw 432 rfl) rfl)
set_option maxRecDepth 20000 in
theorem k_Packet_44 : Cond.methodLink R_Packet 44 y_Packet_fourAt ∈ AW := (aw (tw 428 rfl) rfl)
set_option maxRecDepth 20000 in
theorem k_Buffer_33 : Cond.fieldLink R_Buffer 33 (cn 2) (cT 2 5).2.1 (cT 2 5).2.2.1 ∈ AW := (aw (tw 107 rfl) rfl)
set_option maxRecDepth 20000 in
theorem k_Buffer_67 : Cond.constant R_Buffer 67 (65536 : Int32) ∈ AW := (aw (tw 444 rfl) rfl)
set_option maxRecDepth 20000 in
theorem k_Buffer_68 : Cond.methodLink R_Buffer 68 y_Math_floorMod ∈ AW := (aw (tw 445 rfl) rfl)
set_option maxRecDepth 20000 in
theorem k_Buffer_74 : Cond.constant R_Buffer 74 (32768 : Int32) ∈ AW := (aw (tw 448 rfl) rfl)
set_option maxRecDepth 20000 in
theorem k_Buffer_60 : Cond.methodLink R_Buffer 60 y_Packet_isSound ∈ AW := (aw (tw 409 rfl) rfl)
set_option maxRecDepth 20000 in
theorem k_Buffer_26 : Cond.fieldLink R_Buffer 26 (cn 2) (cT 2 3).2.1 (cT 2 3).2.2.1 ∈ AW := (aw (tw 105 rfl) rfl)
set_option maxRecDepth 20000 in
theorem k_Buffer_50 : Cond.methodLink R_Buffer 50 y_Packet_source ∈ AW := (aw (tw 424 rfl) rfl)
set_option maxRecDepth 20000 in
theorem k_Buffer_36 : Cond.fieldLink R_Buffer 36 (cn 2) (cT 2 6).2.1 (cT 2 6).2.2.1 ∈ AW := (aw (tw 108 rfl) rfl)
set_option maxRecDepth 20000 in
theorem k_Buffer_46 : Cond.methodLink R_Buffer 46 y_Packet_sequence ∈ AW := (aw (tw 436 rfl) rfl)
set_option maxRecDepth 20000 in
theorem k_Buffer_64 : Cond.methodLink R_Buffer 64 y_Buffer_distanceOf ∈ AW := (aw (tw 440 rfl) rfl)
set_option maxRecDepth 20000 in
theorem k_Buffer_18 : Cond.fieldLink R_Buffer 18 (cn 2) (cT 2 1).2.1 (cT 2 1).2.2.1 ∈ AW := (aw (tw 103 rfl) rfl)
set_option maxRecDepth 20000 in
theorem k_Buffer_52 : Cond.methodLink R_Buffer 52 y_Buffer_placeOf ∈ AW := (aw (tw 449 rfl) rfl)
set_option maxRecDepth 20000 in
theorem k_Buffer_42 : Cond.methodLink R_Buffer 42 y_Buffer_judge ∈ AW := (aw (tw 405 rfl) rfl)
set_option maxRecDepth 20000 in
theorem k_Buffer_22 : Cond.fieldLink R_Buffer 22 (cn 2) (cT 2 2).2.1 (cT 2 2).2.2.1 ∈ AW := (aw (tw 104 rfl) rfl)
set_option maxRecDepth 20000 in
theorem k_Buffer_13 : Cond.fieldLink R_Buffer 13 (cn 2) (cT 2 0).2.1 (cT 2 0).2.2.1 ∈ AW := (aw (tw 102 rfl) rfl)
set_option maxRecDepth 20000 in
theorem k_Buffer_56 : Cond.methodLink R_Buffer 56 y_Packet_copyFrom ∈ AW := (aw (tw 452 rfl) rfl)
set_option maxRecDepth 20000 in
theorem k_Buffer_30 : Cond.fieldLink R_Buffer 30 (cn 2) (cT 2 4).2.1 (cT 2 4).2.2.1 ∈ AW := (aw (tw 106 rfl) rfl)
set_option maxRecDepth 20000 in
theorem k_Gate_38 : Cond.fieldLink R_Gate 38 (cn 0) (cT 0 4).2.1 (cT 0 4).2.2.1 ∈ AW := (aw (tw 161 rfl) rfl)
set_option maxRecDepth 20000 in
theorem k_Gate_128 : Cond.methodLink R_Gate 128 y_Buffer_accept ∈ AW := (aw (tw 401 rfl) rfl)
set_option maxRecDepth 20000 in
theorem k_Buffer_39 : Cond.fieldLink R_Buffer 39 (cn 2) (cT 2 7).2.1 (cT 2 7).2.2.1 ∈ AW := (aw (tw 109 rfl) rfl)
set_option maxRecDepth 20000 in
theorem k_Gate_132 : Cond.methodLink R_Gate 132 y_Buffer_setPrefill ∈ AW := (aw (tw 457 rfl) rfl)
set_option maxRecDepth 20000 in
theorem k_Packet_43 : Cond.constant R_Packet 43 (65536 : Int32) ∈ AW := (aw (tw 511 rfl) rfl)
set_option maxRecDepth 20000 in
theorem k_Packet_63 : Cond.methodLink R_Packet 63 y_Packet_sampleAt ∈ AW := (aw (tw 507 rfl) rfl)
set_option maxRecDepth 20000 in
theorem k_Packet_77 : Cond.methodLink R_Packet 77 y_Adaptive_set ∈ AW := (aw (tw 512 rfl) rfl)
set_option maxRecDepth 20000 in
theorem k_Packet_81 : Cond.methodLink R_Packet 81 y_Adaptive_changeBy ∈ AW := (aw (tw 516 rfl) rfl)
set_option maxRecDepth 20000 in
theorem k_Packet_84 : Cond.methodLink R_Packet 84 y_Adaptive_value ∈ AW := (aw (tw 517 rfl) rfl)
set_option maxRecDepth 20000 in
theorem k_Packet_72 : Cond.methodLink R_Packet 72 y_Samples_add ∈ AW := (aw (tw 518 rfl) rfl)
set_option maxRecDepth 20000 in
theorem k_Packet_59 : Cond.methodLink R_Packet 59 y_Packet_readAdaptive ∈ AW := (aw (tw 503 rfl) rfl)
set_option maxRecDepth 20000 in
theorem k_Packet_66 : Cond.methodLink R_Packet 66 y_Intervals_middleOf ∈ AW := (aw (tw 519 rfl) rfl)
set_option maxRecDepth 20000 in
theorem k_Samples_20 : Cond.methodLink R_Samples 20 y_Samples_add ∈ AW := (aw (tw 524 rfl) rfl)
set_option maxRecDepth 20000 in
theorem k_Player_62 : Cond.methodLink R_Player 62 y_Packet_samplesIn ∈ AW := (aw (tw 481 rfl) rfl)
set_option maxRecDepth 20000 in
theorem k_Player_68 : Cond.methodLink R_Player 68 y_Samples_hasRoom ∈ AW := (aw (tw 482 rfl) rfl)
set_option maxRecDepth 20000 in
theorem k_Player_72 : Cond.methodLink R_Player 72 y_Buffer_state ∈ AW := (aw (tw 483 rfl) rfl)
set_option maxRecDepth 20000 in
theorem k_Player_75 : Cond.methodLink R_Player 75 y_Packet_hasMark ∈ AW := (aw (tw 487 rfl) rfl)
set_option maxRecDepth 20000 in
theorem k_Player_78 : Cond.methodLink R_Player 78 y_Packet_time ∈ AW := (aw (tw 491 rfl) rfl)
set_option maxRecDepth 20000 in
theorem k_Player_27 : Cond.fieldLink R_Player 27 (cn 4) (cT 4 2).2.1 (cT 4 2).2.2.1 ∈ AW := (aw (tw 140 rfl) rfl)
set_option maxRecDepth 20000 in
theorem k_Player_37 : Cond.fieldLink R_Player 37 (cn 4) (cT 4 5).2.1 (cT 4 5).2.2.1 ∈ AW := (aw (tw 143 rfl) rfl)
set_option maxRecDepth 20000 in
theorem k_Player_14 : Cond.fieldLink R_Player 14 (cn 4) (cT 4 0).2.1 (cT 4 0).2.2.1 ∈ AW := (aw (tw 138 rfl) rfl)
set_option maxRecDepth 20000 in
theorem k_Player_81 : Cond.methodLink R_Player 81 y_Samples_clear ∈ AW := (aw (tw 495 rfl) rfl)
set_option maxRecDepth 20000 in
theorem k_Player_23 : Cond.fieldLink R_Player 23 (cn 4) (cT 4 1).2.1 (cT 4 1).2.2.1 ∈ AW := (aw (tw 139 rfl) rfl)
set_option maxRecDepth 20000 in
theorem k_Player_84 : Cond.methodLink R_Player 84 y_Packet_readInto ∈ AW := (aw (tw 499 rfl) rfl)
set_option maxRecDepth 20000 in
theorem k_Player_88 : Cond.methodLink R_Player 88 y_Samples_addFirstOf ∈ AW := (aw (tw 520 rfl) rfl)
set_option maxRecDepth 20000 in
theorem k_Player_31 : Cond.fieldLink R_Player 31 (cn 4) (cT 4 3).2.1 (cT 4 3).2.2.1 ∈ AW := (aw (tw 141 rfl) rfl)
set_option maxRecDepth 20000 in
theorem k_Player_92 : Cond.methodLink R_Player 92 y_Buffer_goOn ∈ AW := (aw (tw 525 rfl) rfl)
set_option maxRecDepth 20000 in
theorem k_Player_95 : Cond.methodLink R_Player 95 y_Samples_size ∈ AW := (aw (tw 534 rfl) rfl)
set_option maxRecDepth 20000 in
theorem k_Player_34 : Cond.fieldLink R_Player 34 (cn 4) (cT 4 4).2.1 (cT 4 4).2.2.1 ∈ AW := (aw (tw 142 rfl) rfl)
set_option maxRecDepth 20000 in
theorem k_Player_98 : Cond.methodLink R_Player 98 y_Samples_get ∈ AW := (aw (tw 535 rfl) rfl)
set_option maxRecDepth 20000 in
theorem k_Player_102 : Cond.methodLink R_Player 102 y_Samples_add ∈ AW := (aw (tw 536 rfl) rfl)
set_option maxRecDepth 20000 in
theorem k_Player_105 : Cond.methodLink R_Player 105 y_Buffer_comeToRest ∈ AW := (aw (tw 541 rfl) rfl)
set_option maxRecDepth 20000 in
theorem k_Player_40 : Cond.methodLink R_Player 40 y_Buffer_isReady ∈ AW := (aw (tw 469 rfl) rfl)
set_option maxRecDepth 20000 in
theorem k_Player_46 : Cond.methodLink R_Player 46 y_Buffer_due ∈ AW := (aw (tw 473 rfl) rfl)
set_option maxRecDepth 20000 in
theorem k_Player_58 : Cond.methodLink R_Player 58 y_Player_giveUp ∈ AW := (aw (tw 537 rfl) rfl)
set_option maxRecDepth 20000 in
theorem k_Player_54 : Cond.methodLink R_Player 54 y_Player_conceal ∈ AW := (aw (tw 530 rfl) rfl)
set_option maxRecDepth 20000 in
theorem k_Player_50 : Cond.methodLink R_Player 50 y_Player_playPacket ∈ AW := (aw (tw 477 rfl) rfl)
set_option maxRecDepth 20000 in
theorem k_Gate_45 : Cond.fieldLink R_Gate 45 (cn 0) (cT 0 5).2.1 (cT 0 5).2.2.1 ∈ AW := (aw (tw 162 rfl) rfl)
set_option maxRecDepth 20000 in
theorem k_Gate_18 : Cond.fieldLink R_Gate 18 (cn 0) (cT 0 1).2.1 (cT 0 1).2.2.1 ∈ AW := (aw (tw 158 rfl) rfl)
set_option maxRecDepth 20000 in
theorem k_Gate_135 : Cond.methodLink R_Gate 135 y_Player_playNext ∈ AW := (aw (tw 465 rfl) rfl)
set_option maxRecDepth 20000 in
theorem k_Gate_139 : Cond.methodLink R_Gate 139 y_Samples_get ∈ AW := (aw (tw 553 rfl) rfl)
set_option maxRecDepth 20000 in
theorem k_Gate_140 : Cond.methodLink R_Gate 140 y_Samples_addFirstOf ∈ AW := (aw (tw 558 rfl) rfl)
set_option maxRecDepth 20000 in
theorem k_Gate_166 : Cond.methodLink R_Gate 166 y_Sender_nextSequence ∈ AW := (aw (tw 592 rfl) rfl)
set_option maxRecDepth 20000 in
theorem k_Gate_163 : Cond.methodLink R_Gate 163 y_Sender_index ∈ AW := (aw (tw 588 rfl) rfl)
set_option maxRecDepth 20000 in
theorem k_Gate_160 : Cond.methodLink R_Gate 160 y_Sender_value ∈ AW := (aw (tw 584 rfl) rfl)
set_option maxRecDepth 20000 in
theorem k_Gate_157 : Cond.methodLink R_Gate 157 y_Player_jumps ∈ AW := (aw (tw 580 rfl) rfl)
set_option maxRecDepth 20000 in
theorem k_Gate_154 : Cond.methodLink R_Gate 154 y_Player_lostPackets ∈ AW := (aw (tw 576 rfl) rfl)
set_option maxRecDepth 20000 in
theorem k_Gate_151 : Cond.methodLink R_Gate 151 y_Buffer_refusals ∈ AW := (aw (tw 572 rfl) rfl)
set_option maxRecDepth 20000 in
theorem k_Gate_148 : Cond.methodLink R_Gate 148 y_Buffer_nextSequence ∈ AW := (aw (tw 568 rfl) rfl)
set_option maxRecDepth 20000 in
theorem k_Gate_147 : Cond.methodLink R_Gate 147 y_Buffer_size ∈ AW := (aw (tw 564 rfl) rfl)
set_option maxRecDepth 20000 in
theorem k_Gate_144 : Cond.methodLink R_Gate 144 y_Buffer_state ∈ AW := (aw (tw 563 rfl) rfl)
set_option maxRecDepth 20000 in
theorem k_Model_35 : Cond.methodLink R_Model 35 y_Model_isSample ∈ AW := (aw (tw 682 rfl) rfl)
set_option maxRecDepth 20000 in
theorem k_Model_39 : Cond.methodLink R_Model 39 y_Model_begins ∈ AW := (aw (tw 685 rfl) rfl)
set_option maxRecDepth 20000 in
theorem k_Model_43 : Cond.constant R_Model 43 (40000 : Int32) ∈ AW := (aw (tw 692 rfl) rfl)
set_option maxRecDepth 20000 in
theorem k_Model_44 : Cond.methodLink R_Model 44 y_Model_half ∈ AW := (aw (tw 693 rfl) rfl)
set_option maxRecDepth 20000 in
theorem k_Model_53 : Cond.fieldLink R_Model 53 (cn 8) (cT 8 1).2.1 (cT 8 1).2.2.1 ∈ AW := (aw (tw 603 rfl) rfl)
set_option maxRecDepth 20000 in
theorem k_Model_13 : Cond.fieldLink R_Model 13 (cn 8) (cT 8 2).2.1 (cT 8 2).2.2.1 ∈ AW := (aw (tw 604 rfl) rfl)
set_option maxRecDepth 20000 in
theorem k_Model_56 : Cond.constant R_Model 56 (65535 : Int32) ∈ AW := (aw (tw 704 rfl) rfl)
set_option maxRecDepth 20000 in
theorem k_Model_57 : Cond.fieldLink R_Model 57 (cn 8) (cT 8 5).2.1 (cT 8 5).2.2.1 ∈ AW := (aw (tw 607 rfl) rfl)
set_option maxRecDepth 20000 in
theorem k_Model_60 : Cond.fieldLink R_Model 60 (cn 8) (cT 8 6).2.1 (cT 8 6).2.2.1 ∈ AW := (aw (tw 608 rfl) rfl)
set_option maxRecDepth 20000 in
theorem k_Model_63 : Cond.fieldLink R_Model 63 (cn 8) (cT 8 7).2.1 (cT 8 7).2.2.1 ∈ AW := (aw (tw 609 rfl) rfl)
set_option maxRecDepth 20000 in
theorem k_Model_22 : Cond.fieldLink R_Model 22 (cn 8) (cT 8 12).2.1 (cT 8 12).2.2.1 ∈ AW := (aw (tw 614 rfl) rfl)
set_option maxRecDepth 20000 in
theorem k_Model_19 : Cond.fieldLink R_Model 19 (cn 8) (cT 8 11).2.1 (cT 8 11).2.2.1 ∈ AW := (aw (tw 613 rfl) rfl)
set_option maxRecDepth 20000 in
theorem k_Model_66 : Cond.methodLink R_Model 66 y_Model_write ∈ AW := (aw (tw 709 rfl) rfl)
set_option maxRecDepth 20000 in
theorem k_Model_7 : Cond.fieldLink R_Model 7 (cn 8) (cT 8 0).2.1 (cT 8 0).2.2.1 ∈ AW := (aw (tw 602 rfl) rfl)
set_option maxRecDepth 20000 in
theorem k_Model_47 : Cond.fieldLink R_Model 47 (cn 8) (cT 8 24).2.1 (cT 8 24).2.2.1 ∈ AW := (aw (tw 626 rfl) rfl)
set_option maxRecDepth 20000 in
theorem k_Model_50 : Cond.fieldLink R_Model 50 (cn 8) (cT 8 23).2.1 (cT 8 23).2.2.1 ∈ AW := (aw (tw 625 rfl) rfl)
set_option maxRecDepth 20000 in
theorem k_Model_70 : Cond.fieldLink R_Model 70 (cn 8) (cT 8 8).2.1 (cT 8 8).2.2.1 ∈ AW := (aw (tw 610 rfl) rfl)
set_option maxRecDepth 20000 in
theorem k_Model_73 : Cond.fieldLink R_Model 73 (cn 8) (cT 8 9).2.1 (cT 8 9).2.2.1 ∈ AW := (aw (tw 611 rfl) rfl)
set_option maxRecDepth 20000 in
theorem k_Model_79 : Cond.methodLink R_Model 79 y_Model_codeOf ∈ AW := (aw (tw 722 rfl) rfl)
set_option maxRecDepth 20000 in
theorem k_Model_83 : Cond.methodLink R_Model 83 y_Model_change ∈ AW := (aw (tw 726 rfl) rfl)
set_option maxRecDepth 20000 in
theorem k_Model_76 : Cond.methodLink R_Model 76 y_Model_compress ∈ AW := (aw (tw 721 rfl) rfl)
set_option maxRecDepth 20000 in
theorem k_Model_87 : Cond.fieldLink R_Model 87 (cn 8) (cT 8 10).2.1 (cT 8 10).2.2.1 ∈ AW := (aw (tw 612 rfl) rfl)
set_option maxRecDepth 20000 in
theorem k_Model_90 : Cond.methodLink R_Model 90 y_Model_writeWord ∈ AW := (aw (tw 713 rfl) rfl)
set_option maxRecDepth 20000 in
theorem k_Model_93 : Cond.methodLink R_Model 93 y_Model_samples ∈ AW := (aw (tw 717 rfl) rfl)
set_option maxRecDepth 20000 in
theorem k_Model_97 : Cond.methodLink R_Model 97 y_Model_there ∈ AW := (aw (tw 738 rfl) rfl)
set_option maxRecDepth 20000 in
theorem k_Model_101 : Cond.methodLink R_Model 101 y_Model_copy ∈ AW := (aw (tw 754 rfl) rfl)
set_option maxRecDepth 20000 in
theorem k_Model_107 : Cond.methodLink R_Model 107 y_Model_exchange ∈ AW := (aw (tw 758 rfl) rfl)
set_option maxRecDepth 20000 in
theorem k_Model_104 : Cond.methodLink R_Model 104 y_Model_remove ∈ AW := (aw (tw 750 rfl) rfl)
set_option maxRecDepth 20000 in
theorem k_Model_113 : Cond.methodLink R_Model 113 y_Model_codingOf ∈ AW := (aw (tw 774 rfl) rfl)
set_option maxRecDepth 20000 in
theorem k_Model_110 : Cond.methodLink R_Model 110 y_Model_pair ∈ AW := (aw (tw 778 rfl) rfl)
set_option maxRecDepth 20000 in
theorem k_Model_116 : Cond.fieldLink R_Model 116 (cn 8) (cT 8 14).2.1 (cT 8 14).2.2.1 ∈ AW := (aw (tw 616 rfl) rfl)
set_option maxRecDepth 20000 in
theorem k_Model_119 : Cond.constant R_Model 119 (131072 : Int32) ∈ AW := (aw (tw 790 rfl) rfl)
set_option maxRecDepth 20000 in
theorem k_Model_120 : Cond.constant R_Model 120 (65536 : Int32) ∈ AW := (aw (tw 791 rfl) rfl)
set_option maxRecDepth 20000 in
theorem k_Model_121 : Cond.methodLink R_Model 121 y_Model_samplesOf ∈ AW := (aw (tw 770 rfl) rfl)
set_option maxRecDepth 20000 in
theorem k_Model_124 : Cond.fieldLink R_Model 124 (cn 8) (cT 8 13).2.1 (cT 8 13).2.2.1 ∈ AW := (aw (tw 615 rfl) rfl)
set_option maxRecDepth 20000 in
theorem k_Model_127 : Cond.methodLink R_Model 127 y_Model_word ∈ AW := (aw (tw 782 rfl) rfl)
set_option maxRecDepth 20000 in
theorem k_Model_130 : Cond.methodLink R_Model 130 y_Model_distance ∈ AW := (aw (tw 786 rfl) rfl)
set_option maxRecDepth 20000 in
theorem k_Model_133 : Cond.methodLink R_Model 133 y_Model_held ∈ AW := (aw (tw 792 rfl) rfl)
set_option maxRecDepth 20000 in
theorem k_Model_136 : Cond.fieldLink R_Model 136 (cn 8) (cT 8 15).2.1 (cT 8 15).2.2.1 ∈ AW := (aw (tw 617 rfl) rfl)
set_option maxRecDepth 20000 in
theorem k_Model_139 : Cond.methodLink R_Model 139 y_Model_refusal ∈ AW := (aw (tw 766 rfl) rfl)
set_option maxRecDepth 20000 in
theorem k_Model_143 : Cond.fieldLink R_Model 143 (cn 8) (cT 8 17).2.1 (cT 8 17).2.2.1 ∈ AW := (aw (tw 619 rfl) rfl)
set_option maxRecDepth 20000 in
theorem k_Model_147 : Cond.fieldLink R_Model 147 (cn 8) (cT 8 19).2.1 (cT 8 19).2.2.1 ∈ AW := (aw (tw 621 rfl) rfl)
set_option maxRecDepth 20000 in
theorem k_Model_32 : Cond.fieldLink R_Model 32 (cn 8) (cT 8 22).2.1 (cT 8 22).2.2.1 ∈ AW := (aw (tw 624 rfl) rfl)
set_option maxRecDepth 20000 in
theorem k_Model_25 : Cond.fieldLink R_Model 25 (cn 8) (cT 8 16).2.1 (cT 8 16).2.2.1 ∈ AW := (aw (tw 618 rfl) rfl)
set_option maxRecDepth 20000 in
theorem k_Model_150 : Cond.methodLink R_Model 150 y_Model_expand ∈ AW := (aw (tw 816 rfl) rfl)
set_option maxRecDepth 20000 in
theorem k_Model_160 : Cond.fieldLink R_Model 160 (cn 8) (cT 8 20).2.1 (cT 8 20).2.2.1 ∈ AW := (aw (tw 622 rfl) rfl)
set_option maxRecDepth 20000 in
theorem k_Model_29 : Cond.fieldLink R_Model 29 (cn 8) (cT 8 21).2.1 (cT 8 21).2.2.1 ∈ AW := (aw (tw 623 rfl) rfl)
set_option maxRecDepth 20000 in
theorem k_Model_153 : Cond.methodLink R_Model 153 y_Model_sampleOf ∈ AW := (aw (tw 812 rfl) rfl)
set_option maxRecDepth 20000 in
theorem k_Model_16 : Cond.fieldLink R_Model 16 (cn 8) (cT 8 4).2.1 (cT 8 4).2.2.1 ∈ AW := (aw (tw 606 rfl) rfl)
set_option maxRecDepth 20000 in
theorem k_Model_157 : Cond.fieldLink R_Model 157 (cn 8) (cT 8 3).2.1 (cT 8 3).2.2.1 ∈ AW := (aw (tw 605 rfl) rfl)
set_option maxRecDepth 20000 in
theorem k_Model_163 : Cond.fieldLink R_Model 163 (cn 8) (cT 8 18).2.1 (cT 8 18).2.2.1 ∈ AW := (aw (tw 620 rfl) rfl)
set_option maxRecDepth 20000 in
theorem k_Model_166 : Cond.methodLink R_Model 166 y_Model_rest ∈ AW := (aw (tw 821 rfl) rfl)
set_option maxRecDepth 20000 in
theorem k_Model_169 : Cond.methodLink R_Model 169 y_Model_buffered ∈ AW := (aw (tw 804 rfl) rfl)
set_option maxRecDepth 20000 in
theorem k_Model_175 : Cond.methodLink R_Model 175 y_Model_conceal ∈ AW := (aw (tw 817 rfl) rfl)
set_option maxRecDepth 20000 in
theorem k_Model_172 : Cond.methodLink R_Model 172 y_Model_playPacket ∈ AW := (aw (tw 808 rfl) rfl)
set_option maxRecDepth 20000 in
theorem k_Adaptive_3 : Cond.methodLink R_Adaptive 3 objectInit ∈ AW := (aw (tw 73 rfl) rfl)
set_option maxRecDepth 20000 in
theorem k_Samples_3 : Cond.methodLink R_Samples 3 objectInit ∈ AW := (aw (tw 26 rfl) rfl)
set_option maxRecDepth 20000 in
theorem k_Packet_3 : Cond.methodLink R_Packet 3 objectInit ∈ AW := (aw (tw 47 rfl) rfl)
set_option maxRecDepth 20000 in
theorem k_Wire_1 : Cond.methodLink R_Wire 1 objectInit ∈ AW := (aw (tw 40 rfl) rfl)
set_option maxRecDepth 20000 in
theorem k_Wire_9 : Cond.classLink R_Wire 9 (cn 3) ∈ AW := (aw (tw 41 rfl) rfl)
set_option maxRecDepth 20000 in
theorem k_Wire_15 : Cond.methodLink R_Wire 15 y_Packet_init ∈ AW := (aw (tw 44 rfl) rfl)
set_option maxRecDepth 20000 in
theorem k_Sender_3 : Cond.methodLink R_Sender 3 objectInit ∈ AW := (aw (tw 67 rfl) rfl)
set_option maxRecDepth 20000 in
theorem k_Sender_21 : Cond.classLink R_Sender 21 (cn 1) ∈ AW := (aw (tw 68 rfl) rfl)
set_option maxRecDepth 20000 in
theorem k_Sender_23 : Cond.methodLink R_Sender 23 y_Adaptive_init ∈ AW := (aw (tw 70 rfl) rfl)
set_option maxRecDepth 20000 in
theorem k_Buffer_3 : Cond.methodLink R_Buffer 3 objectInit ∈ AW := (aw (tw 99 rfl) rfl)
set_option maxRecDepth 20000 in
theorem k_Buffer_11 : Cond.classLink R_Buffer 11 (cn 3) ∈ AW := (aw (tw 100 rfl) rfl)
set_option maxRecDepth 20000 in
theorem k_Buffer_17 : Cond.methodLink R_Buffer 17 y_Packet_init ∈ AW := (aw (tw 101 rfl) rfl)
set_option maxRecDepth 20000 in
theorem k_Player_3 : Cond.methodLink R_Player 3 objectInit ∈ AW := (aw (tw 133 rfl) rfl)
set_option maxRecDepth 20000 in
theorem k_Player_9 : Cond.classLink R_Player 9 (cn 5) ∈ AW := (aw (tw 134 rfl) rfl)
set_option maxRecDepth 20000 in
theorem k_Player_11 : Cond.methodLink R_Player 11 y_Samples_init ∈ AW := (aw (tw 135 rfl) rfl)
set_option maxRecDepth 20000 in
theorem k_Player_20 : Cond.classLink R_Player 20 (cn 1) ∈ AW := (aw (tw 136 rfl) rfl)
set_option maxRecDepth 20000 in
theorem k_Player_22 : Cond.methodLink R_Player 22 y_Adaptive_init ∈ AW := (aw (tw 137 rfl) rfl)
set_option maxRecDepth 20000 in
theorem k_Gate_1 : Cond.methodLink R_Gate 1 objectInit ∈ AW := (aw (tw 18 rfl) rfl)
set_option maxRecDepth 20000 in
theorem k_Gate_7 : Cond.classLink R_Gate 7 (cn 5) ∈ AW := (aw (tw 21 rfl) rfl)
set_option maxRecDepth 20000 in
theorem k_Gate_11 : Cond.methodLink R_Gate 11 y_Samples_init ∈ AW := (aw (tw 23 rfl) rfl)
set_option maxRecDepth 20000 in
theorem k_Gate_21 : Cond.classLink R_Gate 21 (cn 7) ∈ AW := (aw (tw 35 rfl) rfl)
set_option maxRecDepth 20000 in
theorem k_Gate_23 : Cond.methodLink R_Gate 23 y_Wire_init ∈ AW := (aw (tw 37 rfl) rfl)
set_option maxRecDepth 20000 in
theorem k_Gate_28 : Cond.classLink R_Gate 28 (cn 6) ∈ AW := (aw (tw 62 rfl) rfl)
set_option maxRecDepth 20000 in
theorem k_Gate_30 : Cond.methodLink R_Gate 30 y_Sender_init ∈ AW := (aw (tw 64 rfl) rfl)
set_option maxRecDepth 20000 in
theorem k_Gate_35 : Cond.classLink R_Gate 35 (cn 2) ∈ AW := (aw (tw 94 rfl) rfl)
set_option maxRecDepth 20000 in
theorem k_Gate_37 : Cond.methodLink R_Gate 37 y_Buffer_init ∈ AW := (aw (tw 96 rfl) rfl)
set_option maxRecDepth 20000 in
theorem k_Gate_42 : Cond.classLink R_Gate 42 (cn 4) ∈ AW := (aw (tw 128 rfl) rfl)
set_option maxRecDepth 20000 in
theorem k_Gate_44 : Cond.methodLink R_Gate 44 y_Player_init ∈ AW := (aw (tw 130 rfl) rfl)
set_option maxRecDepth 20000 in
theorem k_Model_1 : Cond.methodLink R_Model 1 objectInit ∈ AW := (aw (tw 601 rfl) rfl)
set_option maxRecDepth 20000 in
theorem mf_Intervals_segmentOf : MS y_Intervals_segmentOf b_Intervals_segmentOf 2 (some .int) 1 := ⟨(aw (tw 194 rfl) rfl), (aw (tw 193 rfl) rfl), (aw (tw 10 rfl) rfl), by decide +kernel⟩
set_option maxRecDepth 20000 in
theorem mf_Intervals_codeOf1 : MS y_Intervals_codeOf1 b_Intervals_codeOf1 6 (some .int) 1 := ⟨(aw (tw 197 rfl) rfl), (aw (tw 196 rfl) rfl), (aw (tw 10 rfl) rfl), by decide +kernel⟩
set_option maxRecDepth 20000 in
theorem mf_Intervals_codeOf0 : MS y_Intervals_codeOf0 b_Intervals_codeOf0 5 (some .int) 1 := ⟨(aw (tw 191 rfl) rfl), (aw (tw 190 rfl) rfl), (aw (tw 10 rfl) rfl), by decide +kernel⟩
set_option maxRecDepth 20000 in
theorem mf_Intervals_has : MS y_Intervals_has b_Intervals_has 1 (some .boolean) 1 := ⟨(aw (tw 182 rfl) rfl), (aw (tw 181 rfl) rfl), (aw (tw 10 rfl) rfl), by decide +kernel⟩
set_option maxRecDepth 20000 in
theorem mf_Gate_isSample : MS y_Gate_isSample b_Gate_isSample 1 (some .boolean) 1 := ⟨(aw (tw 185 rfl) rfl), (aw (tw 184 rfl) rfl), (aw (tw 1 rfl) rfl), by decide +kernel⟩
set_option maxRecDepth 20000 in
theorem mf_Intervals_codeOf : MS y_Intervals_codeOf b_Intervals_codeOf 2 (some .int) 2 := ⟨(aw (tw 188 rfl) rfl), (aw (tw 187 rfl) rfl), (aw (tw 10 rfl) rfl), by decide +kernel⟩
set_option maxRecDepth 20000 in
theorem mf_Intervals_middleOfInterval : MS y_Intervals_middleOfInterval b_Intervals_middleOfInterval 2 (some .int) 2 := ⟨(aw (tw 214 rfl) rfl), (aw (tw 213 rfl) rfl), (aw (tw 10 rfl) rfl), by decide +kernel⟩
set_option maxRecDepth 20000 in
theorem mf_Intervals_middleOf1 : MS y_Intervals_middleOf1 b_Intervals_middleOf1 5 (some .int) 1 := ⟨(aw (tw 217 rfl) rfl), (aw (tw 216 rfl) rfl), (aw (tw 10 rfl) rfl), by decide +kernel⟩
set_option maxRecDepth 20000 in
theorem mf_Intervals_middleOf0 : MS y_Intervals_middleOf0 b_Intervals_middleOf0 5 (some .int) 1 := ⟨(aw (tw 211 rfl) rfl), (aw (tw 210 rfl) rfl), (aw (tw 10 rfl) rfl), by decide +kernel⟩
set_option maxRecDepth 20000 in
theorem mf_Gate_isByte : MS y_Gate_isByte b_Gate_isByte 1 (some .boolean) 1 := ⟨(aw (tw 204 rfl) rfl), (aw (tw 203 rfl) rfl), (aw (tw 1 rfl) rfl), by decide +kernel⟩
set_option maxRecDepth 20000 in
theorem mf_Intervals_middleOf : MS y_Intervals_middleOf b_Intervals_middleOf 2 (some .int) 2 := ⟨(aw (tw 208 rfl) rfl), (aw (tw 207 rfl) rfl), (aw (tw 10 rfl) rfl), by decide +kernel⟩
set_option maxRecDepth 20000 in
theorem mf_Samples_hasRoom : MV y_Samples_hasRoom b_Samples_hasRoom 2 (some .boolean) 1 := ⟨(aw (tw 225 rfl) rfl), (aw (tw 223 rfl) rfl), (aw (tw 224 rfl) rfl), (aw (tw 2 rfl) rfl), by decide +kernel⟩
set_option maxRecDepth 20000 in
theorem mf_Samples_add : MV y_Samples_add b_Samples_add 2 none 1 := ⟨(aw (tw 229 rfl) rfl), (aw (tw 227 rfl) rfl), (aw (tw 228 rfl) rfl), (aw (tw 2 rfl) rfl), by decide +kernel⟩
set_option maxRecDepth 20000 in
theorem mf_Sender_restart : MV y_Sender_restart b_Sender_restart 4 none 3 := ⟨(aw (tw 238 rfl) rfl), (aw (tw 236 rfl) rfl), (aw (tw 237 rfl) rfl), (aw (tw 5 rfl) rfl), by decide +kernel⟩
set_option maxRecDepth 20000 in
theorem mf_Packet_clear : MV y_Packet_clear b_Packet_clear 1 none 0 := ⟨(aw (tw 257 rfl) rfl), (aw (tw 255 rfl) rfl), (aw (tw 256 rfl) rfl), (aw (tw 4 rfl) rfl), by decide +kernel⟩
set_option maxRecDepth 20000 in
theorem mf_Packet_addByte : MV y_Packet_addByte b_Packet_addByte 2 none 1 := ⟨(aw (tw 269 rfl) rfl), (aw (tw 267 rfl) rfl), (aw (tw 268 rfl) rfl), (aw (tw 4 rfl) rfl), by decide +kernel⟩
set_option maxRecDepth 20000 in
theorem mf_Packet_addPair : MV y_Packet_addPair b_Packet_addPair 2 none 1 := ⟨(aw (tw 275 rfl) rfl), (aw (tw 273 rfl) rfl), (aw (tw 274 rfl) rfl), (aw (tw 4 rfl) rfl), by decide +kernel⟩
set_option maxRecDepth 20000 in
theorem mf_Adaptive_within : MS y_Adaptive_within b_Adaptive_within 3 (some .int) 3 := ⟨(aw (tw 315 rfl) rfl), (aw (tw 314 rfl) rfl), (aw (tw 6 rfl) rfl), by decide +kernel⟩
set_option maxRecDepth 20000 in
theorem mf_Adaptive_codeOf : MV y_Adaptive_codeOf b_Adaptive_codeOf 6 (some .int) 1 := ⟨(aw (tw 306 rfl) rfl), (aw (tw 305 rfl) rfl), (aw (sw 1 rfl) rfl), (aw (tw 6 rfl) rfl), by decide +kernel⟩
set_option maxRecDepth 20000 in
theorem mf_Adaptive_changeBy : MV y_Adaptive_changeBy b_Adaptive_changeBy 5 none 1 := ⟨(aw (tw 312 rfl) rfl), (aw (tw 310 rfl) rfl), (aw (tw 311 rfl) rfl), (aw (tw 6 rfl) rfl), by decide +kernel⟩
set_option maxRecDepth 20000 in
theorem mf_Adaptive_value : MV y_Adaptive_value b_Adaptive_value 1 (some .int) 0 := ⟨(aw (tw 288 rfl) rfl), (aw (tw 286 rfl) rfl), (aw (tw 287 rfl) rfl), (aw (tw 6 rfl) rfl), by decide +kernel⟩
set_option maxRecDepth 20000 in
theorem mf_Adaptive_index : MV y_Adaptive_index b_Adaptive_index 1 (some .int) 0 := ⟨(aw (tw 292 rfl) rfl), (aw (tw 290 rfl) rfl), (aw (tw 291 rfl) rfl), (aw (tw 6 rfl) rfl), by decide +kernel⟩
set_option maxRecDepth 20000 in
theorem mf_Samples_get : MV y_Samples_get b_Samples_get 2 (some .int) 1 := ⟨(aw (tw 297 rfl) rfl), (aw (tw 295 rfl) rfl), (aw (tw 296 rfl) rfl), (aw (tw 2 rfl) rfl), by decide +kernel⟩
set_option maxRecDepth 20000 in
theorem mf_Adaptive_codeAndChange : MV y_Adaptive_codeAndChange b_Adaptive_codeAndChange 3 (some .int) 1 := ⟨(aw (tw 302 rfl) rfl), (aw (tw 300 rfl) rfl), (aw (tw 301 rfl) rfl), (aw (tw 6 rfl) rfl), by decide +kernel⟩
set_option maxRecDepth 20000 in
theorem mf_Packet_addHead : MV y_Packet_addHead b_Packet_addHead 3 none 2 := ⟨(aw (tw 265 rfl) rfl), (aw (tw 263 rfl) rfl), (aw (tw 264 rfl) rfl), (aw (tw 4 rfl) rfl), by decide +kernel⟩
set_option maxRecDepth 20000 in
theorem mf_Packet_addFour : MV y_Packet_addFour b_Packet_addFour 2 none 1 := ⟨(aw (tw 279 rfl) rfl), (aw (tw 277 rfl) rfl), (aw (tw 278 rfl) rfl), (aw (tw 4 rfl) rfl), by decide +kernel⟩
set_option maxRecDepth 20000 in
theorem mf_Sender_packPlain : MS y_Sender_packPlain b_Sender_packPlain 6 none 4 := ⟨(aw (tw 318 rfl) rfl), (aw (tw 317 rfl) rfl), (aw (tw 5 rfl) rfl), by decide +kernel⟩
set_option maxRecDepth 20000 in
theorem mf_Sender_packAdaptive : MV y_Sender_packAdaptive b_Sender_packAdaptive 7 none 3 := ⟨(aw (tw 284 rfl) rfl), (aw (tw 283 rfl) rfl), (aw (sw 0 rfl) rfl), (aw (tw 5 rfl) rfl), by decide +kernel⟩
set_option maxRecDepth 20000 in
theorem mf_Gate_sequenceAfter : MS y_Gate_sequenceAfter b_Gate_sequenceAfter 1 (some .int) 1 := ⟨(aw (tw 322 rfl) rfl), (aw (tw 321 rfl) rfl), (aw (tw 1 rfl) rfl), by decide +kernel⟩
set_option maxRecDepth 20000 in
theorem mf_Sender_canPack : MS y_Sender_canPack b_Sender_canPack 2 (some .boolean) 2 := ⟨(aw (tw 245 rfl) rfl), (aw (tw 244 rfl) rfl), (aw (tw 5 rfl) rfl), by decide +kernel⟩
set_option maxRecDepth 20000 in
theorem mf_Samples_size : MV y_Samples_size b_Samples_size 1 (some .int) 0 := ⟨(aw (tw 249 rfl) rfl), (aw (tw 247 rfl) rfl), (aw (tw 248 rfl) rfl), (aw (tw 2 rfl) rfl), by decide +kernel⟩
set_option maxRecDepth 20000 in
theorem mf_Wire_append : MV y_Wire_append b_Wire_append 2 (some (.object R_Packet)) 0 := ⟨(aw (tw 253 rfl) rfl), (aw (tw 251 rfl) rfl), (aw (tw 252 rfl) rfl), (aw (tw 3 rfl) rfl), by decide +kernel⟩
set_option maxRecDepth 20000 in
theorem mf_Sender_pack : MV y_Sender_pack b_Sender_pack 6 none 5 := ⟨(aw (tw 261 rfl) rfl), (aw (tw 259 rfl) rfl), (aw (tw 260 rfl) rfl), (aw (tw 5 rfl) rfl), by decide +kernel⟩
set_option maxRecDepth 20000 in
theorem mf_Samples_dropFirst : MV y_Samples_dropFirst b_Samples_dropFirst 2 none 1 := ⟨(aw (tw 326 rfl) rfl), (aw (tw 324 rfl) rfl), (aw (tw 325 rfl) rfl), (aw (tw 2 rfl) rfl), by decide +kernel⟩
set_option maxRecDepth 20000 in
theorem mf_Packet_length : MV y_Packet_length b_Packet_length 1 (some .int) 0 := ⟨(aw (tw 333 rfl) rfl), (aw (tw 331 rfl) rfl), (aw (tw 332 rfl) rfl), (aw (tw 4 rfl) rfl), by decide +kernel⟩
set_option maxRecDepth 20000 in
theorem mf_Wire_size : MV y_Wire_size b_Wire_size 1 (some .int) 0 := ⟨(aw (tw 341 rfl) rfl), (aw (tw 339 rfl) rfl), (aw (tw 340 rfl) rfl), (aw (tw 3 rfl) rfl), by decide +kernel⟩
set_option maxRecDepth 20000 in
theorem mf_Packet_has : MV y_Packet_has b_Packet_has 2 (some .boolean) 1 := ⟨(aw (tw 357 rfl) rfl), (aw (tw 356 rfl) rfl), (aw (sw 2 rfl) rfl), (aw (tw 4 rfl) rfl), by decide +kernel⟩
set_option maxRecDepth 20000 in
theorem mf_Wire_at : MV y_Wire_at b_Wire_at 2 (some (.object R_Packet)) 1 := ⟨(aw (tw 349 rfl) rfl), (aw (tw 347 rfl) rfl), (aw (tw 348 rfl) rfl), (aw (tw 3 rfl) rfl), by decide +kernel⟩
set_option maxRecDepth 20000 in
theorem mf_Packet_get : MV y_Packet_get b_Packet_get 2 (some .int) 1 := ⟨(aw (tw 353 rfl) rfl), (aw (tw 351 rfl) rfl), (aw (tw 352 rfl) rfl), (aw (tw 4 rfl) rfl), by decide +kernel⟩
set_option maxRecDepth 20000 in
theorem mf_Packet_put : MV y_Packet_put b_Packet_put 3 (some .boolean) 2 := ⟨(aw (tw 365 rfl) rfl), (aw (tw 363 rfl) rfl), (aw (tw 364 rfl) rfl), (aw (tw 4 rfl) rfl), by decide +kernel⟩
set_option maxRecDepth 20000 in
theorem mf_Packet_copyFrom : MV y_Packet_copyFrom b_Packet_copyFrom 2 none 1 := ⟨(aw (tw 387 rfl) rfl), (aw (tw 385 rfl) rfl), (aw (tw 386 rfl) rfl), (aw (tw 4 rfl) rfl), by decide +kernel⟩
set_option maxRecDepth 20000 in
theorem mf_Packet_cutLast : MV y_Packet_cutLast b_Packet_cutLast 1 (some .boolean) 0 := ⟨(aw (tw 396 rfl) rfl), (aw (tw 394 rfl) rfl), (aw (tw 395 rfl) rfl), (aw (tw 4 rfl) rfl), by decide +kernel⟩
set_option maxRecDepth 20000 in
theorem mf_Wire_shorten : MV y_Wire_shorten b_Wire_shorten 3 (some .boolean) 1 := ⟨(aw (tw 392 rfl) rfl), (aw (tw 390 rfl) rfl), (aw (tw 391 rfl) rfl), (aw (tw 3 rfl) rfl), by decide +kernel⟩
set_option maxRecDepth 20000 in
theorem mf_Wire_repeat : MV y_Wire_repeat b_Wire_repeat 4 (some .boolean) 1 := ⟨(aw (tw 382 rfl) rfl), (aw (tw 380 rfl) rfl), (aw (tw 381 rfl) rfl), (aw (tw 3 rfl) rfl), by decide +kernel⟩
set_option maxRecDepth 20000 in
theorem mf_Wire_exchange : MV y_Wire_exchange b_Wire_exchange 3 (some .boolean) 1 := ⟨(aw (tw 378 rfl) rfl), (aw (tw 376 rfl) rfl), (aw (tw 377 rfl) rfl), (aw (tw 3 rfl) rfl), by decide +kernel⟩
set_option maxRecDepth 20000 in
theorem mf_Wire_lose : MV y_Wire_lose b_Wire_lose 4 (some .boolean) 1 := ⟨(aw (tw 373 rfl) rfl), (aw (tw 371 rfl) rfl), (aw (tw 372 rfl) rfl), (aw (tw 3 rfl) rfl), by decide +kernel⟩
set_option maxRecDepth 20000 in
theorem mf_Packet_coding : MV y_Packet_coding b_Packet_coding 3 (some .int) 0 := ⟨(aw (tw 420 rfl) rfl), (aw (tw 419 rfl) rfl), (aw (sw 4 rfl) rfl), (aw (tw 4 rfl) rfl), by decide +kernel⟩
set_option maxRecDepth 20000 in
theorem mf_Packet_samplesIn : MV y_Packet_samplesIn b_Packet_samplesIn 2 (some .int) 0 := ⟨(aw (tw 416 rfl) rfl), (aw (tw 414 rfl) rfl), (aw (tw 415 rfl) rfl), (aw (tw 4 rfl) rfl), by decide +kernel⟩
set_option maxRecDepth 20000 in
theorem mf_Adaptive_isIndex : MS y_Adaptive_isIndex b_Adaptive_isIndex 1 (some .boolean) 1 := ⟨(aw (tw 423 rfl) rfl), (aw (tw 422 rfl) rfl), (aw (tw 6 rfl) rfl), by decide +kernel⟩
set_option maxRecDepth 20000 in
theorem mf_Packet_pairAt : MV y_Packet_pairAt b_Packet_pairAt 2 (some .int) 1 := ⟨(aw (tw 435 rfl) rfl), (aw (tw 434 rfl) rfl), (aw (sw 6 rfl) rfl), (aw (tw 4 rfl) rfl), by decide +kernel⟩
set_option maxRecDepth 20000 in
theorem mf_Packet_fourAt : MV y_Packet_fourAt b_Packet_fourAt 2 (some .int) 1 := ⟨(aw (tw 431 rfl) rfl), (aw (tw 430 rfl) rfl), (aw (sw 5 rfl) rfl), (aw (tw 4 rfl) rfl), by decide +kernel⟩
set_option maxRecDepth 20000 in
theorem mf_Math_floorMod : MS y_Math_floorMod b_Math_floorMod 3 (some .int) 2 := ⟨(aw (tw 447 rfl) rfl), (aw (tw 446 rfl) rfl), (aw (tw 12 rfl) rfl), by decide +kernel⟩
set_option maxRecDepth 20000 in
theorem mf_Packet_isSound : MV y_Packet_isSound b_Packet_isSound 2 (some .boolean) 0 := ⟨(aw (tw 412 rfl) rfl), (aw (tw 410 rfl) rfl), (aw (tw 411 rfl) rfl), (aw (tw 4 rfl) rfl), by decide +kernel⟩
set_option maxRecDepth 20000 in
theorem mf_Packet_source : MV y_Packet_source b_Packet_source 1 (some .int) 0 := ⟨(aw (tw 427 rfl) rfl), (aw (tw 425 rfl) rfl), (aw (tw 426 rfl) rfl), (aw (tw 4 rfl) rfl), by decide +kernel⟩
set_option maxRecDepth 20000 in
theorem mf_Packet_sequence : MV y_Packet_sequence b_Packet_sequence 1 (some .int) 0 := ⟨(aw (tw 439 rfl) rfl), (aw (tw 437 rfl) rfl), (aw (tw 438 rfl) rfl), (aw (tw 4 rfl) rfl), by decide +kernel⟩
set_option maxRecDepth 20000 in
theorem mf_Buffer_distanceOf : MV y_Buffer_distanceOf b_Buffer_distanceOf 3 (some .int) 1 := ⟨(aw (tw 443 rfl) rfl), (aw (tw 442 rfl) rfl), (aw (sw 7 rfl) rfl), (aw (tw 7 rfl) rfl), by decide +kernel⟩
set_option maxRecDepth 20000 in
theorem mf_Buffer_placeOf : MS y_Buffer_placeOf b_Buffer_placeOf 1 (some .int) 1 := ⟨(aw (tw 451 rfl) rfl), (aw (tw 450 rfl) rfl), (aw (tw 7 rfl) rfl), by decide +kernel⟩
set_option maxRecDepth 20000 in
theorem mf_Buffer_judge : MV y_Buffer_judge b_Buffer_judge 3 (some .int) 1 := ⟨(aw (tw 408 rfl) rfl), (aw (tw 407 rfl) rfl), (aw (sw 3 rfl) rfl), (aw (tw 7 rfl) rfl), by decide +kernel⟩
set_option maxRecDepth 20000 in
theorem mf_Buffer_accept : MV y_Buffer_accept b_Buffer_accept 4 (some .int) 1 := ⟨(aw (tw 404 rfl) rfl), (aw (tw 402 rfl) rfl), (aw (tw 403 rfl) rfl), (aw (tw 7 rfl) rfl), by decide +kernel⟩
set_option maxRecDepth 20000 in
theorem mf_Buffer_setPrefill : MV y_Buffer_setPrefill b_Buffer_setPrefill 2 (some .boolean) 1 := ⟨(aw (tw 460 rfl) rfl), (aw (tw 458 rfl) rfl), (aw (tw 459 rfl) rfl), (aw (tw 7 rfl) rfl), by decide +kernel⟩
set_option maxRecDepth 20000 in
theorem mf_Packet_sampleAt : MV y_Packet_sampleAt b_Packet_sampleAt 3 (some .int) 1 := ⟨(aw (tw 510 rfl) rfl), (aw (tw 509 rfl) rfl), (aw (sw 10 rfl) rfl), (aw (tw 4 rfl) rfl), by decide +kernel⟩
set_option maxRecDepth 20000 in
theorem mf_Adaptive_set : MV y_Adaptive_set b_Adaptive_set 3 none 2 := ⟨(aw (tw 515 rfl) rfl), (aw (tw 513 rfl) rfl), (aw (tw 514 rfl) rfl), (aw (tw 6 rfl) rfl), by decide +kernel⟩
set_option maxRecDepth 20000 in
theorem mf_Packet_readAdaptive : MV y_Packet_readAdaptive b_Packet_readAdaptive 4 none 2 := ⟨(aw (tw 506 rfl) rfl), (aw (tw 505 rfl) rfl), (aw (sw 9 rfl) rfl), (aw (tw 4 rfl) rfl), by decide +kernel⟩
set_option maxRecDepth 20000 in
theorem mf_Buffer_state : MV y_Buffer_state b_Buffer_state 1 (some .int) 0 := ⟨(aw (tw 486 rfl) rfl), (aw (tw 484 rfl) rfl), (aw (tw 485 rfl) rfl), (aw (tw 7 rfl) rfl), by decide +kernel⟩
set_option maxRecDepth 20000 in
theorem mf_Packet_hasMark : MV y_Packet_hasMark b_Packet_hasMark 1 (some .boolean) 0 := ⟨(aw (tw 490 rfl) rfl), (aw (tw 488 rfl) rfl), (aw (tw 489 rfl) rfl), (aw (tw 4 rfl) rfl), by decide +kernel⟩
set_option maxRecDepth 20000 in
theorem mf_Packet_time : MV y_Packet_time b_Packet_time 1 (some .int) 0 := ⟨(aw (tw 494 rfl) rfl), (aw (tw 492 rfl) rfl), (aw (tw 493 rfl) rfl), (aw (tw 4 rfl) rfl), by decide +kernel⟩
set_option maxRecDepth 20000 in
theorem mf_Samples_clear : MV y_Samples_clear b_Samples_clear 1 none 0 := ⟨(aw (tw 498 rfl) rfl), (aw (tw 496 rfl) rfl), (aw (tw 497 rfl) rfl), (aw (tw 2 rfl) rfl), by decide +kernel⟩
set_option maxRecDepth 20000 in
theorem mf_Packet_readInto : MV y_Packet_readInto b_Packet_readInto 6 none 2 := ⟨(aw (tw 502 rfl) rfl), (aw (tw 500 rfl) rfl), (aw (tw 501 rfl) rfl), (aw (tw 4 rfl) rfl), by decide +kernel⟩
set_option maxRecDepth 20000 in
theorem mf_Samples_addFirstOf : MV y_Samples_addFirstOf b_Samples_addFirstOf 4 none 2 := ⟨(aw (tw 523 rfl) rfl), (aw (tw 521 rfl) rfl), (aw (tw 522 rfl) rfl), (aw (tw 2 rfl) rfl), by decide +kernel⟩
set_option maxRecDepth 20000 in
theorem mf_Buffer_goOn : MV y_Buffer_goOn b_Buffer_goOn 2 none 0 := ⟨(aw (tw 528 rfl) rfl), (aw (tw 526 rfl) rfl), (aw (tw 527 rfl) rfl), (aw (tw 7 rfl) rfl), by decide +kernel⟩
set_option maxRecDepth 20000 in
theorem mf_Buffer_comeToRest : MV y_Buffer_comeToRest b_Buffer_comeToRest 2 none 0 := ⟨(aw (tw 544 rfl) rfl), (aw (tw 542 rfl) rfl), (aw (tw 543 rfl) rfl), (aw (tw 7 rfl) rfl), by decide +kernel⟩
set_option maxRecDepth 20000 in
theorem mf_Buffer_isReady : MV y_Buffer_isReady b_Buffer_isReady 1 (some .boolean) 0 := ⟨(aw (tw 472 rfl) rfl), (aw (tw 470 rfl) rfl), (aw (tw 471 rfl) rfl), (aw (tw 7 rfl) rfl), by decide +kernel⟩
set_option maxRecDepth 20000 in
theorem mf_Buffer_due : MV y_Buffer_due b_Buffer_due 2 (some (.object R_Packet)) 0 := ⟨(aw (tw 476 rfl) rfl), (aw (tw 474 rfl) rfl), (aw (tw 475 rfl) rfl), (aw (tw 7 rfl) rfl), by decide +kernel⟩
set_option maxRecDepth 20000 in
theorem mf_Player_giveUp : MV y_Player_giveUp b_Player_giveUp 2 (some .int) 1 := ⟨(aw (tw 540 rfl) rfl), (aw (tw 539 rfl) rfl), (aw (sw 12 rfl) rfl), (aw (tw 8 rfl) rfl), by decide +kernel⟩
set_option maxRecDepth 20000 in
theorem mf_Player_conceal : MV y_Player_conceal b_Player_conceal 6 (some .int) 2 := ⟨(aw (tw 533 rfl) rfl), (aw (tw 532 rfl) rfl), (aw (sw 11 rfl) rfl), (aw (tw 8 rfl) rfl), by decide +kernel⟩
set_option maxRecDepth 20000 in
theorem mf_Player_playPacket : MV y_Player_playPacket b_Player_playPacket 6 (some .int) 3 := ⟨(aw (tw 480 rfl) rfl), (aw (tw 479 rfl) rfl), (aw (sw 8 rfl) rfl), (aw (tw 8 rfl) rfl), by decide +kernel⟩
set_option maxRecDepth 20000 in
theorem mf_Player_playNext : MV y_Player_playNext b_Player_playNext 4 (some .int) 2 := ⟨(aw (tw 468 rfl) rfl), (aw (tw 466 rfl) rfl), (aw (tw 467 rfl) rfl), (aw (tw 8 rfl) rfl), by decide +kernel⟩
set_option maxRecDepth 20000 in
theorem mf_Sender_nextSequence : MV y_Sender_nextSequence b_Sender_nextSequence 1 (some .int) 0 := ⟨(aw (tw 595 rfl) rfl), (aw (tw 593 rfl) rfl), (aw (tw 594 rfl) rfl), (aw (tw 5 rfl) rfl), by decide +kernel⟩
set_option maxRecDepth 20000 in
theorem mf_Sender_index : MV y_Sender_index b_Sender_index 1 (some .int) 0 := ⟨(aw (tw 591 rfl) rfl), (aw (tw 589 rfl) rfl), (aw (tw 590 rfl) rfl), (aw (tw 5 rfl) rfl), by decide +kernel⟩
set_option maxRecDepth 20000 in
theorem mf_Sender_value : MV y_Sender_value b_Sender_value 1 (some .int) 0 := ⟨(aw (tw 587 rfl) rfl), (aw (tw 585 rfl) rfl), (aw (tw 586 rfl) rfl), (aw (tw 5 rfl) rfl), by decide +kernel⟩
set_option maxRecDepth 20000 in
theorem mf_Player_jumps : MV y_Player_jumps b_Player_jumps 1 (some .int) 0 := ⟨(aw (tw 583 rfl) rfl), (aw (tw 581 rfl) rfl), (aw (tw 582 rfl) rfl), (aw (tw 8 rfl) rfl), by decide +kernel⟩
set_option maxRecDepth 20000 in
theorem mf_Player_lostPackets : MV y_Player_lostPackets b_Player_lostPackets 1 (some .int) 0 := ⟨(aw (tw 579 rfl) rfl), (aw (tw 577 rfl) rfl), (aw (tw 578 rfl) rfl), (aw (tw 8 rfl) rfl), by decide +kernel⟩
set_option maxRecDepth 20000 in
theorem mf_Buffer_refusals : MV y_Buffer_refusals b_Buffer_refusals 2 (some .int) 1 := ⟨(aw (tw 575 rfl) rfl), (aw (tw 573 rfl) rfl), (aw (tw 574 rfl) rfl), (aw (tw 7 rfl) rfl), by decide +kernel⟩
set_option maxRecDepth 20000 in
theorem mf_Buffer_nextSequence : MV y_Buffer_nextSequence b_Buffer_nextSequence 1 (some .int) 0 := ⟨(aw (tw 571 rfl) rfl), (aw (tw 569 rfl) rfl), (aw (tw 570 rfl) rfl), (aw (tw 7 rfl) rfl), by decide +kernel⟩
set_option maxRecDepth 20000 in
theorem mf_Buffer_size : MV y_Buffer_size b_Buffer_size 1 (some .int) 0 := ⟨(aw (tw 567 rfl) rfl), (aw (tw 565 rfl) rfl), (aw (tw 566 rfl) rfl), (aw (tw 7 rfl) rfl), by decide +kernel⟩
set_option maxRecDepth 20000 in
theorem mf_Model_isSample : MS y_Model_isSample b_Model_isSample 1 (some .boolean) 1 := ⟨(aw (tw 684 rfl) rfl), (aw (tw 683 rfl) rfl), (aw (tw 9 rfl) rfl), by decide +kernel⟩
set_option maxRecDepth 20000 in
theorem mf_Model_begins : MS y_Model_begins b_Model_begins 6 (some .int) 2 := ⟨(aw (tw 687 rfl) rfl), (aw (tw 686 rfl) rfl), (aw (tw 9 rfl) rfl), by decide +kernel⟩
set_option maxRecDepth 20000 in
theorem mf_Model_half : MS y_Model_half b_Model_half 4 (some .int) 2 := ⟨(aw (tw 695 rfl) rfl), (aw (tw 694 rfl) rfl), (aw (tw 9 rfl) rfl), by decide +kernel⟩
set_option maxRecDepth 20000 in
theorem mf_Model_write : MV y_Model_write b_Model_write 3 none 2 := ⟨(aw (tw 712 rfl) rfl), (aw (tw 711 rfl) rfl), (aw (sw 13 rfl) rfl), (aw (tw 9 rfl) rfl), by decide +kernel⟩
set_option maxRecDepth 20000 in
theorem mf_Model_codeOf : MV y_Model_codeOf b_Model_codeOf 5 (some .int) 1 := ⟨(aw (tw 725 rfl) rfl), (aw (tw 724 rfl) rfl), (aw (sw 16 rfl) rfl), (aw (tw 9 rfl) rfl), by decide +kernel⟩
set_option maxRecDepth 20000 in
theorem mf_Model_change : MV y_Model_change b_Model_change 4 none 1 := ⟨(aw (tw 729 rfl) rfl), (aw (tw 728 rfl) rfl), (aw (sw 17 rfl) rfl), (aw (tw 9 rfl) rfl), by decide +kernel⟩
set_option maxRecDepth 20000 in
theorem mf_Model_compress : MV y_Model_compress b_Model_compress 6 (some .int) 2 := ⟨(aw (tw 681 rfl) rfl), (aw (tw 679 rfl) rfl), (aw (tw 680 rfl) rfl), (aw (tw 9 rfl) rfl), by decide +kernel⟩
set_option maxRecDepth 20000 in
theorem mf_Model_writeWord : MV y_Model_writeWord b_Model_writeWord 3 none 2 := ⟨(aw (tw 716 rfl) rfl), (aw (tw 715 rfl) rfl), (aw (sw 14 rfl) rfl), (aw (tw 9 rfl) rfl), by decide +kernel⟩
set_option maxRecDepth 20000 in
theorem mf_Model_samples : MV y_Model_samples b_Model_samples 8 none 3 := ⟨(aw (tw 720 rfl) rfl), (aw (tw 719 rfl) rfl), (aw (sw 15 rfl) rfl), (aw (tw 9 rfl) rfl), by decide +kernel⟩
set_option maxRecDepth 20000 in
theorem mf_Model_there : MV y_Model_there b_Model_there 3 (some .boolean) 2 := ⟨(aw (tw 741 rfl) rfl), (aw (tw 740 rfl) rfl), (aw (sw 18 rfl) rfl), (aw (tw 9 rfl) rfl), by decide +kernel⟩
set_option maxRecDepth 20000 in
theorem mf_Model_copy : MV y_Model_copy b_Model_copy 4 none 2 := ⟨(aw (tw 757 rfl) rfl), (aw (tw 756 rfl) rfl), (aw (sw 20 rfl) rfl), (aw (tw 9 rfl) rfl), by decide +kernel⟩
set_option maxRecDepth 20000 in
theorem mf_Model_exchange : MV y_Model_exchange b_Model_exchange 5 none 1 := ⟨(aw (tw 761 rfl) rfl), (aw (tw 760 rfl) rfl), (aw (sw 21 rfl) rfl), (aw (tw 9 rfl) rfl), by decide +kernel⟩
set_option maxRecDepth 20000 in
theorem mf_Model_remove : MV y_Model_remove b_Model_remove 3 none 1 := ⟨(aw (tw 753 rfl) rfl), (aw (tw 752 rfl) rfl), (aw (sw 19 rfl) rfl), (aw (tw 9 rfl) rfl), by decide +kernel⟩
set_option maxRecDepth 20000 in
theorem mf_Model_codingOf : MV y_Model_codingOf b_Model_codingOf 3 (some .int) 1 := ⟨(aw (tw 777 rfl) rfl), (aw (tw 776 rfl) rfl), (aw (sw 24 rfl) rfl), (aw (tw 9 rfl) rfl), by decide +kernel⟩
set_option maxRecDepth 20000 in
theorem mf_Model_pair : MV y_Model_pair b_Model_pair 3 (some .int) 2 := ⟨(aw (tw 781 rfl) rfl), (aw (tw 780 rfl) rfl), (aw (sw 25 rfl) rfl), (aw (tw 9 rfl) rfl), by decide +kernel⟩
set_option maxRecDepth 20000 in
theorem mf_Model_samplesOf : MV y_Model_samplesOf b_Model_samplesOf 7 (some .int) 1 := ⟨(aw (tw 773 rfl) rfl), (aw (tw 772 rfl) rfl), (aw (sw 23 rfl) rfl), (aw (tw 9 rfl) rfl), by decide +kernel⟩
set_option maxRecDepth 20000 in
theorem mf_Model_word : MV y_Model_word b_Model_word 5 (some .int) 2 := ⟨(aw (tw 785 rfl) rfl), (aw (tw 784 rfl) rfl), (aw (sw 26 rfl) rfl), (aw (tw 9 rfl) rfl), by decide +kernel⟩
set_option maxRecDepth 20000 in
theorem mf_Model_distance : MV y_Model_distance b_Model_distance 3 (some .int) 1 := ⟨(aw (tw 789 rfl) rfl), (aw (tw 788 rfl) rfl), (aw (sw 27 rfl) rfl), (aw (tw 9 rfl) rfl), by decide +kernel⟩
set_option maxRecDepth 20000 in
theorem mf_Model_held : MV y_Model_held b_Model_held 3 (some .int) 1 := ⟨(aw (tw 795 rfl) rfl), (aw (tw 794 rfl) rfl), (aw (sw 28 rfl) rfl), (aw (tw 9 rfl) rfl), by decide +kernel⟩
set_option maxRecDepth 20000 in
theorem mf_Model_refusal : MV y_Model_refusal b_Model_refusal 5 (some .int) 0 := ⟨(aw (tw 769 rfl) rfl), (aw (tw 768 rfl) rfl), (aw (sw 22 rfl) rfl), (aw (tw 9 rfl) rfl), by decide +kernel⟩
set_option maxRecDepth 20000 in
theorem mf_Model_expand : MV y_Model_expand b_Model_expand 6 (some .int) 2 := ⟨(aw (tw 691 rfl) rfl), (aw (tw 689 rfl) rfl), (aw (tw 690 rfl) rfl), (aw (tw 9 rfl) rfl), by decide +kernel⟩
set_option maxRecDepth 20000 in
theorem mf_Model_sampleOf : MV y_Model_sampleOf b_Model_sampleOf 6 (some .int) 3 := ⟨(aw (tw 815 rfl) rfl), (aw (tw 814 rfl) rfl), (aw (sw 31 rfl) rfl), (aw (tw 9 rfl) rfl), by decide +kernel⟩
set_option maxRecDepth 20000 in
theorem mf_Model_rest : MV y_Model_rest b_Model_rest 2 none 0 := ⟨(aw (tw 824 rfl) rfl), (aw (tw 823 rfl) rfl), (aw (sw 33 rfl) rfl), (aw (tw 9 rfl) rfl), by decide +kernel⟩
set_option maxRecDepth 20000 in
theorem mf_Model_buffered : MV y_Model_buffered b_Model_buffered 3 (some .int) 0 := ⟨(aw (tw 807 rfl) rfl), (aw (tw 806 rfl) rfl), (aw (sw 29 rfl) rfl), (aw (tw 9 rfl) rfl), by decide +kernel⟩
set_option maxRecDepth 20000 in
theorem mf_Model_conceal : MV y_Model_conceal b_Model_conceal 3 none 0 := ⟨(aw (tw 820 rfl) rfl), (aw (tw 819 rfl) rfl), (aw (sw 32 rfl) rfl), (aw (tw 9 rfl) rfl), by decide +kernel⟩
set_option maxRecDepth 20000 in
theorem mf_Model_playPacket : MV y_Model_playPacket b_Model_playPacket 7 none 2 := ⟨(aw (tw 811 rfl) rfl), (aw (tw 810 rfl) rfl), (aw (sw 30 rfl) rfl), (aw (tw 9 rfl) rfl), by decide +kernel⟩
set_option maxRecDepth 20000 in
theorem ob_code : Cond.code objectInit ⟨#[0xb1]⟩ 1 none ∈ AW := (aw (tw 20 rfl) rfl)
set_option maxRecDepth 20000 in
theorem ob_ins : Cond.instanceMethod objectInit ∈ AW := (aw (tw 19 rfl) rfl)
set_option maxRecDepth 20000 in
theorem ar_int : Cond.arrayClass .int ∈ AW := (aw (tw 34 rfl) rfl)
set_option maxRecDepth 20000 in
theorem ar_boo : Cond.arrayClass .boolean ∈ AW := (aw (tw 127 rfl) rfl)
set_option maxRecDepth 20000 in
theorem in_Adaptive : Cond.instantiable (cn 1) (nfc 1) ∈ AW := (aw (tw 69 rfl) rfl)
set_option maxRecDepth 20000 in
theorem ini_Adaptive : Cond.initialized (cn 1) ∈ AW := (aw (tw 6 rfl) rfl)
theorem bl_Adaptive : ∀ j, j < nfc 1 → defaultValue (ct 1 j) = vp_V [.int 0, .int 0] j := fun j hj => match j, hj with
  | 0, _ => rfl
  | 1, _ => rfl
  | j + 2, h => absurd (show j + 2 < 2 from h) (by omega)
set_option maxRecDepth 20000 in
theorem mi_Adaptive : Cond.code y_Adaptive_init b_Adaptive_init 1 none ∈ AW ∧ Cond.instanceMethod y_Adaptive_init ∈ AW ∧ Cond.initialized y_Adaptive_init.cls ∈ AW ∧ (y_Adaptive_init.cls ≠ "java/lang/invoke/MethodHandle" ∧ y_Adaptive_init.cls ≠ "java/lang/invoke/VarHandle" ∧ (parseMethodDescriptor y_Adaptive_init.desc).map (fun d => d.parameters.length) = some 0) := ⟨(aw (tw 72 rfl) rfl), (aw (tw 71 rfl) rfl), (aw (tw 6 rfl) rfl), by decide +kernel⟩
set_option maxRecDepth 20000 in
theorem in_Samples : Cond.instantiable (cn 5) (nfc 5) ∈ AW := (aw (tw 22 rfl) rfl)
set_option maxRecDepth 20000 in
theorem ini_Samples : Cond.initialized (cn 5) ∈ AW := (aw (tw 2 rfl) rfl)
theorem bl_Samples : ∀ j, j < nfc 5 → defaultValue (ct 5 j) = vp_V [.null, .int 0] j := fun j hj => match j, hj with
  | 0, _ => rfl
  | 1, _ => rfl
  | j + 2, h => absurd (show j + 2 < 2 from h) (by omega)
set_option maxRecDepth 20000 in
theorem mi_Samples : Cond.code y_Samples_init b_Samples_init 2 none ∈ AW ∧ Cond.instanceMethod y_Samples_init ∈ AW ∧ Cond.initialized y_Samples_init.cls ∈ AW ∧ (y_Samples_init.cls ≠ "java/lang/invoke/MethodHandle" ∧ y_Samples_init.cls ≠ "java/lang/invoke/VarHandle" ∧ (parseMethodDescriptor y_Samples_init.desc).map (fun d => d.parameters.length) = some 1) := ⟨(aw (tw 25 rfl) rfl), (aw (tw 24 rfl) rfl), (aw (tw 2 rfl) rfl), by decide +kernel⟩
set_option maxRecDepth 20000 in
theorem in_Packet : Cond.instantiable (cn 3) (nfc 3) ∈ AW := (aw (tw 43 rfl) rfl)
set_option maxRecDepth 20000 in
theorem ini_Packet : Cond.initialized (cn 3) ∈ AW := (aw (tw 4 rfl) rfl)
theorem bl_Packet : ∀ j, j < nfc 3 → defaultValue (ct 3 j) = vp_V [.null, .int 0] j := fun j hj => match j, hj with
  | 0, _ => rfl
  | 1, _ => rfl
  | j + 2, h => absurd (show j + 2 < 2 from h) (by omega)
set_option maxRecDepth 20000 in
theorem mi_Packet : Cond.code y_Packet_init b_Packet_init 1 none ∈ AW ∧ Cond.instanceMethod y_Packet_init ∈ AW ∧ Cond.initialized y_Packet_init.cls ∈ AW ∧ (y_Packet_init.cls ≠ "java/lang/invoke/MethodHandle" ∧ y_Packet_init.cls ≠ "java/lang/invoke/VarHandle" ∧ (parseMethodDescriptor y_Packet_init.desc).map (fun d => d.parameters.length) = some 0) := ⟨(aw (tw 46 rfl) rfl), (aw (tw 45 rfl) rfl), (aw (tw 4 rfl) rfl), by decide +kernel⟩
set_option maxRecDepth 20000 in
theorem in_Wire : Cond.instantiable (cn 7) (nfc 7) ∈ AW := (aw (tw 36 rfl) rfl)
set_option maxRecDepth 20000 in
theorem ini_Wire : Cond.initialized (cn 7) ∈ AW := (aw (tw 3 rfl) rfl)
theorem bl_Wire : ∀ j, j < nfc 7 → defaultValue (ct 7 j) = vp_V [.null, .int 0] j := fun j hj => match j, hj with
  | 0, _ => rfl
  | 1, _ => rfl
  | j + 2, h => absurd (show j + 2 < 2 from h) (by omega)
set_option maxRecDepth 20000 in
theorem mi_Wire : Cond.code y_Wire_init b_Wire_init 2 none ∈ AW ∧ Cond.instanceMethod y_Wire_init ∈ AW ∧ Cond.initialized y_Wire_init.cls ∈ AW ∧ (y_Wire_init.cls ≠ "java/lang/invoke/MethodHandle" ∧ y_Wire_init.cls ≠ "java/lang/invoke/VarHandle" ∧ (parseMethodDescriptor y_Wire_init.desc).map (fun d => d.parameters.length) = some 0) := ⟨(aw (tw 39 rfl) rfl), (aw (tw 38 rfl) rfl), (aw (tw 3 rfl) rfl), by decide +kernel⟩
set_option maxRecDepth 20000 in
theorem in_Sender : Cond.instantiable (cn 6) (nfc 6) ∈ AW := (aw (tw 63 rfl) rfl)
set_option maxRecDepth 20000 in
theorem ini_Sender : Cond.initialized (cn 6) ∈ AW := (aw (tw 5 rfl) rfl)
theorem bl_Sender : ∀ j, j < nfc 6 → defaultValue (ct 6 j) = vp_V [.int 0, .int 0, .int 0, .null] j := fun j hj => match j, hj with
  | 0, _ => rfl
  | 1, _ => rfl
  | 2, _ => rfl
  | 3, _ => rfl
  | j + 4, h => absurd (show j + 4 < 4 from h) (by omega)
set_option maxRecDepth 20000 in
theorem mi_Sender : Cond.code y_Sender_init b_Sender_init 1 none ∈ AW ∧ Cond.instanceMethod y_Sender_init ∈ AW ∧ Cond.initialized y_Sender_init.cls ∈ AW ∧ (y_Sender_init.cls ≠ "java/lang/invoke/MethodHandle" ∧ y_Sender_init.cls ≠ "java/lang/invoke/VarHandle" ∧ (parseMethodDescriptor y_Sender_init.desc).map (fun d => d.parameters.length) = some 0) := ⟨(aw (tw 66 rfl) rfl), (aw (tw 65 rfl) rfl), (aw (tw 5 rfl) rfl), by decide +kernel⟩
set_option maxRecDepth 20000 in
theorem in_Buffer : Cond.instantiable (cn 2) (nfc 2) ∈ AW := (aw (tw 95 rfl) rfl)
set_option maxRecDepth 20000 in
theorem ini_Buffer : Cond.initialized (cn 2) ∈ AW := (aw (tw 7 rfl) rfl)
theorem bl_Buffer : ∀ j, j < nfc 2 → defaultValue (ct 2 j) = vp_V [.null, .null, .null, .int 0, .int 0, .int 0, .int 0, .int 0] j := fun j hj => match j, hj with
  | 0, _ => rfl
  | 1, _ => rfl
  | 2, _ => rfl
  | 3, _ => rfl
  | 4, _ => rfl
  | 5, _ => rfl
  | 6, _ => rfl
  | 7, _ => rfl
  | j + 8, h => absurd (show j + 8 < 8 from h) (by omega)
set_option maxRecDepth 20000 in
theorem mi_Buffer : Cond.code y_Buffer_init b_Buffer_init 2 none ∈ AW ∧ Cond.instanceMethod y_Buffer_init ∈ AW ∧ Cond.initialized y_Buffer_init.cls ∈ AW ∧ (y_Buffer_init.cls ≠ "java/lang/invoke/MethodHandle" ∧ y_Buffer_init.cls ≠ "java/lang/invoke/VarHandle" ∧ (parseMethodDescriptor y_Buffer_init.desc).map (fun d => d.parameters.length) = some 0) := ⟨(aw (tw 98 rfl) rfl), (aw (tw 97 rfl) rfl), (aw (tw 7 rfl) rfl), by decide +kernel⟩
set_option maxRecDepth 20000 in
theorem in_Player : Cond.instantiable (cn 4) (nfc 4) ∈ AW := (aw (tw 129 rfl) rfl)
set_option maxRecDepth 20000 in
theorem ini_Player : Cond.initialized (cn 4) ∈ AW := (aw (tw 8 rfl) rfl)
theorem bl_Player : ∀ j, j < nfc 4 → defaultValue (ct 4 j) = vp_V [.null, .null, .int 0, .int 0, .int 0, .int 0] j := fun j hj => match j, hj with
  | 0, _ => rfl
  | 1, _ => rfl
  | 2, _ => rfl
  | 3, _ => rfl
  | 4, _ => rfl
  | 5, _ => rfl
  | j + 6, h => absurd (show j + 6 < 6 from h) (by omega)
set_option maxRecDepth 20000 in
theorem mi_Player : Cond.code y_Player_init b_Player_init 1 none ∈ AW ∧ Cond.instanceMethod y_Player_init ∈ AW ∧ Cond.initialized y_Player_init.cls ∈ AW ∧ (y_Player_init.cls ≠ "java/lang/invoke/MethodHandle" ∧ y_Player_init.cls ≠ "java/lang/invoke/VarHandle" ∧ (parseMethodDescriptor y_Player_init.desc).map (fun d => d.parameters.length) = some 0) := ⟨(aw (tw 132 rfl) rfl), (aw (tw 131 rfl) rfl), (aw (tw 8 rfl) rfl), by decide +kernel⟩
set_option maxRecDepth 20000 in
theorem in_Gate : Cond.instantiable (cn 0) (nfc 0) ∈ AW := (aw (tw 14 rfl) rfl)
set_option maxRecDepth 20000 in
theorem ini_Gate : Cond.initialized (cn 0) ∈ AW := (aw (tw 1 rfl) rfl)
theorem bl_Gate : ∀ j, j < nfc 0 → defaultValue (ct 0 j) = vp_V [.null, .null, .null, .null, .null, .null] j := fun j hj => match j, hj with
  | 0, _ => rfl
  | 1, _ => rfl
  | 2, _ => rfl
  | 3, _ => rfl
  | 4, _ => rfl
  | 5, _ => rfl
  | j + 6, h => absurd (show j + 6 < 6 from h) (by omega)
set_option maxRecDepth 20000 in
theorem mi_Gate : Cond.code y_Gate_init b_Gate_init 1 none ∈ AW ∧ Cond.instanceMethod y_Gate_init ∈ AW ∧ Cond.initialized y_Gate_init.cls ∈ AW ∧ (y_Gate_init.cls ≠ "java/lang/invoke/MethodHandle" ∧ y_Gate_init.cls ≠ "java/lang/invoke/VarHandle" ∧ (parseMethodDescriptor y_Gate_init.desc).map (fun d => d.parameters.length) = some 0) := ⟨(aw (tw 17 rfl) rfl), (aw (tw 16 rfl) rfl), (aw (tw 1 rfl) rfl), by decide +kernel⟩
set_option maxRecDepth 20000 in
theorem in_Model : Cond.instantiable (cn 8) (nfc 8) ∈ AW := (aw (tw 597 rfl) rfl)
set_option maxRecDepth 20000 in
theorem ini_Model : Cond.initialized (cn 8) ∈ AW := (aw (tw 9 rfl) rfl)
theorem bl_Model : ∀ j, j < nfc 8 → defaultValue (ct 8 j) = vp_V [.null, .int 0, .null, .int 0, .null, .int 0, .int 0, .int 0, .int 0, .int 0, .int 0, .null, .null, .int 0, .int 0, .int 0, .int 0, .int 0, .int 0, .int 0, .int 0, .null, .null, .int 0, .int 0] j := fun j hj => match j, hj with
  | 0, _ => rfl
  | 1, _ => rfl
  | 2, _ => rfl
  | 3, _ => rfl
  | 4, _ => rfl
  | 5, _ => rfl
  | 6, _ => rfl
  | 7, _ => rfl
  | 8, _ => rfl
  | 9, _ => rfl
  | 10, _ => rfl
  | 11, _ => rfl
  | 12, _ => rfl
  | 13, _ => rfl
  | 14, _ => rfl
  | 15, _ => rfl
  | 16, _ => rfl
  | 17, _ => rfl
  | 18, _ => rfl
  | 19, _ => rfl
  | 20, _ => rfl
  | 21, _ => rfl
  | 22, _ => rfl
  | 23, _ => rfl
  | 24, _ => rfl
  | j + 25, h => absurd (show j + 25 < 25 from h) (by omega)
set_option maxRecDepth 20000 in
theorem mi_Model : Cond.code y_Model_init b_Model_init 2 none ∈ AW ∧ Cond.instanceMethod y_Model_init ∈ AW ∧ Cond.initialized y_Model_init.cls ∈ AW ∧ (y_Model_init.cls ≠ "java/lang/invoke/MethodHandle" ∧ y_Model_init.cls ≠ "java/lang/invoke/VarHandle" ∧ (parseMethodDescriptor y_Model_init.desc).map (fun d => d.parameters.length) = some 0) := ⟨(aw (tw 600 rfl) rfl), (aw (tw 599 rfl) rfl), (aw (tw 9 rfl) rfl), by decide +kernel⟩
