section
-- ===== PART A: goes FIRST, ahead of the names: the tables' words, and 'selects' of the private methods out of them =====
/-- a private method of a class that the tables say can be made, by its rows of tables_1 -/
def lw_okq (q : MethodName × Nat) : Prop := (q.1.cls ≠ "java/lang/invoke/MethodHandle" ∧ q.1.cls ≠ "java/lang/invoke/VarHandle") ∧ Cond.instantiable q.1.cls q.2 ∈ tables_1 ∧ Cond.privateMethod q.1 ∈ tables_1 ∧ Cond.instanceMethod q.1 ∈ tables_1
theorem lw_p0 : lw_okq (⟨"VoiceGateway$Sender", "packAdaptive", "(LVoiceGateway$Packet;LVoiceGateway$Samples;I)V"⟩, 4) := ⟨⟨by decide +kernel, by decide +kernel⟩, List.mem_of_getElem? (i := 63) (by decide +kernel), List.mem_of_getElem? (i := 282) (by decide +kernel), List.mem_of_getElem? (i := 283) (by decide +kernel)⟩
theorem lw_p1 : lw_okq (⟨"VoiceGateway$Adaptive", "codeOf", "(I)I"⟩, 2) := ⟨⟨by decide +kernel, by decide +kernel⟩, List.mem_of_getElem? (i := 69) (by decide +kernel), List.mem_of_getElem? (i := 304) (by decide +kernel), List.mem_of_getElem? (i := 305) (by decide +kernel)⟩
theorem lw_p2 : lw_okq (⟨"VoiceGateway$Packet", "has", "(I)Z"⟩, 2) := ⟨⟨by decide +kernel, by decide +kernel⟩, List.mem_of_getElem? (i := 43) (by decide +kernel), List.mem_of_getElem? (i := 355) (by decide +kernel), List.mem_of_getElem? (i := 356) (by decide +kernel)⟩
theorem lw_p3 : lw_okq (⟨"VoiceGateway$Buffer", "judge", "(LVoiceGateway$Packet;)I"⟩, 8) := ⟨⟨by decide +kernel, by decide +kernel⟩, List.mem_of_getElem? (i := 95) (by decide +kernel), List.mem_of_getElem? (i := 406) (by decide +kernel), List.mem_of_getElem? (i := 407) (by decide +kernel)⟩
theorem lw_p4 : lw_okq (⟨"VoiceGateway$Packet", "coding", "()I"⟩, 2) := ⟨⟨by decide +kernel, by decide +kernel⟩, List.mem_of_getElem? (i := 43) (by decide +kernel), List.mem_of_getElem? (i := 418) (by decide +kernel), List.mem_of_getElem? (i := 419) (by decide +kernel)⟩
theorem lw_p5 : lw_okq (⟨"VoiceGateway$Packet", "fourAt", "(I)I"⟩, 2) := ⟨⟨by decide +kernel, by decide +kernel⟩, List.mem_of_getElem? (i := 43) (by decide +kernel), List.mem_of_getElem? (i := 429) (by decide +kernel), List.mem_of_getElem? (i := 430) (by decide +kernel)⟩
theorem lw_p6 : lw_okq (⟨"VoiceGateway$Packet", "pairAt", "(I)I"⟩, 2) := ⟨⟨by decide +kernel, by decide +kernel⟩, List.mem_of_getElem? (i := 43) (by decide +kernel), List.mem_of_getElem? (i := 433) (by decide +kernel), List.mem_of_getElem? (i := 434) (by decide +kernel)⟩
theorem lw_p7 : lw_okq (⟨"VoiceGateway$Buffer", "distanceOf", "(I)I"⟩, 8) := ⟨⟨by decide +kernel, by decide +kernel⟩, List.mem_of_getElem? (i := 95) (by decide +kernel), List.mem_of_getElem? (i := 441) (by decide +kernel), List.mem_of_getElem? (i := 442) (by decide +kernel)⟩
theorem lw_p8 : lw_okq (⟨"VoiceGateway$Player", "playPacket", "(LVoiceGateway$Packet;LVoiceGateway$Buffer;LVoiceGateway$Samples;)I"⟩, 6) := ⟨⟨by decide +kernel, by decide +kernel⟩, List.mem_of_getElem? (i := 129) (by decide +kernel), List.mem_of_getElem? (i := 478) (by decide +kernel), List.mem_of_getElem? (i := 479) (by decide +kernel)⟩
theorem lw_p9 : lw_okq (⟨"VoiceGateway$Packet", "readAdaptive", "(LVoiceGateway$Samples;LVoiceGateway$Adaptive;)V"⟩, 2) := ⟨⟨by decide +kernel, by decide +kernel⟩, List.mem_of_getElem? (i := 43) (by decide +kernel), List.mem_of_getElem? (i := 504) (by decide +kernel), List.mem_of_getElem? (i := 505) (by decide +kernel)⟩
theorem lw_p10 : lw_okq (⟨"VoiceGateway$Packet", "sampleAt", "(I)I"⟩, 2) := ⟨⟨by decide +kernel, by decide +kernel⟩, List.mem_of_getElem? (i := 43) (by decide +kernel), List.mem_of_getElem? (i := 508) (by decide +kernel), List.mem_of_getElem? (i := 509) (by decide +kernel)⟩
theorem lw_p11 : lw_okq (⟨"VoiceGateway$Player", "conceal", "(LVoiceGateway$Buffer;LVoiceGateway$Samples;)I"⟩, 6) := ⟨⟨by decide +kernel, by decide +kernel⟩, List.mem_of_getElem? (i := 129) (by decide +kernel), List.mem_of_getElem? (i := 531) (by decide +kernel), List.mem_of_getElem? (i := 532) (by decide +kernel)⟩
theorem lw_p12 : lw_okq (⟨"VoiceGateway$Player", "giveUp", "(LVoiceGateway$Buffer;)I"⟩, 6) := ⟨⟨by decide +kernel, by decide +kernel⟩, List.mem_of_getElem? (i := 129) (by decide +kernel), List.mem_of_getElem? (i := 538) (by decide +kernel), List.mem_of_getElem? (i := 539) (by decide +kernel)⟩
theorem lw_p13 : lw_okq (⟨"VoiceGatewayModel", "write", "(II)V"⟩, 25) := ⟨⟨by decide +kernel, by decide +kernel⟩, List.mem_of_getElem? (i := 597) (by decide +kernel), List.mem_of_getElem? (i := 710) (by decide +kernel), List.mem_of_getElem? (i := 711) (by decide +kernel)⟩
theorem lw_p14 : lw_okq (⟨"VoiceGatewayModel", "writeWord", "(II)V"⟩, 25) := ⟨⟨by decide +kernel, by decide +kernel⟩, List.mem_of_getElem? (i := 597) (by decide +kernel), List.mem_of_getElem? (i := 714) (by decide +kernel), List.mem_of_getElem? (i := 715) (by decide +kernel)⟩
theorem lw_p15 : lw_okq (⟨"VoiceGatewayModel", "samples", "(III)V"⟩, 25) := ⟨⟨by decide +kernel, by decide +kernel⟩, List.mem_of_getElem? (i := 597) (by decide +kernel), List.mem_of_getElem? (i := 718) (by decide +kernel), List.mem_of_getElem? (i := 719) (by decide +kernel)⟩
def lw_privs_1 : List (MethodName × Nat) := [(⟨"VoiceGateway$Sender", "packAdaptive", "(LVoiceGateway$Packet;LVoiceGateway$Samples;I)V"⟩, 4), (⟨"VoiceGateway$Adaptive", "codeOf", "(I)I"⟩, 2), (⟨"VoiceGateway$Packet", "has", "(I)Z"⟩, 2), (⟨"VoiceGateway$Buffer", "judge", "(LVoiceGateway$Packet;)I"⟩, 8), (⟨"VoiceGateway$Packet", "coding", "()I"⟩, 2), (⟨"VoiceGateway$Packet", "fourAt", "(I)I"⟩, 2), (⟨"VoiceGateway$Packet", "pairAt", "(I)I"⟩, 2), (⟨"VoiceGateway$Buffer", "distanceOf", "(I)I"⟩, 8), (⟨"VoiceGateway$Player", "playPacket", "(LVoiceGateway$Packet;LVoiceGateway$Buffer;LVoiceGateway$Samples;)I"⟩, 6), (⟨"VoiceGateway$Packet", "readAdaptive", "(LVoiceGateway$Samples;LVoiceGateway$Adaptive;)V"⟩, 2), (⟨"VoiceGateway$Packet", "sampleAt", "(I)I"⟩, 2), (⟨"VoiceGateway$Player", "conceal", "(LVoiceGateway$Buffer;LVoiceGateway$Samples;)I"⟩, 6), (⟨"VoiceGateway$Player", "giveUp", "(LVoiceGateway$Buffer;)I"⟩, 6), (⟨"VoiceGatewayModel", "write", "(II)V"⟩, 25), (⟨"VoiceGatewayModel", "writeWord", "(II)V"⟩, 25), (⟨"VoiceGatewayModel", "samples", "(III)V"⟩, 25)]
theorem lw_r1 : ∀ q ∈ lw_privs_1, lw_okq q := List.forall_mem_cons.mpr ⟨lw_p0, List.forall_mem_cons.mpr ⟨lw_p1, List.forall_mem_cons.mpr ⟨lw_p2, List.forall_mem_cons.mpr ⟨lw_p3, List.forall_mem_cons.mpr ⟨lw_p4, List.forall_mem_cons.mpr ⟨lw_p5, List.forall_mem_cons.mpr ⟨lw_p6, List.forall_mem_cons.mpr ⟨lw_p7, List.forall_mem_cons.mpr ⟨lw_p8, List.forall_mem_cons.mpr ⟨lw_p9, List.forall_mem_cons.mpr ⟨lw_p10, List.forall_mem_cons.mpr ⟨lw_p11, List.forall_mem_cons.mpr ⟨lw_p12, List.forall_mem_cons.mpr ⟨lw_p13, List.forall_mem_cons.mpr ⟨lw_p14, List.forall_mem_cons.mpr ⟨lw_p15, fun _ h => absurd h List.not_mem_nil⟩⟩⟩⟩⟩⟩⟩⟩⟩⟩⟩⟩⟩⟩⟩⟩
theorem lw_p16 : lw_okq (⟨"VoiceGatewayModel", "codeOf", "(I)I"⟩, 25) := ⟨⟨by decide +kernel, by decide +kernel⟩, List.mem_of_getElem? (i := 597) (by decide +kernel), List.mem_of_getElem? (i := 723) (by decide +kernel), List.mem_of_getElem? (i := 724) (by decide +kernel)⟩
theorem lw_p17 : lw_okq (⟨"VoiceGatewayModel", "change", "(I)V"⟩, 25) := ⟨⟨by decide +kernel, by decide +kernel⟩, List.mem_of_getElem? (i := 597) (by decide +kernel), List.mem_of_getElem? (i := 727) (by decide +kernel), List.mem_of_getElem? (i := 728) (by decide +kernel)⟩
theorem lw_p18 : lw_okq (⟨"VoiceGatewayModel", "there", "(II)Z"⟩, 25) := ⟨⟨by decide +kernel, by decide +kernel⟩, List.mem_of_getElem? (i := 597) (by decide +kernel), List.mem_of_getElem? (i := 739) (by decide +kernel), List.mem_of_getElem? (i := 740) (by decide +kernel)⟩
theorem lw_p19 : lw_okq (⟨"VoiceGatewayModel", "remove", "(I)V"⟩, 25) := ⟨⟨by decide +kernel, by decide +kernel⟩, List.mem_of_getElem? (i := 597) (by decide +kernel), List.mem_of_getElem? (i := 751) (by decide +kernel), List.mem_of_getElem? (i := 752) (by decide +kernel)⟩
theorem lw_p20 : lw_okq (⟨"VoiceGatewayModel", "copy", "(II)V"⟩, 25) := ⟨⟨by decide +kernel, by decide +kernel⟩, List.mem_of_getElem? (i := 597) (by decide +kernel), List.mem_of_getElem? (i := 755) (by decide +kernel), List.mem_of_getElem? (i := 756) (by decide +kernel)⟩
theorem lw_p21 : lw_okq (⟨"VoiceGatewayModel", "exchange", "(I)V"⟩, 25) := ⟨⟨by decide +kernel, by decide +kernel⟩, List.mem_of_getElem? (i := 597) (by decide +kernel), List.mem_of_getElem? (i := 759) (by decide +kernel), List.mem_of_getElem? (i := 760) (by decide +kernel)⟩
theorem lw_p22 : lw_okq (⟨"VoiceGatewayModel", "refusal", "()I"⟩, 25) := ⟨⟨by decide +kernel, by decide +kernel⟩, List.mem_of_getElem? (i := 597) (by decide +kernel), List.mem_of_getElem? (i := 767) (by decide +kernel), List.mem_of_getElem? (i := 768) (by decide +kernel)⟩
theorem lw_p23 : lw_okq (⟨"VoiceGatewayModel", "samplesOf", "(I)I"⟩, 25) := ⟨⟨by decide +kernel, by decide +kernel⟩, List.mem_of_getElem? (i := 597) (by decide +kernel), List.mem_of_getElem? (i := 771) (by decide +kernel), List.mem_of_getElem? (i := 772) (by decide +kernel)⟩
theorem lw_p24 : lw_okq (⟨"VoiceGatewayModel", "codingOf", "(I)I"⟩, 25) := ⟨⟨by decide +kernel, by decide +kernel⟩, List.mem_of_getElem? (i := 597) (by decide +kernel), List.mem_of_getElem? (i := 775) (by decide +kernel), List.mem_of_getElem? (i := 776) (by decide +kernel)⟩
theorem lw_p25 : lw_okq (⟨"VoiceGatewayModel", "pair", "(II)I"⟩, 25) := ⟨⟨by decide +kernel, by decide +kernel⟩, List.mem_of_getElem? (i := 597) (by decide +kernel), List.mem_of_getElem? (i := 779) (by decide +kernel), List.mem_of_getElem? (i := 780) (by decide +kernel)⟩
theorem lw_p26 : lw_okq (⟨"VoiceGatewayModel", "word", "(II)I"⟩, 25) := ⟨⟨by decide +kernel, by decide +kernel⟩, List.mem_of_getElem? (i := 597) (by decide +kernel), List.mem_of_getElem? (i := 783) (by decide +kernel), List.mem_of_getElem? (i := 784) (by decide +kernel)⟩
theorem lw_p27 : lw_okq (⟨"VoiceGatewayModel", "distance", "(I)I"⟩, 25) := ⟨⟨by decide +kernel, by decide +kernel⟩, List.mem_of_getElem? (i := 597) (by decide +kernel), List.mem_of_getElem? (i := 787) (by decide +kernel), List.mem_of_getElem? (i := 788) (by decide +kernel)⟩
theorem lw_p28 : lw_okq (⟨"VoiceGatewayModel", "held", "(I)I"⟩, 25) := ⟨⟨by decide +kernel, by decide +kernel⟩, List.mem_of_getElem? (i := 597) (by decide +kernel), List.mem_of_getElem? (i := 793) (by decide +kernel), List.mem_of_getElem? (i := 794) (by decide +kernel)⟩
theorem lw_p29 : lw_okq (⟨"VoiceGatewayModel", "buffered", "()I"⟩, 25) := ⟨⟨by decide +kernel, by decide +kernel⟩, List.mem_of_getElem? (i := 597) (by decide +kernel), List.mem_of_getElem? (i := 805) (by decide +kernel), List.mem_of_getElem? (i := 806) (by decide +kernel)⟩
theorem lw_p30 : lw_okq (⟨"VoiceGatewayModel", "playPacket", "(II)V"⟩, 25) := ⟨⟨by decide +kernel, by decide +kernel⟩, List.mem_of_getElem? (i := 597) (by decide +kernel), List.mem_of_getElem? (i := 809) (by decide +kernel), List.mem_of_getElem? (i := 810) (by decide +kernel)⟩
theorem lw_p31 : lw_okq (⟨"VoiceGatewayModel", "sampleOf", "(III)I"⟩, 25) := ⟨⟨by decide +kernel, by decide +kernel⟩, List.mem_of_getElem? (i := 597) (by decide +kernel), List.mem_of_getElem? (i := 813) (by decide +kernel), List.mem_of_getElem? (i := 814) (by decide +kernel)⟩
def lw_privs_2 : List (MethodName × Nat) := [(⟨"VoiceGatewayModel", "codeOf", "(I)I"⟩, 25), (⟨"VoiceGatewayModel", "change", "(I)V"⟩, 25), (⟨"VoiceGatewayModel", "there", "(II)Z"⟩, 25), (⟨"VoiceGatewayModel", "remove", "(I)V"⟩, 25), (⟨"VoiceGatewayModel", "copy", "(II)V"⟩, 25), (⟨"VoiceGatewayModel", "exchange", "(I)V"⟩, 25), (⟨"VoiceGatewayModel", "refusal", "()I"⟩, 25), (⟨"VoiceGatewayModel", "samplesOf", "(I)I"⟩, 25), (⟨"VoiceGatewayModel", "codingOf", "(I)I"⟩, 25), (⟨"VoiceGatewayModel", "pair", "(II)I"⟩, 25), (⟨"VoiceGatewayModel", "word", "(II)I"⟩, 25), (⟨"VoiceGatewayModel", "distance", "(I)I"⟩, 25), (⟨"VoiceGatewayModel", "held", "(I)I"⟩, 25), (⟨"VoiceGatewayModel", "buffered", "()I"⟩, 25), (⟨"VoiceGatewayModel", "playPacket", "(II)V"⟩, 25), (⟨"VoiceGatewayModel", "sampleOf", "(III)I"⟩, 25)]
theorem lw_r2 : ∀ q ∈ lw_privs_2, lw_okq q := List.forall_mem_cons.mpr ⟨lw_p16, List.forall_mem_cons.mpr ⟨lw_p17, List.forall_mem_cons.mpr ⟨lw_p18, List.forall_mem_cons.mpr ⟨lw_p19, List.forall_mem_cons.mpr ⟨lw_p20, List.forall_mem_cons.mpr ⟨lw_p21, List.forall_mem_cons.mpr ⟨lw_p22, List.forall_mem_cons.mpr ⟨lw_p23, List.forall_mem_cons.mpr ⟨lw_p24, List.forall_mem_cons.mpr ⟨lw_p25, List.forall_mem_cons.mpr ⟨lw_p26, List.forall_mem_cons.mpr ⟨lw_p27, List.forall_mem_cons.mpr ⟨lw_p28, List.forall_mem_cons.mpr ⟨lw_p29, List.forall_mem_cons.mpr ⟨lw_p30, List.forall_mem_cons.mpr ⟨lw_p31, fun _ h => absurd h List.not_mem_nil⟩⟩⟩⟩⟩⟩⟩⟩⟩⟩⟩⟩⟩⟩⟩⟩
theorem lw_p32 : lw_okq (⟨"VoiceGatewayModel", "conceal", "()V"⟩, 25) := ⟨⟨by decide +kernel, by decide +kernel⟩, List.mem_of_getElem? (i := 597) (by decide +kernel), List.mem_of_getElem? (i := 818) (by decide +kernel), List.mem_of_getElem? (i := 819) (by decide +kernel)⟩
theorem lw_p33 : lw_okq (⟨"VoiceGatewayModel", "rest", "()V"⟩, 25) := ⟨⟨by decide +kernel, by decide +kernel⟩, List.mem_of_getElem? (i := 597) (by decide +kernel), List.mem_of_getElem? (i := 822) (by decide +kernel), List.mem_of_getElem? (i := 823) (by decide +kernel)⟩
def lw_privs_3 : List (MethodName × Nat) := [(⟨"VoiceGatewayModel", "conceal", "()V"⟩, 25), (⟨"VoiceGatewayModel", "rest", "()V"⟩, 25)]
theorem lw_r3 : ∀ q ∈ lw_privs_3, lw_okq q := List.forall_mem_cons.mpr ⟨lw_p32, List.forall_mem_cons.mpr ⟨lw_p33, fun _ h => absurd h List.not_mem_nil⟩⟩
def lw_privs : List (MethodName × Nat) := lw_privs_1 ++ (lw_privs_2 ++ (lw_privs_3))
def lw_tbl : List Cond := k2_sels lw_privs ++ tables_1
theorem lw_privs_ok : ∀ q ∈ lw_privs, lw_okq q := by
  show ∀ q ∈ lw_privs_1 ++ (lw_privs_2 ++ (lw_privs_3)), lw_okq q
  exact List.forall_mem_append.mpr ⟨lw_r1, List.forall_mem_append.mpr ⟨lw_r2, lw_r3⟩⟩
end
section
-- NAMES: classes, fields, methods (printed by gen.py)
def R_Gate : String := "VoiceGateway"
def R_Adaptive : String := "VoiceGateway$Adaptive"
def R_Buffer : String := "VoiceGateway$Buffer"
def R_Intervals : String := "VoiceGateway$Intervals"
def R_Packet : String := "VoiceGateway$Packet"
def R_Player : String := "VoiceGateway$Player"
def R_Samples : String := "VoiceGateway$Samples"
def R_Sender : String := "VoiceGateway$Sender"
def R_Wire : String := "VoiceGateway$Wire"
def R_Model : String := "VoiceGatewayModel"
def R_Math : String := "java/lang/Math"
def T_Gate : u_T := fun k => match k with
  | 0 => ("VoiceGateway", "fedSamples", "LVoiceGateway$Samples;", true)
  | 1 => ("VoiceGateway", "playedSamples", "LVoiceGateway$Samples;", true)
  | 2 => ("VoiceGateway", "wire", "LVoiceGateway$Wire;", true)
  | 3 => ("VoiceGateway", "sender", "LVoiceGateway$Sender;", true)
  | 4 => ("VoiceGateway", "buffer", "LVoiceGateway$Buffer;", true)
  | _ => ("VoiceGateway", "player", "LVoiceGateway$Player;", true)
def t_Gate : Nat → FieldType := fun k => match k with
  | 0 => .object "VoiceGateway$Samples"
  | 1 => .object "VoiceGateway$Samples"
  | 2 => .object "VoiceGateway$Wire"
  | 3 => .object "VoiceGateway$Sender"
  | 4 => .object "VoiceGateway$Buffer"
  | _ => .object "VoiceGateway$Player"
def T_Adaptive : u_T := fun k => match k with
  | 0 => ("VoiceGateway$Adaptive", "value", "I", false)
  | _ => ("VoiceGateway$Adaptive", "index", "I", false)
def t_Adaptive : Nat → FieldType := fun k => match k with
  | 0 => .int
  | _ => .int
def T_Buffer : u_T := fun k => match k with
  | 0 => ("VoiceGateway$Buffer", "places", "[LVoiceGateway$Packet;", true)
  | 1 => ("VoiceGateway$Buffer", "taken", "[Z", true)
  | 2 => ("VoiceGateway$Buffer", "refusals", "[I", true)
  | 3 => ("VoiceGateway$Buffer", "state", "I", false)
  | 4 => ("VoiceGateway$Buffer", "count", "I", false)
  | 5 => ("VoiceGateway$Buffer", "next", "I", false)
  | 6 => ("VoiceGateway$Buffer", "source", "I", false)
  | _ => ("VoiceGateway$Buffer", "prefill", "I", false)
def t_Buffer : Nat → FieldType := fun k => match k with
  | 0 => .array (.object "VoiceGateway$Packet")
  | 1 => .array .boolean
  | 2 => .array .int
  | 3 => .int
  | 4 => .int
  | 5 => .int
  | 6 => .int
  | _ => .int
def T_Packet : u_T := fun k => match k with
  | 0 => ("VoiceGateway$Packet", "bytes", "[I", true)
  | _ => ("VoiceGateway$Packet", "count", "I", false)
def t_Packet : Nat → FieldType := fun k => match k with
  | 0 => .array .int
  | _ => .int
def T_Player : u_T := fun k => match k with
  | 0 => ("VoiceGateway$Player", "last", "LVoiceGateway$Samples;", true)
  | 1 => ("VoiceGateway$Player", "adaptive", "LVoiceGateway$Adaptive;", true)
  | 2 => ("VoiceGateway$Player", "expected", "I", false)
  | 3 => ("VoiceGateway$Player", "lostInRow", "I", false)
  | 4 => ("VoiceGateway$Player", "lost", "I", false)
  | _ => ("VoiceGateway$Player", "jumps", "I", false)
def t_Player : Nat → FieldType := fun k => match k with
  | 0 => .object "VoiceGateway$Samples"
  | 1 => .object "VoiceGateway$Adaptive"
  | 2 => .int
  | 3 => .int
  | 4 => .int
  | _ => .int
def T_Samples : u_T := fun k => match k with
  | 0 => ("VoiceGateway$Samples", "row", "[I", true)
  | _ => ("VoiceGateway$Samples", "count", "I", false)
def t_Samples : Nat → FieldType := fun k => match k with
  | 0 => .array .int
  | _ => .int
def T_Sender : u_T := fun k => match k with
  | 0 => ("VoiceGateway$Sender", "sequence", "I", false)
  | 1 => ("VoiceGateway$Sender", "time", "I", false)
  | 2 => ("VoiceGateway$Sender", "source", "I", false)
  | _ => ("VoiceGateway$Sender", "adaptive", "LVoiceGateway$Adaptive;", true)
def t_Sender : Nat → FieldType := fun k => match k with
  | 0 => .int
  | 1 => .int
  | 2 => .int
  | _ => .object "VoiceGateway$Adaptive"
def T_Wire : u_T := fun k => match k with
  | 0 => ("VoiceGateway$Wire", "packets", "[LVoiceGateway$Packet;", true)
  | _ => ("VoiceGateway$Wire", "count", "I", false)
def t_Wire : Nat → FieldType := fun k => match k with
  | 0 => .array (.object "VoiceGateway$Packet")
  | _ => .int
def T_Model : u_T := fun k => match k with
  | 0 => ("VoiceGatewayModel", "steps", "[I", true)
  | 1 => ("VoiceGatewayModel", "fed", "I", false)
  | 2 => ("VoiceGatewayModel", "input", "[I", true)
  | 3 => ("VoiceGatewayModel", "put", "I", false)
  | 4 => ("VoiceGatewayModel", "output", "[I", true)
  | 5 => ("VoiceGatewayModel", "sequence", "I", false)
  | 6 => ("VoiceGatewayModel", "time", "I", false)
  | 7 => ("VoiceGatewayModel", "source", "I", false)
  | 8 => ("VoiceGatewayModel", "value", "I", false)
  | 9 => ("VoiceGatewayModel", "index", "I", false)
  | 10 => ("VoiceGatewayModel", "packets", "I", false)
  | 11 => ("VoiceGatewayModel", "size", "[I", true)
  | 12 => ("VoiceGatewayModel", "bytes", "[I", true)
  | 13 => ("VoiceGatewayModel", "state", "I", false)
  | 14 => ("VoiceGatewayModel", "next", "I", false)
  | 15 => ("VoiceGatewayModel", "owner", "I", false)
  | 16 => ("VoiceGatewayModel", "fill", "I", false)
  | 17 => ("VoiceGatewayModel", "before", "Z", false)
  | 18 => ("VoiceGatewayModel", "expected", "I", false)
  | 19 => ("VoiceGatewayModel", "missing", "I", false)
  | 20 => ("VoiceGatewayModel", "many", "I", false)
  | 21 => ("VoiceGatewayModel", "last", "[I", true)
  | 22 => ("VoiceGatewayModel", "counts", "[I", true)
  | 23 => ("VoiceGatewayModel", "level", "I", false)
  | _ => ("VoiceGatewayModel", "place", "I", false)
def t_Model : Nat → FieldType := fun k => match k with
  | 0 => .array .int
  | 1 => .int
  | 2 => .array .int
  | 3 => .int
  | 4 => .array .int
  | 5 => .int
  | 6 => .int
  | 7 => .int
  | 8 => .int
  | 9 => .int
  | 10 => .int
  | 11 => .array .int
  | 12 => .array .int
  | 13 => .int
  | 14 => .int
  | 15 => .int
  | 16 => .int
  | 17 => .boolean
  | 18 => .int
  | 19 => .int
  | 20 => .int
  | 21 => .array .int
  | 22 => .array .int
  | 23 => .int
  | _ => .int
abbrev classes : List vw_C := [(R_Gate, T_Gate, 6), (R_Adaptive, T_Adaptive, 2), (R_Buffer, T_Buffer, 8), (R_Packet, T_Packet, 2), (R_Player, T_Player, 6), (R_Samples, T_Samples, 2), (R_Sender, T_Sender, 4), (R_Wire, T_Wire, 2), (R_Model, T_Model, 25)]
def cn (c : Nat) : String := match c with
  | 0 => R_Gate
  | 1 => R_Adaptive
  | 2 => R_Buffer
  | 3 => R_Packet
  | 4 => R_Player
  | 5 => R_Samples
  | 6 => R_Sender
  | 7 => R_Wire
  | _ => R_Model
def cT (c : Nat) : u_T := match c with
  | 0 => T_Gate
  | 1 => T_Adaptive
  | 2 => T_Buffer
  | 3 => T_Packet
  | 4 => T_Player
  | 5 => T_Samples
  | 6 => T_Sender
  | 7 => T_Wire
  | _ => T_Model
def ct (c : Nat) : Nat → FieldType := match c with
  | 0 => t_Gate
  | 1 => t_Adaptive
  | 2 => t_Buffer
  | 3 => t_Packet
  | 4 => t_Player
  | 5 => t_Samples
  | 6 => t_Sender
  | 7 => t_Wire
  | _ => t_Model
def kds : List Nat := [0, 5, 10, 5, 10, 5, 10, 7, 12, 6, 1, 4, 1, 2, 12, 11, 10, 8, 10, 10, 10, 10, 10, 10, 10, 3, 10, 3, 10, 3, 10, 3, 10, 3, 10, 3, 10, 3, 10, 3, 10, 3, 10, 3, 10, 3, 10, 3, 10, 3, 10, 3, 10, 3, 10, 3, 10]
def lns : List Nat := [0, 0, 64, 0, 256, 0, 16, 0, 8, 0, 0, 0, 0, 0, 8, 8, 8, 0, 89, 64, 256, 16, 704, 16, 10, 0, 44, 0, 44, 0, 44, 0, 44, 0, 44, 0, 44, 0, 44, 0, 44, 0, 44, 0, 44, 0, 44, 0, 44, 0, 44, 0, 44, 0, 44, 0, 44]
def nfs : List Nat := [6, 2, 8, 2, 6, 2, 4, 2, 25]
/-- which cell a field of references leads to: 0 where it holds a number -/
def tgc (c k j : Nat) : Nat := match c, j with
  | 0, 0 => 1
  | 0, 1 => 3
  | 0, 2 => 7
  | 0, 3 => 9
  | 0, 4 => 13
  | 0, 5 => 11
  | 2, 0 => 14
  | 2, 1 => 15
  | 2, 2 => 16
  | 3, 0 => k + 1
  | 4, 0 => 5
  | 4, 1 => 12
  | 5, 0 => k + 1
  | 6, 3 => 10
  | 7, 0 => 8
  | 8, 0 => 18
  | 8, 2 => 19
  | 8, 4 => 20
  | 8, 11 => 21
  | 8, 12 => 22
  | 8, 21 => 23
  | 8, 22 => 24
  | _, _ => 0
def tb_STEPS (j : Nat) : Int32 := ([7, 8, 9, 10, 11, 12, 13, 14, 16, 17, 19, 21, 23, 25, 28, 31, 34, 37, 41, 45, 50, 55, 60, 66, 73, 80, 88, 97, 107, 118, 130, 143, 157, 173, 190, 209, 230, 253, 279, 307, 337, 371, 408, 449, 494, 544, 598, 658, 724, 796, 876, 963, 1060, 1166, 1282, 1411, 1552, 1707, 1878, 2066, 2272, 2499, 2749, 3024, 3327, 3660, 4026, 4428, 4871, 5358, 5894, 6484, 7132, 7845, 8630, 9493, 10442, 11487, 12635, 13899, 15289, 16818, 18500, 20350, 22385, 24623, 27086, 29794, 32767] : List Int32).getD j 0
def tb_TYPES (j : Nat) : Int32 := ([8, 0, 5, 11] : List Int32).getD j 0
def n_Sender : Nat := 56
def n_Buffer : Nat := 75
def y_Intervals_has : MethodName := ⟨R_Intervals, "has", "(I)Z"⟩
abbrev b_Intervals_has : ByteArray := prog_4_method_2_code
def y_Gate_isSample : MethodName := ⟨R_Gate, "isSample", "(I)Z"⟩
abbrev b_Gate_isSample : ByteArray := prog_1_method_18_code
def y_Intervals_segmentOf : MethodName := ⟨R_Intervals, "segmentOf", "(I)I"⟩
abbrev b_Intervals_segmentOf : ByteArray := prog_4_method_10_code
def y_Intervals_codeOf0 : MethodName := ⟨R_Intervals, "codeOf0", "(I)I"⟩
abbrev b_Intervals_codeOf0 : ByteArray := prog_4_method_5_code
def y_Intervals_codeOf1 : MethodName := ⟨R_Intervals, "codeOf1", "(I)I"⟩
abbrev b_Intervals_codeOf1 : ByteArray := prog_4_method_7_code
def y_Intervals_codeOf : MethodName := ⟨R_Intervals, "codeOf", "(II)I"⟩
abbrev b_Intervals_codeOf : ByteArray := prog_4_method_3_code
def y_Gate_compress : MethodName := ⟨R_Gate, "compress", "(II)I"⟩
abbrev b_Gate_compress : ByteArray := prog_1_method_2_code
def y_Gate_isByte : MethodName := ⟨R_Gate, "isByte", "(I)Z"⟩
abbrev b_Gate_isByte : ByteArray := prog_1_method_19_code
def y_Intervals_middleOfInterval : MethodName := ⟨R_Intervals, "middleOfInterval", "(II)I"⟩
abbrev b_Intervals_middleOfInterval : ByteArray := prog_4_method_9_code
def y_Intervals_middleOf0 : MethodName := ⟨R_Intervals, "middleOf0", "(I)I"⟩
abbrev b_Intervals_middleOf0 : ByteArray := prog_4_method_6_code
def y_Intervals_middleOf1 : MethodName := ⟨R_Intervals, "middleOf1", "(I)I"⟩
abbrev b_Intervals_middleOf1 : ByteArray := prog_4_method_8_code
def y_Intervals_middleOf : MethodName := ⟨R_Intervals, "middleOf", "(II)I"⟩
abbrev b_Intervals_middleOf : ByteArray := prog_4_method_4_code
def y_Gate_expand : MethodName := ⟨R_Gate, "expand", "(II)I"⟩
abbrev b_Gate_expand : ByteArray := prog_1_method_3_code
def y_Samples_hasRoom : MethodName := ⟨R_Samples, "hasRoom", "(I)Z"⟩
abbrev b_Samples_hasRoom : ByteArray := prog_7_method_3_code
def y_Samples_add : MethodName := ⟨R_Samples, "add", "(I)V"⟩
abbrev b_Samples_add : ByteArray := prog_7_method_5_code
def y_Gate_feed : MethodName := ⟨R_Gate, "feed", "(I)Z"⟩
abbrev b_Gate_feed : ByteArray := prog_1_method_4_code
def y_Sender_restart : MethodName := ⟨R_Sender, "restart", "(III)V"⟩
abbrev b_Sender_restart : ByteArray := prog_8_method_3_code
def y_Gate_begin : MethodName := ⟨R_Gate, "begin", "(III)Z"⟩
abbrev b_Gate_begin : ByteArray := prog_1_method_5_code
def y_Sender_canPack : MethodName := ⟨R_Sender, "canPack", "(II)Z"⟩
abbrev b_Sender_canPack : ByteArray := prog_8_method_2_code
def y_Samples_size : MethodName := ⟨R_Samples, "size", "()I"⟩
abbrev b_Samples_size : ByteArray := prog_7_method_2_code
def y_Packet_clear : MethodName := ⟨R_Packet, "clear", "()V"⟩
abbrev b_Packet_clear : ByteArray := prog_5_method_7_code
def y_Wire_append : MethodName := ⟨R_Wire, "append", "()LVoiceGateway$Packet;"⟩
abbrev b_Wire_append : ByteArray := prog_9_method_4_code
def y_Packet_addByte : MethodName := ⟨R_Packet, "addByte", "(I)V"⟩
abbrev b_Packet_addByte : ByteArray := prog_5_method_9_code
def y_Packet_addHead : MethodName := ⟨R_Packet, "addHead", "(IZ)V"⟩
abbrev b_Packet_addHead : ByteArray := prog_5_method_12_code
def y_Packet_addPair : MethodName := ⟨R_Packet, "addPair", "(I)V"⟩
abbrev b_Packet_addPair : ByteArray := prog_5_method_10_code
def y_Packet_addFour : MethodName := ⟨R_Packet, "addFour", "(I)V"⟩
abbrev b_Packet_addFour : ByteArray := prog_5_method_11_code
def y_Adaptive_value : MethodName := ⟨R_Adaptive, "value", "()I"⟩
abbrev b_Adaptive_value : ByteArray := prog_2_method_3_code
def y_Adaptive_index : MethodName := ⟨R_Adaptive, "index", "()I"⟩
abbrev b_Adaptive_index : ByteArray := prog_2_method_4_code
def y_Samples_get : MethodName := ⟨R_Samples, "get", "(I)I"⟩
abbrev b_Samples_get : ByteArray := prog_7_method_4_code
def y_Adaptive_codeOf : MethodName := ⟨R_Adaptive, "codeOf", "(I)I"⟩
abbrev b_Adaptive_codeOf : ByteArray := prog_2_method_7_code
def y_Adaptive_within : MethodName := ⟨R_Adaptive, "within", "(III)I"⟩
abbrev b_Adaptive_within : ByteArray := prog_2_method_9_code
def y_Adaptive_changeBy : MethodName := ⟨R_Adaptive, "changeBy", "(I)V"⟩
abbrev b_Adaptive_changeBy : ByteArray := prog_2_method_8_code
def y_Adaptive_codeAndChange : MethodName := ⟨R_Adaptive, "codeAndChange", "(I)I"⟩
abbrev b_Adaptive_codeAndChange : ByteArray := prog_2_method_6_code
def y_Sender_packAdaptive : MethodName := ⟨R_Sender, "packAdaptive", "(LVoiceGateway$Packet;LVoiceGateway$Samples;I)V"⟩
abbrev b_Sender_packAdaptive : ByteArray := prog_8_method_9_code
def y_Sender_packPlain : MethodName := ⟨R_Sender, "packPlain", "(LVoiceGateway$Packet;ILVoiceGateway$Samples;I)V"⟩
abbrev b_Sender_packPlain : ByteArray := prog_8_method_8_code
def y_Gate_sequenceAfter : MethodName := ⟨R_Gate, "sequenceAfter", "(I)I"⟩
abbrev b_Gate_sequenceAfter : ByteArray := prog_1_method_20_code
def y_Sender_pack : MethodName := ⟨R_Sender, "pack", "(LVoiceGateway$Packet;IZLVoiceGateway$Samples;I)V"⟩
abbrev b_Sender_pack : ByteArray := prog_8_method_7_code
def y_Samples_dropFirst : MethodName := ⟨R_Samples, "dropFirst", "(I)V"⟩
abbrev b_Samples_dropFirst : ByteArray := prog_7_method_7_code
def y_Packet_length : MethodName := ⟨R_Packet, "length", "()I"⟩
abbrev b_Packet_length : ByteArray := prog_5_method_2_code
def y_Gate_send : MethodName := ⟨R_Gate, "send", "(IIZ)I"⟩
abbrev b_Gate_send : ByteArray := prog_1_method_6_code
def y_Wire_size : MethodName := ⟨R_Wire, "size", "()I"⟩
abbrev b_Wire_size : ByteArray := prog_9_method_2_code
def y_Gate_line : MethodName := ⟨R_Gate, "line", "()I"⟩
abbrev b_Gate_line : ByteArray := prog_1_method_7_code
def y_Wire_at : MethodName := ⟨R_Wire, "at", "(I)LVoiceGateway$Packet;"⟩
abbrev b_Wire_at : ByteArray := prog_9_method_3_code
def y_Packet_has : MethodName := ⟨R_Packet, "has", "(I)Z"⟩
abbrev b_Packet_has : ByteArray := prog_5_method_5_code
def y_Packet_get : MethodName := ⟨R_Packet, "get", "(I)I"⟩
abbrev b_Packet_get : ByteArray := prog_5_method_3_code
def y_Gate_byteAt : MethodName := ⟨R_Gate, "byteAt", "(II)I"⟩
abbrev b_Gate_byteAt : ByteArray := prog_1_method_8_code
def y_Packet_put : MethodName := ⟨R_Packet, "put", "(II)Z"⟩
abbrev b_Packet_put : ByteArray := prog_5_method_4_code
def y_Gate_poke : MethodName := ⟨R_Gate, "poke", "(III)Z"⟩
abbrev b_Gate_poke : ByteArray := prog_1_method_9_code
def y_Wire_lose : MethodName := ⟨R_Wire, "lose", "(I)Z"⟩
abbrev b_Wire_lose : ByteArray := prog_9_method_5_code
def y_Wire_exchange : MethodName := ⟨R_Wire, "exchange", "(I)Z"⟩
abbrev b_Wire_exchange : ByteArray := prog_9_method_6_code
def y_Packet_copyFrom : MethodName := ⟨R_Packet, "copyFrom", "(LVoiceGateway$Packet;)V"⟩
abbrev b_Packet_copyFrom : ByteArray := prog_5_method_8_code
def y_Wire_repeat : MethodName := ⟨R_Wire, "repeat", "(I)Z"⟩
abbrev b_Wire_repeat : ByteArray := prog_9_method_7_code
def y_Packet_cutLast : MethodName := ⟨R_Packet, "cutLast", "()Z"⟩
abbrev b_Packet_cutLast : ByteArray := prog_5_method_6_code
def y_Wire_shorten : MethodName := ⟨R_Wire, "shorten", "(I)Z"⟩
abbrev b_Wire_shorten : ByteArray := prog_9_method_8_code
def y_Gate_disturb : MethodName := ⟨R_Gate, "disturb", "(II)Z"⟩
abbrev b_Gate_disturb : ByteArray := prog_1_method_10_code
def y_Packet_coding : MethodName := ⟨R_Packet, "coding", "()I"⟩
abbrev b_Packet_coding : ByteArray := prog_5_method_20_code
def y_Packet_samplesIn : MethodName := ⟨R_Packet, "samplesIn", "()I"⟩
abbrev b_Packet_samplesIn : ByteArray := prog_5_method_21_code
def y_Adaptive_isIndex : MethodName := ⟨R_Adaptive, "isIndex", "(I)Z"⟩
abbrev b_Adaptive_isIndex : ByteArray := prog_2_method_2_code
def y_Packet_isSound : MethodName := ⟨R_Packet, "isSound", "()Z"⟩
abbrev b_Packet_isSound : ByteArray := prog_5_method_22_code
def y_Packet_pairAt : MethodName := ⟨R_Packet, "pairAt", "(I)I"⟩
abbrev b_Packet_pairAt : ByteArray := prog_5_method_13_code
def y_Packet_fourAt : MethodName := ⟨R_Packet, "fourAt", "(I)I"⟩
abbrev b_Packet_fourAt : ByteArray := prog_5_method_14_code
def y_Packet_source : MethodName := ⟨R_Packet, "source", "()I"⟩
abbrev b_Packet_source : ByteArray := prog_5_method_19_code
def y_Packet_sequence : MethodName := ⟨R_Packet, "sequence", "()I"⟩
abbrev b_Packet_sequence : ByteArray := prog_5_method_17_code
def y_Math_floorMod : MethodName := ⟨R_Math, "floorMod", "(II)I"⟩
abbrev b_Math_floorMod : ByteArray := prog_12_method_50_code
def y_Buffer_distanceOf : MethodName := ⟨R_Buffer, "distanceOf", "(I)I"⟩
abbrev b_Buffer_distanceOf : ByteArray := prog_3_method_9_code
def y_Buffer_placeOf : MethodName := ⟨R_Buffer, "placeOf", "(I)I"⟩
abbrev b_Buffer_placeOf : ByteArray := prog_3_method_10_code
def y_Buffer_judge : MethodName := ⟨R_Buffer, "judge", "(LVoiceGateway$Packet;)I"⟩
abbrev b_Buffer_judge : ByteArray := prog_3_method_8_code
def y_Buffer_accept : MethodName := ⟨R_Buffer, "accept", "(LVoiceGateway$Packet;)I"⟩
abbrev b_Buffer_accept : ByteArray := prog_3_method_7_code
def y_Gate_receive : MethodName := ⟨R_Gate, "receive", "()I"⟩
abbrev b_Gate_receive : ByteArray := prog_1_method_11_code
def y_Buffer_setPrefill : MethodName := ⟨R_Buffer, "setPrefill", "(I)Z"⟩
abbrev b_Buffer_setPrefill : ByteArray := prog_3_method_6_code
def y_Gate_prefill : MethodName := ⟨R_Gate, "prefill", "(I)Z"⟩
abbrev b_Gate_prefill : ByteArray := prog_1_method_12_code
def y_Buffer_isReady : MethodName := ⟨R_Buffer, "isReady", "()Z"⟩
abbrev b_Buffer_isReady : ByteArray := prog_3_method_11_code
def y_Buffer_due : MethodName := ⟨R_Buffer, "due", "()LVoiceGateway$Packet;"⟩
abbrev b_Buffer_due : ByteArray := prog_3_method_12_code
def y_Buffer_state : MethodName := ⟨R_Buffer, "state", "()I"⟩
abbrev b_Buffer_state : ByteArray := prog_3_method_2_code
def y_Packet_hasMark : MethodName := ⟨R_Packet, "hasMark", "()Z"⟩
abbrev b_Packet_hasMark : ByteArray := prog_5_method_16_code
def y_Packet_time : MethodName := ⟨R_Packet, "time", "()I"⟩
abbrev b_Packet_time : ByteArray := prog_5_method_18_code
def y_Samples_clear : MethodName := ⟨R_Samples, "clear", "()V"⟩
abbrev b_Samples_clear : ByteArray := prog_7_method_8_code
def y_Packet_sampleAt : MethodName := ⟨R_Packet, "sampleAt", "(I)I"⟩
abbrev b_Packet_sampleAt : ByteArray := prog_5_method_15_code
def y_Adaptive_set : MethodName := ⟨R_Adaptive, "set", "(II)V"⟩
abbrev b_Adaptive_set : ByteArray := prog_2_method_5_code
def y_Packet_readAdaptive : MethodName := ⟨R_Packet, "readAdaptive", "(LVoiceGateway$Samples;LVoiceGateway$Adaptive;)V"⟩
abbrev b_Packet_readAdaptive : ByteArray := prog_5_method_24_code
def y_Packet_readInto : MethodName := ⟨R_Packet, "readInto", "(LVoiceGateway$Samples;LVoiceGateway$Adaptive;)V"⟩
abbrev b_Packet_readInto : ByteArray := prog_5_method_23_code
def y_Samples_addFirstOf : MethodName := ⟨R_Samples, "addFirstOf", "(LVoiceGateway$Samples;I)V"⟩
abbrev b_Samples_addFirstOf : ByteArray := prog_7_method_6_code
def y_Buffer_goOn : MethodName := ⟨R_Buffer, "goOn", "()V"⟩
abbrev b_Buffer_goOn : ByteArray := prog_3_method_13_code
def y_Player_playPacket : MethodName := ⟨R_Player, "playPacket", "(LVoiceGateway$Packet;LVoiceGateway$Buffer;LVoiceGateway$Samples;)I"⟩
abbrev b_Player_playPacket : ByteArray := prog_6_method_5_code
def y_Player_conceal : MethodName := ⟨R_Player, "conceal", "(LVoiceGateway$Buffer;LVoiceGateway$Samples;)I"⟩
abbrev b_Player_conceal : ByteArray := prog_6_method_6_code
def y_Buffer_comeToRest : MethodName := ⟨R_Buffer, "comeToRest", "()V"⟩
abbrev b_Buffer_comeToRest : ByteArray := prog_3_method_14_code
def y_Player_giveUp : MethodName := ⟨R_Player, "giveUp", "(LVoiceGateway$Buffer;)I"⟩
abbrev b_Player_giveUp : ByteArray := prog_6_method_7_code
def y_Player_playNext : MethodName := ⟨R_Player, "playNext", "(LVoiceGateway$Buffer;LVoiceGateway$Samples;)I"⟩
abbrev b_Player_playNext : ByteArray := prog_6_method_4_code
def y_Gate_play : MethodName := ⟨R_Gate, "play", "()I"⟩
abbrev b_Gate_play : ByteArray := prog_1_method_13_code
def y_Gate_output : MethodName := ⟨R_Gate, "output", "()I"⟩
abbrev b_Gate_output : ByteArray := prog_1_method_14_code
def y_Gate_sample : MethodName := ⟨R_Gate, "sample", "(I)I"⟩
abbrev b_Gate_sample : ByteArray := prog_1_method_15_code
def y_Gate_pass : MethodName := ⟨R_Gate, "pass", "(I)Z"⟩
abbrev b_Gate_pass : ByteArray := prog_1_method_16_code
def y_Buffer_size : MethodName := ⟨R_Buffer, "size", "()I"⟩
abbrev b_Buffer_size : ByteArray := prog_3_method_3_code
def y_Buffer_nextSequence : MethodName := ⟨R_Buffer, "nextSequence", "()I"⟩
abbrev b_Buffer_nextSequence : ByteArray := prog_3_method_4_code
def y_Buffer_refusals : MethodName := ⟨R_Buffer, "refusals", "(I)I"⟩
abbrev b_Buffer_refusals : ByteArray := prog_3_method_5_code
def y_Player_lostPackets : MethodName := ⟨R_Player, "lostPackets", "()I"⟩
abbrev b_Player_lostPackets : ByteArray := prog_6_method_2_code
def y_Player_jumps : MethodName := ⟨R_Player, "jumps", "()I"⟩
abbrev b_Player_jumps : ByteArray := prog_6_method_3_code
def y_Sender_value : MethodName := ⟨R_Sender, "value", "()I"⟩
abbrev b_Sender_value : ByteArray := prog_8_method_5_code
def y_Sender_index : MethodName := ⟨R_Sender, "index", "()I"⟩
abbrev b_Sender_index : ByteArray := prog_8_method_6_code
def y_Sender_nextSequence : MethodName := ⟨R_Sender, "nextSequence", "()I"⟩
abbrev b_Sender_nextSequence : ByteArray := prog_8_method_4_code
def y_Gate_figure : MethodName := ⟨R_Gate, "figure", "(I)I"⟩
abbrev b_Gate_figure : ByteArray := prog_1_method_17_code
def y_Model_isSample : MethodName := ⟨R_Model, "isSample", "(I)Z"⟩
abbrev b_Model_isSample : ByteArray := prog_11_method_2_code
def y_Model_begins : MethodName := ⟨R_Model, "begins", "(II)I"⟩
abbrev b_Model_begins : ByteArray := prog_11_method_3_code
def y_Model_compress : MethodName := ⟨R_Model, "compress", "(II)I"⟩
abbrev b_Model_compress : ByteArray := prog_11_method_5_code
def y_Model_half : MethodName := ⟨R_Model, "half", "(II)I"⟩
abbrev b_Model_half : ByteArray := prog_11_method_4_code
def y_Model_expand : MethodName := ⟨R_Model, "expand", "(II)I"⟩
abbrev b_Model_expand : ByteArray := prog_11_method_6_code
def y_Model_feed : MethodName := ⟨R_Model, "feed", "(I)Z"⟩
abbrev b_Model_feed : ByteArray := prog_11_method_9_code
def y_Model_begin : MethodName := ⟨R_Model, "begin", "(III)Z"⟩
abbrev b_Model_begin : ByteArray := prog_11_method_10_code
def y_Model_write : MethodName := ⟨R_Model, "write", "(II)V"⟩
abbrev b_Model_write : ByteArray := prog_11_method_11_code
def y_Model_writeWord : MethodName := ⟨R_Model, "writeWord", "(II)V"⟩
abbrev b_Model_writeWord : ByteArray := prog_11_method_12_code
def y_Model_codeOf : MethodName := ⟨R_Model, "codeOf", "(I)I"⟩
abbrev b_Model_codeOf : ByteArray := prog_11_method_8_code
def y_Model_change : MethodName := ⟨R_Model, "change", "(I)V"⟩
abbrev b_Model_change : ByteArray := prog_11_method_7_code
def y_Model_samples : MethodName := ⟨R_Model, "samples", "(III)V"⟩
abbrev b_Model_samples : ByteArray := prog_11_method_13_code
def y_Model_send : MethodName := ⟨R_Model, "send", "(IIZ)I"⟩
abbrev b_Model_send : ByteArray := prog_11_method_14_code
def y_Model_line : MethodName := ⟨R_Model, "line", "()I"⟩
abbrev b_Model_line : ByteArray := prog_11_method_15_code
def y_Model_there : MethodName := ⟨R_Model, "there", "(II)Z"⟩
abbrev b_Model_there : ByteArray := prog_11_method_16_code
def y_Model_byteAt : MethodName := ⟨R_Model, "byteAt", "(II)I"⟩
abbrev b_Model_byteAt : ByteArray := prog_11_method_17_code
def y_Model_poke : MethodName := ⟨R_Model, "poke", "(III)Z"⟩
abbrev b_Model_poke : ByteArray := prog_11_method_18_code
def y_Model_copy : MethodName := ⟨R_Model, "copy", "(II)V"⟩
abbrev b_Model_copy : ByteArray := prog_11_method_19_code
def y_Model_remove : MethodName := ⟨R_Model, "remove", "(I)V"⟩
abbrev b_Model_remove : ByteArray := prog_11_method_20_code
def y_Model_exchange : MethodName := ⟨R_Model, "exchange", "(I)V"⟩
abbrev b_Model_exchange : ByteArray := prog_11_method_21_code
def y_Model_disturb : MethodName := ⟨R_Model, "disturb", "(II)Z"⟩
abbrev b_Model_disturb : ByteArray := prog_11_method_22_code
def y_Model_codingOf : MethodName := ⟨R_Model, "codingOf", "(I)I"⟩
abbrev b_Model_codingOf : ByteArray := prog_11_method_25_code
def y_Model_samplesOf : MethodName := ⟨R_Model, "samplesOf", "(I)I"⟩
abbrev b_Model_samplesOf : ByteArray := prog_11_method_26_code
def y_Model_pair : MethodName := ⟨R_Model, "pair", "(II)I"⟩
abbrev b_Model_pair : ByteArray := prog_11_method_23_code
def y_Model_word : MethodName := ⟨R_Model, "word", "(II)I"⟩
abbrev b_Model_word : ByteArray := prog_11_method_24_code
def y_Model_distance : MethodName := ⟨R_Model, "distance", "(I)I"⟩
abbrev b_Model_distance : ByteArray := prog_11_method_27_code
def y_Model_held : MethodName := ⟨R_Model, "held", "(I)I"⟩
abbrev b_Model_held : ByteArray := prog_11_method_28_code
def y_Model_refusal : MethodName := ⟨R_Model, "refusal", "()I"⟩
abbrev b_Model_refusal : ByteArray := prog_11_method_30_code
def y_Model_receive : MethodName := ⟨R_Model, "receive", "()I"⟩
abbrev b_Model_receive : ByteArray := prog_11_method_31_code
def y_Model_prefill : MethodName := ⟨R_Model, "prefill", "(I)Z"⟩
abbrev b_Model_prefill : ByteArray := prog_11_method_32_code
def y_Model_buffered : MethodName := ⟨R_Model, "buffered", "()I"⟩
abbrev b_Model_buffered : ByteArray := prog_11_method_29_code
def y_Model_sampleOf : MethodName := ⟨R_Model, "sampleOf", "(III)I"⟩
abbrev b_Model_sampleOf : ByteArray := prog_11_method_33_code
def y_Model_playPacket : MethodName := ⟨R_Model, "playPacket", "(II)V"⟩
abbrev b_Model_playPacket : ByteArray := prog_11_method_34_code
def y_Model_rest : MethodName := ⟨R_Model, "rest", "()V"⟩
abbrev b_Model_rest : ByteArray := prog_11_method_35_code
def y_Model_conceal : MethodName := ⟨R_Model, "conceal", "()V"⟩
abbrev b_Model_conceal : ByteArray := prog_11_method_36_code
def y_Model_play : MethodName := ⟨R_Model, "play", "()I"⟩
abbrev b_Model_play : ByteArray := prog_11_method_37_code
def y_Model_output : MethodName := ⟨R_Model, "output", "()I"⟩
abbrev b_Model_output : ByteArray := prog_11_method_38_code
def y_Model_sample : MethodName := ⟨R_Model, "sample", "(I)I"⟩
abbrev b_Model_sample : ByteArray := prog_11_method_39_code
def y_Model_pass : MethodName := ⟨R_Model, "pass", "(I)Z"⟩
abbrev b_Model_pass : ByteArray := prog_11_method_40_code
def y_Model_figure : MethodName := ⟨R_Model, "figure", "(I)I"⟩
abbrev b_Model_figure : ByteArray := prog_11_method_41_code
def y_Adaptive_init : MethodName := ⟨R_Adaptive, "<init>", "()V"⟩
abbrev b_Adaptive_init : ByteArray := prog_2_method_1_code
def y_Samples_init : MethodName := ⟨R_Samples, "<init>", "(I)V"⟩
abbrev b_Samples_init : ByteArray := prog_7_method_1_code
def y_Packet_init : MethodName := ⟨R_Packet, "<init>", "()V"⟩
abbrev b_Packet_init : ByteArray := prog_5_method_1_code
def y_Wire_init : MethodName := ⟨R_Wire, "<init>", "()V"⟩
abbrev b_Wire_init : ByteArray := prog_9_method_1_code
def y_Sender_init : MethodName := ⟨R_Sender, "<init>", "()V"⟩
abbrev b_Sender_init : ByteArray := prog_8_method_1_code
def y_Buffer_init : MethodName := ⟨R_Buffer, "<init>", "()V"⟩
abbrev b_Buffer_init : ByteArray := prog_3_method_1_code
def y_Player_init : MethodName := ⟨R_Player, "<init>", "()V"⟩
abbrev b_Player_init : ByteArray := prog_6_method_1_code
def y_Gate_init : MethodName := ⟨R_Gate, "<init>", "()V"⟩
abbrev b_Gate_init : ByteArray := prog_1_method_1_code
def y_Model_init : MethodName := ⟨R_Model, "<init>", "()V"⟩
abbrev b_Model_init : ByteArray := prog_11_method_1_code
end
section
-- THE LAYER: one memory for all cells; a judgement WW over it; a row for each instruction
abbrev Mem : Type := Nat → Nat → Int32
def kd (k : Nat) : Nat := kds.getD k 99
def ln (k : Nat) : Nat := lns.getD k 0
def nfc (c : Nat) : Nat := nfs.getD c 0
theorem kd_lt {k c : Nat} (h : kd k = c) (hc : c < 99) : k < 57 := by
  rcases Nat.lt_or_ge k 57 with q | q
  · exact q
  · have : kd k = 99 := by
      unfold kd
      rw [List.getD_eq_getElem?_getD, List.getElem?_eq_none (by exact q)]
      rfl
    omega
/-- the cell at number k, with contents row -/
def fdc (c : Nat) (a : Nat → Nat) (k : Nat) (row : Nat → Int32) : List Value := (List.range (nfc c)).map (fun j => if tgc c k j = 0 then Value.int (row j) else Value.ref (a (tgc c k j)))
def ce (ca : Nat → ClassId) (a : Nat → Nat) (k : Nat) (row : Nat → Int32) : va_E :=
  if kd k = 10 then .inl (ca 0, ln k, .inl row) else if kd k = 11 then .inl (ca 1, ln k, .inl row)
  else if kd k = 12 then .inl (ca 2, ln k, .inr (.inr (.inr (.inr (fun j => some (a (row j).toNatClampNeg)))))) else .inr (kd k, fdc (kd k) a k row)
def WL (ca : Nat → ClassId) (a : Nat → Nat) (μ : Mem) : va_W := (List.range 57).map (fun k => (a k, ce ca a k (μ k)))
def stm (μ : Mem) (k : Nat) (r : Nat → Int32) : Mem := fun k' => if k' = k then r else μ k'
theorem stm_same (μ : Mem) (k : Nat) (r : Nat → Int32) : stm μ k r k = r := if_pos rfl
theorem stm_ne (μ : Mem) {k k' : Nat} (r : Nat → Int32) (h : k' ≠ k) : stm μ k r k' = μ k' := if_neg h
/-- pieces of the pure functions -/
def put (μ : Mem) (k j : Nat) (x : Int32) : Mem := stm μ k (upd (μ k) j x)
def bnd {α β : Type} (x : α) (f : α → β) : β := f x
theorem bnd_at {α β : Type} {x y : α} {f : α → β} {r : β} (h : bnd x f = r) (e : y = x) : f y = r := by subst e; exact h
def gp {β : Type} (c : Prop) [Decidable c] (e : Option β) : Option β := if c then e else none
theorem gp_at {β : Type} {c : Prop} [Decidable c] {e : Option β} {r : β} (h : gp c e = some r) : c ∧ e = some r := by
  unfold gp at h
  by_cases hc : c
  · rw [if_pos hc] at h
    exact ⟨hc, h⟩
  · rw [if_neg hc] at h
    cases h
theorem gd_at {β : Type} {c : Prop} [Decidable c] {e : Option β} {r : β} (h : (if c then none else e) = some r) : ¬ c ∧ e = some r := by
  by_cases hc : c
  · rw [if_pos hc] at h
    cases h
  · rw [if_neg hc] at h
    exact ⟨hc, h⟩
def rd {α β : Type} (o : Option α) (f : α → Option β) : Option β := match o with
  | none => none
  | some x => f x
theorem rd_at {α β : Type} {o : Option α} {f : α → Option β} {r : β} (h : rd o f = some r) : ∃ x, o = some x ∧ f x = some r := by
  cases o with
  | none => cases h
  | some x => exact ⟨x, rfl, h⟩
def cal {α β : Type} (o : Option (α × Mem)) (f : α → Mem → Option β) : Option β := match o with
  | none => none
  | some x => f x.1 x.2
theorem cal_at {α β : Type} {o : Option (α × Mem)} {f : α → Mem → Option β} {r : β} (h : cal o f = some r) : ∃ x m, o = some (x, m) ∧ f x m = some r := by
  cases o with
  | none => cases h
  | some x => exact ⟨x.1, x.2, rfl, h⟩
def om {β : Type} (o : Option Nat) (A : Option β) (B : Nat → Option β) : Option β := match o with
  | none => A
  | some k => B k
theorem om_none {β : Type} {A : Option β} {B : Nat → Option β} {r : Option β} (h : om none A B = r) : A = r := h
theorem om_some {β : Type} {A : Option β} {B : Nat → Option β} {k : Nat} {r : Option β} (h : om (some k) A B = r) : B k = r := h
def rvq (a : Nat → Nat) (o : Option Nat) : Value := match o with
  | none => .null
  | some k => .ref (a k)
theorem sw_ne {x v : Int32} (h : ¬ x = v) {n : Int} (hv : v.toInt = n) : ¬ x.toInt = n := fun e => h (Int32.toInt_inj.mp (e.trans hv.symm))
theorem cat_ok {As : List Value} (h : As.all (fun v => v.category == 1) = true) : ∀ v ∈ As, v.category = 1 := fun v hv => by
  have := List.all_eq_true.mp h v hv
  simpa using this
section WLS
variable {ca : Nat → ClassId} {a : Nat → Nat} {μ : Mem} {k : Nat}
theorem WL_get (h : k < 57) : (WL ca a μ)[k]? = some (a k, ce ca a k (μ k)) := by
  unfold WL
  rw [List.getElem?_map, List.getElem?_range h]
  rfl
theorem WL_in {q : Nat × va_E} (h : (WL ca a μ)[k]? = some q) : k < 57 ∧ q = (a k, ce ca a k (μ k)) := by
  have hl : k < 57 := by
    have := (List.getElem?_eq_some_iff.mp h).1
    simpa [WL] using this
  rw [WL_get hl] at h
  exact ⟨hl, (Option.some.inj h).symm⟩
theorem WL_set (h : k < 57) (r : Nat → Int32) : (WL ca a μ).set k (a k, ce ca a k r) = WL ca a (stm μ k r) := by
  apply List.ext_getElem?
  intro i
  by_cases hi : i < 57
  · by_cases hk : i = k
    · subst hk
      rw [WL_get hi, stm_same, List.getElem?_set_self (by simpa [WL] using hi)]
    · rw [List.getElem?_set_ne (fun z => hk z.symm), WL_get hi, WL_get hi, stm_ne _ _ hk]
  · rw [List.getElem?_eq_none (by simpa [WL] using hi), List.getElem?_eq_none (by simpa [WL] using hi)]
theorem ce_obj {c : Nat} (hk : kd k = c) (hc : c < 9) (row : Nat → Int32) : ce ca a k row = .inr (c, fdc c a k row) := by
  unfold ce
  rw [if_neg (by omega), if_neg (by omega), if_neg (by omega), hk]
theorem ce_int (hk : kd k = 10) (row : Nat → Int32) : ce ca a k row = .inl (ca 0, ln k, .inl row) := by
  unfold ce
  rw [if_pos hk]
theorem ce_boo (hk : kd k = 11) (row : Nat → Int32) : ce ca a k row = .inl (ca 1, ln k, .inl row) := by
  unfold ce
  rw [if_neg (by omega), if_pos hk]
theorem ce_ref (hk : kd k = 12) (row : Nat → Int32) : ce ca a k row = .inl (ca 2, ln k, .inr (.inr (.inr (.inr (fun j => some (a (row j).toNatClampNeg)))))) := by
  unfold ce
  rw [if_neg (by omega), if_neg (by omega), if_pos hk]
theorem fdc_get {c j : Nat} (hj : j < nfc c) (row : Nat → Int32) : (fdc c a k row)[j]? = some (if tgc c k j = 0 then Value.int (row j) else Value.ref (a (tgc c k j))) := by
  unfold fdc
  rw [List.getElem?_map, List.getElem?_range hj]
  rfl
theorem fdc_len {c : Nat} (row : Nat → Int32) : (fdc c a k row).length = nfc c := by simp [fdc]
theorem fdc_set {c j : Nat} (hj : j < nfc c) (ht : tgc c k j = 0) (row : Nat → Int32) (x : Int32) : (fdc c a k row).set j (.int x) = fdc c a k (upd row j x) := by
  apply List.ext_getElem?
  intro i
  by_cases hi : i < nfc c
  · by_cases hk : i = j
    · subst hk
      rw [fdc_get hi, List.getElem?_set_self (by rw [fdc_len]; exact hi), if_pos ht]
      simp [upd]
    · rw [List.getElem?_set_ne (fun z => hk z.symm), fdc_get hi, fdc_get hi]
      simp [upd, hk]
  · rw [List.getElem?_eq_none (by rw [List.length_set, fdc_len]; omega), List.getElem?_eq_none (by rw [fdc_len]; omega)]
end WLS
/-- the cells' addresses are apart -/
def AD (a : Nat → Nat) : Prop := ∀ i j, i < 57 → j < 57 → a i = a j → i = j
/-- what a method may change: the cells, and what is new -/
def AA (a : Nat → Nat) (sz : Nat) : Nat → Prop := fun q => (∃ k, k < 57 ∧ q = a k) ∨ sz ≤ q
theorem WL_D {ca : Nat → ClassId} {a : Nat → Nat} {μ : Mem} {sz : Nat} (h : AD a) : va_D (AA a sz) (WL ca a μ) := by
  refine ⟨fun i j p q hi hj hpq => ?_, fun k q hk => ?_⟩
  · obtain ⟨h1, rfl⟩ := WL_in hi
    obtain ⟨h2, rfl⟩ := WL_in hj
    exact h i j h1 h2 hpq
  · obtain ⟨h1, rfl⟩ := WL_in hk
    exact Or.inl ⟨k, h1, rfl⟩
theorem AA_le {a : Nat → Nat} {sz sz' : Nat} (h : sz ≤ sz') : ∀ q, AA a sz' q → AA a sz q := fun q hq => by
  rcases hq with h1 | h1
  · exact Or.inl h1
  · exact Or.inr (Nat.le_trans h h1)
def tys (ca : Nat → ClassId) : List (ClassId × FieldType) := [(ca 0, .int), (ca 1, .boolean), (ca 2, .object R_Packet)]
/-- the two tables, and the links between nest mates -/
def ST (a : Nat → Nat) (A : Nat → Prop) (U : State) (H : Heap) : Prop :=
  (va_Z R_Adaptive "STEPS" "[I" (.ref (a 60)) A U H ∧ va_T .int (a 60) 89 (fun j => .int (tb_STEPS j)) A U H) ∧ (va_Z R_Packet "TYPES" "[I" (.ref (a 61)) A U H ∧ va_T .int (a 61) 4 (fun j => .int (tb_TYPES j)) A U H) ∧
  va_Nw (.methodLinkNest R_Sender n_Sender y_Gate_sequenceAfter R_Gate) U ∧ va_Nw (.methodLinkNest R_Buffer n_Buffer y_Gate_sequenceAfter R_Gate) U
theorem ST.warm {a : Nat → Nat} {A : Nat → Prop} {u U : State} {H : Heap} (hW : u.WarmedH U.vm) (h : ST a A u H) : ST a A U H := by
  obtain ⟨⟨h1, h2⟩, ⟨h3, h4⟩, h5, h6⟩ := h
  exact ⟨⟨h1.moved hW.alike, h2.moved hW.alike⟩, ⟨h3.moved hW.alike, h4.moved hW.alike⟩, h5.warmM hW, h6.warmM hW⟩
theorem ST.same {a : Nat → Nat} {A : Nat → Prop} {u U : State} {H : Heap} (hvm : u.vm = U.vm) (h : ST a A u H) : ST a A U H := by
  obtain ⟨⟨h1, h2⟩, ⟨h3, h4⟩, h5, h6⟩ := h
  have ha : u.vm.Alike U.vm := hvm ▸ Vm.Alike.refl u.vm
  exact ⟨⟨h1.moved ha, h2.moved ha⟩, ⟨h3.moved ha, h4.moved ha⟩, va_Nw.same rfl hvm h5, va_Nw.same rfl hvm h6⟩
theorem ST.kept {a : Nat → Nat} {A : Nat → Prop} {U : State} {H H1 : Heap} (h : ST a A U H) (hq : ∀ q : Nat, q < H.size → ¬ A q → H1[q]? = H[q]?) : ST a A U H1 := by
  obtain ⟨⟨h1, h2⟩, ⟨h3, h4⟩, h5, h6⟩ := h
  exact ⟨⟨h1.kept hq, h2.kept hq⟩, ⟨h3.kept hq, h4.kept hq⟩, h5, h6⟩
theorem ST.narrow {a : Nat → Nat} {A B : Nat → Prop} {U : State} {H : Heap} (h : ST a A U H) (hAB : ∀ q, B q → A q) : ST a B U H := by
  obtain ⟨⟨h1, h2⟩, ⟨h3, h4⟩, h5, h6⟩ := h
  exact ⟨⟨h1.narrow hAB, h2.narrow hAB⟩, ⟨h3.narrow hAB, h4.narrow hAB⟩, h5, h6⟩
/-- all good words of the tables -/
def AW : List Cond := lw_tbl.filter goodWord
theorem aw {w : Cond} (h : w ∈ lw_tbl) (g : goodWord w = true) : w ∈ AW := List.mem_filter.mpr ⟨h, g⟩
theorem AW_good {w : Cond} (h : w ∈ AW) : (w.onTables && w.keeps) = true ∨ ∃ ty, w = .arrayClass ty := good_of_word (List.mem_filter.mp h).2
theorem AW_in {ws : List Cond} (h : ∀ w ∈ ws, w ∈ AW) : GoodIn AW ws := fun w hw => ⟨h w hw, AW_good (h w hw)⟩
theorem cl_at {c : Nat} (h : c < 9) : classes[c]? = some (cn c, cT c, nfc c) := match c, h with
  | 0, _ => rfl
  | 1, _ => rfl
  | 2, _ => rfl
  | 3, _ => rfl
  | 4, _ => rfl
  | 5, _ => rfl
  | 6, _ => rfl
  | 7, _ => rfl
  | 8, _ => rfl
  | c + 9, h => absurd h (by omega)
theorem i_Gate : ∀ w ∈ u_ws R_Gate T_Gate 6, w ∈ AW := fun w h => aw ((by decide +kernel : ∀ w ∈ u_ws R_Gate T_Gate 6, w ∈ lw_tbl) w h) ((by decide +kernel : ∀ w ∈ u_ws R_Gate T_Gate 6, goodWord w = true) w h)
theorem n_Gate_ok : ∀ a, a < 6 → ∀ b, b < 6 → a ≠ b → (T_Gate a).2.1 ≠ (T_Gate b).2.1 := by decide +kernel
theorem t_Gate_ok : ∀ k, k < 6 → parseFieldDescriptor (T_Gate k).2.2.1 = some (t_Gate k) := by decide +kernel
theorem i_Adaptive : ∀ w ∈ u_ws R_Adaptive T_Adaptive 2, w ∈ AW := fun w h => aw ((by decide +kernel : ∀ w ∈ u_ws R_Adaptive T_Adaptive 2, w ∈ lw_tbl) w h) ((by decide +kernel : ∀ w ∈ u_ws R_Adaptive T_Adaptive 2, goodWord w = true) w h)
theorem n_Adaptive_ok : ∀ a, a < 2 → ∀ b, b < 2 → a ≠ b → (T_Adaptive a).2.1 ≠ (T_Adaptive b).2.1 := by decide +kernel
theorem t_Adaptive_ok : ∀ k, k < 2 → parseFieldDescriptor (T_Adaptive k).2.2.1 = some (t_Adaptive k) := by decide +kernel
theorem i_Buffer : ∀ w ∈ u_ws R_Buffer T_Buffer 8, w ∈ AW := fun w h => aw ((by decide +kernel : ∀ w ∈ u_ws R_Buffer T_Buffer 8, w ∈ lw_tbl) w h) ((by decide +kernel : ∀ w ∈ u_ws R_Buffer T_Buffer 8, goodWord w = true) w h)
theorem n_Buffer_ok : ∀ a, a < 8 → ∀ b, b < 8 → a ≠ b → (T_Buffer a).2.1 ≠ (T_Buffer b).2.1 := by decide +kernel
theorem t_Buffer_ok : ∀ k, k < 8 → parseFieldDescriptor (T_Buffer k).2.2.1 = some (t_Buffer k) := by decide +kernel
theorem i_Packet : ∀ w ∈ u_ws R_Packet T_Packet 2, w ∈ AW := fun w h => aw ((by decide +kernel : ∀ w ∈ u_ws R_Packet T_Packet 2, w ∈ lw_tbl) w h) ((by decide +kernel : ∀ w ∈ u_ws R_Packet T_Packet 2, goodWord w = true) w h)
theorem n_Packet_ok : ∀ a, a < 2 → ∀ b, b < 2 → a ≠ b → (T_Packet a).2.1 ≠ (T_Packet b).2.1 := by decide +kernel
theorem t_Packet_ok : ∀ k, k < 2 → parseFieldDescriptor (T_Packet k).2.2.1 = some (t_Packet k) := by decide +kernel
theorem i_Player : ∀ w ∈ u_ws R_Player T_Player 6, w ∈ AW := fun w h => aw ((by decide +kernel : ∀ w ∈ u_ws R_Player T_Player 6, w ∈ lw_tbl) w h) ((by decide +kernel : ∀ w ∈ u_ws R_Player T_Player 6, goodWord w = true) w h)
theorem n_Player_ok : ∀ a, a < 6 → ∀ b, b < 6 → a ≠ b → (T_Player a).2.1 ≠ (T_Player b).2.1 := by decide +kernel
theorem t_Player_ok : ∀ k, k < 6 → parseFieldDescriptor (T_Player k).2.2.1 = some (t_Player k) := by decide +kernel
theorem i_Samples : ∀ w ∈ u_ws R_Samples T_Samples 2, w ∈ AW := fun w h => aw ((by decide +kernel : ∀ w ∈ u_ws R_Samples T_Samples 2, w ∈ lw_tbl) w h) ((by decide +kernel : ∀ w ∈ u_ws R_Samples T_Samples 2, goodWord w = true) w h)
theorem n_Samples_ok : ∀ a, a < 2 → ∀ b, b < 2 → a ≠ b → (T_Samples a).2.1 ≠ (T_Samples b).2.1 := by decide +kernel
theorem t_Samples_ok : ∀ k, k < 2 → parseFieldDescriptor (T_Samples k).2.2.1 = some (t_Samples k) := by decide +kernel
theorem i_Sender : ∀ w ∈ u_ws R_Sender T_Sender 4, w ∈ AW := fun w h => aw ((by decide +kernel : ∀ w ∈ u_ws R_Sender T_Sender 4, w ∈ lw_tbl) w h) ((by decide +kernel : ∀ w ∈ u_ws R_Sender T_Sender 4, goodWord w = true) w h)
theorem n_Sender_ok : ∀ a, a < 4 → ∀ b, b < 4 → a ≠ b → (T_Sender a).2.1 ≠ (T_Sender b).2.1 := by decide +kernel
theorem t_Sender_ok : ∀ k, k < 4 → parseFieldDescriptor (T_Sender k).2.2.1 = some (t_Sender k) := by decide +kernel
theorem i_Wire : ∀ w ∈ u_ws R_Wire T_Wire 2, w ∈ AW := fun w h => aw ((by decide +kernel : ∀ w ∈ u_ws R_Wire T_Wire 2, w ∈ lw_tbl) w h) ((by decide +kernel : ∀ w ∈ u_ws R_Wire T_Wire 2, goodWord w = true) w h)
theorem n_Wire_ok : ∀ a, a < 2 → ∀ b, b < 2 → a ≠ b → (T_Wire a).2.1 ≠ (T_Wire b).2.1 := by decide +kernel
theorem t_Wire_ok : ∀ k, k < 2 → parseFieldDescriptor (T_Wire k).2.2.1 = some (t_Wire k) := by decide +kernel
theorem i_Model : ∀ w ∈ u_ws R_Model T_Model 25, w ∈ AW := fun w h => aw ((by decide +kernel : ∀ w ∈ u_ws R_Model T_Model 25, w ∈ lw_tbl) w h) ((by decide +kernel : ∀ w ∈ u_ws R_Model T_Model 25, goodWord w = true) w h)
theorem n_Model_ok : ∀ a, a < 25 → ∀ b, b < 25 → a ≠ b → (T_Model a).2.1 ≠ (T_Model b).2.1 := by decide +kernel
theorem t_Model_ok : ∀ k, k < 25 → parseFieldDescriptor (T_Model k).2.2.1 = some (t_Model k) := by decide +kernel
theorem cw_in {c : Nat} (h : c < 9) : ∀ w ∈ u_ws (cn c) (cT c) (nfc c), w ∈ AW := match c, h with
  | 0, _ => i_Gate
  | 1, _ => i_Adaptive
  | 2, _ => i_Buffer
  | 3, _ => i_Packet
  | 4, _ => i_Player
  | 5, _ => i_Samples
  | 6, _ => i_Sender
  | 7, _ => i_Wire
  | 8, _ => i_Model
  | c + 9, h => absurd h (by omega)
theorem cn_ok {c : Nat} (h : c < 9) : ∀ a, a < nfc c → ∀ b, b < nfc c → a ≠ b → (cT c a).2.1 ≠ (cT c b).2.1 := match c, h with
  | 0, _ => n_Gate_ok
  | 1, _ => n_Adaptive_ok
  | 2, _ => n_Buffer_ok
  | 3, _ => n_Packet_ok
  | 4, _ => n_Player_ok
  | 5, _ => n_Samples_ok
  | 6, _ => n_Sender_ok
  | 7, _ => n_Wire_ok
  | 8, _ => n_Model_ok
  | c + 9, h => absurd h (by omega)
theorem ct_ok {c : Nat} (h : c < 9) : ∀ k, k < nfc c → parseFieldDescriptor (cT c k).2.2.1 = some (ct c k) := match c, h with
  | 0, _ => t_Gate_ok
  | 1, _ => t_Adaptive_ok
  | 2, _ => t_Buffer_ok
  | 3, _ => t_Packet_ok
  | 4, _ => t_Player_ok
  | 5, _ => t_Samples_ok
  | 6, _ => t_Sender_ok
  | 7, _ => t_Wire_ok
  | 8, _ => t_Model_ok
  | c + 9, h => absurd h (by omega)
theorem kd_row {k : Nat} (h : kd k = 5) : kd (k + 1) = 10 := (by decide : ∀ k, k < 57 → kd k = 5 → kd (k + 1) = 10) k (kd_lt h (by omega)) h
theorem kd_byt {k : Nat} (h : kd k = 3) : kd (k + 1) = 10 := (by decide : ∀ k, k < 57 → kd k = 3 → kd (k + 1) = 10) k (kd_lt h (by omega)) h
theorem ln_byt {k : Nat} (h : kd k = 3) : ln (k + 1) = 44 := (by decide : ∀ k, k < 57 → kd k = 3 → ln (k + 1) = 44) k (kd_lt h (by omega)) h
theorem cp_nat : Cond.native arraycopyName ∈ AW := aw (by decide +kernel) (by decide +kernel)
theorem cp_stat : Cond.static arraycopyName ∈ AW := aw (by decide +kernel) (by decide +kernel)
theorem cp_ini : Cond.initialized "java/lang/System" ∈ AW := aw (by decide +kernel) (by decide +kernel)
/-- the locals: what is known of each -/
def lh (ls : Array Slot) (nL : Nat) (lv : List (Option Value)) : Prop := ls.size = nL ∧ lv_wf ls ∧ ∀ (i : Nat) (v : Value), lv[i]? = some (some v) → v.category = 1 ∧ ls[i]? = some (.val v)
def lpr (lv : List (Option Value)) : List (Nat × Value) := (List.range lv.length).filterMap (fun i => (lv.getD i none).map (fun v => (i, v)))
theorem lpr_mem {lv : List (Option Value)} {q : Nat × Value} : q ∈ lpr lv ↔ lv[q.1]? = some (some q.2) := by
  unfold lpr
  rw [List.mem_filterMap]
  constructor
  · rintro ⟨i, hi, h⟩
    have hi := List.mem_range.mp hi
    rw [List.getD_eq_getElem?_getD, List.getElem?_eq_getElem hi] at h
    cases hv : lv[i] with
    | none => simp [hv] at h
    | some v =>
      simp [hv] at h
      subst h
      simp [hi, hv]
  · intro h
    have hl := (List.getElem?_eq_some_iff.mp h).1
    refine ⟨q.1, List.mem_range.mpr hl, ?_⟩
    rw [List.getD_eq_getElem?_getD, h]
    rfl
theorem lh_has {ls : Array Slot} {nL : Nat} {lv : List (Option Value)} (h : lh ls nL lv) : lv_has ls nL (lpr lv) := ⟨h.1, h.2.1, fun q hq => (h.2.2 q.1 q.2 (lpr_mem.mp hq)).2⟩
theorem lh_set {ls ls' : Array Slot} {nL : Nat} {lv : List (Option Value)} {i : Nat} {v : Value} (h : lh ls nL lv) (hc : v.category = 1) (h' : lv_has ls' nL ((i, v) :: (lpr lv).filter (fun q => !(q.1 == i) && !(q.1 + 1 == i && q.2.category == 2)))) : lh ls' nL (lv.set i (some v)) := by
  refine ⟨h'.1, h'.2.1, fun j w hj => ?_⟩
  by_cases hji : j = i
  · subst hji
    have hl : j < lv.length := by
      have := (List.getElem?_eq_some_iff.mp hj).1
      simpa using this
    rw [List.getElem?_set_self hl] at hj
    cases hj
    exact ⟨hc, h'.2.2 (j, v) List.mem_cons_self⟩
  · rw [List.getElem?_set_ne (fun z => hji z.symm)] at hj
    obtain ⟨h1, h2⟩ := h.2.2 j w hj
    refine ⟨h1, h'.2.2 (j, w) (List.mem_cons_of_mem _ (List.mem_filter.mpr ⟨lpr_mem.mpr hj, ?_⟩))⟩
    simp [hji, h1]
/-- the surroundings of a method's walk -/
def SS (p : Program) (s : State) (m : MethodId) (args : Array Value) (meth : Method) (c : Code) (cc : ByteArray) (nL : Nat) (ret : Option FieldType) (own : String) (ca : Nat → ClassId) (a : Nat → Nat) (D : va_G) : Prop :=
  CallFix p m c cc nL s args AW own ∧ meth.sig.returnType = ret ∧ meth.locks = false ∧ va_K D classes (tys ca) s ∧ AD a ∧ ST a (AA a s.heap.size) s s.heap
def QQ (D : va_G) (ca : Nat → ClassId) (a : Nat → Nat) (rv : Option Value) (μ' : Mem) : Array Value → State → Outcome → State → Prop :=
  fun _ st oc t => oc = .returned rv ∧ va_P D classes (WL ca a μ') t.heap ∧ va_F (AA a st.heap.size) st t
/-- what a walk is for: a method's end, or the law's -/
abbrev EE : Type := State → Array Value → List Frame → va_G → (State → Prop) → Nat → Nat → Prop
def EM (ca : Nat → ClassId) (a : Nat → Nat) (rv : Option Value) (μ' : Mem) : EE := fun s args below D Q cells slots => Q = MQ below (QQ D ca a rv μ') args s 0 0 (AA a s.heap.size) ∧ cells = 0 ∧ slots = 0
def WW (l : Launch) (cc : ByteArray) (nL : Nat) (ret : Option FieldType) (own : String) (R : Room) (ca : Nat → ClassId) (a : Nat → Nat) (E : EE) (pc : Nat) (lv : List (Option Value)) (st : List Value) (μ : Mem) : Prop :=
  ∀ (p : Program) (e : Env) (s : State) (m : MethodId) (args : Array Value) (below : List Frame) (meth : Method) (c : Code) (D : va_G) (Q : State → Prop) (cells slots : Nat), SS p s m args meth c cc nL ret own ca a D → E s args below D Q cells slots → cells ≤ R.cells ∧ slots ≤ R.slots →
    ∀ (H : Heap) (locs : List Loc) (ls : Array Slot), va_P D classes (WL ca a μ) H → va_S (AA a s.heap.size) s.heap H locs → lh ls nL lv →
      W p l e R s m args below meth c H locs cells slots Q (F0 m pc ls st)
def GW (D : va_G) (ca : Nat → ClassId) (a : Nat → Nat) (sz : Nat) (μ : Mem) (U : State) : Prop :=
  U.heap.size = sz ∧ va_P D classes (WL ca a μ) U.heap ∧ va_K D classes (tys ca) U ∧ AD a ∧ ST a (AA a sz) U U.heap
/-- a method's contract over the memory -/
def CT (l : Launch) (ca : Nat → ClassId) (a : Nat → Nat) (y : MethodName) (b : ByteArray) (nL : Nat) (ret : Option FieldType) (rm : Room) (As : List Value) (μ : Mem) (rv : Option Value) (μ' : Mem) : Prop :=
  ∀ (D : va_G) (sz : Nat), Met l y (Cond.code y b nL ret :: AW) rm (va_Pc As (GW D ca a sz μ)) (QQ D ca a rv μ') 0 0 (AA a sz)
abbrev RM (f n : Nat) : Room := { frames := f, cells := 0, slots := 0, locals := n }
def ent (As : List Value) (nL : Nat) : List (Option Value) := As.map some ++ List.replicate (nL - As.length) none
theorem lg_sl_1 : ∀ (As : List Value), (∀ v ∈ As, v.category = 1) → lg_sl As = As.map Slot.val
  | [], _ => rfl
  | v :: vs, h => by
    have h1 := h v List.mem_cons_self
    have h2 := lg_sl_1 vs (fun w hw => h w (List.mem_cons_of_mem _ hw))
    have e : lg_sl (v :: vs) = [.val v] ++ lg_sl vs := by simp [lg_sl, h1]
    rw [e, h2]
    rfl
theorem lh_entry {As : List Value} {nL : Nat} (h1 : ∀ v ∈ As, v.category = 1) (h2 : As.length ≤ nL) : lh ((lg_sl As ++ List.replicate (nL - (lg_sl As).length) Slot.unset).toArray) nL (ent As nL) := by
  have e := lg_sl_1 As h1
  have hl : (lg_sl As).length = As.length := by rw [e, List.length_map]
  have h := lv_entry As (n := nL) (by rw [hl]; exact h2)
  refine ⟨h.1, h.2.1, fun i v hv => ?_⟩
  unfold ent at hv
  by_cases hi : i < As.length
  · rw [List.getElem?_append_left (by simpa using hi), List.getElem?_map, List.getElem?_eq_getElem hi] at hv
    have hv : As[i] = v := by simpa using hv
    refine ⟨h1 v (hv ▸ List.getElem_mem hi), ?_⟩
    rw [List.getElem?_toArray, List.getElem?_append_left (by rw [hl]; exact hi), e, List.getElem?_map, List.getElem?_eq_getElem hi, hv]
    rfl
  · rw [List.getElem?_append_right (by simpa using hi)] at hv
    have := List.mem_of_getElem? hv
    simp at this
theorem ct_of {l : Launch} {ca : Nat → ClassId} {a : Nat → Nat} {y : MethodName} {b : ByteArray} {nL : Nat} {ret : Option FieldType} {rm : Room} {As : List Value} {μ μ' : Mem} {rv : Option Value} {own : String} (hy : plainName y.cls = true) (ho : y.cls = own)
    (h1 : ∀ v ∈ As, v.category = 1) (h2 : As.length ≤ nL) {lv : List (Option Value)} (hlv : ent As nL = lv) (w : WW l b nL ret own rm ca a (EM ca a rv μ') 0 lv [] μ) : CT l ca a y b nL ret rm As μ rv μ' := by
  intro D sz
  subst ho
  refine Met.ofW (cc := b) (maxL := nL) (ret := ret) hy rfl ?_
  intro p e s m args below meth c s₁ B hml hv
  obtain ⟨rfl, hsz, hP, hK, hA, hT⟩ := hv
  subst hsz
  have hts := atoms_spec (ws := Cond.code y b nL ret :: AW) B.pre
  have hown : s.vm.findClass y.cls = some m.cls := findClass_of_methodNamed B.named
  rw [lg_entry_eq]
  subst hlv
  exact w p e s m _ below meth c D _ 0 0 ⟨⟨B.exec, B.bytes, hml, hown, fun w hw => hts w (List.mem_cons_of_mem _ hw)⟩, B.returns, B.notSynchronized, hK, hA, hT⟩ ⟨rfl, rfl, rfl⟩ ⟨Nat.zero_le _, Nat.zero_le _⟩ s.heap [] _ hP va_S.rf (lh_entry h1 h2)
end
section
section ROWS
variable {l : Launch} {cc : ByteArray} {nL : Nat} {ret : Option FieldType} {own : String} {R : Room} {ca : Nat → ClassId} {a : Nat → Nat} {E : EE} {pc : Nat} {lv : List (Option Value)} {st : List Value} {μ : Mem}
theorem ww_iadd (q : Nat) (hq : pc + 1 = q) {x y : Int32} (d : decode cc pc = .ok (.iadd, 1)) (k : WW l cc nL ret own R ca a E q lv (.int (x + y) :: st) μ) : WW l cc nL ret own R ca a E pc lv (.int y :: .int x :: st) μ := by
  subst hq
  intro p e s m args below meth c D Q nc ns S hE hf H locs ls hP hS hl
  exact lv_iadd S.1.1 S.1.2.1 d (k p e s m args below meth c D Q nc ns S hE hf H locs ls hP hS hl)
theorem ww_isub (q : Nat) (hq : pc + 1 = q) {x y : Int32} (d : decode cc pc = .ok (.isub, 1)) (k : WW l cc nL ret own R ca a E q lv (.int (x - y) :: st) μ) : WW l cc nL ret own R ca a E pc lv (.int y :: .int x :: st) μ := by
  subst hq
  intro p e s m args below meth c D Q nc ns S hE hf H locs ls hP hS hl
  exact lv_isub S.1.1 S.1.2.1 d (k p e s m args below meth c D Q nc ns S hE hf H locs ls hP hS hl)
theorem ww_imul (q : Nat) (hq : pc + 1 = q) {x y : Int32} (d : decode cc pc = .ok (.imul, 1)) (k : WW l cc nL ret own R ca a E q lv (.int (x * y) :: st) μ) : WW l cc nL ret own R ca a E pc lv (.int y :: .int x :: st) μ := by
  subst hq
  intro p e s m args below meth c D Q nc ns S hE hf H locs ls hP hS hl
  exact lv_imul S.1.1 S.1.2.1 d (k p e s m args below meth c D Q nc ns S hE hf H locs ls hP hS hl)
theorem ww_iand (q : Nat) (hq : pc + 1 = q) {x y : Int32} (d : decode cc pc = .ok (.iand, 1)) (k : WW l cc nL ret own R ca a E q lv (.int (x &&& y) :: st) μ) : WW l cc nL ret own R ca a E pc lv (.int y :: .int x :: st) μ := by
  subst hq
  intro p e s m args below meth c D Q nc ns S hE hf H locs ls hP hS hl
  exact lv_iand S.1.1 S.1.2.1 d (k p e s m args below meth c D Q nc ns S hE hf H locs ls hP hS hl)
theorem ww_ior (q : Nat) (hq : pc + 1 = q) {x y : Int32} (d : decode cc pc = .ok (.ior, 1)) (k : WW l cc nL ret own R ca a E q lv (.int (x ||| y) :: st) μ) : WW l cc nL ret own R ca a E pc lv (.int y :: .int x :: st) μ := by
  subst hq
  intro p e s m args below meth c D Q nc ns S hE hf H locs ls hP hS hl
  exact lv_ior S.1.1 S.1.2.1 d (k p e s m args below meth c D Q nc ns S hE hf H locs ls hP hS hl)
theorem ww_ixor (q : Nat) (hq : pc + 1 = q) {x y : Int32} (d : decode cc pc = .ok (.ixor, 1)) (k : WW l cc nL ret own R ca a E q lv (.int (x ^^^ y) :: st) μ) : WW l cc nL ret own R ca a E pc lv (.int y :: .int x :: st) μ := by
  subst hq
  intro p e s m args below meth c D Q nc ns S hE hf H locs ls hP hS hl
  exact lv_ixor S.1.1 S.1.2.1 d (k p e s m args below meth c D Q nc ns S hE hf H locs ls hP hS hl)
theorem ww_ishl (q : Nat) (hq : pc + 1 = q) {x y : Int32} (d : decode cc pc = .ok (.ishl, 1)) (k : WW l cc nL ret own R ca a E q lv (.int (x <<< (y &&& 31)) :: st) μ) : WW l cc nL ret own R ca a E pc lv (.int y :: .int x :: st) μ := by
  subst hq
  intro p e s m args below meth c D Q nc ns S hE hf H locs ls hP hS hl
  exact lv_ishl S.1.1 S.1.2.1 d (k p e s m args below meth c D Q nc ns S hE hf H locs ls hP hS hl)
theorem ww_ishr (q : Nat) (hq : pc + 1 = q) {x y : Int32} (d : decode cc pc = .ok (.ishr, 1)) (k : WW l cc nL ret own R ca a E q lv (.int (x >>> (y &&& 31)) :: st) μ) : WW l cc nL ret own R ca a E pc lv (.int y :: .int x :: st) μ := by
  subst hq
  intro p e s m args below meth c D Q nc ns S hE hf H locs ls hP hS hl
  exact lv_ishr S.1.1 S.1.2.1 d (k p e s m args below meth c D Q nc ns S hE hf H locs ls hP hS hl)
theorem ww_idiv (q : Nat) (hq : pc + 1 = q) {x y : Int32} (d : decode cc pc = .ok (.idiv, 1)) (h0 : ¬ y = 0) (k : WW l cc nL ret own R ca a E q lv (.int (x / y) :: st) μ) : WW l cc nL ret own R ca a E pc lv (.int y :: .int x :: st) μ := by
  subst hq
  intro p e s m args below meth c D Q nc ns S hE hf H locs ls hP hS hl
  exact lv_idiv S.1.1 S.1.2.1 d h0 (k p e s m args below meth c D Q nc ns S hE hf H locs ls hP hS hl)
theorem ww_irem (q : Nat) (hq : pc + 1 = q) {x y : Int32} (d : decode cc pc = .ok (.irem, 1)) (h0 : ¬ y = 0) (k : WW l cc nL ret own R ca a E q lv (.int (x - x / y * y) :: st) μ) : WW l cc nL ret own R ca a E pc lv (.int y :: .int x :: st) μ := by
  subst hq
  intro p e s m args below meth c D Q nc ns S hE hf H locs ls hP hS hl
  exact lv_irem S.1.1 S.1.2.1 d h0 (k p e s m args below meth c D Q nc ns S hE hf H locs ls hP hS hl)
theorem ww_ineg (q : Nat) (hq : pc + 1 = q) {x : Int32} (d : decode cc pc = .ok (.ineg, 1)) (k : WW l cc nL ret own R ca a E q lv (.int (-x) :: st) μ) : WW l cc nL ret own R ca a E pc lv (.int x :: st) μ := by
  subst hq
  intro p e s m args below meth c D Q nc ns S hE hf H locs ls hP hS hl
  exact lv_ineg S.1.1 S.1.2.1 d (k p e s m args below meth c D Q nc ns S hE hf H locs ls hP hS hl)
theorem ww_iconst (q : Nat) (hq : pc + 1 = q) (n : Int) (v : Int32) (d : decode cc pc = .ok (.iconst n, 1)) (hv : Int32.ofInt n = v) (k : WW l cc nL ret own R ca a E q lv (.int v :: st) μ) : WW l cc nL ret own R ca a E pc lv st μ := by
  subst hq
  intro p e s m args below meth c D Q nc ns S hE hf H locs ls hP hS hl
  exact lv_iconst S.1.1 S.1.2.1 d hv (k p e s m args below meth c D Q nc ns S hE hf H locs ls hP hS hl)
theorem ww_bipush (q : Nat) (hq : pc + 2 = q) (n : Int) (v : Int32) (d : decode cc pc = .ok (.bipush n, 2)) (hv : (Int8.ofInt n).toInt32 = v) (k : WW l cc nL ret own R ca a E q lv (.int v :: st) μ) : WW l cc nL ret own R ca a E pc lv st μ := by
  subst hq
  intro p e s m args below meth c D Q nc ns S hE hf H locs ls hP hS hl
  exact lv_bipush S.1.1 S.1.2.1 d hv (k p e s m args below meth c D Q nc ns S hE hf H locs ls hP hS hl)
theorem ww_sipush (q : Nat) (hq : pc + 3 = q) (n : Int) (v : Int32) (d : decode cc pc = .ok (.sipush n, 3)) (hv : (Int16.ofInt n).toInt32 = v) (k : WW l cc nL ret own R ca a E q lv (.int v :: st) μ) : WW l cc nL ret own R ca a E pc lv st μ := by
  subst hq
  intro p e s m args below meth c D Q nc ns S hE hf H locs ls hP hS hl
  exact lv_sipush S.1.1 S.1.2.1 d hv (k p e s m args below meth c D Q nc ns S hE hf H locs ls hP hS hl)
theorem ww_ldc (q : Nat) (hq : pc + 2 = q) (i : Nat) (v : Int32) (d : decode cc pc = .ok (.ldc i, 2)) (hw : Cond.constant own i v ∈ AW) (k : WW l cc nL ret own R ca a E q lv (.int v :: st) μ) : WW l cc nL ret own R ca a E pc lv st μ := by
  subst hq
  intro p e s m args below meth c D Q nc ns S hE hf H locs ls hP hS hl
  exact lv_ldc S.1.1 S.1.2.1 S.1.2.2.2.1 (S.1.2.2.2.2 _ hw) d (k p e s m args below meth c D Q nc ns S hE hf H locs ls hP hS hl)
theorem ww_null (q : Nat) (hq : pc + 1 = q) (d : decode cc pc = .ok (.aconst_null, 1)) (k : WW l cc nL ret own R ca a E q lv (.null :: st) μ) : WW l cc nL ret own R ca a E pc lv st μ := by
  subst hq
  intro p e s m args below meth c D Q nc ns S hE hf H locs ls hP hS hl
  exact lv_null S.1.1 S.1.2.1 d (k p e s m args below meth c D Q nc ns S hE hf H locs ls hP hS hl)
theorem ww_dup (q : Nat) (hq : pc + 1 = q) {v : Value} (d : decode cc pc = .ok (.dup, 1)) (hv : v.category = 1) (k : WW l cc nL ret own R ca a E q lv (v :: v :: st) μ) : WW l cc nL ret own R ca a E pc lv (v :: st) μ := by
  subst hq
  intro p e s m args below meth c D Q nc ns S hE hf H locs ls hP hS hl
  exact lv_dup S.1.1 S.1.2.1 d hv (k p e s m args below meth c D Q nc ns S hE hf H locs ls hP hS hl)
theorem ww_pop (q : Nat) (hq : pc + 1 = q) {v : Value} (d : decode cc pc = .ok (.pop, 1)) (hv : v.category = 1) (k : WW l cc nL ret own R ca a E q lv st μ) : WW l cc nL ret own R ca a E pc lv (v :: st) μ := by
  subst hq
  intro p e s m args below meth c D Q nc ns S hE hf H locs ls hP hS hl
  exact lv_pop S.1.1 S.1.2.1 d hv (k p e s m args below meth c D Q nc ns S hE hf H locs ls hP hS hl)
theorem ww_dup_x1 (q : Nat) (hq : pc + 1 = q) {v w : Value} (d : decode cc pc = .ok (.dup_x1, 1)) (hv : v.category = 1) (hw : w.category = 1) (k : WW l cc nL ret own R ca a E q lv (v :: w :: v :: st) μ) : WW l cc nL ret own R ca a E pc lv (v :: w :: st) μ := by
  subst hq
  intro p e s m args below meth c D Q nc ns S hE hf H locs ls hP hS hl
  exact lv_dup_x1 S.1.1 S.1.2.1 d hv hw (k p e s m args below meth c D Q nc ns S hE hf H locs ls hP hS hl)
theorem ww_dup2 (q : Nat) (hq : pc + 1 = q) {v w : Value} (d : decode cc pc = .ok (.dup2, 1)) (hv : v.category = 1) (hw : w.category = 1) (k : WW l cc nL ret own R ca a E q lv (v :: w :: v :: w :: st) μ) : WW l cc nL ret own R ca a E pc lv (v :: w :: st) μ := by
  subst hq
  intro p e s m args below meth c D Q nc ns S hE hf H locs ls hP hS hl
  exact lv_dup2_11 S.1.1 S.1.2.1 d hv hw (k p e s m args below meth c D Q nc ns S hE hf H locs ls hP hS hl)
theorem ww_iload_0 (q : Nat) (hq : pc + 1 = q) {x : Int32} {r : List (Option Value)} (d : decode cc pc = .ok (.iload_n 0, 1)) (k : WW l cc nL ret own R ca a E q (some (.int x) :: r) (.int x :: st) μ) : WW l cc nL ret own R ca a E pc (some (.int x) :: r) st μ := by
  subst hq
  intro p e s m args below meth c D Q nc ns S hE hf H locs ls hP hS hl
  exact lv_iload_n S.1.1 S.1.2.1 d rfl (hl.2.2 0 _ rfl).2 (k p e s m args below meth c D Q nc ns S hE hf H locs ls hP hS hl)
theorem ww_istore_0 (q : Nat) (hq : pc + 1 = q) {x : Int32} {x0 : Option Value} {r : List (Option Value)} (d : decode cc pc = .ok (.istore_n 0, 1)) (hn : 0 < nL) (k : WW l cc nL ret own R ca a E q (some (.int x) :: r) st μ) : WW l cc nL ret own R ca a E pc (x0 :: r) (.int x :: st) μ := by
  subst hq
  intro p e s m args below meth c D Q nc ns S hE hf H locs ls hP hS hl
  exact lv_istore_n S.1.1 S.1.2.1 d rfl (lh_has hl) hn rfl (fun ls' hl' => k p e s m args below meth c D Q nc ns S hE hf H locs ls' hP hS (lh_set hl rfl hl'))
theorem ww_aload_0 (q : Nat) (hq : pc + 1 = q) {x : Nat} {r : List (Option Value)} (d : decode cc pc = .ok (.aload_n 0, 1)) (k : WW l cc nL ret own R ca a E q (some (.ref x) :: r) (.ref x :: st) μ) : WW l cc nL ret own R ca a E pc (some (.ref x) :: r) st μ := by
  subst hq
  intro p e s m args below meth c D Q nc ns S hE hf H locs ls hP hS hl
  exact lv_aload_n S.1.1 S.1.2.1 d rfl (hl.2.2 0 _ rfl).2 (k p e s m args below meth c D Q nc ns S hE hf H locs ls hP hS hl)
theorem ww_astore_0 (q : Nat) (hq : pc + 1 = q) {x : Nat} {x0 : Option Value} {r : List (Option Value)} (d : decode cc pc = .ok (.astore_n 0, 1)) (hn : 0 < nL) (k : WW l cc nL ret own R ca a E q (some (.ref x) :: r) st μ) : WW l cc nL ret own R ca a E pc (x0 :: r) (.ref x :: st) μ := by
  subst hq
  intro p e s m args below meth c D Q nc ns S hE hf H locs ls hP hS hl
  exact lv_astore_n S.1.1 S.1.2.1 d rfl (lh_has hl) hn rfl (fun ls' hl' => k p e s m args below meth c D Q nc ns S hE hf H locs ls' hP hS (lh_set hl rfl hl'))
theorem ww_aload_0N (q : Nat) (hq : pc + 1 = q)  {r : List (Option Value)} (d : decode cc pc = .ok (.aload_n 0, 1)) (k : WW l cc nL ret own R ca a E q (some (.null) :: r) (.null :: st) μ) : WW l cc nL ret own R ca a E pc (some (.null) :: r) st μ := by
  subst hq
  intro p e s m args below meth c D Q nc ns S hE hf H locs ls hP hS hl
  exact lv_aload_nN S.1.1 S.1.2.1 d rfl (hl.2.2 0 _ rfl).2 (k p e s m args below meth c D Q nc ns S hE hf H locs ls hP hS hl)
theorem ww_astore_0N (q : Nat) (hq : pc + 1 = q)  {x0 : Option Value} {r : List (Option Value)} (d : decode cc pc = .ok (.astore_n 0, 1)) (hn : 0 < nL) (k : WW l cc nL ret own R ca a E q (some (.null) :: r) st μ) : WW l cc nL ret own R ca a E pc (x0 :: r) (.null :: st) μ := by
  subst hq
  intro p e s m args below meth c D Q nc ns S hE hf H locs ls hP hS hl
  exact lv_astore_nN S.1.1 S.1.2.1 d rfl (lh_has hl) hn rfl (fun ls' hl' => k p e s m args below meth c D Q nc ns S hE hf H locs ls' hP hS (lh_set hl rfl hl'))
theorem ww_iinc_0 (q : Nat) (hq : pc + 3 = q) {x : Int32} {r : List (Option Value)} (n : Int) (v : Int32) (d : decode cc pc = .ok (.iinc 0 n, 3)) (hv : Int32.ofInt n = v) (hn : 0 < nL) (k : WW l cc nL ret own R ca a E q (some (.int (x + v)) :: r) st μ) : WW l cc nL ret own R ca a E pc (some (.int x) :: r) st μ := by
  subst hq
  intro p e s m args below meth c D Q nc ns S hE hf H locs ls hP hS hl
  subst hv
  obtain ⟨j, hj⟩ := List.getElem?_of_mem (lpr_mem.mpr (show ((some (.int x) :: r) : List (Option Value))[((0, Value.int x) : Nat × Value).1]? = some (some ((0, Value.int x) : Nat × Value).2) from rfl))
  exact lv_iinc S.1.1 S.1.2.1 d (lh_has hl) hj rfl hn rfl (fun ls' hl' => k p e s m args below meth c D Q nc ns S hE hf H locs ls' hP hS (lh_set hl rfl hl'))
theorem ww_iload_1 (q : Nat) (hq : pc + 1 = q) {x : Int32} {x0 : Option Value} {r : List (Option Value)} (d : decode cc pc = .ok (.iload_n 1, 1)) (k : WW l cc nL ret own R ca a E q (x0 :: some (.int x) :: r) (.int x :: st) μ) : WW l cc nL ret own R ca a E pc (x0 :: some (.int x) :: r) st μ := by
  subst hq
  intro p e s m args below meth c D Q nc ns S hE hf H locs ls hP hS hl
  exact lv_iload_n S.1.1 S.1.2.1 d rfl (hl.2.2 1 _ rfl).2 (k p e s m args below meth c D Q nc ns S hE hf H locs ls hP hS hl)
theorem ww_istore_1 (q : Nat) (hq : pc + 1 = q) {x : Int32} {x0 : Option Value} {x1 : Option Value} {r : List (Option Value)} (d : decode cc pc = .ok (.istore_n 1, 1)) (hn : 1 < nL) (k : WW l cc nL ret own R ca a E q (x0 :: some (.int x) :: r) st μ) : WW l cc nL ret own R ca a E pc (x0 :: x1 :: r) (.int x :: st) μ := by
  subst hq
  intro p e s m args below meth c D Q nc ns S hE hf H locs ls hP hS hl
  exact lv_istore_n S.1.1 S.1.2.1 d rfl (lh_has hl) hn rfl (fun ls' hl' => k p e s m args below meth c D Q nc ns S hE hf H locs ls' hP hS (lh_set hl rfl hl'))
theorem ww_aload_1 (q : Nat) (hq : pc + 1 = q) {x : Nat} {x0 : Option Value} {r : List (Option Value)} (d : decode cc pc = .ok (.aload_n 1, 1)) (k : WW l cc nL ret own R ca a E q (x0 :: some (.ref x) :: r) (.ref x :: st) μ) : WW l cc nL ret own R ca a E pc (x0 :: some (.ref x) :: r) st μ := by
  subst hq
  intro p e s m args below meth c D Q nc ns S hE hf H locs ls hP hS hl
  exact lv_aload_n S.1.1 S.1.2.1 d rfl (hl.2.2 1 _ rfl).2 (k p e s m args below meth c D Q nc ns S hE hf H locs ls hP hS hl)
theorem ww_astore_1 (q : Nat) (hq : pc + 1 = q) {x : Nat} {x0 : Option Value} {x1 : Option Value} {r : List (Option Value)} (d : decode cc pc = .ok (.astore_n 1, 1)) (hn : 1 < nL) (k : WW l cc nL ret own R ca a E q (x0 :: some (.ref x) :: r) st μ) : WW l cc nL ret own R ca a E pc (x0 :: x1 :: r) (.ref x :: st) μ := by
  subst hq
  intro p e s m args below meth c D Q nc ns S hE hf H locs ls hP hS hl
  exact lv_astore_n S.1.1 S.1.2.1 d rfl (lh_has hl) hn rfl (fun ls' hl' => k p e s m args below meth c D Q nc ns S hE hf H locs ls' hP hS (lh_set hl rfl hl'))
theorem ww_aload_1N (q : Nat) (hq : pc + 1 = q)  {x0 : Option Value} {r : List (Option Value)} (d : decode cc pc = .ok (.aload_n 1, 1)) (k : WW l cc nL ret own R ca a E q (x0 :: some (.null) :: r) (.null :: st) μ) : WW l cc nL ret own R ca a E pc (x0 :: some (.null) :: r) st μ := by
  subst hq
  intro p e s m args below meth c D Q nc ns S hE hf H locs ls hP hS hl
  exact lv_aload_nN S.1.1 S.1.2.1 d rfl (hl.2.2 1 _ rfl).2 (k p e s m args below meth c D Q nc ns S hE hf H locs ls hP hS hl)
theorem ww_astore_1N (q : Nat) (hq : pc + 1 = q)  {x0 : Option Value} {x1 : Option Value} {r : List (Option Value)} (d : decode cc pc = .ok (.astore_n 1, 1)) (hn : 1 < nL) (k : WW l cc nL ret own R ca a E q (x0 :: some (.null) :: r) st μ) : WW l cc nL ret own R ca a E pc (x0 :: x1 :: r) (.null :: st) μ := by
  subst hq
  intro p e s m args below meth c D Q nc ns S hE hf H locs ls hP hS hl
  exact lv_astore_nN S.1.1 S.1.2.1 d rfl (lh_has hl) hn rfl (fun ls' hl' => k p e s m args below meth c D Q nc ns S hE hf H locs ls' hP hS (lh_set hl rfl hl'))
theorem ww_iinc_1 (q : Nat) (hq : pc + 3 = q) {x : Int32} {x0 : Option Value} {r : List (Option Value)} (n : Int) (v : Int32) (d : decode cc pc = .ok (.iinc 1 n, 3)) (hv : Int32.ofInt n = v) (hn : 1 < nL) (k : WW l cc nL ret own R ca a E q (x0 :: some (.int (x + v)) :: r) st μ) : WW l cc nL ret own R ca a E pc (x0 :: some (.int x) :: r) st μ := by
  subst hq
  intro p e s m args below meth c D Q nc ns S hE hf H locs ls hP hS hl
  subst hv
  obtain ⟨j, hj⟩ := List.getElem?_of_mem (lpr_mem.mpr (show ((x0 :: some (.int x) :: r) : List (Option Value))[((1, Value.int x) : Nat × Value).1]? = some (some ((1, Value.int x) : Nat × Value).2) from rfl))
  exact lv_iinc S.1.1 S.1.2.1 d (lh_has hl) hj rfl hn rfl (fun ls' hl' => k p e s m args below meth c D Q nc ns S hE hf H locs ls' hP hS (lh_set hl rfl hl'))
theorem ww_iload_2 (q : Nat) (hq : pc + 1 = q) {x : Int32} {x0 : Option Value} {x1 : Option Value} {r : List (Option Value)} (d : decode cc pc = .ok (.iload_n 2, 1)) (k : WW l cc nL ret own R ca a E q (x0 :: x1 :: some (.int x) :: r) (.int x :: st) μ) : WW l cc nL ret own R ca a E pc (x0 :: x1 :: some (.int x) :: r) st μ := by
  subst hq
  intro p e s m args below meth c D Q nc ns S hE hf H locs ls hP hS hl
  exact lv_iload_n S.1.1 S.1.2.1 d rfl (hl.2.2 2 _ rfl).2 (k p e s m args below meth c D Q nc ns S hE hf H locs ls hP hS hl)
theorem ww_istore_2 (q : Nat) (hq : pc + 1 = q) {x : Int32} {x0 : Option Value} {x1 : Option Value} {x2 : Option Value} {r : List (Option Value)} (d : decode cc pc = .ok (.istore_n 2, 1)) (hn : 2 < nL) (k : WW l cc nL ret own R ca a E q (x0 :: x1 :: some (.int x) :: r) st μ) : WW l cc nL ret own R ca a E pc (x0 :: x1 :: x2 :: r) (.int x :: st) μ := by
  subst hq
  intro p e s m args below meth c D Q nc ns S hE hf H locs ls hP hS hl
  exact lv_istore_n S.1.1 S.1.2.1 d rfl (lh_has hl) hn rfl (fun ls' hl' => k p e s m args below meth c D Q nc ns S hE hf H locs ls' hP hS (lh_set hl rfl hl'))
theorem ww_aload_2 (q : Nat) (hq : pc + 1 = q) {x : Nat} {x0 : Option Value} {x1 : Option Value} {r : List (Option Value)} (d : decode cc pc = .ok (.aload_n 2, 1)) (k : WW l cc nL ret own R ca a E q (x0 :: x1 :: some (.ref x) :: r) (.ref x :: st) μ) : WW l cc nL ret own R ca a E pc (x0 :: x1 :: some (.ref x) :: r) st μ := by
  subst hq
  intro p e s m args below meth c D Q nc ns S hE hf H locs ls hP hS hl
  exact lv_aload_n S.1.1 S.1.2.1 d rfl (hl.2.2 2 _ rfl).2 (k p e s m args below meth c D Q nc ns S hE hf H locs ls hP hS hl)
theorem ww_astore_2 (q : Nat) (hq : pc + 1 = q) {x : Nat} {x0 : Option Value} {x1 : Option Value} {x2 : Option Value} {r : List (Option Value)} (d : decode cc pc = .ok (.astore_n 2, 1)) (hn : 2 < nL) (k : WW l cc nL ret own R ca a E q (x0 :: x1 :: some (.ref x) :: r) st μ) : WW l cc nL ret own R ca a E pc (x0 :: x1 :: x2 :: r) (.ref x :: st) μ := by
  subst hq
  intro p e s m args below meth c D Q nc ns S hE hf H locs ls hP hS hl
  exact lv_astore_n S.1.1 S.1.2.1 d rfl (lh_has hl) hn rfl (fun ls' hl' => k p e s m args below meth c D Q nc ns S hE hf H locs ls' hP hS (lh_set hl rfl hl'))
theorem ww_aload_2N (q : Nat) (hq : pc + 1 = q)  {x0 : Option Value} {x1 : Option Value} {r : List (Option Value)} (d : decode cc pc = .ok (.aload_n 2, 1)) (k : WW l cc nL ret own R ca a E q (x0 :: x1 :: some (.null) :: r) (.null :: st) μ) : WW l cc nL ret own R ca a E pc (x0 :: x1 :: some (.null) :: r) st μ := by
  subst hq
  intro p e s m args below meth c D Q nc ns S hE hf H locs ls hP hS hl
  exact lv_aload_nN S.1.1 S.1.2.1 d rfl (hl.2.2 2 _ rfl).2 (k p e s m args below meth c D Q nc ns S hE hf H locs ls hP hS hl)
theorem ww_astore_2N (q : Nat) (hq : pc + 1 = q)  {x0 : Option Value} {x1 : Option Value} {x2 : Option Value} {r : List (Option Value)} (d : decode cc pc = .ok (.astore_n 2, 1)) (hn : 2 < nL) (k : WW l cc nL ret own R ca a E q (x0 :: x1 :: some (.null) :: r) st μ) : WW l cc nL ret own R ca a E pc (x0 :: x1 :: x2 :: r) (.null :: st) μ := by
  subst hq
  intro p e s m args below meth c D Q nc ns S hE hf H locs ls hP hS hl
  exact lv_astore_nN S.1.1 S.1.2.1 d rfl (lh_has hl) hn rfl (fun ls' hl' => k p e s m args below meth c D Q nc ns S hE hf H locs ls' hP hS (lh_set hl rfl hl'))
theorem ww_iinc_2 (q : Nat) (hq : pc + 3 = q) {x : Int32} {x0 : Option Value} {x1 : Option Value} {r : List (Option Value)} (n : Int) (v : Int32) (d : decode cc pc = .ok (.iinc 2 n, 3)) (hv : Int32.ofInt n = v) (hn : 2 < nL) (k : WW l cc nL ret own R ca a E q (x0 :: x1 :: some (.int (x + v)) :: r) st μ) : WW l cc nL ret own R ca a E pc (x0 :: x1 :: some (.int x) :: r) st μ := by
  subst hq
  intro p e s m args below meth c D Q nc ns S hE hf H locs ls hP hS hl
  subst hv
  obtain ⟨j, hj⟩ := List.getElem?_of_mem (lpr_mem.mpr (show ((x0 :: x1 :: some (.int x) :: r) : List (Option Value))[((2, Value.int x) : Nat × Value).1]? = some (some ((2, Value.int x) : Nat × Value).2) from rfl))
  exact lv_iinc S.1.1 S.1.2.1 d (lh_has hl) hj rfl hn rfl (fun ls' hl' => k p e s m args below meth c D Q nc ns S hE hf H locs ls' hP hS (lh_set hl rfl hl'))
theorem ww_iload_3 (q : Nat) (hq : pc + 1 = q) {x : Int32} {x0 : Option Value} {x1 : Option Value} {x2 : Option Value} {r : List (Option Value)} (d : decode cc pc = .ok (.iload_n 3, 1)) (k : WW l cc nL ret own R ca a E q (x0 :: x1 :: x2 :: some (.int x) :: r) (.int x :: st) μ) : WW l cc nL ret own R ca a E pc (x0 :: x1 :: x2 :: some (.int x) :: r) st μ := by
  subst hq
  intro p e s m args below meth c D Q nc ns S hE hf H locs ls hP hS hl
  exact lv_iload_n S.1.1 S.1.2.1 d rfl (hl.2.2 3 _ rfl).2 (k p e s m args below meth c D Q nc ns S hE hf H locs ls hP hS hl)
theorem ww_istore_3 (q : Nat) (hq : pc + 1 = q) {x : Int32} {x0 : Option Value} {x1 : Option Value} {x2 : Option Value} {x3 : Option Value} {r : List (Option Value)} (d : decode cc pc = .ok (.istore_n 3, 1)) (hn : 3 < nL) (k : WW l cc nL ret own R ca a E q (x0 :: x1 :: x2 :: some (.int x) :: r) st μ) : WW l cc nL ret own R ca a E pc (x0 :: x1 :: x2 :: x3 :: r) (.int x :: st) μ := by
  subst hq
  intro p e s m args below meth c D Q nc ns S hE hf H locs ls hP hS hl
  exact lv_istore_n S.1.1 S.1.2.1 d rfl (lh_has hl) hn rfl (fun ls' hl' => k p e s m args below meth c D Q nc ns S hE hf H locs ls' hP hS (lh_set hl rfl hl'))
theorem ww_aload_3 (q : Nat) (hq : pc + 1 = q) {x : Nat} {x0 : Option Value} {x1 : Option Value} {x2 : Option Value} {r : List (Option Value)} (d : decode cc pc = .ok (.aload_n 3, 1)) (k : WW l cc nL ret own R ca a E q (x0 :: x1 :: x2 :: some (.ref x) :: r) (.ref x :: st) μ) : WW l cc nL ret own R ca a E pc (x0 :: x1 :: x2 :: some (.ref x) :: r) st μ := by
  subst hq
  intro p e s m args below meth c D Q nc ns S hE hf H locs ls hP hS hl
  exact lv_aload_n S.1.1 S.1.2.1 d rfl (hl.2.2 3 _ rfl).2 (k p e s m args below meth c D Q nc ns S hE hf H locs ls hP hS hl)
theorem ww_astore_3 (q : Nat) (hq : pc + 1 = q) {x : Nat} {x0 : Option Value} {x1 : Option Value} {x2 : Option Value} {x3 : Option Value} {r : List (Option Value)} (d : decode cc pc = .ok (.astore_n 3, 1)) (hn : 3 < nL) (k : WW l cc nL ret own R ca a E q (x0 :: x1 :: x2 :: some (.ref x) :: r) st μ) : WW l cc nL ret own R ca a E pc (x0 :: x1 :: x2 :: x3 :: r) (.ref x :: st) μ := by
  subst hq
  intro p e s m args below meth c D Q nc ns S hE hf H locs ls hP hS hl
  exact lv_astore_n S.1.1 S.1.2.1 d rfl (lh_has hl) hn rfl (fun ls' hl' => k p e s m args below meth c D Q nc ns S hE hf H locs ls' hP hS (lh_set hl rfl hl'))
theorem ww_aload_3N (q : Nat) (hq : pc + 1 = q)  {x0 : Option Value} {x1 : Option Value} {x2 : Option Value} {r : List (Option Value)} (d : decode cc pc = .ok (.aload_n 3, 1)) (k : WW l cc nL ret own R ca a E q (x0 :: x1 :: x2 :: some (.null) :: r) (.null :: st) μ) : WW l cc nL ret own R ca a E pc (x0 :: x1 :: x2 :: some (.null) :: r) st μ := by
  subst hq
  intro p e s m args below meth c D Q nc ns S hE hf H locs ls hP hS hl
  exact lv_aload_nN S.1.1 S.1.2.1 d rfl (hl.2.2 3 _ rfl).2 (k p e s m args below meth c D Q nc ns S hE hf H locs ls hP hS hl)
theorem ww_astore_3N (q : Nat) (hq : pc + 1 = q)  {x0 : Option Value} {x1 : Option Value} {x2 : Option Value} {x3 : Option Value} {r : List (Option Value)} (d : decode cc pc = .ok (.astore_n 3, 1)) (hn : 3 < nL) (k : WW l cc nL ret own R ca a E q (x0 :: x1 :: x2 :: some (.null) :: r) st μ) : WW l cc nL ret own R ca a E pc (x0 :: x1 :: x2 :: x3 :: r) (.null :: st) μ := by
  subst hq
  intro p e s m args below meth c D Q nc ns S hE hf H locs ls hP hS hl
  exact lv_astore_nN S.1.1 S.1.2.1 d rfl (lh_has hl) hn rfl (fun ls' hl' => k p e s m args below meth c D Q nc ns S hE hf H locs ls' hP hS (lh_set hl rfl hl'))
theorem ww_iinc_3 (q : Nat) (hq : pc + 3 = q) {x : Int32} {x0 : Option Value} {x1 : Option Value} {x2 : Option Value} {r : List (Option Value)} (n : Int) (v : Int32) (d : decode cc pc = .ok (.iinc 3 n, 3)) (hv : Int32.ofInt n = v) (hn : 3 < nL) (k : WW l cc nL ret own R ca a E q (x0 :: x1 :: x2 :: some (.int (x + v)) :: r) st μ) : WW l cc nL ret own R ca a E pc (x0 :: x1 :: x2 :: some (.int x) :: r) st μ := by
  subst hq
  intro p e s m args below meth c D Q nc ns S hE hf H locs ls hP hS hl
  subst hv
  obtain ⟨j, hj⟩ := List.getElem?_of_mem (lpr_mem.mpr (show ((x0 :: x1 :: x2 :: some (.int x) :: r) : List (Option Value))[((3, Value.int x) : Nat × Value).1]? = some (some ((3, Value.int x) : Nat × Value).2) from rfl))
  exact lv_iinc S.1.1 S.1.2.1 d (lh_has hl) hj rfl hn rfl (fun ls' hl' => k p e s m args below meth c D Q nc ns S hE hf H locs ls' hP hS (lh_set hl rfl hl'))
theorem ww_iload_4 (q : Nat) (hq : pc + 2 = q) {x : Int32} {x0 : Option Value} {x1 : Option Value} {x2 : Option Value} {x3 : Option Value} {r : List (Option Value)} (d : decode cc pc = .ok (.iload 4, 2)) (k : WW l cc nL ret own R ca a E q (x0 :: x1 :: x2 :: x3 :: some (.int x) :: r) (.int x :: st) μ) : WW l cc nL ret own R ca a E pc (x0 :: x1 :: x2 :: x3 :: some (.int x) :: r) st μ := by
  subst hq
  intro p e s m args below meth c D Q nc ns S hE hf H locs ls hP hS hl
  exact lv_iload S.1.1 S.1.2.1 d (hl.2.2 4 _ rfl).2 (k p e s m args below meth c D Q nc ns S hE hf H locs ls hP hS hl)
theorem ww_istore_4 (q : Nat) (hq : pc + 2 = q) {x : Int32} {x0 : Option Value} {x1 : Option Value} {x2 : Option Value} {x3 : Option Value} {x4 : Option Value} {r : List (Option Value)} (d : decode cc pc = .ok (.istore 4, 2)) (hn : 4 < nL) (k : WW l cc nL ret own R ca a E q (x0 :: x1 :: x2 :: x3 :: some (.int x) :: r) st μ) : WW l cc nL ret own R ca a E pc (x0 :: x1 :: x2 :: x3 :: x4 :: r) (.int x :: st) μ := by
  subst hq
  intro p e s m args below meth c D Q nc ns S hE hf H locs ls hP hS hl
  exact lv_istore S.1.1 S.1.2.1 d (lh_has hl) hn rfl (fun ls' hl' => k p e s m args below meth c D Q nc ns S hE hf H locs ls' hP hS (lh_set hl rfl hl'))
theorem ww_aload_4 (q : Nat) (hq : pc + 2 = q) {x : Nat} {x0 : Option Value} {x1 : Option Value} {x2 : Option Value} {x3 : Option Value} {r : List (Option Value)} (d : decode cc pc = .ok (.aload 4, 2)) (k : WW l cc nL ret own R ca a E q (x0 :: x1 :: x2 :: x3 :: some (.ref x) :: r) (.ref x :: st) μ) : WW l cc nL ret own R ca a E pc (x0 :: x1 :: x2 :: x3 :: some (.ref x) :: r) st μ := by
  subst hq
  intro p e s m args below meth c D Q nc ns S hE hf H locs ls hP hS hl
  exact lv_aload S.1.1 S.1.2.1 d (hl.2.2 4 _ rfl).2 (k p e s m args below meth c D Q nc ns S hE hf H locs ls hP hS hl)
theorem ww_astore_4 (q : Nat) (hq : pc + 2 = q) {x : Nat} {x0 : Option Value} {x1 : Option Value} {x2 : Option Value} {x3 : Option Value} {x4 : Option Value} {r : List (Option Value)} (d : decode cc pc = .ok (.astore 4, 2)) (hn : 4 < nL) (k : WW l cc nL ret own R ca a E q (x0 :: x1 :: x2 :: x3 :: some (.ref x) :: r) st μ) : WW l cc nL ret own R ca a E pc (x0 :: x1 :: x2 :: x3 :: x4 :: r) (.ref x :: st) μ := by
  subst hq
  intro p e s m args below meth c D Q nc ns S hE hf H locs ls hP hS hl
  exact lv_astore S.1.1 S.1.2.1 d (lh_has hl) hn rfl (fun ls' hl' => k p e s m args below meth c D Q nc ns S hE hf H locs ls' hP hS (lh_set hl rfl hl'))
theorem ww_aload_4N (q : Nat) (hq : pc + 2 = q)  {x0 : Option Value} {x1 : Option Value} {x2 : Option Value} {x3 : Option Value} {r : List (Option Value)} (d : decode cc pc = .ok (.aload 4, 2)) (k : WW l cc nL ret own R ca a E q (x0 :: x1 :: x2 :: x3 :: some (.null) :: r) (.null :: st) μ) : WW l cc nL ret own R ca a E pc (x0 :: x1 :: x2 :: x3 :: some (.null) :: r) st μ := by
  subst hq
  intro p e s m args below meth c D Q nc ns S hE hf H locs ls hP hS hl
  exact lv_aloadN S.1.1 S.1.2.1 d (hl.2.2 4 _ rfl).2 (k p e s m args below meth c D Q nc ns S hE hf H locs ls hP hS hl)
theorem ww_astore_4N (q : Nat) (hq : pc + 2 = q)  {x0 : Option Value} {x1 : Option Value} {x2 : Option Value} {x3 : Option Value} {x4 : Option Value} {r : List (Option Value)} (d : decode cc pc = .ok (.astore 4, 2)) (hn : 4 < nL) (k : WW l cc nL ret own R ca a E q (x0 :: x1 :: x2 :: x3 :: some (.null) :: r) st μ) : WW l cc nL ret own R ca a E pc (x0 :: x1 :: x2 :: x3 :: x4 :: r) (.null :: st) μ := by
  subst hq
  intro p e s m args below meth c D Q nc ns S hE hf H locs ls hP hS hl
  exact lv_astoreN S.1.1 S.1.2.1 d (lh_has hl) hn rfl (fun ls' hl' => k p e s m args below meth c D Q nc ns S hE hf H locs ls' hP hS (lh_set hl rfl hl'))
theorem ww_iinc_4 (q : Nat) (hq : pc + 3 = q) {x : Int32} {x0 : Option Value} {x1 : Option Value} {x2 : Option Value} {x3 : Option Value} {r : List (Option Value)} (n : Int) (v : Int32) (d : decode cc pc = .ok (.iinc 4 n, 3)) (hv : Int32.ofInt n = v) (hn : 4 < nL) (k : WW l cc nL ret own R ca a E q (x0 :: x1 :: x2 :: x3 :: some (.int (x + v)) :: r) st μ) : WW l cc nL ret own R ca a E pc (x0 :: x1 :: x2 :: x3 :: some (.int x) :: r) st μ := by
  subst hq
  intro p e s m args below meth c D Q nc ns S hE hf H locs ls hP hS hl
  subst hv
  obtain ⟨j, hj⟩ := List.getElem?_of_mem (lpr_mem.mpr (show ((x0 :: x1 :: x2 :: x3 :: some (.int x) :: r) : List (Option Value))[((4, Value.int x) : Nat × Value).1]? = some (some ((4, Value.int x) : Nat × Value).2) from rfl))
  exact lv_iinc S.1.1 S.1.2.1 d (lh_has hl) hj rfl hn rfl (fun ls' hl' => k p e s m args below meth c D Q nc ns S hE hf H locs ls' hP hS (lh_set hl rfl hl'))
theorem ww_iload_5 (q : Nat) (hq : pc + 2 = q) {x : Int32} {x0 : Option Value} {x1 : Option Value} {x2 : Option Value} {x3 : Option Value} {x4 : Option Value} {r : List (Option Value)} (d : decode cc pc = .ok (.iload 5, 2)) (k : WW l cc nL ret own R ca a E q (x0 :: x1 :: x2 :: x3 :: x4 :: some (.int x) :: r) (.int x :: st) μ) : WW l cc nL ret own R ca a E pc (x0 :: x1 :: x2 :: x3 :: x4 :: some (.int x) :: r) st μ := by
  subst hq
  intro p e s m args below meth c D Q nc ns S hE hf H locs ls hP hS hl
  exact lv_iload S.1.1 S.1.2.1 d (hl.2.2 5 _ rfl).2 (k p e s m args below meth c D Q nc ns S hE hf H locs ls hP hS hl)
theorem ww_istore_5 (q : Nat) (hq : pc + 2 = q) {x : Int32} {x0 : Option Value} {x1 : Option Value} {x2 : Option Value} {x3 : Option Value} {x4 : Option Value} {x5 : Option Value} {r : List (Option Value)} (d : decode cc pc = .ok (.istore 5, 2)) (hn : 5 < nL) (k : WW l cc nL ret own R ca a E q (x0 :: x1 :: x2 :: x3 :: x4 :: some (.int x) :: r) st μ) : WW l cc nL ret own R ca a E pc (x0 :: x1 :: x2 :: x3 :: x4 :: x5 :: r) (.int x :: st) μ := by
  subst hq
  intro p e s m args below meth c D Q nc ns S hE hf H locs ls hP hS hl
  exact lv_istore S.1.1 S.1.2.1 d (lh_has hl) hn rfl (fun ls' hl' => k p e s m args below meth c D Q nc ns S hE hf H locs ls' hP hS (lh_set hl rfl hl'))
theorem ww_aload_5 (q : Nat) (hq : pc + 2 = q) {x : Nat} {x0 : Option Value} {x1 : Option Value} {x2 : Option Value} {x3 : Option Value} {x4 : Option Value} {r : List (Option Value)} (d : decode cc pc = .ok (.aload 5, 2)) (k : WW l cc nL ret own R ca a E q (x0 :: x1 :: x2 :: x3 :: x4 :: some (.ref x) :: r) (.ref x :: st) μ) : WW l cc nL ret own R ca a E pc (x0 :: x1 :: x2 :: x3 :: x4 :: some (.ref x) :: r) st μ := by
  subst hq
  intro p e s m args below meth c D Q nc ns S hE hf H locs ls hP hS hl
  exact lv_aload S.1.1 S.1.2.1 d (hl.2.2 5 _ rfl).2 (k p e s m args below meth c D Q nc ns S hE hf H locs ls hP hS hl)
theorem ww_astore_5 (q : Nat) (hq : pc + 2 = q) {x : Nat} {x0 : Option Value} {x1 : Option Value} {x2 : Option Value} {x3 : Option Value} {x4 : Option Value} {x5 : Option Value} {r : List (Option Value)} (d : decode cc pc = .ok (.astore 5, 2)) (hn : 5 < nL) (k : WW l cc nL ret own R ca a E q (x0 :: x1 :: x2 :: x3 :: x4 :: some (.ref x) :: r) st μ) : WW l cc nL ret own R ca a E pc (x0 :: x1 :: x2 :: x3 :: x4 :: x5 :: r) (.ref x :: st) μ := by
  subst hq
  intro p e s m args below meth c D Q nc ns S hE hf H locs ls hP hS hl
  exact lv_astore S.1.1 S.1.2.1 d (lh_has hl) hn rfl (fun ls' hl' => k p e s m args below meth c D Q nc ns S hE hf H locs ls' hP hS (lh_set hl rfl hl'))
theorem ww_aload_5N (q : Nat) (hq : pc + 2 = q)  {x0 : Option Value} {x1 : Option Value} {x2 : Option Value} {x3 : Option Value} {x4 : Option Value} {r : List (Option Value)} (d : decode cc pc = .ok (.aload 5, 2)) (k : WW l cc nL ret own R ca a E q (x0 :: x1 :: x2 :: x3 :: x4 :: some (.null) :: r) (.null :: st) μ) : WW l cc nL ret own R ca a E pc (x0 :: x1 :: x2 :: x3 :: x4 :: some (.null) :: r) st μ := by
  subst hq
  intro p e s m args below meth c D Q nc ns S hE hf H locs ls hP hS hl
  exact lv_aloadN S.1.1 S.1.2.1 d (hl.2.2 5 _ rfl).2 (k p e s m args below meth c D Q nc ns S hE hf H locs ls hP hS hl)
theorem ww_astore_5N (q : Nat) (hq : pc + 2 = q)  {x0 : Option Value} {x1 : Option Value} {x2 : Option Value} {x3 : Option Value} {x4 : Option Value} {x5 : Option Value} {r : List (Option Value)} (d : decode cc pc = .ok (.astore 5, 2)) (hn : 5 < nL) (k : WW l cc nL ret own R ca a E q (x0 :: x1 :: x2 :: x3 :: x4 :: some (.null) :: r) st μ) : WW l cc nL ret own R ca a E pc (x0 :: x1 :: x2 :: x3 :: x4 :: x5 :: r) (.null :: st) μ := by
  subst hq
  intro p e s m args below meth c D Q nc ns S hE hf H locs ls hP hS hl
  exact lv_astoreN S.1.1 S.1.2.1 d (lh_has hl) hn rfl (fun ls' hl' => k p e s m args below meth c D Q nc ns S hE hf H locs ls' hP hS (lh_set hl rfl hl'))
theorem ww_iinc_5 (q : Nat) (hq : pc + 3 = q) {x : Int32} {x0 : Option Value} {x1 : Option Value} {x2 : Option Value} {x3 : Option Value} {x4 : Option Value} {r : List (Option Value)} (n : Int) (v : Int32) (d : decode cc pc = .ok (.iinc 5 n, 3)) (hv : Int32.ofInt n = v) (hn : 5 < nL) (k : WW l cc nL ret own R ca a E q (x0 :: x1 :: x2 :: x3 :: x4 :: some (.int (x + v)) :: r) st μ) : WW l cc nL ret own R ca a E pc (x0 :: x1 :: x2 :: x3 :: x4 :: some (.int x) :: r) st μ := by
  subst hq
  intro p e s m args below meth c D Q nc ns S hE hf H locs ls hP hS hl
  subst hv
  obtain ⟨j, hj⟩ := List.getElem?_of_mem (lpr_mem.mpr (show ((x0 :: x1 :: x2 :: x3 :: x4 :: some (.int x) :: r) : List (Option Value))[((5, Value.int x) : Nat × Value).1]? = some (some ((5, Value.int x) : Nat × Value).2) from rfl))
  exact lv_iinc S.1.1 S.1.2.1 d (lh_has hl) hj rfl hn rfl (fun ls' hl' => k p e s m args below meth c D Q nc ns S hE hf H locs ls' hP hS (lh_set hl rfl hl'))
theorem ww_iload_6 (q : Nat) (hq : pc + 2 = q) {x : Int32} {x0 : Option Value} {x1 : Option Value} {x2 : Option Value} {x3 : Option Value} {x4 : Option Value} {x5 : Option Value} {r : List (Option Value)} (d : decode cc pc = .ok (.iload 6, 2)) (k : WW l cc nL ret own R ca a E q (x0 :: x1 :: x2 :: x3 :: x4 :: x5 :: some (.int x) :: r) (.int x :: st) μ) : WW l cc nL ret own R ca a E pc (x0 :: x1 :: x2 :: x3 :: x4 :: x5 :: some (.int x) :: r) st μ := by
  subst hq
  intro p e s m args below meth c D Q nc ns S hE hf H locs ls hP hS hl
  exact lv_iload S.1.1 S.1.2.1 d (hl.2.2 6 _ rfl).2 (k p e s m args below meth c D Q nc ns S hE hf H locs ls hP hS hl)
theorem ww_istore_6 (q : Nat) (hq : pc + 2 = q) {x : Int32} {x0 : Option Value} {x1 : Option Value} {x2 : Option Value} {x3 : Option Value} {x4 : Option Value} {x5 : Option Value} {x6 : Option Value} {r : List (Option Value)} (d : decode cc pc = .ok (.istore 6, 2)) (hn : 6 < nL) (k : WW l cc nL ret own R ca a E q (x0 :: x1 :: x2 :: x3 :: x4 :: x5 :: some (.int x) :: r) st μ) : WW l cc nL ret own R ca a E pc (x0 :: x1 :: x2 :: x3 :: x4 :: x5 :: x6 :: r) (.int x :: st) μ := by
  subst hq
  intro p e s m args below meth c D Q nc ns S hE hf H locs ls hP hS hl
  exact lv_istore S.1.1 S.1.2.1 d (lh_has hl) hn rfl (fun ls' hl' => k p e s m args below meth c D Q nc ns S hE hf H locs ls' hP hS (lh_set hl rfl hl'))
theorem ww_aload_6 (q : Nat) (hq : pc + 2 = q) {x : Nat} {x0 : Option Value} {x1 : Option Value} {x2 : Option Value} {x3 : Option Value} {x4 : Option Value} {x5 : Option Value} {r : List (Option Value)} (d : decode cc pc = .ok (.aload 6, 2)) (k : WW l cc nL ret own R ca a E q (x0 :: x1 :: x2 :: x3 :: x4 :: x5 :: some (.ref x) :: r) (.ref x :: st) μ) : WW l cc nL ret own R ca a E pc (x0 :: x1 :: x2 :: x3 :: x4 :: x5 :: some (.ref x) :: r) st μ := by
  subst hq
  intro p e s m args below meth c D Q nc ns S hE hf H locs ls hP hS hl
  exact lv_aload S.1.1 S.1.2.1 d (hl.2.2 6 _ rfl).2 (k p e s m args below meth c D Q nc ns S hE hf H locs ls hP hS hl)
theorem ww_astore_6 (q : Nat) (hq : pc + 2 = q) {x : Nat} {x0 : Option Value} {x1 : Option Value} {x2 : Option Value} {x3 : Option Value} {x4 : Option Value} {x5 : Option Value} {x6 : Option Value} {r : List (Option Value)} (d : decode cc pc = .ok (.astore 6, 2)) (hn : 6 < nL) (k : WW l cc nL ret own R ca a E q (x0 :: x1 :: x2 :: x3 :: x4 :: x5 :: some (.ref x) :: r) st μ) : WW l cc nL ret own R ca a E pc (x0 :: x1 :: x2 :: x3 :: x4 :: x5 :: x6 :: r) (.ref x :: st) μ := by
  subst hq
  intro p e s m args below meth c D Q nc ns S hE hf H locs ls hP hS hl
  exact lv_astore S.1.1 S.1.2.1 d (lh_has hl) hn rfl (fun ls' hl' => k p e s m args below meth c D Q nc ns S hE hf H locs ls' hP hS (lh_set hl rfl hl'))
theorem ww_aload_6N (q : Nat) (hq : pc + 2 = q)  {x0 : Option Value} {x1 : Option Value} {x2 : Option Value} {x3 : Option Value} {x4 : Option Value} {x5 : Option Value} {r : List (Option Value)} (d : decode cc pc = .ok (.aload 6, 2)) (k : WW l cc nL ret own R ca a E q (x0 :: x1 :: x2 :: x3 :: x4 :: x5 :: some (.null) :: r) (.null :: st) μ) : WW l cc nL ret own R ca a E pc (x0 :: x1 :: x2 :: x3 :: x4 :: x5 :: some (.null) :: r) st μ := by
  subst hq
  intro p e s m args below meth c D Q nc ns S hE hf H locs ls hP hS hl
  exact lv_aloadN S.1.1 S.1.2.1 d (hl.2.2 6 _ rfl).2 (k p e s m args below meth c D Q nc ns S hE hf H locs ls hP hS hl)
theorem ww_astore_6N (q : Nat) (hq : pc + 2 = q)  {x0 : Option Value} {x1 : Option Value} {x2 : Option Value} {x3 : Option Value} {x4 : Option Value} {x5 : Option Value} {x6 : Option Value} {r : List (Option Value)} (d : decode cc pc = .ok (.astore 6, 2)) (hn : 6 < nL) (k : WW l cc nL ret own R ca a E q (x0 :: x1 :: x2 :: x3 :: x4 :: x5 :: some (.null) :: r) st μ) : WW l cc nL ret own R ca a E pc (x0 :: x1 :: x2 :: x3 :: x4 :: x5 :: x6 :: r) (.null :: st) μ := by
  subst hq
  intro p e s m args below meth c D Q nc ns S hE hf H locs ls hP hS hl
  exact lv_astoreN S.1.1 S.1.2.1 d (lh_has hl) hn rfl (fun ls' hl' => k p e s m args below meth c D Q nc ns S hE hf H locs ls' hP hS (lh_set hl rfl hl'))
theorem ww_iinc_6 (q : Nat) (hq : pc + 3 = q) {x : Int32} {x0 : Option Value} {x1 : Option Value} {x2 : Option Value} {x3 : Option Value} {x4 : Option Value} {x5 : Option Value} {r : List (Option Value)} (n : Int) (v : Int32) (d : decode cc pc = .ok (.iinc 6 n, 3)) (hv : Int32.ofInt n = v) (hn : 6 < nL) (k : WW l cc nL ret own R ca a E q (x0 :: x1 :: x2 :: x3 :: x4 :: x5 :: some (.int (x + v)) :: r) st μ) : WW l cc nL ret own R ca a E pc (x0 :: x1 :: x2 :: x3 :: x4 :: x5 :: some (.int x) :: r) st μ := by
  subst hq
  intro p e s m args below meth c D Q nc ns S hE hf H locs ls hP hS hl
  subst hv
  obtain ⟨j, hj⟩ := List.getElem?_of_mem (lpr_mem.mpr (show ((x0 :: x1 :: x2 :: x3 :: x4 :: x5 :: some (.int x) :: r) : List (Option Value))[((6, Value.int x) : Nat × Value).1]? = some (some ((6, Value.int x) : Nat × Value).2) from rfl))
  exact lv_iinc S.1.1 S.1.2.1 d (lh_has hl) hj rfl hn rfl (fun ls' hl' => k p e s m args below meth c D Q nc ns S hE hf H locs ls' hP hS (lh_set hl rfl hl'))
theorem ww_iload_7 (q : Nat) (hq : pc + 2 = q) {x : Int32} {x0 : Option Value} {x1 : Option Value} {x2 : Option Value} {x3 : Option Value} {x4 : Option Value} {x5 : Option Value} {x6 : Option Value} {r : List (Option Value)} (d : decode cc pc = .ok (.iload 7, 2)) (k : WW l cc nL ret own R ca a E q (x0 :: x1 :: x2 :: x3 :: x4 :: x5 :: x6 :: some (.int x) :: r) (.int x :: st) μ) : WW l cc nL ret own R ca a E pc (x0 :: x1 :: x2 :: x3 :: x4 :: x5 :: x6 :: some (.int x) :: r) st μ := by
  subst hq
  intro p e s m args below meth c D Q nc ns S hE hf H locs ls hP hS hl
  exact lv_iload S.1.1 S.1.2.1 d (hl.2.2 7 _ rfl).2 (k p e s m args below meth c D Q nc ns S hE hf H locs ls hP hS hl)
theorem ww_istore_7 (q : Nat) (hq : pc + 2 = q) {x : Int32} {x0 : Option Value} {x1 : Option Value} {x2 : Option Value} {x3 : Option Value} {x4 : Option Value} {x5 : Option Value} {x6 : Option Value} {x7 : Option Value} {r : List (Option Value)} (d : decode cc pc = .ok (.istore 7, 2)) (hn : 7 < nL) (k : WW l cc nL ret own R ca a E q (x0 :: x1 :: x2 :: x3 :: x4 :: x5 :: x6 :: some (.int x) :: r) st μ) : WW l cc nL ret own R ca a E pc (x0 :: x1 :: x2 :: x3 :: x4 :: x5 :: x6 :: x7 :: r) (.int x :: st) μ := by
  subst hq
  intro p e s m args below meth c D Q nc ns S hE hf H locs ls hP hS hl
  exact lv_istore S.1.1 S.1.2.1 d (lh_has hl) hn rfl (fun ls' hl' => k p e s m args below meth c D Q nc ns S hE hf H locs ls' hP hS (lh_set hl rfl hl'))
theorem ww_aload_7 (q : Nat) (hq : pc + 2 = q) {x : Nat} {x0 : Option Value} {x1 : Option Value} {x2 : Option Value} {x3 : Option Value} {x4 : Option Value} {x5 : Option Value} {x6 : Option Value} {r : List (Option Value)} (d : decode cc pc = .ok (.aload 7, 2)) (k : WW l cc nL ret own R ca a E q (x0 :: x1 :: x2 :: x3 :: x4 :: x5 :: x6 :: some (.ref x) :: r) (.ref x :: st) μ) : WW l cc nL ret own R ca a E pc (x0 :: x1 :: x2 :: x3 :: x4 :: x5 :: x6 :: some (.ref x) :: r) st μ := by
  subst hq
  intro p e s m args below meth c D Q nc ns S hE hf H locs ls hP hS hl
  exact lv_aload S.1.1 S.1.2.1 d (hl.2.2 7 _ rfl).2 (k p e s m args below meth c D Q nc ns S hE hf H locs ls hP hS hl)
theorem ww_astore_7 (q : Nat) (hq : pc + 2 = q) {x : Nat} {x0 : Option Value} {x1 : Option Value} {x2 : Option Value} {x3 : Option Value} {x4 : Option Value} {x5 : Option Value} {x6 : Option Value} {x7 : Option Value} {r : List (Option Value)} (d : decode cc pc = .ok (.astore 7, 2)) (hn : 7 < nL) (k : WW l cc nL ret own R ca a E q (x0 :: x1 :: x2 :: x3 :: x4 :: x5 :: x6 :: some (.ref x) :: r) st μ) : WW l cc nL ret own R ca a E pc (x0 :: x1 :: x2 :: x3 :: x4 :: x5 :: x6 :: x7 :: r) (.ref x :: st) μ := by
  subst hq
  intro p e s m args below meth c D Q nc ns S hE hf H locs ls hP hS hl
  exact lv_astore S.1.1 S.1.2.1 d (lh_has hl) hn rfl (fun ls' hl' => k p e s m args below meth c D Q nc ns S hE hf H locs ls' hP hS (lh_set hl rfl hl'))
theorem ww_aload_7N (q : Nat) (hq : pc + 2 = q)  {x0 : Option Value} {x1 : Option Value} {x2 : Option Value} {x3 : Option Value} {x4 : Option Value} {x5 : Option Value} {x6 : Option Value} {r : List (Option Value)} (d : decode cc pc = .ok (.aload 7, 2)) (k : WW l cc nL ret own R ca a E q (x0 :: x1 :: x2 :: x3 :: x4 :: x5 :: x6 :: some (.null) :: r) (.null :: st) μ) : WW l cc nL ret own R ca a E pc (x0 :: x1 :: x2 :: x3 :: x4 :: x5 :: x6 :: some (.null) :: r) st μ := by
  subst hq
  intro p e s m args below meth c D Q nc ns S hE hf H locs ls hP hS hl
  exact lv_aloadN S.1.1 S.1.2.1 d (hl.2.2 7 _ rfl).2 (k p e s m args below meth c D Q nc ns S hE hf H locs ls hP hS hl)
theorem ww_astore_7N (q : Nat) (hq : pc + 2 = q)  {x0 : Option Value} {x1 : Option Value} {x2 : Option Value} {x3 : Option Value} {x4 : Option Value} {x5 : Option Value} {x6 : Option Value} {x7 : Option Value} {r : List (Option Value)} (d : decode cc pc = .ok (.astore 7, 2)) (hn : 7 < nL) (k : WW l cc nL ret own R ca a E q (x0 :: x1 :: x2 :: x3 :: x4 :: x5 :: x6 :: some (.null) :: r) st μ) : WW l cc nL ret own R ca a E pc (x0 :: x1 :: x2 :: x3 :: x4 :: x5 :: x6 :: x7 :: r) (.null :: st) μ := by
  subst hq
  intro p e s m args below meth c D Q nc ns S hE hf H locs ls hP hS hl
  exact lv_astoreN S.1.1 S.1.2.1 d (lh_has hl) hn rfl (fun ls' hl' => k p e s m args below meth c D Q nc ns S hE hf H locs ls' hP hS (lh_set hl rfl hl'))
theorem ww_iinc_7 (q : Nat) (hq : pc + 3 = q) {x : Int32} {x0 : Option Value} {x1 : Option Value} {x2 : Option Value} {x3 : Option Value} {x4 : Option Value} {x5 : Option Value} {x6 : Option Value} {r : List (Option Value)} (n : Int) (v : Int32) (d : decode cc pc = .ok (.iinc 7 n, 3)) (hv : Int32.ofInt n = v) (hn : 7 < nL) (k : WW l cc nL ret own R ca a E q (x0 :: x1 :: x2 :: x3 :: x4 :: x5 :: x6 :: some (.int (x + v)) :: r) st μ) : WW l cc nL ret own R ca a E pc (x0 :: x1 :: x2 :: x3 :: x4 :: x5 :: x6 :: some (.int x) :: r) st μ := by
  subst hq
  intro p e s m args below meth c D Q nc ns S hE hf H locs ls hP hS hl
  subst hv
  obtain ⟨j, hj⟩ := List.getElem?_of_mem (lpr_mem.mpr (show ((x0 :: x1 :: x2 :: x3 :: x4 :: x5 :: x6 :: some (.int x) :: r) : List (Option Value))[((7, Value.int x) : Nat × Value).1]? = some (some ((7, Value.int x) : Nat × Value).2) from rfl))
  exact lv_iinc S.1.1 S.1.2.1 d (lh_has hl) hj rfl hn rfl (fun ls' hl' => k p e s m args below meth c D Q nc ns S hE hf H locs ls' hP hS (lh_set hl rfl hl'))
theorem ww_iload_8 (q : Nat) (hq : pc + 2 = q) {x : Int32} {x0 : Option Value} {x1 : Option Value} {x2 : Option Value} {x3 : Option Value} {x4 : Option Value} {x5 : Option Value} {x6 : Option Value} {x7 : Option Value} {r : List (Option Value)} (d : decode cc pc = .ok (.iload 8, 2)) (k : WW l cc nL ret own R ca a E q (x0 :: x1 :: x2 :: x3 :: x4 :: x5 :: x6 :: x7 :: some (.int x) :: r) (.int x :: st) μ) : WW l cc nL ret own R ca a E pc (x0 :: x1 :: x2 :: x3 :: x4 :: x5 :: x6 :: x7 :: some (.int x) :: r) st μ := by
  subst hq
  intro p e s m args below meth c D Q nc ns S hE hf H locs ls hP hS hl
  exact lv_iload S.1.1 S.1.2.1 d (hl.2.2 8 _ rfl).2 (k p e s m args below meth c D Q nc ns S hE hf H locs ls hP hS hl)
theorem ww_istore_8 (q : Nat) (hq : pc + 2 = q) {x : Int32} {x0 : Option Value} {x1 : Option Value} {x2 : Option Value} {x3 : Option Value} {x4 : Option Value} {x5 : Option Value} {x6 : Option Value} {x7 : Option Value} {x8 : Option Value} {r : List (Option Value)} (d : decode cc pc = .ok (.istore 8, 2)) (hn : 8 < nL) (k : WW l cc nL ret own R ca a E q (x0 :: x1 :: x2 :: x3 :: x4 :: x5 :: x6 :: x7 :: some (.int x) :: r) st μ) : WW l cc nL ret own R ca a E pc (x0 :: x1 :: x2 :: x3 :: x4 :: x5 :: x6 :: x7 :: x8 :: r) (.int x :: st) μ := by
  subst hq
  intro p e s m args below meth c D Q nc ns S hE hf H locs ls hP hS hl
  exact lv_istore S.1.1 S.1.2.1 d (lh_has hl) hn rfl (fun ls' hl' => k p e s m args below meth c D Q nc ns S hE hf H locs ls' hP hS (lh_set hl rfl hl'))
theorem ww_aload_8 (q : Nat) (hq : pc + 2 = q) {x : Nat} {x0 : Option Value} {x1 : Option Value} {x2 : Option Value} {x3 : Option Value} {x4 : Option Value} {x5 : Option Value} {x6 : Option Value} {x7 : Option Value} {r : List (Option Value)} (d : decode cc pc = .ok (.aload 8, 2)) (k : WW l cc nL ret own R ca a E q (x0 :: x1 :: x2 :: x3 :: x4 :: x5 :: x6 :: x7 :: some (.ref x) :: r) (.ref x :: st) μ) : WW l cc nL ret own R ca a E pc (x0 :: x1 :: x2 :: x3 :: x4 :: x5 :: x6 :: x7 :: some (.ref x) :: r) st μ := by
  subst hq
  intro p e s m args below meth c D Q nc ns S hE hf H locs ls hP hS hl
  exact lv_aload S.1.1 S.1.2.1 d (hl.2.2 8 _ rfl).2 (k p e s m args below meth c D Q nc ns S hE hf H locs ls hP hS hl)
theorem ww_astore_8 (q : Nat) (hq : pc + 2 = q) {x : Nat} {x0 : Option Value} {x1 : Option Value} {x2 : Option Value} {x3 : Option Value} {x4 : Option Value} {x5 : Option Value} {x6 : Option Value} {x7 : Option Value} {x8 : Option Value} {r : List (Option Value)} (d : decode cc pc = .ok (.astore 8, 2)) (hn : 8 < nL) (k : WW l cc nL ret own R ca a E q (x0 :: x1 :: x2 :: x3 :: x4 :: x5 :: x6 :: x7 :: some (.ref x) :: r) st μ) : WW l cc nL ret own R ca a E pc (x0 :: x1 :: x2 :: x3 :: x4 :: x5 :: x6 :: x7 :: x8 :: r) (.ref x :: st) μ := by
  subst hq
  intro p e s m args below meth c D Q nc ns S hE hf H locs ls hP hS hl
  exact lv_astore S.1.1 S.1.2.1 d (lh_has hl) hn rfl (fun ls' hl' => k p e s m args below meth c D Q nc ns S hE hf H locs ls' hP hS (lh_set hl rfl hl'))
theorem ww_aload_8N (q : Nat) (hq : pc + 2 = q)  {x0 : Option Value} {x1 : Option Value} {x2 : Option Value} {x3 : Option Value} {x4 : Option Value} {x5 : Option Value} {x6 : Option Value} {x7 : Option Value} {r : List (Option Value)} (d : decode cc pc = .ok (.aload 8, 2)) (k : WW l cc nL ret own R ca a E q (x0 :: x1 :: x2 :: x3 :: x4 :: x5 :: x6 :: x7 :: some (.null) :: r) (.null :: st) μ) : WW l cc nL ret own R ca a E pc (x0 :: x1 :: x2 :: x3 :: x4 :: x5 :: x6 :: x7 :: some (.null) :: r) st μ := by
  subst hq
  intro p e s m args below meth c D Q nc ns S hE hf H locs ls hP hS hl
  exact lv_aloadN S.1.1 S.1.2.1 d (hl.2.2 8 _ rfl).2 (k p e s m args below meth c D Q nc ns S hE hf H locs ls hP hS hl)
theorem ww_astore_8N (q : Nat) (hq : pc + 2 = q)  {x0 : Option Value} {x1 : Option Value} {x2 : Option Value} {x3 : Option Value} {x4 : Option Value} {x5 : Option Value} {x6 : Option Value} {x7 : Option Value} {x8 : Option Value} {r : List (Option Value)} (d : decode cc pc = .ok (.astore 8, 2)) (hn : 8 < nL) (k : WW l cc nL ret own R ca a E q (x0 :: x1 :: x2 :: x3 :: x4 :: x5 :: x6 :: x7 :: some (.null) :: r) st μ) : WW l cc nL ret own R ca a E pc (x0 :: x1 :: x2 :: x3 :: x4 :: x5 :: x6 :: x7 :: x8 :: r) (.null :: st) μ := by
  subst hq
  intro p e s m args below meth c D Q nc ns S hE hf H locs ls hP hS hl
  exact lv_astoreN S.1.1 S.1.2.1 d (lh_has hl) hn rfl (fun ls' hl' => k p e s m args below meth c D Q nc ns S hE hf H locs ls' hP hS (lh_set hl rfl hl'))
theorem ww_iinc_8 (q : Nat) (hq : pc + 3 = q) {x : Int32} {x0 : Option Value} {x1 : Option Value} {x2 : Option Value} {x3 : Option Value} {x4 : Option Value} {x5 : Option Value} {x6 : Option Value} {x7 : Option Value} {r : List (Option Value)} (n : Int) (v : Int32) (d : decode cc pc = .ok (.iinc 8 n, 3)) (hv : Int32.ofInt n = v) (hn : 8 < nL) (k : WW l cc nL ret own R ca a E q (x0 :: x1 :: x2 :: x3 :: x4 :: x5 :: x6 :: x7 :: some (.int (x + v)) :: r) st μ) : WW l cc nL ret own R ca a E pc (x0 :: x1 :: x2 :: x3 :: x4 :: x5 :: x6 :: x7 :: some (.int x) :: r) st μ := by
  subst hq
  intro p e s m args below meth c D Q nc ns S hE hf H locs ls hP hS hl
  subst hv
  obtain ⟨j, hj⟩ := List.getElem?_of_mem (lpr_mem.mpr (show ((x0 :: x1 :: x2 :: x3 :: x4 :: x5 :: x6 :: x7 :: some (.int x) :: r) : List (Option Value))[((8, Value.int x) : Nat × Value).1]? = some (some ((8, Value.int x) : Nat × Value).2) from rfl))
  exact lv_iinc S.1.1 S.1.2.1 d (lh_has hl) hj rfl hn rfl (fun ls' hl' => k p e s m args below meth c D Q nc ns S hE hf H locs ls' hP hS (lh_set hl rfl hl'))
theorem ww_iload_9 (q : Nat) (hq : pc + 2 = q) {x : Int32} {x0 : Option Value} {x1 : Option Value} {x2 : Option Value} {x3 : Option Value} {x4 : Option Value} {x5 : Option Value} {x6 : Option Value} {x7 : Option Value} {x8 : Option Value} {r : List (Option Value)} (d : decode cc pc = .ok (.iload 9, 2)) (k : WW l cc nL ret own R ca a E q (x0 :: x1 :: x2 :: x3 :: x4 :: x5 :: x6 :: x7 :: x8 :: some (.int x) :: r) (.int x :: st) μ) : WW l cc nL ret own R ca a E pc (x0 :: x1 :: x2 :: x3 :: x4 :: x5 :: x6 :: x7 :: x8 :: some (.int x) :: r) st μ := by
  subst hq
  intro p e s m args below meth c D Q nc ns S hE hf H locs ls hP hS hl
  exact lv_iload S.1.1 S.1.2.1 d (hl.2.2 9 _ rfl).2 (k p e s m args below meth c D Q nc ns S hE hf H locs ls hP hS hl)
theorem ww_istore_9 (q : Nat) (hq : pc + 2 = q) {x : Int32} {x0 : Option Value} {x1 : Option Value} {x2 : Option Value} {x3 : Option Value} {x4 : Option Value} {x5 : Option Value} {x6 : Option Value} {x7 : Option Value} {x8 : Option Value} {x9 : Option Value} {r : List (Option Value)} (d : decode cc pc = .ok (.istore 9, 2)) (hn : 9 < nL) (k : WW l cc nL ret own R ca a E q (x0 :: x1 :: x2 :: x3 :: x4 :: x5 :: x6 :: x7 :: x8 :: some (.int x) :: r) st μ) : WW l cc nL ret own R ca a E pc (x0 :: x1 :: x2 :: x3 :: x4 :: x5 :: x6 :: x7 :: x8 :: x9 :: r) (.int x :: st) μ := by
  subst hq
  intro p e s m args below meth c D Q nc ns S hE hf H locs ls hP hS hl
  exact lv_istore S.1.1 S.1.2.1 d (lh_has hl) hn rfl (fun ls' hl' => k p e s m args below meth c D Q nc ns S hE hf H locs ls' hP hS (lh_set hl rfl hl'))
theorem ww_aload_9 (q : Nat) (hq : pc + 2 = q) {x : Nat} {x0 : Option Value} {x1 : Option Value} {x2 : Option Value} {x3 : Option Value} {x4 : Option Value} {x5 : Option Value} {x6 : Option Value} {x7 : Option Value} {x8 : Option Value} {r : List (Option Value)} (d : decode cc pc = .ok (.aload 9, 2)) (k : WW l cc nL ret own R ca a E q (x0 :: x1 :: x2 :: x3 :: x4 :: x5 :: x6 :: x7 :: x8 :: some (.ref x) :: r) (.ref x :: st) μ) : WW l cc nL ret own R ca a E pc (x0 :: x1 :: x2 :: x3 :: x4 :: x5 :: x6 :: x7 :: x8 :: some (.ref x) :: r) st μ := by
  subst hq
  intro p e s m args below meth c D Q nc ns S hE hf H locs ls hP hS hl
  exact lv_aload S.1.1 S.1.2.1 d (hl.2.2 9 _ rfl).2 (k p e s m args below meth c D Q nc ns S hE hf H locs ls hP hS hl)
theorem ww_astore_9 (q : Nat) (hq : pc + 2 = q) {x : Nat} {x0 : Option Value} {x1 : Option Value} {x2 : Option Value} {x3 : Option Value} {x4 : Option Value} {x5 : Option Value} {x6 : Option Value} {x7 : Option Value} {x8 : Option Value} {x9 : Option Value} {r : List (Option Value)} (d : decode cc pc = .ok (.astore 9, 2)) (hn : 9 < nL) (k : WW l cc nL ret own R ca a E q (x0 :: x1 :: x2 :: x3 :: x4 :: x5 :: x6 :: x7 :: x8 :: some (.ref x) :: r) st μ) : WW l cc nL ret own R ca a E pc (x0 :: x1 :: x2 :: x3 :: x4 :: x5 :: x6 :: x7 :: x8 :: x9 :: r) (.ref x :: st) μ := by
  subst hq
  intro p e s m args below meth c D Q nc ns S hE hf H locs ls hP hS hl
  exact lv_astore S.1.1 S.1.2.1 d (lh_has hl) hn rfl (fun ls' hl' => k p e s m args below meth c D Q nc ns S hE hf H locs ls' hP hS (lh_set hl rfl hl'))
theorem ww_aload_9N (q : Nat) (hq : pc + 2 = q)  {x0 : Option Value} {x1 : Option Value} {x2 : Option Value} {x3 : Option Value} {x4 : Option Value} {x5 : Option Value} {x6 : Option Value} {x7 : Option Value} {x8 : Option Value} {r : List (Option Value)} (d : decode cc pc = .ok (.aload 9, 2)) (k : WW l cc nL ret own R ca a E q (x0 :: x1 :: x2 :: x3 :: x4 :: x5 :: x6 :: x7 :: x8 :: some (.null) :: r) (.null :: st) μ) : WW l cc nL ret own R ca a E pc (x0 :: x1 :: x2 :: x3 :: x4 :: x5 :: x6 :: x7 :: x8 :: some (.null) :: r) st μ := by
  subst hq
  intro p e s m args below meth c D Q nc ns S hE hf H locs ls hP hS hl
  exact lv_aloadN S.1.1 S.1.2.1 d (hl.2.2 9 _ rfl).2 (k p e s m args below meth c D Q nc ns S hE hf H locs ls hP hS hl)
theorem ww_astore_9N (q : Nat) (hq : pc + 2 = q)  {x0 : Option Value} {x1 : Option Value} {x2 : Option Value} {x3 : Option Value} {x4 : Option Value} {x5 : Option Value} {x6 : Option Value} {x7 : Option Value} {x8 : Option Value} {x9 : Option Value} {r : List (Option Value)} (d : decode cc pc = .ok (.astore 9, 2)) (hn : 9 < nL) (k : WW l cc nL ret own R ca a E q (x0 :: x1 :: x2 :: x3 :: x4 :: x5 :: x6 :: x7 :: x8 :: some (.null) :: r) st μ) : WW l cc nL ret own R ca a E pc (x0 :: x1 :: x2 :: x3 :: x4 :: x5 :: x6 :: x7 :: x8 :: x9 :: r) (.null :: st) μ := by
  subst hq
  intro p e s m args below meth c D Q nc ns S hE hf H locs ls hP hS hl
  exact lv_astoreN S.1.1 S.1.2.1 d (lh_has hl) hn rfl (fun ls' hl' => k p e s m args below meth c D Q nc ns S hE hf H locs ls' hP hS (lh_set hl rfl hl'))
theorem ww_iinc_9 (q : Nat) (hq : pc + 3 = q) {x : Int32} {x0 : Option Value} {x1 : Option Value} {x2 : Option Value} {x3 : Option Value} {x4 : Option Value} {x5 : Option Value} {x6 : Option Value} {x7 : Option Value} {x8 : Option Value} {r : List (Option Value)} (n : Int) (v : Int32) (d : decode cc pc = .ok (.iinc 9 n, 3)) (hv : Int32.ofInt n = v) (hn : 9 < nL) (k : WW l cc nL ret own R ca a E q (x0 :: x1 :: x2 :: x3 :: x4 :: x5 :: x6 :: x7 :: x8 :: some (.int (x + v)) :: r) st μ) : WW l cc nL ret own R ca a E pc (x0 :: x1 :: x2 :: x3 :: x4 :: x5 :: x6 :: x7 :: x8 :: some (.int x) :: r) st μ := by
  subst hq
  intro p e s m args below meth c D Q nc ns S hE hf H locs ls hP hS hl
  subst hv
  obtain ⟨j, hj⟩ := List.getElem?_of_mem (lpr_mem.mpr (show ((x0 :: x1 :: x2 :: x3 :: x4 :: x5 :: x6 :: x7 :: x8 :: some (.int x) :: r) : List (Option Value))[((9, Value.int x) : Nat × Value).1]? = some (some ((9, Value.int x) : Nat × Value).2) from rfl))
  exact lv_iinc S.1.1 S.1.2.1 d (lh_has hl) hj rfl hn rfl (fun ls' hl' => k p e s m args below meth c D Q nc ns S hE hf H locs ls' hP hS (lh_set hl rfl hl'))
theorem ww_icmp_eq (q : Nat) (hq : pc + 3 = q) {x y : Int32} (o : Int) (t : Nat) (d : decode cc pc = .ok (.if_icmp .eq o, 3)) (ht : (pc : Int) + o = (t : Int)) (kt : x = y → WW l cc nL ret own R ca a E t lv st μ) (kf : ¬ x = y → WW l cc nL ret own R ca a E q lv st μ) : WW l cc nL ret own R ca a E pc lv (.int y :: .int x :: st) μ := by
  subst hq
  intro p e s m args below meth c D Q nc ns S hE hf H locs ls hP hS hl
  exact lv_icmp_eq S.1.1 S.1.2.1 d ht (fun h => kt h p e s m args below meth c D Q nc ns S hE hf H locs ls hP hS hl) (fun h => kf h p e s m args below meth c D Q nc ns S hE hf H locs ls hP hS hl)
theorem ww_if_eq (q : Nat) (hq : pc + 3 = q) {x : Int32} (o : Int) (t : Nat) (d : decode cc pc = .ok (.ifCond .eq o, 3)) (ht : (pc : Int) + o = (t : Int)) (kt : x = 0 → WW l cc nL ret own R ca a E t lv st μ) (kf : ¬ x = 0 → WW l cc nL ret own R ca a E q lv st μ) : WW l cc nL ret own R ca a E pc lv (.int x :: st) μ := by
  subst hq
  intro p e s m args below meth c D Q nc ns S hE hf H locs ls hP hS hl
  exact lv_if_eq S.1.1 S.1.2.1 d ht (fun h => kt h p e s m args below meth c D Q nc ns S hE hf H locs ls hP hS hl) (fun h => kf h p e s m args below meth c D Q nc ns S hE hf H locs ls hP hS hl)
theorem ww_icmp_ne (q : Nat) (hq : pc + 3 = q) {x y : Int32} (o : Int) (t : Nat) (d : decode cc pc = .ok (.if_icmp .ne o, 3)) (ht : (pc : Int) + o = (t : Int)) (kt : ¬ x = y → WW l cc nL ret own R ca a E t lv st μ) (kf : x = y → WW l cc nL ret own R ca a E q lv st μ) : WW l cc nL ret own R ca a E pc lv (.int y :: .int x :: st) μ := by
  subst hq
  intro p e s m args below meth c D Q nc ns S hE hf H locs ls hP hS hl
  exact lv_icmp_ne S.1.1 S.1.2.1 d ht (fun h => kt h p e s m args below meth c D Q nc ns S hE hf H locs ls hP hS hl) (fun h => kf h p e s m args below meth c D Q nc ns S hE hf H locs ls hP hS hl)
theorem ww_if_ne (q : Nat) (hq : pc + 3 = q) {x : Int32} (o : Int) (t : Nat) (d : decode cc pc = .ok (.ifCond .ne o, 3)) (ht : (pc : Int) + o = (t : Int)) (kt : ¬ x = 0 → WW l cc nL ret own R ca a E t lv st μ) (kf : x = 0 → WW l cc nL ret own R ca a E q lv st μ) : WW l cc nL ret own R ca a E pc lv (.int x :: st) μ := by
  subst hq
  intro p e s m args below meth c D Q nc ns S hE hf H locs ls hP hS hl
  exact lv_if_ne S.1.1 S.1.2.1 d ht (fun h => kt h p e s m args below meth c D Q nc ns S hE hf H locs ls hP hS hl) (fun h => kf h p e s m args below meth c D Q nc ns S hE hf H locs ls hP hS hl)
theorem ww_icmp_lt (q : Nat) (hq : pc + 3 = q) {x y : Int32} (o : Int) (t : Nat) (d : decode cc pc = .ok (.if_icmp .lt o, 3)) (ht : (pc : Int) + o = (t : Int)) (kt : x < y → WW l cc nL ret own R ca a E t lv st μ) (kf : ¬ x < y → WW l cc nL ret own R ca a E q lv st μ) : WW l cc nL ret own R ca a E pc lv (.int y :: .int x :: st) μ := by
  subst hq
  intro p e s m args below meth c D Q nc ns S hE hf H locs ls hP hS hl
  exact lv_icmp_lt S.1.1 S.1.2.1 d ht (fun h => kt h p e s m args below meth c D Q nc ns S hE hf H locs ls hP hS hl) (fun h => kf h p e s m args below meth c D Q nc ns S hE hf H locs ls hP hS hl)
theorem ww_if_lt (q : Nat) (hq : pc + 3 = q) {x : Int32} (o : Int) (t : Nat) (d : decode cc pc = .ok (.ifCond .lt o, 3)) (ht : (pc : Int) + o = (t : Int)) (kt : x < 0 → WW l cc nL ret own R ca a E t lv st μ) (kf : ¬ x < 0 → WW l cc nL ret own R ca a E q lv st μ) : WW l cc nL ret own R ca a E pc lv (.int x :: st) μ := by
  subst hq
  intro p e s m args below meth c D Q nc ns S hE hf H locs ls hP hS hl
  exact lv_if_lt S.1.1 S.1.2.1 d ht (fun h => kt h p e s m args below meth c D Q nc ns S hE hf H locs ls hP hS hl) (fun h => kf h p e s m args below meth c D Q nc ns S hE hf H locs ls hP hS hl)
theorem ww_icmp_ge (q : Nat) (hq : pc + 3 = q) {x y : Int32} (o : Int) (t : Nat) (d : decode cc pc = .ok (.if_icmp .ge o, 3)) (ht : (pc : Int) + o = (t : Int)) (kt : y ≤ x → WW l cc nL ret own R ca a E t lv st μ) (kf : ¬ y ≤ x → WW l cc nL ret own R ca a E q lv st μ) : WW l cc nL ret own R ca a E pc lv (.int y :: .int x :: st) μ := by
  subst hq
  intro p e s m args below meth c D Q nc ns S hE hf H locs ls hP hS hl
  exact lv_icmp_ge S.1.1 S.1.2.1 d ht (fun h => kt h p e s m args below meth c D Q nc ns S hE hf H locs ls hP hS hl) (fun h => kf h p e s m args below meth c D Q nc ns S hE hf H locs ls hP hS hl)
theorem ww_if_ge (q : Nat) (hq : pc + 3 = q) {x : Int32} (o : Int) (t : Nat) (d : decode cc pc = .ok (.ifCond .ge o, 3)) (ht : (pc : Int) + o = (t : Int)) (kt : 0 ≤ x → WW l cc nL ret own R ca a E t lv st μ) (kf : ¬ 0 ≤ x → WW l cc nL ret own R ca a E q lv st μ) : WW l cc nL ret own R ca a E pc lv (.int x :: st) μ := by
  subst hq
  intro p e s m args below meth c D Q nc ns S hE hf H locs ls hP hS hl
  exact lv_if_ge S.1.1 S.1.2.1 d ht (fun h => kt h p e s m args below meth c D Q nc ns S hE hf H locs ls hP hS hl) (fun h => kf h p e s m args below meth c D Q nc ns S hE hf H locs ls hP hS hl)
theorem ww_icmp_gt (q : Nat) (hq : pc + 3 = q) {x y : Int32} (o : Int) (t : Nat) (d : decode cc pc = .ok (.if_icmp .gt o, 3)) (ht : (pc : Int) + o = (t : Int)) (kt : y < x → WW l cc nL ret own R ca a E t lv st μ) (kf : ¬ y < x → WW l cc nL ret own R ca a E q lv st μ) : WW l cc nL ret own R ca a E pc lv (.int y :: .int x :: st) μ := by
  subst hq
  intro p e s m args below meth c D Q nc ns S hE hf H locs ls hP hS hl
  exact lv_icmp_gt S.1.1 S.1.2.1 d ht (fun h => kt h p e s m args below meth c D Q nc ns S hE hf H locs ls hP hS hl) (fun h => kf h p e s m args below meth c D Q nc ns S hE hf H locs ls hP hS hl)
theorem ww_if_gt (q : Nat) (hq : pc + 3 = q) {x : Int32} (o : Int) (t : Nat) (d : decode cc pc = .ok (.ifCond .gt o, 3)) (ht : (pc : Int) + o = (t : Int)) (kt : 0 < x → WW l cc nL ret own R ca a E t lv st μ) (kf : ¬ 0 < x → WW l cc nL ret own R ca a E q lv st μ) : WW l cc nL ret own R ca a E pc lv (.int x :: st) μ := by
  subst hq
  intro p e s m args below meth c D Q nc ns S hE hf H locs ls hP hS hl
  exact lv_if_gt S.1.1 S.1.2.1 d ht (fun h => kt h p e s m args below meth c D Q nc ns S hE hf H locs ls hP hS hl) (fun h => kf h p e s m args below meth c D Q nc ns S hE hf H locs ls hP hS hl)
theorem ww_icmp_le (q : Nat) (hq : pc + 3 = q) {x y : Int32} (o : Int) (t : Nat) (d : decode cc pc = .ok (.if_icmp .le o, 3)) (ht : (pc : Int) + o = (t : Int)) (kt : x ≤ y → WW l cc nL ret own R ca a E t lv st μ) (kf : ¬ x ≤ y → WW l cc nL ret own R ca a E q lv st μ) : WW l cc nL ret own R ca a E pc lv (.int y :: .int x :: st) μ := by
  subst hq
  intro p e s m args below meth c D Q nc ns S hE hf H locs ls hP hS hl
  exact lv_icmp_le S.1.1 S.1.2.1 d ht (fun h => kt h p e s m args below meth c D Q nc ns S hE hf H locs ls hP hS hl) (fun h => kf h p e s m args below meth c D Q nc ns S hE hf H locs ls hP hS hl)
theorem ww_if_le (q : Nat) (hq : pc + 3 = q) {x : Int32} (o : Int) (t : Nat) (d : decode cc pc = .ok (.ifCond .le o, 3)) (ht : (pc : Int) + o = (t : Int)) (kt : x ≤ 0 → WW l cc nL ret own R ca a E t lv st μ) (kf : ¬ x ≤ 0 → WW l cc nL ret own R ca a E q lv st μ) : WW l cc nL ret own R ca a E pc lv (.int x :: st) μ := by
  subst hq
  intro p e s m args below meth c D Q nc ns S hE hf H locs ls hP hS hl
  exact lv_if_le S.1.1 S.1.2.1 d ht (fun h => kt h p e s m args below meth c D Q nc ns S hE hf H locs ls hP hS hl) (fun h => kf h p e s m args below meth c D Q nc ns S hE hf H locs ls hP hS hl)
theorem ww_goto (o : Int) (t : Nat) (d : decode cc pc = .ok (.goto o, 3)) (ht : (pc : Int) + o = (t : Int)) (k : WW l cc nL ret own R ca a E t lv st μ) : WW l cc nL ret own R ca a E pc lv st μ := by
  intro p e s m args below meth c D Q nc ns S hE hf H locs ls hP hS hl
  exact lv_goto S.1.1 S.1.2.1 d ht (k p e s m args below meth c D Q nc ns S hE hf H locs ls hP hS hl)
theorem ww_ifnull (q : Nat) (hq : pc + 3 = q) {x : Nat} (o : Int) (d : decode cc pc = .ok (.ifnull o, 3)) (k : WW l cc nL ret own R ca a E q lv st μ) : WW l cc nL ret own R ca a E pc lv (.ref x :: st) μ := by
  subst hq
  intro p e s m args below meth c D Q nc ns S hE hf H locs ls hP hS hl
  exact lv_ifnull S.1.1 S.1.2.1 d (k p e s m args below meth c D Q nc ns S hE hf H locs ls hP hS hl)
theorem ww_ifnullN (o : Int) (t : Nat) (d : decode cc pc = .ok (.ifnull o, 3)) (ht : (pc : Int) + o = (t : Int)) (k : WW l cc nL ret own R ca a E t lv st μ) : WW l cc nL ret own R ca a E pc lv (.null :: st) μ := by
  intro p e s m args below meth c D Q nc ns S hE hf H locs ls hP hS hl
  exact lv_ifnullN S.1.1 S.1.2.1 d ht (k p e s m args below meth c D Q nc ns S hE hf H locs ls hP hS hl)
theorem ww_ifnonnull {x : Nat} (o : Int) (t : Nat) (d : decode cc pc = .ok (.ifnonnull o, 3)) (ht : (pc : Int) + o = (t : Int)) (k : WW l cc nL ret own R ca a E t lv st μ) : WW l cc nL ret own R ca a E pc lv (.ref x :: st) μ := by
  intro p e s m args below meth c D Q nc ns S hE hf H locs ls hP hS hl
  exact lv_ifnonnull S.1.1 S.1.2.1 d ht (k p e s m args below meth c D Q nc ns S hE hf H locs ls hP hS hl)
theorem ww_ifnonnullN (q : Nat) (hq : pc + 3 = q) (o : Int) (d : decode cc pc = .ok (.ifnonnull o, 3)) (k : WW l cc nL ret own R ca a E q lv st μ) : WW l cc nL ret own R ca a E pc lv (.null :: st) μ := by
  subst hq
  intro p e s m args below meth c D Q nc ns S hE hf H locs ls hP hS hl
  exact lv_ifnonnullN S.1.1 S.1.2.1 d (k p e s m args below meth c D Q nc ns S hE hf H locs ls hP hS hl)
theorem ww_swIn {x : Int32} (df lo hi : Int) (offs : Array Int) (len : Nat) (v : Int32) (o : Int) (t : Nat) (d : decode cc pc = .ok (.tableswitch df lo hi offs, len)) (hx : x = v) (h1 : ¬ v.toInt < lo) (h2 : ¬ hi < v.toInt) (ho : offs[(v.toInt - lo).toNat]? = some o) (ht : (pc : Int) + o = (t : Int)) (k : WW l cc nL ret own R ca a E t lv st μ) : WW l cc nL ret own R ca a E pc lv (.int x :: st) μ := by
  intro p e s m args below meth c D Q nc ns S hE hf H locs ls hP hS hl
  exact by subst hx; exact lv_tableIn S.1.1 S.1.2.1 d h1 h2 ho ht (k p e s m args below meth c D Q nc ns S hE hf H locs ls hP hS hl)
theorem ww_swOut {x : Int32} (df lo hi : Int) (offs : Array Int) (len : Nat) (t : Nat) (d : decode cc pc = .ok (.tableswitch df lo hi offs, len)) (hx : x.toInt < lo ∨ hi < x.toInt) (ht : (pc : Int) + df = (t : Int)) (k : WW l cc nL ret own R ca a E t lv st μ) : WW l cc nL ret own R ca a E pc lv (.int x :: st) μ := by
  intro p e s m args below meth c D Q nc ns S hE hf H locs ls hP hS hl
  exact lv_tableOut S.1.1 S.1.2.1 d hx ht (k p e s m args below meth c D Q nc ns S hE hf H locs ls hP hS hl)
theorem ww_geti (q : Nat) (hq : pc + 3 = q) {k : Nat} (c j i : Nat) (d : decode cc pc = .ok (.getfield i, 3)) (hk : kd k = c) (hw : Cond.fieldLink own i (cn c) (cT c j).2.1 (cT c j).2.2.1 ∈ AW) (hc : c < 9) (hj : j < nfc c) (ho : (cT c j).1 = cn c) (ht : tgc c k j = 0) (kk : WW l cc nL ret own R ca a E q lv (.int (μ k j) :: st) μ) : WW l cc nL ret own R ca a E pc lv (.ref (a k) :: st) μ := by
  subst hq
  intro p e s m args below meth c0 D Q nc ns S hE hf H locs ls hP hS hl
  have hk5 := kd_lt hk (by omega)
  exact va_get S.1.1 S.1.2.1 (Ts := AW) S.1.2.2.2.2 (cw_in hc) S.1.2.2.2.1 S.2.2.2.1 hP k (by rw [WL_get hk5, ce_obj hk hc]) (cl_at hc) j hj (S.1.2.2.2.2 _ hw) (by rw [ho]; exact fun _ h => h) (by rw [fdc_get hj, if_pos ht]) d (kk p e s m args below meth c0 D Q nc ns S hE hf H locs ls hP hS hl)
theorem ww_getr (q : Nat) (hq : pc + 3 = q) {k : Nat} (c j i t : Nat) (d : decode cc pc = .ok (.getfield i, 3)) (hk : kd k = c) (hw : Cond.fieldLink own i (cn c) (cT c j).2.1 (cT c j).2.2.1 ∈ AW) (hc : c < 9) (hj : j < nfc c) (ho : (cT c j).1 = cn c) (ht : tgc c k j = t) (h0 : t ≠ 0) (kk : WW l cc nL ret own R ca a E q lv (.ref (a t) :: st) μ) : WW l cc nL ret own R ca a E pc lv (.ref (a k) :: st) μ := by
  subst hq
  intro p e s m args below meth c0 D Q nc ns S hE hf H locs ls hP hS hl
  have hk5 := kd_lt hk (by omega)
  exact va_get S.1.1 S.1.2.1 (Ts := AW) S.1.2.2.2.2 (cw_in hc) S.1.2.2.2.1 S.2.2.2.1 hP k (by rw [WL_get hk5, ce_obj hk hc]) (cl_at hc) j hj (S.1.2.2.2.2 _ hw) (by rw [ho]; exact fun _ h => h) (by rw [fdc_get hj, if_neg (by rw [ht]; exact h0), ht]) d (kk p e s m args below meth c0 D Q nc ns S hE hf H locs ls hP hS hl)
theorem ww_put (q : Nat) (hq : pc + 3 = q) {k : Nat} {x : Int32} (c j i : Nat) (d : decode cc pc = .ok (.putfield i, 3)) (hk : kd k = c) (hw : Cond.fieldLink own i (cn c) (cT c j).2.1 (cT c j).2.2.1 ∈ AW) (hc : c < 9) (hj : j < nfc c) (ho : (cT c j).1 = cn c) (ht : tgc c k j = 0) (hfl : (cT c j).2.2.2 = false) {ty : FieldType} (hd : parseFieldDescriptor (cT c j).2.2.1 = some ty) (hn : narrow ty (.int x) = .int x) (hfi : fits ty (.int x) = true) (kk : WW l cc nL ret own R ca a E q lv st (put μ k j x)) : WW l cc nL ret own R ca a E pc lv (.int x :: .ref (a k) :: st) μ := by
  subst hq
  intro p e s m args below meth c0 D Q nc ns S hE hf H locs ls hP hS hl
  have hk5 := kd_lt hk (by omega)
  have hD : va_D (AA a s.heap.size) (WL ca a μ) := WL_D S.2.2.2.2.1
  refine va_put S.1.1 S.1.2.1 (Ts := AW) S.1.2.2.2.2 (cw_in hc) (ct c) (ct_ok hc) (cn_ok hc) S.1.2.2.2.1 S.2.2.2.1 hP hD hS k (by rw [WL_get hk5, ce_obj hk hc]) (cl_at hc) j hj (S.1.2.2.2.2 _ hw) (by rw [ho]; exact fun _ h => h) hfl hd hn hfi (by rw [fdc_len]; exact hj) d (fun H1 locs1 hP1 _ hS1 => ?_)
  rw [fdc_set hj ht, ← ce_obj (ca := ca) hk hc, WL_set hk5] at hP1
  exact kk p e s m args below meth c0 D Q nc ns S hE hf H1 locs1 ls hP1 hS1 hl
theorem ww_iald (q : Nat) (hq : pc + 1 = q) {k : Nat} {i : Int32} (d : decode cc pc = .ok (.iaload, 1)) (hk : kd k = 10) (hi : ¬ (i < 0 ∨ ln k ≤ i.toNatClampNeg)) (kk : WW l cc nL ret own R ca a E q lv (.int (μ k i.toNatClampNeg) :: st) μ) : WW l cc nL ret own R ca a E pc lv (.int i :: .ref (a k) :: st) μ := by
  subst hq
  intro p e s m args below meth c D Q nc ns S hE hf H locs ls hP hS hl
  exact va_iald S.1.1 S.1.2.1 S.2.2.2.1 hP k 0 (by rw [WL_get (kd_lt hk (by omega)), ce_int hk]) rfl hi d (kk p e s m args below meth c D Q nc ns S hE hf H locs ls hP hS hl)
theorem ww_zald (q : Nat) (hq : pc + 1 = q) {k : Nat} {i : Int32} (d : decode cc pc = .ok (.baload, 1)) (hk : kd k = 11) (hi : ¬ (i < 0 ∨ ln k ≤ i.toNatClampNeg)) (kk : WW l cc nL ret own R ca a E q lv (.int (μ k i.toNatClampNeg) :: st) μ) : WW l cc nL ret own R ca a E pc lv (.int i :: .ref (a k) :: st) μ := by
  subst hq
  intro p e s m args below meth c D Q nc ns S hE hf H locs ls hP hS hl
  exact va_zald S.1.1 S.1.2.1 S.2.2.2.1 hP k 1 (by rw [WL_get (kd_lt hk (by omega)), ce_boo hk]) rfl hi d (kk p e s m args below meth c D Q nc ns S hE hf H locs ls hP hS hl)
theorem ww_aald (q : Nat) (hq : pc + 1 = q) {k : Nat} {i : Int32} (d : decode cc pc = .ok (.aaload, 1)) (hk : kd k = 12) (hi : ¬ (i < 0 ∨ ln k ≤ i.toNatClampNeg)) (kk : WW l cc nL ret own R ca a E q lv (.ref (a (μ k i.toNatClampNeg).toNatClampNeg) :: st) μ) : WW l cc nL ret own R ca a E pc lv (.int i :: .ref (a k) :: st) μ := by
  subst hq
  intro p e s m args below meth c D Q nc ns S hE hf H locs ls hP hS hl
  exact va_aldq (f := fun j => some (a (μ k j).toNatClampNeg)) S.1.1 S.1.2.1 S.2.2.2.1 hP k 2 (by rw [WL_get (kd_lt hk (by omega)), ce_ref hk]) rfl hi d (kk p e s m args below meth c D Q nc ns S hE hf H locs ls hP hS hl)
theorem ww_iast (q : Nat) (hq : pc + 1 = q) {k : Nat} {i x : Int32} (d : decode cc pc = .ok (.iastore, 1)) (hk : kd k = 10) (hi : ¬ (i < 0 ∨ ln k ≤ i.toNatClampNeg)) (kk : WW l cc nL ret own R ca a E q lv st (put μ k i.toNatClampNeg x)) : WW l cc nL ret own R ca a E pc lv (.int x :: .int i :: .ref (a k) :: st) μ := by
  subst hq
  intro p e s m args below meth c D Q nc ns S hE hf H locs ls hP hS hl
  have hk5 := kd_lt hk (by omega)
  refine va_iast S.1.1 S.1.2.1 S.2.2.2.1 hP (WL_D S.2.2.2.2.1) hS k 0 (by rw [WL_get hk5, ce_int hk]) rfl hi d (fun H1 locs1 hP1 _ hS1 => ?_)
  rw [← ce_int (ca := ca) (a := a) hk, WL_set hk5] at hP1
  exact kk p e s m args below meth c D Q nc ns S hE hf H1 locs1 ls hP1 hS1 hl
theorem ww_zast (q : Nat) (hq : pc + 1 = q) {k : Nat} {i x : Int32} (d : decode cc pc = .ok (.bastore, 1)) (hk : kd k = 11) (hi : ¬ (i < 0 ∨ ln k ≤ i.toNatClampNeg)) (kk : WW l cc nL ret own R ca a E q lv st (put μ k i.toNatClampNeg (vp_nar .boolean x))) : WW l cc nL ret own R ca a E pc lv (.int x :: .int i :: .ref (a k) :: st) μ := by
  subst hq
  intro p e s m args below meth c D Q nc ns S hE hf H locs ls hP hS hl
  have hk5 := kd_lt hk (by omega)
  refine va_zast S.1.1 S.1.2.1 S.2.2.2.1 hP (WL_D S.2.2.2.2.1) hS k 1 (by rw [WL_get hk5, ce_boo hk]) rfl hi d (fun H1 locs1 hP1 _ hS1 => ?_)
  rw [← ce_boo (ca := ca) (a := a) hk, WL_set hk5] at hP1
  exact kk p e s m args below meth c D Q nc ns S hE hf H1 locs1 ls hP1 hS1 hl
theorem ww_aast (q : Nat) (hq : pc + 1 = q) {k v : Nat} {i : Int32} (d : decode cc pc = .ok (.aastore, 1)) (hk : kd k = 12) (hv : kd v = 3) (hi : ¬ (i < 0 ∨ ln k ≤ i.toNatClampNeg)) (kk : WW l cc nL ret own R ca a E q lv st (put μ k i.toNatClampNeg (nI v))) : WW l cc nL ret own R ca a E pc lv (.ref (a v) :: .int i :: .ref (a k) :: st) μ := by
  subst hq
  intro p e s m args below meth c D Q nc ns S hE hf H locs ls hP hS hl
  have hk5 := kd_lt hk (by omega)
  have hv5 := kd_lt hv (by omega)
  refine va_astq S.1.1 S.1.2.1 S.2.2.2.1 hP (WL_D S.2.2.2.2.1) hS k 2 v 3 (by rw [WL_get hk5, ce_ref hk]) rfl (by rw [WL_get hv5, ce_obj hv (by omega)]) (cl_at (c := 3) (by omega)) hi d (fun H1 locs1 hP1 _ hS1 => ?_)
  have e1 : va_up (fun j => some (a (μ k j).toNatClampNeg)) i.toNatClampNeg (some (a v)) = (fun j => some (a (upd (μ k) i.toNatClampNeg (nI v) j).toNatClampNeg)) := by
    funext j
    by_cases hj : j = i.toNatClampNeg
    · subst hj
      simp [va_up, upd, nI, Int32.toNatClampNeg_ofNat_of_lt (show v < 2 ^ 31 by omega)]
    · simp [va_up, upd, hj]
  rw [e1, ← ce_ref (ca := ca) (a := a) hk, WL_set hk5] at hP1
  exact kk p e s m args below meth c D Q nc ns S hE hf H1 locs1 ls hP1 hS1 hl
theorem ww_alen (q : Nat) (hq : pc + 1 = q) {k : Nat} (d : decode cc pc = .ok (.arraylength, 1)) (hk : kd k = 10) (kk : WW l cc nL ret own R ca a E q lv (.int (nI (ln k)) :: st) μ) : WW l cc nL ret own R ca a E pc lv (.ref (a k) :: st) μ := by
  subst hq
  intro p e s m args below meth c D Q nc ns S hE hf H locs ls hP hS hl
  exact va_alen (x := (ln k, .inl (μ k))) S.1.1 S.1.2.1 S.2.2.2.1 hP k 0 (by rw [WL_get (kd_lt hk (by omega)), ce_int hk]) rfl rfl d (kk p e s m args below meth c D Q nc ns S hE hf H locs ls hP hS hl)
theorem ww_copy (q : Nat) (hq : pc + 3 = q) {k0 k1 : Nat} {sp dp n : Int32} (i : Nat) (d : decode cc pc = .ok (.invokestatic i, 3)) (hw : Cond.methodLink own i arraycopyName ∈ AW) (h0 : kd k0 = 10) (h1 : kd k1 = 10) (hb : ¬ (sp < 0 ∨ dp < 0 ∨ n < 0 ∨ ln k0 < sp.toNatClampNeg + n.toNatClampNeg ∨ ln k1 < dp.toNatClampNeg + n.toNatClampNeg)) (hst : (st.map fun v => v.category).sum ≤ 8) (hR : 1 ≤ R.frames ∧ 26 ≤ R.locals)
    (kk : WW l cc nL ret own R ca a E q lv st (stm μ k1 (va_cpy (μ k0) (μ k1) sp.toNatClampNeg dp.toNatClampNeg n.toNatClampNeg))) : WW l cc nL ret own R ca a E pc lv (.int n :: .int dp :: .ref (a k1) :: .int sp :: .ref (a k0) :: st) μ := by
  subst hq
  intro p e s m args below meth c D Q nc ns S hE hf H locs ls hP hS hl
  have hk0 := kd_lt h0 (by omega)
  have hk1 := kd_lt h1 (by omega)
  obtain ⟨b1, hb⟩ := not_or.mp hb
  obtain ⟨b2, hb⟩ := not_or.mp hb
  obtain ⟨b3, hb⟩ := not_or.mp hb
  obtain ⟨b4, b5⟩ := not_or.mp hb
  refine va_copyi S.1.1 S.1.2.1 (by rw [S.1.2.2.1, hl.1]) S.1.2.2.2.1 (S.1.2.2.2.2 _ hw) (S.1.2.2.2.2 _ cp_nat) (S.1.2.2.2.2 _ cp_stat) (S.1.2.2.2.2 _ cp_ini) S.2.2.2.1 hP (WL_D S.2.2.2.2.1) hS k0 k1 0 0 (by rw [WL_get hk0, ce_int h0]) (by rw [WL_get hk1, ce_int h1]) rfl rfl rfl b1 b2 b3 (Nat.not_lt.mp b4) (Nat.not_lt.mp b5) (fun _ _ => rfl) hR.1 ?_ d (fun H1 locs1 hP1 _ hS1 => ?_)
  · have : nativeFrameWords "java/lang/System" "arraycopy" 5 = 7 := by decide
    rw [this]
    omega
  · rw [← ce_int (ca := ca) (a := a) h1, WL_set hk1] at hP1
    exact kk p e s m args below meth c D Q nc ns S hE hf H1 locs1 ls hP1 hS1 hl
theorem ww_gST (q : Nat) (hq : pc + 3 = q) (i : Nat) (d : decode cc pc = .ok (.getstatic i, 3)) (hw : Cond.fieldLink own i R_Adaptive "STEPS" "[I" ∈ AW) (kk : WW l cc nL ret own R ca a E q lv (.ref (a 60) :: st) μ) : WW l cc nL ret own R ca a E pc lv st μ := by
  subst hq
  intro p e s m args below meth c D Q nc ns S hE hf H locs ls hP hS hl
  exact va_gets S.1.1 S.1.2.1 S.2.2.2.2.2.1.1 hS S.1.2.2.2.1 (S.1.2.2.2.2 _ hw) (fun _ h => h) d (kk p e s m args below meth c D Q nc ns S hE hf H locs ls hP hS hl)
theorem ww_gTY (q : Nat) (hq : pc + 3 = q) (i : Nat) (d : decode cc pc = .ok (.getstatic i, 3)) (hw : Cond.fieldLink own i R_Packet "TYPES" "[I" ∈ AW) (kk : WW l cc nL ret own R ca a E q lv (.ref (a 61) :: st) μ) : WW l cc nL ret own R ca a E pc lv st μ := by
  subst hq
  intro p e s m args below meth c D Q nc ns S hE hf H locs ls hP hS hl
  exact va_gets S.1.1 S.1.2.1 S.2.2.2.2.2.2.1.1 hS S.1.2.2.2.1 (S.1.2.2.2.2 _ hw) (fun _ h => h) d (kk p e s m args below meth c D Q nc ns S hE hf H locs ls hP hS hl)
theorem ww_tST (q : Nat) (hq : pc + 1 = q) {i : Int32} (d : decode cc pc = .ok (.iaload, 1)) (hi : ¬ (i < 0 ∨ 89 ≤ i.toNatClampNeg)) (kk : WW l cc nL ret own R ca a E q lv (.int (tb_STEPS i.toNatClampNeg) :: st) μ) : WW l cc nL ret own R ca a E pc lv (.int i :: .ref (a 60) :: st) μ := by
  subst hq
  intro p e s m args below meth c D Q nc ns S hE hf H locs ls hP hS hl
  exact va_ti S.1.1 S.1.2.1 S.2.2.2.2.2.1.2 hS hi rfl d (kk p e s m args below meth c D Q nc ns S hE hf H locs ls hP hS hl)
theorem ww_tTY (q : Nat) (hq : pc + 1 = q) {i : Int32} (d : decode cc pc = .ok (.iaload, 1)) (hi : ¬ (i < 0 ∨ 4 ≤ i.toNatClampNeg)) (kk : WW l cc nL ret own R ca a E q lv (.int (tb_TYPES i.toNatClampNeg) :: st) μ) : WW l cc nL ret own R ca a E pc lv (.int i :: .ref (a 61) :: st) μ := by
  subst hq
  intro p e s m args below meth c D Q nc ns S hE hf H locs ls hP hS hl
  exact va_ti S.1.1 S.1.2.1 S.2.2.2.2.2.2.1.2 hS hi rfl d (kk p e s m args below meth c D Q nc ns S hE hf H locs ls hP hS hl)
theorem ww_lTY (q : Nat) (hq : pc + 1 = q) (d : decode cc pc = .ok (.arraylength, 1)) (kk : WW l cc nL ret own R ca a E q lv (.int 4 :: st) μ) : WW l cc nL ret own R ca a E pc lv (.ref (a 61) :: st) μ := by
  subst hq
  intro p e s m args below meth c D Q nc ns S hE hf H locs ls hP hS hl
  exact va_tlen S.1.1 S.1.2.1 S.2.2.2.2.2.2.1.2 hS rfl d (kk p e s m args below meth c D Q nc ns S hE hf H locs ls hP hS hl)
theorem ww_iret {v : Int32} (d : decode cc pc = .ok (.ireturn, 1)) (hr : ret = some .int) : WW l cc nL ret own R ca a (EM ca a (some (.int v)) μ) pc lv [.int v] μ := by
  intro p e s m args below meth c D Q nc ns S hE hf H locs ls hP hS hl
  obtain ⟨rfl, rfl, rfl⟩ := hE
  exact W.iret S.1.1 S.1.2.1 (S.2.1.trans hr) (fun t ht hW => ⟨rfl, by rw [ht]; exact hP, hS.F ht⟩) (fun q hq => hS.2.2 q hq) d S.2.2.1
theorem ww_zret {v : Int32} (d : decode cc pc = .ok (.ireturn, 1)) (hr : ret = some .boolean) (hv : v = 0 ∨ v = 1) : WW l cc nL ret own R ca a (EM ca a (some (.int v)) μ) pc lv [.int v] μ := by
  intro p e s m args below meth c D Q nc ns S hE hf H locs ls hP hS hl
  have hn : narrow .boolean (.int v) = .int v := by rcases hv with rfl | rfl <;> rfl
  obtain ⟨rfl, rfl, rfl⟩ := hE
  exact W.zret S.1.1 S.1.2.1 (S.2.1.trans hr) hn (fun t ht hW => ⟨rfl, by rw [ht]; exact hP, hS.F ht⟩) (fun q hq => hS.2.2 q hq) d S.2.2.1
theorem ww_vret (d : decode cc pc = .ok (.return_, 1)) (hr : ret = none) : WW l cc nL ret own R ca a (EM ca a none μ) pc lv [] μ := by
  intro p e s m args below meth c D Q nc ns S hE hf H locs ls hP hS hl
  obtain ⟨rfl, rfl, rfl⟩ := hE
  exact W.vret S.1.1 S.1.2.1 (S.2.1.trans hr) (fun t ht hW => ⟨rfl, by rw [ht]; exact hP, hS.F ht⟩) (fun q hq => hS.2.2 q hq) d S.2.2.1
theorem ww_aret {k : Nat} (d : decode cc pc = .ok (.areturn, 1)) (hr : ret = some (.object R_Packet)) : WW l cc nL ret own R ca a (EM ca a (some (rvq a (some k))) μ) pc lv [.ref (a k)] μ := by
  intro p e s m args below meth c D Q nc ns S hE hf H locs ls hP hS hl
  obtain ⟨rfl, rfl, rfl⟩ := hE
  exact W.aret S.1.1 S.1.2.1 (v := .ref (a k)) (S.2.1.trans hr) (Or.inl ⟨_, rfl⟩) (Or.inr ⟨_, rfl⟩) (fun t ht hW => ⟨rfl, by rw [ht]; exact hP, hS.F ht⟩) (fun q hq => hS.2.2 q hq) d S.2.2.1
theorem ww_aretN (d : decode cc pc = .ok (.areturn, 1)) (hr : ret = some (.object R_Packet)) : WW l cc nL ret own R ca a (EM ca a (some (rvq a none)) μ) pc lv [.null] μ := by
  intro p e s m args below meth c D Q nc ns S hE hf H locs ls hP hS hl
  obtain ⟨rfl, rfl, rfl⟩ := hE
  exact W.aret S.1.1 S.1.2.1 (v := .null) (S.2.1.trans hr) (Or.inl ⟨_, rfl⟩) (Or.inl rfl) (fun t ht hW => ⟨rfl, by rw [ht]; exact hP, hS.F ht⟩) (fun q hq => hS.2.2 q hq) d S.2.2.1
/-- behind a call -/
theorem ww_after {p : Program} {e : Env} {s : State} {m : MethodId} {args : Array Value} {below : List Frame} {meth : Method} {c : Code} {D : va_G} {Q : State → Prop} {nc ns : Nat} {H : Heap} {locs : List Loc} {ls : Array Slot} {rest st0 : List Value} {rv1 : Option Value} {μ1 : Mem} {av : Array Value} (S : SS p s m args meth c cc nL ret own ca a D) (hE : E s args below D Q nc ns) (hf : nc ≤ R.cells ∧ ns ≤ R.slots) (hS : va_S (AA a s.heap.size) s.heap H locs) (hl : lh ls nL lv)
    (hr : va_Run p l e R s m args below meth c H locs nc ns 0 0 (F0 m pc ls st0) rest (QQ D ca a rv1 μ1 av) (AA a H.size)) (kk : WW l cc nL ret own R ca a E (pc + 3) lv (rv1.toList ++ rest) μ1) : W p l e R s m args below meth c H locs nc ns Q (F0 m pc ls st0) := by
  intro T hT X
  obtain ⟨v, st₀, t, T', L, h0, X', hL, e1, e2, ⟨hv, hP1, hz, hk⟩, st⟩ := hr T hT X
  cases hv
  rw [h0] at hz hk
  obtain ⟨t2, a1, b1⟩ := kk p e s m args below meth c D Q nc ns S hE hf T'.heap (locs ++ L) ls (by rw [e1]; exact hP1)
    ⟨Nat.le_trans hS.1 (by rw [e1]; exact hz), fun q h1 h2 => by rw [e1, hk q (Nat.lt_of_lt_of_le h1 hS.1) (fun z => h2 (AA_le hS.1 q z))]; exact hS.2.1 q h1 h2, fun q hq => by
      rcases List.mem_append.mp hq with h | h
      · exact hS.2.2 q h
      · exact AA_le hS.1 _ (hL q h)⟩ hl T' rfl X'
  exact ⟨t2, st t2 a1, b1⟩
/-- what a call hands to the callee -/
theorem ww_pre {p : Program} {s : State} {m : MethodId} {args : Array Value} {meth : Method} {c : Code} {D : va_G} {H : Heap} {locs : List Loc} (S : SS p s m args meth c cc nL ret own ca a D) (hP : va_P D classes (WL ca a μ) H) (hS : va_S (AA a s.heap.size) s.heap H locs) (As : List Value) : PreS s H (va_Pc As (GW D ca a H.size μ)) As := by
  refine ⟨fun av U g mk q => ?_, fun U hU hW => ⟨rfl, by rw [hU], by rw [hU]; exact hP, va_K.moved hW.alike S.2.2.2.1, S.2.2.2.2.1, ?_⟩⟩
  · obtain ⟨q0, q1, qP, qK, qA, qT⟩ := q
    exact ⟨q0, q1, qP, va_K.moved (u := U) (U := U.calling g mk av) (Vm.Alike.refl U.vm) qK, qA, ST.same (u := U) (U := U.calling g mk av) rfl qT⟩
  · rw [hU]
    exact ((S.2.2.2.2.2.kept hS.2.1).warm hW).narrow (AA_le hS.1)
/-- what is known of a method that is called -/
def MV (y : MethodName) (b : ByteArray) (n2 : Nat) (r2 : Option FieldType) (n : Nat) : Prop := Cond.code y b n2 r2 ∈ AW ∧ Cond.instanceMethod y ∈ AW ∧ Cond.selects y.cls y y ∈ AW ∧ Cond.initialized y.cls ∈ AW ∧ (y.cls ≠ "java/lang/invoke/MethodHandle" ∧ y.cls ≠ "java/lang/invoke/VarHandle" ∧ (parseMethodDescriptor y.desc).map (fun d => d.parameters.length) = some n)
def MS (y : MethodName) (b : ByteArray) (n2 : Nat) (r2 : Option FieldType) (n : Nat) : Prop := Cond.code y b n2 r2 ∈ AW ∧ Cond.static y ∈ AW ∧ Cond.initialized y.cls ∈ AW ∧ (y.cls ≠ "java/lang/invoke/MethodHandle" ∧ y.cls ≠ "java/lang/invoke/VarHandle" ∧ (parseMethodDescriptor y.desc).map (fun d => d.parameters.length) = some n)
theorem ww_cV (q : Nat) (hq : pc + 3 = q) {y : MethodName} {b : ByteArray} {n2 n : Nat} {r2 : Option FieldType} {rm : Room} {k : Nat} {μ1 : Mem} {rv1 : Option Value} {st0 : List Value} (c2 i : Nat) (As : List Value) (d : decode cc pc = .ok (.invokevirtual i, 3)) (hM : MV y b n2 r2 n) (hw : Cond.methodLink own i y ∈ AW) (hk : kd k = c2) (hc : c2 < 9) (hy : y.cls = cn c2) (hn : As.length = n) (hR : rm.frames + 1 ≤ R.frames ∧ 8 + (n2 + 11) + rm.locals ≤ R.locals) (h0 : rm.cells = 0 ∧ rm.slots = 0) (hst : (st.map fun v => v.category).sum ≤ 8) (hs0 : st0 = As.reverse ++ .ref (a k) :: st)
    (hC : CT l ca a y b n2 r2 rm (.ref (a k) :: As) μ rv1 μ1) (kk : WW l cc nL ret own R ca a E q lv (rv1.toList ++ st) μ1) : WW l cc nL ret own R ca a E pc lv st0 μ := by
  subst hq
  intro p e s m args below meth c D Q nc ns S hE hf H locs ls hP hS hl
  have hk5 := kd_lt hk (by omega)
  obtain ⟨m1, m2, m3, m4, m5⟩ := hM
  obtain ⟨p1, p2⟩ := ww_pre S hP hS (.ref (a k) :: As)
  refine ww_after (av := (Value.ref (a k) :: As).toArray) S hE hf hS hl (va_runV (As := As) (rest := st) (ret := r2) (bytes := b) (maxL := n2) (n := n) (C := y.cls) S.1 (hC D H.size) (cwV n S.1.2.2.2.2 (AW_in ?_) rfl h0.1 h0.2 ⟨rfl, m5⟩ hR) ⟨p1, ?_, p2⟩ rfl hn hl.1 hs0 (lv_room hst) d hf) kk
  · intro w hw2
    rcases List.mem_append.mp hw2 with h | h
    · simp only [List.mem_cons, List.not_mem_nil, or_false] at h
      rcases h with rfl | rfl | rfl | rfl
      · exact hw
      · exact m2
      · exact m3
      · exact m4
    · rcases List.mem_cons.mp h with rfl | h
      · exact m1
      · exact h
  · have := va_recv S.2.2.2.1 hP (cl_at hc) (show (WL ca a μ)[k]? = some (a k, .inr (c2, fdc c2 a k (μ k))) by rw [WL_get hk5, ce_obj hk hc])
    rw [hy]
    exact this
theorem ww_cS (q : Nat) (hq : pc + 3 = q) {y : MethodName} {b : ByteArray} {n2 n : Nat} {r2 : Option FieldType} {rm : Room} {μ1 : Mem} {rv1 : Option Value} {st0 : List Value} (i : Nat) (As : List Value) (d : decode cc pc = .ok (.invokestatic i, 3)) (hM : MS y b n2 r2 n) (hw : Cond.methodLink own i y ∈ AW) (hn : As.length = n) (hR : rm.frames + 1 ≤ R.frames ∧ 8 + (n2 + 11) + rm.locals ≤ R.locals) (h0 : rm.cells = 0 ∧ rm.slots = 0) (hst : (st.map fun v => v.category).sum ≤ 8) (hs0 : st0 = As.reverse ++ st)
    (hC : CT l ca a y b n2 r2 rm As μ rv1 μ1) (kk : WW l cc nL ret own R ca a E q lv (rv1.toList ++ st) μ1) : WW l cc nL ret own R ca a E pc lv st0 μ := by
  subst hq
  intro p e s m args below meth c D Q nc ns S hE hf H locs ls hP hS hl
  obtain ⟨m1, m2, m4, m5⟩ := hM
  refine ww_after (av := As.toArray) S hE hf hS hl (va_runS (As := As) (rest := st) (ret := r2) (bytes := b) (maxL := n2) (n := n) S.1 (hC D H.size) (va_cwS n S.1.2.2.2.2 (AW_in ?_) rfl h0.1 h0.2 m5 hR) (ww_pre S hP hS As) rfl hn hl.1 hs0 (lv_room hst) d hf) kk
  intro w hw2
  rcases List.mem_append.mp hw2 with h | h
  · simp only [List.mem_cons, List.not_mem_nil, or_false] at h
    rcases h with rfl | rfl | rfl
    · exact hw
    · exact m2
    · exact m4
  · rcases List.mem_cons.mp h with rfl | h
    · exact m1
    · exact h
/-- a nest mate's static method -/
theorem ww_cN (q : Nat) (hq : pc + 3 = q) {y : MethodName} {b : ByteArray} {n2 n : Nat} {r2 : Option FieldType} {rm : Room} {μ1 : Mem} {rv1 : Option Value} {st0 : List Value} {host : String} (i : Nat) (As : List Value) (d : decode cc pc = .ok (.invokestatic i, 3)) (hM : MS y b n2 r2 n) (hw : ∀ (A : Nat → Prop) (U : State) (H : Heap), ST a A U H → va_Nw (.methodLinkNest own i y host) U) (hn : As.length = n) (hR : rm.frames + 1 ≤ R.frames ∧ 8 + (n2 + 11) + rm.locals ≤ R.locals) (h0 : rm.cells = 0 ∧ rm.slots = 0) (hst : (st.map fun v => v.category).sum ≤ 8) (hs0 : st0 = As.reverse ++ st)
    (hC : CT l ca a y b n2 r2 rm As μ rv1 μ1) (kk : WW l cc nL ret own R ca a E q lv (rv1.toList ++ st) μ1) : WW l cc nL ret own R ca a E pc lv st0 μ := by
  subst hq
  intro p e s m args below meth c D Q nc ns S hE hf H locs ls hP hS hl
  obtain ⟨m1, m2, m4, m5⟩ := hM
  refine ww_after (av := As.toArray) S hE hf hS hl (va_runSN (As := As) (rest := st) (ret := r2) (bytes := b) (maxL := n2) (n := n) S.1 (hC D H.size) ⟨va_cnB n S.1.2.2.2.2 (AW_in ?_) rfl h0.1 h0.2 (hw _ _ _ S.2.2.2.2.2) (S.1.2.2.2.2 _ m4) m5 hR, S.1.2.2.2.2 _ m2, trivial⟩ (ww_pre S hP hS As) rfl hn hl.1 hs0 (lv_room hst) d hf) kk
  intro w h
  rcases List.mem_cons.mp h with rfl | h
  · exact m1
  · exact h
theorem ww_cV0i (q : Nat) (hq : pc + 3 = q) {y : MethodName} {b : ByteArray} {n2 : Nat} {r2 : Option FieldType} {rm : Room} {μ1 : Mem} {k : Nat} {r : Int32} (c2 i : Nat) (d : decode cc pc = .ok (.invokevirtual i, 3)) (hM : MV y b n2 r2 0) (hw : Cond.methodLink own i y ∈ AW) (hk : kd k = c2) (hc : c2 < 9) (hy : y.cls = cn c2) (hR : rm.frames + 1 ≤ R.frames ∧ 8 + (n2 + 11) + rm.locals ≤ R.locals) (h0 : rm.cells = 0 ∧ rm.slots = 0) (hst : (st.map fun v => v.category).sum ≤ 8) (hC : CT l ca a y b n2 r2 rm (.ref (a k) :: []) μ (some (.int r)) μ1) (kk : WW l cc nL ret own R ca a E q lv (.int r :: st) μ1) : WW l cc nL ret own R ca a E pc lv (.ref (a k) :: st) μ := ww_cV q hq c2 i [] d hM hw hk hc hy rfl hR h0 hst rfl hC kk
theorem ww_cV0v (q : Nat) (hq : pc + 3 = q) {y : MethodName} {b : ByteArray} {n2 : Nat} {r2 : Option FieldType} {rm : Room} {μ1 : Mem} {k : Nat} (c2 i : Nat) (d : decode cc pc = .ok (.invokevirtual i, 3)) (hM : MV y b n2 r2 0) (hw : Cond.methodLink own i y ∈ AW) (hk : kd k = c2) (hc : c2 < 9) (hy : y.cls = cn c2) (hR : rm.frames + 1 ≤ R.frames ∧ 8 + (n2 + 11) + rm.locals ≤ R.locals) (h0 : rm.cells = 0 ∧ rm.slots = 0) (hst : (st.map fun v => v.category).sum ≤ 8) (hC : CT l ca a y b n2 r2 rm (.ref (a k) :: []) μ none μ1) (kk : WW l cc nL ret own R ca a E q lv st μ1) : WW l cc nL ret own R ca a E pc lv (.ref (a k) :: st) μ := ww_cV q hq c2 i [] d hM hw hk hc hy rfl hR h0 hst rfl hC kk
theorem ww_cV0q (q : Nat) (hq : pc + 3 = q) {y : MethodName} {b : ByteArray} {n2 : Nat} {r2 : Option FieldType} {rm : Room} {μ1 : Mem} {k : Nat} {r : Option Nat} (c2 i : Nat) (d : decode cc pc = .ok (.invokevirtual i, 3)) (hM : MV y b n2 r2 0) (hw : Cond.methodLink own i y ∈ AW) (hk : kd k = c2) (hc : c2 < 9) (hy : y.cls = cn c2) (hR : rm.frames + 1 ≤ R.frames ∧ 8 + (n2 + 11) + rm.locals ≤ R.locals) (h0 : rm.cells = 0 ∧ rm.slots = 0) (hst : (st.map fun v => v.category).sum ≤ 8) (hC : CT l ca a y b n2 r2 rm (.ref (a k) :: []) μ (some (rvq a r)) μ1) (kn : r = none → WW l cc nL ret own R ca a E q lv (.null :: st) μ1) (ks : ∀ k2, r = some k2 → WW l cc nL ret own R ca a E q lv (.ref (a k2) :: st) μ1) : WW l cc nL ret own R ca a E pc lv (.ref (a k) :: st) μ := by
  cases r with
  | none => exact ww_cV q hq c2 i [] d hM hw hk hc hy rfl hR h0 hst rfl hC (kn rfl)
  | some k2 => exact ww_cV q hq c2 i [] d hM hw hk hc hy rfl hR h0 hst rfl hC (ks k2 rfl)
theorem ww_cS0i (q : Nat) (hq : pc + 3 = q) {y : MethodName} {b : ByteArray} {n2 : Nat} {r2 : Option FieldType} {rm : Room} {μ1 : Mem} {r : Int32} (i : Nat) (d : decode cc pc = .ok (.invokestatic i, 3)) (hM : MS y b n2 r2 0) (hw : Cond.methodLink own i y ∈ AW) (hR : rm.frames + 1 ≤ R.frames ∧ 8 + (n2 + 11) + rm.locals ≤ R.locals) (h0 : rm.cells = 0 ∧ rm.slots = 0) (hst : (st.map fun v => v.category).sum ≤ 8) (hC : CT l ca a y b n2 r2 rm [] μ (some (.int r)) μ1) (kk : WW l cc nL ret own R ca a E q lv (.int r :: st) μ1) : WW l cc nL ret own R ca a E pc lv st μ := ww_cS q hq i [] d hM hw rfl hR h0 hst rfl hC kk
theorem ww_cS0v (q : Nat) (hq : pc + 3 = q) {y : MethodName} {b : ByteArray} {n2 : Nat} {r2 : Option FieldType} {rm : Room} {μ1 : Mem} (i : Nat) (d : decode cc pc = .ok (.invokestatic i, 3)) (hM : MS y b n2 r2 0) (hw : Cond.methodLink own i y ∈ AW) (hR : rm.frames + 1 ≤ R.frames ∧ 8 + (n2 + 11) + rm.locals ≤ R.locals) (h0 : rm.cells = 0 ∧ rm.slots = 0) (hst : (st.map fun v => v.category).sum ≤ 8) (hC : CT l ca a y b n2 r2 rm [] μ none μ1) (kk : WW l cc nL ret own R ca a E q lv st μ1) : WW l cc nL ret own R ca a E pc lv st μ := ww_cS q hq i [] d hM hw rfl hR h0 hst rfl hC kk
theorem ww_cN0i (q : Nat) (hq : pc + 3 = q) {y : MethodName} {b : ByteArray} {n2 : Nat} {r2 : Option FieldType} {rm : Room} {μ1 : Mem} {host : String} {r : Int32} (i : Nat) (d : decode cc pc = .ok (.invokestatic i, 3)) (hM : MS y b n2 r2 0) (hw : ∀ (A : Nat → Prop) (U : State) (H : Heap), ST a A U H → va_Nw (.methodLinkNest own i y host) U) (hR : rm.frames + 1 ≤ R.frames ∧ 8 + (n2 + 11) + rm.locals ≤ R.locals) (h0 : rm.cells = 0 ∧ rm.slots = 0) (hst : (st.map fun v => v.category).sum ≤ 8) (hC : CT l ca a y b n2 r2 rm [] μ (some (.int r)) μ1) (kk : WW l cc nL ret own R ca a E q lv (.int r :: st) μ1) : WW l cc nL ret own R ca a E pc lv st μ := ww_cN q hq i [] d hM hw rfl hR h0 hst rfl hC kk
theorem ww_cN0v (q : Nat) (hq : pc + 3 = q) {y : MethodName} {b : ByteArray} {n2 : Nat} {r2 : Option FieldType} {rm : Room} {μ1 : Mem} {host : String} (i : Nat) (d : decode cc pc = .ok (.invokestatic i, 3)) (hM : MS y b n2 r2 0) (hw : ∀ (A : Nat → Prop) (U : State) (H : Heap), ST a A U H → va_Nw (.methodLinkNest own i y host) U) (hR : rm.frames + 1 ≤ R.frames ∧ 8 + (n2 + 11) + rm.locals ≤ R.locals) (h0 : rm.cells = 0 ∧ rm.slots = 0) (hst : (st.map fun v => v.category).sum ≤ 8) (hC : CT l ca a y b n2 r2 rm [] μ none μ1) (kk : WW l cc nL ret own R ca a E q lv st μ1) : WW l cc nL ret own R ca a E pc lv st μ := ww_cN q hq i [] d hM hw rfl hR h0 hst rfl hC kk
theorem ww_cV1i (q : Nat) (hq : pc + 3 = q) {y : MethodName} {b : ByteArray} {n2 : Nat} {r2 : Option FieldType} {rm : Room} {μ1 : Mem} {k : Nat} {v0 : Value} {r : Int32} (c2 i : Nat) (d : decode cc pc = .ok (.invokevirtual i, 3)) (hM : MV y b n2 r2 1) (hw : Cond.methodLink own i y ∈ AW) (hk : kd k = c2) (hc : c2 < 9) (hy : y.cls = cn c2) (hR : rm.frames + 1 ≤ R.frames ∧ 8 + (n2 + 11) + rm.locals ≤ R.locals) (h0 : rm.cells = 0 ∧ rm.slots = 0) (hst : (st.map fun v => v.category).sum ≤ 8) (hC : CT l ca a y b n2 r2 rm (.ref (a k) :: [v0]) μ (some (.int r)) μ1) (kk : WW l cc nL ret own R ca a E q lv (.int r :: st) μ1) : WW l cc nL ret own R ca a E pc lv (v0 :: .ref (a k) :: st) μ := ww_cV q hq c2 i [v0] d hM hw hk hc hy rfl hR h0 hst rfl hC kk
theorem ww_cV1v (q : Nat) (hq : pc + 3 = q) {y : MethodName} {b : ByteArray} {n2 : Nat} {r2 : Option FieldType} {rm : Room} {μ1 : Mem} {k : Nat} {v0 : Value} (c2 i : Nat) (d : decode cc pc = .ok (.invokevirtual i, 3)) (hM : MV y b n2 r2 1) (hw : Cond.methodLink own i y ∈ AW) (hk : kd k = c2) (hc : c2 < 9) (hy : y.cls = cn c2) (hR : rm.frames + 1 ≤ R.frames ∧ 8 + (n2 + 11) + rm.locals ≤ R.locals) (h0 : rm.cells = 0 ∧ rm.slots = 0) (hst : (st.map fun v => v.category).sum ≤ 8) (hC : CT l ca a y b n2 r2 rm (.ref (a k) :: [v0]) μ none μ1) (kk : WW l cc nL ret own R ca a E q lv st μ1) : WW l cc nL ret own R ca a E pc lv (v0 :: .ref (a k) :: st) μ := ww_cV q hq c2 i [v0] d hM hw hk hc hy rfl hR h0 hst rfl hC kk
theorem ww_cV1q (q : Nat) (hq : pc + 3 = q) {y : MethodName} {b : ByteArray} {n2 : Nat} {r2 : Option FieldType} {rm : Room} {μ1 : Mem} {k : Nat} {v0 : Value} {r : Option Nat} (c2 i : Nat) (d : decode cc pc = .ok (.invokevirtual i, 3)) (hM : MV y b n2 r2 1) (hw : Cond.methodLink own i y ∈ AW) (hk : kd k = c2) (hc : c2 < 9) (hy : y.cls = cn c2) (hR : rm.frames + 1 ≤ R.frames ∧ 8 + (n2 + 11) + rm.locals ≤ R.locals) (h0 : rm.cells = 0 ∧ rm.slots = 0) (hst : (st.map fun v => v.category).sum ≤ 8) (hC : CT l ca a y b n2 r2 rm (.ref (a k) :: [v0]) μ (some (rvq a r)) μ1) (kn : r = none → WW l cc nL ret own R ca a E q lv (.null :: st) μ1) (ks : ∀ k2, r = some k2 → WW l cc nL ret own R ca a E q lv (.ref (a k2) :: st) μ1) : WW l cc nL ret own R ca a E pc lv (v0 :: .ref (a k) :: st) μ := by
  cases r with
  | none => exact ww_cV q hq c2 i [v0] d hM hw hk hc hy rfl hR h0 hst rfl hC (kn rfl)
  | some k2 => exact ww_cV q hq c2 i [v0] d hM hw hk hc hy rfl hR h0 hst rfl hC (ks k2 rfl)
theorem ww_cS1i (q : Nat) (hq : pc + 3 = q) {y : MethodName} {b : ByteArray} {n2 : Nat} {r2 : Option FieldType} {rm : Room} {μ1 : Mem} {v0 : Value} {r : Int32} (i : Nat) (d : decode cc pc = .ok (.invokestatic i, 3)) (hM : MS y b n2 r2 1) (hw : Cond.methodLink own i y ∈ AW) (hR : rm.frames + 1 ≤ R.frames ∧ 8 + (n2 + 11) + rm.locals ≤ R.locals) (h0 : rm.cells = 0 ∧ rm.slots = 0) (hst : (st.map fun v => v.category).sum ≤ 8) (hC : CT l ca a y b n2 r2 rm [v0] μ (some (.int r)) μ1) (kk : WW l cc nL ret own R ca a E q lv (.int r :: st) μ1) : WW l cc nL ret own R ca a E pc lv (v0 :: st) μ := ww_cS q hq i [v0] d hM hw rfl hR h0 hst rfl hC kk
theorem ww_cS1v (q : Nat) (hq : pc + 3 = q) {y : MethodName} {b : ByteArray} {n2 : Nat} {r2 : Option FieldType} {rm : Room} {μ1 : Mem} {v0 : Value} (i : Nat) (d : decode cc pc = .ok (.invokestatic i, 3)) (hM : MS y b n2 r2 1) (hw : Cond.methodLink own i y ∈ AW) (hR : rm.frames + 1 ≤ R.frames ∧ 8 + (n2 + 11) + rm.locals ≤ R.locals) (h0 : rm.cells = 0 ∧ rm.slots = 0) (hst : (st.map fun v => v.category).sum ≤ 8) (hC : CT l ca a y b n2 r2 rm [v0] μ none μ1) (kk : WW l cc nL ret own R ca a E q lv st μ1) : WW l cc nL ret own R ca a E pc lv (v0 :: st) μ := ww_cS q hq i [v0] d hM hw rfl hR h0 hst rfl hC kk
theorem ww_cN1i (q : Nat) (hq : pc + 3 = q) {y : MethodName} {b : ByteArray} {n2 : Nat} {r2 : Option FieldType} {rm : Room} {μ1 : Mem} {host : String} {v0 : Value} {r : Int32} (i : Nat) (d : decode cc pc = .ok (.invokestatic i, 3)) (hM : MS y b n2 r2 1) (hw : ∀ (A : Nat → Prop) (U : State) (H : Heap), ST a A U H → va_Nw (.methodLinkNest own i y host) U) (hR : rm.frames + 1 ≤ R.frames ∧ 8 + (n2 + 11) + rm.locals ≤ R.locals) (h0 : rm.cells = 0 ∧ rm.slots = 0) (hst : (st.map fun v => v.category).sum ≤ 8) (hC : CT l ca a y b n2 r2 rm [v0] μ (some (.int r)) μ1) (kk : WW l cc nL ret own R ca a E q lv (.int r :: st) μ1) : WW l cc nL ret own R ca a E pc lv (v0 :: st) μ := ww_cN q hq i [v0] d hM hw rfl hR h0 hst rfl hC kk
theorem ww_cN1v (q : Nat) (hq : pc + 3 = q) {y : MethodName} {b : ByteArray} {n2 : Nat} {r2 : Option FieldType} {rm : Room} {μ1 : Mem} {host : String} {v0 : Value} (i : Nat) (d : decode cc pc = .ok (.invokestatic i, 3)) (hM : MS y b n2 r2 1) (hw : ∀ (A : Nat → Prop) (U : State) (H : Heap), ST a A U H → va_Nw (.methodLinkNest own i y host) U) (hR : rm.frames + 1 ≤ R.frames ∧ 8 + (n2 + 11) + rm.locals ≤ R.locals) (h0 : rm.cells = 0 ∧ rm.slots = 0) (hst : (st.map fun v => v.category).sum ≤ 8) (hC : CT l ca a y b n2 r2 rm [v0] μ none μ1) (kk : WW l cc nL ret own R ca a E q lv st μ1) : WW l cc nL ret own R ca a E pc lv (v0 :: st) μ := ww_cN q hq i [v0] d hM hw rfl hR h0 hst rfl hC kk
theorem ww_cV2i (q : Nat) (hq : pc + 3 = q) {y : MethodName} {b : ByteArray} {n2 : Nat} {r2 : Option FieldType} {rm : Room} {μ1 : Mem} {k : Nat} {v0 v1 : Value} {r : Int32} (c2 i : Nat) (d : decode cc pc = .ok (.invokevirtual i, 3)) (hM : MV y b n2 r2 2) (hw : Cond.methodLink own i y ∈ AW) (hk : kd k = c2) (hc : c2 < 9) (hy : y.cls = cn c2) (hR : rm.frames + 1 ≤ R.frames ∧ 8 + (n2 + 11) + rm.locals ≤ R.locals) (h0 : rm.cells = 0 ∧ rm.slots = 0) (hst : (st.map fun v => v.category).sum ≤ 8) (hC : CT l ca a y b n2 r2 rm (.ref (a k) :: [v0, v1]) μ (some (.int r)) μ1) (kk : WW l cc nL ret own R ca a E q lv (.int r :: st) μ1) : WW l cc nL ret own R ca a E pc lv (v1 :: v0 :: .ref (a k) :: st) μ := ww_cV q hq c2 i [v0, v1] d hM hw hk hc hy rfl hR h0 hst rfl hC kk
theorem ww_cV2v (q : Nat) (hq : pc + 3 = q) {y : MethodName} {b : ByteArray} {n2 : Nat} {r2 : Option FieldType} {rm : Room} {μ1 : Mem} {k : Nat} {v0 v1 : Value} (c2 i : Nat) (d : decode cc pc = .ok (.invokevirtual i, 3)) (hM : MV y b n2 r2 2) (hw : Cond.methodLink own i y ∈ AW) (hk : kd k = c2) (hc : c2 < 9) (hy : y.cls = cn c2) (hR : rm.frames + 1 ≤ R.frames ∧ 8 + (n2 + 11) + rm.locals ≤ R.locals) (h0 : rm.cells = 0 ∧ rm.slots = 0) (hst : (st.map fun v => v.category).sum ≤ 8) (hC : CT l ca a y b n2 r2 rm (.ref (a k) :: [v0, v1]) μ none μ1) (kk : WW l cc nL ret own R ca a E q lv st μ1) : WW l cc nL ret own R ca a E pc lv (v1 :: v0 :: .ref (a k) :: st) μ := ww_cV q hq c2 i [v0, v1] d hM hw hk hc hy rfl hR h0 hst rfl hC kk
theorem ww_cV2q (q : Nat) (hq : pc + 3 = q) {y : MethodName} {b : ByteArray} {n2 : Nat} {r2 : Option FieldType} {rm : Room} {μ1 : Mem} {k : Nat} {v0 v1 : Value} {r : Option Nat} (c2 i : Nat) (d : decode cc pc = .ok (.invokevirtual i, 3)) (hM : MV y b n2 r2 2) (hw : Cond.methodLink own i y ∈ AW) (hk : kd k = c2) (hc : c2 < 9) (hy : y.cls = cn c2) (hR : rm.frames + 1 ≤ R.frames ∧ 8 + (n2 + 11) + rm.locals ≤ R.locals) (h0 : rm.cells = 0 ∧ rm.slots = 0) (hst : (st.map fun v => v.category).sum ≤ 8) (hC : CT l ca a y b n2 r2 rm (.ref (a k) :: [v0, v1]) μ (some (rvq a r)) μ1) (kn : r = none → WW l cc nL ret own R ca a E q lv (.null :: st) μ1) (ks : ∀ k2, r = some k2 → WW l cc nL ret own R ca a E q lv (.ref (a k2) :: st) μ1) : WW l cc nL ret own R ca a E pc lv (v1 :: v0 :: .ref (a k) :: st) μ := by
  cases r with
  | none => exact ww_cV q hq c2 i [v0, v1] d hM hw hk hc hy rfl hR h0 hst rfl hC (kn rfl)
  | some k2 => exact ww_cV q hq c2 i [v0, v1] d hM hw hk hc hy rfl hR h0 hst rfl hC (ks k2 rfl)
theorem ww_cS2i (q : Nat) (hq : pc + 3 = q) {y : MethodName} {b : ByteArray} {n2 : Nat} {r2 : Option FieldType} {rm : Room} {μ1 : Mem} {v0 v1 : Value} {r : Int32} (i : Nat) (d : decode cc pc = .ok (.invokestatic i, 3)) (hM : MS y b n2 r2 2) (hw : Cond.methodLink own i y ∈ AW) (hR : rm.frames + 1 ≤ R.frames ∧ 8 + (n2 + 11) + rm.locals ≤ R.locals) (h0 : rm.cells = 0 ∧ rm.slots = 0) (hst : (st.map fun v => v.category).sum ≤ 8) (hC : CT l ca a y b n2 r2 rm [v0, v1] μ (some (.int r)) μ1) (kk : WW l cc nL ret own R ca a E q lv (.int r :: st) μ1) : WW l cc nL ret own R ca a E pc lv (v1 :: v0 :: st) μ := ww_cS q hq i [v0, v1] d hM hw rfl hR h0 hst rfl hC kk
theorem ww_cS2v (q : Nat) (hq : pc + 3 = q) {y : MethodName} {b : ByteArray} {n2 : Nat} {r2 : Option FieldType} {rm : Room} {μ1 : Mem} {v0 v1 : Value} (i : Nat) (d : decode cc pc = .ok (.invokestatic i, 3)) (hM : MS y b n2 r2 2) (hw : Cond.methodLink own i y ∈ AW) (hR : rm.frames + 1 ≤ R.frames ∧ 8 + (n2 + 11) + rm.locals ≤ R.locals) (h0 : rm.cells = 0 ∧ rm.slots = 0) (hst : (st.map fun v => v.category).sum ≤ 8) (hC : CT l ca a y b n2 r2 rm [v0, v1] μ none μ1) (kk : WW l cc nL ret own R ca a E q lv st μ1) : WW l cc nL ret own R ca a E pc lv (v1 :: v0 :: st) μ := ww_cS q hq i [v0, v1] d hM hw rfl hR h0 hst rfl hC kk
theorem ww_cN2i (q : Nat) (hq : pc + 3 = q) {y : MethodName} {b : ByteArray} {n2 : Nat} {r2 : Option FieldType} {rm : Room} {μ1 : Mem} {host : String} {v0 v1 : Value} {r : Int32} (i : Nat) (d : decode cc pc = .ok (.invokestatic i, 3)) (hM : MS y b n2 r2 2) (hw : ∀ (A : Nat → Prop) (U : State) (H : Heap), ST a A U H → va_Nw (.methodLinkNest own i y host) U) (hR : rm.frames + 1 ≤ R.frames ∧ 8 + (n2 + 11) + rm.locals ≤ R.locals) (h0 : rm.cells = 0 ∧ rm.slots = 0) (hst : (st.map fun v => v.category).sum ≤ 8) (hC : CT l ca a y b n2 r2 rm [v0, v1] μ (some (.int r)) μ1) (kk : WW l cc nL ret own R ca a E q lv (.int r :: st) μ1) : WW l cc nL ret own R ca a E pc lv (v1 :: v0 :: st) μ := ww_cN q hq i [v0, v1] d hM hw rfl hR h0 hst rfl hC kk
theorem ww_cN2v (q : Nat) (hq : pc + 3 = q) {y : MethodName} {b : ByteArray} {n2 : Nat} {r2 : Option FieldType} {rm : Room} {μ1 : Mem} {host : String} {v0 v1 : Value} (i : Nat) (d : decode cc pc = .ok (.invokestatic i, 3)) (hM : MS y b n2 r2 2) (hw : ∀ (A : Nat → Prop) (U : State) (H : Heap), ST a A U H → va_Nw (.methodLinkNest own i y host) U) (hR : rm.frames + 1 ≤ R.frames ∧ 8 + (n2 + 11) + rm.locals ≤ R.locals) (h0 : rm.cells = 0 ∧ rm.slots = 0) (hst : (st.map fun v => v.category).sum ≤ 8) (hC : CT l ca a y b n2 r2 rm [v0, v1] μ none μ1) (kk : WW l cc nL ret own R ca a E q lv st μ1) : WW l cc nL ret own R ca a E pc lv (v1 :: v0 :: st) μ := ww_cN q hq i [v0, v1] d hM hw rfl hR h0 hst rfl hC kk
theorem ww_cV3i (q : Nat) (hq : pc + 3 = q) {y : MethodName} {b : ByteArray} {n2 : Nat} {r2 : Option FieldType} {rm : Room} {μ1 : Mem} {k : Nat} {v0 v1 v2 : Value} {r : Int32} (c2 i : Nat) (d : decode cc pc = .ok (.invokevirtual i, 3)) (hM : MV y b n2 r2 3) (hw : Cond.methodLink own i y ∈ AW) (hk : kd k = c2) (hc : c2 < 9) (hy : y.cls = cn c2) (hR : rm.frames + 1 ≤ R.frames ∧ 8 + (n2 + 11) + rm.locals ≤ R.locals) (h0 : rm.cells = 0 ∧ rm.slots = 0) (hst : (st.map fun v => v.category).sum ≤ 8) (hC : CT l ca a y b n2 r2 rm (.ref (a k) :: [v0, v1, v2]) μ (some (.int r)) μ1) (kk : WW l cc nL ret own R ca a E q lv (.int r :: st) μ1) : WW l cc nL ret own R ca a E pc lv (v2 :: v1 :: v0 :: .ref (a k) :: st) μ := ww_cV q hq c2 i [v0, v1, v2] d hM hw hk hc hy rfl hR h0 hst rfl hC kk
theorem ww_cV3v (q : Nat) (hq : pc + 3 = q) {y : MethodName} {b : ByteArray} {n2 : Nat} {r2 : Option FieldType} {rm : Room} {μ1 : Mem} {k : Nat} {v0 v1 v2 : Value} (c2 i : Nat) (d : decode cc pc = .ok (.invokevirtual i, 3)) (hM : MV y b n2 r2 3) (hw : Cond.methodLink own i y ∈ AW) (hk : kd k = c2) (hc : c2 < 9) (hy : y.cls = cn c2) (hR : rm.frames + 1 ≤ R.frames ∧ 8 + (n2 + 11) + rm.locals ≤ R.locals) (h0 : rm.cells = 0 ∧ rm.slots = 0) (hst : (st.map fun v => v.category).sum ≤ 8) (hC : CT l ca a y b n2 r2 rm (.ref (a k) :: [v0, v1, v2]) μ none μ1) (kk : WW l cc nL ret own R ca a E q lv st μ1) : WW l cc nL ret own R ca a E pc lv (v2 :: v1 :: v0 :: .ref (a k) :: st) μ := ww_cV q hq c2 i [v0, v1, v2] d hM hw hk hc hy rfl hR h0 hst rfl hC kk
theorem ww_cV3q (q : Nat) (hq : pc + 3 = q) {y : MethodName} {b : ByteArray} {n2 : Nat} {r2 : Option FieldType} {rm : Room} {μ1 : Mem} {k : Nat} {v0 v1 v2 : Value} {r : Option Nat} (c2 i : Nat) (d : decode cc pc = .ok (.invokevirtual i, 3)) (hM : MV y b n2 r2 3) (hw : Cond.methodLink own i y ∈ AW) (hk : kd k = c2) (hc : c2 < 9) (hy : y.cls = cn c2) (hR : rm.frames + 1 ≤ R.frames ∧ 8 + (n2 + 11) + rm.locals ≤ R.locals) (h0 : rm.cells = 0 ∧ rm.slots = 0) (hst : (st.map fun v => v.category).sum ≤ 8) (hC : CT l ca a y b n2 r2 rm (.ref (a k) :: [v0, v1, v2]) μ (some (rvq a r)) μ1) (kn : r = none → WW l cc nL ret own R ca a E q lv (.null :: st) μ1) (ks : ∀ k2, r = some k2 → WW l cc nL ret own R ca a E q lv (.ref (a k2) :: st) μ1) : WW l cc nL ret own R ca a E pc lv (v2 :: v1 :: v0 :: .ref (a k) :: st) μ := by
  cases r with
  | none => exact ww_cV q hq c2 i [v0, v1, v2] d hM hw hk hc hy rfl hR h0 hst rfl hC (kn rfl)
  | some k2 => exact ww_cV q hq c2 i [v0, v1, v2] d hM hw hk hc hy rfl hR h0 hst rfl hC (ks k2 rfl)
theorem ww_cS3i (q : Nat) (hq : pc + 3 = q) {y : MethodName} {b : ByteArray} {n2 : Nat} {r2 : Option FieldType} {rm : Room} {μ1 : Mem} {v0 v1 v2 : Value} {r : Int32} (i : Nat) (d : decode cc pc = .ok (.invokestatic i, 3)) (hM : MS y b n2 r2 3) (hw : Cond.methodLink own i y ∈ AW) (hR : rm.frames + 1 ≤ R.frames ∧ 8 + (n2 + 11) + rm.locals ≤ R.locals) (h0 : rm.cells = 0 ∧ rm.slots = 0) (hst : (st.map fun v => v.category).sum ≤ 8) (hC : CT l ca a y b n2 r2 rm [v0, v1, v2] μ (some (.int r)) μ1) (kk : WW l cc nL ret own R ca a E q lv (.int r :: st) μ1) : WW l cc nL ret own R ca a E pc lv (v2 :: v1 :: v0 :: st) μ := ww_cS q hq i [v0, v1, v2] d hM hw rfl hR h0 hst rfl hC kk
theorem ww_cS3v (q : Nat) (hq : pc + 3 = q) {y : MethodName} {b : ByteArray} {n2 : Nat} {r2 : Option FieldType} {rm : Room} {μ1 : Mem} {v0 v1 v2 : Value} (i : Nat) (d : decode cc pc = .ok (.invokestatic i, 3)) (hM : MS y b n2 r2 3) (hw : Cond.methodLink own i y ∈ AW) (hR : rm.frames + 1 ≤ R.frames ∧ 8 + (n2 + 11) + rm.locals ≤ R.locals) (h0 : rm.cells = 0 ∧ rm.slots = 0) (hst : (st.map fun v => v.category).sum ≤ 8) (hC : CT l ca a y b n2 r2 rm [v0, v1, v2] μ none μ1) (kk : WW l cc nL ret own R ca a E q lv st μ1) : WW l cc nL ret own R ca a E pc lv (v2 :: v1 :: v0 :: st) μ := ww_cS q hq i [v0, v1, v2] d hM hw rfl hR h0 hst rfl hC kk
theorem ww_cN3i (q : Nat) (hq : pc + 3 = q) {y : MethodName} {b : ByteArray} {n2 : Nat} {r2 : Option FieldType} {rm : Room} {μ1 : Mem} {host : String} {v0 v1 v2 : Value} {r : Int32} (i : Nat) (d : decode cc pc = .ok (.invokestatic i, 3)) (hM : MS y b n2 r2 3) (hw : ∀ (A : Nat → Prop) (U : State) (H : Heap), ST a A U H → va_Nw (.methodLinkNest own i y host) U) (hR : rm.frames + 1 ≤ R.frames ∧ 8 + (n2 + 11) + rm.locals ≤ R.locals) (h0 : rm.cells = 0 ∧ rm.slots = 0) (hst : (st.map fun v => v.category).sum ≤ 8) (hC : CT l ca a y b n2 r2 rm [v0, v1, v2] μ (some (.int r)) μ1) (kk : WW l cc nL ret own R ca a E q lv (.int r :: st) μ1) : WW l cc nL ret own R ca a E pc lv (v2 :: v1 :: v0 :: st) μ := ww_cN q hq i [v0, v1, v2] d hM hw rfl hR h0 hst rfl hC kk
theorem ww_cN3v (q : Nat) (hq : pc + 3 = q) {y : MethodName} {b : ByteArray} {n2 : Nat} {r2 : Option FieldType} {rm : Room} {μ1 : Mem} {host : String} {v0 v1 v2 : Value} (i : Nat) (d : decode cc pc = .ok (.invokestatic i, 3)) (hM : MS y b n2 r2 3) (hw : ∀ (A : Nat → Prop) (U : State) (H : Heap), ST a A U H → va_Nw (.methodLinkNest own i y host) U) (hR : rm.frames + 1 ≤ R.frames ∧ 8 + (n2 + 11) + rm.locals ≤ R.locals) (h0 : rm.cells = 0 ∧ rm.slots = 0) (hst : (st.map fun v => v.category).sum ≤ 8) (hC : CT l ca a y b n2 r2 rm [v0, v1, v2] μ none μ1) (kk : WW l cc nL ret own R ca a E q lv st μ1) : WW l cc nL ret own R ca a E pc lv (v2 :: v1 :: v0 :: st) μ := ww_cN q hq i [v0, v1, v2] d hM hw rfl hR h0 hst rfl hC kk
theorem ww_cV4i (q : Nat) (hq : pc + 3 = q) {y : MethodName} {b : ByteArray} {n2 : Nat} {r2 : Option FieldType} {rm : Room} {μ1 : Mem} {k : Nat} {v0 v1 v2 v3 : Value} {r : Int32} (c2 i : Nat) (d : decode cc pc = .ok (.invokevirtual i, 3)) (hM : MV y b n2 r2 4) (hw : Cond.methodLink own i y ∈ AW) (hk : kd k = c2) (hc : c2 < 9) (hy : y.cls = cn c2) (hR : rm.frames + 1 ≤ R.frames ∧ 8 + (n2 + 11) + rm.locals ≤ R.locals) (h0 : rm.cells = 0 ∧ rm.slots = 0) (hst : (st.map fun v => v.category).sum ≤ 8) (hC : CT l ca a y b n2 r2 rm (.ref (a k) :: [v0, v1, v2, v3]) μ (some (.int r)) μ1) (kk : WW l cc nL ret own R ca a E q lv (.int r :: st) μ1) : WW l cc nL ret own R ca a E pc lv (v3 :: v2 :: v1 :: v0 :: .ref (a k) :: st) μ := ww_cV q hq c2 i [v0, v1, v2, v3] d hM hw hk hc hy rfl hR h0 hst rfl hC kk
theorem ww_cV4v (q : Nat) (hq : pc + 3 = q) {y : MethodName} {b : ByteArray} {n2 : Nat} {r2 : Option FieldType} {rm : Room} {μ1 : Mem} {k : Nat} {v0 v1 v2 v3 : Value} (c2 i : Nat) (d : decode cc pc = .ok (.invokevirtual i, 3)) (hM : MV y b n2 r2 4) (hw : Cond.methodLink own i y ∈ AW) (hk : kd k = c2) (hc : c2 < 9) (hy : y.cls = cn c2) (hR : rm.frames + 1 ≤ R.frames ∧ 8 + (n2 + 11) + rm.locals ≤ R.locals) (h0 : rm.cells = 0 ∧ rm.slots = 0) (hst : (st.map fun v => v.category).sum ≤ 8) (hC : CT l ca a y b n2 r2 rm (.ref (a k) :: [v0, v1, v2, v3]) μ none μ1) (kk : WW l cc nL ret own R ca a E q lv st μ1) : WW l cc nL ret own R ca a E pc lv (v3 :: v2 :: v1 :: v0 :: .ref (a k) :: st) μ := ww_cV q hq c2 i [v0, v1, v2, v3] d hM hw hk hc hy rfl hR h0 hst rfl hC kk
theorem ww_cV4q (q : Nat) (hq : pc + 3 = q) {y : MethodName} {b : ByteArray} {n2 : Nat} {r2 : Option FieldType} {rm : Room} {μ1 : Mem} {k : Nat} {v0 v1 v2 v3 : Value} {r : Option Nat} (c2 i : Nat) (d : decode cc pc = .ok (.invokevirtual i, 3)) (hM : MV y b n2 r2 4) (hw : Cond.methodLink own i y ∈ AW) (hk : kd k = c2) (hc : c2 < 9) (hy : y.cls = cn c2) (hR : rm.frames + 1 ≤ R.frames ∧ 8 + (n2 + 11) + rm.locals ≤ R.locals) (h0 : rm.cells = 0 ∧ rm.slots = 0) (hst : (st.map fun v => v.category).sum ≤ 8) (hC : CT l ca a y b n2 r2 rm (.ref (a k) :: [v0, v1, v2, v3]) μ (some (rvq a r)) μ1) (kn : r = none → WW l cc nL ret own R ca a E q lv (.null :: st) μ1) (ks : ∀ k2, r = some k2 → WW l cc nL ret own R ca a E q lv (.ref (a k2) :: st) μ1) : WW l cc nL ret own R ca a E pc lv (v3 :: v2 :: v1 :: v0 :: .ref (a k) :: st) μ := by
  cases r with
  | none => exact ww_cV q hq c2 i [v0, v1, v2, v3] d hM hw hk hc hy rfl hR h0 hst rfl hC (kn rfl)
  | some k2 => exact ww_cV q hq c2 i [v0, v1, v2, v3] d hM hw hk hc hy rfl hR h0 hst rfl hC (ks k2 rfl)
theorem ww_cS4i (q : Nat) (hq : pc + 3 = q) {y : MethodName} {b : ByteArray} {n2 : Nat} {r2 : Option FieldType} {rm : Room} {μ1 : Mem} {v0 v1 v2 v3 : Value} {r : Int32} (i : Nat) (d : decode cc pc = .ok (.invokestatic i, 3)) (hM : MS y b n2 r2 4) (hw : Cond.methodLink own i y ∈ AW) (hR : rm.frames + 1 ≤ R.frames ∧ 8 + (n2 + 11) + rm.locals ≤ R.locals) (h0 : rm.cells = 0 ∧ rm.slots = 0) (hst : (st.map fun v => v.category).sum ≤ 8) (hC : CT l ca a y b n2 r2 rm [v0, v1, v2, v3] μ (some (.int r)) μ1) (kk : WW l cc nL ret own R ca a E q lv (.int r :: st) μ1) : WW l cc nL ret own R ca a E pc lv (v3 :: v2 :: v1 :: v0 :: st) μ := ww_cS q hq i [v0, v1, v2, v3] d hM hw rfl hR h0 hst rfl hC kk
theorem ww_cS4v (q : Nat) (hq : pc + 3 = q) {y : MethodName} {b : ByteArray} {n2 : Nat} {r2 : Option FieldType} {rm : Room} {μ1 : Mem} {v0 v1 v2 v3 : Value} (i : Nat) (d : decode cc pc = .ok (.invokestatic i, 3)) (hM : MS y b n2 r2 4) (hw : Cond.methodLink own i y ∈ AW) (hR : rm.frames + 1 ≤ R.frames ∧ 8 + (n2 + 11) + rm.locals ≤ R.locals) (h0 : rm.cells = 0 ∧ rm.slots = 0) (hst : (st.map fun v => v.category).sum ≤ 8) (hC : CT l ca a y b n2 r2 rm [v0, v1, v2, v3] μ none μ1) (kk : WW l cc nL ret own R ca a E q lv st μ1) : WW l cc nL ret own R ca a E pc lv (v3 :: v2 :: v1 :: v0 :: st) μ := ww_cS q hq i [v0, v1, v2, v3] d hM hw rfl hR h0 hst rfl hC kk
theorem ww_cN4i (q : Nat) (hq : pc + 3 = q) {y : MethodName} {b : ByteArray} {n2 : Nat} {r2 : Option FieldType} {rm : Room} {μ1 : Mem} {host : String} {v0 v1 v2 v3 : Value} {r : Int32} (i : Nat) (d : decode cc pc = .ok (.invokestatic i, 3)) (hM : MS y b n2 r2 4) (hw : ∀ (A : Nat → Prop) (U : State) (H : Heap), ST a A U H → va_Nw (.methodLinkNest own i y host) U) (hR : rm.frames + 1 ≤ R.frames ∧ 8 + (n2 + 11) + rm.locals ≤ R.locals) (h0 : rm.cells = 0 ∧ rm.slots = 0) (hst : (st.map fun v => v.category).sum ≤ 8) (hC : CT l ca a y b n2 r2 rm [v0, v1, v2, v3] μ (some (.int r)) μ1) (kk : WW l cc nL ret own R ca a E q lv (.int r :: st) μ1) : WW l cc nL ret own R ca a E pc lv (v3 :: v2 :: v1 :: v0 :: st) μ := ww_cN q hq i [v0, v1, v2, v3] d hM hw rfl hR h0 hst rfl hC kk
theorem ww_cN4v (q : Nat) (hq : pc + 3 = q) {y : MethodName} {b : ByteArray} {n2 : Nat} {r2 : Option FieldType} {rm : Room} {μ1 : Mem} {host : String} {v0 v1 v2 v3 : Value} (i : Nat) (d : decode cc pc = .ok (.invokestatic i, 3)) (hM : MS y b n2 r2 4) (hw : ∀ (A : Nat → Prop) (U : State) (H : Heap), ST a A U H → va_Nw (.methodLinkNest own i y host) U) (hR : rm.frames + 1 ≤ R.frames ∧ 8 + (n2 + 11) + rm.locals ≤ R.locals) (h0 : rm.cells = 0 ∧ rm.slots = 0) (hst : (st.map fun v => v.category).sum ≤ 8) (hC : CT l ca a y b n2 r2 rm [v0, v1, v2, v3] μ none μ1) (kk : WW l cc nL ret own R ca a E q lv st μ1) : WW l cc nL ret own R ca a E pc lv (v3 :: v2 :: v1 :: v0 :: st) μ := ww_cN q hq i [v0, v1, v2, v3] d hM hw rfl hR h0 hst rfl hC kk
theorem ww_cV5i (q : Nat) (hq : pc + 3 = q) {y : MethodName} {b : ByteArray} {n2 : Nat} {r2 : Option FieldType} {rm : Room} {μ1 : Mem} {k : Nat} {v0 v1 v2 v3 v4 : Value} {r : Int32} (c2 i : Nat) (d : decode cc pc = .ok (.invokevirtual i, 3)) (hM : MV y b n2 r2 5) (hw : Cond.methodLink own i y ∈ AW) (hk : kd k = c2) (hc : c2 < 9) (hy : y.cls = cn c2) (hR : rm.frames + 1 ≤ R.frames ∧ 8 + (n2 + 11) + rm.locals ≤ R.locals) (h0 : rm.cells = 0 ∧ rm.slots = 0) (hst : (st.map fun v => v.category).sum ≤ 8) (hC : CT l ca a y b n2 r2 rm (.ref (a k) :: [v0, v1, v2, v3, v4]) μ (some (.int r)) μ1) (kk : WW l cc nL ret own R ca a E q lv (.int r :: st) μ1) : WW l cc nL ret own R ca a E pc lv (v4 :: v3 :: v2 :: v1 :: v0 :: .ref (a k) :: st) μ := ww_cV q hq c2 i [v0, v1, v2, v3, v4] d hM hw hk hc hy rfl hR h0 hst rfl hC kk
theorem ww_cV5v (q : Nat) (hq : pc + 3 = q) {y : MethodName} {b : ByteArray} {n2 : Nat} {r2 : Option FieldType} {rm : Room} {μ1 : Mem} {k : Nat} {v0 v1 v2 v3 v4 : Value} (c2 i : Nat) (d : decode cc pc = .ok (.invokevirtual i, 3)) (hM : MV y b n2 r2 5) (hw : Cond.methodLink own i y ∈ AW) (hk : kd k = c2) (hc : c2 < 9) (hy : y.cls = cn c2) (hR : rm.frames + 1 ≤ R.frames ∧ 8 + (n2 + 11) + rm.locals ≤ R.locals) (h0 : rm.cells = 0 ∧ rm.slots = 0) (hst : (st.map fun v => v.category).sum ≤ 8) (hC : CT l ca a y b n2 r2 rm (.ref (a k) :: [v0, v1, v2, v3, v4]) μ none μ1) (kk : WW l cc nL ret own R ca a E q lv st μ1) : WW l cc nL ret own R ca a E pc lv (v4 :: v3 :: v2 :: v1 :: v0 :: .ref (a k) :: st) μ := ww_cV q hq c2 i [v0, v1, v2, v3, v4] d hM hw hk hc hy rfl hR h0 hst rfl hC kk
theorem ww_cV5q (q : Nat) (hq : pc + 3 = q) {y : MethodName} {b : ByteArray} {n2 : Nat} {r2 : Option FieldType} {rm : Room} {μ1 : Mem} {k : Nat} {v0 v1 v2 v3 v4 : Value} {r : Option Nat} (c2 i : Nat) (d : decode cc pc = .ok (.invokevirtual i, 3)) (hM : MV y b n2 r2 5) (hw : Cond.methodLink own i y ∈ AW) (hk : kd k = c2) (hc : c2 < 9) (hy : y.cls = cn c2) (hR : rm.frames + 1 ≤ R.frames ∧ 8 + (n2 + 11) + rm.locals ≤ R.locals) (h0 : rm.cells = 0 ∧ rm.slots = 0) (hst : (st.map fun v => v.category).sum ≤ 8) (hC : CT l ca a y b n2 r2 rm (.ref (a k) :: [v0, v1, v2, v3, v4]) μ (some (rvq a r)) μ1) (kn : r = none → WW l cc nL ret own R ca a E q lv (.null :: st) μ1) (ks : ∀ k2, r = some k2 → WW l cc nL ret own R ca a E q lv (.ref (a k2) :: st) μ1) : WW l cc nL ret own R ca a E pc lv (v4 :: v3 :: v2 :: v1 :: v0 :: .ref (a k) :: st) μ := by
  cases r with
  | none => exact ww_cV q hq c2 i [v0, v1, v2, v3, v4] d hM hw hk hc hy rfl hR h0 hst rfl hC (kn rfl)
  | some k2 => exact ww_cV q hq c2 i [v0, v1, v2, v3, v4] d hM hw hk hc hy rfl hR h0 hst rfl hC (ks k2 rfl)
theorem ww_cS5i (q : Nat) (hq : pc + 3 = q) {y : MethodName} {b : ByteArray} {n2 : Nat} {r2 : Option FieldType} {rm : Room} {μ1 : Mem} {v0 v1 v2 v3 v4 : Value} {r : Int32} (i : Nat) (d : decode cc pc = .ok (.invokestatic i, 3)) (hM : MS y b n2 r2 5) (hw : Cond.methodLink own i y ∈ AW) (hR : rm.frames + 1 ≤ R.frames ∧ 8 + (n2 + 11) + rm.locals ≤ R.locals) (h0 : rm.cells = 0 ∧ rm.slots = 0) (hst : (st.map fun v => v.category).sum ≤ 8) (hC : CT l ca a y b n2 r2 rm [v0, v1, v2, v3, v4] μ (some (.int r)) μ1) (kk : WW l cc nL ret own R ca a E q lv (.int r :: st) μ1) : WW l cc nL ret own R ca a E pc lv (v4 :: v3 :: v2 :: v1 :: v0 :: st) μ := ww_cS q hq i [v0, v1, v2, v3, v4] d hM hw rfl hR h0 hst rfl hC kk
theorem ww_cS5v (q : Nat) (hq : pc + 3 = q) {y : MethodName} {b : ByteArray} {n2 : Nat} {r2 : Option FieldType} {rm : Room} {μ1 : Mem} {v0 v1 v2 v3 v4 : Value} (i : Nat) (d : decode cc pc = .ok (.invokestatic i, 3)) (hM : MS y b n2 r2 5) (hw : Cond.methodLink own i y ∈ AW) (hR : rm.frames + 1 ≤ R.frames ∧ 8 + (n2 + 11) + rm.locals ≤ R.locals) (h0 : rm.cells = 0 ∧ rm.slots = 0) (hst : (st.map fun v => v.category).sum ≤ 8) (hC : CT l ca a y b n2 r2 rm [v0, v1, v2, v3, v4] μ none μ1) (kk : WW l cc nL ret own R ca a E q lv st μ1) : WW l cc nL ret own R ca a E pc lv (v4 :: v3 :: v2 :: v1 :: v0 :: st) μ := ww_cS q hq i [v0, v1, v2, v3, v4] d hM hw rfl hR h0 hst rfl hC kk
theorem ww_cN5i (q : Nat) (hq : pc + 3 = q) {y : MethodName} {b : ByteArray} {n2 : Nat} {r2 : Option FieldType} {rm : Room} {μ1 : Mem} {host : String} {v0 v1 v2 v3 v4 : Value} {r : Int32} (i : Nat) (d : decode cc pc = .ok (.invokestatic i, 3)) (hM : MS y b n2 r2 5) (hw : ∀ (A : Nat → Prop) (U : State) (H : Heap), ST a A U H → va_Nw (.methodLinkNest own i y host) U) (hR : rm.frames + 1 ≤ R.frames ∧ 8 + (n2 + 11) + rm.locals ≤ R.locals) (h0 : rm.cells = 0 ∧ rm.slots = 0) (hst : (st.map fun v => v.category).sum ≤ 8) (hC : CT l ca a y b n2 r2 rm [v0, v1, v2, v3, v4] μ (some (.int r)) μ1) (kk : WW l cc nL ret own R ca a E q lv (.int r :: st) μ1) : WW l cc nL ret own R ca a E pc lv (v4 :: v3 :: v2 :: v1 :: v0 :: st) μ := ww_cN q hq i [v0, v1, v2, v3, v4] d hM hw rfl hR h0 hst rfl hC kk
theorem ww_cN5v (q : Nat) (hq : pc + 3 = q) {y : MethodName} {b : ByteArray} {n2 : Nat} {r2 : Option FieldType} {rm : Room} {μ1 : Mem} {host : String} {v0 v1 v2 v3 v4 : Value} (i : Nat) (d : decode cc pc = .ok (.invokestatic i, 3)) (hM : MS y b n2 r2 5) (hw : ∀ (A : Nat → Prop) (U : State) (H : Heap), ST a A U H → va_Nw (.methodLinkNest own i y host) U) (hR : rm.frames + 1 ≤ R.frames ∧ 8 + (n2 + 11) + rm.locals ≤ R.locals) (h0 : rm.cells = 0 ∧ rm.slots = 0) (hst : (st.map fun v => v.category).sum ≤ 8) (hC : CT l ca a y b n2 r2 rm [v0, v1, v2, v3, v4] μ none μ1) (kk : WW l cc nL ret own R ca a E q lv st μ1) : WW l cc nL ret own R ca a E pc lv (v4 :: v3 :: v2 :: v1 :: v0 :: st) μ := ww_cN q hq i [v0, v1, v2, v3, v4] d hM hw rfl hR h0 hst rfl hC kk
theorem ww_nmi {x : Int32} (k : ∀ v, v = x → WW l cc nL ret own R ca a E pc lv (.int v :: st) μ) : WW l cc nL ret own R ca a E pc lv (.int x :: st) μ := k x rfl
theorem ww_nmm (k : ∀ m1, m1 = μ → WW l cc nL ret own R ca a E pc lv st m1) : WW l cc nL ret own R ca a E pc lv st μ := k μ rfl
end ROWS
end
section
theorem tw {w : Cond} (i : Nat) (h : tables_1[i]? = some w) : w ∈ lw_tbl := List.mem_append_right _ (List.mem_of_getElem? h)
theorem sw {w : Cond} (i : Nat) (h : (k2_sels lw_privs)[i]? = some w) : w ∈ lw_tbl := List.mem_append_left _ (List.mem_of_getElem? h)
set_option maxRecDepth 20000 in
theorem k_Intervals_22 : Cond.methodLink R_Intervals 22 y_Intervals_segmentOf ∈ AW := (aw (tw 192 rfl) rfl)
set_option maxRecDepth 20000 in
theorem k_Intervals_13 : Cond.methodLink R_Intervals 13 y_Intervals_codeOf1 ∈ AW := (aw (tw 195 rfl) rfl)
set_option maxRecDepth 20000 in
theorem k_Intervals_7 : Cond.methodLink R_Intervals 7 y_Intervals_codeOf0 ∈ AW := (aw (tw 189 rfl) rfl)
set_option maxRecDepth 20000 in
theorem k_Gate_49 : Cond.methodLink R_Gate 49 y_Intervals_has ∈ AW := (aw (tw 180 rfl) rfl)
set_option maxRecDepth 20000 in
theorem k_Gate_55 : Cond.methodLink R_Gate 55 y_Gate_isSample ∈ AW := (aw (tw 183 rfl) rfl)
set_option maxRecDepth 20000 in
theorem k_Gate_58 : Cond.methodLink R_Gate 58 y_Intervals_codeOf ∈ AW := (aw (tw 186 rfl) rfl)
set_option maxRecDepth 20000 in
theorem k_Intervals_25 : Cond.methodLink R_Intervals 25 y_Intervals_middleOfInterval ∈ AW := (aw (tw 212 rfl) rfl)
set_option maxRecDepth 20000 in
theorem k_Intervals_19 : Cond.methodLink R_Intervals 19 y_Intervals_middleOf1 ∈ AW := (aw (tw 215 rfl) rfl)
set_option maxRecDepth 20000 in
theorem k_Intervals_16 : Cond.methodLink R_Intervals 16 y_Intervals_middleOf0 ∈ AW := (aw (tw 209 rfl) rfl)
set_option maxRecDepth 20000 in
theorem k_Gate_65 : Cond.constant R_Gate 65 (40000 : Int32) ∈ AW := (aw (tw 205 rfl) rfl)
set_option maxRecDepth 20000 in
theorem k_Gate_62 : Cond.methodLink R_Gate 62 y_Gate_isByte ∈ AW := (aw (tw 202 rfl) rfl)
set_option maxRecDepth 20000 in
theorem k_Gate_66 : Cond.methodLink R_Gate 66 y_Intervals_middleOf ∈ AW := (aw (tw 206 rfl) rfl)
set_option maxRecDepth 20000 in
theorem k_Samples_9 : Cond.fieldLink R_Samples 9 (cn 5) (cT 5 0).2.1 (cT 5 0).2.2.1 ∈ AW := (aw (tw 27 rfl) rfl)
set_option maxRecDepth 20000 in
theorem k_Samples_15 : Cond.fieldLink R_Samples 15 (cn 5) (cT 5 1).2.1 (cT 5 1).2.2.1 ∈ AW := (aw (tw 28 rfl) rfl)
set_option maxRecDepth 20000 in
theorem k_Gate_14 : Cond.fieldLink R_Gate 14 (cn 0) (cT 0 0).2.1 (cT 0 0).2.2.1 ∈ AW := (aw (tw 157 rfl) rfl)
set_option maxRecDepth 20000 in
theorem k_Gate_69 : Cond.methodLink R_Gate 69 y_Samples_hasRoom ∈ AW := (aw (tw 222 rfl) rfl)
set_option maxRecDepth 20000 in
theorem k_Gate_72 : Cond.methodLink R_Gate 72 y_Samples_add ∈ AW := (aw (tw 226 rfl) rfl)
set_option maxRecDepth 20000 in
theorem k_Sender_9 : Cond.fieldLink R_Sender 9 (cn 6) (cT 6 0).2.1 (cT 6 0).2.2.1 ∈ AW := (aw (tw 81 rfl) rfl)
set_option maxRecDepth 20000 in
theorem k_Sender_15 : Cond.fieldLink R_Sender 15 (cn 6) (cT 6 1).2.1 (cT 6 1).2.2.1 ∈ AW := (aw (tw 82 rfl) rfl)
set_option maxRecDepth 20000 in
theorem k_Sender_18 : Cond.fieldLink R_Sender 18 (cn 6) (cT 6 2).2.1 (cT 6 2).2.2.1 ∈ AW := (aw (tw 83 rfl) rfl)
set_option maxRecDepth 20000 in
theorem k_Gate_75 : Cond.constant R_Gate 75 (65536 : Int32) ∈ AW := (aw (tw 234 rfl) rfl)
set_option maxRecDepth 20000 in
theorem k_Gate_31 : Cond.fieldLink R_Gate 31 (cn 0) (cT 0 3).2.1 (cT 0 3).2.2.1 ∈ AW := (aw (tw 160 rfl) rfl)
set_option maxRecDepth 20000 in
theorem k_Gate_76 : Cond.methodLink R_Gate 76 y_Sender_restart ∈ AW := (aw (tw 235 rfl) rfl)
set_option maxRecDepth 20000 in
theorem k_Packet_15 : Cond.fieldLink R_Packet 15 (cn 3) (cT 3 1).2.1 (cT 3 1).2.2.1 ∈ AW := (aw (tw 49 rfl) rfl)
set_option maxRecDepth 20000 in
theorem k_Wire_16 : Cond.fieldLink R_Wire 16 (cn 7) (cT 7 1).2.1 (cT 7 1).2.2.1 ∈ AW := (aw (tw 56 rfl) rfl)
set_option maxRecDepth 20000 in
theorem k_Wire_11 : Cond.fieldLink R_Wire 11 (cn 7) (cT 7 0).2.1 (cT 7 0).2.2.1 ∈ AW := (aw (tw 55 rfl) rfl)
set_option maxRecDepth 20000 in
theorem k_Wire_20 : Cond.methodLink R_Wire 20 y_Packet_clear ∈ AW := (aw (tw 254 rfl) rfl)
set_option maxRecDepth 20000 in
theorem k_Packet_11 : Cond.fieldLink R_Packet 11 (cn 3) (cT 3 0).2.1 (cT 3 0).2.2.1 ∈ AW := (aw (tw 48 rfl) rfl)
set_option maxRecDepth 20000 in
theorem k_Packet_29 : Cond.methodLink R_Packet 29 y_Packet_addByte ∈ AW := (aw (tw 266 rfl) rfl)
set_option maxRecDepth 20000 in
theorem k_Packet_36 : Cond.fieldLink R_Packet 36 R_Packet "TYPES" "[I" ∈ AW := (aw (tw 270 rfl) rfl)
set_option maxRecDepth 20000 in
theorem k_Packet_33 : Cond.methodLink R_Packet 33 y_Packet_addPair ∈ AW := (aw (tw 280 rfl) rfl)
set_option maxRecDepth 20000 in
theorem k_Adaptive_9 : Cond.fieldLink R_Adaptive 9 (cn 1) (cT 1 0).2.1 (cT 1 0).2.2.1 ∈ AW := (aw (tw 74 rfl) rfl)
set_option maxRecDepth 20000 in
theorem k_Adaptive_15 : Cond.fieldLink R_Adaptive 15 (cn 1) (cT 1 1).2.1 (cT 1 1).2.2.1 ∈ AW := (aw (tw 75 rfl) rfl)
set_option maxRecDepth 20000 in
theorem k_Samples_19 : Cond.constant R_Samples 19 (40000 : Int32) ∈ AW := (aw (tw 298 rfl) rfl)
set_option maxRecDepth 20000 in
theorem k_Adaptive_30 : Cond.fieldLink R_Adaptive 30 R_Adaptive "STEPS" "[I" ∈ AW := (aw (tw 307 rfl) rfl)
set_option maxRecDepth 20000 in
theorem k_Adaptive_18 : Cond.methodLink R_Adaptive 18 y_Adaptive_within ∈ AW := (aw (tw 313 rfl) rfl)
set_option maxRecDepth 20000 in
theorem k_Adaptive_22 : Cond.methodLink R_Adaptive 22 y_Adaptive_codeOf ∈ AW := (aw (tw 303 rfl) rfl)
set_option maxRecDepth 20000 in
theorem k_Adaptive_26 : Cond.methodLink R_Adaptive 26 y_Adaptive_changeBy ∈ AW := (aw (tw 309 rfl) rfl)
set_option maxRecDepth 20000 in
theorem k_Sender_24 : Cond.fieldLink R_Sender 24 (cn 6) (cT 6 3).2.1 (cT 6 3).2.2.1 ∈ AW := (aw (tw 84 rfl) rfl)
set_option maxRecDepth 20000 in
theorem k_Sender_28 : Cond.methodLink R_Sender 28 y_Adaptive_value ∈ AW := (aw (tw 285 rfl) rfl)
set_option maxRecDepth 20000 in
theorem k_Sender_41 : Cond.methodLink R_Sender 41 y_Packet_addPair ∈ AW := (aw (tw 272 rfl) rfl)
set_option maxRecDepth 20000 in
theorem k_Sender_32 : Cond.methodLink R_Sender 32 y_Adaptive_index ∈ AW := (aw (tw 289 rfl) rfl)
set_option maxRecDepth 20000 in
theorem k_Sender_71 : Cond.methodLink R_Sender 71 y_Packet_addByte ∈ AW := (aw (tw 293 rfl) rfl)
set_option maxRecDepth 20000 in
theorem k_Sender_60 : Cond.methodLink R_Sender 60 y_Samples_get ∈ AW := (aw (tw 294 rfl) rfl)
set_option maxRecDepth 20000 in
theorem k_Sender_74 : Cond.methodLink R_Sender 74 y_Adaptive_codeAndChange ∈ AW := (aw (tw 299 rfl) rfl)
set_option maxRecDepth 20000 in
theorem k_Sender_65 : Cond.methodLink R_Sender 65 y_Intervals_codeOf ∈ AW := (aw (tw 319 rfl) rfl)
set_option maxRecDepth 20000 in
theorem k_Sender_35 : Cond.methodLink R_Sender 35 y_Packet_addHead ∈ AW := (aw (tw 262 rfl) rfl)
set_option maxRecDepth 20000 in
theorem k_Sender_45 : Cond.methodLink R_Sender 45 y_Packet_addFour ∈ AW := (aw (tw 276 rfl) rfl)
set_option maxRecDepth 20000 in
theorem k_Sender_52 : Cond.methodLink R_Sender 52 y_Sender_packPlain ∈ AW := (aw (tw 316 rfl) rfl)
set_option maxRecDepth 20000 in
theorem k_Sender_48 : Cond.methodLink R_Sender 48 y_Sender_packAdaptive ∈ AW := (aw (tw 281 rfl) rfl)
set_option maxRecDepth 20000 in
theorem k_Samples_24 : Cond.methodLink R_Samples 24 arraycopyName ∈ AW := (aw (tw 327 rfl) rfl)
set_option maxRecDepth 20000 in
theorem k_Gate_80 : Cond.methodLink R_Gate 80 y_Sender_canPack ∈ AW := (aw (tw 243 rfl) rfl)
set_option maxRecDepth 20000 in
theorem k_Gate_84 : Cond.methodLink R_Gate 84 y_Samples_size ∈ AW := (aw (tw 246 rfl) rfl)
set_option maxRecDepth 20000 in
theorem k_Gate_24 : Cond.fieldLink R_Gate 24 (cn 0) (cT 0 2).2.1 (cT 0 2).2.2.1 ∈ AW := (aw (tw 159 rfl) rfl)
set_option maxRecDepth 20000 in
theorem k_Gate_88 : Cond.methodLink R_Gate 88 y_Wire_append ∈ AW := (aw (tw 250 rfl) rfl)
set_option maxRecDepth 20000 in
theorem k_Gate_92 : Cond.methodLink R_Gate 92 y_Sender_pack ∈ AW := (aw (tw 258 rfl) rfl)
set_option maxRecDepth 20000 in
theorem k_Gate_96 : Cond.methodLink R_Gate 96 y_Samples_dropFirst ∈ AW := (aw (tw 323 rfl) rfl)
set_option maxRecDepth 20000 in
theorem k_Gate_99 : Cond.methodLink R_Gate 99 y_Packet_length ∈ AW := (aw (tw 330 rfl) rfl)
set_option maxRecDepth 20000 in
theorem k_Gate_104 : Cond.methodLink R_Gate 104 y_Wire_size ∈ AW := (aw (tw 338 rfl) rfl)
set_option maxRecDepth 20000 in
theorem k_Packet_19 : Cond.methodLink R_Packet 19 y_Packet_has ∈ AW := (aw (tw 354 rfl) rfl)
set_option maxRecDepth 20000 in
theorem k_Gate_105 : Cond.methodLink R_Gate 105 y_Wire_at ∈ AW := (aw (tw 346 rfl) rfl)
set_option maxRecDepth 20000 in
theorem k_Gate_109 : Cond.methodLink R_Gate 109 y_Packet_get ∈ AW := (aw (tw 350 rfl) rfl)
set_option maxRecDepth 20000 in
theorem k_Gate_113 : Cond.methodLink R_Gate 113 y_Packet_put ∈ AW := (aw (tw 362 rfl) rfl)
set_option maxRecDepth 20000 in
theorem k_Wire_23 : Cond.methodLink R_Wire 23 y_Wire_at ∈ AW := (aw (tw 374 rfl) rfl)
set_option maxRecDepth 20000 in
theorem k_Packet_23 : Cond.methodLink R_Packet 23 arraycopyName ∈ AW := (aw (tw 388 rfl) rfl)
set_option maxRecDepth 20000 in
theorem k_Wire_27 : Cond.methodLink R_Wire 27 y_Wire_append ∈ AW := (aw (tw 383 rfl) rfl)
set_option maxRecDepth 20000 in
theorem k_Wire_31 : Cond.methodLink R_Wire 31 y_Packet_copyFrom ∈ AW := (aw (tw 384 rfl) rfl)
set_option maxRecDepth 20000 in
theorem k_Wire_35 : Cond.methodLink R_Wire 35 y_Packet_cutLast ∈ AW := (aw (tw 393 rfl) rfl)
set_option maxRecDepth 20000 in
theorem k_Gate_125 : Cond.methodLink R_Gate 125 y_Wire_shorten ∈ AW := (aw (tw 389 rfl) rfl)
set_option maxRecDepth 20000 in
theorem k_Gate_122 : Cond.methodLink R_Gate 122 y_Wire_repeat ∈ AW := (aw (tw 379 rfl) rfl)
set_option maxRecDepth 20000 in
theorem k_Gate_119 : Cond.methodLink R_Gate 119 y_Wire_exchange ∈ AW := (aw (tw 375 rfl) rfl)
set_option maxRecDepth 20000 in
theorem k_Gate_116 : Cond.methodLink R_Gate 116 y_Wire_lose ∈ AW := (aw (tw 370 rfl) rfl)
set_option maxRecDepth 20000 in
theorem k_Packet_47 : Cond.methodLink R_Packet 47 y_Packet_coding ∈ AW := (aw (tw 417 rfl) rfl)
set_option maxRecDepth 20000 in
theorem k_Packet_51 : Cond.methodLink R_Packet 51 y_Packet_samplesIn ∈ AW := (aw (tw 413 rfl) rfl)
set_option maxRecDepth 20000 in
theorem k_Packet_54 : Cond.methodLink R_Packet 54 y_Adaptive_isIndex ∈ AW := (aw (tw 421 rfl) rfl)
set_option maxRecDepth 20000 in
theorem k_Packet_39 : Cond.methodLink R_Packet 39 y_Packet_pairAt ∈ AW := (aw (tw 432 rfl) rfl)
set_option maxRecDepth 20000 in
theorem k_Packet_44 : Cond.methodLink R_Packet 44 y_Packet_fourAt ∈ AW := (aw (tw 428 rfl) rfl)
set_option maxRecDepth 20000 in
theorem k_Buffer_33 : Cond.fieldLink R_Buffer 33 (cn 2) (cT 2 5).2.1 (cT 2 5).2.2.1 ∈ AW := (aw (tw 107 rfl) rfl)
set_option maxRecDepth 20000 in
theorem k_Buffer_67 : Cond.constant R_Buffer 67 (65536 : Int32) ∈ AW := (aw (tw 444 rfl) rfl)
set_option maxRecDepth 20000 in
theorem k_Buffer_68 : Cond.methodLink R_Buffer 68 y_Math_floorMod ∈ AW := (aw (tw 445 rfl) rfl)
set_option maxRecDepth 20000 in
theorem k_Buffer_74 : Cond.constant R_Buffer 74 (32768 : Int32) ∈ AW := (aw (tw 448 rfl) rfl)
set_option maxRecDepth 20000 in
theorem k_Buffer_60 : Cond.methodLink R_Buffer 60 y_Packet_isSound ∈ AW := (aw (tw 409 rfl) rfl)
set_option maxRecDepth 20000 in
theorem k_Buffer_26 : Cond.fieldLink R_Buffer 26 (cn 2) (cT 2 3).2.1 (cT 2 3).2.2.1 ∈ AW := (aw (tw 105 rfl) rfl)
set_option maxRecDepth 20000 in
theorem k_Buffer_50 : Cond.methodLink R_Buffer 50 y_Packet_source ∈ AW := (aw (tw 424 rfl) rfl)
set_option maxRecDepth 20000 in
theorem k_Buffer_36 : Cond.fieldLink R_Buffer 36 (cn 2) (cT 2 6).2.1 (cT 2 6).2.2.1 ∈ AW := (aw (tw 108 rfl) rfl)
set_option maxRecDepth 20000 in
theorem k_Buffer_46 : Cond.methodLink R_Buffer 46 y_Packet_sequence ∈ AW := (aw (tw 436 rfl) rfl)
set_option maxRecDepth 20000 in
theorem k_Buffer_64 : Cond.methodLink R_Buffer 64 y_Buffer_distanceOf ∈ AW := (aw (tw 440 rfl) rfl)
set_option maxRecDepth 20000 in
theorem k_Buffer_18 : Cond.fieldLink R_Buffer 18 (cn 2) (cT 2 1).2.1 (cT 2 1).2.2.1 ∈ AW := (aw (tw 103 rfl) rfl)
set_option maxRecDepth 20000 in
theorem k_Buffer_52 : Cond.methodLink R_Buffer 52 y_Buffer_placeOf ∈ AW := (aw (tw 449 rfl) rfl)
set_option maxRecDepth 20000 in
theorem k_Buffer_42 : Cond.methodLink R_Buffer 42 y_Buffer_judge ∈ AW := (aw (tw 405 rfl) rfl)
set_option maxRecDepth 20000 in
theorem k_Buffer_22 : Cond.fieldLink R_Buffer 22 (cn 2) (cT 2 2).2.1 (cT 2 2).2.2.1 ∈ AW := (aw (tw 104 rfl) rfl)
set_option maxRecDepth 20000 in
theorem k_Buffer_13 : Cond.fieldLink R_Buffer 13 (cn 2) (cT 2 0).2.1 (cT 2 0).2.2.1 ∈ AW := (aw (tw 102 rfl) rfl)
set_option maxRecDepth 20000 in
theorem k_Buffer_56 : Cond.methodLink R_Buffer 56 y_Packet_copyFrom ∈ AW := (aw (tw 452 rfl) rfl)
set_option maxRecDepth 20000 in
theorem k_Buffer_30 : Cond.fieldLink R_Buffer 30 (cn 2) (cT 2 4).2.1 (cT 2 4).2.2.1 ∈ AW := (aw (tw 106 rfl) rfl)
set_option maxRecDepth 20000 in
theorem k_Gate_38 : Cond.fieldLink R_Gate 38 (cn 0) (cT 0 4).2.1 (cT 0 4).2.2.1 ∈ AW := (aw (tw 161 rfl) rfl)
set_option maxRecDepth 20000 in
theorem k_Gate_128 : Cond.methodLink R_Gate 128 y_Buffer_accept ∈ AW := (aw (tw 401 rfl) rfl)
set_option maxRecDepth 20000 in
theorem k_Buffer_39 : Cond.fieldLink R_Buffer 39 (cn 2) (cT 2 7).2.1 (cT 2 7).2.2.1 ∈ AW := (aw (tw 109 rfl) rfl)
set_option maxRecDepth 20000 in
theorem k_Gate_132 : Cond.methodLink R_Gate 132 y_Buffer_setPrefill ∈ AW := (aw (tw 457 rfl) rfl)
set_option maxRecDepth 20000 in
theorem k_Packet_43 : Cond.constant R_Packet 43 (65536 : Int32) ∈ AW := (aw (tw 511 rfl) rfl)
set_option maxRecDepth 20000 in
theorem k_Packet_63 : Cond.methodLink R_Packet 63 y_Packet_sampleAt ∈ AW := (aw (tw 507 rfl) rfl)
set_option maxRecDepth 20000 in
theorem k_Packet_77 : Cond.methodLink R_Packet 77 y_Adaptive_set ∈ AW := (aw (tw 512 rfl) rfl)
set_option maxRecDepth 20000 in
theorem k_Packet_81 : Cond.methodLink R_Packet 81 y_Adaptive_changeBy ∈ AW := (aw (tw 516 rfl) rfl)
set_option maxRecDepth 20000 in
theorem k_Packet_84 : Cond.methodLink R_Packet 84 y_Adaptive_value ∈ AW := (aw (tw 517 rfl) rfl)
set_option maxRecDepth 20000 in
theorem k_Packet_72 : Cond.methodLink R_Packet 72 y_Samples_add ∈ AW := (aw (tw 518 rfl) rfl)
set_option maxRecDepth 20000 in
theorem k_Packet_59 : Cond.methodLink R_Packet 59 y_Packet_readAdaptive ∈ AW := (aw (tw 503 rfl) rfl)
set_option maxRecDepth 20000 in
theorem k_Packet_66 : Cond.methodLink R_Packet 66 y_Intervals_middleOf ∈ AW := (aw (tw 519 rfl) rfl)
set_option maxRecDepth 20000 in
theorem k_Samples_20 : Cond.methodLink R_Samples 20 y_Samples_add ∈ AW := (aw (tw 524 rfl) rfl)
set_option maxRecDepth 20000 in
theorem k_Player_62 : Cond.methodLink R_Player 62 y_Packet_samplesIn ∈ AW := (aw (tw 481 rfl) rfl)
set_option maxRecDepth 20000 in
theorem k_Player_68 : Cond.methodLink R_Player 68 y_Samples_hasRoom ∈ AW := (aw (tw 482 rfl) rfl)
set_option maxRecDepth 20000 in
theorem k_Player_72 : Cond.methodLink R_Player 72 y_Buffer_state ∈ AW := (aw (tw 483 rfl) rfl)
set_option maxRecDepth 20000 in
theorem k_Player_75 : Cond.methodLink R_Player 75 y_Packet_hasMark ∈ AW := (aw (tw 487 rfl) rfl)
set_option maxRecDepth 20000 in
theorem k_Player_78 : Cond.methodLink R_Player 78 y_Packet_time ∈ AW := (aw (tw 491 rfl) rfl)
set_option maxRecDepth 20000 in
theorem k_Player_27 : Cond.fieldLink R_Player 27 (cn 4) (cT 4 2).2.1 (cT 4 2).2.2.1 ∈ AW := (aw (tw 140 rfl) rfl)
set_option maxRecDepth 20000 in
theorem k_Player_37 : Cond.fieldLink R_Player 37 (cn 4) (cT 4 5).2.1 (cT 4 5).2.2.1 ∈ AW := (aw (tw 143 rfl) rfl)
set_option maxRecDepth 20000 in
theorem k_Player_14 : Cond.fieldLink R_Player 14 (cn 4) (cT 4 0).2.1 (cT 4 0).2.2.1 ∈ AW := (aw (tw 138 rfl) rfl)
set_option maxRecDepth 20000 in
theorem k_Player_81 : Cond.methodLink R_Player 81 y_Samples_clear ∈ AW := (aw (tw 495 rfl) rfl)
set_option maxRecDepth 20000 in
theorem k_Player_23 : Cond.fieldLink R_Player 23 (cn 4) (cT 4 1).2.1 (cT 4 1).2.2.1 ∈ AW := (aw (tw 139 rfl) rfl)
set_option maxRecDepth 20000 in
theorem k_Player_84 : Cond.methodLink R_Player 84 y_Packet_readInto ∈ AW := (aw (tw 499 rfl) rfl)
set_option maxRecDepth 20000 in
theorem k_Player_88 : Cond.methodLink R_Player 88 y_Samples_addFirstOf ∈ AW := (aw (tw 520 rfl) rfl)
set_option maxRecDepth 20000 in
theorem k_Player_31 : Cond.fieldLink R_Player 31 (cn 4) (cT 4 3).2.1 (cT 4 3).2.2.1 ∈ AW := (aw (tw 141 rfl) rfl)
set_option maxRecDepth 20000 in
theorem k_Player_92 : Cond.methodLink R_Player 92 y_Buffer_goOn ∈ AW := (aw (tw 525 rfl) rfl)
set_option maxRecDepth 20000 in
theorem k_Player_95 : Cond.methodLink R_Player 95 y_Samples_size ∈ AW := (aw (tw 534 rfl) rfl)
set_option maxRecDepth 20000 in
theorem k_Player_34 : Cond.fieldLink R_Player 34 (cn 4) (cT 4 4).2.1 (cT 4 4).2.2.1 ∈ AW := (aw (tw 142 rfl) rfl)
set_option maxRecDepth 20000 in
theorem k_Player_98 : Cond.methodLink R_Player 98 y_Samples_get ∈ AW := (aw (tw 535 rfl) rfl)
set_option maxRecDepth 20000 in
theorem k_Player_102 : Cond.methodLink R_Player 102 y_Samples_add ∈ AW := (aw (tw 536 rfl) rfl)
set_option maxRecDepth 20000 in
theorem k_Player_105 : Cond.methodLink R_Player 105 y_Buffer_comeToRest ∈ AW := (aw (tw 541 rfl) rfl)
set_option maxRecDepth 20000 in
theorem k_Player_40 : Cond.methodLink R_Player 40 y_Buffer_isReady ∈ AW := (aw (tw 469 rfl) rfl)
set_option maxRecDepth 20000 in
theorem k_Player_46 : Cond.methodLink R_Player 46 y_Buffer_due ∈ AW := (aw (tw 473 rfl) rfl)
set_option maxRecDepth 20000 in
theorem k_Player_58 : Cond.methodLink R_Player 58 y_Player_giveUp ∈ AW := (aw (tw 537 rfl) rfl)
set_option maxRecDepth 20000 in
theorem k_Player_54 : Cond.methodLink R_Player 54 y_Player_conceal ∈ AW := (aw (tw 530 rfl) rfl)
set_option maxRecDepth 20000 in
theorem k_Player_50 : Cond.methodLink R_Player 50 y_Player_playPacket ∈ AW := (aw (tw 477 rfl) rfl)
set_option maxRecDepth 20000 in
theorem k_Gate_45 : Cond.fieldLink R_Gate 45 (cn 0) (cT 0 5).2.1 (cT 0 5).2.2.1 ∈ AW := (aw (tw 162 rfl) rfl)
set_option maxRecDepth 20000 in
theorem k_Gate_18 : Cond.fieldLink R_Gate 18 (cn 0) (cT 0 1).2.1 (cT 0 1).2.2.1 ∈ AW := (aw (tw 158 rfl) rfl)
set_option maxRecDepth 20000 in
theorem k_Gate_135 : Cond.methodLink R_Gate 135 y_Player_playNext ∈ AW := (aw (tw 465 rfl) rfl)
set_option maxRecDepth 20000 in
theorem k_Gate_139 : Cond.methodLink R_Gate 139 y_Samples_get ∈ AW := (aw (tw 553 rfl) rfl)
set_option maxRecDepth 20000 in
theorem k_Gate_140 : Cond.methodLink R_Gate 140 y_Samples_addFirstOf ∈ AW := (aw (tw 558 rfl) rfl)
set_option maxRecDepth 20000 in
theorem k_Gate_166 : Cond.methodLink R_Gate 166 y_Sender_nextSequence ∈ AW := (aw (tw 592 rfl) rfl)
set_option maxRecDepth 20000 in
theorem k_Gate_163 : Cond.methodLink R_Gate 163 y_Sender_index ∈ AW := (aw (tw 588 rfl) rfl)
set_option maxRecDepth 20000 in
theorem k_Gate_160 : Cond.methodLink R_Gate 160 y_Sender_value ∈ AW := (aw (tw 584 rfl) rfl)
set_option maxRecDepth 20000 in
theorem k_Gate_157 : Cond.methodLink R_Gate 157 y_Player_jumps ∈ AW := (aw (tw 580 rfl) rfl)
set_option maxRecDepth 20000 in
theorem k_Gate_154 : Cond.methodLink R_Gate 154 y_Player_lostPackets ∈ AW := (aw (tw 576 rfl) rfl)
set_option maxRecDepth 20000 in
theorem k_Gate_151 : Cond.methodLink R_Gate 151 y_Buffer_refusals ∈ AW := (aw (tw 572 rfl) rfl)
set_option maxRecDepth 20000 in
theorem k_Gate_148 : Cond.methodLink R_Gate 148 y_Buffer_nextSequence ∈ AW := (aw (tw 568 rfl) rfl)
set_option maxRecDepth 20000 in
theorem k_Gate_147 : Cond.methodLink R_Gate 147 y_Buffer_size ∈ AW := (aw (tw 564 rfl) rfl)
set_option maxRecDepth 20000 in
theorem k_Gate_144 : Cond.methodLink R_Gate 144 y_Buffer_state ∈ AW := (aw (tw 563 rfl) rfl)
set_option maxRecDepth 20000 in
theorem k_Model_35 : Cond.methodLink R_Model 35 y_Model_isSample ∈ AW := (aw (tw 682 rfl) rfl)
set_option maxRecDepth 20000 in
theorem k_Model_39 : Cond.methodLink R_Model 39 y_Model_begins ∈ AW := (aw (tw 685 rfl) rfl)
set_option maxRecDepth 20000 in
theorem k_Model_43 : Cond.constant R_Model 43 (40000 : Int32) ∈ AW := (aw (tw 692 rfl) rfl)
set_option maxRecDepth 20000 in
theorem k_Model_44 : Cond.methodLink R_Model 44 y_Model_half ∈ AW := (aw (tw 693 rfl) rfl)
set_option maxRecDepth 20000 in
theorem k_Model_53 : Cond.fieldLink R_Model 53 (cn 8) (cT 8 1).2.1 (cT 8 1).2.2.1 ∈ AW := (aw (tw 603 rfl) rfl)
set_option maxRecDepth 20000 in
theorem k_Model_13 : Cond.fieldLink R_Model 13 (cn 8) (cT 8 2).2.1 (cT 8 2).2.2.1 ∈ AW := (aw (tw 604 rfl) rfl)
set_option maxRecDepth 20000 in
theorem k_Model_56 : Cond.constant R_Model 56 (65535 : Int32) ∈ AW := (aw (tw 704 rfl) rfl)
set_option maxRecDepth 20000 in
theorem k_Model_57 : Cond.fieldLink R_Model 57 (cn 8) (cT 8 5).2.1 (cT 8 5).2.2.1 ∈ AW := (aw (tw 607 rfl) rfl)
set_option maxRecDepth 20000 in
theorem k_Model_60 : Cond.fieldLink R_Model 60 (cn 8) (cT 8 6).2.1 (cT 8 6).2.2.1 ∈ AW := (aw (tw 608 rfl) rfl)
set_option maxRecDepth 20000 in
theorem k_Model_63 : Cond.fieldLink R_Model 63 (cn 8) (cT 8 7).2.1 (cT 8 7).2.2.1 ∈ AW := (aw (tw 609 rfl) rfl)
set_option maxRecDepth 20000 in
theorem k_Model_22 : Cond.fieldLink R_Model 22 (cn 8) (cT 8 12).2.1 (cT 8 12).2.2.1 ∈ AW := (aw (tw 614 rfl) rfl)
set_option maxRecDepth 20000 in
theorem k_Model_19 : Cond.fieldLink R_Model 19 (cn 8) (cT 8 11).2.1 (cT 8 11).2.2.1 ∈ AW := (aw (tw 613 rfl) rfl)
set_option maxRecDepth 20000 in
theorem k_Model_66 : Cond.methodLink R_Model 66 y_Model_write ∈ AW := (aw (tw 709 rfl) rfl)
set_option maxRecDepth 20000 in
theorem k_Model_7 : Cond.fieldLink R_Model 7 (cn 8) (cT 8 0).2.1 (cT 8 0).2.2.1 ∈ AW := (aw (tw 602 rfl) rfl)
set_option maxRecDepth 20000 in
theorem k_Model_47 : Cond.fieldLink R_Model 47 (cn 8) (cT 8 24).2.1 (cT 8 24).2.2.1 ∈ AW := (aw (tw 626 rfl) rfl)
set_option maxRecDepth 20000 in
theorem k_Model_50 : Cond.fieldLink R_Model 50 (cn 8) (cT 8 23).2.1 (cT 8 23).2.2.1 ∈ AW := (aw (tw 625 rfl) rfl)
set_option maxRecDepth 20000 in
theorem k_Model_70 : Cond.fieldLink R_Model 70 (cn 8) (cT 8 8).2.1 (cT 8 8).2.2.1 ∈ AW := (aw (tw 610 rfl) rfl)
set_option maxRecDepth 20000 in
theorem k_Model_73 : Cond.fieldLink R_Model 73 (cn 8) (cT 8 9).2.1 (cT 8 9).2.2.1 ∈ AW := (aw (tw 611 rfl) rfl)
set_option maxRecDepth 20000 in
theorem k_Model_79 : Cond.methodLink R_Model 79 y_Model_codeOf ∈ AW := (aw (tw 722 rfl) rfl)
set_option maxRecDepth 20000 in
theorem k_Model_83 : Cond.methodLink R_Model 83 y_Model_change ∈ AW := (aw (tw 726 rfl) rfl)
set_option maxRecDepth 20000 in
theorem k_Model_76 : Cond.methodLink R_Model 76 y_Model_compress ∈ AW := (aw (tw 721 rfl) rfl)
set_option maxRecDepth 20000 in
theorem k_Model_87 : Cond.fieldLink R_Model 87 (cn 8) (cT 8 10).2.1 (cT 8 10).2.2.1 ∈ AW := (aw (tw 612 rfl) rfl)
set_option maxRecDepth 20000 in
theorem k_Model_90 : Cond.methodLink R_Model 90 y_Model_writeWord ∈ AW := (aw (tw 713 rfl) rfl)
set_option maxRecDepth 20000 in
theorem k_Model_93 : Cond.methodLink R_Model 93 y_Model_samples ∈ AW := (aw (tw 717 rfl) rfl)
set_option maxRecDepth 20000 in
theorem k_Model_97 : Cond.methodLink R_Model 97 y_Model_there ∈ AW := (aw (tw 738 rfl) rfl)
set_option maxRecDepth 20000 in
theorem k_Model_101 : Cond.methodLink R_Model 101 y_Model_copy ∈ AW := (aw (tw 754 rfl) rfl)
set_option maxRecDepth 20000 in
theorem k_Model_107 : Cond.methodLink R_Model 107 y_Model_exchange ∈ AW := (aw (tw 758 rfl) rfl)
set_option maxRecDepth 20000 in
theorem k_Model_104 : Cond.methodLink R_Model 104 y_Model_remove ∈ AW := (aw (tw 750 rfl) rfl)
set_option maxRecDepth 20000 in
theorem k_Model_113 : Cond.methodLink R_Model 113 y_Model_codingOf ∈ AW := (aw (tw 774 rfl) rfl)
set_option maxRecDepth 20000 in
theorem k_Model_110 : Cond.methodLink R_Model 110 y_Model_pair ∈ AW := (aw (tw 778 rfl) rfl)
set_option maxRecDepth 20000 in
theorem k_Model_116 : Cond.fieldLink R_Model 116 (cn 8) (cT 8 14).2.1 (cT 8 14).2.2.1 ∈ AW := (aw (tw 616 rfl) rfl)
set_option maxRecDepth 20000 in
theorem k_Model_119 : Cond.constant R_Model 119 (131072 : Int32) ∈ AW := (aw (tw 790 rfl) rfl)
set_option maxRecDepth 20000 in
theorem k_Model_120 : Cond.constant R_Model 120 (65536 : Int32) ∈ AW := (aw (tw 791 rfl) rfl)
set_option maxRecDepth 20000 in
theorem k_Model_121 : Cond.methodLink R_Model 121 y_Model_samplesOf ∈ AW := (aw (tw 770 rfl) rfl)
set_option maxRecDepth 20000 in
theorem k_Model_124 : Cond.fieldLink R_Model 124 (cn 8) (cT 8 13).2.1 (cT 8 13).2.2.1 ∈ AW := (aw (tw 615 rfl) rfl)
set_option maxRecDepth 20000 in
theorem k_Model_127 : Cond.methodLink R_Model 127 y_Model_word ∈ AW := (aw (tw 782 rfl) rfl)
set_option maxRecDepth 20000 in
theorem k_Model_130 : Cond.methodLink R_Model 130 y_Model_distance ∈ AW := (aw (tw 786 rfl) rfl)
set_option maxRecDepth 20000 in
theorem k_Model_133 : Cond.methodLink R_Model 133 y_Model_held ∈ AW := (aw (tw 792 rfl) rfl)
set_option maxRecDepth 20000 in
theorem k_Model_136 : Cond.fieldLink R_Model 136 (cn 8) (cT 8 15).2.1 (cT 8 15).2.2.1 ∈ AW := (aw (tw 617 rfl) rfl)
set_option maxRecDepth 20000 in
theorem k_Model_139 : Cond.methodLink R_Model 139 y_Model_refusal ∈ AW := (aw (tw 766 rfl) rfl)
set_option maxRecDepth 20000 in
theorem k_Model_143 : Cond.fieldLink R_Model 143 (cn 8) (cT 8 17).2.1 (cT 8 17).2.2.1 ∈ AW := (aw (tw 619 rfl) rfl)
set_option maxRecDepth 20000 in
theorem k_Model_147 : Cond.fieldLink R_Model 147 (cn 8) (cT 8 19).2.1 (cT 8 19).2.2.1 ∈ AW := (aw (tw 621 rfl) rfl)
set_option maxRecDepth 20000 in
theorem k_Model_32 : Cond.fieldLink R_Model 32 (cn 8) (cT 8 22).2.1 (cT 8 22).2.2.1 ∈ AW := (aw (tw 624 rfl) rfl)
set_option maxRecDepth 20000 in
theorem k_Model_25 : Cond.fieldLink R_Model 25 (cn 8) (cT 8 16).2.1 (cT 8 16).2.2.1 ∈ AW := (aw (tw 618 rfl) rfl)
set_option maxRecDepth 20000 in
theorem k_Model_150 : Cond.methodLink R_Model 150 y_Model_expand ∈ AW := (aw (tw 816 rfl) rfl)
set_option maxRecDepth 20000 in
theorem k_Model_160 : Cond.fieldLink R_Model 160 (cn 8) (cT 8 20).2.1 (cT 8 20).2.2.1 ∈ AW := (aw (tw 622 rfl) rfl)
set_option maxRecDepth 20000 in
theorem k_Model_29 : Cond.fieldLink R_Model 29 (cn 8) (cT 8 21).2.1 (cT 8 21).2.2.1 ∈ AW := (aw (tw 623 rfl) rfl)
set_option maxRecDepth 20000 in
theorem k_Model_153 : Cond.methodLink R_Model 153 y_Model_sampleOf ∈ AW := (aw (tw 812 rfl) rfl)
set_option maxRecDepth 20000 in
theorem k_Model_16 : Cond.fieldLink R_Model 16 (cn 8) (cT 8 4).2.1 (cT 8 4).2.2.1 ∈ AW := (aw (tw 606 rfl) rfl)
set_option maxRecDepth 20000 in
theorem k_Model_157 : Cond.fieldLink R_Model 157 (cn 8) (cT 8 3).2.1 (cT 8 3).2.2.1 ∈ AW := (aw (tw 605 rfl) rfl)
set_option maxRecDepth 20000 in
theorem k_Model_163 : Cond.fieldLink R_Model 163 (cn 8) (cT 8 18).2.1 (cT 8 18).2.2.1 ∈ AW := (aw (tw 620 rfl) rfl)
set_option maxRecDepth 20000 in
theorem k_Model_166 : Cond.methodLink R_Model 166 y_Model_rest ∈ AW := (aw (tw 821 rfl) rfl)
set_option maxRecDepth 20000 in
theorem k_Model_169 : Cond.methodLink R_Model 169 y_Model_buffered ∈ AW := (aw (tw 804 rfl) rfl)
set_option maxRecDepth 20000 in
theorem k_Model_175 : Cond.methodLink R_Model 175 y_Model_conceal ∈ AW := (aw (tw 817 rfl) rfl)
set_option maxRecDepth 20000 in
theorem k_Model_172 : Cond.methodLink R_Model 172 y_Model_playPacket ∈ AW := (aw (tw 808 rfl) rfl)
set_option maxRecDepth 20000 in
theorem k_Adaptive_3 : Cond.methodLink R_Adaptive 3 objectInit ∈ AW := (aw (tw 73 rfl) rfl)
set_option maxRecDepth 20000 in
theorem k_Samples_3 : Cond.methodLink R_Samples 3 objectInit ∈ AW := (aw (tw 26 rfl) rfl)
set_option maxRecDepth 20000 in
theorem k_Packet_3 : Cond.methodLink R_Packet 3 objectInit ∈ AW := (aw (tw 47 rfl) rfl)
set_option maxRecDepth 20000 in
theorem k_Wire_1 : Cond.methodLink R_Wire 1 objectInit ∈ AW := (aw (tw 40 rfl) rfl)
set_option maxRecDepth 20000 in
theorem k_Wire_9 : Cond.classLink R_Wire 9 (cn 3) ∈ AW := (aw (tw 41 rfl) rfl)
set_option maxRecDepth 20000 in
theorem k_Wire_15 : Cond.methodLink R_Wire 15 y_Packet_init ∈ AW := (aw (tw 44 rfl) rfl)
set_option maxRecDepth 20000 in
theorem k_Sender_3 : Cond.methodLink R_Sender 3 objectInit ∈ AW := (aw (tw 67 rfl) rfl)
set_option maxRecDepth 20000 in
theorem k_Sender_21 : Cond.classLink R_Sender 21 (cn 1) ∈ AW := (aw (tw 68 rfl) rfl)
set_option maxRecDepth 20000 in
theorem k_Sender_23 : Cond.methodLink R_Sender 23 y_Adaptive_init ∈ AW := (aw (tw 70 rfl) rfl)
set_option maxRecDepth 20000 in
theorem k_Buffer_3 : Cond.methodLink R_Buffer 3 objectInit ∈ AW := (aw (tw 99 rfl) rfl)
set_option maxRecDepth 20000 in
theorem k_Buffer_11 : Cond.classLink R_Buffer 11 (cn 3) ∈ AW := (aw (tw 100 rfl) rfl)
set_option maxRecDepth 20000 in
theorem k_Buffer_17 : Cond.methodLink R_Buffer 17 y_Packet_init ∈ AW := (aw (tw 101 rfl) rfl)
set_option maxRecDepth 20000 in
theorem k_Player_3 : Cond.methodLink R_Player 3 objectInit ∈ AW := (aw (tw 133 rfl) rfl)
set_option maxRecDepth 20000 in
theorem k_Player_9 : Cond.classLink R_Player 9 (cn 5) ∈ AW := (aw (tw 134 rfl) rfl)
set_option maxRecDepth 20000 in
theorem k_Player_11 : Cond.methodLink R_Player 11 y_Samples_init ∈ AW := (aw (tw 135 rfl) rfl)
set_option maxRecDepth 20000 in
theorem k_Player_20 : Cond.classLink R_Player 20 (cn 1) ∈ AW := (aw (tw 136 rfl) rfl)
set_option maxRecDepth 20000 in
theorem k_Player_22 : Cond.methodLink R_Player 22 y_Adaptive_init ∈ AW := (aw (tw 137 rfl) rfl)
set_option maxRecDepth 20000 in
theorem k_Gate_1 : Cond.methodLink R_Gate 1 objectInit ∈ AW := (aw (tw 18 rfl) rfl)
set_option maxRecDepth 20000 in
theorem k_Gate_7 : Cond.classLink R_Gate 7 (cn 5) ∈ AW := (aw (tw 21 rfl) rfl)
set_option maxRecDepth 20000 in
theorem k_Gate_11 : Cond.methodLink R_Gate 11 y_Samples_init ∈ AW := (aw (tw 23 rfl) rfl)
set_option maxRecDepth 20000 in
theorem k_Gate_21 : Cond.classLink R_Gate 21 (cn 7) ∈ AW := (aw (tw 35 rfl) rfl)
set_option maxRecDepth 20000 in
theorem k_Gate_23 : Cond.methodLink R_Gate 23 y_Wire_init ∈ AW := (aw (tw 37 rfl) rfl)
set_option maxRecDepth 20000 in
theorem k_Gate_28 : Cond.classLink R_Gate 28 (cn 6) ∈ AW := (aw (tw 62 rfl) rfl)
set_option maxRecDepth 20000 in
theorem k_Gate_30 : Cond.methodLink R_Gate 30 y_Sender_init ∈ AW := (aw (tw 64 rfl) rfl)
set_option maxRecDepth 20000 in
theorem k_Gate_35 : Cond.classLink R_Gate 35 (cn 2) ∈ AW := (aw (tw 94 rfl) rfl)
set_option maxRecDepth 20000 in
theorem k_Gate_37 : Cond.methodLink R_Gate 37 y_Buffer_init ∈ AW := (aw (tw 96 rfl) rfl)
set_option maxRecDepth 20000 in
theorem k_Gate_42 : Cond.classLink R_Gate 42 (cn 4) ∈ AW := (aw (tw 128 rfl) rfl)
set_option maxRecDepth 20000 in
theorem k_Gate_44 : Cond.methodLink R_Gate 44 y_Player_init ∈ AW := (aw (tw 130 rfl) rfl)
set_option maxRecDepth 20000 in
theorem k_Model_1 : Cond.methodLink R_Model 1 objectInit ∈ AW := (aw (tw 601 rfl) rfl)
set_option maxRecDepth 20000 in
theorem mf_Intervals_segmentOf : MS y_Intervals_segmentOf b_Intervals_segmentOf 2 (some .int) 1 := ⟨(aw (tw 194 rfl) rfl), (aw (tw 193 rfl) rfl), (aw (tw 10 rfl) rfl), by decide +kernel⟩
set_option maxRecDepth 20000 in
theorem mf_Intervals_codeOf1 : MS y_Intervals_codeOf1 b_Intervals_codeOf1 6 (some .int) 1 := ⟨(aw (tw 197 rfl) rfl), (aw (tw 196 rfl) rfl), (aw (tw 10 rfl) rfl), by decide +kernel⟩
set_option maxRecDepth 20000 in
theorem mf_Intervals_codeOf0 : MS y_Intervals_codeOf0 b_Intervals_codeOf0 5 (some .int) 1 := ⟨(aw (tw 191 rfl) rfl), (aw (tw 190 rfl) rfl), (aw (tw 10 rfl) rfl), by decide +kernel⟩
set_option maxRecDepth 20000 in
theorem mf_Intervals_has : MS y_Intervals_has b_Intervals_has 1 (some .boolean) 1 := ⟨(aw (tw 182 rfl) rfl), (aw (tw 181 rfl) rfl), (aw (tw 10 rfl) rfl), by decide +kernel⟩
set_option maxRecDepth 20000 in
theorem mf_Gate_isSample : MS y_Gate_isSample b_Gate_isSample 1 (some .boolean) 1 := ⟨(aw (tw 185 rfl) rfl), (aw (tw 184 rfl) rfl), (aw (tw 1 rfl) rfl), by decide +kernel⟩
set_option maxRecDepth 20000 in
theorem mf_Intervals_codeOf : MS y_Intervals_codeOf b_Intervals_codeOf 2 (some .int) 2 := ⟨(aw (tw 188 rfl) rfl), (aw (tw 187 rfl) rfl), (aw (tw 10 rfl) rfl), by decide +kernel⟩
set_option maxRecDepth 20000 in
theorem mf_Intervals_middleOfInterval : MS y_Intervals_middleOfInterval b_Intervals_middleOfInterval 2 (some .int) 2 := ⟨(aw (tw 214 rfl) rfl), (aw (tw 213 rfl) rfl), (aw (tw 10 rfl) rfl), by decide +kernel⟩
set_option maxRecDepth 20000 in
theorem mf_Intervals_middleOf1 : MS y_Intervals_middleOf1 b_Intervals_middleOf1 5 (some .int) 1 := ⟨(aw (tw 217 rfl) rfl), (aw (tw 216 rfl) rfl), (aw (tw 10 rfl) rfl), by decide +kernel⟩
set_option maxRecDepth 20000 in
theorem mf_Intervals_middleOf0 : MS y_Intervals_middleOf0 b_Intervals_middleOf0 5 (some .int) 1 := ⟨(aw (tw 211 rfl) rfl), (aw (tw 210 rfl) rfl), (aw (tw 10 rfl) rfl), by decide +kernel⟩
set_option maxRecDepth 20000 in
theorem mf_Gate_isByte : MS y_Gate_isByte b_Gate_isByte 1 (some .boolean) 1 := ⟨(aw (tw 204 rfl) rfl), (aw (tw 203 rfl) rfl), (aw (tw 1 rfl) rfl), by decide +kernel⟩
set_option maxRecDepth 20000 in
theorem mf_Intervals_middleOf : MS y_Intervals_middleOf b_Intervals_middleOf 2 (some .int) 2 := ⟨(aw (tw 208 rfl) rfl), (aw (tw 207 rfl) rfl), (aw (tw 10 rfl) rfl), by decide +kernel⟩
set_option maxRecDepth 20000 in
theorem mf_Samples_hasRoom : MV y_Samples_hasRoom b_Samples_hasRoom 2 (some .boolean) 1 := ⟨(aw (tw 225 rfl) rfl), (aw (tw 223 rfl) rfl), (aw (tw 224 rfl) rfl), (aw (tw 2 rfl) rfl), by decide +kernel⟩
set_option maxRecDepth 20000 in
theorem mf_Samples_add : MV y_Samples_add b_Samples_add 2 none 1 := ⟨(aw (tw 229 rfl) rfl), (aw (tw 227 rfl) rfl), (aw (tw 228 rfl) rfl), (aw (tw 2 rfl) rfl), by decide +kernel⟩
set_option maxRecDepth 20000 in
theorem mf_Sender_restart : MV y_Sender_restart b_Sender_restart 4 none 3 := ⟨(aw (tw 238 rfl) rfl), (aw (tw 236 rfl) rfl), (aw (tw 237 rfl) rfl), (aw (tw 5 rfl) rfl), by decide +kernel⟩
set_option maxRecDepth 20000 in
theorem mf_Packet_clear : MV y_Packet_clear b_Packet_clear 1 none 0 := ⟨(aw (tw 257 rfl) rfl), (aw (tw 255 rfl) rfl), (aw (tw 256 rfl) rfl), (aw (tw 4 rfl) rfl), by decide +kernel⟩
set_option maxRecDepth 20000 in
theorem mf_Packet_addByte : MV y_Packet_addByte b_Packet_addByte 2 none 1 := ⟨(aw (tw 269 rfl) rfl), (aw (tw 267 rfl) rfl), (aw (tw 268 rfl) rfl), (aw (tw 4 rfl) rfl), by decide +kernel⟩
set_option maxRecDepth 20000 in
theorem mf_Packet_addPair : MV y_Packet_addPair b_Packet_addPair 2 none 1 := ⟨(aw (tw 275 rfl) rfl), (aw (tw 273 rfl) rfl), (aw (tw 274 rfl) rfl), (aw (tw 4 rfl) rfl), by decide +kernel⟩
set_option maxRecDepth 20000 in
theorem mf_Adaptive_within : MS y_Adaptive_within b_Adaptive_within 3 (some .int) 3 := ⟨(aw (tw 315 rfl) rfl), (aw (tw 314 rfl) rfl), (aw (tw 6 rfl) rfl), by decide +kernel⟩
set_option maxRecDepth 20000 in
theorem mf_Adaptive_codeOf : MV y_Adaptive_codeOf b_Adaptive_codeOf 6 (some .int) 1 := ⟨(aw (tw 306 rfl) rfl), (aw (tw 305 rfl) rfl), (aw (sw 1 rfl) rfl), (aw (tw 6 rfl) rfl), by decide +kernel⟩
set_option maxRecDepth 20000 in
theorem mf_Adaptive_changeBy : MV y_Adaptive_changeBy b_Adaptive_changeBy 5 none 1 := ⟨(aw (tw 312 rfl) rfl), (aw (tw 310 rfl) rfl), (aw (tw 311 rfl) rfl), (aw (tw 6 rfl) rfl), by decide +kernel⟩
set_option maxRecDepth 20000 in
theorem mf_Adaptive_value : MV y_Adaptive_value b_Adaptive_value 1 (some .int) 0 := ⟨(aw (tw 288 rfl) rfl), (aw (tw 286 rfl) rfl), (aw (tw 287 rfl) rfl), (aw (tw 6 rfl) rfl), by decide +kernel⟩
set_option maxRecDepth 20000 in
theorem mf_Adaptive_index : MV y_Adaptive_index b_Adaptive_index 1 (some .int) 0 := ⟨(aw (tw 292 rfl) rfl), (aw (tw 290 rfl) rfl), (aw (tw 291 rfl) rfl), (aw (tw 6 rfl) rfl), by decide +kernel⟩
set_option maxRecDepth 20000 in
theorem mf_Samples_get : MV y_Samples_get b_Samples_get 2 (some .int) 1 := ⟨(aw (tw 297 rfl) rfl), (aw (tw 295 rfl) rfl), (aw (tw 296 rfl) rfl), (aw (tw 2 rfl) rfl), by decide +kernel⟩
set_option maxRecDepth 20000 in
theorem mf_Adaptive_codeAndChange : MV y_Adaptive_codeAndChange b_Adaptive_codeAndChange 3 (some .int) 1 := ⟨(aw (tw 302 rfl) rfl), (aw (tw 300 rfl) rfl), (aw (tw 301 rfl) rfl), (aw (tw 6 rfl) rfl), by decide +kernel⟩
set_option maxRecDepth 20000 in
theorem mf_Packet_addHead : MV y_Packet_addHead b_Packet_addHead 3 none 2 := ⟨(aw (tw 265 rfl) rfl), (aw (tw 263 rfl) rfl), (aw (tw 264 rfl) rfl), (aw (tw 4 rfl) rfl), by decide +kernel⟩
set_option maxRecDepth 20000 in
theorem mf_Packet_addFour : MV y_Packet_addFour b_Packet_addFour 2 none 1 := ⟨(aw (tw 279 rfl) rfl), (aw (tw 277 rfl) rfl), (aw (tw 278 rfl) rfl), (aw (tw 4 rfl) rfl), by decide +kernel⟩
set_option maxRecDepth 20000 in
theorem mf_Sender_packPlain : MS y_Sender_packPlain b_Sender_packPlain 6 none 4 := ⟨(aw (tw 318 rfl) rfl), (aw (tw 317 rfl) rfl), (aw (tw 5 rfl) rfl), by decide +kernel⟩
set_option maxRecDepth 20000 in
theorem mf_Sender_packAdaptive : MV y_Sender_packAdaptive b_Sender_packAdaptive 7 none 3 := ⟨(aw (tw 284 rfl) rfl), (aw (tw 283 rfl) rfl), (aw (sw 0 rfl) rfl), (aw (tw 5 rfl) rfl), by decide +kernel⟩
set_option maxRecDepth 20000 in
theorem mf_Gate_sequenceAfter : MS y_Gate_sequenceAfter b_Gate_sequenceAfter 1 (some .int) 1 := ⟨(aw (tw 322 rfl) rfl), (aw (tw 321 rfl) rfl), (aw (tw 1 rfl) rfl), by decide +kernel⟩
set_option maxRecDepth 20000 in
theorem mf_Sender_canPack : MS y_Sender_canPack b_Sender_canPack 2 (some .boolean) 2 := ⟨(aw (tw 245 rfl) rfl), (aw (tw 244 rfl) rfl), (aw (tw 5 rfl) rfl), by decide +kernel⟩
set_option maxRecDepth 20000 in
theorem mf_Samples_size : MV y_Samples_size b_Samples_size 1 (some .int) 0 := ⟨(aw (tw 249 rfl) rfl), (aw (tw 247 rfl) rfl), (aw (tw 248 rfl) rfl), (aw (tw 2 rfl) rfl), by decide +kernel⟩
set_option maxRecDepth 20000 in
theorem mf_Wire_append : MV y_Wire_append b_Wire_append 2 (some (.object R_Packet)) 0 := ⟨(aw (tw 253 rfl) rfl), (aw (tw 251 rfl) rfl), (aw (tw 252 rfl) rfl), (aw (tw 3 rfl) rfl), by decide +kernel⟩
set_option maxRecDepth 20000 in
theorem mf_Sender_pack : MV y_Sender_pack b_Sender_pack 6 none 5 := ⟨(aw (tw 261 rfl) rfl), (aw (tw 259 rfl) rfl), (aw (tw 260 rfl) rfl), (aw (tw 5 rfl) rfl), by decide +kernel⟩
set_option maxRecDepth 20000 in
theorem mf_Samples_dropFirst : MV y_Samples_dropFirst b_Samples_dropFirst 2 none 1 := ⟨(aw (tw 326 rfl) rfl), (aw (tw 324 rfl) rfl), (aw (tw 325 rfl) rfl), (aw (tw 2 rfl) rfl), by decide +kernel⟩
set_option maxRecDepth 20000 in
theorem mf_Packet_length : MV y_Packet_length b_Packet_length 1 (some .int) 0 := ⟨(aw (tw 333 rfl) rfl), (aw (tw 331 rfl) rfl), (aw (tw 332 rfl) rfl), (aw (tw 4 rfl) rfl), by decide +kernel⟩
set_option maxRecDepth 20000 in
theorem mf_Wire_size : MV y_Wire_size b_Wire_size 1 (some .int) 0 := ⟨(aw (tw 341 rfl) rfl), (aw (tw 339 rfl) rfl), (aw (tw 340 rfl) rfl), (aw (tw 3 rfl) rfl), by decide +kernel⟩
set_option maxRecDepth 20000 in
theorem mf_Packet_has : MV y_Packet_has b_Packet_has 2 (some .boolean) 1 := ⟨(aw (tw 357 rfl) rfl), (aw (tw 356 rfl) rfl), (aw (sw 2 rfl) rfl), (aw (tw 4 rfl) rfl), by decide +kernel⟩
set_option maxRecDepth 20000 in
theorem mf_Wire_at : MV y_Wire_at b_Wire_at 2 (some (.object R_Packet)) 1 := ⟨(aw (tw 349 rfl) rfl), (aw (tw 347 rfl) rfl), (aw (tw 348 rfl) rfl), (aw (tw 3 rfl) rfl), by decide +kernel⟩
set_option maxRecDepth 20000 in
theorem mf_Packet_get : MV y_Packet_get b_Packet_get 2 (some .int) 1 := ⟨(aw (tw 353 rfl) rfl), (aw (tw 351 rfl) rfl), (aw (tw 352 rfl) rfl), (aw (tw 4 rfl) rfl), by decide +kernel⟩
set_option maxRecDepth 20000 in
theorem mf_Packet_put : MV y_Packet_put b_Packet_put 3 (some .boolean) 2 := ⟨(aw (tw 365 rfl) rfl), (aw (tw 363 rfl) rfl), (aw (tw 364 rfl) rfl), (aw (tw 4 rfl) rfl), by decide +kernel⟩
set_option maxRecDepth 20000 in
theorem mf_Packet_copyFrom : MV y_Packet_copyFrom b_Packet_copyFrom 2 none 1 := ⟨(aw (tw 387 rfl) rfl), (aw (tw 385 rfl) rfl), (aw (tw 386 rfl) rfl), (aw (tw 4 rfl) rfl), by decide +kernel⟩
set_option maxRecDepth 20000 in
theorem mf_Packet_cutLast : MV y_Packet_cutLast b_Packet_cutLast 1 (some .boolean) 0 := ⟨(aw (tw 396 rfl) rfl), (aw (tw 394 rfl) rfl), (aw (tw 395 rfl) rfl), (aw (tw 4 rfl) rfl), by decide +kernel⟩
set_option maxRecDepth 20000 in
theorem mf_Wire_shorten : MV y_Wire_shorten b_Wire_shorten 3 (some .boolean) 1 := ⟨(aw (tw 392 rfl) rfl), (aw (tw 390 rfl) rfl), (aw (tw 391 rfl) rfl), (aw (tw 3 rfl) rfl), by decide +kernel⟩
set_option maxRecDepth 20000 in
theorem mf_Wire_repeat : MV y_Wire_repeat b_Wire_repeat 4 (some .boolean) 1 := ⟨(aw (tw 382 rfl) rfl), (aw (tw 380 rfl) rfl), (aw (tw 381 rfl) rfl), (aw (tw 3 rfl) rfl), by decide +kernel⟩
set_option maxRecDepth 20000 in
theorem mf_Wire_exchange : MV y_Wire_exchange b_Wire_exchange 3 (some .boolean) 1 := ⟨(aw (tw 378 rfl) rfl), (aw (tw 376 rfl) rfl), (aw (tw 377 rfl) rfl), (aw (tw 3 rfl) rfl), by decide +kernel⟩
set_option maxRecDepth 20000 in
theorem mf_Wire_lose : MV y_Wire_lose b_Wire_lose 4 (some .boolean) 1 := ⟨(aw (tw 373 rfl) rfl), (aw (tw 371 rfl) rfl), (aw (tw 372 rfl) rfl), (aw (tw 3 rfl) rfl), by decide +kernel⟩
set_option maxRecDepth 20000 in
theorem mf_Packet_coding : MV y_Packet_coding b_Packet_coding 3 (some .int) 0 := ⟨(aw (tw 420 rfl) rfl), (aw (tw 419 rfl) rfl), (aw (sw 4 rfl) rfl), (aw (tw 4 rfl) rfl), by decide +kernel⟩
set_option maxRecDepth 20000 in
theorem mf_Packet_samplesIn : MV y_Packet_samplesIn b_Packet_samplesIn 2 (some .int) 0 := ⟨(aw (tw 416 rfl) rfl), (aw (tw 414 rfl) rfl), (aw (tw 415 rfl) rfl), (aw (tw 4 rfl) rfl), by decide +kernel⟩
set_option maxRecDepth 20000 in
theorem mf_Adaptive_isIndex : MS y_Adaptive_isIndex b_Adaptive_isIndex 1 (some .boolean) 1 := ⟨(aw (tw 423 rfl) rfl), (aw (tw 422 rfl) rfl), (aw (tw 6 rfl) rfl), by decide +kernel⟩
set_option maxRecDepth 20000 in
theorem mf_Packet_pairAt : MV y_Packet_pairAt b_Packet_pairAt 2 (some .int) 1 := ⟨(aw (tw 435 rfl) rfl), (aw (tw 434 rfl) rfl), (aw (sw 6 rfl) rfl), (aw (tw 4 rfl) rfl), by decide +kernel⟩
set_option maxRecDepth 20000 in
theorem mf_Packet_fourAt : MV y_Packet_fourAt b_Packet_fourAt 2 (some .int) 1 := ⟨(aw (tw 431 rfl) rfl), (aw (tw 430 rfl) rfl), (aw (sw 5 rfl) rfl), (aw (tw 4 rfl) rfl), by decide +kernel⟩
set_option maxRecDepth 20000 in
theorem mf_Math_floorMod : MS y_Math_floorMod b_Math_floorMod 3 (some .int) 2 := ⟨(aw (tw 447 rfl) rfl), (aw (tw 446 rfl) rfl), (aw (tw 12 rfl) rfl), by decide +kernel⟩
set_option maxRecDepth 20000 in
theorem mf_Packet_isSound : MV y_Packet_isSound b_Packet_isSound 2 (some .boolean) 0 := ⟨(aw (tw 412 rfl) rfl), (aw (tw 410 rfl) rfl), (aw (tw 411 rfl) rfl), (aw (tw 4 rfl) rfl), by decide +kernel⟩
set_option maxRecDepth 20000 in
theorem mf_Packet_source : MV y_Packet_source b_Packet_source 1 (some .int) 0 := ⟨(aw (tw 427 rfl) rfl), (aw (tw 425 rfl) rfl), (aw (tw 426 rfl) rfl), (aw (tw 4 rfl) rfl), by decide +kernel⟩
set_option maxRecDepth 20000 in
theorem mf_Packet_sequence : MV y_Packet_sequence b_Packet_sequence 1 (some .int) 0 := ⟨(aw (tw 439 rfl) rfl), (aw (tw 437 rfl) rfl), (aw (tw 438 rfl) rfl), (aw (tw 4 rfl) rfl), by decide +kernel⟩
set_option maxRecDepth 20000 in
theorem mf_Buffer_distanceOf : MV y_Buffer_distanceOf b_Buffer_distanceOf 3 (some .int) 1 := ⟨(aw (tw 443 rfl) rfl), (aw (tw 442 rfl) rfl), (aw (sw 7 rfl) rfl), (aw (tw 7 rfl) rfl), by decide +kernel⟩
set_option maxRecDepth 20000 in
theorem mf_Buffer_placeOf : MS y_Buffer_placeOf b_Buffer_placeOf 1 (some .int) 1 := ⟨(aw (tw 451 rfl) rfl), (aw (tw 450 rfl) rfl), (aw (tw 7 rfl) rfl), by decide +kernel⟩
set_option maxRecDepth 20000 in
theorem mf_Buffer_judge : MV y_Buffer_judge b_Buffer_judge 3 (some .int) 1 := ⟨(aw (tw 408 rfl) rfl), (aw (tw 407 rfl) rfl), (aw (sw 3 rfl) rfl), (aw (tw 7 rfl) rfl), by decide +kernel⟩
set_option maxRecDepth 20000 in
theorem mf_Buffer_accept : MV y_Buffer_accept b_Buffer_accept 4 (some .int) 1 := ⟨(aw (tw 404 rfl) rfl), (aw (tw 402 rfl) rfl), (aw (tw 403 rfl) rfl), (aw (tw 7 rfl) rfl), by decide +kernel⟩
set_option maxRecDepth 20000 in
theorem mf_Buffer_setPrefill : MV y_Buffer_setPrefill b_Buffer_setPrefill 2 (some .boolean) 1 := ⟨(aw (tw 460 rfl) rfl), (aw (tw 458 rfl) rfl), (aw (tw 459 rfl) rfl), (aw (tw 7 rfl) rfl), by decide +kernel⟩
set_option maxRecDepth 20000 in
theorem mf_Packet_sampleAt : MV y_Packet_sampleAt b_Packet_sampleAt 3 (some .int) 1 := ⟨(aw (tw 510 rfl) rfl), (aw (tw 509 rfl) rfl), (aw (sw 10 rfl) rfl), (aw (tw 4 rfl) rfl), by decide +kernel⟩
set_option maxRecDepth 20000 in
theorem mf_Adaptive_set : MV y_Adaptive_set b_Adaptive_set 3 none 2 := ⟨(aw (tw 515 rfl) rfl), (aw (tw 513 rfl) rfl), (aw (tw 514 rfl) rfl), (aw (tw 6 rfl) rfl), by decide +kernel⟩
set_option maxRecDepth 20000 in
theorem mf_Packet_readAdaptive : MV y_Packet_readAdaptive b_Packet_readAdaptive 4 none 2 := ⟨(aw (tw 506 rfl) rfl), (aw (tw 505 rfl) rfl), (aw (sw 9 rfl) rfl), (aw (tw 4 rfl) rfl), by decide +kernel⟩
set_option maxRecDepth 20000 in
theorem mf_Buffer_state : MV y_Buffer_state b_Buffer_state 1 (some .int) 0 := ⟨(aw (tw 486 rfl) rfl), (aw (tw 484 rfl) rfl), (aw (tw 485 rfl) rfl), (aw (tw 7 rfl) rfl), by decide +kernel⟩
set_option maxRecDepth 20000 in
theorem mf_Packet_hasMark : MV y_Packet_hasMark b_Packet_hasMark 1 (some .boolean) 0 := ⟨(aw (tw 490 rfl) rfl), (aw (tw 488 rfl) rfl), (aw (tw 489 rfl) rfl), (aw (tw 4 rfl) rfl), by decide +kernel⟩
set_option maxRecDepth 20000 in
theorem mf_Packet_time : MV y_Packet_time b_Packet_time 1 (some .int) 0 := ⟨(aw (tw 494 rfl) rfl), (aw (tw 492 rfl) rfl), (aw (tw 493 rfl) rfl), (aw (tw 4 rfl) rfl), by decide +kernel⟩
set_option maxRecDepth 20000 in
theorem mf_Samples_clear : MV y_Samples_clear b_Samples_clear 1 none 0 := ⟨(aw (tw 498 rfl) rfl), (aw (tw 496 rfl) rfl), (aw (tw 497 rfl) rfl), (aw (tw 2 rfl) rfl), by decide +kernel⟩
set_option maxRecDepth 20000 in
theorem mf_Packet_readInto : MV y_Packet_readInto b_Packet_readInto 6 none 2 := ⟨(aw (tw 502 rfl) rfl), (aw (tw 500 rfl) rfl), (aw (tw 501 rfl) rfl), (aw (tw 4 rfl) rfl), by decide +kernel⟩
set_option maxRecDepth 20000 in
theorem mf_Samples_addFirstOf : MV y_Samples_addFirstOf b_Samples_addFirstOf 4 none 2 := ⟨(aw (tw 523 rfl) rfl), (aw (tw 521 rfl) rfl), (aw (tw 522 rfl) rfl), (aw (tw 2 rfl) rfl), by decide +kernel⟩
set_option maxRecDepth 20000 in
theorem mf_Buffer_goOn : MV y_Buffer_goOn b_Buffer_goOn 2 none 0 := ⟨(aw (tw 528 rfl) rfl), (aw (tw 526 rfl) rfl), (aw (tw 527 rfl) rfl), (aw (tw 7 rfl) rfl), by decide +kernel⟩
set_option maxRecDepth 20000 in
theorem mf_Buffer_comeToRest : MV y_Buffer_comeToRest b_Buffer_comeToRest 2 none 0 := ⟨(aw (tw 544 rfl) rfl), (aw (tw 542 rfl) rfl), (aw (tw 543 rfl) rfl), (aw (tw 7 rfl) rfl), by decide +kernel⟩
set_option maxRecDepth 20000 in
theorem mf_Buffer_isReady : MV y_Buffer_isReady b_Buffer_isReady 1 (some .boolean) 0 := ⟨(aw (tw 472 rfl) rfl), (aw (tw 470 rfl) rfl), (aw (tw 471 rfl) rfl), (aw (tw 7 rfl) rfl), by decide +kernel⟩
set_option maxRecDepth 20000 in
theorem mf_Buffer_due : MV y_Buffer_due b_Buffer_due 2 (some (.object R_Packet)) 0 := ⟨(aw (tw 476 rfl) rfl), (aw (tw 474 rfl) rfl), (aw (tw 475 rfl) rfl), (aw (tw 7 rfl) rfl), by decide +kernel⟩
set_option maxRecDepth 20000 in
theorem mf_Player_giveUp : MV y_Player_giveUp b_Player_giveUp 2 (some .int) 1 := ⟨(aw (tw 540 rfl) rfl), (aw (tw 539 rfl) rfl), (aw (sw 12 rfl) rfl), (aw (tw 8 rfl) rfl), by decide +kernel⟩
set_option maxRecDepth 20000 in
theorem mf_Player_conceal : MV y_Player_conceal b_Player_conceal 6 (some .int) 2 := ⟨(aw (tw 533 rfl) rfl), (aw (tw 532 rfl) rfl), (aw (sw 11 rfl) rfl), (aw (tw 8 rfl) rfl), by decide +kernel⟩
set_option maxRecDepth 20000 in
theorem mf_Player_playPacket : MV y_Player_playPacket b_Player_playPacket 6 (some .int) 3 := ⟨(aw (tw 480 rfl) rfl), (aw (tw 479 rfl) rfl), (aw (sw 8 rfl) rfl), (aw (tw 8 rfl) rfl), by decide +kernel⟩
set_option maxRecDepth 20000 in
theorem mf_Player_playNext : MV y_Player_playNext b_Player_playNext 4 (some .int) 2 := ⟨(aw (tw 468 rfl) rfl), (aw (tw 466 rfl) rfl), (aw (tw 467 rfl) rfl), (aw (tw 8 rfl) rfl), by decide +kernel⟩
set_option maxRecDepth 20000 in
theorem mf_Sender_nextSequence : MV y_Sender_nextSequence b_Sender_nextSequence 1 (some .int) 0 := ⟨(aw (tw 595 rfl) rfl), (aw (tw 593 rfl) rfl), (aw (tw 594 rfl) rfl), (aw (tw 5 rfl) rfl), by decide +kernel⟩
set_option maxRecDepth 20000 in
theorem mf_Sender_index : MV y_Sender_index b_Sender_index 1 (some .int) 0 := ⟨(aw (tw 591 rfl) rfl), (aw (tw 589 rfl) rfl), (aw (tw 590 rfl) rfl), (aw (tw 5 rfl) rfl), by decide +kernel⟩
set_option maxRecDepth 20000 in
theorem mf_Sender_value : MV y_Sender_value b_Sender_value 1 (some .int) 0 := ⟨(aw (tw 587 rfl) rfl), (aw (tw 585 rfl) rfl), (aw (tw 586 rfl) rfl), (aw (tw 5 rfl) rfl), by decide +kernel⟩
set_option maxRecDepth 20000 in
theorem mf_Player_jumps : MV y_Player_jumps b_Player_jumps 1 (some .int) 0 := ⟨(aw (tw 583 rfl) rfl), (aw (tw 581 rfl) rfl), (aw (tw 582 rfl) rfl), (aw (tw 8 rfl) rfl), by decide +kernel⟩
set_option maxRecDepth 20000 in
theorem mf_Player_lostPackets : MV y_Player_lostPackets b_Player_lostPackets 1 (some .int) 0 := ⟨(aw (tw 579 rfl) rfl), (aw (tw 577 rfl) rfl), (aw (tw 578 rfl) rfl), (aw (tw 8 rfl) rfl), by decide +kernel⟩
set_option maxRecDepth 20000 in
theorem mf_Buffer_refusals : MV y_Buffer_refusals b_Buffer_refusals 2 (some .int) 1 := ⟨(aw (tw 575 rfl) rfl), (aw (tw 573 rfl) rfl), (aw (tw 574 rfl) rfl), (aw (tw 7 rfl) rfl), by decide +kernel⟩
set_option maxRecDepth 20000 in
theorem mf_Buffer_nextSequence : MV y_Buffer_nextSequence b_Buffer_nextSequence 1 (some .int) 0 := ⟨(aw (tw 571 rfl) rfl), (aw (tw 569 rfl) rfl), (aw (tw 570 rfl) rfl), (aw (tw 7 rfl) rfl), by decide +kernel⟩
set_option maxRecDepth 20000 in
theorem mf_Buffer_size : MV y_Buffer_size b_Buffer_size 1 (some .int) 0 := ⟨(aw (tw 567 rfl) rfl), (aw (tw 565 rfl) rfl), (aw (tw 566 rfl) rfl), (aw (tw 7 rfl) rfl), by decide +kernel⟩
set_option maxRecDepth 20000 in
theorem mf_Model_isSample : MS y_Model_isSample b_Model_isSample 1 (some .boolean) 1 := ⟨(aw (tw 684 rfl) rfl), (aw (tw 683 rfl) rfl), (aw (tw 9 rfl) rfl), by decide +kernel⟩
set_option maxRecDepth 20000 in
theorem mf_Model_begins : MS y_Model_begins b_Model_begins 6 (some .int) 2 := ⟨(aw (tw 687 rfl) rfl), (aw (tw 686 rfl) rfl), (aw (tw 9 rfl) rfl), by decide +kernel⟩
set_option maxRecDepth 20000 in
theorem mf_Model_half : MS y_Model_half b_Model_half 4 (some .int) 2 := ⟨(aw (tw 695 rfl) rfl), (aw (tw 694 rfl) rfl), (aw (tw 9 rfl) rfl), by decide +kernel⟩
set_option maxRecDepth 20000 in
theorem mf_Model_write : MV y_Model_write b_Model_write 3 none 2 := ⟨(aw (tw 712 rfl) rfl), (aw (tw 711 rfl) rfl), (aw (sw 13 rfl) rfl), (aw (tw 9 rfl) rfl), by decide +kernel⟩
set_option maxRecDepth 20000 in
theorem mf_Model_codeOf : MV y_Model_codeOf b_Model_codeOf 5 (some .int) 1 := ⟨(aw (tw 725 rfl) rfl), (aw (tw 724 rfl) rfl), (aw (sw 16 rfl) rfl), (aw (tw 9 rfl) rfl), by decide +kernel⟩
set_option maxRecDepth 20000 in
theorem mf_Model_change : MV y_Model_change b_Model_change 4 none 1 := ⟨(aw (tw 729 rfl) rfl), (aw (tw 728 rfl) rfl), (aw (sw 17 rfl) rfl), (aw (tw 9 rfl) rfl), by decide +kernel⟩
set_option maxRecDepth 20000 in
theorem mf_Model_compress : MV y_Model_compress b_Model_compress 6 (some .int) 2 := ⟨(aw (tw 681 rfl) rfl), (aw (tw 679 rfl) rfl), (aw (tw 680 rfl) rfl), (aw (tw 9 rfl) rfl), by decide +kernel⟩
set_option maxRecDepth 20000 in
theorem mf_Model_writeWord : MV y_Model_writeWord b_Model_writeWord 3 none 2 := ⟨(aw (tw 716 rfl) rfl), (aw (tw 715 rfl) rfl), (aw (sw 14 rfl) rfl), (aw (tw 9 rfl) rfl), by decide +kernel⟩
set_option maxRecDepth 20000 in
theorem mf_Model_samples : MV y_Model_samples b_Model_samples 8 none 3 := ⟨(aw (tw 720 rfl) rfl), (aw (tw 719 rfl) rfl), (aw (sw 15 rfl) rfl), (aw (tw 9 rfl) rfl), by decide +kernel⟩
set_option maxRecDepth 20000 in
theorem mf_Model_there : MV y_Model_there b_Model_there 3 (some .boolean) 2 := ⟨(aw (tw 741 rfl) rfl), (aw (tw 740 rfl) rfl), (aw (sw 18 rfl) rfl), (aw (tw 9 rfl) rfl), by decide +kernel⟩
set_option maxRecDepth 20000 in
theorem mf_Model_copy : MV y_Model_copy b_Model_copy 4 none 2 := ⟨(aw (tw 757 rfl) rfl), (aw (tw 756 rfl) rfl), (aw (sw 20 rfl) rfl), (aw (tw 9 rfl) rfl), by decide +kernel⟩
set_option maxRecDepth 20000 in
theorem mf_Model_exchange : MV y_Model_exchange b_Model_exchange 5 none 1 := ⟨(aw (tw 761 rfl) rfl), (aw (tw 760 rfl) rfl), (aw (sw 21 rfl) rfl), (aw (tw 9 rfl) rfl), by decide +kernel⟩
set_option maxRecDepth 20000 in
theorem mf_Model_remove : MV y_Model_remove b_Model_remove 3 none 1 := ⟨(aw (tw 753 rfl) rfl), (aw (tw 752 rfl) rfl), (aw (sw 19 rfl) rfl), (aw (tw 9 rfl) rfl), by decide +kernel⟩
set_option maxRecDepth 20000 in
theorem mf_Model_codingOf : MV y_Model_codingOf b_Model_codingOf 3 (some .int) 1 := ⟨(aw (tw 777 rfl) rfl), (aw (tw 776 rfl) rfl), (aw (sw 24 rfl) rfl), (aw (tw 9 rfl) rfl), by decide +kernel⟩
set_option maxRecDepth 20000 in
theorem mf_Model_pair : MV y_Model_pair b_Model_pair 3 (some .int) 2 := ⟨(aw (tw 781 rfl) rfl), (aw (tw 780 rfl) rfl), (aw (sw 25 rfl) rfl), (aw (tw 9 rfl) rfl), by decide +kernel⟩
set_option maxRecDepth 20000 in
theorem mf_Model_samplesOf : MV y_Model_samplesOf b_Model_samplesOf 7 (some .int) 1 := ⟨(aw (tw 773 rfl) rfl), (aw (tw 772 rfl) rfl), (aw (sw 23 rfl) rfl), (aw (tw 9 rfl) rfl), by decide +kernel⟩
set_option maxRecDepth 20000 in
theorem mf_Model_word : MV y_Model_word b_Model_word 5 (some .int) 2 := ⟨(aw (tw 785 rfl) rfl), (aw (tw 784 rfl) rfl), (aw (sw 26 rfl) rfl), (aw (tw 9 rfl) rfl), by decide +kernel⟩
set_option maxRecDepth 20000 in
theorem mf_Model_distance : MV y_Model_distance b_Model_distance 3 (some .int) 1 := ⟨(aw (tw 789 rfl) rfl), (aw (tw 788 rfl) rfl), (aw (sw 27 rfl) rfl), (aw (tw 9 rfl) rfl), by decide +kernel⟩
set_option maxRecDepth 20000 in
theorem mf_Model_held : MV y_Model_held b_Model_held 3 (some .int) 1 := ⟨(aw (tw 795 rfl) rfl), (aw (tw 794 rfl) rfl), (aw (sw 28 rfl) rfl), (aw (tw 9 rfl) rfl), by decide +kernel⟩
set_option maxRecDepth 20000 in
theorem mf_Model_refusal : MV y_Model_refusal b_Model_refusal 5 (some .int) 0 := ⟨(aw (tw 769 rfl) rfl), (aw (tw 768 rfl) rfl), (aw (sw 22 rfl) rfl), (aw (tw 9 rfl) rfl), by decide +kernel⟩
set_option maxRecDepth 20000 in
theorem mf_Model_expand : MV y_Model_expand b_Model_expand 6 (some .int) 2 := ⟨(aw (tw 691 rfl) rfl), (aw (tw 689 rfl) rfl), (aw (tw 690 rfl) rfl), (aw (tw 9 rfl) rfl), by decide +kernel⟩
set_option maxRecDepth 20000 in
theorem mf_Model_sampleOf : MV y_Model_sampleOf b_Model_sampleOf 6 (some .int) 3 := ⟨(aw (tw 815 rfl) rfl), (aw (tw 814 rfl) rfl), (aw (sw 31 rfl) rfl), (aw (tw 9 rfl) rfl), by decide +kernel⟩
set_option maxRecDepth 20000 in
theorem mf_Model_rest : MV y_Model_rest b_Model_rest 2 none 0 := ⟨(aw (tw 824 rfl) rfl), (aw (tw 823 rfl) rfl), (aw (sw 33 rfl) rfl), (aw (tw 9 rfl) rfl), by decide +kernel⟩
set_option maxRecDepth 20000 in
theorem mf_Model_buffered : MV y_Model_buffered b_Model_buffered 3 (some .int) 0 := ⟨(aw (tw 807 rfl) rfl), (aw (tw 806 rfl) rfl), (aw (sw 29 rfl) rfl), (aw (tw 9 rfl) rfl), by decide +kernel⟩
set_option maxRecDepth 20000 in
theorem mf_Model_conceal : MV y_Model_conceal b_Model_conceal 3 none 0 := ⟨(aw (tw 820 rfl) rfl), (aw (tw 819 rfl) rfl), (aw (sw 32 rfl) rfl), (aw (tw 9 rfl) rfl), by decide +kernel⟩
set_option maxRecDepth 20000 in
theorem mf_Model_playPacket : MV y_Model_playPacket b_Model_playPacket 7 none 2 := ⟨(aw (tw 811 rfl) rfl), (aw (tw 810 rfl) rfl), (aw (sw 30 rfl) rfl), (aw (tw 9 rfl) rfl), by decide +kernel⟩
set_option maxRecDepth 20000 in
theorem ob_code : Cond.code objectInit ⟨#[0xb1]⟩ 1 none ∈ AW := (aw (tw 20 rfl) rfl)
set_option maxRecDepth 20000 in
theorem ob_ins : Cond.instanceMethod objectInit ∈ AW := (aw (tw 19 rfl) rfl)
set_option maxRecDepth 20000 in
theorem ar_int : Cond.arrayClass .int ∈ AW := (aw (tw 34 rfl) rfl)
set_option maxRecDepth 20000 in
theorem ar_boo : Cond.arrayClass .boolean ∈ AW := (aw (tw 127 rfl) rfl)
set_option maxRecDepth 20000 in
theorem in_Adaptive : Cond.instantiable (cn 1) (nfc 1) ∈ AW := (aw (tw 69 rfl) rfl)
set_option maxRecDepth 20000 in
theorem ini_Adaptive : Cond.initialized (cn 1) ∈ AW := (aw (tw 6 rfl) rfl)
theorem bl_Adaptive : ∀ j, j < nfc 1 → defaultValue (ct 1 j) = vp_V [.int 0, .int 0] j := fun j hj => match j, hj with
  | 0, _ => rfl
  | 1, _ => rfl
  | j + 2, h => absurd (show j + 2 < 2 from h) (by omega)
set_option maxRecDepth 20000 in
theorem mi_Adaptive : Cond.code y_Adaptive_init b_Adaptive_init 1 none ∈ AW ∧ Cond.instanceMethod y_Adaptive_init ∈ AW ∧ Cond.initialized y_Adaptive_init.cls ∈ AW ∧ (y_Adaptive_init.cls ≠ "java/lang/invoke/MethodHandle" ∧ y_Adaptive_init.cls ≠ "java/lang/invoke/VarHandle" ∧ (parseMethodDescriptor y_Adaptive_init.desc).map (fun d => d.parameters.length) = some 0) := ⟨(aw (tw 72 rfl) rfl), (aw (tw 71 rfl) rfl), (aw (tw 6 rfl) rfl), by decide +kernel⟩
set_option maxRecDepth 20000 in
theorem in_Samples : Cond.instantiable (cn 5) (nfc 5) ∈ AW := (aw (tw 22 rfl) rfl)
set_option maxRecDepth 20000 in
theorem ini_Samples : Cond.initialized (cn 5) ∈ AW := (aw (tw 2 rfl) rfl)
theorem bl_Samples : ∀ j, j < nfc 5 → defaultValue (ct 5 j) = vp_V [.null, .int 0] j := fun j hj => match j, hj with
  | 0, _ => rfl
  | 1, _ => rfl
  | j + 2, h => absurd (show j + 2 < 2 from h) (by omega)
set_option maxRecDepth 20000 in
theorem mi_Samples : Cond.code y_Samples_init b_Samples_init 2 none ∈ AW ∧ Cond.instanceMethod y_Samples_init ∈ AW ∧ Cond.initialized y_Samples_init.cls ∈ AW ∧ (y_Samples_init.cls ≠ "java/lang/invoke/MethodHandle" ∧ y_Samples_init.cls ≠ "java/lang/invoke/VarHandle" ∧ (parseMethodDescriptor y_Samples_init.desc).map (fun d => d.parameters.length) = some 1) := ⟨(aw (tw 25 rfl) rfl), (aw (tw 24 rfl) rfl), (aw (tw 2 rfl) rfl), by decide +kernel⟩
set_option maxRecDepth 20000 in
theorem in_Packet : Cond.instantiable (cn 3) (nfc 3) ∈ AW := (aw (tw 43 rfl) rfl)
set_option maxRecDepth 20000 in
theorem ini_Packet : Cond.initialized (cn 3) ∈ AW := (aw (tw 4 rfl) rfl)
theorem bl_Packet : ∀ j, j < nfc 3 → defaultValue (ct 3 j) = vp_V [.null, .int 0] j := fun j hj => match j, hj with
  | 0, _ => rfl
  | 1, _ => rfl
  | j + 2, h => absurd (show j + 2 < 2 from h) (by omega)
set_option maxRecDepth 20000 in
theorem mi_Packet : Cond.code y_Packet_init b_Packet_init 1 none ∈ AW ∧ Cond.instanceMethod y_Packet_init ∈ AW ∧ Cond.initialized y_Packet_init.cls ∈ AW ∧ (y_Packet_init.cls ≠ "java/lang/invoke/MethodHandle" ∧ y_Packet_init.cls ≠ "java/lang/invoke/VarHandle" ∧ (parseMethodDescriptor y_Packet_init.desc).map (fun d => d.parameters.length) = some 0) := ⟨(aw (tw 46 rfl) rfl), (aw (tw 45 rfl) rfl), (aw (tw 4 rfl) rfl), by decide +kernel⟩
set_option maxRecDepth 20000 in
theorem in_Wire : Cond.instantiable (cn 7) (nfc 7) ∈ AW := (aw (tw 36 rfl) rfl)
set_option maxRecDepth 20000 in
theorem ini_Wire : Cond.initialized (cn 7) ∈ AW := (aw (tw 3 rfl) rfl)
theorem bl_Wire : ∀ j, j < nfc 7 → defaultValue (ct 7 j) = vp_V [.null, .int 0] j := fun j hj => match j, hj with
  | 0, _ => rfl
  | 1, _ => rfl
  | j + 2, h => absurd (show j + 2 < 2 from h) (by omega)
set_option maxRecDepth 20000 in
theorem mi_Wire : Cond.code y_Wire_init b_Wire_init 2 none ∈ AW ∧ Cond.instanceMethod y_Wire_init ∈ AW ∧ Cond.initialized y_Wire_init.cls ∈ AW ∧ (y_Wire_init.cls ≠ "java/lang/invoke/MethodHandle" ∧ y_Wire_init.cls ≠ "java/lang/invoke/VarHandle" ∧ (parseMethodDescriptor y_Wire_init.desc).map (fun d => d.parameters.length) = some 0) := ⟨(aw (tw 39 rfl) rfl), (aw (tw 38 rfl) rfl), (aw (tw 3 rfl) rfl), by decide +kernel⟩
set_option maxRecDepth 20000 in
theorem in_Sender : Cond.instantiable (cn 6) (nfc 6) ∈ AW := (aw (tw 63 rfl) rfl)
set_option maxRecDepth 20000 in
theorem ini_Sender : Cond.initialized (cn 6) ∈ AW := (aw (tw 5 rfl) rfl)
theorem bl_Sender : ∀ j, j < nfc 6 → defaultValue (ct 6 j) = vp_V [.int 0, .int 0, .int 0, .null] j := fun j hj => match j, hj with
  | 0, _ => rfl
  | 1, _ => rfl
  | 2, _ => rfl
  | 3, _ => rfl
  | j + 4, h => absurd (show j + 4 < 4 from h) (by omega)
set_option maxRecDepth 20000 in
theorem mi_Sender : Cond.code y_Sender_init b_Sender_init 1 none ∈ AW ∧ Cond.instanceMethod y_Sender_init ∈ AW ∧ Cond.initialized y_Sender_init.cls ∈ AW ∧ (y_Sender_init.cls ≠ "java/lang/invoke/MethodHandle" ∧ y_Sender_init.cls ≠ "java/lang/invoke/VarHandle" ∧ (parseMethodDescriptor y_Sender_init.desc).map (fun d => d.parameters.length) = some 0) := ⟨(aw (tw 66 rfl) rfl), (aw (tw 65 rfl) rfl), (aw (tw 5 rfl) rfl), by decide +kernel⟩
set_option maxRecDepth 20000 in
theorem in_Buffer : Cond.instantiable (cn 2) (nfc 2) ∈ AW := (aw (tw 95 rfl) rfl)
set_option maxRecDepth 20000 in
theorem ini_Buffer : Cond.initialized (cn 2) ∈ AW := (aw (tw 7 rfl) rfl)
theorem bl_Buffer : ∀ j, j < nfc 2 → defaultValue (ct 2 j) = vp_V [.null, .null, .null, .int 0, .int 0, .int 0, .int 0, .int 0] j := fun j hj => match j, hj with
  | 0, _ => rfl
  | 1, _ => rfl
  | 2, _ => rfl
  | 3, _ => rfl
  | 4, _ => rfl
  | 5, _ => rfl
  | 6, _ => rfl
  | 7, _ => rfl
  | j + 8, h => absurd (show j + 8 < 8 from h) (by omega)
set_option maxRecDepth 20000 in
theorem mi_Buffer : Cond.code y_Buffer_init b_Buffer_init 2 none ∈ AW ∧ Cond.instanceMethod y_Buffer_init ∈ AW ∧ Cond.initialized y_Buffer_init.cls ∈ AW ∧ (y_Buffer_init.cls ≠ "java/lang/invoke/MethodHandle" ∧ y_Buffer_init.cls ≠ "java/lang/invoke/VarHandle" ∧ (parseMethodDescriptor y_Buffer_init.desc).map (fun d => d.parameters.length) = some 0) := ⟨(aw (tw 98 rfl) rfl), (aw (tw 97 rfl) rfl), (aw (tw 7 rfl) rfl), by decide +kernel⟩
set_option maxRecDepth 20000 in
theorem in_Player : Cond.instantiable (cn 4) (nfc 4) ∈ AW := (aw (tw 129 rfl) rfl)
set_option maxRecDepth 20000 in
theorem ini_Player : Cond.initialized (cn 4) ∈ AW := (aw (tw 8 rfl) rfl)
theorem bl_Player : ∀ j, j < nfc 4 → defaultValue (ct 4 j) = vp_V [.null, .null, .int 0, .int 0, .int 0, .int 0] j := fun j hj => match j, hj with
  | 0, _ => rfl
  | 1, _ => rfl
  | 2, _ => rfl
  | 3, _ => rfl
  | 4, _ => rfl
  | 5, _ => rfl
  | j + 6, h => absurd (show j + 6 < 6 from h) (by omega)
set_option maxRecDepth 20000 in
theorem mi_Player : Cond.code y_Player_init b_Player_init 1 none ∈ AW ∧ Cond.instanceMethod y_Player_init ∈ AW ∧ Cond.initialized y_Player_init.cls ∈ AW ∧ (y_Player_init.cls ≠ "java/lang/invoke/MethodHandle" ∧ y_Player_init.cls ≠ "java/lang/invoke/VarHandle" ∧ (parseMethodDescriptor y_Player_init.desc).map (fun d => d.parameters.length) = some 0) := ⟨(aw (tw 132 rfl) rfl), (aw (tw 131 rfl) rfl), (aw (tw 8 rfl) rfl), by decide +kernel⟩
set_option maxRecDepth 20000 in
theorem in_Gate : Cond.instantiable (cn 0) (nfc 0) ∈ AW := (aw (tw 14 rfl) rfl)
set_option maxRecDepth 20000 in
theorem ini_Gate : Cond.initialized (cn 0) ∈ AW := (aw (tw 1 rfl) rfl)
theorem bl_Gate : ∀ j, j < nfc 0 → defaultValue (ct 0 j) = vp_V [.null, .null, .null, .null, .null, .null] j := fun j hj => match j, hj with
  | 0, _ => rfl
  | 1, _ => rfl
  | 2, _ => rfl
  | 3, _ => rfl
  | 4, _ => rfl
  | 5, _ => rfl
  | j + 6, h => absurd (show j + 6 < 6 from h) (by omega)
set_option maxRecDepth 20000 in
theorem mi_Gate : Cond.code y_Gate_init b_Gate_init 1 none ∈ AW ∧ Cond.instanceMethod y_Gate_init ∈ AW ∧ Cond.initialized y_Gate_init.cls ∈ AW ∧ (y_Gate_init.cls ≠ "java/lang/invoke/MethodHandle" ∧ y_Gate_init.cls ≠ "java/lang/invoke/VarHandle" ∧ (parseMethodDescriptor y_Gate_init.desc).map (fun d => d.parameters.length) = some 0) := ⟨(aw (tw 17 rfl) rfl), (aw (tw 16 rfl) rfl), (aw (tw 1 rfl) rfl), by decide +kernel⟩
set_option maxRecDepth 20000 in
theorem in_Model : Cond.instantiable (cn 8) (nfc 8) ∈ AW := (aw (tw 597 rfl) rfl)
set_option maxRecDepth 20000 in
theorem ini_Model : Cond.initialized (cn 8) ∈ AW := (aw (tw 9 rfl) rfl)
theorem bl_Model : ∀ j, j < nfc 8 → defaultValue (ct 8 j) = vp_V [.null, .int 0, .null, .int 0, .null, .int 0, .int 0, .int 0, .int 0, .int 0, .int 0, .null, .null, .int 0, .int 0, .int 0, .int 0, .int 0, .int 0, .int 0, .int 0, .null, .null, .int 0, .int 0] j := fun j hj => match j, hj with
  | 0, _ => rfl
  | 1, _ => rfl
  | 2, _ => rfl
  | 3, _ => rfl
  | 4, _ => rfl
  | 5, _ => rfl
  | 6, _ => rfl
  | 7, _ => rfl
  | 8, _ => rfl
  | 9, _ => rfl
  | 10, _ => rfl
  | 11, _ => rfl
  | 12, _ => rfl
  | 13, _ => rfl
  | 14, _ => rfl
  | 15, _ => rfl
  | 16, _ => rfl
  | 17, _ => rfl
  | 18, _ => rfl
  | 19, _ => rfl
  | 20, _ => rfl
  | 21, _ => rfl
  | 22, _ => rfl
  | 23, _ => rfl
  | 24, _ => rfl
  | j + 25, h => absurd (show j + 25 < 25 from h) (by omega)
set_option maxRecDepth 20000 in
theorem mi_Model : Cond.code y_Model_init b_Model_init 2 none ∈ AW ∧ Cond.instanceMethod y_Model_init ∈ AW ∧ Cond.initialized y_Model_init.cls ∈ AW ∧ (y_Model_init.cls ≠ "java/lang/invoke/MethodHandle" ∧ y_Model_init.cls ≠ "java/lang/invoke/VarHandle" ∧ (parseMethodDescriptor y_Model_init.desc).map (fun d => d.parameters.length) = some 0) := ⟨(aw (tw 600 rfl) rfl), (aw (tw 599 rfl) rfl), (aw (tw 9 rfl) rfl), by decide +kernel⟩
end
