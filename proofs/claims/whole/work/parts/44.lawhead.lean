def R_law : String := "VoiceGatewayLaw"
def lw_P (b : Addr) (xs : List Int32) (args : Array Value) (s : State) : Prop := args = #[.ref b] ∧ s.IntsAt b xs ∧ xs.length ≤ 2048 ∧ (Jvm.Cond.and given_1 narrow_1).before args s = true
def lw_Q (_ : Array Value) (s : State) (o : Outcome) (t : State) : Prop := o = .returned (some (.int 1)) ∧ Framed s o t [] 600000 7302250
def lw_Z (below : List Frame) (a : Array Value) (s : State) : State → Prop := fun t => ∃ o, t.status = .running ∧ Ended t below o ∧ lw_Q a s o t
/-- the law's own end, with 1 on the stack, nothing written that was there before, its room as the claim has it -/
theorem lw_ret {p : Program} {l : Launch} {e : Env} {s : State} {m : MethodId} {below : List Frame} {meth : Method} {c : Code} {b : Nat} (hx : p.tables.exec = Jvm.exec) (hb : c.code = code) (hr : meth.sig.returnType = ret) (hlocks : meth.locks = false) {pc : Nat} {H : Heap} {ls : Array Slot} (hdg : decode code pc = .ok (.ireturn, 1)) : W p l e room_1 s m #[Value.ref b] below meth c H [] 600000 7302250 (lw_Z below #[Value.ref b] s) (F0 m pc ls [.int 1]) := by
  intro T hT X
  obtain ⟨fs, hret, hrun, hended, hW, hframe⟩ := X.leave (v := some (.int 1)) (hlocks := hlocks) (fun h => by rw [hr] at h; cases h)
  have hmeth' : T.vm.method? m = some meth := X.method'
  refine ⟨T.setFrames fs, ?_, .returned (some (.int 1)), hrun, hended, rfl, ⟨_, rfl⟩, hW, hframe⟩
  jvm_step X.here [X.here.top, hx, hb, hdg, hmeth', hr, ret, narrow_b1]
  (try refine ⟨rfl, ?_⟩); (try refine ⟨rfl, ?_⟩)
  first | (intro acts; rw [hret _ acts rfl rfl rfl]) | rw [hret _ _ rfl rfl rfl]
  exact Steps.refl _
/-- what holds at the law's entry: the machine, the code, the tables' words (any of lw_tbl by 'hts w (by decide +kernel)'), the script of L ints xs at the cell b, what the Statement gives of the start (any of its parts by flat_of_before) -/
def lw_At (p : Program) (s : State) (m : MethodId) (meth : Method) (c : Code) (b L : Nat) (xs : Nat → Int32) : Prop :=
  p.tables.exec = Jvm.exec ∧ c.code = code ∧ meth.sig.returnType = ret ∧ c.maxLocals = 4 ∧ s.vm.findClass R_law = some m.cls ∧ (∀ w ∈ lw_tbl, w.before #[Value.ref b] s = true) ∧ va_X b L xs s s.heap ∧ b < s.heap.size ∧ meth.locks = false ∧ (Jvm.Cond.and given_1 narrow_1).before #[Value.ref b] s = true
-- THE LAW'S OWN ROWS
def EL (a : Nat → Nat) (b L : Nat) (xs : Nat → Int32) : EE := fun s args below _ Q cells slots => Q = lw_Z below args s ∧ va_X b L xs s s.heap ∧ b < s.heap.size ∧ (∀ k, k < 57 → s.heap.size ≤ a k) ∧ args = #[Value.ref b] ∧ cells ≤ 600000 ∧ slots ≤ 7302250
section LROWS
variable {l : Launch} {cc : ByteArray} {nL : Nat} {own : String} {R : Room} {ca : Nat → ClassId} {a : Nat → Nat} {pc : Nat} {lv : List (Option Value)} {st : List Value} {μ : Mem} {b L : Nat} {xs : Nat → Int32}
theorem el_b {s : State} (h : ∀ k, k < 57 → s.heap.size ≤ a k) (hb : b < s.heap.size) : ¬ AA a s.heap.size b := by
  rintro (⟨k, hk, rfl⟩ | h1)
  · have := h k hk
    omega
  · omega
theorem ww_slen (q : Nat) (hq : pc + 1 = q) {r0 : Option FieldType} (d : decode cc pc = .ok (.arraylength, 1)) (kk : WW l cc nL r0 own R ca a (EL a b L xs) q lv (.int (nI L) :: st) μ) : WW l cc nL r0 own R ca a (EL a b L xs) pc lv (.ref b :: st) μ := by
  subst hq
  intro p e s m args below meth c D Q nc ns S hE hf H locs ls hP hS hl
  obtain ⟨e1, hX, hb, ha, e2, e3⟩ := id hE
  exact va_slen S.1.1 S.1.2.1 hX hb (el_b ha hb) hS d (kk p e s m args below meth c D Q nc ns S hE hf H locs ls hP hS hl)
theorem ww_sld (q : Nat) (hq : pc + 1 = q) {r0 : Option FieldType} {i : Int32} (d : decode cc pc = .ok (.iaload, 1)) (hi : ¬ (i < 0 ∨ L ≤ i.toNatClampNeg)) (kk : WW l cc nL r0 own R ca a (EL a b L xs) q lv (.int (xs i.toNatClampNeg) :: st) μ) : WW l cc nL r0 own R ca a (EL a b L xs) pc lv (.int i :: .ref b :: st) μ := by
  subst hq
  intro p e s m args below meth c D Q nc ns S hE hf H locs ls hP hS hl
  obtain ⟨e1, hX, hb, ha, e2, e3⟩ := id hE
  exact va_sld S.1.1 S.1.2.1 hX hb (el_b ha hb) hS hi d (kk p e s m args below meth c D Q nc ns S hE hf H locs ls hP hS hl)
theorem ww_lret (d : decode code pc = .ok (.ireturn, 1)) : WW l code nL ret own room_1 ca a (EL a b L xs) pc lv [.int 1] μ := by
  intro p e s m args below meth c D Q nc ns S hE hf H locs ls hP hS hl
  obtain ⟨rfl, hX, hb, ha, rfl, h1, h2⟩ := hE
  refine va_forget (fun q hq => ?_) ?_
  · rcases hS.2.2 q hq with ⟨k, hk, h⟩ | h
    · rw [h]
      exact ha k hk
    · exact h
  · refine W.widen h1 h2 ?_
    exact lw_ret S.1.1 S.1.2.1 S.2.1 S.2.2.1 d
end LROWS

set_option maxRecDepth 20000 in
theorem k_law_80 : Cond.methodLink R_law 80 y_Gate_figure ∈ AW := (aw (tw 559 rfl) rfl)
set_option maxRecDepth 20000 in
theorem k_law_83 : Cond.methodLink R_law 83 y_Model_figure ∈ AW := (aw (tw 837 rfl) rfl)
set_option maxRecDepth 20000 in
theorem k_law_76 : Cond.methodLink R_law 76 y_Gate_pass ∈ AW := (aw (tw 554 rfl) rfl)
set_option maxRecDepth 20000 in
theorem k_law_79 : Cond.methodLink R_law 79 y_Model_pass ∈ AW := (aw (tw 833 rfl) rfl)
set_option maxRecDepth 20000 in
theorem k_law_71 : Cond.methodLink R_law 71 y_Gate_sample ∈ AW := (aw (tw 549 rfl) rfl)
set_option maxRecDepth 20000 in
theorem k_law_75 : Cond.methodLink R_law 75 y_Model_sample ∈ AW := (aw (tw 829 rfl) rfl)
set_option maxRecDepth 20000 in
theorem k_law_67 : Cond.methodLink R_law 67 y_Gate_output ∈ AW := (aw (tw 545 rfl) rfl)
set_option maxRecDepth 20000 in
theorem k_law_70 : Cond.methodLink R_law 70 y_Model_output ∈ AW := (aw (tw 825 rfl) rfl)
set_option maxRecDepth 20000 in
theorem k_law_63 : Cond.methodLink R_law 63 y_Gate_play ∈ AW := (aw (tw 461 rfl) rfl)
set_option maxRecDepth 20000 in
theorem k_law_66 : Cond.methodLink R_law 66 y_Model_play ∈ AW := (aw (tw 800 rfl) rfl)
set_option maxRecDepth 20000 in
theorem k_law_59 : Cond.methodLink R_law 59 y_Gate_prefill ∈ AW := (aw (tw 453 rfl) rfl)
set_option maxRecDepth 20000 in
theorem k_law_62 : Cond.methodLink R_law 62 y_Model_prefill ∈ AW := (aw (tw 796 rfl) rfl)
set_option maxRecDepth 20000 in
theorem k_law_55 : Cond.methodLink R_law 55 y_Gate_receive ∈ AW := (aw (tw 397 rfl) rfl)
set_option maxRecDepth 20000 in
theorem k_law_58 : Cond.methodLink R_law 58 y_Model_receive ∈ AW := (aw (tw 762 rfl) rfl)
set_option maxRecDepth 20000 in
theorem k_law_50 : Cond.methodLink R_law 50 y_Gate_disturb ∈ AW := (aw (tw 366 rfl) rfl)
set_option maxRecDepth 20000 in
theorem k_law_54 : Cond.methodLink R_law 54 y_Model_disturb ∈ AW := (aw (tw 746 rfl) rfl)
set_option maxRecDepth 20000 in
theorem k_law_46 : Cond.methodLink R_law 46 y_Gate_poke ∈ AW := (aw (tw 358 rfl) rfl)
set_option maxRecDepth 20000 in
theorem k_law_49 : Cond.methodLink R_law 49 y_Model_poke ∈ AW := (aw (tw 742 rfl) rfl)
set_option maxRecDepth 20000 in
theorem k_law_42 : Cond.methodLink R_law 42 y_Gate_byteAt ∈ AW := (aw (tw 342 rfl) rfl)
set_option maxRecDepth 20000 in
theorem k_law_45 : Cond.methodLink R_law 45 y_Model_byteAt ∈ AW := (aw (tw 734 rfl) rfl)
set_option maxRecDepth 20000 in
theorem k_law_37 : Cond.methodLink R_law 37 y_Gate_line ∈ AW := (aw (tw 334 rfl) rfl)
set_option maxRecDepth 20000 in
theorem k_law_41 : Cond.methodLink R_law 41 y_Model_line ∈ AW := (aw (tw 730 rfl) rfl)
set_option maxRecDepth 20000 in
theorem k_law_32 : Cond.methodLink R_law 32 y_Gate_send ∈ AW := (aw (tw 239 rfl) rfl)
set_option maxRecDepth 20000 in
theorem k_law_36 : Cond.methodLink R_law 36 y_Model_send ∈ AW := (aw (tw 705 rfl) rfl)
set_option maxRecDepth 20000 in
theorem k_law_27 : Cond.methodLink R_law 27 y_Gate_begin ∈ AW := (aw (tw 230 rfl) rfl)
set_option maxRecDepth 20000 in
theorem k_law_31 : Cond.methodLink R_law 31 y_Model_begin ∈ AW := (aw (tw 700 rfl) rfl)
set_option maxRecDepth 20000 in
theorem k_law_22 : Cond.methodLink R_law 22 y_Gate_feed ∈ AW := (aw (tw 218 rfl) rfl)
set_option maxRecDepth 20000 in
theorem k_law_26 : Cond.methodLink R_law 26 y_Model_feed ∈ AW := (aw (tw 696 rfl) rfl)
set_option maxRecDepth 20000 in
theorem k_law_18 : Cond.methodLink R_law 18 y_Gate_expand ∈ AW := (aw (tw 198 rfl) rfl)
set_option maxRecDepth 20000 in
theorem k_law_21 : Cond.methodLink R_law 21 y_Model_expand ∈ AW := (aw (tw 688 rfl) rfl)
set_option maxRecDepth 20000 in
theorem k_law_13 : Cond.methodLink R_law 13 y_Gate_compress ∈ AW := (aw (tw 176 rfl) rfl)
set_option maxRecDepth 20000 in
theorem k_law_17 : Cond.methodLink R_law 17 y_Model_compress ∈ AW := (aw (tw 678 rfl) rfl)
set_option maxRecDepth 20000 in
theorem mf_Gate_figure : MV y_Gate_figure b_Gate_figure 2 (some .int) 1 := ⟨(aw (tw 562 rfl) rfl), (aw (tw 560 rfl) rfl), (aw (tw 561 rfl) rfl), (aw (tw 1 rfl) rfl), by decide +kernel⟩
set_option maxRecDepth 20000 in
theorem mf_Model_figure : MV y_Model_figure b_Model_figure 2 (some .int) 1 := ⟨(aw (tw 840 rfl) rfl), (aw (tw 838 rfl) rfl), (aw (tw 839 rfl) rfl), (aw (tw 9 rfl) rfl), by decide +kernel⟩
set_option maxRecDepth 20000 in
theorem mf_Gate_pass : MV y_Gate_pass b_Gate_pass 2 (some .boolean) 1 := ⟨(aw (tw 557 rfl) rfl), (aw (tw 555 rfl) rfl), (aw (tw 556 rfl) rfl), (aw (tw 1 rfl) rfl), by decide +kernel⟩
set_option maxRecDepth 20000 in
theorem mf_Model_pass : MV y_Model_pass b_Model_pass 3 (some .boolean) 1 := ⟨(aw (tw 836 rfl) rfl), (aw (tw 834 rfl) rfl), (aw (tw 835 rfl) rfl), (aw (tw 9 rfl) rfl), by decide +kernel⟩
set_option maxRecDepth 20000 in
theorem mf_Gate_sample : MV y_Gate_sample b_Gate_sample 2 (some .int) 1 := ⟨(aw (tw 552 rfl) rfl), (aw (tw 550 rfl) rfl), (aw (tw 551 rfl) rfl), (aw (tw 1 rfl) rfl), by decide +kernel⟩
set_option maxRecDepth 20000 in
theorem mf_Model_sample : MV y_Model_sample b_Model_sample 2 (some .int) 1 := ⟨(aw (tw 832 rfl) rfl), (aw (tw 830 rfl) rfl), (aw (tw 831 rfl) rfl), (aw (tw 9 rfl) rfl), by decide +kernel⟩
set_option maxRecDepth 20000 in
theorem mf_Gate_output : MV y_Gate_output b_Gate_output 1 (some .int) 0 := ⟨(aw (tw 548 rfl) rfl), (aw (tw 546 rfl) rfl), (aw (tw 547 rfl) rfl), (aw (tw 1 rfl) rfl), by decide +kernel⟩
set_option maxRecDepth 20000 in
theorem mf_Model_output : MV y_Model_output b_Model_output 1 (some .int) 0 := ⟨(aw (tw 828 rfl) rfl), (aw (tw 826 rfl) rfl), (aw (tw 827 rfl) rfl), (aw (tw 9 rfl) rfl), by decide +kernel⟩
set_option maxRecDepth 20000 in
theorem mf_Gate_play : MV y_Gate_play b_Gate_play 1 (some .int) 0 := ⟨(aw (tw 464 rfl) rfl), (aw (tw 462 rfl) rfl), (aw (tw 463 rfl) rfl), (aw (tw 1 rfl) rfl), by decide +kernel⟩
set_option maxRecDepth 20000 in
theorem mf_Model_play : MV y_Model_play b_Model_play 3 (some .int) 0 := ⟨(aw (tw 803 rfl) rfl), (aw (tw 801 rfl) rfl), (aw (tw 802 rfl) rfl), (aw (tw 9 rfl) rfl), by decide +kernel⟩
set_option maxRecDepth 20000 in
theorem mf_Gate_prefill : MV y_Gate_prefill b_Gate_prefill 2 (some .boolean) 1 := ⟨(aw (tw 456 rfl) rfl), (aw (tw 454 rfl) rfl), (aw (tw 455 rfl) rfl), (aw (tw 1 rfl) rfl), by decide +kernel⟩
set_option maxRecDepth 20000 in
theorem mf_Model_prefill : MV y_Model_prefill b_Model_prefill 2 (some .boolean) 1 := ⟨(aw (tw 799 rfl) rfl), (aw (tw 797 rfl) rfl), (aw (tw 798 rfl) rfl), (aw (tw 9 rfl) rfl), by decide +kernel⟩
set_option maxRecDepth 20000 in
theorem mf_Gate_receive : MV y_Gate_receive b_Gate_receive 3 (some .int) 0 := ⟨(aw (tw 400 rfl) rfl), (aw (tw 398 rfl) rfl), (aw (tw 399 rfl) rfl), (aw (tw 1 rfl) rfl), by decide +kernel⟩
set_option maxRecDepth 20000 in
theorem mf_Model_receive : MV y_Model_receive b_Model_receive 4 (some .int) 0 := ⟨(aw (tw 765 rfl) rfl), (aw (tw 763 rfl) rfl), (aw (tw 764 rfl) rfl), (aw (tw 9 rfl) rfl), by decide +kernel⟩
set_option maxRecDepth 20000 in
theorem mf_Gate_disturb : MV y_Gate_disturb b_Gate_disturb 3 (some .boolean) 2 := ⟨(aw (tw 369 rfl) rfl), (aw (tw 367 rfl) rfl), (aw (tw 368 rfl) rfl), (aw (tw 1 rfl) rfl), by decide +kernel⟩
set_option maxRecDepth 20000 in
theorem mf_Model_disturb : MV y_Model_disturb b_Model_disturb 3 (some .boolean) 2 := ⟨(aw (tw 749 rfl) rfl), (aw (tw 747 rfl) rfl), (aw (tw 748 rfl) rfl), (aw (tw 9 rfl) rfl), by decide +kernel⟩
set_option maxRecDepth 20000 in
theorem mf_Gate_poke : MV y_Gate_poke b_Gate_poke 5 (some .boolean) 3 := ⟨(aw (tw 361 rfl) rfl), (aw (tw 359 rfl) rfl), (aw (tw 360 rfl) rfl), (aw (tw 1 rfl) rfl), by decide +kernel⟩
set_option maxRecDepth 20000 in
theorem mf_Model_poke : MV y_Model_poke b_Model_poke 4 (some .boolean) 3 := ⟨(aw (tw 745 rfl) rfl), (aw (tw 743 rfl) rfl), (aw (tw 744 rfl) rfl), (aw (tw 9 rfl) rfl), by decide +kernel⟩
set_option maxRecDepth 20000 in
theorem mf_Gate_byteAt : MV y_Gate_byteAt b_Gate_byteAt 4 (some .int) 2 := ⟨(aw (tw 345 rfl) rfl), (aw (tw 343 rfl) rfl), (aw (tw 344 rfl) rfl), (aw (tw 1 rfl) rfl), by decide +kernel⟩
set_option maxRecDepth 20000 in
theorem mf_Model_byteAt : MV y_Model_byteAt b_Model_byteAt 3 (some .int) 2 := ⟨(aw (tw 737 rfl) rfl), (aw (tw 735 rfl) rfl), (aw (tw 736 rfl) rfl), (aw (tw 9 rfl) rfl), by decide +kernel⟩
set_option maxRecDepth 20000 in
theorem mf_Gate_line : MV y_Gate_line b_Gate_line 1 (some .int) 0 := ⟨(aw (tw 337 rfl) rfl), (aw (tw 335 rfl) rfl), (aw (tw 336 rfl) rfl), (aw (tw 1 rfl) rfl), by decide +kernel⟩
set_option maxRecDepth 20000 in
theorem mf_Model_line : MV y_Model_line b_Model_line 1 (some .int) 0 := ⟨(aw (tw 733 rfl) rfl), (aw (tw 731 rfl) rfl), (aw (tw 732 rfl) rfl), (aw (tw 9 rfl) rfl), by decide +kernel⟩
set_option maxRecDepth 20000 in
theorem mf_Gate_send : MV y_Gate_send b_Gate_send 5 (some .int) 3 := ⟨(aw (tw 242 rfl) rfl), (aw (tw 240 rfl) rfl), (aw (tw 241 rfl) rfl), (aw (tw 1 rfl) rfl), by decide +kernel⟩
set_option maxRecDepth 20000 in
theorem mf_Model_send : MV y_Model_send b_Model_send 6 (some .int) 3 := ⟨(aw (tw 708 rfl) rfl), (aw (tw 706 rfl) rfl), (aw (tw 707 rfl) rfl), (aw (tw 9 rfl) rfl), by decide +kernel⟩
set_option maxRecDepth 20000 in
theorem mf_Gate_begin : MV y_Gate_begin b_Gate_begin 4 (some .boolean) 3 := ⟨(aw (tw 233 rfl) rfl), (aw (tw 231 rfl) rfl), (aw (tw 232 rfl) rfl), (aw (tw 1 rfl) rfl), by decide +kernel⟩
set_option maxRecDepth 20000 in
theorem mf_Model_begin : MV y_Model_begin b_Model_begin 4 (some .boolean) 3 := ⟨(aw (tw 703 rfl) rfl), (aw (tw 701 rfl) rfl), (aw (tw 702 rfl) rfl), (aw (tw 9 rfl) rfl), by decide +kernel⟩
set_option maxRecDepth 20000 in
theorem mf_Gate_feed : MV y_Gate_feed b_Gate_feed 2 (some .boolean) 1 := ⟨(aw (tw 221 rfl) rfl), (aw (tw 219 rfl) rfl), (aw (tw 220 rfl) rfl), (aw (tw 1 rfl) rfl), by decide +kernel⟩
set_option maxRecDepth 20000 in
theorem mf_Model_feed : MV y_Model_feed b_Model_feed 2 (some .boolean) 1 := ⟨(aw (tw 699 rfl) rfl), (aw (tw 697 rfl) rfl), (aw (tw 698 rfl) rfl), (aw (tw 9 rfl) rfl), by decide +kernel⟩
set_option maxRecDepth 20000 in
theorem mf_Gate_expand : MV y_Gate_expand b_Gate_expand 3 (some .int) 2 := ⟨(aw (tw 201 rfl) rfl), (aw (tw 199 rfl) rfl), (aw (tw 200 rfl) rfl), (aw (tw 1 rfl) rfl), by decide +kernel⟩
set_option maxRecDepth 20000 in
theorem mf_Gate_compress : MV y_Gate_compress b_Gate_compress 3 (some .int) 2 := ⟨(aw (tw 179 rfl) rfl), (aw (tw 177 rfl) rfl), (aw (tw 178 rfl) rfl), (aw (tw 1 rfl) rfl), by decide +kernel⟩
def F_law_18 (fu : Nat) (L : Nat) (xs : Nat → Int32) (m0 : Mem) (l3 : Int32) : Option (Int32 × Mem) := match fu with
  | 0 => none
  | n + 1 =>
    if ((nI L) - (4 : Int32)) < l3 then (
      some ((1 : Int32), m0)
    ) else (
      if l3 < 0 ∨ L ≤ (Int32.toNatClampNeg l3) then none else
      if ((xs (Int32.toNatClampNeg l3)) &&& (15 : Int32)) = (0 : Int32) then (
        if (l3 + (1 : Int32)) < 0 ∨ L ≤ (Int32.toNatClampNeg (l3 + (1 : Int32))) then none else
        if (l3 + (2 : Int32)) < 0 ∨ L ≤ (Int32.toNatClampNeg (l3 + (2 : Int32))) then none else
        rd (F_Gate_compress (xs (Int32.toNatClampNeg (l3 + (1 : Int32)))) (xs (Int32.toNatClampNeg (l3 + (2 : Int32))))) fun r115 =>
        rd (F_Model_compress (xs (Int32.toNatClampNeg (l3 + (1 : Int32)))) (xs (Int32.toNatClampNeg (l3 + (2 : Int32))))) fun r117 =>
        if r115 = r117 then (
          F_law_18 n L xs m0 (l3 + (4 : Int32))
        ) else (
          some ((0 : Int32), m0)
        )
      ) else (
        if ((xs (Int32.toNatClampNeg l3)) &&& (15 : Int32)) = (1 : Int32) then (
          if (l3 + (1 : Int32)) < 0 ∨ L ≤ (Int32.toNatClampNeg (l3 + (1 : Int32))) then none else
          if (l3 + (2 : Int32)) < 0 ∨ L ≤ (Int32.toNatClampNeg (l3 + (2 : Int32))) then none else
          rd (F_Gate_expand (xs (Int32.toNatClampNeg (l3 + (1 : Int32)))) (xs (Int32.toNatClampNeg (l3 + (2 : Int32))))) fun r109 =>
          rd (F_Model_expand (xs (Int32.toNatClampNeg (l3 + (1 : Int32)))) (xs (Int32.toNatClampNeg (l3 + (2 : Int32))))) fun r111 =>
          if r109 = r111 then (
            F_law_18 n L xs m0 (l3 + (4 : Int32))
          ) else (
            some ((0 : Int32), m0)
          )
        ) else (
          if ((xs (Int32.toNatClampNeg l3)) &&& (15 : Int32)) = (2 : Int32) then (
            if (l3 + (1 : Int32)) < 0 ∨ L ≤ (Int32.toNatClampNeg (l3 + (1 : Int32))) then none else
            cal (F_Gate_feed m0 (xs (Int32.toNatClampNeg (l3 + (1 : Int32))))) fun r101 m102 =>
            cal (F_Model_feed m102 (xs (Int32.toNatClampNeg (l3 + (1 : Int32))))) fun r104 m105 =>
            if r101 = r104 then (
              F_law_18 n L xs m105 (l3 + (4 : Int32))
            ) else (
              some ((0 : Int32), m105)
            )
          ) else (
            if ((xs (Int32.toNatClampNeg l3)) &&& (15 : Int32)) = (3 : Int32) then (
              if (l3 + (1 : Int32)) < 0 ∨ L ≤ (Int32.toNatClampNeg (l3 + (1 : Int32))) then none else
              if (l3 + (2 : Int32)) < 0 ∨ L ≤ (Int32.toNatClampNeg (l3 + (2 : Int32))) then none else
              if (l3 + (3 : Int32)) < 0 ∨ L ≤ (Int32.toNatClampNeg (l3 + (3 : Int32))) then none else
              cal (F_Gate_begin m0 (xs (Int32.toNatClampNeg (l3 + (1 : Int32)))) (xs (Int32.toNatClampNeg (l3 + (2 : Int32)))) (xs (Int32.toNatClampNeg (l3 + (3 : Int32))))) fun r94 m95 =>
              cal (F_Model_begin m95 (xs (Int32.toNatClampNeg (l3 + (1 : Int32)))) (xs (Int32.toNatClampNeg (l3 + (2 : Int32)))) (xs (Int32.toNatClampNeg (l3 + (3 : Int32))))) fun r97 m98 =>
              if r94 = r97 then (
                F_law_18 n L xs m98 (l3 + (4 : Int32))
              ) else (
                some ((0 : Int32), m98)
              )
            ) else (
              if ((xs (Int32.toNatClampNeg l3)) &&& (15 : Int32)) = (4 : Int32) then (
                if (l3 + (1 : Int32)) < 0 ∨ L ≤ (Int32.toNatClampNeg (l3 + (1 : Int32))) then none else
                if (l3 + (2 : Int32)) < 0 ∨ L ≤ (Int32.toNatClampNeg (l3 + (2 : Int32))) then none else
                if (l3 + (3 : Int32)) < 0 ∨ L ≤ (Int32.toNatClampNeg (l3 + (3 : Int32))) then none else
                if (xs (Int32.toNatClampNeg (l3 + (3 : Int32)))) = 0 then (
                  cal (F_Gate_send m0 (xs (Int32.toNatClampNeg (l3 + (1 : Int32)))) (xs (Int32.toNatClampNeg (l3 + (2 : Int32)))) (0 : Int32)) fun r73 m74 =>
                  if (xs (Int32.toNatClampNeg (l3 + (3 : Int32)))) = 0 then (
                    cal (F_Model_send m74 (xs (Int32.toNatClampNeg (l3 + (1 : Int32)))) (xs (Int32.toNatClampNeg (l3 + (2 : Int32)))) (0 : Int32)) fun r76 m77 =>
                    if r73 = r76 then (
                      F_law_18 n L xs m77 (l3 + (4 : Int32))
                    ) else (
                      some ((0 : Int32), m77)
                    )
                  ) else (
                    cal (F_Model_send m74 (xs (Int32.toNatClampNeg (l3 + (1 : Int32)))) (xs (Int32.toNatClampNeg (l3 + (2 : Int32)))) (1 : Int32)) fun r79 m80 =>
                    if r73 = r79 then (
                      F_law_18 n L xs m80 (l3 + (4 : Int32))
                    ) else (
                      some ((0 : Int32), m80)
                    )
                  )
                ) else (
                  cal (F_Gate_send m0 (xs (Int32.toNatClampNeg (l3 + (1 : Int32)))) (xs (Int32.toNatClampNeg (l3 + (2 : Int32)))) (1 : Int32)) fun r82 m83 =>
                  if (xs (Int32.toNatClampNeg (l3 + (3 : Int32)))) = 0 then (
                    cal (F_Model_send m83 (xs (Int32.toNatClampNeg (l3 + (1 : Int32)))) (xs (Int32.toNatClampNeg (l3 + (2 : Int32)))) (0 : Int32)) fun r85 m86 =>
                    if r82 = r85 then (
                      F_law_18 n L xs m86 (l3 + (4 : Int32))
                    ) else (
                      some ((0 : Int32), m86)
                    )
                  ) else (
                    cal (F_Model_send m83 (xs (Int32.toNatClampNeg (l3 + (1 : Int32)))) (xs (Int32.toNatClampNeg (l3 + (2 : Int32)))) (1 : Int32)) fun r88 m89 =>
                    if r82 = r88 then (
                      F_law_18 n L xs m89 (l3 + (4 : Int32))
                    ) else (
                      some ((0 : Int32), m89)
                    )
                  )
                )
              ) else (
                if ((xs (Int32.toNatClampNeg l3)) &&& (15 : Int32)) = (5 : Int32) then (
                  rd (F_Gate_line m0) fun r66 =>
                  rd (F_Model_line m0) fun r68 =>
                  if r66 = r68 then (
                    F_law_18 n L xs m0 (l3 + (4 : Int32))
                  ) else (
                    some ((0 : Int32), m0)
                  )
                ) else (
                  if ((xs (Int32.toNatClampNeg l3)) &&& (15 : Int32)) = (6 : Int32) then (
                    if (l3 + (1 : Int32)) < 0 ∨ L ≤ (Int32.toNatClampNeg (l3 + (1 : Int32))) then none else
                    if (l3 + (2 : Int32)) < 0 ∨ L ≤ (Int32.toNatClampNeg (l3 + (2 : Int32))) then none else
                    rd (F_Gate_byteAt m0 (xs (Int32.toNatClampNeg (l3 + (1 : Int32)))) (xs (Int32.toNatClampNeg (l3 + (2 : Int32))))) fun r62 =>
                    rd (F_Model_byteAt m0 (xs (Int32.toNatClampNeg (l3 + (1 : Int32)))) (xs (Int32.toNatClampNeg (l3 + (2 : Int32))))) fun r64 =>
                    if r62 = r64 then (
                      F_law_18 n L xs m0 (l3 + (4 : Int32))
                    ) else (
                      some ((0 : Int32), m0)
                    )
                  ) else (
                    if ((xs (Int32.toNatClampNeg l3)) &&& (15 : Int32)) = (7 : Int32) then (
                      if (l3 + (1 : Int32)) < 0 ∨ L ≤ (Int32.toNatClampNeg (l3 + (1 : Int32))) then none else
                      if (l3 + (2 : Int32)) < 0 ∨ L ≤ (Int32.toNatClampNeg (l3 + (2 : Int32))) then none else
                      if (l3 + (3 : Int32)) < 0 ∨ L ≤ (Int32.toNatClampNeg (l3 + (3 : Int32))) then none else
                      cal (F_Gate_poke m0 (xs (Int32.toNatClampNeg (l3 + (1 : Int32)))) (xs (Int32.toNatClampNeg (l3 + (2 : Int32)))) (xs (Int32.toNatClampNeg (l3 + (3 : Int32))))) fun r54 m55 =>
                      cal (F_Model_poke m55 (xs (Int32.toNatClampNeg (l3 + (1 : Int32)))) (xs (Int32.toNatClampNeg (l3 + (2 : Int32)))) (xs (Int32.toNatClampNeg (l3 + (3 : Int32))))) fun r57 m58 =>
                      if r54 = r57 then (
                        F_law_18 n L xs m58 (l3 + (4 : Int32))
                      ) else (
                        some ((0 : Int32), m58)
                      )
                    ) else (
                      if ((xs (Int32.toNatClampNeg l3)) &&& (15 : Int32)) = (8 : Int32) then (
                        if (l3 + (1 : Int32)) < 0 ∨ L ≤ (Int32.toNatClampNeg (l3 + (1 : Int32))) then none else
                        if (l3 + (2 : Int32)) < 0 ∨ L ≤ (Int32.toNatClampNeg (l3 + (2 : Int32))) then none else
                        cal (F_Gate_disturb m0 (xs (Int32.toNatClampNeg (l3 + (1 : Int32)))) (xs (Int32.toNatClampNeg (l3 + (2 : Int32))))) fun r45 m46 =>
                        cal (F_Model_disturb m46 (xs (Int32.toNatClampNeg (l3 + (1 : Int32)))) (xs (Int32.toNatClampNeg (l3 + (2 : Int32))))) fun r48 m49 =>
                        if r45 = r48 then (
                          F_law_18 n L xs m49 (l3 + (4 : Int32))
                        ) else (
                          some ((0 : Int32), m49)
                        )
                      ) else (
                        if ((xs (Int32.toNatClampNeg l3)) &&& (15 : Int32)) = (9 : Int32) then (
                          cal (F_Gate_receive m0) fun r37 m38 =>
                          cal (F_Model_receive m38) fun r40 m41 =>
                          if r37 = r40 then (
                            F_law_18 n L xs m41 (l3 + (4 : Int32))
                          ) else (
                            some ((0 : Int32), m41)
                          )
                        ) else (
                          if ((xs (Int32.toNatClampNeg l3)) &&& (15 : Int32)) = (10 : Int32) then (
                            if (l3 + (1 : Int32)) < 0 ∨ L ≤ (Int32.toNatClampNeg (l3 + (1 : Int32))) then none else
                            cal (F_Gate_prefill m0 (xs (Int32.toNatClampNeg (l3 + (1 : Int32))))) fun r31 m32 =>
                            cal (F_Model_prefill m32 (xs (Int32.toNatClampNeg (l3 + (1 : Int32))))) fun r34 m35 =>
                            if r31 = r34 then (
                              F_law_18 n L xs m35 (l3 + (4 : Int32))
                            ) else (
                              some ((0 : Int32), m35)
                            )
                          ) else (
                            if ((xs (Int32.toNatClampNeg l3)) &&& (15 : Int32)) = (11 : Int32) then (
                              cal (F_Gate_play m0) fun r24 m25 =>
                              cal (F_Model_play m25) fun r27 m28 =>
                              if r24 = r27 then (
                                F_law_18 n L xs m28 (l3 + (4 : Int32))
                              ) else (
                                some ((0 : Int32), m28)
                              )
                            ) else (
                              if ((xs (Int32.toNatClampNeg l3)) &&& (15 : Int32)) = (12 : Int32) then (
                                rd (F_Gate_output m0) fun r20 =>
                                rd (F_Model_output m0) fun r22 =>
                                if r20 = r22 then (
                                  F_law_18 n L xs m0 (l3 + (4 : Int32))
                                ) else (
                                  some ((0 : Int32), m0)
                                )
                              ) else (
                                if ((xs (Int32.toNatClampNeg l3)) &&& (15 : Int32)) = (13 : Int32) then (
                                  if (l3 + (1 : Int32)) < 0 ∨ L ≤ (Int32.toNatClampNeg (l3 + (1 : Int32))) then none else
                                  rd (F_Gate_sample m0 (xs (Int32.toNatClampNeg (l3 + (1 : Int32))))) fun r16 =>
                                  rd (F_Model_sample m0 (xs (Int32.toNatClampNeg (l3 + (1 : Int32))))) fun r18 =>
                                  if r16 = r18 then (
                                    F_law_18 n L xs m0 (l3 + (4 : Int32))
                                  ) else (
                                    some ((0 : Int32), m0)
                                  )
                                ) else (
                                  if ((xs (Int32.toNatClampNeg l3)) &&& (15 : Int32)) = (14 : Int32) then (
                                    if (l3 + (1 : Int32)) < 0 ∨ L ≤ (Int32.toNatClampNeg (l3 + (1 : Int32))) then none else
                                    cal (F_Gate_pass m0 (xs (Int32.toNatClampNeg (l3 + (1 : Int32))))) fun r9 m10 =>
                                    cal (F_Model_pass m10 (xs (Int32.toNatClampNeg (l3 + (1 : Int32))))) fun r12 m13 =>
                                    if r9 = r12 then (
                                      F_law_18 n L xs m13 (l3 + (4 : Int32))
                                    ) else (
                                      some ((0 : Int32), m13)
                                    )
                                  ) else (
                                    if ((xs (Int32.toNatClampNeg l3)) &&& (15 : Int32)) = (15 : Int32) then (
                                      if (l3 + (1 : Int32)) < 0 ∨ L ≤ (Int32.toNatClampNeg (l3 + (1 : Int32))) then none else
                                      rd (F_Gate_figure m0 (xs (Int32.toNatClampNeg (l3 + (1 : Int32))))) fun r4 =>
                                      rd (F_Model_figure m0 (xs (Int32.toNatClampNeg (l3 + (1 : Int32))))) fun r6 =>
                                      if r4 = r6 then (
                                        F_law_18 n L xs m0 (l3 + (4 : Int32))
                                      ) else (
                                        some ((0 : Int32), m0)
                                      )
                                    ) else (
                                      F_law_18 n L xs m0 (l3 + (4 : Int32))
                                    )
                                  )
                                )
                              )
                            )
                          )
                        )
                      )
                    )
                  )
                )
              )
            )
          )
        )
      )
    )
def F_law (L : Nat) (xs : Nat → Int32) (m0 : Mem) : Option (Int32 × Mem) :=
  F_law_18 600 L xs m0 (0 : Int32)
