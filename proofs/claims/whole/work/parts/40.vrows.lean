-- THE CONSTRUCTORS' LAYER
def SV (p : Program) (s : State) (m : MethodId) (args : Array Value) (meth : Method) (c : Code) (cc : ByteArray) (nL : Nat) (ret : Option FieldType) (own : String) (ca : Nat → ClassId) (D : va_G) : Prop :=
  CallFix p m c cc nL s args AW own ∧ meth.sig.returnType = ret ∧ meth.locks = false ∧ va_K D classes (tys ca) s ∧ va_AO R_Packet s
abbrev VE : Type := State → Array Value → List Frame → Method → va_G → (State → Prop) → (Nat → Prop) → Prop
def QI (D : va_G) (post : va_W → Prop) (A : Nat → Prop) : Array Value → State → Outcome → State → Prop :=
  fun _ st oc t => oc = .returned none ∧ (∃ w, post w ∧ va_P D classes w t.heap ∧ va_D A w) ∧ va_F A st t
def EI (mc ms : Nat) (post : va_W → Prop) : VE := fun s args below meth D Q A => Q = MQ below (QI D post A) args s mc ms A ∧ meth.name = "<init>"
def VV (l : Launch) (cc : ByteArray) (nL : Nat) (ret : Option FieldType) (own : String) (R : Room) (ca : Nat → ClassId) (E : VE) (pc : Nat) (lv : List (Option Value)) (st : List Value) (w : va_W) (nc ns : Nat) : Prop :=
  ∀ (p : Program) (e : Env) (s : State) (m : MethodId) (args : Array Value) (below : List Frame) (meth : Method) (c : Code) (D : va_G) (Q : State → Prop) (A : Nat → Prop), SV p s m args meth c cc nL ret own ca D → E s args below meth D Q A → (∀ q, s.heap.size ≤ q → A q) →
    ∀ (H : Heap) (locs : List Loc) (ls : Array Slot), va_P D classes w H → va_D A w → va_S A s.heap H locs → lh ls nL lv → W p l e R s m args below meth c H locs nc ns Q (F0 m pc ls st)
def GI (D : va_G) (ca : Nat → ClassId) (sz : Nat) (w : va_W) (U : State) : Prop :=
  U.heap.size = sz ∧ va_P D classes w U.heap ∧ va_K D classes (tys ca) U ∧ va_AO R_Packet U ∧ va_D (fun _ => True) w
def CI (l : Launch) (ca : Nat → ClassId) (y : MethodName) (b : ByteArray) (nL : Nat) (rm : Room) (As : List Value) (w : va_W) (post : va_W → Prop) (mc ms : Nat) : Prop :=
  ∀ (D : va_G) (sz : Nat), Met l y (Cond.code y b nL none :: AW) rm (va_Pc As (GI D ca sz w)) (QI D post (va_A w sz)) mc ms (va_A w sz)
theorem ci_of {l : Launch} {ca : Nat → ClassId} {y : MethodName} {b : ByteArray} {nL : Nat} {rm : Room} {As : List Value} {w : va_W} {post : va_W → Prop} {mc ms : Nat} {own : String} (hy : plainName y.cls = true) (hi : y.name = "<init>") (ho : y.cls = own)
    (h1 : ∀ v ∈ As, v.category = 1) (h2 : As.length ≤ nL) {lv : List (Option Value)} (hlv : ent As nL = lv) (k : VV l b nL none own rm ca (EI mc ms post) 0 lv [] w 0 0) : CI l ca y b nL rm As w post mc ms := by
  intro D sz
  subst ho
  refine Met.ofW (cc := b) (maxL := nL) (ret := none) hy rfl ?_
  intro p e s m args below meth c s₁ B hml hv
  obtain ⟨rfl, hsz, hP, hK, hO, hD⟩ := hv
  subst hsz
  have hts := atoms_spec (ws := Cond.code y b nL none :: AW) B.pre
  have hown : s.vm.findClass y.cls = some m.cls := findClass_of_methodNamed B.named
  rw [lg_entry_eq]
  subst hlv
  exact k p e s m _ below meth c D _ _ ⟨⟨B.exec, B.bytes, hml, hown, fun w hw => hts w (List.mem_cons_of_mem _ hw)⟩, B.returns, B.notSynchronized, hK, hO⟩ ⟨rfl, (name_of_methodNamed B.named B.method).1.trans hi⟩ (fun q h => Or.inr h) s.heap [] _ hP hD.self va_S.rf (lh_entry h1 h2)
section VROWS
variable {l : Launch} {cc : ByteArray} {nL : Nat} {ret : Option FieldType} {own : String} {R : Room} {ca : Nat → ClassId} {E : VE} {pc : Nat} {lv : List (Option Value)} {st : List Value} {w : va_W} {nc ns : Nat}
theorem vv_iconst (q : Nat) (hq : pc + 1 = q) (n : Int) (v : Int32) (d : decode cc pc = .ok (.iconst n, 1)) (hv : Int32.ofInt n = v) (k : VV l cc nL ret own R ca E q lv (.int v :: st) w nc ns) : VV l cc nL ret own R ca E pc lv st w nc ns := by
  subst hq
  intro p e s m args below meth c D Q A S hE hA H locs ls hP hD hS hl
  exact lv_iconst S.1.1 S.1.2.1 d hv (k p e s m args below meth c D Q A S hE hA H locs ls hP hD hS hl)
theorem vv_bipush (q : Nat) (hq : pc + 2 = q) (n : Int) (v : Int32) (d : decode cc pc = .ok (.bipush n, 2)) (hv : (Int8.ofInt n).toInt32 = v) (k : VV l cc nL ret own R ca E q lv (.int v :: st) w nc ns) : VV l cc nL ret own R ca E pc lv st w nc ns := by
  subst hq
  intro p e s m args below meth c D Q A S hE hA H locs ls hP hD hS hl
  exact lv_bipush S.1.1 S.1.2.1 d hv (k p e s m args below meth c D Q A S hE hA H locs ls hP hD hS hl)
theorem vv_sipush (q : Nat) (hq : pc + 3 = q) (n : Int) (v : Int32) (d : decode cc pc = .ok (.sipush n, 3)) (hv : (Int16.ofInt n).toInt32 = v) (k : VV l cc nL ret own R ca E q lv (.int v :: st) w nc ns) : VV l cc nL ret own R ca E pc lv st w nc ns := by
  subst hq
  intro p e s m args below meth c D Q A S hE hA H locs ls hP hD hS hl
  exact lv_sipush S.1.1 S.1.2.1 d hv (k p e s m args below meth c D Q A S hE hA H locs ls hP hD hS hl)
theorem vv_dup (q : Nat) (hq : pc + 1 = q) {v : Value} (d : decode cc pc = .ok (.dup, 1)) (hv : v.category = 1) (k : VV l cc nL ret own R ca E q lv (v :: v :: st) w nc ns) : VV l cc nL ret own R ca E pc lv (v :: st) w nc ns := by
  subst hq
  intro p e s m args below meth c D Q A S hE hA H locs ls hP hD hS hl
  exact lv_dup S.1.1 S.1.2.1 d hv (k p e s m args below meth c D Q A S hE hA H locs ls hP hD hS hl)
theorem vv_iload_0 (q : Nat) (hq : pc + 1 = q) {x : Int32} {r : List (Option Value)} (d : decode cc pc = .ok (.iload_n 0, 1)) (k : VV l cc nL ret own R ca E q (some (.int x) :: r) (.int x :: st) w nc ns) : VV l cc nL ret own R ca E pc (some (.int x) :: r) st w nc ns := by
  subst hq
  intro p e s m args below meth c D Q A S hE hA H locs ls hP hD hS hl
  exact lv_iload_n S.1.1 S.1.2.1 d rfl (hl.2.2 0 _ rfl).2 (k p e s m args below meth c D Q A S hE hA H locs ls hP hD hS hl)
theorem vv_istore_0 (q : Nat) (hq : pc + 1 = q) {x : Int32} {x0 : Option Value} {r : List (Option Value)} (d : decode cc pc = .ok (.istore_n 0, 1)) (hn : 0 < nL) (k : VV l cc nL ret own R ca E q (some (.int x) :: r) st w nc ns) : VV l cc nL ret own R ca E pc (x0 :: r) (.int x :: st) w nc ns := by
  subst hq
  intro p e s m args below meth c D Q A S hE hA H locs ls hP hD hS hl
  exact lv_istore_n S.1.1 S.1.2.1 d rfl (lh_has hl) hn rfl (fun ls' hl' => k p e s m args below meth c D Q A S hE hA H locs ls' hP hD hS (lh_set hl rfl hl'))
theorem vv_aload_0 (q : Nat) (hq : pc + 1 = q) {x : Nat} {r : List (Option Value)} (d : decode cc pc = .ok (.aload_n 0, 1)) (k : VV l cc nL ret own R ca E q (some (.ref x) :: r) (.ref x :: st) w nc ns) : VV l cc nL ret own R ca E pc (some (.ref x) :: r) st w nc ns := by
  subst hq
  intro p e s m args below meth c D Q A S hE hA H locs ls hP hD hS hl
  exact lv_aload_n S.1.1 S.1.2.1 d rfl (hl.2.2 0 _ rfl).2 (k p e s m args below meth c D Q A S hE hA H locs ls hP hD hS hl)
theorem vv_astore_0 (q : Nat) (hq : pc + 1 = q) {x : Nat} {x0 : Option Value} {r : List (Option Value)} (d : decode cc pc = .ok (.astore_n 0, 1)) (hn : 0 < nL) (k : VV l cc nL ret own R ca E q (some (.ref x) :: r) st w nc ns) : VV l cc nL ret own R ca E pc (x0 :: r) (.ref x :: st) w nc ns := by
  subst hq
  intro p e s m args below meth c D Q A S hE hA H locs ls hP hD hS hl
  exact lv_astore_n S.1.1 S.1.2.1 d rfl (lh_has hl) hn rfl (fun ls' hl' => k p e s m args below meth c D Q A S hE hA H locs ls' hP hD hS (lh_set hl rfl hl'))
theorem vv_iinc_0 (q : Nat) (hq : pc + 3 = q) {x : Int32} {r : List (Option Value)} (n : Int) (y : Int32) (d : decode cc pc = .ok (.iinc 0 n, 3)) (hv : x + Int32.ofInt n = y) (hn : 0 < nL) (k : VV l cc nL ret own R ca E q (some (.int y) :: r) st w nc ns) : VV l cc nL ret own R ca E pc (some (.int x) :: r) st w nc ns := by
  subst hq
  intro p e s m args below meth c D Q A S hE hA H locs ls hP hD hS hl
  subst hv
  obtain ⟨j, hj⟩ := List.getElem?_of_mem (lpr_mem.mpr (show ((some (.int x) :: r) : List (Option Value))[((0, Value.int x) : Nat × Value).1]? = some (some ((0, Value.int x) : Nat × Value).2) from rfl))
  exact lv_iinc S.1.1 S.1.2.1 d (lh_has hl) hj rfl hn rfl (fun ls' hl' => k p e s m args below meth c D Q A S hE hA H locs ls' hP hD hS (lh_set hl rfl hl'))
theorem vv_iload_1 (q : Nat) (hq : pc + 1 = q) {x : Int32} {x0 : Option Value} {r : List (Option Value)} (d : decode cc pc = .ok (.iload_n 1, 1)) (k : VV l cc nL ret own R ca E q (x0 :: some (.int x) :: r) (.int x :: st) w nc ns) : VV l cc nL ret own R ca E pc (x0 :: some (.int x) :: r) st w nc ns := by
  subst hq
  intro p e s m args below meth c D Q A S hE hA H locs ls hP hD hS hl
  exact lv_iload_n S.1.1 S.1.2.1 d rfl (hl.2.2 1 _ rfl).2 (k p e s m args below meth c D Q A S hE hA H locs ls hP hD hS hl)
theorem vv_istore_1 (q : Nat) (hq : pc + 1 = q) {x : Int32} {x0 : Option Value} {x1 : Option Value} {r : List (Option Value)} (d : decode cc pc = .ok (.istore_n 1, 1)) (hn : 1 < nL) (k : VV l cc nL ret own R ca E q (x0 :: some (.int x) :: r) st w nc ns) : VV l cc nL ret own R ca E pc (x0 :: x1 :: r) (.int x :: st) w nc ns := by
  subst hq
  intro p e s m args below meth c D Q A S hE hA H locs ls hP hD hS hl
  exact lv_istore_n S.1.1 S.1.2.1 d rfl (lh_has hl) hn rfl (fun ls' hl' => k p e s m args below meth c D Q A S hE hA H locs ls' hP hD hS (lh_set hl rfl hl'))
theorem vv_aload_1 (q : Nat) (hq : pc + 1 = q) {x : Nat} {x0 : Option Value} {r : List (Option Value)} (d : decode cc pc = .ok (.aload_n 1, 1)) (k : VV l cc nL ret own R ca E q (x0 :: some (.ref x) :: r) (.ref x :: st) w nc ns) : VV l cc nL ret own R ca E pc (x0 :: some (.ref x) :: r) st w nc ns := by
  subst hq
  intro p e s m args below meth c D Q A S hE hA H locs ls hP hD hS hl
  exact lv_aload_n S.1.1 S.1.2.1 d rfl (hl.2.2 1 _ rfl).2 (k p e s m args below meth c D Q A S hE hA H locs ls hP hD hS hl)
theorem vv_astore_1 (q : Nat) (hq : pc + 1 = q) {x : Nat} {x0 : Option Value} {x1 : Option Value} {r : List (Option Value)} (d : decode cc pc = .ok (.astore_n 1, 1)) (hn : 1 < nL) (k : VV l cc nL ret own R ca E q (x0 :: some (.ref x) :: r) st w nc ns) : VV l cc nL ret own R ca E pc (x0 :: x1 :: r) (.ref x :: st) w nc ns := by
  subst hq
  intro p e s m args below meth c D Q A S hE hA H locs ls hP hD hS hl
  exact lv_astore_n S.1.1 S.1.2.1 d rfl (lh_has hl) hn rfl (fun ls' hl' => k p e s m args below meth c D Q A S hE hA H locs ls' hP hD hS (lh_set hl rfl hl'))
theorem vv_iinc_1 (q : Nat) (hq : pc + 3 = q) {x : Int32} {x0 : Option Value} {r : List (Option Value)} (n : Int) (y : Int32) (d : decode cc pc = .ok (.iinc 1 n, 3)) (hv : x + Int32.ofInt n = y) (hn : 1 < nL) (k : VV l cc nL ret own R ca E q (x0 :: some (.int y) :: r) st w nc ns) : VV l cc nL ret own R ca E pc (x0 :: some (.int x) :: r) st w nc ns := by
  subst hq
  intro p e s m args below meth c D Q A S hE hA H locs ls hP hD hS hl
  subst hv
  obtain ⟨j, hj⟩ := List.getElem?_of_mem (lpr_mem.mpr (show ((x0 :: some (.int x) :: r) : List (Option Value))[((1, Value.int x) : Nat × Value).1]? = some (some ((1, Value.int x) : Nat × Value).2) from rfl))
  exact lv_iinc S.1.1 S.1.2.1 d (lh_has hl) hj rfl hn rfl (fun ls' hl' => k p e s m args below meth c D Q A S hE hA H locs ls' hP hD hS (lh_set hl rfl hl'))
theorem vv_iload_2 (q : Nat) (hq : pc + 1 = q) {x : Int32} {x0 : Option Value} {x1 : Option Value} {r : List (Option Value)} (d : decode cc pc = .ok (.iload_n 2, 1)) (k : VV l cc nL ret own R ca E q (x0 :: x1 :: some (.int x) :: r) (.int x :: st) w nc ns) : VV l cc nL ret own R ca E pc (x0 :: x1 :: some (.int x) :: r) st w nc ns := by
  subst hq
  intro p e s m args below meth c D Q A S hE hA H locs ls hP hD hS hl
  exact lv_iload_n S.1.1 S.1.2.1 d rfl (hl.2.2 2 _ rfl).2 (k p e s m args below meth c D Q A S hE hA H locs ls hP hD hS hl)
theorem vv_istore_2 (q : Nat) (hq : pc + 1 = q) {x : Int32} {x0 : Option Value} {x1 : Option Value} {x2 : Option Value} {r : List (Option Value)} (d : decode cc pc = .ok (.istore_n 2, 1)) (hn : 2 < nL) (k : VV l cc nL ret own R ca E q (x0 :: x1 :: some (.int x) :: r) st w nc ns) : VV l cc nL ret own R ca E pc (x0 :: x1 :: x2 :: r) (.int x :: st) w nc ns := by
  subst hq
  intro p e s m args below meth c D Q A S hE hA H locs ls hP hD hS hl
  exact lv_istore_n S.1.1 S.1.2.1 d rfl (lh_has hl) hn rfl (fun ls' hl' => k p e s m args below meth c D Q A S hE hA H locs ls' hP hD hS (lh_set hl rfl hl'))
theorem vv_aload_2 (q : Nat) (hq : pc + 1 = q) {x : Nat} {x0 : Option Value} {x1 : Option Value} {r : List (Option Value)} (d : decode cc pc = .ok (.aload_n 2, 1)) (k : VV l cc nL ret own R ca E q (x0 :: x1 :: some (.ref x) :: r) (.ref x :: st) w nc ns) : VV l cc nL ret own R ca E pc (x0 :: x1 :: some (.ref x) :: r) st w nc ns := by
  subst hq
  intro p e s m args below meth c D Q A S hE hA H locs ls hP hD hS hl
  exact lv_aload_n S.1.1 S.1.2.1 d rfl (hl.2.2 2 _ rfl).2 (k p e s m args below meth c D Q A S hE hA H locs ls hP hD hS hl)
theorem vv_astore_2 (q : Nat) (hq : pc + 1 = q) {x : Nat} {x0 : Option Value} {x1 : Option Value} {x2 : Option Value} {r : List (Option Value)} (d : decode cc pc = .ok (.astore_n 2, 1)) (hn : 2 < nL) (k : VV l cc nL ret own R ca E q (x0 :: x1 :: some (.ref x) :: r) st w nc ns) : VV l cc nL ret own R ca E pc (x0 :: x1 :: x2 :: r) (.ref x :: st) w nc ns := by
  subst hq
  intro p e s m args below meth c D Q A S hE hA H locs ls hP hD hS hl
  exact lv_astore_n S.1.1 S.1.2.1 d rfl (lh_has hl) hn rfl (fun ls' hl' => k p e s m args below meth c D Q A S hE hA H locs ls' hP hD hS (lh_set hl rfl hl'))
theorem vv_iinc_2 (q : Nat) (hq : pc + 3 = q) {x : Int32} {x0 : Option Value} {x1 : Option Value} {r : List (Option Value)} (n : Int) (y : Int32) (d : decode cc pc = .ok (.iinc 2 n, 3)) (hv : x + Int32.ofInt n = y) (hn : 2 < nL) (k : VV l cc nL ret own R ca E q (x0 :: x1 :: some (.int y) :: r) st w nc ns) : VV l cc nL ret own R ca E pc (x0 :: x1 :: some (.int x) :: r) st w nc ns := by
  subst hq
  intro p e s m args below meth c D Q A S hE hA H locs ls hP hD hS hl
  subst hv
  obtain ⟨j, hj⟩ := List.getElem?_of_mem (lpr_mem.mpr (show ((x0 :: x1 :: some (.int x) :: r) : List (Option Value))[((2, Value.int x) : Nat × Value).1]? = some (some ((2, Value.int x) : Nat × Value).2) from rfl))
  exact lv_iinc S.1.1 S.1.2.1 d (lh_has hl) hj rfl hn rfl (fun ls' hl' => k p e s m args below meth c D Q A S hE hA H locs ls' hP hD hS (lh_set hl rfl hl'))
theorem vv_iload_3 (q : Nat) (hq : pc + 1 = q) {x : Int32} {x0 : Option Value} {x1 : Option Value} {x2 : Option Value} {r : List (Option Value)} (d : decode cc pc = .ok (.iload_n 3, 1)) (k : VV l cc nL ret own R ca E q (x0 :: x1 :: x2 :: some (.int x) :: r) (.int x :: st) w nc ns) : VV l cc nL ret own R ca E pc (x0 :: x1 :: x2 :: some (.int x) :: r) st w nc ns := by
  subst hq
  intro p e s m args below meth c D Q A S hE hA H locs ls hP hD hS hl
  exact lv_iload_n S.1.1 S.1.2.1 d rfl (hl.2.2 3 _ rfl).2 (k p e s m args below meth c D Q A S hE hA H locs ls hP hD hS hl)
theorem vv_istore_3 (q : Nat) (hq : pc + 1 = q) {x : Int32} {x0 : Option Value} {x1 : Option Value} {x2 : Option Value} {x3 : Option Value} {r : List (Option Value)} (d : decode cc pc = .ok (.istore_n 3, 1)) (hn : 3 < nL) (k : VV l cc nL ret own R ca E q (x0 :: x1 :: x2 :: some (.int x) :: r) st w nc ns) : VV l cc nL ret own R ca E pc (x0 :: x1 :: x2 :: x3 :: r) (.int x :: st) w nc ns := by
  subst hq
  intro p e s m args below meth c D Q A S hE hA H locs ls hP hD hS hl
  exact lv_istore_n S.1.1 S.1.2.1 d rfl (lh_has hl) hn rfl (fun ls' hl' => k p e s m args below meth c D Q A S hE hA H locs ls' hP hD hS (lh_set hl rfl hl'))
theorem vv_aload_3 (q : Nat) (hq : pc + 1 = q) {x : Nat} {x0 : Option Value} {x1 : Option Value} {x2 : Option Value} {r : List (Option Value)} (d : decode cc pc = .ok (.aload_n 3, 1)) (k : VV l cc nL ret own R ca E q (x0 :: x1 :: x2 :: some (.ref x) :: r) (.ref x :: st) w nc ns) : VV l cc nL ret own R ca E pc (x0 :: x1 :: x2 :: some (.ref x) :: r) st w nc ns := by
  subst hq
  intro p e s m args below meth c D Q A S hE hA H locs ls hP hD hS hl
  exact lv_aload_n S.1.1 S.1.2.1 d rfl (hl.2.2 3 _ rfl).2 (k p e s m args below meth c D Q A S hE hA H locs ls hP hD hS hl)
theorem vv_astore_3 (q : Nat) (hq : pc + 1 = q) {x : Nat} {x0 : Option Value} {x1 : Option Value} {x2 : Option Value} {x3 : Option Value} {r : List (Option Value)} (d : decode cc pc = .ok (.astore_n 3, 1)) (hn : 3 < nL) (k : VV l cc nL ret own R ca E q (x0 :: x1 :: x2 :: some (.ref x) :: r) st w nc ns) : VV l cc nL ret own R ca E pc (x0 :: x1 :: x2 :: x3 :: r) (.ref x :: st) w nc ns := by
  subst hq
  intro p e s m args below meth c D Q A S hE hA H locs ls hP hD hS hl
  exact lv_astore_n S.1.1 S.1.2.1 d rfl (lh_has hl) hn rfl (fun ls' hl' => k p e s m args below meth c D Q A S hE hA H locs ls' hP hD hS (lh_set hl rfl hl'))
theorem vv_iinc_3 (q : Nat) (hq : pc + 3 = q) {x : Int32} {x0 : Option Value} {x1 : Option Value} {x2 : Option Value} {r : List (Option Value)} (n : Int) (y : Int32) (d : decode cc pc = .ok (.iinc 3 n, 3)) (hv : x + Int32.ofInt n = y) (hn : 3 < nL) (k : VV l cc nL ret own R ca E q (x0 :: x1 :: x2 :: some (.int y) :: r) st w nc ns) : VV l cc nL ret own R ca E pc (x0 :: x1 :: x2 :: some (.int x) :: r) st w nc ns := by
  subst hq
  intro p e s m args below meth c D Q A S hE hA H locs ls hP hD hS hl
  subst hv
  obtain ⟨j, hj⟩ := List.getElem?_of_mem (lpr_mem.mpr (show ((x0 :: x1 :: x2 :: some (.int x) :: r) : List (Option Value))[((3, Value.int x) : Nat × Value).1]? = some (some ((3, Value.int x) : Nat × Value).2) from rfl))
  exact lv_iinc S.1.1 S.1.2.1 d (lh_has hl) hj rfl hn rfl (fun ls' hl' => k p e s m args below meth c D Q A S hE hA H locs ls' hP hD hS (lh_set hl rfl hl'))
theorem vv_icmp_ge (q : Nat) (hq : pc + 3 = q) {x y : Int32} (o : Int) (t : Nat) (d : decode cc pc = .ok (.if_icmp .ge o, 3)) (ht : (pc : Int) + o = (t : Int)) (kt : y ≤ x → VV l cc nL ret own R ca E t lv st w nc ns) (kf : ¬ y ≤ x → VV l cc nL ret own R ca E q lv st w nc ns) : VV l cc nL ret own R ca E pc lv (.int y :: .int x :: st) w nc ns := by
  subst hq
  intro p e s m args below meth c D Q A S hE hA H locs ls hP hD hS hl
  exact lv_icmp_ge S.1.1 S.1.2.1 d ht (fun h => kt h p e s m args below meth c D Q A S hE hA H locs ls hP hD hS hl) (fun h => kf h p e s m args below meth c D Q A S hE hA H locs ls hP hD hS hl)
theorem vv_goto (o : Int) (t : Nat) (d : decode cc pc = .ok (.goto o, 3)) (ht : (pc : Int) + o = (t : Int)) (k : VV l cc nL ret own R ca E t lv st w nc ns) : VV l cc nL ret own R ca E pc lv st w nc ns := by
  intro p e s m args below meth c D Q A S hE hA H locs ls hP hD hS hl
  exact lv_goto S.1.1 S.1.2.1 d ht (k p e s m args below meth c D Q A S hE hA H locs ls hP hD hS hl)
theorem vv_obj (q : Nat) (hq : pc + 3 = q) {x : Nat} (i : Nat) (d : decode cc pc = .ok (.invokespecial i, 3)) (hw : Cond.methodLink own i objectInit ∈ AW) (hc : Cond.code objectInit ⟨#[0xb1]⟩ 1 none ∈ AW) (hi : Cond.instanceMethod objectInit ∈ AW) (hR : 1 ≤ R.frames ∧ 20 ≤ R.locals) (hst : (st.map fun v => v.category).sum ≤ 8) (k : VV l cc nL ret own R ca E q lv st w nc ns) : VV l cc nL ret own R ca E pc lv (.ref x :: st) w nc ns := by
  subst hq
  intro p e s m args below meth c D Q A S hE hA H locs ls hP hD hS hl
  refine W.objInit S.1.1 S.1.2.1 S.1.2.2.2.1 (S.1.2.2.2.2 _ hw) (S.1.2.2.2.2 _ hi) (S.1.2.2.2.2 _ hc) rfl (by rw [S.1.2.2.1]; exact hl.1) rfl d hR.1 ?_ ?_
  · show _ + (1 + 11) ≤ R.locals
    have h8 := lv_room (m := m) (pc := pc) (ls := ls) (rest := Value.ref x :: st) hst
    have h9 := hR.2
    omega
  · exact k p e s m args below meth c D Q A S hE hA H locs ls hP hD hS hl
theorem vv_new (q : Nat) (hq : pc + 3 = q) (c2 i : Nat) (d : decode cc pc = .ok (.new i, 3)) (hc : c2 < 9) (hw : Cond.classLink own i (cn c2) ∈ AW) (hin : Cond.instantiable (cn c2) (nfc c2) ∈ AW) (hini : Cond.initialized (cn c2) ∈ AW) {fs : List Value} (hfs : ∀ j, j < nfc c2 → defaultValue (ct c2 j) = vp_V fs j) (nc1 ns1 : Nat) (h1 : nc + 1 = nc1) (h2 : ns + nfc c2 = ns1) (hR : nc1 ≤ R.cells ∧ ns1 ≤ R.slots)
    (k : ∀ x : Nat, VV l cc nL ret own R ca E q lv (.ref x :: st) (w ++ [(x, .inr (c2, fs))]) nc1 ns1) : VV l cc nL ret own R ca E pc lv st w nc ns := by
  subst hq
  subst h1
  subst h2
  intro p e s m args below meth c D Q A S hE hA H locs ls hP hD hS hl
  exact va_new S.1.1 S.1.2.1 (Ts := AW) S.1.2.2.2.2 (cw_in hc) (ct c2) (ct_ok hc) S.1.2.2.2.1 (S.1.2.2.2.2 _ hw) (S.1.2.2.2.2 _ hin) (S.1.2.2.2.2 _ hini) S.2.2.2.1 hP hD hS hA (cl_at hc) hfs hR.1 hR.2 d (fun x H1 hP1 hD1 hS1 => k x p e s m args below meth c D Q A S hE hA H1 locs ls hP1 hD1 hS1 hl)
theorem vv_newi (q : Nat) (hq : pc + 2 = q) {n : Int32} (N : Nat) (d : decode cc pc = .ok (.newarray .int, 2)) (hw : Cond.arrayClass .int ∈ AW) (hn : ¬ n < 0) (hN : n.toNatClampNeg = N) (hb : N * 4 ≤ 536870912) (nc1 ns1 : Nat) (h1 : nc + 1 = nc1) (h2 : ns + N = ns1) (hR : nc1 ≤ R.cells ∧ ns1 ≤ R.slots)
    (k : ∀ x : Nat, VV l cc nL ret own R ca E q lv (.ref x :: st) (w ++ [(x, .inl (ca 0, N, .inl (fun _ => 0)))]) nc1 ns1) : VV l cc nL ret own R ca E pc lv (.int n :: st) w nc ns := by
  subst hq
  subst h1
  subst h2
  intro p e s m args below meth c D Q A S hE hA H locs ls hP hD hS hl
  refine va_newa (atype := .int) S.1.1 S.1.2.1 (S.1.2.2.2.2 _ hw) rfl S.2.2.2.1 hP hD hS hA (a0 := (N, .inl (fun _ => 0))) (fun _ => rfl) hn hN hb hR.1 hR.2 d (fun x cA H1 hK1 hP1 hD1 hS1 => ?_)
  have e1 : ca 0 = cA := Option.some.inj ((S.2.2.2.1.2 0 _ rfl).2.symm.trans (hK1.2 3 _ rfl).2)
  rw [← e1] at hP1 hD1
  exact k x p e s m args below meth c D Q A S hE hA H1 locs ls hP1 hD1 hS1 hl
theorem vv_newz (q : Nat) (hq : pc + 2 = q) {n : Int32} (N : Nat) (d : decode cc pc = .ok (.newarray .boolean, 2)) (hw : Cond.arrayClass .boolean ∈ AW) (hn : ¬ n < 0) (hN : n.toNatClampNeg = N) (hb : N * componentBytes .boolean ≤ 536870912) (nc1 ns1 : Nat) (h1 : nc + 1 = nc1) (h2 : ns + N = ns1) (hR : nc1 ≤ R.cells ∧ ns1 ≤ R.slots)
    (k : ∀ x : Nat, VV l cc nL ret own R ca E q lv (.ref x :: st) (w ++ [(x, .inl (ca 1, N, .inl (fun _ => 0)))]) nc1 ns1) : VV l cc nL ret own R ca E pc lv (.int n :: st) w nc ns := by
  subst hq
  subst h1
  subst h2
  intro p e s m args below meth c D Q A S hE hA H locs ls hP hD hS hl
  refine va_newa (atype := .boolean) S.1.1 S.1.2.1 (S.1.2.2.2.2 _ hw) rfl S.2.2.2.1 hP hD hS hA (a0 := (N, .inl (fun _ => 0))) (fun _ => rfl) hn hN hb hR.1 hR.2 d (fun x cA H1 hK1 hP1 hD1 hS1 => ?_)
  have e1 : ca 1 = cA := Option.some.inj ((S.2.2.2.1.2 1 _ rfl).2.symm.trans (hK1.2 3 _ rfl).2)
  rw [← e1] at hP1 hD1
  exact k x p e s m args below meth c D Q A S hE hA H1 locs ls hP1 hD1 hS1 hl
theorem vv_newq (q : Nat) (hq : pc + 3 = q) {n : Int32} (N i : Nat) (d : decode cc pc = .ok (.anewarray i, 3)) (hw : Cond.classLink own i R_Packet ∈ AW) (hn : ¬ n < 0) (hN : n.toNatClampNeg = N) (hb : N * 4 ≤ 536870912) (nc1 ns1 : Nat) (h1 : nc + 1 = nc1) (h2 : ns + N = ns1) (hR : nc1 ≤ R.cells ∧ ns1 ≤ R.slots)
    (k : ∀ x : Nat, VV l cc nL ret own R ca E q lv (.ref x :: st) (w ++ [(x, .inl (ca 2, N, .inr (.inr (.inr (.inr (fun _ => none))))))]) nc1 ns1) : VV l cc nL ret own R ca E pc lv (.int n :: st) w nc ns := by
  subst hq
  subst h1
  subst h2
  intro p e s m args below meth c D Q A S hE hA H locs ls hP hD hS hl
  refine va_newq S.1.1 S.1.2.1 S.1.2.2.2.1 (S.1.2.2.2.2 _ hw) S.2.2.2.2 S.2.2.2.1 hP hD hS hA hn hN hb hR.1 hR.2 d (fun x cA H1 hK1 hP1 hD1 hS1 => ?_)
  obtain ⟨_, _, _, _, _, r1⟩ := (S.2.2.2.1.2 2 _ rfl).2
  obtain ⟨_, _, _, _, _, r2⟩ := (hK1.2 3 _ rfl).2
  have e1 : ca 2 = cA := Option.some.inj (r1.symm.trans r2)
  rw [← e1] at hP1 hD1
  exact k x p e s m args below meth c D Q A S hE hA H1 locs ls hP1 hD1 hS1 hl
theorem vv_put (q : Nat) (hq : pc + 3 = q) {x : Nat} {v : Value} {fs : List Value} {w1 : va_W} (c2 j i k0 : Nat) (d : decode cc pc = .ok (.putfield i, 3)) (hc : c2 < 9) (hj : j < nfc c2) (he : w[k0]? = some (x, .inr (c2, fs))) (hw : Cond.fieldLink own i (cn c2) (cT c2 j).2.1 (cT c2 j).2.2.1 ∈ AW) (ho : (cT c2 j).1 = cn c2) (hf : (cT c2 j).2.2.2 = false) {ty : FieldType} (hd : parseFieldDescriptor (cT c2 j).2.2.1 = some ty) (hn : narrow ty v = v) (hfi : fits ty v = true) (hl0 : j < fs.length) (h1 : w.set k0 (x, .inr (c2, fs.set j v)) = w1)
    (k : VV l cc nL ret own R ca E q lv st w1 nc ns) : VV l cc nL ret own R ca E pc lv (v :: .ref x :: st) w nc ns := by
  subst hq
  subst h1
  intro p e s m args below meth c D Q A S hE hA H locs ls hP hD hS hl
  exact va_put S.1.1 S.1.2.1 (Ts := AW) S.1.2.2.2.2 (cw_in hc) (ct c2) (ct_ok hc) (cn_ok hc) S.1.2.2.2.1 S.2.2.2.1 hP hD hS k0 he (cl_at hc) j hj (S.1.2.2.2.2 _ hw) (by rw [ho]; exact fun _ h => h) hf hd hn hfi hl0 d (fun H1 locs1 hP1 hD1 hS1 => k p e s m args below meth c D Q A S hE hA H1 locs1 ls hP1 hD1 hS1 hl)
theorem vv_iast (q : Nat) (hq : pc + 1 = q) {x N : Nat} {i v : Int32} {f : Nat → Int32} (k0 : Nat) (d : decode cc pc = .ok (.iastore, 1)) (he : w[k0]? = some (x, .inl (ca 0, N, .inl f))) (hi : ¬ (i < 0 ∨ N ≤ i.toNatClampNeg))
    (k : ∀ f1, f1 = upd f i.toNatClampNeg v → VV l cc nL ret own R ca E q lv st (w.set k0 (x, .inl (ca 0, N, .inl f1))) nc ns) : VV l cc nL ret own R ca E pc lv (.int v :: .int i :: .ref x :: st) w nc ns := by
  subst hq
  intro p e s m args below meth c D Q A S hE hA H locs ls hP hD hS hl
  exact va_iast S.1.1 S.1.2.1 S.2.2.2.1 hP hD hS k0 0 he rfl hi d (fun H1 locs1 hP1 hD1 hS1 => k _ rfl p e s m args below meth c D Q A S hE hA H1 locs1 ls hP1 hD1 hS1 hl)
theorem vv_aast (q : Nat) (hq : pc + 1 = q) {x N v : Nat} {i : Int32} {f : Nat → Option Nat} {vs : List Value} (k0 k1 : Nat) (d : decode cc pc = .ok (.aastore, 1)) (he : w[k0]? = some (x, .inl (ca 2, N, .inr (.inr (.inr (.inr f)))))) (hv : w[k1]? = some (v, .inr (3, vs))) (hi : ¬ (i < 0 ∨ N ≤ i.toNatClampNeg))
    (k : ∀ f1, f1 = va_up f i.toNatClampNeg (some v) → VV l cc nL ret own R ca E q lv st (w.set k0 (x, .inl (ca 2, N, .inr (.inr (.inr (.inr f1)))))) nc ns) : VV l cc nL ret own R ca E pc lv (.ref v :: .int i :: .ref x :: st) w nc ns := by
  subst hq
  intro p e s m args below meth c D Q A S hE hA H locs ls hP hD hS hl
  exact va_astq S.1.1 S.1.2.1 S.2.2.2.1 hP hD hS k0 2 k1 3 he rfl hv (cl_at (c := 3) (by omega)) hi d (fun H1 locs1 hP1 hD1 hS1 => k _ rfl p e s m args below meth c D Q A S hE hA H1 locs1 ls hP1 hD1 hS1 hl)
theorem vv_get (q : Nat) (hq : pc + 3 = q) {x : Nat} {v : Value} {fs : List Value} (c2 j i k0 : Nat) (d : decode cc pc = .ok (.getfield i, 3)) (hc : c2 < 9) (hj : j < nfc c2) (he : w[k0]? = some (x, .inr (c2, fs))) (hw : Cond.fieldLink own i (cn c2) (cT c2 j).2.1 (cT c2 j).2.2.1 ∈ AW) (ho : (cT c2 j).1 = cn c2) (hv : fs[j]? = some v) (k : VV l cc nL ret own R ca E q lv (v :: st) w nc ns) : VV l cc nL ret own R ca E pc lv (.ref x :: st) w nc ns := by
  subst hq
  intro p e s m args below meth c D Q A S hE hA H locs ls hP hD hS hl
  exact va_get S.1.1 S.1.2.1 (Ts := AW) S.1.2.2.2.2 (cw_in hc) S.1.2.2.2.1 S.2.2.2.1 hP k0 he (cl_at hc) j hj (S.1.2.2.2.2 _ hw) (by rw [ho]; exact fun _ h => h) hv d (k p e s m args below meth c D Q A S hE hA H locs ls hP hD hS hl)
theorem vv_w {w1 : va_W} (h : w = w1) (k : VV l cc nL ret own R ca E pc lv st w1 nc ns) : VV l cc nL ret own R ca E pc lv st w nc ns := h ▸ k
end VROWS
theorem va_nd_of : ∀ (l : List Nat), l.Nodup → va_nd l = true
  | [], _ => rfl
  | a :: l, h => by
    have h' := List.nodup_cons.mp h
    simp only [va_nd, Bool.and_eq_true, decide_eq_true_eq]
    exact ⟨h'.1, va_nd_of l h'.2⟩
theorem va_nd_range (n : Nat) : va_nd (List.range n) = true := va_nd_of _ List.nodup_range
section VENDS
variable {l : Launch} {cc : ByteArray} {nL : Nat} {ret : Option FieldType} {own : String} {R : Room} {ca : Nat → ClassId} {pc : Nat} {lv : List (Option Value)} {st : List Value} {w : va_W} {nc ns : Nat} {post : va_W → Prop} {mc ms : Nat} {E : VE}
/-- a final field in its own class's constructor -/
theorem vv_putF (q : Nat) (hq : pc + 3 = q) {x : Nat} {v : Value} {fs : List Value} {w1 : va_W} (c2 j i k0 : Nat) (d : decode cc pc = .ok (.putfield i, 3)) (hc : c2 < 9) (hj : j < nfc c2) (he : w[k0]? = some (x, .inr (c2, fs))) (hw : Cond.fieldLink own i (cn c2) (cT c2 j).2.1 (cT c2 j).2.2.1 ∈ AW) (ho : (cT c2 j).1 = cn c2) (ho2 : (cT c2 j).1 = own) (hf : (cT c2 j).2.2.2 = true) {ty : FieldType} (hd : parseFieldDescriptor (cT c2 j).2.2.1 = some ty) (hn : narrow ty v = v) (hfi : fits ty v = true) (hl0 : j < fs.length) (h1 : w.set k0 (x, .inr (c2, fs.set j v)) = w1)
    (k : VV l cc nL ret own R ca (EI mc ms post) q lv st w1 nc ns) : VV l cc nL ret own R ca (EI mc ms post) pc lv (v :: .ref x :: st) w nc ns := by
  subst hq
  subst h1
  intro p e s m args below meth c D Q A S hE hA H locs ls hP hD hS hl
  exact va_putF S.1.1 S.1.2.1 (Ts := AW) S.1.2.2.2.2 (cw_in hc) (ct c2) (ct_ok hc) (cn_ok hc) S.1.2.2.2.1 S.2.2.2.1 hP hD hS k0 he (cl_at hc) j hj (S.1.2.2.2.2 _ hw) (by rw [ho]; exact fun _ h => h) hf hE.2 ho2 hd hn hfi hl0 d (fun H1 locs1 hP1 hD1 hS1 => k p e s m args below meth c D Q A S hE hA H1 locs1 ls hP1 hD1 hS1 hl)
theorem vv_ret (d : decode cc pc = .ok (.return_, 1)) (hr : ret = none) (h1 : nc ≤ mc) (h2 : ns ≤ ms) (hp : post w) : VV l cc nL ret own R ca (EI mc ms post) pc lv [] w nc ns := by
  intro p e s m args below meth c D Q A S hE hA H locs ls hP hD hS hl
  obtain ⟨rfl, -⟩ := hE
  refine W.widen h1 h2 ?_
  exact W.vret S.1.1 S.1.2.1 (S.2.1.trans hr) (fun t ht hW => ⟨rfl, ⟨w, hp, by rw [ht]; exact hP, hD⟩, hS.F ht⟩) (fun q hq => hS.2.2 q hq) d S.2.2.1
/-- a constructor's call: its new object is the last cell -/
theorem vv_init (q : Nat) (hq : pc + 3 = q) {y : MethodName} {b : ByteArray} {n2 n : Nat} {rm : Room} {x : Nat} {e0 : va_E} {X : va_W} {post2 : va_W → Prop} {mc2 ms2 : Nat} {st0 : List Value} (i : Nat) (As : List Value) (d : decode cc pc = .ok (.invokespecial i, 3)) (hy : y.name = "<init>") (m1 : Cond.code y b n2 none ∈ AW) (m2 : Cond.instanceMethod y ∈ AW) (m4 : Cond.initialized y.cls ∈ AW) (m5 : y.cls ≠ "java/lang/invoke/MethodHandle" ∧ y.cls ≠ "java/lang/invoke/VarHandle" ∧ (parseMethodDescriptor y.desc).map (fun d => d.parameters.length) = some n) (hw : Cond.methodLink own i y ∈ AW) (hn : As.length = n)
    (hR : rm.frames + 1 ≤ R.frames ∧ 8 + (n2 + 11) + rm.locals ≤ R.locals) (h0 : rm.cells = mc2 ∧ rm.slots = ms2) (nc1 ns1 : Nat) (h1 : nc + mc2 = nc1) (h2 : ns + ms2 = ns1) (hf : nc1 ≤ R.cells ∧ ns1 ≤ R.slots) (hst : (st.map fun v => v.category).sum ≤ 8) (hs0 : st0 = As.reverse ++ .ref x :: st)
    (hC : CI l ca y b n2 rm (.ref x :: As) [(x, e0)] post2 mc2 ms2) (k : ∀ w2, post2 w2 → VV l cc nL ret own R ca E q lv st (X ++ w2) nc1 ns1) : VV l cc nL ret own R ca E pc lv st0 (X ++ [(x, e0)]) nc ns := by
  subst hq
  subst h1
  subst h2
  intro p e s m args below meth c D Q A S hE hA H locs ls hP hD hS hl
  have hX : (X ++ [(x, e0)])[X.length]? = some (x, e0) := by rw [List.getElem?_append_right (Nat.le_refl _), Nat.sub_self]; rfl
  have hPc : va_P D classes [(x, e0)] H := hP.sub [X.length] (by simp)
  have hDc : va_D A [(x, e0)] := hD.sub [X.length] (by simp [va_nd]) (by simp)
  have hFc : ∀ z, va_A [(x, e0)] H.size z → A z := va_free (wc := [(x, e0)]) hD hS hA [X.length] (by simp)
  refine fun T hT XX => ?_
  have run := va_runI (As := As) (rest := st) (g := F0 m pc ls st0) (bytes := b) (maxL := n2) (n := n) (cells := nc) (slots := ns) (locs := locs) (below := below) (meth := meth) (e := e) (H := H) (R := R) (b := x) S.1 (hC D H.size) (cwI n S.1.2.2.2.2 (AW_in (fun z hz => by
    rcases List.mem_cons.mp hz with rfl | h
    · exact m1
    · exact h)) rfl h0.1 h0.2 (S.1.2.2.2.2 _ m4) (S.1.2.2.2.2 _ hw) (S.1.2.2.2.2 _ m2) hy m5 hR) ⟨fun av U g mk z => by
      obtain ⟨q0, q1, qP, qK, qO, qD⟩ := z
      exact ⟨q0, q1, qP, va_K.moved (u := U) (U := U.calling g mk av) (Vm.Alike.refl U.vm) qK, qO.moved (u := U) (U := U.calling g mk av) (Vm.Alike.refl U.vm), qD⟩, fun U hU hW => ⟨rfl, by rw [hU], by rw [hU]; exact hPc, va_K.moved hW.alike S.2.2.2.1, S.2.2.2.2.moved hW.alike, hDc.weaken (fun _ _ _ _ => trivial)⟩⟩ rfl hn hl.1 hs0 (lv_room hst) d hf
  obtain ⟨v, st₀, t, T', L, g0, X', hL, e1, e2, ⟨hv, ⟨w2, hw2, hP1, hD1⟩, hz, hk⟩, stp⟩ := run T hT XX
  cases hv
  rw [g0] at hz hk
  obtain ⟨hP2, hD2⟩ := va_join (H1 := t.heap) (wr := X) (w1 := w2) hP hD [X.length] (List.range X.length) (by simp) (by
      apply List.ext_getElem?
      intro j
      by_cases hj : j < X.length
      · rw [List.getElem?_map, List.getElem?_range hj, List.getElem?_map, List.getElem?_eq_getElem hj]
        simp [List.getElem?_append_left hj, hj]
      · rw [List.getElem?_eq_none (by simpa using hj), List.getElem?_eq_none (by simpa using hj)]) (va_nd_range _) (by simp; omega) hk hFc hP1 hD1
  obtain ⟨t2, a1, b1⟩ := k w2 hw2 p e s m args below meth c D Q A S hE hA T'.heap (locs ++ L) ls (by rw [e1]; exact hP2) hD2
    ⟨Nat.le_trans hS.1 (by rw [e1]; exact hz), fun z h1 h2 => by rw [e1, hk z (Nat.lt_of_lt_of_le h1 hS.1) (fun y => h2 (hFc z y))]; exact hS.2.1 z h1 h2, fun z hz => by
      rcases List.mem_append.mp hz with h | h
      · exact hS.2.2 z h
      · exact hFc _ (hL z h)⟩ hl T' rfl X'
  exact ⟨t2, stp t2 a1, b1⟩
end VENDS
