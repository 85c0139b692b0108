section ROWS
variable {l : Launch} {cc : ByteArray} {nL : Nat} {ret : Option FieldType} {own : String} {R : Room} {ca : Nat → ClassId} {a : Nat → Nat} {E : EE} {pc : Nat} {lv : List (Option Value)} {st : List Value} {μ : Mem}
theorem ww_iadd (q : Nat) (hq : pc + 1 = q) {x y : Int32} (d : decode cc pc = .ok (.iadd, 1)) (k : WW l cc nL ret own R ca a E q lv (.int (x + y) :: st) μ) : WW l cc nL ret own R ca a E pc lv (.int y :: .int x :: st) μ := by
  subst hq
  intro p e s m args below meth c D Q nc ns S hE hf H locs ls hP hS hl
  exact lv_iadd S.1.1 S.1.2.1 d (k p e s m args below meth c D Q nc ns S hE hf H locs ls hP hS hl)
theorem ww_isub (q : Nat) (hq : pc + 1 = q) {x y : Int32} (d : decode cc pc = .ok (.isub, 1)) (k : WW l cc nL ret own R ca a E q lv (.int (x - y) :: st) μ) : WW l cc nL ret own R ca a E pc lv (.int y :: .int x :: st) μ := by
  subst hq
  intro p e s m args below meth c D Q nc ns S hE hf H locs ls hP hS hl
  exact lv_isub S.1.1 S.1.2.1 d (k p e s m args below meth c D Q nc ns S hE hf H locs ls hP hS hl)
theorem ww_imul (q : Nat) (hq : pc + 1 = q) {x y : Int32} (d : decode cc pc = .ok (.imul, 1)) (k : WW l cc nL ret own R ca a E q lv (.int (x * y) :: st) μ) : WW l cc nL ret own R ca a E pc lv (.int y :: .int x :: st) μ := by
  subst hq
  intro p e s m args below meth c D Q nc ns S hE hf H locs ls hP hS hl
  exact lv_imul S.1.1 S.1.2.1 d (k p e s m args below meth c D Q nc ns S hE hf H locs ls hP hS hl)
theorem ww_iand (q : Nat) (hq : pc + 1 = q) {x y : Int32} (d : decode cc pc = .ok (.iand, 1)) (k : WW l cc nL ret own R ca a E q lv (.int (x &&& y) :: st) μ) : WW l cc nL ret own R ca a E pc lv (.int y :: .int x :: st) μ := by
  subst hq
  intro p e s m args below meth c D Q nc ns S hE hf H locs ls hP hS hl
  exact lv_iand S.1.1 S.1.2.1 d (k p e s m args below meth c D Q nc ns S hE hf H locs ls hP hS hl)
theorem ww_ior (q : Nat) (hq : pc + 1 = q) {x y : Int32} (d : decode cc pc = .ok (.ior, 1)) (k : WW l cc nL ret own R ca a E q lv (.int (x ||| y) :: st) μ) : WW l cc nL ret own R ca a E pc lv (.int y :: .int x :: st) μ := by
  subst hq
  intro p e s m args below meth c D Q nc ns S hE hf H locs ls hP hS hl
  exact lv_ior S.1.1 S.1.2.1 d (k p e s m args below meth c D Q nc ns S hE hf H locs ls hP hS hl)
theorem ww_ixor (q : Nat) (hq : pc + 1 = q) {x y : Int32} (d : decode cc pc = .ok (.ixor, 1)) (k : WW l cc nL ret own R ca a E q lv (.int (x ^^^ y) :: st) μ) : WW l cc nL ret own R ca a E pc lv (.int y :: .int x :: st) μ := by
  subst hq
  intro p e s m args below meth c D Q nc ns S hE hf H locs ls hP hS hl
  exact lv_ixor S.1.1 S.1.2.1 d (k p e s m args below meth c D Q nc ns S hE hf H locs ls hP hS hl)
theorem ww_ishl (q : Nat) (hq : pc + 1 = q) {x y : Int32} (d : decode cc pc = .ok (.ishl, 1)) (k : WW l cc nL ret own R ca a E q lv (.int (x <<< (y &&& 31)) :: st) μ) : WW l cc nL ret own R ca a E pc lv (.int y :: .int x :: st) μ := by
  subst hq
  intro p e s m args below meth c D Q nc ns S hE hf H locs ls hP hS hl
  exact lv_ishl S.1.1 S.1.2.1 d (k p e s m args below meth c D Q nc ns S hE hf H locs ls hP hS hl)
theorem ww_ishr (q : Nat) (hq : pc + 1 = q) {x y : Int32} (d : decode cc pc = .ok (.ishr, 1)) (k : WW l cc nL ret own R ca a E q lv (.int (x >>> (y &&& 31)) :: st) μ) : WW l cc nL ret own R ca a E pc lv (.int y :: .int x :: st) μ := by
  subst hq
  intro p e s m args below meth c D Q nc ns S hE hf H locs ls hP hS hl
  exact lv_ishr S.1.1 S.1.2.1 d (k p e s m args below meth c D Q nc ns S hE hf H locs ls hP hS hl)
theorem ww_idiv (q : Nat) (hq : pc + 1 = q) {x y : Int32} (d : decode cc pc = .ok (.idiv, 1)) (h0 : ¬ y = 0) (k : WW l cc nL ret own R ca a E q lv (.int (x / y) :: st) μ) : WW l cc nL ret own R ca a E pc lv (.int y :: .int x :: st) μ := by
  subst hq
  intro p e s m args below meth c D Q nc ns S hE hf H locs ls hP hS hl
  exact lv_idiv S.1.1 S.1.2.1 d h0 (k p e s m args below meth c D Q nc ns S hE hf H locs ls hP hS hl)
theorem ww_irem (q : Nat) (hq : pc + 1 = q) {x y : Int32} (d : decode cc pc = .ok (.irem, 1)) (h0 : ¬ y = 0) (k : WW l cc nL ret own R ca a E q lv (.int (x - x / y * y) :: st) μ) : WW l cc nL ret own R ca a E pc lv (.int y :: .int x :: st) μ := by
  subst hq
  intro p e s m args below meth c D Q nc ns S hE hf H locs ls hP hS hl
  exact lv_irem S.1.1 S.1.2.1 d h0 (k p e s m args below meth c D Q nc ns S hE hf H locs ls hP hS hl)
theorem ww_ineg (q : Nat) (hq : pc + 1 = q) {x : Int32} (d : decode cc pc = .ok (.ineg, 1)) (k : WW l cc nL ret own R ca a E q lv (.int (-x) :: st) μ) : WW l cc nL ret own R ca a E pc lv (.int x :: st) μ := by
  subst hq
  intro p e s m args below meth c D Q nc ns S hE hf H locs ls hP hS hl
  exact lv_ineg S.1.1 S.1.2.1 d (k p e s m args below meth c D Q nc ns S hE hf H locs ls hP hS hl)
theorem ww_iconst (q : Nat) (hq : pc + 1 = q) (n : Int) (v : Int32) (d : decode cc pc = .ok (.iconst n, 1)) (hv : Int32.ofInt n = v) (k : WW l cc nL ret own R ca a E q lv (.int v :: st) μ) : WW l cc nL ret own R ca a E pc lv st μ := by
  subst hq
  intro p e s m args below meth c D Q nc ns S hE hf H locs ls hP hS hl
  exact lv_iconst S.1.1 S.1.2.1 d hv (k p e s m args below meth c D Q nc ns S hE hf H locs ls hP hS hl)
theorem ww_bipush (q : Nat) (hq : pc + 2 = q) (n : Int) (v : Int32) (d : decode cc pc = .ok (.bipush n, 2)) (hv : (Int8.ofInt n).toInt32 = v) (k : WW l cc nL ret own R ca a E q lv (.int v :: st) μ) : WW l cc nL ret own R ca a E pc lv st μ := by
  subst hq
  intro p e s m args below meth c D Q nc ns S hE hf H locs ls hP hS hl
  exact lv_bipush S.1.1 S.1.2.1 d hv (k p e s m args below meth c D Q nc ns S hE hf H locs ls hP hS hl)
theorem ww_sipush (q : Nat) (hq : pc + 3 = q) (n : Int) (v : Int32) (d : decode cc pc = .ok (.sipush n, 3)) (hv : (Int16.ofInt n).toInt32 = v) (k : WW l cc nL ret own R ca a E q lv (.int v :: st) μ) : WW l cc nL ret own R ca a E pc lv st μ := by
  subst hq
  intro p e s m args below meth c D Q nc ns S hE hf H locs ls hP hS hl
  exact lv_sipush S.1.1 S.1.2.1 d hv (k p e s m args below meth c D Q nc ns S hE hf H locs ls hP hS hl)
theorem ww_ldc (q : Nat) (hq : pc + 2 = q) (i : Nat) (v : Int32) (d : decode cc pc = .ok (.ldc i, 2)) (hw : Cond.constant own i v ∈ AW) (k : WW l cc nL ret own R ca a E q lv (.int v :: st) μ) : WW l cc nL ret own R ca a E pc lv st μ := by
  subst hq
  intro p e s m args below meth c D Q nc ns S hE hf H locs ls hP hS hl
  exact lv_ldc S.1.1 S.1.2.1 S.1.2.2.2.1 (S.1.2.2.2.2 _ hw) d (k p e s m args below meth c D Q nc ns S hE hf H locs ls hP hS hl)
theorem ww_null (q : Nat) (hq : pc + 1 = q) (d : decode cc pc = .ok (.aconst_null, 1)) (k : WW l cc nL ret own R ca a E q lv (.null :: st) μ) : WW l cc nL ret own R ca a E pc lv st μ := by
  subst hq
  intro p e s m args below meth c D Q nc ns S hE hf H locs ls hP hS hl
  exact lv_null S.1.1 S.1.2.1 d (k p e s m args below meth c D Q nc ns S hE hf H locs ls hP hS hl)
theorem ww_dup (q : Nat) (hq : pc + 1 = q) {v : Value} (d : decode cc pc = .ok (.dup, 1)) (hv : v.category = 1) (k : WW l cc nL ret own R ca a E q lv (v :: v :: st) μ) : WW l cc nL ret own R ca a E pc lv (v :: st) μ := by
  subst hq
  intro p e s m args below meth c D Q nc ns S hE hf H locs ls hP hS hl
  exact lv_dup S.1.1 S.1.2.1 d hv (k p e s m args below meth c D Q nc ns S hE hf H locs ls hP hS hl)
theorem ww_pop (q : Nat) (hq : pc + 1 = q) {v : Value} (d : decode cc pc = .ok (.pop, 1)) (hv : v.category = 1) (k : WW l cc nL ret own R ca a E q lv st μ) : WW l cc nL ret own R ca a E pc lv (v :: st) μ := by
  subst hq
  intro p e s m args below meth c D Q nc ns S hE hf H locs ls hP hS hl
  exact lv_pop S.1.1 S.1.2.1 d hv (k p e s m args below meth c D Q nc ns S hE hf H locs ls hP hS hl)
theorem ww_dup_x1 (q : Nat) (hq : pc + 1 = q) {v w : Value} (d : decode cc pc = .ok (.dup_x1, 1)) (hv : v.category = 1) (hw : w.category = 1) (k : WW l cc nL ret own R ca a E q lv (v :: w :: v :: st) μ) : WW l cc nL ret own R ca a E pc lv (v :: w :: st) μ := by
  subst hq
  intro p e s m args below meth c D Q nc ns S hE hf H locs ls hP hS hl
  exact lv_dup_x1 S.1.1 S.1.2.1 d hv hw (k p e s m args below meth c D Q nc ns S hE hf H locs ls hP hS hl)
theorem ww_dup2 (q : Nat) (hq : pc + 1 = q) {v w : Value} (d : decode cc pc = .ok (.dup2, 1)) (hv : v.category = 1) (hw : w.category = 1) (k : WW l cc nL ret own R ca a E q lv (v :: w :: v :: w :: st) μ) : WW l cc nL ret own R ca a E pc lv (v :: w :: st) μ := by
  subst hq
  intro p e s m args below meth c D Q nc ns S hE hf H locs ls hP hS hl
  exact lv_dup2_11 S.1.1 S.1.2.1 d hv hw (k p e s m args below meth c D Q nc ns S hE hf H locs ls hP hS hl)
theorem ww_iload_0 (q : Nat) (hq : pc + 1 = q) {x : Int32} {r : List (Option Value)} (d : decode cc pc = .ok (.iload_n 0, 1)) (k : WW l cc nL ret own R ca a E q (some (.int x) :: r) (.int x :: st) μ) : WW l cc nL ret own R ca a E pc (some (.int x) :: r) st μ := by
  subst hq
  intro p e s m args below meth c D Q nc ns S hE hf H locs ls hP hS hl
  exact lv_iload_n S.1.1 S.1.2.1 d rfl (hl.2.2 0 _ rfl).2 (k p e s m args below meth c D Q nc ns S hE hf H locs ls hP hS hl)
theorem ww_istore_0 (q : Nat) (hq : pc + 1 = q) {x : Int32} {x0 : Option Value} {r : List (Option Value)} (d : decode cc pc = .ok (.istore_n 0, 1)) (hn : 0 < nL) (k : WW l cc nL ret own R ca a E q (some (.int x) :: r) st μ) : WW l cc nL ret own R ca a E pc (x0 :: r) (.int x :: st) μ := by
  subst hq
  intro p e s m args below meth c D Q nc ns S hE hf H locs ls hP hS hl
  exact lv_istore_n S.1.1 S.1.2.1 d rfl (lh_has hl) hn rfl (fun ls' hl' => k p e s m args below meth c D Q nc ns S hE hf H locs ls' hP hS (lh_set hl rfl hl'))
theorem ww_aload_0 (q : Nat) (hq : pc + 1 = q) {x : Nat} {r : List (Option Value)} (d : decode cc pc = .ok (.aload_n 0, 1)) (k : WW l cc nL ret own R ca a E q (some (.ref x) :: r) (.ref x :: st) μ) : WW l cc nL ret own R ca a E pc (some (.ref x) :: r) st μ := by
  subst hq
  intro p e s m args below meth c D Q nc ns S hE hf H locs ls hP hS hl
  exact lv_aload_n S.1.1 S.1.2.1 d rfl (hl.2.2 0 _ rfl).2 (k p e s m args below meth c D Q nc ns S hE hf H locs ls hP hS hl)
theorem ww_astore_0 (q : Nat) (hq : pc + 1 = q) {x : Nat} {x0 : Option Value} {r : List (Option Value)} (d : decode cc pc = .ok (.astore_n 0, 1)) (hn : 0 < nL) (k : WW l cc nL ret own R ca a E q (some (.ref x) :: r) st μ) : WW l cc nL ret own R ca a E pc (x0 :: r) (.ref x :: st) μ := by
  subst hq
  intro p e s m args below meth c D Q nc ns S hE hf H locs ls hP hS hl
  exact lv_astore_n S.1.1 S.1.2.1 d rfl (lh_has hl) hn rfl (fun ls' hl' => k p e s m args below meth c D Q nc ns S hE hf H locs ls' hP hS (lh_set hl rfl hl'))
theorem ww_aload_0N (q : Nat) (hq : pc + 1 = q)  {r : List (Option Value)} (d : decode cc pc = .ok (.aload_n 0, 1)) (k : WW l cc nL ret own R ca a E q (some (.null) :: r) (.null :: st) μ) : WW l cc nL ret own R ca a E pc (some (.null) :: r) st μ := by
  subst hq
  intro p e s m args below meth c D Q nc ns S hE hf H locs ls hP hS hl
  exact lv_aload_nN S.1.1 S.1.2.1 d rfl (hl.2.2 0 _ rfl).2 (k p e s m args below meth c D Q nc ns S hE hf H locs ls hP hS hl)
theorem ww_astore_0N (q : Nat) (hq : pc + 1 = q)  {x0 : Option Value} {r : List (Option Value)} (d : decode cc pc = .ok (.astore_n 0, 1)) (hn : 0 < nL) (k : WW l cc nL ret own R ca a E q (some (.null) :: r) st μ) : WW l cc nL ret own R ca a E pc (x0 :: r) (.null :: st) μ := by
  subst hq
  intro p e s m args below meth c D Q nc ns S hE hf H locs ls hP hS hl
  exact lv_astore_nN S.1.1 S.1.2.1 d rfl (lh_has hl) hn rfl (fun ls' hl' => k p e s m args below meth c D Q nc ns S hE hf H locs ls' hP hS (lh_set hl rfl hl'))
theorem ww_iinc_0 (q : Nat) (hq : pc + 3 = q) {x : Int32} {r : List (Option Value)} (n : Int) (v : Int32) (d : decode cc pc = .ok (.iinc 0 n, 3)) (hv : Int32.ofInt n = v) (hn : 0 < nL) (k : WW l cc nL ret own R ca a E q (some (.int (x + v)) :: r) st μ) : WW l cc nL ret own R ca a E pc (some (.int x) :: r) st μ := by
  subst hq
  intro p e s m args below meth c D Q nc ns S hE hf H locs ls hP hS hl
  subst hv
  obtain ⟨j, hj⟩ := List.getElem?_of_mem (lpr_mem.mpr (show ((some (.int x) :: r) : List (Option Value))[((0, Value.int x) : Nat × Value).1]? = some (some ((0, Value.int x) : Nat × Value).2) from rfl))
  exact lv_iinc S.1.1 S.1.2.1 d (lh_has hl) hj rfl hn rfl (fun ls' hl' => k p e s m args below meth c D Q nc ns S hE hf H locs ls' hP hS (lh_set hl rfl hl'))
theorem ww_iload_1 (q : Nat) (hq : pc + 1 = q) {x : Int32} {x0 : Option Value} {r : List (Option Value)} (d : decode cc pc = .ok (.iload_n 1, 1)) (k : WW l cc nL ret own R ca a E q (x0 :: some (.int x) :: r) (.int x :: st) μ) : WW l cc nL ret own R ca a E pc (x0 :: some (.int x) :: r) st μ := by
  subst hq
  intro p e s m args below meth c D Q nc ns S hE hf H locs ls hP hS hl
  exact lv_iload_n S.1.1 S.1.2.1 d rfl (hl.2.2 1 _ rfl).2 (k p e s m args below meth c D Q nc ns S hE hf H locs ls hP hS hl)
theorem ww_istore_1 (q : Nat) (hq : pc + 1 = q) {x : Int32} {x0 : Option Value} {x1 : Option Value} {r : List (Option Value)} (d : decode cc pc = .ok (.istore_n 1, 1)) (hn : 1 < nL) (k : WW l cc nL ret own R ca a E q (x0 :: some (.int x) :: r) st μ) : WW l cc nL ret own R ca a E pc (x0 :: x1 :: r) (.int x :: st) μ := by
  subst hq
  intro p e s m args below meth c D Q nc ns S hE hf H locs ls hP hS hl
  exact lv_istore_n S.1.1 S.1.2.1 d rfl (lh_has hl) hn rfl (fun ls' hl' => k p e s m args below meth c D Q nc ns S hE hf H locs ls' hP hS (lh_set hl rfl hl'))
theorem ww_aload_1 (q : Nat) (hq : pc + 1 = q) {x : Nat} {x0 : Option Value} {r : List (Option Value)} (d : decode cc pc = .ok (.aload_n 1, 1)) (k : WW l cc nL ret own R ca a E q (x0 :: some (.ref x) :: r) (.ref x :: st) μ) : WW l cc nL ret own R ca a E pc (x0 :: some (.ref x) :: r) st μ := by
  subst hq
  intro p e s m args below meth c D Q nc ns S hE hf H locs ls hP hS hl
  exact lv_aload_n S.1.1 S.1.2.1 d rfl (hl.2.2 1 _ rfl).2 (k p e s m args below meth c D Q nc ns S hE hf H locs ls hP hS hl)
theorem ww_astore_1 (q : Nat) (hq : pc + 1 = q) {x : Nat} {x0 : Option Value} {x1 : Option Value} {r : List (Option Value)} (d : decode cc pc = .ok (.astore_n 1, 1)) (hn : 1 < nL) (k : WW l cc nL ret own R ca a E q (x0 :: some (.ref x) :: r) st μ) : WW l cc nL ret own R ca a E pc (x0 :: x1 :: r) (.ref x :: st) μ := by
  subst hq
  intro p e s m args below meth c D Q nc ns S hE hf H locs ls hP hS hl
  exact lv_astore_n S.1.1 S.1.2.1 d rfl (lh_has hl) hn rfl (fun ls' hl' => k p e s m args below meth c D Q nc ns S hE hf H locs ls' hP hS (lh_set hl rfl hl'))
theorem ww_aload_1N (q : Nat) (hq : pc + 1 = q)  {x0 : Option Value} {r : List (Option Value)} (d : decode cc pc = .ok (.aload_n 1, 1)) (k : WW l cc nL ret own R ca a E q (x0 :: some (.null) :: r) (.null :: st) μ) : WW l cc nL ret own R ca a E pc (x0 :: some (.null) :: r) st μ := by
  subst hq
  intro p e s m args below meth c D Q nc ns S hE hf H locs ls hP hS hl
  exact lv_aload_nN S.1.1 S.1.2.1 d rfl (hl.2.2 1 _ rfl).2 (k p e s m args below meth c D Q nc ns S hE hf H locs ls hP hS hl)
theorem ww_astore_1N (q : Nat) (hq : pc + 1 = q)  {x0 : Option Value} {x1 : Option Value} {r : List (Option Value)} (d : decode cc pc = .ok (.astore_n 1, 1)) (hn : 1 < nL) (k : WW l cc nL ret own R ca a E q (x0 :: some (.null) :: r) st μ) : WW l cc nL ret own R ca a E pc (x0 :: x1 :: r) (.null :: st) μ := by
  subst hq
  intro p e s m args below meth c D Q nc ns S hE hf H locs ls hP hS hl
  exact lv_astore_nN S.1.1 S.1.2.1 d rfl (lh_has hl) hn rfl (fun ls' hl' => k p e s m args below meth c D Q nc ns S hE hf H locs ls' hP hS (lh_set hl rfl hl'))
theorem ww_iinc_1 (q : Nat) (hq : pc + 3 = q) {x : Int32} {x0 : Option Value} {r : List (Option Value)} (n : Int) (v : Int32) (d : decode cc pc = .ok (.iinc 1 n, 3)) (hv : Int32.ofInt n = v) (hn : 1 < nL) (k : WW l cc nL ret own R ca a E q (x0 :: some (.int (x + v)) :: r) st μ) : WW l cc nL ret own R ca a E pc (x0 :: some (.int x) :: r) st μ := by
  subst hq
  intro p e s m args below meth c D Q nc ns S hE hf H locs ls hP hS hl
  subst hv
  obtain ⟨j, hj⟩ := List.getElem?_of_mem (lpr_mem.mpr (show ((x0 :: some (.int x) :: r) : List (Option Value))[((1, Value.int x) : Nat × Value).1]? = some (some ((1, Value.int x) : Nat × Value).2) from rfl))
  exact lv_iinc S.1.1 S.1.2.1 d (lh_has hl) hj rfl hn rfl (fun ls' hl' => k p e s m args below meth c D Q nc ns S hE hf H locs ls' hP hS (lh_set hl rfl hl'))
theorem ww_iload_2 (q : Nat) (hq : pc + 1 = q) {x : Int32} {x0 : Option Value} {x1 : Option Value} {r : List (Option Value)} (d : decode cc pc = .ok (.iload_n 2, 1)) (k : WW l cc nL ret own R ca a E q (x0 :: x1 :: some (.int x) :: r) (.int x :: st) μ) : WW l cc nL ret own R ca a E pc (x0 :: x1 :: some (.int x) :: r) st μ := by
  subst hq
  intro p e s m args below meth c D Q nc ns S hE hf H locs ls hP hS hl
  exact lv_iload_n S.1.1 S.1.2.1 d rfl (hl.2.2 2 _ rfl).2 (k p e s m args below meth c D Q nc ns S hE hf H locs ls hP hS hl)
theorem ww_istore_2 (q : Nat) (hq : pc + 1 = q) {x : Int32} {x0 : Option Value} {x1 : Option Value} {x2 : Option Value} {r : List (Option Value)} (d : decode cc pc = .ok (.istore_n 2, 1)) (hn : 2 < nL) (k : WW l cc nL ret own R ca a E q (x0 :: x1 :: some (.int x) :: r) st μ) : WW l cc nL ret own R ca a E pc (x0 :: x1 :: x2 :: r) (.int x :: st) μ := by
  subst hq
  intro p e s m args below meth c D Q nc ns S hE hf H locs ls hP hS hl
  exact lv_istore_n S.1.1 S.1.2.1 d rfl (lh_has hl) hn rfl (fun ls' hl' => k p e s m args below meth c D Q nc ns S hE hf H locs ls' hP hS (lh_set hl rfl hl'))
theorem ww_aload_2 (q : Nat) (hq : pc + 1 = q) {x : Nat} {x0 : Option Value} {x1 : Option Value} {r : List (Option Value)} (d : decode cc pc = .ok (.aload_n 2, 1)) (k : WW l cc nL ret own R ca a E q (x0 :: x1 :: some (.ref x) :: r) (.ref x :: st) μ) : WW l cc nL ret own R ca a E pc (x0 :: x1 :: some (.ref x) :: r) st μ := by
  subst hq
  intro p e s m args below meth c D Q nc ns S hE hf H locs ls hP hS hl
  exact lv_aload_n S.1.1 S.1.2.1 d rfl (hl.2.2 2 _ rfl).2 (k p e s m args below meth c D Q nc ns S hE hf H locs ls hP hS hl)
theorem ww_astore_2 (q : Nat) (hq : pc + 1 = q) {x : Nat} {x0 : Option Value} {x1 : Option Value} {x2 : Option Value} {r : List (Option Value)} (d : decode cc pc = .ok (.astore_n 2, 1)) (hn : 2 < nL) (k : WW l cc nL ret own R ca a E q (x0 :: x1 :: some (.ref x) :: r) st μ) : WW l cc nL ret own R ca a E pc (x0 :: x1 :: x2 :: r) (.ref x :: st) μ := by
  subst hq
  intro p e s m args below meth c D Q nc ns S hE hf H locs ls hP hS hl
  exact lv_astore_n S.1.1 S.1.2.1 d rfl (lh_has hl) hn rfl (fun ls' hl' => k p e s m args below meth c D Q nc ns S hE hf H locs ls' hP hS (lh_set hl rfl hl'))
theorem ww_aload_2N (q : Nat) (hq : pc + 1 = q)  {x0 : Option Value} {x1 : Option Value} {r : List (Option Value)} (d : decode cc pc = .ok (.aload_n 2, 1)) (k : WW l cc nL ret own R ca a E q (x0 :: x1 :: some (.null) :: r) (.null :: st) μ) : WW l cc nL ret own R ca a E pc (x0 :: x1 :: some (.null) :: r) st μ := by
  subst hq
  intro p e s m args below meth c D Q nc ns S hE hf H locs ls hP hS hl
  exact lv_aload_nN S.1.1 S.1.2.1 d rfl (hl.2.2 2 _ rfl).2 (k p e s m args below meth c D Q nc ns S hE hf H locs ls hP hS hl)
theorem ww_astore_2N (q : Nat) (hq : pc + 1 = q)  {x0 : Option Value} {x1 : Option Value} {x2 : Option Value} {r : List (Option Value)} (d : decode cc pc = .ok (.astore_n 2, 1)) (hn : 2 < nL) (k : WW l cc nL ret own R ca a E q (x0 :: x1 :: some (.null) :: r) st μ) : WW l cc nL ret own R ca a E pc (x0 :: x1 :: x2 :: r) (.null :: st) μ := by
  subst hq
  intro p e s m args below meth c D Q nc ns S hE hf H locs ls hP hS hl
  exact lv_astore_nN S.1.1 S.1.2.1 d rfl (lh_has hl) hn rfl (fun ls' hl' => k p e s m args below meth c D Q nc ns S hE hf H locs ls' hP hS (lh_set hl rfl hl'))
theorem ww_iinc_2 (q : Nat) (hq : pc + 3 = q) {x : Int32} {x0 : Option Value} {x1 : Option Value} {r : List (Option Value)} (n : Int) (v : Int32) (d : decode cc pc = .ok (.iinc 2 n, 3)) (hv : Int32.ofInt n = v) (hn : 2 < nL) (k : WW l cc nL ret own R ca a E q (x0 :: x1 :: some (.int (x + v)) :: r) st μ) : WW l cc nL ret own R ca a E pc (x0 :: x1 :: some (.int x) :: r) st μ := by
  subst hq
  intro p e s m args below meth c D Q nc ns S hE hf H locs ls hP hS hl
  subst hv
  obtain ⟨j, hj⟩ := List.getElem?_of_mem (lpr_mem.mpr (show ((x0 :: x1 :: some (.int x) :: r) : List (Option Value))[((2, Value.int x) : Nat × Value).1]? = some (some ((2, Value.int x) : Nat × Value).2) from rfl))
  exact lv_iinc S.1.1 S.1.2.1 d (lh_has hl) hj rfl hn rfl (fun ls' hl' => k p e s m args below meth c D Q nc ns S hE hf H locs ls' hP hS (lh_set hl rfl hl'))
theorem ww_iload_3 (q : Nat) (hq : pc + 1 = q) {x : Int32} {x0 : Option Value} {x1 : Option Value} {x2 : Option Value} {r : List (Option Value)} (d : decode cc pc = .ok (.iload_n 3, 1)) (k : WW l cc nL ret own R ca a E q (x0 :: x1 :: x2 :: some (.int x) :: r) (.int x :: st) μ) : WW l cc nL ret own R ca a E pc (x0 :: x1 :: x2 :: some (.int x) :: r) st μ := by
  subst hq
  intro p e s m args below meth c D Q nc ns S hE hf H locs ls hP hS hl
  exact lv_iload_n S.1.1 S.1.2.1 d rfl (hl.2.2 3 _ rfl).2 (k p e s m args below meth c D Q nc ns S hE hf H locs ls hP hS hl)
theorem ww_istore_3 (q : Nat) (hq : pc + 1 = q) {x : Int32} {x0 : Option Value} {x1 : Option Value} {x2 : Option Value} {x3 : Option Value} {r : List (Option Value)} (d : decode cc pc = .ok (.istore_n 3, 1)) (hn : 3 < nL) (k : WW l cc nL ret own R ca a E q (x0 :: x1 :: x2 :: some (.int x) :: r) st μ) : WW l cc nL ret own R ca a E pc (x0 :: x1 :: x2 :: x3 :: r) (.int x :: st) μ := by
  subst hq
  intro p e s m args below meth c D Q nc ns S hE hf H locs ls hP hS hl
  exact lv_istore_n S.1.1 S.1.2.1 d rfl (lh_has hl) hn rfl (fun ls' hl' => k p e s m args below meth c D Q nc ns S hE hf H locs ls' hP hS (lh_set hl rfl hl'))
theorem ww_aload_3 (q : Nat) (hq : pc + 1 = q) {x : Nat} {x0 : Option Value} {x1 : Option Value} {x2 : Option Value} {r : List (Option Value)} (d : decode cc pc = .ok (.aload_n 3, 1)) (k : WW l cc nL ret own R ca a E q (x0 :: x1 :: x2 :: some (.ref x) :: r) (.ref x :: st) μ) : WW l cc nL ret own R ca a E pc (x0 :: x1 :: x2 :: some (.ref x) :: r) st μ := by
  subst hq
  intro p e s m args below meth c D Q nc ns S hE hf H locs ls hP hS hl
  exact lv_aload_n S.1.1 S.1.2.1 d rfl (hl.2.2 3 _ rfl).2 (k p e s m args below meth c D Q nc ns S hE hf H locs ls hP hS hl)
theorem ww_astore_3 (q : Nat) (hq : pc + 1 = q) {x : Nat} {x0 : Option Value} {x1 : Option Value} {x2 : Option Value} {x3 : Option Value} {r : List (Option Value)} (d : decode cc pc = .ok (.astore_n 3, 1)) (hn : 3 < nL) (k : WW l cc nL ret own R ca a E q (x0 :: x1 :: x2 :: some (.ref x) :: r) st μ) : WW l cc nL ret own R ca a E pc (x0 :: x1 :: x2 :: x3 :: r) (.ref x :: st) μ := by
  subst hq
  intro p e s m args below meth c D Q nc ns S hE hf H locs ls hP hS hl
  exact lv_astore_n S.1.1 S.1.2.1 d rfl (lh_has hl) hn rfl (fun ls' hl' => k p e s m args below meth c D Q nc ns S hE hf H locs ls' hP hS (lh_set hl rfl hl'))
theorem ww_aload_3N (q : Nat) (hq : pc + 1 = q)  {x0 : Option Value} {x1 : Option Value} {x2 : Option Value} {r : List (Option Value)} (d : decode cc pc = .ok (.aload_n 3, 1)) (k : WW l cc nL ret own R ca a E q (x0 :: x1 :: x2 :: some (.null) :: r) (.null :: st) μ) : WW l cc nL ret own R ca a E pc (x0 :: x1 :: x2 :: some (.null) :: r) st μ := by
  subst hq
  intro p e s m args below meth c D Q nc ns S hE hf H locs ls hP hS hl
  exact lv_aload_nN S.1.1 S.1.2.1 d rfl (hl.2.2 3 _ rfl).2 (k p e s m args below meth c D Q nc ns S hE hf H locs ls hP hS hl)
theorem ww_astore_3N (q : Nat) (hq : pc + 1 = q)  {x0 : Option Value} {x1 : Option Value} {x2 : Option Value} {x3 : Option Value} {r : List (Option Value)} (d : decode cc pc = .ok (.astore_n 3, 1)) (hn : 3 < nL) (k : WW l cc nL ret own R ca a E q (x0 :: x1 :: x2 :: some (.null) :: r) st μ) : WW l cc nL ret own R ca a E pc (x0 :: x1 :: x2 :: x3 :: r) (.null :: st) μ := by
  subst hq
  intro p e s m args below meth c D Q nc ns S hE hf H locs ls hP hS hl
  exact lv_astore_nN S.1.1 S.1.2.1 d rfl (lh_has hl) hn rfl (fun ls' hl' => k p e s m args below meth c D Q nc ns S hE hf H locs ls' hP hS (lh_set hl rfl hl'))
theorem ww_iinc_3 (q : Nat) (hq : pc + 3 = q) {x : Int32} {x0 : Option Value} {x1 : Option Value} {x2 : Option Value} {r : List (Option Value)} (n : Int) (v : Int32) (d : decode cc pc = .ok (.iinc 3 n, 3)) (hv : Int32.ofInt n = v) (hn : 3 < nL) (k : WW l cc nL ret own R ca a E q (x0 :: x1 :: x2 :: some (.int (x + v)) :: r) st μ) : WW l cc nL ret own R ca a E pc (x0 :: x1 :: x2 :: some (.int x) :: r) st μ := by
  subst hq
  intro p e s m args below meth c D Q nc ns S hE hf H locs ls hP hS hl
  subst hv
  obtain ⟨j, hj⟩ := List.getElem?_of_mem (lpr_mem.mpr (show ((x0 :: x1 :: x2 :: some (.int x) :: r) : List (Option Value))[((3, Value.int x) : Nat × Value).1]? = some (some ((3, Value.int x) : Nat × Value).2) from rfl))
  exact lv_iinc S.1.1 S.1.2.1 d (lh_has hl) hj rfl hn rfl (fun ls' hl' => k p e s m args below meth c D Q nc ns S hE hf H locs ls' hP hS (lh_set hl rfl hl'))
theorem ww_iload_4 (q : Nat) (hq : pc + 2 = q) {x : Int32} {x0 : Option Value} {x1 : Option Value} {x2 : Option Value} {x3 : Option Value} {r : List (Option Value)} (d : decode cc pc = .ok (.iload 4, 2)) (k : WW l cc nL ret own R ca a E q (x0 :: x1 :: x2 :: x3 :: some (.int x) :: r) (.int x :: st) μ) : WW l cc nL ret own R ca a E pc (x0 :: x1 :: x2 :: x3 :: some (.int x) :: r) st μ := by
  subst hq
  intro p e s m args below meth c D Q nc ns S hE hf H locs ls hP hS hl
  exact lv_iload S.1.1 S.1.2.1 d (hl.2.2 4 _ rfl).2 (k p e s m args below meth c D Q nc ns S hE hf H locs ls hP hS hl)
theorem ww_istore_4 (q : Nat) (hq : pc + 2 = q) {x : Int32} {x0 : Option Value} {x1 : Option Value} {x2 : Option Value} {x3 : Option Value} {x4 : Option Value} {r : List (Option Value)} (d : decode cc pc = .ok (.istore 4, 2)) (hn : 4 < nL) (k : WW l cc nL ret own R ca a E q (x0 :: x1 :: x2 :: x3 :: some (.int x) :: r) st μ) : WW l cc nL ret own R ca a E pc (x0 :: x1 :: x2 :: x3 :: x4 :: r) (.int x :: st) μ := by
  subst hq
  intro p e s m args below meth c D Q nc ns S hE hf H locs ls hP hS hl
  exact lv_istore S.1.1 S.1.2.1 d (lh_has hl) hn rfl (fun ls' hl' => k p e s m args below meth c D Q nc ns S hE hf H locs ls' hP hS (lh_set hl rfl hl'))
theorem ww_aload_4 (q : Nat) (hq : pc + 2 = q) {x : Nat} {x0 : Option Value} {x1 : Option Value} {x2 : Option Value} {x3 : Option Value} {r : List (Option Value)} (d : decode cc pc = .ok (.aload 4, 2)) (k : WW l cc nL ret own R ca a E q (x0 :: x1 :: x2 :: x3 :: some (.ref x) :: r) (.ref x :: st) μ) : WW l cc nL ret own R ca a E pc (x0 :: x1 :: x2 :: x3 :: some (.ref x) :: r) st μ := by
  subst hq
  intro p e s m args below meth c D Q nc ns S hE hf H locs ls hP hS hl
  exact lv_aload S.1.1 S.1.2.1 d (hl.2.2 4 _ rfl).2 (k p e s m args below meth c D Q nc ns S hE hf H locs ls hP hS hl)
theorem ww_astore_4 (q : Nat) (hq : pc + 2 = q) {x : Nat} {x0 : Option Value} {x1 : Option Value} {x2 : Option Value} {x3 : Option Value} {x4 : Option Value} {r : List (Option Value)} (d : decode cc pc = .ok (.astore 4, 2)) (hn : 4 < nL) (k : WW l cc nL ret own R ca a E q (x0 :: x1 :: x2 :: x3 :: some (.ref x) :: r) st μ) : WW l cc nL ret own R ca a E pc (x0 :: x1 :: x2 :: x3 :: x4 :: r) (.ref x :: st) μ := by
  subst hq
  intro p e s m args below meth c D Q nc ns S hE hf H locs ls hP hS hl
  exact lv_astore S.1.1 S.1.2.1 d (lh_has hl) hn rfl (fun ls' hl' => k p e s m args below meth c D Q nc ns S hE hf H locs ls' hP hS (lh_set hl rfl hl'))
theorem ww_aload_4N (q : Nat) (hq : pc + 2 = q)  {x0 : Option Value} {x1 : Option Value} {x2 : Option Value} {x3 : Option Value} {r : List (Option Value)} (d : decode cc pc = .ok (.aload 4, 2)) (k : WW l cc nL ret own R ca a E q (x0 :: x1 :: x2 :: x3 :: some (.null) :: r) (.null :: st) μ) : WW l cc nL ret own R ca a E pc (x0 :: x1 :: x2 :: x3 :: some (.null) :: r) st μ := by
  subst hq
  intro p e s m args below meth c D Q nc ns S hE hf H locs ls hP hS hl
  exact lv_aloadN S.1.1 S.1.2.1 d (hl.2.2 4 _ rfl).2 (k p e s m args below meth c D Q nc ns S hE hf H locs ls hP hS hl)
theorem ww_astore_4N (q : Nat) (hq : pc + 2 = q)  {x0 : Option Value} {x1 : Option Value} {x2 : Option Value} {x3 : Option Value} {x4 : Option Value} {r : List (Option Value)} (d : decode cc pc = .ok (.astore 4, 2)) (hn : 4 < nL) (k : WW l cc nL ret own R ca a E q (x0 :: x1 :: x2 :: x3 :: some (.null) :: r) st μ) : WW l cc nL ret own R ca a E pc (x0 :: x1 :: x2 :: x3 :: x4 :: r) (.null :: st) μ := by
  subst hq
  intro p e s m args below meth c D Q nc ns S hE hf H locs ls hP hS hl
  exact lv_astoreN S.1.1 S.1.2.1 d (lh_has hl) hn rfl (fun ls' hl' => k p e s m args below meth c D Q nc ns S hE hf H locs ls' hP hS (lh_set hl rfl hl'))
theorem ww_iinc_4 (q : Nat) (hq : pc + 3 = q) {x : Int32} {x0 : Option Value} {x1 : Option Value} {x2 : Option Value} {x3 : Option Value} {r : List (Option Value)} (n : Int) (v : Int32) (d : decode cc pc = .ok (.iinc 4 n, 3)) (hv : Int32.ofInt n = v) (hn : 4 < nL) (k : WW l cc nL ret own R ca a E q (x0 :: x1 :: x2 :: x3 :: some (.int (x + v)) :: r) st μ) : WW l cc nL ret own R ca a E pc (x0 :: x1 :: x2 :: x3 :: some (.int x) :: r) st μ := by
  subst hq
  intro p e s m args below meth c D Q nc ns S hE hf H locs ls hP hS hl
  subst hv
  obtain ⟨j, hj⟩ := List.getElem?_of_mem (lpr_mem.mpr (show ((x0 :: x1 :: x2 :: x3 :: some (.int x) :: r) : List (Option Value))[((4, Value.int x) : Nat × Value).1]? = some (some ((4, Value.int x) : Nat × Value).2) from rfl))
  exact lv_iinc S.1.1 S.1.2.1 d (lh_has hl) hj rfl hn rfl (fun ls' hl' => k p e s m args below meth c D Q nc ns S hE hf H locs ls' hP hS (lh_set hl rfl hl'))
theorem ww_iload_5 (q : Nat) (hq : pc + 2 = q) {x : Int32} {x0 : Option Value} {x1 : Option Value} {x2 : Option Value} {x3 : Option Value} {x4 : Option Value} {r : List (Option Value)} (d : decode cc pc = .ok (.iload 5, 2)) (k : WW l cc nL ret own R ca a E q (x0 :: x1 :: x2 :: x3 :: x4 :: some (.int x) :: r) (.int x :: st) μ) : WW l cc nL ret own R ca a E pc (x0 :: x1 :: x2 :: x3 :: x4 :: some (.int x) :: r) st μ := by
  subst hq
  intro p e s m args below meth c D Q nc ns S hE hf H locs ls hP hS hl
  exact lv_iload S.1.1 S.1.2.1 d (hl.2.2 5 _ rfl).2 (k p e s m args below meth c D Q nc ns S hE hf H locs ls hP hS hl)
theorem ww_istore_5 (q : Nat) (hq : pc + 2 = q) {x : Int32} {x0 : Option Value} {x1 : Option Value} {x2 : Option Value} {x3 : Option Value} {x4 : Option Value} {x5 : Option Value} {r : List (Option Value)} (d : decode cc pc = .ok (.istore 5, 2)) (hn : 5 < nL) (k : WW l cc nL ret own R ca a E q (x0 :: x1 :: x2 :: x3 :: x4 :: some (.int x) :: r) st μ) : WW l cc nL ret own R ca a E pc (x0 :: x1 :: x2 :: x3 :: x4 :: x5 :: r) (.int x :: st) μ := by
  subst hq
  intro p e s m args below meth c D Q nc ns S hE hf H locs ls hP hS hl
  exact lv_istore S.1.1 S.1.2.1 d (lh_has hl) hn rfl (fun ls' hl' => k p e s m args below meth c D Q nc ns S hE hf H locs ls' hP hS (lh_set hl rfl hl'))
theorem ww_aload_5 (q : Nat) (hq : pc + 2 = q) {x : Nat} {x0 : Option Value} {x1 : Option Value} {x2 : Option Value} {x3 : Option Value} {x4 : Option Value} {r : List (Option Value)} (d : decode cc pc = .ok (.aload 5, 2)) (k : WW l cc nL ret own R ca a E q (x0 :: x1 :: x2 :: x3 :: x4 :: some (.ref x) :: r) (.ref x :: st) μ) : WW l cc nL ret own R ca a E pc (x0 :: x1 :: x2 :: x3 :: x4 :: some (.ref x) :: r) st μ := by
  subst hq
  intro p e s m args below meth c D Q nc ns S hE hf H locs ls hP hS hl
  exact lv_aload S.1.1 S.1.2.1 d (hl.2.2 5 _ rfl).2 (k p e s m args below meth c D Q nc ns S hE hf H locs ls hP hS hl)
theorem ww_astore_5 (q : Nat) (hq : pc + 2 = q) {x : Nat} {x0 : Option Value} {x1 : Option Value} {x2 : Option Value} {x3 : Option Value} {x4 : Option Value} {x5 : Option Value} {r : List (Option Value)} (d : decode cc pc = .ok (.astore 5, 2)) (hn : 5 < nL) (k : WW l cc nL ret own R ca a E q (x0 :: x1 :: x2 :: x3 :: x4 :: some (.ref x) :: r) st μ) : WW l cc nL ret own R ca a E pc (x0 :: x1 :: x2 :: x3 :: x4 :: x5 :: r) (.ref x :: st) μ := by
  subst hq
  intro p e s m args below meth c D Q nc ns S hE hf H locs ls hP hS hl
  exact lv_astore S.1.1 S.1.2.1 d (lh_has hl) hn rfl (fun ls' hl' => k p e s m args below meth c D Q nc ns S hE hf H locs ls' hP hS (lh_set hl rfl hl'))
theorem ww_aload_5N (q : Nat) (hq : pc + 2 = q)  {x0 : Option Value} {x1 : Option Value} {x2 : Option Value} {x3 : Option Value} {x4 : Option Value} {r : List (Option Value)} (d : decode cc pc = .ok (.aload 5, 2)) (k : WW l cc nL ret own R ca a E q (x0 :: x1 :: x2 :: x3 :: x4 :: some (.null) :: r) (.null :: st) μ) : WW l cc nL ret own R ca a E pc (x0 :: x1 :: x2 :: x3 :: x4 :: some (.null) :: r) st μ := by
  subst hq
  intro p e s m args below meth c D Q nc ns S hE hf H locs ls hP hS hl
  exact lv_aloadN S.1.1 S.1.2.1 d (hl.2.2 5 _ rfl).2 (k p e s m args below meth c D Q nc ns S hE hf H locs ls hP hS hl)
theorem ww_astore_5N (q : Nat) (hq : pc + 2 = q)  {x0 : Option Value} {x1 : Option Value} {x2 : Option Value} {x3 : Option Value} {x4 : Option Value} {x5 : Option Value} {r : List (Option Value)} (d : decode cc pc = .ok (.astore 5, 2)) (hn : 5 < nL) (k : WW l cc nL ret own R ca a E q (x0 :: x1 :: x2 :: x3 :: x4 :: some (.null) :: r) st μ) : WW l cc nL ret own R ca a E pc (x0 :: x1 :: x2 :: x3 :: x4 :: x5 :: r) (.null :: st) μ := by
  subst hq
  intro p e s m args below meth c D Q nc ns S hE hf H locs ls hP hS hl
  exact lv_astoreN S.1.1 S.1.2.1 d (lh_has hl) hn rfl (fun ls' hl' => k p e s m args below meth c D Q nc ns S hE hf H locs ls' hP hS (lh_set hl rfl hl'))
theorem ww_iinc_5 (q : Nat) (hq : pc + 3 = q) {x : Int32} {x0 : Option Value} {x1 : Option Value} {x2 : Option Value} {x3 : Option Value} {x4 : Option Value} {r : List (Option Value)} (n : Int) (v : Int32) (d : decode cc pc = .ok (.iinc 5 n, 3)) (hv : Int32.ofInt n = v) (hn : 5 < nL) (k : WW l cc nL ret own R ca a E q (x0 :: x1 :: x2 :: x3 :: x4 :: some (.int (x + v)) :: r) st μ) : WW l cc nL ret own R ca a E pc (x0 :: x1 :: x2 :: x3 :: x4 :: some (.int x) :: r) st μ := by
  subst hq
  intro p e s m args below meth c D Q nc ns S hE hf H locs ls hP hS hl
  subst hv
  obtain ⟨j, hj⟩ := List.getElem?_of_mem (lpr_mem.mpr (show ((x0 :: x1 :: x2 :: x3 :: x4 :: some (.int x) :: r) : List (Option Value))[((5, Value.int x) : Nat × Value).1]? = some (some ((5, Value.int x) : Nat × Value).2) from rfl))
  exact lv_iinc S.1.1 S.1.2.1 d (lh_has hl) hj rfl hn rfl (fun ls' hl' => k p e s m args below meth c D Q nc ns S hE hf H locs ls' hP hS (lh_set hl rfl hl'))
theorem ww_iload_6 (q : Nat) (hq : pc + 2 = q) {x : Int32} {x0 : Option Value} {x1 : Option Value} {x2 : Option Value} {x3 : Option Value} {x4 : Option Value} {x5 : Option Value} {r : List (Option Value)} (d : decode cc pc = .ok (.iload 6, 2)) (k : WW l cc nL ret own R ca a E q (x0 :: x1 :: x2 :: x3 :: x4 :: x5 :: some (.int x) :: r) (.int x :: st) μ) : WW l cc nL ret own R ca a E pc (x0 :: x1 :: x2 :: x3 :: x4 :: x5 :: some (.int x) :: r) st μ := by
  subst hq
  intro p e s m args below meth c D Q nc ns S hE hf H locs ls hP hS hl
  exact lv_iload S.1.1 S.1.2.1 d (hl.2.2 6 _ rfl).2 (k p e s m args below meth c D Q nc ns S hE hf H locs ls hP hS hl)
theorem ww_istore_6 (q : Nat) (hq : pc + 2 = q) {x : Int32} {x0 : Option Value} {x1 : Option Value} {x2 : Option Value} {x3 : Option Value} {x4 : Option Value} {x5 : Option Value} {x6 : Option Value} {r : List (Option Value)} (d : decode cc pc = .ok (.istore 6, 2)) (hn : 6 < nL) (k : WW l cc nL ret own R ca a E q (x0 :: x1 :: x2 :: x3 :: x4 :: x5 :: some (.int x) :: r) st μ) : WW l cc nL ret own R ca a E pc (x0 :: x1 :: x2 :: x3 :: x4 :: x5 :: x6 :: r) (.int x :: st) μ := by
  subst hq
  intro p e s m args below meth c D Q nc ns S hE hf H locs ls hP hS hl
  exact lv_istore S.1.1 S.1.2.1 d (lh_has hl) hn rfl (fun ls' hl' => k p e s m args below meth c D Q nc ns S hE hf H locs ls' hP hS (lh_set hl rfl hl'))
theorem ww_aload_6 (q : Nat) (hq : pc + 2 = q) {x : Nat} {x0 : Option Value} {x1 : Option Value} {x2 : Option Value} {x3 : Option Value} {x4 : Option Value} {x5 : Option Value} {r : List (Option Value)} (d : decode cc pc = .ok (.aload 6, 2)) (k : WW l cc nL ret own R ca a E q (x0 :: x1 :: x2 :: x3 :: x4 :: x5 :: some (.ref x) :: r) (.ref x :: st) μ) : WW l cc nL ret own R ca a E pc (x0 :: x1 :: x2 :: x3 :: x4 :: x5 :: some (.ref x) :: r) st μ := by
  subst hq
  intro p e s m args below meth c D Q nc ns S hE hf H locs ls hP hS hl
  exact lv_aload S.1.1 S.1.2.1 d (hl.2.2 6 _ rfl).2 (k p e s m args below meth c D Q nc ns S hE hf H locs ls hP hS hl)
theorem ww_astore_6 (q : Nat) (hq : pc + 2 = q) {x : Nat} {x0 : Option Value} {x1 : Option Value} {x2 : Option Value} {x3 : Option Value} {x4 : Option Value} {x5 : Option Value} {x6 : Option Value} {r : List (Option Value)} (d : decode cc pc = .ok (.astore 6, 2)) (hn : 6 < nL) (k : WW l cc nL ret own R ca a E q (x0 :: x1 :: x2 :: x3 :: x4 :: x5 :: some (.ref x) :: r) st μ) : WW l cc nL ret own R ca a E pc (x0 :: x1 :: x2 :: x3 :: x4 :: x5 :: x6 :: r) (.ref x :: st) μ := by
  subst hq
  intro p e s m args below meth c D Q nc ns S hE hf H locs ls hP hS hl
  exact lv_astore S.1.1 S.1.2.1 d (lh_has hl) hn rfl (fun ls' hl' => k p e s m args below meth c D Q nc ns S hE hf H locs ls' hP hS (lh_set hl rfl hl'))
theorem ww_aload_6N (q : Nat) (hq : pc + 2 = q)  {x0 : Option Value} {x1 : Option Value} {x2 : Option Value} {x3 : Option Value} {x4 : Option Value} {x5 : Option Value} {r : List (Option Value)} (d : decode cc pc = .ok (.aload 6, 2)) (k : WW l cc nL ret own R ca a E q (x0 :: x1 :: x2 :: x3 :: x4 :: x5 :: some (.null) :: r) (.null :: st) μ) : WW l cc nL ret own R ca a E pc (x0 :: x1 :: x2 :: x3 :: x4 :: x5 :: some (.null) :: r) st μ := by
  subst hq
  intro p e s m args below meth c D Q nc ns S hE hf H locs ls hP hS hl
  exact lv_aloadN S.1.1 S.1.2.1 d (hl.2.2 6 _ rfl).2 (k p e s m args below meth c D Q nc ns S hE hf H locs ls hP hS hl)
theorem ww_astore_6N (q : Nat) (hq : pc + 2 = q)  {x0 : Option Value} {x1 : Option Value} {x2 : Option Value} {x3 : Option Value} {x4 : Option Value} {x5 : Option Value} {x6 : Option Value} {r : List (Option Value)} (d : decode cc pc = .ok (.astore 6, 2)) (hn : 6 < nL) (k : WW l cc nL ret own R ca a E q (x0 :: x1 :: x2 :: x3 :: x4 :: x5 :: some (.null) :: r) st μ) : WW l cc nL ret own R ca a E pc (x0 :: x1 :: x2 :: x3 :: x4 :: x5 :: x6 :: r) (.null :: st) μ := by
  subst hq
  intro p e s m args below meth c D Q nc ns S hE hf H locs ls hP hS hl
  exact lv_astoreN S.1.1 S.1.2.1 d (lh_has hl) hn rfl (fun ls' hl' => k p e s m args below meth c D Q nc ns S hE hf H locs ls' hP hS (lh_set hl rfl hl'))
theorem ww_iinc_6 (q : Nat) (hq : pc + 3 = q) {x : Int32} {x0 : Option Value} {x1 : Option Value} {x2 : Option Value} {x3 : Option Value} {x4 : Option Value} {x5 : Option Value} {r : List (Option Value)} (n : Int) (v : Int32) (d : decode cc pc = .ok (.iinc 6 n, 3)) (hv : Int32.ofInt n = v) (hn : 6 < nL) (k : WW l cc nL ret own R ca a E q (x0 :: x1 :: x2 :: x3 :: x4 :: x5 :: some (.int (x + v)) :: r) st μ) : WW l cc nL ret own R ca a E pc (x0 :: x1 :: x2 :: x3 :: x4 :: x5 :: some (.int x) :: r) st μ := by
  subst hq
  intro p e s m args below meth c D Q nc ns S hE hf H locs ls hP hS hl
  subst hv
  obtain ⟨j, hj⟩ := List.getElem?_of_mem (lpr_mem.mpr (show ((x0 :: x1 :: x2 :: x3 :: x4 :: x5 :: some (.int x) :: r) : List (Option Value))[((6, Value.int x) : Nat × Value).1]? = some (some ((6, Value.int x) : Nat × Value).2) from rfl))
  exact lv_iinc S.1.1 S.1.2.1 d (lh_has hl) hj rfl hn rfl (fun ls' hl' => k p e s m args below meth c D Q nc ns S hE hf H locs ls' hP hS (lh_set hl rfl hl'))
theorem ww_iload_7 (q : Nat) (hq : pc + 2 = q) {x : Int32} {x0 : Option Value} {x1 : Option Value} {x2 : Option Value} {x3 : Option Value} {x4 : Option Value} {x5 : Option Value} {x6 : Option Value} {r : List (Option Value)} (d : decode cc pc = .ok (.iload 7, 2)) (k : WW l cc nL ret own R ca a E q (x0 :: x1 :: x2 :: x3 :: x4 :: x5 :: x6 :: some (.int x) :: r) (.int x :: st) μ) : WW l cc nL ret own R ca a E pc (x0 :: x1 :: x2 :: x3 :: x4 :: x5 :: x6 :: some (.int x) :: r) st μ := by
  subst hq
  intro p e s m args below meth c D Q nc ns S hE hf H locs ls hP hS hl
  exact lv_iload S.1.1 S.1.2.1 d (hl.2.2 7 _ rfl).2 (k p e s m args below meth c D Q nc ns S hE hf H locs ls hP hS hl)
theorem ww_istore_7 (q : Nat) (hq : pc + 2 = q) {x : Int32} {x0 : Option Value} {x1 : Option Value} {x2 : Option Value} {x3 : Option Value} {x4 : Option Value} {x5 : Option Value} {x6 : Option Value} {x7 : Option Value} {r : List (Option Value)} (d : decode cc pc = .ok (.istore 7, 2)) (hn : 7 < nL) (k : WW l cc nL ret own R ca a E q (x0 :: x1 :: x2 :: x3 :: x4 :: x5 :: x6 :: some (.int x) :: r) st μ) : WW l cc nL ret own R ca a E pc (x0 :: x1 :: x2 :: x3 :: x4 :: x5 :: x6 :: x7 :: r) (.int x :: st) μ := by
  subst hq
  intro p e s m args below meth c D Q nc ns S hE hf H locs ls hP hS hl
  exact lv_istore S.1.1 S.1.2.1 d (lh_has hl) hn rfl (fun ls' hl' => k p e s m args below meth c D Q nc ns S hE hf H locs ls' hP hS (lh_set hl rfl hl'))
theorem ww_aload_7 (q : Nat) (hq : pc + 2 = q) {x : Nat} {x0 : Option Value} {x1 : Option Value} {x2 : Option Value} {x3 : Option Value} {x4 : Option Value} {x5 : Option Value} {x6 : Option Value} {r : List (Option Value)} (d : decode cc pc = .ok (.aload 7, 2)) (k : WW l cc nL ret own R ca a E q (x0 :: x1 :: x2 :: x3 :: x4 :: x5 :: x6 :: some (.ref x) :: r) (.ref x :: st) μ) : WW l cc nL ret own R ca a E pc (x0 :: x1 :: x2 :: x3 :: x4 :: x5 :: x6 :: some (.ref x) :: r) st μ := by
  subst hq
  intro p e s m args below meth c D Q nc ns S hE hf H locs ls hP hS hl
  exact lv_aload S.1.1 S.1.2.1 d (hl.2.2 7 _ rfl).2 (k p e s m args below meth c D Q nc ns S hE hf H locs ls hP hS hl)
theorem ww_astore_7 (q : Nat) (hq : pc + 2 = q) {x : Nat} {x0 : Option Value} {x1 : Option Value} {x2 : Option Value} {x3 : Option Value} {x4 : Option Value} {x5 : Option Value} {x6 : Option Value} {x7 : Option Value} {r : List (Option Value)} (d : decode cc pc = .ok (.astore 7, 2)) (hn : 7 < nL) (k : WW l cc nL ret own R ca a E q (x0 :: x1 :: x2 :: x3 :: x4 :: x5 :: x6 :: some (.ref x) :: r) st μ) : WW l cc nL ret own R ca a E pc (x0 :: x1 :: x2 :: x3 :: x4 :: x5 :: x6 :: x7 :: r) (.ref x :: st) μ := by
  subst hq
  intro p e s m args below meth c D Q nc ns S hE hf H locs ls hP hS hl
  exact lv_astore S.1.1 S.1.2.1 d (lh_has hl) hn rfl (fun ls' hl' => k p e s m args below meth c D Q nc ns S hE hf H locs ls' hP hS (lh_set hl rfl hl'))
theorem ww_aload_7N (q : Nat) (hq : pc + 2 = q)  {x0 : Option Value} {x1 : Option Value} {x2 : Option Value} {x3 : Option Value} {x4 : Option Value} {x5 : Option Value} {x6 : Option Value} {r : List (Option Value)} (d : decode cc pc = .ok (.aload 7, 2)) (k : WW l cc nL ret own R ca a E q (x0 :: x1 :: x2 :: x3 :: x4 :: x5 :: x6 :: some (.null) :: r) (.null :: st) μ) : WW l cc nL ret own R ca a E pc (x0 :: x1 :: x2 :: x3 :: x4 :: x5 :: x6 :: some (.null) :: r) st μ := by
  subst hq
  intro p e s m args below meth c D Q nc ns S hE hf H locs ls hP hS hl
  exact lv_aloadN S.1.1 S.1.2.1 d (hl.2.2 7 _ rfl).2 (k p e s m args below meth c D Q nc ns S hE hf H locs ls hP hS hl)
theorem ww_astore_7N (q : Nat) (hq : pc + 2 = q)  {x0 : Option Value} {x1 : Option Value} {x2 : Option Value} {x3 : Option Value} {x4 : Option Value} {x5 : Option Value} {x6 : Option Value} {x7 : Option Value} {r : List (Option Value)} (d : decode cc pc = .ok (.astore 7, 2)) (hn : 7 < nL) (k : WW l cc nL ret own R ca a E q (x0 :: x1 :: x2 :: x3 :: x4 :: x5 :: x6 :: some (.null) :: r) st μ) : WW l cc nL ret own R ca a E pc (x0 :: x1 :: x2 :: x3 :: x4 :: x5 :: x6 :: x7 :: r) (.null :: st) μ := by
  subst hq
  intro p e s m args below meth c D Q nc ns S hE hf H locs ls hP hS hl
  exact lv_astoreN S.1.1 S.1.2.1 d (lh_has hl) hn rfl (fun ls' hl' => k p e s m args below meth c D Q nc ns S hE hf H locs ls' hP hS (lh_set hl rfl hl'))
theorem ww_iinc_7 (q : Nat) (hq : pc + 3 = q) {x : Int32} {x0 : Option Value} {x1 : Option Value} {x2 : Option Value} {x3 : Option Value} {x4 : Option Value} {x5 : Option Value} {x6 : Option Value} {r : List (Option Value)} (n : Int) (v : Int32) (d : decode cc pc = .ok (.iinc 7 n, 3)) (hv : Int32.ofInt n = v) (hn : 7 < nL) (k : WW l cc nL ret own R ca a E q (x0 :: x1 :: x2 :: x3 :: x4 :: x5 :: x6 :: some (.int (x + v)) :: r) st μ) : WW l cc nL ret own R ca a E pc (x0 :: x1 :: x2 :: x3 :: x4 :: x5 :: x6 :: some (.int x) :: r) st μ := by
  subst hq
  intro p e s m args below meth c D Q nc ns S hE hf H locs ls hP hS hl
  subst hv
  obtain ⟨j, hj⟩ := List.getElem?_of_mem (lpr_mem.mpr (show ((x0 :: x1 :: x2 :: x3 :: x4 :: x5 :: x6 :: some (.int x) :: r) : List (Option Value))[((7, Value.int x) : Nat × Value).1]? = some (some ((7, Value.int x) : Nat × Value).2) from rfl))
  exact lv_iinc S.1.1 S.1.2.1 d (lh_has hl) hj rfl hn rfl (fun ls' hl' => k p e s m args below meth c D Q nc ns S hE hf H locs ls' hP hS (lh_set hl rfl hl'))
theorem ww_iload_8 (q : Nat) (hq : pc + 2 = q) {x : Int32} {x0 : Option Value} {x1 : Option Value} {x2 : Option Value} {x3 : Option Value} {x4 : Option Value} {x5 : Option Value} {x6 : Option Value} {x7 : Option Value} {r : List (Option Value)} (d : decode cc pc = .ok (.iload 8, 2)) (k : WW l cc nL ret own R ca a E q (x0 :: x1 :: x2 :: x3 :: x4 :: x5 :: x6 :: x7 :: some (.int x) :: r) (.int x :: st) μ) : WW l cc nL ret own R ca a E pc (x0 :: x1 :: x2 :: x3 :: x4 :: x5 :: x6 :: x7 :: some (.int x) :: r) st μ := by
  subst hq
  intro p e s m args below meth c D Q nc ns S hE hf H locs ls hP hS hl
  exact lv_iload S.1.1 S.1.2.1 d (hl.2.2 8 _ rfl).2 (k p e s m args below meth c D Q nc ns S hE hf H locs ls hP hS hl)
theorem ww_istore_8 (q : Nat) (hq : pc + 2 = q) {x : Int32} {x0 : Option Value} {x1 : Option Value} {x2 : Option Value} {x3 : Option Value} {x4 : Option Value} {x5 : Option Value} {x6 : Option Value} {x7 : Option Value} {x8 : Option Value} {r : List (Option Value)} (d : decode cc pc = .ok (.istore 8, 2)) (hn : 8 < nL) (k : WW l cc nL ret own R ca a E q (x0 :: x1 :: x2 :: x3 :: x4 :: x5 :: x6 :: x7 :: some (.int x) :: r) st μ) : WW l cc nL ret own R ca a E pc (x0 :: x1 :: x2 :: x3 :: x4 :: x5 :: x6 :: x7 :: x8 :: r) (.int x :: st) μ := by
  subst hq
  intro p e s m args below meth c D Q nc ns S hE hf H locs ls hP hS hl
  exact lv_istore S.1.1 S.1.2.1 d (lh_has hl) hn rfl (fun ls' hl' => k p e s m args below meth c D Q nc ns S hE hf H locs ls' hP hS (lh_set hl rfl hl'))
theorem ww_aload_8 (q : Nat) (hq : pc + 2 = q) {x : Nat} {x0 : Option Value} {x1 : Option Value} {x2 : Option Value} {x3 : Option Value} {x4 : Option Value} {x5 : Option Value} {x6 : Option Value} {x7 : Option Value} {r : List (Option Value)} (d : decode cc pc = .ok (.aload 8, 2)) (k : WW l cc nL ret own R ca a E q (x0 :: x1 :: x2 :: x3 :: x4 :: x5 :: x6 :: x7 :: some (.ref x) :: r) (.ref x :: st) μ) : WW l cc nL ret own R ca a E pc (x0 :: x1 :: x2 :: x3 :: x4 :: x5 :: x6 :: x7 :: some (.ref x) :: r) st μ := by
  subst hq
  intro p e s m args below meth c D Q nc ns S hE hf H locs ls hP hS hl
  exact lv_aload S.1.1 S.1.2.1 d (hl.2.2 8 _ rfl).2 (k p e s m args below meth c D Q nc ns S hE hf H locs ls hP hS hl)
theorem ww_astore_8 (q : Nat) (hq : pc + 2 = q) {x : Nat} {x0 : Option Value} {x1 : Option Value} {x2 : Option Value} {x3 : Option Value} {x4 : Option Value} {x5 : Option Value} {x6 : Option Value} {x7 : Option Value} {x8 : Option Value} {r : List (Option Value)} (d : decode cc pc = .ok (.astore 8, 2)) (hn : 8 < nL) (k : WW l cc nL ret own R ca a E q (x0 :: x1 :: x2 :: x3 :: x4 :: x5 :: x6 :: x7 :: some (.ref x) :: r) st μ) : WW l cc nL ret own R ca a E pc (x0 :: x1 :: x2 :: x3 :: x4 :: x5 :: x6 :: x7 :: x8 :: r) (.ref x :: st) μ := by
  subst hq
  intro p e s m args below meth c D Q nc ns S hE hf H locs ls hP hS hl
  exact lv_astore S.1.1 S.1.2.1 d (lh_has hl) hn rfl (fun ls' hl' => k p e s m args below meth c D Q nc ns S hE hf H locs ls' hP hS (lh_set hl rfl hl'))
theorem ww_aload_8N (q : Nat) (hq : pc + 2 = q)  {x0 : Option Value} {x1 : Option Value} {x2 : Option Value} {x3 : Option Value} {x4 : Option Value} {x5 : Option Value} {x6 : Option Value} {x7 : Option Value} {r : List (Option Value)} (d : decode cc pc = .ok (.aload 8, 2)) (k : WW l cc nL ret own R ca a E q (x0 :: x1 :: x2 :: x3 :: x4 :: x5 :: x6 :: x7 :: some (.null) :: r) (.null :: st) μ) : WW l cc nL ret own R ca a E pc (x0 :: x1 :: x2 :: x3 :: x4 :: x5 :: x6 :: x7 :: some (.null) :: r) st μ := by
  subst hq
  intro p e s m args below meth c D Q nc ns S hE hf H locs ls hP hS hl
  exact lv_aloadN S.1.1 S.1.2.1 d (hl.2.2 8 _ rfl).2 (k p e s m args below meth c D Q nc ns S hE hf H locs ls hP hS hl)
theorem ww_astore_8N (q : Nat) (hq : pc + 2 = q)  {x0 : Option Value} {x1 : Option Value} {x2 : Option Value} {x3 : Option Value} {x4 : Option Value} {x5 : Option Value} {x6 : Option Value} {x7 : Option Value} {x8 : Option Value} {r : List (Option Value)} (d : decode cc pc = .ok (.astore 8, 2)) (hn : 8 < nL) (k : WW l cc nL ret own R ca a E q (x0 :: x1 :: x2 :: x3 :: x4 :: x5 :: x6 :: x7 :: some (.null) :: r) st μ) : WW l cc nL ret own R ca a E pc (x0 :: x1 :: x2 :: x3 :: x4 :: x5 :: x6 :: x7 :: x8 :: r) (.null :: st) μ := by
  subst hq
  intro p e s m args below meth c D Q nc ns S hE hf H locs ls hP hS hl
  exact lv_astoreN S.1.1 S.1.2.1 d (lh_has hl) hn rfl (fun ls' hl' => k p e s m args below meth c D Q nc ns S hE hf H locs ls' hP hS (lh_set hl rfl hl'))
theorem ww_iinc_8 (q : Nat) (hq : pc + 3 = q) {x : Int32} {x0 : Option Value} {x1 : Option Value} {x2 : Option Value} {x3 : Option Value} {x4 : Option Value} {x5 : Option Value} {x6 : Option Value} {x7 : Option Value} {r : List (Option Value)} (n : Int) (v : Int32) (d : decode cc pc = .ok (.iinc 8 n, 3)) (hv : Int32.ofInt n = v) (hn : 8 < nL) (k : WW l cc nL ret own R ca a E q (x0 :: x1 :: x2 :: x3 :: x4 :: x5 :: x6 :: x7 :: some (.int (x + v)) :: r) st μ) : WW l cc nL ret own R ca a E pc (x0 :: x1 :: x2 :: x3 :: x4 :: x5 :: x6 :: x7 :: some (.int x) :: r) st μ := by
  subst hq
  intro p e s m args below meth c D Q nc ns S hE hf H locs ls hP hS hl
  subst hv
  obtain ⟨j, hj⟩ := List.getElem?_of_mem (lpr_mem.mpr (show ((x0 :: x1 :: x2 :: x3 :: x4 :: x5 :: x6 :: x7 :: some (.int x) :: r) : List (Option Value))[((8, Value.int x) : Nat × Value).1]? = some (some ((8, Value.int x) : Nat × Value).2) from rfl))
  exact lv_iinc S.1.1 S.1.2.1 d (lh_has hl) hj rfl hn rfl (fun ls' hl' => k p e s m args below meth c D Q nc ns S hE hf H locs ls' hP hS (lh_set hl rfl hl'))
theorem ww_iload_9 (q : Nat) (hq : pc + 2 = q) {x : Int32} {x0 : Option Value} {x1 : Option Value} {x2 : Option Value} {x3 : Option Value} {x4 : Option Value} {x5 : Option Value} {x6 : Option Value} {x7 : Option Value} {x8 : Option Value} {r : List (Option Value)} (d : decode cc pc = .ok (.iload 9, 2)) (k : WW l cc nL ret own R ca a E q (x0 :: x1 :: x2 :: x3 :: x4 :: x5 :: x6 :: x7 :: x8 :: some (.int x) :: r) (.int x :: st) μ) : WW l cc nL ret own R ca a E pc (x0 :: x1 :: x2 :: x3 :: x4 :: x5 :: x6 :: x7 :: x8 :: some (.int x) :: r) st μ := by
  subst hq
  intro p e s m args below meth c D Q nc ns S hE hf H locs ls hP hS hl
  exact lv_iload S.1.1 S.1.2.1 d (hl.2.2 9 _ rfl).2 (k p e s m args below meth c D Q nc ns S hE hf H locs ls hP hS hl)
theorem ww_istore_9 (q : Nat) (hq : pc + 2 = q) {x : Int32} {x0 : Option Value} {x1 : Option Value} {x2 : Option Value} {x3 : Option Value} {x4 : Option Value} {x5 : Option Value} {x6 : Option Value} {x7 : Option Value} {x8 : Option Value} {x9 : Option Value} {r : List (Option Value)} (d : decode cc pc = .ok (.istore 9, 2)) (hn : 9 < nL) (k : WW l cc nL ret own R ca a E q (x0 :: x1 :: x2 :: x3 :: x4 :: x5 :: x6 :: x7 :: x8 :: some (.int x) :: r) st μ) : WW l cc nL ret own R ca a E pc (x0 :: x1 :: x2 :: x3 :: x4 :: x5 :: x6 :: x7 :: x8 :: x9 :: r) (.int x :: st) μ := by
  subst hq
  intro p e s m args below meth c D Q nc ns S hE hf H locs ls hP hS hl
  exact lv_istore S.1.1 S.1.2.1 d (lh_has hl) hn rfl (fun ls' hl' => k p e s m args below meth c D Q nc ns S hE hf H locs ls' hP hS (lh_set hl rfl hl'))
theorem ww_aload_9 (q : Nat) (hq : pc + 2 = q) {x : Nat} {x0 : Option Value} {x1 : Option Value} {x2 : Option Value} {x3 : Option Value} {x4 : Option Value} {x5 : Option Value} {x6 : Option Value} {x7 : Option Value} {x8 : Option Value} {r : List (Option Value)} (d : decode cc pc = .ok (.aload 9, 2)) (k : WW l cc nL ret own R ca a E q (x0 :: x1 :: x2 :: x3 :: x4 :: x5 :: x6 :: x7 :: x8 :: some (.ref x) :: r) (.ref x :: st) μ) : WW l cc nL ret own R ca a E pc (x0 :: x1 :: x2 :: x3 :: x4 :: x5 :: x6 :: x7 :: x8 :: some (.ref x) :: r) st μ := by
  subst hq
  intro p e s m args below meth c D Q nc ns S hE hf H locs ls hP hS hl
  exact lv_aload S.1.1 S.1.2.1 d (hl.2.2 9 _ rfl).2 (k p e s m args below meth c D Q nc ns S hE hf H locs ls hP hS hl)
theorem ww_astore_9 (q : Nat) (hq : pc + 2 = q) {x : Nat} {x0 : Option Value} {x1 : Option Value} {x2 : Option Value} {x3 : Option Value} {x4 : Option Value} {x5 : Option Value} {x6 : Option Value} {x7 : Option Value} {x8 : Option Value} {x9 : Option Value} {r : List (Option Value)} (d : decode cc pc = .ok (.astore 9, 2)) (hn : 9 < nL) (k : WW l cc nL ret own R ca a E q (x0 :: x1 :: x2 :: x3 :: x4 :: x5 :: x6 :: x7 :: x8 :: some (.ref x) :: r) st μ) : WW l cc nL ret own R ca a E pc (x0 :: x1 :: x2 :: x3 :: x4 :: x5 :: x6 :: x7 :: x8 :: x9 :: r) (.ref x :: st) μ := by
  subst hq
  intro p e s m args below meth c D Q nc ns S hE hf H locs ls hP hS hl
  exact lv_astore S.1.1 S.1.2.1 d (lh_has hl) hn rfl (fun ls' hl' => k p e s m args below meth c D Q nc ns S hE hf H locs ls' hP hS (lh_set hl rfl hl'))
theorem ww_aload_9N (q : Nat) (hq : pc + 2 = q)  {x0 : Option Value} {x1 : Option Value} {x2 : Option Value} {x3 : Option Value} {x4 : Option Value} {x5 : Option Value} {x6 : Option Value} {x7 : Option Value} {x8 : Option Value} {r : List (Option Value)} (d : decode cc pc = .ok (.aload 9, 2)) (k : WW l cc nL ret own R ca a E q (x0 :: x1 :: x2 :: x3 :: x4 :: x5 :: x6 :: x7 :: x8 :: some (.null) :: r) (.null :: st) μ) : WW l cc nL ret own R ca a E pc (x0 :: x1 :: x2 :: x3 :: x4 :: x5 :: x6 :: x7 :: x8 :: some (.null) :: r) st μ := by
  subst hq
  intro p e s m args below meth c D Q nc ns S hE hf H locs ls hP hS hl
  exact lv_aloadN S.1.1 S.1.2.1 d (hl.2.2 9 _ rfl).2 (k p e s m args below meth c D Q nc ns S hE hf H locs ls hP hS hl)
theorem ww_astore_9N (q : Nat) (hq : pc + 2 = q)  {x0 : Option Value} {x1 : Option Value} {x2 : Option Value} {x3 : Option Value} {x4 : Option Value} {x5 : Option Value} {x6 : Option Value} {x7 : Option Value} {x8 : Option Value} {x9 : Option Value} {r : List (Option Value)} (d : decode cc pc = .ok (.astore 9, 2)) (hn : 9 < nL) (k : WW l cc nL ret own R ca a E q (x0 :: x1 :: x2 :: x3 :: x4 :: x5 :: x6 :: x7 :: x8 :: some (.null) :: r) st μ) : WW l cc nL ret own R ca a E pc (x0 :: x1 :: x2 :: x3 :: x4 :: x5 :: x6 :: x7 :: x8 :: x9 :: r) (.null :: st) μ := by
  subst hq
  intro p e s m args below meth c D Q nc ns S hE hf H locs ls hP hS hl
  exact lv_astoreN S.1.1 S.1.2.1 d (lh_has hl) hn rfl (fun ls' hl' => k p e s m args below meth c D Q nc ns S hE hf H locs ls' hP hS (lh_set hl rfl hl'))
theorem ww_iinc_9 (q : Nat) (hq : pc + 3 = q) {x : Int32} {x0 : Option Value} {x1 : Option Value} {x2 : Option Value} {x3 : Option Value} {x4 : Option Value} {x5 : Option Value} {x6 : Option Value} {x7 : Option Value} {x8 : Option Value} {r : List (Option Value)} (n : Int) (v : Int32) (d : decode cc pc = .ok (.iinc 9 n, 3)) (hv : Int32.ofInt n = v) (hn : 9 < nL) (k : WW l cc nL ret own R ca a E q (x0 :: x1 :: x2 :: x3 :: x4 :: x5 :: x6 :: x7 :: x8 :: some (.int (x + v)) :: r) st μ) : WW l cc nL ret own R ca a E pc (x0 :: x1 :: x2 :: x3 :: x4 :: x5 :: x6 :: x7 :: x8 :: some (.int x) :: r) st μ := by
  subst hq
  intro p e s m args below meth c D Q nc ns S hE hf H locs ls hP hS hl
  subst hv
  obtain ⟨j, hj⟩ := List.getElem?_of_mem (lpr_mem.mpr (show ((x0 :: x1 :: x2 :: x3 :: x4 :: x5 :: x6 :: x7 :: x8 :: some (.int x) :: r) : List (Option Value))[((9, Value.int x) : Nat × Value).1]? = some (some ((9, Value.int x) : Nat × Value).2) from rfl))
  exact lv_iinc S.1.1 S.1.2.1 d (lh_has hl) hj rfl hn rfl (fun ls' hl' => k p e s m args below meth c D Q nc ns S hE hf H locs ls' hP hS (lh_set hl rfl hl'))
theorem ww_icmp_eq (q : Nat) (hq : pc + 3 = q) {x y : Int32} (o : Int) (t : Nat) (d : decode cc pc = .ok (.if_icmp .eq o, 3)) (ht : (pc : Int) + o = (t : Int)) (kt : x = y → WW l cc nL ret own R ca a E t lv st μ) (kf : ¬ x = y → WW l cc nL ret own R ca a E q lv st μ) : WW l cc nL ret own R ca a E pc lv (.int y :: .int x :: st) μ := by
  subst hq
  intro p e s m args below meth c D Q nc ns S hE hf H locs ls hP hS hl
  exact lv_icmp_eq S.1.1 S.1.2.1 d ht (fun h => kt h p e s m args below meth c D Q nc ns S hE hf H locs ls hP hS hl) (fun h => kf h p e s m args below meth c D Q nc ns S hE hf H locs ls hP hS hl)
theorem ww_if_eq (q : Nat) (hq : pc + 3 = q) {x : Int32} (o : Int) (t : Nat) (d : decode cc pc = .ok (.ifCond .eq o, 3)) (ht : (pc : Int) + o = (t : Int)) (kt : x = 0 → WW l cc nL ret own R ca a E t lv st μ) (kf : ¬ x = 0 → WW l cc nL ret own R ca a E q lv st μ) : WW l cc nL ret own R ca a E pc lv (.int x :: st) μ := by
  subst hq
  intro p e s m args below meth c D Q nc ns S hE hf H locs ls hP hS hl
  exact lv_if_eq S.1.1 S.1.2.1 d ht (fun h => kt h p e s m args below meth c D Q nc ns S hE hf H locs ls hP hS hl) (fun h => kf h p e s m args below meth c D Q nc ns S hE hf H locs ls hP hS hl)
theorem ww_icmp_ne (q : Nat) (hq : pc + 3 = q) {x y : Int32} (o : Int) (t : Nat) (d : decode cc pc = .ok (.if_icmp .ne o, 3)) (ht : (pc : Int) + o = (t : Int)) (kt : ¬ x = y → WW l cc nL ret own R ca a E t lv st μ) (kf : x = y → WW l cc nL ret own R ca a E q lv st μ) : WW l cc nL ret own R ca a E pc lv (.int y :: .int x :: st) μ := by
  subst hq
  intro p e s m args below meth c D Q nc ns S hE hf H locs ls hP hS hl
  exact lv_icmp_ne S.1.1 S.1.2.1 d ht (fun h => kt h p e s m args below meth c D Q nc ns S hE hf H locs ls hP hS hl) (fun h => kf h p e s m args below meth c D Q nc ns S hE hf H locs ls hP hS hl)
theorem ww_if_ne (q : Nat) (hq : pc + 3 = q) {x : Int32} (o : Int) (t : Nat) (d : decode cc pc = .ok (.ifCond .ne o, 3)) (ht : (pc : Int) + o = (t : Int)) (kt : ¬ x = 0 → WW l cc nL ret own R ca a E t lv st μ) (kf : x = 0 → WW l cc nL ret own R ca a E q lv st μ) : WW l cc nL ret own R ca a E pc lv (.int x :: st) μ := by
  subst hq
  intro p e s m args below meth c D Q nc ns S hE hf H locs ls hP hS hl
  exact lv_if_ne S.1.1 S.1.2.1 d ht (fun h => kt h p e s m args below meth c D Q nc ns S hE hf H locs ls hP hS hl) (fun h => kf h p e s m args below meth c D Q nc ns S hE hf H locs ls hP hS hl)
theorem ww_icmp_lt (q : Nat) (hq : pc + 3 = q) {x y : Int32} (o : Int) (t : Nat) (d : decode cc pc = .ok (.if_icmp .lt o, 3)) (ht : (pc : Int) + o = (t : Int)) (kt : x < y → WW l cc nL ret own R ca a E t lv st μ) (kf : ¬ x < y → WW l cc nL ret own R ca a E q lv st μ) : WW l cc nL ret own R ca a E pc lv (.int y :: .int x :: st) μ := by
  subst hq
  intro p e s m args below meth c D Q nc ns S hE hf H locs ls hP hS hl
  exact lv_icmp_lt S.1.1 S.1.2.1 d ht (fun h => kt h p e s m args below meth c D Q nc ns S hE hf H locs ls hP hS hl) (fun h => kf h p e s m args below meth c D Q nc ns S hE hf H locs ls hP hS hl)
theorem ww_if_lt (q : Nat) (hq : pc + 3 = q) {x : Int32} (o : Int) (t : Nat) (d : decode cc pc = .ok (.ifCond .lt o, 3)) (ht : (pc : Int) + o = (t : Int)) (kt : x < 0 → WW l cc nL ret own R ca a E t lv st μ) (kf : ¬ x < 0 → WW l cc nL ret own R ca a E q lv st μ) : WW l cc nL ret own R ca a E pc lv (.int x :: st) μ := by
  subst hq
  intro p e s m args below meth c D Q nc ns S hE hf H locs ls hP hS hl
  exact lv_if_lt S.1.1 S.1.2.1 d ht (fun h => kt h p e s m args below meth c D Q nc ns S hE hf H locs ls hP hS hl) (fun h => kf h p e s m args below meth c D Q nc ns S hE hf H locs ls hP hS hl)
theorem ww_icmp_ge (q : Nat) (hq : pc + 3 = q) {x y : Int32} (o : Int) (t : Nat) (d : decode cc pc = .ok (.if_icmp .ge o, 3)) (ht : (pc : Int) + o = (t : Int)) (kt : y ≤ x → WW l cc nL ret own R ca a E t lv st μ) (kf : ¬ y ≤ x → WW l cc nL ret own R ca a E q lv st μ) : WW l cc nL ret own R ca a E pc lv (.int y :: .int x :: st) μ := by
  subst hq
  intro p e s m args below meth c D Q nc ns S hE hf H locs ls hP hS hl
  exact lv_icmp_ge S.1.1 S.1.2.1 d ht (fun h => kt h p e s m args below meth c D Q nc ns S hE hf H locs ls hP hS hl) (fun h => kf h p e s m args below meth c D Q nc ns S hE hf H locs ls hP hS hl)
theorem ww_if_ge (q : Nat) (hq : pc + 3 = q) {x : Int32} (o : Int) (t : Nat) (d : decode cc pc = .ok (.ifCond .ge o, 3)) (ht : (pc : Int) + o = (t : Int)) (kt : 0 ≤ x → WW l cc nL ret own R ca a E t lv st μ) (kf : ¬ 0 ≤ x → WW l cc nL ret own R ca a E q lv st μ) : WW l cc nL ret own R ca a E pc lv (.int x :: st) μ := by
  subst hq
  intro p e s m args below meth c D Q nc ns S hE hf H locs ls hP hS hl
  exact lv_if_ge S.1.1 S.1.2.1 d ht (fun h => kt h p e s m args below meth c D Q nc ns S hE hf H locs ls hP hS hl) (fun h => kf h p e s m args below meth c D Q nc ns S hE hf H locs ls hP hS hl)
theorem ww_icmp_gt (q : Nat) (hq : pc + 3 = q) {x y : Int32} (o : Int) (t : Nat) (d : decode cc pc = .ok (.if_icmp .gt o, 3)) (ht : (pc : Int) + o = (t : Int)) (kt : y < x → WW l cc nL ret own R ca a E t lv st μ) (kf : ¬ y < x → WW l cc nL ret own R ca a E q lv st μ) : WW l cc nL ret own R ca a E pc lv (.int y :: .int x :: st) μ := by
  subst hq
  intro p e s m args below meth c D Q nc ns S hE hf H locs ls hP hS hl
  exact lv_icmp_gt S.1.1 S.1.2.1 d ht (fun h => kt h p e s m args below meth c D Q nc ns S hE hf H locs ls hP hS hl) (fun h => kf h p e s m args below meth c D Q nc ns S hE hf H locs ls hP hS hl)
theorem ww_if_gt (q : Nat) (hq : pc + 3 = q) {x : Int32} (o : Int) (t : Nat) (d : decode cc pc = .ok (.ifCond .gt o, 3)) (ht : (pc : Int) + o = (t : Int)) (kt : 0 < x → WW l cc nL ret own R ca a E t lv st μ) (kf : ¬ 0 < x → WW l cc nL ret own R ca a E q lv st μ) : WW l cc nL ret own R ca a E pc lv (.int x :: st) μ := by
  subst hq
  intro p e s m args below meth c D Q nc ns S hE hf H locs ls hP hS hl
  exact lv_if_gt S.1.1 S.1.2.1 d ht (fun h => kt h p e s m args below meth c D Q nc ns S hE hf H locs ls hP hS hl) (fun h => kf h p e s m args below meth c D Q nc ns S hE hf H locs ls hP hS hl)
theorem ww_icmp_le (q : Nat) (hq : pc + 3 = q) {x y : Int32} (o : Int) (t : Nat) (d : decode cc pc = .ok (.if_icmp .le o, 3)) (ht : (pc : Int) + o = (t : Int)) (kt : x ≤ y → WW l cc nL ret own R ca a E t lv st μ) (kf : ¬ x ≤ y → WW l cc nL ret own R ca a E q lv st μ) : WW l cc nL ret own R ca a E pc lv (.int y :: .int x :: st) μ := by
  subst hq
  intro p e s m args below meth c D Q nc ns S hE hf H locs ls hP hS hl
  exact lv_icmp_le S.1.1 S.1.2.1 d ht (fun h => kt h p e s m args below meth c D Q nc ns S hE hf H locs ls hP hS hl) (fun h => kf h p e s m args below meth c D Q nc ns S hE hf H locs ls hP hS hl)
theorem ww_if_le (q : Nat) (hq : pc + 3 = q) {x : Int32} (o : Int) (t : Nat) (d : decode cc pc = .ok (.ifCond .le o, 3)) (ht : (pc : Int) + o = (t : Int)) (kt : x ≤ 0 → WW l cc nL ret own R ca a E t lv st μ) (kf : ¬ x ≤ 0 → WW l cc nL ret own R ca a E q lv st μ) : WW l cc nL ret own R ca a E pc lv (.int x :: st) μ := by
  subst hq
  intro p e s m args below meth c D Q nc ns S hE hf H locs ls hP hS hl
  exact lv_if_le S.1.1 S.1.2.1 d ht (fun h => kt h p e s m args below meth c D Q nc ns S hE hf H locs ls hP hS hl) (fun h => kf h p e s m args below meth c D Q nc ns S hE hf H locs ls hP hS hl)
theorem ww_goto (o : Int) (t : Nat) (d : decode cc pc = .ok (.goto o, 3)) (ht : (pc : Int) + o = (t : Int)) (k : WW l cc nL ret own R ca a E t lv st μ) : WW l cc nL ret own R ca a E pc lv st μ := by
  intro p e s m args below meth c D Q nc ns S hE hf H locs ls hP hS hl
  exact lv_goto S.1.1 S.1.2.1 d ht (k p e s m args below meth c D Q nc ns S hE hf H locs ls hP hS hl)
theorem ww_ifnull (q : Nat) (hq : pc + 3 = q) {x : Nat} (o : Int) (d : decode cc pc = .ok (.ifnull o, 3)) (k : WW l cc nL ret own R ca a E q lv st μ) : WW l cc nL ret own R ca a E pc lv (.ref x :: st) μ := by
  subst hq
  intro p e s m args below meth c D Q nc ns S hE hf H locs ls hP hS hl
  exact lv_ifnull S.1.1 S.1.2.1 d (k p e s m args below meth c D Q nc ns S hE hf H locs ls hP hS hl)
theorem ww_ifnullN (o : Int) (t : Nat) (d : decode cc pc = .ok (.ifnull o, 3)) (ht : (pc : Int) + o = (t : Int)) (k : WW l cc nL ret own R ca a E t lv st μ) : WW l cc nL ret own R ca a E pc lv (.null :: st) μ := by
  intro p e s m args below meth c D Q nc ns S hE hf H locs ls hP hS hl
  exact lv_ifnullN S.1.1 S.1.2.1 d ht (k p e s m args below meth c D Q nc ns S hE hf H locs ls hP hS hl)
theorem ww_ifnonnull {x : Nat} (o : Int) (t : Nat) (d : decode cc pc = .ok (.ifnonnull o, 3)) (ht : (pc : Int) + o = (t : Int)) (k : WW l cc nL ret own R ca a E t lv st μ) : WW l cc nL ret own R ca a E pc lv (.ref x :: st) μ := by
  intro p e s m args below meth c D Q nc ns S hE hf H locs ls hP hS hl
  exact lv_ifnonnull S.1.1 S.1.2.1 d ht (k p e s m args below meth c D Q nc ns S hE hf H locs ls hP hS hl)
theorem ww_ifnonnullN (q : Nat) (hq : pc + 3 = q) (o : Int) (d : decode cc pc = .ok (.ifnonnull o, 3)) (k : WW l cc nL ret own R ca a E q lv st μ) : WW l cc nL ret own R ca a E pc lv (.null :: st) μ := by
  subst hq
  intro p e s m args below meth c D Q nc ns S hE hf H locs ls hP hS hl
  exact lv_ifnonnullN S.1.1 S.1.2.1 d (k p e s m args below meth c D Q nc ns S hE hf H locs ls hP hS hl)
theorem ww_swIn {x : Int32} (df lo hi : Int) (offs : Array Int) (len : Nat) (v : Int32) (o : Int) (t : Nat) (d : decode cc pc = .ok (.tableswitch df lo hi offs, len)) (hx : x = v) (h1 : ¬ v.toInt < lo) (h2 : ¬ hi < v.toInt) (ho : offs[(v.toInt - lo).toNat]? = some o) (ht : (pc : Int) + o = (t : Int)) (k : WW l cc nL ret own R ca a E t lv st μ) : WW l cc nL ret own R ca a E pc lv (.int x :: st) μ := by
  intro p e s m args below meth c D Q nc ns S hE hf H locs ls hP hS hl
  exact by subst hx; exact lv_tableIn S.1.1 S.1.2.1 d h1 h2 ho ht (k p e s m args below meth c D Q nc ns S hE hf H locs ls hP hS hl)
theorem ww_swOut {x : Int32} (df lo hi : Int) (offs : Array Int) (len : Nat) (t : Nat) (d : decode cc pc = .ok (.tableswitch df lo hi offs, len)) (hx : x.toInt < lo ∨ hi < x.toInt) (ht : (pc : Int) + df = (t : Int)) (k : WW l cc nL ret own R ca a E t lv st μ) : WW l cc nL ret own R ca a E pc lv (.int x :: st) μ := by
  intro p e s m args below meth c D Q nc ns S hE hf H locs ls hP hS hl
  exact lv_tableOut S.1.1 S.1.2.1 d hx ht (k p e s m args below meth c D Q nc ns S hE hf H locs ls hP hS hl)
theorem ww_geti (q : Nat) (hq : pc + 3 = q) {k : Nat} (c j i : Nat) (d : decode cc pc = .ok (.getfield i, 3)) (hk : kd k = c) (hw : Cond.fieldLink own i (cn c) (cT c j).2.1 (cT c j).2.2.1 ∈ AW) (hc : c < 9) (hj : j < nfc c) (ho : (cT c j).1 = cn c) (ht : tgc c k j = 0) (kk : WW l cc nL ret own R ca a E q lv (.int (μ k j) :: st) μ) : WW l cc nL ret own R ca a E pc lv (.ref (a k) :: st) μ := by
  subst hq
  intro p e s m args below meth c0 D Q nc ns S hE hf H locs ls hP hS hl
  have hk5 := kd_lt hk (by omega)
  exact va_get S.1.1 S.1.2.1 (Ts := AW) S.1.2.2.2.2 (cw_in hc) S.1.2.2.2.1 S.2.2.2.1 hP k (by rw [WL_get hk5, ce_obj hk hc]) (cl_at hc) j hj (S.1.2.2.2.2 _ hw) (by rw [ho]; exact fun _ h => h) (by rw [fdc_get hj, if_pos ht]) d (kk p e s m args below meth c0 D Q nc ns S hE hf H locs ls hP hS hl)
theorem ww_getr (q : Nat) (hq : pc + 3 = q) {k : Nat} (c j i t : Nat) (d : decode cc pc = .ok (.getfield i, 3)) (hk : kd k = c) (hw : Cond.fieldLink own i (cn c) (cT c j).2.1 (cT c j).2.2.1 ∈ AW) (hc : c < 9) (hj : j < nfc c) (ho : (cT c j).1 = cn c) (ht : tgc c k j = t) (h0 : t ≠ 0) (kk : WW l cc nL ret own R ca a E q lv (.ref (a t) :: st) μ) : WW l cc nL ret own R ca a E pc lv (.ref (a k) :: st) μ := by
  subst hq
  intro p e s m args below meth c0 D Q nc ns S hE hf H locs ls hP hS hl
  have hk5 := kd_lt hk (by omega)
  exact va_get S.1.1 S.1.2.1 (Ts := AW) S.1.2.2.2.2 (cw_in hc) S.1.2.2.2.1 S.2.2.2.1 hP k (by rw [WL_get hk5, ce_obj hk hc]) (cl_at hc) j hj (S.1.2.2.2.2 _ hw) (by rw [ho]; exact fun _ h => h) (by rw [fdc_get hj, if_neg (by rw [ht]; exact h0), ht]) d (kk p e s m args below meth c0 D Q nc ns S hE hf H locs ls hP hS hl)
theorem ww_put (q : Nat) (hq : pc + 3 = q) {k : Nat} {x : Int32} (c j i : Nat) (d : decode cc pc = .ok (.putfield i, 3)) (hk : kd k = c) (hw : Cond.fieldLink own i (cn c) (cT c j).2.1 (cT c j).2.2.1 ∈ AW) (hc : c < 9) (hj : j < nfc c) (ho : (cT c j).1 = cn c) (ht : tgc c k j = 0) (hfl : (cT c j).2.2.2 = false) {ty : FieldType} (hd : parseFieldDescriptor (cT c j).2.2.1 = some ty) (hn : narrow ty (.int x) = .int x) (hfi : fits ty (.int x) = true) (kk : WW l cc nL ret own R ca a E q lv st (put μ k j x)) : WW l cc nL ret own R ca a E pc lv (.int x :: .ref (a k) :: st) μ := by
  subst hq
  intro p e s m args below meth c0 D Q nc ns S hE hf H locs ls hP hS hl
  have hk5 := kd_lt hk (by omega)
  have hD : va_D (AA a s.heap.size) (WL ca a μ) := WL_D S.2.2.2.2.1
  refine va_put S.1.1 S.1.2.1 (Ts := AW) S.1.2.2.2.2 (cw_in hc) (ct c) (ct_ok hc) (cn_ok hc) S.1.2.2.2.1 S.2.2.2.1 hP hD hS k (by rw [WL_get hk5, ce_obj hk hc]) (cl_at hc) j hj (S.1.2.2.2.2 _ hw) (by rw [ho]; exact fun _ h => h) hfl hd hn hfi (by rw [fdc_len]; exact hj) d (fun H1 locs1 hP1 _ hS1 => ?_)
  rw [fdc_set hj ht, ← ce_obj (ca := ca) hk hc, WL_set hk5] at hP1
  exact kk p e s m args below meth c0 D Q nc ns S hE hf H1 locs1 ls hP1 hS1 hl
theorem ww_iald (q : Nat) (hq : pc + 1 = q) {k : Nat} {i : Int32} (d : decode cc pc = .ok (.iaload, 1)) (hk : kd k = 10) (hi : ¬ (i < 0 ∨ ln k ≤ i.toNatClampNeg)) (kk : WW l cc nL ret own R ca a E q lv (.int (μ k i.toNatClampNeg) :: st) μ) : WW l cc nL ret own R ca a E pc lv (.int i :: .ref (a k) :: st) μ := by
  subst hq
  intro p e s m args below meth c D Q nc ns S hE hf H locs ls hP hS hl
  exact va_iald S.1.1 S.1.2.1 S.2.2.2.1 hP k 0 (by rw [WL_get (kd_lt hk (by omega)), ce_int hk]) rfl hi d (kk p e s m args below meth c D Q nc ns S hE hf H locs ls hP hS hl)
theorem ww_zald (q : Nat) (hq : pc + 1 = q) {k : Nat} {i : Int32} (d : decode cc pc = .ok (.baload, 1)) (hk : kd k = 11) (hi : ¬ (i < 0 ∨ ln k ≤ i.toNatClampNeg)) (kk : WW l cc nL ret own R ca a E q lv (.int (μ k i.toNatClampNeg) :: st) μ) : WW l cc nL ret own R ca a E pc lv (.int i :: .ref (a k) :: st) μ := by
  subst hq
  intro p e s m args below meth c D Q nc ns S hE hf H locs ls hP hS hl
  exact va_zald S.1.1 S.1.2.1 S.2.2.2.1 hP k 1 (by rw [WL_get (kd_lt hk (by omega)), ce_boo hk]) rfl hi d (kk p e s m args below meth c D Q nc ns S hE hf H locs ls hP hS hl)
theorem ww_aald (q : Nat) (hq : pc + 1 = q) {k : Nat} {i : Int32} (d : decode cc pc = .ok (.aaload, 1)) (hk : kd k = 12) (hi : ¬ (i < 0 ∨ ln k ≤ i.toNatClampNeg)) (kk : WW l cc nL ret own R ca a E q lv (.ref (a (μ k i.toNatClampNeg).toNatClampNeg) :: st) μ) : WW l cc nL ret own R ca a E pc lv (.int i :: .ref (a k) :: st) μ := by
  subst hq
  intro p e s m args below meth c D Q nc ns S hE hf H locs ls hP hS hl
  exact va_aldq (f := fun j => some (a (μ k j).toNatClampNeg)) S.1.1 S.1.2.1 S.2.2.2.1 hP k 2 (by rw [WL_get (kd_lt hk (by omega)), ce_ref hk]) rfl hi d (kk p e s m args below meth c D Q nc ns S hE hf H locs ls hP hS hl)
theorem ww_iast (q : Nat) (hq : pc + 1 = q) {k : Nat} {i x : Int32} (d : decode cc pc = .ok (.iastore, 1)) (hk : kd k = 10) (hi : ¬ (i < 0 ∨ ln k ≤ i.toNatClampNeg)) (kk : WW l cc nL ret own R ca a E q lv st (put μ k i.toNatClampNeg x)) : WW l cc nL ret own R ca a E pc lv (.int x :: .int i :: .ref (a k) :: st) μ := by
  subst hq
  intro p e s m args below meth c D Q nc ns S hE hf H locs ls hP hS hl
  have hk5 := kd_lt hk (by omega)
  refine va_iast S.1.1 S.1.2.1 S.2.2.2.1 hP (WL_D S.2.2.2.2.1) hS k 0 (by rw [WL_get hk5, ce_int hk]) rfl hi d (fun H1 locs1 hP1 _ hS1 => ?_)
  rw [← ce_int (ca := ca) (a := a) hk, WL_set hk5] at hP1
  exact kk p e s m args below meth c D Q nc ns S hE hf H1 locs1 ls hP1 hS1 hl
theorem ww_zast (q : Nat) (hq : pc + 1 = q) {k : Nat} {i x : Int32} (d : decode cc pc = .ok (.bastore, 1)) (hk : kd k = 11) (hi : ¬ (i < 0 ∨ ln k ≤ i.toNatClampNeg)) (kk : WW l cc nL ret own R ca a E q lv st (put μ k i.toNatClampNeg (vp_nar .boolean x))) : WW l cc nL ret own R ca a E pc lv (.int x :: .int i :: .ref (a k) :: st) μ := by
  subst hq
  intro p e s m args below meth c D Q nc ns S hE hf H locs ls hP hS hl
  have hk5 := kd_lt hk (by omega)
  refine va_zast S.1.1 S.1.2.1 S.2.2.2.1 hP (WL_D S.2.2.2.2.1) hS k 1 (by rw [WL_get hk5, ce_boo hk]) rfl hi d (fun H1 locs1 hP1 _ hS1 => ?_)
  rw [← ce_boo (ca := ca) (a := a) hk, WL_set hk5] at hP1
  exact kk p e s m args below meth c D Q nc ns S hE hf H1 locs1 ls hP1 hS1 hl
theorem ww_aast (q : Nat) (hq : pc + 1 = q) {k v : Nat} {i : Int32} (d : decode cc pc = .ok (.aastore, 1)) (hk : kd k = 12) (hv : kd v = 3) (hi : ¬ (i < 0 ∨ ln k ≤ i.toNatClampNeg)) (kk : WW l cc nL ret own R ca a E q lv st (put μ k i.toNatClampNeg (nI v))) : WW l cc nL ret own R ca a E pc lv (.ref (a v) :: .int i :: .ref (a k) :: st) μ := by
  subst hq
  intro p e s m args below meth c D Q nc ns S hE hf H locs ls hP hS hl
  have hk5 := kd_lt hk (by omega)
  have hv5 := kd_lt hv (by omega)
  refine va_astq S.1.1 S.1.2.1 S.2.2.2.1 hP (WL_D S.2.2.2.2.1) hS k 2 v 3 (by rw [WL_get hk5, ce_ref hk]) rfl (by rw [WL_get hv5, ce_obj hv (by omega)]) (cl_at (c := 3) (by omega)) hi d (fun H1 locs1 hP1 _ hS1 => ?_)
  have e1 : va_up (fun j => some (a (μ k j).toNatClampNeg)) i.toNatClampNeg (some (a v)) = (fun j => some (a (upd (μ k) i.toNatClampNeg (nI v) j).toNatClampNeg)) := by
    funext j
    by_cases hj : j = i.toNatClampNeg
    · subst hj
      simp [va_up, upd, nI, Int32.toNatClampNeg_ofNat_of_lt (show v < 2 ^ 31 by omega)]
    · simp [va_up, upd, hj]
  rw [e1, ← ce_ref (ca := ca) (a := a) hk, WL_set hk5] at hP1
  exact kk p e s m args below meth c D Q nc ns S hE hf H1 locs1 ls hP1 hS1 hl
theorem ww_alen (q : Nat) (hq : pc + 1 = q) {k : Nat} (d : decode cc pc = .ok (.arraylength, 1)) (hk : kd k = 10) (kk : WW l cc nL ret own R ca a E q lv (.int (nI (ln k)) :: st) μ) : WW l cc nL ret own R ca a E pc lv (.ref (a k) :: st) μ := by
  subst hq
  intro p e s m args below meth c D Q nc ns S hE hf H locs ls hP hS hl
  exact va_alen (x := (ln k, .inl (μ k))) S.1.1 S.1.2.1 S.2.2.2.1 hP k 0 (by rw [WL_get (kd_lt hk (by omega)), ce_int hk]) rfl rfl d (kk p e s m args below meth c D Q nc ns S hE hf H locs ls hP hS hl)
theorem ww_copy (q : Nat) (hq : pc + 3 = q) {k0 k1 : Nat} {sp dp n : Int32} (i : Nat) (d : decode cc pc = .ok (.invokestatic i, 3)) (hw : Cond.methodLink own i arraycopyName ∈ AW) (h0 : kd k0 = 10) (h1 : kd k1 = 10) (hb : ¬ (sp < 0 ∨ dp < 0 ∨ n < 0 ∨ ln k0 < sp.toNatClampNeg + n.toNatClampNeg ∨ ln k1 < dp.toNatClampNeg + n.toNatClampNeg)) (hst : (st.map fun v => v.category).sum ≤ 8) (hR : 1 ≤ R.frames ∧ 26 ≤ R.locals)
    (kk : WW l cc nL ret own R ca a E q lv st (stm μ k1 (va_cpy (μ k0) (μ k1) sp.toNatClampNeg dp.toNatClampNeg n.toNatClampNeg))) : WW l cc nL ret own R ca a E pc lv (.int n :: .int dp :: .ref (a k1) :: .int sp :: .ref (a k0) :: st) μ := by
  subst hq
  intro p e s m args below meth c D Q nc ns S hE hf H locs ls hP hS hl
  have hk0 := kd_lt h0 (by omega)
  have hk1 := kd_lt h1 (by omega)
  obtain ⟨b1, hb⟩ := not_or.mp hb
  obtain ⟨b2, hb⟩ := not_or.mp hb
  obtain ⟨b3, hb⟩ := not_or.mp hb
  obtain ⟨b4, b5⟩ := not_or.mp hb
  refine va_copyi S.1.1 S.1.2.1 (by rw [S.1.2.2.1, hl.1]) S.1.2.2.2.1 (S.1.2.2.2.2 _ hw) (S.1.2.2.2.2 _ cp_nat) (S.1.2.2.2.2 _ cp_stat) (S.1.2.2.2.2 _ cp_ini) S.2.2.2.1 hP (WL_D S.2.2.2.2.1) hS k0 k1 0 0 (by rw [WL_get hk0, ce_int h0]) (by rw [WL_get hk1, ce_int h1]) rfl rfl rfl b1 b2 b3 (Nat.not_lt.mp b4) (Nat.not_lt.mp b5) (fun _ _ => rfl) hR.1 ?_ d (fun H1 locs1 hP1 _ hS1 => ?_)
  · have : nativeFrameWords "java/lang/System" "arraycopy" 5 = 7 := by decide
    rw [this]
    omega
  · rw [← ce_int (ca := ca) (a := a) h1, WL_set hk1] at hP1
    exact kk p e s m args below meth c D Q nc ns S hE hf H1 locs1 ls hP1 hS1 hl
theorem ww_gST (q : Nat) (hq : pc + 3 = q) (i : Nat) (d : decode cc pc = .ok (.getstatic i, 3)) (hw : Cond.fieldLink own i R_Adaptive "STEPS" "[I" ∈ AW) (kk : WW l cc nL ret own R ca a E q lv (.ref (a 60) :: st) μ) : WW l cc nL ret own R ca a E pc lv st μ := by
  subst hq
  intro p e s m args below meth c D Q nc ns S hE hf H locs ls hP hS hl
  exact va_gets S.1.1 S.1.2.1 S.2.2.2.2.2.1.1 hS S.1.2.2.2.1 (S.1.2.2.2.2 _ hw) (fun _ h => h) d (kk p e s m args below meth c D Q nc ns S hE hf H locs ls hP hS hl)
theorem ww_gTY (q : Nat) (hq : pc + 3 = q) (i : Nat) (d : decode cc pc = .ok (.getstatic i, 3)) (hw : Cond.fieldLink own i R_Packet "TYPES" "[I" ∈ AW) (kk : WW l cc nL ret own R ca a E q lv (.ref (a 61) :: st) μ) : WW l cc nL ret own R ca a E pc lv st μ := by
  subst hq
  intro p e s m args below meth c D Q nc ns S hE hf H locs ls hP hS hl
  exact va_gets S.1.1 S.1.2.1 S.2.2.2.2.2.2.1.1 hS S.1.2.2.2.1 (S.1.2.2.2.2 _ hw) (fun _ h => h) d (kk p e s m args below meth c D Q nc ns S hE hf H locs ls hP hS hl)
theorem ww_tST (q : Nat) (hq : pc + 1 = q) {i : Int32} (d : decode cc pc = .ok (.iaload, 1)) (hi : ¬ (i < 0 ∨ 89 ≤ i.toNatClampNeg)) (kk : WW l cc nL ret own R ca a E q lv (.int (tb_STEPS i.toNatClampNeg) :: st) μ) : WW l cc nL ret own R ca a E pc lv (.int i :: .ref (a 60) :: st) μ := by
  subst hq
  intro p e s m args below meth c D Q nc ns S hE hf H locs ls hP hS hl
  exact va_ti S.1.1 S.1.2.1 S.2.2.2.2.2.1.2 hS hi rfl d (kk p e s m args below meth c D Q nc ns S hE hf H locs ls hP hS hl)
theorem ww_tTY (q : Nat) (hq : pc + 1 = q) {i : Int32} (d : decode cc pc = .ok (.iaload, 1)) (hi : ¬ (i < 0 ∨ 4 ≤ i.toNatClampNeg)) (kk : WW l cc nL ret own R ca a E q lv (.int (tb_TYPES i.toNatClampNeg) :: st) μ) : WW l cc nL ret own R ca a E pc lv (.int i :: .ref (a 61) :: st) μ := by
  subst hq
  intro p e s m args below meth c D Q nc ns S hE hf H locs ls hP hS hl
  exact va_ti S.1.1 S.1.2.1 S.2.2.2.2.2.2.1.2 hS hi rfl d (kk p e s m args below meth c D Q nc ns S hE hf H locs ls hP hS hl)
theorem ww_lTY (q : Nat) (hq : pc + 1 = q) (d : decode cc pc = .ok (.arraylength, 1)) (kk : WW l cc nL ret own R ca a E q lv (.int 4 :: st) μ) : WW l cc nL ret own R ca a E pc lv (.ref (a 61) :: st) μ := by
  subst hq
  intro p e s m args below meth c D Q nc ns S hE hf H locs ls hP hS hl
  exact va_tlen S.1.1 S.1.2.1 S.2.2.2.2.2.2.1.2 hS rfl d (kk p e s m args below meth c D Q nc ns S hE hf H locs ls hP hS hl)
theorem ww_iret {v : Int32} (d : decode cc pc = .ok (.ireturn, 1)) (hr : ret = some .int) : WW l cc nL ret own R ca a (EM ca a (some (.int v)) μ) pc lv [.int v] μ := by
  intro p e s m args below meth c D Q nc ns S hE hf H locs ls hP hS hl
  obtain ⟨rfl, rfl, rfl⟩ := hE
  exact W.iret S.1.1 S.1.2.1 (S.2.1.trans hr) (fun t ht hW => ⟨rfl, by rw [ht]; exact hP, hS.F ht⟩) (fun q hq => hS.2.2 q hq) d S.2.2.1
theorem ww_zret {v : Int32} (d : decode cc pc = .ok (.ireturn, 1)) (hr : ret = some .boolean) (hv : v = 0 ∨ v = 1) : WW l cc nL ret own R ca a (EM ca a (some (.int v)) μ) pc lv [.int v] μ := by
  intro p e s m args below meth c D Q nc ns S hE hf H locs ls hP hS hl
  have hn : narrow .boolean (.int v) = .int v := by rcases hv with rfl | rfl <;> rfl
  obtain ⟨rfl, rfl, rfl⟩ := hE
  exact W.zret S.1.1 S.1.2.1 (S.2.1.trans hr) hn (fun t ht hW => ⟨rfl, by rw [ht]; exact hP, hS.F ht⟩) (fun q hq => hS.2.2 q hq) d S.2.2.1
theorem ww_vret (d : decode cc pc = .ok (.return_, 1)) (hr : ret = none) : WW l cc nL ret own R ca a (EM ca a none μ) pc lv [] μ := by
  intro p e s m args below meth c D Q nc ns S hE hf H locs ls hP hS hl
  obtain ⟨rfl, rfl, rfl⟩ := hE
  exact W.vret S.1.1 S.1.2.1 (S.2.1.trans hr) (fun t ht hW => ⟨rfl, by rw [ht]; exact hP, hS.F ht⟩) (fun q hq => hS.2.2 q hq) d S.2.2.1
theorem ww_aret {k : Nat} (d : decode cc pc = .ok (.areturn, 1)) (hr : ret = some (.object R_Packet)) : WW l cc nL ret own R ca a (EM ca a (some (rvq a (some k))) μ) pc lv [.ref (a k)] μ := by
  intro p e s m args below meth c D Q nc ns S hE hf H locs ls hP hS hl
  obtain ⟨rfl, rfl, rfl⟩ := hE
  exact W.aret S.1.1 S.1.2.1 (v := .ref (a k)) (S.2.1.trans hr) (Or.inl ⟨_, rfl⟩) (Or.inr ⟨_, rfl⟩) (fun t ht hW => ⟨rfl, by rw [ht]; exact hP, hS.F ht⟩) (fun q hq => hS.2.2 q hq) d S.2.2.1
theorem ww_aretN (d : decode cc pc = .ok (.areturn, 1)) (hr : ret = some (.object R_Packet)) : WW l cc nL ret own R ca a (EM ca a (some (rvq a none)) μ) pc lv [.null] μ := by
  intro p e s m args below meth c D Q nc ns S hE hf H locs ls hP hS hl
  obtain ⟨rfl, rfl, rfl⟩ := hE
  exact W.aret S.1.1 S.1.2.1 (v := .null) (S.2.1.trans hr) (Or.inl ⟨_, rfl⟩) (Or.inl rfl) (fun t ht hW => ⟨rfl, by rw [ht]; exact hP, hS.F ht⟩) (fun q hq => hS.2.2 q hq) d S.2.2.1
/-- behind a call -/
theorem ww_after {p : Program} {e : Env} {s : State} {m : MethodId} {args : Array Value} {below : List Frame} {meth : Method} {c : Code} {D : va_G} {Q : State → Prop} {nc ns : Nat} {H : Heap} {locs : List Loc} {ls : Array Slot} {rest st0 : List Value} {rv1 : Option Value} {μ1 : Mem} {av : Array Value} (S : SS p s m args meth c cc nL ret own ca a D) (hE : E s args below D Q nc ns) (hf : nc ≤ R.cells ∧ ns ≤ R.slots) (hS : va_S (AA a s.heap.size) s.heap H locs) (hl : lh ls nL lv)
    (hr : va_Run p l e R s m args below meth c H locs nc ns 0 0 (F0 m pc ls st0) rest (QQ D ca a rv1 μ1 av) (AA a H.size)) (kk : WW l cc nL ret own R ca a E (pc + 3) lv (rv1.toList ++ rest) μ1) : W p l e R s m args below meth c H locs nc ns Q (F0 m pc ls st0) := by
  intro T hT X
  obtain ⟨v, st₀, t, T', L, h0, X', hL, e1, e2, ⟨hv, hP1, hz, hk⟩, st⟩ := hr T hT X
  cases hv
  rw [h0] at hz hk
  obtain ⟨t2, a1, b1⟩ := kk p e s m args below meth c D Q nc ns S hE hf T'.heap (locs ++ L) ls (by rw [e1]; exact hP1)
    ⟨Nat.le_trans hS.1 (by rw [e1]; exact hz), fun q h1 h2 => by rw [e1, hk q (Nat.lt_of_lt_of_le h1 hS.1) (fun z => h2 (AA_le hS.1 q z))]; exact hS.2.1 q h1 h2, fun q hq => by
      rcases List.mem_append.mp hq with h | h
      · exact hS.2.2 q h
      · exact AA_le hS.1 _ (hL q h)⟩ hl T' rfl X'
  exact ⟨t2, st t2 a1, b1⟩
/-- what a call hands to the callee -/
theorem ww_pre {p : Program} {s : State} {m : MethodId} {args : Array Value} {meth : Method} {c : Code} {D : va_G} {H : Heap} {locs : List Loc} (S : SS p s m args meth c cc nL ret own ca a D) (hP : va_P D classes (WL ca a μ) H) (hS : va_S (AA a s.heap.size) s.heap H locs) (As : List Value) : PreS s H (va_Pc As (GW D ca a H.size μ)) As := by
  refine ⟨fun av U g mk q => ?_, fun U hU hW => ⟨rfl, by rw [hU], by rw [hU]; exact hP, va_K.moved hW.alike S.2.2.2.1, S.2.2.2.2.1, ?_⟩⟩
  · obtain ⟨q0, q1, qP, qK, qA, qT⟩ := q
    exact ⟨q0, q1, qP, va_K.moved (u := U) (U := U.calling g mk av) (Vm.Alike.refl U.vm) qK, qA, ST.same (u := U) (U := U.calling g mk av) rfl qT⟩
  · rw [hU]
    exact ((S.2.2.2.2.2.kept hS.2.1).warm hW).narrow (AA_le hS.1)
/-- what is known of a method that is called -/
def MV (y : MethodName) (b : ByteArray) (n2 : Nat) (r2 : Option FieldType) (n : Nat) : Prop := Cond.code y b n2 r2 ∈ AW ∧ Cond.instanceMethod y ∈ AW ∧ Cond.selects y.cls y y ∈ AW ∧ Cond.initialized y.cls ∈ AW ∧ (y.cls ≠ "java/lang/invoke/MethodHandle" ∧ y.cls ≠ "java/lang/invoke/VarHandle" ∧ (parseMethodDescriptor y.desc).map (fun d => d.parameters.length) = some n)
def MS (y : MethodName) (b : ByteArray) (n2 : Nat) (r2 : Option FieldType) (n : Nat) : Prop := Cond.code y b n2 r2 ∈ AW ∧ Cond.static y ∈ AW ∧ Cond.initialized y.cls ∈ AW ∧ (y.cls ≠ "java/lang/invoke/MethodHandle" ∧ y.cls ≠ "java/lang/invoke/VarHandle" ∧ (parseMethodDescriptor y.desc).map (fun d => d.parameters.length) = some n)
theorem ww_cV (q : Nat) (hq : pc + 3 = q) {y : MethodName} {b : ByteArray} {n2 n : Nat} {r2 : Option FieldType} {rm : Room} {k : Nat} {μ1 : Mem} {rv1 : Option Value} {st0 : List Value} (c2 i : Nat) (As : List Value) (d : decode cc pc = .ok (.invokevirtual i, 3)) (hM : MV y b n2 r2 n) (hw : Cond.methodLink own i y ∈ AW) (hk : kd k = c2) (hc : c2 < 9) (hy : y.cls = cn c2) (hn : As.length = n) (hR : rm.frames + 1 ≤ R.frames ∧ 8 + (n2 + 11) + rm.locals ≤ R.locals) (h0 : rm.cells = 0 ∧ rm.slots = 0) (hst : (st.map fun v => v.category).sum ≤ 8) (hs0 : st0 = As.reverse ++ .ref (a k) :: st)
    (hC : CT l ca a y b n2 r2 rm (.ref (a k) :: As) μ rv1 μ1) (kk : WW l cc nL ret own R ca a E q lv (rv1.toList ++ st) μ1) : WW l cc nL ret own R ca a E pc lv st0 μ := by
  subst hq
  intro p e s m args below meth c D Q nc ns S hE hf H locs ls hP hS hl
  have hk5 := kd_lt hk (by omega)
  obtain ⟨m1, m2, m3, m4, m5⟩ := hM
  obtain ⟨p1, p2⟩ := ww_pre S hP hS (.ref (a k) :: As)
  refine ww_after (av := (Value.ref (a k) :: As).toArray) S hE hf hS hl (va_runV (As := As) (rest := st) (ret := r2) (bytes := b) (maxL := n2) (n := n) (C := y.cls) S.1 (hC D H.size) (cwV n S.1.2.2.2.2 (AW_in ?_) rfl h0.1 h0.2 ⟨rfl, m5⟩ hR) ⟨p1, ?_, p2⟩ rfl hn hl.1 hs0 (lv_room hst) d hf) kk
  · intro w hw2
    rcases List.mem_append.mp hw2 with h | h
    · simp only [List.mem_cons, List.not_mem_nil, or_false] at h
      rcases h with rfl | rfl | rfl | rfl
      · exact hw
      · exact m2
      · exact m3
      · exact m4
    · rcases List.mem_cons.mp h with rfl | h
      · exact m1
      · exact h
  · have := va_recv S.2.2.2.1 hP (cl_at hc) (show (WL ca a μ)[k]? = some (a k, .inr (c2, fdc c2 a k (μ k))) by rw [WL_get hk5, ce_obj hk hc])
    rw [hy]
    exact this
theorem ww_cS (q : Nat) (hq : pc + 3 = q) {y : MethodName} {b : ByteArray} {n2 n : Nat} {r2 : Option FieldType} {rm : Room} {μ1 : Mem} {rv1 : Option Value} {st0 : List Value} (i : Nat) (As : List Value) (d : decode cc pc = .ok (.invokestatic i, 3)) (hM : MS y b n2 r2 n) (hw : Cond.methodLink own i y ∈ AW) (hn : As.length = n) (hR : rm.frames + 1 ≤ R.frames ∧ 8 + (n2 + 11) + rm.locals ≤ R.locals) (h0 : rm.cells = 0 ∧ rm.slots = 0) (hst : (st.map fun v => v.category).sum ≤ 8) (hs0 : st0 = As.reverse ++ st)
    (hC : CT l ca a y b n2 r2 rm As μ rv1 μ1) (kk : WW l cc nL ret own R ca a E q lv (rv1.toList ++ st) μ1) : WW l cc nL ret own R ca a E pc lv st0 μ := by
  subst hq
  intro p e s m args below meth c D Q nc ns S hE hf H locs ls hP hS hl
  obtain ⟨m1, m2, m4, m5⟩ := hM
  refine ww_after (av := As.toArray) S hE hf hS hl (va_runS (As := As) (rest := st) (ret := r2) (bytes := b) (maxL := n2) (n := n) S.1 (hC D H.size) (va_cwS n S.1.2.2.2.2 (AW_in ?_) rfl h0.1 h0.2 m5 hR) (ww_pre S hP hS As) rfl hn hl.1 hs0 (lv_room hst) d hf) kk
  intro w hw2
  rcases List.mem_append.mp hw2 with h | h
  · simp only [List.mem_cons, List.not_mem_nil, or_false] at h
    rcases h with rfl | rfl | rfl
    · exact hw
    · exact m2
    · exact m4
  · rcases List.mem_cons.mp h with rfl | h
    · exact m1
    · exact h
/-- a nest mate's static method -/
theorem ww_cN (q : Nat) (hq : pc + 3 = q) {y : MethodName} {b : ByteArray} {n2 n : Nat} {r2 : Option FieldType} {rm : Room} {μ1 : Mem} {rv1 : Option Value} {st0 : List Value} {host : String} (i : Nat) (As : List Value) (d : decode cc pc = .ok (.invokestatic i, 3)) (hM : MS y b n2 r2 n) (hw : ∀ (A : Nat → Prop) (U : State) (H : Heap), ST a A U H → va_Nw (.methodLinkNest own i y host) U) (hn : As.length = n) (hR : rm.frames + 1 ≤ R.frames ∧ 8 + (n2 + 11) + rm.locals ≤ R.locals) (h0 : rm.cells = 0 ∧ rm.slots = 0) (hst : (st.map fun v => v.category).sum ≤ 8) (hs0 : st0 = As.reverse ++ st)
    (hC : CT l ca a y b n2 r2 rm As μ rv1 μ1) (kk : WW l cc nL ret own R ca a E q lv (rv1.toList ++ st) μ1) : WW l cc nL ret own R ca a E pc lv st0 μ := by
  subst hq
  intro p e s m args below meth c D Q nc ns S hE hf H locs ls hP hS hl
  obtain ⟨m1, m2, m4, m5⟩ := hM
  refine ww_after (av := As.toArray) S hE hf hS hl (va_runSN (As := As) (rest := st) (ret := r2) (bytes := b) (maxL := n2) (n := n) S.1 (hC D H.size) ⟨va_cnB n S.1.2.2.2.2 (AW_in ?_) rfl h0.1 h0.2 (hw _ _ _ S.2.2.2.2.2) (S.1.2.2.2.2 _ m4) m5 hR, S.1.2.2.2.2 _ m2, trivial⟩ (ww_pre S hP hS As) rfl hn hl.1 hs0 (lv_room hst) d hf) kk
  intro w h
  rcases List.mem_cons.mp h with rfl | h
  · exact m1
  · exact h
theorem ww_cV0i (q : Nat) (hq : pc + 3 = q) {y : MethodName} {b : ByteArray} {n2 : Nat} {r2 : Option FieldType} {rm : Room} {μ1 : Mem} {k : Nat} {r : Int32} (c2 i : Nat) (d : decode cc pc = .ok (.invokevirtual i, 3)) (hM : MV y b n2 r2 0) (hw : Cond.methodLink own i y ∈ AW) (hk : kd k = c2) (hc : c2 < 9) (hy : y.cls = cn c2) (hR : rm.frames + 1 ≤ R.frames ∧ 8 + (n2 + 11) + rm.locals ≤ R.locals) (h0 : rm.cells = 0 ∧ rm.slots = 0) (hst : (st.map fun v => v.category).sum ≤ 8) (hC : CT l ca a y b n2 r2 rm (.ref (a k) :: []) μ (some (.int r)) μ1) (kk : WW l cc nL ret own R ca a E q lv (.int r :: st) μ1) : WW l cc nL ret own R ca a E pc lv (.ref (a k) :: st) μ := ww_cV q hq c2 i [] d hM hw hk hc hy rfl hR h0 hst rfl hC kk
theorem ww_cV0v (q : Nat) (hq : pc + 3 = q) {y : MethodName} {b : ByteArray} {n2 : Nat} {r2 : Option FieldType} {rm : Room} {μ1 : Mem} {k : Nat} (c2 i : Nat) (d : decode cc pc = .ok (.invokevirtual i, 3)) (hM : MV y b n2 r2 0) (hw : Cond.methodLink own i y ∈ AW) (hk : kd k = c2) (hc : c2 < 9) (hy : y.cls = cn c2) (hR : rm.frames + 1 ≤ R.frames ∧ 8 + (n2 + 11) + rm.locals ≤ R.locals) (h0 : rm.cells = 0 ∧ rm.slots = 0) (hst : (st.map fun v => v.category).sum ≤ 8) (hC : CT l ca a y b n2 r2 rm (.ref (a k) :: []) μ none μ1) (kk : WW l cc nL ret own R ca a E q lv st μ1) : WW l cc nL ret own R ca a E pc lv (.ref (a k) :: st) μ := ww_cV q hq c2 i [] d hM hw hk hc hy rfl hR h0 hst rfl hC kk
theorem ww_cV0q (q : Nat) (hq : pc + 3 = q) {y : MethodName} {b : ByteArray} {n2 : Nat} {r2 : Option FieldType} {rm : Room} {μ1 : Mem} {k : Nat} {r : Option Nat} (c2 i : Nat) (d : decode cc pc = .ok (.invokevirtual i, 3)) (hM : MV y b n2 r2 0) (hw : Cond.methodLink own i y ∈ AW) (hk : kd k = c2) (hc : c2 < 9) (hy : y.cls = cn c2) (hR : rm.frames + 1 ≤ R.frames ∧ 8 + (n2 + 11) + rm.locals ≤ R.locals) (h0 : rm.cells = 0 ∧ rm.slots = 0) (hst : (st.map fun v => v.category).sum ≤ 8) (hC : CT l ca a y b n2 r2 rm (.ref (a k) :: []) μ (some (rvq a r)) μ1) (kn : r = none → WW l cc nL ret own R ca a E q lv (.null :: st) μ1) (ks : ∀ k2, r = some k2 → WW l cc nL ret own R ca a E q lv (.ref (a k2) :: st) μ1) : WW l cc nL ret own R ca a E pc lv (.ref (a k) :: st) μ := by
  cases r with
  | none => exact ww_cV q hq c2 i [] d hM hw hk hc hy rfl hR h0 hst rfl hC (kn rfl)
  | some k2 => exact ww_cV q hq c2 i [] d hM hw hk hc hy rfl hR h0 hst rfl hC (ks k2 rfl)
theorem ww_cS0i (q : Nat) (hq : pc + 3 = q) {y : MethodName} {b : ByteArray} {n2 : Nat} {r2 : Option FieldType} {rm : Room} {μ1 : Mem} {r : Int32} (i : Nat) (d : decode cc pc = .ok (.invokestatic i, 3)) (hM : MS y b n2 r2 0) (hw : Cond.methodLink own i y ∈ AW) (hR : rm.frames + 1 ≤ R.frames ∧ 8 + (n2 + 11) + rm.locals ≤ R.locals) (h0 : rm.cells = 0 ∧ rm.slots = 0) (hst : (st.map fun v => v.category).sum ≤ 8) (hC : CT l ca a y b n2 r2 rm [] μ (some (.int r)) μ1) (kk : WW l cc nL ret own R ca a E q lv (.int r :: st) μ1) : WW l cc nL ret own R ca a E pc lv st μ := ww_cS q hq i [] d hM hw rfl hR h0 hst rfl hC kk
theorem ww_cS0v (q : Nat) (hq : pc + 3 = q) {y : MethodName} {b : ByteArray} {n2 : Nat} {r2 : Option FieldType} {rm : Room} {μ1 : Mem} (i : Nat) (d : decode cc pc = .ok (.invokestatic i, 3)) (hM : MS y b n2 r2 0) (hw : Cond.methodLink own i y ∈ AW) (hR : rm.frames + 1 ≤ R.frames ∧ 8 + (n2 + 11) + rm.locals ≤ R.locals) (h0 : rm.cells = 0 ∧ rm.slots = 0) (hst : (st.map fun v => v.category).sum ≤ 8) (hC : CT l ca a y b n2 r2 rm [] μ none μ1) (kk : WW l cc nL ret own R ca a E q lv st μ1) : WW l cc nL ret own R ca a E pc lv st μ := ww_cS q hq i [] d hM hw rfl hR h0 hst rfl hC kk
theorem ww_cN0i (q : Nat) (hq : pc + 3 = q) {y : MethodName} {b : ByteArray} {n2 : Nat} {r2 : Option FieldType} {rm : Room} {μ1 : Mem} {host : String} {r : Int32} (i : Nat) (d : decode cc pc = .ok (.invokestatic i, 3)) (hM : MS y b n2 r2 0) (hw : ∀ (A : Nat → Prop) (U : State) (H : Heap), ST a A U H → va_Nw (.methodLinkNest own i y host) U) (hR : rm.frames + 1 ≤ R.frames ∧ 8 + (n2 + 11) + rm.locals ≤ R.locals) (h0 : rm.cells = 0 ∧ rm.slots = 0) (hst : (st.map fun v => v.category).sum ≤ 8) (hC : CT l ca a y b n2 r2 rm [] μ (some (.int r)) μ1) (kk : WW l cc nL ret own R ca a E q lv (.int r :: st) μ1) : WW l cc nL ret own R ca a E pc lv st μ := ww_cN q hq i [] d hM hw rfl hR h0 hst rfl hC kk
theorem ww_cN0v (q : Nat) (hq : pc + 3 = q) {y : MethodName} {b : ByteArray} {n2 : Nat} {r2 : Option FieldType} {rm : Room} {μ1 : Mem} {host : String} (i : Nat) (d : decode cc pc = .ok (.invokestatic i, 3)) (hM : MS y b n2 r2 0) (hw : ∀ (A : Nat → Prop) (U : State) (H : Heap), ST a A U H → va_Nw (.methodLinkNest own i y host) U) (hR : rm.frames + 1 ≤ R.frames ∧ 8 + (n2 + 11) + rm.locals ≤ R.locals) (h0 : rm.cells = 0 ∧ rm.slots = 0) (hst : (st.map fun v => v.category).sum ≤ 8) (hC : CT l ca a y b n2 r2 rm [] μ none μ1) (kk : WW l cc nL ret own R ca a E q lv st μ1) : WW l cc nL ret own R ca a E pc lv st μ := ww_cN q hq i [] d hM hw rfl hR h0 hst rfl hC kk
theorem ww_cV1i (q : Nat) (hq : pc + 3 = q) {y : MethodName} {b : ByteArray} {n2 : Nat} {r2 : Option FieldType} {rm : Room} {μ1 : Mem} {k : Nat} {v0 : Value} {r : Int32} (c2 i : Nat) (d : decode cc pc = .ok (.invokevirtual i, 3)) (hM : MV y b n2 r2 1) (hw : Cond.methodLink own i y ∈ AW) (hk : kd k = c2) (hc : c2 < 9) (hy : y.cls = cn c2) (hR : rm.frames + 1 ≤ R.frames ∧ 8 + (n2 + 11) + rm.locals ≤ R.locals) (h0 : rm.cells = 0 ∧ rm.slots = 0) (hst : (st.map fun v => v.category).sum ≤ 8) (hC : CT l ca a y b n2 r2 rm (.ref (a k) :: [v0]) μ (some (.int r)) μ1) (kk : WW l cc nL ret own R ca a E q lv (.int r :: st) μ1) : WW l cc nL ret own R ca a E pc lv (v0 :: .ref (a k) :: st) μ := ww_cV q hq c2 i [v0] d hM hw hk hc hy rfl hR h0 hst rfl hC kk
theorem ww_cV1v (q : Nat) (hq : pc + 3 = q) {y : MethodName} {b : ByteArray} {n2 : Nat} {r2 : Option FieldType} {rm : Room} {μ1 : Mem} {k : Nat} {v0 : Value} (c2 i : Nat) (d : decode cc pc = .ok (.invokevirtual i, 3)) (hM : MV y b n2 r2 1) (hw : Cond.methodLink own i y ∈ AW) (hk : kd k = c2) (hc : c2 < 9) (hy : y.cls = cn c2) (hR : rm.frames + 1 ≤ R.frames ∧ 8 + (n2 + 11) + rm.locals ≤ R.locals) (h0 : rm.cells = 0 ∧ rm.slots = 0) (hst : (st.map fun v => v.category).sum ≤ 8) (hC : CT l ca a y b n2 r2 rm (.ref (a k) :: [v0]) μ none μ1) (kk : WW l cc nL ret own R ca a E q lv st μ1) : WW l cc nL ret own R ca a E pc lv (v0 :: .ref (a k) :: st) μ := ww_cV q hq c2 i [v0] d hM hw hk hc hy rfl hR h0 hst rfl hC kk
theorem ww_cV1q (q : Nat) (hq : pc + 3 = q) {y : MethodName} {b : ByteArray} {n2 : Nat} {r2 : Option FieldType} {rm : Room} {μ1 : Mem} {k : Nat} {v0 : Value} {r : Option Nat} (c2 i : Nat) (d : decode cc pc = .ok (.invokevirtual i, 3)) (hM : MV y b n2 r2 1) (hw : Cond.methodLink own i y ∈ AW) (hk : kd k = c2) (hc : c2 < 9) (hy : y.cls = cn c2) (hR : rm.frames + 1 ≤ R.frames ∧ 8 + (n2 + 11) + rm.locals ≤ R.locals) (h0 : rm.cells = 0 ∧ rm.slots = 0) (hst : (st.map fun v => v.category).sum ≤ 8) (hC : CT l ca a y b n2 r2 rm (.ref (a k) :: [v0]) μ (some (rvq a r)) μ1) (kn : r = none → WW l cc nL ret own R ca a E q lv (.null :: st) μ1) (ks : ∀ k2, r = some k2 → WW l cc nL ret own R ca a E q lv (.ref (a k2) :: st) μ1) : WW l cc nL ret own R ca a E pc lv (v0 :: .ref (a k) :: st) μ := by
  cases r with
  | none => exact ww_cV q hq c2 i [v0] d hM hw hk hc hy rfl hR h0 hst rfl hC (kn rfl)
  | some k2 => exact ww_cV q hq c2 i [v0] d hM hw hk hc hy rfl hR h0 hst rfl hC (ks k2 rfl)
theorem ww_cS1i (q : Nat) (hq : pc + 3 = q) {y : MethodName} {b : ByteArray} {n2 : Nat} {r2 : Option FieldType} {rm : Room} {μ1 : Mem} {v0 : Value} {r : Int32} (i : Nat) (d : decode cc pc = .ok (.invokestatic i, 3)) (hM : MS y b n2 r2 1) (hw : Cond.methodLink own i y ∈ AW) (hR : rm.frames + 1 ≤ R.frames ∧ 8 + (n2 + 11) + rm.locals ≤ R.locals) (h0 : rm.cells = 0 ∧ rm.slots = 0) (hst : (st.map fun v => v.category).sum ≤ 8) (hC : CT l ca a y b n2 r2 rm [v0] μ (some (.int r)) μ1) (kk : WW l cc nL ret own R ca a E q lv (.int r :: st) μ1) : WW l cc nL ret own R ca a E pc lv (v0 :: st) μ := ww_cS q hq i [v0] d hM hw rfl hR h0 hst rfl hC kk
theorem ww_cS1v (q : Nat) (hq : pc + 3 = q) {y : MethodName} {b : ByteArray} {n2 : Nat} {r2 : Option FieldType} {rm : Room} {μ1 : Mem} {v0 : Value} (i : Nat) (d : decode cc pc = .ok (.invokestatic i, 3)) (hM : MS y b n2 r2 1) (hw : Cond.methodLink own i y ∈ AW) (hR : rm.frames + 1 ≤ R.frames ∧ 8 + (n2 + 11) + rm.locals ≤ R.locals) (h0 : rm.cells = 0 ∧ rm.slots = 0) (hst : (st.map fun v => v.category).sum ≤ 8) (hC : CT l ca a y b n2 r2 rm [v0] μ none μ1) (kk : WW l cc nL ret own R ca a E q lv st μ1) : WW l cc nL ret own R ca a E pc lv (v0 :: st) μ := ww_cS q hq i [v0] d hM hw rfl hR h0 hst rfl hC kk
theorem ww_cN1i (q : Nat) (hq : pc + 3 = q) {y : MethodName} {b : ByteArray} {n2 : Nat} {r2 : Option FieldType} {rm : Room} {μ1 : Mem} {host : String} {v0 : Value} {r : Int32} (i : Nat) (d : decode cc pc = .ok (.invokestatic i, 3)) (hM : MS y b n2 r2 1) (hw : ∀ (A : Nat → Prop) (U : State) (H : Heap), ST a A U H → va_Nw (.methodLinkNest own i y host) U) (hR : rm.frames + 1 ≤ R.frames ∧ 8 + (n2 + 11) + rm.locals ≤ R.locals) (h0 : rm.cells = 0 ∧ rm.slots = 0) (hst : (st.map fun v => v.category).sum ≤ 8) (hC : CT l ca a y b n2 r2 rm [v0] μ (some (.int r)) μ1) (kk : WW l cc nL ret own R ca a E q lv (.int r :: st) μ1) : WW l cc nL ret own R ca a E pc lv (v0 :: st) μ := ww_cN q hq i [v0] d hM hw rfl hR h0 hst rfl hC kk
theorem ww_cN1v (q : Nat) (hq : pc + 3 = q) {y : MethodName} {b : ByteArray} {n2 : Nat} {r2 : Option FieldType} {rm : Room} {μ1 : Mem} {host : String} {v0 : Value} (i : Nat) (d : decode cc pc = .ok (.invokestatic i, 3)) (hM : MS y b n2 r2 1) (hw : ∀ (A : Nat → Prop) (U : State) (H : Heap), ST a A U H → va_Nw (.methodLinkNest own i y host) U) (hR : rm.frames + 1 ≤ R.frames ∧ 8 + (n2 + 11) + rm.locals ≤ R.locals) (h0 : rm.cells = 0 ∧ rm.slots = 0) (hst : (st.map fun v => v.category).sum ≤ 8) (hC : CT l ca a y b n2 r2 rm [v0] μ none μ1) (kk : WW l cc nL ret own R ca a E q lv st μ1) : WW l cc nL ret own R ca a E pc lv (v0 :: st) μ := ww_cN q hq i [v0] d hM hw rfl hR h0 hst rfl hC kk
theorem ww_cV2i (q : Nat) (hq : pc + 3 = q) {y : MethodName} {b : ByteArray} {n2 : Nat} {r2 : Option FieldType} {rm : Room} {μ1 : Mem} {k : Nat} {v0 v1 : Value} {r : Int32} (c2 i : Nat) (d : decode cc pc = .ok (.invokevirtual i, 3)) (hM : MV y b n2 r2 2) (hw : Cond.methodLink own i y ∈ AW) (hk : kd k = c2) (hc : c2 < 9) (hy : y.cls = cn c2) (hR : rm.frames + 1 ≤ R.frames ∧ 8 + (n2 + 11) + rm.locals ≤ R.locals) (h0 : rm.cells = 0 ∧ rm.slots = 0) (hst : (st.map fun v => v.category).sum ≤ 8) (hC : CT l ca a y b n2 r2 rm (.ref (a k) :: [v0, v1]) μ (some (.int r)) μ1) (kk : WW l cc nL ret own R ca a E q lv (.int r :: st) μ1) : WW l cc nL ret own R ca a E pc lv (v1 :: v0 :: .ref (a k) :: st) μ := ww_cV q hq c2 i [v0, v1] d hM hw hk hc hy rfl hR h0 hst rfl hC kk
theorem ww_cV2v (q : Nat) (hq : pc + 3 = q) {y : MethodName} {b : ByteArray} {n2 : Nat} {r2 : Option FieldType} {rm : Room} {μ1 : Mem} {k : Nat} {v0 v1 : Value} (c2 i : Nat) (d : decode cc pc = .ok (.invokevirtual i, 3)) (hM : MV y b n2 r2 2) (hw : Cond.methodLink own i y ∈ AW) (hk : kd k = c2) (hc : c2 < 9) (hy : y.cls = cn c2) (hR : rm.frames + 1 ≤ R.frames ∧ 8 + (n2 + 11) + rm.locals ≤ R.locals) (h0 : rm.cells = 0 ∧ rm.slots = 0) (hst : (st.map fun v => v.category).sum ≤ 8) (hC : CT l ca a y b n2 r2 rm (.ref (a k) :: [v0, v1]) μ none μ1) (kk : WW l cc nL ret own R ca a E q lv st μ1) : WW l cc nL ret own R ca a E pc lv (v1 :: v0 :: .ref (a k) :: st) μ := ww_cV q hq c2 i [v0, v1] d hM hw hk hc hy rfl hR h0 hst rfl hC kk
theorem ww_cV2q (q : Nat) (hq : pc + 3 = q) {y : MethodName} {b : ByteArray} {n2 : Nat} {r2 : Option FieldType} {rm : Room} {μ1 : Mem} {k : Nat} {v0 v1 : Value} {r : Option Nat} (c2 i : Nat) (d : decode cc pc = .ok (.invokevirtual i, 3)) (hM : MV y b n2 r2 2) (hw : Cond.methodLink own i y ∈ AW) (hk : kd k = c2) (hc : c2 < 9) (hy : y.cls = cn c2) (hR : rm.frames + 1 ≤ R.frames ∧ 8 + (n2 + 11) + rm.locals ≤ R.locals) (h0 : rm.cells = 0 ∧ rm.slots = 0) (hst : (st.map fun v => v.category).sum ≤ 8) (hC : CT l ca a y b n2 r2 rm (.ref (a k) :: [v0, v1]) μ (some (rvq a r)) μ1) (kn : r = none → WW l cc nL ret own R ca a E q lv (.null :: st) μ1) (ks : ∀ k2, r = some k2 → WW l cc nL ret own R ca a E q lv (.ref (a k2) :: st) μ1) : WW l cc nL ret own R ca a E pc lv (v1 :: v0 :: .ref (a k) :: st) μ := by
  cases r with
  | none => exact ww_cV q hq c2 i [v0, v1] d hM hw hk hc hy rfl hR h0 hst rfl hC (kn rfl)
  | some k2 => exact ww_cV q hq c2 i [v0, v1] d hM hw hk hc hy rfl hR h0 hst rfl hC (ks k2 rfl)
theorem ww_cS2i (q : Nat) (hq : pc + 3 = q) {y : MethodName} {b : ByteArray} {n2 : Nat} {r2 : Option FieldType} {rm : Room} {μ1 : Mem} {v0 v1 : Value} {r : Int32} (i : Nat) (d : decode cc pc = .ok (.invokestatic i, 3)) (hM : MS y b n2 r2 2) (hw : Cond.methodLink own i y ∈ AW) (hR : rm.frames + 1 ≤ R.frames ∧ 8 + (n2 + 11) + rm.locals ≤ R.locals) (h0 : rm.cells = 0 ∧ rm.slots = 0) (hst : (st.map fun v => v.category).sum ≤ 8) (hC : CT l ca a y b n2 r2 rm [v0, v1] μ (some (.int r)) μ1) (kk : WW l cc nL ret own R ca a E q lv (.int r :: st) μ1) : WW l cc nL ret own R ca a E pc lv (v1 :: v0 :: st) μ := ww_cS q hq i [v0, v1] d hM hw rfl hR h0 hst rfl hC kk
theorem ww_cS2v (q : Nat) (hq : pc + 3 = q) {y : MethodName} {b : ByteArray} {n2 : Nat} {r2 : Option FieldType} {rm : Room} {μ1 : Mem} {v0 v1 : Value} (i : Nat) (d : decode cc pc = .ok (.invokestatic i, 3)) (hM : MS y b n2 r2 2) (hw : Cond.methodLink own i y ∈ AW) (hR : rm.frames + 1 ≤ R.frames ∧ 8 + (n2 + 11) + rm.locals ≤ R.locals) (h0 : rm.cells = 0 ∧ rm.slots = 0) (hst : (st.map fun v => v.category).sum ≤ 8) (hC : CT l ca a y b n2 r2 rm [v0, v1] μ none μ1) (kk : WW l cc nL ret own R ca a E q lv st μ1) : WW l cc nL ret own R ca a E pc lv (v1 :: v0 :: st) μ := ww_cS q hq i [v0, v1] d hM hw rfl hR h0 hst rfl hC kk
theorem ww_cN2i (q : Nat) (hq : pc + 3 = q) {y : MethodName} {b : ByteArray} {n2 : Nat} {r2 : Option FieldType} {rm : Room} {μ1 : Mem} {host : String} {v0 v1 : Value} {r : Int32} (i : Nat) (d : decode cc pc = .ok (.invokestatic i, 3)) (hM : MS y b n2 r2 2) (hw : ∀ (A : Nat → Prop) (U : State) (H : Heap), ST a A U H → va_Nw (.methodLinkNest own i y host) U) (hR : rm.frames + 1 ≤ R.frames ∧ 8 + (n2 + 11) + rm.locals ≤ R.locals) (h0 : rm.cells = 0 ∧ rm.slots = 0) (hst : (st.map fun v => v.category).sum ≤ 8) (hC : CT l ca a y b n2 r2 rm [v0, v1] μ (some (.int r)) μ1) (kk : WW l cc nL ret own R ca a E q lv (.int r :: st) μ1) : WW l cc nL ret own R ca a E pc lv (v1 :: v0 :: st) μ := ww_cN q hq i [v0, v1] d hM hw rfl hR h0 hst rfl hC kk
theorem ww_cN2v (q : Nat) (hq : pc + 3 = q) {y : MethodName} {b : ByteArray} {n2 : Nat} {r2 : Option FieldType} {rm : Room} {μ1 : Mem} {host : String} {v0 v1 : Value} (i : Nat) (d : decode cc pc = .ok (.invokestatic i, 3)) (hM : MS y b n2 r2 2) (hw : ∀ (A : Nat → Prop) (U : State) (H : Heap), ST a A U H → va_Nw (.methodLinkNest own i y host) U) (hR : rm.frames + 1 ≤ R.frames ∧ 8 + (n2 + 11) + rm.locals ≤ R.locals) (h0 : rm.cells = 0 ∧ rm.slots = 0) (hst : (st.map fun v => v.category).sum ≤ 8) (hC : CT l ca a y b n2 r2 rm [v0, v1] μ none μ1) (kk : WW l cc nL ret own R ca a E q lv st μ1) : WW l cc nL ret own R ca a E pc lv (v1 :: v0 :: st) μ := ww_cN q hq i [v0, v1] d hM hw rfl hR h0 hst rfl hC kk
theorem ww_cV3i (q : Nat) (hq : pc + 3 = q) {y : MethodName} {b : ByteArray} {n2 : Nat} {r2 : Option FieldType} {rm : Room} {μ1 : Mem} {k : Nat} {v0 v1 v2 : Value} {r : Int32} (c2 i : Nat) (d : decode cc pc = .ok (.invokevirtual i, 3)) (hM : MV y b n2 r2 3) (hw : Cond.methodLink own i y ∈ AW) (hk : kd k = c2) (hc : c2 < 9) (hy : y.cls = cn c2) (hR : rm.frames + 1 ≤ R.frames ∧ 8 + (n2 + 11) + rm.locals ≤ R.locals) (h0 : rm.cells = 0 ∧ rm.slots = 0) (hst : (st.map fun v => v.category).sum ≤ 8) (hC : CT l ca a y b n2 r2 rm (.ref (a k) :: [v0, v1, v2]) μ (some (.int r)) μ1) (kk : WW l cc nL ret own R ca a E q lv (.int r :: st) μ1) : WW l cc nL ret own R ca a E pc lv (v2 :: v1 :: v0 :: .ref (a k) :: st) μ := ww_cV q hq c2 i [v0, v1, v2] d hM hw hk hc hy rfl hR h0 hst rfl hC kk
theorem ww_cV3v (q : Nat) (hq : pc + 3 = q) {y : MethodName} {b : ByteArray} {n2 : Nat} {r2 : Option FieldType} {rm : Room} {μ1 : Mem} {k : Nat} {v0 v1 v2 : Value} (c2 i : Nat) (d : decode cc pc = .ok (.invokevirtual i, 3)) (hM : MV y b n2 r2 3) (hw : Cond.methodLink own i y ∈ AW) (hk : kd k = c2) (hc : c2 < 9) (hy : y.cls = cn c2) (hR : rm.frames + 1 ≤ R.frames ∧ 8 + (n2 + 11) + rm.locals ≤ R.locals) (h0 : rm.cells = 0 ∧ rm.slots = 0) (hst : (st.map fun v => v.category).sum ≤ 8) (hC : CT l ca a y b n2 r2 rm (.ref (a k) :: [v0, v1, v2]) μ none μ1) (kk : WW l cc nL ret own R ca a E q lv st μ1) : WW l cc nL ret own R ca a E pc lv (v2 :: v1 :: v0 :: .ref (a k) :: st) μ := ww_cV q hq c2 i [v0, v1, v2] d hM hw hk hc hy rfl hR h0 hst rfl hC kk
theorem ww_cV3q (q : Nat) (hq : pc + 3 = q) {y : MethodName} {b : ByteArray} {n2 : Nat} {r2 : Option FieldType} {rm : Room} {μ1 : Mem} {k : Nat} {v0 v1 v2 : Value} {r : Option Nat} (c2 i : Nat) (d : decode cc pc = .ok (.invokevirtual i, 3)) (hM : MV y b n2 r2 3) (hw : Cond.methodLink own i y ∈ AW) (hk : kd k = c2) (hc : c2 < 9) (hy : y.cls = cn c2) (hR : rm.frames + 1 ≤ R.frames ∧ 8 + (n2 + 11) + rm.locals ≤ R.locals) (h0 : rm.cells = 0 ∧ rm.slots = 0) (hst : (st.map fun v => v.category).sum ≤ 8) (hC : CT l ca a y b n2 r2 rm (.ref (a k) :: [v0, v1, v2]) μ (some (rvq a r)) μ1) (kn : r = none → WW l cc nL ret own R ca a E q lv (.null :: st) μ1) (ks : ∀ k2, r = some k2 → WW l cc nL ret own R ca a E q lv (.ref (a k2) :: st) μ1) : WW l cc nL ret own R ca a E pc lv (v2 :: v1 :: v0 :: .ref (a k) :: st) μ := by
  cases r with
  | none => exact ww_cV q hq c2 i [v0, v1, v2] d hM hw hk hc hy rfl hR h0 hst rfl hC (kn rfl)
  | some k2 => exact ww_cV q hq c2 i [v0, v1, v2] d hM hw hk hc hy rfl hR h0 hst rfl hC (ks k2 rfl)
theorem ww_cS3i (q : Nat) (hq : pc + 3 = q) {y : MethodName} {b : ByteArray} {n2 : Nat} {r2 : Option FieldType} {rm : Room} {μ1 : Mem} {v0 v1 v2 : Value} {r : Int32} (i : Nat) (d : decode cc pc = .ok (.invokestatic i, 3)) (hM : MS y b n2 r2 3) (hw : Cond.methodLink own i y ∈ AW) (hR : rm.frames + 1 ≤ R.frames ∧ 8 + (n2 + 11) + rm.locals ≤ R.locals) (h0 : rm.cells = 0 ∧ rm.slots = 0) (hst : (st.map fun v => v.category).sum ≤ 8) (hC : CT l ca a y b n2 r2 rm [v0, v1, v2] μ (some (.int r)) μ1) (kk : WW l cc nL ret own R ca a E q lv (.int r :: st) μ1) : WW l cc nL ret own R ca a E pc lv (v2 :: v1 :: v0 :: st) μ := ww_cS q hq i [v0, v1, v2] d hM hw rfl hR h0 hst rfl hC kk
theorem ww_cS3v (q : Nat) (hq : pc + 3 = q) {y : MethodName} {b : ByteArray} {n2 : Nat} {r2 : Option FieldType} {rm : Room} {μ1 : Mem} {v0 v1 v2 : Value} (i : Nat) (d : decode cc pc = .ok (.invokestatic i, 3)) (hM : MS y b n2 r2 3) (hw : Cond.methodLink own i y ∈ AW) (hR : rm.frames + 1 ≤ R.frames ∧ 8 + (n2 + 11) + rm.locals ≤ R.locals) (h0 : rm.cells = 0 ∧ rm.slots = 0) (hst : (st.map fun v => v.category).sum ≤ 8) (hC : CT l ca a y b n2 r2 rm [v0, v1, v2] μ none μ1) (kk : WW l cc nL ret own R ca a E q lv st μ1) : WW l cc nL ret own R ca a E pc lv (v2 :: v1 :: v0 :: st) μ := ww_cS q hq i [v0, v1, v2] d hM hw rfl hR h0 hst rfl hC kk
theorem ww_cN3i (q : Nat) (hq : pc + 3 = q) {y : MethodName} {b : ByteArray} {n2 : Nat} {r2 : Option FieldType} {rm : Room} {μ1 : Mem} {host : String} {v0 v1 v2 : Value} {r : Int32} (i : Nat) (d : decode cc pc = .ok (.invokestatic i, 3)) (hM : MS y b n2 r2 3) (hw : ∀ (A : Nat → Prop) (U : State) (H : Heap), ST a A U H → va_Nw (.methodLinkNest own i y host) U) (hR : rm.frames + 1 ≤ R.frames ∧ 8 + (n2 + 11) + rm.locals ≤ R.locals) (h0 : rm.cells = 0 ∧ rm.slots = 0) (hst : (st.map fun v => v.category).sum ≤ 8) (hC : CT l ca a y b n2 r2 rm [v0, v1, v2] μ (some (.int r)) μ1) (kk : WW l cc nL ret own R ca a E q lv (.int r :: st) μ1) : WW l cc nL ret own R ca a E pc lv (v2 :: v1 :: v0 :: st) μ := ww_cN q hq i [v0, v1, v2] d hM hw rfl hR h0 hst rfl hC kk
theorem ww_cN3v (q : Nat) (hq : pc + 3 = q) {y : MethodName} {b : ByteArray} {n2 : Nat} {r2 : Option FieldType} {rm : Room} {μ1 : Mem} {host : String} {v0 v1 v2 : Value} (i : Nat) (d : decode cc pc = .ok (.invokestatic i, 3)) (hM : MS y b n2 r2 3) (hw : ∀ (A : Nat → Prop) (U : State) (H : Heap), ST a A U H → va_Nw (.methodLinkNest own i y host) U) (hR : rm.frames + 1 ≤ R.frames ∧ 8 + (n2 + 11) + rm.locals ≤ R.locals) (h0 : rm.cells = 0 ∧ rm.slots = 0) (hst : (st.map fun v => v.category).sum ≤ 8) (hC : CT l ca a y b n2 r2 rm [v0, v1, v2] μ none μ1) (kk : WW l cc nL ret own R ca a E q lv st μ1) : WW l cc nL ret own R ca a E pc lv (v2 :: v1 :: v0 :: st) μ := ww_cN q hq i [v0, v1, v2] d hM hw rfl hR h0 hst rfl hC kk
theorem ww_cV4i (q : Nat) (hq : pc + 3 = q) {y : MethodName} {b : ByteArray} {n2 : Nat} {r2 : Option FieldType} {rm : Room} {μ1 : Mem} {k : Nat} {v0 v1 v2 v3 : Value} {r : Int32} (c2 i : Nat) (d : decode cc pc = .ok (.invokevirtual i, 3)) (hM : MV y b n2 r2 4) (hw : Cond.methodLink own i y ∈ AW) (hk : kd k = c2) (hc : c2 < 9) (hy : y.cls = cn c2) (hR : rm.frames + 1 ≤ R.frames ∧ 8 + (n2 + 11) + rm.locals ≤ R.locals) (h0 : rm.cells = 0 ∧ rm.slots = 0) (hst : (st.map fun v => v.category).sum ≤ 8) (hC : CT l ca a y b n2 r2 rm (.ref (a k) :: [v0, v1, v2, v3]) μ (some (.int r)) μ1) (kk : WW l cc nL ret own R ca a E q lv (.int r :: st) μ1) : WW l cc nL ret own R ca a E pc lv (v3 :: v2 :: v1 :: v0 :: .ref (a k) :: st) μ := ww_cV q hq c2 i [v0, v1, v2, v3] d hM hw hk hc hy rfl hR h0 hst rfl hC kk
theorem ww_cV4v (q : Nat) (hq : pc + 3 = q) {y : MethodName} {b : ByteArray} {n2 : Nat} {r2 : Option FieldType} {rm : Room} {μ1 : Mem} {k : Nat} {v0 v1 v2 v3 : Value} (c2 i : Nat) (d : decode cc pc = .ok (.invokevirtual i, 3)) (hM : MV y b n2 r2 4) (hw : Cond.methodLink own i y ∈ AW) (hk : kd k = c2) (hc : c2 < 9) (hy : y.cls = cn c2) (hR : rm.frames + 1 ≤ R.frames ∧ 8 + (n2 + 11) + rm.locals ≤ R.locals) (h0 : rm.cells = 0 ∧ rm.slots = 0) (hst : (st.map fun v => v.category).sum ≤ 8) (hC : CT l ca a y b n2 r2 rm (.ref (a k) :: [v0, v1, v2, v3]) μ none μ1) (kk : WW l cc nL ret own R ca a E q lv st μ1) : WW l cc nL ret own R ca a E pc lv (v3 :: v2 :: v1 :: v0 :: .ref (a k) :: st) μ := ww_cV q hq c2 i [v0, v1, v2, v3] d hM hw hk hc hy rfl hR h0 hst rfl hC kk
theorem ww_cV4q (q : Nat) (hq : pc + 3 = q) {y : MethodName} {b : ByteArray} {n2 : Nat} {r2 : Option FieldType} {rm : Room} {μ1 : Mem} {k : Nat} {v0 v1 v2 v3 : Value} {r : Option Nat} (c2 i : Nat) (d : decode cc pc = .ok (.invokevirtual i, 3)) (hM : MV y b n2 r2 4) (hw : Cond.methodLink own i y ∈ AW) (hk : kd k = c2) (hc : c2 < 9) (hy : y.cls = cn c2) (hR : rm.frames + 1 ≤ R.frames ∧ 8 + (n2 + 11) + rm.locals ≤ R.locals) (h0 : rm.cells = 0 ∧ rm.slots = 0) (hst : (st.map fun v => v.category).sum ≤ 8) (hC : CT l ca a y b n2 r2 rm (.ref (a k) :: [v0, v1, v2, v3]) μ (some (rvq a r)) μ1) (kn : r = none → WW l cc nL ret own R ca a E q lv (.null :: st) μ1) (ks : ∀ k2, r = some k2 → WW l cc nL ret own R ca a E q lv (.ref (a k2) :: st) μ1) : WW l cc nL ret own R ca a E pc lv (v3 :: v2 :: v1 :: v0 :: .ref (a k) :: st) μ := by
  cases r with
  | none => exact ww_cV q hq c2 i [v0, v1, v2, v3] d hM hw hk hc hy rfl hR h0 hst rfl hC (kn rfl)
  | some k2 => exact ww_cV q hq c2 i [v0, v1, v2, v3] d hM hw hk hc hy rfl hR h0 hst rfl hC (ks k2 rfl)
theorem ww_cS4i (q : Nat) (hq : pc + 3 = q) {y : MethodName} {b : ByteArray} {n2 : Nat} {r2 : Option FieldType} {rm : Room} {μ1 : Mem} {v0 v1 v2 v3 : Value} {r : Int32} (i : Nat) (d : decode cc pc = .ok (.invokestatic i, 3)) (hM : MS y b n2 r2 4) (hw : Cond.methodLink own i y ∈ AW) (hR : rm.frames + 1 ≤ R.frames ∧ 8 + (n2 + 11) + rm.locals ≤ R.locals) (h0 : rm.cells = 0 ∧ rm.slots = 0) (hst : (st.map fun v => v.category).sum ≤ 8) (hC : CT l ca a y b n2 r2 rm [v0, v1, v2, v3] μ (some (.int r)) μ1) (kk : WW l cc nL ret own R ca a E q lv (.int r :: st) μ1) : WW l cc nL ret own R ca a E pc lv (v3 :: v2 :: v1 :: v0 :: st) μ := ww_cS q hq i [v0, v1, v2, v3] d hM hw rfl hR h0 hst rfl hC kk
theorem ww_cS4v (q : Nat) (hq : pc + 3 = q) {y : MethodName} {b : ByteArray} {n2 : Nat} {r2 : Option FieldType} {rm : Room} {μ1 : Mem} {v0 v1 v2 v3 : Value} (i : Nat) (d : decode cc pc = .ok (.invokestatic i, 3)) (hM : MS y b n2 r2 4) (hw : Cond.methodLink own i y ∈ AW) (hR : rm.frames + 1 ≤ R.frames ∧ 8 + (n2 + 11) + rm.locals ≤ R.locals) (h0 : rm.cells = 0 ∧ rm.slots = 0) (hst : (st.map fun v => v.category).sum ≤ 8) (hC : CT l ca a y b n2 r2 rm [v0, v1, v2, v3] μ none μ1) (kk : WW l cc nL ret own R ca a E q lv st μ1) : WW l cc nL ret own R ca a E pc lv (v3 :: v2 :: v1 :: v0 :: st) μ := ww_cS q hq i [v0, v1, v2, v3] d hM hw rfl hR h0 hst rfl hC kk
theorem ww_cN4i (q : Nat) (hq : pc + 3 = q) {y : MethodName} {b : ByteArray} {n2 : Nat} {r2 : Option FieldType} {rm : Room} {μ1 : Mem} {host : String} {v0 v1 v2 v3 : Value} {r : Int32} (i : Nat) (d : decode cc pc = .ok (.invokestatic i, 3)) (hM : MS y b n2 r2 4) (hw : ∀ (A : Nat → Prop) (U : State) (H : Heap), ST a A U H → va_Nw (.methodLinkNest own i y host) U) (hR : rm.frames + 1 ≤ R.frames ∧ 8 + (n2 + 11) + rm.locals ≤ R.locals) (h0 : rm.cells = 0 ∧ rm.slots = 0) (hst : (st.map fun v => v.category).sum ≤ 8) (hC : CT l ca a y b n2 r2 rm [v0, v1, v2, v3] μ (some (.int r)) μ1) (kk : WW l cc nL ret own R ca a E q lv (.int r :: st) μ1) : WW l cc nL ret own R ca a E pc lv (v3 :: v2 :: v1 :: v0 :: st) μ := ww_cN q hq i [v0, v1, v2, v3] d hM hw rfl hR h0 hst rfl hC kk
theorem ww_cN4v (q : Nat) (hq : pc + 3 = q) {y : MethodName} {b : ByteArray} {n2 : Nat} {r2 : Option FieldType} {rm : Room} {μ1 : Mem} {host : String} {v0 v1 v2 v3 : Value} (i : Nat) (d : decode cc pc = .ok (.invokestatic i, 3)) (hM : MS y b n2 r2 4) (hw : ∀ (A : Nat → Prop) (U : State) (H : Heap), ST a A U H → va_Nw (.methodLinkNest own i y host) U) (hR : rm.frames + 1 ≤ R.frames ∧ 8 + (n2 + 11) + rm.locals ≤ R.locals) (h0 : rm.cells = 0 ∧ rm.slots = 0) (hst : (st.map fun v => v.category).sum ≤ 8) (hC : CT l ca a y b n2 r2 rm [v0, v1, v2, v3] μ none μ1) (kk : WW l cc nL ret own R ca a E q lv st μ1) : WW l cc nL ret own R ca a E pc lv (v3 :: v2 :: v1 :: v0 :: st) μ := ww_cN q hq i [v0, v1, v2, v3] d hM hw rfl hR h0 hst rfl hC kk
theorem ww_cV5i (q : Nat) (hq : pc + 3 = q) {y : MethodName} {b : ByteArray} {n2 : Nat} {r2 : Option FieldType} {rm : Room} {μ1 : Mem} {k : Nat} {v0 v1 v2 v3 v4 : Value} {r : Int32} (c2 i : Nat) (d : decode cc pc = .ok (.invokevirtual i, 3)) (hM : MV y b n2 r2 5) (hw : Cond.methodLink own i y ∈ AW) (hk : kd k = c2) (hc : c2 < 9) (hy : y.cls = cn c2) (hR : rm.frames + 1 ≤ R.frames ∧ 8 + (n2 + 11) + rm.locals ≤ R.locals) (h0 : rm.cells = 0 ∧ rm.slots = 0) (hst : (st.map fun v => v.category).sum ≤ 8) (hC : CT l ca a y b n2 r2 rm (.ref (a k) :: [v0, v1, v2, v3, v4]) μ (some (.int r)) μ1) (kk : WW l cc nL ret own R ca a E q lv (.int r :: st) μ1) : WW l cc nL ret own R ca a E pc lv (v4 :: v3 :: v2 :: v1 :: v0 :: .ref (a k) :: st) μ := ww_cV q hq c2 i [v0, v1, v2, v3, v4] d hM hw hk hc hy rfl hR h0 hst rfl hC kk
theorem ww_cV5v (q : Nat) (hq : pc + 3 = q) {y : MethodName} {b : ByteArray} {n2 : Nat} {r2 : Option FieldType} {rm : Room} {μ1 : Mem} {k : Nat} {v0 v1 v2 v3 v4 : Value} (c2 i : Nat) (d : decode cc pc = .ok (.invokevirtual i, 3)) (hM : MV y b n2 r2 5) (hw : Cond.methodLink own i y ∈ AW) (hk : kd k = c2) (hc : c2 < 9) (hy : y.cls = cn c2) (hR : rm.frames + 1 ≤ R.frames ∧ 8 + (n2 + 11) + rm.locals ≤ R.locals) (h0 : rm.cells = 0 ∧ rm.slots = 0) (hst : (st.map fun v => v.category).sum ≤ 8) (hC : CT l ca a y b n2 r2 rm (.ref (a k) :: [v0, v1, v2, v3, v4]) μ none μ1) (kk : WW l cc nL ret own R ca a E q lv st μ1) : WW l cc nL ret own R ca a E pc lv (v4 :: v3 :: v2 :: v1 :: v0 :: .ref (a k) :: st) μ := ww_cV q hq c2 i [v0, v1, v2, v3, v4] d hM hw hk hc hy rfl hR h0 hst rfl hC kk
theorem ww_cV5q (q : Nat) (hq : pc + 3 = q) {y : MethodName} {b : ByteArray} {n2 : Nat} {r2 : Option FieldType} {rm : Room} {μ1 : Mem} {k : Nat} {v0 v1 v2 v3 v4 : Value} {r : Option Nat} (c2 i : Nat) (d : decode cc pc = .ok (.invokevirtual i, 3)) (hM : MV y b n2 r2 5) (hw : Cond.methodLink own i y ∈ AW) (hk : kd k = c2) (hc : c2 < 9) (hy : y.cls = cn c2) (hR : rm.frames + 1 ≤ R.frames ∧ 8 + (n2 + 11) + rm.locals ≤ R.locals) (h0 : rm.cells = 0 ∧ rm.slots = 0) (hst : (st.map fun v => v.category).sum ≤ 8) (hC : CT l ca a y b n2 r2 rm (.ref (a k) :: [v0, v1, v2, v3, v4]) μ (some (rvq a r)) μ1) (kn : r = none → WW l cc nL ret own R ca a E q lv (.null :: st) μ1) (ks : ∀ k2, r = some k2 → WW l cc nL ret own R ca a E q lv (.ref (a k2) :: st) μ1) : WW l cc nL ret own R ca a E pc lv (v4 :: v3 :: v2 :: v1 :: v0 :: .ref (a k) :: st) μ := by
  cases r with
  | none => exact ww_cV q hq c2 i [v0, v1, v2, v3, v4] d hM hw hk hc hy rfl hR h0 hst rfl hC (kn rfl)
  | some k2 => exact ww_cV q hq c2 i [v0, v1, v2, v3, v4] d hM hw hk hc hy rfl hR h0 hst rfl hC (ks k2 rfl)
theorem ww_cS5i (q : Nat) (hq : pc + 3 = q) {y : MethodName} {b : ByteArray} {n2 : Nat} {r2 : Option FieldType} {rm : Room} {μ1 : Mem} {v0 v1 v2 v3 v4 : Value} {r : Int32} (i : Nat) (d : decode cc pc = .ok (.invokestatic i, 3)) (hM : MS y b n2 r2 5) (hw : Cond.methodLink own i y ∈ AW) (hR : rm.frames + 1 ≤ R.frames ∧ 8 + (n2 + 11) + rm.locals ≤ R.locals) (h0 : rm.cells = 0 ∧ rm.slots = 0) (hst : (st.map fun v => v.category).sum ≤ 8) (hC : CT l ca a y b n2 r2 rm [v0, v1, v2, v3, v4] μ (some (.int r)) μ1) (kk : WW l cc nL ret own R ca a E q lv (.int r :: st) μ1) : WW l cc nL ret own R ca a E pc lv (v4 :: v3 :: v2 :: v1 :: v0 :: st) μ := ww_cS q hq i [v0, v1, v2, v3, v4] d hM hw rfl hR h0 hst rfl hC kk
theorem ww_cS5v (q : Nat) (hq : pc + 3 = q) {y : MethodName} {b : ByteArray} {n2 : Nat} {r2 : Option FieldType} {rm : Room} {μ1 : Mem} {v0 v1 v2 v3 v4 : Value} (i : Nat) (d : decode cc pc = .ok (.invokestatic i, 3)) (hM : MS y b n2 r2 5) (hw : Cond.methodLink own i y ∈ AW) (hR : rm.frames + 1 ≤ R.frames ∧ 8 + (n2 + 11) + rm.locals ≤ R.locals) (h0 : rm.cells = 0 ∧ rm.slots = 0) (hst : (st.map fun v => v.category).sum ≤ 8) (hC : CT l ca a y b n2 r2 rm [v0, v1, v2, v3, v4] μ none μ1) (kk : WW l cc nL ret own R ca a E q lv st μ1) : WW l cc nL ret own R ca a E pc lv (v4 :: v3 :: v2 :: v1 :: v0 :: st) μ := ww_cS q hq i [v0, v1, v2, v3, v4] d hM hw rfl hR h0 hst rfl hC kk
theorem ww_cN5i (q : Nat) (hq : pc + 3 = q) {y : MethodName} {b : ByteArray} {n2 : Nat} {r2 : Option FieldType} {rm : Room} {μ1 : Mem} {host : String} {v0 v1 v2 v3 v4 : Value} {r : Int32} (i : Nat) (d : decode cc pc = .ok (.invokestatic i, 3)) (hM : MS y b n2 r2 5) (hw : ∀ (A : Nat → Prop) (U : State) (H : Heap), ST a A U H → va_Nw (.methodLinkNest own i y host) U) (hR : rm.frames + 1 ≤ R.frames ∧ 8 + (n2 + 11) + rm.locals ≤ R.locals) (h0 : rm.cells = 0 ∧ rm.slots = 0) (hst : (st.map fun v => v.category).sum ≤ 8) (hC : CT l ca a y b n2 r2 rm [v0, v1, v2, v3, v4] μ (some (.int r)) μ1) (kk : WW l cc nL ret own R ca a E q lv (.int r :: st) μ1) : WW l cc nL ret own R ca a E pc lv (v4 :: v3 :: v2 :: v1 :: v0 :: st) μ := ww_cN q hq i [v0, v1, v2, v3, v4] d hM hw rfl hR h0 hst rfl hC kk
theorem ww_cN5v (q : Nat) (hq : pc + 3 = q) {y : MethodName} {b : ByteArray} {n2 : Nat} {r2 : Option FieldType} {rm : Room} {μ1 : Mem} {host : String} {v0 v1 v2 v3 v4 : Value} (i : Nat) (d : decode cc pc = .ok (.invokestatic i, 3)) (hM : MS y b n2 r2 5) (hw : ∀ (A : Nat → Prop) (U : State) (H : Heap), ST a A U H → va_Nw (.methodLinkNest own i y host) U) (hR : rm.frames + 1 ≤ R.frames ∧ 8 + (n2 + 11) + rm.locals ≤ R.locals) (h0 : rm.cells = 0 ∧ rm.slots = 0) (hst : (st.map fun v => v.category).sum ≤ 8) (hC : CT l ca a y b n2 r2 rm [v0, v1, v2, v3, v4] μ none μ1) (kk : WW l cc nL ret own R ca a E q lv st μ1) : WW l cc nL ret own R ca a E pc lv (v4 :: v3 :: v2 :: v1 :: v0 :: st) μ := ww_cN q hq i [v0, v1, v2, v3, v4] d hM hw rfl hR h0 hst rfl hC kk
theorem ww_nmi {x : Int32} (k : ∀ v, v = x → WW l cc nL ret own R ca a E pc lv (.int v :: st) μ) : WW l cc nL ret own R ca a E pc lv (.int x :: st) μ := k x rfl
theorem ww_nmm (k : ∀ m1, m1 = μ → WW l cc nL ret own R ca a E pc lv st m1) : WW l cc nL ret own R ca a E pc lv st μ := k μ rfl
end ROWS
