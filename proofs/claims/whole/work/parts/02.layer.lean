-- THE LAYER: one memory for all cells; a judgement WW over it; a row for each instruction
abbrev Mem : Type := Nat → Nat → Int32
def kd (k : Nat) : Nat := kds.getD k 99
def ln (k : Nat) : Nat := lns.getD k 0
def nfc (c : Nat) : Nat := nfs.getD c 0
theorem kd_lt {k c : Nat} (h : kd k = c) (hc : c < 99) : k < 57 := by
  rcases Nat.lt_or_ge k 57 with q | q
  · exact q
  · have : kd k = 99 := by
      unfold kd
      rw [List.getD_eq_getElem?_getD, List.getElem?_eq_none (by exact q)]
      rfl
    omega
/-- the cell at number k, with contents row -/
def fdc (c : Nat) (a : Nat → Nat) (k : Nat) (row : Nat → Int32) : List Value := (List.range (nfc c)).map (fun j => if tgc c k j = 0 then Value.int (row j) else Value.ref (a (tgc c k j)))
def ce (ca : Nat → ClassId) (a : Nat → Nat) (k : Nat) (row : Nat → Int32) : va_E :=
  if kd k = 10 then .inl (ca 0, ln k, .inl row) else if kd k = 11 then .inl (ca 1, ln k, .inl row)
  else if kd k = 12 then .inl (ca 2, ln k, .inr (.inr (.inr (.inr (fun j => some (a (row j).toNatClampNeg)))))) else .inr (kd k, fdc (kd k) a k row)
def WL (ca : Nat → ClassId) (a : Nat → Nat) (μ : Mem) : va_W := (List.range 57).map (fun k => (a k, ce ca a k (μ k)))
def stm (μ : Mem) (k : Nat) (r : Nat → Int32) : Mem := fun k' => if k' = k then r else μ k'
theorem stm_same (μ : Mem) (k : Nat) (r : Nat → Int32) : stm μ k r k = r := if_pos rfl
theorem stm_ne (μ : Mem) {k k' : Nat} (r : Nat → Int32) (h : k' ≠ k) : stm μ k r k' = μ k' := if_neg h
/-- pieces of the pure functions -/
def put (μ : Mem) (k j : Nat) (x : Int32) : Mem := stm μ k (upd (μ k) j x)
def bnd {α β : Type} (x : α) (f : α → β) : β := f x
theorem bnd_at {α β : Type} {x y : α} {f : α → β} {r : β} (h : bnd x f = r) (e : y = x) : f y = r := by subst e; exact h
def gp {β : Type} (c : Prop) [Decidable c] (e : Option β) : Option β := if c then e else none
theorem gp_at {β : Type} {c : Prop} [Decidable c] {e : Option β} {r : β} (h : gp c e = some r) : c ∧ e = some r := by
  unfold gp at h
  by_cases hc : c
  · rw [if_pos hc] at h
    exact ⟨hc, h⟩
  · rw [if_neg hc] at h
    cases h
theorem gd_at {β : Type} {c : Prop} [Decidable c] {e : Option β} {r : β} (h : (if c then none else e) = some r) : ¬ c ∧ e = some r := by
  by_cases hc : c
  · rw [if_pos hc] at h
    cases h
  · rw [if_neg hc] at h
    exact ⟨hc, h⟩
def rd {α β : Type} (o : Option α) (f : α → Option β) : Option β := match o with
  | none => none
  | some x => f x
theorem rd_at {α β : Type} {o : Option α} {f : α → Option β} {r : β} (h : rd o f = some r) : ∃ x, o = some x ∧ f x = some r := by
  cases o with
  | none => cases h
  | some x => exact ⟨x, rfl, h⟩
def cal {α β : Type} (o : Option (α × Mem)) (f : α → Mem → Option β) : Option β := match o with
  | none => none
  | some x => f x.1 x.2
theorem cal_at {α β : Type} {o : Option (α × Mem)} {f : α → Mem → Option β} {r : β} (h : cal o f = some r) : ∃ x m, o = some (x, m) ∧ f x m = some r := by
  cases o with
  | none => cases h
  | some x => exact ⟨x.1, x.2, rfl, h⟩
def om {β : Type} (o : Option Nat) (A : Option β) (B : Nat → Option β) : Option β := match o with
  | none => A
  | some k => B k
theorem om_none {β : Type} {A : Option β} {B : Nat → Option β} {r : Option β} (h : om none A B = r) : A = r := h
theorem om_some {β : Type} {A : Option β} {B : Nat → Option β} {k : Nat} {r : Option β} (h : om (some k) A B = r) : B k = r := h
def rvq (a : Nat → Nat) (o : Option Nat) : Value := match o with
  | none => .null
  | some k => .ref (a k)
theorem sw_ne {x v : Int32} (h : ¬ x = v) {n : Int} (hv : v.toInt = n) : ¬ x.toInt = n := fun e => h (Int32.toInt_inj.mp (e.trans hv.symm))
theorem cat_ok {As : List Value} (h : As.all (fun v => v.category == 1) = true) : ∀ v ∈ As, v.category = 1 := fun v hv => by
  have := List.all_eq_true.mp h v hv
  simpa using this
section WLS
variable {ca : Nat → ClassId} {a : Nat → Nat} {μ : Mem} {k : Nat}
theorem WL_get (h : k < 57) : (WL ca a μ)[k]? = some (a k, ce ca a k (μ k)) := by
  unfold WL
  rw [List.getElem?_map, List.getElem?_range h]
  rfl
theorem WL_in {q : Nat × va_E} (h : (WL ca a μ)[k]? = some q) : k < 57 ∧ q = (a k, ce ca a k (μ k)) := by
  have hl : k < 57 := by
    have := (List.getElem?_eq_some_iff.mp h).1
    simpa [WL] using this
  rw [WL_get hl] at h
  exact ⟨hl, (Option.some.inj h).symm⟩
theorem WL_set (h : k < 57) (r : Nat → Int32) : (WL ca a μ).set k (a k, ce ca a k r) = WL ca a (stm μ k r) := by
  apply List.ext_getElem?
  intro i
  by_cases hi : i < 57
  · by_cases hk : i = k
    · subst hk
      rw [WL_get hi, stm_same, List.getElem?_set_self (by simpa [WL] using hi)]
    · rw [List.getElem?_set_ne (fun z => hk z.symm), WL_get hi, WL_get hi, stm_ne _ _ hk]
  · rw [List.getElem?_eq_none (by simpa [WL] using hi), List.getElem?_eq_none (by simpa [WL] using hi)]
theorem ce_obj {c : Nat} (hk : kd k = c) (hc : c < 9) (row : Nat → Int32) : ce ca a k row = .inr (c, fdc c a k row) := by
  unfold ce
  rw [if_neg (by omega), if_neg (by omega), if_neg (by omega), hk]
theorem ce_int (hk : kd k = 10) (row : Nat → Int32) : ce ca a k row = .inl (ca 0, ln k, .inl row) := by
  unfold ce
  rw [if_pos hk]
theorem ce_boo (hk : kd k = 11) (row : Nat → Int32) : ce ca a k row = .inl (ca 1, ln k, .inl row) := by
  unfold ce
  rw [if_neg (by omega), if_pos hk]
theorem ce_ref (hk : kd k = 12) (row : Nat → Int32) : ce ca a k row = .inl (ca 2, ln k, .inr (.inr (.inr (.inr (fun j => some (a (row j).toNatClampNeg)))))) := by
  unfold ce
  rw [if_neg (by omega), if_neg (by omega), if_pos hk]
theorem fdc_get {c j : Nat} (hj : j < nfc c) (row : Nat → Int32) : (fdc c a k row)[j]? = some (if tgc c k j = 0 then Value.int (row j) else Value.ref (a (tgc c k j))) := by
  unfold fdc
  rw [List.getElem?_map, List.getElem?_range hj]
  rfl
theorem fdc_len {c : Nat} (row : Nat → Int32) : (fdc c a k row).length = nfc c := by simp [fdc]
theorem fdc_set {c j : Nat} (hj : j < nfc c) (ht : tgc c k j = 0) (row : Nat → Int32) (x : Int32) : (fdc c a k row).set j (.int x) = fdc c a k (upd row j x) := by
  apply List.ext_getElem?
  intro i
  by_cases hi : i < nfc c
  · by_cases hk : i = j
    · subst hk
      rw [fdc_get hi, List.getElem?_set_self (by rw [fdc_len]; exact hi), if_pos ht]
      simp [upd]
    · rw [List.getElem?_set_ne (fun z => hk z.symm), fdc_get hi, fdc_get hi]
      simp [upd, hk]
  · rw [List.getElem?_eq_none (by rw [List.length_set, fdc_len]; omega), List.getElem?_eq_none (by rw [fdc_len]; omega)]
end WLS
/-- the cells' addresses are apart -/
def AD (a : Nat → Nat) : Prop := ∀ i j, i < 57 → j < 57 → a i = a j → i = j
/-- what a method may change: the cells, and what is new -/
def AA (a : Nat → Nat) (sz : Nat) : Nat → Prop := fun q => (∃ k, k < 57 ∧ q = a k) ∨ sz ≤ q
theorem WL_D {ca : Nat → ClassId} {a : Nat → Nat} {μ : Mem} {sz : Nat} (h : AD a) : va_D (AA a sz) (WL ca a μ) := by
  refine ⟨fun i j p q hi hj hpq => ?_, fun k q hk => ?_⟩
  · obtain ⟨h1, rfl⟩ := WL_in hi
    obtain ⟨h2, rfl⟩ := WL_in hj
    exact h i j h1 h2 hpq
  · obtain ⟨h1, rfl⟩ := WL_in hk
    exact Or.inl ⟨k, h1, rfl⟩
theorem AA_le {a : Nat → Nat} {sz sz' : Nat} (h : sz ≤ sz') : ∀ q, AA a sz' q → AA a sz q := fun q hq => by
  rcases hq with h1 | h1
  · exact Or.inl h1
  · exact Or.inr (Nat.le_trans h h1)
def tys (ca : Nat → ClassId) : List (ClassId × FieldType) := [(ca 0, .int), (ca 1, .boolean), (ca 2, .object R_Packet)]
/-- the two tables, and the links between nest mates -/
def ST (a : Nat → Nat) (A : Nat → Prop) (U : State) (H : Heap) : Prop :=
  (va_Z R_Adaptive "STEPS" "[I" (.ref (a 60)) A U H ∧ va_T .int (a 60) 89 (fun j => .int (tb_STEPS j)) A U H) ∧ (va_Z R_Packet "TYPES" "[I" (.ref (a 61)) A U H ∧ va_T .int (a 61) 4 (fun j => .int (tb_TYPES j)) A U H) ∧
  va_Nw (.methodLinkNest R_Sender n_Sender y_Gate_sequenceAfter R_Gate) U ∧ va_Nw (.methodLinkNest R_Buffer n_Buffer y_Gate_sequenceAfter R_Gate) U
theorem ST.warm {a : Nat → Nat} {A : Nat → Prop} {u U : State} {H : Heap} (hW : u.WarmedH U.vm) (h : ST a A u H) : ST a A U H := by
  obtain ⟨⟨h1, h2⟩, ⟨h3, h4⟩, h5, h6⟩ := h
  exact ⟨⟨h1.moved hW.alike, h2.moved hW.alike⟩, ⟨h3.moved hW.alike, h4.moved hW.alike⟩, h5.warmM hW, h6.warmM hW⟩
theorem ST.same {a : Nat → Nat} {A : Nat → Prop} {u U : State} {H : Heap} (hvm : u.vm = U.vm) (h : ST a A u H) : ST a A U H := by
  obtain ⟨⟨h1, h2⟩, ⟨h3, h4⟩, h5, h6⟩ := h
  have ha : u.vm.Alike U.vm := hvm ▸ Vm.Alike.refl u.vm
  exact ⟨⟨h1.moved ha, h2.moved ha⟩, ⟨h3.moved ha, h4.moved ha⟩, va_Nw.same rfl hvm h5, va_Nw.same rfl hvm h6⟩
theorem ST.kept {a : Nat → Nat} {A : Nat → Prop} {U : State} {H H1 : Heap} (h : ST a A U H) (hq : ∀ q : Nat, q < H.size → ¬ A q → H1[q]? = H[q]?) : ST a A U H1 := by
  obtain ⟨⟨h1, h2⟩, ⟨h3, h4⟩, h5, h6⟩ := h
  exact ⟨⟨h1.kept hq, h2.kept hq⟩, ⟨h3.kept hq, h4.kept hq⟩, h5, h6⟩
theorem ST.narrow {a : Nat → Nat} {A B : Nat → Prop} {U : State} {H : Heap} (h : ST a A U H) (hAB : ∀ q, B q → A q) : ST a B U H := by
  obtain ⟨⟨h1, h2⟩, ⟨h3, h4⟩, h5, h6⟩ := h
  exact ⟨⟨h1.narrow hAB, h2.narrow hAB⟩, ⟨h3.narrow hAB, h4.narrow hAB⟩, h5, h6⟩
/-- all good words of the tables -/
def AW : List Cond := lw_tbl.filter goodWord
theorem aw {w : Cond} (h : w ∈ lw_tbl) (g : goodWord w = true) : w ∈ AW := List.mem_filter.mpr ⟨h, g⟩
theorem AW_good {w : Cond} (h : w ∈ AW) : (w.onTables && w.keeps) = true ∨ ∃ ty, w = .arrayClass ty := good_of_word (List.mem_filter.mp h).2
theorem AW_in {ws : List Cond} (h : ∀ w ∈ ws, w ∈ AW) : GoodIn AW ws := fun w hw => ⟨h w hw, AW_good (h w hw)⟩
theorem cl_at {c : Nat} (h : c < 9) : classes[c]? = some (cn c, cT c, nfc c) := match c, h with
  | 0, _ => rfl
  | 1, _ => rfl
  | 2, _ => rfl
  | 3, _ => rfl
  | 4, _ => rfl
  | 5, _ => rfl
  | 6, _ => rfl
  | 7, _ => rfl
  | 8, _ => rfl
  | c + 9, h => absurd h (by omega)
theorem i_Gate : ∀ w ∈ u_ws R_Gate T_Gate 6, w ∈ AW := fun w h => aw ((by decide +kernel : ∀ w ∈ u_ws R_Gate T_Gate 6, w ∈ lw_tbl) w h) ((by decide +kernel : ∀ w ∈ u_ws R_Gate T_Gate 6, goodWord w = true) w h)
theorem n_Gate_ok : ∀ a, a < 6 → ∀ b, b < 6 → a ≠ b → (T_Gate a).2.1 ≠ (T_Gate b).2.1 := by decide +kernel
theorem t_Gate_ok : ∀ k, k < 6 → parseFieldDescriptor (T_Gate k).2.2.1 = some (t_Gate k) := by decide +kernel
theorem i_Adaptive : ∀ w ∈ u_ws R_Adaptive T_Adaptive 2, w ∈ AW := fun w h => aw ((by decide +kernel : ∀ w ∈ u_ws R_Adaptive T_Adaptive 2, w ∈ lw_tbl) w h) ((by decide +kernel : ∀ w ∈ u_ws R_Adaptive T_Adaptive 2, goodWord w = true) w h)
theorem n_Adaptive_ok : ∀ a, a < 2 → ∀ b, b < 2 → a ≠ b → (T_Adaptive a).2.1 ≠ (T_Adaptive b).2.1 := by decide +kernel
theorem t_Adaptive_ok : ∀ k, k < 2 → parseFieldDescriptor (T_Adaptive k).2.2.1 = some (t_Adaptive k) := by decide +kernel
theorem i_Buffer : ∀ w ∈ u_ws R_Buffer T_Buffer 8, w ∈ AW := fun w h => aw ((by decide +kernel : ∀ w ∈ u_ws R_Buffer T_Buffer 8, w ∈ lw_tbl) w h) ((by decide +kernel : ∀ w ∈ u_ws R_Buffer T_Buffer 8, goodWord w = true) w h)
theorem n_Buffer_ok : ∀ a, a < 8 → ∀ b, b < 8 → a ≠ b → (T_Buffer a).2.1 ≠ (T_Buffer b).2.1 := by decide +kernel
theorem t_Buffer_ok : ∀ k, k < 8 → parseFieldDescriptor (T_Buffer k).2.2.1 = some (t_Buffer k) := by decide +kernel
theorem i_Packet : ∀ w ∈ u_ws R_Packet T_Packet 2, w ∈ AW := fun w h => aw ((by decide +kernel : ∀ w ∈ u_ws R_Packet T_Packet 2, w ∈ lw_tbl) w h) ((by decide +kernel : ∀ w ∈ u_ws R_Packet T_Packet 2, goodWord w = true) w h)
theorem n_Packet_ok : ∀ a, a < 2 → ∀ b, b < 2 → a ≠ b → (T_Packet a).2.1 ≠ (T_Packet b).2.1 := by decide +kernel
theorem t_Packet_ok : ∀ k, k < 2 → parseFieldDescriptor (T_Packet k).2.2.1 = some (t_Packet k) := by decide +kernel
theorem i_Player : ∀ w ∈ u_ws R_Player T_Player 6, w ∈ AW := fun w h => aw ((by decide +kernel : ∀ w ∈ u_ws R_Player T_Player 6, w ∈ lw_tbl) w h) ((by decide +kernel : ∀ w ∈ u_ws R_Player T_Player 6, goodWord w = true) w h)
theorem n_Player_ok : ∀ a, a < 6 → ∀ b, b < 6 → a ≠ b → (T_Player a).2.1 ≠ (T_Player b).2.1 := by decide +kernel
theorem t_Player_ok : ∀ k, k < 6 → parseFieldDescriptor (T_Player k).2.2.1 = some (t_Player k) := by decide +kernel
theorem i_Samples : ∀ w ∈ u_ws R_Samples T_Samples 2, w ∈ AW := fun w h => aw ((by decide +kernel : ∀ w ∈ u_ws R_Samples T_Samples 2, w ∈ lw_tbl) w h) ((by decide +kernel : ∀ w ∈ u_ws R_Samples T_Samples 2, goodWord w = true) w h)
theorem n_Samples_ok : ∀ a, a < 2 → ∀ b, b < 2 → a ≠ b → (T_Samples a).2.1 ≠ (T_Samples b).2.1 := by decide +kernel
theorem t_Samples_ok : ∀ k, k < 2 → parseFieldDescriptor (T_Samples k).2.2.1 = some (t_Samples k) := by decide +kernel
theorem i_Sender : ∀ w ∈ u_ws R_Sender T_Sender 4, w ∈ AW := fun w h => aw ((by decide +kernel : ∀ w ∈ u_ws R_Sender T_Sender 4, w ∈ lw_tbl) w h) ((by decide +kernel : ∀ w ∈ u_ws R_Sender T_Sender 4, goodWord w = true) w h)
theorem n_Sender_ok : ∀ a, a < 4 → ∀ b, b < 4 → a ≠ b → (T_Sender a).2.1 ≠ (T_Sender b).2.1 := by decide +kernel
theorem t_Sender_ok : ∀ k, k < 4 → parseFieldDescriptor (T_Sender k).2.2.1 = some (t_Sender k) := by decide +kernel
theorem i_Wire : ∀ w ∈ u_ws R_Wire T_Wire 2, w ∈ AW := fun w h => aw ((by decide +kernel : ∀ w ∈ u_ws R_Wire T_Wire 2, w ∈ lw_tbl) w h) ((by decide +kernel : ∀ w ∈ u_ws R_Wire T_Wire 2, goodWord w = true) w h)
theorem n_Wire_ok : ∀ a, a < 2 → ∀ b, b < 2 → a ≠ b → (T_Wire a).2.1 ≠ (T_Wire b).2.1 := by decide +kernel
theorem t_Wire_ok : ∀ k, k < 2 → parseFieldDescriptor (T_Wire k).2.2.1 = some (t_Wire k) := by decide +kernel
theorem i_Model : ∀ w ∈ u_ws R_Model T_Model 25, w ∈ AW := fun w h => aw ((by decide +kernel : ∀ w ∈ u_ws R_Model T_Model 25, w ∈ lw_tbl) w h) ((by decide +kernel : ∀ w ∈ u_ws R_Model T_Model 25, goodWord w = true) w h)
theorem n_Model_ok : ∀ a, a < 25 → ∀ b, b < 25 → a ≠ b → (T_Model a).2.1 ≠ (T_Model b).2.1 := by decide +kernel
theorem t_Model_ok : ∀ k, k < 25 → parseFieldDescriptor (T_Model k).2.2.1 = some (t_Model k) := by decide +kernel
theorem cw_in {c : Nat} (h : c < 9) : ∀ w ∈ u_ws (cn c) (cT c) (nfc c), w ∈ AW := match c, h with
  | 0, _ => i_Gate
  | 1, _ => i_Adaptive
  | 2, _ => i_Buffer
  | 3, _ => i_Packet
  | 4, _ => i_Player
  | 5, _ => i_Samples
  | 6, _ => i_Sender
  | 7, _ => i_Wire
  | 8, _ => i_Model
  | c + 9, h => absurd h (by omega)
theorem cn_ok {c : Nat} (h : c < 9) : ∀ a, a < nfc c → ∀ b, b < nfc c → a ≠ b → (cT c a).2.1 ≠ (cT c b).2.1 := match c, h with
  | 0, _ => n_Gate_ok
  | 1, _ => n_Adaptive_ok
  | 2, _ => n_Buffer_ok
  | 3, _ => n_Packet_ok
  | 4, _ => n_Player_ok
  | 5, _ => n_Samples_ok
  | 6, _ => n_Sender_ok
  | 7, _ => n_Wire_ok
  | 8, _ => n_Model_ok
  | c + 9, h => absurd h (by omega)
theorem ct_ok {c : Nat} (h : c < 9) : ∀ k, k < nfc c → parseFieldDescriptor (cT c k).2.2.1 = some (ct c k) := match c, h with
  | 0, _ => t_Gate_ok
  | 1, _ => t_Adaptive_ok
  | 2, _ => t_Buffer_ok
  | 3, _ => t_Packet_ok
  | 4, _ => t_Player_ok
  | 5, _ => t_Samples_ok
  | 6, _ => t_Sender_ok
  | 7, _ => t_Wire_ok
  | 8, _ => t_Model_ok
  | c + 9, h => absurd h (by omega)
theorem kd_row {k : Nat} (h : kd k = 5) : kd (k + 1) = 10 := (by decide : ∀ k, k < 57 → kd k = 5 → kd (k + 1) = 10) k (kd_lt h (by omega)) h
theorem kd_byt {k : Nat} (h : kd k = 3) : kd (k + 1) = 10 := (by decide : ∀ k, k < 57 → kd k = 3 → kd (k + 1) = 10) k (kd_lt h (by omega)) h
theorem ln_byt {k : Nat} (h : kd k = 3) : ln (k + 1) = 44 := (by decide : ∀ k, k < 57 → kd k = 3 → ln (k + 1) = 44) k (kd_lt h (by omega)) h
theorem cp_nat : Cond.native arraycopyName ∈ AW := aw (by decide +kernel) (by decide +kernel)
theorem cp_stat : Cond.static arraycopyName ∈ AW := aw (by decide +kernel) (by decide +kernel)
theorem cp_ini : Cond.initialized "java/lang/System" ∈ AW := aw (by decide +kernel) (by decide +kernel)
/-- the locals: what is known of each -/
def lh (ls : Array Slot) (nL : Nat) (lv : List (Option Value)) : Prop := ls.size = nL ∧ lv_wf ls ∧ ∀ (i : Nat) (v : Value), lv[i]? = some (some v) → v.category = 1 ∧ ls[i]? = some (.val v)
def lpr (lv : List (Option Value)) : List (Nat × Value) := (List.range lv.length).filterMap (fun i => (lv.getD i none).map (fun v => (i, v)))
theorem lpr_mem {lv : List (Option Value)} {q : Nat × Value} : q ∈ lpr lv ↔ lv[q.1]? = some (some q.2) := by
  unfold lpr
  rw [List.mem_filterMap]
  constructor
  · rintro ⟨i, hi, h⟩
    have hi := List.mem_range.mp hi
    rw [List.getD_eq_getElem?_getD, List.getElem?_eq_getElem hi] at h
    cases hv : lv[i] with
    | none => simp [hv] at h
    | some v =>
      simp [hv] at h
      subst h
      simp [hi, hv]
  · intro h
    have hl := (List.getElem?_eq_some_iff.mp h).1
    refine ⟨q.1, List.mem_range.mpr hl, ?_⟩
    rw [List.getD_eq_getElem?_getD, h]
    rfl
theorem lh_has {ls : Array Slot} {nL : Nat} {lv : List (Option Value)} (h : lh ls nL lv) : lv_has ls nL (lpr lv) := ⟨h.1, h.2.1, fun q hq => (h.2.2 q.1 q.2 (lpr_mem.mp hq)).2⟩
theorem lh_set {ls ls' : Array Slot} {nL : Nat} {lv : List (Option Value)} {i : Nat} {v : Value} (h : lh ls nL lv) (hc : v.category = 1) (h' : lv_has ls' nL ((i, v) :: (lpr lv).filter (fun q => !(q.1 == i) && !(q.1 + 1 == i && q.2.category == 2)))) : lh ls' nL (lv.set i (some v)) := by
  refine ⟨h'.1, h'.2.1, fun j w hj => ?_⟩
  by_cases hji : j = i
  · subst hji
    have hl : j < lv.length := by
      have := (List.getElem?_eq_some_iff.mp hj).1
      simpa using this
    rw [List.getElem?_set_self hl] at hj
    cases hj
    exact ⟨hc, h'.2.2 (j, v) List.mem_cons_self⟩
  · rw [List.getElem?_set_ne (fun z => hji z.symm)] at hj
    obtain ⟨h1, h2⟩ := h.2.2 j w hj
    refine ⟨h1, h'.2.2 (j, w) (List.mem_cons_of_mem _ (List.mem_filter.mpr ⟨lpr_mem.mpr hj, ?_⟩))⟩
    simp [hji, h1]
/-- the surroundings of a method's walk -/
def SS (p : Program) (s : State) (m : MethodId) (args : Array Value) (meth : Method) (c : Code) (cc : ByteArray) (nL : Nat) (ret : Option FieldType) (own : String) (ca : Nat → ClassId) (a : Nat → Nat) (D : va_G) : Prop :=
  CallFix p m c cc nL s args AW own ∧ meth.sig.returnType = ret ∧ meth.locks = false ∧ va_K D classes (tys ca) s ∧ AD a ∧ ST a (AA a s.heap.size) s s.heap
def QQ (D : va_G) (ca : Nat → ClassId) (a : Nat → Nat) (rv : Option Value) (μ' : Mem) : Array Value → State → Outcome → State → Prop :=
  fun _ st oc t => oc = .returned rv ∧ va_P D classes (WL ca a μ') t.heap ∧ va_F (AA a st.heap.size) st t
/-- what a walk is for: a method's end, or the law's -/
abbrev EE : Type := State → Array Value → List Frame → va_G → (State → Prop) → Nat → Nat → Prop
def EM (ca : Nat → ClassId) (a : Nat → Nat) (rv : Option Value) (μ' : Mem) : EE := fun s args below D Q cells slots => Q = MQ below (QQ D ca a rv μ') args s 0 0 (AA a s.heap.size) ∧ cells = 0 ∧ slots = 0
def WW (l : Launch) (cc : ByteArray) (nL : Nat) (ret : Option FieldType) (own : String) (R : Room) (ca : Nat → ClassId) (a : Nat → Nat) (E : EE) (pc : Nat) (lv : List (Option Value)) (st : List Value) (μ : Mem) : Prop :=
  ∀ (p : Program) (e : Env) (s : State) (m : MethodId) (args : Array Value) (below : List Frame) (meth : Method) (c : Code) (D : va_G) (Q : State → Prop) (cells slots : Nat), SS p s m args meth c cc nL ret own ca a D → E s args below D Q cells slots → cells ≤ R.cells ∧ slots ≤ R.slots →
    ∀ (H : Heap) (locs : List Loc) (ls : Array Slot), va_P D classes (WL ca a μ) H → va_S (AA a s.heap.size) s.heap H locs → lh ls nL lv →
      W p l e R s m args below meth c H locs cells slots Q (F0 m pc ls st)
def GW (D : va_G) (ca : Nat → ClassId) (a : Nat → Nat) (sz : Nat) (μ : Mem) (U : State) : Prop :=
  U.heap.size = sz ∧ va_P D classes (WL ca a μ) U.heap ∧ va_K D classes (tys ca) U ∧ AD a ∧ ST a (AA a sz) U U.heap
/-- a method's contract over the memory -/
def CT (l : Launch) (ca : Nat → ClassId) (a : Nat → Nat) (y : MethodName) (b : ByteArray) (nL : Nat) (ret : Option FieldType) (rm : Room) (As : List Value) (μ : Mem) (rv : Option Value) (μ' : Mem) : Prop :=
  ∀ (D : va_G) (sz : Nat), Met l y (Cond.code y b nL ret :: AW) rm (va_Pc As (GW D ca a sz μ)) (QQ D ca a rv μ') 0 0 (AA a sz)
abbrev RM (f n : Nat) : Room := { frames := f, cells := 0, slots := 0, locals := n }
def ent (As : List Value) (nL : Nat) : List (Option Value) := As.map some ++ List.replicate (nL - As.length) none
theorem lg_sl_1 : ∀ (As : List Value), (∀ v ∈ As, v.category = 1) → lg_sl As = As.map Slot.val
  | [], _ => rfl
  | v :: vs, h => by
    have h1 := h v List.mem_cons_self
    have h2 := lg_sl_1 vs (fun w hw => h w (List.mem_cons_of_mem _ hw))
    have e : lg_sl (v :: vs) = [.val v] ++ lg_sl vs := by simp [lg_sl, h1]
    rw [e, h2]
    rfl
theorem lh_entry {As : List Value} {nL : Nat} (h1 : ∀ v ∈ As, v.category = 1) (h2 : As.length ≤ nL) : lh ((lg_sl As ++ List.replicate (nL - (lg_sl As).length) Slot.unset).toArray) nL (ent As nL) := by
  have e := lg_sl_1 As h1
  have hl : (lg_sl As).length = As.length := by rw [e, List.length_map]
  have h := lv_entry As (n := nL) (by rw [hl]; exact h2)
  refine ⟨h.1, h.2.1, fun i v hv => ?_⟩
  unfold ent at hv
  by_cases hi : i < As.length
  · rw [List.getElem?_append_left (by simpa using hi), List.getElem?_map, List.getElem?_eq_getElem hi] at hv
    have hv : As[i] = v := by simpa using hv
    refine ⟨h1 v (hv ▸ List.getElem_mem hi), ?_⟩
    rw [List.getElem?_toArray, List.getElem?_append_left (by rw [hl]; exact hi), e, List.getElem?_map, List.getElem?_eq_getElem hi, hv]
    rfl
  · rw [List.getElem?_append_right (by simpa using hi)] at hv
    have := List.mem_of_getElem? hv
    simp at this
theorem ct_of {l : Launch} {ca : Nat → ClassId} {a : Nat → Nat} {y : MethodName} {b : ByteArray} {nL : Nat} {ret : Option FieldType} {rm : Room} {As : List Value} {μ μ' : Mem} {rv : Option Value} {own : String} (hy : plainFor y = true) (ho : y.cls = own)
    (h1 : ∀ v ∈ As, v.category = 1) (h2 : As.length ≤ nL) {lv : List (Option Value)} (hlv : ent As nL = lv) (w : WW l b nL ret own rm ca a (EM ca a rv μ') 0 lv [] μ) : CT l ca a y b nL ret rm As μ rv μ' := by
  intro D sz
  subst ho
  refine va_MetF (cc := b) (maxL := nL) (ret := ret) hy rfl ?_
  intro p e s m args below meth c s₁ B hml hv
  obtain ⟨rfl, hsz, hP, hK, hA, hT⟩ := hv
  subst hsz
  have hts := atoms_spec (ws := Cond.code y b nL ret :: AW) B.pre
  have hown : s.vm.findClass y.cls = some m.cls := findClass_of_methodNamed B.named
  rw [lg_entry_eq]
  subst hlv
  exact w p e s m _ below meth c D _ 0 0 ⟨⟨B.exec, B.bytes, hml, hown, fun w hw => hts w (List.mem_cons_of_mem _ hw)⟩, B.returns, B.notSynchronized, hK, hA, hT⟩ ⟨rfl, rfl, rfl⟩ ⟨Nat.zero_le _, Nat.zero_le _⟩ s.heap [] _ hP va_S.rf (lh_entry h1 h2)
