theorem in_all {c : Nat} (h : c < 9) : Cond.instantiable (cn c) (nfc c) ∈ AW := match c, h with
  | 0, _ => in_Gate
  | 1, _ => in_Adaptive
  | 2, _ => in_Buffer
  | 3, _ => in_Packet
  | 4, _ => in_Player
  | 5, _ => in_Samples
  | 6, _ => in_Sender
  | 7, _ => in_Wire
  | 8, _ => in_Model
  | c + 9, h => absurd h (by omega)
set_option maxRecDepth 20000 in
theorem k_law_7 : Cond.classLink R_law 7 (cn 0) ∈ AW := (aw (tw 13 rfl) rfl)
set_option maxRecDepth 20000 in
theorem k_law_9 : Cond.methodLink R_law 9 y_Gate_init ∈ AW := (aw (tw 15 rfl) rfl)
set_option maxRecDepth 20000 in
theorem k_law_10 : Cond.classLink R_law 10 (cn 8) ∈ AW := (aw (tw 596 rfl) rfl)
set_option maxRecDepth 20000 in
theorem k_law_12 : Cond.methodLink R_law 12 y_Model_init ∈ AW := (aw (tw 598 rfl) rfl)
def adr (tS tT : Nat) (ad : List Nat) : Nat → Nat := fun k => if k = 60 then tS else if k = 61 then tT else ad.getD k 0
def mu0 (f1 f2 : Nat → Int32) : Mem := fun k => match k with
  | 8 => fun j => nI (25 + 2 * j)
  | 13 => fun j => if j = 7 then 1 else 0
  | 14 => fun j => nI (41 + 2 * j)
  | 17 => fun j => if j = 16 then 1 else 0
  | 18 => f1
  | 21 => f2
  | _ => fun _ => 0
def ELV (b L : Nat) (xs : Nat → Int32) : VE := fun s args below _ _ Q A => Q = lw_Z below args s ∧ A = (fun q => s.heap.size ≤ q) ∧ va_X b L xs s s.heap ∧ b < s.heap.size ∧ args = #[Value.ref b] ∧ ∃ tS tT : Nat, ST (adr tS tT []) A s s.heap
theorem adr_at {tS tT : Nat} {ad : List Nat} {k : Nat} (h : k < 57) : adr tS tT ad k = ad.getD k 0 := by
  unfold adr
  rw [if_neg (by omega), if_neg (by omega)]
theorem ad_get {w : va_W} {ad : List Nat} (h1 : w.map Prod.fst = ad) (h2 : ad.length = 57) {tS tT k : Nat} (hk : k < 57) : ∃ e, w[k]? = some (adr tS tT ad k, e) := by
  subst h1
  have hl : k < w.length := by
    rw [List.length_map] at h2
    omega
  refine ⟨w[k].2, ?_⟩
  rw [adr_at hk, List.getElem?_eq_getElem hl, List.getD_eq_getElem?_getD, List.getElem?_map, List.getElem?_eq_getElem hl]
  rfl
theorem ad_of {A : Nat → Prop} {w : va_W} {ad : List Nat} (hD : va_D A w) (h1 : w.map Prod.fst = ad) (h2 : ad.length = 57) {tS tT : Nat} : AD (adr tS tT ad) := by
  intro i j hi hj hij
  obtain ⟨e1, g1⟩ := ad_get (tS := tS) (tT := tT) h1 h2 hi
  obtain ⟨e2, g2⟩ := ad_get (tS := tS) (tT := tT) h1 h2 hj
  exact hD.1 i j _ _ g1 g2 hij
theorem ad_in {A : Nat → Prop} {w : va_W} {ad : List Nat} (hD : va_D A w) (h1 : w.map Prod.fst = ad) (h2 : ad.length = 57) {tS tT : Nat} : ∀ k, k < 57 → A (adr tS tT ad k) := by
  intro k hk
  obtain ⟨e1, g1⟩ := ad_get (tS := tS) (tT := tT) h1 h2 hk
  exact hD.2 k _ g1
theorem arrV_congr {cA : ClassId} {n : Nat} {f g : Nat → Value} (h : ∀ j, j < n → f j = g j) : arrV cA n f = arrV cA n g := by
  unfold arrV
  congr 1
  apply Array.ext
  · simp
  · intro i h1 h2
    simp at h1
    simp [h i h1]
theorem wire_at {D : va_G} {H : Heap} {x : Nat} {cA : ClassId} {f g : Nat → Option Nat} (h : va_at D classes (x, .inl (cA, 8, .inr (.inr (.inr (.inr f))))) H) (hfg : ∀ j, j < 8 → f j = g j) : va_at D classes (x, .inl (cA, 8, .inr (.inr (.inr (.inr g))))) H := by
  have h' : H[x]? = some (vp_cell cA (8, .inr (.inr (.inr (.inr f))))) := h
  show H[x]? = some (vp_cell cA (8, .inr (.inr (.inr (.inr g)))))
  rw [h', vp_cell_q, vp_cell_q, arrV_congr (fun j hj => by rw [hfg j hj])]
set_option maxHeartbeats 8000000 in
set_option maxRecDepth 100000 in
theorem law_key {ca : Nat → ClassId} {tS tT : Nat} {q1 : Nat} {q54 : Nat} {q2 : Nat} {q3 : Nat} {q4 : Nat} {q5 : Nat} {q6 : Nat} {q7 : Nat} {q8 : Nat} {q9 : Nat} {q10 : Nat} {q11 : Nat} {q12 : Nat} {q13 : Nat} {q14 : Nat} {q15 : Nat} {q16 : Nat} {q17 : Nat} {q18 : Nat} {q19 : Nat} {q20 : Nat} {q21 : Nat} {q22 : Nat} {q23 : Nat} {f24 : Nat → Option Nat} {q25 : Nat} {q26 : Nat} {q27 : Nat} {q28 : Nat} {q29 : Nat} {q30 : Nat} {q31 : Nat} {q32 : Nat} {q33 : Nat} {q34 : Nat} {q35 : Nat} {q36 : Nat} {q37 : Nat} {q38 : Nat} {q39 : Nat} {q40 : Nat} {q41 : Nat} {q42 : Nat} {q43 : Nat} {q44 : Nat} {q45 : Nat} {q46 : Nat} {f47 : Nat → Option Nat} {q48 : Nat} {q49 : Nat} {q50 : Nat} {q51 : Nat} {q55 : Nat} {q56 : Nat} {q57 : Nat} {q58 : Nat} {q59 : Nat} {q60 : Nat} {q61 : Nat} {f62 : Nat → Int32} {f63 : Nat → Int32} : ∀ k, k < 57 → k ≠ 8 → k ≠ 14 → ([(q1, .inr (0, [.ref q2, .ref q4, .ref q6, .ref q25, .ref q27, .ref q48])), (q2, .inr (5, [.ref q3, .int (0 : Int32)])), (q3, .inl (ca 0, 64, .inl (fun _ => 0))), (q4, .inr (5, [.ref q5, .int (0 : Int32)])), (q5, .inl (ca 0, 256, .inl (fun _ => 0))), (q49, .inr (5, [.ref q50, .int (0 : Int32)])), (q50, .inl (ca 0, 16, .inl (fun _ => 0))), (q6, .inr (7, [.ref q7, .int (0 : Int32)])), (q7, .inl (ca 2, 8, .inr (.inr (.inr (.inr f24))))), (q25, .inr (6, [.int (0 : Int32), .int (0 : Int32), .int (0 : Int32), .ref q26])), (q26, .inr (1, [.int (0 : Int32), .int (0 : Int32)])), (q48, .inr (4, [.ref q49, .ref q51, .int (0 : Int32), .int (0 : Int32), .int (0 : Int32), .int (0 : Int32)])), (q51, .inr (1, [.int (0 : Int32), .int (0 : Int32)])), (q27, .inr (2, [.ref q28, .ref q45, .ref q46, .int (0 : Int32), .int (0 : Int32), .int (0 : Int32), .int (0 : Int32), .int (1 : Int32)])), (q28, .inl (ca 2, 8, .inr (.inr (.inr (.inr f47))))), (q45, .inl (ca 1, 8, .inl (fun _ => 0))), (q46, .inl (ca 0, 8, .inl (fun _ => 0))), (q54, .inr (8, [.ref q55, .int 0, .ref q56, .int 0, .ref q57, .int 0, .int 0, .int 0, .int 0, .int 0, .int 0, .ref q58, .ref q59, .int 0, .int 0, .int 0, .int (1 : Int32), .int 0, .int 0, .int 0, .int 0, .ref q60, .ref q61, .int 0, .int 0])), (q55, .inl (ca 0, 89, .inl f62)), (q56, .inl (ca 0, 64, .inl (fun _ => 0))), (q57, .inl (ca 0, 256, .inl (fun _ => 0))), (q58, .inl (ca 0, 16, .inl f63)), (q59, .inl (ca 0, 704, .inl (fun _ => 0))), (q60, .inl (ca 0, 16, .inl (fun _ => 0))), (q61, .inl (ca 0, 10, .inl (fun _ => 0))), (q8, .inr (3, [.ref q9, .int (0 : Int32)])), (q9, .inl (ca 0, 44, .inl (fun _ => 0))), (q10, .inr (3, [.ref q11, .int (0 : Int32)])), (q11, .inl (ca 0, 44, .inl (fun _ => 0))), (q12, .inr (3, [.ref q13, .int (0 : Int32)])), (q13, .inl (ca 0, 44, .inl (fun _ => 0))), (q14, .inr (3, [.ref q15, .int (0 : Int32)])), (q15, .inl (ca 0, 44, .inl (fun _ => 0))), (q16, .inr (3, [.ref q17, .int (0 : Int32)])), (q17, .inl (ca 0, 44, .inl (fun _ => 0))), (q18, .inr (3, [.ref q19, .int (0 : Int32)])), (q19, .inl (ca 0, 44, .inl (fun _ => 0))), (q20, .inr (3, [.ref q21, .int (0 : Int32)])), (q21, .inl (ca 0, 44, .inl (fun _ => 0))), (q22, .inr (3, [.ref q23, .int (0 : Int32)])), (q23, .inl (ca 0, 44, .inl (fun _ => 0))), (q29, .inr (3, [.ref q30, .int (0 : Int32)])), (q30, .inl (ca 0, 44, .inl (fun _ => 0))), (q31, .inr (3, [.ref q32, .int (0 : Int32)])), (q32, .inl (ca 0, 44, .inl (fun _ => 0))), (q33, .inr (3, [.ref q34, .int (0 : Int32)])), (q34, .inl (ca 0, 44, .inl (fun _ => 0))), (q35, .inr (3, [.ref q36, .int (0 : Int32)])), (q36, .inl (ca 0, 44, .inl (fun _ => 0))), (q37, .inr (3, [.ref q38, .int (0 : Int32)])), (q38, .inl (ca 0, 44, .inl (fun _ => 0))), (q39, .inr (3, [.ref q40, .int (0 : Int32)])), (q40, .inl (ca 0, 44, .inl (fun _ => 0))), (q41, .inr (3, [.ref q42, .int (0 : Int32)])), (q42, .inl (ca 0, 44, .inl (fun _ => 0))), (q43, .inr (3, [.ref q44, .int (0 : Int32)])), (q44, .inl (ca 0, 44, .inl (fun _ => 0)))] : va_W)[k]? = some ((adr tS tT [q1, q2, q3, q4, q5, q49, q50, q6, q7, q25, q26, q48, q51, q27, q28, q45, q46, q54, q55, q56, q57, q58, q59, q60, q61, q8, q9, q10, q11, q12, q13, q14, q15, q16, q17, q18, q19, q20, q21, q22, q23, q29, q30, q31, q32, q33, q34, q35, q36, q37, q38, q39, q40, q41, q42, q43, q44]) k, ce ca (adr tS tT [q1, q2, q3, q4, q5, q49, q50, q6, q7, q25, q26, q48, q51, q27, q28, q45, q46, q54, q55, q56, q57, q58, q59, q60, q61, q8, q9, q10, q11, q12, q13, q14, q15, q16, q17, q18, q19, q20, q21, q22, q23, q29, q30, q31, q32, q33, q34, q35, q36, q37, q38, q39, q40, q41, q42, q43, q44]) k ((mu0 f62 f63) k)) := fun k hk h8 h14 => match k, hk, h8, h14 with
  | 0, _, _, _ => rfl
  | 1, _, _, _ => rfl
  | 2, _, _, _ => rfl
  | 3, _, _, _ => rfl
  | 4, _, _, _ => rfl
  | 5, _, _, _ => rfl
  | 6, _, _, _ => rfl
  | 7, _, _, _ => rfl
  | 8, _, h, _ => absurd rfl h
  | 9, _, _, _ => rfl
  | 10, _, _, _ => rfl
  | 11, _, _, _ => rfl
  | 12, _, _, _ => rfl
  | 13, _, _, _ => rfl
  | 14, _, _, h => absurd rfl h
  | 15, _, _, _ => rfl
  | 16, _, _, _ => rfl
  | 17, _, _, _ => rfl
  | 18, _, _, _ => rfl
  | 19, _, _, _ => rfl
  | 20, _, _, _ => rfl
  | 21, _, _, _ => rfl
  | 22, _, _, _ => rfl
  | 23, _, _, _ => rfl
  | 24, _, _, _ => rfl
  | 25, _, _, _ => rfl
  | 26, _, _, _ => rfl
  | 27, _, _, _ => rfl
  | 28, _, _, _ => rfl
  | 29, _, _, _ => rfl
  | 30, _, _, _ => rfl
  | 31, _, _, _ => rfl
  | 32, _, _, _ => rfl
  | 33, _, _, _ => rfl
  | 34, _, _, _ => rfl
  | 35, _, _, _ => rfl
  | 36, _, _, _ => rfl
  | 37, _, _, _ => rfl
  | 38, _, _, _ => rfl
  | 39, _, _, _ => rfl
  | 40, _, _, _ => rfl
  | 41, _, _, _ => rfl
  | 42, _, _, _ => rfl
  | 43, _, _, _ => rfl
  | 44, _, _, _ => rfl
  | 45, _, _, _ => rfl
  | 46, _, _, _ => rfl
  | 47, _, _, _ => rfl
  | 48, _, _, _ => rfl
  | 49, _, _, _ => rfl
  | 50, _, _, _ => rfl
  | 51, _, _, _ => rfl
  | 52, _, _, _ => rfl
  | 53, _, _, _ => rfl
  | 54, _, _, _ => rfl
  | 55, _, _, _ => rfl
  | 56, _, _, _ => rfl
  | k + 57, h, _, _ => absurd h (by omega)
set_option maxHeartbeats 8000000 in
set_option maxRecDepth 100000 in
theorem law_to {l : Launch} {ca : Nat → ClassId} {b L : Nat} {xs : Nat → Int32} {m9 : Mem} {q1 : Nat} {q54 : Nat} {q2 : Nat} {q3 : Nat} {q4 : Nat} {q5 : Nat} {q6 : Nat} {q7 : Nat} {q8 : Nat} {q9 : Nat} {q10 : Nat} {q11 : Nat} {q12 : Nat} {q13 : Nat} {q14 : Nat} {q15 : Nat} {q16 : Nat} {q17 : Nat} {q18 : Nat} {q19 : Nat} {q20 : Nat} {q21 : Nat} {q22 : Nat} {q23 : Nat} {f24 : Nat → Option Nat} {q25 : Nat} {q26 : Nat} {q27 : Nat} {q28 : Nat} {q29 : Nat} {q30 : Nat} {q31 : Nat} {q32 : Nat} {q33 : Nat} {q34 : Nat} {q35 : Nat} {q36 : Nat} {q37 : Nat} {q38 : Nat} {q39 : Nat} {q40 : Nat} {q41 : Nat} {q42 : Nat} {q43 : Nat} {q44 : Nat} {q45 : Nat} {q46 : Nat} {f47 : Nat → Option Nat} {q48 : Nat} {q49 : Nat} {q50 : Nat} {q51 : Nat} {q55 : Nat} {q56 : Nat} {q57 : Nat} {q58 : Nat} {q59 : Nat} {q60 : Nat} {q61 : Nat} {f62 : Nat → Int32} {f63 : Nat → Int32} (hh52 : f24 0 = some q8 ∧ f24 1 = some q10 ∧ f24 2 = some q12 ∧ f24 3 = some q14 ∧ f24 4 = some q16 ∧ f24 5 = some q18 ∧ f24 6 = some q20 ∧ f24 7 = some q22) (hh53 : f47 0 = some q29 ∧ f47 1 = some q31 ∧ f47 2 = some q33 ∧ f47 3 = some q35 ∧ f47 4 = some q37 ∧ f47 5 = some q39 ∧ f47 6 = some q41 ∧ f47 7 = some q43) (hh64 : ∀ j, j < 89 → f62 j = tb_STEPS j) (hh65 : ∀ j, j < 16 → f63 j = if j < 8 then 0 else (-1 : Int32)) (hF : F_law L xs (mu0 f62 f63) = some ((1 : Int32), m9)) : VV l code 4 ret R_law room_1 ca (ELV b L xs) 16 [some (.ref b), some (.ref q1), some (.ref q54), none] [] [(q1, .inr (0, [.ref q2, .ref q4, .ref q6, .ref q25, .ref q27, .ref q48])), (q2, .inr (5, [.ref q3, .int (0 : Int32)])), (q3, .inl (ca 0, 64, .inl (fun _ => 0))), (q4, .inr (5, [.ref q5, .int (0 : Int32)])), (q5, .inl (ca 0, 256, .inl (fun _ => 0))), (q6, .inr (7, [.ref q7, .int (0 : Int32)])), (q7, .inl (ca 2, 8, .inr (.inr (.inr (.inr f24))))), (q8, .inr (3, [.ref q9, .int (0 : Int32)])), (q9, .inl (ca 0, 44, .inl (fun _ => 0))), (q10, .inr (3, [.ref q11, .int (0 : Int32)])), (q11, .inl (ca 0, 44, .inl (fun _ => 0))), (q12, .inr (3, [.ref q13, .int (0 : Int32)])), (q13, .inl (ca 0, 44, .inl (fun _ => 0))), (q14, .inr (3, [.ref q15, .int (0 : Int32)])), (q15, .inl (ca 0, 44, .inl (fun _ => 0))), (q16, .inr (3, [.ref q17, .int (0 : Int32)])), (q17, .inl (ca 0, 44, .inl (fun _ => 0))), (q18, .inr (3, [.ref q19, .int (0 : Int32)])), (q19, .inl (ca 0, 44, .inl (fun _ => 0))), (q20, .inr (3, [.ref q21, .int (0 : Int32)])), (q21, .inl (ca 0, 44, .inl (fun _ => 0))), (q22, .inr (3, [.ref q23, .int (0 : Int32)])), (q23, .inl (ca 0, 44, .inl (fun _ => 0))), (q25, .inr (6, [.int (0 : Int32), .int (0 : Int32), .int (0 : Int32), .ref q26])), (q26, .inr (1, [.int (0 : Int32), .int (0 : Int32)])), (q27, .inr (2, [.ref q28, .ref q45, .ref q46, .int (0 : Int32), .int (0 : Int32), .int (0 : Int32), .int (0 : Int32), .int (1 : Int32)])), (q28, .inl (ca 2, 8, .inr (.inr (.inr (.inr f47))))), (q29, .inr (3, [.ref q30, .int (0 : Int32)])), (q30, .inl (ca 0, 44, .inl (fun _ => 0))), (q31, .inr (3, [.ref q32, .int (0 : Int32)])), (q32, .inl (ca 0, 44, .inl (fun _ => 0))), (q33, .inr (3, [.ref q34, .int (0 : Int32)])), (q34, .inl (ca 0, 44, .inl (fun _ => 0))), (q35, .inr (3, [.ref q36, .int (0 : Int32)])), (q36, .inl (ca 0, 44, .inl (fun _ => 0))), (q37, .inr (3, [.ref q38, .int (0 : Int32)])), (q38, .inl (ca 0, 44, .inl (fun _ => 0))), (q39, .inr (3, [.ref q40, .int (0 : Int32)])), (q40, .inl (ca 0, 44, .inl (fun _ => 0))), (q41, .inr (3, [.ref q42, .int (0 : Int32)])), (q42, .inl (ca 0, 44, .inl (fun _ => 0))), (q43, .inr (3, [.ref q44, .int (0 : Int32)])), (q44, .inl (ca 0, 44, .inl (fun _ => 0))), (q45, .inl (ca 1, 8, .inl (fun _ => 0))), (q46, .inl (ca 0, 8, .inl (fun _ => 0))), (q48, .inr (4, [.ref q49, .ref q51, .int (0 : Int32), .int (0 : Int32), .int (0 : Int32), .int (0 : Int32)])), (q49, .inr (5, [.ref q50, .int (0 : Int32)])), (q50, .inl (ca 0, 16, .inl (fun _ => 0))), (q51, .inr (1, [.int (0 : Int32), .int (0 : Int32)])), (q54, .inr (8, [.ref q55, .int 0, .ref q56, .int 0, .ref q57, .int 0, .int 0, .int 0, .int 0, .int 0, .int 0, .ref q58, .ref q59, .int 0, .int 0, .int 0, .int (1 : Int32), .int 0, .int 0, .int 0, .int 0, .ref q60, .ref q61, .int 0, .int 0])), (q55, .inl (ca 0, 89, .inl f62)), (q56, .inl (ca 0, 64, .inl (fun _ => 0))), (q57, .inl (ca 0, 256, .inl (fun _ => 0))), (q58, .inl (ca 0, 16, .inl f63)), (q59, .inl (ca 0, 704, .inl (fun _ => 0))), (q60, .inl (ca 0, 16, .inl (fun _ => 0))), (q61, .inl (ca 0, 10, .inl (fun _ => 0)))] 57 2320 := by
  intro p e s m args below meth c D Q A S hE hA H locs ls hP hD hS hl
  obtain ⟨eQ, eA, hX, hb, eargs, tS, tT, hT⟩ := hE
  have hP2 : va_P D classes [(q1, .inr (0, [.ref q2, .ref q4, .ref q6, .ref q25, .ref q27, .ref q48])), (q2, .inr (5, [.ref q3, .int (0 : Int32)])), (q3, .inl (ca 0, 64, .inl (fun _ => 0))), (q4, .inr (5, [.ref q5, .int (0 : Int32)])), (q5, .inl (ca 0, 256, .inl (fun _ => 0))), (q49, .inr (5, [.ref q50, .int (0 : Int32)])), (q50, .inl (ca 0, 16, .inl (fun _ => 0))), (q6, .inr (7, [.ref q7, .int (0 : Int32)])), (q7, .inl (ca 2, 8, .inr (.inr (.inr (.inr f24))))), (q25, .inr (6, [.int (0 : Int32), .int (0 : Int32), .int (0 : Int32), .ref q26])), (q26, .inr (1, [.int (0 : Int32), .int (0 : Int32)])), (q48, .inr (4, [.ref q49, .ref q51, .int (0 : Int32), .int (0 : Int32), .int (0 : Int32), .int (0 : Int32)])), (q51, .inr (1, [.int (0 : Int32), .int (0 : Int32)])), (q27, .inr (2, [.ref q28, .ref q45, .ref q46, .int (0 : Int32), .int (0 : Int32), .int (0 : Int32), .int (0 : Int32), .int (1 : Int32)])), (q28, .inl (ca 2, 8, .inr (.inr (.inr (.inr f47))))), (q45, .inl (ca 1, 8, .inl (fun _ => 0))), (q46, .inl (ca 0, 8, .inl (fun _ => 0))), (q54, .inr (8, [.ref q55, .int 0, .ref q56, .int 0, .ref q57, .int 0, .int 0, .int 0, .int 0, .int 0, .int 0, .ref q58, .ref q59, .int 0, .int 0, .int 0, .int (1 : Int32), .int 0, .int 0, .int 0, .int 0, .ref q60, .ref q61, .int 0, .int 0])), (q55, .inl (ca 0, 89, .inl f62)), (q56, .inl (ca 0, 64, .inl (fun _ => 0))), (q57, .inl (ca 0, 256, .inl (fun _ => 0))), (q58, .inl (ca 0, 16, .inl f63)), (q59, .inl (ca 0, 704, .inl (fun _ => 0))), (q60, .inl (ca 0, 16, .inl (fun _ => 0))), (q61, .inl (ca 0, 10, .inl (fun _ => 0))), (q8, .inr (3, [.ref q9, .int (0 : Int32)])), (q9, .inl (ca 0, 44, .inl (fun _ => 0))), (q10, .inr (3, [.ref q11, .int (0 : Int32)])), (q11, .inl (ca 0, 44, .inl (fun _ => 0))), (q12, .inr (3, [.ref q13, .int (0 : Int32)])), (q13, .inl (ca 0, 44, .inl (fun _ => 0))), (q14, .inr (3, [.ref q15, .int (0 : Int32)])), (q15, .inl (ca 0, 44, .inl (fun _ => 0))), (q16, .inr (3, [.ref q17, .int (0 : Int32)])), (q17, .inl (ca 0, 44, .inl (fun _ => 0))), (q18, .inr (3, [.ref q19, .int (0 : Int32)])), (q19, .inl (ca 0, 44, .inl (fun _ => 0))), (q20, .inr (3, [.ref q21, .int (0 : Int32)])), (q21, .inl (ca 0, 44, .inl (fun _ => 0))), (q22, .inr (3, [.ref q23, .int (0 : Int32)])), (q23, .inl (ca 0, 44, .inl (fun _ => 0))), (q29, .inr (3, [.ref q30, .int (0 : Int32)])), (q30, .inl (ca 0, 44, .inl (fun _ => 0))), (q31, .inr (3, [.ref q32, .int (0 : Int32)])), (q32, .inl (ca 0, 44, .inl (fun _ => 0))), (q33, .inr (3, [.ref q34, .int (0 : Int32)])), (q34, .inl (ca 0, 44, .inl (fun _ => 0))), (q35, .inr (3, [.ref q36, .int (0 : Int32)])), (q36, .inl (ca 0, 44, .inl (fun _ => 0))), (q37, .inr (3, [.ref q38, .int (0 : Int32)])), (q38, .inl (ca 0, 44, .inl (fun _ => 0))), (q39, .inr (3, [.ref q40, .int (0 : Int32)])), (q40, .inl (ca 0, 44, .inl (fun _ => 0))), (q41, .inr (3, [.ref q42, .int (0 : Int32)])), (q42, .inl (ca 0, 44, .inl (fun _ => 0))), (q43, .inr (3, [.ref q44, .int (0 : Int32)])), (q44, .inl (ca 0, 44, .inl (fun _ => 0)))] H := hP.sub [0, 1, 2, 3, 4, 46, 47, 5, 6, 23, 24, 45, 48, 25, 26, 43, 44, 49, 50, 51, 52, 53, 54, 55, 56, 7, 8, 9, 10, 11, 12, 13, 14, 15, 16, 17, 18, 19, 20, 21, 22, 27, 28, 29, 30, 31, 32, 33, 34, 35, 36, 37, 38, 39, 40, 41, 42] rfl
  have hD2 : va_D A [(q1, .inr (0, [.ref q2, .ref q4, .ref q6, .ref q25, .ref q27, .ref q48])), (q2, .inr (5, [.ref q3, .int (0 : Int32)])), (q3, .inl (ca 0, 64, .inl (fun _ => 0))), (q4, .inr (5, [.ref q5, .int (0 : Int32)])), (q5, .inl (ca 0, 256, .inl (fun _ => 0))), (q49, .inr (5, [.ref q50, .int (0 : Int32)])), (q50, .inl (ca 0, 16, .inl (fun _ => 0))), (q6, .inr (7, [.ref q7, .int (0 : Int32)])), (q7, .inl (ca 2, 8, .inr (.inr (.inr (.inr f24))))), (q25, .inr (6, [.int (0 : Int32), .int (0 : Int32), .int (0 : Int32), .ref q26])), (q26, .inr (1, [.int (0 : Int32), .int (0 : Int32)])), (q48, .inr (4, [.ref q49, .ref q51, .int (0 : Int32), .int (0 : Int32), .int (0 : Int32), .int (0 : Int32)])), (q51, .inr (1, [.int (0 : Int32), .int (0 : Int32)])), (q27, .inr (2, [.ref q28, .ref q45, .ref q46, .int (0 : Int32), .int (0 : Int32), .int (0 : Int32), .int (0 : Int32), .int (1 : Int32)])), (q28, .inl (ca 2, 8, .inr (.inr (.inr (.inr f47))))), (q45, .inl (ca 1, 8, .inl (fun _ => 0))), (q46, .inl (ca 0, 8, .inl (fun _ => 0))), (q54, .inr (8, [.ref q55, .int 0, .ref q56, .int 0, .ref q57, .int 0, .int 0, .int 0, .int 0, .int 0, .int 0, .ref q58, .ref q59, .int 0, .int 0, .int 0, .int (1 : Int32), .int 0, .int 0, .int 0, .int 0, .ref q60, .ref q61, .int 0, .int 0])), (q55, .inl (ca 0, 89, .inl f62)), (q56, .inl (ca 0, 64, .inl (fun _ => 0))), (q57, .inl (ca 0, 256, .inl (fun _ => 0))), (q58, .inl (ca 0, 16, .inl f63)), (q59, .inl (ca 0, 704, .inl (fun _ => 0))), (q60, .inl (ca 0, 16, .inl (fun _ => 0))), (q61, .inl (ca 0, 10, .inl (fun _ => 0))), (q8, .inr (3, [.ref q9, .int (0 : Int32)])), (q9, .inl (ca 0, 44, .inl (fun _ => 0))), (q10, .inr (3, [.ref q11, .int (0 : Int32)])), (q11, .inl (ca 0, 44, .inl (fun _ => 0))), (q12, .inr (3, [.ref q13, .int (0 : Int32)])), (q13, .inl (ca 0, 44, .inl (fun _ => 0))), (q14, .inr (3, [.ref q15, .int (0 : Int32)])), (q15, .inl (ca 0, 44, .inl (fun _ => 0))), (q16, .inr (3, [.ref q17, .int (0 : Int32)])), (q17, .inl (ca 0, 44, .inl (fun _ => 0))), (q18, .inr (3, [.ref q19, .int (0 : Int32)])), (q19, .inl (ca 0, 44, .inl (fun _ => 0))), (q20, .inr (3, [.ref q21, .int (0 : Int32)])), (q21, .inl (ca 0, 44, .inl (fun _ => 0))), (q22, .inr (3, [.ref q23, .int (0 : Int32)])), (q23, .inl (ca 0, 44, .inl (fun _ => 0))), (q29, .inr (3, [.ref q30, .int (0 : Int32)])), (q30, .inl (ca 0, 44, .inl (fun _ => 0))), (q31, .inr (3, [.ref q32, .int (0 : Int32)])), (q32, .inl (ca 0, 44, .inl (fun _ => 0))), (q33, .inr (3, [.ref q34, .int (0 : Int32)])), (q34, .inl (ca 0, 44, .inl (fun _ => 0))), (q35, .inr (3, [.ref q36, .int (0 : Int32)])), (q36, .inl (ca 0, 44, .inl (fun _ => 0))), (q37, .inr (3, [.ref q38, .int (0 : Int32)])), (q38, .inl (ca 0, 44, .inl (fun _ => 0))), (q39, .inr (3, [.ref q40, .int (0 : Int32)])), (q40, .inl (ca 0, 44, .inl (fun _ => 0))), (q41, .inr (3, [.ref q42, .int (0 : Int32)])), (q42, .inl (ca 0, 44, .inl (fun _ => 0))), (q43, .inr (3, [.ref q44, .int (0 : Int32)])), (q44, .inl (ca 0, 44, .inl (fun _ => 0)))] := hD.sub [0, 1, 2, 3, 4, 46, 47, 5, 6, 23, 24, 45, 48, 25, 26, 43, 44, 49, 50, 51, 52, 53, 54, 55, 56, 7, 8, 9, 10, 11, 12, 13, 14, 15, 16, 17, 18, 19, 20, 21, 22, 27, 28, 29, 30, 31, 32, 33, 34, 35, 36, 37, 38, 39, 40, 41, 42] (by decide) rfl
  have hAD : AD (adr tS tT [q1, q2, q3, q4, q5, q49, q50, q6, q7, q25, q26, q48, q51, q27, q28, q45, q46, q54, q55, q56, q57, q58, q59, q60, q61, q8, q9, q10, q11, q12, q13, q14, q15, q16, q17, q18, q19, q20, q21, q22, q23, q29, q30, q31, q32, q33, q34, q35, q36, q37, q38, q39, q40, q41, q42, q43, q44]) := ad_of hD2 rfl rfl
  have hge : ∀ k, k < 57 → s.heap.size ≤ (adr tS tT [q1, q2, q3, q4, q5, q49, q50, q6, q7, q25, q26, q48, q51, q27, q28, q45, q46, q54, q55, q56, q57, q58, q59, q60, q61, q8, q9, q10, q11, q12, q13, q14, q15, q16, q17, q18, q19, q20, q21, q22, q23, q29, q30, q31, q32, q33, q34, q35, q36, q37, q38, q39, q40, q41, q42, q43, q44]) k := fun k hk => by
    have := ad_in hD2 (ad := [q1, q2, q3, q4, q5, q49, q50, q6, q7, q25, q26, q48, q51, q27, q28, q45, q46, q54, q55, q56, q57, q58, q59, q60, q61, q8, q9, q10, q11, q12, q13, q14, q15, q16, q17, q18, q19, q20, q21, q22, q23, q29, q30, q31, q32, q33, q34, q35, q36, q37, q38, q39, q40, q41, q42, q43, q44]) (tS := tS) (tT := tT) rfl rfl k hk
    rw [eA] at this
    exact this
  have hAA : ∀ q, AA (adr tS tT [q1, q2, q3, q4, q5, q49, q50, q6, q7, q25, q26, q48, q51, q27, q28, q45, q46, q54, q55, q56, q57, q58, q59, q60, q61, q8, q9, q10, q11, q12, q13, q14, q15, q16, q17, q18, q19, q20, q21, q22, q23, q29, q30, q31, q32, q33, q34, q35, q36, q37, q38, q39, q40, q41, q42, q43, q44]) s.heap.size q ↔ s.heap.size ≤ q := fun q => ⟨fun h => by
    rcases h with ⟨k, hk, rfl⟩ | h
    · exact hge k hk
    · exact h, Or.inr⟩
  have hPW : va_P D classes (WL ca (adr tS tT [q1, q2, q3, q4, q5, q49, q50, q6, q7, q25, q26, q48, q51, q27, q28, q45, q46, q54, q55, q56, q57, q58, q59, q60, q61, q8, q9, q10, q11, q12, q13, q14, q15, q16, q17, q18, q19, q20, q21, q22, q23, q29, q30, q31, q32, q33, q34, q35, q36, q37, q38, q39, q40, q41, q42, q43, q44]) (mu0 f62 f63)) H := by
    intro k q hk
    obtain ⟨hk5, rfl⟩ := WL_in hk
    by_cases h8 : k = 8
    · subst h8
      exact wire_at (hP2 8 _ rfl) (fun j hj => by
        obtain ⟨z0, z1, z2, z3, z4, z5, z6, z7⟩ := hh52
        match j, hj with
        | 0, _ => exact z0
        | 1, _ => exact z1
        | 2, _ => exact z2
        | 3, _ => exact z3
        | 4, _ => exact z4
        | 5, _ => exact z5
        | 6, _ => exact z6
        | 7, _ => exact z7
        | j + 8, h => exact absurd h (by omega))
    · by_cases h14 : k = 14
      · subst h14
        exact wire_at (hP2 14 _ rfl) (fun j hj => by
          obtain ⟨z0, z1, z2, z3, z4, z5, z6, z7⟩ := hh53
          match j, hj with
          | 0, _ => exact z0
          | 1, _ => exact z1
          | 2, _ => exact z2
          | 3, _ => exact z3
          | 4, _ => exact z4
          | 5, _ => exact z5
          | 6, _ => exact z6
          | 7, _ => exact z7
          | j + 8, h => exact absurd h (by omega))
      · exact hP2 k _ (law_key k hk5 h8 h14)
  refine B_law hF p e s m args below meth c D Q 57 2320 ⟨S.1, S.2.1, S.2.2.1, S.2.2.2.1, hAD, ?_⟩ ⟨eQ, hX, hb, hge, eargs, by decide, by decide⟩ ⟨by decide, by decide⟩ H locs ls hPW ⟨hS.1, fun q h1 h2 => hS.2.1 q h1 (fun h => h2 ((hAA q).mpr (by rw [eA] at h; exact h))), fun q hq => (hAA _).mpr (by
    have := hS.2.2 q hq
    rw [eA] at this
    exact this)⟩ hl
  have hT2 : ST (adr tS tT [q1, q2, q3, q4, q5, q49, q50, q6, q7, q25, q26, q48, q51, q27, q28, q45, q46, q54, q55, q56, q57, q58, q59, q60, q61, q8, q9, q10, q11, q12, q13, q14, q15, q16, q17, q18, q19, q20, q21, q22, q23, q29, q30, q31, q32, q33, q34, q35, q36, q37, q38, q39, q40, q41, q42, q43, q44]) A s s.heap := hT
  exact hT2.narrow (fun q h => by rw [eA]; exact (hAA q).mp h)
set_option maxHeartbeats 8000000 in
set_option maxRecDepth 100000 in
theorem law_begin {l : Launch} {ca : Nat → ClassId} {b L : Nat} {xs : Nat → Int32} (hpure : ∀ f1 f2 : Nat → Int32, (∀ j, j < 89 → f1 j = tb_STEPS j) → (∀ j, j < 16 → f2 j = if j < 8 then 0 else (-1 : Int32)) → ∃ m9, F_law L xs (mu0 f1 f2) = some ((1 : Int32), m9)) : VV l code 4 ret R_law room_1 ca (ELV b L xs) 0 [some (.ref b), none, none, none] [] [] 0 0 := by
  refine vv_new 3 rfl 0 7 (by decide +kernel) (by decide) k_law_7 in_Gate ini_Gate bl_Gate 1 6 rfl rfl ⟨Nat.le_of_ble_eq_true rfl, Nat.le_of_ble_eq_true rfl⟩ (fun q1 => ?_)
  refine vv_dup 4 rfl (by decide +kernel) rfl ?_
  refine vv_init 7 rfl 9 [] (by decide +kernel) rfl mi_Gate.1 mi_Gate.2.1 mi_Gate.2.2.1 mi_Gate.2.2.2 k_law_9 rfl ⟨Nat.le_of_ble_eq_true rfl, Nat.le_of_ble_eq_true rfl⟩ ⟨rfl, rfl⟩ 49 1140 rfl rfl ⟨Nat.le_of_ble_eq_true rfl, Nat.le_of_ble_eq_true rfl⟩ (Nat.le_of_ble_eq_true rfl) rfl I_Gate_init (fun ww hww => ?_)
  obtain ⟨q2, q3, q4, q5, q6, q7, q8, q9, q10, q11, q12, q13, q14, q15, q16, q17, q18, q19, q20, q21, q22, q23, f24, q25, q26, q27, q28, q29, q30, q31, q32, q33, q34, q35, q36, q37, q38, q39, q40, q41, q42, q43, q44, q45, q46, f47, q48, q49, q50, q51, hh52, hh53, rfl⟩ := hww
  refine vv_w (w1 := [(q1, .inr (0, [.ref q2, .ref q4, .ref q6, .ref q25, .ref q27, .ref q48])), (q2, .inr (5, [.ref q3, .int (0 : Int32)])), (q3, .inl (ca 0, 64, .inl (fun _ => 0))), (q4, .inr (5, [.ref q5, .int (0 : Int32)])), (q5, .inl (ca 0, 256, .inl (fun _ => 0))), (q6, .inr (7, [.ref q7, .int (0 : Int32)])), (q7, .inl (ca 2, 8, .inr (.inr (.inr (.inr f24))))), (q8, .inr (3, [.ref q9, .int (0 : Int32)])), (q9, .inl (ca 0, 44, .inl (fun _ => 0))), (q10, .inr (3, [.ref q11, .int (0 : Int32)])), (q11, .inl (ca 0, 44, .inl (fun _ => 0))), (q12, .inr (3, [.ref q13, .int (0 : Int32)])), (q13, .inl (ca 0, 44, .inl (fun _ => 0))), (q14, .inr (3, [.ref q15, .int (0 : Int32)])), (q15, .inl (ca 0, 44, .inl (fun _ => 0))), (q16, .inr (3, [.ref q17, .int (0 : Int32)])), (q17, .inl (ca 0, 44, .inl (fun _ => 0))), (q18, .inr (3, [.ref q19, .int (0 : Int32)])), (q19, .inl (ca 0, 44, .inl (fun _ => 0))), (q20, .inr (3, [.ref q21, .int (0 : Int32)])), (q21, .inl (ca 0, 44, .inl (fun _ => 0))), (q22, .inr (3, [.ref q23, .int (0 : Int32)])), (q23, .inl (ca 0, 44, .inl (fun _ => 0))), (q25, .inr (6, [.int (0 : Int32), .int (0 : Int32), .int (0 : Int32), .ref q26])), (q26, .inr (1, [.int (0 : Int32), .int (0 : Int32)])), (q27, .inr (2, [.ref q28, .ref q45, .ref q46, .int (0 : Int32), .int (0 : Int32), .int (0 : Int32), .int (0 : Int32), .int (1 : Int32)])), (q28, .inl (ca 2, 8, .inr (.inr (.inr (.inr f47))))), (q29, .inr (3, [.ref q30, .int (0 : Int32)])), (q30, .inl (ca 0, 44, .inl (fun _ => 0))), (q31, .inr (3, [.ref q32, .int (0 : Int32)])), (q32, .inl (ca 0, 44, .inl (fun _ => 0))), (q33, .inr (3, [.ref q34, .int (0 : Int32)])), (q34, .inl (ca 0, 44, .inl (fun _ => 0))), (q35, .inr (3, [.ref q36, .int (0 : Int32)])), (q36, .inl (ca 0, 44, .inl (fun _ => 0))), (q37, .inr (3, [.ref q38, .int (0 : Int32)])), (q38, .inl (ca 0, 44, .inl (fun _ => 0))), (q39, .inr (3, [.ref q40, .int (0 : Int32)])), (q40, .inl (ca 0, 44, .inl (fun _ => 0))), (q41, .inr (3, [.ref q42, .int (0 : Int32)])), (q42, .inl (ca 0, 44, .inl (fun _ => 0))), (q43, .inr (3, [.ref q44, .int (0 : Int32)])), (q44, .inl (ca 0, 44, .inl (fun _ => 0))), (q45, .inl (ca 1, 8, .inl (fun _ => 0))), (q46, .inl (ca 0, 8, .inl (fun _ => 0))), (q48, .inr (4, [.ref q49, .ref q51, .int (0 : Int32), .int (0 : Int32), .int (0 : Int32), .int (0 : Int32)])), (q49, .inr (5, [.ref q50, .int (0 : Int32)])), (q50, .inl (ca 0, 16, .inl (fun _ => 0))), (q51, .inr (1, [.int (0 : Int32), .int (0 : Int32)]))]) rfl ?_
  refine vv_astore_1 8 rfl (by decide +kernel) (by decide) ?_
  refine vv_new 11 rfl 8 10 (by decide +kernel) (by decide) k_law_10 in_Model ini_Model bl_Model 50 1165 rfl rfl ⟨Nat.le_of_ble_eq_true rfl, Nat.le_of_ble_eq_true rfl⟩ (fun q54 => ?_)
  refine vv_dup 12 rfl (by decide +kernel) rfl ?_
  refine vv_init 15 rfl 12 [] (by decide +kernel) rfl mi_Model.1 mi_Model.2.1 mi_Model.2.2.1 mi_Model.2.2.2 k_law_12 rfl ⟨Nat.le_of_ble_eq_true rfl, Nat.le_of_ble_eq_true rfl⟩ ⟨rfl, rfl⟩ 57 2320 rfl rfl ⟨Nat.le_of_ble_eq_true rfl, Nat.le_of_ble_eq_true rfl⟩ (Nat.le_of_ble_eq_true rfl) rfl I_Model_init (fun ww hww => ?_)
  obtain ⟨q55, q56, q57, q58, q59, q60, q61, f62, f63, hh64, hh65, rfl⟩ := hww
  refine vv_w (w1 := [(q1, .inr (0, [.ref q2, .ref q4, .ref q6, .ref q25, .ref q27, .ref q48])), (q2, .inr (5, [.ref q3, .int (0 : Int32)])), (q3, .inl (ca 0, 64, .inl (fun _ => 0))), (q4, .inr (5, [.ref q5, .int (0 : Int32)])), (q5, .inl (ca 0, 256, .inl (fun _ => 0))), (q6, .inr (7, [.ref q7, .int (0 : Int32)])), (q7, .inl (ca 2, 8, .inr (.inr (.inr (.inr f24))))), (q8, .inr (3, [.ref q9, .int (0 : Int32)])), (q9, .inl (ca 0, 44, .inl (fun _ => 0))), (q10, .inr (3, [.ref q11, .int (0 : Int32)])), (q11, .inl (ca 0, 44, .inl (fun _ => 0))), (q12, .inr (3, [.ref q13, .int (0 : Int32)])), (q13, .inl (ca 0, 44, .inl (fun _ => 0))), (q14, .inr (3, [.ref q15, .int (0 : Int32)])), (q15, .inl (ca 0, 44, .inl (fun _ => 0))), (q16, .inr (3, [.ref q17, .int (0 : Int32)])), (q17, .inl (ca 0, 44, .inl (fun _ => 0))), (q18, .inr (3, [.ref q19, .int (0 : Int32)])), (q19, .inl (ca 0, 44, .inl (fun _ => 0))), (q20, .inr (3, [.ref q21, .int (0 : Int32)])), (q21, .inl (ca 0, 44, .inl (fun _ => 0))), (q22, .inr (3, [.ref q23, .int (0 : Int32)])), (q23, .inl (ca 0, 44, .inl (fun _ => 0))), (q25, .inr (6, [.int (0 : Int32), .int (0 : Int32), .int (0 : Int32), .ref q26])), (q26, .inr (1, [.int (0 : Int32), .int (0 : Int32)])), (q27, .inr (2, [.ref q28, .ref q45, .ref q46, .int (0 : Int32), .int (0 : Int32), .int (0 : Int32), .int (0 : Int32), .int (1 : Int32)])), (q28, .inl (ca 2, 8, .inr (.inr (.inr (.inr f47))))), (q29, .inr (3, [.ref q30, .int (0 : Int32)])), (q30, .inl (ca 0, 44, .inl (fun _ => 0))), (q31, .inr (3, [.ref q32, .int (0 : Int32)])), (q32, .inl (ca 0, 44, .inl (fun _ => 0))), (q33, .inr (3, [.ref q34, .int (0 : Int32)])), (q34, .inl (ca 0, 44, .inl (fun _ => 0))), (q35, .inr (3, [.ref q36, .int (0 : Int32)])), (q36, .inl (ca 0, 44, .inl (fun _ => 0))), (q37, .inr (3, [.ref q38, .int (0 : Int32)])), (q38, .inl (ca 0, 44, .inl (fun _ => 0))), (q39, .inr (3, [.ref q40, .int (0 : Int32)])), (q40, .inl (ca 0, 44, .inl (fun _ => 0))), (q41, .inr (3, [.ref q42, .int (0 : Int32)])), (q42, .inl (ca 0, 44, .inl (fun _ => 0))), (q43, .inr (3, [.ref q44, .int (0 : Int32)])), (q44, .inl (ca 0, 44, .inl (fun _ => 0))), (q45, .inl (ca 1, 8, .inl (fun _ => 0))), (q46, .inl (ca 0, 8, .inl (fun _ => 0))), (q48, .inr (4, [.ref q49, .ref q51, .int (0 : Int32), .int (0 : Int32), .int (0 : Int32), .int (0 : Int32)])), (q49, .inr (5, [.ref q50, .int (0 : Int32)])), (q50, .inl (ca 0, 16, .inl (fun _ => 0))), (q51, .inr (1, [.int (0 : Int32), .int (0 : Int32)])), (q54, .inr (8, [.ref q55, .int 0, .ref q56, .int 0, .ref q57, .int 0, .int 0, .int 0, .int 0, .int 0, .int 0, .ref q58, .ref q59, .int 0, .int 0, .int 0, .int (1 : Int32), .int 0, .int 0, .int 0, .int 0, .ref q60, .ref q61, .int 0, .int 0])), (q55, .inl (ca 0, 89, .inl f62)), (q56, .inl (ca 0, 64, .inl (fun _ => 0))), (q57, .inl (ca 0, 256, .inl (fun _ => 0))), (q58, .inl (ca 0, 16, .inl f63)), (q59, .inl (ca 0, 704, .inl (fun _ => 0))), (q60, .inl (ca 0, 16, .inl (fun _ => 0))), (q61, .inl (ca 0, 10, .inl (fun _ => 0)))]) rfl ?_
  refine vv_astore_2 16 rfl (by decide +kernel) (by decide) ?_
  obtain ⟨m9, hF⟩ := hpure f62 f63 hh64 hh65
  exact law_to hh52 hh53 hh64 hh65 hF
set_option maxHeartbeats 8000000 in
set_option maxRecDepth 100000 in
theorem st_stp : ∀ j, j < 89 → Cond.eq (.elem (.static R_Adaptive "STEPS" "[I") (.int (Int32.ofNat j))) (.int (tb_STEPS j)) ∈ flatC (Jvm.Cond.and given_1 narrow_1) := by decide +kernel
set_option maxHeartbeats 8000000 in
set_option maxRecDepth 100000 in
theorem st_typ : ∀ j, j < 4 → Cond.eq (.elem (.static R_Packet "TYPES" "[I") (.int (Int32.ofNat j))) (.int (tb_TYPES j)) ∈ flatC (Jvm.Cond.and given_1 narrow_1) := by decide +kernel
set_option maxRecDepth 100000 in
theorem stat_ls {s : State} {args : Array Value} (h : (Jvm.Cond.and given_1 narrow_1).before args s = true) (hts : ∀ w ∈ AW, w.before args s = true) (htb : ∀ w ∈ lw_tbl, w.before args s = true) : ∃ tS tT : Nat, ST (adr tS tT []) (fun q => s.heap.size ≤ q) s s.heap := by
  have hs := flat_of_before _ h
  have hA : ∀ a : Nat, a < s.heap.size → ¬ s.heap.size ≤ a := fun a h => by omega
  obtain ⟨tS, e1, g1⟩ := va_Tof (A := fun q => s.heap.size ≤ q) (N := 89) (f := fun j => .int (tb_STEPS j)) (tm := .static R_Adaptive "STEPS" "[I") (ty := .int) (by decide) (hs _ (by decide +kernel)) (va_eqt (hs _ (by decide +kernel))) (fun j hj => va_eqt (hs _ (st_stp j hj))) hA
  obtain ⟨tT, e2, g2⟩ := va_Tof (A := fun q => s.heap.size ≤ q) (N := 4) (f := fun j => .int (tb_TYPES j)) (tm := .static R_Packet "TYPES" "[I") (ty := .int) (by decide) (hs _ (by decide +kernel)) (va_eqt (hs _ (by decide +kernel))) (fun j hj => va_eqt (hs _ (st_typ j hj))) hA
  refine ⟨tS, tT, ⟨va_Zref (htb _ (tw 308 rfl)) (htb _ (tw 6 rfl)) e1 hA, g1⟩, ⟨va_Zref (htb _ (tw 271 rfl)) (htb _ (tw 4 rfl)) e2 hA, g2⟩, va_Nw.of rfl (htb _ (tw 320 rfl)), va_Nw.of rfl (htb _ (tw 529 rfl))⟩
set_option maxHeartbeats 4000000 in
set_option maxRecDepth 100000 in
/-- the law from its entry, if the pure law answers 1 -/
theorem start_of {p : Program} {e : Env} {s : State} {m : MethodId} {below : List Frame} {meth : Method} {c : Code} (l : Launch) {b L : Nat} {xs : Nat → Int32} (C0 : lw_At p s m meth c b L xs)
    (hpure : ∀ f1 f2 : Nat → Int32, (∀ j, j < 89 → f1 j = tb_STEPS j) → (∀ j, j < 16 → f2 j = if j < 8 then 0 else (-1 : Int32)) → ∃ m9, F_law L xs (mu0 f1 f2) = some ((1 : Int32), m9)) : W p l e room_1 s m #[Value.ref b] below meth c s.heap [] 0 0 (lw_Z below #[Value.ref b] s) (entryFrame m ([Value.ref b] : List Value).toArray 4) := by
  obtain ⟨hx, hb, hr, hml, hown, hts, hX, hbl, hlocks, hgv⟩ := id C0
  have htA : ∀ w ∈ AW, w.before #[Value.ref b] s = true := fun w hw => hts w (List.mem_filter.mp hw).1
  have hk : ∀ c : Nat, ∃ (cC : ClassId) (iS : Nat → Nat), c < 9 → u_Kn s (cn c) (cT c) (nfc c) cC iS := fun c => by
    by_cases hc : c < 9
    · obtain ⟨cC, iS, hKn⟩ := u_known (C := cn c) (T := cT c) (N := nfc c) (n := nfc c) htA (cw_in hc) (htA _ (in_all hc))
      exact ⟨cC, iS, fun _ => hKn⟩
    · exact ⟨0, fun _ => 0, fun h => absurd h hc⟩
  obtain ⟨ci, k1, comp1, i1, i2, i3⟩ := Cond.arrayClass_spec (htA _ ar_int)
  obtain ⟨cz, k2, comp2, z1, z2, z3⟩ := Cond.arrayClass_spec (htA _ ar_boo)
  have hover : (Cond.arrayOver (.object R_Packet)).before #[Value.ref b] s = true := hts _ (tw 42 rfl)
  obtain ⟨comp3, cq, k3, r1, r2, r3, r4, r5⟩ := Cond.arrayOver_spec hover
  have hK : va_K (fun c => Classical.choose (hk c), fun c => Classical.choose (Classical.choose_spec (hk c))) classes (tys (fun k => if k = 0 then ci else if k = 1 then cz else cq)) s := by
    refine ⟨fun c q hq => ?_, fun k q hq => ?_⟩
    · have hc : c < 9 := (List.getElem?_eq_some_iff.mp hq).1
      rw [cl_at hc] at hq
      cases hq
      exact Classical.choose_spec (Classical.choose_spec (hk c)) hc
    · have hk3 : k < 3 := (List.getElem?_eq_some_iff.mp hq).1
      match k, hk3, hq with
      | 0, _, hq => cases hq; exact ⟨fun n z => ⟨fun _ h => (by cases h), k1, i2, comp1, i3⟩, i1⟩
      | 1, _, hq => cases hq; exact ⟨fun n z => ⟨fun _ h => (by cases h), k2, z2, comp2, z3⟩, z1⟩
      | 2, _, hq => cases hq; exact ⟨fun n z => ⟨fun _ h => (by cases h), k3, r3, comp3, r4⟩, k3, comp3, r3, r4, r1, r5⟩
  rw [lg_entry_eq]
  exact law_begin hpure p e s m #[Value.ref b] below meth c _ _ (fun q => s.heap.size ≤ q) ⟨⟨hx, hb, hml, hown, htA⟩, hr, hlocks, hK, va_AO.of hover⟩ ⟨rfl, rfl, hX, hbl, rfl, stat_ls hgv htA hts⟩ (fun _ h => h) s.heap [] _ (fun k q h => by simp at h) ⟨fun i j p q h => by simp at h, fun k q h => by simp at h⟩ va_S.rf (lh_entry (As := [Value.ref b]) (cat_ok rfl) (Nat.le_of_ble_eq_true rfl))
