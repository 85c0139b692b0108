-- byteAt, poke, disturb
def gtB (p : List Int32) (i : Int32) : Int32 := if i < 0 then -1 else if nI p.length ≤ i then -1 else p.getD i.toNatClampNeg 0
section PK
variable {m m' : Mem} {t : Nat} {p : List Int32}
theorem pk_get (ht : kd t = 3) (h : SR (m t 1) (m (t + 1)) 44 p) (i : Int32) : F_Packet_get m t i = some (gtB p i) := by
  have hl := ln_byt ht
  have hc := h.2.1
  unfold F_Packet_get F_Packet_has gtB
  by_cases h0 : i < 0
  · rw [if_pos h0, if_pos h0, rd_some, if_pos rfl]
  · by_cases h1 : nI p.length ≤ i
    · rw [if_neg h0, if_pos (by rw [h.1]; exact h1), rd_some, if_pos rfl, if_neg h0, if_pos h1]
    · obtain ⟨j, hj, rfl⟩ := in_of h0 h1 hc (by decide)
      rw [if_neg h0, if_neg (by rw [h.1]; exact h1), rd_some, if_neg (by decide), if_neg (by rw [hl]; exact nI_in (by omega) (by decide)), if_neg h0, if_neg h1, nI_clamp (by omega), h.2.2 j hj]
theorem pk_putN (h : SR (m t 1) (m (t + 1)) 44 p) {i b : Int32} (hi : i < 0 ∨ nI p.length ≤ i) : F_Packet_put m t i b = some ((0 : Int32), m) := by
  unfold F_Packet_put F_Packet_has
  by_cases h0 : i < 0
  · rw [if_pos h0, rd_some, if_pos rfl]
  · rcases hi with q | q
    · exact absurd q h0
    · rw [if_neg h0, if_pos (by rw [h.1]; exact q), rd_some, if_pos rfl]
theorem pk_putY (ht : kd t = 3) (h : SR (m t 1) (m (t + 1)) 44 p) {j : Nat} (hj : j < p.length) (b : Int32) : F_Packet_put m t (nI j) b = some ((1 : Int32), put m (t + 1) j b) := by
  have hl := ln_byt ht
  have hc := h.2.1
  unfold F_Packet_put F_Packet_has
  rw [if_neg (nI_pos (by omega)), if_neg (by rw [h.1]; exact nI_ge hj (by omega)), rd_some, if_neg (by decide), if_neg (by rw [hl]; exact nI_in (by omega) (by decide)), nI_clamp (by omega), bnd_eq]
theorem pk_copy {u : Nat} (ht : kd t = 3) (hu : kd u = 3) (htu : t ≠ u) (htu1 : t + 1 ≠ u) (h : SR (m u 1) (m (u + 1)) 44 p) : ∃ m', F_Packet_copyFrom m t u = some m' ∧ SR (m' t 1) (m' (t + 1)) 44 p ∧ CH (fun a b => (a = t ∧ b = 1) ∨ a = t + 1) m m' := by
  have l1 := ln_byt ht
  have l2 := ln_byt hu
  have z0 : (0 : Int32).toNatClampNeg = 0 := rfl
  have z4 : (44 : Int32).toNatClampNeg = 44 := rfl
  have hc := h.2.1
  refine ⟨put (stm m (t + 1) (va_cpy (m (u + 1)) (m (t + 1)) 0 0 44)) t 1 (m u 1), ?_, ?_, (CH.rf.stm (fun _ => Or.inr rfl) _).put (Or.inl ⟨rfl, rfl⟩) _⟩
  · unfold F_Packet_copyFrom
    rw [z0, z4, l1, l2, if_neg (by decide), bnd_eq, bnd_eq, stm_ne _ _ (show u ≠ t + 1 from fun z => htu1 z.symm)]
  · rw [show put (stm m (t + 1) (va_cpy (m (u + 1)) (m (t + 1)) 0 0 44)) t 1 (m u 1) t 1 = m u 1 by simp [put_at], put_ne _ _ _ (by omega), stm_same]
    refine h.congr (fun j hj => ?_)
    unfold va_cpy
    rw [if_pos (by omega)]
    congr 1
    omega
end PK
section L2
variable {m m' : Mem} {ps : List (List Int32)} {π : Nat → Nat}
theorem LC.pk (hl : ps.length ≤ 8) (h : LC m ps π) {k : Nat} (hk : k < ps.length) : kd (25 + 2 * π k) = 3 ∧ SR (m (25 + 2 * π k) 1) (m (25 + 2 * π k + 1)) 44 (ps.getD k []) := ⟨(h.id (by omega)).2, by rw [show 25 + 2 * π k + 1 = 26 + 2 * π k by omega]; exact h.2.2.2 k hk⟩
theorem LB.mem (h : LB ps) {k : Nat} (hk : k < ps.length) : ∀ b ∈ ps.getD k [], IsB b := by
  have e : ps.getD k [] = ps[k] := by simp [List.getD_eq_getElem?_getD, hk]
  rw [e]
  exact h.2 _ (List.getElem_mem hk)
theorem LB.set (h : LB ps) {k : Nat} {p : List Int32} (hp : ∀ b ∈ p, IsB b) : LB (ps.set k p) := ⟨by simpa using h.1, fun q hq => by
  rcases List.mem_or_eq_of_mem_set hq with z | z
  · exact h.2 q z
  · rw [z]
    exact hp⟩
theorem LB.app (h : LB ps) (hl : ps.length < 8) {p : List Int32} (hp : ∀ b ∈ p, IsB b) : LB (ps ++ [p]) := ⟨by simp; omega, fun q hq => by
  rcases List.mem_append.mp hq with z | z
  · exact h.2 q z
  · rw [List.mem_singleton.mp z]
    exact hp⟩
theorem LB.er (h : LB ps) (k : Nat) : LB (ps.eraseIdx k) := ⟨Nat.le_trans (List.length_eraseIdx_le ps k) h.1, fun q hq => h.2 q (List.mem_of_mem_eraseIdx hq)⟩
theorem LC.app (hl : ps.length < 8) (h : LC m ps π) {p : List Int32} (c : CH (fun a b => (a = 7 ∧ b = 1) ∨ (a = 25 + 2 * π ps.length ∧ b = 1) ∨ a = 26 + 2 * π ps.length) m m') (h7 : m' 7 1 = nI (ps.length + 1)) (hp : SR (m' (25 + 2 * π ps.length) 1) (m' (26 + 2 * π ps.length)) 44 p) : LC m' (ps ++ [p]) π := by
  obtain ⟨h1, h2, h3, h4⟩ := h
  have hpk := (h2 ps.length hl).1
  refine ⟨by rw [h7]; simp, fun i hi => ⟨(h2 i hi).1, by rw [c 8 i (by omega)]; exact (h2 i hi).2⟩, h3, fun i hi => ?_⟩
  have hi : i < ps.length + 1 := by simpa using hi
  by_cases e : i = ps.length
  · subst e
    rw [show (ps ++ [p]).getD ps.length [] = p by simp [List.getD_eq_getElem?_getD]]
    exact hp
  · have hne : π i ≠ π ps.length := fun q => e (h3 i ps.length (by omega) hl q)
    have hi' := (h2 i (by omega)).1
    rw [show (ps ++ [p]).getD i [] = ps.getD i [] by simp [List.getD_eq_getElem?_getD, List.getElem?_append_left (show i < ps.length by omega)], c _ 1 (by omega)]
    exact (h4 i (by omega)).congr (fun j _ => c _ _ (by omega))
theorem LM.app (h : LM m ps) {p : List Int32} (c : CH (fun a b => (a = 17 ∧ b = 10) ∨ (a = 21 ∧ b = ps.length) ∨ (a = 22 ∧ 44 * ps.length ≤ b ∧ b < 44 * ps.length + 44)) m m') (h7 : m' 17 10 = nI (ps.length + 1)) (hp : SR (m' 21 ps.length) (fun i => m' 22 (44 * ps.length + i)) 44 p) : LM m' (ps ++ [p]) := by
  obtain ⟨h1, h2⟩ := h
  refine ⟨by rw [h7]; simp, fun i hi => ?_⟩
  have hi : i < ps.length + 1 := by simpa using hi
  by_cases e : i = ps.length
  · subst e
    rw [show (ps ++ [p]).getD ps.length [] = p by simp [List.getD_eq_getElem?_getD]]
    exact hp
  · have h44 := (h2 i (by omega)).2.1
    rw [show (ps ++ [p]).getD i [] = ps.getD i [] by simp [List.getD_eq_getElem?_getD, List.getElem?_append_left (show i < ps.length by omega)], c _ _ (by omega)]
    exact (h2 i (by omega)).congr (fun j hj => c _ _ (by omega))
theorem mo_thN (h : LM m ps) {k i : Int32} (hk : k < 0 ∨ nI ps.length ≤ k) : F_Model_there m k i = some 0 := by
  unfold F_Model_there
  by_cases h0 : k < 0
  · rw [if_pos h0]
  · rcases hk with q | q
    · exact absurd q h0
    · rw [if_neg h0, if_pos (by rw [h.1]; exact q)]
theorem mo_th (hl : ps.length ≤ 8) (h : LM m ps) {k : Nat} (hk : k < ps.length) (i : Int32) : F_Model_there m (nI k) i = some (if i < 0 ∨ nI (ps.getD k []).length ≤ i then 0 else 1) := by
  have hs := h.2 k hk
  unfold F_Model_there
  rw [if_neg (nI_pos (by omega)), if_neg (by rw [h.1]; exact nI_ge hk (by omega))]
  by_cases h0 : i < 0
  · rw [if_pos h0, if_pos (Or.inl h0)]
  · rw [if_neg h0, if_neg (show ¬ (nI k < 0 ∨ ln 21 ≤ (nI k).toNatClampNeg) from nI_in (N := 16) (by omega) (by decide)), nI_clamp (by omega), hs.1]
    by_cases h1 : nI (ps.getD k []).length ≤ i
    · rw [if_pos h1, if_pos (Or.inr h1)]
    · rw [if_neg h1, if_neg (fun q => q.elim h0 h1)]
theorem at_44 {k j : Nat} (hk : k < 16) (hj : j < 44) : (44 : Int32) * nI k + nI j = nI (44 * k + j) ∧ ¬ (nI (44 * k + j) < 0 ∨ ln 22 ≤ (nI (44 * k + j)).toNatClampNeg) ∧ (nI (44 * k + j)).toNatClampNeg = 44 * k + j := by
  refine ⟨by rw [show (44 : Int32) = nI 44 from rfl, pk_mul, nI_add], nI_in (N := 704) (by omega) (by decide), nI_clamp (by omega)⟩
end L2
section STP
variable {m : Mem}
theorem kx (k : Int32) (n : Nat) (hn : n ≤ 8) : (k < 0 ∨ nI n ≤ k) ∨ ∃ j, j < n ∧ k = nI j := by
  by_cases h0 : k < 0
  · exact Or.inl (Or.inl h0)
  · by_cases h1 : nI n ≤ k
    · exact Or.inl (Or.inr h1)
    · exact Or.inr (in_of h0 h1 hn (by decide))
theorem st_byteAt (h : Inv m) (k i : Int32) : ∃ r, F_Gate_byteAt m k i = some r ∧ F_Model_byteAt m k i = some r := by
  obtain ⟨-, -, -, ⟨ps, π, lb, lc, lm⟩, -⟩ := h
  rcases kx k ps.length lb.1 with hk | ⟨a, ha, rfl⟩
  · refine ⟨-1, ?_, ?_⟩
    · unfold F_Gate_byteAt
      rw [wi_no lc hk, rd_some, om_no]
    · unfold F_Model_byteAt
      rw [mo_thN lm hk, rd_some, if_pos rfl]
  · obtain ⟨p1, p2⟩ := lc.pk lb.1 ha
    refine ⟨gtB (ps.getD a []) i, ?_, ?_⟩
    · unfold F_Gate_byteAt
      rw [wi_at lb.1 lc ha, rd_some, om_so, gp_pos p1, pk_get p1 p2, rd_some]
    · have hs := lm.2 a ha
      have h44 := hs.2.1
      have lb1 := lb.1
      unfold F_Model_byteAt gtB
      rw [mo_th lb.1 lm ha, rd_some]
      by_cases h0 : i < 0
      · rw [if_pos (Or.inl h0), if_pos rfl, if_pos h0]
      · by_cases h1 : nI (ps.getD a []).length ≤ i
        · rw [if_pos (Or.inr h1), if_pos rfl, if_neg h0, if_pos h1]
        · obtain ⟨j, hj, rfl⟩ := in_of h0 h1 h44 (by decide)
          obtain ⟨e1, e2, e3⟩ := at_44 (k := a) (j := j) (by omega) (by omega)
          have hno : ¬ (nI j < 0 ∨ nI (ps.getD a []).length ≤ nI j) := fun q => q.elim h0 h1
          rw [if_neg hno, if_neg (by decide), e1, if_neg e2, e3, if_neg h0, if_neg h1, nI_clamp (by omega)]
          exact congrArg some (hs.2.2 j hj)
theorem set_B {p : List Int32} (hp : ∀ b ∈ p, IsB b) {j : Nat} {x : Int32} (hx : IsB x) : ∀ b ∈ p.set j x, IsB b := fun b hb => by
  rcases List.mem_or_eq_of_mem_set hb with z | z
  · exact hp b z
  · rw [z]
    exact hx
theorem st_poke (h : Inv m) (k i b : Int32) : Step m (F_Gate_poke m k i b) (fun m1 => F_Model_poke m1 k i b) := by
  obtain ⟨i1, i2, i3, ⟨ps, π, lb, lc, lm⟩, i5, i6, i8⟩ := id h
  have lb1 := lb.1
  rcases kx k ps.length lb.1 with hk | ⟨a, ha, rfl⟩
  · refine ⟨0, m, m, ?_, ?_, h⟩
    · unfold F_Gate_poke
      rw [wi_no lc hk, rd_some, om_no]
    · show F_Model_poke m k i b = _
      unfold F_Model_poke
      rw [mo_thN lm hk, rd_some, if_pos rfl]
  · obtain ⟨p1, p2⟩ := lc.pk lb.1 ha
    have hpa := (lc.2.1 a (by omega)).1
    by_cases hb : IsB b
    · obtain ⟨b1, b2, b3⟩ := byte_c hb
      by_cases hi : i < 0 ∨ nI (ps.getD a []).length ≤ i
      · refine ⟨0, m, m, ?_, ?_, h⟩
        · unfold F_Gate_poke
          rw [wi_at lb.1 lc ha, rd_some, om_so, gp_pos p1, b1, rd_some, if_neg (by decide), pk_putN p2 hi, cal_some, if_pos rfl]
        · show F_Model_poke m (nI a) i b = _
          unfold F_Model_poke
          rw [mo_th lb.1 lm ha, if_pos hi, rd_some, if_pos rfl]
      · have hs := lm.2 a ha
        have h44 := hs.2.1
        obtain ⟨h0, h1⟩ := not_or.mp hi
        obtain ⟨j, hj, rfl⟩ := in_of h0 h1 h44 (by decide)
        obtain ⟨e1, e2, e3⟩ := at_44 (k := a) (j := j) (by omega) (by omega)
        have c1 : CH (fun x y => x = 26 + 2 * π a) m (put m (25 + 2 * π a + 1) j b) := CH.rf.put (by omega) _
        have lm1 : LM (put m (25 + 2 * π a + 1) j b) ps := lm.cg lb.1 c1 (fun x y q => by omega)
        have c2 : CH (fun x y => x = 22 ∧ 44 * a ≤ y ∧ y < 44 * a + 44) (put m (25 + 2 * π a + 1) j b) (put (put m (25 + 2 * π a + 1) j b) 22 (44 * a + j) b) := CH.rf.put (by omega) _
        have c3 : CH (fun x y => x = 26 + 2 * π a ∨ (x = 22 ∧ 44 * a ≤ y ∧ y < 44 * a + 44)) m (put (put m (25 + 2 * π a + 1) j b) 22 (44 * a + j) b) := (c1.mo (fun x y q => by omega)).tr (c2.mo (fun x y q => by omega))
        refine ⟨1, put m (25 + 2 * π a + 1) j b, put (put m (25 + 2 * π a + 1) j b) 22 (44 * a + j) b, ?_, ?_, i1.cg c3 (fun x y q => by omega), i2.cg c3 (fun x y q => by omega), i3.cg c3 (fun x y q => by omega), ⟨ps.set a ((ps.getD a []).set j b), π, lb.set (set_B (lb.mem ha) hb), ?_, ?_⟩, i5.cg c3 (fun x y q => by omega), i6.cg c3 (fun x y q => by omega), i8.cg c3 (fun x y q => by omega)⟩
        · unfold F_Gate_poke
          rw [wi_at lb.1 lc ha, rd_some, om_so, gp_pos p1, b1, rd_some, if_neg (by decide), pk_putY p1 p2 hj, cal_some, if_neg (by decide)]
        · show F_Model_poke _ (nI a) (nI j) b = _
          unfold F_Model_poke
          rw [mo_th lb.1 lm1 ha, if_neg hi, rd_some, if_neg (by decide), if_neg b2, if_pos b3, e1, if_neg e2, e3, bnd_eq]
        · have l1 : LC (put m (25 + 2 * π a + 1) j b) (ps.set a ((ps.getD a []).set j b)) π := by
            refine lc.upd lb.1 ha (c1.mo (fun x y q => by omega)) ?_
            rw [c1 _ 1 (by omega), show 26 + 2 * π a = 25 + 2 * π a + 1 by omega, put_row]
            exact p2.set hj b
          exact l1.cg (by simpa using lb.1) c2 (fun x y q => by omega)
        · refine lm1.upd ha (c2.mo (fun x y q => by omega)) ?_
          have hs1 := lm1.2 a ha
          rw [c2 21 a (by omega)]
          have e4 : (fun x => put (put m (25 + 2 * π a + 1) j b) 22 (44 * a + j) b 22 (44 * a + x)) = upd (fun x => put m (25 + 2 * π a + 1) j b 22 (44 * a + x)) j b := by
            funext x
            rw [put_at, if_pos rfl, upd_at]
            by_cases q : x = j
            · rw [if_pos (by omega), if_pos q]
            · rw [if_neg (by omega), if_neg q]
          rw [e4]
          exact hs1.set hj b
    · obtain ⟨b1, b2⟩ := byte_n hb
      refine ⟨0, m, m, ?_, ?_, h⟩
      · unfold F_Gate_poke
        rw [wi_at lb.1 lc ha, rd_some, om_so, gp_pos p1, b1, rd_some, if_pos rfl]
      · show F_Model_poke m (nI a) i b = _
        unfold F_Model_poke
        rw [mo_th lb.1 lm ha, rd_some]
        by_cases hi : i < 0 ∨ nI (ps.getD a []).length ≤ i
        · rw [if_pos hi, if_pos rfl]
        · rw [if_neg hi, if_neg (by decide)]
          by_cases g : b < 0
          · rw [if_pos g]
          · rcases b2 with q | q
            · exact absurd q g
            · rw [if_neg g, if_neg q]
end STP
