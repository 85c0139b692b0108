-- disturb
theorem mo_x32 {f g : Nat → Int32} {a : Nat} (ha : a + 1 < 16) : ∀ (d n j : Nat) (m : Mem), 44 = j + d → d < n → (∀ i, i < j → m 22 (44 * a + i) = g i ∧ m 22 (44 * (a + 1) + i) = f i) → (∀ i, j ≤ i → i < 44 → m 22 (44 * a + i) = f i ∧ m 22 (44 * (a + 1) + i) = g i) →
    ∃ m', F_Model_exchange_32 n m (nI a) (nI j) = some m' ∧ (∀ i, i < 44 → m' 22 (44 * a + i) = g i ∧ m' 22 (44 * (a + 1) + i) = f i) ∧ CH (fun x y => x = 22 ∧ 44 * a ≤ y ∧ y < 44 * a + 88) m m' := by
  intro d
  induction d with
  | zero =>
    intro n j m e hn h1 h2
    obtain ⟨n, rfl⟩ : ∃ q, n = q + 1 := ⟨n - 1, by omega⟩
    refine ⟨m, ?_, fun i hi => h1 i (by omega), CH.rf⟩
    rw [F_Model_exchange_32, if_pos (kGE 44 44 rfl (by omega) (by omega))]
  | succ d ih =>
    intro n j m e hn h1 h2
    obtain ⟨n, rfl⟩ : ∃ q, n = q + 1 := ⟨n - 1, by omega⟩
    obtain ⟨q1, q2⟩ := h2 j (Nat.le_refl _) (by omega)
    have c1 : CH (fun x y => x = 22 ∧ 44 * a ≤ y ∧ y < 44 * a + 88) m (put (put m 22 (44 * a + j) (g j)) 22 (44 * (a + 1) + j) (f j)) := (CH.rf.put (by omega) _).put (by omega) _
    have at1 : ∀ i, i < 44 → put (put m 22 (44 * a + j) (g j)) 22 (44 * (a + 1) + j) (f j) 22 (44 * a + i) = if i = j then g j else m 22 (44 * a + i) := fun i hi => by
      rw [put_at, if_pos rfl, if_neg (by omega), put_at, if_pos rfl]
      by_cases z : i = j
      · rw [if_pos (by omega), if_pos z]
      · rw [if_neg (by omega), if_neg z]
    have at2 : ∀ i, i < 44 → put (put m 22 (44 * a + j) (g j)) 22 (44 * (a + 1) + j) (f j) 22 (44 * (a + 1) + i) = if i = j then f j else m 22 (44 * (a + 1) + i) := fun i hi => by
      rw [put_at, if_pos rfl]
      by_cases z : i = j
      · rw [if_pos (by omega), if_pos z]
      · rw [if_neg (by omega), if_neg z, put_at, if_pos rfl, if_neg (by omega)]
    obtain ⟨m2, f1, f2, f3⟩ := ih n (j + 1) (put (put m 22 (44 * a + j) (g j)) 22 (44 * (a + 1) + j) (f j)) (by omega) (by omega)
      (fun i hi => by
        rw [at1 i (by omega), at2 i (by omega)]
        by_cases z : i = j
        · rw [if_pos z, if_pos z, z]
          exact ⟨rfl, rfl⟩
        · rw [if_neg z, if_neg z]
          exact h1 i (by omega))
      (fun i hi hi2 => by
        rw [at1 i (by omega), at2 i (by omega), if_neg (by omega), if_neg (by omega)]
        exact h2 i (by omega) hi2)
    refine ⟨m2, ?_, f2, c1.tr f3⟩
    obtain ⟨e1, e2, e3⟩ := at_44 (k := a) (j := j) (by omega) (by omega)
    have e4 : (44 : Int32) * nI a + (44 : Int32) + nI j = nI (44 * (a + 1) + j) := by
      rw [show (44 : Int32) = nI 44 from rfl, pk_mul, nI_add, nI_add]
      congr 1
    obtain ⟨-, e5, e6⟩ := at_44 (k := a + 1) (j := j) (by omega) (by omega)
    rw [F_Model_exchange_32, if_neg (kNGE 44 44 rfl (by omega) (by omega)), e1, if_neg e2, e3, e4, bnd_eq, if_neg e5, e6, bnd_eq, bnd_eq, q1, q2, show nI j + (1 : Int32) = nI (j + 1) from nI_1 j]
    exact f1
theorem mo_exch {m : Mem} {a : Nat} (ha : a + 1 < 16) : ∃ m', F_Model_exchange m (nI a) = some m' ∧ m' 21 a = m 21 (a + 1) ∧ m' 21 (a + 1) = m 21 a ∧ (∀ i, i < 44 → m' 22 (44 * a + i) = m 22 (44 * (a + 1) + i) ∧ m' 22 (44 * (a + 1) + i) = m 22 (44 * a + i)) ∧ CH (fun x y => (x = 21 ∧ (y = a ∨ y = a + 1)) ∨ (x = 22 ∧ 44 * a ≤ y ∧ y < 44 * a + 88)) m m' := by
  have c1 : CH (fun x y => x = 21 ∧ (y = a ∨ y = a + 1)) m (put (put m 21 a (m 21 (a + 1))) 21 (a + 1) (m 21 a)) := (CH.rf.put (by omega) _).put (by omega) _
  obtain ⟨m2, f1, f2, f3⟩ := mo_x32 (f := fun i => m 22 (44 * a + i)) (g := fun i => m 22 (44 * (a + 1) + i)) ha 44 300 0 (put (put m 21 a (m 21 (a + 1))) 21 (a + 1) (m 21 a)) (by omega) (by omega) (fun i hi => absurd hi (by omega)) (fun i _ _ => ⟨c1 _ _ (by omega), c1 _ _ (by omega)⟩)
  refine ⟨m2, ?_, ?_, ?_, f2, (c1.mo (fun k j q => by omega)).tr (f3.mo (fun k j q => by omega))⟩
  · unfold F_Model_exchange
    rw [nI_1, if_neg (show ¬ (nI a < 0 ∨ ln 21 ≤ (nI a).toNatClampNeg) from nI_in (N := 16) (by omega) (by decide)), bnd_eq, if_neg (show ¬ (nI (a + 1) < 0 ∨ ln 21 ≤ (nI (a + 1)).toNatClampNeg) from nI_in (N := 16) ha (by decide)), nI_clamp (by omega), nI_clamp (by omega), bnd_eq, bnd_eq, show (0 : Int32) = nI 0 from nI_0.symm]
    exact f1
  · rw [f3 21 a (by omega), put_at, if_pos rfl, if_neg (by omega), put_at, if_pos rfl, if_pos rfl]
  · rw [f3 21 (a + 1) (by omega), put_at, if_pos rfl, if_pos rfl]
def τX (a i : Nat) : Nat := if i = a then a + 1 else if i = a + 1 then a else i
def swp (a : Nat) (ps : List (List Int32)) : List (List Int32) := (ps.set a (ps.getD (a + 1) [])).set (a + 1) (ps.getD a [])
theorem swp_len (a : Nat) (ps : List (List Int32)) : (swp a ps).length = ps.length := by simp [swp]
theorem swp_get {a : Nat} {ps : List (List Int32)} (ha : a + 1 < ps.length) (i : Nat) : (swp a ps).getD i [] = ps.getD (τX a i) [] := by
  unfold swp τX
  by_cases h1 : i = a
  · rw [if_pos h1, h1, List.getD_eq_getElem?_getD, List.getElem?_set_ne (by omega), List.getElem?_set_self (by omega)]
    rfl
  · rw [if_neg h1]
    by_cases h2 : i = a + 1
    · rw [if_pos h2, h2, List.getD_eq_getElem?_getD, List.getElem?_set_self (by simpa using ha)]
      rfl
    · rw [if_neg h2, List.getD_eq_getElem?_getD, List.getElem?_set_ne (by omega), List.getElem?_set_ne (by omega), List.getD_eq_getElem?_getD]
section D2
variable {m : Mem} {ps : List (List Int32)} {π : Nat → Nat}
theorem LC.exch (hl : ps.length ≤ 8) (h : LC m ps π) {a : Nat} (ha : a + 1 < ps.length) : ∃ m' π', F_Wire_exchange m (nI a) = some ((1 : Int32), m') ∧ LC m' (swp a ps) π' ∧ CH (fun x y => x = 8) m m' := by
  obtain ⟨d1, d2⟩ := h.id (k := a) (by omega)
  obtain ⟨d3, d4⟩ := h.id (k := a + 1) (by omega)
  have v1 := (h.2.1 a (by omega)).2
  have v2 := (h.2.1 (a + 1) (by omega)).2
  have l8 : ln 8 = 8 := rfl
  have c1 : CH (fun x y => x = 8) m (put (put m 8 a (nI (25 + 2 * π (a + 1)))) 8 (a + 1) (nI (25 + 2 * π a))) := (CH.put (P := fun x _ => x = 8) CH.rf rfl _).put rfl _
  refine ⟨_, fun i => π (τX a i), ?_, h.perm (qs := swp a ps) (c1.mo (fun x y q => by omega)) (by rw [c1 7 1 (by omega), swp_len]; exact h.1) (fun i hi => ?_) (fun i j hi hj e => ?_) (fun i hi => ?_) (by rw [swp_len]; exact hl) (fun i hi => ?_), c1⟩
  · unfold F_Wire_exchange
    rw [wi_at hl h (by omega), rd_some, om_so, gp_pos d2, nI_1, if_pos (by rw [h.1]; exact nI_lt ha (by omega)), if_neg (nI_in (by omega) (by omega)), nI_clamp (by omega), d3, gp_pos d4, if_neg (nI_in (by omega) (by omega)), nI_clamp (by omega), bnd_eq, bnd_eq]
  · unfold τX
    repeat' split
    all_goals omega
  · unfold τX at e
    repeat' split at e
    all_goals omega
  · rw [put_at, if_pos rfl]
    unfold τX
    by_cases q1 : i = a + 1
    · rw [if_pos q1, if_neg (by omega), if_pos q1]
      exact v1.symm
    · rw [if_neg q1, put_at, if_pos rfl]
      by_cases q2 : i = a
      · rw [if_pos q2, if_pos q2]
        exact v2.symm
      · rw [if_neg q2, if_neg q2, if_neg q1]
  · rw [swp_len] at hi
    refine ⟨?_, swp_get ha i⟩
    unfold τX
    repeat' split
    all_goals omega
theorem LM.exch (hl : ps.length ≤ 8) (h : LM m ps) {a : Nat} (ha : a + 1 < ps.length) : ∃ m', F_Model_exchange m (nI a) = some m' ∧ LM m' (swp a ps) ∧ CH (fun x y => (x = 21 ∧ y < 8) ∨ (x = 22 ∧ y < 352)) m m' := by
  obtain ⟨m1, g1, g2, g3, g4, g5⟩ := mo_exch (m := m) (a := a) (by omega)
  refine ⟨m1, g1, ⟨by rw [g5 17 10 (by omega), swp_len]; exact h.1, fun i hi => ?_⟩, g5.mo (fun x y q => by omega)⟩
  rw [swp_len] at hi
  rw [swp_get ha]
  unfold τX
  by_cases q1 : i = a
  · subst q1
    rw [if_pos rfl]
    exact SR.copied (h.2 (i + 1) ha) g2 (fun x hx => (g4 x hx).1)
  · rw [if_neg q1]
    by_cases q2 : i = a + 1
    · subst q2
      rw [if_pos rfl]
      exact SR.copied (h.2 a (by omega)) g3 (fun x hx => (g4 x hx).2)
    · rw [if_neg q2]
      have s := h.2 i hi
      have s44 := s.2.1
      rw [g5 21 i (by omega)]
      exact s.congr (fun x hx => g5 _ _ (by omega))
theorem swp_B (h : LB ps) {a : Nat} (ha : a + 1 < ps.length) : LB (swp a ps) := by
  unfold swp
  exact (h.set (h.mem ha)).set (h.mem (by omega))
theorem LC.newp (hl : ps.length < 8) (h : LC m ps π) : F_Wire_append m = some (some (25 + 2 * π ps.length), put (put m (25 + 2 * π ps.length) 1 0) 7 1 (nI (ps.length + 1))) := by
  obtain ⟨d1, d2⟩ := h.id hl
  have hp := (h.2.1 _ hl).1
  unfold F_Wire_append F_Packet_clear
  rw [h.1, if_pos (kLT 8 8 rfl hl (by decide)), if_neg (show ¬ (nI ps.length < 0 ∨ ln 8 ≤ (nI ps.length).toNatClampNeg) from nI_in (N := 8) hl (by decide)), nI_clamp (by omega), d1, gp_pos d2, bnd_eq, rd_some, bnd_eq]
  rw [show put m (25 + 2 * π ps.length) 1 0 7 1 = m 7 1 by rw [put_at, if_neg (by omega)], h.1, nI_1]
theorem LC.full (hl : ps.length = 8) (h : LC m ps π) : F_Wire_append m = some (none, m) := by
  unfold F_Wire_append
  rw [h.1, hl, if_neg (by decide)]
end D2
section D3
variable {m : Mem}
theorem di_bad {ps : List (List Int32)} (lm : LM m ps) {k : Int32} (hk : k < 0 ∨ nI ps.length ≤ k) (w : Int32) : F_Model_disturb m k w = some ((0 : Int32), m) := by
  unfold F_Model_disturb
  by_cases h0 : k < 0
  · rw [if_pos h0]
  · rcases hk with q | q
    · exact absurd q h0
    · rw [if_neg h0, if_pos (by rw [lm.1]; exact q)]
theorem di_go {ps : List (List Int32)} (hl : ps.length ≤ 8) (lm : LM m ps) {a : Nat} (ha : a < ps.length) (w : Int32) : F_Model_disturb m (nI a) w = if w < 0 then some ((0 : Int32), m) else if w ≤ (3 : Int32) then (if w = (1 : Int32) then (if nI a + (1 : Int32) = m 17 10 then some ((0 : Int32), m) else F_Model_disturb_38 m (nI a) w) else F_Model_disturb_38 m (nI a) w) else some ((0 : Int32), m) := by
  unfold F_Model_disturb
  rw [if_neg (nI_pos (by omega)), if_neg (by rw [lm.1]; exact nI_ge ha (by omega))]
theorem st_disturb (h : Inv m) (k w : Int32) : Step m (F_Gate_disturb m k w) (fun m1 => F_Model_disturb m1 k w) := by
  obtain ⟨i1, i2, i3, ⟨ps, π, lb, lc, lm⟩, i5, i6, i8⟩ := id h
  have lb1 := lb.1
  by_cases w0 : w = 0
  · subst w0
    rcases kx k ps.length lb.1 with hk | ⟨a, ha, rfl⟩
    · refine ⟨0, m, m, ?_, di_bad lm hk _, h⟩
      unfold F_Gate_disturb F_Wire_lose
      rw [if_pos rfl, wi_no lc hk, rd_some, om_no, cal_some, gp_pos (by decide)]
    · obtain ⟨m1, π', g1, g2, g3⟩ := lc.lose lb.1 ha
      have lm1 : LM m1 ps := lm.cg lb.1 g3 (fun x y q => by omega)
      obtain ⟨m2, f1, f2, f3⟩ := lm1.rem lb.1 ha
      have c : CH (fun x y => (x = 7 ∧ y = 1) ∨ x = 8 ∨ (x = 17 ∧ y = 10) ∨ (x = 21 ∧ y < 8) ∨ (x = 22 ∧ y < 352)) m m2 := (g3.mo (fun x y q => by omega)).tr (f3.mo (fun x y q => by omega))
      refine ⟨1, m1, m2, ?_, ?_, i1.cg c (fun x y q => by omega), i2.cg c (fun x y q => by omega), i3.cg c (fun x y q => by omega), ⟨ps.eraseIdx a, π', lb.er a, g2.cg (lb.er a).1 f3 (fun x y q => by omega), f2⟩, i5.cg c (fun x y q => by omega), i6.cg c (fun x y q => by omega), i8.cg c (fun x y q => by omega)⟩
      · unfold F_Gate_disturb
        rw [if_pos rfl, g1, cal_some, gp_pos (by decide)]
      · show F_Model_disturb m1 (nI a) 0 = _
        rw [di_go lb.1 lm1 ha, if_neg (by decide), if_pos (by decide), if_neg (by decide)]
        unfold F_Model_disturb_38 F_Model_disturb_52 F_Model_disturb_68
        rw [if_neg (by decide), if_neg (by decide), if_pos rfl, f1, rd_some]
  · by_cases w1 : w = 1
    · subst w1
      rcases kx k ps.length lb.1 with hk | ⟨a, ha, rfl⟩
      · refine ⟨0, m, m, ?_, di_bad lm hk _, h⟩
        unfold F_Gate_disturb F_Wire_exchange
        rw [if_neg w0, if_pos rfl, wi_no lc hk, rd_some, om_no, cal_some, gp_pos (by decide)]
      · by_cases hx : a + 1 < ps.length
        · obtain ⟨m1, π', g1, g2, g3⟩ := lc.exch lb.1 hx
          have lm1 : LM m1 ps := lm.cg lb.1 g3 (fun x y q => by omega)
          obtain ⟨m2, f1, f2, f3⟩ := lm1.exch lb.1 hx
          have c : CH (fun x y => x = 8 ∨ (x = 21 ∧ y < 8) ∨ (x = 22 ∧ y < 352)) m m2 := (g3.mo (fun x y q => by omega)).tr (f3.mo (fun x y q => by omega))
          refine ⟨1, m1, m2, ?_, ?_, i1.cg c (fun x y q => by omega), i2.cg c (fun x y q => by omega), i3.cg c (fun x y q => by omega), ⟨swp a ps, π', swp_B lb hx, g2.cg (by rw [swp_len]; exact lb.1) f3 (fun x y q => by omega), f2⟩, i5.cg c (fun x y q => by omega), i6.cg c (fun x y q => by omega), i8.cg c (fun x y q => by omega)⟩
          · unfold F_Gate_disturb
            rw [if_neg w0, if_pos rfl, g1, cal_some, gp_pos (by decide)]
          · show F_Model_disturb m1 (nI a) 1 = _
            rw [di_go lb.1 lm1 ha, if_neg (by decide), if_pos (by decide), if_pos rfl, if_neg (by rw [lm1.1, nI_1, nI_eq (by omega) (by omega)]; omega)]
            unfold F_Model_disturb_38 F_Model_disturb_52 F_Model_disturb_68
            rw [if_neg (by decide), if_neg (by decide), if_neg (by decide), if_pos rfl, f1, rd_some]
        · refine ⟨0, m, m, ?_, ?_, h⟩
          · unfold F_Gate_disturb F_Wire_exchange
            rw [if_neg w0, if_pos rfl, wi_at lb.1 lc ha, rd_some, om_so, gp_pos (lc.id (by omega)).2, if_neg (by rw [lc.1, nI_1]; exact nI_nlt (by omega) (by omega)), cal_some, gp_pos (by decide)]
          · show F_Model_disturb m (nI a) 1 = _
            rw [di_go lb.1 lm ha, if_neg (by decide), if_pos (by decide), if_pos rfl, if_pos (by rw [lm.1, nI_1, nI_eq (by omega) (by omega)]; omega)]
    · by_cases w2 : w = 2
      · subst w2
        rcases kx k ps.length lb.1 with hk | ⟨a, ha, rfl⟩
        · refine ⟨0, m, m, ?_, di_bad lm hk _, h⟩
          unfold F_Gate_disturb F_Wire_repeat
          rw [if_neg w0, if_neg w1, if_pos rfl, wi_no lc hk, rd_some, om_no, cal_some, gp_pos (by decide)]
        · by_cases hx : ps.length < 8
          · have pa := (lc.2.1 a (by omega)).1
            have pl := (lc.2.1 ps.length hx).1
            have pne : π ps.length ≠ π a := fun q => by
              have := lc.2.2.1 _ _ hx (by omega) q
              omega
            obtain ⟨p1, p2⟩ := lc.pk lb.1 ha
            have c1 : CH (fun x y => (x = 25 + 2 * π ps.length ∧ y = 1) ∨ (x = 7 ∧ y = 1)) m (put (put m (25 + 2 * π ps.length) 1 0) 7 1 (nI (ps.length + 1))) := (CH.rf.put (by omega) _).put (by omega) _
            have p2' : SR (put (put m (25 + 2 * π ps.length) 1 0) 7 1 (nI (ps.length + 1)) (25 + 2 * π a) 1) (put (put m (25 + 2 * π ps.length) 1 0) 7 1 (nI (ps.length + 1)) (25 + 2 * π a + 1)) 44 (ps.getD a []) := by
              rw [c1 _ 1 (by omega)]
              exact p2.congr (fun j _ => c1 _ _ (by omega))
            obtain ⟨m1, g1, g2, g3⟩ := pk_copy (t := 25 + 2 * π ps.length) (lc.id hx).2 p1 (by omega) (by omega) p2'
            have c2 : CH (fun x y => (x = 7 ∧ y = 1) ∨ (x = 25 + 2 * π ps.length ∧ y = 1) ∨ x = 26 + 2 * π ps.length) m m1 := (c1.mo (fun x y q => by omega)).tr (g3.mo (fun x y q => by omega))
            have lc1 : LC m1 (ps ++ [ps.getD a []]) π := lc.app hx c2 (by rw [g3 7 1 (by omega)]; simp [put_at]) (by rw [show 26 + 2 * π ps.length = 25 + 2 * π ps.length + 1 by omega]; exact g2)
            have lm1 : LM m1 ps := lm.cg lb.1 c2 (fun x y q => by omega)
            obtain ⟨m2, f1, f2, f3, f4⟩ := mo_copy (m := m1) (a := a) (b := ps.length) (by omega) (by omega) (by omega)
            have e10 : m2 17 10 + 1 = nI (ps.length + 1) := by rw [f4 17 10 (by omega), lm1.1, nI_1]
            have c3 : CH (fun x y => (x = 17 ∧ y = 10) ∨ (x = 21 ∧ y = ps.length) ∨ (x = 22 ∧ 44 * ps.length ≤ y ∧ y < 44 * ps.length + 44)) m1 (put m2 17 10 (nI (ps.length + 1))) := (f4.mo (fun x y q => by omega)).put (by omega) _
            have c : CH (fun x y => (x = 7 ∧ y = 1) ∨ (x = 25 + 2 * π ps.length ∧ y = 1) ∨ x = 26 + 2 * π ps.length ∨ (x = 17 ∧ y = 10) ∨ (x = 21 ∧ y < 8) ∨ (x = 22 ∧ y < 352)) m (put m2 17 10 (nI (ps.length + 1))) := (c2.mo (fun x y q => by omega)).tr (c3.mo (fun x y q => by omega))
            have lb' := lb.app hx (lb.mem ha)
            refine ⟨1, m1, put m2 17 10 (nI (ps.length + 1)), ?_, ?_, i1.cg c (fun x y q => by omega), i2.cg c (fun x y q => by omega), i3.cg c (fun x y q => by omega), ⟨ps ++ [ps.getD a []], π, lb', lc1.cg lb'.1 c3 (fun x y q => by omega), ?_⟩, i5.cg c (fun x y q => by omega), i6.cg c (fun x y q => by omega), i8.cg c (fun x y q => by omega)⟩
            · unfold F_Gate_disturb F_Wire_repeat
              rw [if_neg w0, if_neg w1, if_pos rfl, wi_at lb.1 lc ha, rd_some, om_so, gp_pos p1, lc.newp hx, cal_some, om_so, gp_pos (lc.id hx).2, g1, rd_some, cal_some, gp_pos (by decide)]
            · show F_Model_disturb m1 (nI a) 2 = _
              rw [di_go lb.1 lm1 ha, if_neg (by decide), if_pos (by decide), if_neg (by decide)]
              unfold F_Model_disturb_38 F_Model_disturb_52 F_Model_disturb_68
              rw [if_pos rfl, if_neg (by rw [lm1.1, kEQ 8 8 rfl (by omega) (by decide)]; omega), if_neg (by decide), if_neg (by decide), if_neg (by decide), if_pos rfl, lm1.1, f1, rd_some, e10, bnd_eq]
            · refine lm1.app c3 (by simp [put_at]) ?_
              have c4 : CH (fun x y => x = 17) m2 (put m2 17 10 (nI (ps.length + 1))) := CH.put (P := fun x _ => x = 17) CH.rf rfl _
              have s := SR.copied (lm1.2 a ha) f2 f3
              rw [c4 21 _ (by omega)]
              exact s.congr (fun x _ => c4 _ _ (by omega))
          · have h8 : ps.length = 8 := by omega
            refine ⟨0, m, m, ?_, ?_, h⟩
            · unfold F_Gate_disturb F_Wire_repeat
              rw [if_neg w0, if_neg w1, if_pos rfl, wi_at lb.1 lc ha, rd_some, om_so, gp_pos (lc.id (by omega)).2, lc.full h8, cal_some, om_no, cal_some, gp_pos (by decide)]
            · show F_Model_disturb m (nI a) 2 = _
              rw [di_go lb.1 lm ha, if_neg (by decide), if_pos (by decide), if_neg (by decide)]
              unfold F_Model_disturb_38
              rw [if_pos rfl, if_pos (by rw [lm.1, h8]; rfl)]
      · by_cases w3 : w = 3
        · subst w3
          rcases kx k ps.length lb.1 with hk | ⟨a, ha, rfl⟩
          · refine ⟨0, m, m, ?_, di_bad lm hk _, h⟩
            unfold F_Gate_disturb F_Wire_shorten
            rw [if_neg w0, if_neg w1, if_neg w2, if_pos rfl, wi_no lc hk, rd_some, om_no, cal_some, gp_pos (by decide)]
          · obtain ⟨p1, p2⟩ := lc.pk lb.1 ha
            have pa := (lc.2.1 a (by omega)).1
            have hs := lm.2 a ha
            have h44 := hs.2.1
            by_cases hz : (ps.getD a []).length = 0
            · refine ⟨0, m, m, ?_, ?_, h⟩
              · unfold F_Gate_disturb F_Wire_shorten F_Packet_cutLast
                rw [if_neg w0, if_neg w1, if_neg w2, if_pos rfl, wi_at lb.1 lc ha, rd_some, om_so, gp_pos p1, if_pos (by rw [p2.1, hz]; rfl), cal_some, if_pos rfl, cal_some, gp_pos (by decide)]
              · show F_Model_disturb m (nI a) 3 = _
                rw [di_go lb.1 lm ha, if_neg (by decide), if_pos (by decide), if_neg (by decide)]
                unfold F_Model_disturb_38 F_Model_disturb_52
                rw [if_neg (by decide), if_pos rfl, if_neg (show ¬ (nI a < 0 ∨ ln 21 ≤ (nI a).toNatClampNeg) from nI_in (N := 16) (by omega) (by decide)), nI_clamp (by omega), if_pos (by rw [hs.1, hz]; rfl)]
            · have e1 : m (25 + 2 * π a) 1 - 1 = nI ((ps.getD a []).length - 1) := by rw [p2.1, show (1 : Int32) = nI 1 from rfl, pk_sub (by omega)]
              have c1 : CH (fun x y => x = 25 + 2 * π a ∧ y = 1) m (put m (25 + 2 * π a) 1 (nI ((ps.getD a []).length - 1))) := CH.rf.put ⟨rfl, rfl⟩ _
              have lm1 : LM (put m (25 + 2 * π a) 1 (nI ((ps.getD a []).length - 1))) ps := lm.cg lb.1 c1 (fun x y q => by omega)
              have hs1 := lm1.2 a ha
              have e2 : put m (25 + 2 * π a) 1 (nI ((ps.getD a []).length - 1)) 21 a - 1 = nI ((ps.getD a []).length - 1) := by rw [hs1.1, show (1 : Int32) = nI 1 from rfl, pk_sub (by omega)]
              have c2 : CH (fun x y => x = 21 ∧ y = a) (put m (25 + 2 * π a) 1 (nI ((ps.getD a []).length - 1))) (put (put m (25 + 2 * π a) 1 (nI ((ps.getD a []).length - 1))) 21 a (nI ((ps.getD a []).length - 1))) := CH.rf.put ⟨rfl, rfl⟩ _
              have c : CH (fun x y => (x = 25 + 2 * π a ∧ y = 1) ∨ (x = 21 ∧ y = a)) m (put (put m (25 + 2 * π a) 1 (nI ((ps.getD a []).length - 1))) 21 a (nI ((ps.getD a []).length - 1))) := (c1.mo (fun x y q => by omega)).tr (c2.mo (fun x y q => by omega))
              have tb : ∀ b ∈ (ps.getD a []).take ((ps.getD a []).length - 1), IsB b := fun b hb => lb.mem ha b (List.mem_of_mem_take hb)
              refine ⟨1, put m (25 + 2 * π a) 1 (nI ((ps.getD a []).length - 1)), put (put m (25 + 2 * π a) 1 (nI ((ps.getD a []).length - 1))) 21 a (nI ((ps.getD a []).length - 1)), ?_, ?_, i1.cg c (fun x y q => by omega), i2.cg c (fun x y q => by omega), i3.cg c (fun x y q => by omega), ⟨ps.set a ((ps.getD a []).take ((ps.getD a []).length - 1)), π, lb.set tb, ?_, ?_⟩, i5.cg c (fun x y q => by omega), i6.cg c (fun x y q => by omega), i8.cg c (fun x y q => by omega)⟩
              · unfold F_Gate_disturb F_Wire_shorten F_Packet_cutLast
                rw [if_neg w0, if_neg w1, if_neg w2, if_pos rfl, wi_at lb.1 lc ha, rd_some, om_so, gp_pos p1, if_neg (by rw [p2.1]; exact nI_ne0 (by omega) (by omega)), e1, bnd_eq, cal_some, if_neg (by decide), cal_some, gp_pos (by decide)]
              · show F_Model_disturb _ (nI a) 3 = _
                rw [di_go lb.1 lm1 ha, if_neg (by decide), if_pos (by decide), if_neg (by decide)]
                unfold F_Model_disturb_38 F_Model_disturb_52 F_Model_disturb_68
                have g0 : ¬ (nI a < 0 ∨ ln 21 ≤ (nI a).toNatClampNeg) := nI_in (N := 16) (by omega) (by decide)
                rw [if_neg (by decide), if_pos rfl, if_neg g0, nI_clamp (by omega), if_neg (by rw [hs1.1]; exact nI_ne0 (by omega) (by omega)), if_neg (by decide), if_neg (by decide), if_neg (by decide), if_neg (by rw [nI_clamp (by omega)] at g0; exact g0), e2, bnd_eq]
              · have l1 : LC (put m (25 + 2 * π a) 1 (nI ((ps.getD a []).length - 1))) (ps.set a ((ps.getD a []).take ((ps.getD a []).length - 1))) π := by
                  refine lc.upd lb.1 ha (c1.mo (fun x y q => by omega)) ?_
                  rw [show put m (25 + 2 * π a) 1 (nI ((ps.getD a []).length - 1)) (25 + 2 * π a) 1 = nI ((ps.getD a []).length - 1) by simp [put_at], put_ne _ _ _ (by omega)]
                  have := lc.2.2.2 a ha
                  exact this.cut (by omega)
                exact l1.cg (by simpa using lb.1) c2 (fun x y q => by omega)
              · refine lm1.upd ha (c2.mo (fun x y q => by omega)) ?_
                rw [show put (put m (25 + 2 * π a) 1 (nI ((ps.getD a []).length - 1))) 21 a (nI ((ps.getD a []).length - 1)) 21 a = nI ((ps.getD a []).length - 1) by simp [put_at]]
                exact (hs1.cut (by omega)).congr (fun x _ => c2 _ _ (by omega))
        · refine ⟨0, m, m, ?_, ?_, h⟩
          · unfold F_Gate_disturb
            rw [if_neg w0, if_neg w1, if_neg w2, if_neg w3]
          · show F_Model_disturb m k w = _
            rcases kx k ps.length lb.1 with hk | ⟨a, ha, rfl⟩
            · exact di_bad lm hk _
            · rw [di_go lb.1 lm ha]
              by_cases q0 : w < 0
              · rw [if_pos q0]
              · have q3 : ¬ w ≤ (3 : Int32) := fun q => by
                  obtain ⟨j, hj, rfl⟩ := nI_of2 (M := 3) (n := 3) rfl q0 q
                  rcases (show j = 0 ∨ j = 1 ∨ j = 2 ∨ j = 3 by omega) with rfl | rfl | rfl | rfl
                  · exact w0 rfl
                  · exact w1 rfl
                  · exact w2 rfl
                  · exact w3 rfl
                rw [if_neg q0, if_neg q3]
end D3
