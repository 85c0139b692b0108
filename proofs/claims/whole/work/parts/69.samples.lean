-- THE SAMPLES OF A PACKET
def sv (p : List Int32) (i : Nat) : Int32 := if p2N p i ≤ 32767 then nI (p2N p i) else nI (p2N p i) - 65536
def nib (p : List Int32) (i : Nat) : Nat := if i % 2 = 0 then (p.getD (16 + i / 2) 0).toNatClampNeg / 16 else (p.getD (16 + i / 2) 0).toNatClampNeg % 16
def adS (p : List Int32) : Nat → Int32 × Int32
  | 0 => (sv p 12, p.getD 14 0)
  | i + 1 => (nv (adS p i).1 (tb_STEPS (adS p i).2.toNatClampNeg) (nib p i), nx (adS p i).2 (nib p i))
def smp (p : List Int32) (i : Nat) : Int32 := if codN p = 3 then sv p (12 + 2 * i) else if codN p = 2 then (adS p (i + 1)).1 else decI (codN p) (p.getD (12 + i) 0)
def spl (p : List Int32) (n : Nat) : List Int32 := (List.range n).map (smp p)
theorem spl_s (p : List Int32) (n : Nat) : spl p (n + 1) = spl p n ++ [smp p n] := by simp [spl, List.range_succ]
theorem spl_len (p : List Int32) (n : Nat) : (spl p n).length = n := by simp [spl]
theorem spl_at (p : List Int32) {n j : Nat} (h : j < n) : (spl p n).getD j 0 = smp p j := by simp [spl, List.getD_eq_getElem?_getD, h]
theorem sv_S {p : List Int32} {i : Nat} (h : p2N p i < 65536) : IsS (sv p i) := by
  unfold sv IsS
  by_cases q : p2N p i ≤ 32767
  · rw [if_pos q, nI_toInt (by omega)]
    omega
  · rw [if_neg q, show (65536 : Int32) = nI 65536 from rfl, pk_sub_toInt (by omega) (by decide)]
    omega
theorem nib_16 {p : List Int32} (hb : ∀ b ∈ p, IsB b) {i : Nat} (h : 16 + i / 2 < p.length) : nib p i < 16 := by
  have := (getB hb h).2
  unfold nib
  split <;> omega
theorem okP_cases {p : List Int32} (h : okP p) : smN p ≤ 16 ∧ 0 < smN p ∧ ((codN p = 3 ∧ p.length = 12 + 2 * smN p) ∨ ((codN p = 0 ∨ codN p = 1) ∧ p.length = 12 + smN p) ∨ (codN p = 2 ∧ p.length = 16 + smN p / 2 ∧ smN p % 2 = 0 ∧ (p.getD 14 0).toNatClampNeg ≤ 88)) := by
  have h0 := h.2.2
  have h12 := okP_len h
  generalize hn : smN p = n at h0 ⊢
  unfold smN at hn
  have hA : ¬ (p.length ≤ 12 ∨ ¬ p.getD 0 0 = 128) := fun z => h0 (by rw [if_pos z] at hn; omega)
  rw [if_neg hA] at hn
  rcases codN_cases p with q | q | q | q | q
  · rw [q, if_neg (by decide), if_neg (by decide), if_neg (by decide)] at hn
    rw [q]
    split at hn
    · exact ⟨by omega, by omega, Or.inr (Or.inl ⟨Or.inl rfl, by omega⟩)⟩
    · omega
  · rw [q, if_neg (by decide), if_neg (by decide), if_neg (by decide)] at hn
    rw [q]
    split at hn
    · exact ⟨by omega, by omega, Or.inr (Or.inl ⟨Or.inr rfl, by omega⟩)⟩
    · omega
  · rw [q, if_neg (by decide), if_pos rfl] at hn
    rw [q]
    split at hn
    · rename_i w
      exact ⟨by omega, by omega, Or.inr (Or.inr ⟨rfl, by omega, by omega, w.2.1⟩)⟩
    · omega
  · rw [q, if_pos rfl] at hn
    rw [q]
    split at hn
    · exact ⟨by omega, by omega, Or.inl ⟨rfl, by omega⟩⟩
    · omega
  · rw [q, if_neg (by decide), if_neg (by decide), if_pos rfl] at hn
    omega
theorem adS_ok {p : List Int32} (ok : okP p) (hc : codN p = 2) : ∀ i, IsS (adS p i).1 ∧ ∃ n, n ≤ 88 ∧ (adS p i).2 = nI n := by
  intro i
  obtain ⟨n1, n2, q | q | q⟩ := okP_cases ok
  · rw [hc] at q
    exact absurd q.1 (by decide)
  · rw [hc] at q
    exact absurd q.1 (by decide)
  · cases i with
    | zero => exact ⟨sv_S (p2_lt ok.2.1 (by omega)), _, q.2.2.2, (getB ok.2.1 (i := 14) (by omega)).1⟩
    | succ i => exact ⟨nv_S _ _ _, nx_88 _ _⟩
theorem smp_S {p : List Int32} (ok : okP p) {i : Nat} (hi : i < smN p) : IsS (smp p i) := by
  obtain ⟨n1, n2, q | q | q⟩ := okP_cases ok
  · unfold smp
    rw [if_pos q.1]
    exact sv_S (p2_lt ok.2.1 (by omega))
  · unfold smp
    have e3 : ¬ codN p = 3 := by rcases q.1 with z | z <;> rw [z] <;> decide
    have e2 : ¬ codN p = 2 := by rcases q.1 with z | z <;> rw [z] <;> decide
    rw [if_neg e3, if_neg e2]
    exact (dec_ok q.1 ⟨_, (getB ok.2.1 (i := 12 + i) (by omega)).2, (getB ok.2.1 (i := 12 + i) (by omega)).1⟩).2.2
  · unfold smp
    rw [if_neg (by rw [q.1]; decide), if_pos q.1]
    exact (adS_ok ok q.1 _).1
theorem spl_S {p : List Int32} (ok : okP p) : ∀ x ∈ spl p (smN p), IsS x := fun x hx => by
  obtain ⟨i, hi, rfl⟩ := List.mem_map.mp hx
  exact smp_S ok (List.mem_range.mp hi)
theorem nb_c : ∀ b, b < 256 → (nI b >>> ((4 : Int32) &&& (31 : Int32))) = nI (b / 16) ∧ (nI b &&& (15 : Int32)) = nI (b % 16) ∧ nI b / (16 : Int32) = nI (b / 16) ∧ nI b - nI b / (16 : Int32) * (16 : Int32) = nI (b % 16) ∧ ((nI b &&& (128 : Int32)) = 0 ↔ b < 128) ∧ (nI b ≤ (127 : Int32) ↔ b < 128) := by decide +kernel
theorem PC.cg {t : Nat} {m m' : Mem} {p : List Int32} {P : Nat → Nat → Prop} (h : PC t m p) (c : CH P m m') (h1 : ¬ P t 1) (h2 : ∀ j, ¬ P (t + 1) j) : PC t m' p := by
  show SR (m' t 1) (m' (t + 1)) 44 p
  rw [c t 1 h1]
  exact h.congr (fun j _ => c _ _ (h2 j))
section RI
variable {t : Nat} {p : List Int32}
theorem sp_at {m : Mem} (ht : kd t = 3) (hp : PC t m p) (hb : ∀ b ∈ p, IsB b) {i : Nat} (hi : i + 1 < p.length) : F_Packet_sampleAt m t (nI i) = some (sv p i) := by
  have hl := p2_lt hb hi
  unfold F_Packet_sampleAt sv
  rw [rd_pair ht hp hb hi, rd_some]
  by_cases q : p2N p i ≤ 32767
  · rw [if_pos (kLE 32767 32767 rfl q (by decide)), if_pos q]
  · rw [if_neg (kNLE 32767 32767 rfl (by omega) (by omega)), if_neg q]
theorem ri_3 (ht : kd t = 3) (h41 : 41 ≤ t) (ok : okP p) (hc : codN p = 3) (hl : p.length = 12 + 2 * smN p) : ∀ (d n i : Nat) (m : Mem), smN p = i + d → d < n → PC t m p → SR (m 5 1) (m (5 + 1)) (ln (5 + 1)) (spl p i) → ∃ m', F_Packet_readInto_33 n m t 5 3 2 (nI (12 + 2 * i)) = some m' ∧ SR (m' 5 1) (m' (5 + 1)) (ln (5 + 1)) (spl p (smN p)) ∧ CH (fun a b => (a = 5 ∧ b = 1) ∨ a = 5 + 1 ∨ a = 12) m m' := by
  have l6 : ln (5 + 1) = 16 := rfl
  have h16 := (okP_cases ok).1
  intro d
  induction d with
  | zero =>
    intro n i m e hn hp hx
    obtain ⟨n, rfl⟩ : ∃ q, n = q + 1 := ⟨n - 1, by omega⟩
    refine ⟨m, ?_, by rw [show smN p = i by omega]; exact hx, CH.rf⟩
    rw [F_Packet_readInto_33, hp.1, show nI (12 + 2 * i) + (2 : Int32) = nI (12 + 2 * i + 2) from nI_add _ 2, if_pos (nI_lt (by omega) (by omega))]
  | succ d ih =>
    intro n i m e hn hp hx
    obtain ⟨n, rfl⟩ : ∃ q, n = q + 1 := ⟨n - 1, by omega⟩
    have es : smp p i = sv p (12 + 2 * i) := by
      unfold smp
      rw [if_pos hc]
    obtain ⟨m1, g1, g2, g3⟩ := sa_add hx (by decide) (by rw [spl_len, l6]; omega) (smp p i)
    rw [← spl_s] at g2
    have c1 : CH (fun a b => (a = 5 ∧ b = 1) ∨ a = 5 + 1 ∨ a = 12) m m1 := g3.mo (fun x y q => by omega)
    obtain ⟨m2, f1, f2, f3⟩ := ih n (i + 1) m1 (by omega) (by omega) (hp.cg c1 (by omega) (fun j => by omega)) g2
    refine ⟨m2, ?_, f2, c1.tr f3⟩
    rw [F_Packet_readInto_33, hp.1, show nI (12 + 2 * i) + (2 : Int32) = nI (12 + 2 * i + 2) from nI_add _ 2, if_neg (nI_nlt (by omega) (by omega)), if_pos rfl, sp_at ht hp ok.2.1 (by omega), rd_some, ← es, g1, rd_some, bnd_eq, show 12 + 2 * i + 2 = 12 + 2 * (i + 1) by omega]
    exact f1
theorem ri_1 (ht : kd t = 3) (h41 : 41 ≤ t) (ok : okP p) (hc : codN p = 0 ∨ codN p = 1) (hl : p.length = 12 + smN p) : ∀ (d n i : Nat) (m : Mem), smN p = i + d → d < n → PC t m p → SR (m 5 1) (m (5 + 1)) (ln (5 + 1)) (spl p i) → ∃ m', F_Packet_readInto_33 n m t 5 (codN p) 1 (nI (12 + i)) = some m' ∧ SR (m' 5 1) (m' (5 + 1)) (ln (5 + 1)) (spl p (smN p)) ∧ CH (fun a b => (a = 5 ∧ b = 1) ∨ a = 5 + 1 ∨ a = 12) m m' := by
  have l6 : ln (5 + 1) = 16 := rfl
  have lt := ln_byt ht
  have h16 := (okP_cases ok).1
  have e3 : ¬ codN p = 3 := by rcases hc with z | z <;> rw [z] <;> decide
  have e2 : ¬ codN p = 2 := by rcases hc with z | z <;> rw [z] <;> decide
  intro d
  induction d with
  | zero =>
    intro n i m e hn hp hx
    obtain ⟨n, rfl⟩ : ∃ q, n = q + 1 := ⟨n - 1, by omega⟩
    refine ⟨m, ?_, by rw [show smN p = i by omega]; exact hx, CH.rf⟩
    rw [F_Packet_readInto_33, hp.1, nI_1, if_pos (nI_lt (by omega) (by omega))]
  | succ d ih =>
    intro n i m e hn hp hx
    obtain ⟨n, rfl⟩ : ∃ q, n = q + 1 := ⟨n - 1, by omega⟩
    obtain ⟨b1, b2⟩ := getB ok.2.1 (i := 12 + i) (by omega)
    have es : smp p i = decI (codN p) (p.getD (12 + i) 0) := by
      unfold smp
      rw [if_neg e3, if_neg e2]
    obtain ⟨m1, g1, g2, g3⟩ := sa_add hx (by decide) (by rw [spl_len, l6]; omega) (smp p i)
    rw [← spl_s] at g2
    have c1 : CH (fun a b => (a = 5 ∧ b = 1) ∨ a = 5 + 1 ∨ a = 12) m m1 := g3.mo (fun x y q => by omega)
    obtain ⟨m2, f1, f2, f3⟩ := ih n (i + 1) m1 (by omega) (by omega) (hp.cg c1 (by omega) (fun j => by omega)) g2
    refine ⟨m2, ?_, f2, c1.tr f3⟩
    rw [F_Packet_readInto_33, hp.1, nI_1, if_neg (nI_nlt (by omega) (by omega)), if_neg e3, lt, if_neg (nI_in (by omega) (by decide)), nI_clamp (by omega), hp.2.2 (12 + i) (by omega), (dec_ok hc ⟨_, b2, b1⟩).1, rd_some, ← es, g1, rd_some, bnd_eq, show 12 + i + 1 = 12 + (i + 1) by omega]
    exact f1
theorem ra_20 (ht : kd t = 3) (h41 : 41 ≤ t) (ok : okP p) (hc : codN p = 2) (hl : p.length = 16 + smN p / 2) (hev : smN p % 2 = 0) : ∀ (d n j : Nat) (m : Mem), smN p = 2 * (j + d) → d < n → PC t m p → SR (m 5 1) (m (5 + 1)) (ln (5 + 1)) (spl p (2 * j)) → m 12 0 = (adS p (2 * j)).1 → m 12 1 = (adS p (2 * j)).2 → ∃ m', F_Packet_readAdaptive_20 n m t 5 12 (nI (16 + j)) = some m' ∧ SR (m' 5 1) (m' (5 + 1)) (ln (5 + 1)) (spl p (smN p)) ∧ CH (fun a b => (a = 5 ∧ b = 1) ∨ a = 5 + 1 ∨ a = 12) m m' := by
  have l6 : ln (5 + 1) = 16 := rfl
  have lt := ln_byt ht
  have h16 := (okP_cases ok).1
  intro d
  induction d with
  | zero =>
    intro n j m e hn hp hx hv hi
    obtain ⟨n, rfl⟩ : ∃ q, n = q + 1 := ⟨n - 1, by omega⟩
    refine ⟨m, ?_, by rw [show smN p = 2 * j by omega]; exact hx, CH.rf⟩
    rw [F_Packet_readAdaptive_20, hp.1, if_pos (nI_le (by omega) (by omega))]
  | succ d ih =>
    intro n j m e hn hp hx hv hi
    obtain ⟨n, rfl⟩ : ∃ q, n = q + 1 := ⟨n - 1, by omega⟩
    obtain ⟨b1, b2⟩ := getB ok.2.1 (i := 16 + j) (by omega)
    obtain ⟨k1, k2, -⟩ := nb_c _ b2
    rw [← b1] at k1 k2
    have q0 : (p.getD (16 + j) 0).toNatClampNeg / 16 = nib p (2 * j) := by
      unfold nib
      rw [if_pos (by omega), show 16 + 2 * j / 2 = 16 + j by omega]
    have q1 : (p.getD (16 + j) 0).toNatClampNeg % 16 = nib p (2 * j + 1) := by
      unfold nib
      rw [if_neg (by omega), show 16 + (2 * j + 1) / 2 = 16 + j by omega]
    rw [q0] at k1
    rw [q1] at k2
    have n0 : nib p (2 * j) < 16 := nib_16 ok.2.1 (by omega)
    have n1 : nib p (2 * j + 1) < 16 := nib_16 ok.2.1 (by omega)
    have es0 : smp p (2 * j) = (adS p (2 * j + 1)).1 := by
      unfold smp
      rw [if_neg (by rw [hc]; decide), if_pos hc]
    have es1 : smp p (2 * j + 1) = (adS p (2 * j + 1 + 1)).1 := by
      unfold smp
      rw [if_neg (by rw [hc]; decide), if_pos hc]
    obtain ⟨i0, hi0, ei0⟩ := (adS_ok ok hc (2 * j)).2
    obtain ⟨i1, hi1, ei1⟩ := (adS_ok ok hc (2 * j + 1)).2
    have a1 := chg_cls (m := m) (t := 12) n0 (ix_ok (hi.trans ei0) hi0)
    rw [hv, hi] at a1
    obtain ⟨m8, em8⟩ : ∃ z, z = put (put m 12 0 (adS p (2 * j + 1)).1) 12 1 (adS p (2 * j + 1)).2 := ⟨_, rfl⟩
    have a1' : F_Adaptive_changeBy m 12 (nI (nib p (2 * j))) = some m8 := by rw [em8]; exact a1
    have c8 : CH (fun a b => (a = 5 ∧ b = 1) ∨ a = 5 + 1 ∨ a = 12) m m8 := by
      rw [em8]
      exact (CH.rf.put (by omega) _).put (by omega) _
    have v8 : m8 12 0 = (adS p (2 * j + 1)).1 := by rw [em8]; simp [put_at]
    have w8 : m8 12 1 = (adS p (2 * j + 1)).2 := by rw [em8]; simp [put_at]
    have hx8 : SR (m8 5 1) (m8 (5 + 1)) (ln (5 + 1)) (spl p (2 * j)) := by
      rw [em8, put_ne _ _ _ (by decide), put_ne _ _ _ (by decide), put_ne _ _ _ (by decide), put_ne _ _ _ (by decide)]
      exact hx
    obtain ⟨mC, g1, g2, g3⟩ := sa_add hx8 (by decide) (by rw [spl_len, l6]; omega) (smp p (2 * j))
    rw [← spl_s] at g2
    have cC : CH (fun a b => (a = 5 ∧ b = 1) ∨ a = 5 + 1 ∨ a = 12) m mC := c8.tr (g3.mo (fun x y q => by omega))
    have vC : mC 12 0 = (adS p (2 * j + 1)).1 := by rw [g3 12 0 (by omega), v8]
    have wC : mC 12 1 = (adS p (2 * j + 1)).2 := by rw [g3 12 1 (by omega), w8]
    have hpC := hp.cg cC (by omega) (fun j => by omega)
    have a2 := chg_cls (m := mC) (t := 12) n1 (ix_ok (wC.trans ei1) hi1)
    rw [vC, wC] at a2
    obtain ⟨mE, emE⟩ : ∃ z, z = put (put mC 12 0 (adS p (2 * j + 1 + 1)).1) 12 1 (adS p (2 * j + 1 + 1)).2 := ⟨_, rfl⟩
    have a2' : F_Adaptive_changeBy mC 12 (nI (nib p (2 * j + 1))) = some mE := by rw [emE]; exact a2
    have cE : CH (fun a b => (a = 5 ∧ b = 1) ∨ a = 5 + 1 ∨ a = 12) mC mE := by
      rw [emE]
      exact (CH.rf.put (by omega) _).put (by omega) _
    have vE : mE 12 0 = (adS p (2 * j + 1 + 1)).1 := by rw [emE]; simp [put_at]
    have wE : mE 12 1 = (adS p (2 * j + 1 + 1)).2 := by rw [emE]; simp [put_at]
    have hxE : SR (mE 5 1) (mE (5 + 1)) (ln (5 + 1)) (spl p (2 * j + 1)) := by
      rw [emE, put_ne _ _ _ (by decide), put_ne _ _ _ (by decide), put_ne _ _ _ (by decide), put_ne _ _ _ (by decide)]
      exact g2
    obtain ⟨mF, f1, f2, f3⟩ := sa_add hxE (by decide) (by rw [spl_len, l6]; omega) (smp p (2 * j + 1))
    rw [← spl_s] at f2
    have cF : CH (fun a b => (a = 5 ∧ b = 1) ∨ a = 5 + 1 ∨ a = 12) m mF := (cC.tr cE).tr (f3.mo (fun x y q => by omega))
    obtain ⟨mG, r1, r2, r3⟩ := ih n (j + 1) mF (by omega) (by omega) (hp.cg cF (by omega) (fun j => by omega)) (by rw [show 2 * (j + 1) = 2 * j + 1 + 1 by omega]; exact f2) (by rw [f3 12 0 (by omega), vE, show 2 * (j + 1) = 2 * j + 1 + 1 by omega]) (by rw [f3 12 1 (by omega), wE, show 2 * (j + 1) = 2 * j + 1 + 1 by omega])
    refine ⟨mG, ?_, r2, cF.tr r3⟩
    have e1 : F_Adaptive_value m8 12 = some (smp p (2 * j)) := by
      show some (m8 12 0) = _
      rw [v8, es0]
    have e2 : F_Adaptive_value mE 12 = some (smp p (2 * j + 1)) := by
      show some (mE 12 0) = _
      rw [vE, es1]
    rw [F_Packet_readAdaptive_20, hp.1, if_neg (nI_ge (by omega) (by omega)), lt, if_neg (nI_in (by omega) (by decide)), nI_clamp (by omega), hp.2.2 (16 + j) (by omega), k1, a1', rd_some, e1, rd_some, g1, rd_some, hpC.2.2 (16 + j) (by omega), k2, a2', rd_some, e2, rd_some, f1, rd_some, nI_1, show 16 + j + 1 = 16 + (j + 1) by omega]
    exact r1
theorem wi_id {x lo hi : Int32} (h1 : lo ≤ x) (h2 : x ≤ hi) : wi x lo hi = x := by
  unfold wi
  rw [if_pos h1, if_pos h2]
theorem ri_ok {m : Mem} (ht : kd t = 3) (h41 : 41 ≤ t) (ok : okP p) (hp : PC t m p) (hx : SR (m 5 1) (m (5 + 1)) (ln (5 + 1)) []) : ∃ m', F_Packet_readInto m t 5 12 = some m' ∧ SR (m' 5 1) (m' (5 + 1)) (ln (5 + 1)) (spl p (smN p)) ∧ CH (fun a b => (a = 5 ∧ b = 1) ∨ a = 5 + 1 ∨ a = 12) m m' := by
  have h12 := okP_len ok
  have lt := ln_byt ht
  unfold F_Packet_readInto
  rw [rd_cod ht hp ok.2.1 (by omega), rd_some]
  obtain ⟨n1, n2, q | q | q⟩ := okP_cases ok
  · obtain ⟨m', g1, g2, g3⟩ := ri_3 ht h41 ok q.1 q.2 (smN p) 300 0 m (by omega) (by omega) hp hx
    refine ⟨m', ?_, g2, g3⟩
    rw [q.1, if_neg (by decide), if_pos rfl]
    exact g1
  · have e3 : ¬ codN p = 3 := by rcases q.1 with z | z <;> rw [z] <;> decide
    have e2 : ¬ codN p = 2 := by rcases q.1 with z | z <;> rw [z] <;> decide
    obtain ⟨m', g1, g2, g3⟩ := ri_1 ht h41 ok q.1 q.2 (smN p) 300 0 m (by omega) (by omega) hp hx
    refine ⟨m', ?_, g2, g3⟩
    rw [if_neg e2, if_neg e3]
    exact g1
  · obtain ⟨s1, n0, s2, s3⟩ := adS_ok ok q.1 0
    have s1' : IsS (sv p 12) := s1
    have s3' : p.getD 14 0 = nI n0 := s3
    have w1 : wi (sv p 12) (-32768) 32767 = sv p 12 := wi_id (by rw [Int32.le_iff_toInt_le]; exact s1'.1) (by rw [Int32.le_iff_toInt_le]; exact s1'.2)
    have w2 : wi (p.getD 14 0) 0 88 = p.getD 14 0 := by
      rw [s3']
      exact wi_id (nI_pos' (by omega)) (kLE 88 88 rfl s2 (by decide))
    have c1 : CH (fun a b => (a = 5 ∧ b = 1) ∨ a = 5 + 1 ∨ a = 12) m (put (put m 12 0 (sv p 12)) 12 1 (p.getD 14 0)) := (CH.rf.put (by omega) _).put (by omega) _
    have hx1 : SR (put (put m 12 0 (sv p 12)) 12 1 (p.getD 14 0) 5 1) (put (put m 12 0 (sv p 12)) 12 1 (p.getD 14 0) (5 + 1)) (ln (5 + 1)) (spl p (2 * 0)) := by
      rw [put_ne _ _ _ (by decide), put_ne _ _ _ (by decide), put_ne _ _ _ (by decide), put_ne _ _ _ (by decide)]
      exact hx
    obtain ⟨m', g1, g2, g3⟩ := ra_20 ht h41 ok q.1 q.2.1 q.2.2.1 (smN p / 2) 300 0 _ (by omega) (by omega) (hp.cg c1 (by omega) (fun j => by omega)) hx1 (by simp [put_at, adS]) (by simp [put_at, adS])
    refine ⟨m', ?_, g2, c1.tr g3⟩
    rw [q.1, if_pos rfl]
    unfold F_Packet_readAdaptive F_Adaptive_set
    rw [show (12 : Int32) = nI 12 from rfl, sp_at ht hp ok.2.1 (by omega), rd_some, lt, if_neg (by decide), show (14 : Int32).toNatClampNeg = 14 from rfl, hp.2.2 14 (by omega), within_eq, rd_some, bnd_eq, within_eq, rd_some, bnd_eq, w1, w2, rd_some]
    rw [show (16 : Int32) = nI (16 + 0) from rfl, g1, rd_some]
end RI
