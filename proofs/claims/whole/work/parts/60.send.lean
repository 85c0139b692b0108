-- CODING 2 IN A PACKET
def aq (v i x : Int32) : Nat := cdN v (tb_STEPS i.toNatClampNeg) x
def av (v i x : Int32) : Int32 := nv v (tb_STEPS i.toNatClampNeg) (aq v i x)
def ai (v i x : Int32) : Int32 := nx i (aq v i x)
def adB (xs : List Int32) : Nat → Nat → Int32 → Int32 → List Int32 × Int32 × Int32
  | 0, _, v, i => ([], v, i)
  | d + 1, j, v, i => (B8 (16 * nI (aq v i (xs.getD (2 * j) 0)) + nI (aq (av v i (xs.getD (2 * j) 0)) (ai v i (xs.getD (2 * j) 0)) (xs.getD (2 * j + 1) 0))) :: (adB xs d (j + 1) (av (av v i (xs.getD (2 * j) 0)) (ai v i (xs.getD (2 * j) 0)) (xs.getD (2 * j + 1) 0)) (ai (av v i (xs.getD (2 * j) 0)) (ai v i (xs.getD (2 * j) 0)) (xs.getD (2 * j + 1) 0))).1, (adB xs d (j + 1) (av (av v i (xs.getD (2 * j) 0)) (ai v i (xs.getD (2 * j) 0)) (xs.getD (2 * j + 1) 0)) (ai (av v i (xs.getD (2 * j) 0)) (ai v i (xs.getD (2 * j) 0)) (xs.getD (2 * j + 1) 0))).2)
theorem adB_len (xs : List Int32) : ∀ (d j : Nat) (v i : Int32), (adB xs d j v i).1.length = d
  | 0, _, _, _ => rfl
  | d + 1, j, v, i => by
    show (adB xs d (j + 1) _ _).1.length + 1 = d + 1
    rw [adB_len xs d]
theorem adB_B (xs : List Int32) : ∀ (d j : Nat) (v i : Int32), ∀ b ∈ (adB xs d j v i).1, IsB b
  | 0, _, _, _, b, hb => absurd hb (by simp [adB])
  | d + 1, j, v, i, b, hb => by
    rcases List.mem_cons.mp hb with rfl | hb
    · exact B8_B _
    · exact adB_B xs d (j + 1) _ _ b hb
theorem aq_16 (v i x : Int32) : aq v i x < 16 := (cdr_eq _ _ _).2
theorem cac {m : Mem} {t : Nat} {x : Int32} (hv : IsS (m t 0)) (hi : ∃ n, n ≤ 88 ∧ m t 1 = nI n) (hx : IsS x) : F_Adaptive_codeAndChange m t x = some (nI (aq (m t 0) (m t 1) x), put (put m t 0 (av (m t 0) (m t 1) x)) t 1 (ai (m t 0) (m t 1) x)) := by
  obtain ⟨n, hn, e⟩ := hi
  unfold F_Adaptive_codeAndChange
  rw [cod_cls (ix_ok e hn) hv hx, rd_some, chg_cls (cdr_eq _ _ _).2 (ix_ok e hn), rd_some]
  rfl
theorem ad_cls {t : Nat} (ht : kd t = 3) (h25 : 25 ≤ t) {xs : List Int32} (hxs : ∀ x ∈ xs, IsS x) {cnt : Nat} (hcn : cnt ≤ xs.length) : ∀ (d n j : Nat) (m : Mem) (p : List Int32), cnt = 2 * (j + d) → d < n → SR (m 1 1) (m 2) 64 xs → PC t m p → p.length + d ≤ 44 → IsS (m 10 0) → (∃ n, n ≤ 88 ∧ m 10 1 = nI n) →
    ∃ m', F_Sender_packAdaptive_30 n m t 1 (nI cnt) (nI (2 * j)) = some m' ∧ PC t m' (p ++ (adB xs d j (m 10 0) (m 10 1)).1) ∧ (m' 10 0 = (adB xs d j (m 10 0) (m 10 1)).2.1 ∧ m' 10 1 = (adB xs d j (m 10 0) (m 10 1)).2.2) ∧ IsS (m' 10 0) ∧ (∃ n, n ≤ 88 ∧ m' 10 1 = nI n) ∧ CH (fun x y => cC t x y ∨ x = 10) m m' := by
  intro d
  induction d with
  | zero =>
    intro n j m p e hn hx hp hr hv hi
    obtain ⟨n, rfl⟩ : ∃ q, n = q + 1 := ⟨n - 1, by omega⟩
    refine ⟨m, ?_, by simpa [adB] using hp, ⟨rfl, rfl⟩, hv, hi, CH.rf⟩
    have hxl := hx.2.1
    rw [F_Sender_packAdaptive_30, nI_1, if_pos (nI_le (by omega) (by omega))]
  | succ d ih =>
    intro n j m p e hn hx hp hr hv hi
    obtain ⟨n, rfl⟩ : ∃ q, n = q + 1 := ⟨n - 1, by omega⟩
    have hxl := hx.2.1
    have j0 : 2 * j < xs.length := by omega
    have j1 : 2 * j + 1 < xs.length := by omega
    have hx' : SR (m 1 1) (m (1 + 1)) (ln (1 + 1)) xs := hx
    have s0 := getD_S hxs j0
    have s1 := getD_S hxs j1
    obtain ⟨x0, ex0⟩ : ∃ z, z = xs.getD (2 * j) 0 := ⟨_, rfl⟩
    obtain ⟨x1, ex1⟩ : ∃ z, z = xs.getD (2 * j + 1) 0 := ⟨_, rfl⟩
    obtain ⟨m1, em1⟩ : ∃ z, z = put (put m 10 0 (av (m 10 0) (m 10 1) x0)) 10 1 (ai (m 10 0) (m 10 1) x0) := ⟨_, rfl⟩
    have c1 : CH (fun x y => x = 10) m m1 := by
      rw [em1]
      exact (CH.put (P := fun x _ => x = 10) CH.rf rfl _).put rfl _
    have v1 : m1 10 0 = av (m 10 0) (m 10 1) x0 := by rw [em1]; simp [put_at]
    have i1 : m1 10 1 = ai (m 10 0) (m 10 1) x0 := by rw [em1]; simp [put_at]
    have hv1 : IsS (m1 10 0) := by rw [v1]; exact nv_S _ _ _
    have hi1 : ∃ n, n ≤ 88 ∧ m1 10 1 = nI n := by rw [i1]; exact nx_88 _ _
    have hx1 : SR (m1 1 1) (m1 (1 + 1)) (ln (1 + 1)) xs := by
      rw [c1 1 1 (by omega)]
      exact hx'.congr (fun i _ => c1 _ _ (by omega))
    obtain ⟨m2, em2⟩ : ∃ z, z = put (put m1 10 0 (av (m1 10 0) (m1 10 1) x1)) 10 1 (ai (m1 10 0) (m1 10 1) x1) := ⟨_, rfl⟩
    have c2 : CH (fun x y => x = 10) m1 m2 := by
      rw [em2]
      exact (CH.put (P := fun x _ => x = 10) CH.rf rfl _).put rfl _
    have v2 : m2 10 0 = av (m1 10 0) (m1 10 1) x1 := by rw [em2]; simp [put_at]
    have i2 : m2 10 1 = ai (m1 10 0) (m1 10 1) x1 := by rw [em2]; simp [put_at]
    have c12 := c1.tr c2
    have hp2 : PC t m2 p := by
      show SR (m2 t 1) (m2 (t + 1)) 44 p
      rw [c12 t 1 (by omega)]
      exact hp.congr (fun i _ => c12 _ _ (by omega))
    obtain ⟨m3, g1, g2, g3⟩ := pk_add ht hp2 (by omega) (16 * nI (aq (m 10 0) (m 10 1) x0) + nI (aq (m1 10 0) (m1 10 1) x1))
    have hx3 : SR (m3 1 1) (m3 2) 64 xs := by
      rw [g3 1 1 (by omega), c12 1 1 (by omega)]
      exact hx.congr (fun i _ => by rw [g3 _ _ (by omega), c12 _ _ (by omega)])
    have hv3 : m3 10 0 = av (m1 10 0) (m1 10 1) x1 := by rw [g3 10 0 (by omega), v2]
    have hi3 : m3 10 1 = ai (m1 10 0) (m1 10 1) x1 := by rw [g3 10 1 (by omega), i2]
    obtain ⟨m4, f1, f2, f3, f4, f5, f6⟩ := ih n (j + 1) m3 _ (by omega) (by omega) hx3 g2 (by simp; omega) (by rw [hv3]; exact nv_S _ _ _) (by rw [hi3]; exact nx_88 _ _)
    have ead : adB xs (d + 1) j (m 10 0) (m 10 1) = (B8 (16 * nI (aq (m 10 0) (m 10 1) x0) + nI (aq (m1 10 0) (m1 10 1) x1)) :: (adB xs d (j + 1) (m3 10 0) (m3 10 1)).1, (adB xs d (j + 1) (m3 10 0) (m3 10 1)).2) := by
      rw [hv3, hi3, v1, i1, ex0, ex1]
      rfl
    refine ⟨m4, ?_, by rw [ead]; simpa using f2, by rw [ead]; exact f3, f4, f5, ((c12.mo (fun x y q => Or.inr q)).tr (g3.mo (fun x y q => Or.inl q))).tr f6⟩
    rw [F_Sender_packAdaptive_30, nI_1, if_neg (nI_ge (by omega) (by omega)), sa_get hx' (by decide) j0, rd_some, ← ex0, cac hv hi (by rw [ex0]; exact s0), cal_some, ← em1, sa_get hx1 (by decide) j1, rd_some, ← ex1, cac hv1 hi1 (by rw [ex1]; exact s1), cal_some, ← em2, g1, rd_some, show nI (2 * j) + (2 : Int32) = nI (2 * (j + 1)) from nI_add (2 * j) 2]
    exact f1
theorem par0 {j : Nat} (h : 2 * j < 2 ^ 31) : ¬ (nI (2 * j) - nI (2 * j) / (2 : Int32) * (2 : Int32)) = (1 : Int32) := by
  rw [show (2 : Int32) = nI 2 from rfl, pk_rem h (by decide) (by decide), show 2 * j % 2 = 0 by omega]
  decide
theorem par1 {j : Nat} (h : 2 * j + 1 < 2 ^ 31) : (nI (2 * j + 1) - nI (2 * j + 1) / (2 : Int32) * (2 : Int32)) = (1 : Int32) := by
  rw [show (2 : Int32) = nI 2 from rfl, pk_rem h (by decide) (by decide), show (2 * j + 1) % 2 = 1 by omega]
  rfl
theorem ad_mod {s : Nat} (hs : s < 16) {xs : List Int32} {cnt : Nat} (hcn : cnt ≤ xs.length) : ∀ (d n j : Nat) (m : Mem) (p : List Int32) (u : Int32), cnt = 2 * (j + d) → 2 * d < n → SR (m 17 1) (m 19) 64 xs → PM s m p → p.length + d ≤ 44 → I8 m → (∃ n, n ≤ 88 ∧ m 17 24 = nI n) →
    ∃ m', F_Model_samples_63 n m (nI s) 2 (nI cnt) u (nI (2 * j)) = some (fin8 m') ∧ PM s m' (p ++ (adB xs d j (m 17 23) (m 17 24)).1) ∧ (m' 17 23 = (adB xs d j (m 17 23) (m 17 24)).2.1 ∧ m' 17 24 = (adB xs d j (m 17 23) (m 17 24)).2.2) ∧ CH (fun x y => cM s x y ∨ (x = 17 ∧ (y = 23 ∨ y = 24))) m m' := by
  have l19 : ln 19 = 64 := rfl
  intro d
  induction d with
  | zero =>
    intro n j m p u e hn hx hp hr h8 hi
    obtain ⟨n, rfl⟩ : ∃ q, n = q + 1 := ⟨n - 1, by omega⟩
    have hxl := hx.2.1
    exact ⟨m, sm_end n (nI_le (by omega) (by omega)), by simpa [adB] using hp, ⟨rfl, rfl⟩, CH.rf⟩
  | succ d ih =>
    intro n j m p u e hn hx hp hr h8 hi
    obtain ⟨n, rfl⟩ : ∃ q, n = q + 1 + 1 := ⟨n - 2, by omega⟩
    have hxl := hx.2.1
    have j0 : 2 * j < xs.length := by omega
    have j1 : 2 * j + 1 < xs.length := by omega
    obtain ⟨x0, ex0⟩ : ∃ z, z = xs.getD (2 * j) 0 := ⟨_, rfl⟩
    obtain ⟨x1, ex1⟩ : ∃ z, z = xs.getD (2 * j + 1) 0 := ⟨_, rfl⟩
    obtain ⟨n0, hn0, en0⟩ := hi
    have k0 := cod_mod (m := m) (x := x0) (ix_ok en0 hn0) h8
    obtain ⟨m1, a1, a2, a3, a4⟩ := chg_mod (m := m) (q := aq (m 17 23) (m 17 24) x0) (aq_16 _ _ _) (ix_ok en0 hn0) h8
    have a2' : m1 17 23 = av (m 17 23) (m 17 24) x0 := a2
    have a3' : m1 17 24 = ai (m 17 23) (m 17 24) x0 := a3
    have h81 : I8 m1 := fun i hi => by rw [a4 18 i (by omega)]; exact h8 i hi
    obtain ⟨n1, hn1, en1⟩ : ∃ n, n ≤ 88 ∧ m1 17 24 = nI n := by rw [a3']; exact nx_88 _ _
    have k1 := cod_mod (m := m1) (x := x1) (ix_ok en1 hn1) h81
    obtain ⟨m2, b1, b2, b3, b4⟩ := chg_mod (m := m1) (q := aq (m1 17 23) (m1 17 24) x1) (aq_16 _ _ _) (ix_ok en1 hn1) h81
    have b2' : m2 17 23 = av (m1 17 23) (m1 17 24) x1 := b2
    have b3' : m2 17 24 = ai (m1 17 23) (m1 17 24) x1 := b3
    have c12 : CH (fun x y => x = 17 ∧ (y = 23 ∨ y = 24)) m m2 := fun x y q => (b4 x y q).trans (a4 x y q)
    have hp2 : PM s m2 p := by
      show SR (m2 21 s) (fun i => m2 22 (44 * s + i)) 44 p
      rw [c12 21 s (by omega)]
      exact hp.congr (fun i _ => c12 _ _ (by omega))
    obtain ⟨m3, g1, g2, g3⟩ := mo_wr hs hp2 (by omega) (16 * nI (aq (m 17 23) (m 17 24) x0) + nI (aq (m1 17 23) (m1 17 24) x1))
    have hx1 : SR (m1 17 1) (m1 19) 64 xs := by
      rw [a4 17 1 (by omega)]
      exact hx.congr (fun i _ => a4 _ _ (by omega))
    have hx3 : SR (m3 17 1) (m3 19) 64 xs := by
      rw [g3 17 1 (by omega), c12 17 1 (by omega)]
      exact hx.congr (fun i _ => by rw [g3 _ _ (by omega), c12 _ _ (by omega)])
    have hv3 : m3 17 23 = av (m1 17 23) (m1 17 24) x1 := by rw [g3 17 23 (by omega), b2']
    have hi3 : m3 17 24 = ai (m1 17 23) (m1 17 24) x1 := by rw [g3 17 24 (by omega), b3']
    have h83 : I8 m3 := fun i hi => by rw [g3 18 i (by omega), c12 18 i (by omega)]; exact h8 i hi
    obtain ⟨m4, f1, f2, f3, f4⟩ := ih n (j + 1) m3 _ (nI (aq (m1 17 23) (m1 17 24) x1)) (by omega) (by omega) hx3 g2 (by simp; omega) h83 (by rw [hi3]; exact nx_88 _ _)
    have ead : adB xs (d + 1) j (m 17 23) (m 17 24) = (B8 (16 * nI (aq (m 17 23) (m 17 24) x0) + nI (aq (m1 17 23) (m1 17 24) x1)) :: (adB xs d (j + 1) (m3 17 23) (m3 17 24)).1, (adB xs d (j + 1) (m3 17 23) (m3 17 24)).2) := by
      rw [hv3, hi3, a2', a3', ex0, ex1]
      rfl
    refine ⟨m4, ?_, by rw [ead]; simpa using f2, by rw [ead]; exact f3, ((c12.mo (fun x y q => Or.inr q)).tr (g3.mo (fun x y q => Or.inl q))).tr f4⟩
    rw [F_Model_samples_63, if_neg (nI_ge (by omega) (by omega)), if_neg (nI_in (by omega) (by omega)), nI_clamp (by omega), hx.2.2 _ j0, bnd_eq, if_pos (by decide), if_neg (by decide), ← ex0, k0, rd_some]
    rw [show F_Model_change m (nI (cdN (m 17 23) (tb_STEPS (m 17 24).toNatClampNeg) x0)) = some m1 from a1, rd_some, if_neg (par0 (by omega)), nI_1]
    rw [F_Model_samples_63, if_neg (nI_ge (by omega) (by omega)), if_neg (nI_in (by omega) (by omega)), nI_clamp (by omega), hx1.2.2 _ j1, bnd_eq, if_pos (by decide), if_neg (by decide), ← ex1, k1, rd_some]
    rw [show F_Model_change m1 (nI (cdN (m1 17 23) (tb_STEPS (m1 17 24).toNatClampNeg) x1)) = some m2 from b1, rd_some, if_pos (par1 (by omega))]
    rw [show F_Model_write m2 (nI s) (16 * nI (cdN (m 17 23) (tb_STEPS (m 17 24).toNatClampNeg) x0) + nI (cdN (m1 17 23) (tb_STEPS (m1 17 24).toNatClampNeg) x1)) = some m3 from g1, rd_some, nI_1, show 2 * j + 1 + 1 = 2 * (j + 1) by omega]
    exact f1
-- the packet as both sides make it
def tyC (c : Int32) : Int32 := if c = 0 then 8 else if c = 1 then 0 else if c = 2 then 5 else 11
def mkC (k : Int32) : Int32 := if k = 0 then 0 else 128
def hdr (c mk sq tm sr : Int32) : List Int32 := [B8 128, B8 (tyC c + mkC mk)] ++ pr2 sq ++ fr4 tm ++ fr4 sr
def bdy (c v i : Int32) (xs : List Int32) (k : Nat) : List Int32 := if c = 2 then pr2 v ++ [B8 i] ++ [B8 0] ++ (adB xs (k / 2) 0 v i).1 else bod c (xs.take k)
def vAf (c v i : Int32) (xs : List Int32) (k : Nat) : Int32 := if c = 2 then (adB xs (k / 2) 0 v i).2.1 else v
def iAf (c v i : Int32) (xs : List Int32) (k : Nat) : Int32 := if c = 2 then (adB xs (k / 2) 0 v i).2.2 else i
theorem bod_len {c : Int32} (xs : List Int32) : (bod c xs).length ≤ 2 * xs.length := by
  induction xs with
  | nil => simp [bod]
  | cons x r ih =>
    have hb : bod c (x :: r) = bo c x ++ bod c r := rfl
    rw [hb, List.length_append, List.length_cons]
    have := bo_len c x
    omega
theorem pr2_B (x : Int32) : ∀ b ∈ pr2 x, IsB b := by
  intro b hb
  simp only [pr2, List.mem_cons, List.not_mem_nil, or_false] at hb
  rcases hb with rfl | rfl <;> exact B8_B _
theorem fr4_B (x : Int32) : ∀ b ∈ fr4 x, IsB b := by
  intro b hb
  simp only [fr4, List.mem_cons, List.not_mem_nil, or_false] at hb
  rcases hb with rfl | rfl | rfl | rfl <;> exact B8_B _
theorem app_B {p q : List Int32} (hp : ∀ b ∈ p, IsB b) (hq : ∀ b ∈ q, IsB b) : ∀ b ∈ p ++ q, IsB b := fun b hb => by
  rcases List.mem_append.mp hb with h | h
  · exact hp b h
  · exact hq b h
theorem one_B (x : Int32) : ∀ b ∈ [B8 x], IsB b := fun b hb => by
  rw [List.mem_singleton.mp hb]
  exact B8_B _
theorem hdr_B (c mk sq tm sr : Int32) : ∀ b ∈ hdr c mk sq tm sr, IsB b := by
  unfold hdr
  refine app_B (app_B (app_B ?_ (pr2_B _)) (fr4_B _)) (fr4_B _)
  intro b hb
  simp only [List.mem_cons, List.not_mem_nil, or_false] at hb
  rcases hb with rfl | rfl <;> exact B8_B _
theorem bdy_B (c v i : Int32) (xs : List Int32) (k : Nat) : ∀ b ∈ bdy c v i xs k, IsB b := by
  unfold bdy
  split
  · exact app_B (app_B (app_B (pr2_B _) (one_B _)) (one_B _)) (adB_B _ _ _ _ _)
  · intro b hb
    unfold bod at hb
    obtain ⟨x, -, hx⟩ := List.mem_flatMap.mp hb
    unfold bo at hx
    split at hx
    · exact pr2_B _ b hx
    · exact one_B _ b hx
