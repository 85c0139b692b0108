-- send
theorem sq_cls {n : Nat} (h : n < 65536) : F_Gate_sequenceAfter (nI n) = some (nI ((n + 1) % 65536)) := by
  unfold F_Gate_sequenceAfter
  rw [nI_1, show (65536 : Int32) = nI 65536 from rfl, pk_rem (by omega) (by decide) (by decide)]
theorem sq_mod {n : Nat} (h : n < 65536) : (nI n = (65535 : Int32) → nI ((n + 1) % 65536) = 0) ∧ (¬ nI n = (65535 : Int32) → nI ((n + 1) % 65536) = nI n + 1) := by
  rw [kEQ 65535 65535 rfl (by omega) (by decide)]
  constructor
  · rintro rfl
    rfl
  · intro q
    rw [Nat.mod_eq_of_lt (by omega), nI_1]
section SE
variable {m : Mem} {c : Int32} {xs : List Int32} {k : Nat}
theorem se_bc {t : Nat} (ht : kd t = 3) (h25 : 25 ≤ t) {p : List Int32} (hc : (c = 0 ∨ c = 1) ∨ c = 3 ∨ c = 2) (hxs : ∀ x ∈ xs, IsS x) (hx : SR (m 1 1) (m 2) 64 xs) (hk : k ≤ xs.length) (h16 : k ≤ 16) (h2 : c = 2 → k % 2 = 0) (hp : PC t m p) (h12 : p.length = 12) (hv : IsS (m 10 0)) (hi : ∃ n, n ≤ 88 ∧ m 10 1 = nI n) :
    ∃ m9, (if c = (2 : Int32) then F_Sender_packAdaptive m t 1 (nI k) else F_Sender_packPlain m t c 1 (nI k)) = some m9 ∧ PC t m9 (p ++ bdy c (m 10 0) (m 10 1) xs k) ∧ (m9 10 0 = vAf c (m 10 0) (m 10 1) xs k ∧ m9 10 1 = iAf c (m 10 0) (m 10 1) xs k) ∧ IsS (m9 10 0) ∧ (∃ n, n ≤ 88 ∧ m9 10 1 = nI n) ∧ CH (fun x y => cC t x y ∨ x = 10) m m9 := by
  by_cases e2 : c = 2
  · have hev := h2 e2
    unfold bdy vAf iAf
    rw [if_pos e2, if_pos e2, if_pos e2, if_pos e2]
    obtain ⟨m1, g1, g2, g3⟩ := pk_add2 ht hp (by omega) (m 10 0)
    obtain ⟨m2, f1, f2, f3⟩ := pk_add ht g2 (by simp [pr2]; omega) (m 10 1)
    obtain ⟨m3, k1, k2, k3⟩ := pk_add ht f2 (by simp [pr2]; omega) 0
    have c3 := (g3.tr f3).tr k3
    have hx3 : SR (m3 1 1) (m3 2) 64 xs := by
      rw [c3 1 1 (by omega)]
      exact hx.congr (fun i _ => c3 _ _ (by omega))
    obtain ⟨m4, l1, l2, l3, l4, l5, l6⟩ := ad_cls ht h25 hxs hk (k / 2) 300 0 m3 _ (by omega) (by omega) hx3 k2 (by simp [pr2]; omega) (by rw [c3 10 0 (by omega)]; exact hv) (by rw [c3 10 1 (by omega)]; exact hi)
    rw [c3 10 0 (by omega), c3 10 1 (by omega)] at l2 l3
    refine ⟨m4, ?_, by simpa using l2, l3, l4, l5, (c3.mo (fun x y q => Or.inl q)).tr l6⟩
    unfold F_Sender_packAdaptive
    rw [show F_Adaptive_value m 10 = some (m 10 0) from rfl, rd_some, g1, rd_some, show F_Adaptive_index m1 10 = some (m1 10 1) from rfl, rd_some, g3 10 1 (by omega), f1, rd_some, k1, rd_some, show (0 : Int32) = nI (2 * 0) from nI_0.symm]
    exact l1
  · have hc' : (c = 0 ∨ c = 1) ∨ c = 3 := by
      rcases hc with q | q | q
      · exact Or.inl q
      · exact Or.inr q
      · exact absurd q e2
    unfold bdy vAf iAf
    rw [if_neg e2, if_neg e2, if_neg e2, if_neg e2]
    have hb := bod_len (c := c) (xs.take k)
    rw [List.length_take] at hb
    obtain ⟨m4, l1, l2, l3⟩ := pl_cls ht h25 hc' hxs hk k 300 0 m p (by omega) (by omega) hx hp (by rw [List.drop_zero]; omega)
    rw [List.drop_zero] at l2
    refine ⟨m4, ?_, l2, ⟨l3 10 0 (by omega), l3 10 1 (by omega)⟩, by rw [l3 10 0 (by omega)]; exact hv, by rw [l3 10 1 (by omega)]; exact hi, l3.mo (fun x y q => Or.inl q)⟩
    unfold F_Sender_packPlain
    rw [show (0 : Int32) = nI 0 from nI_0.symm]
    exact l1
theorem se_bm {s : Nat} (hs : s < 16) {p : List Int32} (hc : (c = 0 ∨ c = 1) ∨ c = 3 ∨ c = 2) (hxs : ∀ x ∈ xs, IsS x) (hx : SR (m 17 1) (m 19) 64 xs) (hk : k ≤ xs.length) (h16 : k ≤ 16) (h2 : c = 2 → k % 2 = 0) (hp : PM s m p) (h12 : p.length = 12) (h8 : I8 m) (hi : ∃ n, n ≤ 88 ∧ m 17 9 = nI n) :
    ∃ m9, F_Model_samples m (nI s) c (nI k) = some m9 ∧ PM s m9 (p ++ bdy c (m 17 8) (m 17 9) xs k) ∧ (m9 17 8 = vAf c (m 17 8) (m 17 9) xs k ∧ m9 17 9 = iAf c (m 17 8) (m 17 9) xs k) ∧ CH (fun x y => cM s x y ∨ (x = 17 ∧ (y = 8 ∨ y = 9 ∨ y = 23 ∨ y = 24))) m m9 := by
  obtain ⟨m0, em0⟩ : ∃ z, z = put (put m 17 23 (m 17 8)) 17 24 (m 17 9) := ⟨_, rfl⟩
  have c0 : CH (fun x y => x = 17 ∧ (y = 23 ∨ y = 24)) m m0 := by
    rw [em0]
    exact (CH.rf.put (by omega) _).put (by omega) _
  have v0 : m0 17 23 = m 17 8 := by rw [em0]; simp [put_at]
  have i0 : m0 17 24 = m 17 9 := by rw [em0]; simp [put_at]
  have hp0 : PM s m0 p := by
    show SR (m0 21 s) (fun i => m0 22 (44 * s + i)) 44 p
    rw [c0 21 s (by omega)]
    exact hp.congr (fun i _ => c0 _ _ (by omega))
  have hx0 : SR (m0 17 1) (m0 19) 64 xs := by
    rw [c0 17 1 (by omega)]
    exact hx.congr (fun i _ => c0 _ _ (by omega))
  have hst : F_Model_samples m (nI s) c (nI k) = if c = (2 : Int32) then rd (F_Model_write m0 (nI s) (m0 17 8 >>> ((8 : Int32) &&& (31 : Int32)))) (fun m4 => rd (F_Model_write m4 (nI s) (m4 17 8)) (fun m6 => rd (F_Model_write m6 (nI s) (m6 17 9)) (fun m8 => rd (F_Model_write m8 (nI s) (0 : Int32)) (fun m10 => F_Model_samples_63 300 m10 (nI s) c (nI k) 0 0)))) else F_Model_samples_63 300 m0 (nI s) c (nI k) 0 0 := by
    unfold F_Model_samples
    simp only [bnd_eq]
    rw [show put m 17 23 (m 17 8) 17 9 = m 17 9 by simp [put_at], ← em0]
  have fin : ∀ (mm : Mem) (B : List Int32) (v i : Int32), PM s mm (p ++ B) → mm 17 23 = v → mm 17 24 = i → CH (fun x y => cM s x y ∨ (x = 17 ∧ (y = 23 ∨ y = 24))) m0 mm → PM s (fin8 mm) (p ++ B) ∧ (fin8 mm 17 8 = v ∧ fin8 mm 17 9 = i) ∧ CH (fun x y => cM s x y ∨ (x = 17 ∧ (y = 8 ∨ y = 9 ∨ y = 23 ∨ y = 24))) m (fin8 mm) := fun mm B v i a1 a2 a3 a4 => by
    have c9 : CH (fun x y => x = 17 ∧ (y = 8 ∨ y = 9)) mm (fin8 mm) := by
      unfold fin8
      exact (CH.rf.put (by omega) _).put (by omega) _
    refine ⟨?_, ⟨by rw [← a2]; unfold fin8; simp [put_at], by rw [← a3]; unfold fin8; simp [put_at]⟩, ((c0.mo (fun x y q => by omega)).tr (a4.mo (fun x y q => by omega))).tr (c9.mo (fun x y q => by omega))⟩
    show SR (fin8 mm 21 s) (fun i => fin8 mm 22 (44 * s + i)) 44 (p ++ B)
    rw [c9 21 s (by omega)]
    exact a1.congr (fun i _ => c9 _ _ (by omega))
  by_cases e2 : c = 2
  · have hev := h2 e2
    unfold bdy vAf iAf
    rw [if_pos e2, if_pos e2, if_pos e2, hst, if_pos e2]
    obtain ⟨m1, g1, g2, g3⟩ := mo_wr hs hp0 (by omega) (m 17 8 >>> ((8 : Int32) &&& (31 : Int32)))
    obtain ⟨m2, f1, f2, f3⟩ := mo_wr hs g2 (by simp; omega) (m 17 8)
    obtain ⟨m3, k1, k2, k3⟩ := mo_wr hs f2 (by simp; omega) (m 17 9)
    obtain ⟨m4, l1, l2, l3⟩ := mo_wr hs k2 (by simp; omega) 0
    have c4 := ((g3.tr f3).tr k3).tr l3
    have hx4 : SR (m4 17 1) (m4 19) 64 xs := by
      rw [c4 17 1 (by omega)]
      exact hx0.congr (fun i _ => c4 _ _ (by omega))
    have h84 : I8 m4 := fun i hi => by rw [c4 18 i (by omega), c0 18 i (by omega)]; exact h8 i hi
    obtain ⟨m5, q1, q2, q3, q4⟩ := ad_mod hs hk (k / 2) 300 0 m4 _ 0 (by omega) (by omega) hx4 l2 (by simp; omega) h84 (by rw [c4 17 24 (by omega), i0]; exact hi)
    rw [c4 17 23 (by omega), c4 17 24 (by omega), v0, i0] at q2 q3
    obtain ⟨z1, z2, z3⟩ := fin m5 (pr2 (m 17 8) ++ [B8 (m 17 9)] ++ [B8 0] ++ (adB xs (k / 2) 0 (m 17 8) (m 17 9)).1) _ _ (by simpa [pr2] using q2) q3.1 q3.2 ((c4.mo (fun x y q => Or.inl q)).tr q4)
    refine ⟨fin8 m5, ?_, z1, z2, z3⟩
    rw [c0 17 8 (by omega), g1, rd_some, g3 17 8 (by omega), c0 17 8 (by omega), f1, rd_some, f3 17 9 (by omega), g3 17 9 (by omega), c0 17 9 (by omega), k1, rd_some, l1, rd_some, e2, show F_Model_samples_63 300 m4 (nI s) 2 (nI k) 0 0 = F_Model_samples_63 300 m4 (nI s) 2 (nI k) 0 (nI (2 * 0)) from rfl]
    exact q1
  · have hc' : (c = 0 ∨ c = 1) ∨ c = 3 := by
      rcases hc with q | q | q
      · exact Or.inl q
      · exact Or.inr q
      · exact absurd q e2
    unfold bdy vAf iAf
    rw [if_neg e2, if_neg e2, if_neg e2, hst, if_neg e2]
    have hb := bod_len (c := c) (xs.take k)
    rw [List.length_take] at hb
    obtain ⟨m4, l1, l2, l3⟩ := pl_mod (u := 0) hs hc' hxs hk k 300 0 m0 p (by omega) (by omega) hx0 hp0 (by rw [List.drop_zero]; omega)
    rw [List.drop_zero] at l2
    obtain ⟨z1, z2, z3⟩ := fin m4 (bod c (xs.take k)) (m 17 8) (m 17 9) l2 (by rw [l3 17 23 (by omega)]; exact v0) (by rw [l3 17 24 (by omega)]; exact i0) (l3.mo (fun x y q => Or.inl q))
    exact ⟨fin8 m4, l1, z1, z2, z3⟩
theorem hd_cls {t : Nat} {p : List Int32} {mk : Int32} (ht : kd t = 3) (hc : (c = 0 ∨ c = 1) ∨ c = 3 ∨ c = 2) (hp : PC t m p) (hl : p.length + 2 ≤ 44) : ∃ m', F_Packet_addHead m t c mk = some m' ∧ PC t m' (p ++ [B8 128, B8 (tyC c + mkC mk)]) ∧ CH (cC t) m m' := by
  have key : ¬ ((c &&& (3 : Int32)) < 0 ∨ 4 ≤ (c &&& (3 : Int32)).toNatClampNeg) ∧ tb_TYPES (c &&& (3 : Int32)).toNatClampNeg = tyC c := by
    rcases hc with (rfl | rfl) | rfl | rfl <;> decide +kernel
  obtain ⟨m1, g1, g2, g3⟩ := pk_add ht hp (by omega) 128
  obtain ⟨m2, f1, f2, f3⟩ := pk_add ht g2 (by simp; omega) (tyC c + mkC mk)
  refine ⟨m2, ?_, by simpa using f2, g3.tr f3⟩
  unfold F_Packet_addHead
  rw [g1, rd_some, if_neg key.1, key.2]
  unfold mkC at f1
  by_cases h : mk = 0
  · rw [if_pos h] at f1 ⊢
    rw [f1, rd_some]
  · rw [if_neg h] at f1 ⊢
    rw [f1, rd_some]
theorem mo_s201 {f : Nat → Int32} {tot n : Nat} (hN : tot + n ≤ 64) (l4 : Int32) : ∀ (d fu j : Nat) (m : Mem), tot = j + d → d < fu → m 17 1 = nI tot → (∀ i, i < j → m 19 i = f (i + n)) → (∀ i, j ≤ i → m 19 i = f i) →
    ∃ m', F_Model_send_201 fu m (nI n) l4 (nI j) = F_Model_send_201 1 m' (nI n) l4 (nI tot) ∧ (∀ i, i < tot → m' 19 i = f (i + n)) ∧ CH (fun a _ => a = 19) m m' := by
  intro d
  have l19 : ln 19 = 64 := rfl
  induction d with
  | zero =>
    intro fu j m e hf h3 h1 h2
    obtain ⟨fu, rfl⟩ : ∃ q, fu = q + 1 := ⟨fu - 1, by omega⟩
    refine ⟨m, ?_, fun i hi => h1 i (by omega), CH.rf⟩
    have hle : m 17 1 ≤ nI j := by rw [h3, e, Nat.add_zero]; exact Int32.le_refl _
    have hle2 : m 17 1 ≤ nI tot := by rw [h3]; exact Int32.le_refl _
    rw [F_Model_send_201, F_Model_send_201, if_pos hle, if_pos hle2]
  | succ d ih =>
    intro fu j m e hf h3 h1 h2
    obtain ⟨fu, rfl⟩ : ∃ q, fu = q + 1 := ⟨fu - 1, by omega⟩
    have hc1 : CH (fun a _ => a = 19) m (put m 19 j (m 19 (j + n))) := CH.put (P := fun a _ => a = 19) CH.rf rfl _
    obtain ⟨m2, f1, f2, f3⟩ := ih fu (j + 1) (put m 19 j (m 19 (j + n))) (by omega) (by omega) (by rw [hc1 17 1 (by omega)]; exact h3)
      (fun i hi => by
        rw [put_at, if_pos rfl]
        by_cases hij : i = j
        · rw [if_pos hij, hij]
          exact h2 _ (by omega)
        · rw [if_neg hij]
          exact h1 i (by omega))
      (fun i hi => by
        rw [put_at, if_pos rfl, if_neg (by omega)]
        exact h2 i (by omega))
    refine ⟨m2, ?_, f2, hc1.tr f3⟩
    rw [F_Model_send_201, if_neg (by rw [h3]; exact nI_ge (by omega) (by omega)), nI_add, if_neg (nI_in (by omega) (by omega)), if_neg (nI_in (by omega) (by omega)), nI_clamp (by omega), nI_clamp (by omega), bnd_eq, show nI j + (1 : Int32) = nI (j + 1) from nI_1 j]
    exact f1
end SE
theorem can_bad (a b : Int32) (h : ¬ (((a = 0 ∨ a = 1) ∨ a = 3 ∨ a = 2) ∧ ∃ k, 1 ≤ k ∧ k ≤ 16 ∧ b = nI k ∧ (a = 2 → k % 2 = 0))) (m : Mem) (mk : Int32) : F_Sender_canPack a b = some 0 ∧ F_Model_send m a b mk = some ((-1 : Int32), m) := by
  unfold F_Sender_canPack F_Model_send
  by_cases h0 : a < 0
  · rw [if_pos h0, if_pos h0]
    exact ⟨rfl, rfl⟩
  · by_cases h1 : (3 : Int32) < a
    · rw [if_neg h0, if_pos h1, if_neg h0, if_pos h1]
      exact ⟨rfl, rfl⟩
    · have ha : (a = 0 ∨ a = 1) ∨ a = 3 ∨ a = 2 := by
        obtain ⟨j, hj, rfl⟩ := nI_of2 (M := 3) (n := 3) rfl h0 (Int32.not_lt.mp h1)
        rcases (show j = 0 ∨ j = 1 ∨ j = 2 ∨ j = 3 by omega) with rfl | rfl | rfl | rfl
        · exact Or.inl (Or.inl rfl)
        · exact Or.inl (Or.inr rfl)
        · exact Or.inr (Or.inr rfl)
        · exact Or.inr (Or.inl rfl)
      by_cases h2 : b < (1 : Int32)
      · rw [if_neg h0, if_neg h1, if_pos h2, if_neg h0, if_neg h1, if_pos h2]
        exact ⟨rfl, rfl⟩
      · by_cases h3 : b ≤ (16 : Int32)
        · have hb0 : ¬ b < 0 := fun q => h2 (by
            rw [Int32.lt_iff_toInt_lt] at q ⊢
            have a1 : (0 : Int32).toInt = 0 := rfl
            have a2 : (1 : Int32).toInt = 1 := rfl
            omega)
          obtain ⟨k, hk, rfl⟩ := nI_of2 (M := 16) (n := 16) rfl hb0 h3
          have k1 : 1 ≤ k := by
            rcases Nat.eq_zero_or_pos k with q | q
            · exact absurd (by rw [q]; decide) h2
            · exact q
          have h4 : a = 2 := by
            rcases Classical.em (a = 2) with q | q
            · exact q
            · exact absurd ⟨ha, k, k1, hk, rfl, fun z => absurd z q⟩ h
          have hodd : k % 2 = 1 := by
            rcases Nat.mod_two_eq_zero_or_one k with q | q
            · exact absurd ⟨ha, k, k1, hk, rfl, fun _ => q⟩ h
            · exact q
          have hr : nI k - nI k / (2 : Int32) * (2 : Int32) = 1 := by
            rw [show (2 : Int32) = nI 2 from rfl, pk_rem (by omega) (by decide) (by decide), hodd]
            rfl
          rw [if_neg h0, if_neg h1, if_neg h2, if_pos h3, if_pos h4, hr, if_neg (by decide), if_neg h0, if_neg h1, if_neg h2, if_neg (Int32.not_lt.mpr h3), if_pos h4, if_pos rfl]
          exact ⟨rfl, rfl⟩
        · rw [if_neg h0, if_neg h1, if_neg h2, if_neg h3, if_neg h0, if_neg h1, if_neg h2, if_pos (Int32.not_le.mp h3)]
          exact ⟨rfl, rfl⟩
theorem can_ok {a : Int32} {k : Nat} (ha : (a = 0 ∨ a = 1) ∨ a = 3 ∨ a = 2) (k1 : 1 ≤ k) (k16 : k ≤ 16) (h2 : a = 2 → k % 2 = 0) (m : Mem) (mk : Int32) : F_Sender_canPack a (nI k) = some 1 ∧ F_Model_send m a (nI k) mk = F_Model_send_34 m a (nI k) mk := by
  have h0 : ¬ a < 0 := by rcases ha with (rfl | rfl) | rfl | rfl <;> decide
  have h1 : ¬ (3 : Int32) < a := by rcases ha with (rfl | rfl) | rfl | rfl <;> decide
  unfold F_Sender_canPack F_Model_send
  rw [if_neg h0, if_neg h1, if_neg (kNLT 1 1 rfl k1 (by omega)), if_pos (kLE 16 16 rfl k16 (by decide)), if_neg h0, if_neg h1, if_neg (kNLT 1 1 rfl k1 (by omega)), if_neg (kNGT 16 16 rfl k16 (by decide))]
  by_cases h4 : a = 2
  · have hr : nI k - nI k / (2 : Int32) * (2 : Int32) = 0 := by
      rw [show (2 : Int32) = nI 2 from rfl, pk_rem (by omega) (by decide) (by decide), h2 h4]
      rfl
    rw [if_pos h4, hr, if_pos rfl, if_pos h4, if_neg (by decide)]
    exact ⟨rfl, rfl⟩
  · rw [if_neg h4, if_neg h4]
    exact ⟨rfl, rfl⟩
