-- send, both sides
section APP
variable {P : Nat → Nat → Prop} {m m' : Mem} {ps : List (List Int32)} {π : Nat → Nat}
theorem LC.app2 (hl : ps.length < 8) (h : LC m ps π) {p : List Int32} (c : CH P m m') (hq : ∀ x y, (x = 8 ∨ (25 ≤ x ∧ x ≤ 40 ∧ x ≠ 25 + 2 * π ps.length ∧ x ≠ 26 + 2 * π ps.length)) → ¬ P x y) (h7 : m' 7 1 = nI (ps.length + 1)) (hp : SR (m' (25 + 2 * π ps.length) 1) (m' (26 + 2 * π ps.length)) 44 p) : LC m' (ps ++ [p]) π := by
  obtain ⟨h1, h2, h3, h4⟩ := h
  have hpk := (h2 ps.length hl).1
  refine ⟨by rw [h7]; simp, fun i hi => ⟨(h2 i hi).1, by rw [c 8 i (hq _ _ (by omega))]; exact (h2 i hi).2⟩, h3, fun i hi => ?_⟩
  have hi : i < ps.length + 1 := by simpa using hi
  by_cases e : i = ps.length
  · subst e
    rw [show (ps ++ [p]).getD ps.length [] = p by simp [List.getD_eq_getElem?_getD]]
    exact hp
  · have hne : π i ≠ π ps.length := fun q => e (h3 i ps.length (by omega) hl q)
    have hi' := (h2 i (by omega)).1
    rw [show (ps ++ [p]).getD i [] = ps.getD i [] by simp [List.getD_eq_getElem?_getD, List.getElem?_append_left (show i < ps.length by omega)], c _ 1 (hq _ _ (by omega))]
    exact (h4 i (by omega)).congr (fun j _ => c _ _ (hq _ _ (by omega)))
theorem LM.app2 (h : LM m ps) {p : List Int32} (c : CH P m m') (hq : ∀ x y, ((x = 21 ∧ y < ps.length) ∨ (x = 22 ∧ y < 44 * ps.length)) → ¬ P x y) (h7 : m' 17 10 = nI (ps.length + 1)) (hp : SR (m' 21 ps.length) (fun i => m' 22 (44 * ps.length + i)) 44 p) : LM m' (ps ++ [p]) := by
  obtain ⟨h1, h2⟩ := h
  refine ⟨by rw [h7]; simp, fun i hi => ?_⟩
  have hi : i < ps.length + 1 := by simpa using hi
  by_cases e : i = ps.length
  · subst e
    rw [show (ps ++ [p]).getD ps.length [] = p by simp [List.getD_eq_getElem?_getD]]
    exact hp
  · have h44 := (h2 i (by omega)).2.1
    rw [show (ps ++ [p]).getD i [] = ps.getD i [] by simp [List.getD_eq_getElem?_getD, List.getElem?_append_left (show i < ps.length by omega)], c _ _ (hq _ _ (by omega))]
    exact (h2 i (by omega)).congr (fun j hj => c _ _ (hq _ _ (by omega)))
end APP
section S3
variable {m : Mem} {a mk : Int32} {xs : List Int32} {ps : List (List Int32)} {π : Nat → Nat} {k n : Nat}
/-- the packet -/
def pkt (m : Mem) (a mk : Int32) (xs : List Int32) (k : Nat) : List Int32 := hdr a mk (m 9 0) (m 9 1) (m 9 2) ++ bdy a (m 10 0) (m 10 1) xs k
theorem hdr_len (c mk sq tm sr : Int32) : (hdr c mk sq tm sr).length = 12 := by simp [hdr, pr2, fr4]
theorem bdy_len {c v i : Int32} (hk : k ≤ xs.length) (h16 : k ≤ 16) : (bdy c v i xs k).length ≤ 32 := by
  unfold bdy
  split
  · have := adB_len xs (k / 2) 0 v i
    simp only [List.length_append, this]
    simp [pr2]
    omega
  · have hb := bod_len (c := c) (xs.take k)
    rw [List.length_take] at hb
    omega
theorem se_cls (ha : (a = 0 ∨ a = 1) ∨ a = 3 ∨ a = 2) (k1 : 1 ≤ k) (k16 : k ≤ 16) (h2 : a = 2 → k % 2 = 0) (hxs : ∀ x ∈ xs, IsS x) (hx : SR (m 1 1) (m 2) 64 xs) (hk : k ≤ xs.length) (lc : LC m ps π) (hf : ps.length < 8) (hn : n < 65536) (h9 : m 9 0 = nI n) (hv : IsS (m 10 0)) (hi : ∃ n, n ≤ 88 ∧ m 10 1 = nI n) :
    ∃ m1, F_Gate_send m a (nI k) mk = some (nI (pkt m a mk xs k).length, m1) ∧ SR (m1 1 1) (m1 2) 64 (xs.drop k) ∧ LC m1 (ps ++ [pkt m a mk xs k]) π ∧ (m1 9 0 = nI ((n + 1) % 65536) ∧ m1 9 1 = m 9 1 + nI k ∧ m1 9 2 = m 9 2) ∧ (m1 10 0 = vAf a (m 10 0) (m 10 1) xs k ∧ m1 10 1 = iAf a (m 10 0) (m 10 1) xs k) ∧ IsS (m1 10 0) ∧ (∃ n, n ≤ 88 ∧ m1 10 1 = nI n) ∧ CH (fun x y => (x = 1 ∧ y = 1) ∨ x = 2 ∨ (x = 7 ∧ y = 1) ∨ x = 9 ∨ x = 10 ∨ (25 ≤ x ∧ x ≤ 40)) m m1 := by
  have hpl := (lc.2.1 ps.length hf).1
  have ht := (lc.id hf).2
  have hxl := hx.2.1
  obtain ⟨t, et⟩ : ∃ t, t = 25 + 2 * π ps.length := ⟨_, rfl⟩
  have hnp := lc.newp hf
  rw [← et] at ht hnp
  obtain ⟨m7, em7⟩ : ∃ z, z = put (put m t 1 0) 7 1 (nI (ps.length + 1)) := ⟨_, rfl⟩
  rw [← em7] at hnp
  have c7 : CH (fun x y => (x = t ∧ y = 1) ∨ (x = 7 ∧ y = 1)) m m7 := by
    rw [em7]
    exact (CH.rf.put (by omega) _).put (by omega) _
  have h71 : m7 7 1 = nI (ps.length + 1) := by rw [em7]; simp [put_at]
  have p7 : PC t m7 [] := by
    show SR (m7 t 1) (m7 (t + 1)) 44 []
    have : m7 t 1 = 0 := by rw [em7, put_at, if_neg (by omega), put_at, if_pos rfl, if_pos rfl]
    rw [this]
    exact SR.nil
  obtain ⟨m2, a1, a2, a3⟩ := hd_cls (mk := mk) ht ha p7 (by simp)
  obtain ⟨m4, b1, b2, b3⟩ := pk_add2 ht a2 (by simp) (m 9 0)
  obtain ⟨m6, d1, d2, d3⟩ := pk_add4 ht b2 (by simp [pr2]) (m 9 1)
  obtain ⟨m8, e1, e2, e3⟩ := pk_add4 ht d2 (by simp [pr2, fr4]) (m 9 2)
  have c8 : CH (fun x y => cC t x y) m7 m8 := ((a3.tr b3).tr d3).tr e3
  have hh : (([] : List Int32) ++ [B8 128, B8 (tyC a + mkC mk)] ++ pr2 (m 9 0) ++ fr4 (m 9 1) ++ fr4 (m 9 2)) = hdr a mk (m 9 0) (m 9 1) (m 9 2) := by simp [hdr]
  rw [hh] at e2
  have h80 : m8 10 0 = m 10 0 := by rw [c8 10 0 (by omega), c7 10 0 (by omega)]
  have h81 : m8 10 1 = m 10 1 := by rw [c8 10 1 (by omega), c7 10 1 (by omega)]
  have hx8 : SR (m8 1 1) (m8 2) 64 xs := by
    rw [c8 1 1 (by omega), c7 1 1 (by omega)]
    exact hx.congr (fun i _ => by rw [c8 _ _ (by omega), c7 _ _ (by omega)])
  obtain ⟨m9, f1, f2, f3, f4, f5, f6⟩ := se_bc ht (by omega) ha hxs hx8 hk k16 h2 e2 (hdr_len _ _ _ _ _) (by rw [h80]; exact hv) (by rw [h81]; exact hi)
  rw [h80, h81] at f2 f3
  have h90 : m9 9 0 = nI n := by rw [f6 9 0 (by omega), c8 9 0 (by omega), c7 9 0 (by omega), h9]
  have h91 : m9 9 1 = m 9 1 := by rw [f6 9 1 (by omega), c8 9 1 (by omega), c7 9 1 (by omega)]
  obtain ⟨m11, em11⟩ : ∃ z, z = put (put m9 9 0 (nI ((n + 1) % 65536))) 9 1 (m 9 1 + nI k) := ⟨_, rfl⟩
  have c11 : CH (fun x y => x = 9 ∧ (y = 0 ∨ y = 1)) m9 m11 := by
    rw [em11]
    exact (CH.rf.put (by omega) _).put (by omega) _
  have x11 : SR (m11 1 1) (m11 (1 + 1)) (ln (1 + 1)) xs := by
    rw [c11 1 1 (by omega), f6 1 1 (by omega)]
    exact hx8.congr (fun i _ => by rw [c11 _ _ (by omega), f6 _ _ (by omega)])
  obtain ⟨m13, g1, g2, g3⟩ := sa_drop x11 (by decide) hk
  have cA : CH (fun x y => (x = 9 ∧ (y = 0 ∨ y = 1)) ∨ (x = 1 ∧ y = 1) ∨ x = 2) m9 m13 := (c11.mo (fun x y q => by omega)).tr (g3.mo (fun x y q => by omega))
  have cB : CH (fun x y => (x = 1 ∧ y = 1) ∨ x = 2 ∨ (x = 7 ∧ y = 1) ∨ x = 9 ∨ x = 10 ∨ x = t ∨ x = t + 1) m m13 := (((c7.mo (fun x y q => by omega)).tr (c8.mo (fun x y q => by omega))).tr (f6.mo (fun x y q => by omega))).tr (cA.mo (fun x y q => by omega))
  have pF : SR (m13 t 1) (m13 (t + 1)) 44 (pkt m a mk xs k) := by
    rw [cA t 1 (by omega)]
    exact f2.congr (fun i _ => cA _ _ (by omega))
  refine ⟨m13, ?_, g2, ?_, ⟨?_, ?_, ?_⟩, ⟨by rw [cA 10 0 (by omega)]; exact f3.1, by rw [cA 10 1 (by omega)]; exact f3.2⟩, by rw [cA 10 0 (by omega)]; exact f4, by rw [cA 10 1 (by omega)]; exact f5, cB.mo (fun x y q => by omega)⟩
  · unfold F_Gate_send F_Sender_pack
    rw [(can_ok ha k1 k16 h2 m mk).1, rd_some, if_neg (by decide), show F_Samples_size m 1 = some (m 1 1) from rfl, rd_some, if_pos (by rw [hx.1]; exact nI_le hk (by omega)), hnp, cal_some, om_so, gp_pos ht, a1, rd_some]
    rw [a3 9 0 (by omega), c7 9 0 (by omega), b1, rd_some, b3 9 1 (by omega), a3 9 1 (by omega), c7 9 1 (by omega), d1, rd_some, d3 9 2 (by omega), b3 9 2 (by omega), a3 9 2 (by omega), c7 9 2 (by omega), e1, rd_some]
    have h56 : F_Sender_pack_56 m9 (nI k) = some m11 := by
      unfold F_Sender_pack_56
      rw [h90, sq_cls hn, rd_some, bnd_eq, bnd_eq, show put m9 9 0 (nI ((n + 1) % 65536)) 9 1 = m9 9 1 by simp [put_at], h91, ← em11]
    by_cases q2 : a = 2
    · rw [if_pos q2] at f1 ⊢
      rw [f1, rd_some, h56, rd_some, g1, rd_some, show F_Packet_length m13 t = some (m13 t 1) from rfl, rd_some, pF.1]
    · rw [if_neg q2] at f1 ⊢
      rw [f1, rd_some, h56, rd_some, g1, rd_some, show F_Packet_length m13 t = some (m13 t 1) from rfl, rd_some, pF.1]
  · refine lc.app2 hf cB (fun x y q => by omega) ?_ ?_
    · rw [cA 7 1 (by omega), f6 7 1 (by omega), c8 7 1 (by omega)]
      exact h71
    · rw [← et, show 26 + 2 * π ps.length = t + 1 by omega]
      exact pF
  · rw [g3 9 0 (by omega), em11]
    simp [put_at]
  · rw [g3 9 1 (by omega), em11]
    simp [put_at]
  · rw [cA 9 2 (by omega), f6 9 2 (by omega), c8 9 2 (by omega), c7 9 2 (by omega)]
theorem se_mod (ha : (a = 0 ∨ a = 1) ∨ a = 3 ∨ a = 2) (k1 : 1 ≤ k) (k16 : k ≤ 16) (h2 : a = 2 → k % 2 = 0) (hxs : ∀ x ∈ xs, IsS x) (hx : SR (m 17 1) (m 19) 64 xs) (hk : k ≤ xs.length) (lm : LM m ps) (hf : ps.length < 8) (hn : n < 65536) (h5 : m 17 5 = nI n) (hi : ∃ n, n ≤ 88 ∧ m 17 9 = nI n) (h8 : I8 m) :
    ∃ m1, F_Model_send m a (nI k) mk = some (nI (hdr a mk (m 17 5) (m 17 6) (m 17 7) ++ bdy a (m 17 8) (m 17 9) xs k).length, m1) ∧ SR (m1 17 1) (m1 19) 64 (xs.drop k) ∧ LM m1 (ps ++ [hdr a mk (m 17 5) (m 17 6) (m 17 7) ++ bdy a (m 17 8) (m 17 9) xs k]) ∧ (m1 17 5 = nI ((n + 1) % 65536) ∧ m1 17 6 = m 17 6 + nI k ∧ m1 17 7 = m 17 7) ∧ (m1 17 8 = vAf a (m 17 8) (m 17 9) xs k ∧ m1 17 9 = iAf a (m 17 8) (m 17 9) xs k) ∧ CH (fun x y => (x = 17 ∧ (y = 1 ∨ (5 ≤ y ∧ y ≤ 10) ∨ y = 23 ∨ y = 24)) ∨ x = 19 ∨ (x = 21 ∧ y = ps.length) ∨ (x = 22 ∧ 44 * ps.length ≤ y ∧ y < 44 * ps.length + 44)) m m1 := by
  have hxl := hx.2.1
  obtain ⟨s, es⟩ : ∃ s, s = ps.length := ⟨_, rfl⟩
  have hs : s < 16 := by omega
  have gs : ¬ (nI s < 0 ∨ ln 21 ≤ (nI s).toNatClampNeg) := nI_in (N := 16) hs (by decide)
  obtain ⟨m3, em3⟩ : ∃ z, z = put m 21 s 0 := ⟨_, rfl⟩
  have c3 : CH (cM s) m m3 := by
    rw [em3]
    exact CH.rf.put (by omega) _
  have p3 : PM s m3 [] := by
    show SR (m3 21 s) (fun i => m3 22 (44 * s + i)) 44 []
    have : m3 21 s = 0 := by rw [em3]; simp [put_at]
    rw [this]
    exact SR.nil
  obtain ⟨m5, a1, a2, a3⟩ := mo_wr hs p3 (by simp) 128
  obtain ⟨m7, b1, b2, b3⟩ := mo_wr hs a2 (by simp) (tyC a + mkC mk)
  obtain ⟨m9, d1, d2, d3⟩ := mo_wr hs b2 (by simp) (m 17 5 >>> ((8 : Int32) &&& (31 : Int32)))
  obtain ⟨mB, e1, e2, e3⟩ := mo_wr hs d2 (by simp) (m 17 5)
  obtain ⟨mD, f1, f2, f3⟩ := mo_wr4 hs e2 (by simp) (m 17 6)
  obtain ⟨mF, g1, g2, g3⟩ := mo_wr4 hs f2 (by simp [fr4]) (m 17 7)
  have cF : CH (cM s) m mF := (((((c3.tr a3).tr b3).tr d3).tr e3).tr f3).tr g3
  have hh : (([] : List Int32) ++ [B8 128] ++ [B8 (tyC a + mkC mk)] ++ [B8 (m 17 5 >>> ((8 : Int32) &&& (31 : Int32)))] ++ [B8 (m 17 5)] ++ fr4 (m 17 6) ++ fr4 (m 17 7)) = hdr a mk (m 17 5) (m 17 6) (m 17 7) := by simp [hdr, pr2]
  rw [hh] at g2
  have xF : SR (mF 17 1) (mF 19) 64 xs := by
    rw [cF 17 1 (by omega)]
    exact hx.congr (fun i _ => cF _ _ (by omega))
  have v8 : mF 17 8 = m 17 8 := cF 17 8 (by omega)
  have v9 : mF 17 9 = m 17 9 := cF 17 9 (by omega)
  obtain ⟨mH, i1, i2, i3, i4⟩ := se_bm hs ha hxs xF hk k16 h2 g2 (hdr_len _ _ _ _ _) (fun i hi => by rw [cF 18 i (by omega)]; exact h8 i hi) (by rw [v9]; exact hi)
  rw [v8, v9] at i2 i3
  have cH : CH (fun x y => cM s x y ∨ (x = 17 ∧ (y = 8 ∨ y = 9 ∨ y = 23 ∨ y = 24))) m mH := (cF.mo (fun x y q => Or.inl q)).tr i4
  have e10 : mH 17 10 + 1 = nI (s + 1) := by rw [cH 17 10 (by omega), lm.1, nI_1, es]
  obtain ⟨mI, emI⟩ : ∃ z, z = put (put mH 17 10 (nI (s + 1))) 17 1 (nI (xs.length - k)) := ⟨_, rfl⟩
  have cI : CH (fun x y => x = 17 ∧ (y = 1 ∨ y = 10)) mH mI := by
    rw [emI]
    exact (CH.rf.put (by omega) _).put (by omega) _
  have e1' : put mH 17 10 (nI (s + 1)) 17 1 - nI k = nI (xs.length - k) := by
    rw [show put mH 17 10 (nI (s + 1)) 17 1 = mH 17 1 by simp [put_at], cH 17 1 (by omega), hx.1, pk_sub hk]
  obtain ⟨mJ, j1, j2, j3⟩ := mo_s201 (f := mI 19) (tot := xs.length - k) (n := k) (by omega) (nI s) (xs.length - k) 300 0 mI (by omega) (by omega) (by rw [emI]; simp [put_at]) (fun i hi => absurd hi (by omega)) (fun i _ => rfl)
  have hJ1 : mJ 17 1 = nI (xs.length - k) := by rw [j3 17 1 (by omega), emI]; simp [put_at]
  have hJ5 : mJ 17 5 = nI n := by rw [j3 17 5 (by omega), cI 17 5 (by omega), cH 17 5 (by omega), h5]
  have hJ6 : mJ 17 6 = m 17 6 := by rw [j3 17 6 (by omega), cI 17 6 (by omega), cH 17 6 (by omega)]
  obtain ⟨mK, emK⟩ : ∃ z, z = put (put mJ 17 5 (nI ((n + 1) % 65536))) 17 6 (m 17 6 + nI k) := ⟨_, rfl⟩
  have cK : CH (fun x y => x = 17 ∧ (y = 5 ∨ y = 6)) mJ mK := by
    rw [emK]
    exact (CH.rf.put (by omega) _).put (by omega) _
  have cL : CH (fun x y => (x = 17 ∧ (y = 1 ∨ y = 5 ∨ y = 6 ∨ y = 10)) ∨ x = 19) mH mK := ((cI.mo (fun x y q => by omega)).tr (j3.mo (fun x y q => by omega))).tr (cK.mo (fun x y q => by omega))
  have cT : CH (fun x y => cM s x y ∨ (x = 17 ∧ (y = 1 ∨ (5 ≤ y ∧ y ≤ 10) ∨ y = 23 ∨ y = 24)) ∨ x = 19) m mK := (cH.mo (fun x y q => by omega)).tr (cL.mo (fun x y q => by omega))
  have pK : PM s mK (hdr a mk (m 17 5) (m 17 6) (m 17 7) ++ bdy a (m 17 8) (m 17 9) xs k) := by
    show SR (mK 21 s) (fun i => mK 22 (44 * s + i)) 44 _
    rw [cL 21 s (by omega)]
    exact i2.congr (fun i _ => cL _ _ (by omega))
  have h252 : ∀ z : Int32, z = nI ((n + 1) % 65536) → F_Model_send_252 mJ (nI k) (nI s) z = some (nI (hdr a mk (m 17 5) (m 17 6) (m 17 7) ++ bdy a (m 17 8) (m 17 9) xs k).length, mK) := fun z ez => by
    unfold F_Model_send_252
    rw [ez, bnd_eq, bnd_eq, show put mJ 17 5 (nI ((n + 1) % 65536)) 17 6 = mJ 17 6 by simp [put_at], hJ6, ← emK, if_neg gs, nI_clamp (by omega), pK.1]
  have h123 : F_Model_send_123 m5 a (nI k) (nI s) (nI s) (tyC a) (mkC mk) = some (nI (hdr a mk (m 17 5) (m 17 6) (m 17 7) ++ bdy a (m 17 8) (m 17 9) xs k).length, mK) := by
    unfold F_Model_send_123
    rw [b1, rd_some, b3 17 5 (by omega), a3 17 5 (by omega), c3 17 5 (by omega), d1, rd_some, d3 17 5 (by omega), b3 17 5 (by omega), a3 17 5 (by omega), c3 17 5 (by omega), e1, rd_some]
    rw [e3 17 6 (by omega), d3 17 6 (by omega), b3 17 6 (by omega), a3 17 6 (by omega), c3 17 6 (by omega), f1, rd_some]
    rw [f3 17 7 (by omega), e3 17 7 (by omega), d3 17 7 (by omega), b3 17 7 (by omega), a3 17 7 (by omega), c3 17 7 (by omega), g1, rd_some, i1, rd_some, e10, bnd_eq, e1', bnd_eq, ← emI, show (0 : Int32) = nI 0 from nI_0.symm, j1]
    rw [F_Model_send_201, if_pos (by rw [hJ1]; exact Int32.le_refl _), hJ5]
    obtain ⟨q1, q2⟩ := sq_mod hn
    by_cases q : nI n = (65535 : Int32)
    · rw [if_pos q]
      exact h252 0 (q1 q).symm
    · rw [if_neg q]
      exact h252 _ (q2 q).symm
  refine ⟨mK, ?_, ?_, ?_, ⟨by rw [emK]; simp [put_at], by rw [emK]; simp [put_at], (cL 17 7 (by omega)).trans (cH 17 7 (by omega))⟩, ⟨?_, ?_⟩, cT.mo (fun x y q => by omega)⟩
  · rw [(can_ok ha k1 k16 h2 m mk).2]
    have h112 : F_Model_send_112 m5 a (nI k) mk (nI s) (nI s) (tyC a) = some (nI (hdr a mk (m 17 5) (m 17 6) (m 17 7) ++ bdy a (m 17 8) (m 17 9) xs k).length, mK) := by
      unfold F_Model_send_112
      unfold mkC at h123
      by_cases q : mk = 0
      · rw [if_pos q] at h123 ⊢
        exact h123
      · rw [if_neg q] at h123 ⊢
        exact h123
    unfold F_Model_send_34
    rw [if_pos (by rw [hx.1]; exact nI_le hk (by omega)), if_neg (by rw [lm.1, kEQ 8 8 rfl (by omega) (by decide)]; omega), lm.1, ← es, bnd_eq, if_neg gs, nI_clamp (by omega), ← em3, bnd_eq, a1, rd_some]
    unfold tyC at h112
    by_cases q0 : a = 0
    · rw [if_pos q0] at h112 ⊢
      exact h112
    · rw [if_neg q0] at h112 ⊢
      by_cases q1 : a = 1
      · rw [if_pos q1] at h112 ⊢
        exact h112
      · rw [if_neg q1] at h112 ⊢
        by_cases q2 : a = 2
        · rw [if_pos q2] at h112 ⊢
          exact h112
        · rw [if_neg q2] at h112 ⊢
          exact h112
  · rw [cK 17 1 (by omega), hJ1]
    refine hx.drop (fun i hi => ?_)
    rw [cK 19 i (by omega), j2 i hi, cI 19 _ (by omega), cH 19 _ (by omega)]
  · refine lm.app2 cT (fun x y q => by omega) ?_ ?_
    · rw [cK 17 10 (by omega), j3 17 10 (by omega), emI]
      rw [← es]
      simp [put_at]
    · rw [← es]
      exact pK
  · rw [cL 17 8 (by omega)]
    exact i3.1
  · rw [cL 17 9 (by omega)]
    exact i3.2
theorem st_send (h : Inv m) (a b mk : Int32) : Step m (F_Gate_send m a b mk) (fun m1 => F_Model_send m1 a b mk) := by
  obtain ⟨i1, i2, i3, ⟨ps, π, lb, lc, lm⟩, i5, i6, i8⟩ := id h
  obtain ⟨xs, hxs, x1, x2⟩ := i1
  have lb1 := lb.1
  have xl := x1.2.1
  by_cases hg : ((a = 0 ∨ a = 1) ∨ a = 3 ∨ a = 2) ∧ ∃ k, 1 ≤ k ∧ k ≤ 16 ∧ b = nI k ∧ (a = 2 → k % 2 = 0)
  · obtain ⟨ha, k, k1, k16, rfl, h2⟩ := hg
    by_cases hk : k ≤ xs.length
    · by_cases hf : ps.length < 8
      · obtain ⟨⟨q1, q2, q3⟩, ⟨q4, q5⟩, ⟨n, hn, q6⟩, q7, q8⟩ := id i5
        obtain ⟨m1, g1, g2, g3, g4, g5, g6, g7, g8⟩ := se_cls (mk := mk) ha k1 k16 h2 hxs x1 hk lc hf hn q6 q7 q8
        have lm1 : LM m1 ps := lm.cg lb.1 g8 (fun x y q => by omega)
        have x21 : SR (m1 17 1) (m1 19) 64 xs := by
          rw [g8 17 1 (by omega)]
          exact x2.congr (fun j _ => g8 _ _ (by omega))
        have i81 : I8 m1 := i8.cg g8 (fun x y q => by omega)
        obtain ⟨m2, f1, f2, f3, f4, f5, f6⟩ := se_mod (mk := mk) ha k1 k16 h2 hxs x21 hk lm1 hf hn (by rw [g8 17 5 (by omega), ← q1]; exact q6) (by rw [g8 17 9 (by omega), ← q5]; exact q8) i81
        have epk : hdr a mk (m1 17 5) (m1 17 6) (m1 17 7) ++ bdy a (m1 17 8) (m1 17 9) xs k = pkt m a mk xs k := by
          rw [g8 17 5 (by omega), g8 17 6 (by omega), g8 17 7 (by omega), g8 17 8 (by omega), g8 17 9 (by omega), ← q1, ← q2, ← q3, ← q4, ← q5]
          rfl
        rw [epk] at f1 f3
        rw [g8 17 8 (by omega), g8 17 9 (by omega), ← q4, ← q5] at f5
        rw [g8 17 6 (by omega), g8 17 7 (by omega), ← q2, ← q3] at f4
        have c : CH (fun x y => (x = 1 ∧ y = 1) ∨ x = 2 ∨ (x = 7 ∧ y = 1) ∨ x = 9 ∨ x = 10 ∨ (25 ≤ x ∧ x ≤ 40) ∨ (x = 17 ∧ (y = 1 ∨ (5 ≤ y ∧ y ≤ 10) ∨ y = 23 ∨ y = 24)) ∨ x = 19 ∨ (x = 21 ∧ y < 8) ∨ (x = 22 ∧ y < 352)) m m2 := (g8.mo (fun x y q => by omega)).tr (f6.mo (fun x y q => by omega))
        have lb' : LB (ps ++ [pkt m a mk xs k]) := lb.app hf (app_B (hdr_B _ _ _ _ _) (bdy_B _ _ _ _ _))
        refine ⟨_, m1, m2, g1, f1, ⟨xs.drop k, fun x hx => hxs x (List.mem_of_mem_drop hx), ?_, f2⟩, i2.cg c (fun x y q => by omega), i3.cg c (fun x y q => by omega), ⟨_, π, lb', g3.cg lb'.1 f6 (fun x y q => by omega), f3⟩, ?_, i6.cg c (fun x y q => by omega), i8.cg c (fun x y q => by omega)⟩
        · rw [f6 1 1 (by omega)]
          exact g2.congr (fun j _ => f6 _ _ (by omega))
        · unfold I5
          rw [f6 9 0 (by omega), f6 9 1 (by omega), f6 9 2 (by omega), f6 10 0 (by omega), f6 10 1 (by omega), f4.1, f4.2.1, f4.2.2, f5.1, f5.2]
          exact ⟨⟨g4.1, g4.2.1, g4.2.2⟩, g5, ⟨_, Nat.mod_lt _ (by decide), g4.1⟩, g6, g7⟩
      · have h8 : ps.length = 8 := by omega
        refine ⟨-3, m, m, ?_, ?_, h⟩
        · unfold F_Gate_send
          rw [(can_ok ha k1 k16 h2 m mk).1, rd_some, if_neg (by decide), show F_Samples_size m 1 = some (m 1 1) from rfl, rd_some, if_pos (by rw [x1.1]; exact nI_le hk (by omega)), lc.full h8, cal_some, om_no]
        · show F_Model_send m a (nI k) mk = _
          rw [(can_ok ha k1 k16 h2 m mk).2]
          unfold F_Model_send_34
          rw [if_pos (by rw [x2.1]; exact nI_le hk (by omega)), if_pos (by rw [lm.1, h8]; rfl)]
    · refine ⟨-2, m, m, ?_, ?_, h⟩
      · unfold F_Gate_send
        rw [(can_ok ha k1 k16 h2 m mk).1, rd_some, if_neg (by decide), show F_Samples_size m 1 = some (m 1 1) from rfl, rd_some, if_neg (by rw [x1.1]; exact nI_ge (by omega) (by omega))]
      · show F_Model_send m a (nI k) mk = _
        rw [(can_ok ha k1 k16 h2 m mk).2]
        unfold F_Model_send_34
        rw [if_neg (by rw [x2.1]; exact nI_ge (by omega) (by omega))]
  · refine ⟨-1, m, m, ?_, (can_bad a b hg m mk).2, h⟩
    unfold F_Gate_send
    rw [(can_bad a b hg m mk).1, rd_some, if_pos rfl]
end S3
