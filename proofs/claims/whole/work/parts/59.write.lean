-- WRITING A PACKET
def B8 (x : Int32) : Int32 := x &&& 255
theorem B8_B (x : Int32) : IsB (B8 x) := pk_andE x 8 (by decide)
abbrev PC (t : Nat) (m : Mem) (p : List Int32) : Prop := SR (m t 1) (m (t + 1)) 44 p
abbrev PM (s : Nat) (m : Mem) (p : List Int32) : Prop := SR (m 21 s) (fun i => m 22 (44 * s + i)) 44 p
abbrev cC (t : Nat) (x y : Nat) : Prop := (x = t ∧ y = 1) ∨ x = t + 1
abbrev cM (s : Nat) (x y : Nat) : Prop := (x = 21 ∧ y = s) ∨ (x = 22 ∧ 44 * s ≤ y ∧ y < 44 * s + 44)
section WR
variable {m : Mem} {t s : Nat} {p : List Int32}
theorem pk_add (ht : kd t = 3) (h : PC t m p) (hl : p.length < 44) (b : Int32) : ∃ m', F_Packet_addByte m t b = some m' ∧ PC t m' (p ++ [B8 b]) ∧ CH (cC t) m m' := by
  have l1 := ln_byt ht
  refine ⟨put (put m (t + 1) p.length (B8 b)) t 1 (m t 1 + 1), ?_, ?_, (CH.rf.put (by omega) _).put (by omega) _⟩
  · unfold F_Packet_addByte
    rw [if_neg (by rw [h.1]; exact kNGE 44 44 rfl hl (by decide)), if_neg (by rw [h.1, l1]; exact nI_in hl (by decide)), h.clamp (by decide)]
    simp only [bnd_eq]
    rw [show put m (t + 1) p.length (b &&& 255) t 1 = m t 1 by simp [put_at]]
    rfl
  · show SR (put (put m (t + 1) p.length (B8 b)) t 1 (m t 1 + 1) t 1) (put (put m (t + 1) p.length (B8 b)) t 1 (m t 1 + 1) (t + 1)) 44 _
    rw [show put (put m (t + 1) p.length (B8 b)) t 1 (m t 1 + 1) t 1 = m t 1 + 1 by simp [put_at], put_ne _ _ _ (by omega), put_row]
    exact h.push hl _
theorem mo_wr (hs : s < 16) (h : PM s m p) (hl : p.length < 44) (b : Int32) : ∃ m', F_Model_write m (nI s) b = some m' ∧ PM s m' (p ++ [B8 b]) ∧ CH (cM s) m m' := by
  obtain ⟨e1, e2, e3⟩ := at_44 (k := s) (j := p.length) hs hl
  refine ⟨put (put m 22 (44 * s + p.length) (B8 b)) 21 s (m 21 s + 1), ?_, ?_, (CH.rf.put (by omega) _).put (by omega) _⟩
  · unfold F_Model_write
    rw [if_neg (show ¬ (nI s < 0 ∨ ln 21 ≤ (nI s).toNatClampNeg) from nI_in (N := 16) hs (by decide)), nI_clamp (by omega), h.1, e1, if_neg e2, e3]
    simp only [bnd_eq]
    rw [show put m 22 (44 * s + p.length) (b &&& 255) 21 s = m 21 s by simp [put_at], h.1]
    rfl
  · show SR (put (put m 22 (44 * s + p.length) (B8 b)) 21 s (m 21 s + 1) 21 s) (fun i => put (put m 22 (44 * s + p.length) (B8 b)) 21 s (m 21 s + 1) 22 (44 * s + i)) 44 _
    have e4 : (fun i => put (put m 22 (44 * s + p.length) (B8 b)) 21 s (m 21 s + 1) 22 (44 * s + i)) = upd (fun i => m 22 (44 * s + i)) p.length (B8 b) := by
      funext i
      rw [put_at, if_neg (by decide), put_at, if_pos rfl, upd_at]
      by_cases q : i = p.length
      · rw [if_pos (by omega), if_pos q]
      · rw [if_neg (by omega), if_neg q]
    rw [show put (put m 22 (44 * s + p.length) (B8 b)) 21 s (m 21 s + 1) 21 s = m 21 s + 1 by simp [put_at], e4]
    exact h.push hl _
def pr2 (x : Int32) : List Int32 := [B8 (x >>> ((8 : Int32) &&& (31 : Int32))), B8 x]
def fr4 (x : Int32) : List Int32 := [B8 (x >>> ((24 : Int32) &&& (31 : Int32))), B8 (x >>> ((16 : Int32) &&& (31 : Int32))), B8 (x >>> ((8 : Int32) &&& (31 : Int32))), B8 x]
theorem sh24 (x : Int32) : (x >>> ((16 : Int32) &&& (31 : Int32))) >>> ((8 : Int32) &&& (31 : Int32)) = x >>> ((24 : Int32) &&& (31 : Int32)) := by
  apply Int32.toInt_inj.mp
  rw [Jvm.Kit.i32_shr _ _ (k := 8) (by decide), Jvm.Kit.i32_shr _ _ (k := 16) (by decide), Jvm.Kit.i32_shr _ _ (k := 24) (by decide)]
  omega
theorem pk_add2 (ht : kd t = 3) (h : PC t m p) (hl : p.length + 2 ≤ 44) (b : Int32) : ∃ m', F_Packet_addPair m t b = some m' ∧ PC t m' (p ++ pr2 b) ∧ CH (cC t) m m' := by
  obtain ⟨m1, g1, g2, g3⟩ := pk_add ht h (by omega) (b >>> ((8 : Int32) &&& (31 : Int32)))
  obtain ⟨m2, f1, f2, f3⟩ := pk_add ht g2 (by simp; omega) b
  refine ⟨m2, ?_, by simpa [pr2] using f2, g3.tr f3⟩
  unfold F_Packet_addPair
  rw [g1, rd_some, f1, rd_some]
theorem pk_add4 (ht : kd t = 3) (h : PC t m p) (hl : p.length + 4 ≤ 44) (b : Int32) : ∃ m', F_Packet_addFour m t b = some m' ∧ PC t m' (p ++ fr4 b) ∧ CH (cC t) m m' := by
  obtain ⟨m1, g1, g2, g3⟩ := pk_add2 ht h (by omega) (b >>> ((16 : Int32) &&& (31 : Int32)))
  obtain ⟨m2, f1, f2, f3⟩ := pk_add2 ht g2 (by simp [pr2]; omega) b
  refine ⟨m2, ?_, ?_, g3.tr f3⟩
  · unfold F_Packet_addFour
    rw [g1, rd_some, f1, rd_some]
  · unfold pr2 at f2
    rw [sh24] at f2
    simpa [fr4] using f2
theorem mo_wr4 (hs : s < 16) (h : PM s m p) (hl : p.length + 4 ≤ 44) (b : Int32) : ∃ m', F_Model_writeWord m (nI s) b = some m' ∧ PM s m' (p ++ fr4 b) ∧ CH (cM s) m m' := by
  obtain ⟨m1, g1, g2, g3⟩ := mo_wr hs h (by omega) (b >>> ((24 : Int32) &&& (31 : Int32)))
  obtain ⟨m2, f1, f2, f3⟩ := mo_wr hs g2 (by simp; omega) (b >>> ((16 : Int32) &&& (31 : Int32)))
  obtain ⟨m3, k1, k2, k3⟩ := mo_wr hs f2 (by simp; omega) (b >>> ((8 : Int32) &&& (31 : Int32)))
  obtain ⟨m4, l1, l2, l3⟩ := mo_wr hs k2 (by simp; omega) b
  refine ⟨m4, ?_, by simpa [fr4] using l2, ((g3.tr f3).tr k3).tr l3⟩
  unfold F_Model_writeWord
  rw [g1, rd_some, f1, rd_some, k1, rd_some, l1, rd_some]
end WR
theorem take_cons {xs : List Int32} {j : Nat} (h : j < xs.length) (d : Nat) : (xs.drop j).take (d + 1) = xs.getD j 0 :: (xs.drop (j + 1)).take d := by
  have e : xs.getD j 0 = xs[j] := by simp [List.getD_eq_getElem?_getD, h]
  rw [List.drop_eq_getElem_cons h, List.take_succ_cons, e]
theorem getD_S {xs : List Int32} (hxs : ∀ x ∈ xs, IsS x) {j : Nat} (h : j < xs.length) : IsS (xs.getD j 0) := by
  have e : xs.getD j 0 = xs[j] := by simp [List.getD_eq_getElem?_getD, h]
  rw [e]
  exact hxs _ (List.getElem_mem h)
/-- a sample's bytes, of the codings 0, 1 and 3 -/
def bo (c x : Int32) : List Int32 := if c = 3 then pr2 x else [B8 (encI c x)]
def bod (c : Int32) (xs : List Int32) : List Int32 := xs.flatMap (bo c)
theorem bo_len (c x : Int32) : (bo c x).length ≤ 2 := by
  unfold bo pr2
  split <;> simp
theorem pl_cls {t : Nat} (ht : kd t = 3) (h25 : 25 ≤ t) {c : Int32} (hc : (c = 0 ∨ c = 1) ∨ c = 3) {xs : List Int32} (hxs : ∀ x ∈ xs, IsS x) {cnt : Nat} (hcn : cnt ≤ xs.length) : ∀ (d n j : Nat) (m : Mem) (p : List Int32), cnt = j + d → d < n → SR (m 1 1) (m 2) 64 xs → PC t m p → p.length + (bod c ((xs.drop j).take d)).length ≤ 44 →
    ∃ m', F_Sender_packPlain_3 n m t c 1 (nI cnt) (nI j) = some m' ∧ PC t m' (p ++ bod c ((xs.drop j).take d)) ∧ CH (cC t) m m' := by
  intro d
  induction d with
  | zero =>
    intro n j m p e hn hx hp hr
    obtain ⟨n, rfl⟩ : ∃ q, n = q + 1 := ⟨n - 1, by omega⟩
    refine ⟨m, ?_, by simpa [bod] using hp, CH.rf⟩
    rw [F_Sender_packPlain_3, if_pos (by rw [e, Nat.add_zero]; exact Int32.le_refl _)]
  | succ d ih =>
    intro n j m p e hn hx hp hr
    obtain ⟨n, rfl⟩ : ∃ q, n = q + 1 := ⟨n - 1, by omega⟩
    have hj : j < xs.length := by omega
    have hxl := hx.2.1
    have hx' : SR (m 1 1) (m (1 + 1)) (ln (1 + 1)) xs := hx
    rw [take_cons hj] at hr ⊢
    have hb : bod c (xs.getD j 0 :: (xs.drop (j + 1)).take d) = bo c (xs.getD j 0) ++ bod c ((xs.drop (j + 1)).take d) := rfl
    rw [hb, List.length_append] at hr
    have key : ∃ m1, (if c = (3 : Int32) then rd (F_Packet_addPair m t (xs.getD j 0)) (fun m8 => some m8) else rd (F_Intervals_codeOf c (xs.getD j 0)) (fun r4 => rd (F_Packet_addByte m t r4) (fun m6 => some m6))) = some m1 ∧ PC t m1 (p ++ bo c (xs.getD j 0)) ∧ CH (cC t) m m1 := by
      rcases hc with hc | hc
      · have h3 : ¬ c = 3 := by rcases hc with rfl | rfl <;> decide
        have hbo : bo c (xs.getD j 0) = [B8 (encI c (xs.getD j 0))] := by
          unfold bo
          rw [if_neg h3]
        rw [hbo] at hr ⊢
        obtain ⟨m1, g1, g2, g3⟩ := pk_add ht hp (by simp at hr; omega) (encI c (xs.getD j 0))
        exact ⟨m1, by rw [if_neg h3, (enc_ok hc (getD_S hxs hj)).1, rd_some, g1, rd_some], g2, g3⟩
      · have hbo : bo c (xs.getD j 0) = pr2 (xs.getD j 0) := by
          unfold bo
          rw [if_pos hc]
        rw [hbo] at hr ⊢
        obtain ⟨m1, g1, g2, g3⟩ := pk_add2 ht hp (by simp [pr2] at hr; omega) (xs.getD j 0)
        exact ⟨m1, by rw [if_pos hc, g1, rd_some], g2, g3⟩
    obtain ⟨m1, g1, g2, g3⟩ := key
    have hx1 : SR (m1 1 1) (m1 2) 64 xs := by
      rw [g3 1 1 (by omega)]
      exact hx.congr (fun i _ => g3 _ _ (by omega))
    obtain ⟨m2, f1, f2, f3⟩ := ih n (j + 1) m1 (p ++ bo c (xs.getD j 0)) (by omega) (by omega) hx1 g2 (by simp only [List.length_append]; omega)
    refine ⟨m2, ?_, by rw [hb]; simpa using f2, g3.tr f3⟩
    rw [F_Sender_packPlain_3, if_neg (nI_ge (by omega) (by omega)), sa_get hx' (by decide) hj, rd_some]
    by_cases h3 : c = 3
    · rw [if_pos h3] at g1 ⊢
      obtain ⟨m9, a1, a2⟩ := rd_at g1
      cases a2
      rw [a1, rd_some, show nI j + (1 : Int32) = nI (j + 1) from nI_1 j]
      exact f1
    · rw [if_neg h3] at g1 ⊢
      obtain ⟨r9, a0, g1⟩ := rd_at g1
      obtain ⟨m9, a1, a2⟩ := rd_at g1
      cases a2
      rw [a0, rd_some, a1, rd_some, show nI j + (1 : Int32) = nI (j + 1) from nI_1 j]
      exact f1
/-- what the reference does behind the samples -/
def fin8 (m : Mem) : Mem := put (put m 17 8 (m 17 23)) 17 9 (m 17 24)
theorem sm_end {m : Mem} {s c cnt u : Int32} {j : Int32} (n : Nat) (h : cnt ≤ j) : F_Model_samples_63 (n + 1) m s c cnt u j = some (fin8 m) := by
  rw [F_Model_samples_63, if_pos h]
  simp only [bnd_eq]
  rw [show put m 17 8 (m 17 23) 17 24 = m 17 24 by simp [put_at]]
  rfl
theorem pl_mod {s : Nat} (hs : s < 16) {c u : Int32} (hc : (c = 0 ∨ c = 1) ∨ c = 3) {xs : List Int32} (hxs : ∀ x ∈ xs, IsS x) {cnt : Nat} (hcn : cnt ≤ xs.length) : ∀ (d n j : Nat) (m : Mem) (p : List Int32), cnt = j + d → d < n → SR (m 17 1) (m 19) 64 xs → PM s m p → p.length + (bod c ((xs.drop j).take d)).length ≤ 44 →
    ∃ m', F_Model_samples_63 n m (nI s) c (nI cnt) u (nI j) = some (fin8 m') ∧ PM s m' (p ++ bod c ((xs.drop j).take d)) ∧ CH (cM s) m m' := by
  have l19 : ln 19 = 64 := rfl
  intro d
  induction d with
  | zero =>
    intro n j m p e hn hx hp hr
    obtain ⟨n, rfl⟩ : ∃ q, n = q + 1 := ⟨n - 1, by omega⟩
    exact ⟨m, sm_end n (by rw [e, Nat.add_zero]; exact Int32.le_refl _), by simpa [bod] using hp, CH.rf⟩
  | succ d ih =>
    intro n j m p e hn hx hp hr
    obtain ⟨n, rfl⟩ : ∃ q, n = q + 1 := ⟨n - 1, by omega⟩
    have hj : j < xs.length := by omega
    have hxl := hx.2.1
    rw [take_cons hj] at hr ⊢
    have hb : bod c (xs.getD j 0 :: (xs.drop (j + 1)).take d) = bo c (xs.getD j 0) ++ bod c ((xs.drop (j + 1)).take d) := rfl
    rw [hb, List.length_append] at hr
    have st : ∀ m1, PM s m1 (p ++ bo c (xs.getD j 0)) → CH (cM s) m m1 → ∃ m', F_Model_samples_63 n m1 (nI s) c (nI cnt) u (nI (j + 1)) = some (fin8 m') ∧ PM s m' (p ++ (bo c (xs.getD j 0) ++ bod c ((xs.drop (j + 1)).take d))) ∧ CH (cM s) m m' := fun m1 g2 g3 => by
      have hx1 : SR (m1 17 1) (m1 19) 64 xs := by
        rw [g3 17 1 (by omega)]
        exact hx.congr (fun i _ => g3 _ _ (by omega))
      obtain ⟨m2, f1, f2, f3⟩ := ih n (j + 1) m1 (p ++ bo c (xs.getD j 0)) (by omega) (by omega) hx1 g2 (by simp only [List.length_append]; omega)
      exact ⟨m2, f1, by simpa using f2, g3.tr f3⟩
    have hd : F_Model_samples_63 (n + 1) m (nI s) c (nI cnt) u (nI j) = if (2 : Int32) ≤ c then (if c = (3 : Int32) then rd (F_Model_write m (nI s) (xs.getD j 0 >>> ((8 : Int32) &&& (31 : Int32)))) (fun m22 => rd (F_Model_write m22 (nI s) (xs.getD j 0)) (fun m24 => F_Model_samples_63 n m24 (nI s) c (nI cnt) u (nI (j + 1)))) else none) else rd (F_Model_compress c (xs.getD j 0)) (fun r26 => rd (F_Model_write m (nI s) r26) (fun m28 => F_Model_samples_63 n m28 (nI s) c (nI cnt) u (nI (j + 1)))) := by
      rw [F_Model_samples_63, if_neg (nI_ge (by omega) (by omega)), if_neg (nI_in (by omega) (by omega)), nI_clamp (by omega), hx.2.2 j hj, bnd_eq, show nI j + (1 : Int32) = nI (j + 1) from nI_1 j]
      rcases hc with hc | hc
      · have h2 : ¬ (2 : Int32) ≤ c := by rcases hc with rfl | rfl <;> decide
        rw [if_neg h2, if_neg h2]
      · subst hc
        rw [if_pos (by decide), if_pos rfl, if_pos (by decide), if_pos rfl]
    rw [hd, hb]
    rcases hc with hc | hc
    · have h2 : ¬ (2 : Int32) ≤ c := by rcases hc with rfl | rfl <;> decide
      have h3 : ¬ c = 3 := by rcases hc with rfl | rfl <;> decide
      have hbo : bo c (xs.getD j 0) = [B8 (encI c (xs.getD j 0))] := by
        unfold bo
        rw [if_neg h3]
      rw [hbo] at hr st ⊢
      obtain ⟨m1, g1, g2, g3⟩ := mo_wr hs hp (by simp at hr; omega) (encI c (xs.getD j 0))
      rw [if_neg h2, (enc_ok hc (getD_S hxs hj)).2.1, rd_some, g1, rd_some]
      exact st m1 g2 g3
    · subst hc
      have hbo : bo 3 (xs.getD j 0) = pr2 (xs.getD j 0) := rfl
      rw [hbo] at hr st ⊢
      obtain ⟨m1, g1, g2, g3⟩ := mo_wr hs hp (by simp [pr2] at hr; omega) (xs.getD j 0 >>> ((8 : Int32) &&& (31 : Int32)))
      obtain ⟨m2, k1, k2, k3⟩ := mo_wr hs g2 (by simp [pr2] at hr ⊢; omega) (xs.getD j 0)
      rw [if_pos (by decide), if_pos rfl, g1, rd_some, k1, rd_some]
      exact st m2 (by simpa [pr2] using k2) (g3.tr k3)
