set_option maxHeartbeats 4000000 in
set_option maxRecDepth 100000 in
theorem B_law_18 {l : Launch} {ca : Nat → ClassId} {a : Nat → Nat} {b L : Nat} {xs : Nat → Int32} {m9 : Mem} (n : Nat) : ∀ {m0 : Mem} {l3 : Int32}   (hF : F_law_18 n L xs m0 l3 = some ((1 : Int32), m9)), WW l code 4 ret R_law room_1 ca a (EL a b L xs) 18 [some (.ref b), some (.ref (a 0)), some (.ref (a 17)), some (.int l3)] [] m0 := by
  induction n with
  | zero => intros; rename_i hF; rw [F_law_18] at hF; cases hF
  | succ n ih =>
    intro m0 l3  hF
    rw [F_law_18] at hF
    refine ww_iload_3 19 rfl (by decide +kernel) ?_
    refine ww_aload_0 20 rfl (by decide +kernel) ?_
    refine ww_slen 21 rfl (by decide +kernel) ?_
    refine ww_iconst 22 rfl (4) (4 : Int32) (by decide +kernel) (by decide) ?_
    refine ww_isub 23 rfl (by decide +kernel) ?_
    refine ww_icmp_gt 26 rfl (539) 562 (by decide +kernel) (by decide) (fun h => ?_) (fun h => ?_)
    · rw [if_pos h] at hF
      refine ww_iconst 563 rfl (1) (1 : Int32) (by decide +kernel) (by decide) ?_
      cases hF
      exact ww_lret (by decide +kernel)
    · rw [if_neg h] at hF
      refine ww_aload_0 27 rfl (by decide +kernel) ?_
      refine ww_iload_3 28 rfl (by decide +kernel) ?_
      obtain ⟨g1, hF⟩ := gd_at hF
      refine ww_sld 29 rfl (by decide +kernel) g1 ?_
      refine ww_bipush 31 rfl (15) (15 : Int32) (by decide +kernel) (by decide) ?_
      refine ww_iand 32 rfl (by decide +kernel) ?_
      by_cases h0 : ((xs (Int32.toNatClampNeg l3)) &&& (15 : Int32)) = (0 : Int32)
      · rw [if_pos h0] at hF
        refine ww_swIn (524) (0) (15) #[80, 113, 146, 169, 212, 271, 284, 317, 360, 393, 406, 429, 442, 455, 478, 501] 80 (0 : Int32) (80) 112 (by decide +kernel) h0 (by decide) (by decide) (by decide) (by decide) ?_
        refine ww_aload_1 113 rfl (by decide +kernel) ?_
        refine ww_aload_0 114 rfl (by decide +kernel) ?_
        refine ww_iload_3 115 rfl (by decide +kernel) ?_
        refine ww_iconst 116 rfl (1) (1 : Int32) (by decide +kernel) (by decide) ?_
        refine ww_iadd 117 rfl (by decide +kernel) ?_
        obtain ⟨g112, hF⟩ := gd_at hF
        refine ww_sld 118 rfl (by decide +kernel) g112 ?_
        refine ww_aload_0 119 rfl (by decide +kernel) ?_
        refine ww_iload_3 120 rfl (by decide +kernel) ?_
        refine ww_iconst 121 rfl (2) (2 : Int32) (by decide +kernel) (by decide) ?_
        refine ww_iadd 122 rfl (by decide +kernel) ?_
        obtain ⟨g113, hF⟩ := gd_at hF
        refine ww_sld 123 rfl (by decide +kernel) g113 ?_
        obtain ⟨r115, h114, hF⟩ := rd_at hF
        refine ww_cV2i 126 rfl 0 13 (by decide +kernel) mf_Gate_compress k_law_13 rfl (by decide) rfl ⟨by decide, by decide⟩ ⟨rfl, rfl⟩ (Nat.le_of_ble_eq_true rfl) (C_Gate_compress h114) ?_
        refine ww_aload_2 127 rfl (by decide +kernel) ?_
        refine ww_aload_0 128 rfl (by decide +kernel) ?_
        refine ww_iload_3 129 rfl (by decide +kernel) ?_
        refine ww_iconst 130 rfl (1) (1 : Int32) (by decide +kernel) (by decide) ?_
        refine ww_iadd 131 rfl (by decide +kernel) ?_
        refine ww_sld 132 rfl (by decide +kernel) g112 ?_
        refine ww_aload_0 133 rfl (by decide +kernel) ?_
        refine ww_iload_3 134 rfl (by decide +kernel) ?_
        refine ww_iconst 135 rfl (2) (2 : Int32) (by decide +kernel) (by decide) ?_
        refine ww_iadd 136 rfl (by decide +kernel) ?_
        refine ww_sld 137 rfl (by decide +kernel) g113 ?_
        obtain ⟨r117, h116, hF⟩ := rd_at hF
        refine ww_cV2i 140 rfl 8 17 (by decide +kernel) mf_Model_compress k_law_17 rfl (by decide) rfl ⟨by decide, by decide⟩ ⟨rfl, rfl⟩ (Nat.le_of_ble_eq_true rfl) (C_Model_compress h116) ?_
        refine ww_icmp_eq 143 rfl (416) 556 (by decide +kernel) (by decide) (fun h => ?_) (fun h => ?_)
        · rw [if_pos h] at hF
          refine ww_iinc_3 559 rfl (4) (4 : Int32) (by decide +kernel) (by decide) (by decide) ?_
          refine ww_goto (-541) 18 (by decide +kernel) (by decide) ?_
          exact ih hF
        · rw [if_neg h] at hF
          refine ww_iconst 144 rfl (0) (0 : Int32) (by decide +kernel) (by decide) ?_
          exact absurd (show some (0 : Int32) = some 1 from congrArg (fun o => o.map Prod.fst) hF) (by decide)
      · rw [if_neg h0] at hF
        by_cases h1 : ((xs (Int32.toNatClampNeg l3)) &&& (15 : Int32)) = (1 : Int32)
        · rw [if_pos h1] at hF
          refine ww_swIn (524) (0) (15) #[80, 113, 146, 169, 212, 271, 284, 317, 360, 393, 406, 429, 442, 455, 478, 501] 80 (1 : Int32) (113) 145 (by decide +kernel) h1 (by decide) (by decide) (by decide) (by decide) ?_
          refine ww_aload_1 146 rfl (by decide +kernel) ?_
          refine ww_aload_0 147 rfl (by decide +kernel) ?_
          refine ww_iload_3 148 rfl (by decide +kernel) ?_
          refine ww_iconst 149 rfl (1) (1 : Int32) (by decide +kernel) (by decide) ?_
          refine ww_iadd 150 rfl (by decide +kernel) ?_
          obtain ⟨g106, hF⟩ := gd_at hF
          refine ww_sld 151 rfl (by decide +kernel) g106 ?_
          refine ww_aload_0 152 rfl (by decide +kernel) ?_
          refine ww_iload_3 153 rfl (by decide +kernel) ?_
          refine ww_iconst 154 rfl (2) (2 : Int32) (by decide +kernel) (by decide) ?_
          refine ww_iadd 155 rfl (by decide +kernel) ?_
          obtain ⟨g107, hF⟩ := gd_at hF
          refine ww_sld 156 rfl (by decide +kernel) g107 ?_
          obtain ⟨r109, h108, hF⟩ := rd_at hF
          refine ww_cV2i 159 rfl 0 18 (by decide +kernel) mf_Gate_expand k_law_18 rfl (by decide) rfl ⟨by decide, by decide⟩ ⟨rfl, rfl⟩ (Nat.le_of_ble_eq_true rfl) (C_Gate_expand h108) ?_
          refine ww_aload_2 160 rfl (by decide +kernel) ?_
          refine ww_aload_0 161 rfl (by decide +kernel) ?_
          refine ww_iload_3 162 rfl (by decide +kernel) ?_
          refine ww_iconst 163 rfl (1) (1 : Int32) (by decide +kernel) (by decide) ?_
          refine ww_iadd 164 rfl (by decide +kernel) ?_
          refine ww_sld 165 rfl (by decide +kernel) g106 ?_
          refine ww_aload_0 166 rfl (by decide +kernel) ?_
          refine ww_iload_3 167 rfl (by decide +kernel) ?_
          refine ww_iconst 168 rfl (2) (2 : Int32) (by decide +kernel) (by decide) ?_
          refine ww_iadd 169 rfl (by decide +kernel) ?_
          refine ww_sld 170 rfl (by decide +kernel) g107 ?_
          obtain ⟨r111, h110, hF⟩ := rd_at hF
          refine ww_cV2i 173 rfl 8 21 (by decide +kernel) mf_Model_expand k_law_21 rfl (by decide) rfl ⟨by decide, by decide⟩ ⟨rfl, rfl⟩ (Nat.le_of_ble_eq_true rfl) (C_Model_expand h110) ?_
          refine ww_icmp_eq 176 rfl (383) 556 (by decide +kernel) (by decide) (fun h => ?_) (fun h => ?_)
          · rw [if_pos h] at hF
            refine ww_iinc_3 559 rfl (4) (4 : Int32) (by decide +kernel) (by decide) (by decide) ?_
            refine ww_goto (-541) 18 (by decide +kernel) (by decide) ?_
            exact ih hF
          · rw [if_neg h] at hF
            refine ww_iconst 177 rfl (0) (0 : Int32) (by decide +kernel) (by decide) ?_
            exact absurd (show some (0 : Int32) = some 1 from congrArg (fun o => o.map Prod.fst) hF) (by decide)
        · rw [if_neg h1] at hF
          by_cases h2 : ((xs (Int32.toNatClampNeg l3)) &&& (15 : Int32)) = (2 : Int32)
          · rw [if_pos h2] at hF
            refine ww_swIn (524) (0) (15) #[80, 113, 146, 169, 212, 271, 284, 317, 360, 393, 406, 429, 442, 455, 478, 501] 80 (2 : Int32) (146) 178 (by decide +kernel) h2 (by decide) (by decide) (by decide) (by decide) ?_
            refine ww_aload_1 179 rfl (by decide +kernel) ?_
            refine ww_aload_0 180 rfl (by decide +kernel) ?_
            refine ww_iload_3 181 rfl (by decide +kernel) ?_
            refine ww_iconst 182 rfl (1) (1 : Int32) (by decide +kernel) (by decide) ?_
            refine ww_iadd 183 rfl (by decide +kernel) ?_
            obtain ⟨g99, hF⟩ := gd_at hF
            refine ww_sld 184 rfl (by decide +kernel) g99 ?_
            obtain ⟨r101, m102, h100, hF⟩ := cal_at hF
            refine ww_cV1i 187 rfl 0 22 (by decide +kernel) mf_Gate_feed k_law_22 rfl (by decide) rfl ⟨by decide, by decide⟩ ⟨rfl, rfl⟩ (Nat.le_of_ble_eq_true rfl) (C_Gate_feed h100) ?_
            refine ww_aload_2 188 rfl (by decide +kernel) ?_
            refine ww_aload_0 189 rfl (by decide +kernel) ?_
            refine ww_iload_3 190 rfl (by decide +kernel) ?_
            refine ww_iconst 191 rfl (1) (1 : Int32) (by decide +kernel) (by decide) ?_
            refine ww_iadd 192 rfl (by decide +kernel) ?_
            refine ww_sld 193 rfl (by decide +kernel) g99 ?_
            obtain ⟨r104, m105, h103, hF⟩ := cal_at hF
            refine ww_cV1i 196 rfl 8 26 (by decide +kernel) mf_Model_feed k_law_26 rfl (by decide) rfl ⟨by decide, by decide⟩ ⟨rfl, rfl⟩ (Nat.le_of_ble_eq_true rfl) (C_Model_feed h103) ?_
            refine ww_icmp_eq 199 rfl (360) 556 (by decide +kernel) (by decide) (fun h => ?_) (fun h => ?_)
            · rw [if_pos h] at hF
              refine ww_iinc_3 559 rfl (4) (4 : Int32) (by decide +kernel) (by decide) (by decide) ?_
              refine ww_goto (-541) 18 (by decide +kernel) (by decide) ?_
              exact ih hF
            · rw [if_neg h] at hF
              refine ww_iconst 200 rfl (0) (0 : Int32) (by decide +kernel) (by decide) ?_
              exact absurd (show some (0 : Int32) = some 1 from congrArg (fun o => o.map Prod.fst) hF) (by decide)
          · rw [if_neg h2] at hF
            by_cases h3 : ((xs (Int32.toNatClampNeg l3)) &&& (15 : Int32)) = (3 : Int32)
            · rw [if_pos h3] at hF
              refine ww_swIn (524) (0) (15) #[80, 113, 146, 169, 212, 271, 284, 317, 360, 393, 406, 429, 442, 455, 478, 501] 80 (3 : Int32) (169) 201 (by decide +kernel) h3 (by decide) (by decide) (by decide) (by decide) ?_
              refine ww_aload_1 202 rfl (by decide +kernel) ?_
              refine ww_aload_0 203 rfl (by decide +kernel) ?_
              refine ww_iload_3 204 rfl (by decide +kernel) ?_
              refine ww_iconst 205 rfl (1) (1 : Int32) (by decide +kernel) (by decide) ?_
              refine ww_iadd 206 rfl (by decide +kernel) ?_
              obtain ⟨g90, hF⟩ := gd_at hF
              refine ww_sld 207 rfl (by decide +kernel) g90 ?_
              refine ww_aload_0 208 rfl (by decide +kernel) ?_
              refine ww_iload_3 209 rfl (by decide +kernel) ?_
              refine ww_iconst 210 rfl (2) (2 : Int32) (by decide +kernel) (by decide) ?_
              refine ww_iadd 211 rfl (by decide +kernel) ?_
              obtain ⟨g91, hF⟩ := gd_at hF
              refine ww_sld 212 rfl (by decide +kernel) g91 ?_
              refine ww_aload_0 213 rfl (by decide +kernel) ?_
              refine ww_iload_3 214 rfl (by decide +kernel) ?_
              refine ww_iconst 215 rfl (3) (3 : Int32) (by decide +kernel) (by decide) ?_
              refine ww_iadd 216 rfl (by decide +kernel) ?_
              obtain ⟨g92, hF⟩ := gd_at hF
              refine ww_sld 217 rfl (by decide +kernel) g92 ?_
              obtain ⟨r94, m95, h93, hF⟩ := cal_at hF
              refine ww_cV3i 220 rfl 0 27 (by decide +kernel) mf_Gate_begin k_law_27 rfl (by decide) rfl ⟨by decide, by decide⟩ ⟨rfl, rfl⟩ (Nat.le_of_ble_eq_true rfl) (C_Gate_begin h93) ?_
              refine ww_aload_2 221 rfl (by decide +kernel) ?_
              refine ww_aload_0 222 rfl (by decide +kernel) ?_
              refine ww_iload_3 223 rfl (by decide +kernel) ?_
              refine ww_iconst 224 rfl (1) (1 : Int32) (by decide +kernel) (by decide) ?_
              refine ww_iadd 225 rfl (by decide +kernel) ?_
              refine ww_sld 226 rfl (by decide +kernel) g90 ?_
              refine ww_aload_0 227 rfl (by decide +kernel) ?_
              refine ww_iload_3 228 rfl (by decide +kernel) ?_
              refine ww_iconst 229 rfl (2) (2 : Int32) (by decide +kernel) (by decide) ?_
              refine ww_iadd 230 rfl (by decide +kernel) ?_
              refine ww_sld 231 rfl (by decide +kernel) g91 ?_
              refine ww_aload_0 232 rfl (by decide +kernel) ?_
              refine ww_iload_3 233 rfl (by decide +kernel) ?_
              refine ww_iconst 234 rfl (3) (3 : Int32) (by decide +kernel) (by decide) ?_
              refine ww_iadd 235 rfl (by decide +kernel) ?_
              refine ww_sld 236 rfl (by decide +kernel) g92 ?_
              obtain ⟨r97, m98, h96, hF⟩ := cal_at hF
              refine ww_cV3i 239 rfl 8 31 (by decide +kernel) mf_Model_begin k_law_31 rfl (by decide) rfl ⟨by decide, by decide⟩ ⟨rfl, rfl⟩ (Nat.le_of_ble_eq_true rfl) (C_Model_begin h96) ?_
              refine ww_icmp_eq 242 rfl (317) 556 (by decide +kernel) (by decide) (fun h => ?_) (fun h => ?_)
              · rw [if_pos h] at hF
                refine ww_iinc_3 559 rfl (4) (4 : Int32) (by decide +kernel) (by decide) (by decide) ?_
                refine ww_goto (-541) 18 (by decide +kernel) (by decide) ?_
                exact ih hF
              · rw [if_neg h] at hF
                refine ww_iconst 243 rfl (0) (0 : Int32) (by decide +kernel) (by decide) ?_
                exact absurd (show some (0 : Int32) = some 1 from congrArg (fun o => o.map Prod.fst) hF) (by decide)
            · rw [if_neg h3] at hF
              by_cases h4 : ((xs (Int32.toNatClampNeg l3)) &&& (15 : Int32)) = (4 : Int32)
              · rw [if_pos h4] at hF
                refine ww_swIn (524) (0) (15) #[80, 113, 146, 169, 212, 271, 284, 317, 360, 393, 406, 429, 442, 455, 478, 501] 80 (4 : Int32) (212) 244 (by decide +kernel) h4 (by decide) (by decide) (by decide) (by decide) ?_
                refine ww_aload_1 245 rfl (by decide +kernel) ?_
                refine ww_aload_0 246 rfl (by decide +kernel) ?_
                refine ww_iload_3 247 rfl (by decide +kernel) ?_
                refine ww_iconst 248 rfl (1) (1 : Int32) (by decide +kernel) (by decide) ?_
                refine ww_iadd 249 rfl (by decide +kernel) ?_
                obtain ⟨g69, hF⟩ := gd_at hF
                refine ww_sld 250 rfl (by decide +kernel) g69 ?_
                refine ww_aload_0 251 rfl (by decide +kernel) ?_
                refine ww_iload_3 252 rfl (by decide +kernel) ?_
                refine ww_iconst 253 rfl (2) (2 : Int32) (by decide +kernel) (by decide) ?_
                refine ww_iadd 254 rfl (by decide +kernel) ?_
                obtain ⟨g70, hF⟩ := gd_at hF
                refine ww_sld 255 rfl (by decide +kernel) g70 ?_
                refine ww_aload_0 256 rfl (by decide +kernel) ?_
                refine ww_iload_3 257 rfl (by decide +kernel) ?_
                refine ww_iconst 258 rfl (3) (3 : Int32) (by decide +kernel) (by decide) ?_
                refine ww_iadd 259 rfl (by decide +kernel) ?_
                obtain ⟨g71, hF⟩ := gd_at hF
                refine ww_sld 260 rfl (by decide +kernel) g71 ?_
                refine ww_if_eq 263 rfl (7) 267 (by decide +kernel) (by decide) (fun h => ?_) (fun h => ?_)
                · rw [if_pos h] at hF
                  refine ww_iconst 268 rfl (0) (0 : Int32) (by decide +kernel) (by decide) ?_
                  obtain ⟨r73, m74, h72, hF⟩ := cal_at hF
                  refine ww_cV3i 271 rfl 0 32 (by decide +kernel) mf_Gate_send k_law_32 rfl (by decide) rfl ⟨by decide, by decide⟩ ⟨rfl, rfl⟩ (Nat.le_of_ble_eq_true rfl) (C_Gate_send h72) ?_
                  refine ww_aload_2 272 rfl (by decide +kernel) ?_
                  refine ww_aload_0 273 rfl (by decide +kernel) ?_
                  refine ww_iload_3 274 rfl (by decide +kernel) ?_
                  refine ww_iconst 275 rfl (1) (1 : Int32) (by decide +kernel) (by decide) ?_
                  refine ww_iadd 276 rfl (by decide +kernel) ?_
                  refine ww_sld 277 rfl (by decide +kernel) g69 ?_
                  refine ww_aload_0 278 rfl (by decide +kernel) ?_
                  refine ww_iload_3 279 rfl (by decide +kernel) ?_
                  refine ww_iconst 280 rfl (2) (2 : Int32) (by decide +kernel) (by decide) ?_
                  refine ww_iadd 281 rfl (by decide +kernel) ?_
                  refine ww_sld 282 rfl (by decide +kernel) g70 ?_
                  refine ww_aload_0 283 rfl (by decide +kernel) ?_
                  refine ww_iload_3 284 rfl (by decide +kernel) ?_
                  refine ww_iconst 285 rfl (3) (3 : Int32) (by decide +kernel) (by decide) ?_
                  refine ww_iadd 286 rfl (by decide +kernel) ?_
                  refine ww_sld 287 rfl (by decide +kernel) g71 ?_
                  refine ww_if_eq 290 rfl (7) 294 (by decide +kernel) (by decide) (fun h => ?_) (fun h => ?_)
                  · rw [if_pos h] at hF
                    refine ww_iconst 295 rfl (0) (0 : Int32) (by decide +kernel) (by decide) ?_
                    obtain ⟨r76, m77, h75, hF⟩ := cal_at hF
                    refine ww_cV3i 298 rfl 8 36 (by decide +kernel) mf_Model_send k_law_36 rfl (by decide) rfl ⟨by decide, by decide⟩ ⟨rfl, rfl⟩ (Nat.le_of_ble_eq_true rfl) (C_Model_send h75) ?_
                    refine ww_icmp_eq 301 rfl (258) 556 (by decide +kernel) (by decide) (fun h => ?_) (fun h => ?_)
                    · rw [if_pos h] at hF
                      refine ww_iinc_3 559 rfl (4) (4 : Int32) (by decide +kernel) (by decide) (by decide) ?_
                      refine ww_goto (-541) 18 (by decide +kernel) (by decide) ?_
                      exact ih hF
                    · rw [if_neg h] at hF
                      refine ww_iconst 302 rfl (0) (0 : Int32) (by decide +kernel) (by decide) ?_
                      exact absurd (show some (0 : Int32) = some 1 from congrArg (fun o => o.map Prod.fst) hF) (by decide)
                  · rw [if_neg h] at hF
                    refine ww_iconst 291 rfl (1) (1 : Int32) (by decide +kernel) (by decide) ?_
                    refine ww_goto (4) 295 (by decide +kernel) (by decide) ?_
                    obtain ⟨r79, m80, h78, hF⟩ := cal_at hF
                    refine ww_cV3i 298 rfl 8 36 (by decide +kernel) mf_Model_send k_law_36 rfl (by decide) rfl ⟨by decide, by decide⟩ ⟨rfl, rfl⟩ (Nat.le_of_ble_eq_true rfl) (C_Model_send h78) ?_
                    refine ww_icmp_eq 301 rfl (258) 556 (by decide +kernel) (by decide) (fun h => ?_) (fun h => ?_)
                    · rw [if_pos h] at hF
                      refine ww_iinc_3 559 rfl (4) (4 : Int32) (by decide +kernel) (by decide) (by decide) ?_
                      refine ww_goto (-541) 18 (by decide +kernel) (by decide) ?_
                      exact ih hF
                    · rw [if_neg h] at hF
                      refine ww_iconst 302 rfl (0) (0 : Int32) (by decide +kernel) (by decide) ?_
                      exact absurd (show some (0 : Int32) = some 1 from congrArg (fun o => o.map Prod.fst) hF) (by decide)
                · rw [if_neg h] at hF
                  refine ww_iconst 264 rfl (1) (1 : Int32) (by decide +kernel) (by decide) ?_
                  refine ww_goto (4) 268 (by decide +kernel) (by decide) ?_
                  obtain ⟨r82, m83, h81, hF⟩ := cal_at hF
                  refine ww_cV3i 271 rfl 0 32 (by decide +kernel) mf_Gate_send k_law_32 rfl (by decide) rfl ⟨by decide, by decide⟩ ⟨rfl, rfl⟩ (Nat.le_of_ble_eq_true rfl) (C_Gate_send h81) ?_
                  refine ww_aload_2 272 rfl (by decide +kernel) ?_
                  refine ww_aload_0 273 rfl (by decide +kernel) ?_
                  refine ww_iload_3 274 rfl (by decide +kernel) ?_
                  refine ww_iconst 275 rfl (1) (1 : Int32) (by decide +kernel) (by decide) ?_
                  refine ww_iadd 276 rfl (by decide +kernel) ?_
                  refine ww_sld 277 rfl (by decide +kernel) g69 ?_
                  refine ww_aload_0 278 rfl (by decide +kernel) ?_
                  refine ww_iload_3 279 rfl (by decide +kernel) ?_
                  refine ww_iconst 280 rfl (2) (2 : Int32) (by decide +kernel) (by decide) ?_
                  refine ww_iadd 281 rfl (by decide +kernel) ?_
                  refine ww_sld 282 rfl (by decide +kernel) g70 ?_
                  refine ww_aload_0 283 rfl (by decide +kernel) ?_
                  refine ww_iload_3 284 rfl (by decide +kernel) ?_
                  refine ww_iconst 285 rfl (3) (3 : Int32) (by decide +kernel) (by decide) ?_
                  refine ww_iadd 286 rfl (by decide +kernel) ?_
                  refine ww_sld 287 rfl (by decide +kernel) g71 ?_
                  refine ww_if_eq 290 rfl (7) 294 (by decide +kernel) (by decide) (fun h => ?_) (fun h => ?_)
                  · rw [if_pos h] at hF
                    refine ww_iconst 295 rfl (0) (0 : Int32) (by decide +kernel) (by decide) ?_
                    obtain ⟨r85, m86, h84, hF⟩ := cal_at hF
                    refine ww_cV3i 298 rfl 8 36 (by decide +kernel) mf_Model_send k_law_36 rfl (by decide) rfl ⟨by decide, by decide⟩ ⟨rfl, rfl⟩ (Nat.le_of_ble_eq_true rfl) (C_Model_send h84) ?_
                    refine ww_icmp_eq 301 rfl (258) 556 (by decide +kernel) (by decide) (fun h => ?_) (fun h => ?_)
                    · rw [if_pos h] at hF
                      refine ww_iinc_3 559 rfl (4) (4 : Int32) (by decide +kernel) (by decide) (by decide) ?_
                      refine ww_goto (-541) 18 (by decide +kernel) (by decide) ?_
                      exact ih hF
                    · rw [if_neg h] at hF
                      refine ww_iconst 302 rfl (0) (0 : Int32) (by decide +kernel) (by decide) ?_
                      exact absurd (show some (0 : Int32) = some 1 from congrArg (fun o => o.map Prod.fst) hF) (by decide)
                  · rw [if_neg h] at hF
                    refine ww_iconst 291 rfl (1) (1 : Int32) (by decide +kernel) (by decide) ?_
                    refine ww_goto (4) 295 (by decide +kernel) (by decide) ?_
                    obtain ⟨r88, m89, h87, hF⟩ := cal_at hF
                    refine ww_cV3i 298 rfl 8 36 (by decide +kernel) mf_Model_send k_law_36 rfl (by decide) rfl ⟨by decide, by decide⟩ ⟨rfl, rfl⟩ (Nat.le_of_ble_eq_true rfl) (C_Model_send h87) ?_
                    refine ww_icmp_eq 301 rfl (258) 556 (by decide +kernel) (by decide) (fun h => ?_) (fun h => ?_)
                    · rw [if_pos h] at hF
                      refine ww_iinc_3 559 rfl (4) (4 : Int32) (by decide +kernel) (by decide) (by decide) ?_
                      refine ww_goto (-541) 18 (by decide +kernel) (by decide) ?_
                      exact ih hF
                    · rw [if_neg h] at hF
                      refine ww_iconst 302 rfl (0) (0 : Int32) (by decide +kernel) (by decide) ?_
                      exact absurd (show some (0 : Int32) = some 1 from congrArg (fun o => o.map Prod.fst) hF) (by decide)
              · rw [if_neg h4] at hF
                by_cases h5 : ((xs (Int32.toNatClampNeg l3)) &&& (15 : Int32)) = (5 : Int32)
                · rw [if_pos h5] at hF
                  refine ww_swIn (524) (0) (15) #[80, 113, 146, 169, 212, 271, 284, 317, 360, 393, 406, 429, 442, 455, 478, 501] 80 (5 : Int32) (271) 303 (by decide +kernel) h5 (by decide) (by decide) (by decide) (by decide) ?_
                  refine ww_aload_1 304 rfl (by decide +kernel) ?_
                  obtain ⟨r66, h65, hF⟩ := rd_at hF
                  refine ww_cV0i 307 rfl 0 37 (by decide +kernel) mf_Gate_line k_law_37 rfl (by decide) rfl ⟨by decide, by decide⟩ ⟨rfl, rfl⟩ (Nat.le_of_ble_eq_true rfl) (C_Gate_line h65) ?_
                  refine ww_aload_2 308 rfl (by decide +kernel) ?_
                  obtain ⟨r68, h67, hF⟩ := rd_at hF
                  refine ww_cV0i 311 rfl 8 41 (by decide +kernel) mf_Model_line k_law_41 rfl (by decide) rfl ⟨by decide, by decide⟩ ⟨rfl, rfl⟩ (Nat.le_of_ble_eq_true rfl) (C_Model_line h67) ?_
                  refine ww_icmp_eq 314 rfl (245) 556 (by decide +kernel) (by decide) (fun h => ?_) (fun h => ?_)
                  · rw [if_pos h] at hF
                    refine ww_iinc_3 559 rfl (4) (4 : Int32) (by decide +kernel) (by decide) (by decide) ?_
                    refine ww_goto (-541) 18 (by decide +kernel) (by decide) ?_
                    exact ih hF
                  · rw [if_neg h] at hF
                    refine ww_iconst 315 rfl (0) (0 : Int32) (by decide +kernel) (by decide) ?_
                    exact absurd (show some (0 : Int32) = some 1 from congrArg (fun o => o.map Prod.fst) hF) (by decide)
                · rw [if_neg h5] at hF
                  by_cases h6 : ((xs (Int32.toNatClampNeg l3)) &&& (15 : Int32)) = (6 : Int32)
                  · rw [if_pos h6] at hF
                    refine ww_swIn (524) (0) (15) #[80, 113, 146, 169, 212, 271, 284, 317, 360, 393, 406, 429, 442, 455, 478, 501] 80 (6 : Int32) (284) 316 (by decide +kernel) h6 (by decide) (by decide) (by decide) (by decide) ?_
                    refine ww_aload_1 317 rfl (by decide +kernel) ?_
                    refine ww_aload_0 318 rfl (by decide +kernel) ?_
                    refine ww_iload_3 319 rfl (by decide +kernel) ?_
                    refine ww_iconst 320 rfl (1) (1 : Int32) (by decide +kernel) (by decide) ?_
                    refine ww_iadd 321 rfl (by decide +kernel) ?_
                    obtain ⟨g59, hF⟩ := gd_at hF
                    refine ww_sld 322 rfl (by decide +kernel) g59 ?_
                    refine ww_aload_0 323 rfl (by decide +kernel) ?_
                    refine ww_iload_3 324 rfl (by decide +kernel) ?_
                    refine ww_iconst 325 rfl (2) (2 : Int32) (by decide +kernel) (by decide) ?_
                    refine ww_iadd 326 rfl (by decide +kernel) ?_
                    obtain ⟨g60, hF⟩ := gd_at hF
                    refine ww_sld 327 rfl (by decide +kernel) g60 ?_
                    obtain ⟨r62, h61, hF⟩ := rd_at hF
                    refine ww_cV2i 330 rfl 0 42 (by decide +kernel) mf_Gate_byteAt k_law_42 rfl (by decide) rfl ⟨by decide, by decide⟩ ⟨rfl, rfl⟩ (Nat.le_of_ble_eq_true rfl) (C_Gate_byteAt h61) ?_
                    refine ww_aload_2 331 rfl (by decide +kernel) ?_
                    refine ww_aload_0 332 rfl (by decide +kernel) ?_
                    refine ww_iload_3 333 rfl (by decide +kernel) ?_
                    refine ww_iconst 334 rfl (1) (1 : Int32) (by decide +kernel) (by decide) ?_
                    refine ww_iadd 335 rfl (by decide +kernel) ?_
                    refine ww_sld 336 rfl (by decide +kernel) g59 ?_
                    refine ww_aload_0 337 rfl (by decide +kernel) ?_
                    refine ww_iload_3 338 rfl (by decide +kernel) ?_
                    refine ww_iconst 339 rfl (2) (2 : Int32) (by decide +kernel) (by decide) ?_
                    refine ww_iadd 340 rfl (by decide +kernel) ?_
                    refine ww_sld 341 rfl (by decide +kernel) g60 ?_
                    obtain ⟨r64, h63, hF⟩ := rd_at hF
                    refine ww_cV2i 344 rfl 8 45 (by decide +kernel) mf_Model_byteAt k_law_45 rfl (by decide) rfl ⟨by decide, by decide⟩ ⟨rfl, rfl⟩ (Nat.le_of_ble_eq_true rfl) (C_Model_byteAt h63) ?_
                    refine ww_icmp_eq 347 rfl (212) 556 (by decide +kernel) (by decide) (fun h => ?_) (fun h => ?_)
                    · rw [if_pos h] at hF
                      refine ww_iinc_3 559 rfl (4) (4 : Int32) (by decide +kernel) (by decide) (by decide) ?_
                      refine ww_goto (-541) 18 (by decide +kernel) (by decide) ?_
                      exact ih hF
                    · rw [if_neg h] at hF
                      refine ww_iconst 348 rfl (0) (0 : Int32) (by decide +kernel) (by decide) ?_
                      exact absurd (show some (0 : Int32) = some 1 from congrArg (fun o => o.map Prod.fst) hF) (by decide)
                  · rw [if_neg h6] at hF
                    by_cases h7 : ((xs (Int32.toNatClampNeg l3)) &&& (15 : Int32)) = (7 : Int32)
                    · rw [if_pos h7] at hF
                      refine ww_swIn (524) (0) (15) #[80, 113, 146, 169, 212, 271, 284, 317, 360, 393, 406, 429, 442, 455, 478, 501] 80 (7 : Int32) (317) 349 (by decide +kernel) h7 (by decide) (by decide) (by decide) (by decide) ?_
                      refine ww_aload_1 350 rfl (by decide +kernel) ?_
                      refine ww_aload_0 351 rfl (by decide +kernel) ?_
                      refine ww_iload_3 352 rfl (by decide +kernel) ?_
                      refine ww_iconst 353 rfl (1) (1 : Int32) (by decide +kernel) (by decide) ?_
                      refine ww_iadd 354 rfl (by decide +kernel) ?_
                      obtain ⟨g50, hF⟩ := gd_at hF
                      refine ww_sld 355 rfl (by decide +kernel) g50 ?_
                      refine ww_aload_0 356 rfl (by decide +kernel) ?_
                      refine ww_iload_3 357 rfl (by decide +kernel) ?_
                      refine ww_iconst 358 rfl (2) (2 : Int32) (by decide +kernel) (by decide) ?_
                      refine ww_iadd 359 rfl (by decide +kernel) ?_
                      obtain ⟨g51, hF⟩ := gd_at hF
                      refine ww_sld 360 rfl (by decide +kernel) g51 ?_
                      refine ww_aload_0 361 rfl (by decide +kernel) ?_
                      refine ww_iload_3 362 rfl (by decide +kernel) ?_
                      refine ww_iconst 363 rfl (3) (3 : Int32) (by decide +kernel) (by decide) ?_
                      refine ww_iadd 364 rfl (by decide +kernel) ?_
                      obtain ⟨g52, hF⟩ := gd_at hF
                      refine ww_sld 365 rfl (by decide +kernel) g52 ?_
                      obtain ⟨r54, m55, h53, hF⟩ := cal_at hF
                      refine ww_cV3i 368 rfl 0 46 (by decide +kernel) mf_Gate_poke k_law_46 rfl (by decide) rfl ⟨by decide, by decide⟩ ⟨rfl, rfl⟩ (Nat.le_of_ble_eq_true rfl) (C_Gate_poke h53) ?_
                      refine ww_aload_2 369 rfl (by decide +kernel) ?_
                      refine ww_aload_0 370 rfl (by decide +kernel) ?_
                      refine ww_iload_3 371 rfl (by decide +kernel) ?_
                      refine ww_iconst 372 rfl (1) (1 : Int32) (by decide +kernel) (by decide) ?_
                      refine ww_iadd 373 rfl (by decide +kernel) ?_
                      refine ww_sld 374 rfl (by decide +kernel) g50 ?_
                      refine ww_aload_0 375 rfl (by decide +kernel) ?_
                      refine ww_iload_3 376 rfl (by decide +kernel) ?_
                      refine ww_iconst 377 rfl (2) (2 : Int32) (by decide +kernel) (by decide) ?_
                      refine ww_iadd 378 rfl (by decide +kernel) ?_
                      refine ww_sld 379 rfl (by decide +kernel) g51 ?_
                      refine ww_aload_0 380 rfl (by decide +kernel) ?_
                      refine ww_iload_3 381 rfl (by decide +kernel) ?_
                      refine ww_iconst 382 rfl (3) (3 : Int32) (by decide +kernel) (by decide) ?_
                      refine ww_iadd 383 rfl (by decide +kernel) ?_
                      refine ww_sld 384 rfl (by decide +kernel) g52 ?_
                      obtain ⟨r57, m58, h56, hF⟩ := cal_at hF
                      refine ww_cV3i 387 rfl 8 49 (by decide +kernel) mf_Model_poke k_law_49 rfl (by decide) rfl ⟨by decide, by decide⟩ ⟨rfl, rfl⟩ (Nat.le_of_ble_eq_true rfl) (C_Model_poke h56) ?_
                      refine ww_icmp_eq 390 rfl (169) 556 (by decide +kernel) (by decide) (fun h => ?_) (fun h => ?_)
                      · rw [if_pos h] at hF
                        refine ww_iinc_3 559 rfl (4) (4 : Int32) (by decide +kernel) (by decide) (by decide) ?_
                        refine ww_goto (-541) 18 (by decide +kernel) (by decide) ?_
                        exact ih hF
                      · rw [if_neg h] at hF
                        refine ww_iconst 391 rfl (0) (0 : Int32) (by decide +kernel) (by decide) ?_
                        exact absurd (show some (0 : Int32) = some 1 from congrArg (fun o => o.map Prod.fst) hF) (by decide)
                    · rw [if_neg h7] at hF
                      by_cases h8 : ((xs (Int32.toNatClampNeg l3)) &&& (15 : Int32)) = (8 : Int32)
                      · rw [if_pos h8] at hF
                        refine ww_swIn (524) (0) (15) #[80, 113, 146, 169, 212, 271, 284, 317, 360, 393, 406, 429, 442, 455, 478, 501] 80 (8 : Int32) (360) 392 (by decide +kernel) h8 (by decide) (by decide) (by decide) (by decide) ?_
                        refine ww_aload_1 393 rfl (by decide +kernel) ?_
                        refine ww_aload_0 394 rfl (by decide +kernel) ?_
                        refine ww_iload_3 395 rfl (by decide +kernel) ?_
                        refine ww_iconst 396 rfl (1) (1 : Int32) (by decide +kernel) (by decide) ?_
                        refine ww_iadd 397 rfl (by decide +kernel) ?_
                        obtain ⟨g42, hF⟩ := gd_at hF
                        refine ww_sld 398 rfl (by decide +kernel) g42 ?_
                        refine ww_aload_0 399 rfl (by decide +kernel) ?_
                        refine ww_iload_3 400 rfl (by decide +kernel) ?_
                        refine ww_iconst 401 rfl (2) (2 : Int32) (by decide +kernel) (by decide) ?_
                        refine ww_iadd 402 rfl (by decide +kernel) ?_
                        obtain ⟨g43, hF⟩ := gd_at hF
                        refine ww_sld 403 rfl (by decide +kernel) g43 ?_
                        obtain ⟨r45, m46, h44, hF⟩ := cal_at hF
                        refine ww_cV2i 406 rfl 0 50 (by decide +kernel) mf_Gate_disturb k_law_50 rfl (by decide) rfl ⟨by decide, by decide⟩ ⟨rfl, rfl⟩ (Nat.le_of_ble_eq_true rfl) (C_Gate_disturb h44) ?_
                        refine ww_aload_2 407 rfl (by decide +kernel) ?_
                        refine ww_aload_0 408 rfl (by decide +kernel) ?_
                        refine ww_iload_3 409 rfl (by decide +kernel) ?_
                        refine ww_iconst 410 rfl (1) (1 : Int32) (by decide +kernel) (by decide) ?_
                        refine ww_iadd 411 rfl (by decide +kernel) ?_
                        refine ww_sld 412 rfl (by decide +kernel) g42 ?_
                        refine ww_aload_0 413 rfl (by decide +kernel) ?_
                        refine ww_iload_3 414 rfl (by decide +kernel) ?_
                        refine ww_iconst 415 rfl (2) (2 : Int32) (by decide +kernel) (by decide) ?_
                        refine ww_iadd 416 rfl (by decide +kernel) ?_
                        refine ww_sld 417 rfl (by decide +kernel) g43 ?_
                        obtain ⟨r48, m49, h47, hF⟩ := cal_at hF
                        refine ww_cV2i 420 rfl 8 54 (by decide +kernel) mf_Model_disturb k_law_54 rfl (by decide) rfl ⟨by decide, by decide⟩ ⟨rfl, rfl⟩ (Nat.le_of_ble_eq_true rfl) (C_Model_disturb h47) ?_
                        refine ww_icmp_eq 423 rfl (136) 556 (by decide +kernel) (by decide) (fun h => ?_) (fun h => ?_)
                        · rw [if_pos h] at hF
                          refine ww_iinc_3 559 rfl (4) (4 : Int32) (by decide +kernel) (by decide) (by decide) ?_
                          refine ww_goto (-541) 18 (by decide +kernel) (by decide) ?_
                          exact ih hF
                        · rw [if_neg h] at hF
                          refine ww_iconst 424 rfl (0) (0 : Int32) (by decide +kernel) (by decide) ?_
                          exact absurd (show some (0 : Int32) = some 1 from congrArg (fun o => o.map Prod.fst) hF) (by decide)
                      · rw [if_neg h8] at hF
                        by_cases h9 : ((xs (Int32.toNatClampNeg l3)) &&& (15 : Int32)) = (9 : Int32)
                        · rw [if_pos h9] at hF
                          refine ww_swIn (524) (0) (15) #[80, 113, 146, 169, 212, 271, 284, 317, 360, 393, 406, 429, 442, 455, 478, 501] 80 (9 : Int32) (393) 425 (by decide +kernel) h9 (by decide) (by decide) (by decide) (by decide) ?_
                          refine ww_aload_1 426 rfl (by decide +kernel) ?_
                          obtain ⟨r37, m38, h36, hF⟩ := cal_at hF
                          refine ww_cV0i 429 rfl 0 55 (by decide +kernel) mf_Gate_receive k_law_55 rfl (by decide) rfl ⟨by decide, by decide⟩ ⟨rfl, rfl⟩ (Nat.le_of_ble_eq_true rfl) (C_Gate_receive h36) ?_
                          refine ww_aload_2 430 rfl (by decide +kernel) ?_
                          obtain ⟨r40, m41, h39, hF⟩ := cal_at hF
                          refine ww_cV0i 433 rfl 8 58 (by decide +kernel) mf_Model_receive k_law_58 rfl (by decide) rfl ⟨by decide, by decide⟩ ⟨rfl, rfl⟩ (Nat.le_of_ble_eq_true rfl) (C_Model_receive h39) ?_
                          refine ww_icmp_eq 436 rfl (123) 556 (by decide +kernel) (by decide) (fun h => ?_) (fun h => ?_)
                          · rw [if_pos h] at hF
                            refine ww_iinc_3 559 rfl (4) (4 : Int32) (by decide +kernel) (by decide) (by decide) ?_
                            refine ww_goto (-541) 18 (by decide +kernel) (by decide) ?_
                            exact ih hF
                          · rw [if_neg h] at hF
                            refine ww_iconst 437 rfl (0) (0 : Int32) (by decide +kernel) (by decide) ?_
                            exact absurd (show some (0 : Int32) = some 1 from congrArg (fun o => o.map Prod.fst) hF) (by decide)
                        · rw [if_neg h9] at hF
                          by_cases h10 : ((xs (Int32.toNatClampNeg l3)) &&& (15 : Int32)) = (10 : Int32)
                          · rw [if_pos h10] at hF
                            refine ww_swIn (524) (0) (15) #[80, 113, 146, 169, 212, 271, 284, 317, 360, 393, 406, 429, 442, 455, 478, 501] 80 (10 : Int32) (406) 438 (by decide +kernel) h10 (by decide) (by decide) (by decide) (by decide) ?_
                            refine ww_aload_1 439 rfl (by decide +kernel) ?_
                            refine ww_aload_0 440 rfl (by decide +kernel) ?_
                            refine ww_iload_3 441 rfl (by decide +kernel) ?_
                            refine ww_iconst 442 rfl (1) (1 : Int32) (by decide +kernel) (by decide) ?_
                            refine ww_iadd 443 rfl (by decide +kernel) ?_
                            obtain ⟨g29, hF⟩ := gd_at hF
                            refine ww_sld 444 rfl (by decide +kernel) g29 ?_
                            obtain ⟨r31, m32, h30, hF⟩ := cal_at hF
                            refine ww_cV1i 447 rfl 0 59 (by decide +kernel) mf_Gate_prefill k_law_59 rfl (by decide) rfl ⟨by decide, by decide⟩ ⟨rfl, rfl⟩ (Nat.le_of_ble_eq_true rfl) (C_Gate_prefill h30) ?_
                            refine ww_aload_2 448 rfl (by decide +kernel) ?_
                            refine ww_aload_0 449 rfl (by decide +kernel) ?_
                            refine ww_iload_3 450 rfl (by decide +kernel) ?_
                            refine ww_iconst 451 rfl (1) (1 : Int32) (by decide +kernel) (by decide) ?_
                            refine ww_iadd 452 rfl (by decide +kernel) ?_
                            refine ww_sld 453 rfl (by decide +kernel) g29 ?_
                            obtain ⟨r34, m35, h33, hF⟩ := cal_at hF
                            refine ww_cV1i 456 rfl 8 62 (by decide +kernel) mf_Model_prefill k_law_62 rfl (by decide) rfl ⟨by decide, by decide⟩ ⟨rfl, rfl⟩ (Nat.le_of_ble_eq_true rfl) (C_Model_prefill h33) ?_
                            refine ww_icmp_eq 459 rfl (100) 556 (by decide +kernel) (by decide) (fun h => ?_) (fun h => ?_)
                            · rw [if_pos h] at hF
                              refine ww_iinc_3 559 rfl (4) (4 : Int32) (by decide +kernel) (by decide) (by decide) ?_
                              refine ww_goto (-541) 18 (by decide +kernel) (by decide) ?_
                              exact ih hF
                            · rw [if_neg h] at hF
                              refine ww_iconst 460 rfl (0) (0 : Int32) (by decide +kernel) (by decide) ?_
                              exact absurd (show some (0 : Int32) = some 1 from congrArg (fun o => o.map Prod.fst) hF) (by decide)
                          · rw [if_neg h10] at hF
                            by_cases h11 : ((xs (Int32.toNatClampNeg l3)) &&& (15 : Int32)) = (11 : Int32)
                            · rw [if_pos h11] at hF
                              refine ww_swIn (524) (0) (15) #[80, 113, 146, 169, 212, 271, 284, 317, 360, 393, 406, 429, 442, 455, 478, 501] 80 (11 : Int32) (429) 461 (by decide +kernel) h11 (by decide) (by decide) (by decide) (by decide) ?_
                              refine ww_aload_1 462 rfl (by decide +kernel) ?_
                              obtain ⟨r24, m25, h23, hF⟩ := cal_at hF
                              refine ww_cV0i 465 rfl 0 63 (by decide +kernel) mf_Gate_play k_law_63 rfl (by decide) rfl ⟨by decide, by decide⟩ ⟨rfl, rfl⟩ (Nat.le_of_ble_eq_true rfl) (C_Gate_play h23) ?_
                              refine ww_aload_2 466 rfl (by decide +kernel) ?_
                              obtain ⟨r27, m28, h26, hF⟩ := cal_at hF
                              refine ww_cV0i 469 rfl 8 66 (by decide +kernel) mf_Model_play k_law_66 rfl (by decide) rfl ⟨by decide, by decide⟩ ⟨rfl, rfl⟩ (Nat.le_of_ble_eq_true rfl) (C_Model_play h26) ?_
                              refine ww_icmp_eq 472 rfl (87) 556 (by decide +kernel) (by decide) (fun h => ?_) (fun h => ?_)
                              · rw [if_pos h] at hF
                                refine ww_iinc_3 559 rfl (4) (4 : Int32) (by decide +kernel) (by decide) (by decide) ?_
                                refine ww_goto (-541) 18 (by decide +kernel) (by decide) ?_
                                exact ih hF
                              · rw [if_neg h] at hF
                                refine ww_iconst 473 rfl (0) (0 : Int32) (by decide +kernel) (by decide) ?_
                                exact absurd (show some (0 : Int32) = some 1 from congrArg (fun o => o.map Prod.fst) hF) (by decide)
                            · rw [if_neg h11] at hF
                              by_cases h12 : ((xs (Int32.toNatClampNeg l3)) &&& (15 : Int32)) = (12 : Int32)
                              · rw [if_pos h12] at hF
                                refine ww_swIn (524) (0) (15) #[80, 113, 146, 169, 212, 271, 284, 317, 360, 393, 406, 429, 442, 455, 478, 501] 80 (12 : Int32) (442) 474 (by decide +kernel) h12 (by decide) (by decide) (by decide) (by decide) ?_
                                refine ww_aload_1 475 rfl (by decide +kernel) ?_
                                obtain ⟨r20, h19, hF⟩ := rd_at hF
                                refine ww_cV0i 478 rfl 0 67 (by decide +kernel) mf_Gate_output k_law_67 rfl (by decide) rfl ⟨by decide, by decide⟩ ⟨rfl, rfl⟩ (Nat.le_of_ble_eq_true rfl) (C_Gate_output h19) ?_
                                refine ww_aload_2 479 rfl (by decide +kernel) ?_
                                obtain ⟨r22, h21, hF⟩ := rd_at hF
                                refine ww_cV0i 482 rfl 8 70 (by decide +kernel) mf_Model_output k_law_70 rfl (by decide) rfl ⟨by decide, by decide⟩ ⟨rfl, rfl⟩ (Nat.le_of_ble_eq_true rfl) (C_Model_output h21) ?_
                                refine ww_icmp_eq 485 rfl (74) 556 (by decide +kernel) (by decide) (fun h => ?_) (fun h => ?_)
                                · rw [if_pos h] at hF
                                  refine ww_iinc_3 559 rfl (4) (4 : Int32) (by decide +kernel) (by decide) (by decide) ?_
                                  refine ww_goto (-541) 18 (by decide +kernel) (by decide) ?_
                                  exact ih hF
                                · rw [if_neg h] at hF
                                  refine ww_iconst 486 rfl (0) (0 : Int32) (by decide +kernel) (by decide) ?_
                                  exact absurd (show some (0 : Int32) = some 1 from congrArg (fun o => o.map Prod.fst) hF) (by decide)
                              · rw [if_neg h12] at hF
                                by_cases h13 : ((xs (Int32.toNatClampNeg l3)) &&& (15 : Int32)) = (13 : Int32)
                                · rw [if_pos h13] at hF
                                  refine ww_swIn (524) (0) (15) #[80, 113, 146, 169, 212, 271, 284, 317, 360, 393, 406, 429, 442, 455, 478, 501] 80 (13 : Int32) (455) 487 (by decide +kernel) h13 (by decide) (by decide) (by decide) (by decide) ?_
                                  refine ww_aload_1 488 rfl (by decide +kernel) ?_
                                  refine ww_aload_0 489 rfl (by decide +kernel) ?_
                                  refine ww_iload_3 490 rfl (by decide +kernel) ?_
                                  refine ww_iconst 491 rfl (1) (1 : Int32) (by decide +kernel) (by decide) ?_
                                  refine ww_iadd 492 rfl (by decide +kernel) ?_
                                  obtain ⟨g14, hF⟩ := gd_at hF
                                  refine ww_sld 493 rfl (by decide +kernel) g14 ?_
                                  obtain ⟨r16, h15, hF⟩ := rd_at hF
                                  refine ww_cV1i 496 rfl 0 71 (by decide +kernel) mf_Gate_sample k_law_71 rfl (by decide) rfl ⟨by decide, by decide⟩ ⟨rfl, rfl⟩ (Nat.le_of_ble_eq_true rfl) (C_Gate_sample h15) ?_
                                  refine ww_aload_2 497 rfl (by decide +kernel) ?_
                                  refine ww_aload_0 498 rfl (by decide +kernel) ?_
                                  refine ww_iload_3 499 rfl (by decide +kernel) ?_
                                  refine ww_iconst 500 rfl (1) (1 : Int32) (by decide +kernel) (by decide) ?_
                                  refine ww_iadd 501 rfl (by decide +kernel) ?_
                                  refine ww_sld 502 rfl (by decide +kernel) g14 ?_
                                  obtain ⟨r18, h17, hF⟩ := rd_at hF
                                  refine ww_cV1i 505 rfl 8 75 (by decide +kernel) mf_Model_sample k_law_75 rfl (by decide) rfl ⟨by decide, by decide⟩ ⟨rfl, rfl⟩ (Nat.le_of_ble_eq_true rfl) (C_Model_sample h17) ?_
                                  refine ww_icmp_eq 508 rfl (51) 556 (by decide +kernel) (by decide) (fun h => ?_) (fun h => ?_)
                                  · rw [if_pos h] at hF
                                    refine ww_iinc_3 559 rfl (4) (4 : Int32) (by decide +kernel) (by decide) (by decide) ?_
                                    refine ww_goto (-541) 18 (by decide +kernel) (by decide) ?_
                                    exact ih hF
                                  · rw [if_neg h] at hF
                                    refine ww_iconst 509 rfl (0) (0 : Int32) (by decide +kernel) (by decide) ?_
                                    exact absurd (show some (0 : Int32) = some 1 from congrArg (fun o => o.map Prod.fst) hF) (by decide)
                                · rw [if_neg h13] at hF
                                  by_cases h14 : ((xs (Int32.toNatClampNeg l3)) &&& (15 : Int32)) = (14 : Int32)
                                  · rw [if_pos h14] at hF
                                    refine ww_swIn (524) (0) (15) #[80, 113, 146, 169, 212, 271, 284, 317, 360, 393, 406, 429, 442, 455, 478, 501] 80 (14 : Int32) (478) 510 (by decide +kernel) h14 (by decide) (by decide) (by decide) (by decide) ?_
                                    refine ww_aload_1 511 rfl (by decide +kernel) ?_
                                    refine ww_aload_0 512 rfl (by decide +kernel) ?_
                                    refine ww_iload_3 513 rfl (by decide +kernel) ?_
                                    refine ww_iconst 514 rfl (1) (1 : Int32) (by decide +kernel) (by decide) ?_
                                    refine ww_iadd 515 rfl (by decide +kernel) ?_
                                    obtain ⟨g7, hF⟩ := gd_at hF
                                    refine ww_sld 516 rfl (by decide +kernel) g7 ?_
                                    obtain ⟨r9, m10, h8, hF⟩ := cal_at hF
                                    refine ww_cV1i 519 rfl 0 76 (by decide +kernel) mf_Gate_pass k_law_76 rfl (by decide) rfl ⟨by decide, by decide⟩ ⟨rfl, rfl⟩ (Nat.le_of_ble_eq_true rfl) (C_Gate_pass h8) ?_
                                    refine ww_aload_2 520 rfl (by decide +kernel) ?_
                                    refine ww_aload_0 521 rfl (by decide +kernel) ?_
                                    refine ww_iload_3 522 rfl (by decide +kernel) ?_
                                    refine ww_iconst 523 rfl (1) (1 : Int32) (by decide +kernel) (by decide) ?_
                                    refine ww_iadd 524 rfl (by decide +kernel) ?_
                                    refine ww_sld 525 rfl (by decide +kernel) g7 ?_
                                    obtain ⟨r12, m13, h11, hF⟩ := cal_at hF
                                    refine ww_cV1i 528 rfl 8 79 (by decide +kernel) mf_Model_pass k_law_79 rfl (by decide) rfl ⟨by decide, by decide⟩ ⟨rfl, rfl⟩ (Nat.le_of_ble_eq_true rfl) (C_Model_pass h11) ?_
                                    refine ww_icmp_eq 531 rfl (28) 556 (by decide +kernel) (by decide) (fun h => ?_) (fun h => ?_)
                                    · rw [if_pos h] at hF
                                      refine ww_iinc_3 559 rfl (4) (4 : Int32) (by decide +kernel) (by decide) (by decide) ?_
                                      refine ww_goto (-541) 18 (by decide +kernel) (by decide) ?_
                                      exact ih hF
                                    · rw [if_neg h] at hF
                                      refine ww_iconst 532 rfl (0) (0 : Int32) (by decide +kernel) (by decide) ?_
                                      exact absurd (show some (0 : Int32) = some 1 from congrArg (fun o => o.map Prod.fst) hF) (by decide)
                                  · rw [if_neg h14] at hF
                                    by_cases h15 : ((xs (Int32.toNatClampNeg l3)) &&& (15 : Int32)) = (15 : Int32)
                                    · rw [if_pos h15] at hF
                                      refine ww_swIn (524) (0) (15) #[80, 113, 146, 169, 212, 271, 284, 317, 360, 393, 406, 429, 442, 455, 478, 501] 80 (15 : Int32) (501) 533 (by decide +kernel) h15 (by decide) (by decide) (by decide) (by decide) ?_
                                      refine ww_aload_1 534 rfl (by decide +kernel) ?_
                                      refine ww_aload_0 535 rfl (by decide +kernel) ?_
                                      refine ww_iload_3 536 rfl (by decide +kernel) ?_
                                      refine ww_iconst 537 rfl (1) (1 : Int32) (by decide +kernel) (by decide) ?_
                                      refine ww_iadd 538 rfl (by decide +kernel) ?_
                                      obtain ⟨g2, hF⟩ := gd_at hF
                                      refine ww_sld 539 rfl (by decide +kernel) g2 ?_
                                      obtain ⟨r4, h3, hF⟩ := rd_at hF
                                      refine ww_cV1i 542 rfl 0 80 (by decide +kernel) mf_Gate_figure k_law_80 rfl (by decide) rfl ⟨by decide, by decide⟩ ⟨rfl, rfl⟩ (Nat.le_of_ble_eq_true rfl) (C_Gate_figure h3) ?_
                                      refine ww_aload_2 543 rfl (by decide +kernel) ?_
                                      refine ww_aload_0 544 rfl (by decide +kernel) ?_
                                      refine ww_iload_3 545 rfl (by decide +kernel) ?_
                                      refine ww_iconst 546 rfl (1) (1 : Int32) (by decide +kernel) (by decide) ?_
                                      refine ww_iadd 547 rfl (by decide +kernel) ?_
                                      refine ww_sld 548 rfl (by decide +kernel) g2 ?_
                                      obtain ⟨r6, h5, hF⟩ := rd_at hF
                                      refine ww_cV1i 551 rfl 8 83 (by decide +kernel) mf_Model_figure k_law_83 rfl (by decide) rfl ⟨by decide, by decide⟩ ⟨rfl, rfl⟩ (Nat.le_of_ble_eq_true rfl) (C_Model_figure h5) ?_
                                      refine ww_icmp_eq 554 rfl (5) 556 (by decide +kernel) (by decide) (fun h => ?_) (fun h => ?_)
                                      · rw [if_pos h] at hF
                                        refine ww_iinc_3 559 rfl (4) (4 : Int32) (by decide +kernel) (by decide) (by decide) ?_
                                        refine ww_goto (-541) 18 (by decide +kernel) (by decide) ?_
                                        exact ih hF
                                      · rw [if_neg h] at hF
                                        refine ww_iconst 555 rfl (0) (0 : Int32) (by decide +kernel) (by decide) ?_
                                        exact absurd (show some (0 : Int32) = some 1 from congrArg (fun o => o.map Prod.fst) hF) (by decide)
                                    · rw [if_neg h15] at hF
                                      refine ww_swOut (524) (0) (15) #[80, 113, 146, 169, 212, 271, 284, 317, 360, 393, 406, 429, 442, 455, 478, 501] 80 556 (by decide +kernel) ?_ (by decide) ?_
                                      · have := sw_ne h0 (n := 0) (by decide)
                                        have := sw_ne h1 (n := 1) (by decide)
                                        have := sw_ne h2 (n := 2) (by decide)
                                        have := sw_ne h3 (n := 3) (by decide)
                                        have := sw_ne h4 (n := 4) (by decide)
                                        have := sw_ne h5 (n := 5) (by decide)
                                        have := sw_ne h6 (n := 6) (by decide)
                                        have := sw_ne h7 (n := 7) (by decide)
                                        have := sw_ne h8 (n := 8) (by decide)
                                        have := sw_ne h9 (n := 9) (by decide)
                                        have := sw_ne h10 (n := 10) (by decide)
                                        have := sw_ne h11 (n := 11) (by decide)
                                        have := sw_ne h12 (n := 12) (by decide)
                                        have := sw_ne h13 (n := 13) (by decide)
                                        have := sw_ne h14 (n := 14) (by decide)
                                        have := sw_ne h15 (n := 15) (by decide)
                                        omega
                                      · refine ww_iinc_3 559 rfl (4) (4 : Int32) (by decide +kernel) (by decide) (by decide) ?_
                                        refine ww_goto (-541) 18 (by decide +kernel) (by decide) ?_
                                        exact ih hF
set_option maxHeartbeats 4000000 in
set_option maxRecDepth 100000 in
theorem B_law {l : Launch} {ca : Nat → ClassId} {a : Nat → Nat} {b L : Nat} {xs : Nat → Int32} {m9 : Mem} {m0 : Mem}  {z3 : Option Value}  (hF : F_law L xs m0 = some ((1 : Int32), m9)) : WW l code 4 ret R_law room_1 ca a (EL a b L xs) 16 [some (.ref b), some (.ref (a 0)), some (.ref (a 17)), z3] [] m0 := by
  unfold F_law at hF
  refine ww_iconst 17 rfl (0) (0 : Int32) (by decide +kernel) (by decide) ?_
  refine ww_istore_3 18 rfl (by decide +kernel) (by decide) ?_
  exact B_law_18 _ hF
