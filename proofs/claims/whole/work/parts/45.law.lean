/-! the law -/
def sv (sc : ax_S) (i : Int) : Int := (sc.2 i.toNat).toInt
theorem sv_b (sc : ax_S) (i : Int) : I32 (sv sc i) := ⟨Int32.le_toInt _, by have := Int32.toInt_lt (sc.2 i.toNat); unfold sv; omega⟩
theorem z_sld {sc : ax_S} {k pc q : Nat} {ls : List (Option Value)} {st : List Value} {h : ax_H} {K : ax_K} {o : Nat} {i : Int} (h3 : sc.1 ≤ 2050) (h1 : 0 ≤ i) (h2 : i < sc.1) (g0 : decode (g_m k).2.1 pc = .ok (.iaload, 1)) (g1 : pc + 1 = q) (p0 : Ex sc k q ls (.int (zi (sv sc i)) :: st) h K) : Ex sc k pc ls (.int (zi i) :: .retAddr o :: st) h K := by
  refine x_sld g0 g1 (zi_in h1 h2 (by omega)) ?_
  rw [zi_c h1 (by omega)]
  have e : zi (sv sc i) = sc.2 i.toNat := Int32.ofInt_toInt _
  rw [← e]
  exact p0
theorem z_slen {sc : ax_S} {k pc q : Nat} {ls : List (Option Value)} {st : List Value} {h : ax_H} {K : ax_K} {o : Nat} (g0 : decode (g_m k).2.1 pc = .ok (.arraylength, 1)) (g1 : pc + 1 = q) (p0 : Ex sc k q ls (.int (zi sc.1) :: st) h K) : Ex sc k pc ls (.retAddr o :: st) h K := x_slen g0 g1 (by rw [zi_nI]; exact p0)
def cellI (sc : ax_S) (k : Int) : Int := if k < sc.1 then sv sc k else 0
theorem cell_b (sc : ax_S) (k : Int) : I32 (cellI sc k) := by
  unfold cellI
  split
  · exact sv_b sc k
  · exact ⟨by decide, by decide⟩
set_option maxHeartbeats 4000000 in
theorem c_cell {sc : ax_S} {h : ax_H} {K : ax_K} {j : Int} (h3 : sc.1 ≤ 2050) (hj : 0 ≤ j ∧ j ≤ 1) (k : K (some (.int (zi (cellI sc j)))) h) : Ex sc 63 0 (ax_en 63 [.retAddr 0, .int (zi j)]) [] h K := by
  show Ex sc 63 0 [some (.retAddr 0), some (.int (zi j))] [] h K
  refine xild_1 (q := 1) d_63_0 rfl ?_
  refine xsld_0 (q := 2) d_63_1 rfl ?_
  refine z_slen (q := 3) d_63_2 rfl ?_
  refine x_icmp_ge (q := 6) (t := 12) d_63_3 (by decide) rfl (fun c3 => ?_) (fun c3 => ?_)
  · rw [zi_le (by omega) (by omega) (by omega) (by omega)] at c3
    rw [show cellI sc j = 0 from if_neg (by omega)] at k
    refine x_iconst (q := 13) (v := zi (0)) d_63_12 rfl rfl ?_
    refine x_iret d_63_13 rfl rfl ?_
    exact k
  · rw [zi_le (by omega) (by omega) (by omega) (by omega)] at c3
    rw [show cellI sc j = sv sc j from if_pos (by omega)] at k
    refine xsld_0 (q := 7) d_63_6 rfl ?_
    refine xild_1 (q := 8) d_63_7 rfl ?_
    refine z_sld h3 (by omega) (by omega) (q := 9) d_63_8 rfl ?_
    refine x_goto (t := 13) d_63_9 (by decide) ?_
    refine x_iret d_63_13 rfl rfl ?_
    exact k
/-- the class from I F and the reference from J G answer alike, and Q holds behind them -/
def Same (sc : ax_S) (Q : (Nat → Int) → (Nat → Nat → Int) → (Nat → Int) → (Nat → Nat → Int) → Prop) (σ : Nat → ax_C) (zc zt : Nat) (vs : List Value) (I : Nat → Int) (F : Nat → Nat → Int) (J : Nat → Int) (G : Nat → Nat → Int) : Prop :=
  ∀ K1 : ax_K, (∀ (r : Int) (I' : Nat → Int) (F' : Nat → Nat → Int), (∀ K2 : ax_K, (∀ (J' : Nat → Int) (G' : Nat → Nat → Int), Q I' F' J' G' → K2 (some (.int (zi r))) (mg (vg σ I' F') J' G', 38, 0, 0)) → Ex sc zt 0 (ax_en zt (.ref 22 :: vs)) [] (mg (vg σ I' F') J G, 38, 0, 0) K2) → K1 (some (.int (zi r))) (vg (mg σ J G) I' F', 38, 0, 0)) → Ex sc zc 0 (ax_en zc (.ref 0 :: vs)) [] (vg (mg σ J G) I F, 38, 0, 0) K1
set_option maxHeartbeats 4000000 in
theorem w_part {sc : ax_S} {σ : Nat → ax_C} {I : Nat → Int} {F : Nat → Nat → Int} {J : Nat → Int} {G : Nat → Nat → Int} {bc bs : Nat} {K : ax_K} {Q : (Nat → Int) → (Nat → Nat → Int) → (Nat → Int) → (Nat → Nat → Int) → Prop} {i : Int} (hi : 2 ≤ i) (hi4 : i + 4 ≤ sc.1) (hL : sc.1 ≤ 2050) (hS : Same sc Q σ 4 65 [.int (zi (sv sc (i + 1))), .int (zi (sv sc (i + 2)))] I F J G)
    (kk : ∀ (I' : Nat → Int) (F' : Nat → Nat → Int) (J' : Nat → Int) (G' : Nat → Nat → Int), Q I' F' J' G' → Ex sc 109 674 [some (.retAddr 0), some (.ref 0), some (.ref 22), some (.int (zi i))] [] (vg (mg σ J' G') I' F', 38, bc, bs) K) : Ex sc 109 148 [some (.retAddr 0), some (.ref 0), some (.ref 22), some (.int (zi i))] [] (vg (mg σ J G) I F, 38, bc, bs) K := by
  refine xald_1 (q := 149) d_109_148 rfl ?_
  refine xsld_0 (q := 150) d_109_149 rfl ?_
  refine xild_3 (q := 151) d_109_150 rfl ?_
  refine x_iconst (q := 152) (v := zi (1)) d_109_151 rfl rfl ?_
  refine z_iadd (q := 153) d_109_152 rfl ?_
  refine z_sld hL (by omega) (by omega) (q := 154) d_109_153 rfl ?_
  refine xsld_0 (q := 155) d_109_154 rfl ?_
  refine xild_3 (q := 156) d_109_155 rfl ?_
  refine x_iconst (q := 157) (v := zi (2)) d_109_156 rfl rfl ?_
  refine z_iadd (q := 158) d_109_157 rfl ?_
  refine z_sld hL (by omega) (by omega) (q := 159) d_109_158 rfl ?_
  refine xcV2 (q := 162) d_109_159 rfl lk_L_21 mo_4 ⟨by decide +kernel, by decide +kernel⟩ (by simp [Value.category]) (by decide +kernel) (by simp [Value.category]) (by decide) rfl ?_
  refine hS _ (fun r I1 F1 h1 => ?_)
  dsimp only [ax_ps]
  rw [vg_mg]
  refine xald_2 (q := 163) d_109_162 rfl ?_
  refine xsld_0 (q := 164) d_109_163 rfl ?_
  refine xild_3 (q := 165) d_109_164 rfl ?_
  refine x_iconst (q := 166) (v := zi (1)) d_109_165 rfl rfl ?_
  refine z_iadd (q := 167) d_109_166 rfl ?_
  refine z_sld hL (by omega) (by omega) (q := 168) d_109_167 rfl ?_
  refine xsld_0 (q := 169) d_109_168 rfl ?_
  refine xild_3 (q := 170) d_109_169 rfl ?_
  refine x_iconst (q := 171) (v := zi (2)) d_109_170 rfl rfl ?_
  refine z_iadd (q := 172) d_109_171 rfl ?_
  refine z_sld hL (by omega) (by omega) (q := 173) d_109_172 rfl ?_
  refine xcV2 (q := 176) d_109_173 rfl lk_L_25 mo_65 ⟨by decide +kernel, by decide +kernel⟩ (by simp [Value.category]) (by decide +kernel) (by simp [Value.category]) (by decide) rfl ?_
  refine h1 _ (fun J1 G1 hq => ?_)
  dsimp only [ax_ps]
  rw [← vg_mg]
  refine x_icmp_eq (q := 179) (t := 674) d_109_176 (by decide) rfl (fun c176 => ?_) (fun c176 => ?_)
  · exact kk _ _ _ _ hq
  · exact absurd rfl c176
set_option maxHeartbeats 4000000 in
theorem w_add {sc : ax_S} {σ : Nat → ax_C} {I : Nat → Int} {F : Nat → Nat → Int} {J : Nat → Int} {G : Nat → Nat → Int} {bc bs : Nat} {K : ax_K} {Q : (Nat → Int) → (Nat → Nat → Int) → (Nat → Int) → (Nat → Nat → Int) → Prop} {i : Int} (hi : 2 ≤ i) (hi4 : i + 4 ≤ sc.1) (hL : sc.1 ≤ 2050) (hS : Same sc Q σ 6 67 [] I F J G)
    (kk : ∀ (I' : Nat → Int) (F' : Nat → Nat → Int) (J' : Nat → Int) (G' : Nat → Nat → Int), Q I' F' J' G' → Ex sc 109 674 [some (.retAddr 0), some (.ref 0), some (.ref 22), some (.int (zi i))] [] (vg (mg σ J' G') I' F', 38, bc, bs) K) : Ex sc 109 181 [some (.retAddr 0), some (.ref 0), some (.ref 22), some (.int (zi i))] [] (vg (mg σ J G) I F, 38, bc, bs) K := by
  refine xald_1 (q := 182) d_109_181 rfl ?_
  refine xcV0 (q := 185) d_109_182 rfl lk_L_26 mo_6 ⟨by decide +kernel, by decide +kernel⟩  (by decide +kernel) (by simp [Value.category]) (by decide) rfl ?_
  refine hS _ (fun r I1 F1 h1 => ?_)
  dsimp only [ax_ps]
  rw [vg_mg]
  refine xald_2 (q := 186) d_109_185 rfl ?_
  refine xcV0 (q := 189) d_109_186 rfl lk_L_30 mo_67 ⟨by decide +kernel, by decide +kernel⟩  (by decide +kernel) (by simp [Value.category]) (by decide) rfl ?_
  refine h1 _ (fun J1 G1 hq => ?_)
  dsimp only [ax_ps]
  rw [← vg_mg]
  refine x_icmp_eq (q := 192) (t := 674) d_109_189 (by decide) rfl (fun c189 => ?_) (fun c189 => ?_)
  · exact kk _ _ _ _ hq
  · exact absurd rfl c189
set_option maxHeartbeats 4000000 in
theorem w_take {sc : ax_S} {σ : Nat → ax_C} {I : Nat → Int} {F : Nat → Nat → Int} {J : Nat → Int} {G : Nat → Nat → Int} {bc bs : Nat} {K : ax_K} {Q : (Nat → Int) → (Nat → Nat → Int) → (Nat → Int) → (Nat → Nat → Int) → Prop} {i : Int} (hi : 2 ≤ i) (hi4 : i + 4 ≤ sc.1) (hL : sc.1 ≤ 2050) (hS : Same sc Q σ 33 69 [.int (zi (sv sc (i + 1)))] I F J G)
    (kk : ∀ (I' : Nat → Int) (F' : Nat → Nat → Int) (J' : Nat → Int) (G' : Nat → Nat → Int), Q I' F' J' G' → Ex sc 109 674 [some (.retAddr 0), some (.ref 0), some (.ref 22), some (.int (zi i))] [] (vg (mg σ J' G') I' F', 38, bc, bs) K) : Ex sc 109 194 [some (.retAddr 0), some (.ref 0), some (.ref 22), some (.int (zi i))] [] (vg (mg σ J G) I F, 38, bc, bs) K := by
  refine xald_1 (q := 195) d_109_194 rfl ?_
  refine xsld_0 (q := 196) d_109_195 rfl ?_
  refine xild_3 (q := 197) d_109_196 rfl ?_
  refine x_iconst (q := 198) (v := zi (1)) d_109_197 rfl rfl ?_
  refine z_iadd (q := 199) d_109_198 rfl ?_
  refine z_sld hL (by omega) (by omega) (q := 200) d_109_199 rfl ?_
  refine xcV1 (q := 203) d_109_200 rfl lk_L_31 mo_33 ⟨by decide +kernel, by decide +kernel⟩ (by simp [Value.category]) (by decide +kernel) (by simp [Value.category]) (by decide) rfl ?_
  refine hS _ (fun r I1 F1 h1 => ?_)
  dsimp only [ax_ps]
  rw [vg_mg]
  refine xald_2 (q := 204) d_109_203 rfl ?_
  refine xsld_0 (q := 205) d_109_204 rfl ?_
  refine xild_3 (q := 206) d_109_205 rfl ?_
  refine x_iconst (q := 207) (v := zi (1)) d_109_206 rfl rfl ?_
  refine z_iadd (q := 208) d_109_207 rfl ?_
  refine z_sld hL (by omega) (by omega) (q := 209) d_109_208 rfl ?_
  refine xcV1 (q := 212) d_109_209 rfl lk_L_35 mo_69 ⟨by decide +kernel, by decide +kernel⟩ (by simp [Value.category]) (by decide +kernel) (by simp [Value.category]) (by decide) rfl ?_
  refine h1 _ (fun J1 G1 hq => ?_)
  dsimp only [ax_ps]
  rw [← vg_mg]
  refine x_icmp_eq (q := 215) (t := 674) d_109_212 (by decide) rfl (fun c212 => ?_) (fun c212 => ?_)
  · exact kk _ _ _ _ hq
  · exact absurd rfl c212
set_option maxHeartbeats 4000000 in
theorem w_remove {sc : ax_S} {σ : Nat → ax_C} {I : Nat → Int} {F : Nat → Nat → Int} {J : Nat → Int} {G : Nat → Nat → Int} {bc bs : Nat} {K : ax_K} {Q : (Nat → Int) → (Nat → Nat → Int) → (Nat → Int) → (Nat → Nat → Int) → Prop} {i : Int} (hi : 2 ≤ i) (hi4 : i + 4 ≤ sc.1) (hL : sc.1 ≤ 2050) (hS : Same sc Q σ 34 71 [.int (zi (sv sc (i + 1)))] I F J G)
    (kk : ∀ (I' : Nat → Int) (F' : Nat → Nat → Int) (J' : Nat → Int) (G' : Nat → Nat → Int), Q I' F' J' G' → Ex sc 109 674 [some (.retAddr 0), some (.ref 0), some (.ref 22), some (.int (zi i))] [] (vg (mg σ J' G') I' F', 38, bc, bs) K) : Ex sc 109 217 [some (.retAddr 0), some (.ref 0), some (.ref 22), some (.int (zi i))] [] (vg (mg σ J G) I F, 38, bc, bs) K := by
  refine xald_1 (q := 218) d_109_217 rfl ?_
  refine xsld_0 (q := 219) d_109_218 rfl ?_
  refine xild_3 (q := 220) d_109_219 rfl ?_
  refine x_iconst (q := 221) (v := zi (1)) d_109_220 rfl rfl ?_
  refine z_iadd (q := 222) d_109_221 rfl ?_
  refine z_sld hL (by omega) (by omega) (q := 223) d_109_222 rfl ?_
  refine xcV1 (q := 226) d_109_223 rfl lk_L_36 mo_34 ⟨by decide +kernel, by decide +kernel⟩ (by simp [Value.category]) (by decide +kernel) (by simp [Value.category]) (by decide) rfl ?_
  refine hS _ (fun r I1 F1 h1 => ?_)
  dsimp only [ax_ps]
  rw [vg_mg]
  refine xald_2 (q := 227) d_109_226 rfl ?_
  refine xsld_0 (q := 228) d_109_227 rfl ?_
  refine xild_3 (q := 229) d_109_228 rfl ?_
  refine x_iconst (q := 230) (v := zi (1)) d_109_229 rfl rfl ?_
  refine z_iadd (q := 231) d_109_230 rfl ?_
  refine z_sld hL (by omega) (by omega) (q := 232) d_109_231 rfl ?_
  refine xcV1 (q := 235) d_109_232 rfl lk_L_39 mo_71 ⟨by decide +kernel, by decide +kernel⟩ (by simp [Value.category]) (by decide +kernel) (by simp [Value.category]) (by decide) rfl ?_
  refine h1 _ (fun J1 G1 hq => ?_)
  dsimp only [ax_ps]
  rw [← vg_mg]
  refine x_icmp_eq (q := 238) (t := 674) d_109_235 (by decide) rfl (fun c235 => ?_) (fun c235 => ?_)
  · exact kk _ _ _ _ hq
  · exact absurd rfl c235
set_option maxHeartbeats 4000000 in
theorem w_bar {sc : ax_S} {σ : Nat → ax_C} {I : Nat → Int} {F : Nat → Nat → Int} {J : Nat → Int} {G : Nat → Nat → Int} {bc bs : Nat} {K : ax_K} {Q : (Nat → Int) → (Nat → Nat → Int) → (Nat → Int) → (Nat → Nat → Int) → Prop} {i : Int} (hi : 2 ≤ i) (hi4 : i + 4 ≤ sc.1) (hL : sc.1 ≤ 2050) (hS : ∀ b : Int, (b = 0 ∨ b = 1) → Same sc Q σ 35 72 [.int (zi (sv sc (i + 1))), .int (zi b)] I F J G)
    (kk : ∀ (I' : Nat → Int) (F' : Nat → Nat → Int) (J' : Nat → Int) (G' : Nat → Nat → Int), Q I' F' J' G' → Ex sc 109 674 [some (.retAddr 0), some (.ref 0), some (.ref 22), some (.int (zi i))] [] (vg (mg σ J' G') I' F', 38, bc, bs) K) : Ex sc 109 240 [some (.retAddr 0), some (.ref 0), some (.ref 22), some (.int (zi i))] [] (vg (mg σ J G) I F, 38, bc, bs) K := by
  have hsb := sv_b sc (i + 2)
  refine xald_1 (q := 241) d_109_240 rfl ?_
  refine xsld_0 (q := 242) d_109_241 rfl ?_
  refine xild_3 (q := 243) d_109_242 rfl ?_
  refine x_iconst (q := 244) (v := zi (1)) d_109_243 rfl rfl ?_
  refine z_iadd (q := 245) d_109_244 rfl ?_
  refine z_sld hL (by omega) (by omega) (q := 246) d_109_245 rfl ?_
  refine xsld_0 (q := 247) d_109_246 rfl ?_
  refine xild_3 (q := 248) d_109_247 rfl ?_
  refine x_iconst (q := 249) (v := zi (2)) d_109_248 rfl rfl ?_
  refine z_iadd (q := 250) d_109_249 rfl ?_
  refine z_sld hL (by omega) (by omega) (q := 251) d_109_250 rfl ?_
  refine x_if_eq (q := 254) (t := 258) d_109_251 (by decide) rfl (fun c251 => ?_) (fun c251 => ?_)
  · rw [zi_eq0 (by omega) (by omega)] at c251
    refine x_iconst (q := 259) (v := zi (0)) d_109_258 rfl rfl ?_
    refine xcV2 (q := 262) d_109_259 rfl lk_L_40 mo_35 ⟨by decide +kernel, by decide +kernel⟩ (by simp [Value.category]) (by decide +kernel) (by simp [Value.category]) (by decide) rfl ?_
    refine hS _ (by first | exact Or.inl rfl | exact Or.inr rfl) _ (fun r I1 F1 h1 => ?_)
    dsimp only [ax_ps]
    rw [vg_mg]
    refine xald_2 (q := 263) d_109_262 rfl ?_
    refine xsld_0 (q := 264) d_109_263 rfl ?_
    refine xild_3 (q := 265) d_109_264 rfl ?_
    refine x_iconst (q := 266) (v := zi (1)) d_109_265 rfl rfl ?_
    refine z_iadd (q := 267) d_109_266 rfl ?_
    refine z_sld hL (by omega) (by omega) (q := 268) d_109_267 rfl ?_
    refine xsld_0 (q := 269) d_109_268 rfl ?_
    refine xild_3 (q := 270) d_109_269 rfl ?_
    refine x_iconst (q := 271) (v := zi (2)) d_109_270 rfl rfl ?_
    refine z_iadd (q := 272) d_109_271 rfl ?_
    refine z_sld hL (by omega) (by omega) (q := 273) d_109_272 rfl ?_
    refine x_if_eq (q := 276) (t := 280) d_109_273 (by decide) rfl (fun c273 => ?_) (fun c273 => ?_)
    · rw [zi_eq0 (by omega) (by omega)] at c273
      refine x_iconst (q := 281) (v := zi (0)) d_109_280 rfl rfl ?_
      refine xcV2 (q := 284) d_109_281 rfl lk_L_44 mo_72 ⟨by decide +kernel, by decide +kernel⟩ (by simp [Value.category]) (by decide +kernel) (by simp [Value.category]) (by decide) rfl ?_
      refine h1 _ (fun J1 G1 hq => ?_)
      dsimp only [ax_ps]
      rw [← vg_mg]
      refine x_icmp_eq (q := 287) (t := 674) d_109_284 (by decide) rfl (fun c284 => ?_) (fun c284 => ?_)
      · exact kk _ _ _ _ hq
      · exact absurd rfl c284
    · rw [zi_eq0 (by omega) (by omega)] at c273
      exact absurd c273 (by omega)
  · rw [zi_eq0 (by omega) (by omega)] at c251
    refine x_iconst (q := 255) (v := zi (1)) d_109_254 rfl rfl ?_
    refine x_goto (t := 259) d_109_255 (by decide) ?_
    refine xcV2 (q := 262) d_109_259 rfl lk_L_40 mo_35 ⟨by decide +kernel, by decide +kernel⟩ (by simp [Value.category]) (by decide +kernel) (by simp [Value.category]) (by decide) rfl ?_
    refine hS _ (by first | exact Or.inl rfl | exact Or.inr rfl) _ (fun r I1 F1 h1 => ?_)
    dsimp only [ax_ps]
    rw [vg_mg]
    refine xald_2 (q := 263) d_109_262 rfl ?_
    refine xsld_0 (q := 264) d_109_263 rfl ?_
    refine xild_3 (q := 265) d_109_264 rfl ?_
    refine x_iconst (q := 266) (v := zi (1)) d_109_265 rfl rfl ?_
    refine z_iadd (q := 267) d_109_266 rfl ?_
    refine z_sld hL (by omega) (by omega) (q := 268) d_109_267 rfl ?_
    refine xsld_0 (q := 269) d_109_268 rfl ?_
    refine xild_3 (q := 270) d_109_269 rfl ?_
    refine x_iconst (q := 271) (v := zi (2)) d_109_270 rfl rfl ?_
    refine z_iadd (q := 272) d_109_271 rfl ?_
    refine z_sld hL (by omega) (by omega) (q := 273) d_109_272 rfl ?_
    refine x_if_eq (q := 276) (t := 280) d_109_273 (by decide) rfl (fun c273 => ?_) (fun c273 => ?_)
    · rw [zi_eq0 (by omega) (by omega)] at c273
      exact absurd c273 (by omega)
    · rw [zi_eq0 (by omega) (by omega)] at c273
      refine x_iconst (q := 277) (v := zi (1)) d_109_276 rfl rfl ?_
      refine x_goto (t := 281) d_109_277 (by decide) ?_
      refine xcV2 (q := 284) d_109_281 rfl lk_L_44 mo_72 ⟨by decide +kernel, by decide +kernel⟩ (by simp [Value.category]) (by decide +kernel) (by simp [Value.category]) (by decide) rfl ?_
      refine h1 _ (fun J1 G1 hq => ?_)
      dsimp only [ax_ps]
      rw [← vg_mg]
      refine x_icmp_eq (q := 287) (t := 674) d_109_284 (by decide) rfl (fun c284 => ?_) (fun c284 => ?_)
      · exact kk _ _ _ _ hq
      · exact absurd rfl c284
set_option maxHeartbeats 4000000 in
theorem w_clean {sc : ax_S} {σ : Nat → ax_C} {I : Nat → Int} {F : Nat → Nat → Int} {J : Nat → Int} {G : Nat → Nat → Int} {bc bs : Nat} {K : ax_K} {Q : (Nat → Int) → (Nat → Nat → Int) → (Nat → Int) → (Nat → Nat → Int) → Prop} {i : Int} (hi : 2 ≤ i) (hi4 : i + 4 ≤ sc.1) (hL : sc.1 ≤ 2050) (hS : Same sc Q σ 36 73 [] I F J G)
    (kk : ∀ (I' : Nat → Int) (F' : Nat → Nat → Int) (J' : Nat → Int) (G' : Nat → Nat → Int), Q I' F' J' G' → Ex sc 109 674 [some (.retAddr 0), some (.ref 0), some (.ref 22), some (.int (zi i))] [] (vg (mg σ J' G') I' F', 38, bc, bs) K) : Ex sc 109 289 [some (.retAddr 0), some (.ref 0), some (.ref 22), some (.int (zi i))] [] (vg (mg σ J G) I F, 38, bc, bs) K := by
  refine xald_1 (q := 290) d_109_289 rfl ?_
  refine xcV0 (q := 293) d_109_290 rfl lk_L_45 mo_36 ⟨by decide +kernel, by decide +kernel⟩  (by decide +kernel) (by simp [Value.category]) (by decide) rfl ?_
  refine hS _ (fun r I1 F1 h1 => ?_)
  dsimp only [ax_ps]
  rw [vg_mg]
  refine xald_2 (q := 294) d_109_293 rfl ?_
  refine xcV0 (q := 297) d_109_294 rfl lk_L_48 mo_73 ⟨by decide +kernel, by decide +kernel⟩  (by decide +kernel) (by simp [Value.category]) (by decide) rfl ?_
  refine h1 _ (fun J1 G1 hq => ?_)
  dsimp only [ax_ps]
  rw [← vg_mg]
  refine x_icmp_eq (q := 300) (t := 674) d_109_297 (by decide) rfl (fun c297 => ?_) (fun c297 => ?_)
  · exact kk _ _ _ _ hq
  · exact absurd rfl c297
set_option maxHeartbeats 4000000 in
theorem w_rule {sc : ax_S} {σ : Nat → ax_C} {I : Nat → Int} {F : Nat → Nat → Int} {J : Nat → Int} {G : Nat → Nat → Int} {bc bs : Nat} {K : ax_K} {Q : (Nat → Int) → (Nat → Nat → Int) → (Nat → Int) → (Nat → Nat → Int) → Prop} {i : Int} (hi : 2 ≤ i) (hi4 : i + 4 ≤ sc.1) (hL : sc.1 ≤ 2050) (hS : Same sc Q σ 39 74 [.int (zi (sv sc (i + 1))), .int (zi (sv sc (i + 2)))] I F J G)
    (kk : ∀ (I' : Nat → Int) (F' : Nat → Nat → Int) (J' : Nat → Int) (G' : Nat → Nat → Int), Q I' F' J' G' → Ex sc 109 674 [some (.retAddr 0), some (.ref 0), some (.ref 22), some (.int (zi i))] [] (vg (mg σ J' G') I' F', 38, bc, bs) K) : Ex sc 109 302 [some (.retAddr 0), some (.ref 0), some (.ref 22), some (.int (zi i))] [] (vg (mg σ J G) I F, 38, bc, bs) K := by
  refine xald_1 (q := 303) d_109_302 rfl ?_
  refine xsld_0 (q := 304) d_109_303 rfl ?_
  refine xild_3 (q := 305) d_109_304 rfl ?_
  refine x_iconst (q := 306) (v := zi (1)) d_109_305 rfl rfl ?_
  refine z_iadd (q := 307) d_109_306 rfl ?_
  refine z_sld hL (by omega) (by omega) (q := 308) d_109_307 rfl ?_
  refine xsld_0 (q := 309) d_109_308 rfl ?_
  refine xild_3 (q := 310) d_109_309 rfl ?_
  refine x_iconst (q := 311) (v := zi (2)) d_109_310 rfl rfl ?_
  refine z_iadd (q := 312) d_109_311 rfl ?_
  refine z_sld hL (by omega) (by omega) (q := 313) d_109_312 rfl ?_
  refine xcV2 (q := 316) d_109_313 rfl lk_L_49 mo_39 ⟨by decide +kernel, by decide +kernel⟩ (by simp [Value.category]) (by decide +kernel) (by simp [Value.category]) (by decide) rfl ?_
  refine hS _ (fun r I1 F1 h1 => ?_)
  dsimp only [ax_ps]
  rw [vg_mg]
  refine xald_2 (q := 317) d_109_316 rfl ?_
  refine xsld_0 (q := 318) d_109_317 rfl ?_
  refine xild_3 (q := 319) d_109_318 rfl ?_
  refine x_iconst (q := 320) (v := zi (1)) d_109_319 rfl rfl ?_
  refine z_iadd (q := 321) d_109_320 rfl ?_
  refine z_sld hL (by omega) (by omega) (q := 322) d_109_321 rfl ?_
  refine xsld_0 (q := 323) d_109_322 rfl ?_
  refine xild_3 (q := 324) d_109_323 rfl ?_
  refine x_iconst (q := 325) (v := zi (2)) d_109_324 rfl rfl ?_
  refine z_iadd (q := 326) d_109_325 rfl ?_
  refine z_sld hL (by omega) (by omega) (q := 327) d_109_326 rfl ?_
  refine xcV2 (q := 330) d_109_327 rfl lk_L_52 mo_74 ⟨by decide +kernel, by decide +kernel⟩ (by simp [Value.category]) (by decide +kernel) (by simp [Value.category]) (by decide) rfl ?_
  refine h1 _ (fun J1 G1 hq => ?_)
  dsimp only [ax_ps]
  rw [← vg_mg]
  refine x_icmp_eq (q := 333) (t := 674) d_109_330 (by decide) rfl (fun c330 => ?_) (fun c330 => ?_)
  · exact kk _ _ _ _ hq
  · exact absurd rfl c330
set_option maxHeartbeats 4000000 in
theorem w_exact {sc : ax_S} {σ : Nat → ax_C} {I : Nat → Int} {F : Nat → Nat → Int} {J : Nat → Int} {G : Nat → Nat → Int} {bc bs : Nat} {K : ax_K} {Q : (Nat → Int) → (Nat → Nat → Int) → (Nat → Int) → (Nat → Nat → Int) → Prop} {i : Int} (hi : 2 ≤ i) (hi4 : i + 4 ≤ sc.1) (hL : sc.1 ≤ 2050) (hS : Same sc Q σ 40 75 [.int (zi (sv sc (i + 1)))] I F J G)
    (kk : ∀ (I' : Nat → Int) (F' : Nat → Nat → Int) (J' : Nat → Int) (G' : Nat → Nat → Int), Q I' F' J' G' → Ex sc 109 674 [some (.retAddr 0), some (.ref 0), some (.ref 22), some (.int (zi i))] [] (vg (mg σ J' G') I' F', 38, bc, bs) K) : Ex sc 109 335 [some (.retAddr 0), some (.ref 0), some (.ref 22), some (.int (zi i))] [] (vg (mg σ J G) I F, 38, bc, bs) K := by
  refine xald_1 (q := 336) d_109_335 rfl ?_
  refine xsld_0 (q := 337) d_109_336 rfl ?_
  refine xild_3 (q := 338) d_109_337 rfl ?_
  refine x_iconst (q := 339) (v := zi (1)) d_109_338 rfl rfl ?_
  refine z_iadd (q := 340) d_109_339 rfl ?_
  refine z_sld hL (by omega) (by omega) (q := 341) d_109_340 rfl ?_
  refine xcV1 (q := 344) d_109_341 rfl lk_L_53 mo_40 ⟨by decide +kernel, by decide +kernel⟩ (by simp [Value.category]) (by decide +kernel) (by simp [Value.category]) (by decide) rfl ?_
  refine hS _ (fun r I1 F1 h1 => ?_)
  dsimp only [ax_ps]
  rw [vg_mg]
  refine xald_2 (q := 345) d_109_344 rfl ?_
  refine xsld_0 (q := 346) d_109_345 rfl ?_
  refine xild_3 (q := 347) d_109_346 rfl ?_
  refine x_iconst (q := 348) (v := zi (1)) d_109_347 rfl rfl ?_
  refine z_iadd (q := 349) d_109_348 rfl ?_
  refine z_sld hL (by omega) (by omega) (q := 350) d_109_349 rfl ?_
  refine xcV1 (q := 353) d_109_350 rfl lk_L_56 mo_75 ⟨by decide +kernel, by decide +kernel⟩ (by simp [Value.category]) (by decide +kernel) (by simp [Value.category]) (by decide) rfl ?_
  refine h1 _ (fun J1 G1 hq => ?_)
  dsimp only [ax_ps]
  rw [← vg_mg]
  refine x_icmp_eq (q := 356) (t := 674) d_109_353 (by decide) rfl (fun c353 => ?_) (fun c353 => ?_)
  · exact kk _ _ _ _ hq
  · exact absurd rfl c353
set_option maxHeartbeats 4000000 in
theorem w_look {sc : ax_S} {σ : Nat → ax_C} {I : Nat → Int} {F : Nat → Nat → Int} {J : Nat → Int} {G : Nat → Nat → Int} {bc bs : Nat} {K : ax_K} {Q : (Nat → Int) → (Nat → Nat → Int) → (Nat → Int) → (Nat → Nat → Int) → Prop} {i : Int} (hi : 2 ≤ i) (hi4 : i + 4 ≤ sc.1) (hL : sc.1 ≤ 2050) (hS : Same sc Q σ 43 85 [.int (zi (sv sc (i + 1))), .int (zi (sv sc (i + 2)))] I F J G)
    (kk : ∀ (I' : Nat → Int) (F' : Nat → Nat → Int) (J' : Nat → Int) (G' : Nat → Nat → Int), Q I' F' J' G' → Ex sc 109 674 [some (.retAddr 0), some (.ref 0), some (.ref 22), some (.int (zi i))] [] (vg (mg σ J' G') I' F', 38, bc, bs) K) : Ex sc 109 358 [some (.retAddr 0), some (.ref 0), some (.ref 22), some (.int (zi i))] [] (vg (mg σ J G) I F, 38, bc, bs) K := by
  refine xald_1 (q := 359) d_109_358 rfl ?_
  refine xsld_0 (q := 360) d_109_359 rfl ?_
  refine xild_3 (q := 361) d_109_360 rfl ?_
  refine x_iconst (q := 362) (v := zi (1)) d_109_361 rfl rfl ?_
  refine z_iadd (q := 363) d_109_362 rfl ?_
  refine z_sld hL (by omega) (by omega) (q := 364) d_109_363 rfl ?_
  refine xsld_0 (q := 365) d_109_364 rfl ?_
  refine xild_3 (q := 366) d_109_365 rfl ?_
  refine x_iconst (q := 367) (v := zi (2)) d_109_366 rfl rfl ?_
  refine z_iadd (q := 368) d_109_367 rfl ?_
  refine z_sld hL (by omega) (by omega) (q := 369) d_109_368 rfl ?_
  refine xcV2 (q := 372) d_109_369 rfl lk_L_57 mo_43 ⟨by decide +kernel, by decide +kernel⟩ (by simp [Value.category]) (by decide +kernel) (by simp [Value.category]) (by decide) rfl ?_
  refine hS _ (fun r I1 F1 h1 => ?_)
  dsimp only [ax_ps]
  rw [vg_mg]
  refine xald_2 (q := 373) d_109_372 rfl ?_
  refine xsld_0 (q := 374) d_109_373 rfl ?_
  refine xild_3 (q := 375) d_109_374 rfl ?_
  refine x_iconst (q := 376) (v := zi (1)) d_109_375 rfl rfl ?_
  refine z_iadd (q := 377) d_109_376 rfl ?_
  refine z_sld hL (by omega) (by omega) (q := 378) d_109_377 rfl ?_
  refine xsld_0 (q := 379) d_109_378 rfl ?_
  refine xild_3 (q := 380) d_109_379 rfl ?_
  refine x_iconst (q := 381) (v := zi (2)) d_109_380 rfl rfl ?_
  refine z_iadd (q := 382) d_109_381 rfl ?_
  refine z_sld hL (by omega) (by omega) (q := 383) d_109_382 rfl ?_
  refine xcV2 (q := 386) d_109_383 rfl lk_L_60 mo_85 ⟨by decide +kernel, by decide +kernel⟩ (by simp [Value.category]) (by decide +kernel) (by simp [Value.category]) (by decide) rfl ?_
  refine h1 _ (fun J1 G1 hq => ?_)
  dsimp only [ax_ps]
  rw [← vg_mg]
  refine x_icmp_eq (q := 389) (t := 674) d_109_386 (by decide) rfl (fun c386 => ?_) (fun c386 => ?_)
  · exact kk _ _ _ _ hq
  · exact absurd rfl c386
set_option maxHeartbeats 4000000 in
theorem w_brief {sc : ax_S} {σ : Nat → ax_C} {I : Nat → Int} {F : Nat → Nat → Int} {J : Nat → Int} {G : Nat → Nat → Int} {bc bs : Nat} {K : ax_K} {Q : (Nat → Int) → (Nat → Nat → Int) → (Nat → Int) → (Nat → Nat → Int) → Prop} {i : Int} (hi : 2 ≤ i) (hi4 : i + 4 ≤ sc.1) (hL : sc.1 ≤ 2050) (hS : Same sc Q σ 47 98 [.int (zi (sv sc (i + 1))), .int (zi (sv sc (i + 2))), .int (zi (sv sc (i + 3)))] I F J G)
    (kk : ∀ (I' : Nat → Int) (F' : Nat → Nat → Int) (J' : Nat → Int) (G' : Nat → Nat → Int), Q I' F' J' G' → Ex sc 109 674 [some (.retAddr 0), some (.ref 0), some (.ref 22), some (.int (zi i))] [] (vg (mg σ J' G') I' F', 38, bc, bs) K) : Ex sc 109 391 [some (.retAddr 0), some (.ref 0), some (.ref 22), some (.int (zi i))] [] (vg (mg σ J G) I F, 38, bc, bs) K := by
  refine xald_1 (q := 392) d_109_391 rfl ?_
  refine xsld_0 (q := 393) d_109_392 rfl ?_
  refine xild_3 (q := 394) d_109_393 rfl ?_
  refine x_iconst (q := 395) (v := zi (1)) d_109_394 rfl rfl ?_
  refine z_iadd (q := 396) d_109_395 rfl ?_
  refine z_sld hL (by omega) (by omega) (q := 397) d_109_396 rfl ?_
  refine xsld_0 (q := 398) d_109_397 rfl ?_
  refine xild_3 (q := 399) d_109_398 rfl ?_
  refine x_iconst (q := 400) (v := zi (2)) d_109_399 rfl rfl ?_
  refine z_iadd (q := 401) d_109_400 rfl ?_
  refine z_sld hL (by omega) (by omega) (q := 402) d_109_401 rfl ?_
  refine xsld_0 (q := 403) d_109_402 rfl ?_
  refine xild_3 (q := 404) d_109_403 rfl ?_
  refine x_iconst (q := 405) (v := zi (3)) d_109_404 rfl rfl ?_
  refine z_iadd (q := 406) d_109_405 rfl ?_
  refine z_sld hL (by omega) (by omega) (q := 407) d_109_406 rfl ?_
  refine xcV3 (q := 410) d_109_407 rfl lk_L_61 mo_47 ⟨by decide +kernel, by decide +kernel⟩ (by simp [Value.category]) (by decide +kernel) (by simp [Value.category]) (by decide) rfl ?_
  refine hS _ (fun r I1 F1 h1 => ?_)
  dsimp only [ax_ps]
  rw [vg_mg]
  refine xald_2 (q := 411) d_109_410 rfl ?_
  refine xsld_0 (q := 412) d_109_411 rfl ?_
  refine xild_3 (q := 413) d_109_412 rfl ?_
  refine x_iconst (q := 414) (v := zi (1)) d_109_413 rfl rfl ?_
  refine z_iadd (q := 415) d_109_414 rfl ?_
  refine z_sld hL (by omega) (by omega) (q := 416) d_109_415 rfl ?_
  refine xsld_0 (q := 417) d_109_416 rfl ?_
  refine xild_3 (q := 418) d_109_417 rfl ?_
  refine x_iconst (q := 419) (v := zi (2)) d_109_418 rfl rfl ?_
  refine z_iadd (q := 420) d_109_419 rfl ?_
  refine z_sld hL (by omega) (by omega) (q := 421) d_109_420 rfl ?_
  refine xsld_0 (q := 422) d_109_421 rfl ?_
  refine xild_3 (q := 423) d_109_422 rfl ?_
  refine x_iconst (q := 424) (v := zi (3)) d_109_423 rfl rfl ?_
  refine z_iadd (q := 425) d_109_424 rfl ?_
  refine z_sld hL (by omega) (by omega) (q := 426) d_109_425 rfl ?_
  refine xcV3 (q := 429) d_109_426 rfl lk_L_65 mo_98 ⟨by decide +kernel, by decide +kernel⟩ (by simp [Value.category]) (by decide +kernel) (by simp [Value.category]) (by decide) rfl ?_
  refine h1 _ (fun J1 G1 hq => ?_)
  dsimp only [ax_ps]
  rw [← vg_mg]
  refine x_icmp_eq (q := 432) (t := 674) d_109_429 (by decide) rfl (fun c429 => ?_) (fun c429 => ?_)
  · exact kk _ _ _ _ hq
  · exact absurd rfl c429
set_option maxHeartbeats 4000000 in
theorem w_recall {sc : ax_S} {σ : Nat → ax_C} {I : Nat → Int} {F : Nat → Nat → Int} {J : Nat → Int} {G : Nat → Nat → Int} {bc bs : Nat} {K : ax_K} {Q : (Nat → Int) → (Nat → Nat → Int) → (Nat → Int) → (Nat → Nat → Int) → Prop} {i : Int} (hi : 2 ≤ i) (hi4 : i + 4 ≤ sc.1) (hL : sc.1 ≤ 2050) (hS : Same sc Q σ 48 99 [.int (zi (sv sc (i + 1))), .int (zi (sv sc (i + 2)))] I F J G)
    (kk : ∀ (I' : Nat → Int) (F' : Nat → Nat → Int) (J' : Nat → Int) (G' : Nat → Nat → Int), Q I' F' J' G' → Ex sc 109 674 [some (.retAddr 0), some (.ref 0), some (.ref 22), some (.int (zi i))] [] (vg (mg σ J' G') I' F', 38, bc, bs) K) : Ex sc 109 434 [some (.retAddr 0), some (.ref 0), some (.ref 22), some (.int (zi i))] [] (vg (mg σ J G) I F, 38, bc, bs) K := by
  refine xald_1 (q := 435) d_109_434 rfl ?_
  refine xsld_0 (q := 436) d_109_435 rfl ?_
  refine xild_3 (q := 437) d_109_436 rfl ?_
  refine x_iconst (q := 438) (v := zi (1)) d_109_437 rfl rfl ?_
  refine z_iadd (q := 439) d_109_438 rfl ?_
  refine z_sld hL (by omega) (by omega) (q := 440) d_109_439 rfl ?_
  refine xsld_0 (q := 441) d_109_440 rfl ?_
  refine xild_3 (q := 442) d_109_441 rfl ?_
  refine x_iconst (q := 443) (v := zi (2)) d_109_442 rfl rfl ?_
  refine z_iadd (q := 444) d_109_443 rfl ?_
  refine z_sld hL (by omega) (by omega) (q := 445) d_109_444 rfl ?_
  refine xcV2 (q := 448) d_109_445 rfl lk_L_66 mo_48 ⟨by decide +kernel, by decide +kernel⟩ (by simp [Value.category]) (by decide +kernel) (by simp [Value.category]) (by decide) rfl ?_
  refine hS _ (fun r I1 F1 h1 => ?_)
  dsimp only [ax_ps]
  rw [vg_mg]
  refine xald_2 (q := 449) d_109_448 rfl ?_
  refine xsld_0 (q := 450) d_109_449 rfl ?_
  refine xild_3 (q := 451) d_109_450 rfl ?_
  refine x_iconst (q := 452) (v := zi (1)) d_109_451 rfl rfl ?_
  refine z_iadd (q := 453) d_109_452 rfl ?_
  refine z_sld hL (by omega) (by omega) (q := 454) d_109_453 rfl ?_
  refine xsld_0 (q := 455) d_109_454 rfl ?_
  refine xild_3 (q := 456) d_109_455 rfl ?_
  refine x_iconst (q := 457) (v := zi (2)) d_109_456 rfl rfl ?_
  refine z_iadd (q := 458) d_109_457 rfl ?_
  refine z_sld hL (by omega) (by omega) (q := 459) d_109_458 rfl ?_
  refine xcV2 (q := 462) d_109_459 rfl lk_L_69 mo_99 ⟨by decide +kernel, by decide +kernel⟩ (by simp [Value.category]) (by decide +kernel) (by simp [Value.category]) (by decide) rfl ?_
  refine h1 _ (fun J1 G1 hq => ?_)
  dsimp only [ax_ps]
  rw [← vg_mg]
  refine x_icmp_eq (q := 465) (t := 674) d_109_462 (by decide) rfl (fun c462 => ?_) (fun c462 => ?_)
  · exact kk _ _ _ _ hq
  · exact absurd rfl c462
set_option maxHeartbeats 4000000 in
theorem w_at {sc : ax_S} {σ : Nat → ax_C} {I : Nat → Int} {F : Nat → Nat → Int} {J : Nat → Int} {G : Nat → Nat → Int} {bc bs : Nat} {K : ax_K} {Q : (Nat → Int) → (Nat → Nat → Int) → (Nat → Int) → (Nat → Nat → Int) → Prop} {i : Int} (hi : 2 ≤ i) (hi4 : i + 4 ≤ sc.1) (hL : sc.1 ≤ 2050) (hS : Same sc Q σ 50 100 [.int (zi (sv sc (i + 1)))] I F J G)
    (kk : ∀ (I' : Nat → Int) (F' : Nat → Nat → Int) (J' : Nat → Int) (G' : Nat → Nat → Int), Q I' F' J' G' → Ex sc 109 674 [some (.retAddr 0), some (.ref 0), some (.ref 22), some (.int (zi i))] [] (vg (mg σ J' G') I' F', 38, bc, bs) K) : Ex sc 109 467 [some (.retAddr 0), some (.ref 0), some (.ref 22), some (.int (zi i))] [] (vg (mg σ J G) I F, 38, bc, bs) K := by
  refine xald_1 (q := 468) d_109_467 rfl ?_
  refine xsld_0 (q := 469) d_109_468 rfl ?_
  refine xild_3 (q := 470) d_109_469 rfl ?_
  refine x_iconst (q := 471) (v := zi (1)) d_109_470 rfl rfl ?_
  refine z_iadd (q := 472) d_109_471 rfl ?_
  refine z_sld hL (by omega) (by omega) (q := 473) d_109_472 rfl ?_
  refine xcV1 (q := 476) d_109_473 rfl lk_L_70 mo_50 ⟨by decide +kernel, by decide +kernel⟩ (by simp [Value.category]) (by decide +kernel) (by simp [Value.category]) (by decide) rfl ?_
  refine hS _ (fun r I1 F1 h1 => ?_)
  dsimp only [ax_ps]
  rw [vg_mg]
  refine xald_2 (q := 477) d_109_476 rfl ?_
  refine xsld_0 (q := 478) d_109_477 rfl ?_
  refine xild_3 (q := 479) d_109_478 rfl ?_
  refine x_iconst (q := 480) (v := zi (1)) d_109_479 rfl rfl ?_
  refine z_iadd (q := 481) d_109_480 rfl ?_
  refine z_sld hL (by omega) (by omega) (q := 482) d_109_481 rfl ?_
  refine xcV1 (q := 485) d_109_482 rfl lk_L_73 mo_100 ⟨by decide +kernel, by decide +kernel⟩ (by simp [Value.category]) (by decide +kernel) (by simp [Value.category]) (by decide) rfl ?_
  refine h1 _ (fun J1 G1 hq => ?_)
  dsimp only [ax_ps]
  rw [← vg_mg]
  refine x_icmp_eq (q := 488) (t := 674) d_109_485 (by decide) rfl (fun c485 => ?_) (fun c485 => ?_)
  · exact kk _ _ _ _ hq
  · exact absurd rfl c485
set_option maxHeartbeats 4000000 in
theorem w_far {sc : ax_S} {σ : Nat → ax_C} {I : Nat → Int} {F : Nat → Nat → Int} {J : Nat → Int} {G : Nat → Nat → Int} {bc bs : Nat} {K : ax_K} {Q : (Nat → Int) → (Nat → Nat → Int) → (Nat → Int) → (Nat → Nat → Int) → Prop} {i : Int} (hi : 2 ≤ i) (hi4 : i + 4 ≤ sc.1) (hL : sc.1 ≤ 2050) (hS : Same sc Q σ 51 101 [.int (zi (sv sc (i + 1)))] I F J G)
    (kk : ∀ (I' : Nat → Int) (F' : Nat → Nat → Int) (J' : Nat → Int) (G' : Nat → Nat → Int), Q I' F' J' G' → Ex sc 109 674 [some (.retAddr 0), some (.ref 0), some (.ref 22), some (.int (zi i))] [] (vg (mg σ J' G') I' F', 38, bc, bs) K) : Ex sc 109 490 [some (.retAddr 0), some (.ref 0), some (.ref 22), some (.int (zi i))] [] (vg (mg σ J G) I F, 38, bc, bs) K := by
  refine xald_1 (q := 491) d_109_490 rfl ?_
  refine xsld_0 (q := 492) d_109_491 rfl ?_
  refine xild_3 (q := 493) d_109_492 rfl ?_
  refine x_iconst (q := 494) (v := zi (1)) d_109_493 rfl rfl ?_
  refine z_iadd (q := 495) d_109_494 rfl ?_
  refine z_sld hL (by omega) (by omega) (q := 496) d_109_495 rfl ?_
  refine xcV1 (q := 499) d_109_496 rfl lk_L_74 mo_51 ⟨by decide +kernel, by decide +kernel⟩ (by simp [Value.category]) (by decide +kernel) (by simp [Value.category]) (by decide) rfl ?_
  refine hS _ (fun r I1 F1 h1 => ?_)
  dsimp only [ax_ps]
  rw [vg_mg]
  refine xald_2 (q := 500) d_109_499 rfl ?_
  refine xsld_0 (q := 501) d_109_500 rfl ?_
  refine xild_3 (q := 502) d_109_501 rfl ?_
  refine x_iconst (q := 503) (v := zi (1)) d_109_502 rfl rfl ?_
  refine z_iadd (q := 504) d_109_503 rfl ?_
  refine z_sld hL (by omega) (by omega) (q := 505) d_109_504 rfl ?_
  refine xcV1 (q := 508) d_109_505 rfl lk_L_77 mo_101 ⟨by decide +kernel, by decide +kernel⟩ (by simp [Value.category]) (by decide +kernel) (by simp [Value.category]) (by decide) rfl ?_
  refine h1 _ (fun J1 G1 hq => ?_)
  dsimp only [ax_ps]
  rw [← vg_mg]
  refine x_icmp_eq (q := 511) (t := 674) d_109_508 (by decide) rfl (fun c508 => ?_) (fun c508 => ?_)
  · exact kk _ _ _ _ hq
  · exact absurd rfl c508
set_option maxHeartbeats 4000000 in
theorem w_between {sc : ax_S} {σ : Nat → ax_C} {I : Nat → Int} {F : Nat → Nat → Int} {J : Nat → Int} {G : Nat → Nat → Int} {bc bs : Nat} {K : ax_K} {Q : (Nat → Int) → (Nat → Nat → Int) → (Nat → Int) → (Nat → Nat → Int) → Prop} {i : Int} (hi : 2 ≤ i) (hi4 : i + 4 ≤ sc.1) (hL : sc.1 ≤ 2050) (hS : Same sc Q σ 52 102 [.int (zi (sv sc (i + 1))), .int (zi (sv sc (i + 2)))] I F J G)
    (kk : ∀ (I' : Nat → Int) (F' : Nat → Nat → Int) (J' : Nat → Int) (G' : Nat → Nat → Int), Q I' F' J' G' → Ex sc 109 674 [some (.retAddr 0), some (.ref 0), some (.ref 22), some (.int (zi i))] [] (vg (mg σ J' G') I' F', 38, bc, bs) K) : Ex sc 109 513 [some (.retAddr 0), some (.ref 0), some (.ref 22), some (.int (zi i))] [] (vg (mg σ J G) I F, 38, bc, bs) K := by
  refine xald_1 (q := 514) d_109_513 rfl ?_
  refine xsld_0 (q := 515) d_109_514 rfl ?_
  refine xild_3 (q := 516) d_109_515 rfl ?_
  refine x_iconst (q := 517) (v := zi (1)) d_109_516 rfl rfl ?_
  refine z_iadd (q := 518) d_109_517 rfl ?_
  refine z_sld hL (by omega) (by omega) (q := 519) d_109_518 rfl ?_
  refine xsld_0 (q := 520) d_109_519 rfl ?_
  refine xild_3 (q := 521) d_109_520 rfl ?_
  refine x_iconst (q := 522) (v := zi (2)) d_109_521 rfl rfl ?_
  refine z_iadd (q := 523) d_109_522 rfl ?_
  refine z_sld hL (by omega) (by omega) (q := 524) d_109_523 rfl ?_
  refine xcV2 (q := 527) d_109_524 rfl lk_L_78 mo_52 ⟨by decide +kernel, by decide +kernel⟩ (by simp [Value.category]) (by decide +kernel) (by simp [Value.category]) (by decide) rfl ?_
  refine hS _ (fun r I1 F1 h1 => ?_)
  dsimp only [ax_ps]
  rw [vg_mg]
  refine xald_2 (q := 528) d_109_527 rfl ?_
  refine xsld_0 (q := 529) d_109_528 rfl ?_
  refine xild_3 (q := 530) d_109_529 rfl ?_
  refine x_iconst (q := 531) (v := zi (1)) d_109_530 rfl rfl ?_
  refine z_iadd (q := 532) d_109_531 rfl ?_
  refine z_sld hL (by omega) (by omega) (q := 533) d_109_532 rfl ?_
  refine xsld_0 (q := 534) d_109_533 rfl ?_
  refine xild_3 (q := 535) d_109_534 rfl ?_
  refine x_iconst (q := 536) (v := zi (2)) d_109_535 rfl rfl ?_
  refine z_iadd (q := 537) d_109_536 rfl ?_
  refine z_sld hL (by omega) (by omega) (q := 538) d_109_537 rfl ?_
  refine xcV2 (q := 541) d_109_538 rfl lk_L_81 mo_102 ⟨by decide +kernel, by decide +kernel⟩ (by simp [Value.category]) (by decide +kernel) (by simp [Value.category]) (by decide) rfl ?_
  refine h1 _ (fun J1 G1 hq => ?_)
  dsimp only [ax_ps]
  rw [← vg_mg]
  refine x_icmp_eq (q := 544) (t := 674) d_109_541 (by decide) rfl (fun c541 => ?_) (fun c541 => ?_)
  · exact kk _ _ _ _ hq
  · exact absurd rfl c541
set_option maxHeartbeats 4000000 in
theorem w_steps {sc : ax_S} {σ : Nat → ax_C} {I : Nat → Int} {F : Nat → Nat → Int} {J : Nat → Int} {G : Nat → Nat → Int} {bc bs : Nat} {K : ax_K} {Q : (Nat → Int) → (Nat → Nat → Int) → (Nat → Int) → (Nat → Nat → Int) → Prop} {i : Int} (hi : 2 ≤ i) (hi4 : i + 4 ≤ sc.1) (hL : sc.1 ≤ 2050) (hS : Same sc Q σ 53 103 [] I F J G)
    (kk : ∀ (I' : Nat → Int) (F' : Nat → Nat → Int) (J' : Nat → Int) (G' : Nat → Nat → Int), Q I' F' J' G' → Ex sc 109 674 [some (.retAddr 0), some (.ref 0), some (.ref 22), some (.int (zi i))] [] (vg (mg σ J' G') I' F', 38, bc, bs) K) : Ex sc 109 546 [some (.retAddr 0), some (.ref 0), some (.ref 22), some (.int (zi i))] [] (vg (mg σ J G) I F, 38, bc, bs) K := by
  refine xald_1 (q := 547) d_109_546 rfl ?_
  refine xcV0 (q := 550) d_109_547 rfl lk_L_82 mo_53 ⟨by decide +kernel, by decide +kernel⟩  (by decide +kernel) (by simp [Value.category]) (by decide) rfl ?_
  refine hS _ (fun r I1 F1 h1 => ?_)
  dsimp only [ax_ps]
  rw [vg_mg]
  refine xald_2 (q := 551) d_109_550 rfl ?_
  refine xcV0 (q := 554) d_109_551 rfl lk_L_85 mo_103 ⟨by decide +kernel, by decide +kernel⟩  (by decide +kernel) (by simp [Value.category]) (by decide) rfl ?_
  refine h1 _ (fun J1 G1 hq => ?_)
  dsimp only [ax_ps]
  rw [← vg_mg]
  refine x_icmp_eq (q := 557) (t := 674) d_109_554 (by decide) rfl (fun c554 => ?_) (fun c554 => ?_)
  · exact kk _ _ _ _ hq
  · exact absurd rfl c554
set_option maxHeartbeats 4000000 in
theorem w_level {sc : ax_S} {σ : Nat → ax_C} {I : Nat → Int} {F : Nat → Nat → Int} {J : Nat → Int} {G : Nat → Nat → Int} {bc bs : Nat} {K : ax_K} {Q : (Nat → Int) → (Nat → Nat → Int) → (Nat → Int) → (Nat → Nat → Int) → Prop} {i : Int} (hi : 2 ≤ i) (hi4 : i + 4 ≤ sc.1) (hL : sc.1 ≤ 2050) (hS : Same sc Q σ 54 104 [.int (zi (sv sc (i + 1)))] I F J G)
    (kk : ∀ (I' : Nat → Int) (F' : Nat → Nat → Int) (J' : Nat → Int) (G' : Nat → Nat → Int), Q I' F' J' G' → Ex sc 109 674 [some (.retAddr 0), some (.ref 0), some (.ref 22), some (.int (zi i))] [] (vg (mg σ J' G') I' F', 38, bc, bs) K) : Ex sc 109 559 [some (.retAddr 0), some (.ref 0), some (.ref 22), some (.int (zi i))] [] (vg (mg σ J G) I F, 38, bc, bs) K := by
  refine xald_1 (q := 560) d_109_559 rfl ?_
  refine xsld_0 (q := 561) d_109_560 rfl ?_
  refine xild_3 (q := 562) d_109_561 rfl ?_
  refine x_iconst (q := 563) (v := zi (1)) d_109_562 rfl rfl ?_
  refine z_iadd (q := 564) d_109_563 rfl ?_
  refine z_sld hL (by omega) (by omega) (q := 565) d_109_564 rfl ?_
  refine xcV1 (q := 568) d_109_565 rfl lk_L_86 mo_54 ⟨by decide +kernel, by decide +kernel⟩ (by simp [Value.category]) (by decide +kernel) (by simp [Value.category]) (by decide) rfl ?_
  refine hS _ (fun r I1 F1 h1 => ?_)
  dsimp only [ax_ps]
  rw [vg_mg]
  refine xald_2 (q := 569) d_109_568 rfl ?_
  refine xsld_0 (q := 570) d_109_569 rfl ?_
  refine xild_3 (q := 571) d_109_570 rfl ?_
  refine x_iconst (q := 572) (v := zi (1)) d_109_571 rfl rfl ?_
  refine z_iadd (q := 573) d_109_572 rfl ?_
  refine z_sld hL (by omega) (by omega) (q := 574) d_109_573 rfl ?_
  refine xcV1 (q := 577) d_109_574 rfl lk_L_89 mo_104 ⟨by decide +kernel, by decide +kernel⟩ (by simp [Value.category]) (by decide +kernel) (by simp [Value.category]) (by decide) rfl ?_
  refine h1 _ (fun J1 G1 hq => ?_)
  dsimp only [ax_ps]
  rw [← vg_mg]
  refine x_icmp_eq (q := 580) (t := 674) d_109_577 (by decide) rfl (fun c577 => ?_) (fun c577 => ?_)
  · exact kk _ _ _ _ hq
  · exact absurd rfl c577
set_option maxHeartbeats 4000000 in
theorem w_entry {sc : ax_S} {σ : Nat → ax_C} {I : Nat → Int} {F : Nat → Nat → Int} {J : Nat → Int} {G : Nat → Nat → Int} {bc bs : Nat} {K : ax_K} {Q : (Nat → Int) → (Nat → Nat → Int) → (Nat → Int) → (Nat → Nat → Int) → Prop} {i : Int} (hi : 2 ≤ i) (hi4 : i + 4 ≤ sc.1) (hL : sc.1 ≤ 2050) (hS : Same sc Q σ 55 105 [] I F J G)
    (kk : ∀ (I' : Nat → Int) (F' : Nat → Nat → Int) (J' : Nat → Int) (G' : Nat → Nat → Int), Q I' F' J' G' → Ex sc 109 674 [some (.retAddr 0), some (.ref 0), some (.ref 22), some (.int (zi i))] [] (vg (mg σ J' G') I' F', 38, bc, bs) K) : Ex sc 109 582 [some (.retAddr 0), some (.ref 0), some (.ref 22), some (.int (zi i))] [] (vg (mg σ J G) I F, 38, bc, bs) K := by
  refine xald_1 (q := 583) d_109_582 rfl ?_
  refine xcV0 (q := 586) d_109_583 rfl lk_L_90 mo_55 ⟨by decide +kernel, by decide +kernel⟩  (by decide +kernel) (by simp [Value.category]) (by decide) rfl ?_
  refine hS _ (fun r I1 F1 h1 => ?_)
  dsimp only [ax_ps]
  rw [vg_mg]
  refine xald_2 (q := 587) d_109_586 rfl ?_
  refine xcV0 (q := 590) d_109_587 rfl lk_L_93 mo_105 ⟨by decide +kernel, by decide +kernel⟩  (by decide +kernel) (by simp [Value.category]) (by decide) rfl ?_
  refine h1 _ (fun J1 G1 hq => ?_)
  dsimp only [ax_ps]
  rw [← vg_mg]
  refine x_icmp_eq (q := 593) (t := 674) d_109_590 (by decide) rfl (fun c590 => ?_) (fun c590 => ?_)
  · exact kk _ _ _ _ hq
  · exact absurd rfl c590
set_option maxHeartbeats 4000000 in
theorem w_neighbour {sc : ax_S} {σ : Nat → ax_C} {I : Nat → Int} {F : Nat → Nat → Int} {J : Nat → Int} {G : Nat → Nat → Int} {bc bs : Nat} {K : ax_K} {Q : (Nat → Int) → (Nat → Nat → Int) → (Nat → Int) → (Nat → Nat → Int) → Prop} {i : Int} (hi : 2 ≤ i) (hi4 : i + 4 ≤ sc.1) (hL : sc.1 ≤ 2050) (hS : Same sc Q σ 56 106 [.int (zi (sv sc (i + 1))), .int (zi (sv sc (i + 2))), .int (zi (sv sc (i + 3)))] I F J G)
    (kk : ∀ (I' : Nat → Int) (F' : Nat → Nat → Int) (J' : Nat → Int) (G' : Nat → Nat → Int), Q I' F' J' G' → Ex sc 109 674 [some (.retAddr 0), some (.ref 0), some (.ref 22), some (.int (zi i))] [] (vg (mg σ J' G') I' F', 38, bc, bs) K) : Ex sc 109 595 [some (.retAddr 0), some (.ref 0), some (.ref 22), some (.int (zi i))] [] (vg (mg σ J G) I F, 38, bc, bs) K := by
  refine xald_1 (q := 596) d_109_595 rfl ?_
  refine xsld_0 (q := 597) d_109_596 rfl ?_
  refine xild_3 (q := 598) d_109_597 rfl ?_
  refine x_iconst (q := 599) (v := zi (1)) d_109_598 rfl rfl ?_
  refine z_iadd (q := 600) d_109_599 rfl ?_
  refine z_sld hL (by omega) (by omega) (q := 601) d_109_600 rfl ?_
  refine xsld_0 (q := 602) d_109_601 rfl ?_
  refine xild_3 (q := 603) d_109_602 rfl ?_
  refine x_iconst (q := 604) (v := zi (2)) d_109_603 rfl rfl ?_
  refine z_iadd (q := 605) d_109_604 rfl ?_
  refine z_sld hL (by omega) (by omega) (q := 606) d_109_605 rfl ?_
  refine xsld_0 (q := 607) d_109_606 rfl ?_
  refine xild_3 (q := 608) d_109_607 rfl ?_
  refine x_iconst (q := 609) (v := zi (3)) d_109_608 rfl rfl ?_
  refine z_iadd (q := 610) d_109_609 rfl ?_
  refine z_sld hL (by omega) (by omega) (q := 611) d_109_610 rfl ?_
  refine xcV3 (q := 614) d_109_611 rfl lk_L_94 mo_56 ⟨by decide +kernel, by decide +kernel⟩ (by simp [Value.category]) (by decide +kernel) (by simp [Value.category]) (by decide) rfl ?_
  refine hS _ (fun r I1 F1 h1 => ?_)
  dsimp only [ax_ps]
  rw [vg_mg]
  refine xald_2 (q := 615) d_109_614 rfl ?_
  refine xsld_0 (q := 616) d_109_615 rfl ?_
  refine xild_3 (q := 617) d_109_616 rfl ?_
  refine x_iconst (q := 618) (v := zi (1)) d_109_617 rfl rfl ?_
  refine z_iadd (q := 619) d_109_618 rfl ?_
  refine z_sld hL (by omega) (by omega) (q := 620) d_109_619 rfl ?_
  refine xsld_0 (q := 621) d_109_620 rfl ?_
  refine xild_3 (q := 622) d_109_621 rfl ?_
  refine x_iconst (q := 623) (v := zi (2)) d_109_622 rfl rfl ?_
  refine z_iadd (q := 624) d_109_623 rfl ?_
  refine z_sld hL (by omega) (by omega) (q := 625) d_109_624 rfl ?_
  refine xsld_0 (q := 626) d_109_625 rfl ?_
  refine xild_3 (q := 627) d_109_626 rfl ?_
  refine x_iconst (q := 628) (v := zi (3)) d_109_627 rfl rfl ?_
  refine z_iadd (q := 629) d_109_628 rfl ?_
  refine z_sld hL (by omega) (by omega) (q := 630) d_109_629 rfl ?_
  refine xcV3 (q := 633) d_109_630 rfl lk_L_97 mo_106 ⟨by decide +kernel, by decide +kernel⟩ (by simp [Value.category]) (by decide +kernel) (by simp [Value.category]) (by decide) rfl ?_
  refine h1 _ (fun J1 G1 hq => ?_)
  dsimp only [ax_ps]
  rw [← vg_mg]
  refine x_icmp_eq (q := 636) (t := 674) d_109_633 (by decide) rfl (fun c633 => ?_) (fun c633 => ?_)
  · exact kk _ _ _ _ hq
  · exact absurd rfl c633
set_option maxHeartbeats 4000000 in
theorem w_reached {sc : ax_S} {σ : Nat → ax_C} {I : Nat → Int} {F : Nat → Nat → Int} {J : Nat → Int} {G : Nat → Nat → Int} {bc bs : Nat} {K : ax_K} {Q : (Nat → Int) → (Nat → Nat → Int) → (Nat → Int) → (Nat → Nat → Int) → Prop} {i : Int} (hi : 2 ≤ i) (hi4 : i + 4 ≤ sc.1) (hL : sc.1 ≤ 2050) (hS : Same sc Q σ 57 107 [] I F J G)
    (kk : ∀ (I' : Nat → Int) (F' : Nat → Nat → Int) (J' : Nat → Int) (G' : Nat → Nat → Int), Q I' F' J' G' → Ex sc 109 674 [some (.retAddr 0), some (.ref 0), some (.ref 22), some (.int (zi i))] [] (vg (mg σ J' G') I' F', 38, bc, bs) K) : Ex sc 109 638 [some (.retAddr 0), some (.ref 0), some (.ref 22), some (.int (zi i))] [] (vg (mg σ J G) I F, 38, bc, bs) K := by
  refine xald_1 (q := 639) d_109_638 rfl ?_
  refine xcV0 (q := 642) d_109_639 rfl lk_L_98 mo_57 ⟨by decide +kernel, by decide +kernel⟩  (by decide +kernel) (by simp [Value.category]) (by decide) rfl ?_
  refine hS _ (fun r I1 F1 h1 => ?_)
  dsimp only [ax_ps]
  rw [vg_mg]
  refine xald_2 (q := 643) d_109_642 rfl ?_
  refine xcV0 (q := 646) d_109_643 rfl lk_L_101 mo_107 ⟨by decide +kernel, by decide +kernel⟩  (by decide +kernel) (by simp [Value.category]) (by decide) rfl ?_
  refine h1 _ (fun J1 G1 hq => ?_)
  dsimp only [ax_ps]
  rw [← vg_mg]
  refine x_icmp_eq (q := 649) (t := 674) d_109_646 (by decide) rfl (fun c646 => ?_) (fun c646 => ?_)
  · exact kk _ _ _ _ hq
  · exact absurd rfl c646
set_option maxHeartbeats 4000000 in
theorem w_count {sc : ax_S} {σ : Nat → ax_C} {I : Nat → Int} {F : Nat → Nat → Int} {J : Nat → Int} {G : Nat → Nat → Int} {bc bs : Nat} {K : ax_K} {Q : (Nat → Int) → (Nat → Nat → Int) → (Nat → Int) → (Nat → Nat → Int) → Prop} {i : Int} (hi : 2 ≤ i) (hi4 : i + 4 ≤ sc.1) (hL : sc.1 ≤ 2050) (hS : Same sc Q σ 60 108 [.int (zi (sv sc (i + 1)))] I F J G)
    (kk : ∀ (I' : Nat → Int) (F' : Nat → Nat → Int) (J' : Nat → Int) (G' : Nat → Nat → Int), Q I' F' J' G' → Ex sc 109 674 [some (.retAddr 0), some (.ref 0), some (.ref 22), some (.int (zi i))] [] (vg (mg σ J' G') I' F', 38, bc, bs) K) : Ex sc 109 651 [some (.retAddr 0), some (.ref 0), some (.ref 22), some (.int (zi i))] [] (vg (mg σ J G) I F, 38, bc, bs) K := by
  refine xald_1 (q := 652) d_109_651 rfl ?_
  refine xsld_0 (q := 653) d_109_652 rfl ?_
  refine xild_3 (q := 654) d_109_653 rfl ?_
  refine x_iconst (q := 655) (v := zi (1)) d_109_654 rfl rfl ?_
  refine z_iadd (q := 656) d_109_655 rfl ?_
  refine z_sld hL (by omega) (by omega) (q := 657) d_109_656 rfl ?_
  refine xcV1 (q := 660) d_109_657 rfl lk_L_102 mo_60 ⟨by decide +kernel, by decide +kernel⟩ (by simp [Value.category]) (by decide +kernel) (by simp [Value.category]) (by decide) rfl ?_
  refine hS _ (fun r I1 F1 h1 => ?_)
  dsimp only [ax_ps]
  rw [vg_mg]
  refine xald_2 (q := 661) d_109_660 rfl ?_
  refine xsld_0 (q := 662) d_109_661 rfl ?_
  refine xild_3 (q := 663) d_109_662 rfl ?_
  refine x_iconst (q := 664) (v := zi (1)) d_109_663 rfl rfl ?_
  refine z_iadd (q := 665) d_109_664 rfl ?_
  refine z_sld hL (by omega) (by omega) (q := 666) d_109_665 rfl ?_
  refine xcV1 (q := 669) d_109_666 rfl lk_L_105 mo_108 ⟨by decide +kernel, by decide +kernel⟩ (by simp [Value.category]) (by decide +kernel) (by simp [Value.category]) (by decide) rfl ?_
  refine h1 _ (fun J1 G1 hq => ?_)
  dsimp only [ax_ps]
  rw [← vg_mg]
  refine x_icmp_eq (q := 672) (t := 674) d_109_669 (by decide) rfl (fun c669 => ?_) (fun c669 => ?_)
  · exact kk _ _ _ _ hq
  · exact absurd rfl c669
theorem and_31 (x : Int32) : ∃ t : Nat, t ≤ 31 ∧ x &&& zi 31 = zi t := by
  refine ⟨(x &&& zi 31).toUInt32.toNat, ?_, ?_⟩
  · show (x.toUInt32 &&& (zi 31).toUInt32).toNat ≤ 31
    rw [UInt32.toNat_and]
    exact Nat.and_le_right
  · rw [← zi_nI]
    show x &&& zi 31 = Int32.ofNat _
    generalize x &&& zi 31 = y
    exact (congrArg Int32.ofUInt32 (UInt32.ofNat_toNat (x := y.toUInt32))).symm
set_option maxHeartbeats 4000000 in
theorem w_loop {sc : ax_S} {σ : Nat → ax_C} {bc bs : Nat} {K : ax_K} {Q : (Nat → Int) → (Nat → Nat → Int) → (Nat → Int) → (Nat → Nat → Int) → Prop} (hL : sc.1 ≤ 2050)
    (hpart : ∀ a b I F J G, I32 a → I32 b → Q I F J G → Same sc Q σ 4 65 [.int (zi a), .int (zi b)] I F J G)
    (hadd : ∀  I F J G, Q I F J G → Same sc Q σ 6 67 [] I F J G)
    (htake : ∀ a I F J G, I32 a → Q I F J G → Same sc Q σ 33 69 [.int (zi a)] I F J G)
    (hremove : ∀ a I F J G, I32 a → Q I F J G → Same sc Q σ 34 71 [.int (zi a)] I F J G)
    (hbar : ∀ a b I F J G, I32 a → (b = 0 ∨ b = 1) → Q I F J G → Same sc Q σ 35 72 [.int (zi a), .int (zi b)] I F J G)
    (hclean : ∀  I F J G, Q I F J G → Same sc Q σ 36 73 [] I F J G)
    (hrule : ∀ a b I F J G, I32 a → I32 b → Q I F J G → Same sc Q σ 39 74 [.int (zi a), .int (zi b)] I F J G)
    (hexact : ∀ a I F J G, I32 a → Q I F J G → Same sc Q σ 40 75 [.int (zi a)] I F J G)
    (hlook : ∀ a b I F J G, I32 a → I32 b → Q I F J G → Same sc Q σ 43 85 [.int (zi a), .int (zi b)] I F J G)
    (hbrief : ∀ a b d I F J G, I32 a → I32 b → I32 d → Q I F J G → Same sc Q σ 47 98 [.int (zi a), .int (zi b), .int (zi d)] I F J G)
    (hrecall : ∀ a b I F J G, I32 a → I32 b → Q I F J G → Same sc Q σ 48 99 [.int (zi a), .int (zi b)] I F J G)
    (hat : ∀ a I F J G, I32 a → Q I F J G → Same sc Q σ 50 100 [.int (zi a)] I F J G)
    (hfar : ∀ a I F J G, I32 a → Q I F J G → Same sc Q σ 51 101 [.int (zi a)] I F J G)
    (hbetween : ∀ a b I F J G, I32 a → I32 b → Q I F J G → Same sc Q σ 52 102 [.int (zi a), .int (zi b)] I F J G)
    (hsteps : ∀  I F J G, Q I F J G → Same sc Q σ 53 103 [] I F J G)
    (hlevel : ∀ a I F J G, I32 a → Q I F J G → Same sc Q σ 54 104 [.int (zi a)] I F J G)
    (hentry : ∀  I F J G, Q I F J G → Same sc Q σ 55 105 [] I F J G)
    (hneighbour : ∀ a b d I F J G, I32 a → I32 b → I32 d → Q I F J G → Same sc Q σ 56 106 [.int (zi a), .int (zi b), .int (zi d)] I F J G)
    (hreached : ∀  I F J G, Q I F J G → Same sc Q σ 57 107 [] I F J G)
    (hcount : ∀ a I F J G, I32 a → Q I F J G → Same sc Q σ 60 108 [.int (zi a)] I F J G)
    (k : ∀ h, K (some (.int (zi 1))) h) :
    ∀ (d : Nat) (i : Int) (I : Nat → Int) (F : Nat → Nat → Int) (J : Nat → Int) (G : Nat → Nat → Int), (sc.1 : Int) ≤ i + d → 2 ≤ i → i ≤ 2100 → Q I F J G → Ex sc 109 38 [some (.retAddr 0), some (.ref 0), some (.ref 22), some (.int (zi i))] [] (vg (mg σ J G) I F, 38, bc, bs) K := by
  intro d
  induction d with
  | zero =>
    intro i I F J G hd h2 h21 hQ
    refine xild_3 (q := 39) d_109_38 rfl ?_
    refine xsld_0 (q := 40) d_109_39 rfl ?_
    refine z_slen (q := 41) d_109_40 rfl ?_
    refine x_iconst (q := 42) (v := zi (4)) d_109_41 rfl rfl ?_
    refine z_isub (q := 43) d_109_42 rfl ?_
    refine x_icmp_gt (q := 46) (t := 680) d_109_43 (by decide) rfl (fun c43 => ?_) (fun c43 => ?_)
    · rw [zi_lt (by omega) (by omega) (by omega) (by omega)] at c43
      refine x_iconst (q := 681) (v := zi (1)) d_109_680 rfl rfl ?_
      refine x_iret d_109_681 rfl rfl ?_
      exact k _
    · rw [zi_lt (by omega) (by omega) (by omega) (by omega)] at c43
      exact absurd c43 (by omega)
  | succ d ih =>
    intro i I F J G hd h2 h21 hQ
    refine xild_3 (q := 39) d_109_38 rfl ?_
    refine xsld_0 (q := 40) d_109_39 rfl ?_
    refine z_slen (q := 41) d_109_40 rfl ?_
    refine x_iconst (q := 42) (v := zi (4)) d_109_41 rfl rfl ?_
    refine z_isub (q := 43) d_109_42 rfl ?_
    refine x_icmp_gt (q := 46) (t := 680) d_109_43 (by decide) rfl (fun c43 => ?_) (fun c43 => ?_)
    · rw [zi_lt (by omega) (by omega) (by omega) (by omega)] at c43
      refine x_iconst (q := 681) (v := zi (1)) d_109_680 rfl rfl ?_
      refine x_iret d_109_681 rfl rfl ?_
      exact k _
    · rw [zi_lt (by omega) (by omega) (by omega) (by omega)] at c43
      have hi4 : i + 4 ≤ sc.1 := by omega
      refine xsld_0 (q := 47) d_109_46 rfl ?_
      refine xild_3 (q := 48) d_109_47 rfl ?_
      refine z_sld hL (by omega) (by omega) (q := 49) d_109_48 rfl ?_
      refine x_bipush (q := 51) (v := zi (31)) d_109_49 rfl (by decide) ?_
      refine x_iand (q := 52) d_109_51 rfl ?_
      obtain ⟨t, ht, et⟩ := and_31 (zi (sv sc i))
      rw [et]
      have kk : ∀ (I' : Nat → Int) (F' : Nat → Nat → Int) (J' : Nat → Int) (G' : Nat → Nat → Int), Q I' F' J' G' → Ex sc 109 674 [some (.retAddr 0), some (.ref 0), some (.ref 22), some (.int (zi i))] [] (vg (mg σ J' G') I' F', 38, bc, bs) K := by
        intro I1 F1 J1 G1 q1
        refine xincz_3 (q := 677) d_109_674 rfl ?_
        refine x_goto (t := 38) d_109_677 (by decide) ?_
        exact ih _ _ _ _ _ (by omega) (by omega) (by omega) q1
      have eT : (zi (t : Int)).toInt = (t : Int) := zi_t (by omega) (by omega)
      rcases Nat.lt_or_ge t 20 with ht2 | ht2
      · match t, ht2 with
        | 0, _ =>
          refine x_tableIn (t := 148) (off := 96) d_109_52 (by rw [eT]; decide) (by rw [eT]; decide) (by rw [eT]; rfl) (by decide) ?_
          exact w_part h2 hi4 hL (hpart _ _ _ _ _ _ (sv_b sc _) (sv_b sc _) hQ) kk
        | 1, _ =>
          refine x_tableIn (t := 181) (off := 129) d_109_52 (by rw [eT]; decide) (by rw [eT]; decide) (by rw [eT]; rfl) (by decide) ?_
          exact w_add h2 hi4 hL (hadd _ _ _ _ hQ) kk
        | 2, _ =>
          refine x_tableIn (t := 194) (off := 142) d_109_52 (by rw [eT]; decide) (by rw [eT]; decide) (by rw [eT]; rfl) (by decide) ?_
          exact w_take h2 hi4 hL (htake _ _ _ _ _ (sv_b sc _) hQ) kk
        | 3, _ =>
          refine x_tableIn (t := 217) (off := 165) d_109_52 (by rw [eT]; decide) (by rw [eT]; decide) (by rw [eT]; rfl) (by decide) ?_
          exact w_remove h2 hi4 hL (hremove _ _ _ _ _ (sv_b sc _) hQ) kk
        | 4, _ =>
          refine x_tableIn (t := 240) (off := 188) d_109_52 (by rw [eT]; decide) (by rw [eT]; decide) (by rw [eT]; rfl) (by decide) ?_
          exact w_bar h2 hi4 hL (fun b hb => hbar _ b _ _ _ _ (sv_b sc _) hb hQ) kk
        | 5, _ =>
          refine x_tableIn (t := 289) (off := 237) d_109_52 (by rw [eT]; decide) (by rw [eT]; decide) (by rw [eT]; rfl) (by decide) ?_
          exact w_clean h2 hi4 hL (hclean _ _ _ _ hQ) kk
        | 6, _ =>
          refine x_tableIn (t := 302) (off := 250) d_109_52 (by rw [eT]; decide) (by rw [eT]; decide) (by rw [eT]; rfl) (by decide) ?_
          exact w_rule h2 hi4 hL (hrule _ _ _ _ _ _ (sv_b sc _) (sv_b sc _) hQ) kk
        | 7, _ =>
          refine x_tableIn (t := 335) (off := 283) d_109_52 (by rw [eT]; decide) (by rw [eT]; decide) (by rw [eT]; rfl) (by decide) ?_
          exact w_exact h2 hi4 hL (hexact _ _ _ _ _ (sv_b sc _) hQ) kk
        | 8, _ =>
          refine x_tableIn (t := 358) (off := 306) d_109_52 (by rw [eT]; decide) (by rw [eT]; decide) (by rw [eT]; rfl) (by decide) ?_
          exact w_look h2 hi4 hL (hlook _ _ _ _ _ _ (sv_b sc _) (sv_b sc _) hQ) kk
        | 9, _ =>
          refine x_tableIn (t := 391) (off := 339) d_109_52 (by rw [eT]; decide) (by rw [eT]; decide) (by rw [eT]; rfl) (by decide) ?_
          exact w_brief h2 hi4 hL (hbrief _ _ _ _ _ _ _ (sv_b sc _) (sv_b sc _) (sv_b sc _) hQ) kk
        | 10, _ =>
          refine x_tableIn (t := 434) (off := 382) d_109_52 (by rw [eT]; decide) (by rw [eT]; decide) (by rw [eT]; rfl) (by decide) ?_
          exact w_recall h2 hi4 hL (hrecall _ _ _ _ _ _ (sv_b sc _) (sv_b sc _) hQ) kk
        | 11, _ =>
          refine x_tableIn (t := 467) (off := 415) d_109_52 (by rw [eT]; decide) (by rw [eT]; decide) (by rw [eT]; rfl) (by decide) ?_
          exact w_at h2 hi4 hL (hat _ _ _ _ _ (sv_b sc _) hQ) kk
        | 12, _ =>
          refine x_tableIn (t := 490) (off := 438) d_109_52 (by rw [eT]; decide) (by rw [eT]; decide) (by rw [eT]; rfl) (by decide) ?_
          exact w_far h2 hi4 hL (hfar _ _ _ _ _ (sv_b sc _) hQ) kk
        | 13, _ =>
          refine x_tableIn (t := 513) (off := 461) d_109_52 (by rw [eT]; decide) (by rw [eT]; decide) (by rw [eT]; rfl) (by decide) ?_
          exact w_between h2 hi4 hL (hbetween _ _ _ _ _ _ (sv_b sc _) (sv_b sc _) hQ) kk
        | 14, _ =>
          refine x_tableIn (t := 546) (off := 494) d_109_52 (by rw [eT]; decide) (by rw [eT]; decide) (by rw [eT]; rfl) (by decide) ?_
          exact w_steps h2 hi4 hL (hsteps _ _ _ _ hQ) kk
        | 15, _ =>
          refine x_tableIn (t := 559) (off := 507) d_109_52 (by rw [eT]; decide) (by rw [eT]; decide) (by rw [eT]; rfl) (by decide) ?_
          exact w_level h2 hi4 hL (hlevel _ _ _ _ _ (sv_b sc _) hQ) kk
        | 16, _ =>
          refine x_tableIn (t := 582) (off := 530) d_109_52 (by rw [eT]; decide) (by rw [eT]; decide) (by rw [eT]; rfl) (by decide) ?_
          exact w_entry h2 hi4 hL (hentry _ _ _ _ hQ) kk
        | 17, _ =>
          refine x_tableIn (t := 595) (off := 543) d_109_52 (by rw [eT]; decide) (by rw [eT]; decide) (by rw [eT]; rfl) (by decide) ?_
          exact w_neighbour h2 hi4 hL (hneighbour _ _ _ _ _ _ _ (sv_b sc _) (sv_b sc _) (sv_b sc _) hQ) kk
        | 18, _ =>
          refine x_tableIn (t := 638) (off := 586) d_109_52 (by rw [eT]; decide) (by rw [eT]; decide) (by rw [eT]; rfl) (by decide) ?_
          exact w_reached h2 hi4 hL (hreached _ _ _ _ hQ) kk
        | 19, _ =>
          refine x_tableIn (t := 651) (off := 599) d_109_52 (by rw [eT]; decide) (by rw [eT]; decide) (by rw [eT]; rfl) (by decide) ?_
          exact w_count h2 hi4 hL (hcount _ _ _ _ _ (sv_b sc _) hQ) kk
        | t + 20, h => exact absurd h (by omega)
      · refine x_tableOut (t := 674) d_109_52 (Or.inr (by rw [eT]; omega)) (by decide) ?_
        exact kk _ _ _ _ hQ
