theorem lc_feed {S : XSt} {I : XI} {F : XF} {P : XP} {L i : Nat} {xs : Nat → Int32} (hL : L ≤ 3072) (hi : i + 6 ≤ L) (hO : OKS S) (hC : CI I F S) (hI : MI I F S) (kk : ∀ (S2 : XSt) (I2 : XI) (F2 : XF), OKS S2 → CI I2 F2 S2 → MI I2 F2 S2 → XJ (some (L, xs)) m_LA_law 1344 [some (.ref 44), some (.ref 24), some (.ref 36), some (.int (nI i))] [] I2 F2 P) : XJ (some (L, xs)) m_LA_law 152 [some (.ref 44), some (.ref 24), some (.ref 36), some (.int (nI i))] [] I F P := by
  refine xj_aload_n (pc := 152) d_LA_law_152 rfl rfl ?_
  refine xj_aload_n (pc := 153) d_LA_law_153 rfl rfl ?_
  refine xj_iload_n (pc := 154) d_LA_law_154 rfl rfl ?_
  refine xj_iconst (pc := 155) (v := 1) d_LA_law_155 (by decide) ?_
  refine xj_iadd (pc := 156) d_LA_law_156 ?_
  refine xj_sld (pc := 157) (j := i + 1) d_LA_law_157 (n_addN i 1) (by omega) (by omega) ?_
  refine xj_aload_n (pc := 158) d_LA_law_158 rfl rfl ?_
  refine xj_iload_n (pc := 159) d_LA_law_159 rfl rfl ?_
  refine xj_iconst (pc := 160) (v := 2) d_LA_law_160 (by decide) ?_
  refine xj_iadd (pc := 161) d_LA_law_161 ?_
  refine xj_sld (pc := 162) (j := i + 2) d_LA_law_162 (n_addN i 2) (by omega) (by omega) ?_
  refine xj_aload_n (pc := 163) d_LA_law_163 rfl rfl ?_
  refine xj_iload_n (pc := 164) d_LA_law_164 rfl rfl ?_
  refine xj_iconst (pc := 165) (v := 3) d_LA_law_165 (by decide) ?_
  refine xj_iadd (pc := 166) d_LA_law_166 ?_
  refine xj_sld (pc := 167) (j := i + 3) d_LA_law_167 (n_addN i 3) (by omega) (by omega) ?_
  refine xj_aload_n (pc := 168) d_LA_law_168 rfl rfl ?_
  refine xj_iload_n (pc := 169) d_LA_law_169 rfl rfl ?_
  refine xj_iconst (pc := 170) (v := 4) d_LA_law_170 (by decide) ?_
  refine xj_iadd (pc := 171) d_LA_law_171 ?_
  refine xj_sld (pc := 172) (j := i + 4) d_LA_law_172 (n_addN i 4) (by omega) (by omega) ?_
  refine xj_aload_n (pc := 173) d_LA_law_173 rfl rfl ?_
  refine xj_iload_n (pc := 174) d_LA_law_174 rfl rfl ?_
  refine xj_iconst (pc := 175) (v := 5) d_LA_law_175 (by decide) ?_
  refine xj_iadd (pc := 176) d_LA_law_176 ?_
  refine xj_sld (pc := 177) (j := i + 5) d_LA_law_177 (n_addN i 5) (by omega) (by omega) ?_
  refine xj_callV (pc := 178) d_LA_law_178 ml_LA_13 ok_RD_feed (t_RD_feed hC) rfl rfl rfl rfl rfl (Nat.le_of_ble_eq_true rfl) (by decide) ?_
  rintro rv I1 F1 ⟨rfl, gC, gM⟩
  have hI1 := cm_mi gM hI
  dsimp only [Option.toList, List.cons_append, List.nil_append]
  refine xj_aload_n (pc := 181) d_LA_law_181 rfl rfl ?_
  refine xj_aload_n (pc := 182) d_LA_law_182 rfl rfl ?_
  refine xj_iload_n (pc := 183) d_LA_law_183 rfl rfl ?_
  refine xj_iconst (pc := 184) (v := 1) d_LA_law_184 (by decide) ?_
  refine xj_iadd (pc := 185) d_LA_law_185 ?_
  refine xj_sld (pc := 186) (j := i + 1) d_LA_law_186 (n_addN i 1) (by omega) (by omega) ?_
  refine xj_aload_n (pc := 187) d_LA_law_187 rfl rfl ?_
  refine xj_iload_n (pc := 188) d_LA_law_188 rfl rfl ?_
  refine xj_iconst (pc := 189) (v := 2) d_LA_law_189 (by decide) ?_
  refine xj_iadd (pc := 190) d_LA_law_190 ?_
  refine xj_sld (pc := 191) (j := i + 2) d_LA_law_191 (n_addN i 2) (by omega) (by omega) ?_
  refine xj_aload_n (pc := 192) d_LA_law_192 rfl rfl ?_
  refine xj_iload_n (pc := 193) d_LA_law_193 rfl rfl ?_
  refine xj_iconst (pc := 194) (v := 3) d_LA_law_194 (by decide) ?_
  refine xj_iadd (pc := 195) d_LA_law_195 ?_
  refine xj_sld (pc := 196) (j := i + 3) d_LA_law_196 (n_addN i 3) (by omega) (by omega) ?_
  refine xj_aload_n (pc := 197) d_LA_law_197 rfl rfl ?_
  refine xj_iload_n (pc := 198) d_LA_law_198 rfl rfl ?_
  refine xj_iconst (pc := 199) (v := 4) d_LA_law_199 (by decide) ?_
  refine xj_iadd (pc := 200) d_LA_law_200 ?_
  refine xj_sld (pc := 201) (j := i + 4) d_LA_law_201 (n_addN i 4) (by omega) (by omega) ?_
  refine xj_aload_n (pc := 202) d_LA_law_202 rfl rfl ?_
  refine xj_iload_n (pc := 203) d_LA_law_203 rfl rfl ?_
  refine xj_iconst (pc := 204) (v := 5) d_LA_law_204 (by decide) ?_
  refine xj_iadd (pc := 205) d_LA_law_205 ?_
  refine xj_sld (pc := 206) (j := i + 5) d_LA_law_206 (n_addN i 5) (by omega) (by omega) ?_
  refine xj_callV (pc := 207) d_LA_law_207 ml_LA_17 ok_MO_feed (t_MO_feed hI1) rfl rfl rfl rfl rfl (Nat.le_of_ble_eq_true rfl) (by decide) ?_
  rintro rv I2 F2 ⟨rfl, gI, gN⟩
  dsimp only [Option.toList, List.cons_append, List.nil_append]
  refine xj_icmp_eq (pc := 210) (tgt := 1344) d_LA_law_210 (by decide) (fun h210 => ?_) (fun h210 => absurd (rfl) h210)
  exact kk _ I2 F2 (oks_feed hO) (nm_ci gN gC) gI
theorem lc_end {S : XSt} {I : XI} {F : XF} {P : XP} {L i : Nat} {xs : Nat → Int32} (hL : L ≤ 3072) (hi : i + 6 ≤ L) (hO : OKS S) (hC : CI I F S) (hI : MI I F S) (kk : ∀ (S2 : XSt) (I2 : XI) (F2 : XF), OKS S2 → CI I2 F2 S2 → MI I2 F2 S2 → XJ (some (L, xs)) m_LA_law 1344 [some (.ref 44), some (.ref 24), some (.ref 36), some (.int (nI i))] [] I2 F2 P) : XJ (some (L, xs)) m_LA_law 215 [some (.ref 44), some (.ref 24), some (.ref 36), some (.int (nI i))] [] I F P := by
  refine xj_aload_n (pc := 215) d_LA_law_215 rfl rfl ?_
  refine xj_aload_n (pc := 216) d_LA_law_216 rfl rfl ?_
  refine xj_iload_n (pc := 217) d_LA_law_217 rfl rfl ?_
  refine xj_iconst (pc := 218) (v := 1) d_LA_law_218 (by decide) ?_
  refine xj_iadd (pc := 219) d_LA_law_219 ?_
  refine xj_sld (pc := 220) (j := i + 1) d_LA_law_220 (n_addN i 1) (by omega) (by omega) ?_
  refine xj_callV (pc := 221) d_LA_law_221 ml_LA_18 ok_RD_end (t_RD_end hC) rfl rfl rfl rfl rfl (Nat.le_of_ble_eq_true rfl) (by decide) ?_
  rintro rv I1 F1 ⟨rfl, gC, gM⟩
  have hI1 := cm_mi gM hI
  dsimp only [Option.toList, List.cons_append, List.nil_append]
  refine xj_aload_n (pc := 224) d_LA_law_224 rfl rfl ?_
  refine xj_aload_n (pc := 225) d_LA_law_225 rfl rfl ?_
  refine xj_iload_n (pc := 226) d_LA_law_226 rfl rfl ?_
  refine xj_iconst (pc := 227) (v := 1) d_LA_law_227 (by decide) ?_
  refine xj_iadd (pc := 228) d_LA_law_228 ?_
  refine xj_sld (pc := 229) (j := i + 1) d_LA_law_229 (n_addN i 1) (by omega) (by omega) ?_
  refine xj_callV (pc := 230) d_LA_law_230 ml_LA_22 ok_MO_end (t_MO_end hI1) rfl rfl rfl rfl rfl (Nat.le_of_ble_eq_true rfl) (by decide) ?_
  rintro rv I2 F2 ⟨rfl, gI, gN⟩
  dsimp only [Option.toList, List.cons_append, List.nil_append]
  refine xj_icmp_eq (pc := 233) (tgt := 1344) d_LA_law_233 (by decide) (fun h233 => ?_) (fun h233 => absurd (rfl) h233)
  exact kk _ I2 F2 (oks_end hO) (nm_ci gN gC) gI
theorem lc_put {S : XSt} {I : XI} {F : XF} {P : XP} {L i : Nat} {xs : Nat → Int32} (hL : L ≤ 3072) (hi : i + 6 ≤ L) (hO : OKS S) (hC : CI I F S) (hI : MI I F S) (kk : ∀ (S2 : XSt) (I2 : XI) (F2 : XF), OKS S2 → CI I2 F2 S2 → MI I2 F2 S2 → XJ (some (L, xs)) m_LA_law 1344 [some (.ref 44), some (.ref 24), some (.ref 36), some (.int (nI i))] [] I2 F2 P) : XJ (some (L, xs)) m_LA_law 238 [some (.ref 44), some (.ref 24), some (.ref 36), some (.int (nI i))] [] I F P := by
  refine xj_aload_n (pc := 238) d_LA_law_238 rfl rfl ?_
  refine xj_aload_n (pc := 239) d_LA_law_239 rfl rfl ?_
  refine xj_iload_n (pc := 240) d_LA_law_240 rfl rfl ?_
  refine xj_iconst (pc := 241) (v := 1) d_LA_law_241 (by decide) ?_
  refine xj_iadd (pc := 242) d_LA_law_242 ?_
  refine xj_sld (pc := 243) (j := i + 1) d_LA_law_243 (n_addN i 1) (by omega) (by omega) ?_
  refine xj_callV (pc := 244) d_LA_law_244 ml_LA_23 ok_RD_put (t_RD_put hC) rfl rfl rfl rfl rfl (Nat.le_of_ble_eq_true rfl) (by decide) ?_
  rintro rv I1 F1 ⟨rfl, gC, gM⟩
  have hI1 := cm_mi gM hI
  dsimp only [Option.toList, List.cons_append, List.nil_append]
  refine xj_aload_n (pc := 247) d_LA_law_247 rfl rfl ?_
  refine xj_aload_n (pc := 248) d_LA_law_248 rfl rfl ?_
  refine xj_iload_n (pc := 249) d_LA_law_249 rfl rfl ?_
  refine xj_iconst (pc := 250) (v := 1) d_LA_law_250 (by decide) ?_
  refine xj_iadd (pc := 251) d_LA_law_251 ?_
  refine xj_sld (pc := 252) (j := i + 1) d_LA_law_252 (n_addN i 1) (by omega) (by omega) ?_
  refine xj_callV (pc := 253) d_LA_law_253 ml_LA_26 ok_MO_put (t_MO_put hI1) rfl rfl rfl rfl rfl (Nat.le_of_ble_eq_true rfl) (by decide) ?_
  rintro rv I2 F2 ⟨rfl, gI, gN⟩
  dsimp only [Option.toList, List.cons_append, List.nil_append]
  refine xj_icmp_eq (pc := 256) (tgt := 1344) d_LA_law_256 (by decide) (fun h256 => ?_) (fun h256 => absurd (rfl) h256)
  exact kk _ I2 F2 (oks_put hO) (nm_ci gN gC) gI
theorem lc_at {S : XSt} {I : XI} {F : XF} {P : XP} {L i : Nat} {xs : Nat → Int32} (hL : L ≤ 3072) (hi : i + 6 ≤ L) (hO : OKS S) (hC : CI I F S) (hI : MI I F S) (kk : ∀ (S2 : XSt) (I2 : XI) (F2 : XF), OKS S2 → CI I2 F2 S2 → MI I2 F2 S2 → XJ (some (L, xs)) m_LA_law 1344 [some (.ref 44), some (.ref 24), some (.ref 36), some (.int (nI i))] [] I2 F2 P) : XJ (some (L, xs)) m_LA_law 261 [some (.ref 44), some (.ref 24), some (.ref 36), some (.int (nI i))] [] I F P := by
  refine xj_aload_n (pc := 261) d_LA_law_261 rfl rfl ?_
  refine xj_aload_n (pc := 262) d_LA_law_262 rfl rfl ?_
  refine xj_iload_n (pc := 263) d_LA_law_263 rfl rfl ?_
  refine xj_iconst (pc := 264) (v := 1) d_LA_law_264 (by decide) ?_
  refine xj_iadd (pc := 265) d_LA_law_265 ?_
  refine xj_sld (pc := 266) (j := i + 1) d_LA_law_266 (n_addN i 1) (by omega) (by omega) ?_
  refine xj_aload_n (pc := 267) d_LA_law_267 rfl rfl ?_
  refine xj_iload_n (pc := 268) d_LA_law_268 rfl rfl ?_
  refine xj_iconst (pc := 269) (v := 2) d_LA_law_269 (by decide) ?_
  refine xj_iadd (pc := 270) d_LA_law_270 ?_
  refine xj_sld (pc := 271) (j := i + 2) d_LA_law_271 (n_addN i 2) (by omega) (by omega) ?_
  refine xj_callV (pc := 272) d_LA_law_272 ml_LA_27 ok_RD_at (t_RD_at hC) rfl rfl rfl rfl rfl (Nat.le_of_ble_eq_true rfl) (by decide) ?_
  rintro rv I1 F1 ⟨rfl, gC, gM⟩
  have hI1 := cm_mi gM hI
  dsimp only [Option.toList, List.cons_append, List.nil_append]
  refine xj_aload_n (pc := 275) d_LA_law_275 rfl rfl ?_
  refine xj_aload_n (pc := 276) d_LA_law_276 rfl rfl ?_
  refine xj_iload_n (pc := 277) d_LA_law_277 rfl rfl ?_
  refine xj_iconst (pc := 278) (v := 1) d_LA_law_278 (by decide) ?_
  refine xj_iadd (pc := 279) d_LA_law_279 ?_
  refine xj_sld (pc := 280) (j := i + 1) d_LA_law_280 (n_addN i 1) (by omega) (by omega) ?_
  refine xj_aload_n (pc := 281) d_LA_law_281 rfl rfl ?_
  refine xj_iload_n (pc := 282) d_LA_law_282 rfl rfl ?_
  refine xj_iconst (pc := 283) (v := 2) d_LA_law_283 (by decide) ?_
  refine xj_iadd (pc := 284) d_LA_law_284 ?_
  refine xj_sld (pc := 285) (j := i + 2) d_LA_law_285 (n_addN i 2) (by omega) (by omega) ?_
  refine xj_callV (pc := 286) d_LA_law_286 ml_LA_31 ok_MO_at (t_MO_at hI1) rfl rfl rfl rfl rfl (Nat.le_of_ble_eq_true rfl) (by decide) ?_
  rintro rv I2 F2 ⟨rfl, gI, gN⟩
  dsimp only [Option.toList, List.cons_append, List.nil_append]
  refine xj_icmp_eq (pc := 289) (tgt := 1344) d_LA_law_289 (by decide) (fun h289 => ?_) (fun h289 => absurd (rfl) h289)
  exact kk _ I2 F2 hO (nm_ci gN gC) gI
theorem lc_size {S : XSt} {I : XI} {F : XF} {P : XP} {L i : Nat} {xs : Nat → Int32} (hL : L ≤ 3072) (hi : i + 6 ≤ L) (hO : OKS S) (hC : CI I F S) (hI : MI I F S) (kk : ∀ (S2 : XSt) (I2 : XI) (F2 : XF), OKS S2 → CI I2 F2 S2 → MI I2 F2 S2 → XJ (some (L, xs)) m_LA_law 1344 [some (.ref 44), some (.ref 24), some (.ref 36), some (.int (nI i))] [] I2 F2 P) : XJ (some (L, xs)) m_LA_law 294 [some (.ref 44), some (.ref 24), some (.ref 36), some (.int (nI i))] [] I F P := by
  refine xj_aload_n (pc := 294) d_LA_law_294 rfl rfl ?_
  refine xj_aload_n (pc := 295) d_LA_law_295 rfl rfl ?_
  refine xj_iload_n (pc := 296) d_LA_law_296 rfl rfl ?_
  refine xj_iconst (pc := 297) (v := 1) d_LA_law_297 (by decide) ?_
  refine xj_iadd (pc := 298) d_LA_law_298 ?_
  refine xj_sld (pc := 299) (j := i + 1) d_LA_law_299 (n_addN i 1) (by omega) (by omega) ?_
  refine xj_callV (pc := 300) d_LA_law_300 ml_LA_32 ok_RD_size (t_RD_size hC) rfl rfl rfl rfl rfl (Nat.le_of_ble_eq_true rfl) (by decide) ?_
  rintro rv I1 F1 ⟨rfl, gC, gM⟩
  have hI1 := cm_mi gM hI
  dsimp only [Option.toList, List.cons_append, List.nil_append]
  refine xj_aload_n (pc := 303) d_LA_law_303 rfl rfl ?_
  refine xj_aload_n (pc := 304) d_LA_law_304 rfl rfl ?_
  refine xj_iload_n (pc := 305) d_LA_law_305 rfl rfl ?_
  refine xj_iconst (pc := 306) (v := 1) d_LA_law_306 (by decide) ?_
  refine xj_iadd (pc := 307) d_LA_law_307 ?_
  refine xj_sld (pc := 308) (j := i + 1) d_LA_law_308 (n_addN i 1) (by omega) (by omega) ?_
  refine xj_callV (pc := 309) d_LA_law_309 ml_LA_35 ok_MO_size (t_MO_size hI1) rfl rfl rfl rfl rfl (Nat.le_of_ble_eq_true rfl) (by decide) ?_
  rintro rv I2 F2 ⟨rfl, gI, gN⟩
  dsimp only [Option.toList, List.cons_append, List.nil_append]
  refine xj_icmp_eq (pc := 312) (tgt := 1344) d_LA_law_312 (by decide) (fun h312 => ?_) (fun h312 => absurd (rfl) h312)
  exact kk _ I2 F2 hO (nm_ci gN gC) gI
theorem lc_pad {S : XSt} {I : XI} {F : XF} {P : XP} {L i : Nat} {xs : Nat → Int32} (hL : L ≤ 3072) (hi : i + 6 ≤ L) (hO : OKS S) (hC : CI I F S) (hI : MI I F S) (kk : ∀ (S2 : XSt) (I2 : XI) (F2 : XF), OKS S2 → CI I2 F2 S2 → MI I2 F2 S2 → XJ (some (L, xs)) m_LA_law 1344 [some (.ref 44), some (.ref 24), some (.ref 36), some (.int (nI i))] [] I2 F2 P) : XJ (some (L, xs)) m_LA_law 317 [some (.ref 44), some (.ref 24), some (.ref 36), some (.int (nI i))] [] I F P := by
  refine xj_aload_n (pc := 317) d_LA_law_317 rfl rfl ?_
  refine xj_aload_n (pc := 318) d_LA_law_318 rfl rfl ?_
  refine xj_iload_n (pc := 319) d_LA_law_319 rfl rfl ?_
  refine xj_iconst (pc := 320) (v := 1) d_LA_law_320 (by decide) ?_
  refine xj_iadd (pc := 321) d_LA_law_321 ?_
  refine xj_sld (pc := 322) (j := i + 1) d_LA_law_322 (n_addN i 1) (by omega) (by omega) ?_
  refine xj_callV (pc := 323) d_LA_law_323 ml_LA_36 ok_RD_pad (t_RD_pad hC) rfl rfl rfl rfl rfl (Nat.le_of_ble_eq_true rfl) (by decide) ?_
  rintro rv I1 F1 ⟨rfl, gC, gM⟩
  have hI1 := cm_mi gM hI
  dsimp only [Option.toList, List.cons_append, List.nil_append]
  refine xj_aload_n (pc := 326) d_LA_law_326 rfl rfl ?_
  refine xj_aload_n (pc := 327) d_LA_law_327 rfl rfl ?_
  refine xj_iload_n (pc := 328) d_LA_law_328 rfl rfl ?_
  refine xj_iconst (pc := 329) (v := 1) d_LA_law_329 (by decide) ?_
  refine xj_iadd (pc := 330) d_LA_law_330 ?_
  refine xj_sld (pc := 331) (j := i + 1) d_LA_law_331 (n_addN i 1) (by omega) (by omega) ?_
  refine xj_callV (pc := 332) d_LA_law_332 ml_LA_39 ok_MO_pad (t_MO_pad hI1) rfl rfl rfl rfl rfl (Nat.le_of_ble_eq_true rfl) (by decide) ?_
  rintro rv I2 F2 ⟨rfl, gI, gN⟩
  dsimp only [Option.toList, List.cons_append, List.nil_append]
  refine xj_icmp_eq (pc := 335) (tgt := 1344) d_LA_law_335 (by decide) (fun h335 => ?_) (fun h335 => absurd (rfl) h335)
  exact kk _ I2 F2 (oks_pad hO) (nm_ci gN gC) gI
theorem lc_fill {S : XSt} {I : XI} {F : XF} {P : XP} {L i : Nat} {xs : Nat → Int32} (hL : L ≤ 3072) (hi : i + 6 ≤ L) (hO : OKS S) (hC : CI I F S) (hI : MI I F S) (kk : ∀ (S2 : XSt) (I2 : XI) (F2 : XF), OKS S2 → CI I2 F2 S2 → MI I2 F2 S2 → XJ (some (L, xs)) m_LA_law 1344 [some (.ref 44), some (.ref 24), some (.ref 36), some (.int (nI i))] [] I2 F2 P) : XJ (some (L, xs)) m_LA_law 340 [some (.ref 44), some (.ref 24), some (.ref 36), some (.int (nI i))] [] I F P := by
  refine xj_aload_n (pc := 340) d_LA_law_340 rfl rfl ?_
  refine xj_aload_n (pc := 341) d_LA_law_341 rfl rfl ?_
  refine xj_iload_n (pc := 342) d_LA_law_342 rfl rfl ?_
  refine xj_iconst (pc := 343) (v := 1) d_LA_law_343 (by decide) ?_
  refine xj_iadd (pc := 344) d_LA_law_344 ?_
  refine xj_sld (pc := 345) (j := i + 1) d_LA_law_345 (n_addN i 1) (by omega) (by omega) ?_
  refine xj_aload_n (pc := 346) d_LA_law_346 rfl rfl ?_
  refine xj_iload_n (pc := 347) d_LA_law_347 rfl rfl ?_
  refine xj_iconst (pc := 348) (v := 2) d_LA_law_348 (by decide) ?_
  refine xj_iadd (pc := 349) d_LA_law_349 ?_
  refine xj_sld (pc := 350) (j := i + 2) d_LA_law_350 (n_addN i 2) (by omega) (by omega) ?_
  refine xj_aload_n (pc := 351) d_LA_law_351 rfl rfl ?_
  refine xj_iload_n (pc := 352) d_LA_law_352 rfl rfl ?_
  refine xj_iconst (pc := 353) (v := 3) d_LA_law_353 (by decide) ?_
  refine xj_iadd (pc := 354) d_LA_law_354 ?_
  refine xj_sld (pc := 355) (j := i + 3) d_LA_law_355 (n_addN i 3) (by omega) (by omega) ?_
  refine xj_aload_n (pc := 356) d_LA_law_356 rfl rfl ?_
  refine xj_iload_n (pc := 357) d_LA_law_357 rfl rfl ?_
  refine xj_iconst (pc := 358) (v := 4) d_LA_law_358 (by decide) ?_
  refine xj_iadd (pc := 359) d_LA_law_359 ?_
  refine xj_sld (pc := 360) (j := i + 4) d_LA_law_360 (n_addN i 4) (by omega) (by omega) ?_
  refine xj_callV (pc := 361) d_LA_law_361 ml_LA_40 ok_RD_fill (t_RD_fill hO hC) rfl rfl rfl rfl rfl (Nat.le_of_ble_eq_true rfl) (by decide) ?_
  rintro rv I1 F1 ⟨rfl, gC, gM⟩
  have hI1 := cm_mi gM hI
  dsimp only [Option.toList, List.cons_append, List.nil_append]
  refine xj_aload_n (pc := 364) d_LA_law_364 rfl rfl ?_
  refine xj_aload_n (pc := 365) d_LA_law_365 rfl rfl ?_
  refine xj_iload_n (pc := 366) d_LA_law_366 rfl rfl ?_
  refine xj_iconst (pc := 367) (v := 1) d_LA_law_367 (by decide) ?_
  refine xj_iadd (pc := 368) d_LA_law_368 ?_
  refine xj_sld (pc := 369) (j := i + 1) d_LA_law_369 (n_addN i 1) (by omega) (by omega) ?_
  refine xj_aload_n (pc := 370) d_LA_law_370 rfl rfl ?_
  refine xj_iload_n (pc := 371) d_LA_law_371 rfl rfl ?_
  refine xj_iconst (pc := 372) (v := 2) d_LA_law_372 (by decide) ?_
  refine xj_iadd (pc := 373) d_LA_law_373 ?_
  refine xj_sld (pc := 374) (j := i + 2) d_LA_law_374 (n_addN i 2) (by omega) (by omega) ?_
  refine xj_aload_n (pc := 375) d_LA_law_375 rfl rfl ?_
  refine xj_iload_n (pc := 376) d_LA_law_376 rfl rfl ?_
  refine xj_iconst (pc := 377) (v := 3) d_LA_law_377 (by decide) ?_
  refine xj_iadd (pc := 378) d_LA_law_378 ?_
  refine xj_sld (pc := 379) (j := i + 3) d_LA_law_379 (n_addN i 3) (by omega) (by omega) ?_
  refine xj_aload_n (pc := 380) d_LA_law_380 rfl rfl ?_
  refine xj_iload_n (pc := 381) d_LA_law_381 rfl rfl ?_
  refine xj_iconst (pc := 382) (v := 4) d_LA_law_382 (by decide) ?_
  refine xj_iadd (pc := 383) d_LA_law_383 ?_
  refine xj_sld (pc := 384) (j := i + 4) d_LA_law_384 (n_addN i 4) (by omega) (by omega) ?_
  refine xj_callV (pc := 385) d_LA_law_385 ml_LA_44 ok_MO_fill (t_MO_fill hI1) rfl rfl rfl rfl rfl (Nat.le_of_ble_eq_true rfl) (by decide) ?_
  rintro rv I2 F2 ⟨rfl, gI, gN⟩
  dsimp only [Option.toList, List.cons_append, List.nil_append]
  refine xj_icmp_eq (pc := 388) (tgt := 1344) d_LA_law_388 (by decide) (fun h388 => ?_) (fun h388 => absurd (rfl) h388)
  exact kk _ I2 F2 (oks_fill hO) (nm_ci gN gC) gI
theorem lc_part {S : XSt} {I : XI} {F : XF} {P : XP} {L i : Nat} {xs : Nat → Int32} (hL : L ≤ 3072) (hi : i + 6 ≤ L) (hO : OKS S) (hC : CI I F S) (hI : MI I F S) (kk : ∀ (S2 : XSt) (I2 : XI) (F2 : XF), OKS S2 → CI I2 F2 S2 → MI I2 F2 S2 → XJ (some (L, xs)) m_LA_law 1344 [some (.ref 44), some (.ref 24), some (.ref 36), some (.int (nI i))] [] I2 F2 P) : XJ (some (L, xs)) m_LA_law 393 [some (.ref 44), some (.ref 24), some (.ref 36), some (.int (nI i))] [] I F P := by
  refine xj_aload_n (pc := 393) d_LA_law_393 rfl rfl ?_
  refine xj_aload_n (pc := 394) d_LA_law_394 rfl rfl ?_
  refine xj_iload_n (pc := 395) d_LA_law_395 rfl rfl ?_
  refine xj_iconst (pc := 396) (v := 1) d_LA_law_396 (by decide) ?_
  refine xj_iadd (pc := 397) d_LA_law_397 ?_
  refine xj_sld (pc := 398) (j := i + 1) d_LA_law_398 (n_addN i 1) (by omega) (by omega) ?_
  refine xj_aload_n (pc := 399) d_LA_law_399 rfl rfl ?_
  refine xj_iload_n (pc := 400) d_LA_law_400 rfl rfl ?_
  refine xj_iconst (pc := 401) (v := 2) d_LA_law_401 (by decide) ?_
  refine xj_iadd (pc := 402) d_LA_law_402 ?_
  refine xj_sld (pc := 403) (j := i + 2) d_LA_law_403 (n_addN i 2) (by omega) (by omega) ?_
  refine xj_aload_n (pc := 404) d_LA_law_404 rfl rfl ?_
  refine xj_iload_n (pc := 405) d_LA_law_405 rfl rfl ?_
  refine xj_iconst (pc := 406) (v := 3) d_LA_law_406 (by decide) ?_
  refine xj_iadd (pc := 407) d_LA_law_407 ?_
  refine xj_sld (pc := 408) (j := i + 3) d_LA_law_408 (n_addN i 3) (by omega) (by omega) ?_
  refine xj_aload_n (pc := 409) d_LA_law_409 rfl rfl ?_
  refine xj_iload_n (pc := 410) d_LA_law_410 rfl rfl ?_
  refine xj_iconst (pc := 411) (v := 4) d_LA_law_411 (by decide) ?_
  refine xj_iadd (pc := 412) d_LA_law_412 ?_
  refine xj_sld (pc := 413) (j := i + 4) d_LA_law_413 (n_addN i 4) (by omega) (by omega) ?_
  refine xj_callV (pc := 414) d_LA_law_414 ml_LA_45 ok_RD_part (t_RD_part hO hC) rfl rfl rfl rfl rfl (Nat.le_of_ble_eq_true rfl) (by decide) ?_
  rintro rv I1 F1 ⟨rfl, gC, gM⟩
  have hI1 := cm_mi gM hI
  dsimp only [Option.toList, List.cons_append, List.nil_append]
  refine xj_aload_n (pc := 417) d_LA_law_417 rfl rfl ?_
  refine xj_aload_n (pc := 418) d_LA_law_418 rfl rfl ?_
  refine xj_iload_n (pc := 419) d_LA_law_419 rfl rfl ?_
  refine xj_iconst (pc := 420) (v := 1) d_LA_law_420 (by decide) ?_
  refine xj_iadd (pc := 421) d_LA_law_421 ?_
  refine xj_sld (pc := 422) (j := i + 1) d_LA_law_422 (n_addN i 1) (by omega) (by omega) ?_
  refine xj_aload_n (pc := 423) d_LA_law_423 rfl rfl ?_
  refine xj_iload_n (pc := 424) d_LA_law_424 rfl rfl ?_
  refine xj_iconst (pc := 425) (v := 2) d_LA_law_425 (by decide) ?_
  refine xj_iadd (pc := 426) d_LA_law_426 ?_
  refine xj_sld (pc := 427) (j := i + 2) d_LA_law_427 (n_addN i 2) (by omega) (by omega) ?_
  refine xj_aload_n (pc := 428) d_LA_law_428 rfl rfl ?_
  refine xj_iload_n (pc := 429) d_LA_law_429 rfl rfl ?_
  refine xj_iconst (pc := 430) (v := 3) d_LA_law_430 (by decide) ?_
  refine xj_iadd (pc := 431) d_LA_law_431 ?_
  refine xj_sld (pc := 432) (j := i + 3) d_LA_law_432 (n_addN i 3) (by omega) (by omega) ?_
  refine xj_aload_n (pc := 433) d_LA_law_433 rfl rfl ?_
  refine xj_iload_n (pc := 434) d_LA_law_434 rfl rfl ?_
  refine xj_iconst (pc := 435) (v := 4) d_LA_law_435 (by decide) ?_
  refine xj_iadd (pc := 436) d_LA_law_436 ?_
  refine xj_sld (pc := 437) (j := i + 4) d_LA_law_437 (n_addN i 4) (by omega) (by omega) ?_
  refine xj_callV (pc := 438) d_LA_law_438 ml_LA_48 ok_MO_part (t_MO_part hI1) rfl rfl rfl rfl rfl (Nat.le_of_ble_eq_true rfl) (by decide) ?_
  rintro rv I2 F2 ⟨rfl, gI, gN⟩
  dsimp only [Option.toList, List.cons_append, List.nil_append]
  refine xj_icmp_eq (pc := 441) (tgt := 1344) d_LA_law_441 (by decide) (fun h441 => ?_) (fun h441 => absurd (rfl) h441)
  exact kk _ I2 F2 (oks_part hO) (nm_ci gN gC) gI
theorem lc_cut {S : XSt} {I : XI} {F : XF} {P : XP} {L i : Nat} {xs : Nat → Int32} (hL : L ≤ 3072) (hi : i + 6 ≤ L) (hO : OKS S) (hC : CI I F S) (hI : MI I F S) (kk : ∀ (S2 : XSt) (I2 : XI) (F2 : XF), OKS S2 → CI I2 F2 S2 → MI I2 F2 S2 → XJ (some (L, xs)) m_LA_law 1344 [some (.ref 44), some (.ref 24), some (.ref 36), some (.int (nI i))] [] I2 F2 P) : XJ (some (L, xs)) m_LA_law 446 [some (.ref 44), some (.ref 24), some (.ref 36), some (.int (nI i))] [] I F P := by
  refine xj_aload_n (pc := 446) d_LA_law_446 rfl rfl ?_
  refine xj_aload_n (pc := 447) d_LA_law_447 rfl rfl ?_
  refine xj_iload_n (pc := 448) d_LA_law_448 rfl rfl ?_
  refine xj_iconst (pc := 449) (v := 1) d_LA_law_449 (by decide) ?_
  refine xj_iadd (pc := 450) d_LA_law_450 ?_
  refine xj_sld (pc := 451) (j := i + 1) d_LA_law_451 (n_addN i 1) (by omega) (by omega) ?_
  refine xj_aload_n (pc := 452) d_LA_law_452 rfl rfl ?_
  refine xj_iload_n (pc := 453) d_LA_law_453 rfl rfl ?_
  refine xj_iconst (pc := 454) (v := 2) d_LA_law_454 (by decide) ?_
  refine xj_iadd (pc := 455) d_LA_law_455 ?_
  refine xj_sld (pc := 456) (j := i + 2) d_LA_law_456 (n_addN i 2) (by omega) (by omega) ?_
  refine xj_aload_n (pc := 457) d_LA_law_457 rfl rfl ?_
  refine xj_iload_n (pc := 458) d_LA_law_458 rfl rfl ?_
  refine xj_iconst (pc := 459) (v := 3) d_LA_law_459 (by decide) ?_
  refine xj_iadd (pc := 460) d_LA_law_460 ?_
  refine xj_sld (pc := 461) (j := i + 3) d_LA_law_461 (n_addN i 3) (by omega) (by omega) ?_
  refine xj_aload_n (pc := 462) d_LA_law_462 rfl rfl ?_
  refine xj_iload_n (pc := 463) d_LA_law_463 rfl rfl ?_
  refine xj_iconst (pc := 464) (v := 4) d_LA_law_464 (by decide) ?_
  refine xj_iadd (pc := 465) d_LA_law_465 ?_
  refine xj_sld (pc := 466) (j := i + 4) d_LA_law_466 (n_addN i 4) (by omega) (by omega) ?_
  refine xj_callV (pc := 467) d_LA_law_467 ml_LA_49 ok_RD_cut (t_RD_cut hO hC) rfl rfl rfl rfl rfl (Nat.le_of_ble_eq_true rfl) (by decide) ?_
  rintro rv I1 F1 ⟨rfl, gC, gM⟩
  have hI1 := cm_mi gM hI
  dsimp only [Option.toList, List.cons_append, List.nil_append]
  refine xj_aload_n (pc := 470) d_LA_law_470 rfl rfl ?_
  refine xj_aload_n (pc := 471) d_LA_law_471 rfl rfl ?_
  refine xj_iload_n (pc := 472) d_LA_law_472 rfl rfl ?_
  refine xj_iconst (pc := 473) (v := 1) d_LA_law_473 (by decide) ?_
  refine xj_iadd (pc := 474) d_LA_law_474 ?_
  refine xj_sld (pc := 475) (j := i + 1) d_LA_law_475 (n_addN i 1) (by omega) (by omega) ?_
  refine xj_aload_n (pc := 476) d_LA_law_476 rfl rfl ?_
  refine xj_iload_n (pc := 477) d_LA_law_477 rfl rfl ?_
  refine xj_iconst (pc := 478) (v := 2) d_LA_law_478 (by decide) ?_
  refine xj_iadd (pc := 479) d_LA_law_479 ?_
  refine xj_sld (pc := 480) (j := i + 2) d_LA_law_480 (n_addN i 2) (by omega) (by omega) ?_
  refine xj_aload_n (pc := 481) d_LA_law_481 rfl rfl ?_
  refine xj_iload_n (pc := 482) d_LA_law_482 rfl rfl ?_
  refine xj_iconst (pc := 483) (v := 3) d_LA_law_483 (by decide) ?_
  refine xj_iadd (pc := 484) d_LA_law_484 ?_
  refine xj_sld (pc := 485) (j := i + 3) d_LA_law_485 (n_addN i 3) (by omega) (by omega) ?_
  refine xj_aload_n (pc := 486) d_LA_law_486 rfl rfl ?_
  refine xj_iload_n (pc := 487) d_LA_law_487 rfl rfl ?_
  refine xj_iconst (pc := 488) (v := 4) d_LA_law_488 (by decide) ?_
  refine xj_iadd (pc := 489) d_LA_law_489 ?_
  refine xj_sld (pc := 490) (j := i + 4) d_LA_law_490 (n_addN i 4) (by omega) (by omega) ?_
  refine xj_callV (pc := 491) d_LA_law_491 ml_LA_52 ok_MO_cut (t_MO_cut hI1) rfl rfl rfl rfl rfl (Nat.le_of_ble_eq_true rfl) (by decide) ?_
  rintro rv I2 F2 ⟨rfl, gI, gN⟩
  dsimp only [Option.toList, List.cons_append, List.nil_append]
  refine xj_icmp_eq (pc := 494) (tgt := 1344) d_LA_law_494 (by decide) (fun h494 => ?_) (fun h494 => absurd (rfl) h494)
  exact kk _ I2 F2 (oks_cut hO) (nm_ci gN gC) gI
theorem lc_join {S : XSt} {I : XI} {F : XF} {P : XP} {L i : Nat} {xs : Nat → Int32} (hL : L ≤ 3072) (hi : i + 6 ≤ L) (hO : OKS S) (hC : CI I F S) (hI : MI I F S) (kk : ∀ (S2 : XSt) (I2 : XI) (F2 : XF), OKS S2 → CI I2 F2 S2 → MI I2 F2 S2 → XJ (some (L, xs)) m_LA_law 1344 [some (.ref 44), some (.ref 24), some (.ref 36), some (.int (nI i))] [] I2 F2 P) : XJ (some (L, xs)) m_LA_law 499 [some (.ref 44), some (.ref 24), some (.ref 36), some (.int (nI i))] [] I F P := by
  refine xj_aload_n (pc := 499) d_LA_law_499 rfl rfl ?_
  refine xj_aload_n (pc := 500) d_LA_law_500 rfl rfl ?_
  refine xj_iload_n (pc := 501) d_LA_law_501 rfl rfl ?_
  refine xj_iconst (pc := 502) (v := 1) d_LA_law_502 (by decide) ?_
  refine xj_iadd (pc := 503) d_LA_law_503 ?_
  refine xj_sld (pc := 504) (j := i + 1) d_LA_law_504 (n_addN i 1) (by omega) (by omega) ?_
  refine xj_aload_n (pc := 505) d_LA_law_505 rfl rfl ?_
  refine xj_iload_n (pc := 506) d_LA_law_506 rfl rfl ?_
  refine xj_iconst (pc := 507) (v := 2) d_LA_law_507 (by decide) ?_
  refine xj_iadd (pc := 508) d_LA_law_508 ?_
  refine xj_sld (pc := 509) (j := i + 2) d_LA_law_509 (n_addN i 2) (by omega) (by omega) ?_
  refine xj_aload_n (pc := 510) d_LA_law_510 rfl rfl ?_
  refine xj_iload_n (pc := 511) d_LA_law_511 rfl rfl ?_
  refine xj_iconst (pc := 512) (v := 3) d_LA_law_512 (by decide) ?_
  refine xj_iadd (pc := 513) d_LA_law_513 ?_
  refine xj_sld (pc := 514) (j := i + 3) d_LA_law_514 (n_addN i 3) (by omega) (by omega) ?_
  refine xj_aload_n (pc := 515) d_LA_law_515 rfl rfl ?_
  refine xj_iload_n (pc := 516) d_LA_law_516 rfl rfl ?_
  refine xj_iconst (pc := 517) (v := 4) d_LA_law_517 (by decide) ?_
  refine xj_iadd (pc := 518) d_LA_law_518 ?_
  refine xj_sld (pc := 519) (j := i + 4) d_LA_law_519 (n_addN i 4) (by omega) (by omega) ?_
  refine xj_callV (pc := 520) d_LA_law_520 ml_LA_53 ok_RD_join (t_RD_join hO hC) rfl rfl rfl rfl rfl (Nat.le_of_ble_eq_true rfl) (by decide) ?_
  rintro rv I1 F1 ⟨rfl, gC, gM⟩
  have hI1 := cm_mi gM hI
  dsimp only [Option.toList, List.cons_append, List.nil_append]
  refine xj_aload_n (pc := 523) d_LA_law_523 rfl rfl ?_
  refine xj_aload_n (pc := 524) d_LA_law_524 rfl rfl ?_
  refine xj_iload_n (pc := 525) d_LA_law_525 rfl rfl ?_
  refine xj_iconst (pc := 526) (v := 1) d_LA_law_526 (by decide) ?_
  refine xj_iadd (pc := 527) d_LA_law_527 ?_
  refine xj_sld (pc := 528) (j := i + 1) d_LA_law_528 (n_addN i 1) (by omega) (by omega) ?_
  refine xj_aload_n (pc := 529) d_LA_law_529 rfl rfl ?_
  refine xj_iload_n (pc := 530) d_LA_law_530 rfl rfl ?_
  refine xj_iconst (pc := 531) (v := 2) d_LA_law_531 (by decide) ?_
  refine xj_iadd (pc := 532) d_LA_law_532 ?_
  refine xj_sld (pc := 533) (j := i + 2) d_LA_law_533 (n_addN i 2) (by omega) (by omega) ?_
  refine xj_aload_n (pc := 534) d_LA_law_534 rfl rfl ?_
  refine xj_iload_n (pc := 535) d_LA_law_535 rfl rfl ?_
  refine xj_iconst (pc := 536) (v := 3) d_LA_law_536 (by decide) ?_
  refine xj_iadd (pc := 537) d_LA_law_537 ?_
  refine xj_sld (pc := 538) (j := i + 3) d_LA_law_538 (n_addN i 3) (by omega) (by omega) ?_
  refine xj_aload_n (pc := 539) d_LA_law_539 rfl rfl ?_
  refine xj_iload_n (pc := 540) d_LA_law_540 rfl rfl ?_
  refine xj_iconst (pc := 541) (v := 4) d_LA_law_541 (by decide) ?_
  refine xj_iadd (pc := 542) d_LA_law_542 ?_
  refine xj_sld (pc := 543) (j := i + 4) d_LA_law_543 (n_addN i 4) (by omega) (by omega) ?_
  refine xj_callV (pc := 544) d_LA_law_544 ml_LA_56 ok_MO_join (t_MO_join hI1) rfl rfl rfl rfl rfl (Nat.le_of_ble_eq_true rfl) (by decide) ?_
  rintro rv I2 F2 ⟨rfl, gI, gN⟩
  dsimp only [Option.toList, List.cons_append, List.nil_append]
  refine xj_icmp_eq (pc := 547) (tgt := 1344) d_LA_law_547 (by decide) (fun h547 => ?_) (fun h547 => absurd (rfl) h547)
  exact kk _ I2 F2 (oks_join hO) (nm_ci gN gC) gI
theorem lc_copies {S : XSt} {I : XI} {F : XF} {P : XP} {L i : Nat} {xs : Nat → Int32} (hL : L ≤ 3072) (hi : i + 6 ≤ L) (hO : OKS S) (hC : CI I F S) (hI : MI I F S) (kk : ∀ (S2 : XSt) (I2 : XI) (F2 : XF), OKS S2 → CI I2 F2 S2 → MI I2 F2 S2 → XJ (some (L, xs)) m_LA_law 1344 [some (.ref 44), some (.ref 24), some (.ref 36), some (.int (nI i))] [] I2 F2 P) : XJ (some (L, xs)) m_LA_law 552 [some (.ref 44), some (.ref 24), some (.ref 36), some (.int (nI i))] [] I F P := by
  refine xj_aload_n (pc := 552) d_LA_law_552 rfl rfl ?_
  refine xj_aload_n (pc := 553) d_LA_law_553 rfl rfl ?_
  refine xj_iload_n (pc := 554) d_LA_law_554 rfl rfl ?_
  refine xj_iconst (pc := 555) (v := 1) d_LA_law_555 (by decide) ?_
  refine xj_iadd (pc := 556) d_LA_law_556 ?_
  refine xj_sld (pc := 557) (j := i + 1) d_LA_law_557 (n_addN i 1) (by omega) (by omega) ?_
  refine xj_aload_n (pc := 558) d_LA_law_558 rfl rfl ?_
  refine xj_iload_n (pc := 559) d_LA_law_559 rfl rfl ?_
  refine xj_iconst (pc := 560) (v := 2) d_LA_law_560 (by decide) ?_
  refine xj_iadd (pc := 561) d_LA_law_561 ?_
  refine xj_sld (pc := 562) (j := i + 2) d_LA_law_562 (n_addN i 2) (by omega) (by omega) ?_
  refine xj_aload_n (pc := 563) d_LA_law_563 rfl rfl ?_
  refine xj_iload_n (pc := 564) d_LA_law_564 rfl rfl ?_
  refine xj_iconst (pc := 565) (v := 3) d_LA_law_565 (by decide) ?_
  refine xj_iadd (pc := 566) d_LA_law_566 ?_
  refine xj_sld (pc := 567) (j := i + 3) d_LA_law_567 (n_addN i 3) (by omega) (by omega) ?_
  refine xj_callV (pc := 568) d_LA_law_568 ml_LA_57 ok_RD_copies (t_RD_copies hO hC) rfl rfl rfl rfl rfl (Nat.le_of_ble_eq_true rfl) (by decide) ?_
  rintro rv I1 F1 ⟨rfl, gC, gM⟩
  have hI1 := cm_mi gM hI
  dsimp only [Option.toList, List.cons_append, List.nil_append]
  refine xj_aload_n (pc := 571) d_LA_law_571 rfl rfl ?_
  refine xj_aload_n (pc := 572) d_LA_law_572 rfl rfl ?_
  refine xj_iload_n (pc := 573) d_LA_law_573 rfl rfl ?_
  refine xj_iconst (pc := 574) (v := 1) d_LA_law_574 (by decide) ?_
  refine xj_iadd (pc := 575) d_LA_law_575 ?_
  refine xj_sld (pc := 576) (j := i + 1) d_LA_law_576 (n_addN i 1) (by omega) (by omega) ?_
  refine xj_aload_n (pc := 577) d_LA_law_577 rfl rfl ?_
  refine xj_iload_n (pc := 578) d_LA_law_578 rfl rfl ?_
  refine xj_iconst (pc := 579) (v := 2) d_LA_law_579 (by decide) ?_
  refine xj_iadd (pc := 580) d_LA_law_580 ?_
  refine xj_sld (pc := 581) (j := i + 2) d_LA_law_581 (n_addN i 2) (by omega) (by omega) ?_
  refine xj_aload_n (pc := 582) d_LA_law_582 rfl rfl ?_
  refine xj_iload_n (pc := 583) d_LA_law_583 rfl rfl ?_
  refine xj_iconst (pc := 584) (v := 3) d_LA_law_584 (by decide) ?_
  refine xj_iadd (pc := 585) d_LA_law_585 ?_
  refine xj_sld (pc := 586) (j := i + 3) d_LA_law_586 (n_addN i 3) (by omega) (by omega) ?_
  refine xj_callV (pc := 587) d_LA_law_587 ml_LA_61 ok_MO_copies (t_MO_copies hI1) rfl rfl rfl rfl rfl (Nat.le_of_ble_eq_true rfl) (by decide) ?_
  rintro rv I2 F2 ⟨rfl, gI, gN⟩
  dsimp only [Option.toList, List.cons_append, List.nil_append]
  refine xj_icmp_eq (pc := 590) (tgt := 1344) d_LA_law_590 (by decide) (fun h590 => ?_) (fun h590 => absurd (rfl) h590)
  exact kk _ I2 F2 (oks_copies hO) (nm_ci gN gC) gI
theorem lc_set {S : XSt} {I : XI} {F : XF} {P : XP} {L i : Nat} {xs : Nat → Int32} (hL : L ≤ 3072) (hi : i + 6 ≤ L) (hO : OKS S) (hC : CI I F S) (hI : MI I F S) (kk : ∀ (S2 : XSt) (I2 : XI) (F2 : XF), OKS S2 → CI I2 F2 S2 → MI I2 F2 S2 → XJ (some (L, xs)) m_LA_law 1344 [some (.ref 44), some (.ref 24), some (.ref 36), some (.int (nI i))] [] I2 F2 P) : XJ (some (L, xs)) m_LA_law 595 [some (.ref 44), some (.ref 24), some (.ref 36), some (.int (nI i))] [] I F P := by
  by_cases hb : xs (i + 4) = 0
  · refine xj_aload_n (pc := 595) d_LA_law_595 rfl rfl ?_
    refine xj_aload_n (pc := 596) d_LA_law_596 rfl rfl ?_
    refine xj_iload_n (pc := 597) d_LA_law_597 rfl rfl ?_
    refine xj_iconst (pc := 598) (v := 1) d_LA_law_598 (by decide) ?_
    refine xj_iadd (pc := 599) d_LA_law_599 ?_
    refine xj_sld (pc := 600) (j := i + 1) d_LA_law_600 (n_addN i 1) (by omega) (by omega) ?_
    refine xj_aload_n (pc := 601) d_LA_law_601 rfl rfl ?_
    refine xj_iload_n (pc := 602) d_LA_law_602 rfl rfl ?_
    refine xj_iconst (pc := 603) (v := 2) d_LA_law_603 (by decide) ?_
    refine xj_iadd (pc := 604) d_LA_law_604 ?_
    refine xj_sld (pc := 605) (j := i + 2) d_LA_law_605 (n_addN i 2) (by omega) (by omega) ?_
    refine xj_aload_n (pc := 606) d_LA_law_606 rfl rfl ?_
    refine xj_iload_n (pc := 607) d_LA_law_607 rfl rfl ?_
    refine xj_iconst (pc := 608) (v := 3) d_LA_law_608 (by decide) ?_
    refine xj_iadd (pc := 609) d_LA_law_609 ?_
    refine xj_sld (pc := 610) (j := i + 3) d_LA_law_610 (n_addN i 3) (by omega) (by omega) ?_
    refine xj_aload_n (pc := 611) d_LA_law_611 rfl rfl ?_
    refine xj_iload_n (pc := 612) d_LA_law_612 rfl rfl ?_
    refine xj_iconst (pc := 613) (v := 4) d_LA_law_613 (by decide) ?_
    refine xj_iadd (pc := 614) d_LA_law_614 ?_
    refine xj_sld (pc := 615) (j := i + 4) d_LA_law_615 (n_addN i 4) (by omega) (by omega) ?_
    refine xj_if_eq (pc := 616) (tgt := 623) d_LA_law_616 (by decide) (fun h616 => ?_) (fun h616 => absurd (hb) h616)
    refine xj_iconst (pc := 623) (v := 0) d_LA_law_623 (by decide) ?_
    refine xj_aload_n (pc := 624) d_LA_law_624 rfl rfl ?_
    refine xj_iload_n (pc := 625) d_LA_law_625 rfl rfl ?_
    refine xj_iconst (pc := 626) (v := 5) d_LA_law_626 (by decide) ?_
    refine xj_iadd (pc := 627) d_LA_law_627 ?_
    refine xj_sld (pc := 628) (j := i + 5) d_LA_law_628 (n_addN i 5) (by omega) (by omega) ?_
    refine xj_callV (pc := 629) d_LA_law_629 ml_LA_62 ok_RD_set (t_RD_set hO hC) rfl rfl rfl rfl rfl (Nat.le_of_ble_eq_true rfl) (by decide) ?_
    rintro rv I1 F1 ⟨rfl, gC, gM⟩
    have hI1 := cm_mi gM hI
    dsimp only [Option.toList, List.cons_append, List.nil_append]
    refine xj_aload_n (pc := 632) d_LA_law_632 rfl rfl ?_
    refine xj_aload_n (pc := 633) d_LA_law_633 rfl rfl ?_
    refine xj_iload_n (pc := 634) d_LA_law_634 rfl rfl ?_
    refine xj_iconst (pc := 635) (v := 1) d_LA_law_635 (by decide) ?_
    refine xj_iadd (pc := 636) d_LA_law_636 ?_
    refine xj_sld (pc := 637) (j := i + 1) d_LA_law_637 (n_addN i 1) (by omega) (by omega) ?_
    refine xj_aload_n (pc := 638) d_LA_law_638 rfl rfl ?_
    refine xj_iload_n (pc := 639) d_LA_law_639 rfl rfl ?_
    refine xj_iconst (pc := 640) (v := 2) d_LA_law_640 (by decide) ?_
    refine xj_iadd (pc := 641) d_LA_law_641 ?_
    refine xj_sld (pc := 642) (j := i + 2) d_LA_law_642 (n_addN i 2) (by omega) (by omega) ?_
    refine xj_aload_n (pc := 643) d_LA_law_643 rfl rfl ?_
    refine xj_iload_n (pc := 644) d_LA_law_644 rfl rfl ?_
    refine xj_iconst (pc := 645) (v := 3) d_LA_law_645 (by decide) ?_
    refine xj_iadd (pc := 646) d_LA_law_646 ?_
    refine xj_sld (pc := 647) (j := i + 3) d_LA_law_647 (n_addN i 3) (by omega) (by omega) ?_
    refine xj_aload_n (pc := 648) d_LA_law_648 rfl rfl ?_
    refine xj_iload_n (pc := 649) d_LA_law_649 rfl rfl ?_
    refine xj_iconst (pc := 650) (v := 4) d_LA_law_650 (by decide) ?_
    refine xj_iadd (pc := 651) d_LA_law_651 ?_
    refine xj_sld (pc := 652) (j := i + 4) d_LA_law_652 (n_addN i 4) (by omega) (by omega) ?_
    refine xj_if_eq (pc := 653) (tgt := 660) d_LA_law_653 (by decide) (fun h653 => ?_) (fun h653 => absurd (hb) h653)
    refine xj_iconst (pc := 660) (v := 0) d_LA_law_660 (by decide) ?_
    refine xj_aload_n (pc := 661) d_LA_law_661 rfl rfl ?_
    refine xj_iload_n (pc := 662) d_LA_law_662 rfl rfl ?_
    refine xj_iconst (pc := 663) (v := 5) d_LA_law_663 (by decide) ?_
    refine xj_iadd (pc := 664) d_LA_law_664 ?_
    refine xj_sld (pc := 665) (j := i + 5) d_LA_law_665 (n_addN i 5) (by omega) (by omega) ?_
    refine xj_callV (pc := 666) d_LA_law_666 ml_LA_66 ok_MO_set (t_MO_set hI1) rfl rfl rfl rfl rfl (Nat.le_of_ble_eq_true rfl) (by decide) ?_
    rintro rv I2 F2 ⟨rfl, gI, gN⟩
    dsimp only [Option.toList, List.cons_append, List.nil_append]
    refine xj_icmp_eq (pc := 669) (tgt := 1344) d_LA_law_669 (by decide) (fun h669 => ?_) (fun h669 => absurd (rfl) h669)
    exact kk _ I2 F2 (oks_set hO) (nm_ci gN gC) gI
  · refine xj_aload_n (pc := 595) d_LA_law_595 rfl rfl ?_
    refine xj_aload_n (pc := 596) d_LA_law_596 rfl rfl ?_
    refine xj_iload_n (pc := 597) d_LA_law_597 rfl rfl ?_
    refine xj_iconst (pc := 598) (v := 1) d_LA_law_598 (by decide) ?_
    refine xj_iadd (pc := 599) d_LA_law_599 ?_
    refine xj_sld (pc := 600) (j := i + 1) d_LA_law_600 (n_addN i 1) (by omega) (by omega) ?_
    refine xj_aload_n (pc := 601) d_LA_law_601 rfl rfl ?_
    refine xj_iload_n (pc := 602) d_LA_law_602 rfl rfl ?_
    refine xj_iconst (pc := 603) (v := 2) d_LA_law_603 (by decide) ?_
    refine xj_iadd (pc := 604) d_LA_law_604 ?_
    refine xj_sld (pc := 605) (j := i + 2) d_LA_law_605 (n_addN i 2) (by omega) (by omega) ?_
    refine xj_aload_n (pc := 606) d_LA_law_606 rfl rfl ?_
    refine xj_iload_n (pc := 607) d_LA_law_607 rfl rfl ?_
    refine xj_iconst (pc := 608) (v := 3) d_LA_law_608 (by decide) ?_
    refine xj_iadd (pc := 609) d_LA_law_609 ?_
    refine xj_sld (pc := 610) (j := i + 3) d_LA_law_610 (n_addN i 3) (by omega) (by omega) ?_
    refine xj_aload_n (pc := 611) d_LA_law_611 rfl rfl ?_
    refine xj_iload_n (pc := 612) d_LA_law_612 rfl rfl ?_
    refine xj_iconst (pc := 613) (v := 4) d_LA_law_613 (by decide) ?_
    refine xj_iadd (pc := 614) d_LA_law_614 ?_
    refine xj_sld (pc := 615) (j := i + 4) d_LA_law_615 (n_addN i 4) (by omega) (by omega) ?_
    refine xj_if_eq (pc := 616) (tgt := 623) d_LA_law_616 (by decide) (fun h616 => absurd h616 (hb)) (fun h616 => ?_)
    refine xj_iconst (pc := 619) (v := 1) d_LA_law_619 (by decide) ?_
    refine xj_goto (pc := 620) (tgt := 624) d_LA_law_620 (by decide) ?_
    refine xj_aload_n (pc := 624) d_LA_law_624 rfl rfl ?_
    refine xj_iload_n (pc := 625) d_LA_law_625 rfl rfl ?_
    refine xj_iconst (pc := 626) (v := 5) d_LA_law_626 (by decide) ?_
    refine xj_iadd (pc := 627) d_LA_law_627 ?_
    refine xj_sld (pc := 628) (j := i + 5) d_LA_law_628 (n_addN i 5) (by omega) (by omega) ?_
    refine xj_callV (pc := 629) d_LA_law_629 ml_LA_62 ok_RD_set (t_RD_set hO hC) rfl rfl rfl rfl rfl (Nat.le_of_ble_eq_true rfl) (by decide) ?_
    rintro rv I1 F1 ⟨rfl, gC, gM⟩
    have hI1 := cm_mi gM hI
    dsimp only [Option.toList, List.cons_append, List.nil_append]
    refine xj_aload_n (pc := 632) d_LA_law_632 rfl rfl ?_
    refine xj_aload_n (pc := 633) d_LA_law_633 rfl rfl ?_
    refine xj_iload_n (pc := 634) d_LA_law_634 rfl rfl ?_
    refine xj_iconst (pc := 635) (v := 1) d_LA_law_635 (by decide) ?_
    refine xj_iadd (pc := 636) d_LA_law_636 ?_
    refine xj_sld (pc := 637) (j := i + 1) d_LA_law_637 (n_addN i 1) (by omega) (by omega) ?_
    refine xj_aload_n (pc := 638) d_LA_law_638 rfl rfl ?_
    refine xj_iload_n (pc := 639) d_LA_law_639 rfl rfl ?_
    refine xj_iconst (pc := 640) (v := 2) d_LA_law_640 (by decide) ?_
    refine xj_iadd (pc := 641) d_LA_law_641 ?_
    refine xj_sld (pc := 642) (j := i + 2) d_LA_law_642 (n_addN i 2) (by omega) (by omega) ?_
    refine xj_aload_n (pc := 643) d_LA_law_643 rfl rfl ?_
    refine xj_iload_n (pc := 644) d_LA_law_644 rfl rfl ?_
    refine xj_iconst (pc := 645) (v := 3) d_LA_law_645 (by decide) ?_
    refine xj_iadd (pc := 646) d_LA_law_646 ?_
    refine xj_sld (pc := 647) (j := i + 3) d_LA_law_647 (n_addN i 3) (by omega) (by omega) ?_
    refine xj_aload_n (pc := 648) d_LA_law_648 rfl rfl ?_
    refine xj_iload_n (pc := 649) d_LA_law_649 rfl rfl ?_
    refine xj_iconst (pc := 650) (v := 4) d_LA_law_650 (by decide) ?_
    refine xj_iadd (pc := 651) d_LA_law_651 ?_
    refine xj_sld (pc := 652) (j := i + 4) d_LA_law_652 (n_addN i 4) (by omega) (by omega) ?_
    refine xj_if_eq (pc := 653) (tgt := 660) d_LA_law_653 (by decide) (fun h653 => absurd h653 (hb)) (fun h653 => ?_)
    refine xj_iconst (pc := 656) (v := 1) d_LA_law_656 (by decide) ?_
    refine xj_goto (pc := 657) (tgt := 661) d_LA_law_657 (by decide) ?_
    refine xj_aload_n (pc := 661) d_LA_law_661 rfl rfl ?_
    refine xj_iload_n (pc := 662) d_LA_law_662 rfl rfl ?_
    refine xj_iconst (pc := 663) (v := 5) d_LA_law_663 (by decide) ?_
    refine xj_iadd (pc := 664) d_LA_law_664 ?_
    refine xj_sld (pc := 665) (j := i + 5) d_LA_law_665 (n_addN i 5) (by omega) (by omega) ?_
    refine xj_callV (pc := 666) d_LA_law_666 ml_LA_66 ok_MO_set (t_MO_set hI1) rfl rfl rfl rfl rfl (Nat.le_of_ble_eq_true rfl) (by decide) ?_
    rintro rv I2 F2 ⟨rfl, gI, gN⟩
    dsimp only [Option.toList, List.cons_append, List.nil_append]
    refine xj_icmp_eq (pc := 669) (tgt := 1344) d_LA_law_669 (by decide) (fun h669 => ?_) (fun h669 => absurd (rfl) h669)
    exact kk _ I2 F2 (oks_set hO) (nm_ci gN gC) gI
theorem lc_find {S : XSt} {I : XI} {F : XF} {P : XP} {L i : Nat} {xs : Nat → Int32} (hL : L ≤ 3072) (hi : i + 6 ≤ L) (hO : OKS S) (hC : CI I F S) (hI : MI I F S) (kk : ∀ (S2 : XSt) (I2 : XI) (F2 : XF), OKS S2 → CI I2 F2 S2 → MI I2 F2 S2 → XJ (some (L, xs)) m_LA_law 1344 [some (.ref 44), some (.ref 24), some (.ref 36), some (.int (nI i))] [] I2 F2 P) : XJ (some (L, xs)) m_LA_law 674 [some (.ref 44), some (.ref 24), some (.ref 36), some (.int (nI i))] [] I F P := by
  by_cases hb : xs (i + 4) = 0
  · refine xj_aload_n (pc := 674) d_LA_law_674 rfl rfl ?_
    refine xj_aload_n (pc := 675) d_LA_law_675 rfl rfl ?_
    refine xj_iload_n (pc := 676) d_LA_law_676 rfl rfl ?_
    refine xj_iconst (pc := 677) (v := 1) d_LA_law_677 (by decide) ?_
    refine xj_iadd (pc := 678) d_LA_law_678 ?_
    refine xj_sld (pc := 679) (j := i + 1) d_LA_law_679 (n_addN i 1) (by omega) (by omega) ?_
    refine xj_aload_n (pc := 680) d_LA_law_680 rfl rfl ?_
    refine xj_iload_n (pc := 681) d_LA_law_681 rfl rfl ?_
    refine xj_iconst (pc := 682) (v := 2) d_LA_law_682 (by decide) ?_
    refine xj_iadd (pc := 683) d_LA_law_683 ?_
    refine xj_sld (pc := 684) (j := i + 2) d_LA_law_684 (n_addN i 2) (by omega) (by omega) ?_
    refine xj_aload_n (pc := 685) d_LA_law_685 rfl rfl ?_
    refine xj_iload_n (pc := 686) d_LA_law_686 rfl rfl ?_
    refine xj_iconst (pc := 687) (v := 3) d_LA_law_687 (by decide) ?_
    refine xj_iadd (pc := 688) d_LA_law_688 ?_
    refine xj_sld (pc := 689) (j := i + 3) d_LA_law_689 (n_addN i 3) (by omega) (by omega) ?_
    refine xj_aload_n (pc := 690) d_LA_law_690 rfl rfl ?_
    refine xj_iload_n (pc := 691) d_LA_law_691 rfl rfl ?_
    refine xj_iconst (pc := 692) (v := 4) d_LA_law_692 (by decide) ?_
    refine xj_iadd (pc := 693) d_LA_law_693 ?_
    refine xj_sld (pc := 694) (j := i + 4) d_LA_law_694 (n_addN i 4) (by omega) (by omega) ?_
    refine xj_if_eq (pc := 695) (tgt := 702) d_LA_law_695 (by decide) (fun h695 => ?_) (fun h695 => absurd (hb) h695)
    refine xj_iconst (pc := 702) (v := 0) d_LA_law_702 (by decide) ?_
    refine xj_callV (pc := 703) d_LA_law_703 ml_LA_67 ok_RD_find (t_RD_find hO hC) rfl rfl rfl rfl rfl (Nat.le_of_ble_eq_true rfl) (by decide) ?_
    rintro rv I1 F1 ⟨rfl, gC, gM⟩
    have hI1 := cm_mi gM hI
    dsimp only [Option.toList, List.cons_append, List.nil_append]
    refine xj_aload_n (pc := 706) d_LA_law_706 rfl rfl ?_
    refine xj_aload_n (pc := 707) d_LA_law_707 rfl rfl ?_
    refine xj_iload_n (pc := 708) d_LA_law_708 rfl rfl ?_
    refine xj_iconst (pc := 709) (v := 1) d_LA_law_709 (by decide) ?_
    refine xj_iadd (pc := 710) d_LA_law_710 ?_
    refine xj_sld (pc := 711) (j := i + 1) d_LA_law_711 (n_addN i 1) (by omega) (by omega) ?_
    refine xj_aload_n (pc := 712) d_LA_law_712 rfl rfl ?_
    refine xj_iload_n (pc := 713) d_LA_law_713 rfl rfl ?_
    refine xj_iconst (pc := 714) (v := 2) d_LA_law_714 (by decide) ?_
    refine xj_iadd (pc := 715) d_LA_law_715 ?_
    refine xj_sld (pc := 716) (j := i + 2) d_LA_law_716 (n_addN i 2) (by omega) (by omega) ?_
    refine xj_aload_n (pc := 717) d_LA_law_717 rfl rfl ?_
    refine xj_iload_n (pc := 718) d_LA_law_718 rfl rfl ?_
    refine xj_iconst (pc := 719) (v := 3) d_LA_law_719 (by decide) ?_
    refine xj_iadd (pc := 720) d_LA_law_720 ?_
    refine xj_sld (pc := 721) (j := i + 3) d_LA_law_721 (n_addN i 3) (by omega) (by omega) ?_
    refine xj_aload_n (pc := 722) d_LA_law_722 rfl rfl ?_
    refine xj_iload_n (pc := 723) d_LA_law_723 rfl rfl ?_
    refine xj_iconst (pc := 724) (v := 4) d_LA_law_724 (by decide) ?_
    refine xj_iadd (pc := 725) d_LA_law_725 ?_
    refine xj_sld (pc := 726) (j := i + 4) d_LA_law_726 (n_addN i 4) (by omega) (by omega) ?_
    refine xj_if_eq (pc := 727) (tgt := 734) d_LA_law_727 (by decide) (fun h727 => ?_) (fun h727 => absurd (hb) h727)
    refine xj_iconst (pc := 734) (v := 0) d_LA_law_734 (by decide) ?_
    refine xj_callV (pc := 735) d_LA_law_735 ml_LA_71 ok_MO_find (t_MO_find hI1) rfl rfl rfl rfl rfl (Nat.le_of_ble_eq_true rfl) (by decide) ?_
    rintro rv I2 F2 ⟨rfl, gI, gN⟩
    dsimp only [Option.toList, List.cons_append, List.nil_append]
    refine xj_icmp_eq (pc := 738) (tgt := 1344) d_LA_law_738 (by decide) (fun h738 => ?_) (fun h738 => absurd (rfl) h738)
    exact kk _ I2 F2 hO (nm_ci gN gC) gI
  · refine xj_aload_n (pc := 674) d_LA_law_674 rfl rfl ?_
    refine xj_aload_n (pc := 675) d_LA_law_675 rfl rfl ?_
    refine xj_iload_n (pc := 676) d_LA_law_676 rfl rfl ?_
    refine xj_iconst (pc := 677) (v := 1) d_LA_law_677 (by decide) ?_
    refine xj_iadd (pc := 678) d_LA_law_678 ?_
    refine xj_sld (pc := 679) (j := i + 1) d_LA_law_679 (n_addN i 1) (by omega) (by omega) ?_
    refine xj_aload_n (pc := 680) d_LA_law_680 rfl rfl ?_
    refine xj_iload_n (pc := 681) d_LA_law_681 rfl rfl ?_
    refine xj_iconst (pc := 682) (v := 2) d_LA_law_682 (by decide) ?_
    refine xj_iadd (pc := 683) d_LA_law_683 ?_
    refine xj_sld (pc := 684) (j := i + 2) d_LA_law_684 (n_addN i 2) (by omega) (by omega) ?_
    refine xj_aload_n (pc := 685) d_LA_law_685 rfl rfl ?_
    refine xj_iload_n (pc := 686) d_LA_law_686 rfl rfl ?_
    refine xj_iconst (pc := 687) (v := 3) d_LA_law_687 (by decide) ?_
    refine xj_iadd (pc := 688) d_LA_law_688 ?_
    refine xj_sld (pc := 689) (j := i + 3) d_LA_law_689 (n_addN i 3) (by omega) (by omega) ?_
    refine xj_aload_n (pc := 690) d_LA_law_690 rfl rfl ?_
    refine xj_iload_n (pc := 691) d_LA_law_691 rfl rfl ?_
    refine xj_iconst (pc := 692) (v := 4) d_LA_law_692 (by decide) ?_
    refine xj_iadd (pc := 693) d_LA_law_693 ?_
    refine xj_sld (pc := 694) (j := i + 4) d_LA_law_694 (n_addN i 4) (by omega) (by omega) ?_
    refine xj_if_eq (pc := 695) (tgt := 702) d_LA_law_695 (by decide) (fun h695 => absurd h695 (hb)) (fun h695 => ?_)
    refine xj_iconst (pc := 698) (v := 1) d_LA_law_698 (by decide) ?_
    refine xj_goto (pc := 699) (tgt := 703) d_LA_law_699 (by decide) ?_
    refine xj_callV (pc := 703) d_LA_law_703 ml_LA_67 ok_RD_find (t_RD_find hO hC) rfl rfl rfl rfl rfl (Nat.le_of_ble_eq_true rfl) (by decide) ?_
    rintro rv I1 F1 ⟨rfl, gC, gM⟩
    have hI1 := cm_mi gM hI
    dsimp only [Option.toList, List.cons_append, List.nil_append]
    refine xj_aload_n (pc := 706) d_LA_law_706 rfl rfl ?_
    refine xj_aload_n (pc := 707) d_LA_law_707 rfl rfl ?_
    refine xj_iload_n (pc := 708) d_LA_law_708 rfl rfl ?_
    refine xj_iconst (pc := 709) (v := 1) d_LA_law_709 (by decide) ?_
    refine xj_iadd (pc := 710) d_LA_law_710 ?_
    refine xj_sld (pc := 711) (j := i + 1) d_LA_law_711 (n_addN i 1) (by omega) (by omega) ?_
    refine xj_aload_n (pc := 712) d_LA_law_712 rfl rfl ?_
    refine xj_iload_n (pc := 713) d_LA_law_713 rfl rfl ?_
    refine xj_iconst (pc := 714) (v := 2) d_LA_law_714 (by decide) ?_
    refine xj_iadd (pc := 715) d_LA_law_715 ?_
    refine xj_sld (pc := 716) (j := i + 2) d_LA_law_716 (n_addN i 2) (by omega) (by omega) ?_
    refine xj_aload_n (pc := 717) d_LA_law_717 rfl rfl ?_
    refine xj_iload_n (pc := 718) d_LA_law_718 rfl rfl ?_
    refine xj_iconst (pc := 719) (v := 3) d_LA_law_719 (by decide) ?_
    refine xj_iadd (pc := 720) d_LA_law_720 ?_
    refine xj_sld (pc := 721) (j := i + 3) d_LA_law_721 (n_addN i 3) (by omega) (by omega) ?_
    refine xj_aload_n (pc := 722) d_LA_law_722 rfl rfl ?_
    refine xj_iload_n (pc := 723) d_LA_law_723 rfl rfl ?_
    refine xj_iconst (pc := 724) (v := 4) d_LA_law_724 (by decide) ?_
    refine xj_iadd (pc := 725) d_LA_law_725 ?_
    refine xj_sld (pc := 726) (j := i + 4) d_LA_law_726 (n_addN i 4) (by omega) (by omega) ?_
    refine xj_if_eq (pc := 727) (tgt := 734) d_LA_law_727 (by decide) (fun h727 => absurd h727 (hb)) (fun h727 => ?_)
    refine xj_iconst (pc := 730) (v := 1) d_LA_law_730 (by decide) ?_
    refine xj_goto (pc := 731) (tgt := 735) d_LA_law_731 (by decide) ?_
    refine xj_callV (pc := 735) d_LA_law_735 ml_LA_71 ok_MO_find (t_MO_find hI1) rfl rfl rfl rfl rfl (Nat.le_of_ble_eq_true rfl) (by decide) ?_
    rintro rv I2 F2 ⟨rfl, gI, gN⟩
    dsimp only [Option.toList, List.cons_append, List.nil_append]
    refine xj_icmp_eq (pc := 738) (tgt := 1344) d_LA_law_738 (by decide) (fun h738 => ?_) (fun h738 => absurd (rfl) h738)
    exact kk _ I2 F2 hO (nm_ci gN gC) gI
