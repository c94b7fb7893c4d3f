section LC
variable {x : ax_T} {Y : ax_Y} {ad : Nat → Nat} {Q : State → Prop} {b Ls i : Nat} {xs : Nat → Int32} {σ : ax_Z}

set_option maxRecDepth 20000 in
set_option maxHeartbeats 4000000 in
theorem lc_row (C : ax_C x Y iL 20 600000 7302250) (hX : va_X b Ls xs x.2.1.1 Y.2.2.heap) (hb : b < Y.2.2.heap.size) (h3 : Ls ≤ 3072) (R : RR σ) (h6 : i + 6 ≤ Ls) (cont : ∀ σ', RR σ' → ax_S x Y ad 96 3326 Q σ' 1088 [some (.ref b), some (.ref (ad 0)), some (.ref (ad 77)), some (.int (nI i))] []) : ax_S x Y ad 96 3326 Q σ 168 [some (.ref b), some (.ref (ad 0)), some (.ref (ad 77)), some (.int (nI i))] [] := by
  obtain ⟨v, σ1, σ2, hA, hB, R2⟩ := op_row R (xs (i + 1)) (xs (i + 2)) (xs (i + 3)) Y ad x.1.2.1 C.F
  refine ax_aload_1 (pc := 168) C dL_law_168 ?_
  refine ax_aload_0 (pc := 169) C dL_law_169 ?_
  refine ax_iload_3 (pc := 170) C dL_law_170 ?_
  refine ax_iconst (pc := 171) (v := 1) C dL_law_171 (by decide) ?_
  refine ax_iadd (pc := 172) C dL_law_172 ?_
  refine ax_val C (show nI i + 1 = nI (i + 1) from nI_add _ _) ?_
  refine ax_sld (pc := 173) (k := i + 1) C hX hb h3 dL_law_173 (by omega) ?_
  refine ax_aload_0 (pc := 174) C dL_law_174 ?_
  refine ax_iload_3 (pc := 175) C dL_law_175 ?_
  refine ax_iconst (pc := 176) (v := 2) C dL_law_176 (by decide) ?_
  refine ax_iadd (pc := 177) C dL_law_177 ?_
  refine ax_val C (show nI i + 2 = nI (i + 2) from nI_add _ _) ?_
  refine ax_sld (pc := 178) (k := i + 2) C hX hb h3 dL_law_178 (by omega) ?_
  refine ax_aload_0 (pc := 179) C dL_law_179 ?_
  refine ax_iload_3 (pc := 180) C dL_law_180 ?_
  refine ax_iconst (pc := 181) (v := 3) C dL_law_181 (by decide) ?_
  refine ax_iadd (pc := 182) C dL_law_182 ?_
  refine ax_val C (show nI i + 3 = nI (i + 3) from nI_add _ _) ?_
  refine ax_sld (pc := 183) (k := i + 3) C hX hb h3 dL_law_183 (by omega) ?_
  refine ax_callVi (pc := 184) C hA kX6_row mL_13 dL_law_184 (by decide) rfl rfl rfl rfl rfl (Nat.le_of_ble_eq_true rfl) rfl ⟨by decide, by decide⟩ ?_
  refine ax_aload_2 (pc := 187) C dL_law_187 ?_
  refine ax_aload_0 (pc := 188) C dL_law_188 ?_
  refine ax_iload_3 (pc := 189) C dL_law_189 ?_
  refine ax_iconst (pc := 190) (v := 1) C dL_law_190 (by decide) ?_
  refine ax_iadd (pc := 191) C dL_law_191 ?_
  refine ax_val C (show nI i + 1 = nI (i + 1) from nI_add _ _) ?_
  refine ax_sld (pc := 192) (k := i + 1) C hX hb h3 dL_law_192 (by omega) ?_
  refine ax_aload_0 (pc := 193) C dL_law_193 ?_
  refine ax_iload_3 (pc := 194) C dL_law_194 ?_
  refine ax_iconst (pc := 195) (v := 2) C dL_law_195 (by decide) ?_
  refine ax_iadd (pc := 196) C dL_law_196 ?_
  refine ax_val C (show nI i + 2 = nI (i + 2) from nI_add _ _) ?_
  refine ax_sld (pc := 197) (k := i + 2) C hX hb h3 dL_law_197 (by omega) ?_
  refine ax_aload_0 (pc := 198) C dL_law_198 ?_
  refine ax_iload_3 (pc := 199) C dL_law_199 ?_
  refine ax_iconst (pc := 200) (v := 3) C dL_law_200 (by decide) ?_
  refine ax_iadd (pc := 201) C dL_law_201 ?_
  refine ax_val C (show nI i + 3 = nI (i + 3) from nI_add _ _) ?_
  refine ax_sld (pc := 202) (k := i + 3) C hX hb h3 dL_law_202 (by omega) ?_
  refine ax_callVi (pc := 203) C hB kX7_row mL_17 dL_law_203 (by decide) rfl rfl rfl rfl rfl (Nat.le_of_ble_eq_true rfl) rfl ⟨by decide, by decide⟩ ?_
  refine ax_icmp_eq (pc := 206) (tgt := 1088) C dL_law_206 (by decide) (fun _ => ?_) (fun z => absurd rfl z)
  exact cont σ2 R2

set_option maxRecDepth 20000 in
set_option maxHeartbeats 4000000 in
theorem lc_set (C : ax_C x Y iL 20 600000 7302250) (hX : va_X b Ls xs x.2.1.1 Y.2.2.heap) (hb : b < Y.2.2.heap.size) (h3 : Ls ≤ 3072) (R : RR σ) (h6 : i + 6 ≤ Ls) (cont : ∀ σ', RR σ' → ax_S x Y ad 96 3326 Q σ' 1088 [some (.ref b), some (.ref (ad 0)), some (.ref (ad 77)), some (.int (nI i))] []) : ax_S x Y ad 96 3326 Q σ 211 [some (.ref b), some (.ref (ad 0)), some (.ref (ad 77)), some (.int (nI i))] [] := by
  obtain ⟨v, σ1, σ2, hA, hB, R2⟩ := op_set R (xs (i + 1)) (xs (i + 2)) (xs (i + 3)) Y ad x.1.2.1 C.F
  refine ax_aload_1 (pc := 211) C dL_law_211 ?_
  refine ax_aload_0 (pc := 212) C dL_law_212 ?_
  refine ax_iload_3 (pc := 213) C dL_law_213 ?_
  refine ax_iconst (pc := 214) (v := 1) C dL_law_214 (by decide) ?_
  refine ax_iadd (pc := 215) C dL_law_215 ?_
  refine ax_val C (show nI i + 1 = nI (i + 1) from nI_add _ _) ?_
  refine ax_sld (pc := 216) (k := i + 1) C hX hb h3 dL_law_216 (by omega) ?_
  refine ax_aload_0 (pc := 217) C dL_law_217 ?_
  refine ax_iload_3 (pc := 218) C dL_law_218 ?_
  refine ax_iconst (pc := 219) (v := 2) C dL_law_219 (by decide) ?_
  refine ax_iadd (pc := 220) C dL_law_220 ?_
  refine ax_val C (show nI i + 2 = nI (i + 2) from nI_add _ _) ?_
  refine ax_sld (pc := 221) (k := i + 2) C hX hb h3 dL_law_221 (by omega) ?_
  refine ax_aload_0 (pc := 222) C dL_law_222 ?_
  refine ax_iload_3 (pc := 223) C dL_law_223 ?_
  refine ax_iconst (pc := 224) (v := 3) C dL_law_224 (by decide) ?_
  refine ax_iadd (pc := 225) C dL_law_225 ?_
  refine ax_val C (show nI i + 3 = nI (i + 3) from nI_add _ _) ?_
  refine ax_sld (pc := 226) (k := i + 3) C hX hb h3 dL_law_226 (by omega) ?_
  refine ax_callVi (pc := 227) C hA kX6_set mL_18 dL_law_227 (by decide) rfl rfl rfl rfl rfl (Nat.le_of_ble_eq_true rfl) rfl ⟨by decide, by decide⟩ ?_
  refine ax_aload_2 (pc := 230) C dL_law_230 ?_
  refine ax_aload_0 (pc := 231) C dL_law_231 ?_
  refine ax_iload_3 (pc := 232) C dL_law_232 ?_
  refine ax_iconst (pc := 233) (v := 1) C dL_law_233 (by decide) ?_
  refine ax_iadd (pc := 234) C dL_law_234 ?_
  refine ax_val C (show nI i + 1 = nI (i + 1) from nI_add _ _) ?_
  refine ax_sld (pc := 235) (k := i + 1) C hX hb h3 dL_law_235 (by omega) ?_
  refine ax_aload_0 (pc := 236) C dL_law_236 ?_
  refine ax_iload_3 (pc := 237) C dL_law_237 ?_
  refine ax_iconst (pc := 238) (v := 2) C dL_law_238 (by decide) ?_
  refine ax_iadd (pc := 239) C dL_law_239 ?_
  refine ax_val C (show nI i + 2 = nI (i + 2) from nI_add _ _) ?_
  refine ax_sld (pc := 240) (k := i + 2) C hX hb h3 dL_law_240 (by omega) ?_
  refine ax_aload_0 (pc := 241) C dL_law_241 ?_
  refine ax_iload_3 (pc := 242) C dL_law_242 ?_
  refine ax_iconst (pc := 243) (v := 3) C dL_law_243 (by decide) ?_
  refine ax_iadd (pc := 244) C dL_law_244 ?_
  refine ax_val C (show nI i + 3 = nI (i + 3) from nI_add _ _) ?_
  refine ax_sld (pc := 245) (k := i + 3) C hX hb h3 dL_law_245 (by omega) ?_
  refine ax_callVi (pc := 246) C hB kX7_set mL_21 dL_law_246 (by decide) rfl rfl rfl rfl rfl (Nat.le_of_ble_eq_true rfl) rfl ⟨by decide, by decide⟩ ?_
  refine ax_icmp_eq (pc := 249) (tgt := 1088) C dL_law_249 (by decide) (fun _ => ?_) (fun z => absurd rfl z)
  exact cont σ2 R2

set_option maxRecDepth 20000 in
set_option maxHeartbeats 4000000 in
theorem lc_copy (C : ax_C x Y iL 20 600000 7302250) (hX : va_X b Ls xs x.2.1.1 Y.2.2.heap) (hb : b < Y.2.2.heap.size) (h3 : Ls ≤ 3072) (R : RR σ) (h6 : i + 6 ≤ Ls) (cont : ∀ σ', RR σ' → ax_S x Y ad 96 3326 Q σ' 1088 [some (.ref b), some (.ref (ad 0)), some (.ref (ad 77)), some (.int (nI i))] []) : ax_S x Y ad 96 3326 Q σ 254 [some (.ref b), some (.ref (ad 0)), some (.ref (ad 77)), some (.int (nI i))] [] := by
  obtain ⟨v, σ1, σ2, hA, hB, R2⟩ := op_copy R (xs (i + 1)) (xs (i + 2)) (xs (i + 3)) (xs (i + 4)) (xs (i + 5)) Y ad x.1.2.1 C.F
  refine ax_aload_1 (pc := 254) C dL_law_254 ?_
  refine ax_aload_0 (pc := 255) C dL_law_255 ?_
  refine ax_iload_3 (pc := 256) C dL_law_256 ?_
  refine ax_iconst (pc := 257) (v := 1) C dL_law_257 (by decide) ?_
  refine ax_iadd (pc := 258) C dL_law_258 ?_
  refine ax_val C (show nI i + 1 = nI (i + 1) from nI_add _ _) ?_
  refine ax_sld (pc := 259) (k := i + 1) C hX hb h3 dL_law_259 (by omega) ?_
  refine ax_aload_0 (pc := 260) C dL_law_260 ?_
  refine ax_iload_3 (pc := 261) C dL_law_261 ?_
  refine ax_iconst (pc := 262) (v := 2) C dL_law_262 (by decide) ?_
  refine ax_iadd (pc := 263) C dL_law_263 ?_
  refine ax_val C (show nI i + 2 = nI (i + 2) from nI_add _ _) ?_
  refine ax_sld (pc := 264) (k := i + 2) C hX hb h3 dL_law_264 (by omega) ?_
  refine ax_aload_0 (pc := 265) C dL_law_265 ?_
  refine ax_iload_3 (pc := 266) C dL_law_266 ?_
  refine ax_iconst (pc := 267) (v := 3) C dL_law_267 (by decide) ?_
  refine ax_iadd (pc := 268) C dL_law_268 ?_
  refine ax_val C (show nI i + 3 = nI (i + 3) from nI_add _ _) ?_
  refine ax_sld (pc := 269) (k := i + 3) C hX hb h3 dL_law_269 (by omega) ?_
  refine ax_aload_0 (pc := 270) C dL_law_270 ?_
  refine ax_iload_3 (pc := 271) C dL_law_271 ?_
  refine ax_iconst (pc := 272) (v := 4) C dL_law_272 (by decide) ?_
  refine ax_iadd (pc := 273) C dL_law_273 ?_
  refine ax_val C (show nI i + 4 = nI (i + 4) from nI_add _ _) ?_
  refine ax_sld (pc := 274) (k := i + 4) C hX hb h3 dL_law_274 (by omega) ?_
  refine ax_aload_0 (pc := 275) C dL_law_275 ?_
  refine ax_iload_3 (pc := 276) C dL_law_276 ?_
  refine ax_iconst (pc := 277) (v := 5) C dL_law_277 (by decide) ?_
  refine ax_iadd (pc := 278) C dL_law_278 ?_
  refine ax_val C (show nI i + 5 = nI (i + 5) from nI_add _ _) ?_
  refine ax_sld (pc := 279) (k := i + 5) C hX hb h3 dL_law_279 (by omega) ?_
  refine ax_callVi (pc := 280) C hA kX6_copy mL_22 dL_law_280 (by decide) rfl rfl rfl rfl rfl (Nat.le_of_ble_eq_true rfl) rfl ⟨by decide, by decide⟩ ?_
  refine ax_aload_2 (pc := 283) C dL_law_283 ?_
  refine ax_aload_0 (pc := 284) C dL_law_284 ?_
  refine ax_iload_3 (pc := 285) C dL_law_285 ?_
  refine ax_iconst (pc := 286) (v := 1) C dL_law_286 (by decide) ?_
  refine ax_iadd (pc := 287) C dL_law_287 ?_
  refine ax_val C (show nI i + 1 = nI (i + 1) from nI_add _ _) ?_
  refine ax_sld (pc := 288) (k := i + 1) C hX hb h3 dL_law_288 (by omega) ?_
  refine ax_aload_0 (pc := 289) C dL_law_289 ?_
  refine ax_iload_3 (pc := 290) C dL_law_290 ?_
  refine ax_iconst (pc := 291) (v := 2) C dL_law_291 (by decide) ?_
  refine ax_iadd (pc := 292) C dL_law_292 ?_
  refine ax_val C (show nI i + 2 = nI (i + 2) from nI_add _ _) ?_
  refine ax_sld (pc := 293) (k := i + 2) C hX hb h3 dL_law_293 (by omega) ?_
  refine ax_aload_0 (pc := 294) C dL_law_294 ?_
  refine ax_iload_3 (pc := 295) C dL_law_295 ?_
  refine ax_iconst (pc := 296) (v := 3) C dL_law_296 (by decide) ?_
  refine ax_iadd (pc := 297) C dL_law_297 ?_
  refine ax_val C (show nI i + 3 = nI (i + 3) from nI_add _ _) ?_
  refine ax_sld (pc := 298) (k := i + 3) C hX hb h3 dL_law_298 (by omega) ?_
  refine ax_aload_0 (pc := 299) C dL_law_299 ?_
  refine ax_iload_3 (pc := 300) C dL_law_300 ?_
  refine ax_iconst (pc := 301) (v := 4) C dL_law_301 (by decide) ?_
  refine ax_iadd (pc := 302) C dL_law_302 ?_
  refine ax_val C (show nI i + 4 = nI (i + 4) from nI_add _ _) ?_
  refine ax_sld (pc := 303) (k := i + 4) C hX hb h3 dL_law_303 (by omega) ?_
  refine ax_aload_0 (pc := 304) C dL_law_304 ?_
  refine ax_iload_3 (pc := 305) C dL_law_305 ?_
  refine ax_iconst (pc := 306) (v := 5) C dL_law_306 (by decide) ?_
  refine ax_iadd (pc := 307) C dL_law_307 ?_
  refine ax_val C (show nI i + 5 = nI (i + 5) from nI_add _ _) ?_
  refine ax_sld (pc := 308) (k := i + 5) C hX hb h3 dL_law_308 (by omega) ?_
  refine ax_callVi (pc := 309) C hB kX7_copy mL_26 dL_law_309 (by decide) rfl rfl rfl rfl rfl (Nat.le_of_ble_eq_true rfl) rfl ⟨by decide, by decide⟩ ?_
  refine ax_icmp_eq (pc := 312) (tgt := 1088) C dL_law_312 (by decide) (fun _ => ?_) (fun z => absurd rfl z)
  exact cont σ2 R2

set_option maxRecDepth 20000 in
set_option maxHeartbeats 4000000 in
theorem lc_drop (C : ax_C x Y iL 20 600000 7302250) (hX : va_X b Ls xs x.2.1.1 Y.2.2.heap) (hb : b < Y.2.2.heap.size) (h3 : Ls ≤ 3072) (R : RR σ) (h6 : i + 6 ≤ Ls) (cont : ∀ σ', RR σ' → ax_S x Y ad 96 3326 Q σ' 1088 [some (.ref b), some (.ref (ad 0)), some (.ref (ad 77)), some (.int (nI i))] []) : ax_S x Y ad 96 3326 Q σ 317 [some (.ref b), some (.ref (ad 0)), some (.ref (ad 77)), some (.int (nI i))] [] := by
  obtain ⟨v, σ1, σ2, hA, hB, R2⟩ := op_drop R (xs (i + 1)) Y ad x.1.2.1 C.F
  refine ax_aload_1 (pc := 317) C dL_law_317 ?_
  refine ax_aload_0 (pc := 318) C dL_law_318 ?_
  refine ax_iload_3 (pc := 319) C dL_law_319 ?_
  refine ax_iconst (pc := 320) (v := 1) C dL_law_320 (by decide) ?_
  refine ax_iadd (pc := 321) C dL_law_321 ?_
  refine ax_val C (show nI i + 1 = nI (i + 1) from nI_add _ _) ?_
  refine ax_sld (pc := 322) (k := i + 1) C hX hb h3 dL_law_322 (by omega) ?_
  refine ax_callVi (pc := 323) C hA kX6_drop mL_27 dL_law_323 (by decide) rfl rfl rfl rfl rfl (Nat.le_of_ble_eq_true rfl) rfl ⟨by decide, by decide⟩ ?_
  refine ax_aload_2 (pc := 326) C dL_law_326 ?_
  refine ax_aload_0 (pc := 327) C dL_law_327 ?_
  refine ax_iload_3 (pc := 328) C dL_law_328 ?_
  refine ax_iconst (pc := 329) (v := 1) C dL_law_329 (by decide) ?_
  refine ax_iadd (pc := 330) C dL_law_330 ?_
  refine ax_val C (show nI i + 1 = nI (i + 1) from nI_add _ _) ?_
  refine ax_sld (pc := 331) (k := i + 1) C hX hb h3 dL_law_331 (by omega) ?_
  refine ax_callVi (pc := 332) C hB kX7_drop mL_31 dL_law_332 (by decide) rfl rfl rfl rfl rfl (Nat.le_of_ble_eq_true rfl) rfl ⟨by decide, by decide⟩ ?_
  refine ax_icmp_eq (pc := 335) (tgt := 1088) C dL_law_335 (by decide) (fun _ => ?_) (fun z => absurd rfl z)
  exact cont σ2 R2

set_option maxRecDepth 20000 in
set_option maxHeartbeats 4000000 in
theorem lc_feed (C : ax_C x Y iL 20 600000 7302250) (hX : va_X b Ls xs x.2.1.1 Y.2.2.heap) (hb : b < Y.2.2.heap.size) (h3 : Ls ≤ 3072) (R : RR σ) (h6 : i + 6 ≤ Ls) (cont : ∀ σ', RR σ' → ax_S x Y ad 96 3326 Q σ' 1088 [some (.ref b), some (.ref (ad 0)), some (.ref (ad 77)), some (.int (nI i))] []) : ax_S x Y ad 96 3326 Q σ 340 [some (.ref b), some (.ref (ad 0)), some (.ref (ad 77)), some (.int (nI i))] [] := by
  obtain ⟨v, σ1, σ2, hA, hB, R2⟩ := op_feed R ((xs (i + 1)).toInt64 <<< ((32 : Int32).toInt64 &&& 63) ||| ((xs (i + 2)).toInt64 &&& 4294967295)) (xs (i + 3)) Y ad x.1.2.1 C.F
  refine ax_aload_1 (pc := 340) C dL_law_340 ?_
  refine ax_aload_0 (pc := 341) C dL_law_341 ?_
  refine ax_iload_3 (pc := 342) C dL_law_342 ?_
  refine ax_iconst (pc := 343) (v := 1) C dL_law_343 (by decide) ?_
  refine ax_iadd (pc := 344) C dL_law_344 ?_
  refine ax_val C (show nI i + 1 = nI (i + 1) from nI_add _ _) ?_
  refine ax_sld (pc := 345) (k := i + 1) C hX hb h3 dL_law_345 (by omega) ?_
  refine ax_i2l (pc := 346) C dL_law_346 ?_
  refine ax_bipush (pc := 347) (v := 32) C dL_law_347 (by decide) ?_
  refine ax_lshl (pc := 349) C dL_law_349 ?_
  refine ax_aload_0 (pc := 350) C dL_law_350 ?_
  refine ax_iload_3 (pc := 351) C dL_law_351 ?_
  refine ax_iconst (pc := 352) (v := 2) C dL_law_352 (by decide) ?_
  refine ax_iadd (pc := 353) C dL_law_353 ?_
  refine ax_val C (show nI i + 2 = nI (i + 2) from nI_add _ _) ?_
  refine ax_sld (pc := 354) (k := i + 2) C hX hb h3 dL_law_354 (by omega) ?_
  refine ax_i2l (pc := 355) C dL_law_355 ?_
  refine ax_ldc2 (pc := 356) C dL_law_356 qL_32 ?_
  refine ax_land (pc := 359) C dL_law_359 ?_
  refine ax_lor (pc := 360) C dL_law_360 ?_
  refine ax_aload_0 (pc := 361) C dL_law_361 ?_
  refine ax_iload_3 (pc := 362) C dL_law_362 ?_
  refine ax_iconst (pc := 363) (v := 3) C dL_law_363 (by decide) ?_
  refine ax_iadd (pc := 364) C dL_law_364 ?_
  refine ax_val C (show nI i + 3 = nI (i + 3) from nI_add _ _) ?_
  refine ax_sld (pc := 365) (k := i + 3) C hX hb h3 dL_law_365 (by omega) ?_
  refine ax_callVi (pc := 366) C hA kX6_feed mL_34 dL_law_366 (by decide) rfl rfl rfl rfl rfl (Nat.le_of_ble_eq_true rfl) rfl ⟨by decide, by decide⟩ ?_
  refine ax_aload_2 (pc := 369) C dL_law_369 ?_
  refine ax_aload_0 (pc := 370) C dL_law_370 ?_
  refine ax_iload_3 (pc := 371) C dL_law_371 ?_
  refine ax_iconst (pc := 372) (v := 1) C dL_law_372 (by decide) ?_
  refine ax_iadd (pc := 373) C dL_law_373 ?_
  refine ax_val C (show nI i + 1 = nI (i + 1) from nI_add _ _) ?_
  refine ax_sld (pc := 374) (k := i + 1) C hX hb h3 dL_law_374 (by omega) ?_
  refine ax_i2l (pc := 375) C dL_law_375 ?_
  refine ax_bipush (pc := 376) (v := 32) C dL_law_376 (by decide) ?_
  refine ax_lshl (pc := 378) C dL_law_378 ?_
  refine ax_aload_0 (pc := 379) C dL_law_379 ?_
  refine ax_iload_3 (pc := 380) C dL_law_380 ?_
  refine ax_iconst (pc := 381) (v := 2) C dL_law_381 (by decide) ?_
  refine ax_iadd (pc := 382) C dL_law_382 ?_
  refine ax_val C (show nI i + 2 = nI (i + 2) from nI_add _ _) ?_
  refine ax_sld (pc := 383) (k := i + 2) C hX hb h3 dL_law_383 (by omega) ?_
  refine ax_i2l (pc := 384) C dL_law_384 ?_
  refine ax_ldc2 (pc := 385) C dL_law_385 qL_32 ?_
  refine ax_land (pc := 388) C dL_law_388 ?_
  refine ax_lor (pc := 389) C dL_law_389 ?_
  refine ax_aload_0 (pc := 390) C dL_law_390 ?_
  refine ax_iload_3 (pc := 391) C dL_law_391 ?_
  refine ax_iconst (pc := 392) (v := 3) C dL_law_392 (by decide) ?_
  refine ax_iadd (pc := 393) C dL_law_393 ?_
  refine ax_val C (show nI i + 3 = nI (i + 3) from nI_add _ _) ?_
  refine ax_sld (pc := 394) (k := i + 3) C hX hb h3 dL_law_394 (by omega) ?_
  refine ax_callVi (pc := 395) C hB kX7_feed mL_38 dL_law_395 (by decide) rfl rfl rfl rfl rfl (Nat.le_of_ble_eq_true rfl) rfl ⟨by decide, by decide⟩ ?_
  refine ax_icmp_eq (pc := 398) (tgt := 1088) C dL_law_398 (by decide) (fun _ => ?_) (fun z => absurd rfl z)
  exact cont σ2 R2

set_option maxRecDepth 20000 in
set_option maxHeartbeats 4000000 in
theorem lc_pass (C : ax_C x Y iL 20 600000 7302250) (hX : va_X b Ls xs x.2.1.1 Y.2.2.heap) (hb : b < Y.2.2.heap.size) (h3 : Ls ≤ 3072) (R : RR σ) (h6 : i + 6 ≤ Ls) (cont : ∀ σ', RR σ' → ax_S x Y ad 96 3326 Q σ' 1088 [some (.ref b), some (.ref (ad 0)), some (.ref (ad 77)), some (.int (nI i))] []) : ax_S x Y ad 96 3326 Q σ 403 [some (.ref b), some (.ref (ad 0)), some (.ref (ad 77)), some (.int (nI i))] [] := by
  obtain ⟨v, σ1, σ2, hA, hB, R2⟩ := op_pass R  Y ad x.1.2.1 C.F
  refine ax_aload_1 (pc := 403) C dL_law_403 ?_
  refine ax_callVi (pc := 404) C hA kX6_pass mL_39 dL_law_404 (by decide) rfl rfl rfl rfl rfl (Nat.le_of_ble_eq_true rfl) rfl ⟨by decide, by decide⟩ ?_
  refine ax_aload_2 (pc := 407) C dL_law_407 ?_
  refine ax_callVi (pc := 408) C hB kX7_pass mL_43 dL_law_408 (by decide) rfl rfl rfl rfl rfl (Nat.le_of_ble_eq_true rfl) rfl ⟨by decide, by decide⟩ ?_
  refine ax_icmp_eq (pc := 411) (tgt := 1088) C dL_law_411 (by decide) (fun _ => ?_) (fun z => absurd rfl z)
  exact cont σ2 R2

set_option maxRecDepth 20000 in
set_option maxHeartbeats 4000000 in
theorem lc_fault (C : ax_C x Y iL 20 600000 7302250) (hX : va_X b Ls xs x.2.1.1 Y.2.2.heap) (hb : b < Y.2.2.heap.size) (h3 : Ls ≤ 3072) (R : RR σ) (h6 : i + 6 ≤ Ls) (cont : ∀ σ', RR σ' → ax_S x Y ad 96 3326 Q σ' 1088 [some (.ref b), some (.ref (ad 0)), some (.ref (ad 77)), some (.int (nI i))] []) : ax_S x Y ad 96 3326 Q σ 416 [some (.ref b), some (.ref (ad 0)), some (.ref (ad 77)), some (.int (nI i))] [] := by
  obtain ⟨v, σ1, σ2, hA, hB, R2⟩ := op_fault R  Y ad x.1.2.1 C.F
  refine ax_aload_1 (pc := 416) C dL_law_416 ?_
  refine ax_callVi (pc := 417) C hA kX6_fault mL_44 dL_law_417 (by decide) rfl rfl rfl rfl rfl (Nat.le_of_ble_eq_true rfl) rfl ⟨by decide, by decide⟩ ?_
  refine ax_aload_2 (pc := 420) C dL_law_420 ?_
  refine ax_callVi (pc := 421) C hB kX7_fault mL_47 dL_law_421 (by decide) rfl rfl rfl rfl rfl (Nat.le_of_ble_eq_true rfl) rfl ⟨by decide, by decide⟩ ?_
  refine ax_icmp_eq (pc := 424) (tgt := 1088) C dL_law_424 (by decide) (fun _ => ?_) (fun z => absurd rfl z)
  exact cont σ2 R2

set_option maxRecDepth 20000 in
set_option maxHeartbeats 4000000 in
theorem lc_hour (C : ax_C x Y iL 20 600000 7302250) (hX : va_X b Ls xs x.2.1.1 Y.2.2.heap) (hb : b < Y.2.2.heap.size) (h3 : Ls ≤ 3072) (R : RR σ) (h6 : i + 6 ≤ Ls) (cont : ∀ σ', RR σ' → ax_S x Y ad 96 3326 Q σ' 1088 [some (.ref b), some (.ref (ad 0)), some (.ref (ad 77)), some (.int (nI i))] []) : ax_S x Y ad 96 3326 Q σ 429 [some (.ref b), some (.ref (ad 0)), some (.ref (ad 77)), some (.int (nI i))] [] := by
  obtain ⟨v, σ1, σ2, hA, hB, R2⟩ := op_hour R  Y ad x.1.2.1 C.F
  refine ax_aload_1 (pc := 429) C dL_law_429 ?_
  refine ax_callVi (pc := 430) C hA kX6_hour mL_48 dL_law_430 (by decide) rfl rfl rfl rfl rfl (Nat.le_of_ble_eq_true rfl) rfl ⟨by decide, by decide⟩ ?_
  refine ax_aload_2 (pc := 433) C dL_law_433 ?_
  refine ax_callVi (pc := 434) C hB kX7_hour mL_51 dL_law_434 (by decide) rfl rfl rfl rfl rfl (Nat.le_of_ble_eq_true rfl) rfl ⟨by decide, by decide⟩ ?_
  refine ax_icmp_eq (pc := 437) (tgt := 1088) C dL_law_437 (by decide) (fun _ => ?_) (fun z => absurd rfl z)
  exact cont σ2 R2

set_option maxRecDepth 20000 in
set_option maxHeartbeats 4000000 in
theorem lc_waits (C : ax_C x Y iL 20 600000 7302250) (hX : va_X b Ls xs x.2.1.1 Y.2.2.heap) (hb : b < Y.2.2.heap.size) (h3 : Ls ≤ 3072) (R : RR σ) (h6 : i + 6 ≤ Ls) (cont : ∀ σ', RR σ' → ax_S x Y ad 96 3326 Q σ' 1088 [some (.ref b), some (.ref (ad 0)), some (.ref (ad 77)), some (.int (nI i))] []) : ax_S x Y ad 96 3326 Q σ 442 [some (.ref b), some (.ref (ad 0)), some (.ref (ad 77)), some (.int (nI i))] [] := by
  obtain ⟨v, σ1, σ2, hA, hB, R2⟩ := op_waits R (xs (i + 1)) (xs (i + 2)) Y ad x.1.2.1 C.F
  refine ax_aload_1 (pc := 442) C dL_law_442 ?_
  refine ax_aload_0 (pc := 443) C dL_law_443 ?_
  refine ax_iload_3 (pc := 444) C dL_law_444 ?_
  refine ax_iconst (pc := 445) (v := 1) C dL_law_445 (by decide) ?_
  refine ax_iadd (pc := 446) C dL_law_446 ?_
  refine ax_val C (show nI i + 1 = nI (i + 1) from nI_add _ _) ?_
  refine ax_sld (pc := 447) (k := i + 1) C hX hb h3 dL_law_447 (by omega) ?_
  refine ax_aload_0 (pc := 448) C dL_law_448 ?_
  refine ax_iload_3 (pc := 449) C dL_law_449 ?_
  refine ax_iconst (pc := 450) (v := 2) C dL_law_450 (by decide) ?_
  refine ax_iadd (pc := 451) C dL_law_451 ?_
  refine ax_val C (show nI i + 2 = nI (i + 2) from nI_add _ _) ?_
  refine ax_sld (pc := 452) (k := i + 2) C hX hb h3 dL_law_452 (by omega) ?_
  refine ax_callVi (pc := 453) C hA kX6_waits mL_52 dL_law_453 (by decide) rfl rfl rfl rfl rfl (Nat.le_of_ble_eq_true rfl) rfl ⟨by decide, by decide⟩ ?_
  refine ax_aload_2 (pc := 456) C dL_law_456 ?_
  refine ax_aload_0 (pc := 457) C dL_law_457 ?_
  refine ax_iload_3 (pc := 458) C dL_law_458 ?_
  refine ax_iconst (pc := 459) (v := 1) C dL_law_459 (by decide) ?_
  refine ax_iadd (pc := 460) C dL_law_460 ?_
  refine ax_val C (show nI i + 1 = nI (i + 1) from nI_add _ _) ?_
  refine ax_sld (pc := 461) (k := i + 1) C hX hb h3 dL_law_461 (by omega) ?_
  refine ax_aload_0 (pc := 462) C dL_law_462 ?_
  refine ax_iload_3 (pc := 463) C dL_law_463 ?_
  refine ax_iconst (pc := 464) (v := 2) C dL_law_464 (by decide) ?_
  refine ax_iadd (pc := 465) C dL_law_465 ?_
  refine ax_val C (show nI i + 2 = nI (i + 2) from nI_add _ _) ?_
  refine ax_sld (pc := 466) (k := i + 2) C hX hb h3 dL_law_466 (by omega) ?_
  refine ax_callVi (pc := 467) C hB kX7_waits mL_56 dL_law_467 (by decide) rfl rfl rfl rfl rfl (Nat.le_of_ble_eq_true rfl) rfl ⟨by decide, by decide⟩ ?_
  refine ax_icmp_eq (pc := 470) (tgt := 1088) C dL_law_470 (by decide) (fun _ => ?_) (fun z => absurd rfl z)
  exact cont σ2 R2

set_option maxRecDepth 20000 in
set_option maxHeartbeats 4000000 in
theorem lc_undo (C : ax_C x Y iL 20 600000 7302250) (hX : va_X b Ls xs x.2.1.1 Y.2.2.heap) (hb : b < Y.2.2.heap.size) (h3 : Ls ≤ 3072) (R : RR σ) (h6 : i + 6 ≤ Ls) (cont : ∀ σ', RR σ' → ax_S x Y ad 96 3326 Q σ' 1088 [some (.ref b), some (.ref (ad 0)), some (.ref (ad 77)), some (.int (nI i))] []) : ax_S x Y ad 96 3326 Q σ 475 [some (.ref b), some (.ref (ad 0)), some (.ref (ad 77)), some (.int (nI i))] [] := by
  by_cases hm : σ 25 2 = 0
  · obtain ⟨v, σ1, σ2, hA, hB, R2⟩ := op_undo_0 R hm Y ad x.1.2.1 C.F
    refine ax_aload_1 (pc := 475) C dL_law_475 ?_
    refine ax_callVi (pc := 476) C hA kX6_undo mL_57 dL_law_476 (by decide) rfl rfl rfl rfl rfl (Nat.le_of_ble_eq_true rfl) rfl ⟨by decide, by decide⟩ ?_
    refine ax_aload_2 (pc := 479) C dL_law_479 ?_
    refine ax_callVi (pc := 480) C hB kX7_undo mL_60 dL_law_480 (by decide) rfl rfl rfl rfl rfl (Nat.le_of_ble_eq_true rfl) rfl ⟨by decide, by decide⟩ ?_
    refine ax_icmp_eq (pc := 483) (tgt := 1088) C dL_law_483 (by decide) (fun _ => ?_) (fun z => absurd rfl z)
    exact cont σ2 R2
  · obtain ⟨v, σ1, σ2, hA, hB, R2⟩ := op_undo_s R hm Y ad x.1.2.1 C.F
    refine ax_aload_1 (pc := 475) C dL_law_475 ?_
    refine ax_callVi (pc := 476) C hA kX6_undo mL_57 dL_law_476 (by decide) rfl rfl rfl rfl rfl (Nat.le_of_ble_eq_true rfl) rfl ⟨by decide, by decide⟩ ?_
    refine ax_aload_2 (pc := 479) C dL_law_479 ?_
    refine ax_callVi (pc := 480) C hB kX7_undo mL_60 dL_law_480 (by decide) rfl rfl rfl rfl rfl (Nat.le_of_ble_eq_true rfl) rfl ⟨by decide, by decide⟩ ?_
    refine ax_icmp_eq (pc := 483) (tgt := 1088) C dL_law_483 (by decide) (fun _ => ?_) (fun z => absurd rfl z)
    exact cont σ2 R2

set_option maxRecDepth 20000 in
set_option maxHeartbeats 4000000 in
theorem lc_cart (C : ax_C x Y iL 20 600000 7302250) (hX : va_X b Ls xs x.2.1.1 Y.2.2.heap) (hb : b < Y.2.2.heap.size) (h3 : Ls ≤ 3072) (R : RR σ) (h6 : i + 6 ≤ Ls) (cont : ∀ σ', RR σ' → ax_S x Y ad 96 3326 Q σ' 1088 [some (.ref b), some (.ref (ad 0)), some (.ref (ad 77)), some (.int (nI i))] []) : ax_S x Y ad 96 3326 Q σ 488 [some (.ref b), some (.ref (ad 0)), some (.ref (ad 77)), some (.int (nI i))] [] := by
  obtain ⟨v, σ1, σ2, hA, hB, R2⟩ := op_cart R (xs (i + 1)) (xs (i + 2)) Y ad x.1.2.1 C.F
  refine ax_aload_1 (pc := 488) C dL_law_488 ?_
  refine ax_aload_0 (pc := 489) C dL_law_489 ?_
  refine ax_iload_3 (pc := 490) C dL_law_490 ?_
  refine ax_iconst (pc := 491) (v := 1) C dL_law_491 (by decide) ?_
  refine ax_iadd (pc := 492) C dL_law_492 ?_
  refine ax_val C (show nI i + 1 = nI (i + 1) from nI_add _ _) ?_
  refine ax_sld (pc := 493) (k := i + 1) C hX hb h3 dL_law_493 (by omega) ?_
  refine ax_aload_0 (pc := 494) C dL_law_494 ?_
  refine ax_iload_3 (pc := 495) C dL_law_495 ?_
  refine ax_iconst (pc := 496) (v := 2) C dL_law_496 (by decide) ?_
  refine ax_iadd (pc := 497) C dL_law_497 ?_
  refine ax_val C (show nI i + 2 = nI (i + 2) from nI_add _ _) ?_
  refine ax_sld (pc := 498) (k := i + 2) C hX hb h3 dL_law_498 (by omega) ?_
  refine ax_callVi (pc := 499) C hA kX6_cart mL_61 dL_law_499 (by decide) rfl rfl rfl rfl rfl (Nat.le_of_ble_eq_true rfl) rfl ⟨by decide, by decide⟩ ?_
  refine ax_aload_2 (pc := 502) C dL_law_502 ?_
  refine ax_aload_0 (pc := 503) C dL_law_503 ?_
  refine ax_iload_3 (pc := 504) C dL_law_504 ?_
  refine ax_iconst (pc := 505) (v := 1) C dL_law_505 (by decide) ?_
  refine ax_iadd (pc := 506) C dL_law_506 ?_
  refine ax_val C (show nI i + 1 = nI (i + 1) from nI_add _ _) ?_
  refine ax_sld (pc := 507) (k := i + 1) C hX hb h3 dL_law_507 (by omega) ?_
  refine ax_aload_0 (pc := 508) C dL_law_508 ?_
  refine ax_iload_3 (pc := 509) C dL_law_509 ?_
  refine ax_iconst (pc := 510) (v := 2) C dL_law_510 (by decide) ?_
  refine ax_iadd (pc := 511) C dL_law_511 ?_
  refine ax_val C (show nI i + 2 = nI (i + 2) from nI_add _ _) ?_
  refine ax_sld (pc := 512) (k := i + 2) C hX hb h3 dL_law_512 (by omega) ?_
  refine ax_callVi (pc := 513) C hB kX7_cart mL_64 dL_law_513 (by decide) rfl rfl rfl rfl rfl (Nat.le_of_ble_eq_true rfl) rfl ⟨by decide, by decide⟩ ?_
  refine ax_icmp_eq (pc := 516) (tgt := 1088) C dL_law_516 (by decide) (fun _ => ?_) (fun z => absurd rfl z)
  exact cont σ2 R2

set_option maxRecDepth 20000 in
set_option maxHeartbeats 4000000 in
theorem lc_day (C : ax_C x Y iL 20 600000 7302250) (hX : va_X b Ls xs x.2.1.1 Y.2.2.heap) (hb : b < Y.2.2.heap.size) (h3 : Ls ≤ 3072) (R : RR σ) (h6 : i + 6 ≤ Ls) (cont : ∀ σ', RR σ' → ax_S x Y ad 96 3326 Q σ' 1088 [some (.ref b), some (.ref (ad 0)), some (.ref (ad 77)), some (.int (nI i))] []) : ax_S x Y ad 96 3326 Q σ 521 [some (.ref b), some (.ref (ad 0)), some (.ref (ad 77)), some (.int (nI i))] [] := by
  obtain ⟨v, σ1, σ2, hA, hB, R2⟩ := op_day R (xs (i + 1)) (xs (i + 2)) Y ad x.1.2.1 C.F
  refine ax_aload_1 (pc := 521) C dL_law_521 ?_
  refine ax_aload_0 (pc := 522) C dL_law_522 ?_
  refine ax_iload_3 (pc := 523) C dL_law_523 ?_
  refine ax_iconst (pc := 524) (v := 1) C dL_law_524 (by decide) ?_
  refine ax_iadd (pc := 525) C dL_law_525 ?_
  refine ax_val C (show nI i + 1 = nI (i + 1) from nI_add _ _) ?_
  refine ax_sld (pc := 526) (k := i + 1) C hX hb h3 dL_law_526 (by omega) ?_
  refine ax_aload_0 (pc := 527) C dL_law_527 ?_
  refine ax_iload_3 (pc := 528) C dL_law_528 ?_
  refine ax_iconst (pc := 529) (v := 2) C dL_law_529 (by decide) ?_
  refine ax_iadd (pc := 530) C dL_law_530 ?_
  refine ax_val C (show nI i + 2 = nI (i + 2) from nI_add _ _) ?_
  refine ax_sld (pc := 531) (k := i + 2) C hX hb h3 dL_law_531 (by omega) ?_
  refine ax_callVi (pc := 532) C hA kX6_day mL_65 dL_law_532 (by decide) rfl rfl rfl rfl rfl (Nat.le_of_ble_eq_true rfl) rfl ⟨by decide, by decide⟩ ?_
  refine ax_aload_2 (pc := 535) C dL_law_535 ?_
  refine ax_aload_0 (pc := 536) C dL_law_536 ?_
  refine ax_iload_3 (pc := 537) C dL_law_537 ?_
  refine ax_iconst (pc := 538) (v := 1) C dL_law_538 (by decide) ?_
  refine ax_iadd (pc := 539) C dL_law_539 ?_
  refine ax_val C (show nI i + 1 = nI (i + 1) from nI_add _ _) ?_
  refine ax_sld (pc := 540) (k := i + 1) C hX hb h3 dL_law_540 (by omega) ?_
  refine ax_aload_0 (pc := 541) C dL_law_541 ?_
  refine ax_iload_3 (pc := 542) C dL_law_542 ?_
  refine ax_iconst (pc := 543) (v := 2) C dL_law_543 (by decide) ?_
  refine ax_iadd (pc := 544) C dL_law_544 ?_
  refine ax_val C (show nI i + 2 = nI (i + 2) from nI_add _ _) ?_
  refine ax_sld (pc := 545) (k := i + 2) C hX hb h3 dL_law_545 (by omega) ?_
  refine ax_callVi (pc := 546) C hB kX7_day mL_68 dL_law_546 (by decide) rfl rfl rfl rfl rfl (Nat.le_of_ble_eq_true rfl) rfl ⟨by decide, by decide⟩ ?_
  refine ax_icmp_eq (pc := 549) (tgt := 1088) C dL_law_549 (by decide) (fun _ => ?_) (fun z => absurd rfl z)
  exact cont σ2 R2

set_option maxRecDepth 20000 in
set_option maxHeartbeats 4000000 in
theorem lc_judge (C : ax_C x Y iL 20 600000 7302250) (hX : va_X b Ls xs x.2.1.1 Y.2.2.heap) (hb : b < Y.2.2.heap.size) (h3 : Ls ≤ 3072) (R : RR σ) (h6 : i + 6 ≤ Ls) (cont : ∀ σ', RR σ' → ax_S x Y ad 96 3326 Q σ' 1088 [some (.ref b), some (.ref (ad 0)), some (.ref (ad 77)), some (.int (nI i))] []) : ax_S x Y ad 96 3326 Q σ 554 [some (.ref b), some (.ref (ad 0)), some (.ref (ad 77)), some (.int (nI i))] [] := by
  obtain ⟨v, σ1, σ2, hA, hB, R2⟩ := op_judge R (xs (i + 1)) (xs (i + 2)) Y ad x.1.2.1 C.F
  refine ax_aload_1 (pc := 554) C dL_law_554 ?_
  refine ax_aload_0 (pc := 555) C dL_law_555 ?_
  refine ax_iload_3 (pc := 556) C dL_law_556 ?_
  refine ax_iconst (pc := 557) (v := 1) C dL_law_557 (by decide) ?_
  refine ax_iadd (pc := 558) C dL_law_558 ?_
  refine ax_val C (show nI i + 1 = nI (i + 1) from nI_add _ _) ?_
  refine ax_sld (pc := 559) (k := i + 1) C hX hb h3 dL_law_559 (by omega) ?_
  refine ax_aload_0 (pc := 560) C dL_law_560 ?_
  refine ax_iload_3 (pc := 561) C dL_law_561 ?_
  refine ax_iconst (pc := 562) (v := 2) C dL_law_562 (by decide) ?_
  refine ax_iadd (pc := 563) C dL_law_563 ?_
  refine ax_val C (show nI i + 2 = nI (i + 2) from nI_add _ _) ?_
  refine ax_sld (pc := 564) (k := i + 2) C hX hb h3 dL_law_564 (by omega) ?_
  refine ax_callVi (pc := 565) C hA kX6_judge mL_69 dL_law_565 (by decide) rfl rfl rfl rfl rfl (Nat.le_of_ble_eq_true rfl) rfl ⟨by decide, by decide⟩ ?_
  refine ax_aload_2 (pc := 568) C dL_law_568 ?_
  refine ax_aload_0 (pc := 569) C dL_law_569 ?_
  refine ax_iload_3 (pc := 570) C dL_law_570 ?_
  refine ax_iconst (pc := 571) (v := 1) C dL_law_571 (by decide) ?_
  refine ax_iadd (pc := 572) C dL_law_572 ?_
  refine ax_val C (show nI i + 1 = nI (i + 1) from nI_add _ _) ?_
  refine ax_sld (pc := 573) (k := i + 1) C hX hb h3 dL_law_573 (by omega) ?_
  refine ax_aload_0 (pc := 574) C dL_law_574 ?_
  refine ax_iload_3 (pc := 575) C dL_law_575 ?_
  refine ax_iconst (pc := 576) (v := 2) C dL_law_576 (by decide) ?_
  refine ax_iadd (pc := 577) C dL_law_577 ?_
  refine ax_val C (show nI i + 2 = nI (i + 2) from nI_add _ _) ?_
  refine ax_sld (pc := 578) (k := i + 2) C hX hb h3 dL_law_578 (by omega) ?_
  refine ax_callVi (pc := 579) C hB kX7_judge mL_72 dL_law_579 (by decide) rfl rfl rfl rfl rfl (Nat.le_of_ble_eq_true rfl) rfl ⟨by decide, by decide⟩ ?_
  refine ax_icmp_eq (pc := 582) (tgt := 1088) C dL_law_582 (by decide) (fun _ => ?_) (fun z => absurd rfl z)
  exact cont σ2 R2

set_option maxRecDepth 20000 in
set_option maxHeartbeats 4000000 in
theorem lc_best (C : ax_C x Y iL 20 600000 7302250) (hX : va_X b Ls xs x.2.1.1 Y.2.2.heap) (hb : b < Y.2.2.heap.size) (h3 : Ls ≤ 3072) (R : RR σ) (h6 : i + 6 ≤ Ls) (cont : ∀ σ', RR σ' → ax_S x Y ad 96 3326 Q σ' 1088 [some (.ref b), some (.ref (ad 0)), some (.ref (ad 77)), some (.int (nI i))] []) : ax_S x Y ad 96 3326 Q σ 587 [some (.ref b), some (.ref (ad 0)), some (.ref (ad 77)), some (.int (nI i))] [] := by
  obtain ⟨v, σ1, σ2, hA, hB, R2⟩ := op_best R (xs (i + 1)) (xs (i + 2)) Y ad x.1.2.1 C.F
  refine ax_aload_1 (pc := 587) C dL_law_587 ?_
  refine ax_aload_0 (pc := 588) C dL_law_588 ?_
  refine ax_iload_3 (pc := 589) C dL_law_589 ?_
  refine ax_iconst (pc := 590) (v := 1) C dL_law_590 (by decide) ?_
  refine ax_iadd (pc := 591) C dL_law_591 ?_
  refine ax_val C (show nI i + 1 = nI (i + 1) from nI_add _ _) ?_
  refine ax_sld (pc := 592) (k := i + 1) C hX hb h3 dL_law_592 (by omega) ?_
  refine ax_aload_0 (pc := 593) C dL_law_593 ?_
  refine ax_iload_3 (pc := 594) C dL_law_594 ?_
  refine ax_iconst (pc := 595) (v := 2) C dL_law_595 (by decide) ?_
  refine ax_iadd (pc := 596) C dL_law_596 ?_
  refine ax_val C (show nI i + 2 = nI (i + 2) from nI_add _ _) ?_
  refine ax_sld (pc := 597) (k := i + 2) C hX hb h3 dL_law_597 (by omega) ?_
  refine ax_callVi (pc := 598) C hA kX6_best mL_73 dL_law_598 (by decide) rfl rfl rfl rfl rfl (Nat.le_of_ble_eq_true rfl) rfl ⟨by decide, by decide⟩ ?_
  refine ax_aload_2 (pc := 601) C dL_law_601 ?_
  refine ax_aload_0 (pc := 602) C dL_law_602 ?_
  refine ax_iload_3 (pc := 603) C dL_law_603 ?_
  refine ax_iconst (pc := 604) (v := 1) C dL_law_604 (by decide) ?_
  refine ax_iadd (pc := 605) C dL_law_605 ?_
  refine ax_val C (show nI i + 1 = nI (i + 1) from nI_add _ _) ?_
  refine ax_sld (pc := 606) (k := i + 1) C hX hb h3 dL_law_606 (by omega) ?_
  refine ax_aload_0 (pc := 607) C dL_law_607 ?_
  refine ax_iload_3 (pc := 608) C dL_law_608 ?_
  refine ax_iconst (pc := 609) (v := 2) C dL_law_609 (by decide) ?_
  refine ax_iadd (pc := 610) C dL_law_610 ?_
  refine ax_val C (show nI i + 2 = nI (i + 2) from nI_add _ _) ?_
  refine ax_sld (pc := 611) (k := i + 2) C hX hb h3 dL_law_611 (by omega) ?_
  refine ax_callVi (pc := 612) C hB kX7_best mL_76 dL_law_612 (by decide) rfl rfl rfl rfl rfl (Nat.le_of_ble_eq_true rfl) rfl ⟨by decide, by decide⟩ ?_
  refine ax_icmp_eq (pc := 615) (tgt := 1088) C dL_law_615 (by decide) (fun _ => ?_) (fun z => absurd rfl z)
  exact cont σ2 R2

set_option maxRecDepth 20000 in
set_option maxHeartbeats 4000000 in
theorem lc_rest (C : ax_C x Y iL 20 600000 7302250) (hX : va_X b Ls xs x.2.1.1 Y.2.2.heap) (hb : b < Y.2.2.heap.size) (h3 : Ls ≤ 3072) (R : RR σ) (h6 : i + 6 ≤ Ls) (cont : ∀ σ', RR σ' → ax_S x Y ad 96 3326 Q σ' 1088 [some (.ref b), some (.ref (ad 0)), some (.ref (ad 77)), some (.int (nI i))] []) : ax_S x Y ad 96 3326 Q σ 620 [some (.ref b), some (.ref (ad 0)), some (.ref (ad 77)), some (.int (nI i))] [] := by
  obtain ⟨v, σ1, σ2, hA, hB, R2⟩ := op_rest R (xs (i + 1)) Y ad x.1.2.1 C.F
  refine ax_aload_1 (pc := 620) C dL_law_620 ?_
  refine ax_aload_0 (pc := 621) C dL_law_621 ?_
  refine ax_iload_3 (pc := 622) C dL_law_622 ?_
  refine ax_iconst (pc := 623) (v := 1) C dL_law_623 (by decide) ?_
  refine ax_iadd (pc := 624) C dL_law_624 ?_
  refine ax_val C (show nI i + 1 = nI (i + 1) from nI_add _ _) ?_
  refine ax_sld (pc := 625) (k := i + 1) C hX hb h3 dL_law_625 (by omega) ?_
  refine ax_callVi (pc := 626) C hA kX6_rest mL_77 dL_law_626 (by decide) rfl rfl rfl rfl rfl (Nat.le_of_ble_eq_true rfl) rfl ⟨by decide, by decide⟩ ?_
  refine ax_aload_2 (pc := 629) C dL_law_629 ?_
  refine ax_aload_0 (pc := 630) C dL_law_630 ?_
  refine ax_iload_3 (pc := 631) C dL_law_631 ?_
  refine ax_iconst (pc := 632) (v := 1) C dL_law_632 (by decide) ?_
  refine ax_iadd (pc := 633) C dL_law_633 ?_
  refine ax_val C (show nI i + 1 = nI (i + 1) from nI_add _ _) ?_
  refine ax_sld (pc := 634) (k := i + 1) C hX hb h3 dL_law_634 (by omega) ?_
  refine ax_callVi (pc := 635) C hB kX7_rest mL_80 dL_law_635 (by decide) rfl rfl rfl rfl rfl (Nat.le_of_ble_eq_true rfl) rfl ⟨by decide, by decide⟩ ?_
  refine ax_icmp_eq (pc := 638) (tgt := 1088) C dL_law_638 (by decide) (fun _ => ?_) (fun z => absurd rfl z)
  exact cont σ2 R2

set_option maxRecDepth 20000 in
set_option maxHeartbeats 4000000 in
theorem lc_thought (C : ax_C x Y iL 20 600000 7302250) (hX : va_X b Ls xs x.2.1.1 Y.2.2.heap) (hb : b < Y.2.2.heap.size) (h3 : Ls ≤ 3072) (R : RR σ) (h6 : i + 6 ≤ Ls) (cont : ∀ σ', RR σ' → ax_S x Y ad 96 3326 Q σ' 1088 [some (.ref b), some (.ref (ad 0)), some (.ref (ad 77)), some (.int (nI i))] []) : ax_S x Y ad 96 3326 Q σ 643 [some (.ref b), some (.ref (ad 0)), some (.ref (ad 77)), some (.int (nI i))] [] := by
  obtain ⟨v, σ1, σ2, hA, hB, R2⟩ := op_thought R (xs (i + 1)) (xs (i + 2)) Y ad x.1.2.1 C.F
  refine ax_aload_1 (pc := 643) C dL_law_643 ?_
  refine ax_aload_0 (pc := 644) C dL_law_644 ?_
  refine ax_iload_3 (pc := 645) C dL_law_645 ?_
  refine ax_iconst (pc := 646) (v := 1) C dL_law_646 (by decide) ?_
  refine ax_iadd (pc := 647) C dL_law_647 ?_
  refine ax_val C (show nI i + 1 = nI (i + 1) from nI_add _ _) ?_
  refine ax_sld (pc := 648) (k := i + 1) C hX hb h3 dL_law_648 (by omega) ?_
  refine ax_aload_0 (pc := 649) C dL_law_649 ?_
  refine ax_iload_3 (pc := 650) C dL_law_650 ?_
  refine ax_iconst (pc := 651) (v := 2) C dL_law_651 (by decide) ?_
  refine ax_iadd (pc := 652) C dL_law_652 ?_
  refine ax_val C (show nI i + 2 = nI (i + 2) from nI_add _ _) ?_
  refine ax_sld (pc := 653) (k := i + 2) C hX hb h3 dL_law_653 (by omega) ?_
  refine ax_callVi (pc := 654) C hA kX6_thought mL_81 dL_law_654 (by decide) rfl rfl rfl rfl rfl (Nat.le_of_ble_eq_true rfl) rfl ⟨by decide, by decide⟩ ?_
  refine ax_aload_2 (pc := 657) C dL_law_657 ?_
  refine ax_aload_0 (pc := 658) C dL_law_658 ?_
  refine ax_iload_3 (pc := 659) C dL_law_659 ?_
  refine ax_iconst (pc := 660) (v := 1) C dL_law_660 (by decide) ?_
  refine ax_iadd (pc := 661) C dL_law_661 ?_
  refine ax_val C (show nI i + 1 = nI (i + 1) from nI_add _ _) ?_
  refine ax_sld (pc := 662) (k := i + 1) C hX hb h3 dL_law_662 (by omega) ?_
  refine ax_aload_0 (pc := 663) C dL_law_663 ?_
  refine ax_iload_3 (pc := 664) C dL_law_664 ?_
  refine ax_iconst (pc := 665) (v := 2) C dL_law_665 (by decide) ?_
  refine ax_iadd (pc := 666) C dL_law_666 ?_
  refine ax_val C (show nI i + 2 = nI (i + 2) from nI_add _ _) ?_
  refine ax_sld (pc := 667) (k := i + 2) C hX hb h3 dL_law_667 (by omega) ?_
  refine ax_callVi (pc := 668) C hB kX7_thought mL_84 dL_law_668 (by decide) rfl rfl rfl rfl rfl (Nat.le_of_ble_eq_true rfl) rfl ⟨by decide, by decide⟩ ?_
  refine ax_icmp_eq (pc := 671) (tgt := 1088) C dL_law_671 (by decide) (fun _ => ?_) (fun z => absurd rfl z)
  exact cont σ2 R2

set_option maxRecDepth 20000 in
set_option maxHeartbeats 4000000 in
theorem lc_two (C : ax_C x Y iL 20 600000 7302250) (hX : va_X b Ls xs x.2.1.1 Y.2.2.heap) (hb : b < Y.2.2.heap.size) (h3 : Ls ≤ 3072) (R : RR σ) (h6 : i + 6 ≤ Ls) (cont : ∀ σ', RR σ' → ax_S x Y ad 96 3326 Q σ' 1088 [some (.ref b), some (.ref (ad 0)), some (.ref (ad 77)), some (.int (nI i))] []) : ax_S x Y ad 96 3326 Q σ 676 [some (.ref b), some (.ref (ad 0)), some (.ref (ad 77)), some (.int (nI i))] [] := by
  obtain ⟨v, σ1, σ2, hA, hB, R2⟩ := op_two R (xs (i + 1)) (xs (i + 2)) (xs (i + 3)) (xs (i + 4)) Y ad x.1.2.1 C.F
  refine ax_aload_1 (pc := 676) C dL_law_676 ?_
  refine ax_aload_0 (pc := 677) C dL_law_677 ?_
  refine ax_iload_3 (pc := 678) C dL_law_678 ?_
  refine ax_iconst (pc := 679) (v := 1) C dL_law_679 (by decide) ?_
  refine ax_iadd (pc := 680) C dL_law_680 ?_
  refine ax_val C (show nI i + 1 = nI (i + 1) from nI_add _ _) ?_
  refine ax_sld (pc := 681) (k := i + 1) C hX hb h3 dL_law_681 (by omega) ?_
  refine ax_aload_0 (pc := 682) C dL_law_682 ?_
  refine ax_iload_3 (pc := 683) C dL_law_683 ?_
  refine ax_iconst (pc := 684) (v := 2) C dL_law_684 (by decide) ?_
  refine ax_iadd (pc := 685) C dL_law_685 ?_
  refine ax_val C (show nI i + 2 = nI (i + 2) from nI_add _ _) ?_
  refine ax_sld (pc := 686) (k := i + 2) C hX hb h3 dL_law_686 (by omega) ?_
  refine ax_aload_0 (pc := 687) C dL_law_687 ?_
  refine ax_iload_3 (pc := 688) C dL_law_688 ?_
  refine ax_iconst (pc := 689) (v := 3) C dL_law_689 (by decide) ?_
  refine ax_iadd (pc := 690) C dL_law_690 ?_
  refine ax_val C (show nI i + 3 = nI (i + 3) from nI_add _ _) ?_
  refine ax_sld (pc := 691) (k := i + 3) C hX hb h3 dL_law_691 (by omega) ?_
  refine ax_aload_0 (pc := 692) C dL_law_692 ?_
  refine ax_iload_3 (pc := 693) C dL_law_693 ?_
  refine ax_iconst (pc := 694) (v := 4) C dL_law_694 (by decide) ?_
  refine ax_iadd (pc := 695) C dL_law_695 ?_
  refine ax_val C (show nI i + 4 = nI (i + 4) from nI_add _ _) ?_
  refine ax_sld (pc := 696) (k := i + 4) C hX hb h3 dL_law_696 (by omega) ?_
  refine ax_callVi (pc := 697) C hA kX6_two mL_85 dL_law_697 (by decide) rfl rfl rfl rfl rfl (Nat.le_of_ble_eq_true rfl) rfl ⟨by decide, by decide⟩ ?_
  refine ax_aload_2 (pc := 700) C dL_law_700 ?_
  refine ax_aload_0 (pc := 701) C dL_law_701 ?_
  refine ax_iload_3 (pc := 702) C dL_law_702 ?_
  refine ax_iconst (pc := 703) (v := 1) C dL_law_703 (by decide) ?_
  refine ax_iadd (pc := 704) C dL_law_704 ?_
  refine ax_val C (show nI i + 1 = nI (i + 1) from nI_add _ _) ?_
  refine ax_sld (pc := 705) (k := i + 1) C hX hb h3 dL_law_705 (by omega) ?_
  refine ax_aload_0 (pc := 706) C dL_law_706 ?_
  refine ax_iload_3 (pc := 707) C dL_law_707 ?_
  refine ax_iconst (pc := 708) (v := 2) C dL_law_708 (by decide) ?_
  refine ax_iadd (pc := 709) C dL_law_709 ?_
  refine ax_val C (show nI i + 2 = nI (i + 2) from nI_add _ _) ?_
  refine ax_sld (pc := 710) (k := i + 2) C hX hb h3 dL_law_710 (by omega) ?_
  refine ax_aload_0 (pc := 711) C dL_law_711 ?_
  refine ax_iload_3 (pc := 712) C dL_law_712 ?_
  refine ax_iconst (pc := 713) (v := 3) C dL_law_713 (by decide) ?_
  refine ax_iadd (pc := 714) C dL_law_714 ?_
  refine ax_val C (show nI i + 3 = nI (i + 3) from nI_add _ _) ?_
  refine ax_sld (pc := 715) (k := i + 3) C hX hb h3 dL_law_715 (by omega) ?_
  refine ax_aload_0 (pc := 716) C dL_law_716 ?_
  refine ax_iload_3 (pc := 717) C dL_law_717 ?_
  refine ax_iconst (pc := 718) (v := 4) C dL_law_718 (by decide) ?_
  refine ax_iadd (pc := 719) C dL_law_719 ?_
  refine ax_val C (show nI i + 4 = nI (i + 4) from nI_add _ _) ?_
  refine ax_sld (pc := 720) (k := i + 4) C hX hb h3 dL_law_720 (by omega) ?_
  refine ax_callVi (pc := 721) C hB kX7_two mL_89 dL_law_721 (by decide) rfl rfl rfl rfl rfl (Nat.le_of_ble_eq_true rfl) rfl ⟨by decide, by decide⟩ ?_
  refine ax_icmp_eq (pc := 724) (tgt := 1088) C dL_law_724 (by decide) (fun _ => ?_) (fun z => absurd rfl z)
  exact cont σ2 R2

set_option maxRecDepth 20000 in
set_option maxHeartbeats 4000000 in
theorem lc_shares (C : ax_C x Y iL 20 600000 7302250) (hX : va_X b Ls xs x.2.1.1 Y.2.2.heap) (hb : b < Y.2.2.heap.size) (h3 : Ls ≤ 3072) (R : RR σ) (h6 : i + 6 ≤ Ls) (cont : ∀ σ', RR σ' → ax_S x Y ad 96 3326 Q σ' 1088 [some (.ref b), some (.ref (ad 0)), some (.ref (ad 77)), some (.int (nI i))] []) : ax_S x Y ad 96 3326 Q σ 729 [some (.ref b), some (.ref (ad 0)), some (.ref (ad 77)), some (.int (nI i))] [] := by
  obtain ⟨v, σ1, σ2, hA, hB, R2⟩ := op_shares R (xs (i + 1)) (xs (i + 2)) Y ad x.1.2.1 C.F
  refine ax_aload_1 (pc := 729) C dL_law_729 ?_
  refine ax_aload_0 (pc := 730) C dL_law_730 ?_
  refine ax_iload_3 (pc := 731) C dL_law_731 ?_
  refine ax_iconst (pc := 732) (v := 1) C dL_law_732 (by decide) ?_
  refine ax_iadd (pc := 733) C dL_law_733 ?_
  refine ax_val C (show nI i + 1 = nI (i + 1) from nI_add _ _) ?_
  refine ax_sld (pc := 734) (k := i + 1) C hX hb h3 dL_law_734 (by omega) ?_
  refine ax_aload_0 (pc := 735) C dL_law_735 ?_
  refine ax_iload_3 (pc := 736) C dL_law_736 ?_
  refine ax_iconst (pc := 737) (v := 2) C dL_law_737 (by decide) ?_
  refine ax_iadd (pc := 738) C dL_law_738 ?_
  refine ax_val C (show nI i + 2 = nI (i + 2) from nI_add _ _) ?_
  refine ax_sld (pc := 739) (k := i + 2) C hX hb h3 dL_law_739 (by omega) ?_
  refine ax_callVi (pc := 740) C hA kX6_shares mL_90 dL_law_740 (by decide) rfl rfl rfl rfl rfl (Nat.le_of_ble_eq_true rfl) rfl ⟨by decide, by decide⟩ ?_
  refine ax_aload_2 (pc := 743) C dL_law_743 ?_
  refine ax_aload_0 (pc := 744) C dL_law_744 ?_
  refine ax_iload_3 (pc := 745) C dL_law_745 ?_
  refine ax_iconst (pc := 746) (v := 1) C dL_law_746 (by decide) ?_
  refine ax_iadd (pc := 747) C dL_law_747 ?_
  refine ax_val C (show nI i + 1 = nI (i + 1) from nI_add _ _) ?_
  refine ax_sld (pc := 748) (k := i + 1) C hX hb h3 dL_law_748 (by omega) ?_
  refine ax_aload_0 (pc := 749) C dL_law_749 ?_
  refine ax_iload_3 (pc := 750) C dL_law_750 ?_
  refine ax_iconst (pc := 751) (v := 2) C dL_law_751 (by decide) ?_
  refine ax_iadd (pc := 752) C dL_law_752 ?_
  refine ax_val C (show nI i + 2 = nI (i + 2) from nI_add _ _) ?_
  refine ax_sld (pc := 753) (k := i + 2) C hX hb h3 dL_law_753 (by omega) ?_
  refine ax_callVi (pc := 754) C hB kX7_shares mL_93 dL_law_754 (by decide) rfl rfl rfl rfl rfl (Nat.le_of_ble_eq_true rfl) rfl ⟨by decide, by decide⟩ ?_
  refine ax_icmp_eq (pc := 757) (tgt := 1088) C dL_law_757 (by decide) (fun _ => ?_) (fun z => absurd rfl z)
  exact cont σ2 R2

set_option maxRecDepth 20000 in
set_option maxHeartbeats 4000000 in
theorem lc_size (C : ax_C x Y iL 20 600000 7302250) (hX : va_X b Ls xs x.2.1.1 Y.2.2.heap) (hb : b < Y.2.2.heap.size) (h3 : Ls ≤ 3072) (R : RR σ) (h6 : i + 6 ≤ Ls) (cont : ∀ σ', RR σ' → ax_S x Y ad 96 3326 Q σ' 1088 [some (.ref b), some (.ref (ad 0)), some (.ref (ad 77)), some (.int (nI i))] []) : ax_S x Y ad 96 3326 Q σ 762 [some (.ref b), some (.ref (ad 0)), some (.ref (ad 77)), some (.int (nI i))] [] := by
  obtain ⟨v, σ1, σ2, hA, hB, R2⟩ := op_size R  Y ad x.1.2.1 C.F
  refine ax_aload_1 (pc := 762) C dL_law_762 ?_
  refine ax_callVi (pc := 763) C hA kX6_size mL_94 dL_law_763 (by decide) rfl rfl rfl rfl rfl (Nat.le_of_ble_eq_true rfl) rfl ⟨by decide, by decide⟩ ?_
  refine ax_aload_2 (pc := 766) C dL_law_766 ?_
  refine ax_callVi (pc := 767) C hB kX7_size mL_97 dL_law_767 (by decide) rfl rfl rfl rfl rfl (Nat.le_of_ble_eq_true rfl) rfl ⟨by decide, by decide⟩ ?_
  refine ax_icmp_eq (pc := 770) (tgt := 1088) C dL_law_770 (by decide) (fun _ => ?_) (fun z => absurd rfl z)
  exact cont σ2 R2

set_option maxRecDepth 20000 in
set_option maxHeartbeats 4000000 in
theorem lc_book (C : ax_C x Y iL 20 600000 7302250) (hX : va_X b Ls xs x.2.1.1 Y.2.2.heap) (hb : b < Y.2.2.heap.size) (h3 : Ls ≤ 3072) (R : RR σ) (h6 : i + 6 ≤ Ls) (cont : ∀ σ', RR σ' → ax_S x Y ad 96 3326 Q σ' 1088 [some (.ref b), some (.ref (ad 0)), some (.ref (ad 77)), some (.int (nI i))] []) : ax_S x Y ad 96 3326 Q σ 775 [some (.ref b), some (.ref (ad 0)), some (.ref (ad 77)), some (.int (nI i))] [] := by
  obtain ⟨v, σ1, σ2, hA, hB, R2⟩ := op_book R (xs (i + 1)) (xs (i + 2)) Y ad x.1.2.1 C.F
  refine ax_aload_1 (pc := 775) C dL_law_775 ?_
  refine ax_aload_0 (pc := 776) C dL_law_776 ?_
  refine ax_iload_3 (pc := 777) C dL_law_777 ?_
  refine ax_iconst (pc := 778) (v := 1) C dL_law_778 (by decide) ?_
  refine ax_iadd (pc := 779) C dL_law_779 ?_
  refine ax_val C (show nI i + 1 = nI (i + 1) from nI_add _ _) ?_
  refine ax_sld (pc := 780) (k := i + 1) C hX hb h3 dL_law_780 (by omega) ?_
  refine ax_aload_0 (pc := 781) C dL_law_781 ?_
  refine ax_iload_3 (pc := 782) C dL_law_782 ?_
  refine ax_iconst (pc := 783) (v := 2) C dL_law_783 (by decide) ?_
  refine ax_iadd (pc := 784) C dL_law_784 ?_
  refine ax_val C (show nI i + 2 = nI (i + 2) from nI_add _ _) ?_
  refine ax_sld (pc := 785) (k := i + 2) C hX hb h3 dL_law_785 (by omega) ?_
  refine ax_callVi (pc := 786) C hA kX6_book mL_98 dL_law_786 (by decide) rfl rfl rfl rfl rfl (Nat.le_of_ble_eq_true rfl) rfl ⟨by decide, by decide⟩ ?_
  refine ax_aload_2 (pc := 789) C dL_law_789 ?_
  refine ax_aload_0 (pc := 790) C dL_law_790 ?_
  refine ax_iload_3 (pc := 791) C dL_law_791 ?_
  refine ax_iconst (pc := 792) (v := 1) C dL_law_792 (by decide) ?_
  refine ax_iadd (pc := 793) C dL_law_793 ?_
  refine ax_val C (show nI i + 1 = nI (i + 1) from nI_add _ _) ?_
  refine ax_sld (pc := 794) (k := i + 1) C hX hb h3 dL_law_794 (by omega) ?_
  refine ax_aload_0 (pc := 795) C dL_law_795 ?_
  refine ax_iload_3 (pc := 796) C dL_law_796 ?_
  refine ax_iconst (pc := 797) (v := 2) C dL_law_797 (by decide) ?_
  refine ax_iadd (pc := 798) C dL_law_798 ?_
  refine ax_val C (show nI i + 2 = nI (i + 2) from nI_add _ _) ?_
  refine ax_sld (pc := 799) (k := i + 2) C hX hb h3 dL_law_799 (by omega) ?_
  refine ax_callVi (pc := 800) C hB kX7_book mL_101 dL_law_800 (by decide) rfl rfl rfl rfl rfl (Nat.le_of_ble_eq_true rfl) rfl ⟨by decide, by decide⟩ ?_
  refine ax_icmp_eq (pc := 803) (tgt := 1088) C dL_law_803 (by decide) (fun _ => ?_) (fun z => absurd rfl z)
  exact cont σ2 R2

set_option maxRecDepth 20000 in
set_option maxHeartbeats 4000000 in
theorem lc_ford (C : ax_C x Y iL 20 600000 7302250) (hX : va_X b Ls xs x.2.1.1 Y.2.2.heap) (hb : b < Y.2.2.heap.size) (h3 : Ls ≤ 3072) (R : RR σ) (h6 : i + 6 ≤ Ls) (cont : ∀ σ', RR σ' → ax_S x Y ad 96 3326 Q σ' 1088 [some (.ref b), some (.ref (ad 0)), some (.ref (ad 77)), some (.int (nI i))] []) : ax_S x Y ad 96 3326 Q σ 808 [some (.ref b), some (.ref (ad 0)), some (.ref (ad 77)), some (.int (nI i))] [] := by
  obtain ⟨v, σ1, σ2, hA, hB, R2⟩ := op_ford R (xs (i + 1)) (xs (i + 2)) (xs (i + 3)) (xs (i + 4)) Y ad x.1.2.1 C.F
  refine ax_aload_1 (pc := 808) C dL_law_808 ?_
  refine ax_aload_0 (pc := 809) C dL_law_809 ?_
  refine ax_iload_3 (pc := 810) C dL_law_810 ?_
  refine ax_iconst (pc := 811) (v := 1) C dL_law_811 (by decide) ?_
  refine ax_iadd (pc := 812) C dL_law_812 ?_
  refine ax_val C (show nI i + 1 = nI (i + 1) from nI_add _ _) ?_
  refine ax_sld (pc := 813) (k := i + 1) C hX hb h3 dL_law_813 (by omega) ?_
  refine ax_aload_0 (pc := 814) C dL_law_814 ?_
  refine ax_iload_3 (pc := 815) C dL_law_815 ?_
  refine ax_iconst (pc := 816) (v := 2) C dL_law_816 (by decide) ?_
  refine ax_iadd (pc := 817) C dL_law_817 ?_
  refine ax_val C (show nI i + 2 = nI (i + 2) from nI_add _ _) ?_
  refine ax_sld (pc := 818) (k := i + 2) C hX hb h3 dL_law_818 (by omega) ?_
  refine ax_aload_0 (pc := 819) C dL_law_819 ?_
  refine ax_iload_3 (pc := 820) C dL_law_820 ?_
  refine ax_iconst (pc := 821) (v := 3) C dL_law_821 (by decide) ?_
  refine ax_iadd (pc := 822) C dL_law_822 ?_
  refine ax_val C (show nI i + 3 = nI (i + 3) from nI_add _ _) ?_
  refine ax_sld (pc := 823) (k := i + 3) C hX hb h3 dL_law_823 (by omega) ?_
  refine ax_aload_0 (pc := 824) C dL_law_824 ?_
  refine ax_iload_3 (pc := 825) C dL_law_825 ?_
  refine ax_iconst (pc := 826) (v := 4) C dL_law_826 (by decide) ?_
  refine ax_iadd (pc := 827) C dL_law_827 ?_
  refine ax_val C (show nI i + 4 = nI (i + 4) from nI_add _ _) ?_
  refine ax_sld (pc := 828) (k := i + 4) C hX hb h3 dL_law_828 (by omega) ?_
  refine ax_callVi (pc := 829) C hA kX6_ford mL_102 dL_law_829 (by decide) rfl rfl rfl rfl rfl (Nat.le_of_ble_eq_true rfl) rfl ⟨by decide, by decide⟩ ?_
  refine ax_aload_2 (pc := 832) C dL_law_832 ?_
  refine ax_aload_0 (pc := 833) C dL_law_833 ?_
  refine ax_iload_3 (pc := 834) C dL_law_834 ?_
  refine ax_iconst (pc := 835) (v := 1) C dL_law_835 (by decide) ?_
  refine ax_iadd (pc := 836) C dL_law_836 ?_
  refine ax_val C (show nI i + 1 = nI (i + 1) from nI_add _ _) ?_
  refine ax_sld (pc := 837) (k := i + 1) C hX hb h3 dL_law_837 (by omega) ?_
  refine ax_aload_0 (pc := 838) C dL_law_838 ?_
  refine ax_iload_3 (pc := 839) C dL_law_839 ?_
  refine ax_iconst (pc := 840) (v := 2) C dL_law_840 (by decide) ?_
  refine ax_iadd (pc := 841) C dL_law_841 ?_
  refine ax_val C (show nI i + 2 = nI (i + 2) from nI_add _ _) ?_
  refine ax_sld (pc := 842) (k := i + 2) C hX hb h3 dL_law_842 (by omega) ?_
  refine ax_aload_0 (pc := 843) C dL_law_843 ?_
  refine ax_iload_3 (pc := 844) C dL_law_844 ?_
  refine ax_iconst (pc := 845) (v := 3) C dL_law_845 (by decide) ?_
  refine ax_iadd (pc := 846) C dL_law_846 ?_
  refine ax_val C (show nI i + 3 = nI (i + 3) from nI_add _ _) ?_
  refine ax_sld (pc := 847) (k := i + 3) C hX hb h3 dL_law_847 (by omega) ?_
  refine ax_aload_0 (pc := 848) C dL_law_848 ?_
  refine ax_iload_3 (pc := 849) C dL_law_849 ?_
  refine ax_iconst (pc := 850) (v := 4) C dL_law_850 (by decide) ?_
  refine ax_iadd (pc := 851) C dL_law_851 ?_
  refine ax_val C (show nI i + 4 = nI (i + 4) from nI_add _ _) ?_
  refine ax_sld (pc := 852) (k := i + 4) C hX hb h3 dL_law_852 (by omega) ?_
  refine ax_callVi (pc := 853) C hB kX7_ford mL_105 dL_law_853 (by decide) rfl rfl rfl rfl rfl (Nat.le_of_ble_eq_true rfl) rfl ⟨by decide, by decide⟩ ?_
  refine ax_icmp_eq (pc := 856) (tgt := 1088) C dL_law_856 (by decide) (fun _ => ?_) (fun z => absurd rfl z)
  exact cont σ2 R2

set_option maxRecDepth 20000 in
set_option maxHeartbeats 4000000 in
theorem lc_goat (C : ax_C x Y iL 20 600000 7302250) (hX : va_X b Ls xs x.2.1.1 Y.2.2.heap) (hb : b < Y.2.2.heap.size) (h3 : Ls ≤ 3072) (R : RR σ) (h6 : i + 6 ≤ Ls) (cont : ∀ σ', RR σ' → ax_S x Y ad 96 3326 Q σ' 1088 [some (.ref b), some (.ref (ad 0)), some (.ref (ad 77)), some (.int (nI i))] []) : ax_S x Y ad 96 3326 Q σ 861 [some (.ref b), some (.ref (ad 0)), some (.ref (ad 77)), some (.int (nI i))] [] := by
  obtain ⟨v, σ1, σ2, hA, hB, R2⟩ := op_goat R (xs (i + 1)) (xs (i + 2)) Y ad x.1.2.1 C.F
  refine ax_aload_1 (pc := 861) C dL_law_861 ?_
  refine ax_aload_0 (pc := 862) C dL_law_862 ?_
  refine ax_iload_3 (pc := 863) C dL_law_863 ?_
  refine ax_iconst (pc := 864) (v := 1) C dL_law_864 (by decide) ?_
  refine ax_iadd (pc := 865) C dL_law_865 ?_
  refine ax_val C (show nI i + 1 = nI (i + 1) from nI_add _ _) ?_
  refine ax_sld (pc := 866) (k := i + 1) C hX hb h3 dL_law_866 (by omega) ?_
  refine ax_aload_0 (pc := 867) C dL_law_867 ?_
  refine ax_iload_3 (pc := 868) C dL_law_868 ?_
  refine ax_iconst (pc := 869) (v := 2) C dL_law_869 (by decide) ?_
  refine ax_iadd (pc := 870) C dL_law_870 ?_
  refine ax_val C (show nI i + 2 = nI (i + 2) from nI_add _ _) ?_
  refine ax_sld (pc := 871) (k := i + 2) C hX hb h3 dL_law_871 (by omega) ?_
  refine ax_callVi (pc := 872) C hA kX6_goat mL_106 dL_law_872 (by decide) rfl rfl rfl rfl rfl (Nat.le_of_ble_eq_true rfl) rfl ⟨by decide, by decide⟩ ?_
  refine ax_aload_2 (pc := 875) C dL_law_875 ?_
  refine ax_aload_0 (pc := 876) C dL_law_876 ?_
  refine ax_iload_3 (pc := 877) C dL_law_877 ?_
  refine ax_iconst (pc := 878) (v := 1) C dL_law_878 (by decide) ?_
  refine ax_iadd (pc := 879) C dL_law_879 ?_
  refine ax_val C (show nI i + 1 = nI (i + 1) from nI_add _ _) ?_
  refine ax_sld (pc := 880) (k := i + 1) C hX hb h3 dL_law_880 (by omega) ?_
  refine ax_aload_0 (pc := 881) C dL_law_881 ?_
  refine ax_iload_3 (pc := 882) C dL_law_882 ?_
  refine ax_iconst (pc := 883) (v := 2) C dL_law_883 (by decide) ?_
  refine ax_iadd (pc := 884) C dL_law_884 ?_
  refine ax_val C (show nI i + 2 = nI (i + 2) from nI_add _ _) ?_
  refine ax_sld (pc := 885) (k := i + 2) C hX hb h3 dL_law_885 (by omega) ?_
  refine ax_callVi (pc := 886) C hB kX7_goat mL_109 dL_law_886 (by decide) rfl rfl rfl rfl rfl (Nat.le_of_ble_eq_true rfl) rfl ⟨by decide, by decide⟩ ?_
  refine ax_icmp_eq (pc := 889) (tgt := 1088) C dL_law_889 (by decide) (fun _ => ?_) (fun z => absurd rfl z)
  exact cont σ2 R2

set_option maxRecDepth 20000 in
set_option maxHeartbeats 4000000 in
theorem lc_image (C : ax_C x Y iL 20 600000 7302250) (hX : va_X b Ls xs x.2.1.1 Y.2.2.heap) (hb : b < Y.2.2.heap.size) (h3 : Ls ≤ 3072) (R : RR σ) (h6 : i + 6 ≤ Ls) (cont : ∀ σ', RR σ' → ax_S x Y ad 96 3326 Q σ' 1088 [some (.ref b), some (.ref (ad 0)), some (.ref (ad 77)), some (.int (nI i))] []) : ax_S x Y ad 96 3326 Q σ 894 [some (.ref b), some (.ref (ad 0)), some (.ref (ad 77)), some (.int (nI i))] [] := by
  obtain ⟨v, σ1, σ2, hA, hB, R2⟩ := op_image R (xs (i + 1)) Y ad x.1.2.1 C.F
  refine ax_aload_1 (pc := 894) C dL_law_894 ?_
  refine ax_aload_0 (pc := 895) C dL_law_895 ?_
  refine ax_iload_3 (pc := 896) C dL_law_896 ?_
  refine ax_iconst (pc := 897) (v := 1) C dL_law_897 (by decide) ?_
  refine ax_iadd (pc := 898) C dL_law_898 ?_
  refine ax_val C (show nI i + 1 = nI (i + 1) from nI_add _ _) ?_
  refine ax_sld (pc := 899) (k := i + 1) C hX hb h3 dL_law_899 (by omega) ?_
  refine ax_callVi (pc := 900) C hA kX6_image mL_110 dL_law_900 (by decide) rfl rfl rfl rfl rfl (Nat.le_of_ble_eq_true rfl) rfl ⟨by decide, by decide⟩ ?_
  refine ax_aload_2 (pc := 903) C dL_law_903 ?_
  refine ax_aload_0 (pc := 904) C dL_law_904 ?_
  refine ax_iload_3 (pc := 905) C dL_law_905 ?_
  refine ax_iconst (pc := 906) (v := 1) C dL_law_906 (by decide) ?_
  refine ax_iadd (pc := 907) C dL_law_907 ?_
  refine ax_val C (show nI i + 1 = nI (i + 1) from nI_add _ _) ?_
  refine ax_sld (pc := 908) (k := i + 1) C hX hb h3 dL_law_908 (by omega) ?_
  refine ax_callVi (pc := 909) C hB kX7_image mL_113 dL_law_909 (by decide) rfl rfl rfl rfl rfl (Nat.le_of_ble_eq_true rfl) rfl ⟨by decide, by decide⟩ ?_
  refine ax_icmp_eq (pc := 912) (tgt := 1088) C dL_law_912 (by decide) (fun _ => ?_) (fun z => absurd rfl z)
  exact cont σ2 R2

set_option maxRecDepth 20000 in
set_option maxHeartbeats 4000000 in
theorem lc_restore (C : ax_C x Y iL 20 600000 7302250) (hX : va_X b Ls xs x.2.1.1 Y.2.2.heap) (hb : b < Y.2.2.heap.size) (h3 : Ls ≤ 3072) (R : RR σ) (h6 : i + 6 ≤ Ls) (cont : ∀ σ', RR σ' → ax_S x Y ad 96 3326 Q σ' 1088 [some (.ref b), some (.ref (ad 0)), some (.ref (ad 77)), some (.int (nI i))] []) : ax_S x Y ad 96 3326 Q σ 917 [some (.ref b), some (.ref (ad 0)), some (.ref (ad 77)), some (.int (nI i))] [] := by
  obtain ⟨v, σ1, σ2, hA, hB, R2⟩ := op_restore R (xs (i + 1)) Y ad x.1.2.1 C.F
  refine ax_aload_1 (pc := 917) C dL_law_917 ?_
  refine ax_aload_0 (pc := 918) C dL_law_918 ?_
  refine ax_iload_3 (pc := 919) C dL_law_919 ?_
  refine ax_iconst (pc := 920) (v := 1) C dL_law_920 (by decide) ?_
  refine ax_iadd (pc := 921) C dL_law_921 ?_
  refine ax_val C (show nI i + 1 = nI (i + 1) from nI_add _ _) ?_
  refine ax_sld (pc := 922) (k := i + 1) C hX hb h3 dL_law_922 (by omega) ?_
  refine ax_callVi (pc := 923) C hA kX6_restore mL_114 dL_law_923 (by decide) rfl rfl rfl rfl rfl (Nat.le_of_ble_eq_true rfl) rfl ⟨by decide, by decide⟩ ?_
  refine ax_aload_2 (pc := 926) C dL_law_926 ?_
  refine ax_aload_0 (pc := 927) C dL_law_927 ?_
  refine ax_iload_3 (pc := 928) C dL_law_928 ?_
  refine ax_iconst (pc := 929) (v := 1) C dL_law_929 (by decide) ?_
  refine ax_iadd (pc := 930) C dL_law_930 ?_
  refine ax_val C (show nI i + 1 = nI (i + 1) from nI_add _ _) ?_
  refine ax_sld (pc := 931) (k := i + 1) C hX hb h3 dL_law_931 (by omega) ?_
  refine ax_callVi (pc := 932) C hB kX7_restore mL_117 dL_law_932 (by decide) rfl rfl rfl rfl rfl (Nat.le_of_ble_eq_true rfl) rfl ⟨by decide, by decide⟩ ?_
  refine ax_icmp_eq (pc := 935) (tgt := 1088) C dL_law_935 (by decide) (fun _ => ?_) (fun z => absurd rfl z)
  exact cont σ2 R2

set_option maxRecDepth 20000 in
set_option maxHeartbeats 4000000 in
theorem lc_kind (C : ax_C x Y iL 20 600000 7302250) (hX : va_X b Ls xs x.2.1.1 Y.2.2.heap) (hb : b < Y.2.2.heap.size) (h3 : Ls ≤ 3072) (R : RR σ) (h6 : i + 6 ≤ Ls) (cont : ∀ σ', RR σ' → ax_S x Y ad 96 3326 Q σ' 1088 [some (.ref b), some (.ref (ad 0)), some (.ref (ad 77)), some (.int (nI i))] []) : ax_S x Y ad 96 3326 Q σ 940 [some (.ref b), some (.ref (ad 0)), some (.ref (ad 77)), some (.int (nI i))] [] := by
  obtain ⟨v, σ1, σ2, hA, hB, R2⟩ := op_kind R (xs (i + 1)) Y ad x.1.2.1 C.F
  refine ax_aload_1 (pc := 940) C dL_law_940 ?_
  refine ax_aload_0 (pc := 941) C dL_law_941 ?_
  refine ax_iload_3 (pc := 942) C dL_law_942 ?_
  refine ax_iconst (pc := 943) (v := 1) C dL_law_943 (by decide) ?_
  refine ax_iadd (pc := 944) C dL_law_944 ?_
  refine ax_val C (show nI i + 1 = nI (i + 1) from nI_add _ _) ?_
  refine ax_sld (pc := 945) (k := i + 1) C hX hb h3 dL_law_945 (by omega) ?_
  refine ax_callVi (pc := 946) C hA kX6_kind mL_118 dL_law_946 (by decide) rfl rfl rfl rfl rfl (Nat.le_of_ble_eq_true rfl) rfl ⟨by decide, by decide⟩ ?_
  refine ax_aload_2 (pc := 949) C dL_law_949 ?_
  refine ax_aload_0 (pc := 950) C dL_law_950 ?_
  refine ax_iload_3 (pc := 951) C dL_law_951 ?_
  refine ax_iconst (pc := 952) (v := 1) C dL_law_952 (by decide) ?_
  refine ax_iadd (pc := 953) C dL_law_953 ?_
  refine ax_val C (show nI i + 1 = nI (i + 1) from nI_add _ _) ?_
  refine ax_sld (pc := 954) (k := i + 1) C hX hb h3 dL_law_954 (by omega) ?_
  refine ax_callVi (pc := 955) C hB kX7_kind mL_121 dL_law_955 (by decide) rfl rfl rfl rfl rfl (Nat.le_of_ble_eq_true rfl) rfl ⟨by decide, by decide⟩ ?_
  refine ax_icmp_eq (pc := 958) (tgt := 1088) C dL_law_958 (by decide) (fun _ => ?_) (fun z => absurd rfl z)
  exact cont σ2 R2

set_option maxRecDepth 20000 in
set_option maxHeartbeats 4000000 in
theorem lc_as (C : ax_C x Y iL 20 600000 7302250) (hX : va_X b Ls xs x.2.1.1 Y.2.2.heap) (hb : b < Y.2.2.heap.size) (h3 : Ls ≤ 3072) (R : RR σ) (h6 : i + 6 ≤ Ls) (cont : ∀ σ', RR σ' → ax_S x Y ad 96 3326 Q σ' 1088 [some (.ref b), some (.ref (ad 0)), some (.ref (ad 77)), some (.int (nI i))] []) : ax_S x Y ad 96 3326 Q σ 963 [some (.ref b), some (.ref (ad 0)), some (.ref (ad 77)), some (.int (nI i))] [] := by
  obtain ⟨v, σ1, σ2, hA, hB, R2⟩ := op_as R (xs (i + 1)) (xs (i + 2)) Y ad x.1.2.1 C.F
  refine ax_aload_1 (pc := 963) C dL_law_963 ?_
  refine ax_aload_0 (pc := 964) C dL_law_964 ?_
  refine ax_iload_3 (pc := 965) C dL_law_965 ?_
  refine ax_iconst (pc := 966) (v := 1) C dL_law_966 (by decide) ?_
  refine ax_iadd (pc := 967) C dL_law_967 ?_
  refine ax_val C (show nI i + 1 = nI (i + 1) from nI_add _ _) ?_
  refine ax_sld (pc := 968) (k := i + 1) C hX hb h3 dL_law_968 (by omega) ?_
  refine ax_aload_0 (pc := 969) C dL_law_969 ?_
  refine ax_iload_3 (pc := 970) C dL_law_970 ?_
  refine ax_iconst (pc := 971) (v := 2) C dL_law_971 (by decide) ?_
  refine ax_iadd (pc := 972) C dL_law_972 ?_
  refine ax_val C (show nI i + 2 = nI (i + 2) from nI_add _ _) ?_
  refine ax_sld (pc := 973) (k := i + 2) C hX hb h3 dL_law_973 (by omega) ?_
  refine ax_callVi (pc := 974) C hA kX6_as mL_122 dL_law_974 (by decide) rfl rfl rfl rfl rfl (Nat.le_of_ble_eq_true rfl) rfl ⟨by decide, by decide⟩ ?_
  refine ax_aload_2 (pc := 977) C dL_law_977 ?_
  refine ax_aload_0 (pc := 978) C dL_law_978 ?_
  refine ax_iload_3 (pc := 979) C dL_law_979 ?_
  refine ax_iconst (pc := 980) (v := 1) C dL_law_980 (by decide) ?_
  refine ax_iadd (pc := 981) C dL_law_981 ?_
  refine ax_val C (show nI i + 1 = nI (i + 1) from nI_add _ _) ?_
  refine ax_sld (pc := 982) (k := i + 1) C hX hb h3 dL_law_982 (by omega) ?_
  refine ax_aload_0 (pc := 983) C dL_law_983 ?_
  refine ax_iload_3 (pc := 984) C dL_law_984 ?_
  refine ax_iconst (pc := 985) (v := 2) C dL_law_985 (by decide) ?_
  refine ax_iadd (pc := 986) C dL_law_986 ?_
  refine ax_val C (show nI i + 2 = nI (i + 2) from nI_add _ _) ?_
  refine ax_sld (pc := 987) (k := i + 2) C hX hb h3 dL_law_987 (by omega) ?_
  refine ax_callVi (pc := 988) C hB kX7_as mL_125 dL_law_988 (by decide) rfl rfl rfl rfl rfl (Nat.le_of_ble_eq_true rfl) rfl ⟨by decide, by decide⟩ ?_
  refine ax_icmp_eq (pc := 991) (tgt := 1088) C dL_law_991 (by decide) (fun _ => ?_) (fun z => absurd rfl z)
  exact cont σ2 R2

set_option maxRecDepth 20000 in
set_option maxHeartbeats 4000000 in
theorem lc_ask (C : ax_C x Y iL 20 600000 7302250) (hX : va_X b Ls xs x.2.1.1 Y.2.2.heap) (hb : b < Y.2.2.heap.size) (h3 : Ls ≤ 3072) (R : RR σ) (h6 : i + 6 ≤ Ls) (cont : ∀ σ', RR σ' → ax_S x Y ad 96 3326 Q σ' 1088 [some (.ref b), some (.ref (ad 0)), some (.ref (ad 77)), some (.int (nI i))] []) : ax_S x Y ad 96 3326 Q σ 996 [some (.ref b), some (.ref (ad 0)), some (.ref (ad 77)), some (.int (nI i))] [] := by
  obtain ⟨v, σ1, σ2, hA, hB, R2⟩ := op_ask R (xs (i + 1)) (xs (i + 2)) Y ad x.1.2.1 C.F
  refine ax_aload_1 (pc := 996) C dL_law_996 ?_
  refine ax_aload_0 (pc := 997) C dL_law_997 ?_
  refine ax_iload_3 (pc := 998) C dL_law_998 ?_
  refine ax_iconst (pc := 999) (v := 1) C dL_law_999 (by decide) ?_
  refine ax_iadd (pc := 1000) C dL_law_1000 ?_
  refine ax_val C (show nI i + 1 = nI (i + 1) from nI_add _ _) ?_
  refine ax_sld (pc := 1001) (k := i + 1) C hX hb h3 dL_law_1001 (by omega) ?_
  refine ax_aload_0 (pc := 1002) C dL_law_1002 ?_
  refine ax_iload_3 (pc := 1003) C dL_law_1003 ?_
  refine ax_iconst (pc := 1004) (v := 2) C dL_law_1004 (by decide) ?_
  refine ax_iadd (pc := 1005) C dL_law_1005 ?_
  refine ax_val C (show nI i + 2 = nI (i + 2) from nI_add _ _) ?_
  refine ax_sld (pc := 1006) (k := i + 2) C hX hb h3 dL_law_1006 (by omega) ?_
  refine ax_callVi (pc := 1007) C hA kX6_ask mL_126 dL_law_1007 (by decide) rfl rfl rfl rfl rfl (Nat.le_of_ble_eq_true rfl) rfl ⟨by decide, by decide⟩ ?_
  refine ax_aload_2 (pc := 1010) C dL_law_1010 ?_
  refine ax_aload_0 (pc := 1011) C dL_law_1011 ?_
  refine ax_iload_3 (pc := 1012) C dL_law_1012 ?_
  refine ax_iconst (pc := 1013) (v := 1) C dL_law_1013 (by decide) ?_
  refine ax_iadd (pc := 1014) C dL_law_1014 ?_
  refine ax_val C (show nI i + 1 = nI (i + 1) from nI_add _ _) ?_
  refine ax_sld (pc := 1015) (k := i + 1) C hX hb h3 dL_law_1015 (by omega) ?_
  refine ax_aload_0 (pc := 1016) C dL_law_1016 ?_
  refine ax_iload_3 (pc := 1017) C dL_law_1017 ?_
  refine ax_iconst (pc := 1018) (v := 2) C dL_law_1018 (by decide) ?_
  refine ax_iadd (pc := 1019) C dL_law_1019 ?_
  refine ax_val C (show nI i + 2 = nI (i + 2) from nI_add _ _) ?_
  refine ax_sld (pc := 1020) (k := i + 2) C hX hb h3 dL_law_1020 (by omega) ?_
  refine ax_callVi (pc := 1021) C hB kX7_ask mL_129 dL_law_1021 (by decide) rfl rfl rfl rfl rfl (Nat.le_of_ble_eq_true rfl) rfl ⟨by decide, by decide⟩ ?_
  refine ax_icmp_eq (pc := 1024) (tgt := 1088) C dL_law_1024 (by decide) (fun _ => ?_) (fun z => absurd rfl z)
  exact cont σ2 R2

set_option maxRecDepth 20000 in
set_option maxHeartbeats 4000000 in
theorem lc_trace (C : ax_C x Y iL 20 600000 7302250) (hX : va_X b Ls xs x.2.1.1 Y.2.2.heap) (hb : b < Y.2.2.heap.size) (h3 : Ls ≤ 3072) (R : RR σ) (h6 : i + 6 ≤ Ls) (cont : ∀ σ', RR σ' → ax_S x Y ad 96 3326 Q σ' 1088 [some (.ref b), some (.ref (ad 0)), some (.ref (ad 77)), some (.int (nI i))] []) : ax_S x Y ad 96 3326 Q σ 1029 [some (.ref b), some (.ref (ad 0)), some (.ref (ad 77)), some (.int (nI i))] [] := by
  obtain ⟨v, σ1, σ2, hA, hB, R2⟩ := op_trace R (xs (i + 1)) Y ad x.1.2.1 C.F
  refine ax_aload_1 (pc := 1029) C dL_law_1029 ?_
  refine ax_aload_0 (pc := 1030) C dL_law_1030 ?_
  refine ax_iload_3 (pc := 1031) C dL_law_1031 ?_
  refine ax_iconst (pc := 1032) (v := 1) C dL_law_1032 (by decide) ?_
  refine ax_iadd (pc := 1033) C dL_law_1033 ?_
  refine ax_val C (show nI i + 1 = nI (i + 1) from nI_add _ _) ?_
  refine ax_sld (pc := 1034) (k := i + 1) C hX hb h3 dL_law_1034 (by omega) ?_
  refine ax_callVi (pc := 1035) C hA kX6_trace mL_130 dL_law_1035 (by decide) rfl rfl rfl rfl rfl (Nat.le_of_ble_eq_true rfl) rfl ⟨by decide, by decide⟩ ?_
  refine ax_aload_2 (pc := 1038) C dL_law_1038 ?_
  refine ax_aload_0 (pc := 1039) C dL_law_1039 ?_
  refine ax_iload_3 (pc := 1040) C dL_law_1040 ?_
  refine ax_iconst (pc := 1041) (v := 1) C dL_law_1041 (by decide) ?_
  refine ax_iadd (pc := 1042) C dL_law_1042 ?_
  refine ax_val C (show nI i + 1 = nI (i + 1) from nI_add _ _) ?_
  refine ax_sld (pc := 1043) (k := i + 1) C hX hb h3 dL_law_1043 (by omega) ?_
  refine ax_callVi (pc := 1044) C hB kX7_trace mL_133 dL_law_1044 (by decide) rfl rfl rfl rfl rfl (Nat.le_of_ble_eq_true rfl) rfl ⟨by decide, by decide⟩ ?_
  refine ax_icmp_eq (pc := 1047) (tgt := 1088) C dL_law_1047 (by decide) (fun _ => ?_) (fun z => absurd rfl z)
  exact cont σ2 R2

set_option maxRecDepth 20000 in
set_option maxHeartbeats 4000000 in
theorem lc_count (C : ax_C x Y iL 20 600000 7302250) (hX : va_X b Ls xs x.2.1.1 Y.2.2.heap) (hb : b < Y.2.2.heap.size) (h3 : Ls ≤ 3072) (R : RR σ) (h6 : i + 6 ≤ Ls) (cont : ∀ σ', RR σ' → ax_S x Y ad 96 3326 Q σ' 1088 [some (.ref b), some (.ref (ad 0)), some (.ref (ad 77)), some (.int (nI i))] []) : ax_S x Y ad 96 3326 Q σ 1052 [some (.ref b), some (.ref (ad 0)), some (.ref (ad 77)), some (.int (nI i))] [] := by
  obtain ⟨v, σ1, σ2, hA, hB, R2⟩ := op_count R (xs (i + 1)) Y ad x.1.2.1 C.F
  refine ax_aload_1 (pc := 1052) C dL_law_1052 ?_
  refine ax_aload_0 (pc := 1053) C dL_law_1053 ?_
  refine ax_iload_3 (pc := 1054) C dL_law_1054 ?_
  refine ax_iconst (pc := 1055) (v := 1) C dL_law_1055 (by decide) ?_
  refine ax_iadd (pc := 1056) C dL_law_1056 ?_
  refine ax_val C (show nI i + 1 = nI (i + 1) from nI_add _ _) ?_
  refine ax_sld (pc := 1057) (k := i + 1) C hX hb h3 dL_law_1057 (by omega) ?_
  refine ax_callVi (pc := 1058) C hA kX6_count mL_134 dL_law_1058 (by decide) rfl rfl rfl rfl rfl (Nat.le_of_ble_eq_true rfl) rfl ⟨by decide, by decide⟩ ?_
  refine ax_aload_2 (pc := 1061) C dL_law_1061 ?_
  refine ax_aload_0 (pc := 1062) C dL_law_1062 ?_
  refine ax_iload_3 (pc := 1063) C dL_law_1063 ?_
  refine ax_iconst (pc := 1064) (v := 1) C dL_law_1064 (by decide) ?_
  refine ax_iadd (pc := 1065) C dL_law_1065 ?_
  refine ax_val C (show nI i + 1 = nI (i + 1) from nI_add _ _) ?_
  refine ax_sld (pc := 1066) (k := i + 1) C hX hb h3 dL_law_1066 (by omega) ?_
  refine ax_callVi (pc := 1067) C hB kX7_count mL_137 dL_law_1067 (by decide) rfl rfl rfl rfl rfl (Nat.le_of_ble_eq_true rfl) rfl ⟨by decide, by decide⟩ ?_
  refine ax_icmp_eq (pc := 1070) (tgt := 1088) C dL_law_1070 (by decide) (fun _ => ?_) (fun z => absurd rfl z)
  exact cont σ2 R2

set_option maxRecDepth 20000 in
set_option maxHeartbeats 4000000 in
theorem lc_status (C : ax_C x Y iL 20 600000 7302250) (hX : va_X b Ls xs x.2.1.1 Y.2.2.heap) (hb : b < Y.2.2.heap.size) (h3 : Ls ≤ 3072) (R : RR σ) (h6 : i + 6 ≤ Ls) (cont : ∀ σ', RR σ' → ax_S x Y ad 96 3326 Q σ' 1088 [some (.ref b), some (.ref (ad 0)), some (.ref (ad 77)), some (.int (nI i))] []) : ax_S x Y ad 96 3326 Q σ 1075 [some (.ref b), some (.ref (ad 0)), some (.ref (ad 77)), some (.int (nI i))] [] := by
  obtain ⟨v, σ1, σ2, hA, hB, R2⟩ := op_status R  Y ad x.1.2.1 C.F
  refine ax_aload_1 (pc := 1075) C dL_law_1075 ?_
  refine ax_callVi (pc := 1076) C hA kX6_status mL_138 dL_law_1076 (by decide) rfl rfl rfl rfl rfl (Nat.le_of_ble_eq_true rfl) rfl ⟨by decide, by decide⟩ ?_
  refine ax_aload_2 (pc := 1079) C dL_law_1079 ?_
  refine ax_callVi (pc := 1080) C hB kX7_status mL_141 dL_law_1080 (by decide) rfl rfl rfl rfl rfl (Nat.le_of_ble_eq_true rfl) rfl ⟨by decide, by decide⟩ ?_
  refine ax_icmp_eq (pc := 1083) (tgt := 1088) C dL_law_1083 (by decide) (fun _ => ?_) (fun z => absurd rfl z)
  exact cont σ2 R2

end LC
