set_option maxHeartbeats 4000000 in
set_option maxRecDepth 20000 in
theorem lc_0 {l0 : Launch} {X : aX} (hX : aK l0 X cL_law 4 RL ret 400 600000 7302250) {L : Nat} {sc : Nat → Int} (hsc : aScr X L sc) {i : Int} (hi0 : 0 ≤ i) (hi1 : i + 6 ≤ L) (hLL : L ≤ 3072) {I J : aI1} {R : aR1} {S : aS1} {uc us : Nat} (hC : CI I R S) (hQ : RX I) (hP : CPF I R) (huc : uc ≤ 500000) (hus : us ≤ 7000000) (kk : ∀ I' J' R' S' uc' us', CI I' R' S' → RX I' → CPF I' R' → uc' ≤ uc + 6 → us' ≤ us + 428 → WW X 1359 [some (kS 300), some (kR (some 0)), some (kR (some 49)), some (kI i)] [] I' J' R' S' uc' us') : WW X 220 [some (kS 300), some (kR (some 0)), some (kR (some 49)), some (kI i)] [] I J R S uc us := by
  refine ww_aload_n hX (pc := 220) dL_law_220 rfl ?_
  refine ww_aload_nS hX (pc := 221) dL_law_221 rfl ?_
  refine ww_iload_n hX (pc := 222) dL_law_222 rfl ?_
  refine ww_iconst hX (pc := 223) (x := 1) dL_law_223 rfl ?_
  refine ww_iadd hX (pc := 224) dL_law_224 ?_
  refine ww_sld hX (pc := 225) hsc (by omega) (by omega) (by omega) dL_law_225 ?_
  refine vI1 hX (pc := 226) sL_13 (xs_0 hC.1) (c5_X10_lamps l0 hC.1 hC.2.1 (aScr_r hsc _).1 (aScr_r hsc _).2) (by decide) (by omega) (by omega) (Nat.le_of_ble_eq_true rfl) dL_law_226 (fun x_226 I_226 J_226 h_226 => ?_)
  have C_226 := CI_low hC h_226.1 h_226.2.2.1
  have Q_226 := RX_low hQ h_226.1
  refine ww_popI hX (pc := 229) dL_law_229 ?_
  refine ww_aload_n hX (pc := 230) dL_law_230 rfl ?_
  refine ww_aload_nS hX (pc := 231) dL_law_231 rfl ?_
  refine ww_iload_n hX (pc := 232) dL_law_232 rfl ?_
  refine ww_iconst hX (pc := 233) (x := 1) dL_law_233 rfl ?_
  refine ww_iadd hX (pc := 234) dL_law_234 ?_
  refine ww_sld hX (pc := 235) hsc (by omega) (by omega) (by omega) dL_law_235 ?_
  refine vI1 hX (pc := 236) sL_17 (xs_49 C_226.1) (c5_X11_lamps l0 C_226.1 Q_226 (aScr_r hsc _).1 (aScr_r hsc _).2) (by decide) (by omega) (by omega) (Nat.le_of_ble_eq_true rfl) dL_law_236 (fun x_236 I_236 J_236 h_236 => ?_)
  have cp_236 := CF_lamps hP hC h_226 h_236
  have C_236 := CI_ref C_226 (Ch_kp h_236.1 (by decide))
  have Q_236 := h_236.2.2.1
  have P_236 := cp_236.1
  refine ww_popI hX (pc := 239) dL_law_239 ?_
  refine ww_goto hX (pc := 240) (tgt := 1359) dL_law_240 (by decide) ?_
  exact kk _ _ _ _ _ _ C_236 Q_236 P_236 (by omega) (by omega)
set_option maxHeartbeats 4000000 in
set_option maxRecDepth 20000 in
theorem lc_1 {l0 : Launch} {X : aX} (hX : aK l0 X cL_law 4 RL ret 400 600000 7302250) {L : Nat} {sc : Nat → Int} (hsc : aScr X L sc) {i : Int} (hi0 : 0 ≤ i) (hi1 : i + 6 ≤ L) (hLL : L ≤ 3072) {I J : aI1} {R : aR1} {S : aS1} {uc us : Nat} (hC : CI I R S) (hQ : RX I) (hP : CPF I R) (huc : uc ≤ 500000) (hus : us ≤ 7000000) (kk : ∀ I' J' R' S' uc' us', CI I' R' S' → RX I' → CPF I' R' → uc' ≤ uc + 6 → us' ≤ us + 428 → WW X 1359 [some (kS 300), some (kR (some 0)), some (kR (some 49)), some (kI i)] [] I' J' R' S' uc' us') : WW X 243 [some (kS 300), some (kR (some 0)), some (kR (some 49)), some (kI i)] [] I J R S uc us := by
  refine ww_aload_n hX (pc := 243) dL_law_243 rfl ?_
  refine ww_aload_nS hX (pc := 244) dL_law_244 rfl ?_
  refine ww_iload_n hX (pc := 245) dL_law_245 rfl ?_
  refine ww_iconst hX (pc := 246) (x := 1) dL_law_246 rfl ?_
  refine ww_iadd hX (pc := 247) dL_law_247 ?_
  refine ww_sld hX (pc := 248) hsc (by omega) (by omega) (by omega) dL_law_248 ?_
  refine vI1 hX (pc := 249) sL_18 (xs_0 hC.1) (c5_X10_news l0 hC.1 hC.2.1 (aScr_r hsc _).1 (aScr_r hsc _).2) (by decide) (by omega) (by omega) (Nat.le_of_ble_eq_true rfl) dL_law_249 (fun x_249 I_249 J_249 h_249 => ?_)
  have C_249 := CI_low hC h_249.1 h_249.2.2.1
  have Q_249 := RX_low hQ h_249.1
  refine ww_popI hX (pc := 252) dL_law_252 ?_
  refine ww_aload_n hX (pc := 253) dL_law_253 rfl ?_
  refine ww_aload_nS hX (pc := 254) dL_law_254 rfl ?_
  refine ww_iload_n hX (pc := 255) dL_law_255 rfl ?_
  refine ww_iconst hX (pc := 256) (x := 1) dL_law_256 rfl ?_
  refine ww_iadd hX (pc := 257) dL_law_257 ?_
  refine ww_sld hX (pc := 258) hsc (by omega) (by omega) (by omega) dL_law_258 ?_
  refine vI1 hX (pc := 259) sL_21 (xs_49 C_249.1) (c5_X11_news l0 C_249.1 Q_249 (aScr_r hsc _).1 (aScr_r hsc _).2) (by decide) (by omega) (by omega) (Nat.le_of_ble_eq_true rfl) dL_law_259 (fun x_259 I_259 J_259 h_259 => ?_)
  have cp_259 := CF_news hP hC h_249 h_259
  have C_259 := CI_ref C_249 (Ch_kp h_259.1 (by decide))
  have Q_259 := h_259.2.2.1
  have P_259 := cp_259.1
  refine ww_popI hX (pc := 262) dL_law_262 ?_
  refine ww_goto hX (pc := 263) (tgt := 1359) dL_law_263 (by decide) ?_
  exact kk _ _ _ _ _ _ C_259 Q_259 P_259 (by omega) (by omega)
set_option maxHeartbeats 4000000 in
set_option maxRecDepth 20000 in
theorem lc_2 {l0 : Launch} {X : aX} (hX : aK l0 X cL_law 4 RL ret 400 600000 7302250) {L : Nat} {sc : Nat → Int} (hsc : aScr X L sc) {i : Int} (hi0 : 0 ≤ i) (hi1 : i + 6 ≤ L) (hLL : L ≤ 3072) {I J : aI1} {R : aR1} {S : aS1} {uc us : Nat} (hC : CI I R S) (hQ : RX I) (hP : CPF I R) (huc : uc ≤ 500000) (hus : us ≤ 7000000) (kk : ∀ I' J' R' S' uc' us', CI I' R' S' → RX I' → CPF I' R' → uc' ≤ uc + 6 → us' ≤ us + 428 → WW X 1359 [some (kS 300), some (kR (some 0)), some (kR (some 49)), some (kI i)] [] I' J' R' S' uc' us') : WW X 266 [some (kS 300), some (kR (some 0)), some (kR (some 49)), some (kI i)] [] I J R S uc us := by
  refine ww_aload_n hX (pc := 266) dL_law_266 rfl ?_
  refine ww_aload_nS hX (pc := 267) dL_law_267 rfl ?_
  refine ww_iload_n hX (pc := 268) dL_law_268 rfl ?_
  refine ww_iconst hX (pc := 269) (x := 1) dL_law_269 rfl ?_
  refine ww_iadd hX (pc := 270) dL_law_270 ?_
  refine ww_sld hX (pc := 271) hsc (by omega) (by omega) (by omega) dL_law_271 ?_
  refine ww_aload_nS hX (pc := 272) dL_law_272 rfl ?_
  refine ww_iload_n hX (pc := 273) dL_law_273 rfl ?_
  refine ww_iconst hX (pc := 274) (x := 2) dL_law_274 rfl ?_
  refine ww_iadd hX (pc := 275) dL_law_275 ?_
  refine ww_sld hX (pc := 276) hsc (by omega) (by omega) (by omega) dL_law_276 ?_
  refine vI2 hX (pc := 277) sL_22 (xs_0 hC.1) (c5_X10_oil l0 hC.1 hC.2.1 (aScr_r hsc _).1 (aScr_r hsc _).2 (aScr_r hsc _).1 (aScr_r hsc _).2) (by decide) (by omega) (by omega) (Nat.le_of_ble_eq_true rfl) dL_law_277 (fun x_277 I_277 J_277 h_277 => ?_)
  have C_277 := CI_low hC h_277.1 h_277.2.2.1
  have Q_277 := RX_low hQ h_277.1
  refine ww_popI hX (pc := 280) dL_law_280 ?_
  refine ww_aload_n hX (pc := 281) dL_law_281 rfl ?_
  refine ww_aload_nS hX (pc := 282) dL_law_282 rfl ?_
  refine ww_iload_n hX (pc := 283) dL_law_283 rfl ?_
  refine ww_iconst hX (pc := 284) (x := 1) dL_law_284 rfl ?_
  refine ww_iadd hX (pc := 285) dL_law_285 ?_
  refine ww_sld hX (pc := 286) hsc (by omega) (by omega) (by omega) dL_law_286 ?_
  refine ww_aload_nS hX (pc := 287) dL_law_287 rfl ?_
  refine ww_iload_n hX (pc := 288) dL_law_288 rfl ?_
  refine ww_iconst hX (pc := 289) (x := 2) dL_law_289 rfl ?_
  refine ww_iadd hX (pc := 290) dL_law_290 ?_
  refine ww_sld hX (pc := 291) hsc (by omega) (by omega) (by omega) dL_law_291 ?_
  refine vI2 hX (pc := 292) sL_26 (xs_49 C_277.1) (c5_X11_oil l0 C_277.1 Q_277 (aScr_r hsc _).1 (aScr_r hsc _).2 (aScr_r hsc _).1 (aScr_r hsc _).2) (by decide) (by omega) (by omega) (Nat.le_of_ble_eq_true rfl) dL_law_292 (fun x_292 I_292 J_292 h_292 => ?_)
  have cp_292 := CF_oil hP hC h_277 h_292
  have C_292 := CI_ref C_277 (Ch_kp h_292.1 (by decide))
  have Q_292 := h_292.2.2.1
  have P_292 := cp_292.1
  refine ww_popI hX (pc := 295) dL_law_295 ?_
  refine ww_goto hX (pc := 296) (tgt := 1359) dL_law_296 (by decide) ?_
  exact kk _ _ _ _ _ _ C_292 Q_292 P_292 (by omega) (by omega)
set_option maxHeartbeats 4000000 in
set_option maxRecDepth 20000 in
theorem lc_3 {l0 : Launch} {X : aX} (hX : aK l0 X cL_law 4 RL ret 400 600000 7302250) {L : Nat} {sc : Nat → Int} (hsc : aScr X L sc) {i : Int} (hi0 : 0 ≤ i) (hi1 : i + 6 ≤ L) (hLL : L ≤ 3072) {I J : aI1} {R : aR1} {S : aS1} {uc us : Nat} (hC : CI I R S) (hQ : RX I) (hP : CPF I R) (huc : uc ≤ 500000) (hus : us ≤ 7000000) (kk : ∀ I' J' R' S' uc' us', CI I' R' S' → RX I' → CPF I' R' → uc' ≤ uc + 6 → us' ≤ us + 428 → WW X 1359 [some (kS 300), some (kR (some 0)), some (kR (some 49)), some (kI i)] [] I' J' R' S' uc' us') : WW X 299 [some (kS 300), some (kR (some 0)), some (kR (some 49)), some (kI i)] [] I J R S uc us := by
  refine ww_aload_n hX (pc := 299) dL_law_299 rfl ?_
  refine ww_aload_nS hX (pc := 300) dL_law_300 rfl ?_
  refine ww_iload_n hX (pc := 301) dL_law_301 rfl ?_
  refine ww_iconst hX (pc := 302) (x := 1) dL_law_302 rfl ?_
  refine ww_iadd hX (pc := 303) dL_law_303 ?_
  refine ww_sld hX (pc := 304) hsc (by omega) (by omega) (by omega) dL_law_304 ?_
  refine ww_aload_nS hX (pc := 305) dL_law_305 rfl ?_
  refine ww_iload_n hX (pc := 306) dL_law_306 rfl ?_
  refine ww_iconst hX (pc := 307) (x := 2) dL_law_307 rfl ?_
  refine ww_iadd hX (pc := 308) dL_law_308 ?_
  refine ww_sld hX (pc := 309) hsc (by omega) (by omega) (by omega) dL_law_309 ?_
  refine vI2 hX (pc := 310) sL_27 (xs_0 hC.1) (c5_X10_broken l0 hC.1 hC.2.1 (aScr_r hsc _).1 (aScr_r hsc _).2 (aScr_r hsc _).1 (aScr_r hsc _).2) (by decide) (by omega) (by omega) (Nat.le_of_ble_eq_true rfl) dL_law_310 (fun x_310 I_310 J_310 h_310 => ?_)
  have C_310 := CI_low hC h_310.1 h_310.2.2.1
  have Q_310 := RX_low hQ h_310.1
  refine ww_popI hX (pc := 313) dL_law_313 ?_
  refine ww_aload_n hX (pc := 314) dL_law_314 rfl ?_
  refine ww_aload_nS hX (pc := 315) dL_law_315 rfl ?_
  refine ww_iload_n hX (pc := 316) dL_law_316 rfl ?_
  refine ww_iconst hX (pc := 317) (x := 1) dL_law_317 rfl ?_
  refine ww_iadd hX (pc := 318) dL_law_318 ?_
  refine ww_sld hX (pc := 319) hsc (by omega) (by omega) (by omega) dL_law_319 ?_
  refine ww_aload_nS hX (pc := 320) dL_law_320 rfl ?_
  refine ww_iload_n hX (pc := 321) dL_law_321 rfl ?_
  refine ww_iconst hX (pc := 322) (x := 2) dL_law_322 rfl ?_
  refine ww_iadd hX (pc := 323) dL_law_323 ?_
  refine ww_sld hX (pc := 324) hsc (by omega) (by omega) (by omega) dL_law_324 ?_
  refine vI2 hX (pc := 325) sL_30 (xs_49 C_310.1) (c5_X11_broken l0 C_310.1 Q_310 (aScr_r hsc _).1 (aScr_r hsc _).2 (aScr_r hsc _).1 (aScr_r hsc _).2) (by decide) (by omega) (by omega) (Nat.le_of_ble_eq_true rfl) dL_law_325 (fun x_325 I_325 J_325 h_325 => ?_)
  have cp_325 := CF_broken hP hC h_310 h_325
  have C_325 := CI_ref C_310 (Ch_kp h_325.1 (by decide))
  have Q_325 := h_325.2.2.1
  have P_325 := cp_325.1
  refine ww_popI hX (pc := 328) dL_law_328 ?_
  refine ww_goto hX (pc := 329) (tgt := 1359) dL_law_329 (by decide) ?_
  exact kk _ _ _ _ _ _ C_325 Q_325 P_325 (by omega) (by omega)
set_option maxHeartbeats 4000000 in
set_option maxRecDepth 20000 in
theorem lc_4 {l0 : Launch} {X : aX} (hX : aK l0 X cL_law 4 RL ret 400 600000 7302250) {L : Nat} {sc : Nat → Int} (hsc : aScr X L sc) {i : Int} (hi0 : 0 ≤ i) (hi1 : i + 6 ≤ L) (hLL : L ≤ 3072) {I J : aI1} {R : aR1} {S : aS1} {uc us : Nat} (hC : CI I R S) (hQ : RX I) (hP : CPF I R) (huc : uc ≤ 500000) (hus : us ≤ 7000000) (kk : ∀ I' J' R' S' uc' us', CI I' R' S' → RX I' → CPF I' R' → uc' ≤ uc + 6 → us' ≤ us + 428 → WW X 1359 [some (kS 300), some (kR (some 0)), some (kR (some 49)), some (kI i)] [] I' J' R' S' uc' us') : WW X 332 [some (kS 300), some (kR (some 0)), some (kR (some 49)), some (kI i)] [] I J R S uc us := by
  refine ww_aload_n hX (pc := 332) dL_law_332 rfl ?_
  refine ww_aload_nS hX (pc := 333) dL_law_333 rfl ?_
  refine ww_iload_n hX (pc := 334) dL_law_334 rfl ?_
  refine ww_iconst hX (pc := 335) (x := 1) dL_law_335 rfl ?_
  refine ww_iadd hX (pc := 336) dL_law_336 ?_
  refine ww_sld hX (pc := 337) hsc (by omega) (by omega) (by omega) dL_law_337 ?_
  refine ww_aload_nS hX (pc := 338) dL_law_338 rfl ?_
  refine ww_iload_n hX (pc := 339) dL_law_339 rfl ?_
  refine ww_iconst hX (pc := 340) (x := 2) dL_law_340 rfl ?_
  refine ww_iadd hX (pc := 341) dL_law_341 ?_
  refine ww_sld hX (pc := 342) hsc (by omega) (by omega) (by omega) dL_law_342 ?_
  refine vI2 hX (pc := 343) sL_31 (xs_0 hC.1) (c5_X10_read l0 hC.1 hC.2.1 (aScr_r hsc _).1 (aScr_r hsc _).2 (aScr_r hsc _).1 (aScr_r hsc _).2) (by decide) (by omega) (by omega) (Nat.le_of_ble_eq_true rfl) dL_law_343 (fun x_343 I_343 J_343 h_343 => ?_)
  have C_343 := CI_low hC h_343.1 h_343.2.2.1
  have Q_343 := RX_low hQ h_343.1
  refine ww_popI hX (pc := 346) dL_law_346 ?_
  refine ww_aload_n hX (pc := 347) dL_law_347 rfl ?_
  refine ww_aload_nS hX (pc := 348) dL_law_348 rfl ?_
  refine ww_iload_n hX (pc := 349) dL_law_349 rfl ?_
  refine ww_iconst hX (pc := 350) (x := 1) dL_law_350 rfl ?_
  refine ww_iadd hX (pc := 351) dL_law_351 ?_
  refine ww_sld hX (pc := 352) hsc (by omega) (by omega) (by omega) dL_law_352 ?_
  refine ww_aload_nS hX (pc := 353) dL_law_353 rfl ?_
  refine ww_iload_n hX (pc := 354) dL_law_354 rfl ?_
  refine ww_iconst hX (pc := 355) (x := 2) dL_law_355 rfl ?_
  refine ww_iadd hX (pc := 356) dL_law_356 ?_
  refine ww_sld hX (pc := 357) hsc (by omega) (by omega) (by omega) dL_law_357 ?_
  refine vI2 hX (pc := 358) sL_34 (xs_49 C_343.1) (c5_X11_read l0 C_343.1 Q_343 (aScr_r hsc _).1 (aScr_r hsc _).2 (aScr_r hsc _).1 (aScr_r hsc _).2) (by decide) (by omega) (by omega) (Nat.le_of_ble_eq_true rfl) dL_law_358 (fun x_358 I_358 J_358 h_358 => ?_)
  have cp_358 := CF_read hP hC h_343 h_358
  have C_358 := CI_ref C_343 (Ch_kp h_358.1 (by decide))
  have Q_358 := h_358.2.2.1
  have P_358 := cp_358
  refine ww_popI hX (pc := 361) dL_law_361 ?_
  refine ww_goto hX (pc := 362) (tgt := 1359) dL_law_362 (by decide) ?_
  exact kk _ _ _ _ _ _ C_358 Q_358 P_358 (by omega) (by omega)
set_option maxHeartbeats 4000000 in
set_option maxRecDepth 20000 in
theorem lc_5 {l0 : Launch} {X : aX} (hX : aK l0 X cL_law 4 RL ret 400 600000 7302250) {L : Nat} {sc : Nat → Int} (hsc : aScr X L sc) {i : Int} (hi0 : 0 ≤ i) (hi1 : i + 6 ≤ L) (hLL : L ≤ 3072) {I J : aI1} {R : aR1} {S : aS1} {uc us : Nat} (hC : CI I R S) (hQ : RX I) (hP : CPF I R) (huc : uc ≤ 500000) (hus : us ≤ 7000000) (kk : ∀ I' J' R' S' uc' us', CI I' R' S' → RX I' → CPF I' R' → uc' ≤ uc + 6 → us' ≤ us + 428 → WW X 1359 [some (kS 300), some (kR (some 0)), some (kR (some 49)), some (kI i)] [] I' J' R' S' uc' us') : WW X 365 [some (kS 300), some (kR (some 0)), some (kR (some 49)), some (kI i)] [] I J R S uc us := by
  refine ww_aload_n hX (pc := 365) dL_law_365 rfl ?_
  refine ww_aload_nS hX (pc := 366) dL_law_366 rfl ?_
  refine ww_iload_n hX (pc := 367) dL_law_367 rfl ?_
  refine ww_iconst hX (pc := 368) (x := 1) dL_law_368 rfl ?_
  refine ww_iadd hX (pc := 369) dL_law_369 ?_
  refine ww_sld hX (pc := 370) hsc (by omega) (by omega) (by omega) dL_law_370 ?_
  refine vI1 hX (pc := 371) sL_35 (xs_0 hC.1) (c5_X10_of l0 hC.1 hC.2.1 (aScr_r hsc _).1 (aScr_r hsc _).2) (by decide) (by omega) (by omega) (Nat.le_of_ble_eq_true rfl) dL_law_371 (fun x_371 I_371 J_371 h_371 => ?_)
  have C_371 := CI_low hC h_371.1 h_371.2.2.1
  have Q_371 := RX_low hQ h_371.1
  refine ww_popI hX (pc := 374) dL_law_374 ?_
  refine ww_aload_n hX (pc := 375) dL_law_375 rfl ?_
  refine ww_aload_nS hX (pc := 376) dL_law_376 rfl ?_
  refine ww_iload_n hX (pc := 377) dL_law_377 rfl ?_
  refine ww_iconst hX (pc := 378) (x := 1) dL_law_378 rfl ?_
  refine ww_iadd hX (pc := 379) dL_law_379 ?_
  refine ww_sld hX (pc := 380) hsc (by omega) (by omega) (by omega) dL_law_380 ?_
  refine vI1 hX (pc := 381) sL_38 (xs_49 C_371.1) (c_X11_of l0 C_371.1 Q_371 (aScr_r hsc _).1 (aScr_r hsc _).2) (by decide) (by omega) (by omega) (Nat.le_of_ble_eq_true rfl) dL_law_381 (fun x_381 I_381 J_381 h_381 => ?_)
  have cp_381 := CF_of hP hC h_371 h_381
  obtain ⟨rfl, rfl, h_381⟩ := h_381
  have P_381 := cp_381
  refine ww_popI hX (pc := 384) dL_law_384 ?_
  refine ww_goto hX (pc := 385) (tgt := 1359) dL_law_385 (by decide) ?_
  exact kk _ _ _ _ _ _ C_371 Q_371 P_381 (by omega) (by omega)
set_option maxHeartbeats 4000000 in
set_option maxRecDepth 20000 in
theorem lc_6 {l0 : Launch} {X : aX} (hX : aK l0 X cL_law 4 RL ret 400 600000 7302250) {L : Nat} {sc : Nat → Int} (hsc : aScr X L sc) {i : Int} (hi0 : 0 ≤ i) (hi1 : i + 6 ≤ L) (hLL : L ≤ 3072) {I J : aI1} {R : aR1} {S : aS1} {uc us : Nat} (hC : CI I R S) (hQ : RX I) (hP : CPF I R) (huc : uc ≤ 500000) (hus : us ≤ 7000000) (kk : ∀ I' J' R' S' uc' us', CI I' R' S' → RX I' → CPF I' R' → uc' ≤ uc + 6 → us' ≤ us + 428 → WW X 1359 [some (kS 300), some (kR (some 0)), some (kR (some 49)), some (kI i)] [] I' J' R' S' uc' us') : WW X 388 [some (kS 300), some (kR (some 0)), some (kR (some 49)), some (kI i)] [] I J R S uc us := by
  refine ww_aload_n hX (pc := 388) dL_law_388 rfl ?_
  refine ww_aload_nS hX (pc := 389) dL_law_389 rfl ?_
  refine ww_iload_n hX (pc := 390) dL_law_390 rfl ?_
  refine ww_iconst hX (pc := 391) (x := 1) dL_law_391 rfl ?_
  refine ww_iadd hX (pc := 392) dL_law_392 ?_
  refine ww_sld hX (pc := 393) hsc (by omega) (by omega) (by omega) dL_law_393 ?_
  refine ww_aload_nS hX (pc := 394) dL_law_394 rfl ?_
  refine ww_iload_n hX (pc := 395) dL_law_395 rfl ?_
  refine ww_iconst hX (pc := 396) (x := 2) dL_law_396 rfl ?_
  refine ww_iadd hX (pc := 397) dL_law_397 ?_
  refine ww_sld hX (pc := 398) hsc (by omega) (by omega) (by omega) dL_law_398 ?_
  refine ww_aload_nS hX (pc := 399) dL_law_399 rfl ?_
  refine ww_iload_n hX (pc := 400) dL_law_400 rfl ?_
  refine ww_iconst hX (pc := 401) (x := 3) dL_law_401 rfl ?_
  refine ww_iadd hX (pc := 402) dL_law_402 ?_
  refine ww_sld hX (pc := 403) hsc (by omega) (by omega) (by omega) dL_law_403 ?_
  refine ww_aload_nS hX (pc := 404) dL_law_404 rfl ?_
  refine ww_iload_n hX (pc := 405) dL_law_405 rfl ?_
  refine ww_iconst hX (pc := 406) (x := 4) dL_law_406 rfl ?_
  refine ww_iadd hX (pc := 407) dL_law_407 ?_
  refine ww_sld hX (pc := 408) hsc (by omega) (by omega) (by omega) dL_law_408 ?_
  refine ww_aload_nS hX (pc := 409) dL_law_409 rfl ?_
  refine ww_iload_n hX (pc := 410) dL_law_410 rfl ?_
  refine ww_iconst hX (pc := 411) (x := 5) dL_law_411 rfl ?_
  refine ww_iadd hX (pc := 412) dL_law_412 ?_
  refine ww_sld hX (pc := 413) hsc (by omega) (by omega) (by omega) dL_law_413 ?_
  refine vI5 hX (pc := 414) sL_39 (xs_0 hC.1) (c5_X10_feed l0 hC.1 hC.2.1 (aScr_r hsc _).1 (aScr_r hsc _).2 (aScr_r hsc _).1 (aScr_r hsc _).2 (aScr_r hsc _).1 (aScr_r hsc _).2 (aScr_r hsc _).1 (aScr_r hsc _).2 (aScr_r hsc _).1 (aScr_r hsc _).2) (by decide) (by omega) (by omega) (Nat.le_of_ble_eq_true rfl) dL_law_414 (fun x_414 I_414 J_414 h_414 => ?_)
  have C_414 := CI_low hC h_414.1 h_414.2.2.1
  have Q_414 := RX_low hQ h_414.1
  refine ww_popI hX (pc := 417) dL_law_417 ?_
  refine ww_aload_n hX (pc := 418) dL_law_418 rfl ?_
  refine ww_aload_nS hX (pc := 419) dL_law_419 rfl ?_
  refine ww_iload_n hX (pc := 420) dL_law_420 rfl ?_
  refine ww_iconst hX (pc := 421) (x := 1) dL_law_421 rfl ?_
  refine ww_iadd hX (pc := 422) dL_law_422 ?_
  refine ww_sld hX (pc := 423) hsc (by omega) (by omega) (by omega) dL_law_423 ?_
  refine ww_aload_nS hX (pc := 424) dL_law_424 rfl ?_
  refine ww_iload_n hX (pc := 425) dL_law_425 rfl ?_
  refine ww_iconst hX (pc := 426) (x := 2) dL_law_426 rfl ?_
  refine ww_iadd hX (pc := 427) dL_law_427 ?_
  refine ww_sld hX (pc := 428) hsc (by omega) (by omega) (by omega) dL_law_428 ?_
  refine ww_aload_nS hX (pc := 429) dL_law_429 rfl ?_
  refine ww_iload_n hX (pc := 430) dL_law_430 rfl ?_
  refine ww_iconst hX (pc := 431) (x := 3) dL_law_431 rfl ?_
  refine ww_iadd hX (pc := 432) dL_law_432 ?_
  refine ww_sld hX (pc := 433) hsc (by omega) (by omega) (by omega) dL_law_433 ?_
  refine ww_aload_nS hX (pc := 434) dL_law_434 rfl ?_
  refine ww_iload_n hX (pc := 435) dL_law_435 rfl ?_
  refine ww_iconst hX (pc := 436) (x := 4) dL_law_436 rfl ?_
  refine ww_iadd hX (pc := 437) dL_law_437 ?_
  refine ww_sld hX (pc := 438) hsc (by omega) (by omega) (by omega) dL_law_438 ?_
  refine ww_aload_nS hX (pc := 439) dL_law_439 rfl ?_
  refine ww_iload_n hX (pc := 440) dL_law_440 rfl ?_
  refine ww_iconst hX (pc := 441) (x := 5) dL_law_441 rfl ?_
  refine ww_iadd hX (pc := 442) dL_law_442 ?_
  refine ww_sld hX (pc := 443) hsc (by omega) (by omega) (by omega) dL_law_443 ?_
  refine vI5 hX (pc := 444) sL_43 (xs_49 C_414.1) (c5_X11_feed l0 C_414.1 Q_414 ) (by decide) (by omega) (by omega) (Nat.le_of_ble_eq_true rfl) dL_law_444 (fun x_444 I_444 J_444 h_444 => ?_)
  have cp_444 := CF_feed hP hC h_414 h_444
  have C_444 := CI_ref C_414 (Ch_kp h_444.1 (by decide))
  have Q_444 := h_444.2.2.1
  have P_444 := cp_444.1
  refine ww_popI hX (pc := 447) dL_law_447 ?_
  refine ww_goto hX (pc := 448) (tgt := 1359) dL_law_448 (by decide) ?_
  exact kk _ _ _ _ _ _ C_444 Q_444 P_444 (by omega) (by omega)
set_option maxHeartbeats 4000000 in
set_option maxRecDepth 20000 in
theorem lc_7 {l0 : Launch} {X : aX} (hX : aK l0 X cL_law 4 RL ret 400 600000 7302250) {L : Nat} {sc : Nat → Int} (hsc : aScr X L sc) {i : Int} (hi0 : 0 ≤ i) (hi1 : i + 6 ≤ L) (hLL : L ≤ 3072) {I J : aI1} {R : aR1} {S : aS1} {uc us : Nat} (hC : CI I R S) (hQ : RX I) (hP : CPF I R) (huc : uc ≤ 500000) (hus : us ≤ 7000000) (kk : ∀ I' J' R' S' uc' us', CI I' R' S' → RX I' → CPF I' R' → uc' ≤ uc + 6 → us' ≤ us + 428 → WW X 1359 [some (kS 300), some (kR (some 0)), some (kR (some 49)), some (kI i)] [] I' J' R' S' uc' us') : WW X 451 [some (kS 300), some (kR (some 0)), some (kR (some 49)), some (kI i)] [] I J R S uc us := by
  refine ww_aload_n hX (pc := 451) dL_law_451 rfl ?_
  refine ww_aload_nS hX (pc := 452) dL_law_452 rfl ?_
  refine ww_iload_n hX (pc := 453) dL_law_453 rfl ?_
  refine ww_iconst hX (pc := 454) (x := 1) dL_law_454 rfl ?_
  refine ww_iadd hX (pc := 455) dL_law_455 ?_
  refine ww_sld hX (pc := 456) hsc (by omega) (by omega) (by omega) dL_law_456 ?_
  refine vI1 hX (pc := 457) sL_44 (xs_0 hC.1) (c5_X10_end l0 hC.1 hC.2.1 (aScr_r hsc _).1 (aScr_r hsc _).2) (by decide) (by omega) (by omega) (Nat.le_of_ble_eq_true rfl) dL_law_457 (fun x_457 I_457 J_457 h_457 => ?_)
  have C_457 := CI_low hC h_457.1 h_457.2.2.1
  have Q_457 := RX_low hQ h_457.1
  refine ww_popI hX (pc := 460) dL_law_460 ?_
  refine ww_aload_n hX (pc := 461) dL_law_461 rfl ?_
  refine ww_aload_nS hX (pc := 462) dL_law_462 rfl ?_
  refine ww_iload_n hX (pc := 463) dL_law_463 rfl ?_
  refine ww_iconst hX (pc := 464) (x := 1) dL_law_464 rfl ?_
  refine ww_iadd hX (pc := 465) dL_law_465 ?_
  refine ww_sld hX (pc := 466) hsc (by omega) (by omega) (by omega) dL_law_466 ?_
  refine vI1 hX (pc := 467) sL_47 (xs_49 C_457.1) (c5_X11_end l0 C_457.1 Q_457 (aScr_r hsc _).1 (aScr_r hsc _).2) (by decide) (by omega) (by omega) (Nat.le_of_ble_eq_true rfl) dL_law_467 (fun x_467 I_467 J_467 h_467 => ?_)
  have cp_467 := CF_end hP hC h_457 h_467
  have C_467 := CI_ref C_457 (Ch_kp h_467.1 (by decide))
  have Q_467 := h_467.2.2.1
  have P_467 := cp_467.1
  refine ww_popI hX (pc := 470) dL_law_470 ?_
  refine ww_goto hX (pc := 471) (tgt := 1359) dL_law_471 (by decide) ?_
  exact kk _ _ _ _ _ _ C_467 Q_467 P_467 (by omega) (by omega)
set_option maxHeartbeats 4000000 in
set_option maxRecDepth 20000 in
theorem lc_8 {l0 : Launch} {X : aX} (hX : aK l0 X cL_law 4 RL ret 400 600000 7302250) {L : Nat} {sc : Nat → Int} (hsc : aScr X L sc) {i : Int} (hi0 : 0 ≤ i) (hi1 : i + 6 ≤ L) (hLL : L ≤ 3072) {I J : aI1} {R : aR1} {S : aS1} {uc us : Nat} (hC : CI I R S) (hQ : RX I) (hP : CPF I R) (huc : uc ≤ 500000) (hus : us ≤ 7000000) (kk : ∀ I' J' R' S' uc' us', CI I' R' S' → RX I' → CPF I' R' → uc' ≤ uc + 6 → us' ≤ us + 428 → WW X 1359 [some (kS 300), some (kR (some 0)), some (kR (some 49)), some (kI i)] [] I' J' R' S' uc' us') : WW X 474 [some (kS 300), some (kR (some 0)), some (kR (some 49)), some (kI i)] [] I J R S uc us := by
  refine ww_aload_n hX (pc := 474) dL_law_474 rfl ?_
  refine vI0 hX (pc := 475) sL_48 (xs_0 hC.1) (c5_X10_row l0 hC.1 hC.2.1 ) (by decide) (by omega) (by omega) (Nat.le_of_ble_eq_true rfl) dL_law_475 (fun x_475 I_475 J_475 h_475 => ?_)
  have C_475 := CI_low hC h_475.1 h_475.2.2.1
  have Q_475 := RX_low hQ h_475.1
  refine ww_popI hX (pc := 478) dL_law_478 ?_
  refine ww_aload_n hX (pc := 479) dL_law_479 rfl ?_
  refine vI0 hX (pc := 480) sL_52 (xs_49 C_475.1) (c5_X11_row l0 C_475.1 Q_475  (fun j hj => by have e9 := h_475.1 49 (by decide); have e8 := h_475.1 55 (by decide); rw [e9] at hj; rw [e8]; exact (hP.2.1 j (by have q9 := hP.1.1; omega)).2)) (by decide) (by omega) (by omega) (Nat.le_of_ble_eq_true rfl) dL_law_480 (fun x_480 I_480 J_480 h_480 => ?_)
  have cp_480 := CF_row hP hC h_475 h_480
  have C_480 := CI_ref C_475 (Ch_kp h_480.1 (by decide))
  have Q_480 := h_480.2.2.1
  have P_480 := cp_480.1
  refine ww_popI hX (pc := 483) dL_law_483 ?_
  refine ww_goto hX (pc := 484) (tgt := 1359) dL_law_484 (by decide) ?_
  exact kk _ _ _ _ _ _ C_480 Q_480 P_480 (by omega) (by omega)
set_option maxHeartbeats 4000000 in
set_option maxRecDepth 20000 in
theorem lc_9 {l0 : Launch} {X : aX} (hX : aK l0 X cL_law 4 RL ret 400 600000 7302250) {L : Nat} {sc : Nat → Int} (hsc : aScr X L sc) {i : Int} (hi0 : 0 ≤ i) (hi1 : i + 6 ≤ L) (hLL : L ≤ 3072) {I J : aI1} {R : aR1} {S : aS1} {uc us : Nat} (hC : CI I R S) (hQ : RX I) (hP : CPF I R) (huc : uc ≤ 500000) (hus : us ≤ 7000000) (kk : ∀ I' J' R' S' uc' us', CI I' R' S' → RX I' → CPF I' R' → uc' ≤ uc + 6 → us' ≤ us + 428 → WW X 1359 [some (kS 300), some (kR (some 0)), some (kR (some 49)), some (kI i)] [] I' J' R' S' uc' us') : WW X 487 [some (kS 300), some (kR (some 0)), some (kR (some 49)), some (kI i)] [] I J R S uc us := by
  refine ww_aload_n hX (pc := 487) dL_law_487 rfl ?_
  refine vI0 hX (pc := 488) sL_53 (xs_0 hC.1) (c5_X10_torn l0 hC.1 hC.2.1 ) (by decide) (by omega) (by omega) (Nat.le_of_ble_eq_true rfl) dL_law_488 (fun x_488 I_488 J_488 h_488 => ?_)
  have C_488 := CI_low hC h_488.1 h_488.2.2.1
  have Q_488 := RX_low hQ h_488.1
  refine ww_popI hX (pc := 491) dL_law_491 ?_
  refine ww_aload_n hX (pc := 492) dL_law_492 rfl ?_
  refine vI0 hX (pc := 493) sL_56 (xs_49 C_488.1) (c2_X11_torn l0 C_488.1 Q_488 ) (by decide) (by omega) (by omega) (Nat.le_of_ble_eq_true rfl) dL_law_493 (fun x_493 I_493 J_493 h_493 => ?_)
  have cp_493 := CF_torn hP hC h_488 h_493
  obtain ⟨rfl, rfl, h_493⟩ := h_493
  have P_493 := cp_493.1
  refine ww_popI hX (pc := 496) dL_law_496 ?_
  refine ww_goto hX (pc := 497) (tgt := 1359) dL_law_497 (by decide) ?_
  exact kk _ _ _ _ _ _ C_488 Q_488 P_493 (by omega) (by omega)
set_option maxHeartbeats 4000000 in
set_option maxRecDepth 20000 in
theorem lc_10 {l0 : Launch} {X : aX} (hX : aK l0 X cL_law 4 RL ret 400 600000 7302250) {L : Nat} {sc : Nat → Int} (hsc : aScr X L sc) {i : Int} (hi0 : 0 ≤ i) (hi1 : i + 6 ≤ L) (hLL : L ≤ 3072) {I J : aI1} {R : aR1} {S : aS1} {uc us : Nat} (hC : CI I R S) (hQ : RX I) (hP : CPF I R) (huc : uc ≤ 500000) (hus : us ≤ 7000000) (kk : ∀ I' J' R' S' uc' us', CI I' R' S' → RX I' → CPF I' R' → uc' ≤ uc + 6 → us' ≤ us + 428 → WW X 1359 [some (kS 300), some (kR (some 0)), some (kR (some 49)), some (kI i)] [] I' J' R' S' uc' us') : WW X 500 [some (kS 300), some (kR (some 0)), some (kR (some 49)), some (kI i)] [] I J R S uc us := by
  refine ww_aload_n hX (pc := 500) dL_law_500 rfl ?_
  refine vD0 hX (pc := 501) sL_57 (xs_0 hC.1) (c5_X10_law l0 hC ) (by decide) (by omega) (by omega) (Nat.le_of_ble_eq_true rfl) dL_law_501 (fun x_501 I_501 J_501 R_501 S_501 h_501 => ?_)
  have C_501 := h_501.1
  have Q_501 := RX_mid hQ (fun k h1 h2 => (h_501.2.1 k h1 h2).1)
  refine ww_popI hX (pc := 504) dL_law_504 ?_
  refine ww_aload_n hX (pc := 505) dL_law_505 rfl ?_
  refine vI0 hX (pc := 506) sL_60 (xs_49 C_501.1) (c5_X11_law l0 C_501.1 Q_501 ) (by decide) (by omega) (by omega) (Nat.le_of_ble_eq_true rfl) dL_law_506 (fun x_506 I_506 J_506 h_506 => ?_)
  have cp_506 := CF_law hP hC h_501 h_506
  have C_506 := CI_ref C_501 (Ch_kp h_506.1 (by decide))
  have Q_506 := h_506.2.2.1
  have P_506 := cp_506
  refine ww_popI hX (pc := 509) dL_law_509 ?_
  refine ww_goto hX (pc := 510) (tgt := 1359) dL_law_510 (by decide) ?_
  exact kk _ _ _ _ _ _ C_506 Q_506 P_506 (by omega) (by omega)
set_option maxHeartbeats 4000000 in
set_option maxRecDepth 20000 in
theorem lc_11 {l0 : Launch} {X : aX} (hX : aK l0 X cL_law 4 RL ret 400 600000 7302250) {L : Nat} {sc : Nat → Int} (hsc : aScr X L sc) {i : Int} (hi0 : 0 ≤ i) (hi1 : i + 6 ≤ L) (hLL : L ≤ 3072) {I J : aI1} {R : aR1} {S : aS1} {uc us : Nat} (hC : CI I R S) (hQ : RX I) (hP : CPF I R) (huc : uc ≤ 500000) (hus : us ≤ 7000000) (kk : ∀ I' J' R' S' uc' us', CI I' R' S' → RX I' → CPF I' R' → uc' ≤ uc + 6 → us' ≤ us + 428 → WW X 1359 [some (kS 300), some (kR (some 0)), some (kR (some 49)), some (kI i)] [] I' J' R' S' uc' us') : WW X 513 [some (kS 300), some (kR (some 0)), some (kR (some 49)), some (kI i)] [] I J R S uc us := by
  refine ww_aload_n hX (pc := 513) dL_law_513 rfl ?_
  refine vI0 hX (pc := 514) sL_61 (xs_0 hC.1) (c5_X10_fault l0 hC.1 hC.2.1 ) (by decide) (by omega) (by omega) (Nat.le_of_ble_eq_true rfl) dL_law_514 (fun x_514 I_514 J_514 h_514 => ?_)
  have C_514 := CI_low hC h_514.1 h_514.2.2.1
  have Q_514 := RX_low hQ h_514.1
  refine ww_popI hX (pc := 517) dL_law_517 ?_
  refine ww_aload_n hX (pc := 518) dL_law_518 rfl ?_
  refine vI0 hX (pc := 519) sL_64 (xs_49 C_514.1) (c_X11_fault l0 C_514.1 Q_514 ) (by decide) (by omega) (by omega) (Nat.le_of_ble_eq_true rfl) dL_law_519 (fun x_519 I_519 J_519 h_519 => ?_)
  have cp_519 := CF_fault hP hC h_514 h_519
  obtain ⟨rfl, rfl, h_519⟩ := h_519
  have P_519 := cp_519
  refine ww_popI hX (pc := 522) dL_law_522 ?_
  refine ww_goto hX (pc := 523) (tgt := 1359) dL_law_523 (by decide) ?_
  exact kk _ _ _ _ _ _ C_514 Q_514 P_519 (by omega) (by omega)
set_option maxHeartbeats 4000000 in
set_option maxRecDepth 20000 in
theorem lc_12 {l0 : Launch} {X : aX} (hX : aK l0 X cL_law 4 RL ret 400 600000 7302250) {L : Nat} {sc : Nat → Int} (hsc : aScr X L sc) {i : Int} (hi0 : 0 ≤ i) (hi1 : i + 6 ≤ L) (hLL : L ≤ 3072) {I J : aI1} {R : aR1} {S : aS1} {uc us : Nat} (hC : CI I R S) (hQ : RX I) (hP : CPF I R) (huc : uc ≤ 500000) (hus : us ≤ 7000000) (kk : ∀ I' J' R' S' uc' us', CI I' R' S' → RX I' → CPF I' R' → uc' ≤ uc + 6 → us' ≤ us + 428 → WW X 1359 [some (kS 300), some (kR (some 0)), some (kR (some 49)), some (kI i)] [] I' J' R' S' uc' us') : WW X 526 [some (kS 300), some (kR (some 0)), some (kR (some 49)), some (kI i)] [] I J R S uc us := by
  refine ww_aload_n hX (pc := 526) dL_law_526 rfl ?_
  refine ww_aload_nS hX (pc := 527) dL_law_527 rfl ?_
  refine ww_iload_n hX (pc := 528) dL_law_528 rfl ?_
  refine ww_iconst hX (pc := 529) (x := 1) dL_law_529 rfl ?_
  refine ww_iadd hX (pc := 530) dL_law_530 ?_
  refine ww_sld hX (pc := 531) hsc (by omega) (by omega) (by omega) dL_law_531 ?_
  refine vI1 hX (pc := 532) sL_65 (xs_0 hC.1) (c5_X10_learn l0 hC.1 hC.2.1 (aScr_r hsc _).1 (aScr_r hsc _).2 hC.2.2.1) (by decide) (by omega) (by omega) (Nat.le_of_ble_eq_true rfl) dL_law_532 (fun x_532 I_532 J_532 h_532 => ?_)
  have C_532 := CI_low hC h_532.1 h_532.2.2.1
  have Q_532 := RX_low hQ h_532.1
  refine ww_popI hX (pc := 535) dL_law_535 ?_
  refine ww_aload_n hX (pc := 536) dL_law_536 rfl ?_
  refine ww_aload_nS hX (pc := 537) dL_law_537 rfl ?_
  refine ww_iload_n hX (pc := 538) dL_law_538 rfl ?_
  refine ww_iconst hX (pc := 539) (x := 1) dL_law_539 rfl ?_
  refine ww_iadd hX (pc := 540) dL_law_540 ?_
  refine ww_sld hX (pc := 541) hsc (by omega) (by omega) (by omega) dL_law_541 ?_
  refine vI1 hX (pc := 542) sL_68 (xs_49 C_532.1) (c5_X11_learn l0 C_532.1 Q_532 (aScr_r hsc _).1 (aScr_r hsc _).2) (by decide) (by omega) (by omega) (Nat.le_of_ble_eq_true rfl) dL_law_542 (fun x_542 I_542 J_542 h_542 => ?_)
  have cp_542 := CF_learn hP hC h_532 h_542
  have C_542 := CI_ref C_532 (Ch_kp h_542.1 (by decide))
  have Q_542 := h_542.2.2.1
  have P_542 := cp_542
  refine ww_popI hX (pc := 545) dL_law_545 ?_
  refine ww_goto hX (pc := 546) (tgt := 1359) dL_law_546 (by decide) ?_
  exact kk _ _ _ _ _ _ C_542 Q_542 P_542 (by omega) (by omega)
set_option maxHeartbeats 4000000 in
set_option maxRecDepth 20000 in
theorem lc_13 {l0 : Launch} {X : aX} (hX : aK l0 X cL_law 4 RL ret 400 600000 7302250) {L : Nat} {sc : Nat → Int} (hsc : aScr X L sc) {i : Int} (hi0 : 0 ≤ i) (hi1 : i + 6 ≤ L) (hLL : L ≤ 3072) {I J : aI1} {R : aR1} {S : aS1} {uc us : Nat} (hC : CI I R S) (hQ : RX I) (hP : CPF I R) (huc : uc ≤ 500000) (hus : us ≤ 7000000) (kk : ∀ I' J' R' S' uc' us', CI I' R' S' → RX I' → CPF I' R' → uc' ≤ uc + 6 → us' ≤ us + 428 → WW X 1359 [some (kS 300), some (kR (some 0)), some (kR (some 49)), some (kI i)] [] I' J' R' S' uc' us') : WW X 549 [some (kS 300), some (kR (some 0)), some (kR (some 49)), some (kI i)] [] I J R S uc us := by
  refine ww_aload_n hX (pc := 549) dL_law_549 rfl ?_
  refine ww_aload_nS hX (pc := 550) dL_law_550 rfl ?_
  refine ww_iload_n hX (pc := 551) dL_law_551 rfl ?_
  refine ww_iconst hX (pc := 552) (x := 1) dL_law_552 rfl ?_
  refine ww_iadd hX (pc := 553) dL_law_553 ?_
  refine ww_sld hX (pc := 554) hsc (by omega) (by omega) (by omega) dL_law_554 ?_
  refine ww_aload_nS hX (pc := 555) dL_law_555 rfl ?_
  refine ww_iload_n hX (pc := 556) dL_law_556 rfl ?_
  refine ww_iconst hX (pc := 557) (x := 2) dL_law_557 rfl ?_
  refine ww_iadd hX (pc := 558) dL_law_558 ?_
  refine ww_sld hX (pc := 559) hsc (by omega) (by omega) (by omega) dL_law_559 ?_
  refine ww_aload_nS hX (pc := 560) dL_law_560 rfl ?_
  refine ww_iload_n hX (pc := 561) dL_law_561 rfl ?_
  refine ww_iconst hX (pc := 562) (x := 3) dL_law_562 rfl ?_
  refine ww_iadd hX (pc := 563) dL_law_563 ?_
  refine ww_sld hX (pc := 564) hsc (by omega) (by omega) (by omega) dL_law_564 ?_
  refine vI3 hX (pc := 565) sL_69 (xs_0 hC.1) (c5_X10_next l0 hC.1 hC.2.1 (aScr_r hsc _).1 (aScr_r hsc _).2 (aScr_r hsc _).1 (aScr_r hsc _).2 (aScr_r hsc _).1 (aScr_r hsc _).2) (by decide) (by omega) (by omega) (Nat.le_of_ble_eq_true rfl) dL_law_565 (fun x_565 I_565 J_565 h_565 => ?_)
  have C_565 := CI_low hC h_565.1 h_565.2.2.1
  have Q_565 := RX_low hQ h_565.1
  refine ww_popI hX (pc := 568) dL_law_568 ?_
  refine ww_aload_n hX (pc := 569) dL_law_569 rfl ?_
  refine ww_aload_nS hX (pc := 570) dL_law_570 rfl ?_
  refine ww_iload_n hX (pc := 571) dL_law_571 rfl ?_
  refine ww_iconst hX (pc := 572) (x := 1) dL_law_572 rfl ?_
  refine ww_iadd hX (pc := 573) dL_law_573 ?_
  refine ww_sld hX (pc := 574) hsc (by omega) (by omega) (by omega) dL_law_574 ?_
  refine ww_aload_nS hX (pc := 575) dL_law_575 rfl ?_
  refine ww_iload_n hX (pc := 576) dL_law_576 rfl ?_
  refine ww_iconst hX (pc := 577) (x := 2) dL_law_577 rfl ?_
  refine ww_iadd hX (pc := 578) dL_law_578 ?_
  refine ww_sld hX (pc := 579) hsc (by omega) (by omega) (by omega) dL_law_579 ?_
  refine ww_aload_nS hX (pc := 580) dL_law_580 rfl ?_
  refine ww_iload_n hX (pc := 581) dL_law_581 rfl ?_
  refine ww_iconst hX (pc := 582) (x := 3) dL_law_582 rfl ?_
  refine ww_iadd hX (pc := 583) dL_law_583 ?_
  refine ww_sld hX (pc := 584) hsc (by omega) (by omega) (by omega) dL_law_584 ?_
  refine vI3 hX (pc := 585) sL_73 (xs_49 C_565.1) (c_X11_next l0 C_565.1 Q_565 (aScr_r hsc _).1 (aScr_r hsc _).2 (aScr_r hsc _).1 (aScr_r hsc _).2 (aScr_r hsc _).1 (aScr_r hsc _).2) (by decide) (by omega) (by omega) (Nat.le_of_ble_eq_true rfl) dL_law_585 (fun x_585 I_585 J_585 h_585 => ?_)
  have cp_585 := CF_next hP hC h_565 h_585
  have C_585 := CI_ref C_565 (Ch_kp h_585.1 (by decide))
  have Q_585 := h_585.2.2.1
  have P_585 := cp_585
  refine ww_popI hX (pc := 588) dL_law_588 ?_
  refine ww_goto hX (pc := 589) (tgt := 1359) dL_law_589 (by decide) ?_
  exact kk _ _ _ _ _ _ C_585 Q_585 P_585 (by omega) (by omega)
set_option maxHeartbeats 4000000 in
set_option maxRecDepth 20000 in
theorem lc_14 {l0 : Launch} {X : aX} (hX : aK l0 X cL_law 4 RL ret 400 600000 7302250) {L : Nat} {sc : Nat → Int} (hsc : aScr X L sc) {i : Int} (hi0 : 0 ≤ i) (hi1 : i + 6 ≤ L) (hLL : L ≤ 3072) {I J : aI1} {R : aR1} {S : aS1} {uc us : Nat} (hC : CI I R S) (hQ : RX I) (hP : CPF I R) (huc : uc ≤ 500000) (hus : us ≤ 7000000) (kk : ∀ I' J' R' S' uc' us', CI I' R' S' → RX I' → CPF I' R' → uc' ≤ uc + 6 → us' ≤ us + 428 → WW X 1359 [some (kS 300), some (kR (some 0)), some (kR (some 49)), some (kI i)] [] I' J' R' S' uc' us') : WW X 592 [some (kS 300), some (kR (some 0)), some (kR (some 49)), some (kI i)] [] I J R S uc us := by
  refine ww_aload_n hX (pc := 592) dL_law_592 rfl ?_
  refine ww_aload_nS hX (pc := 593) dL_law_593 rfl ?_
  refine ww_iload_n hX (pc := 594) dL_law_594 rfl ?_
  refine ww_iconst hX (pc := 595) (x := 1) dL_law_595 rfl ?_
  refine ww_iadd hX (pc := 596) dL_law_596 ?_
  refine ww_sld hX (pc := 597) hsc (by omega) (by omega) (by omega) dL_law_597 ?_
  refine ww_aload_nS hX (pc := 598) dL_law_598 rfl ?_
  refine ww_iload_n hX (pc := 599) dL_law_599 rfl ?_
  refine ww_iconst hX (pc := 600) (x := 2) dL_law_600 rfl ?_
  refine ww_iadd hX (pc := 601) dL_law_601 ?_
  refine ww_sld hX (pc := 602) hsc (by omega) (by omega) (by omega) dL_law_602 ?_
  refine vI2 hX (pc := 603) sL_74 (xs_0 hC.1) (c5_X10_ways l0 hC.1 hC.2.1 (aScr_r hsc _).1 (aScr_r hsc _).2 (aScr_r hsc _).1 (aScr_r hsc _).2) (by decide) (by omega) (by omega) (Nat.le_of_ble_eq_true rfl) dL_law_603 (fun x_603 I_603 J_603 h_603 => ?_)
  have C_603 := CI_low hC h_603.1 h_603.2.2.1
  have Q_603 := RX_low hQ h_603.1
  refine ww_popI hX (pc := 606) dL_law_606 ?_
  refine ww_aload_n hX (pc := 607) dL_law_607 rfl ?_
  refine ww_aload_nS hX (pc := 608) dL_law_608 rfl ?_
  refine ww_iload_n hX (pc := 609) dL_law_609 rfl ?_
  refine ww_iconst hX (pc := 610) (x := 1) dL_law_610 rfl ?_
  refine ww_iadd hX (pc := 611) dL_law_611 ?_
  refine ww_sld hX (pc := 612) hsc (by omega) (by omega) (by omega) dL_law_612 ?_
  refine ww_aload_nS hX (pc := 613) dL_law_613 rfl ?_
  refine ww_iload_n hX (pc := 614) dL_law_614 rfl ?_
  refine ww_iconst hX (pc := 615) (x := 2) dL_law_615 rfl ?_
  refine ww_iadd hX (pc := 616) dL_law_616 ?_
  refine ww_sld hX (pc := 617) hsc (by omega) (by omega) (by omega) dL_law_617 ?_
  refine vI2 hX (pc := 618) sL_77 (xs_49 C_603.1) (c_X11_ways l0 C_603.1 Q_603 (aScr_r hsc _).1 (aScr_r hsc _).2 (aScr_r hsc _).1 (aScr_r hsc _).2) (by decide) (by omega) (by omega) (Nat.le_of_ble_eq_true rfl) dL_law_618 (fun x_618 I_618 J_618 h_618 => ?_)
  have cp_618 := CF_ways hP hC h_603 h_618
  obtain ⟨rfl, rfl, h_618⟩ := h_618
  have P_618 := cp_618
  refine ww_popI hX (pc := 621) dL_law_621 ?_
  refine ww_goto hX (pc := 622) (tgt := 1359) dL_law_622 (by decide) ?_
  exact kk _ _ _ _ _ _ C_603 Q_603 P_618 (by omega) (by omega)
set_option maxHeartbeats 4000000 in
set_option maxRecDepth 20000 in
theorem lc_15 {l0 : Launch} {X : aX} (hX : aK l0 X cL_law 4 RL ret 400 600000 7302250) {L : Nat} {sc : Nat → Int} (hsc : aScr X L sc) {i : Int} (hi0 : 0 ≤ i) (hi1 : i + 6 ≤ L) (hLL : L ≤ 3072) {I J : aI1} {R : aR1} {S : aS1} {uc us : Nat} (hC : CI I R S) (hQ : RX I) (hP : CPF I R) (huc : uc ≤ 500000) (hus : us ≤ 7000000) (kk : ∀ I' J' R' S' uc' us', CI I' R' S' → RX I' → CPF I' R' → uc' ≤ uc + 6 → us' ≤ us + 428 → WW X 1359 [some (kS 300), some (kR (some 0)), some (kR (some 49)), some (kI i)] [] I' J' R' S' uc' us') : WW X 625 [some (kS 300), some (kR (some 0)), some (kR (some 49)), some (kI i)] [] I J R S uc us := by
  refine ww_aload_n hX (pc := 625) dL_law_625 rfl ?_
  refine ww_aload_nS hX (pc := 626) dL_law_626 rfl ?_
  refine ww_iload_n hX (pc := 627) dL_law_627 rfl ?_
  refine ww_iconst hX (pc := 628) (x := 1) dL_law_628 rfl ?_
  refine ww_iadd hX (pc := 629) dL_law_629 ?_
  refine ww_sld hX (pc := 630) hsc (by omega) (by omega) (by omega) dL_law_630 ?_
  refine vI1 hX (pc := 631) sL_78 (xs_0 hC.1) (c5_X10_lasts l0 hC.1 hC.2.1 (aScr_r hsc _).1 (aScr_r hsc _).2) (by decide) (by omega) (by omega) (Nat.le_of_ble_eq_true rfl) dL_law_631 (fun x_631 I_631 J_631 h_631 => ?_)
  have C_631 := CI_low hC h_631.1 h_631.2.2.1
  have Q_631 := RX_low hQ h_631.1
  refine ww_popI hX (pc := 634) dL_law_634 ?_
  refine ww_aload_n hX (pc := 635) dL_law_635 rfl ?_
  refine ww_aload_nS hX (pc := 636) dL_law_636 rfl ?_
  refine ww_iload_n hX (pc := 637) dL_law_637 rfl ?_
  refine ww_iconst hX (pc := 638) (x := 1) dL_law_638 rfl ?_
  refine ww_iadd hX (pc := 639) dL_law_639 ?_
  refine ww_sld hX (pc := 640) hsc (by omega) (by omega) (by omega) dL_law_640 ?_
  refine vI1 hX (pc := 641) sL_81 (xs_49 C_631.1) (c_X11_lasts l0 C_631.1 Q_631 (aScr_r hsc _).1 (aScr_r hsc _).2) (by decide) (by omega) (by omega) (Nat.le_of_ble_eq_true rfl) dL_law_641 (fun x_641 I_641 J_641 h_641 => ?_)
  have cp_641 := CF_lasts hP hC h_631 h_641
  have C_641 := CI_ref C_631 (Ch_kp h_641.1 (by decide))
  have Q_641 := h_641.2.2.1
  have P_641 := cp_641
  refine ww_popI hX (pc := 644) dL_law_644 ?_
  refine ww_goto hX (pc := 645) (tgt := 1359) dL_law_645 (by decide) ?_
  exact kk _ _ _ _ _ _ C_641 Q_641 P_641 (by omega) (by omega)
set_option maxHeartbeats 4000000 in
set_option maxRecDepth 20000 in
theorem lc_16 {l0 : Launch} {X : aX} (hX : aK l0 X cL_law 4 RL ret 400 600000 7302250) {L : Nat} {sc : Nat → Int} (hsc : aScr X L sc) {i : Int} (hi0 : 0 ≤ i) (hi1 : i + 6 ≤ L) (hLL : L ≤ 3072) {I J : aI1} {R : aR1} {S : aS1} {uc us : Nat} (hC : CI I R S) (hQ : RX I) (hP : CPF I R) (huc : uc ≤ 500000) (hus : us ≤ 7000000) (kk : ∀ I' J' R' S' uc' us', CI I' R' S' → RX I' → CPF I' R' → uc' ≤ uc + 6 → us' ≤ us + 428 → WW X 1359 [some (kS 300), some (kR (some 0)), some (kR (some 49)), some (kI i)] [] I' J' R' S' uc' us') : WW X 648 [some (kS 300), some (kR (some 0)), some (kR (some 49)), some (kI i)] [] I J R S uc us := by
  refine ww_aload_n hX (pc := 648) dL_law_648 rfl ?_
  refine ww_aload_nS hX (pc := 649) dL_law_649 rfl ?_
  refine ww_iload_n hX (pc := 650) dL_law_650 rfl ?_
  refine ww_iconst hX (pc := 651) (x := 1) dL_law_651 rfl ?_
  refine ww_iadd hX (pc := 652) dL_law_652 ?_
  refine ww_sld hX (pc := 653) hsc (by omega) (by omega) (by omega) dL_law_653 ?_
  refine ww_aload_nS hX (pc := 654) dL_law_654 rfl ?_
  refine ww_iload_n hX (pc := 655) dL_law_655 rfl ?_
  refine ww_iconst hX (pc := 656) (x := 2) dL_law_656 rfl ?_
  refine ww_iadd hX (pc := 657) dL_law_657 ?_
  refine ww_sld hX (pc := 658) hsc (by omega) (by omega) (by omega) dL_law_658 ?_
  refine vJ2 hX (pc := 659) sL_82 (xs_0 hC.1) (c5_X10_mean l0 hC.1 hC.2.1 (aScr_r hsc _).1 (aScr_r hsc _).2 (aScr_r hsc _).1 (aScr_r hsc _).2) (by decide) (by omega) (by omega) (Nat.le_of_ble_eq_true rfl) dL_law_659 (fun x_659 I_659 J_659 h_659 => ?_)
  have C_659 := CI_low hC h_659.1 h_659.2.2.1
  have Q_659 := RX_low hQ h_659.1
  refine ww_pop2 hX (pc := 662) dL_law_662 ?_
  refine ww_aload_n hX (pc := 663) dL_law_663 rfl ?_
  refine ww_aload_nS hX (pc := 664) dL_law_664 rfl ?_
  refine ww_iload_n hX (pc := 665) dL_law_665 rfl ?_
  refine ww_iconst hX (pc := 666) (x := 1) dL_law_666 rfl ?_
  refine ww_iadd hX (pc := 667) dL_law_667 ?_
  refine ww_sld hX (pc := 668) hsc (by omega) (by omega) (by omega) dL_law_668 ?_
  refine ww_aload_nS hX (pc := 669) dL_law_669 rfl ?_
  refine ww_iload_n hX (pc := 670) dL_law_670 rfl ?_
  refine ww_iconst hX (pc := 671) (x := 2) dL_law_671 rfl ?_
  refine ww_iadd hX (pc := 672) dL_law_672 ?_
  refine ww_sld hX (pc := 673) hsc (by omega) (by omega) (by omega) dL_law_673 ?_
  refine vJ2 hX (pc := 674) sL_86 (xs_49 C_659.1) (c_X11_mean l0 C_659.1 Q_659 (aScr_r hsc _).1 (aScr_r hsc _).2 (aScr_r hsc _).1 (aScr_r hsc _).2) (by decide) (by omega) (by omega) (Nat.le_of_ble_eq_true rfl) dL_law_674 (fun x_674 I_674 J_674 h_674 => ?_)
  have cp_674 := CF_mean hP hC h_659 h_674
  have C_674 := CI_ref C_659 (Ch_kp h_674.1 (by decide))
  have Q_674 := h_674.2.2.1
  have P_674 := cp_674
  refine ww_pop2 hX (pc := 677) dL_law_677 ?_
  refine ww_goto hX (pc := 678) (tgt := 1359) dL_law_678 (by decide) ?_
  exact kk _ _ _ _ _ _ C_674 Q_674 P_674 (by omega) (by omega)
set_option maxHeartbeats 4000000 in
set_option maxRecDepth 20000 in
theorem lc_17 {l0 : Launch} {X : aX} (hX : aK l0 X cL_law 4 RL ret 400 600000 7302250) {L : Nat} {sc : Nat → Int} (hsc : aScr X L sc) {i : Int} (hi0 : 0 ≤ i) (hi1 : i + 6 ≤ L) (hLL : L ≤ 3072) {I J : aI1} {R : aR1} {S : aS1} {uc us : Nat} (hC : CI I R S) (hQ : RX I) (hP : CPF I R) (huc : uc ≤ 500000) (hus : us ≤ 7000000) (kk : ∀ I' J' R' S' uc' us', CI I' R' S' → RX I' → CPF I' R' → uc' ≤ uc + 6 → us' ≤ us + 428 → WW X 1359 [some (kS 300), some (kR (some 0)), some (kR (some 49)), some (kI i)] [] I' J' R' S' uc' us') : WW X 681 [some (kS 300), some (kR (some 0)), some (kR (some 49)), some (kI i)] [] I J R S uc us := by
  refine ww_aload_n hX (pc := 681) dL_law_681 rfl ?_
  refine ww_aload_nS hX (pc := 682) dL_law_682 rfl ?_
  refine ww_iload_n hX (pc := 683) dL_law_683 rfl ?_
  refine ww_iconst hX (pc := 684) (x := 1) dL_law_684 rfl ?_
  refine ww_iadd hX (pc := 685) dL_law_685 ?_
  refine ww_sld hX (pc := 686) hsc (by omega) (by omega) (by omega) dL_law_686 ?_
  refine vI1 hX (pc := 687) sL_87 (xs_0 hC.1) (c5_X10_reached l0 hC.1 hC.2.1 (aScr_r hsc _).1 (aScr_r hsc _).2) (by decide) (by omega) (by omega) (Nat.le_of_ble_eq_true rfl) dL_law_687 (fun x_687 I_687 J_687 h_687 => ?_)
  have C_687 := CI_low hC h_687.1 h_687.2.2.1
  have Q_687 := RX_low hQ h_687.1
  refine ww_popI hX (pc := 690) dL_law_690 ?_
  refine ww_aload_n hX (pc := 691) dL_law_691 rfl ?_
  refine ww_aload_nS hX (pc := 692) dL_law_692 rfl ?_
  refine ww_iload_n hX (pc := 693) dL_law_693 rfl ?_
  refine ww_iconst hX (pc := 694) (x := 1) dL_law_694 rfl ?_
  refine ww_iadd hX (pc := 695) dL_law_695 ?_
  refine ww_sld hX (pc := 696) hsc (by omega) (by omega) (by omega) dL_law_696 ?_
  refine vI1 hX (pc := 697) sL_90 (xs_49 C_687.1) (c_X11_reached l0 C_687.1 Q_687 (aScr_r hsc _).1 (aScr_r hsc _).2) (by decide) (by omega) (by omega) (Nat.le_of_ble_eq_true rfl) dL_law_697 (fun x_697 I_697 J_697 h_697 => ?_)
  have cp_697 := CF_reached hP hC h_687 h_697
  have C_697 := CI_ref C_687 (Ch_kp h_697.1 (by decide))
  have Q_697 := h_697.2.2.1
  have P_697 := cp_697
  refine ww_popI hX (pc := 700) dL_law_700 ?_
  refine ww_goto hX (pc := 701) (tgt := 1359) dL_law_701 (by decide) ?_
  exact kk _ _ _ _ _ _ C_697 Q_697 P_697 (by omega) (by omega)
set_option maxHeartbeats 4000000 in
set_option maxRecDepth 20000 in
theorem lc_18 {l0 : Launch} {X : aX} (hX : aK l0 X cL_law 4 RL ret 400 600000 7302250) {L : Nat} {sc : Nat → Int} (hsc : aScr X L sc) {i : Int} (hi0 : 0 ≤ i) (hi1 : i + 6 ≤ L) (hLL : L ≤ 3072) {I J : aI1} {R : aR1} {S : aS1} {uc us : Nat} (hC : CI I R S) (hQ : RX I) (hP : CPF I R) (huc : uc ≤ 500000) (hus : us ≤ 7000000) (kk : ∀ I' J' R' S' uc' us', CI I' R' S' → RX I' → CPF I' R' → uc' ≤ uc + 6 → us' ≤ us + 428 → WW X 1359 [some (kS 300), some (kR (some 0)), some (kR (some 49)), some (kI i)] [] I' J' R' S' uc' us') : WW X 704 [some (kS 300), some (kR (some 0)), some (kR (some 49)), some (kI i)] [] I J R S uc us := by
  refine ww_aload_n hX (pc := 704) dL_law_704 rfl ?_
  refine ww_aload_nS hX (pc := 705) dL_law_705 rfl ?_
  refine ww_iload_n hX (pc := 706) dL_law_706 rfl ?_
  refine ww_iconst hX (pc := 707) (x := 1) dL_law_707 rfl ?_
  refine ww_iadd hX (pc := 708) dL_law_708 ?_
  refine ww_sld hX (pc := 709) hsc (by omega) (by omega) (by omega) dL_law_709 ?_
  refine vI1 hX (pc := 710) sL_91 (xs_0 hC.1) (c5_X10_failing l0 hC.1 hC.2.1 (aScr_r hsc _).1 (aScr_r hsc _).2) (by decide) (by omega) (by omega) (Nat.le_of_ble_eq_true rfl) dL_law_710 (fun x_710 I_710 J_710 h_710 => ?_)
  have C_710 := CI_low hC h_710.1 h_710.2.2.1
  have Q_710 := RX_low hQ h_710.1
  refine ww_popI hX (pc := 713) dL_law_713 ?_
  refine ww_aload_n hX (pc := 714) dL_law_714 rfl ?_
  refine ww_aload_nS hX (pc := 715) dL_law_715 rfl ?_
  refine ww_iload_n hX (pc := 716) dL_law_716 rfl ?_
  refine ww_iconst hX (pc := 717) (x := 1) dL_law_717 rfl ?_
  refine ww_iadd hX (pc := 718) dL_law_718 ?_
  refine ww_sld hX (pc := 719) hsc (by omega) (by omega) (by omega) dL_law_719 ?_
  refine vI1 hX (pc := 720) sL_94 (xs_49 C_710.1) (c_X11_failing l0 C_710.1 Q_710 (aScr_r hsc _).1 (aScr_r hsc _).2) (by decide) (by omega) (by omega) (Nat.le_of_ble_eq_true rfl) dL_law_720 (fun x_720 I_720 J_720 h_720 => ?_)
  have cp_720 := CF_failing hP hC h_710 h_720
  have C_720 := CI_ref C_710 (Ch_kp h_720.1 (by decide))
  have Q_720 := h_720.2.2.1
  have P_720 := cp_720
  refine ww_popI hX (pc := 723) dL_law_723 ?_
  refine ww_goto hX (pc := 724) (tgt := 1359) dL_law_724 (by decide) ?_
  exact kk _ _ _ _ _ _ C_720 Q_720 P_720 (by omega) (by omega)
set_option maxHeartbeats 4000000 in
set_option maxRecDepth 20000 in
theorem lc_19 {l0 : Launch} {X : aX} (hX : aK l0 X cL_law 4 RL ret 400 600000 7302250) {L : Nat} {sc : Nat → Int} (hsc : aScr X L sc) {i : Int} (hi0 : 0 ≤ i) (hi1 : i + 6 ≤ L) (hLL : L ≤ 3072) {I J : aI1} {R : aR1} {S : aS1} {uc us : Nat} (hC : CI I R S) (hQ : RX I) (hP : CPF I R) (huc : uc ≤ 500000) (hus : us ≤ 7000000) (kk : ∀ I' J' R' S' uc' us', CI I' R' S' → RX I' → CPF I' R' → uc' ≤ uc + 6 → us' ≤ us + 428 → WW X 1359 [some (kS 300), some (kR (some 0)), some (kR (some 49)), some (kI i)] [] I' J' R' S' uc' us') : WW X 727 [some (kS 300), some (kR (some 0)), some (kR (some 49)), some (kI i)] [] I J R S uc us := by
  refine ww_aload_n hX (pc := 727) dL_law_727 rfl ?_
  refine ww_aload_nS hX (pc := 728) dL_law_728 rfl ?_
  refine ww_iload_n hX (pc := 729) dL_law_729 rfl ?_
  refine ww_iconst hX (pc := 730) (x := 1) dL_law_730 rfl ?_
  refine ww_iadd hX (pc := 731) dL_law_731 ?_
  refine ww_sld hX (pc := 732) hsc (by omega) (by omega) (by omega) dL_law_732 ?_
  refine vI1 hX (pc := 733) sL_95 (xs_0 hC.1) (c5_X10_hurts l0 hC.1 hC.2.1 (aScr_r hsc _).1 (aScr_r hsc _).2) (by decide) (by omega) (by omega) (Nat.le_of_ble_eq_true rfl) dL_law_733 (fun x_733 I_733 J_733 h_733 => ?_)
  have C_733 := CI_low hC h_733.1 h_733.2.2.1
  have Q_733 := RX_low hQ h_733.1
  refine ww_popI hX (pc := 736) dL_law_736 ?_
  refine ww_aload_n hX (pc := 737) dL_law_737 rfl ?_
  refine ww_aload_nS hX (pc := 738) dL_law_738 rfl ?_
  refine ww_iload_n hX (pc := 739) dL_law_739 rfl ?_
  refine ww_iconst hX (pc := 740) (x := 1) dL_law_740 rfl ?_
  refine ww_iadd hX (pc := 741) dL_law_741 ?_
  refine ww_sld hX (pc := 742) hsc (by omega) (by omega) (by omega) dL_law_742 ?_
  refine vI1 hX (pc := 743) sL_98 (xs_49 C_733.1) (c_X11_hurts l0 C_733.1 Q_733 (aScr_r hsc _).1 (aScr_r hsc _).2) (by decide) (by omega) (by omega) (Nat.le_of_ble_eq_true rfl) dL_law_743 (fun x_743 I_743 J_743 h_743 => ?_)
  have cp_743 := CF_hurts hP hC h_733 h_743
  have C_743 := CI_ref C_733 (Ch_kp h_743.1 (by decide))
  have Q_743 := h_743.2.2.1
  have P_743 := cp_743
  refine ww_popI hX (pc := 746) dL_law_746 ?_
  refine ww_goto hX (pc := 747) (tgt := 1359) dL_law_747 (by decide) ?_
  exact kk _ _ _ _ _ _ C_743 Q_743 P_743 (by omega) (by omega)
set_option maxHeartbeats 4000000 in
set_option maxRecDepth 20000 in
theorem lc_20 {l0 : Launch} {X : aX} (hX : aK l0 X cL_law 4 RL ret 400 600000 7302250) {L : Nat} {sc : Nat → Int} (hsc : aScr X L sc) {i : Int} (hi0 : 0 ≤ i) (hi1 : i + 6 ≤ L) (hLL : L ≤ 3072) {I J : aI1} {R : aR1} {S : aS1} {uc us : Nat} (hC : CI I R S) (hQ : RX I) (hP : CPF I R) (huc : uc ≤ 500000) (hus : us ≤ 7000000) (kk : ∀ I' J' R' S' uc' us', CI I' R' S' → RX I' → CPF I' R' → uc' ≤ uc + 6 → us' ≤ us + 428 → WW X 1359 [some (kS 300), some (kR (some 0)), some (kR (some 49)), some (kI i)] [] I' J' R' S' uc' us') : WW X 750 [some (kS 300), some (kR (some 0)), some (kR (some 49)), some (kI i)] [] I J R S uc us := by
  refine ww_aload_n hX (pc := 750) dL_law_750 rfl ?_
  refine ww_aload_nS hX (pc := 751) dL_law_751 rfl ?_
  refine ww_iload_n hX (pc := 752) dL_law_752 rfl ?_
  refine ww_iconst hX (pc := 753) (x := 1) dL_law_753 rfl ?_
  refine ww_iadd hX (pc := 754) dL_law_754 ?_
  refine ww_sld hX (pc := 755) hsc (by omega) (by omega) (by omega) dL_law_755 ?_
  refine ww_aload_nS hX (pc := 756) dL_law_756 rfl ?_
  refine ww_iload_n hX (pc := 757) dL_law_757 rfl ?_
  refine ww_iconst hX (pc := 758) (x := 2) dL_law_758 rfl ?_
  refine ww_iadd hX (pc := 759) dL_law_759 ?_
  refine ww_sld hX (pc := 760) hsc (by omega) (by omega) (by omega) dL_law_760 ?_
  refine ww_aload_nS hX (pc := 761) dL_law_761 rfl ?_
  refine ww_iload_n hX (pc := 762) dL_law_762 rfl ?_
  refine ww_iconst hX (pc := 763) (x := 3) dL_law_763 rfl ?_
  refine ww_iadd hX (pc := 764) dL_law_764 ?_
  refine ww_sld hX (pc := 765) hsc (by omega) (by omega) (by omega) dL_law_765 ?_
  refine vI3 hX (pc := 766) sL_99 (xs_0 hC.1) (c5_X10_codes l0 hC.1 hC.2.1 (aScr_r hsc _).1 (aScr_r hsc _).2 (aScr_r hsc _).1 (aScr_r hsc _).2 (aScr_r hsc _).1 (aScr_r hsc _).2 hP.2.2.2.2.2.1) (by decide) (by omega) (by omega) (Nat.le_of_ble_eq_true rfl) dL_law_766 (fun x_766 I_766 J_766 h_766 => ?_)
  have C_766 := CI_low hC h_766.1 h_766.2.2.1
  have Q_766 := RX_low hQ h_766.1
  refine ww_popI hX (pc := 769) dL_law_769 ?_
  refine ww_aload_n hX (pc := 770) dL_law_770 rfl ?_
  refine ww_aload_nS hX (pc := 771) dL_law_771 rfl ?_
  refine ww_iload_n hX (pc := 772) dL_law_772 rfl ?_
  refine ww_iconst hX (pc := 773) (x := 1) dL_law_773 rfl ?_
  refine ww_iadd hX (pc := 774) dL_law_774 ?_
  refine ww_sld hX (pc := 775) hsc (by omega) (by omega) (by omega) dL_law_775 ?_
  refine ww_aload_nS hX (pc := 776) dL_law_776 rfl ?_
  refine ww_iload_n hX (pc := 777) dL_law_777 rfl ?_
  refine ww_iconst hX (pc := 778) (x := 2) dL_law_778 rfl ?_
  refine ww_iadd hX (pc := 779) dL_law_779 ?_
  refine ww_sld hX (pc := 780) hsc (by omega) (by omega) (by omega) dL_law_780 ?_
  refine ww_aload_nS hX (pc := 781) dL_law_781 rfl ?_
  refine ww_iload_n hX (pc := 782) dL_law_782 rfl ?_
  refine ww_iconst hX (pc := 783) (x := 3) dL_law_783 rfl ?_
  refine ww_iadd hX (pc := 784) dL_law_784 ?_
  refine ww_sld hX (pc := 785) hsc (by omega) (by omega) (by omega) dL_law_785 ?_
  refine vI3 hX (pc := 786) sL_102 (xs_49 C_766.1) (c5_X11_codes l0 C_766.1 Q_766 (aScr_r hsc _).1 (aScr_r hsc _).2 (aScr_r hsc _).1 (aScr_r hsc _).2 (aScr_r hsc _).1 (aScr_r hsc _).2) (by decide) (by omega) (by omega) (Nat.le_of_ble_eq_true rfl) dL_law_786 (fun x_786 I_786 J_786 h_786 => ?_)
  have cp_786 := CF_codes hP hC h_766 h_786
  have C_786 := CI_ref C_766 (Ch_kp h_786.1 (by decide))
  have Q_786 := h_786.2.2.1
  have P_786 := cp_786.1
  refine ww_popI hX (pc := 789) dL_law_789 ?_
  refine ww_goto hX (pc := 790) (tgt := 1359) dL_law_790 (by decide) ?_
  exact kk _ _ _ _ _ _ C_786 Q_786 P_786 (by omega) (by omega)
