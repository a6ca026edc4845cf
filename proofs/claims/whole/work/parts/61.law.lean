theorem lgc_self (x : Int64) : lg_cmp x x = 0 := by unfold lg_cmp; simp
theorem lc_feed {E : EvT} {b L : Nat} {xs : Nat → Int32} {T : Option Pv × HI} {I : HI} {i : Nat} (h : Lw E b L xs) (hi : i + 6 ≤ L) (hR : R I I) (K : ∀ J, R J J → G E 4 T J 1211 (lvL b i) []) : G E 4 T I 180 (lvL b i) [] := by
  have ok := h.1
  obtain ⟨hR1, he, hR2⟩ := pr_feed hR (xs (i + 1))
  refine g_aload_n (n := 181) ok 2 dL_law_180 rfl rfl rfl ?_
  refine g_arg (k := 1) (np := 186) h dL_law_181 dL_law_182 dL_law_183 dL_law_184 dL_law_185 rfl (by omega) rfl ?_
  refine g_callV (n := 189) (rest := []) (av := [vi (xs (i + 1))]) (j := 0) ok (kX5_feed I (xs (i + 1)) hR.hm) knX5_feed q182 q183 q184 clsX5 rfl dL_law_186 rfl rfl (Nat.le_of_ble_eq_true rfl) (by decide) (by decide) rfl ?_
  refine g_aload_n (n := 190) ok 1 dL_law_189 rfl rfl rfl ?_
  refine g_arg (k := 1) (np := 195) h dL_law_190 dL_law_191 dL_law_192 dL_law_193 dL_law_194 rfl (by omega) rfl ?_
  refine g_callV (n := 198) (rest := [vi ((fX5_feed I (xs (i + 1))).1)]) (av := [vi (xs (i + 1))]) (j := 52) ok (kX6_feed ((fX5_feed I (xs (i + 1))).2) (xs (i + 1)) hR1.hm6) knX6_feed q766 q767 q768 clsX6 rfl dL_law_195 rfl rfl (Nat.le_of_ble_eq_true rfl) (by decide) (by decide) rfl ?_
  exact g_icmp_eq (n := 201) (tgt := 1211) ok dL_law_198 (by decide) rfl (fun _ => K _ hR2) (fun q => absurd he q)
theorem lc_rink {E : EvT} {b L : Nat} {xs : Nat → Int32} {T : Option Pv × HI} {I : HI} {i : Nat} (h : Lw E b L xs) (hi : i + 6 ≤ L) (hR : R I I) (K : ∀ J, R J J → G E 4 T J 1211 (lvL b i) []) : G E 4 T I 203 (lvL b i) [] := by
  have ok := h.1
  obtain ⟨hR1, he, hR2⟩ := pr_rink hR
  refine g_aload_n (n := 204) ok 2 dL_law_203 rfl rfl rfl ?_
  refine g_callV (n := 207) (rest := []) (av := []) (j := 0) ok (kX5_rink I hR.hm hR.hd) knX5_rink q200 q201 q202 clsX5 rfl dL_law_204 rfl rfl (Nat.le_of_ble_eq_true rfl) (by decide) (by decide) rfl ?_
  refine g_aload_n (n := 208) ok 1 dL_law_207 rfl rfl rfl ?_
  refine g_callV (n := 211) (rest := [vi ((fX5_rink I).1)]) (av := []) (j := 52) ok (kX6_rink ((fX5_rink I).2) hR1.hm6 hR1.hd6) knX6_rink q774 q775 q776 clsX6 rfl dL_law_208 rfl rfl (Nat.le_of_ble_eq_true rfl) (by decide) (by decide) rfl ?_
  exact g_icmp_eq (n := 214) (tgt := 1211) ok dL_law_211 (by decide) rfl (fun _ => K _ hR2) (fun q => absurd he q)
theorem lc_ice {E : EvT} {b L : Nat} {xs : Nat → Int32} {T : Option Pv × HI} {I : HI} {i : Nat} (h : Lw E b L xs) (hi : i + 6 ≤ L) (hR : R I I) (K : ∀ J, R J J → G E 4 T J 1211 (lvL b i) []) : G E 4 T I 216 (lvL b i) [] := by
  have ok := h.1
  obtain ⟨hR1, he, hR2⟩ := pr_ice hR (xs (i + 1)) (xs (i + 2)) (xs (i + 3))
  refine g_aload_n (n := 217) ok 2 dL_law_216 rfl rfl rfl ?_
  refine g_arg (k := 1) (np := 222) h dL_law_217 dL_law_218 dL_law_219 dL_law_220 dL_law_221 rfl (by omega) rfl ?_
  refine g_arg (k := 2) (np := 227) h dL_law_222 dL_law_223 dL_law_224 dL_law_225 dL_law_226 rfl (by omega) rfl ?_
  refine g_arg (k := 3) (np := 232) h dL_law_227 dL_law_228 dL_law_229 dL_law_230 dL_law_231 rfl (by omega) rfl ?_
  refine g_callV (n := 235) (rest := []) (av := [vi (xs (i + 1)), vi (xs (i + 2)), vi (xs (i + 3))]) (j := 0) ok (kX5_ice I (xs (i + 1)) (xs (i + 2)) (xs (i + 3))) knX5_ice q335 q336 q337 clsX5 rfl dL_law_232 rfl rfl (Nat.le_of_ble_eq_true rfl) (by decide) (by decide) rfl ?_
  refine g_aload_n (n := 236) ok 1 dL_law_235 rfl rfl rfl ?_
  refine g_arg (k := 1) (np := 241) h dL_law_236 dL_law_237 dL_law_238 dL_law_239 dL_law_240 rfl (by omega) rfl ?_
  refine g_arg (k := 2) (np := 246) h dL_law_241 dL_law_242 dL_law_243 dL_law_244 dL_law_245 rfl (by omega) rfl ?_
  refine g_arg (k := 3) (np := 251) h dL_law_246 dL_law_247 dL_law_248 dL_law_249 dL_law_250 rfl (by omega) rfl ?_
  refine g_callV (n := 254) (rest := [vi ((fX5_ice I (xs (i + 1)) (xs (i + 2)) (xs (i + 3))).1)]) (av := [vi (xs (i + 1)), vi (xs (i + 2)), vi (xs (i + 3))]) (j := 52) ok (kX6_ice ((fX5_ice I (xs (i + 1)) (xs (i + 2)) (xs (i + 3))).2) (xs (i + 1)) (xs (i + 2)) (xs (i + 3))) knX6_ice q887 q888 q889 clsX6 rfl dL_law_251 rfl rfl (Nat.le_of_ble_eq_true rfl) (by decide) (by decide) rfl ?_
  exact g_icmp_eq (n := 257) (tgt := 1211) ok dL_law_254 (by decide) rfl (fun _ => K _ hR2) (fun q => absurd he q)
theorem lc_lay {E : EvT} {b L : Nat} {xs : Nat → Int32} {T : Option Pv × HI} {I : HI} {i : Nat} (h : Lw E b L xs) (hi : i + 6 ≤ L) (hR : R I I) (K : ∀ J, R J J → G E 4 T J 1211 (lvL b i) []) : G E 4 T I 259 (lvL b i) [] := by
  have ok := h.1
  obtain ⟨hR1, he, hR2⟩ := pr_lay hR (xs (i + 1)) (xs (i + 2)) (xs (i + 3)) (xs (i + 4))
  refine g_aload_n (n := 260) ok 2 dL_law_259 rfl rfl rfl ?_
  refine g_arg (k := 1) (np := 265) h dL_law_260 dL_law_261 dL_law_262 dL_law_263 dL_law_264 rfl (by omega) rfl ?_
  refine g_arg (k := 2) (np := 270) h dL_law_265 dL_law_266 dL_law_267 dL_law_268 dL_law_269 rfl (by omega) rfl ?_
  refine g_arg (k := 3) (np := 275) h dL_law_270 dL_law_271 dL_law_272 dL_law_273 dL_law_274 rfl (by omega) rfl ?_
  refine g_arg (k := 4) (np := 280) h dL_law_275 dL_law_276 dL_law_277 dL_law_278 dL_law_279 rfl (by omega) rfl ?_
  refine g_callV (n := 283) (rest := []) (av := [vi (xs (i + 1)), vi (xs (i + 2)), vi (xs (i + 3)), vi (xs (i + 4))]) (j := 0) ok (kX5_lay I (xs (i + 1)) (xs (i + 2)) (xs (i + 3)) (xs (i + 4))) knX5_lay q341 q342 q343 clsX5 rfl dL_law_280 rfl rfl (Nat.le_of_ble_eq_true rfl) (by decide) (by decide) rfl ?_
  refine g_aload_n (n := 284) ok 1 dL_law_283 rfl rfl rfl ?_
  refine g_arg (k := 1) (np := 289) h dL_law_284 dL_law_285 dL_law_286 dL_law_287 dL_law_288 rfl (by omega) rfl ?_
  refine g_arg (k := 2) (np := 294) h dL_law_289 dL_law_290 dL_law_291 dL_law_292 dL_law_293 rfl (by omega) rfl ?_
  refine g_arg (k := 3) (np := 299) h dL_law_294 dL_law_295 dL_law_296 dL_law_297 dL_law_298 rfl (by omega) rfl ?_
  refine g_arg (k := 4) (np := 304) h dL_law_299 dL_law_300 dL_law_301 dL_law_302 dL_law_303 rfl (by omega) rfl ?_
  refine g_callV (n := 307) (rest := [vi ((fX5_lay I (xs (i + 1)) (xs (i + 2)) (xs (i + 3)) (xs (i + 4))).1)]) (av := [vi (xs (i + 1)), vi (xs (i + 2)), vi (xs (i + 3)), vi (xs (i + 4))]) (j := 52) ok (kX6_lay ((fX5_lay I (xs (i + 1)) (xs (i + 2)) (xs (i + 3)) (xs (i + 4))).2) (xs (i + 1)) (xs (i + 2)) (xs (i + 3)) (xs (i + 4))) knX6_lay q891 q892 q893 clsX6 rfl dL_law_304 rfl rfl (Nat.le_of_ble_eq_true rfl) (by decide) (by decide) rfl ?_
  exact g_icmp_eq (n := 310) (tgt := 1211) ok dL_law_307 (by decide) rfl (fun _ => K _ hR2) (fun q => absurd he q)
theorem lc_set {E : EvT} {b L : Nat} {xs : Nat → Int32} {T : Option Pv × HI} {I : HI} {i : Nat} (h : Lw E b L xs) (hi : i + 6 ≤ L) (hR : R I I) (K : ∀ J, R J J → G E 4 T J 1211 (lvL b i) []) : G E 4 T I 312 (lvL b i) [] := by
  have ok := h.1
  obtain ⟨hR1, he, hR2⟩ := pr_set hR (xs (i + 1)) (xs (i + 2))
  refine g_aload_n (n := 313) ok 2 dL_law_312 rfl rfl rfl ?_
  refine g_arg (k := 1) (np := 318) h dL_law_313 dL_law_314 dL_law_315 dL_law_316 dL_law_317 rfl (by omega) rfl ?_
  refine g_arg (k := 2) (np := 323) h dL_law_318 dL_law_319 dL_law_320 dL_law_321 dL_law_322 rfl (by omega) rfl ?_
  refine g_callV (n := 326) (rest := []) (av := [vi (xs (i + 1)), vi (xs (i + 2))]) (j := 0) ok (kX5_set I (xs (i + 1)) (xs (i + 2))) knX5_set q345 q346 q347 clsX5 rfl dL_law_323 rfl rfl (Nat.le_of_ble_eq_true rfl) (by decide) (by decide) rfl ?_
  refine g_aload_n (n := 327) ok 1 dL_law_326 rfl rfl rfl ?_
  refine g_arg (k := 1) (np := 332) h dL_law_327 dL_law_328 dL_law_329 dL_law_330 dL_law_331 rfl (by omega) rfl ?_
  refine g_arg (k := 2) (np := 337) h dL_law_332 dL_law_333 dL_law_334 dL_law_335 dL_law_336 rfl (by omega) rfl ?_
  refine g_callV (n := 340) (rest := [vi ((fX5_set I (xs (i + 1)) (xs (i + 2))).1)]) (av := [vi (xs (i + 1)), vi (xs (i + 2))]) (j := 52) ok (kX6_set ((fX5_set I (xs (i + 1)) (xs (i + 2))).2) (xs (i + 1)) (xs (i + 2))) knX6_set q898 q899 q900 clsX6 rfl dL_law_337 rfl rfl (Nat.le_of_ble_eq_true rfl) (by decide) (by decide) rfl ?_
  exact g_icmp_eq (n := 343) (tgt := 1211) ok dL_law_340 (by decide) rfl (fun _ => K _ hR2) (fun q => absurd he q)
theorem lc_skater {E : EvT} {b L : Nat} {xs : Nat → Int32} {T : Option Pv × HI} {I : HI} {i : Nat} (h : Lw E b L xs) (hi : i + 6 ≤ L) (hR : R I I) (K : ∀ J, R J J → G E 4 T J 1211 (lvL b i) []) : G E 4 T I 345 (lvL b i) [] := by
  have ok := h.1
  obtain ⟨hR1, he, hR2⟩ := pr_skater hR (xs (i + 1)) (xs (i + 2))
  refine g_aload_n (n := 346) ok 2 dL_law_345 rfl rfl rfl ?_
  refine g_arg (k := 1) (np := 351) h dL_law_346 dL_law_347 dL_law_348 dL_law_349 dL_law_350 rfl (by omega) rfl ?_
  refine g_arg (k := 2) (np := 356) h dL_law_351 dL_law_352 dL_law_353 dL_law_354 dL_law_355 rfl (by omega) rfl ?_
  refine g_callV (n := 359) (rest := []) (av := [vi (xs (i + 1)), vi (xs (i + 2))]) (j := 0) ok (kX5_skater I (xs (i + 1)) (xs (i + 2))) knX5_skater q349 q350 q351 clsX5 rfl dL_law_356 rfl rfl (Nat.le_of_ble_eq_true rfl) (by decide) (by decide) rfl ?_
  refine g_aload_n (n := 360) ok 1 dL_law_359 rfl rfl rfl ?_
  refine g_arg (k := 1) (np := 365) h dL_law_360 dL_law_361 dL_law_362 dL_law_363 dL_law_364 rfl (by omega) rfl ?_
  refine g_arg (k := 2) (np := 370) h dL_law_365 dL_law_366 dL_law_367 dL_law_368 dL_law_369 rfl (by omega) rfl ?_
  refine g_callV (n := 373) (rest := [vi ((fX5_skater I (xs (i + 1)) (xs (i + 2))).1)]) (av := [vi (xs (i + 1)), vi (xs (i + 2))]) (j := 52) ok (kX6_skater ((fX5_skater I (xs (i + 1)) (xs (i + 2))).2) (xs (i + 1)) (xs (i + 2))) knX6_skater q902 q903 q904 clsX6 rfl dL_law_370 rfl rfl (Nat.le_of_ble_eq_true rfl) (by decide) (by decide) rfl ?_
  exact g_icmp_eq (n := 376) (tgt := 1211) ok dL_law_373 (by decide) rfl (fun _ => K _ hR2) (fun q => absurd he q)
theorem lc_draw {E : EvT} {b L : Nat} {xs : Nat → Int32} {T : Option Pv × HI} {I : HI} {i : Nat} (h : Lw E b L xs) (hi : i + 6 ≤ L) (hR : R I I) (K : ∀ J, R J J → G E 4 T J 1211 (lvL b i) []) : G E 4 T I 378 (lvL b i) [] := by
  have ok := h.1
  obtain ⟨hR1, he, hR2⟩ := pr_draw hR (xs (i + 1)) (xs (i + 2)) (xs (i + 3))
  refine g_aload_n (n := 379) ok 2 dL_law_378 rfl rfl rfl ?_
  refine g_arg (k := 1) (np := 384) h dL_law_379 dL_law_380 dL_law_381 dL_law_382 dL_law_383 rfl (by omega) rfl ?_
  refine g_arg (k := 2) (np := 389) h dL_law_384 dL_law_385 dL_law_386 dL_law_387 dL_law_388 rfl (by omega) rfl ?_
  refine g_arg (k := 3) (np := 394) h dL_law_389 dL_law_390 dL_law_391 dL_law_392 dL_law_393 rfl (by omega) rfl ?_
  refine g_callV (n := 397) (rest := []) (av := [vi (xs (i + 1)), vi (xs (i + 2)), vi (xs (i + 3))]) (j := 0) ok (kX5_draw I (xs (i + 1)) (xs (i + 2)) (xs (i + 3)) hR.hd) knX5_draw q353 q354 q355 clsX5 rfl dL_law_394 rfl rfl (Nat.le_of_ble_eq_true rfl) (by decide) (by decide) rfl ?_
  refine g_aload_n (n := 398) ok 1 dL_law_397 rfl rfl rfl ?_
  refine g_arg (k := 1) (np := 403) h dL_law_398 dL_law_399 dL_law_400 dL_law_401 dL_law_402 rfl (by omega) rfl ?_
  refine g_arg (k := 2) (np := 408) h dL_law_403 dL_law_404 dL_law_405 dL_law_406 dL_law_407 rfl (by omega) rfl ?_
  refine g_arg (k := 3) (np := 413) h dL_law_408 dL_law_409 dL_law_410 dL_law_411 dL_law_412 rfl (by omega) rfl ?_
  refine g_callV (n := 416) (rest := [vi ((fX5_draw I (xs (i + 1)) (xs (i + 2)) (xs (i + 3))).1)]) (av := [vi (xs (i + 1)), vi (xs (i + 2)), vi (xs (i + 3))]) (j := 52) ok (kX6_draw ((fX5_draw I (xs (i + 1)) (xs (i + 2)) (xs (i + 3))).2) (xs (i + 1)) (xs (i + 2)) (xs (i + 3)) hR1.hd6) knX6_draw q907 q908 q909 clsX6 rfl dL_law_413 rfl rfl (Nat.le_of_ble_eq_true rfl) (by decide) (by decide) rfl ?_
  exact g_icmp_eq (n := 419) (tgt := 1211) ok dL_law_416 (by decide) rfl (fun _ => K _ hR2) (fun q => absurd he q)
theorem lc_sweep {E : EvT} {b L : Nat} {xs : Nat → Int32} {T : Option Pv × HI} {I : HI} {i : Nat} (h : Lw E b L xs) (hi : i + 6 ≤ L) (hR : R I I) (K : ∀ J, R J J → G E 4 T J 1211 (lvL b i) []) : G E 4 T I 421 (lvL b i) [] := by
  have ok := h.1
  obtain ⟨hR1, he, hR2⟩ := pr_sweep hR
  refine g_aload_n (n := 422) ok 2 dL_law_421 rfl rfl rfl ?_
  refine g_callV (n := 425) (rest := []) (av := []) (j := 0) ok (kX5_sweep I) knX5_sweep q362 q363 q364 clsX5 rfl dL_law_422 rfl rfl (Nat.le_of_ble_eq_true rfl) (by decide) (by decide) rfl ?_
  refine g_aload_n (n := 426) ok 1 dL_law_425 rfl rfl rfl ?_
  refine g_callV (n := 429) (rest := [vi ((fX5_sweep I).1)]) (av := []) (j := 52) ok (kX6_sweep ((fX5_sweep I).2)) knX6_sweep q911 q912 q913 clsX6 rfl dL_law_426 rfl rfl (Nat.le_of_ble_eq_true rfl) (by decide) (by decide) rfl ?_
  exact g_icmp_eq (n := 432) (tgt := 1211) ok dL_law_429 (by decide) rfl (fun _ => K _ hR2) (fun q => absurd he q)
theorem lc_trace {E : EvT} {b L : Nat} {xs : Nat → Int32} {T : Option Pv × HI} {I : HI} {i : Nat} (h : Lw E b L xs) (hi : i + 6 ≤ L) (hR : R I I) (K : ∀ J, R J J → G E 4 T J 1211 (lvL b i) []) : G E 4 T I 434 (lvL b i) [] := by
  have ok := h.1
  obtain ⟨hR1, he, hR2⟩ := pr_trace hR (xs (i + 1)) (xs (i + 2))
  refine g_aload_n (n := 435) ok 2 dL_law_434 rfl rfl rfl ?_
  refine g_arg (k := 1) (np := 440) h dL_law_435 dL_law_436 dL_law_437 dL_law_438 dL_law_439 rfl (by omega) rfl ?_
  refine g_arg (k := 2) (np := 445) h dL_law_440 dL_law_441 dL_law_442 dL_law_443 dL_law_444 rfl (by omega) rfl ?_
  refine g_callV (n := 448) (rest := []) (av := [vi (xs (i + 1)), vi (xs (i + 2))]) (j := 0) ok (kX5_trace I (xs (i + 1)) (xs (i + 2)) hR.hd) knX5_trace q366 q367 q368 clsX5 rfl dL_law_445 rfl rfl (Nat.le_of_ble_eq_true rfl) (by decide) (by decide) rfl ?_
  refine g_aload_n (n := 449) ok 1 dL_law_448 rfl rfl rfl ?_
  refine g_arg (k := 1) (np := 454) h dL_law_449 dL_law_450 dL_law_451 dL_law_452 dL_law_453 rfl (by omega) rfl ?_
  refine g_arg (k := 2) (np := 459) h dL_law_454 dL_law_455 dL_law_456 dL_law_457 dL_law_458 rfl (by omega) rfl ?_
  refine g_callV (n := 462) (rest := [vi ((fX5_trace I (xs (i + 1)) (xs (i + 2))).1)]) (av := [vi (xs (i + 1)), vi (xs (i + 2))]) (j := 52) ok (kX6_trace ((fX5_trace I (xs (i + 1)) (xs (i + 2))).2) (xs (i + 1)) (xs (i + 2)) hR1.hd6) knX6_trace q915 q916 q917 clsX6 rfl dL_law_459 rfl rfl (Nat.le_of_ble_eq_true rfl) (by decide) (by decide) rfl ?_
  exact g_icmp_eq (n := 465) (tgt := 1211) ok dL_law_462 (by decide) rfl (fun _ => K _ hR2) (fun q => absurd he q)
theorem lc_of {E : EvT} {b L : Nat} {xs : Nat → Int32} {T : Option Pv × HI} {I : HI} {i : Nat} (h : Lw E b L xs) (hi : i + 6 ≤ L) (hR : R I I) (K : ∀ J, R J J → G E 4 T J 1211 (lvL b i) []) : G E 4 T I 467 (lvL b i) [] := by
  have ok := h.1
  obtain ⟨hR1, he, hR2⟩ := pr_of hR (xs (i + 1)) (xs (i + 2))
  refine g_aload_n (n := 468) ok 2 dL_law_467 rfl rfl rfl ?_
  refine g_arg (k := 1) (np := 473) h dL_law_468 dL_law_469 dL_law_470 dL_law_471 dL_law_472 rfl (by omega) rfl ?_
  refine g_arg (k := 2) (np := 478) h dL_law_473 dL_law_474 dL_law_475 dL_law_476 dL_law_477 rfl (by omega) rfl ?_
  refine g_callV (n := 481) (rest := []) (av := [vi (xs (i + 1)), vi (xs (i + 2))]) (j := 0) ok (kX5_of I (xs (i + 1)) (xs (i + 2)) hR.hd hR.hF) knX5_of q375 q376 q377 clsX5 rfl dL_law_478 rfl rfl (Nat.le_of_ble_eq_true rfl) (by decide) (by decide) rfl ?_
  refine g_aload_n (n := 482) ok 1 dL_law_481 rfl rfl rfl ?_
  refine g_arg (k := 1) (np := 487) h dL_law_482 dL_law_483 dL_law_484 dL_law_485 dL_law_486 rfl (by omega) rfl ?_
  refine g_arg (k := 2) (np := 492) h dL_law_487 dL_law_488 dL_law_489 dL_law_490 dL_law_491 rfl (by omega) rfl ?_
  refine g_callV (n := 495) (rest := [vi ((fX5_of I (xs (i + 1)) (xs (i + 2))).1)]) (av := [vi (xs (i + 1)), vi (xs (i + 2))]) (j := 52) ok (kX6_of ((fX5_of I (xs (i + 1)) (xs (i + 2))).2) (xs (i + 1)) (xs (i + 2)) hR1.hd6 hR1.hF6) knX6_of q923 q924 q925 clsX6 rfl dL_law_492 rfl rfl (Nat.le_of_ble_eq_true rfl) (by decide) (by decide) rfl ?_
  exact g_icmp_eq (n := 498) (tgt := 1211) ok dL_law_495 (by decide) rfl (fun _ => K _ hR2) (fun q => absurd he q)
theorem lc_mean {E : EvT} {b L : Nat} {xs : Nat → Int32} {T : Option Pv × HI} {I : HI} {i : Nat} (h : Lw E b L xs) (hi : i + 6 ≤ L) (hR : R I I) (K : ∀ J, R J J → G E 4 T J 1211 (lvL b i) []) : G E 4 T I 500 (lvL b i) [] := by
  have ok := h.1
  obtain ⟨hR1, he, hR2⟩ := pr_mean hR (xs (i + 1)) (xs (i + 2))
  refine g_aload_n (n := 501) ok 2 dL_law_500 rfl rfl rfl ?_
  refine g_arg (k := 1) (np := 506) h dL_law_501 dL_law_502 dL_law_503 dL_law_504 dL_law_505 rfl (by omega) rfl ?_
  refine g_arg (k := 2) (np := 511) h dL_law_506 dL_law_507 dL_law_508 dL_law_509 dL_law_510 rfl (by omega) rfl ?_
  refine g_callV (n := 514) (rest := []) (av := [vi (xs (i + 1)), vi (xs (i + 2))]) (j := 0) ok (kX5_mean I (xs (i + 1)) (xs (i + 2)) hR.hd) knX5_mean q417 q418 q419 clsX5 rfl dL_law_511 rfl rfl (Nat.le_of_ble_eq_true rfl) (by decide) (by decide) rfl ?_
  refine g_aload_n (n := 515) ok 1 dL_law_514 rfl rfl rfl ?_
  refine g_arg (k := 1) (np := 520) h dL_law_515 dL_law_516 dL_law_517 dL_law_518 dL_law_519 rfl (by omega) rfl ?_
  refine g_arg (k := 2) (np := 525) h dL_law_520 dL_law_521 dL_law_522 dL_law_523 dL_law_524 rfl (by omega) rfl ?_
  refine g_callV (n := 528) (rest := [vl ((fX5_mean I (xs (i + 1)) (xs (i + 2))).1)]) (av := [vi (xs (i + 1)), vi (xs (i + 2))]) (j := 52) ok (kX6_mean ((fX5_mean I (xs (i + 1)) (xs (i + 2))).2) (xs (i + 1)) (xs (i + 2)) hR1.hd6) knX6_mean q955 q956 q957 clsX6 rfl dL_law_525 rfl rfl (Nat.le_of_ble_eq_true rfl) (by decide) (by decide) rfl ?_
  refine g_lcmp (n := 529) ok dL_law_528 rfl ?_
  exact g_if_eq (n := 532) (tgt := 1211) ok dL_law_529 (by decide) rfl (fun _ => K _ hR2) (fun q => absurd (by rw [he]; exact lgc_self _) q)
theorem lc_close {E : EvT} {b L : Nat} {xs : Nat → Int32} {T : Option Pv × HI} {I : HI} {i : Nat} (h : Lw E b L xs) (hi : i + 6 ≤ L) (hR : R I I) (K : ∀ J, R J J → G E 4 T J 1211 (lvL b i) []) : G E 4 T I 534 (lvL b i) [] := by
  have ok := h.1
  obtain ⟨hR1, he, hR2⟩ := pr_close hR (xs (i + 1)) (xs (i + 2))
  refine g_aload_n (n := 535) ok 2 dL_law_534 rfl rfl rfl ?_
  refine g_arg (k := 1) (np := 540) h dL_law_535 dL_law_536 dL_law_537 dL_law_538 dL_law_539 rfl (by omega) rfl ?_
  refine g_arg (k := 2) (np := 545) h dL_law_540 dL_law_541 dL_law_542 dL_law_543 dL_law_544 rfl (by omega) rfl ?_
  refine g_callV (n := 548) (rest := []) (av := [vi (xs (i + 1)), vi (xs (i + 2))]) (j := 0) ok (kX5_close I (xs (i + 1)) (xs (i + 2)) hR.hd) knX5_close q436 q437 q438 clsX5 rfl dL_law_545 rfl rfl (Nat.le_of_ble_eq_true rfl) (by decide) (by decide) rfl ?_
  refine g_aload_n (n := 549) ok 1 dL_law_548 rfl rfl rfl ?_
  refine g_arg (k := 1) (np := 554) h dL_law_549 dL_law_550 dL_law_551 dL_law_552 dL_law_553 rfl (by omega) rfl ?_
  refine g_arg (k := 2) (np := 559) h dL_law_554 dL_law_555 dL_law_556 dL_law_557 dL_law_558 rfl (by omega) rfl ?_
  refine g_callV (n := 562) (rest := [vi ((fX5_close I (xs (i + 1)) (xs (i + 2))).1)]) (av := [vi (xs (i + 1)), vi (xs (i + 2))]) (j := 52) ok (kX6_close ((fX5_close I (xs (i + 1)) (xs (i + 2))).2) (xs (i + 1)) (xs (i + 2)) hR1.hd6) knX6_close q966 q967 q968 clsX6 rfl dL_law_559 rfl rfl (Nat.le_of_ble_eq_true rfl) (by decide) (by decide) rfl ?_
  exact g_icmp_eq (n := 565) (tgt := 1211) ok dL_law_562 (by decide) rfl (fun _ => K _ hR2) (fun q => absurd he q)
theorem lc_spread {E : EvT} {b L : Nat} {xs : Nat → Int32} {T : Option Pv × HI} {I : HI} {i : Nat} (h : Lw E b L xs) (hi : i + 6 ≤ L) (hR : R I I) (K : ∀ J, R J J → G E 4 T J 1211 (lvL b i) []) : G E 4 T I 567 (lvL b i) [] := by
  have ok := h.1
  obtain ⟨hR1, he, hR2⟩ := pr_spread hR (xs (i + 1))
  refine g_aload_n (n := 568) ok 2 dL_law_567 rfl rfl rfl ?_
  refine g_arg (k := 1) (np := 573) h dL_law_568 dL_law_569 dL_law_570 dL_law_571 dL_law_572 rfl (by omega) rfl ?_
  refine g_callV (n := 576) (rest := []) (av := [vi (xs (i + 1))]) (j := 0) ok (kX5_spread I (xs (i + 1)) hR.hd) knX5_spread q444 q445 q446 clsX5 rfl dL_law_573 rfl rfl (Nat.le_of_ble_eq_true rfl) (by decide) (by decide) rfl ?_
  refine g_aload_n (n := 577) ok 1 dL_law_576 rfl rfl rfl ?_
  refine g_arg (k := 1) (np := 582) h dL_law_577 dL_law_578 dL_law_579 dL_law_580 dL_law_581 rfl (by omega) rfl ?_
  refine g_callV (n := 585) (rest := [vi ((fX5_spread I (xs (i + 1))).1)]) (av := [vi (xs (i + 1))]) (j := 52) ok (kX6_spread ((fX5_spread I (xs (i + 1))).2) (xs (i + 1)) hR1.hd6) knX6_spread q974 q975 q976 clsX6 rfl dL_law_582 rfl rfl (Nat.le_of_ble_eq_true rfl) (by decide) (by decide) rfl ?_
  exact g_icmp_eq (n := 588) (tgt := 1211) ok dL_law_585 (by decide) rfl (fun _ => K _ hR2) (fun q => absurd he q)
theorem lc_next {E : EvT} {b L : Nat} {xs : Nat → Int32} {T : Option Pv × HI} {I : HI} {i : Nat} (h : Lw E b L xs) (hi : i + 6 ≤ L) (hR : R I I) (K : ∀ J, R J J → G E 4 T J 1211 (lvL b i) []) : G E 4 T I 590 (lvL b i) [] := by
  have ok := h.1
  obtain ⟨hR1, he, hR2⟩ := pr_next hR (xs (i + 1)) (xs (i + 2)) (xs (i + 3)) (xs (i + 4))
  refine g_aload_n (n := 591) ok 2 dL_law_590 rfl rfl rfl ?_
  refine g_arg (k := 1) (np := 596) h dL_law_591 dL_law_592 dL_law_593 dL_law_594 dL_law_595 rfl (by omega) rfl ?_
  refine g_arg (k := 2) (np := 601) h dL_law_596 dL_law_597 dL_law_598 dL_law_599 dL_law_600 rfl (by omega) rfl ?_
  refine g_arg (k := 3) (np := 606) h dL_law_601 dL_law_602 dL_law_603 dL_law_604 dL_law_605 rfl (by omega) rfl ?_
  refine g_arg (k := 4) (np := 611) h dL_law_606 dL_law_607 dL_law_608 dL_law_609 dL_law_610 rfl (by omega) rfl ?_
  refine g_callV (n := 614) (rest := []) (av := [vi (xs (i + 1)), vi (xs (i + 2)), vi (xs (i + 3)), vi (xs (i + 4))]) (j := 0) ok (kX5_next I (xs (i + 1)) (xs (i + 2)) (xs (i + 3)) (xs (i + 4)) hR.hd) knX5_next q456 q457 q458 clsX5 rfl dL_law_611 rfl rfl (Nat.le_of_ble_eq_true rfl) (by decide) (by decide) rfl ?_
  refine g_aload_n (n := 615) ok 1 dL_law_614 rfl rfl rfl ?_
  refine g_arg (k := 1) (np := 620) h dL_law_615 dL_law_616 dL_law_617 dL_law_618 dL_law_619 rfl (by omega) rfl ?_
  refine g_arg (k := 2) (np := 625) h dL_law_620 dL_law_621 dL_law_622 dL_law_623 dL_law_624 rfl (by omega) rfl ?_
  refine g_arg (k := 3) (np := 630) h dL_law_625 dL_law_626 dL_law_627 dL_law_628 dL_law_629 rfl (by omega) rfl ?_
  refine g_arg (k := 4) (np := 635) h dL_law_630 dL_law_631 dL_law_632 dL_law_633 dL_law_634 rfl (by omega) rfl ?_
  refine g_callV (n := 638) (rest := [vi ((fX5_next I (xs (i + 1)) (xs (i + 2)) (xs (i + 3)) (xs (i + 4))).1)]) (av := [vi (xs (i + 1)), vi (xs (i + 2)), vi (xs (i + 3)), vi (xs (i + 4))]) (j := 52) ok (kX6_next ((fX5_next I (xs (i + 1)) (xs (i + 2)) (xs (i + 3)) (xs (i + 4))).2) (xs (i + 1)) (xs (i + 2)) (xs (i + 3)) (xs (i + 4)) hR1.hd6) knX6_next q978 q979 q980 clsX6 rfl dL_law_635 rfl rfl (Nat.le_of_ble_eq_true rfl) (by decide) (by decide) rfl ?_
  exact g_icmp_eq (n := 641) (tgt := 1211) ok dL_law_638 (by decide) rfl (fun _ => K _ hR2) (fun q => absurd he q)
theorem lc_grows {E : EvT} {b L : Nat} {xs : Nat → Int32} {T : Option Pv × HI} {I : HI} {i : Nat} (h : Lw E b L xs) (hi : i + 6 ≤ L) (hR : R I I) (K : ∀ J, R J J → G E 4 T J 1211 (lvL b i) []) : G E 4 T I 643 (lvL b i) [] := by
  have ok := h.1
  obtain ⟨hR1, he, hR2⟩ := pr_grows hR (xs (i + 1)) (xs (i + 2)) (xs (i + 3)) (xs (i + 4)) (xs (i + 5))
  refine g_aload_n (n := 644) ok 2 dL_law_643 rfl rfl rfl ?_
  refine g_arg (k := 1) (np := 649) h dL_law_644 dL_law_645 dL_law_646 dL_law_647 dL_law_648 rfl (by omega) rfl ?_
  refine g_arg (k := 2) (np := 654) h dL_law_649 dL_law_650 dL_law_651 dL_law_652 dL_law_653 rfl (by omega) rfl ?_
  refine g_arg (k := 3) (np := 659) h dL_law_654 dL_law_655 dL_law_656 dL_law_657 dL_law_658 rfl (by omega) rfl ?_
  refine g_arg (k := 4) (np := 664) h dL_law_659 dL_law_660 dL_law_661 dL_law_662 dL_law_663 rfl (by omega) rfl ?_
  refine g_arg (k := 5) (np := 669) h dL_law_664 dL_law_665 dL_law_666 dL_law_667 dL_law_668 rfl (by omega) rfl ?_
  refine g_callV (n := 672) (rest := []) (av := [vi (xs (i + 1)), vi (xs (i + 2)), vi (xs (i + 3)), vi (xs (i + 4)), vi (xs (i + 5))]) (j := 0) ok (kX5_grows I (xs (i + 1)) (xs (i + 2)) (xs (i + 3)) (xs (i + 4)) (xs (i + 5)) hR.hd) knX5_grows q471 q472 q473 clsX5 rfl dL_law_669 rfl rfl (Nat.le_of_ble_eq_true rfl) (by decide) (by decide) rfl ?_
  refine g_aload_n (n := 673) ok 1 dL_law_672 rfl rfl rfl ?_
  refine g_arg (k := 1) (np := 678) h dL_law_673 dL_law_674 dL_law_675 dL_law_676 dL_law_677 rfl (by omega) rfl ?_
  refine g_arg (k := 2) (np := 683) h dL_law_678 dL_law_679 dL_law_680 dL_law_681 dL_law_682 rfl (by omega) rfl ?_
  refine g_arg (k := 3) (np := 688) h dL_law_683 dL_law_684 dL_law_685 dL_law_686 dL_law_687 rfl (by omega) rfl ?_
  refine g_arg (k := 4) (np := 693) h dL_law_688 dL_law_689 dL_law_690 dL_law_691 dL_law_692 rfl (by omega) rfl ?_
  refine g_arg (k := 5) (np := 698) h dL_law_693 dL_law_694 dL_law_695 dL_law_696 dL_law_697 rfl (by omega) rfl ?_
  refine g_callV (n := 701) (rest := [vi ((fX5_grows I (xs (i + 1)) (xs (i + 2)) (xs (i + 3)) (xs (i + 4)) (xs (i + 5))).1)]) (av := [vi (xs (i + 1)), vi (xs (i + 2)), vi (xs (i + 3)), vi (xs (i + 4)), vi (xs (i + 5))]) (j := 52) ok (kX6_grows ((fX5_grows I (xs (i + 1)) (xs (i + 2)) (xs (i + 3)) (xs (i + 4)) (xs (i + 5))).2) (xs (i + 1)) (xs (i + 2)) (xs (i + 3)) (xs (i + 4)) (xs (i + 5)) hR1.hd6) knX6_grows q987 q988 q989 clsX6 rfl dL_law_698 rfl rfl (Nat.le_of_ble_eq_true rfl) (by decide) (by decide) rfl ?_
  exact g_icmp_eq (n := 704) (tgt := 1211) ok dL_law_701 (by decide) rfl (fun _ => K _ hR2) (fun q => absurd he q)
theorem lc_calm {E : EvT} {b L : Nat} {xs : Nat → Int32} {T : Option Pv × HI} {I : HI} {i : Nat} (h : Lw E b L xs) (hi : i + 6 ≤ L) (hR : R I I) (K : ∀ J, R J J → G E 4 T J 1211 (lvL b i) []) : G E 4 T I 706 (lvL b i) [] := by
  have ok := h.1
  obtain ⟨hR1, he, hR2⟩ := pr_calm hR (xs (i + 1)) (xs (i + 2)) (xs (i + 3)) (xs (i + 4))
  refine g_aload_n (n := 707) ok 2 dL_law_706 rfl rfl rfl ?_
  refine g_arg (k := 1) (np := 712) h dL_law_707 dL_law_708 dL_law_709 dL_law_710 dL_law_711 rfl (by omega) rfl ?_
  refine g_arg (k := 2) (np := 717) h dL_law_712 dL_law_713 dL_law_714 dL_law_715 dL_law_716 rfl (by omega) rfl ?_
  refine g_arg (k := 3) (np := 722) h dL_law_717 dL_law_718 dL_law_719 dL_law_720 dL_law_721 rfl (by omega) rfl ?_
  refine g_arg (k := 4) (np := 727) h dL_law_722 dL_law_723 dL_law_724 dL_law_725 dL_law_726 rfl (by omega) rfl ?_
  refine g_callV (n := 730) (rest := []) (av := [vi (xs (i + 1)), vi (xs (i + 2)), vi (xs (i + 3)), vi (xs (i + 4))]) (j := 0) ok (kX5_calm I (xs (i + 1)) (xs (i + 2)) (xs (i + 3)) (xs (i + 4)) hR.hd) knX5_calm q488 q489 q490 clsX5 rfl dL_law_727 rfl rfl (Nat.le_of_ble_eq_true rfl) (by decide) (by decide) rfl ?_
  refine g_aload_n (n := 731) ok 1 dL_law_730 rfl rfl rfl ?_
  refine g_arg (k := 1) (np := 736) h dL_law_731 dL_law_732 dL_law_733 dL_law_734 dL_law_735 rfl (by omega) rfl ?_
  refine g_arg (k := 2) (np := 741) h dL_law_736 dL_law_737 dL_law_738 dL_law_739 dL_law_740 rfl (by omega) rfl ?_
  refine g_arg (k := 3) (np := 746) h dL_law_741 dL_law_742 dL_law_743 dL_law_744 dL_law_745 rfl (by omega) rfl ?_
  refine g_arg (k := 4) (np := 751) h dL_law_746 dL_law_747 dL_law_748 dL_law_749 dL_law_750 rfl (by omega) rfl ?_
  refine g_callV (n := 754) (rest := [vi ((fX5_calm I (xs (i + 1)) (xs (i + 2)) (xs (i + 3)) (xs (i + 4))).1)]) (av := [vi (xs (i + 1)), vi (xs (i + 2)), vi (xs (i + 3)), vi (xs (i + 4))]) (j := 52) ok (kX6_calm ((fX5_calm I (xs (i + 1)) (xs (i + 2)) (xs (i + 3)) (xs (i + 4))).2) (xs (i + 1)) (xs (i + 2)) (xs (i + 3)) (xs (i + 4)) hR1.hd6) knX6_calm q999 q1000 q1001 clsX6 rfl dL_law_751 rfl rfl (Nat.le_of_ble_eq_true rfl) (by decide) (by decide) rfl ?_
  exact g_icmp_eq (n := 757) (tgt := 1211) ok dL_law_754 (by decide) rfl (fun _ => K _ hR2) (fun q => absurd he q)
theorem lc_closes {E : EvT} {b L : Nat} {xs : Nat → Int32} {T : Option Pv × HI} {I : HI} {i : Nat} (h : Lw E b L xs) (hi : i + 6 ≤ L) (hR : R I I) (K : ∀ J, R J J → G E 4 T J 1211 (lvL b i) []) : G E 4 T I 759 (lvL b i) [] := by
  have ok := h.1
  obtain ⟨hR1, he, hR2⟩ := pr_closes hR (xs (i + 1))
  refine g_aload_n (n := 760) ok 2 dL_law_759 rfl rfl rfl ?_
  refine g_arg (k := 1) (np := 765) h dL_law_760 dL_law_761 dL_law_762 dL_law_763 dL_law_764 rfl (by omega) rfl ?_
  refine g_callV (n := 768) (rest := []) (av := [vi (xs (i + 1))]) (j := 0) ok (kX5_closes I (xs (i + 1)) hR.hd) knX5_closes q492 q493 q494 clsX5 rfl dL_law_765 rfl rfl (Nat.le_of_ble_eq_true rfl) (by decide) (by decide) rfl ?_
  refine g_aload_n (n := 769) ok 1 dL_law_768 rfl rfl rfl ?_
  refine g_arg (k := 1) (np := 774) h dL_law_769 dL_law_770 dL_law_771 dL_law_772 dL_law_773 rfl (by omega) rfl ?_
  refine g_callV (n := 777) (rest := [vi ((fX5_closes I (xs (i + 1))).1)]) (av := [vi (xs (i + 1))]) (j := 52) ok (kX6_closes ((fX5_closes I (xs (i + 1))).2) (xs (i + 1)) hR1.hd6) knX6_closes q1003 q1004 q1005 clsX6 rfl dL_law_774 rfl rfl (Nat.le_of_ble_eq_true rfl) (by decide) (by decide) rfl ?_
  exact g_icmp_eq (n := 780) (tgt := 1211) ok dL_law_777 (by decide) rfl (fun _ => K _ hR2) (fun q => absurd he q)
theorem lc_correct {E : EvT} {b L : Nat} {xs : Nat → Int32} {T : Option Pv × HI} {I : HI} {i : Nat} (h : Lw E b L xs) (hi : i + 6 ≤ L) (hR : R I I) (K : ∀ J, R J J → G E 4 T J 1211 (lvL b i) []) : G E 4 T I 782 (lvL b i) [] := by
  have ok := h.1
  obtain ⟨hR1, he, hR2⟩ := pr_correct hR (xs (i + 1)) (xs (i + 2)) (xs (i + 3))
  refine g_aload_n (n := 783) ok 2 dL_law_782 rfl rfl rfl ?_
  refine g_arg (k := 1) (np := 788) h dL_law_783 dL_law_784 dL_law_785 dL_law_786 dL_law_787 rfl (by omega) rfl ?_
  refine g_arg (k := 2) (np := 793) h dL_law_788 dL_law_789 dL_law_790 dL_law_791 dL_law_792 rfl (by omega) rfl ?_
  refine g_arg (k := 3) (np := 798) h dL_law_793 dL_law_794 dL_law_795 dL_law_796 dL_law_797 rfl (by omega) rfl ?_
  refine g_callV (n := 801) (rest := []) (av := [vi (xs (i + 1)), vi (xs (i + 2)), vi (xs (i + 3))]) (j := 0) ok (kX5_correct I (xs (i + 1)) (xs (i + 2)) (xs (i + 3)) hR.hd) knX5_correct q501 q502 q503 clsX5 rfl dL_law_798 rfl rfl (Nat.le_of_ble_eq_true rfl) (by decide) (by decide) rfl ?_
  refine g_aload_n (n := 802) ok 1 dL_law_801 rfl rfl rfl ?_
  refine g_arg (k := 1) (np := 807) h dL_law_802 dL_law_803 dL_law_804 dL_law_805 dL_law_806 rfl (by omega) rfl ?_
  refine g_arg (k := 2) (np := 812) h dL_law_807 dL_law_808 dL_law_809 dL_law_810 dL_law_811 rfl (by omega) rfl ?_
  refine g_arg (k := 3) (np := 817) h dL_law_812 dL_law_813 dL_law_814 dL_law_815 dL_law_816 rfl (by omega) rfl ?_
  refine g_callV (n := 820) (rest := [vi ((fX5_correct I (xs (i + 1)) (xs (i + 2)) (xs (i + 3))).1)]) (av := [vi (xs (i + 1)), vi (xs (i + 2)), vi (xs (i + 3))]) (j := 52) ok (kX6_correct ((fX5_correct I (xs (i + 1)) (xs (i + 2)) (xs (i + 3))).2) (xs (i + 1)) (xs (i + 2)) (xs (i + 3)) hR1.hd6) knX6_correct q1007 q1008 q1009 clsX6 rfl dL_law_817 rfl rfl (Nat.le_of_ble_eq_true rfl) (by decide) (by decide) rfl ?_
  exact g_icmp_eq (n := 823) (tgt := 1211) ok dL_law_820 (by decide) rfl (fun _ => K _ hR2) (fun q => absurd he q)
theorem lc_from {E : EvT} {b L : Nat} {xs : Nat → Int32} {T : Option Pv × HI} {I : HI} {i : Nat} (h : Lw E b L xs) (hi : i + 6 ≤ L) (hR : R I I) (K : ∀ J, R J J → G E 4 T J 1211 (lvL b i) []) : G E 4 T I 825 (lvL b i) [] := by
  have ok := h.1
  obtain ⟨hR1, he, hR2⟩ := pr_from hR (xs (i + 1)) (xs (i + 2)) (xs (i + 3))
  refine g_aload_n (n := 826) ok 2 dL_law_825 rfl rfl rfl ?_
  refine g_arg (k := 1) (np := 831) h dL_law_826 dL_law_827 dL_law_828 dL_law_829 dL_law_830 rfl (by omega) rfl ?_
  refine g_arg (k := 2) (np := 836) h dL_law_831 dL_law_832 dL_law_833 dL_law_834 dL_law_835 rfl (by omega) rfl ?_
  refine g_arg (k := 3) (np := 841) h dL_law_836 dL_law_837 dL_law_838 dL_law_839 dL_law_840 rfl (by omega) rfl ?_
  refine g_callV (n := 844) (rest := []) (av := [vi (xs (i + 1)), vi (xs (i + 2)), vi (xs (i + 3))]) (j := 0) ok (kX5_from I (xs (i + 1)) (xs (i + 2)) (xs (i + 3)) hR.hd) knX5_from q509 q510 q511 clsX5 rfl dL_law_841 rfl rfl (Nat.le_of_ble_eq_true rfl) (by decide) (by decide) rfl ?_
  refine g_aload_n (n := 845) ok 1 dL_law_844 rfl rfl rfl ?_
  refine g_arg (k := 1) (np := 850) h dL_law_845 dL_law_846 dL_law_847 dL_law_848 dL_law_849 rfl (by omega) rfl ?_
  refine g_arg (k := 2) (np := 855) h dL_law_850 dL_law_851 dL_law_852 dL_law_853 dL_law_854 rfl (by omega) rfl ?_
  refine g_arg (k := 3) (np := 860) h dL_law_855 dL_law_856 dL_law_857 dL_law_858 dL_law_859 rfl (by omega) rfl ?_
  refine g_callV (n := 863) (rest := [vl ((fX5_from I (xs (i + 1)) (xs (i + 2)) (xs (i + 3))).1)]) (av := [vi (xs (i + 1)), vi (xs (i + 2)), vi (xs (i + 3))]) (j := 52) ok (kX6_from ((fX5_from I (xs (i + 1)) (xs (i + 2)) (xs (i + 3))).2) (xs (i + 1)) (xs (i + 2)) (xs (i + 3)) hR1.hd6) knX6_from q1011 q1012 q1013 clsX6 rfl dL_law_860 rfl rfl (Nat.le_of_ble_eq_true rfl) (by decide) (by decide) rfl ?_
  refine g_lcmp (n := 864) ok dL_law_863 rfl ?_
  exact g_if_eq (n := 867) (tgt := 1211) ok dL_law_864 (by decide) rfl (fun _ => K _ hR2) (fun q => absurd (by rw [he]; exact lgc_self _) q)
theorem lc_whose {E : EvT} {b L : Nat} {xs : Nat → Int32} {T : Option Pv × HI} {I : HI} {i : Nat} (h : Lw E b L xs) (hi : i + 6 ≤ L) (hR : R I I) (K : ∀ J, R J J → G E 4 T J 1211 (lvL b i) []) : G E 4 T I 869 (lvL b i) [] := by
  have ok := h.1
  obtain ⟨hR1, he, hR2⟩ := pr_whose hR (xs (i + 1)) (xs (i + 2))
  refine g_aload_n (n := 870) ok 2 dL_law_869 rfl rfl rfl ?_
  refine g_arg (k := 1) (np := 875) h dL_law_870 dL_law_871 dL_law_872 dL_law_873 dL_law_874 rfl (by omega) rfl ?_
  refine g_arg (k := 2) (np := 880) h dL_law_875 dL_law_876 dL_law_877 dL_law_878 dL_law_879 rfl (by omega) rfl ?_
  refine g_callV (n := 883) (rest := []) (av := [vi (xs (i + 1)), vi (xs (i + 2))]) (j := 0) ok (kX5_whose I (xs (i + 1)) (xs (i + 2)) hR.hd) knX5_whose q522 q523 q524 clsX5 rfl dL_law_880 rfl rfl (Nat.le_of_ble_eq_true rfl) (by decide) (by decide) rfl ?_
  refine g_aload_n (n := 884) ok 1 dL_law_883 rfl rfl rfl ?_
  refine g_arg (k := 1) (np := 889) h dL_law_884 dL_law_885 dL_law_886 dL_law_887 dL_law_888 rfl (by omega) rfl ?_
  refine g_arg (k := 2) (np := 894) h dL_law_889 dL_law_890 dL_law_891 dL_law_892 dL_law_893 rfl (by omega) rfl ?_
  refine g_callV (n := 897) (rest := [vi ((fX5_whose I (xs (i + 1)) (xs (i + 2))).1)]) (av := [vi (xs (i + 1)), vi (xs (i + 2))]) (j := 52) ok (kX6_whose ((fX5_whose I (xs (i + 1)) (xs (i + 2))).2) (xs (i + 1)) (xs (i + 2)) hR1.hd6) knX6_whose q1020 q1021 q1022 clsX6 rfl dL_law_894 rfl rfl (Nat.le_of_ble_eq_true rfl) (by decide) (by decide) rfl ?_
  exact g_icmp_eq (n := 900) (tgt := 1211) ok dL_law_897 (by decide) rfl (fun _ => K _ hR2) (fun q => absurd he q)
theorem lc_mark {E : EvT} {b L : Nat} {xs : Nat → Int32} {T : Option Pv × HI} {I : HI} {i : Nat} (h : Lw E b L xs) (hi : i + 6 ≤ L) (hR : R I I) (K : ∀ J, R J J → G E 4 T J 1211 (lvL b i) []) : G E 4 T I 902 (lvL b i) [] := by
  have ok := h.1
  obtain ⟨hR1, he, hR2⟩ := pr_mark hR (xs (i + 1)) (xs (i + 2))
  refine g_aload_n (n := 903) ok 2 dL_law_902 rfl rfl rfl ?_
  refine g_arg (k := 1) (np := 908) h dL_law_903 dL_law_904 dL_law_905 dL_law_906 dL_law_907 rfl (by omega) rfl ?_
  refine g_arg (k := 2) (np := 913) h dL_law_908 dL_law_909 dL_law_910 dL_law_911 dL_law_912 rfl (by omega) rfl ?_
  refine g_callV (n := 916) (rest := []) (av := [vi (xs (i + 1)), vi (xs (i + 2))]) (j := 0) ok (kX5_mark I (xs (i + 1)) (xs (i + 2)) hR.hd hR.hF) knX5_mark q535 q536 q537 clsX5 rfl dL_law_913 rfl rfl (Nat.le_of_ble_eq_true rfl) (by decide) (by decide) rfl ?_
  refine g_aload_n (n := 917) ok 1 dL_law_916 rfl rfl rfl ?_
  refine g_arg (k := 1) (np := 922) h dL_law_917 dL_law_918 dL_law_919 dL_law_920 dL_law_921 rfl (by omega) rfl ?_
  refine g_arg (k := 2) (np := 927) h dL_law_922 dL_law_923 dL_law_924 dL_law_925 dL_law_926 rfl (by omega) rfl ?_
  refine g_callV (n := 930) (rest := [vi ((fX5_mark I (xs (i + 1)) (xs (i + 2))).1)]) (av := [vi (xs (i + 1)), vi (xs (i + 2))]) (j := 52) ok (kX6_mark ((fX5_mark I (xs (i + 1)) (xs (i + 2))).2) (xs (i + 1)) (xs (i + 2)) hR1.hd6 hR1.hF6) knX6_mark q1032 q1033 q1034 clsX6 rfl dL_law_927 rfl rfl (Nat.le_of_ble_eq_true rfl) (by decide) (by decide) rfl ?_
  exact g_icmp_eq (n := 933) (tgt := 1211) ok dL_law_930 (by decide) rfl (fun _ => K _ hR2) (fun q => absurd he q)
theorem lc_fits {E : EvT} {b L : Nat} {xs : Nat → Int32} {T : Option Pv × HI} {I : HI} {i : Nat} (h : Lw E b L xs) (hi : i + 6 ≤ L) (hR : R I I) (K : ∀ J, R J J → G E 4 T J 1211 (lvL b i) []) : G E 4 T I 935 (lvL b i) [] := by
  have ok := h.1
  obtain ⟨hR1, he, hR2⟩ := pr_fits hR
  refine g_aload_n (n := 936) ok 2 dL_law_935 rfl rfl rfl ?_
  refine g_callV (n := 939) (rest := []) (av := []) (j := 0) ok (kX5_fits I hR.hd hR.hF) knX5_fits q567 q568 q569 clsX5 rfl dL_law_936 rfl rfl (Nat.le_of_ble_eq_true rfl) (by decide) (by decide) rfl ?_
  refine g_aload_n (n := 940) ok 1 dL_law_939 rfl rfl rfl ?_
  refine g_callV (n := 943) (rest := [vi ((fX5_fits I).1)]) (av := []) (j := 52) ok (kX6_fits ((fX5_fits I).2) hR1.hd6 hR1.hF6 hR1.hr9) knX6_fits q1043 q1044 q1045 clsX6 rfl dL_law_940 rfl rfl (Nat.le_of_ble_eq_true rfl) (by decide) (by decide) rfl ?_
  exact g_icmp_eq (n := 946) (tgt := 1211) ok dL_law_943 (by decide) rfl (fun _ => K _ hR2) (fun q => absurd he q)
theorem lc_fewest {E : EvT} {b L : Nat} {xs : Nat → Int32} {T : Option Pv × HI} {I : HI} {i : Nat} (h : Lw E b L xs) (hi : i + 6 ≤ L) (hR : R I I) (K : ∀ J, R J J → G E 4 T J 1211 (lvL b i) []) : G E 4 T I 948 (lvL b i) [] := by
  have ok := h.1
  obtain ⟨hR1, he, hR2⟩ := pr_fewest hR (xs (i + 1))
  refine g_aload_n (n := 949) ok 2 dL_law_948 rfl rfl rfl ?_
  refine g_arg (k := 1) (np := 954) h dL_law_949 dL_law_950 dL_law_951 dL_law_952 dL_law_953 rfl (by omega) rfl ?_
  refine g_callV (n := 957) (rest := []) (av := [vi (xs (i + 1))]) (j := 0) ok (kX5_fewest I (xs (i + 1)) hR.hd hR.hF) knX5_fewest q576 q577 q578 clsX5 rfl dL_law_954 rfl rfl (Nat.le_of_ble_eq_true rfl) (by decide) (by decide) rfl ?_
  refine g_aload_n (n := 958) ok 1 dL_law_957 rfl rfl rfl ?_
  refine g_arg (k := 1) (np := 963) h dL_law_958 dL_law_959 dL_law_960 dL_law_961 dL_law_962 rfl (by omega) rfl ?_
  refine g_callV (n := 966) (rest := [vi ((fX5_fewest I (xs (i + 1))).1)]) (av := [vi (xs (i + 1))]) (j := 52) ok (kX6_fewest ((fX5_fewest I (xs (i + 1))).2) (xs (i + 1)) hR1.hd6 hR1.hF6) knX6_fewest q1047 q1048 q1049 clsX6 rfl dL_law_963 rfl rfl (Nat.le_of_ble_eq_true rfl) (by decide) (by decide) rfl ?_
  exact g_icmp_eq (n := 969) (tgt := 1211) ok dL_law_966 (by decide) rfl (fun _ => K _ hR2) (fun q => absurd he q)
theorem lc_hours {E : EvT} {b L : Nat} {xs : Nat → Int32} {T : Option Pv × HI} {I : HI} {i : Nat} (h : Lw E b L xs) (hi : i + 6 ≤ L) (hR : R I I) (K : ∀ J, R J J → G E 4 T J 1211 (lvL b i) []) : G E 4 T I 971 (lvL b i) [] := by
  have ok := h.1
  obtain ⟨hR1, he, hR2⟩ := pr_hours hR (xs (i + 1)) (xs (i + 2))
  refine g_aload_n (n := 972) ok 2 dL_law_971 rfl rfl rfl ?_
  refine g_arg (k := 1) (np := 977) h dL_law_972 dL_law_973 dL_law_974 dL_law_975 dL_law_976 rfl (by omega) rfl ?_
  refine g_arg (k := 2) (np := 982) h dL_law_977 dL_law_978 dL_law_979 dL_law_980 dL_law_981 rfl (by omega) rfl ?_
  refine g_callV (n := 985) (rest := []) (av := [vi (xs (i + 1)), vi (xs (i + 2))]) (j := 0) ok (kX5_hours I (xs (i + 1)) (xs (i + 2))) knX5_hours q593 q594 q595 clsX5 rfl dL_law_982 rfl rfl (Nat.le_of_ble_eq_true rfl) (by decide) (by decide) rfl ?_
  refine g_aload_n (n := 986) ok 1 dL_law_985 rfl rfl rfl ?_
  refine g_arg (k := 1) (np := 991) h dL_law_986 dL_law_987 dL_law_988 dL_law_989 dL_law_990 rfl (by omega) rfl ?_
  refine g_arg (k := 2) (np := 996) h dL_law_991 dL_law_992 dL_law_993 dL_law_994 dL_law_995 rfl (by omega) rfl ?_
  refine g_callV (n := 999) (rest := [vi ((fX5_hours I (xs (i + 1)) (xs (i + 2))).1)]) (av := [vi (xs (i + 1)), vi (xs (i + 2))]) (j := 52) ok (kX6_hours ((fX5_hours I (xs (i + 1)) (xs (i + 2))).2) (xs (i + 1)) (xs (i + 2))) knX6_hours q1055 q1056 q1057 clsX6 rfl dL_law_996 rfl rfl (Nat.le_of_ble_eq_true rfl) (by decide) (by decide) rfl ?_
  exact g_icmp_eq (n := 1002) (tgt := 1211) ok dL_law_999 (by decide) rfl (fun _ => K _ hR2) (fun q => absurd he q)
theorem lc_won {E : EvT} {b L : Nat} {xs : Nat → Int32} {T : Option Pv × HI} {I : HI} {i : Nat} (h : Lw E b L xs) (hi : i + 6 ≤ L) (hR : R I I) (K : ∀ J, R J J → G E 4 T J 1211 (lvL b i) []) : G E 4 T I 1004 (lvL b i) [] := by
  have ok := h.1
  obtain ⟨hR1, he, hR2⟩ := pr_won hR (xs (i + 1))
  refine g_aload_n (n := 1005) ok 2 dL_law_1004 rfl rfl rfl ?_
  refine g_arg (k := 1) (np := 1010) h dL_law_1005 dL_law_1006 dL_law_1007 dL_law_1008 dL_law_1009 rfl (by omega) rfl ?_
  refine g_callV (n := 1013) (rest := []) (av := [vi (xs (i + 1))]) (j := 0) ok (kX5_won I (xs (i + 1))) knX5_won q603 q604 q605 clsX5 rfl dL_law_1010 rfl rfl (Nat.le_of_ble_eq_true rfl) (by decide) (by decide) rfl ?_
  refine g_aload_n (n := 1014) ok 1 dL_law_1013 rfl rfl rfl ?_
  refine g_arg (k := 1) (np := 1019) h dL_law_1014 dL_law_1015 dL_law_1016 dL_law_1017 dL_law_1018 rfl (by omega) rfl ?_
  refine g_callV (n := 1022) (rest := [vi ((fX5_won I (xs (i + 1))).1)]) (av := [vi (xs (i + 1))]) (j := 52) ok (kX6_won ((fX5_won I (xs (i + 1))).2) (xs (i + 1))) knX6_won q1065 q1066 q1067 clsX6 rfl dL_law_1019 rfl rfl (Nat.le_of_ble_eq_true rfl) (by decide) (by decide) rfl ?_
  exact g_icmp_eq (n := 1025) (tgt := 1211) ok dL_law_1022 (by decide) rfl (fun _ => K _ hR2) (fun q => absurd he q)
theorem lc_lot {E : EvT} {b L : Nat} {xs : Nat → Int32} {T : Option Pv × HI} {I : HI} {i : Nat} (h : Lw E b L xs) (hi : i + 6 ≤ L) (hR : R I I) (K : ∀ J, R J J → G E 4 T J 1211 (lvL b i) []) : G E 4 T I 1027 (lvL b i) [] := by
  have ok := h.1
  obtain ⟨hR1, he, hR2⟩ := pr_lot hR (xs (i + 1)) (xs (i + 2))
  refine g_aload_n (n := 1028) ok 2 dL_law_1027 rfl rfl rfl ?_
  refine g_arg (k := 1) (np := 1033) h dL_law_1028 dL_law_1029 dL_law_1030 dL_law_1031 dL_law_1032 rfl (by omega) rfl ?_
  refine g_arg (k := 2) (np := 1038) h dL_law_1033 dL_law_1034 dL_law_1035 dL_law_1036 dL_law_1037 rfl (by omega) rfl ?_
  refine g_callV (n := 1041) (rest := []) (av := [vi (xs (i + 1)), vi (xs (i + 2))]) (j := 0) ok (kX5_lot I (xs (i + 1)) (xs (i + 2)) hR.hd) knX5_lot q607 q608 q609 clsX5 rfl dL_law_1038 rfl rfl (Nat.le_of_ble_eq_true rfl) (by decide) (by decide) rfl ?_
  refine g_aload_n (n := 1042) ok 1 dL_law_1041 rfl rfl rfl ?_
  refine g_arg (k := 1) (np := 1047) h dL_law_1042 dL_law_1043 dL_law_1044 dL_law_1045 dL_law_1046 rfl (by omega) rfl ?_
  refine g_arg (k := 2) (np := 1052) h dL_law_1047 dL_law_1048 dL_law_1049 dL_law_1050 dL_law_1051 rfl (by omega) rfl ?_
  refine g_callV (n := 1055) (rest := [vi ((fX5_lot I (xs (i + 1)) (xs (i + 2))).1)]) (av := [vi (xs (i + 1)), vi (xs (i + 2))]) (j := 52) ok (kX6_lot ((fX5_lot I (xs (i + 1)) (xs (i + 2))).2) (xs (i + 1)) (xs (i + 2)) hR1.hd6) knX6_lot q1069 q1070 q1071 clsX6 rfl dL_law_1052 rfl rfl (Nat.le_of_ble_eq_true rfl) (by decide) (by decide) rfl ?_
  exact g_icmp_eq (n := 1058) (tgt := 1211) ok dL_law_1055 (by decide) rfl (fun _ => K _ hR2) (fun q => absurd he q)
theorem lc_row {E : EvT} {b L : Nat} {xs : Nat → Int32} {T : Option Pv × HI} {I : HI} {i : Nat} (h : Lw E b L xs) (hi : i + 6 ≤ L) (hR : R I I) (K : ∀ J, R J J → G E 4 T J 1211 (lvL b i) []) : G E 4 T I 1060 (lvL b i) [] := by
  have ok := h.1
  obtain ⟨hR1, he, hR2⟩ := pr_row hR (xs (i + 1))
  refine g_aload_n (n := 1061) ok 2 dL_law_1060 rfl rfl rfl ?_
  refine g_arg (k := 1) (np := 1066) h dL_law_1061 dL_law_1062 dL_law_1063 dL_law_1064 dL_law_1065 rfl (by omega) rfl ?_
  refine g_callV (n := 1069) (rest := []) (av := [vi (xs (i + 1))]) (j := 0) ok (kX5_row I (xs (i + 1)) hR.ht) knX5_row q611 q612 q613 clsX5 rfl dL_law_1066 rfl rfl (Nat.le_of_ble_eq_true rfl) (by decide) (by decide) rfl ?_
  refine g_aload_n (n := 1070) ok 1 dL_law_1069 rfl rfl rfl ?_
  refine g_arg (k := 1) (np := 1075) h dL_law_1070 dL_law_1071 dL_law_1072 dL_law_1073 dL_law_1074 rfl (by omega) rfl ?_
  refine g_callV (n := 1078) (rest := [vi ((fX5_row I (xs (i + 1))).1)]) (av := [vi (xs (i + 1))]) (j := 52) ok (kX6_row ((fX5_row I (xs (i + 1))).2) (xs (i + 1)) hR1.hr9) knX6_row q1073 q1074 q1075 clsX6 rfl dL_law_1075 rfl rfl (Nat.le_of_ble_eq_true rfl) (by decide) (by decide) rfl ?_
  exact g_icmp_eq (n := 1081) (tgt := 1211) ok dL_law_1078 (by decide) rfl (fun _ => K _ hR2) (fun q => absurd he q)
theorem lc_judge {E : EvT} {b L : Nat} {xs : Nat → Int32} {T : Option Pv × HI} {I : HI} {i : Nat} (h : Lw E b L xs) (hi : i + 6 ≤ L) (hR : R I I) (K : ∀ J, R J J → G E 4 T J 1211 (lvL b i) []) : G E 4 T I 1083 (lvL b i) [] := by
  have ok := h.1
  obtain ⟨hR1, he, hR2⟩ := pr_judge hR (xs (i + 1))
  refine g_aload_n (n := 1084) ok 2 dL_law_1083 rfl rfl rfl ?_
  refine g_arg (k := 1) (np := 1089) h dL_law_1084 dL_law_1085 dL_law_1086 dL_law_1087 dL_law_1088 rfl (by omega) rfl ?_
  refine g_callV (n := 1092) (rest := []) (av := [vi (xs (i + 1))]) (j := 0) ok (kX5_judge I (xs (i + 1)) hR.hd hR.ht) knX5_judge q615 q616 q617 clsX5 rfl dL_law_1089 rfl rfl (Nat.le_of_ble_eq_true rfl) (by decide) (by decide) rfl ?_
  refine g_aload_n (n := 1093) ok 1 dL_law_1092 rfl rfl rfl ?_
  refine g_arg (k := 1) (np := 1098) h dL_law_1093 dL_law_1094 dL_law_1095 dL_law_1096 dL_law_1097 rfl (by omega) rfl ?_
  refine g_callV (n := 1101) (rest := [vi ((fX5_judge I (xs (i + 1))).1)]) (av := [vi (xs (i + 1))]) (j := 52) ok (kX6_judge ((fX5_judge I (xs (i + 1))).2) (xs (i + 1)) hR1.hd6 hR1.hr9) knX6_judge q1077 q1078 q1079 clsX6 rfl dL_law_1098 rfl rfl (Nat.le_of_ble_eq_true rfl) (by decide) (by decide) rfl ?_
  exact g_icmp_eq (n := 1104) (tgt := 1211) ok dL_law_1101 (by decide) rfl (fun _ => K _ hR2) (fun q => absurd he q)
theorem lc_clear {E : EvT} {b L : Nat} {xs : Nat → Int32} {T : Option Pv × HI} {I : HI} {i : Nat} (h : Lw E b L xs) (hi : i + 6 ≤ L) (hR : R I I) (K : ∀ J, R J J → G E 4 T J 1211 (lvL b i) []) : G E 4 T I 1106 (lvL b i) [] := by
  have ok := h.1
  obtain ⟨hR1, he, hR2⟩ := pr_clear hR
  refine g_aload_n (n := 1107) ok 2 dL_law_1106 rfl rfl rfl ?_
  refine g_callV (n := 1110) (rest := []) (av := []) (j := 0) ok (kX5_clear I) knX5_clear q623 q624 q625 clsX5 rfl dL_law_1107 rfl rfl (Nat.le_of_ble_eq_true rfl) (by decide) (by decide) rfl ?_
  refine g_aload_n (n := 1111) ok 1 dL_law_1110 rfl rfl rfl ?_
  refine g_callV (n := 1114) (rest := [vi ((fX5_clear I).1)]) (av := []) (j := 52) ok (kX6_clear ((fX5_clear I).2)) knX6_clear q1081 q1082 q1083 clsX6 rfl dL_law_1111 rfl rfl (Nat.le_of_ble_eq_true rfl) (by decide) (by decide) rfl ?_
  exact g_icmp_eq (n := 1117) (tgt := 1211) ok dL_law_1114 (by decide) rfl (fun _ => K _ hR2) (fun q => absurd he q)
theorem lc_seeds {E : EvT} {b L : Nat} {xs : Nat → Int32} {T : Option Pv × HI} {I : HI} {i : Nat} (h : Lw E b L xs) (hi : i + 6 ≤ L) (hR : R I I) (K : ∀ J, R J J → G E 4 T J 1211 (lvL b i) []) : G E 4 T I 1119 (lvL b i) [] := by
  have ok := h.1
  obtain ⟨hR1, he, hR2⟩ := pr_seeds hR (xs (i + 1)) (xs (i + 2)) (xs (i + 3))
  refine g_aload_n (n := 1120) ok 2 dL_law_1119 rfl rfl rfl ?_
  refine g_arg (k := 1) (np := 1125) h dL_law_1120 dL_law_1121 dL_law_1122 dL_law_1123 dL_law_1124 rfl (by omega) rfl ?_
  refine g_arg (k := 2) (np := 1130) h dL_law_1125 dL_law_1126 dL_law_1127 dL_law_1128 dL_law_1129 rfl (by omega) rfl ?_
  refine g_arg (k := 3) (np := 1135) h dL_law_1130 dL_law_1131 dL_law_1132 dL_law_1133 dL_law_1134 rfl (by omega) rfl ?_
  refine g_callV (n := 1138) (rest := []) (av := [vi (xs (i + 1)), vi (xs (i + 2)), vi (xs (i + 3))]) (j := 0) ok (kX5_seeds I (xs (i + 1)) (xs (i + 2)) (xs (i + 3)) hR.hd) knX5_seeds q627 q628 q629 clsX5 rfl dL_law_1135 rfl rfl (Nat.le_of_ble_eq_true rfl) (by decide) (by decide) rfl ?_
  refine g_aload_n (n := 1139) ok 1 dL_law_1138 rfl rfl rfl ?_
  refine g_arg (k := 1) (np := 1144) h dL_law_1139 dL_law_1140 dL_law_1141 dL_law_1142 dL_law_1143 rfl (by omega) rfl ?_
  refine g_arg (k := 2) (np := 1149) h dL_law_1144 dL_law_1145 dL_law_1146 dL_law_1147 dL_law_1148 rfl (by omega) rfl ?_
  refine g_arg (k := 3) (np := 1154) h dL_law_1149 dL_law_1150 dL_law_1151 dL_law_1152 dL_law_1153 rfl (by omega) rfl ?_
  refine g_callV (n := 1157) (rest := [vi ((fX5_seeds I (xs (i + 1)) (xs (i + 2)) (xs (i + 3))).1)]) (av := [vi (xs (i + 1)), vi (xs (i + 2)), vi (xs (i + 3))]) (j := 52) ok (kX6_seeds ((fX5_seeds I (xs (i + 1)) (xs (i + 2)) (xs (i + 3))).2) (xs (i + 1)) (xs (i + 2)) (xs (i + 3)) hR1.hd6) knX6_seeds q1085 q1086 q1087 clsX6 rfl dL_law_1154 rfl rfl (Nat.le_of_ble_eq_true rfl) (by decide) (by decide) rfl ?_
  exact g_icmp_eq (n := 1160) (tgt := 1211) ok dL_law_1157 (by decide) rfl (fun _ => K _ hR2) (fun q => absurd he q)
theorem lc_image {E : EvT} {b L : Nat} {xs : Nat → Int32} {T : Option Pv × HI} {I : HI} {i : Nat} (h : Lw E b L xs) (hi : i + 6 ≤ L) (hR : R I I) (K : ∀ J, R J J → G E 4 T J 1211 (lvL b i) []) : G E 4 T I 1162 (lvL b i) [] := by
  have ok := h.1
  obtain ⟨hR1, he, hR2⟩ := pr_image hR
  refine g_aload_n (n := 1163) ok 2 dL_law_1162 rfl rfl rfl ?_
  refine g_callV (n := 1166) (rest := []) (av := []) (j := 0) ok (kX5_image I) knX5_image q642 q643 q644 clsX5 rfl dL_law_1163 rfl rfl (Nat.le_of_ble_eq_true rfl) (by decide) (by decide) rfl ?_
  refine g_aload_n (n := 1167) ok 1 dL_law_1166 rfl rfl rfl ?_
  refine g_callV (n := 1170) (rest := [vi ((fX5_image I).1)]) (av := []) (j := 52) ok (kX6_image ((fX5_image I).2)) knX6_image q879 q880 q881 clsX6 rfl dL_law_1167 rfl rfl (Nat.le_of_ble_eq_true rfl) (by decide) (by decide) rfl ?_
  exact g_icmp_eq (n := 1173) (tgt := 1211) ok dL_law_1170 (by decide) rfl (fun _ => K _ hR2) (fun q => absurd he q)
theorem lc_restore {E : EvT} {b L : Nat} {xs : Nat → Int32} {T : Option Pv × HI} {I : HI} {i : Nat} (h : Lw E b L xs) (hi : i + 6 ≤ L) (hR : R I I) (K : ∀ J, R J J → G E 4 T J 1211 (lvL b i) []) : G E 4 T I 1175 (lvL b i) [] := by
  have ok := h.1
  obtain ⟨hR1, he, hR2⟩ := pr_restore hR
  refine g_aload_n (n := 1176) ok 2 dL_law_1175 rfl rfl rfl ?_
  refine g_callV (n := 1179) (rest := []) (av := []) (j := 0) ok (kX5_restore I) knX5_restore q656 q657 q658 clsX5 rfl dL_law_1176 rfl rfl (Nat.le_of_ble_eq_true rfl) (by decide) (by decide) rfl ?_
  refine g_aload_n (n := 1180) ok 1 dL_law_1179 rfl rfl rfl ?_
  refine g_callV (n := 1183) (rest := [vi ((fX5_restore I).1)]) (av := []) (j := 52) ok (kX6_restore ((fX5_restore I).2)) knX6_restore q883 q884 q885 clsX6 rfl dL_law_1180 rfl rfl (Nat.le_of_ble_eq_true rfl) (by decide) (by decide) rfl ?_
  exact g_icmp_eq (n := 1186) (tgt := 1211) ok dL_law_1183 (by decide) rfl (fun _ => K _ hR2) (fun q => absurd he q)
theorem lc_count {E : EvT} {b L : Nat} {xs : Nat → Int32} {T : Option Pv × HI} {I : HI} {i : Nat} (h : Lw E b L xs) (hi : i + 6 ≤ L) (hR : R I I) (K : ∀ J, R J J → G E 4 T J 1211 (lvL b i) []) : G E 4 T I 1188 (lvL b i) [] := by
  have ok := h.1
  obtain ⟨hR1, he, hR2⟩ := pr_count hR (xs (i + 1))
  refine g_aload_n (n := 1189) ok 2 dL_law_1188 rfl rfl rfl ?_
  refine g_arg (k := 1) (np := 1194) h dL_law_1189 dL_law_1190 dL_law_1191 dL_law_1192 dL_law_1193 rfl (by omega) rfl ?_
  refine g_callV (n := 1197) (rest := []) (av := [vi (xs (i + 1))]) (j := 0) ok (kX5_count I (xs (i + 1)) hR.hd) knX5_count q660 q661 q662 clsX5 rfl dL_law_1194 rfl rfl (Nat.le_of_ble_eq_true rfl) (by decide) (by decide) rfl ?_
  refine g_aload_n (n := 1198) ok 1 dL_law_1197 rfl rfl rfl ?_
  refine g_arg (k := 1) (np := 1203) h dL_law_1198 dL_law_1199 dL_law_1200 dL_law_1201 dL_law_1202 rfl (by omega) rfl ?_
  refine g_callV (n := 1206) (rest := [vi ((fX5_count I (xs (i + 1))))]) (av := [vi (xs (i + 1))]) (j := 52) ok (kX6_count I (xs (i + 1)) hR1.hd6) knX6_count q1096 q1097 q1098 clsX6 rfl dL_law_1203 rfl rfl (Nat.le_of_ble_eq_true rfl) (by decide) (by decide) rfl ?_
  exact g_icmp_eq (n := 1209) (tgt := 1211) ok dL_law_1206 (by decide) rfl (fun _ => K _ hR2) (fun q => absurd he q)
