/-! the cases of its switch: a call of the class, the same call of the reference, one answer -/
section LC
variable {Γ : hG} {G : hQ} {l : Launch} {I : hI} {J : hJ} {b L : Nat} {xs : Nat → Int32}
set_option maxHeartbeats 1000000 in
set_option maxRecDepth 100000 in
theorem lc_0 (K : h_C Γ G l 4 cL_law wsL_law RL 9 380) (S : lw_S Γ b L xs) {i : Nat} (hi : i + 6 ≤ L) (hR : Rel I) (kk : ∀ I' J', Rel I' → h_WW Γ G 1114 (lw_lo G b i) [] I' J') : h_WW Γ G 156 (lw_lo G b i) [] I J := by
  obtain ⟨P, hP, hQ⟩ := op_point (l := l) (G := G) (J := J) hR (xs (i + 1)) (xs (i + 2)) (xs (i + 3)) (xs (i + 4))
  refine x_aload_n (pc := 156) (x := G.2.2 0) K 2 dL_law_156 rfl rfl ?_
  refine x_arg (pc := 157) K S 1 dL_law_157 dL_law_158 dL_law_159 dL_law_160 dL_law_161 (by decide) (by omega) ?_
  refine x_arg (pc := 162) K S 2 dL_law_162 dL_law_163 dL_law_164 dL_law_165 dL_law_166 (by decide) (by omega) ?_
  refine x_arg (pc := 167) K S 3 dL_law_167 dL_law_168 dL_law_169 dL_law_170 dL_law_171 (by decide) (by omega) ?_
  refine x_arg (pc := 172) K S 4 dL_law_172 dL_law_173 dL_law_174 dL_law_175 dL_law_176 (by decide) (by omega) ?_
  refine x_calliV (pc := 177) (st := []) (n := 4) K (by decide) sh_0 rfl hP gL_law_X7_point (by decide +kernel) rfl (by decide) (by decide) rfl rfl (Nat.le_of_ble_eq_true rfl) dL_law_177 (fun ρ I1 J1 hp => ?_)
  obtain ⟨Q, hQ1, hE⟩ := hQ ρ I1 J1 hp
  refine x_aload_n (pc := 180) (x := G.2.2 76) K 1 dL_law_180 rfl rfl ?_
  refine x_arg (pc := 181) K S 1 dL_law_181 dL_law_182 dL_law_183 dL_law_184 dL_law_185 (by decide) (by omega) ?_
  refine x_arg (pc := 186) K S 2 dL_law_186 dL_law_187 dL_law_188 dL_law_189 dL_law_190 (by decide) (by omega) ?_
  refine x_arg (pc := 191) K S 3 dL_law_191 dL_law_192 dL_law_193 dL_law_194 dL_law_195 (by decide) (by omega) ?_
  refine x_arg (pc := 196) K S 4 dL_law_196 dL_law_197 dL_law_198 dL_law_199 dL_law_200 (by decide) (by omega) ?_
  refine x_calliV (pc := 201) (st := [.int ρ]) (n := 4) K (by decide) sh_76 rfl hQ1 gL_law_X8_point (by decide +kernel) rfl (by decide) (by decide) rfl rfl (Nat.le_of_ble_eq_true rfl) dL_law_201 (fun ρ' I2 J2 hq => ?_)
  obtain ⟨e, hR2⟩ := hE ρ' I2 J2 hq
  exact x_icmp_eq (pc := 204) (tgt := 1114) K dL_law_204 (by decide) (fun _ => kk I2 J2 hR2) (fun w => absurd e w)
set_option maxHeartbeats 1000000 in
set_option maxRecDepth 100000 in
theorem lc_1 (K : h_C Γ G l 4 cL_law wsL_law RL 9 380) (S : lw_S Γ b L xs) {i : Nat} (hi : i + 6 ≤ L) (hR : Rel I) (kk : ∀ I' J', Rel I' → h_WW Γ G 1114 (lw_lo G b i) [] I' J') : h_WW Γ G 209 (lw_lo G b i) [] I J := by
  obtain ⟨P, hP, hQ⟩ := op_move (l := l) (G := G) (J := J) hR (xs (i + 1)) (xs (i + 2)) (xs (i + 3)) (xs (i + 4))
  refine x_aload_n (pc := 209) (x := G.2.2 0) K 2 dL_law_209 rfl rfl ?_
  refine x_arg (pc := 210) K S 1 dL_law_210 dL_law_211 dL_law_212 dL_law_213 dL_law_214 (by decide) (by omega) ?_
  refine x_arg (pc := 215) K S 2 dL_law_215 dL_law_216 dL_law_217 dL_law_218 dL_law_219 (by decide) (by omega) ?_
  refine x_arg (pc := 220) K S 3 dL_law_220 dL_law_221 dL_law_222 dL_law_223 dL_law_224 (by decide) (by omega) ?_
  refine x_arg (pc := 225) K S 4 dL_law_225 dL_law_226 dL_law_227 dL_law_228 dL_law_229 (by decide) (by omega) ?_
  refine x_calliV (pc := 230) (st := []) (n := 4) K (by decide) sh_0 rfl hP gL_law_X7_move (by decide +kernel) rfl (by decide) (by decide) rfl rfl (Nat.le_of_ble_eq_true rfl) dL_law_230 (fun ρ I1 J1 hp => ?_)
  obtain ⟨Q, hQ1, hE⟩ := hQ ρ I1 J1 hp
  refine x_aload_n (pc := 233) (x := G.2.2 76) K 1 dL_law_233 rfl rfl ?_
  refine x_arg (pc := 234) K S 1 dL_law_234 dL_law_235 dL_law_236 dL_law_237 dL_law_238 (by decide) (by omega) ?_
  refine x_arg (pc := 239) K S 2 dL_law_239 dL_law_240 dL_law_241 dL_law_242 dL_law_243 (by decide) (by omega) ?_
  refine x_arg (pc := 244) K S 3 dL_law_244 dL_law_245 dL_law_246 dL_law_247 dL_law_248 (by decide) (by omega) ?_
  refine x_arg (pc := 249) K S 4 dL_law_249 dL_law_250 dL_law_251 dL_law_252 dL_law_253 (by decide) (by omega) ?_
  refine x_calliV (pc := 254) (st := [.int ρ]) (n := 4) K (by decide) sh_76 rfl hQ1 gL_law_X8_move (by decide +kernel) rfl (by decide) (by decide) rfl rfl (Nat.le_of_ble_eq_true rfl) dL_law_254 (fun ρ' I2 J2 hq => ?_)
  obtain ⟨e, hR2⟩ := hE ρ' I2 J2 hq
  exact x_icmp_eq (pc := 257) (tgt := 1114) K dL_law_257 (by decide) (fun _ => kk I2 J2 hR2) (fun w => absurd e w)
set_option maxHeartbeats 1000000 in
set_option maxRecDepth 100000 in
theorem lc_2 (K : h_C Γ G l 4 cL_law wsL_law RL 9 380) (S : lw_S Γ b L xs) {i : Nat} (hi : i + 6 ≤ L) (hR : Rel I) (kk : ∀ I' J', Rel I' → h_WW Γ G 1114 (lw_lo G b i) [] I' J') : h_WW Γ G 262 (lw_lo G b i) [] I J := by
  obtain ⟨P, hP, hQ⟩ := op_sure (l := l) (G := G) (J := J) hR (xs (i + 1)) (fl01 (xs (i + 2))) (fl01_or _)
  refine x_aload_n (pc := 262) (x := G.2.2 0) K 2 dL_law_262 rfl rfl ?_
  refine x_arg (pc := 263) K S 1 dL_law_263 dL_law_264 dL_law_265 dL_law_266 dL_law_267 (by decide) (by omega) ?_
  refine x_arg (pc := 268) K S 2 dL_law_268 dL_law_269 dL_law_270 dL_law_271 dL_law_272 (by decide) (by omega) ?_
  refine x_flag (pc := 273) K dL_law_273 dL_law_276 dL_law_277 dL_law_280 ?_
  refine x_calliV (pc := 281) (st := []) (n := 2) K (by decide) sh_0 rfl hP gL_law_X7_sure (by decide +kernel) rfl (by decide) (by decide) rfl rfl (Nat.le_of_ble_eq_true rfl) dL_law_281 (fun ρ I1 J1 hp => ?_)
  obtain ⟨Q, hQ1, hE⟩ := hQ ρ I1 J1 hp
  refine x_aload_n (pc := 284) (x := G.2.2 76) K 1 dL_law_284 rfl rfl ?_
  refine x_arg (pc := 285) K S 1 dL_law_285 dL_law_286 dL_law_287 dL_law_288 dL_law_289 (by decide) (by omega) ?_
  refine x_arg (pc := 290) K S 2 dL_law_290 dL_law_291 dL_law_292 dL_law_293 dL_law_294 (by decide) (by omega) ?_
  refine x_flag (pc := 295) K dL_law_295 dL_law_298 dL_law_299 dL_law_302 ?_
  refine x_calliV (pc := 303) (st := [.int ρ]) (n := 2) K (by decide) sh_76 rfl hQ1 gL_law_X8_sure (by decide +kernel) rfl (by decide) (by decide) rfl rfl (Nat.le_of_ble_eq_true rfl) dL_law_303 (fun ρ' I2 J2 hq => ?_)
  obtain ⟨e, hR2⟩ := hE ρ' I2 J2 hq
  exact x_icmp_eq (pc := 306) (tgt := 1114) K dL_law_306 (by decide) (fun _ => kk I2 J2 hR2) (fun w => absurd e w)
set_option maxHeartbeats 1000000 in
set_option maxRecDepth 100000 in
theorem lc_3 (K : h_C Γ G l 4 cL_law wsL_law RL 9 380) (S : lw_S Γ b L xs) {i : Nat} (hi : i + 6 ≤ L) (hR : Rel I) (kk : ∀ I' J', Rel I' → h_WW Γ G 1114 (lw_lo G b i) [] I' J') : h_WW Γ G 311 (lw_lo G b i) [] I J := by
  obtain ⟨P, hP, hQ⟩ := op_put (l := l) (G := G) (J := J) hR (xs (i + 1)) (fl01 (xs (i + 2))) (fl01_or _)
  refine x_aload_n (pc := 311) (x := G.2.2 0) K 2 dL_law_311 rfl rfl ?_
  refine x_arg (pc := 312) K S 1 dL_law_312 dL_law_313 dL_law_314 dL_law_315 dL_law_316 (by decide) (by omega) ?_
  refine x_arg (pc := 317) K S 2 dL_law_317 dL_law_318 dL_law_319 dL_law_320 dL_law_321 (by decide) (by omega) ?_
  refine x_flag (pc := 322) K dL_law_322 dL_law_325 dL_law_326 dL_law_329 ?_
  refine x_calliV (pc := 330) (st := []) (n := 2) K (by decide) sh_0 rfl hP gL_law_X7_put (by decide +kernel) rfl (by decide) (by decide) rfl rfl (Nat.le_of_ble_eq_true rfl) dL_law_330 (fun ρ I1 J1 hp => ?_)
  obtain ⟨Q, hQ1, hE⟩ := hQ ρ I1 J1 hp
  refine x_aload_n (pc := 333) (x := G.2.2 76) K 1 dL_law_333 rfl rfl ?_
  refine x_arg (pc := 334) K S 1 dL_law_334 dL_law_335 dL_law_336 dL_law_337 dL_law_338 (by decide) (by omega) ?_
  refine x_arg (pc := 339) K S 2 dL_law_339 dL_law_340 dL_law_341 dL_law_342 dL_law_343 (by decide) (by omega) ?_
  refine x_flag (pc := 344) K dL_law_344 dL_law_347 dL_law_348 dL_law_351 ?_
  refine x_calliV (pc := 352) (st := [.int ρ]) (n := 2) K (by decide) sh_76 rfl hQ1 gL_law_X8_put (by decide +kernel) rfl (by decide) (by decide) rfl rfl (Nat.le_of_ble_eq_true rfl) dL_law_352 (fun ρ' I2 J2 hq => ?_)
  obtain ⟨e, hR2⟩ := hE ρ' I2 J2 hq
  exact x_icmp_eq (pc := 355) (tgt := 1114) K dL_law_355 (by decide) (fun _ => kk I2 J2 hR2) (fun w => absurd e w)
set_option maxHeartbeats 1000000 in
set_option maxRecDepth 100000 in
theorem lc_4 (K : h_C Γ G l 4 cL_law wsL_law RL 9 380) (S : lw_S Γ b L xs) {i : Nat} (hi : i + 6 ≤ L) (hR : Rel I) (kk : ∀ I' J', Rel I' → h_WW Γ G 1114 (lw_lo G b i) [] I' J') : h_WW Γ G 360 (lw_lo G b i) [] I J := by
  obtain ⟨P, hP, hQ⟩ := op_of (l := l) (G := G) (J := J) hR (xs (i + 1)) (xs (i + 2))
  refine x_aload_n (pc := 360) (x := G.2.2 0) K 2 dL_law_360 rfl rfl ?_
  refine x_arg (pc := 361) K S 1 dL_law_361 dL_law_362 dL_law_363 dL_law_364 dL_law_365 (by decide) (by omega) ?_
  refine x_arg (pc := 366) K S 2 dL_law_366 dL_law_367 dL_law_368 dL_law_369 dL_law_370 (by decide) (by omega) ?_
  refine x_calliV (pc := 371) (st := []) (n := 2) K (by decide) sh_0 rfl hP gL_law_X7_of (by decide +kernel) rfl (by decide) (by decide) rfl rfl (Nat.le_of_ble_eq_true rfl) dL_law_371 (fun ρ I1 J1 hp => ?_)
  obtain ⟨Q, hQ1, hE⟩ := hQ ρ I1 J1 hp
  refine x_aload_n (pc := 374) (x := G.2.2 76) K 1 dL_law_374 rfl rfl ?_
  refine x_arg (pc := 375) K S 1 dL_law_375 dL_law_376 dL_law_377 dL_law_378 dL_law_379 (by decide) (by omega) ?_
  refine x_arg (pc := 380) K S 2 dL_law_380 dL_law_381 dL_law_382 dL_law_383 dL_law_384 (by decide) (by omega) ?_
  refine x_calliV (pc := 385) (st := [.int ρ]) (n := 2) K (by decide) sh_76 rfl hQ1 gL_law_X8_of (by decide +kernel) rfl (by decide) (by decide) rfl rfl (Nat.le_of_ble_eq_true rfl) dL_law_385 (fun ρ' I2 J2 hq => ?_)
  obtain ⟨e, hR2⟩ := hE ρ' I2 J2 hq
  exact x_icmp_eq (pc := 388) (tgt := 1114) K dL_law_388 (by decide) (fun _ => kk I2 J2 hR2) (fun w => absurd e w)
set_option maxHeartbeats 1000000 in
set_option maxRecDepth 100000 in
theorem lc_5 (K : h_C Γ G l 4 cL_law wsL_law RL 9 380) (S : lw_S Γ b L xs) {i : Nat} (hi : i + 6 ≤ L) (hR : Rel I) (kk : ∀ I' J', Rel I' → h_WW Γ G 1114 (lw_lo G b i) [] I' J') : h_WW Γ G 393 (lw_lo G b i) [] I J := by
  obtain ⟨P, hP, hQ⟩ := op_bend (l := l) (G := G) (J := J) hR (xs (i + 1)) (xs (i + 2))
  refine x_aload_n (pc := 393) (x := G.2.2 0) K 2 dL_law_393 rfl rfl ?_
  refine x_arg (pc := 394) K S 1 dL_law_394 dL_law_395 dL_law_396 dL_law_397 dL_law_398 (by decide) (by omega) ?_
  refine x_arg (pc := 399) K S 2 dL_law_399 dL_law_400 dL_law_401 dL_law_402 dL_law_403 (by decide) (by omega) ?_
  refine x_calllV (pc := 404) (st := []) (n := 2) K (by decide) sh_0 rfl hP gL_law_X7_bend (by decide +kernel) rfl (by decide) (by decide) rfl rfl (Nat.le_of_ble_eq_true rfl) dL_law_404 (fun ρ I1 J1 hp => ?_)
  obtain ⟨Q, hQ1, hE⟩ := hQ ρ I1 J1 hp
  refine x_aload_n (pc := 407) (x := G.2.2 76) K 1 dL_law_407 rfl rfl ?_
  refine x_arg (pc := 408) K S 1 dL_law_408 dL_law_409 dL_law_410 dL_law_411 dL_law_412 (by decide) (by omega) ?_
  refine x_arg (pc := 413) K S 2 dL_law_413 dL_law_414 dL_law_415 dL_law_416 dL_law_417 (by decide) (by omega) ?_
  refine x_calllV (pc := 418) (st := [.long ρ]) (n := 2) K (by decide) sh_76 rfl hQ1 gL_law_X8_bend (by decide +kernel) rfl (by decide) (by decide) rfl rfl (Nat.le_of_ble_eq_true rfl) dL_law_418 (fun ρ' I2 J2 hq => ?_)
  obtain ⟨e, hR2⟩ := hE ρ' I2 J2 hq
  refine x_lcmp (pc := 421) K dL_law_421 ?_
  exact x_if_eq (pc := 422) (tgt := 1114) K dL_law_422 (by decide) (fun _ => kk I2 J2 hR2) (fun w => absurd ((lg_cmp_eq _ _).mpr e) w)
set_option maxHeartbeats 1000000 in
set_option maxRecDepth 100000 in
theorem lc_6 (K : h_C Γ G l 4 cL_law wsL_law RL 9 380) (S : lw_S Γ b L xs) {i : Nat} (hi : i + 6 ≤ L) (hR : Rel I) (kk : ∀ I' J', Rel I' → h_WW Γ G 1114 (lw_lo G b i) [] I' J') : h_WW Γ G 427 (lw_lo G b i) [] I J := by
  obtain ⟨P, hP, hQ⟩ := op_carry (l := l) (G := G) (J := J) hR (xs (i + 1)) (xs (i + 2)) (xs (i + 3)) (xs (i + 4))
  refine x_aload_n (pc := 427) (x := G.2.2 0) K 2 dL_law_427 rfl rfl ?_
  refine x_arg (pc := 428) K S 1 dL_law_428 dL_law_429 dL_law_430 dL_law_431 dL_law_432 (by decide) (by omega) ?_
  refine x_arg (pc := 433) K S 2 dL_law_433 dL_law_434 dL_law_435 dL_law_436 dL_law_437 (by decide) (by omega) ?_
  refine x_arg (pc := 438) K S 3 dL_law_438 dL_law_439 dL_law_440 dL_law_441 dL_law_442 (by decide) (by omega) ?_
  refine x_arg (pc := 443) K S 4 dL_law_443 dL_law_444 dL_law_445 dL_law_446 dL_law_447 (by decide) (by omega) ?_
  refine x_calllV (pc := 448) (st := []) (n := 4) K (by decide) sh_0 rfl hP gL_law_X7_carry (by decide +kernel) rfl (by decide) (by decide) rfl rfl (Nat.le_of_ble_eq_true rfl) dL_law_448 (fun ρ I1 J1 hp => ?_)
  obtain ⟨Q, hQ1, hE⟩ := hQ ρ I1 J1 hp
  refine x_aload_n (pc := 451) (x := G.2.2 76) K 1 dL_law_451 rfl rfl ?_
  refine x_arg (pc := 452) K S 1 dL_law_452 dL_law_453 dL_law_454 dL_law_455 dL_law_456 (by decide) (by omega) ?_
  refine x_arg (pc := 457) K S 2 dL_law_457 dL_law_458 dL_law_459 dL_law_460 dL_law_461 (by decide) (by omega) ?_
  refine x_arg (pc := 462) K S 3 dL_law_462 dL_law_463 dL_law_464 dL_law_465 dL_law_466 (by decide) (by omega) ?_
  refine x_arg (pc := 467) K S 4 dL_law_467 dL_law_468 dL_law_469 dL_law_470 dL_law_471 (by decide) (by omega) ?_
  refine x_calllV (pc := 472) (st := [.long ρ]) (n := 4) K (by decide) sh_76 rfl hQ1 gL_law_X8_carry (by decide +kernel) rfl (by decide) (by decide) rfl rfl (Nat.le_of_ble_eq_true rfl) dL_law_472 (fun ρ' I2 J2 hq => ?_)
  obtain ⟨e, hR2⟩ := hE ρ' I2 J2 hq
  refine x_lcmp (pc := 475) K dL_law_475 ?_
  exact x_if_eq (pc := 476) (tgt := 1114) K dL_law_476 (by decide) (fun _ => kk I2 J2 hR2) (fun w => absurd ((lg_cmp_eq _ _).mpr e) w)
set_option maxHeartbeats 1000000 in
set_option maxRecDepth 100000 in
theorem lc_7 (K : h_C Γ G l 4 cL_law wsL_law RL 9 380) (S : lw_S Γ b L xs) {i : Nat} (hi : i + 6 ≤ L) (hR : Rel I) (kk : ∀ I' J', Rel I' → h_WW Γ G 1114 (lw_lo G b i) [] I' J') : h_WW Γ G 481 (lw_lo G b i) [] I J := by
  obtain ⟨P, hP, hQ⟩ := op_off (l := l) (G := G) (J := J) hR (xs (i + 1)) (xs (i + 2)) (xs (i + 3))
  refine x_aload_n (pc := 481) (x := G.2.2 0) K 2 dL_law_481 rfl rfl ?_
  refine x_arg (pc := 482) K S 1 dL_law_482 dL_law_483 dL_law_484 dL_law_485 dL_law_486 (by decide) (by omega) ?_
  refine x_arg (pc := 487) K S 2 dL_law_487 dL_law_488 dL_law_489 dL_law_490 dL_law_491 (by decide) (by omega) ?_
  refine x_arg (pc := 492) K S 3 dL_law_492 dL_law_493 dL_law_494 dL_law_495 dL_law_496 (by decide) (by omega) ?_
  refine x_calllV (pc := 497) (st := []) (n := 3) K (by decide) sh_0 rfl hP gL_law_X7_off (by decide +kernel) rfl (by decide) (by decide) rfl rfl (Nat.le_of_ble_eq_true rfl) dL_law_497 (fun ρ I1 J1 hp => ?_)
  obtain ⟨Q, hQ1, hE⟩ := hQ ρ I1 J1 hp
  refine x_aload_n (pc := 500) (x := G.2.2 76) K 1 dL_law_500 rfl rfl ?_
  refine x_arg (pc := 501) K S 1 dL_law_501 dL_law_502 dL_law_503 dL_law_504 dL_law_505 (by decide) (by omega) ?_
  refine x_arg (pc := 506) K S 2 dL_law_506 dL_law_507 dL_law_508 dL_law_509 dL_law_510 (by decide) (by omega) ?_
  refine x_arg (pc := 511) K S 3 dL_law_511 dL_law_512 dL_law_513 dL_law_514 dL_law_515 (by decide) (by omega) ?_
  refine x_calllV (pc := 516) (st := [.long ρ]) (n := 3) K (by decide) sh_76 rfl hQ1 gL_law_X8_off (by decide +kernel) rfl (by decide) (by decide) rfl rfl (Nat.le_of_ble_eq_true rfl) dL_law_516 (fun ρ' I2 J2 hq => ?_)
  obtain ⟨e, hR2⟩ := hE ρ' I2 J2 hq
  refine x_lcmp (pc := 519) K dL_law_519 ?_
  exact x_if_eq (pc := 520) (tgt := 1114) K dL_law_520 (by decide) (fun _ => kk I2 J2 hR2) (fun w => absurd ((lg_cmp_eq _ _).mpr e) w)
set_option maxHeartbeats 1000000 in
set_option maxRecDepth 100000 in
theorem lc_8 (K : h_C Γ G l 4 cL_law wsL_law RL 9 380) (S : lw_S Γ b L xs) {i : Nat} (hi : i + 6 ≤ L) (hR : Rel I) (kk : ∀ I' J', Rel I' → h_WW Γ G 1114 (lw_lo G b i) [] I' J') : h_WW Γ G 525 (lw_lo G b i) [] I J := by
  obtain ⟨P, hP, hQ⟩ := op_miss (l := l) (G := G) (J := J) hR (xs (i + 1)) (xs (i + 2))
  refine x_aload_n (pc := 525) (x := G.2.2 0) K 2 dL_law_525 rfl rfl ?_
  refine x_arg (pc := 526) K S 1 dL_law_526 dL_law_527 dL_law_528 dL_law_529 dL_law_530 (by decide) (by omega) ?_
  refine x_arg (pc := 531) K S 2 dL_law_531 dL_law_532 dL_law_533 dL_law_534 dL_law_535 (by decide) (by omega) ?_
  refine x_calllV (pc := 536) (st := []) (n := 2) K (by decide) sh_0 rfl hP gL_law_X7_miss (by decide +kernel) rfl (by decide) (by decide) rfl rfl (Nat.le_of_ble_eq_true rfl) dL_law_536 (fun ρ I1 J1 hp => ?_)
  obtain ⟨Q, hQ1, hE⟩ := hQ ρ I1 J1 hp
  refine x_aload_n (pc := 539) (x := G.2.2 76) K 1 dL_law_539 rfl rfl ?_
  refine x_arg (pc := 540) K S 1 dL_law_540 dL_law_541 dL_law_542 dL_law_543 dL_law_544 (by decide) (by omega) ?_
  refine x_arg (pc := 545) K S 2 dL_law_545 dL_law_546 dL_law_547 dL_law_548 dL_law_549 (by decide) (by omega) ?_
  refine x_calllV (pc := 550) (st := [.long ρ]) (n := 2) K (by decide) sh_76 rfl hQ1 gL_law_X8_miss (by decide +kernel) rfl (by decide) (by decide) rfl rfl (Nat.le_of_ble_eq_true rfl) dL_law_550 (fun ρ' I2 J2 hq => ?_)
  obtain ⟨e, hR2⟩ := hE ρ' I2 J2 hq
  refine x_lcmp (pc := 553) K dL_law_553 ?_
  exact x_if_eq (pc := 554) (tgt := 1114) K dL_law_554 (by decide) (fun _ => kk I2 J2 hR2) (fun w => absurd ((lg_cmp_eq _ _).mpr e) w)
set_option maxHeartbeats 1000000 in
set_option maxRecDepth 100000 in
theorem lc_9 (K : h_C Γ G l 4 cL_law wsL_law RL 9 380) (S : lw_S Γ b L xs) {i : Nat} (hi : i + 6 ≤ L) (hR : Rel I) (kk : ∀ I' J', Rel I' → h_WW Γ G 1114 (lw_lo G b i) [] I' J') : h_WW Γ G 559 (lw_lo G b i) [] I J := by
  obtain ⟨P, hP, hQ⟩ := op_beyond (l := l) (G := G) (J := J) hR (xs (i + 1))
  refine x_aload_n (pc := 559) (x := G.2.2 0) K 2 dL_law_559 rfl rfl ?_
  refine x_arg (pc := 560) K S 1 dL_law_560 dL_law_561 dL_law_562 dL_law_563 dL_law_564 (by decide) (by omega) ?_
  refine x_calliV (pc := 565) (st := []) (n := 1) K (by decide) sh_0 rfl hP gL_law_X7_beyond (by decide +kernel) rfl (by decide) (by decide) rfl rfl (Nat.le_of_ble_eq_true rfl) dL_law_565 (fun ρ I1 J1 hp => ?_)
  obtain ⟨Q, hQ1, hE⟩ := hQ ρ I1 J1 hp
  refine x_aload_n (pc := 568) (x := G.2.2 76) K 1 dL_law_568 rfl rfl ?_
  refine x_arg (pc := 569) K S 1 dL_law_569 dL_law_570 dL_law_571 dL_law_572 dL_law_573 (by decide) (by omega) ?_
  refine x_calliV (pc := 574) (st := [.int ρ]) (n := 1) K (by decide) sh_76 rfl hQ1 gL_law_X8_beyond (by decide +kernel) rfl (by decide) (by decide) rfl rfl (Nat.le_of_ble_eq_true rfl) dL_law_574 (fun ρ' I2 J2 hq => ?_)
  obtain ⟨e, hR2⟩ := hE ρ' I2 J2 hq
  exact x_icmp_eq (pc := 577) (tgt := 1114) K dL_law_577 (by decide) (fun _ => kk I2 J2 hR2) (fun w => absurd e w)
set_option maxHeartbeats 1000000 in
set_option maxRecDepth 100000 in
theorem lc_10 (K : h_C Γ G l 4 cL_law wsL_law RL 9 380) (S : lw_S Γ b L xs) {i : Nat} (hi : i + 6 ≤ L) (hR : Rel I) (kk : ∀ I' J', Rel I' → h_WW Γ G 1114 (lw_lo G b i) [] I' J') : h_WW Γ G 582 (lw_lo G b i) [] I J := by
  obtain ⟨P, hP, hQ⟩ := op_lying (l := l) (G := G) (J := J) hR (xs (i + 1))
  refine x_aload_n (pc := 582) (x := G.2.2 0) K 2 dL_law_582 rfl rfl ?_
  refine x_arg (pc := 583) K S 1 dL_law_583 dL_law_584 dL_law_585 dL_law_586 dL_law_587 (by decide) (by omega) ?_
  refine x_calliV (pc := 588) (st := []) (n := 1) K (by decide) sh_0 rfl hP gL_law_X7_lying (by decide +kernel) rfl (by decide) (by decide) rfl rfl (Nat.le_of_ble_eq_true rfl) dL_law_588 (fun ρ I1 J1 hp => ?_)
  obtain ⟨Q, hQ1, hE⟩ := hQ ρ I1 J1 hp
  refine x_aload_n (pc := 591) (x := G.2.2 76) K 1 dL_law_591 rfl rfl ?_
  refine x_arg (pc := 592) K S 1 dL_law_592 dL_law_593 dL_law_594 dL_law_595 dL_law_596 (by decide) (by omega) ?_
  refine x_calliV (pc := 597) (st := [.int ρ]) (n := 1) K (by decide) sh_76 rfl hQ1 gL_law_X8_lying (by decide +kernel) rfl (by decide) (by decide) rfl rfl (Nat.le_of_ble_eq_true rfl) dL_law_597 (fun ρ' I2 J2 hq => ?_)
  obtain ⟨e, hR2⟩ := hE ρ' I2 J2 hq
  exact x_icmp_eq (pc := 600) (tgt := 1114) K dL_law_600 (by decide) (fun _ => kk I2 J2 hR2) (fun w => absurd e w)
set_option maxHeartbeats 1000000 in
set_option maxRecDepth 100000 in
theorem lc_11 (K : h_C Γ G l 4 cL_law wsL_law RL 9 380) (S : lw_S Γ b L xs) {i : Nat} (hi : i + 6 ≤ L) (hR : Rel I) (kk : ∀ I' J', Rel I' → h_WW Γ G 1114 (lw_lo G b i) [] I' J') : h_WW Γ G 605 (lw_lo G b i) [] I J := by
  obtain ⟨P, hP, hQ⟩ := op_drop (l := l) (G := G) (J := J) hR (xs (i + 1))
  refine x_aload_n (pc := 605) (x := G.2.2 0) K 2 dL_law_605 rfl rfl ?_
  refine x_arg (pc := 606) K S 1 dL_law_606 dL_law_607 dL_law_608 dL_law_609 dL_law_610 (by decide) (by omega) ?_
  refine x_calliV (pc := 611) (st := []) (n := 1) K (by decide) sh_0 rfl hP gL_law_X7_drop (by decide +kernel) rfl (by decide) (by decide) rfl rfl (Nat.le_of_ble_eq_true rfl) dL_law_611 (fun ρ I1 J1 hp => ?_)
  obtain ⟨Q, hQ1, hE⟩ := hQ ρ I1 J1 hp
  refine x_aload_n (pc := 614) (x := G.2.2 76) K 1 dL_law_614 rfl rfl ?_
  refine x_arg (pc := 615) K S 1 dL_law_615 dL_law_616 dL_law_617 dL_law_618 dL_law_619 (by decide) (by omega) ?_
  refine x_calliV (pc := 620) (st := [.int ρ]) (n := 1) K (by decide) sh_76 rfl hQ1 gL_law_X8_drop (by decide +kernel) rfl (by decide) (by decide) rfl rfl (Nat.le_of_ble_eq_true rfl) dL_law_620 (fun ρ' I2 J2 hq => ?_)
  obtain ⟨e, hR2⟩ := hE ρ' I2 J2 hq
  exact x_icmp_eq (pc := 623) (tgt := 1114) K dL_law_623 (by decide) (fun _ => kk I2 J2 hR2) (fun w => absurd e w)
set_option maxHeartbeats 1000000 in
set_option maxRecDepth 100000 in
theorem lc_12 (K : h_C Γ G l 4 cL_law wsL_law RL 9 380) (S : lw_S Γ b L xs) {i : Nat} (hi : i + 6 ≤ L) (hR : Rel I) (kk : ∀ I' J', Rel I' → h_WW Γ G 1114 (lw_lo G b i) [] I' J') : h_WW Γ G 628 (lw_lo G b i) [] I J := by
  obtain ⟨P, hP, hQ⟩ := op_rule (l := l) (G := G) (J := J) hR (xs (i + 1)) (xs (i + 2))
  refine x_aload_n (pc := 628) (x := G.2.2 0) K 2 dL_law_628 rfl rfl ?_
  refine x_arg (pc := 629) K S 1 dL_law_629 dL_law_630 dL_law_631 dL_law_632 dL_law_633 (by decide) (by omega) ?_
  refine x_arg (pc := 634) K S 2 dL_law_634 dL_law_635 dL_law_636 dL_law_637 dL_law_638 (by decide) (by omega) ?_
  refine x_calliV (pc := 639) (st := []) (n := 2) K (by decide) sh_0 rfl hP gL_law_X7_rule (by decide +kernel) rfl (by decide) (by decide) rfl rfl (Nat.le_of_ble_eq_true rfl) dL_law_639 (fun ρ I1 J1 hp => ?_)
  obtain ⟨Q, hQ1, hE⟩ := hQ ρ I1 J1 hp
  refine x_aload_n (pc := 642) (x := G.2.2 76) K 1 dL_law_642 rfl rfl ?_
  refine x_arg (pc := 643) K S 1 dL_law_643 dL_law_644 dL_law_645 dL_law_646 dL_law_647 (by decide) (by omega) ?_
  refine x_arg (pc := 648) K S 2 dL_law_648 dL_law_649 dL_law_650 dL_law_651 dL_law_652 (by decide) (by omega) ?_
  refine x_calliV (pc := 653) (st := [.int ρ]) (n := 2) K (by decide) sh_76 rfl hQ1 gL_law_X8_rule (by decide +kernel) rfl (by decide) (by decide) rfl rfl (Nat.le_of_ble_eq_true rfl) dL_law_653 (fun ρ' I2 J2 hq => ?_)
  obtain ⟨e, hR2⟩ := hE ρ' I2 J2 hq
  exact x_icmp_eq (pc := 656) (tgt := 1114) K dL_law_656 (by decide) (fun _ => kk I2 J2 hR2) (fun w => absurd e w)
set_option maxHeartbeats 1000000 in
set_option maxRecDepth 100000 in
theorem lc_13 (K : h_C Γ G l 4 cL_law wsL_law RL 9 380) (S : lw_S Γ b L xs) {i : Nat} (hi : i + 6 ≤ L) (hR : Rel I) (kk : ∀ I' J', Rel I' → h_WW Γ G 1114 (lw_lo G b i) [] I' J') : h_WW Γ G 661 (lw_lo G b i) [] I J := by
  obtain ⟨P, hP, hQ⟩ := op_triangle (l := l) (G := G) (J := J) hR (xs (i + 1)) (xs (i + 2)) (xs (i + 3))
  refine x_aload_n (pc := 661) (x := G.2.2 0) K 2 dL_law_661 rfl rfl ?_
  refine x_arg (pc := 662) K S 1 dL_law_662 dL_law_663 dL_law_664 dL_law_665 dL_law_666 (by decide) (by omega) ?_
  refine x_arg (pc := 667) K S 2 dL_law_667 dL_law_668 dL_law_669 dL_law_670 dL_law_671 (by decide) (by omega) ?_
  refine x_arg (pc := 672) K S 3 dL_law_672 dL_law_673 dL_law_674 dL_law_675 dL_law_676 (by decide) (by omega) ?_
  refine x_calliV (pc := 677) (st := []) (n := 3) K (by decide) sh_0 rfl hP gL_law_X7_triangle (by decide +kernel) rfl (by decide) (by decide) rfl rfl (Nat.le_of_ble_eq_true rfl) dL_law_677 (fun ρ I1 J1 hp => ?_)
  obtain ⟨Q, hQ1, hE⟩ := hQ ρ I1 J1 hp
  refine x_aload_n (pc := 680) (x := G.2.2 76) K 1 dL_law_680 rfl rfl ?_
  refine x_arg (pc := 681) K S 1 dL_law_681 dL_law_682 dL_law_683 dL_law_684 dL_law_685 (by decide) (by omega) ?_
  refine x_arg (pc := 686) K S 2 dL_law_686 dL_law_687 dL_law_688 dL_law_689 dL_law_690 (by decide) (by omega) ?_
  refine x_arg (pc := 691) K S 3 dL_law_691 dL_law_692 dL_law_693 dL_law_694 dL_law_695 (by decide) (by omega) ?_
  refine x_calliV (pc := 696) (st := [.int ρ]) (n := 3) K (by decide) sh_76 rfl hQ1 gL_law_X8_triangle (by decide +kernel) rfl (by decide) (by decide) rfl rfl (Nat.le_of_ble_eq_true rfl) dL_law_696 (fun ρ' I2 J2 hq => ?_)
  obtain ⟨e, hR2⟩ := hE ρ' I2 J2 hq
  exact x_icmp_eq (pc := 699) (tgt := 1114) K dL_law_699 (by decide) (fun _ => kk I2 J2 hR2) (fun w => absurd e w)
end LC
