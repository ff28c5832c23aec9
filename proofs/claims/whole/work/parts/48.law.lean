section LAWC
variable {l : Launch} {D : va_G} {b Ln : Nat} {xs : Nat → Int32} {h : PH} {n j : Nat}
theorem lc_birth (hL : Ln ≤ 384) (hj : j + 6 ≤ Ln) (hI : Inv h n) (K : ∀ h2 n2, Inv h2 n2 → WL l D b Ln xs (lvI b (nI j)) 941 [] h2 n2) : WL l D b Ln xs (lvI b (nI j)) 160 [] h n := by
  obtain ⟨v, h1, h2, mc, ms, fs, hx, hc, hl1, hm, hI2, hmc, hms⟩ := stp_birth (l := l) (D := D) hI (xs (j + 1)) (xs (j + 2)) (xs (j + 3))
  obtain ⟨hl, hnn⟩ := hI.len
  obtain ⟨fs0, hc0⟩ := hI.c0
  refine wl_ldx dL_law_160 ?_
  refine wl_arg 1 dL_law_161 dL_law_162 dL_law_163 dL_law_164 dL_law_165 (by decide) (by omega) hL ?_
  refine wl_arg 2 dL_law_166 dL_law_167 dL_law_168 dL_law_169 dL_law_170 (by decide) (by omega) hL ?_
  refine wl_arg 3 dL_law_171 dL_law_172 dL_law_173 dL_law_174 dL_law_175 (by decide) (by omega) hL ?_
  refine wl_callV (T1 := TX6) (N1 := 6) (fs := fs0) (st := []) dL_law_176 k_L_13 hx rfl rfl hc0 rfl (by decide) (by decide) (by decide) ⟨show _ ≤ 600000 by omega, show _ ≤ 7302250 by omega⟩ ?_
  refine wl_ldm dL_law_179 ?_
  refine wl_arg 1 dL_law_180 dL_law_181 dL_law_182 dL_law_183 dL_law_184 (by decide) (by omega) hL ?_
  refine wl_arg 2 dL_law_185 dL_law_186 dL_law_187 dL_law_188 dL_law_189 (by decide) (by omega) hL ?_
  refine wl_arg 3 dL_law_190 dL_law_191 dL_law_192 dL_law_193 dL_law_194 (by decide) (by omega) hL ?_
  refine wl_callV (T1 := TX7) (N1 := 17) (fs := fs) (st := [.int v]) dL_law_195 k_L_17 hm rfl rfl hc rfl (by decide) (by decide) (show _ ≤ 8 by simp [Value.category]) ⟨show _ ≤ 600000 by omega, show _ ≤ 7302250 by omega⟩ ?_
  refine wl_eq (tgt := 941) dL_law_198 (by decide) ?_
  exact K _ _ hI2
theorem lc_box (hL : Ln ≤ 384) (hj : j + 6 ≤ Ln) (hI : Inv h n) (K : ∀ h2 n2, Inv h2 n2 → WL l D b Ln xs (lvI b (nI j)) 941 [] h2 n2) : WL l D b Ln xs (lvI b (nI j)) 203 [] h n := by
  obtain ⟨v, h1, h2, mc, ms, fs, hx, hc, hl1, hm, hI2, hmc, hms⟩ := stp_box (l := l) (D := D) hI (xs (j + 1)) (xs (j + 2)) (xs (j + 3)) (xs (j + 4))
  obtain ⟨hl, hnn⟩ := hI.len
  obtain ⟨fs0, hc0⟩ := hI.c0
  refine wl_ldx dL_law_203 ?_
  refine wl_arg 1 dL_law_204 dL_law_205 dL_law_206 dL_law_207 dL_law_208 (by decide) (by omega) hL ?_
  refine wl_arg 2 dL_law_209 dL_law_210 dL_law_211 dL_law_212 dL_law_213 (by decide) (by omega) hL ?_
  refine wl_arg 3 dL_law_214 dL_law_215 dL_law_216 dL_law_217 dL_law_218 (by decide) (by omega) hL ?_
  refine wl_arg 4 dL_law_219 dL_law_220 dL_law_221 dL_law_222 dL_law_223 (by decide) (by omega) hL ?_
  refine wl_callV (T1 := TX6) (N1 := 6) (fs := fs0) (st := []) dL_law_224 k_L_18 hx rfl rfl hc0 rfl (by decide) (by decide) (by decide) ⟨show _ ≤ 600000 by omega, show _ ≤ 7302250 by omega⟩ ?_
  refine wl_ldm dL_law_227 ?_
  refine wl_arg 1 dL_law_228 dL_law_229 dL_law_230 dL_law_231 dL_law_232 (by decide) (by omega) hL ?_
  refine wl_arg 2 dL_law_233 dL_law_234 dL_law_235 dL_law_236 dL_law_237 (by decide) (by omega) hL ?_
  refine wl_arg 3 dL_law_238 dL_law_239 dL_law_240 dL_law_241 dL_law_242 (by decide) (by omega) hL ?_
  refine wl_arg 4 dL_law_243 dL_law_244 dL_law_245 dL_law_246 dL_law_247 (by decide) (by omega) hL ?_
  refine wl_callV (T1 := TX7) (N1 := 17) (fs := fs) (st := [.int v]) dL_law_248 k_L_22 hm rfl rfl hc rfl (by decide) (by decide) (show _ ≤ 8 by simp [Value.category]) ⟨show _ ≤ 600000 by omega, show _ ≤ 7302250 by omega⟩ ?_
  refine wl_eq (tgt := 941) dL_law_251 (by decide) ?_
  exact K _ _ hI2
theorem lc_say (hL : Ln ≤ 384) (hj : j + 6 ≤ Ln) (hI : Inv h n) (K : ∀ h2 n2, Inv h2 n2 → WL l D b Ln xs (lvI b (nI j)) 941 [] h2 n2) : WL l D b Ln xs (lvI b (nI j)) 256 [] h n := by
  obtain ⟨v, h1, h2, mc, ms, fs, hx, hc, hl1, hm, hI2, hmc, hms⟩ := stp_say (l := l) (D := D) hI (xs (j + 1))
  obtain ⟨hl, hnn⟩ := hI.len
  obtain ⟨fs0, hc0⟩ := hI.c0
  refine wl_ldx dL_law_256 ?_
  refine wl_arg 1 dL_law_257 dL_law_258 dL_law_259 dL_law_260 dL_law_261 (by decide) (by omega) hL ?_
  refine wl_callV (T1 := TX6) (N1 := 6) (fs := fs0) (st := []) dL_law_262 k_L_23 hx rfl rfl hc0 rfl (by decide) (by decide) (by decide) ⟨show _ ≤ 600000 by omega, show _ ≤ 7302250 by omega⟩ ?_
  refine wl_ldm dL_law_265 ?_
  refine wl_arg 1 dL_law_266 dL_law_267 dL_law_268 dL_law_269 dL_law_270 (by decide) (by omega) hL ?_
  refine wl_callV (T1 := TX7) (N1 := 17) (fs := fs) (st := [.int v]) dL_law_271 k_L_27 hm rfl rfl hc rfl (by decide) (by decide) (show _ ≤ 8 by simp [Value.category]) ⟨show _ ≤ 600000 by omega, show _ ≤ 7302250 by omega⟩ ?_
  refine wl_eq (tgt := 941) dL_law_274 (by decide) ?_
  exact K _ _ hI2
theorem lc_wipe (hL : Ln ≤ 384) (hj : j + 6 ≤ Ln) (hI : Inv h n) (K : ∀ h2 n2, Inv h2 n2 → WL l D b Ln xs (lvI b (nI j)) 941 [] h2 n2) : WL l D b Ln xs (lvI b (nI j)) 279 [] h n := by
  obtain ⟨v, h1, h2, mc, ms, fs, hx, hc, hl1, hm, hI2, hmc, hms⟩ := stp_wipe (l := l) (D := D) hI 
  obtain ⟨hl, hnn⟩ := hI.len
  obtain ⟨fs0, hc0⟩ := hI.c0
  refine wl_ldx dL_law_279 ?_
  refine wl_callV (T1 := TX6) (N1 := 6) (fs := fs0) (st := []) dL_law_280 k_L_28 hx rfl rfl hc0 rfl (by decide) (by decide) (by decide) ⟨show _ ≤ 600000 by omega, show _ ≤ 7302250 by omega⟩ ?_
  refine wl_ldm dL_law_283 ?_
  refine wl_callV (T1 := TX7) (N1 := 17) (fs := fs) (st := [.int v]) dL_law_284 k_L_32 hm rfl rfl hc rfl (by decide) (by decide) (show _ ≤ 8 by simp [Value.category]) ⟨show _ ≤ 600000 by omega, show _ ≤ 7302250 by omega⟩ ?_
  refine wl_eq (tgt := 941) dL_law_287 (by decide) ?_
  exact K _ _ hI2
theorem lc_fault (hL : Ln ≤ 384) (hj : j + 6 ≤ Ln) (hI : Inv h n) (K : ∀ h2 n2, Inv h2 n2 → WL l D b Ln xs (lvI b (nI j)) 941 [] h2 n2) : WL l D b Ln xs (lvI b (nI j)) 292 [] h n := by
  obtain ⟨v, h1, h2, mc, ms, fs, hx, hc, hl1, hm, hI2, hmc, hms⟩ := stp_fault (l := l) (D := D) hI 
  obtain ⟨hl, hnn⟩ := hI.len
  obtain ⟨fs0, hc0⟩ := hI.c0
  refine wl_ldx dL_law_292 ?_
  refine wl_callV (T1 := TX6) (N1 := 6) (fs := fs0) (st := []) dL_law_293 k_L_33 hx rfl rfl hc0 rfl (by decide) (by decide) (by decide) ⟨show _ ≤ 600000 by omega, show _ ≤ 7302250 by omega⟩ ?_
  refine wl_ldm dL_law_296 ?_
  refine wl_callV (T1 := TX7) (N1 := 17) (fs := fs) (st := [.int v]) dL_law_297 k_L_36 hm rfl rfl hc rfl (by decide) (by decide) (show _ ≤ 8 by simp [Value.category]) ⟨show _ ≤ 600000 by omega, show _ ≤ 7302250 by omega⟩ ?_
  refine wl_eq (tgt := 941) dL_law_300 (by decide) ?_
  exact K _ _ hI2
theorem lc_judge (hL : Ln ≤ 384) (hj : j + 6 ≤ Ln) (hI : Inv h n) (K : ∀ h2 n2, Inv h2 n2 → WL l D b Ln xs (lvI b (nI j)) 941 [] h2 n2) : WL l D b Ln xs (lvI b (nI j)) 305 [] h n := by
  obtain ⟨v, h1, h2, mc, ms, fs, hx, hc, hl1, hm, hI2, hmc, hms⟩ := stp_judge (l := l) (D := D) hI (xs (j + 1))
  obtain ⟨hl, hnn⟩ := hI.len
  obtain ⟨fs0, hc0⟩ := hI.c0
  refine wl_ldx dL_law_305 ?_
  refine wl_arg 1 dL_law_306 dL_law_307 dL_law_308 dL_law_309 dL_law_310 (by decide) (by omega) hL ?_
  refine wl_callV (T1 := TX6) (N1 := 6) (fs := fs0) (st := []) dL_law_311 k_L_37 hx rfl rfl hc0 rfl (by decide) (by decide) (by decide) ⟨show _ ≤ 600000 by omega, show _ ≤ 7302250 by omega⟩ ?_
  refine wl_ldm dL_law_314 ?_
  refine wl_arg 1 dL_law_315 dL_law_316 dL_law_317 dL_law_318 dL_law_319 (by decide) (by omega) hL ?_
  refine wl_callV (T1 := TX7) (N1 := 17) (fs := fs) (st := [.int v]) dL_law_320 k_L_40 hm rfl rfl hc rfl (by decide) (by decide) (show _ ≤ 8 by simp [Value.category]) ⟨show _ ≤ 600000 by omega, show _ ≤ 7302250 by omega⟩ ?_
  refine wl_eq (tgt := 941) dL_law_323 (by decide) ?_
  exact K _ _ hI2
theorem lc_done (hL : Ln ≤ 384) (hj : j + 6 ≤ Ln) (hI : Inv h n) (K : ∀ h2 n2, Inv h2 n2 → WL l D b Ln xs (lvI b (nI j)) 941 [] h2 n2) : WL l D b Ln xs (lvI b (nI j)) 328 [] h n := by
  obtain ⟨v, h1, h2, mc, ms, fs, hx, hc, hl1, hm, hI2, hmc, hms⟩ := stp_done (l := l) (D := D) hI 
  obtain ⟨hl, hnn⟩ := hI.len
  obtain ⟨fs0, hc0⟩ := hI.c0
  refine wl_ldx dL_law_328 ?_
  refine wl_callV (T1 := TX6) (N1 := 6) (fs := fs0) (st := []) dL_law_329 k_L_41 hx rfl rfl hc0 rfl (by decide) (by decide) (by decide) ⟨show _ ≤ 600000 by omega, show _ ≤ 7302250 by omega⟩ ?_
  refine wl_ldm dL_law_332 ?_
  refine wl_callV (T1 := TX7) (N1 := 17) (fs := fs) (st := [.int v]) dL_law_333 k_L_44 hm rfl rfl hc rfl (by decide) (by decide) (show _ ≤ 8 by simp [Value.category]) ⟨show _ ≤ 600000 by omega, show _ ≤ 7302250 by omega⟩ ?_
  refine wl_eq (tgt := 941) dL_law_336 (by decide) ?_
  exact K _ _ hI2
theorem lc_behind (hL : Ln ≤ 384) (hj : j + 6 ≤ Ln) (hI : Inv h n) (K : ∀ h2 n2, Inv h2 n2 → WL l D b Ln xs (lvI b (nI j)) 941 [] h2 n2) : WL l D b Ln xs (lvI b (nI j)) 341 [] h n := by
  obtain ⟨v, h1, h2, mc, ms, fs, hx, hc, hl1, hm, hI2, hmc, hms⟩ := stp_behind (l := l) (D := D) hI (xs (j + 1)) (xs (j + 2))
  obtain ⟨hl, hnn⟩ := hI.len
  obtain ⟨fs0, hc0⟩ := hI.c0
  refine wl_ldx dL_law_341 ?_
  refine wl_arg 1 dL_law_342 dL_law_343 dL_law_344 dL_law_345 dL_law_346 (by decide) (by omega) hL ?_
  refine wl_arg 2 dL_law_347 dL_law_348 dL_law_349 dL_law_350 dL_law_351 (by decide) (by omega) hL ?_
  refine wl_callV (T1 := TX6) (N1 := 6) (fs := fs0) (st := []) dL_law_352 k_L_45 hx rfl rfl hc0 rfl (by decide) (by decide) (by decide) ⟨show _ ≤ 600000 by omega, show _ ≤ 7302250 by omega⟩ ?_
  refine wl_ldm dL_law_355 ?_
  refine wl_arg 1 dL_law_356 dL_law_357 dL_law_358 dL_law_359 dL_law_360 (by decide) (by omega) hL ?_
  refine wl_arg 2 dL_law_361 dL_law_362 dL_law_363 dL_law_364 dL_law_365 (by decide) (by omega) hL ?_
  refine wl_callV (T1 := TX7) (N1 := 17) (fs := fs) (st := [.int v]) dL_law_366 k_L_49 hm rfl rfl hc rfl (by decide) (by decide) (show _ ≤ 8 by simp [Value.category]) ⟨show _ ≤ 600000 by omega, show _ ≤ 7302250 by omega⟩ ?_
  refine wl_eq (tgt := 941) dL_law_369 (by decide) ?_
  exact K _ _ hI2
theorem lc_then (hL : Ln ≤ 384) (hj : j + 6 ≤ Ln) (hI : Inv h n) (K : ∀ h2 n2, Inv h2 n2 → WL l D b Ln xs (lvI b (nI j)) 941 [] h2 n2) : WL l D b Ln xs (lvI b (nI j)) 374 [] h n := by
  obtain ⟨v, h1, h2, mc, ms, fs, hx, hc, hl1, hm, hI2, hmc, hms⟩ := stp_then (l := l) (D := D) hI (xs (j + 1))
  obtain ⟨hl, hnn⟩ := hI.len
  obtain ⟨fs0, hc0⟩ := hI.c0
  refine wl_ldx dL_law_374 ?_
  refine wl_arg 1 dL_law_375 dL_law_376 dL_law_377 dL_law_378 dL_law_379 (by decide) (by omega) hL ?_
  refine wl_callV (T1 := TX6) (N1 := 6) (fs := fs0) (st := []) dL_law_380 k_L_50 hx rfl rfl hc0 rfl (by decide) (by decide) (by decide) ⟨show _ ≤ 600000 by omega, show _ ≤ 7302250 by omega⟩ ?_
  refine wl_ldm dL_law_383 ?_
  refine wl_arg 1 dL_law_384 dL_law_385 dL_law_386 dL_law_387 dL_law_388 (by decide) (by omega) hL ?_
  refine wl_callV (T1 := TX7) (N1 := 17) (fs := fs) (st := [.int v]) dL_law_389 k_L_53 hm rfl rfl hc rfl (by decide) (by decide) (show _ ≤ 8 by simp [Value.category]) ⟨show _ ≤ 600000 by omega, show _ ≤ 7302250 by omega⟩ ?_
  refine wl_eq (tgt := 941) dL_law_392 (by decide) ?_
  exact K _ _ hI2
theorem lc_opens (hL : Ln ≤ 384) (hj : j + 6 ≤ Ln) (hI : Inv h n) (K : ∀ h2 n2, Inv h2 n2 → WL l D b Ln xs (lvI b (nI j)) 941 [] h2 n2) : WL l D b Ln xs (lvI b (nI j)) 397 [] h n := by
  obtain ⟨v, h1, h2, mc, ms, fs, hx, hc, hl1, hm, hI2, hmc, hms⟩ := stp_opens (l := l) (D := D) hI (xs (j + 1))
  obtain ⟨hl, hnn⟩ := hI.len
  obtain ⟨fs0, hc0⟩ := hI.c0
  refine wl_ldx dL_law_397 ?_
  refine wl_arg 1 dL_law_398 dL_law_399 dL_law_400 dL_law_401 dL_law_402 (by decide) (by omega) hL ?_
  refine wl_callV (T1 := TX6) (N1 := 6) (fs := fs0) (st := []) dL_law_403 k_L_54 hx rfl rfl hc0 rfl (by decide) (by decide) (by decide) ⟨show _ ≤ 600000 by omega, show _ ≤ 7302250 by omega⟩ ?_
  refine wl_ldm dL_law_406 ?_
  refine wl_arg 1 dL_law_407 dL_law_408 dL_law_409 dL_law_410 dL_law_411 (by decide) (by omega) hL ?_
  refine wl_callV (T1 := TX7) (N1 := 17) (fs := fs) (st := [.int v]) dL_law_412 k_L_57 hm rfl rfl hc rfl (by decide) (by decide) (show _ ≤ 8 by simp [Value.category]) ⟨show _ ≤ 600000 by omega, show _ ≤ 7302250 by omega⟩ ?_
  refine wl_eq (tgt := 941) dL_law_415 (by decide) ?_
  exact K _ _ hI2
theorem lc_two (hL : Ln ≤ 384) (hj : j + 6 ≤ Ln) (hI : Inv h n) (K : ∀ h2 n2, Inv h2 n2 → WL l D b Ln xs (lvI b (nI j)) 941 [] h2 n2) : WL l D b Ln xs (lvI b (nI j)) 420 [] h n := by
  obtain ⟨v, h1, h2, mc, ms, fs, hx, hc, hl1, hm, hI2, hmc, hms⟩ := stp_two (l := l) (D := D) hI 
  obtain ⟨hl, hnn⟩ := hI.len
  obtain ⟨fs0, hc0⟩ := hI.c0
  refine wl_ldx dL_law_420 ?_
  refine wl_callV (T1 := TX6) (N1 := 6) (fs := fs0) (st := []) dL_law_421 k_L_58 hx rfl rfl hc0 rfl (by decide) (by decide) (by decide) ⟨show _ ≤ 600000 by omega, show _ ≤ 7302250 by omega⟩ ?_
  refine wl_ldm dL_law_424 ?_
  refine wl_callV (T1 := TX7) (N1 := 17) (fs := fs) (st := [.int v]) dL_law_425 k_L_61 hm rfl rfl hc rfl (by decide) (by decide) (show _ ≤ 8 by simp [Value.category]) ⟨show _ ≤ 600000 by omega, show _ ≤ 7302250 by omega⟩ ?_
  refine wl_eq (tgt := 941) dL_law_428 (by decide) ?_
  exact K _ _ hI2
theorem lc_chain (hL : Ln ≤ 384) (hj : j + 6 ≤ Ln) (hI : Inv h n) (K : ∀ h2 n2, Inv h2 n2 → WL l D b Ln xs (lvI b (nI j)) 941 [] h2 n2) : WL l D b Ln xs (lvI b (nI j)) 433 [] h n := by
  obtain ⟨v, h1, h2, mc, ms, fs, hx, hc, hl1, hm, hI2, hmc, hms⟩ := stp_chain (l := l) (D := D) hI (xs (j + 1)) (xs (j + 2))
  obtain ⟨hl, hnn⟩ := hI.len
  obtain ⟨fs0, hc0⟩ := hI.c0
  refine wl_ldx dL_law_433 ?_
  refine wl_arg 1 dL_law_434 dL_law_435 dL_law_436 dL_law_437 dL_law_438 (by decide) (by omega) hL ?_
  refine wl_arg 2 dL_law_439 dL_law_440 dL_law_441 dL_law_442 dL_law_443 (by decide) (by omega) hL ?_
  refine wl_callV (T1 := TX6) (N1 := 6) (fs := fs0) (st := []) dL_law_444 k_L_62 hx rfl rfl hc0 rfl (by decide) (by decide) (by decide) ⟨show _ ≤ 600000 by omega, show _ ≤ 7302250 by omega⟩ ?_
  refine wl_ldm dL_law_447 ?_
  refine wl_arg 1 dL_law_448 dL_law_449 dL_law_450 dL_law_451 dL_law_452 (by decide) (by omega) hL ?_
  refine wl_arg 2 dL_law_453 dL_law_454 dL_law_455 dL_law_456 dL_law_457 (by decide) (by omega) hL ?_
  refine wl_callV (T1 := TX7) (N1 := 17) (fs := fs) (st := [.int v]) dL_law_458 k_L_65 hm rfl rfl hc rfl (by decide) (by decide) (show _ ≤ 8 by simp [Value.category]) ⟨show _ ≤ 600000 by omega, show _ ≤ 7302250 by omega⟩ ?_
  refine wl_eq (tgt := 941) dL_law_461 (by decide) ?_
  exact K _ _ hI2
theorem lc_owes (hL : Ln ≤ 384) (hj : j + 6 ≤ Ln) (hI : Inv h n) (K : ∀ h2 n2, Inv h2 n2 → WL l D b Ln xs (lvI b (nI j)) 941 [] h2 n2) : WL l D b Ln xs (lvI b (nI j)) 466 [] h n := by
  obtain ⟨v, h1, h2, mc, ms, fs, hx, hc, hl1, hm, hI2, hmc, hms⟩ := stp_owes (l := l) (D := D) hI (xs (j + 1)) (xs (j + 2))
  obtain ⟨hl, hnn⟩ := hI.len
  obtain ⟨fs0, hc0⟩ := hI.c0
  refine wl_ldx dL_law_466 ?_
  refine wl_arg 1 dL_law_467 dL_law_468 dL_law_469 dL_law_470 dL_law_471 (by decide) (by omega) hL ?_
  refine wl_arg 2 dL_law_472 dL_law_473 dL_law_474 dL_law_475 dL_law_476 (by decide) (by omega) hL ?_
  refine wl_callV (T1 := TX6) (N1 := 6) (fs := fs0) (st := []) dL_law_477 k_L_66 hx rfl rfl hc0 rfl (by decide) (by decide) (by decide) ⟨show _ ≤ 600000 by omega, show _ ≤ 7302250 by omega⟩ ?_
  refine wl_ldm dL_law_480 ?_
  refine wl_arg 1 dL_law_481 dL_law_482 dL_law_483 dL_law_484 dL_law_485 (by decide) (by omega) hL ?_
  refine wl_arg 2 dL_law_486 dL_law_487 dL_law_488 dL_law_489 dL_law_490 (by decide) (by omega) hL ?_
  refine wl_callV (T1 := TX7) (N1 := 17) (fs := fs) (st := [.int v]) dL_law_491 k_L_69 hm rfl rfl hc rfl (by decide) (by decide) (show _ ≤ 8 by simp [Value.category]) ⟨show _ ≤ 600000 by omega, show _ ≤ 7302250 by omega⟩ ?_
  refine wl_eq (tgt := 941) dL_law_494 (by decide) ?_
  exact K _ _ hI2
theorem lc_netted (hL : Ln ≤ 384) (hj : j + 6 ≤ Ln) (hI : Inv h n) (K : ∀ h2 n2, Inv h2 n2 → WL l D b Ln xs (lvI b (nI j)) 941 [] h2 n2) : WL l D b Ln xs (lvI b (nI j)) 499 [] h n := by
  obtain ⟨v, h1, h2, mc, ms, fs, hx, hc, hl1, hm, hI2, hmc, hms⟩ := stp_netted (l := l) (D := D) hI (xs (j + 1))
  obtain ⟨hl, hnn⟩ := hI.len
  obtain ⟨fs0, hc0⟩ := hI.c0
  refine wl_ldx dL_law_499 ?_
  refine wl_arg 1 dL_law_500 dL_law_501 dL_law_502 dL_law_503 dL_law_504 (by decide) (by omega) hL ?_
  refine wl_callV (T1 := TX6) (N1 := 6) (fs := fs0) (st := []) dL_law_505 k_L_70 hx rfl rfl hc0 rfl (by decide) (by decide) (by decide) ⟨show _ ≤ 600000 by omega, show _ ≤ 7302250 by omega⟩ ?_
  refine wl_ldm dL_law_508 ?_
  refine wl_arg 1 dL_law_509 dL_law_510 dL_law_511 dL_law_512 dL_law_513 (by decide) (by omega) hL ?_
  refine wl_callV (T1 := TX7) (N1 := 17) (fs := fs) (st := [.int v]) dL_law_514 k_L_73 hm rfl rfl hc rfl (by decide) (by decide) (show _ ≤ 8 by simp [Value.category]) ⟨show _ ≤ 600000 by omega, show _ ≤ 7302250 by omega⟩ ?_
  refine wl_eq (tgt := 941) dL_law_517 (by decide) ?_
  exact K _ _ hI2
theorem lc_rings (hL : Ln ≤ 384) (hj : j + 6 ≤ Ln) (hI : Inv h n) (K : ∀ h2 n2, Inv h2 n2 → WL l D b Ln xs (lvI b (nI j)) 941 [] h2 n2) : WL l D b Ln xs (lvI b (nI j)) 522 [] h n := by
  obtain ⟨v, h1, h2, mc, ms, fs, hx, hc, hl1, hm, hI2, hmc, hms⟩ := stp_rings (l := l) (D := D) hI 
  obtain ⟨hl, hnn⟩ := hI.len
  obtain ⟨fs0, hc0⟩ := hI.c0
  refine wl_ldx dL_law_522 ?_
  refine wl_callV (T1 := TX6) (N1 := 6) (fs := fs0) (st := []) dL_law_523 k_L_74 hx rfl rfl hc0 rfl (by decide) (by decide) (by decide) ⟨show _ ≤ 600000 by omega, show _ ≤ 7302250 by omega⟩ ?_
  refine wl_ldm dL_law_526 ?_
  refine wl_callV (T1 := TX7) (N1 := 17) (fs := fs) (st := [.int v]) dL_law_527 k_L_77 hm rfl rfl hc rfl (by decide) (by decide) (show _ ≤ 8 by simp [Value.category]) ⟨show _ ≤ 600000 by omega, show _ ≤ 7302250 by omega⟩ ?_
  refine wl_eq (tgt := 941) dL_law_530 (by decide) ?_
  exact K _ _ hI2
theorem lc_note (hL : Ln ≤ 384) (hj : j + 6 ≤ Ln) (hI : Inv h n) (K : ∀ h2 n2, Inv h2 n2 → WL l D b Ln xs (lvI b (nI j)) 941 [] h2 n2) : WL l D b Ln xs (lvI b (nI j)) 535 [] h n := by
  obtain ⟨v, h1, h2, mc, ms, fs, hx, hc, hl1, hm, hI2, hmc, hms⟩ := stp_note (l := l) (D := D) hI (xs (j + 1)) (xs (j + 2))
  obtain ⟨hl, hnn⟩ := hI.len
  obtain ⟨fs0, hc0⟩ := hI.c0
  refine wl_ldx dL_law_535 ?_
  refine wl_arg 1 dL_law_536 dL_law_537 dL_law_538 dL_law_539 dL_law_540 (by decide) (by omega) hL ?_
  refine wl_arg 2 dL_law_541 dL_law_542 dL_law_543 dL_law_544 dL_law_545 (by decide) (by omega) hL ?_
  refine wl_callV (T1 := TX6) (N1 := 6) (fs := fs0) (st := []) dL_law_546 k_L_78 hx rfl rfl hc0 rfl (by decide) (by decide) (by decide) ⟨show _ ≤ 600000 by omega, show _ ≤ 7302250 by omega⟩ ?_
  refine wl_ldm dL_law_549 ?_
  refine wl_arg 1 dL_law_550 dL_law_551 dL_law_552 dL_law_553 dL_law_554 (by decide) (by omega) hL ?_
  refine wl_arg 2 dL_law_555 dL_law_556 dL_law_557 dL_law_558 dL_law_559 (by decide) (by omega) hL ?_
  refine wl_callV (T1 := TX7) (N1 := 17) (fs := fs) (st := [.int v]) dL_law_560 k_L_81 hm rfl rfl hc rfl (by decide) (by decide) (show _ ≤ 8 by simp [Value.category]) ⟨show _ ≤ 600000 by omega, show _ ≤ 7302250 by omega⟩ ?_
  refine wl_eq (tgt := 941) dL_law_563 (by decide) ?_
  exact K _ _ hI2
theorem lc_only (hL : Ln ≤ 384) (hj : j + 6 ≤ Ln) (hI : Inv h n) (K : ∀ h2 n2, Inv h2 n2 → WL l D b Ln xs (lvI b (nI j)) 941 [] h2 n2) : WL l D b Ln xs (lvI b (nI j)) 568 [] h n := by
  obtain ⟨v, h1, h2, mc, ms, fs, hx, hc, hl1, hm, hI2, hmc, hms⟩ := stp_only (l := l) (D := D) hI (xs (j + 1)) (xs (j + 2))
  obtain ⟨hl, hnn⟩ := hI.len
  obtain ⟨fs0, hc0⟩ := hI.c0
  refine wl_ldx dL_law_568 ?_
  refine wl_arg 1 dL_law_569 dL_law_570 dL_law_571 dL_law_572 dL_law_573 (by decide) (by omega) hL ?_
  refine wl_arg 2 dL_law_574 dL_law_575 dL_law_576 dL_law_577 dL_law_578 (by decide) (by omega) hL ?_
  refine wl_callV (T1 := TX6) (N1 := 6) (fs := fs0) (st := []) dL_law_579 k_L_82 hx rfl rfl hc0 rfl (by decide) (by decide) (by decide) ⟨show _ ≤ 600000 by omega, show _ ≤ 7302250 by omega⟩ ?_
  refine wl_ldm dL_law_582 ?_
  refine wl_arg 1 dL_law_583 dL_law_584 dL_law_585 dL_law_586 dL_law_587 (by decide) (by omega) hL ?_
  refine wl_arg 2 dL_law_588 dL_law_589 dL_law_590 dL_law_591 dL_law_592 (by decide) (by omega) hL ?_
  refine wl_callV (T1 := TX7) (N1 := 17) (fs := fs) (st := [.int v]) dL_law_593 k_L_85 hm rfl rfl hc rfl (by decide) (by decide) (show _ ≤ 8 by simp [Value.category]) ⟨show _ ≤ 600000 by omega, show _ ≤ 7302250 by omega⟩ ?_
  refine wl_eq (tgt := 941) dL_law_596 (by decide) ?_
  exact K _ _ hI2
theorem lc_share (hL : Ln ≤ 384) (hj : j + 6 ≤ Ln) (hI : Inv h n) (K : ∀ h2 n2, Inv h2 n2 → WL l D b Ln xs (lvI b (nI j)) 941 [] h2 n2) : WL l D b Ln xs (lvI b (nI j)) 601 [] h n := by
  obtain ⟨v, h1, h2, mc, ms, fs, hx, hc, hl1, hm, hI2, hmc, hms⟩ := stp_share (l := l) (D := D) hI (xs (j + 1)) (xs (j + 2))
  obtain ⟨hl, hnn⟩ := hI.len
  obtain ⟨fs0, hc0⟩ := hI.c0
  refine wl_ldx dL_law_601 ?_
  refine wl_arg 1 dL_law_602 dL_law_603 dL_law_604 dL_law_605 dL_law_606 (by decide) (by omega) hL ?_
  refine wl_arg 2 dL_law_607 dL_law_608 dL_law_609 dL_law_610 dL_law_611 (by decide) (by omega) hL ?_
  refine wl_callV (T1 := TX6) (N1 := 6) (fs := fs0) (st := []) dL_law_612 k_L_86 hx rfl rfl hc0 rfl (by decide) (by decide) (by decide) ⟨show _ ≤ 600000 by omega, show _ ≤ 7302250 by omega⟩ ?_
  refine wl_ldm dL_law_615 ?_
  refine wl_arg 1 dL_law_616 dL_law_617 dL_law_618 dL_law_619 dL_law_620 (by decide) (by omega) hL ?_
  refine wl_arg 2 dL_law_621 dL_law_622 dL_law_623 dL_law_624 dL_law_625 (by decide) (by omega) hL ?_
  refine wl_callV (T1 := TX7) (N1 := 17) (fs := fs) (st := [.int v]) dL_law_626 k_L_89 hm rfl rfl hc rfl (by decide) (by decide) (show _ ≤ 8 by simp [Value.category]) ⟨show _ ≤ 600000 by omega, show _ ≤ 7302250 by omega⟩ ?_
  refine wl_eq (tgt := 941) dL_law_629 (by decide) ?_
  exact K _ _ hI2
theorem lc_match (hL : Ln ≤ 384) (hj : j + 6 ≤ Ln) (hI : Inv h n) (K : ∀ h2 n2, Inv h2 n2 → WL l D b Ln xs (lvI b (nI j)) 941 [] h2 n2) : WL l D b Ln xs (lvI b (nI j)) 634 [] h n := by
  obtain ⟨v, h1, h2, mc, ms, fs, hx, hc, hl1, hm, hI2, hmc, hms⟩ := stp_match (l := l) (D := D) hI (xs (j + 1))
  obtain ⟨hl, hnn⟩ := hI.len
  obtain ⟨fs0, hc0⟩ := hI.c0
  refine wl_ldx dL_law_634 ?_
  refine wl_arg 1 dL_law_635 dL_law_636 dL_law_637 dL_law_638 dL_law_639 (by decide) (by omega) hL ?_
  refine wl_callV (T1 := TX6) (N1 := 6) (fs := fs0) (st := []) dL_law_640 k_L_90 hx rfl rfl hc0 rfl (by decide) (by decide) (by decide) ⟨show _ ≤ 600000 by omega, show _ ≤ 7302250 by omega⟩ ?_
  refine wl_ldm dL_law_643 ?_
  refine wl_arg 1 dL_law_644 dL_law_645 dL_law_646 dL_law_647 dL_law_648 (by decide) (by omega) hL ?_
  refine wl_callV (T1 := TX7) (N1 := 17) (fs := fs) (st := [.int v]) dL_law_649 k_L_93 hm rfl rfl hc rfl (by decide) (by decide) (show _ ≤ 8 by simp [Value.category]) ⟨show _ ≤ 600000 by omega, show _ ≤ 7302250 by omega⟩ ?_
  refine wl_eq (tgt := 941) dL_law_652 (by decide) ?_
  exact K _ _ hI2
theorem lc_seen (hL : Ln ≤ 384) (hj : j + 6 ≤ Ln) (hI : Inv h n) (K : ∀ h2 n2, Inv h2 n2 → WL l D b Ln xs (lvI b (nI j)) 941 [] h2 n2) : WL l D b Ln xs (lvI b (nI j)) 657 [] h n := by
  by_cases hz : xs (j + 2) = 0
  · obtain ⟨v, h1, h2, mc, ms, fs, hx, hc, hl1, hm, hI2, hmc, hms⟩ := stp_seen (l := l) (D := D) hI (xs (j + 1)) 0
    obtain ⟨hl, hnn⟩ := hI.len
    obtain ⟨fs0, hc0⟩ := hI.c0
    refine wl_ldx dL_law_657 ?_
    refine wl_arg 1 dL_law_658 dL_law_659 dL_law_660 dL_law_661 dL_law_662 (by decide) (by omega) hL ?_
    refine wl_arg 2 dL_law_663 dL_law_664 dL_law_665 dL_law_666 dL_law_667 (by decide) (by omega) hL ?_
    refine wl_ifeq_t (tgt := 675) dL_law_668 (by decide) hz ?_
    refine wl_iconst (v := 0) dL_law_675 (by decide) ?_
    refine wl_callV (T1 := TX6) (N1 := 6) (fs := fs0) (st := []) dL_law_676 k_L_94 hx rfl rfl hc0 rfl (by decide) (by decide) (by decide) ⟨show _ ≤ 600000 by omega, show _ ≤ 7302250 by omega⟩ ?_
    refine wl_ldm dL_law_679 ?_
    refine wl_arg 1 dL_law_680 dL_law_681 dL_law_682 dL_law_683 dL_law_684 (by decide) (by omega) hL ?_
    refine wl_arg 2 dL_law_685 dL_law_686 dL_law_687 dL_law_688 dL_law_689 (by decide) (by omega) hL ?_
    refine wl_ifeq_t (tgt := 697) dL_law_690 (by decide) hz ?_
    refine wl_iconst (v := 0) dL_law_697 (by decide) ?_
    refine wl_callV (T1 := TX7) (N1 := 17) (fs := fs) (st := [.int v]) dL_law_698 k_L_98 hm rfl rfl hc rfl (by decide) (by decide) (show _ ≤ 8 by simp [Value.category]) ⟨show _ ≤ 600000 by omega, show _ ≤ 7302250 by omega⟩ ?_
    refine wl_eq (tgt := 941) dL_law_701 (by decide) ?_
    exact K _ _ hI2
  · obtain ⟨v, h1, h2, mc, ms, fs, hx, hc, hl1, hm, hI2, hmc, hms⟩ := stp_seen (l := l) (D := D) hI (xs (j + 1)) 1
    obtain ⟨hl, hnn⟩ := hI.len
    obtain ⟨fs0, hc0⟩ := hI.c0
    refine wl_ldx dL_law_657 ?_
    refine wl_arg 1 dL_law_658 dL_law_659 dL_law_660 dL_law_661 dL_law_662 (by decide) (by omega) hL ?_
    refine wl_arg 2 dL_law_663 dL_law_664 dL_law_665 dL_law_666 dL_law_667 (by decide) (by omega) hL ?_
    refine wl_ifeq_f (tgt := 675) dL_law_668 (by decide) hz ?_
    refine wl_iconst (v := 1) dL_law_671 (by decide) ?_
    refine wl_goto (tgt := 676) dL_law_672 (by decide) ?_
    refine wl_callV (T1 := TX6) (N1 := 6) (fs := fs0) (st := []) dL_law_676 k_L_94 hx rfl rfl hc0 rfl (by decide) (by decide) (by decide) ⟨show _ ≤ 600000 by omega, show _ ≤ 7302250 by omega⟩ ?_
    refine wl_ldm dL_law_679 ?_
    refine wl_arg 1 dL_law_680 dL_law_681 dL_law_682 dL_law_683 dL_law_684 (by decide) (by omega) hL ?_
    refine wl_arg 2 dL_law_685 dL_law_686 dL_law_687 dL_law_688 dL_law_689 (by decide) (by omega) hL ?_
    refine wl_ifeq_f (tgt := 697) dL_law_690 (by decide) hz ?_
    refine wl_iconst (v := 1) dL_law_693 (by decide) ?_
    refine wl_goto (tgt := 698) dL_law_694 (by decide) ?_
    refine wl_callV (T1 := TX7) (N1 := 17) (fs := fs) (st := [.int v]) dL_law_698 k_L_98 hm rfl rfl hc rfl (by decide) (by decide) (show _ ≤ 8 by simp [Value.category]) ⟨show _ ≤ 600000 by omega, show _ ≤ 7302250 by omega⟩ ?_
    refine wl_eq (tgt := 941) dL_law_701 (by decide) ?_
    exact K _ _ hI2
theorem lc_forget (hL : Ln ≤ 384) (hj : j + 6 ≤ Ln) (hI : Inv h n) (K : ∀ h2 n2, Inv h2 n2 → WL l D b Ln xs (lvI b (nI j)) 941 [] h2 n2) : WL l D b Ln xs (lvI b (nI j)) 706 [] h n := by
  obtain ⟨v, h1, h2, mc, ms, fs, hx, hc, hl1, hm, hI2, hmc, hms⟩ := stp_forget (l := l) (D := D) hI 
  obtain ⟨hl, hnn⟩ := hI.len
  obtain ⟨fs0, hc0⟩ := hI.c0
  refine wl_ldx dL_law_706 ?_
  refine wl_callV (T1 := TX6) (N1 := 6) (fs := fs0) (st := []) dL_law_707 k_L_99 hx rfl rfl hc0 rfl (by decide) (by decide) (by decide) ⟨show _ ≤ 600000 by omega, show _ ≤ 7302250 by omega⟩ ?_
  refine wl_ldm dL_law_710 ?_
  refine wl_callV (T1 := TX7) (N1 := 17) (fs := fs) (st := [.int v]) dL_law_711 k_L_102 hm rfl rfl hc rfl (by decide) (by decide) (show _ ≤ 8 by simp [Value.category]) ⟨show _ ≤ 600000 by omega, show _ ≤ 7302250 by omega⟩ ?_
  refine wl_eq (tgt := 941) dL_law_714 (by decide) ?_
  exact K _ _ hI2
theorem lc_laws (hL : Ln ≤ 384) (hj : j + 6 ≤ Ln) (hI : Inv h n) (K : ∀ h2 n2, Inv h2 n2 → WL l D b Ln xs (lvI b (nI j)) 941 [] h2 n2) : WL l D b Ln xs (lvI b (nI j)) 719 [] h n := by
  obtain ⟨v, h1, h2, mc, ms, fs, hx, hc, hl1, hm, hI2, hmc, hms⟩ := stp_laws (l := l) (D := D) hI (xs (j + 1))
  obtain ⟨hl, hnn⟩ := hI.len
  obtain ⟨fs0, hc0⟩ := hI.c0
  refine wl_ldx dL_law_719 ?_
  refine wl_arg 1 dL_law_720 dL_law_721 dL_law_722 dL_law_723 dL_law_724 (by decide) (by omega) hL ?_
  refine wl_callV (T1 := TX6) (N1 := 6) (fs := fs0) (st := []) dL_law_725 k_L_103 hx rfl rfl hc0 rfl (by decide) (by decide) (by decide) ⟨show _ ≤ 600000 by omega, show _ ≤ 7302250 by omega⟩ ?_
  refine wl_ldm dL_law_728 ?_
  refine wl_arg 1 dL_law_729 dL_law_730 dL_law_731 dL_law_732 dL_law_733 (by decide) (by omega) hL ?_
  refine wl_callV (T1 := TX7) (N1 := 17) (fs := fs) (st := [.int v]) dL_law_734 k_L_106 hm rfl rfl hc rfl (by decide) (by decide) (show _ ≤ 8 by simp [Value.category]) ⟨show _ ≤ 600000 by omega, show _ ≤ 7302250 by omega⟩ ?_
  refine wl_eq (tgt := 941) dL_law_737 (by decide) ?_
  exact K _ _ hI2
theorem lc_next (hL : Ln ≤ 384) (hj : j + 6 ≤ Ln) (hI : Inv h n) (K : ∀ h2 n2, Inv h2 n2 → WL l D b Ln xs (lvI b (nI j)) 941 [] h2 n2) : WL l D b Ln xs (lvI b (nI j)) 742 [] h n := by
  obtain ⟨v, h1, h2, mc, ms, fs, hx, hc, hl1, hm, hI2, hmc, hms⟩ := stp_next (l := l) (D := D) hI (xs (j + 1))
  obtain ⟨hl, hnn⟩ := hI.len
  obtain ⟨fs0, hc0⟩ := hI.c0
  refine wl_ldx dL_law_742 ?_
  refine wl_arg 1 dL_law_743 dL_law_744 dL_law_745 dL_law_746 dL_law_747 (by decide) (by omega) hL ?_
  refine wl_callV (T1 := TX6) (N1 := 6) (fs := fs0) (st := []) dL_law_748 k_L_107 hx rfl rfl hc0 rfl (by decide) (by decide) (by decide) ⟨show _ ≤ 600000 by omega, show _ ≤ 7302250 by omega⟩ ?_
  refine wl_ldm dL_law_751 ?_
  refine wl_arg 1 dL_law_752 dL_law_753 dL_law_754 dL_law_755 dL_law_756 (by decide) (by omega) hL ?_
  refine wl_callV (T1 := TX7) (N1 := 17) (fs := fs) (st := [.int v]) dL_law_757 k_L_110 hm rfl rfl hc rfl (by decide) (by decide) (show _ ≤ 8 by simp [Value.category]) ⟨show _ ≤ 600000 by omega, show _ ≤ 7302250 by omega⟩ ?_
  refine wl_eq (tgt := 941) dL_law_760 (by decide) ?_
  exact K _ _ hI2
theorem lc_chance (hL : Ln ≤ 384) (hj : j + 6 ≤ Ln) (hI : Inv h n) (K : ∀ h2 n2, Inv h2 n2 → WL l D b Ln xs (lvI b (nI j)) 941 [] h2 n2) : WL l D b Ln xs (lvI b (nI j)) 765 [] h n := by
  obtain ⟨v, h1, h2, mc, ms, fs, hx, hc, hl1, hm, hI2, hmc, hms⟩ := stp_chance (l := l) (D := D) hI (xs (j + 1)) (xs (j + 2)) (xs (j + 3)) (xs (j + 4)) (xs (j + 5))
  obtain ⟨hl, hnn⟩ := hI.len
  obtain ⟨fs0, hc0⟩ := hI.c0
  refine wl_ldx dL_law_765 ?_
  refine wl_arg 1 dL_law_766 dL_law_767 dL_law_768 dL_law_769 dL_law_770 (by decide) (by omega) hL ?_
  refine wl_arg 2 dL_law_771 dL_law_772 dL_law_773 dL_law_774 dL_law_775 (by decide) (by omega) hL ?_
  refine wl_arg 3 dL_law_776 dL_law_777 dL_law_778 dL_law_779 dL_law_780 (by decide) (by omega) hL ?_
  refine wl_arg 4 dL_law_781 dL_law_782 dL_law_783 dL_law_784 dL_law_785 (by decide) (by omega) hL ?_
  refine wl_arg 5 dL_law_786 dL_law_787 dL_law_788 dL_law_789 dL_law_790 (by decide) (by omega) hL ?_
  refine wl_callV (T1 := TX6) (N1 := 6) (fs := fs0) (st := []) dL_law_791 k_L_111 hx rfl rfl hc0 rfl (by decide) (by decide) (by decide) ⟨show _ ≤ 600000 by omega, show _ ≤ 7302250 by omega⟩ ?_
  refine wl_ldm dL_law_794 ?_
  refine wl_arg 1 dL_law_795 dL_law_796 dL_law_797 dL_law_798 dL_law_799 (by decide) (by omega) hL ?_
  refine wl_arg 2 dL_law_800 dL_law_801 dL_law_802 dL_law_803 dL_law_804 (by decide) (by omega) hL ?_
  refine wl_arg 3 dL_law_805 dL_law_806 dL_law_807 dL_law_808 dL_law_809 (by decide) (by omega) hL ?_
  refine wl_arg 4 dL_law_810 dL_law_811 dL_law_812 dL_law_813 dL_law_814 (by decide) (by omega) hL ?_
  refine wl_arg 5 dL_law_815 dL_law_816 dL_law_817 dL_law_818 dL_law_819 (by decide) (by omega) hL ?_
  refine wl_callV (T1 := TX7) (N1 := 17) (fs := fs) (st := [.long v]) dL_law_820 k_L_115 hm rfl rfl hc rfl (by decide) (by decide) (show _ ≤ 8 by simp [Value.category]) ⟨show _ ≤ 600000 by omega, show _ ≤ 7302250 by omega⟩ ?_
  refine wl_lcmp dL_law_823 ?_
  refine wl_ifeq_t (tgt := 941) dL_law_824 (by decide) rfl ?_
  exact K _ _ hI2
theorem lc_book (hL : Ln ≤ 384) (hj : j + 6 ≤ Ln) (hI : Inv h n) (K : ∀ h2 n2, Inv h2 n2 → WL l D b Ln xs (lvI b (nI j)) 941 [] h2 n2) : WL l D b Ln xs (lvI b (nI j)) 829 [] h n := by
  obtain ⟨v, h1, h2, mc, ms, fs, hx, hc, hl1, hm, hI2, hmc, hms⟩ := stp_book (l := l) (D := D) hI (xs (j + 1)) (xs (j + 2)) (xs (j + 3))
  obtain ⟨hl, hnn⟩ := hI.len
  obtain ⟨fs0, hc0⟩ := hI.c0
  refine wl_ldx dL_law_829 ?_
  refine wl_arg 1 dL_law_830 dL_law_831 dL_law_832 dL_law_833 dL_law_834 (by decide) (by omega) hL ?_
  refine wl_arg 2 dL_law_835 dL_law_836 dL_law_837 dL_law_838 dL_law_839 (by decide) (by omega) hL ?_
  refine wl_arg 3 dL_law_840 dL_law_841 dL_law_842 dL_law_843 dL_law_844 (by decide) (by omega) hL ?_
  refine wl_callV (T1 := TX6) (N1 := 6) (fs := fs0) (st := []) dL_law_845 k_L_116 hx rfl rfl hc0 rfl (by decide) (by decide) (by decide) ⟨show _ ≤ 600000 by omega, show _ ≤ 7302250 by omega⟩ ?_
  refine wl_ldm dL_law_848 ?_
  refine wl_arg 1 dL_law_849 dL_law_850 dL_law_851 dL_law_852 dL_law_853 (by decide) (by omega) hL ?_
  refine wl_arg 2 dL_law_854 dL_law_855 dL_law_856 dL_law_857 dL_law_858 (by decide) (by omega) hL ?_
  refine wl_arg 3 dL_law_859 dL_law_860 dL_law_861 dL_law_862 dL_law_863 (by decide) (by omega) hL ?_
  refine wl_callV (T1 := TX7) (N1 := 17) (fs := fs) (st := [.int v]) dL_law_864 k_L_119 hm rfl rfl hc rfl (by decide) (by decide) (show _ ≤ 8 by simp [Value.category]) ⟨show _ ≤ 600000 by omega, show _ ≤ 7302250 by omega⟩ ?_
  refine wl_eq (tgt := 941) dL_law_867 (by decide) ?_
  exact K _ _ hI2
theorem lc_image (hL : Ln ≤ 384) (hj : j + 6 ≤ Ln) (hI : Inv h n) (K : ∀ h2 n2, Inv h2 n2 → WL l D b Ln xs (lvI b (nI j)) 941 [] h2 n2) : WL l D b Ln xs (lvI b (nI j)) 872 [] h n := by
  obtain ⟨v, h1, h2, mc, ms, fs, hx, hc, hl1, hm, hI2, hmc, hms⟩ := stp_image (l := l) (D := D) hI (xs (j + 1))
  obtain ⟨hl, hnn⟩ := hI.len
  obtain ⟨fs0, hc0⟩ := hI.c0
  refine wl_ldx dL_law_872 ?_
  refine wl_arg 1 dL_law_873 dL_law_874 dL_law_875 dL_law_876 dL_law_877 (by decide) (by omega) hL ?_
  refine wl_callV (T1 := TX6) (N1 := 6) (fs := fs0) (st := []) dL_law_878 k_L_120 hx rfl rfl hc0 rfl (by decide) (by decide) (by decide) ⟨show _ ≤ 600000 by omega, show _ ≤ 7302250 by omega⟩ ?_
  refine wl_ldm dL_law_881 ?_
  refine wl_arg 1 dL_law_882 dL_law_883 dL_law_884 dL_law_885 dL_law_886 (by decide) (by omega) hL ?_
  refine wl_callV (T1 := TX7) (N1 := 17) (fs := fs) (st := [.int v]) dL_law_887 k_L_123 hm rfl rfl hc rfl (by decide) (by decide) (show _ ≤ 8 by simp [Value.category]) ⟨show _ ≤ 600000 by omega, show _ ≤ 7302250 by omega⟩ ?_
  refine wl_eq (tgt := 941) dL_law_890 (by decide) ?_
  exact K _ _ hI2
theorem lc_restore (hL : Ln ≤ 384) (hj : j + 6 ≤ Ln) (hI : Inv h n) (K : ∀ h2 n2, Inv h2 n2 → WL l D b Ln xs (lvI b (nI j)) 941 [] h2 n2) : WL l D b Ln xs (lvI b (nI j)) 895 [] h n := by
  obtain ⟨v, h1, h2, mc, ms, fs, hx, hc, hl1, hm, hI2, hmc, hms⟩ := stp_restore (l := l) (D := D) hI (xs (j + 1))
  obtain ⟨hl, hnn⟩ := hI.len
  obtain ⟨fs0, hc0⟩ := hI.c0
  refine wl_ldx dL_law_895 ?_
  refine wl_arg 1 dL_law_896 dL_law_897 dL_law_898 dL_law_899 dL_law_900 (by decide) (by omega) hL ?_
  refine wl_callV (T1 := TX6) (N1 := 6) (fs := fs0) (st := []) dL_law_901 k_L_124 hx rfl rfl hc0 rfl (by decide) (by decide) (by decide) ⟨show _ ≤ 600000 by omega, show _ ≤ 7302250 by omega⟩ ?_
  refine wl_ldm dL_law_904 ?_
  refine wl_arg 1 dL_law_905 dL_law_906 dL_law_907 dL_law_908 dL_law_909 (by decide) (by omega) hL ?_
  refine wl_callV (T1 := TX7) (N1 := 17) (fs := fs) (st := [.int v]) dL_law_910 k_L_127 hm rfl rfl hc rfl (by decide) (by decide) (show _ ≤ 8 by simp [Value.category]) ⟨show _ ≤ 600000 by omega, show _ ≤ 7302250 by omega⟩ ?_
  refine wl_eq (tgt := 941) dL_law_913 (by decide) ?_
  exact K _ _ hI2
theorem lc_told (hL : Ln ≤ 384) (hj : j + 6 ≤ Ln) (hI : Inv h n) (K : ∀ h2 n2, Inv h2 n2 → WL l D b Ln xs (lvI b (nI j)) 941 [] h2 n2) : WL l D b Ln xs (lvI b (nI j)) 918 [] h n := by
  obtain ⟨v, h1, h2, mc, ms, fs, hx, hc, hl1, hm, hI2, hmc, hms⟩ := stp_told (l := l) (D := D) hI (xs (j + 1))
  obtain ⟨hl, hnn⟩ := hI.len
  obtain ⟨fs0, hc0⟩ := hI.c0
  refine wl_ldx dL_law_918 ?_
  refine wl_arg 1 dL_law_919 dL_law_920 dL_law_921 dL_law_922 dL_law_923 (by decide) (by omega) hL ?_
  refine wl_callV (T1 := TX6) (N1 := 6) (fs := fs0) (st := []) dL_law_924 k_L_128 hx rfl rfl hc0 rfl (by decide) (by decide) (by decide) ⟨show _ ≤ 600000 by omega, show _ ≤ 7302250 by omega⟩ ?_
  refine wl_ldm dL_law_927 ?_
  refine wl_arg 1 dL_law_928 dL_law_929 dL_law_930 dL_law_931 dL_law_932 (by decide) (by omega) hL ?_
  refine wl_callV (T1 := TX7) (N1 := 17) (fs := fs) (st := [.int v]) dL_law_933 k_L_131 hm rfl rfl hc rfl (by decide) (by decide) (show _ ≤ 8 by simp [Value.category]) ⟨show _ ≤ 600000 by omega, show _ ≤ 7302250 by omega⟩ ?_
  refine wl_eq (tgt := 941) dL_law_936 (by decide) ?_
  exact K _ _ hI2
end LAWC
