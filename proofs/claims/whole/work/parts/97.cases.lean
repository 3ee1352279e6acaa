/-! THE LAW'S OWN BODY: one call of both, then the loop -/
def LX (F : FX) (b L : Nat) (xs : Nat → Int32) : Prop := va_X b L xs (fS F) (fS F).heap ∧ b < (fS F).heap.size ∧ ¬ fB F b ∧ L ≤ 2560
abbrev LV (E : EN) (b i : Nat) : List (Nat × Value) := [(0, .ref b), (1, .ref (eA E 5 0)), (2, .ref (eA E 6 0)), (3, .int (nI i))]
abbrev CxL (E : EN) (F : FX) : Prop := Cx E F cL_law 4 RL wsL_law room_1
section LW
variable {E : EN} {F : FX} {cc : ByteArray} {nL : Nat} {own : String} {Ts : List Cond} {rm0 : Room} {u : U3} {r : R1} {pc : Nat} {lv : List (Nat × Value)} {st : List Value} {b L i : Nat} {xs : Nat → Int32}
theorem tt_sld (C : Cx E F cc nL own Ts rm0) (hX : LX F b L xs) {j : Nat} (hj : j < L) (hd : decode cc pc = .ok (.iaload, 1)) (k : T E F nL u r (pc + 1) lv (.int (xs j) :: st)) : T E F nL u r pc lv (.int (nI j) :: .ref b :: st) := by
  intro ls H locs hl hP hS
  have hL := hX.2.2.2
  refine va_sld C.1 C.2.1 hX.1 hX.2.1 hX.2.2.1 hS (vp_in_nI hj (by omega)) hd ?_
  rw [nI_clamp (by omega)]
  exact k ls H locs hl hP hS
theorem tt_slen (C : Cx E F cc nL own Ts rm0) (hX : LX F b L xs) (hd : decode cc pc = .ok (.arraylength, 1)) (k : T E F nL u r (pc + 1) lv (.int (nI L) :: st)) : T E F nL u r pc lv (.ref b :: st) := fun ls H locs hl hP hS => va_slen C.1 C.2.1 hX.1 hX.2.1 hX.2.2.1 hS hd (k ls H locs hl hP hS)
theorem tt_arg (C : Cx E F cc nL own Ts rm0) (hX : LX F b L xs) {n : Int} (k : Nat) (hv : Int32.ofInt n = nI k) (hj : i + k < L) (d0 : decode cc pc = .ok (.aload_n 0, 1)) (d1 : decode cc (pc + 1) = .ok (.iload_n 3, 1)) (d2 : decode cc (pc + 1 + 1) = .ok (.iconst n, 1)) (d3 : decode cc (pc + 1 + 1 + 1) = .ok (.iadd, 1)) (d4 : decode cc (pc + 1 + 1 + 1 + 1) = .ok (.iaload, 1)) (kk : T E F nL u r (pc + 1 + 1 + 1 + 1 + 1) (LV E b i) (.int (xs (i + k)) :: st)) : T E F nL u r pc (LV E b i) st := by
  refine tt_aload_n C d0 rfl 0 rfl ?_
  refine tt_iload_n C d1 rfl 3 rfl ?_
  refine tt_iconst C d2 hv ?_
  refine tt_iadd C d3 (nI_add i k) ?_
  exact tt_sld C hX hj d4 kk
theorem law_door {N : Nat} (C : CxL E F) (hX : LX F b L xs) (hi : i + 5 ≤ L) (H : IV N u r) (hN : N + 15200 < 2 ^ 30) (next : ∀ (u2 : U3) (r2 : R1), IV (N + 15000) u2 r2 → T E F 4 u2 r2 830 (LV E b i) []) : T E F 4 u r 140 (LV E b i) [] := by
  obtain ⟨x, u1, r1, u2, c6, c7, hI⟩ := st_door (E := E) H hN (xs (i + 1)) (xs (i + 2)) (xs (i + 3)) (xs (i + 4))
  refine tt_aload_n C dL_law_140 rfl 1 rfl ?_
  refine tt_arg C hX 1 rfl (by omega) dL_law_141 dL_law_142 dL_law_143 dL_law_144 dL_law_145 ?_
  refine tt_arg C hX 2 rfl (by omega) dL_law_146 dL_law_147 dL_law_148 dL_law_149 dL_law_150 ?_
  refine tt_arg C hX 3 rfl (by omega) dL_law_151 dL_law_152 dL_law_153 dL_law_154 dL_law_155 ?_
  refine tt_arg C hX 4 rfl (by omega) dL_law_156 dL_law_157 dL_law_158 dL_law_159 dL_law_160 ?_
  refine tt_cVI C c6 gL_law_X6_door rfl ⟨rfl, rfl⟩ 4 (by decide +kernel) ⟨Nat.le_of_ble_eq_true rfl, Nat.le_of_ble_eq_true rfl⟩ rfl oT0 rfl (Nat.le_of_ble_eq_true rfl) dL_law_161 rfl ?_
  refine tt_aload_n C dL_law_164 rfl 2 rfl ?_
  refine tt_arg C hX 1 rfl (by omega) dL_law_165 dL_law_166 dL_law_167 dL_law_168 dL_law_169 ?_
  refine tt_arg C hX 2 rfl (by omega) dL_law_170 dL_law_171 dL_law_172 dL_law_173 dL_law_174 ?_
  refine tt_arg C hX 3 rfl (by omega) dL_law_175 dL_law_176 dL_law_177 dL_law_178 dL_law_179 ?_
  refine tt_arg C hX 4 rfl (by omega) dL_law_180 dL_law_181 dL_law_182 dL_law_183 dL_law_184 ?_
  refine tt_cVI C c7 gL_law_X7_door rfl ⟨rfl, rfl⟩ 4 (by decide +kernel) ⟨Nat.le_of_ble_eq_true rfl, Nat.le_of_ble_eq_true rfl⟩ rfl oM0 rfl (Nat.le_of_ble_eq_true rfl) dL_law_185 rfl ?_
  exact tt_icmp_eq (P := True) (tgt := 830) C dL_law_188 rfl ⟨fun _ => trivial, fun _ => rfl⟩ (fun _ => next _ _ hI) (fun z => absurd trivial z)
theorem law_sets {N : Nat} (C : CxL E F) (hX : LX F b L xs) (hi : i + 5 ≤ L) (H : IV N u r) (hN : N + 15200 < 2 ^ 30) (next : ∀ (u2 : U3) (r2 : R1), IV (N + 15000) u2 r2 → T E F 4 u2 r2 830 (LV E b i) []) : T E F 4 u r 193 (LV E b i) [] := by
  obtain ⟨x, u1, r1, u2, c6, c7, hI⟩ := st_sets (E := E) H hN (xs (i + 1)) (xs (i + 2)) (xs (i + 3))
  refine tt_aload_n C dL_law_193 rfl 1 rfl ?_
  refine tt_arg C hX 1 rfl (by omega) dL_law_194 dL_law_195 dL_law_196 dL_law_197 dL_law_198 ?_
  refine tt_arg C hX 2 rfl (by omega) dL_law_199 dL_law_200 dL_law_201 dL_law_202 dL_law_203 ?_
  refine tt_arg C hX 3 rfl (by omega) dL_law_204 dL_law_205 dL_law_206 dL_law_207 dL_law_208 ?_
  refine tt_cVI C c6 gL_law_X6_sets rfl ⟨rfl, rfl⟩ 3 (by decide +kernel) ⟨Nat.le_of_ble_eq_true rfl, Nat.le_of_ble_eq_true rfl⟩ rfl oT0 rfl (Nat.le_of_ble_eq_true rfl) dL_law_209 rfl ?_
  refine tt_aload_n C dL_law_212 rfl 2 rfl ?_
  refine tt_arg C hX 1 rfl (by omega) dL_law_213 dL_law_214 dL_law_215 dL_law_216 dL_law_217 ?_
  refine tt_arg C hX 2 rfl (by omega) dL_law_218 dL_law_219 dL_law_220 dL_law_221 dL_law_222 ?_
  refine tt_arg C hX 3 rfl (by omega) dL_law_223 dL_law_224 dL_law_225 dL_law_226 dL_law_227 ?_
  refine tt_cVI C c7 gL_law_X7_sets rfl ⟨rfl, rfl⟩ 3 (by decide +kernel) ⟨Nat.le_of_ble_eq_true rfl, Nat.le_of_ble_eq_true rfl⟩ rfl oM0 rfl (Nat.le_of_ble_eq_true rfl) dL_law_228 rfl ?_
  exact tt_icmp_eq (P := True) (tgt := 830) C dL_law_231 rfl ⟨fun _ => trivial, fun _ => rfl⟩ (fun _ => next _ _ hI) (fun z => absurd trivial z)
theorem law_locks {N : Nat} (C : CxL E F) (hX : LX F b L xs) (hi : i + 5 ≤ L) (H : IV N u r) (hN : N + 15200 < 2 ^ 30) (next : ∀ (u2 : U3) (r2 : R1), IV (N + 15000) u2 r2 → T E F 4 u2 r2 830 (LV E b i) []) : T E F 4 u r 236 (LV E b i) [] := by
  obtain ⟨x, u1, r1, u2, c6, c7, hI⟩ := st_locks (E := E) H hN (xs (i + 1)) (xs (i + 2))
  refine tt_aload_n C dL_law_236 rfl 1 rfl ?_
  refine tt_arg C hX 1 rfl (by omega) dL_law_237 dL_law_238 dL_law_239 dL_law_240 dL_law_241 ?_
  refine tt_arg C hX 2 rfl (by omega) dL_law_242 dL_law_243 dL_law_244 dL_law_245 dL_law_246 ?_
  refine tt_cVI C c6 gL_law_X6_locks rfl ⟨rfl, rfl⟩ 2 (by decide +kernel) ⟨Nat.le_of_ble_eq_true rfl, Nat.le_of_ble_eq_true rfl⟩ rfl oT0 rfl (Nat.le_of_ble_eq_true rfl) dL_law_247 rfl ?_
  refine tt_aload_n C dL_law_250 rfl 2 rfl ?_
  refine tt_arg C hX 1 rfl (by omega) dL_law_251 dL_law_252 dL_law_253 dL_law_254 dL_law_255 ?_
  refine tt_arg C hX 2 rfl (by omega) dL_law_256 dL_law_257 dL_law_258 dL_law_259 dL_law_260 ?_
  refine tt_cVI C c7 gL_law_X7_locks rfl ⟨rfl, rfl⟩ 2 (by decide +kernel) ⟨Nat.le_of_ble_eq_true rfl, Nat.le_of_ble_eq_true rfl⟩ rfl oM0 rfl (Nat.le_of_ble_eq_true rfl) dL_law_261 rfl ?_
  exact tt_icmp_eq (P := True) (tgt := 830) C dL_law_264 rfl ⟨fun _ => trivial, fun _ => rfl⟩ (fun _ => next _ _ hI) (fun z => absurd trivial z)
theorem law_badge {N : Nat} (C : CxL E F) (hX : LX F b L xs) (hi : i + 5 ≤ L) (H : IV N u r) (hN : N + 15200 < 2 ^ 30) (next : ∀ (u2 : U3) (r2 : R1), IV (N + 15000) u2 r2 → T E F 4 u2 r2 830 (LV E b i) []) : T E F 4 u r 269 (LV E b i) [] := by
  obtain ⟨x, u1, r1, u2, c6, c7, hI⟩ := st_badge (E := E) H hN (xs (i + 1))
  refine tt_aload_n C dL_law_269 rfl 1 rfl ?_
  refine tt_arg C hX 1 rfl (by omega) dL_law_270 dL_law_271 dL_law_272 dL_law_273 dL_law_274 ?_
  refine tt_cVI C c6 gL_law_X6_badge rfl ⟨rfl, rfl⟩ 1 (by decide +kernel) ⟨Nat.le_of_ble_eq_true rfl, Nat.le_of_ble_eq_true rfl⟩ rfl oT0 rfl (Nat.le_of_ble_eq_true rfl) dL_law_275 rfl ?_
  refine tt_aload_n C dL_law_278 rfl 2 rfl ?_
  refine tt_arg C hX 1 rfl (by omega) dL_law_279 dL_law_280 dL_law_281 dL_law_282 dL_law_283 ?_
  refine tt_cVI C c7 gL_law_X7_badge rfl ⟨rfl, rfl⟩ 1 (by decide +kernel) ⟨Nat.le_of_ble_eq_true rfl, Nat.le_of_ble_eq_true rfl⟩ rfl oM0 rfl (Nat.le_of_ble_eq_true rfl) dL_law_284 rfl ?_
  exact tt_icmp_eq (P := True) (tgt := 830) C dL_law_287 rfl ⟨fun _ => trivial, fun _ => rfl⟩ (fun _ => next _ _ hI) (fun z => absurd trivial z)
theorem law_levels {N : Nat} (C : CxL E F) (hX : LX F b L xs) (hi : i + 5 ≤ L) (H : IV N u r) (hN : N + 15200 < 2 ^ 30) (next : ∀ (u2 : U3) (r2 : R1), IV (N + 15000) u2 r2 → T E F 4 u2 r2 830 (LV E b i) []) : T E F 4 u r 292 (LV E b i) [] := by
  obtain ⟨x, u1, r1, u2, c6, c7, hI⟩ := st_levels (E := E) H hN (xs (i + 1)) (xs (i + 2))
  refine tt_aload_n C dL_law_292 rfl 1 rfl ?_
  refine tt_arg C hX 1 rfl (by omega) dL_law_293 dL_law_294 dL_law_295 dL_law_296 dL_law_297 ?_
  refine tt_arg C hX 2 rfl (by omega) dL_law_298 dL_law_299 dL_law_300 dL_law_301 dL_law_302 ?_
  refine tt_cVI C c6 gL_law_X6_levels rfl ⟨rfl, rfl⟩ 2 (by decide +kernel) ⟨Nat.le_of_ble_eq_true rfl, Nat.le_of_ble_eq_true rfl⟩ rfl oT0 rfl (Nat.le_of_ble_eq_true rfl) dL_law_303 rfl ?_
  refine tt_aload_n C dL_law_306 rfl 2 rfl ?_
  refine tt_arg C hX 1 rfl (by omega) dL_law_307 dL_law_308 dL_law_309 dL_law_310 dL_law_311 ?_
  refine tt_arg C hX 2 rfl (by omega) dL_law_312 dL_law_313 dL_law_314 dL_law_315 dL_law_316 ?_
  refine tt_cVI C c7 gL_law_X7_levels rfl ⟨rfl, rfl⟩ 2 (by decide +kernel) ⟨Nat.le_of_ble_eq_true rfl, Nat.le_of_ble_eq_true rfl⟩ rfl oM0 rfl (Nat.le_of_ble_eq_true rfl) dL_law_317 rfl ?_
  exact tt_icmp_eq (P := True) (tgt := 830) C dL_law_320 rfl ⟨fun _ => trivial, fun _ => rfl⟩ (fun _ => next _ _ hI) (fun z => absurd trivial z)
theorem law_bars {N : Nat} (C : CxL E F) (hX : LX F b L xs) (hi : i + 5 ≤ L) (H : IV N u r) (hN : N + 15200 < 2 ^ 30) (next : ∀ (u2 : U3) (r2 : R1), IV (N + 15000) u2 r2 → T E F 4 u2 r2 830 (LV E b i) []) : T E F 4 u r 325 (LV E b i) [] := by
  obtain ⟨x, u1, r1, u2, c6, c7, hI⟩ := st_bars (E := E) H hN (xs (i + 1)) (xs (i + 2))
  refine tt_aload_n C dL_law_325 rfl 1 rfl ?_
  refine tt_arg C hX 1 rfl (by omega) dL_law_326 dL_law_327 dL_law_328 dL_law_329 dL_law_330 ?_
  refine tt_arg C hX 2 rfl (by omega) dL_law_331 dL_law_332 dL_law_333 dL_law_334 dL_law_335 ?_
  refine tt_cVI C c6 gL_law_X6_bars rfl ⟨rfl, rfl⟩ 2 (by decide +kernel) ⟨Nat.le_of_ble_eq_true rfl, Nat.le_of_ble_eq_true rfl⟩ rfl oT0 rfl (Nat.le_of_ble_eq_true rfl) dL_law_336 rfl ?_
  refine tt_aload_n C dL_law_339 rfl 2 rfl ?_
  refine tt_arg C hX 1 rfl (by omega) dL_law_340 dL_law_341 dL_law_342 dL_law_343 dL_law_344 ?_
  refine tt_arg C hX 2 rfl (by omega) dL_law_345 dL_law_346 dL_law_347 dL_law_348 dL_law_349 ?_
  refine tt_cVI C c7 gL_law_X7_bars rfl ⟨rfl, rfl⟩ 2 (by decide +kernel) ⟨Nat.le_of_ble_eq_true rfl, Nat.le_of_ble_eq_true rfl⟩ rfl oM0 rfl (Nat.le_of_ble_eq_true rfl) dL_law_350 rfl ?_
  exact tt_icmp_eq (P := True) (tgt := 830) C dL_law_353 rfl ⟨fun _ => trivial, fun _ => rfl⟩ (fun _ => next _ _ hI) (fun z => absurd trivial z)
theorem law_online {N : Nat} (C : CxL E F) (hX : LX F b L xs) (hi : i + 5 ≤ L) (H : IV N u r) (hN : N + 15200 < 2 ^ 30) (next : ∀ (u2 : U3) (r2 : R1), IV (N + 15000) u2 r2 → T E F 4 u2 r2 830 (LV E b i) []) : T E F 4 u r 358 (LV E b i) [] := by
  obtain ⟨x, u1, r1, u2, c6, c7, hI⟩ := st_online (E := E) H hN (xs (i + 1)) (xs (i + 2))
  refine tt_aload_n C dL_law_358 rfl 1 rfl ?_
  refine tt_arg C hX 1 rfl (by omega) dL_law_359 dL_law_360 dL_law_361 dL_law_362 dL_law_363 ?_
  refine tt_arg C hX 2 rfl (by omega) dL_law_364 dL_law_365 dL_law_366 dL_law_367 dL_law_368 ?_
  refine tt_cVI C c6 gL_law_X6_online rfl ⟨rfl, rfl⟩ 2 (by decide +kernel) ⟨Nat.le_of_ble_eq_true rfl, Nat.le_of_ble_eq_true rfl⟩ rfl oT0 rfl (Nat.le_of_ble_eq_true rfl) dL_law_369 rfl ?_
  refine tt_aload_n C dL_law_372 rfl 2 rfl ?_
  refine tt_arg C hX 1 rfl (by omega) dL_law_373 dL_law_374 dL_law_375 dL_law_376 dL_law_377 ?_
  refine tt_arg C hX 2 rfl (by omega) dL_law_378 dL_law_379 dL_law_380 dL_law_381 dL_law_382 ?_
  refine tt_cVI C c7 gL_law_X7_online rfl ⟨rfl, rfl⟩ 2 (by decide +kernel) ⟨Nat.le_of_ble_eq_true rfl, Nat.le_of_ble_eq_true rfl⟩ rfl oM0 rfl (Nat.le_of_ble_eq_true rfl) dL_law_383 rfl ?_
  exact tt_icmp_eq (P := True) (tgt := 830) C dL_law_386 rfl ⟨fun _ => trivial, fun _ => rfl⟩ (fun _ => next _ _ hI) (fun z => absurd trivial z)
theorem law_asks {N : Nat} (C : CxL E F) (hX : LX F b L xs) (hi : i + 5 ≤ L) (H : IV N u r) (hN : N + 15200 < 2 ^ 30) (next : ∀ (u2 : U3) (r2 : R1), IV (N + 15000) u2 r2 → T E F 4 u2 r2 830 (LV E b i) []) : T E F 4 u r 391 (LV E b i) [] := by
  obtain ⟨x, u1, r1, u2, c6, c7, hI⟩ := st_asks (E := E) H hN (xs (i + 1)) (xs (i + 2)) (xs (i + 3))
  refine tt_aload_n C dL_law_391 rfl 1 rfl ?_
  refine tt_arg C hX 1 rfl (by omega) dL_law_392 dL_law_393 dL_law_394 dL_law_395 dL_law_396 ?_
  refine tt_arg C hX 2 rfl (by omega) dL_law_397 dL_law_398 dL_law_399 dL_law_400 dL_law_401 ?_
  refine tt_arg C hX 3 rfl (by omega) dL_law_402 dL_law_403 dL_law_404 dL_law_405 dL_law_406 ?_
  refine tt_cVI C c6 gL_law_X6_asks rfl ⟨rfl, rfl⟩ 3 (by decide +kernel) ⟨Nat.le_of_ble_eq_true rfl, Nat.le_of_ble_eq_true rfl⟩ rfl oT0 rfl (Nat.le_of_ble_eq_true rfl) dL_law_407 rfl ?_
  refine tt_aload_n C dL_law_410 rfl 2 rfl ?_
  refine tt_arg C hX 1 rfl (by omega) dL_law_411 dL_law_412 dL_law_413 dL_law_414 dL_law_415 ?_
  refine tt_arg C hX 2 rfl (by omega) dL_law_416 dL_law_417 dL_law_418 dL_law_419 dL_law_420 ?_
  refine tt_arg C hX 3 rfl (by omega) dL_law_421 dL_law_422 dL_law_423 dL_law_424 dL_law_425 ?_
  refine tt_cVI C c7 gL_law_X7_asks rfl ⟨rfl, rfl⟩ 3 (by decide +kernel) ⟨Nat.le_of_ble_eq_true rfl, Nat.le_of_ble_eq_true rfl⟩ rfl oM0 rfl (Nat.le_of_ble_eq_true rfl) dL_law_426 rfl ?_
  exact tt_icmp_eq (P := True) (tgt := 830) C dL_law_429 rfl ⟨fun _ => trivial, fun _ => rfl⟩ (fun _ => next _ _ hI) (fun z => absurd trivial z)
theorem law_waits {N : Nat} (C : CxL E F) (hX : LX F b L xs) (hi : i + 5 ≤ L) (H : IV N u r) (hN : N + 15200 < 2 ^ 30) (next : ∀ (u2 : U3) (r2 : R1), IV (N + 15000) u2 r2 → T E F 4 u2 r2 830 (LV E b i) []) : T E F 4 u r 434 (LV E b i) [] := by
  obtain ⟨x, u1, r1, u2, c6, c7, hI⟩ := st_waits (E := E) H hN (xs (i + 1))
  refine tt_aload_n C dL_law_434 rfl 1 rfl ?_
  refine tt_arg C hX 1 rfl (by omega) dL_law_435 dL_law_436 dL_law_437 dL_law_438 dL_law_439 ?_
  refine tt_cVI C c6 gL_law_X6_waits rfl ⟨rfl, rfl⟩ 1 (by decide +kernel) ⟨Nat.le_of_ble_eq_true rfl, Nat.le_of_ble_eq_true rfl⟩ rfl oT0 rfl (Nat.le_of_ble_eq_true rfl) dL_law_440 rfl ?_
  refine tt_aload_n C dL_law_443 rfl 2 rfl ?_
  refine tt_arg C hX 1 rfl (by omega) dL_law_444 dL_law_445 dL_law_446 dL_law_447 dL_law_448 ?_
  refine tt_cVI C c7 gL_law_X7_waits rfl ⟨rfl, rfl⟩ 1 (by decide +kernel) ⟨Nat.le_of_ble_eq_true rfl, Nat.le_of_ble_eq_true rfl⟩ rfl oM0 rfl (Nat.le_of_ble_eq_true rfl) dL_law_449 rfl ?_
  exact tt_icmp_eq (P := True) (tgt := 830) C dL_law_452 rfl ⟨fun _ => trivial, fun _ => rfl⟩ (fun _ => next _ _ hI) (fun z => absurd trivial z)
theorem law_of {N : Nat} (C : CxL E F) (hX : LX F b L xs) (hi : i + 5 ≤ L) (H : IV N u r) (hN : N + 15200 < 2 ^ 30) (next : ∀ (u2 : U3) (r2 : R1), IV (N + 15000) u2 r2 → T E F 4 u2 r2 830 (LV E b i) []) : T E F 4 u r 457 (LV E b i) [] := by
  obtain ⟨x, u1, r1, u2, c6, c7, hI⟩ := st_of (E := E) H hN (xs (i + 1)) (xs (i + 2))
  refine tt_aload_n C dL_law_457 rfl 1 rfl ?_
  refine tt_arg C hX 1 rfl (by omega) dL_law_458 dL_law_459 dL_law_460 dL_law_461 dL_law_462 ?_
  refine tt_arg C hX 2 rfl (by omega) dL_law_463 dL_law_464 dL_law_465 dL_law_466 dL_law_467 ?_
  refine tt_cVI C c6 gL_law_X6_of rfl ⟨rfl, rfl⟩ 2 (by decide +kernel) ⟨Nat.le_of_ble_eq_true rfl, Nat.le_of_ble_eq_true rfl⟩ rfl oT0 rfl (Nat.le_of_ble_eq_true rfl) dL_law_468 rfl ?_
  refine tt_aload_n C dL_law_471 rfl 2 rfl ?_
  refine tt_arg C hX 1 rfl (by omega) dL_law_472 dL_law_473 dL_law_474 dL_law_475 dL_law_476 ?_
  refine tt_arg C hX 2 rfl (by omega) dL_law_477 dL_law_478 dL_law_479 dL_law_480 dL_law_481 ?_
  refine tt_cVI C c7 gL_law_X7_of rfl ⟨rfl, rfl⟩ 2 (by decide +kernel) ⟨Nat.le_of_ble_eq_true rfl, Nat.le_of_ble_eq_true rfl⟩ rfl oM0 rfl (Nat.le_of_ble_eq_true rfl) dL_law_482 rfl ?_
  exact tt_icmp_eq (P := True) (tgt := 830) C dL_law_485 rfl ⟨fun _ => trivial, fun _ => rfl⟩ (fun _ => next _ _ hI) (fun z => absurd trivial z)
theorem law_about {N : Nat} (C : CxL E F) (hX : LX F b L xs) (hi : i + 5 ≤ L) (H : IV N u r) (hN : N + 15200 < 2 ^ 30) (next : ∀ (u2 : U3) (r2 : R1), IV (N + 15000) u2 r2 → T E F 4 u2 r2 830 (LV E b i) []) : T E F 4 u r 490 (LV E b i) [] := by
  obtain ⟨x, u1, r1, u2, c6, c7, hI⟩ := st_about (E := E) H hN (xs (i + 1)) (xs (i + 2))
  refine tt_aload_n C dL_law_490 rfl 1 rfl ?_
  refine tt_arg C hX 1 rfl (by omega) dL_law_491 dL_law_492 dL_law_493 dL_law_494 dL_law_495 ?_
  refine tt_arg C hX 2 rfl (by omega) dL_law_496 dL_law_497 dL_law_498 dL_law_499 dL_law_500 ?_
  refine tt_cVI C c6 gL_law_X6_about rfl ⟨rfl, rfl⟩ 2 (by decide +kernel) ⟨Nat.le_of_ble_eq_true rfl, Nat.le_of_ble_eq_true rfl⟩ rfl oT0 rfl (Nat.le_of_ble_eq_true rfl) dL_law_501 rfl ?_
  refine tt_aload_n C dL_law_504 rfl 2 rfl ?_
  refine tt_arg C hX 1 rfl (by omega) dL_law_505 dL_law_506 dL_law_507 dL_law_508 dL_law_509 ?_
  refine tt_arg C hX 2 rfl (by omega) dL_law_510 dL_law_511 dL_law_512 dL_law_513 dL_law_514 ?_
  refine tt_cVI C c7 gL_law_X7_about rfl ⟨rfl, rfl⟩ 2 (by decide +kernel) ⟨Nat.le_of_ble_eq_true rfl, Nat.le_of_ble_eq_true rfl⟩ rfl oM0 rfl (Nat.le_of_ble_eq_true rfl) dL_law_515 rfl ?_
  exact tt_icmp_eq (P := True) (tgt := 830) C dL_law_518 rfl ⟨fun _ => trivial, fun _ => rfl⟩ (fun _ => next _ _ hI) (fun z => absurd trivial z)
theorem law_note {N : Nat} (C : CxL E F) (hX : LX F b L xs) (hi : i + 5 ≤ L) (H : IV N u r) (hN : N + 15200 < 2 ^ 30) (next : ∀ (u2 : U3) (r2 : R1), IV (N + 15000) u2 r2 → T E F 4 u2 r2 830 (LV E b i) []) : T E F 4 u r 523 (LV E b i) [] := by
  obtain ⟨x, u1, r1, u2, c6, c7, hI⟩ := st_note (E := E) H hN (xs (i + 1)) (xs (i + 2)) (xs (i + 3))
  refine tt_aload_n C dL_law_523 rfl 1 rfl ?_
  refine tt_arg C hX 1 rfl (by omega) dL_law_524 dL_law_525 dL_law_526 dL_law_527 dL_law_528 ?_
  refine tt_arg C hX 2 rfl (by omega) dL_law_529 dL_law_530 dL_law_531 dL_law_532 dL_law_533 ?_
  refine tt_arg C hX 3 rfl (by omega) dL_law_534 dL_law_535 dL_law_536 dL_law_537 dL_law_538 ?_
  refine tt_cVI C c6 gL_law_X6_note rfl ⟨rfl, rfl⟩ 3 (by decide +kernel) ⟨Nat.le_of_ble_eq_true rfl, Nat.le_of_ble_eq_true rfl⟩ rfl oT0 rfl (Nat.le_of_ble_eq_true rfl) dL_law_539 rfl ?_
  refine tt_aload_n C dL_law_542 rfl 2 rfl ?_
  refine tt_arg C hX 1 rfl (by omega) dL_law_543 dL_law_544 dL_law_545 dL_law_546 dL_law_547 ?_
  refine tt_arg C hX 2 rfl (by omega) dL_law_548 dL_law_549 dL_law_550 dL_law_551 dL_law_552 ?_
  refine tt_arg C hX 3 rfl (by omega) dL_law_553 dL_law_554 dL_law_555 dL_law_556 dL_law_557 ?_
  refine tt_cVI C c7 gL_law_X7_note rfl ⟨rfl, rfl⟩ 3 (by decide +kernel) ⟨Nat.le_of_ble_eq_true rfl, Nat.le_of_ble_eq_true rfl⟩ rfl oM0 rfl (Nat.le_of_ble_eq_true rfl) dL_law_558 rfl ?_
  exact tt_icmp_eq (P := True) (tgt := 830) C dL_law_561 rfl ⟨fun _ => trivial, fun _ => rfl⟩ (fun _ => next _ _ hI) (fun z => absurd trivial z)
theorem law_inside {N : Nat} (C : CxL E F) (hX : LX F b L xs) (hi : i + 5 ≤ L) (H : IV N u r) (hN : N + 15200 < 2 ^ 30) (next : ∀ (u2 : U3) (r2 : R1), IV (N + 15000) u2 r2 → T E F 4 u2 r2 830 (LV E b i) []) : T E F 4 u r 566 (LV E b i) [] := by
  obtain ⟨x, u1, r1, u2, c6, c7, hI⟩ := st_inside (E := E) H hN (xs (i + 1)) (xs (i + 2))
  refine tt_aload_n C dL_law_566 rfl 1 rfl ?_
  refine tt_arg C hX 1 rfl (by omega) dL_law_567 dL_law_568 dL_law_569 dL_law_570 dL_law_571 ?_
  refine tt_arg C hX 2 rfl (by omega) dL_law_572 dL_law_573 dL_law_574 dL_law_575 dL_law_576 ?_
  refine tt_cVI C c6 gL_law_X6_inside rfl ⟨rfl, rfl⟩ 2 (by decide +kernel) ⟨Nat.le_of_ble_eq_true rfl, Nat.le_of_ble_eq_true rfl⟩ rfl oT0 rfl (Nat.le_of_ble_eq_true rfl) dL_law_577 rfl ?_
  refine tt_aload_n C dL_law_580 rfl 2 rfl ?_
  refine tt_arg C hX 1 rfl (by omega) dL_law_581 dL_law_582 dL_law_583 dL_law_584 dL_law_585 ?_
  refine tt_arg C hX 2 rfl (by omega) dL_law_586 dL_law_587 dL_law_588 dL_law_589 dL_law_590 ?_
  refine tt_cVI C c7 gL_law_X7_inside rfl ⟨rfl, rfl⟩ 2 (by decide +kernel) ⟨Nat.le_of_ble_eq_true rfl, Nat.le_of_ble_eq_true rfl⟩ rfl oM0 rfl (Nat.le_of_ble_eq_true rfl) dL_law_591 rfl ?_
  exact tt_icmp_eq (P := True) (tgt := 830) C dL_law_594 rfl ⟨fun _ => trivial, fun _ => rfl⟩ (fun _ => next _ _ hI) (fun z => absurd trivial z)
theorem law_muster {N : Nat} (C : CxL E F) (hX : LX F b L xs) (hi : i + 5 ≤ L) (H : IV N u r) (hN : N + 15200 < 2 ^ 30) (next : ∀ (u2 : U3) (r2 : R1), IV (N + 15000) u2 r2 → T E F 4 u2 r2 830 (LV E b i) []) : T E F 4 u r 599 (LV E b i) [] := by
  obtain ⟨x, u1, r1, u2, c6, c7, hI⟩ := st_muster (E := E) H hN (xs (i + 1))
  refine tt_aload_n C dL_law_599 rfl 1 rfl ?_
  refine tt_arg C hX 1 rfl (by omega) dL_law_600 dL_law_601 dL_law_602 dL_law_603 dL_law_604 ?_
  refine tt_cVI C c6 gL_law_X6_muster rfl ⟨rfl, rfl⟩ 1 (by decide +kernel) ⟨Nat.le_of_ble_eq_true rfl, Nat.le_of_ble_eq_true rfl⟩ rfl oT0 rfl (Nat.le_of_ble_eq_true rfl) dL_law_605 rfl ?_
  refine tt_aload_n C dL_law_608 rfl 2 rfl ?_
  refine tt_arg C hX 1 rfl (by omega) dL_law_609 dL_law_610 dL_law_611 dL_law_612 dL_law_613 ?_
  refine tt_cVI C c7 gL_law_X7_muster rfl ⟨rfl, rfl⟩ 1 (by decide +kernel) ⟨Nat.le_of_ble_eq_true rfl, Nat.le_of_ble_eq_true rfl⟩ rfl oM0 rfl (Nat.le_of_ble_eq_true rfl) dL_law_614 rfl ?_
  exact tt_icmp_eq (P := True) (tgt := 830) C dL_law_617 rfl ⟨fun _ => trivial, fun _ => rfl⟩ (fun _ => next _ _ hI) (fun z => absurd trivial z)
theorem law_way {N : Nat} (C : CxL E F) (hX : LX F b L xs) (hi : i + 5 ≤ L) (H : IV N u r) (hN : N + 15200 < 2 ^ 30) (next : ∀ (u2 : U3) (r2 : R1), IV (N + 15000) u2 r2 → T E F 4 u2 r2 830 (LV E b i) []) : T E F 4 u r 622 (LV E b i) [] := by
  obtain ⟨x, u1, r1, u2, c6, c7, hI⟩ := st_way (E := E) H hN (xs (i + 1)) (xs (i + 2)) (xs (i + 3)) (xs (i + 4))
  refine tt_aload_n C dL_law_622 rfl 1 rfl ?_
  refine tt_arg C hX 1 rfl (by omega) dL_law_623 dL_law_624 dL_law_625 dL_law_626 dL_law_627 ?_
  refine tt_arg C hX 2 rfl (by omega) dL_law_628 dL_law_629 dL_law_630 dL_law_631 dL_law_632 ?_
  refine tt_arg C hX 3 rfl (by omega) dL_law_633 dL_law_634 dL_law_635 dL_law_636 dL_law_637 ?_
  refine tt_arg C hX 4 rfl (by omega) dL_law_638 dL_law_639 dL_law_640 dL_law_641 dL_law_642 ?_
  refine tt_cVI C c6 gL_law_X6_way rfl ⟨rfl, rfl⟩ 4 (by decide +kernel) ⟨Nat.le_of_ble_eq_true rfl, Nat.le_of_ble_eq_true rfl⟩ rfl oT0 rfl (Nat.le_of_ble_eq_true rfl) dL_law_643 rfl ?_
  refine tt_aload_n C dL_law_646 rfl 2 rfl ?_
  refine tt_arg C hX 1 rfl (by omega) dL_law_647 dL_law_648 dL_law_649 dL_law_650 dL_law_651 ?_
  refine tt_arg C hX 2 rfl (by omega) dL_law_652 dL_law_653 dL_law_654 dL_law_655 dL_law_656 ?_
  refine tt_arg C hX 3 rfl (by omega) dL_law_657 dL_law_658 dL_law_659 dL_law_660 dL_law_661 ?_
  refine tt_arg C hX 4 rfl (by omega) dL_law_662 dL_law_663 dL_law_664 dL_law_665 dL_law_666 ?_
  refine tt_cVI C c7 gL_law_X7_way rfl ⟨rfl, rfl⟩ 4 (by decide +kernel) ⟨Nat.le_of_ble_eq_true rfl, Nat.le_of_ble_eq_true rfl⟩ rfl oM0 rfl (Nat.le_of_ble_eq_true rfl) dL_law_667 rfl ?_
  exact tt_icmp_eq (P := True) (tgt := 830) C dL_law_670 rfl ⟨fun _ => trivial, fun _ => rfl⟩ (fun _ => next _ _ hI) (fun z => absurd trivial z)
theorem law_passed {N : Nat} (C : CxL E F) (hX : LX F b L xs) (hi : i + 5 ≤ L) (H : IV N u r) (hN : N + 15200 < 2 ^ 30) (next : ∀ (u2 : U3) (r2 : R1), IV (N + 15000) u2 r2 → T E F 4 u2 r2 830 (LV E b i) []) : T E F 4 u r 675 (LV E b i) [] := by
  obtain ⟨x, u1, r1, u2, c6, c7, hI⟩ := st_passed (E := E) H hN (xs (i + 1)) (xs (i + 2))
  refine tt_aload_n C dL_law_675 rfl 1 rfl ?_
  refine tt_arg C hX 1 rfl (by omega) dL_law_676 dL_law_677 dL_law_678 dL_law_679 dL_law_680 ?_
  refine tt_arg C hX 2 rfl (by omega) dL_law_681 dL_law_682 dL_law_683 dL_law_684 dL_law_685 ?_
  refine tt_cVI C c6 gL_law_X6_passed rfl ⟨rfl, rfl⟩ 2 (by decide +kernel) ⟨Nat.le_of_ble_eq_true rfl, Nat.le_of_ble_eq_true rfl⟩ rfl oT0 rfl (Nat.le_of_ble_eq_true rfl) dL_law_686 rfl ?_
  refine tt_aload_n C dL_law_689 rfl 2 rfl ?_
  refine tt_arg C hX 1 rfl (by omega) dL_law_690 dL_law_691 dL_law_692 dL_law_693 dL_law_694 ?_
  refine tt_arg C hX 2 rfl (by omega) dL_law_695 dL_law_696 dL_law_697 dL_law_698 dL_law_699 ?_
  refine tt_cVI C c7 gL_law_X7_passed rfl ⟨rfl, rfl⟩ 2 (by decide +kernel) ⟨Nat.le_of_ble_eq_true rfl, Nat.le_of_ble_eq_true rfl⟩ rfl oM0 rfl (Nat.le_of_ble_eq_true rfl) dL_law_700 rfl ?_
  exact tt_icmp_eq (P := True) (tgt := 830) C dL_law_703 rfl ⟨fun _ => trivial, fun _ => rfl⟩ (fun _ => next _ _ hI) (fun z => absurd trivial z)
theorem law_count {N : Nat} (C : CxL E F) (hX : LX F b L xs) (hi : i + 5 ≤ L) (H : IV N u r) (hN : N + 15200 < 2 ^ 30) (next : ∀ (u2 : U3) (r2 : R1), IV (N + 15000) u2 r2 → T E F 4 u2 r2 830 (LV E b i) []) : T E F 4 u r 708 (LV E b i) [] := by
  obtain ⟨x, u1, r1, u2, c6, c7, hI⟩ := st_count (E := E) H hN (xs (i + 1))
  refine tt_aload_n C dL_law_708 rfl 1 rfl ?_
  refine tt_arg C hX 1 rfl (by omega) dL_law_709 dL_law_710 dL_law_711 dL_law_712 dL_law_713 ?_
  refine tt_cVI C c6 gL_law_X6_count rfl ⟨rfl, rfl⟩ 1 (by decide +kernel) ⟨Nat.le_of_ble_eq_true rfl, Nat.le_of_ble_eq_true rfl⟩ rfl oT0 rfl (Nat.le_of_ble_eq_true rfl) dL_law_714 rfl ?_
  refine tt_aload_n C dL_law_717 rfl 2 rfl ?_
  refine tt_arg C hX 1 rfl (by omega) dL_law_718 dL_law_719 dL_law_720 dL_law_721 dL_law_722 ?_
  refine tt_cVI C c7 gL_law_X7_count rfl ⟨rfl, rfl⟩ 1 (by decide +kernel) ⟨Nat.le_of_ble_eq_true rfl, Nat.le_of_ble_eq_true rfl⟩ rfl oM0 rfl (Nat.le_of_ble_eq_true rfl) dL_law_723 rfl ?_
  exact tt_icmp_eq (P := True) (tgt := 830) C dL_law_726 rfl ⟨fun _ => trivial, fun _ => rfl⟩ (fun _ => next _ _ hI) (fun z => absurd trivial z)
theorem law_type {N : Nat} (C : CxL E F) (hX : LX F b L xs) (hi : i + 5 ≤ L) (H : IV N u r) (hN : N + 15200 < 2 ^ 30) (next : ∀ (u2 : U3) (r2 : R1), IV (N + 15000) u2 r2 → T E F 4 u2 r2 830 (LV E b i) []) : T E F 4 u r 731 (LV E b i) [] := by
  obtain ⟨x, u1, r1, u2, c6, c7, hI⟩ := st_type (E := E) H hN (xs (i + 1))
  refine tt_aload_n C dL_law_731 rfl 1 rfl ?_
  refine tt_arg C hX 1 rfl (by omega) dL_law_732 dL_law_733 dL_law_734 dL_law_735 dL_law_736 ?_
  refine tt_cVI C c6 gL_law_X6_type rfl ⟨rfl, rfl⟩ 1 (by decide +kernel) ⟨Nat.le_of_ble_eq_true rfl, Nat.le_of_ble_eq_true rfl⟩ rfl oT0 rfl (Nat.le_of_ble_eq_true rfl) dL_law_737 rfl ?_
  refine tt_aload_n C dL_law_740 rfl 2 rfl ?_
  refine tt_arg C hX 1 rfl (by omega) dL_law_741 dL_law_742 dL_law_743 dL_law_744 dL_law_745 ?_
  refine tt_cVI C c7 gL_law_X7_type rfl ⟨rfl, rfl⟩ 1 (by decide +kernel) ⟨Nat.le_of_ble_eq_true rfl, Nat.le_of_ble_eq_true rfl⟩ rfl oM0 rfl (Nat.le_of_ble_eq_true rfl) dL_law_746 rfl ?_
  exact tt_icmp_eq (P := True) (tgt := 830) C dL_law_749 rfl ⟨fun _ => trivial, fun _ => rfl⟩ (fun _ => next _ _ hI) (fun z => absurd trivial z)
theorem law_clear {N : Nat} (C : CxL E F) (hX : LX F b L xs) (hi : i + 5 ≤ L) (H : IV N u r) (hN : N + 15200 < 2 ^ 30) (next : ∀ (u2 : U3) (r2 : R1), IV (N + 15000) u2 r2 → T E F 4 u2 r2 830 (LV E b i) []) : T E F 4 u r 754 (LV E b i) [] := by
  obtain ⟨x, u1, r1, u2, c6, c7, hI⟩ := st_clear (E := E) H hN 
  refine tt_aload_n C dL_law_754 rfl 1 rfl ?_
  refine tt_cVI C c6 gL_law_X6_clear rfl ⟨rfl, rfl⟩ 0 (by decide +kernel) ⟨Nat.le_of_ble_eq_true rfl, Nat.le_of_ble_eq_true rfl⟩ rfl oT0 rfl (Nat.le_of_ble_eq_true rfl) dL_law_755 rfl ?_
  refine tt_aload_n C dL_law_758 rfl 2 rfl ?_
  refine tt_cVI C c7 gL_law_X7_clear rfl ⟨rfl, rfl⟩ 0 (by decide +kernel) ⟨Nat.le_of_ble_eq_true rfl, Nat.le_of_ble_eq_true rfl⟩ rfl oM0 rfl (Nat.le_of_ble_eq_true rfl) dL_law_759 rfl ?_
  exact tt_icmp_eq (P := True) (tgt := 830) C dL_law_762 rfl ⟨fun _ => trivial, fun _ => rfl⟩ (fun _ => next _ _ hI) (fun z => absurd trivial z)
theorem law_reads {N : Nat} (C : CxL E F) (hX : LX F b L xs) (hi : i + 5 ≤ L) (H : IV N u r) (hN : N + 15200 < 2 ^ 30) (next : ∀ (u2 : U3) (r2 : R1), IV (N + 15000) u2 r2 → T E F 4 u2 r2 830 (LV E b i) []) : T E F 4 u r 767 (LV E b i) [] := by
  obtain ⟨x, u1, r1, u2, c6, c7, hI⟩ := st_reads (E := E) H hN 
  refine tt_aload_n C dL_law_767 rfl 1 rfl ?_
  refine tt_cVI C c6 gL_law_X6_reads rfl ⟨rfl, rfl⟩ 0 (by decide +kernel) ⟨Nat.le_of_ble_eq_true rfl, Nat.le_of_ble_eq_true rfl⟩ rfl oT0 rfl (Nat.le_of_ble_eq_true rfl) dL_law_768 rfl ?_
  refine tt_aload_n C dL_law_771 rfl 2 rfl ?_
  refine tt_cVI C c7 gL_law_X7_reads rfl ⟨rfl, rfl⟩ 0 (by decide +kernel) ⟨Nat.le_of_ble_eq_true rfl, Nat.le_of_ble_eq_true rfl⟩ rfl oM0 rfl (Nat.le_of_ble_eq_true rfl) dL_law_772 rfl ?_
  exact tt_icmp_eq (P := True) (tgt := 830) C dL_law_775 rfl ⟨fun _ => trivial, fun _ => rfl⟩ (fun _ => next _ _ hI) (fun z => absurd trivial z)
theorem law_back {N : Nat} (C : CxL E F) (hX : LX F b L xs) (hi : i + 5 ≤ L) (H : IV N u r) (hN : N + 15200 < 2 ^ 30) (next : ∀ (u2 : U3) (r2 : R1), IV (N + 15000) u2 r2 → T E F 4 u2 r2 830 (LV E b i) []) : T E F 4 u r 780 (LV E b i) [] := by
  obtain ⟨x, u1, r1, u2, c6, c7, hI⟩ := st_back (E := E) H hN 
  refine tt_aload_n C dL_law_780 rfl 1 rfl ?_
  refine tt_cVI C c6 gL_law_X6_back rfl ⟨rfl, rfl⟩ 0 (by decide +kernel) ⟨Nat.le_of_ble_eq_true rfl, Nat.le_of_ble_eq_true rfl⟩ rfl oT0 rfl (Nat.le_of_ble_eq_true rfl) dL_law_781 rfl ?_
  refine tt_aload_n C dL_law_784 rfl 2 rfl ?_
  refine tt_cVI C c7 gL_law_X7_back rfl ⟨rfl, rfl⟩ 0 (by decide +kernel) ⟨Nat.le_of_ble_eq_true rfl, Nat.le_of_ble_eq_true rfl⟩ rfl oM0 rfl (Nat.le_of_ble_eq_true rfl) dL_law_785 rfl ?_
  exact tt_icmp_eq (P := True) (tgt := 830) C dL_law_788 rfl ⟨fun _ => trivial, fun _ => rfl⟩ (fun _ => next _ _ hI) (fun z => absurd trivial z)
theorem law_told {N : Nat} (C : CxL E F) (hX : LX F b L xs) (hi : i + 5 ≤ L) (H : IV N u r) (hN : N + 15200 < 2 ^ 30) (next : ∀ (u2 : U3) (r2 : R1), IV (N + 15000) u2 r2 → T E F 4 u2 r2 830 (LV E b i) []) : T E F 4 u r 793 (LV E b i) [] := by
  obtain ⟨x, u1, r1, u2, c6, c7, hI⟩ := st_told (E := E) H hN (xs (i + 1))
  refine tt_aload_n C dL_law_793 rfl 1 rfl ?_
  refine tt_arg C hX 1 rfl (by omega) dL_law_794 dL_law_795 dL_law_796 dL_law_797 dL_law_798 ?_
  refine tt_cVI C c6 gL_law_X6_told rfl ⟨rfl, rfl⟩ 1 (by decide +kernel) ⟨Nat.le_of_ble_eq_true rfl, Nat.le_of_ble_eq_true rfl⟩ rfl oT0 rfl (Nat.le_of_ble_eq_true rfl) dL_law_799 rfl ?_
  refine tt_aload_n C dL_law_802 rfl 2 rfl ?_
  refine tt_arg C hX 1 rfl (by omega) dL_law_803 dL_law_804 dL_law_805 dL_law_806 dL_law_807 ?_
  refine tt_cVI C c7 gL_law_X7_told rfl ⟨rfl, rfl⟩ 1 (by decide +kernel) ⟨Nat.le_of_ble_eq_true rfl, Nat.le_of_ble_eq_true rfl⟩ rfl oM0 rfl (Nat.le_of_ble_eq_true rfl) dL_law_808 rfl ?_
  exact tt_icmp_eq (P := True) (tgt := 830) C dL_law_811 rfl ⟨fun _ => trivial, fun _ => rfl⟩ (fun _ => next _ _ hI) (fun z => absurd trivial z)
theorem lgc_self (x : Int64) : lg_cmp x x = 0 := by simp [lg_cmp]
theorem law_digest {N : Nat} (C : CxL E F) (hX : LX F b L xs) (hi : i + 5 ≤ L) (H : IV N u r) (hN : N + 15200 < 2 ^ 30) (next : ∀ (u2 : U3) (r2 : R1), IV (N + 15000) u2 r2 → T E F 4 u2 r2 830 (LV E b i) []) : T E F 4 u r 816 (LV E b i) [] := by
  obtain ⟨x, u1, r1, u2, c6, c7, hI⟩ := st_digest (E := E) H hN 
  refine tt_aload_n C dL_law_816 rfl 1 rfl ?_
  refine tt_cVL C c6 gL_law_X6_digest rfl ⟨rfl, rfl⟩ 0 (by decide +kernel) ⟨Nat.le_of_ble_eq_true rfl, Nat.le_of_ble_eq_true rfl⟩ rfl oT0 rfl (Nat.le_of_ble_eq_true rfl) dL_law_817 rfl ?_
  refine tt_aload_n C dL_law_820 rfl 2 rfl ?_
  refine tt_cVL C c7 gL_law_X7_digest rfl ⟨rfl, rfl⟩ 0 (by decide +kernel) ⟨Nat.le_of_ble_eq_true rfl, Nat.le_of_ble_eq_true rfl⟩ rfl oM0 rfl (Nat.le_of_ble_eq_true rfl) dL_law_821 rfl ?_
  refine tt_lcmp C dL_law_824 (lgc_self x) ?_
  exact tt_if_eq (P := True) (tgt := 830) C dL_law_825 rfl ⟨fun _ => trivial, fun _ => rfl⟩ (fun _ => next _ _ hI) (fun z => absurd trivial z)
end LW
section LP
variable {E : EN} {F : FX} {b L : Nat} {xs : Nat → Int32}
theorem law_sub {L t : Nat} (hL : L ≤ 2560) (ht : t ≤ 600) : nI L - nI 5 < nI (5 * t) ↔ L < 5 * t + 5 := by
  rw [Int32.lt_iff_toInt_lt, pk_sub_toInt (by omega) (by omega), nI_toInt (by omega)]
  omega
set_option maxHeartbeats 4000000 in
theorem law_loop (C : CxL E F) (hX : LX F b L xs) (fin : ∀ (u : U3) (r : R1) (lv : List (Nat × Value)), T E F 4 u r 837 lv [.int 1]) : ∀ (n t : Nat) (u : U3) (r : R1), t + n = 514 → IV (15000 * t) u r → T E F 4 u r 18 (LV E b (5 * t)) []
  | 0, t, u, r, hn, H => by
    have hL := hX.2.2.2
    refine tt_iload_n C dL_law_18 rfl 3 rfl ?_
    refine tt_aload_n C dL_law_19 rfl 0 rfl ?_
    refine tt_slen C hX dL_law_20 ?_
    refine tt_iconst (v := nI 5) C dL_law_21 rfl ?_
    refine tt_isub C dL_law_22 rfl ?_
    refine tt_icmp_gt (tgt := 836) C dL_law_23 rfl (law_sub hL (by omega)) (fun _ => ?_) (fun z => absurd (by omega) z)
    exact tt_iconst (v := 1) C dL_law_836 rfl (fin _ _ _)
  | n + 1, t, u, r, hn, H => by
    have hL := hX.2.2.2
    refine tt_iload_n C dL_law_18 rfl 3 rfl ?_
    refine tt_aload_n C dL_law_19 rfl 0 rfl ?_
    refine tt_slen C hX dL_law_20 ?_
    refine tt_iconst (v := nI 5) C dL_law_21 rfl ?_
    refine tt_isub C dL_law_22 rfl ?_
    refine tt_icmp_gt (tgt := 836) C dL_law_23 rfl (law_sub hL (by omega)) (fun _ => ?_) (fun z => ?_)
    · exact tt_iconst (v := 1) C dL_law_836 rfl (fin _ _ _)
    · have hi : 5 * t + 5 ≤ L := by omega
      have hN : 15000 * t + 15200 < 2 ^ 30 := by omega
      have next : ∀ (u2 : U3) (r2 : R1), IV (15000 * t + 15000) u2 r2 → T E F 4 u2 r2 830 (LV E b (5 * t)) [] := fun u2 r2 H2 => by
        have ih := law_loop C hX fin n (t + 1) u2 r2 (by omega) H2
        refine tt_iinc (p := 3) (v := nI (5 * t + 5)) (lv' := LV E b (5 * t + 5)) C dL_law_830 rfl (nI_add (5 * t) 5) (by decide) [1, 2, 3, 0] rfl ?_
        exact tt_goto (tgt := 18) C dL_law_833 rfl ih
      refine tt_aload_n C dL_law_26 rfl 0 rfl ?_
      refine tt_iload_n C dL_law_27 rfl 3 rfl ?_
      refine tt_sld C hX (by omega) dL_law_28 ?_
      refine tt_bipush (v := 31) C dL_law_29 rfl ?_
      obtain ⟨j, hj, e⟩ := pk_andE (xs (5 * t)) (m := 31) 5 (by decide)
      refine tt_iand C dL_law_31 e ?_
      rcases (by omega : j = 0 ∨ j = 1 ∨ j = 2 ∨ j = 3 ∨ j = 4 ∨ j = 5 ∨ j = 6 ∨ j = 7 ∨ j = 8 ∨ j = 9 ∨ j = 10 ∨ j = 11 ∨ j = 12 ∨ j = 13 ∨ j = 14 ∨ j = 15 ∨ j = 16 ∨ j = 17 ∨ j = 18 ∨ j = 19 ∨ j = 20 ∨ j = 21 ∨ j = 22 ∨ 23 ≤ j) with rfl | rfl | rfl | rfl | rfl | rfl | rfl | rfl | rfl | rfl | rfl | rfl | rfl | rfl | rfl | rfl | rfl | rfl | rfl | rfl | rfl | rfl | rfl | hj3
      · exact tt_tabIn (off := 108) (tgt := 140) C dL_law_32 (by decide) (by decide) (by decide) (by decide) (law_door C hX hi H hN next)
      · exact tt_tabIn (off := 161) (tgt := 193) C dL_law_32 (by decide) (by decide) (by decide) (by decide) (law_sets C hX hi H hN next)
      · exact tt_tabIn (off := 204) (tgt := 236) C dL_law_32 (by decide) (by decide) (by decide) (by decide) (law_locks C hX hi H hN next)
      · exact tt_tabIn (off := 237) (tgt := 269) C dL_law_32 (by decide) (by decide) (by decide) (by decide) (law_badge C hX hi H hN next)
      · exact tt_tabIn (off := 260) (tgt := 292) C dL_law_32 (by decide) (by decide) (by decide) (by decide) (law_levels C hX hi H hN next)
      · exact tt_tabIn (off := 293) (tgt := 325) C dL_law_32 (by decide) (by decide) (by decide) (by decide) (law_bars C hX hi H hN next)
      · exact tt_tabIn (off := 326) (tgt := 358) C dL_law_32 (by decide) (by decide) (by decide) (by decide) (law_online C hX hi H hN next)
      · exact tt_tabIn (off := 359) (tgt := 391) C dL_law_32 (by decide) (by decide) (by decide) (by decide) (law_asks C hX hi H hN next)
      · exact tt_tabIn (off := 402) (tgt := 434) C dL_law_32 (by decide) (by decide) (by decide) (by decide) (law_waits C hX hi H hN next)
      · exact tt_tabIn (off := 425) (tgt := 457) C dL_law_32 (by decide) (by decide) (by decide) (by decide) (law_of C hX hi H hN next)
      · exact tt_tabIn (off := 458) (tgt := 490) C dL_law_32 (by decide) (by decide) (by decide) (by decide) (law_about C hX hi H hN next)
      · exact tt_tabIn (off := 491) (tgt := 523) C dL_law_32 (by decide) (by decide) (by decide) (by decide) (law_note C hX hi H hN next)
      · exact tt_tabIn (off := 534) (tgt := 566) C dL_law_32 (by decide) (by decide) (by decide) (by decide) (law_inside C hX hi H hN next)
      · exact tt_tabIn (off := 567) (tgt := 599) C dL_law_32 (by decide) (by decide) (by decide) (by decide) (law_muster C hX hi H hN next)
      · exact tt_tabIn (off := 590) (tgt := 622) C dL_law_32 (by decide) (by decide) (by decide) (by decide) (law_way C hX hi H hN next)
      · exact tt_tabIn (off := 643) (tgt := 675) C dL_law_32 (by decide) (by decide) (by decide) (by decide) (law_passed C hX hi H hN next)
      · exact tt_tabIn (off := 676) (tgt := 708) C dL_law_32 (by decide) (by decide) (by decide) (by decide) (law_count C hX hi H hN next)
      · exact tt_tabIn (off := 699) (tgt := 731) C dL_law_32 (by decide) (by decide) (by decide) (by decide) (law_type C hX hi H hN next)
      · exact tt_tabIn (off := 722) (tgt := 754) C dL_law_32 (by decide) (by decide) (by decide) (by decide) (law_clear C hX hi H hN next)
      · exact tt_tabIn (off := 735) (tgt := 767) C dL_law_32 (by decide) (by decide) (by decide) (by decide) (law_reads C hX hi H hN next)
      · exact tt_tabIn (off := 748) (tgt := 780) C dL_law_32 (by decide) (by decide) (by decide) (by decide) (law_back C hX hi H hN next)
      · exact tt_tabIn (off := 761) (tgt := 793) C dL_law_32 (by decide) (by decide) (by decide) (by decide) (law_told C hX hi H hN next)
      · exact tt_tabIn (off := 784) (tgt := 816) C dL_law_32 (by decide) (by decide) (by decide) (by decide) (law_digest C hX hi H hN next)
      · refine tt_tabOut (tgt := 830) C dL_law_32 (Or.inr ?_) rfl (next _ _ (IV_mono H (by omega)))
        rw [nI_toInt (by omega)]
        omega
end LP
