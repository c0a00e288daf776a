/-! THE LAW: one call of the script -/
section LW
variable {X : jX} {y : MethodName} {cc : ByteArray} {mL : Nat} {ret : Option FieldType} {R : Room} {QF : jQF} {cells slots n : Nat} {N : jN} {M : jM} {pc : Nat} {ls : List (Nat × jV)} {st : List jV} {y1 : MethodName} {cc1 : ByteArray} {mL1 : Nat} {ret1 : Option FieldType} {np d1 ix : Nat} {av rest : List jV}
theorem e_callP (q : Nat) {Q : Int → jM → Prop} (hm : jMth y1 cc1 mL1 ret1 np) (hv : Cond.instanceMethod y1 ∈ lw_g ∧ Cond.selects y1.cls y1 y1 ∈ lw_g) (hl : Cond.methodLink y.cls ix y1 ∈ lw_g) (h80 : mL1 ≤ 80) (hdg : decode cc pc = .ok (.invokevirtual ix, 3)) {k : Int} {ci : Nat} (hk : jAt 949 k ci) (hci : jCls ci) (hcn : jCn ci = y1.cls) (hs : st = av.reverse ++ jR k :: rest) (hn : av.length = np) (hrest : (rest.map jcat).sum ≤ 8) (hr : jRoom R d1 0 0 cells slots) (hq : pc + 3 = q) (hM : jCt y1 cc1 mL1 ret1 d1 (jR k :: av) M Q) (kk : ∀ (z : Int) (M2 : jM), Q z M2 → gE X y cc mL ret R QF cells slots 949 topo M2 q ls (jpush ret1 z rest)) : gE X y cc mL ret R QF cells slots 949 topo M pc ls st :=
  e_callVG (mc := 0) (ms := 0) q hm hv hl h80 hdg hk hci hcn hs hn hrest hr hq (hM X) (fun z n2 N2 M2 h => by
    obtain ⟨h1, h2, h3⟩ := h
    subst h1
    subst h2
    exact ⟨rfl, kk z M2 h3⟩)
theorem e_w64 {z : Int} (kk : gE X y cc mL ret R QF cells slots n N M pc ls (jL (w64 z) :: st)) : gE X y cc mL ret R QF cells slots n N M pc ls (jL z :: st) := by
  intro p l e s m args below meth c H locs lsA C hz hR hS hl
  have h := kk p l e s m args below meth c H locs lsA C hz hR hS hl
  have e2 : jv X (jL (w64 z)) = jv X (jL z) := congrArg Value.long (of_w64 z)
  rw [List.map_cons, e2] at h
  exact h
theorem e_w64b {z : Int} {v : jV} (kk : gE X y cc mL ret R QF cells slots n N M pc ls (v :: jL (w64 z) :: st)) : gE X y cc mL ret R QF cells slots n N M pc ls (v :: jL z :: st) := by
  intro p l e s m args below meth c H locs lsA C hz hR hS hl
  have h := kk p l e s m args below meth c H locs lsA C hz hR hS hl
  have e2 : jv X (jL (w64 z)) = jv X (jL z) := congrArg Value.long (of_w64 z)
  rw [List.map_cons, List.map_cons, e2] at h
  exact h
end LW
theorem w64_bnd (v : Int) : -9223372036854775808 ≤ w64 v ∧ w64 v ≤ 9223372036854775807 := by unfold w64; omega
theorem i32_bnd (v : Int32) : -2147483648 ≤ v.toInt ∧ v.toInt ≤ 2147483647 := ⟨v.le_toInt, by have := v.toInt_lt; omega⟩
theorem jorL_bnd (a b : Int) : -9223372036854775808 ≤ jorL a b ∧ jorL a b ≤ 9223372036854775807 := by
  unfold jorL
  exact ⟨Int64.le_toInt _, by have := Int64.toInt_lt (Int64.ofInt a ||| Int64.ofInt b); omega⟩
abbrev yl (nm : String) : MethodName := ⟨RL, nm, "([I)Z"⟩
abbrev lwl (i : Int) : List (Nat × jV) := [(3, jI i), (2, jR 928), (1, jR 0), (0, jF 60)]
theorem lc_0 {X : jX} {nm : String} {ret : Option FieldType} {R : Room} {QF : jQF} {cells slots : Nat} {M : jM} {i : Int} (hF : 68 ≤ R.frames) (hL : 7000 ≤ R.locals) (hC : cells ≤ R.cells) (hS : slots ≤ R.slots) (h2 : (X.2.2.2.2.1 : Int) < 100000) (h0 : 0 ≤ i) (h1 : i + 7 ≤ (X.2.2.2.2.1 : Int)) (hI : Inv M) (kk : ∀ M2 : jM, Inv M2 → gE X (yl nm) cL_law 4 ret R QF cells slots 949 topo M2 2160 (lwl i) []) : gE X (yl nm) cL_law 4 ret R QF cells slots 949 topo M 256 (lwl i) [] := by
  refine e_aload_n (i := 1) 257 dL_law_256 rfl rfl rfl ?_
  refine e_aloadF_n (i := 0) 258 dL_law_257 rfl rfl rfl ?_
  refine e_iload_n (i := 3) 259 dL_law_258 rfl rfl rfl ?_
  refine e_iconst 260 dL_law_259 rfl ?_
  refine e_iadd 261 dL_law_260 rfl ?_
  refine e_sald 262 dL_law_261 (by omega) (by omega) h2 rfl ?_
  refine e_aloadF_n (i := 0) 263 dL_law_262 rfl rfl rfl ?_
  refine e_iload_n (i := 3) 264 dL_law_263 rfl rfl rfl ?_
  refine e_iconst 265 dL_law_264 rfl ?_
  refine e_iadd 266 dL_law_265 rfl ?_
  refine e_sald 267 dL_law_266 (by omega) (by omega) h2 rfl ?_
  refine e_aloadF_n (i := 0) 268 dL_law_267 rfl rfl rfl ?_
  refine e_iload_n (i := 3) 269 dL_law_268 rfl rfl rfl ?_
  refine e_iconst 270 dL_law_269 rfl ?_
  refine e_iadd 271 dL_law_270 rfl ?_
  refine e_sald 272 dL_law_271 (by omega) (by omega) h2 rfl ?_
  refine e_aloadF_n (i := 0) 273 dL_law_272 rfl rfl rfl ?_
  refine e_iload_n (i := 3) 274 dL_law_273 rfl rfl rfl ?_
  refine e_iconst 275 dL_law_274 rfl ?_
  refine e_iadd 276 dL_law_275 rfl ?_
  refine e_sald 277 dL_law_276 (by omega) (by omega) h2 rfl ?_
  refine e_aloadF_n (i := 0) 278 dL_law_277 rfl rfl rfl ?_
  refine e_iload_n (i := 3) 279 dL_law_278 rfl rfl rfl ?_
  refine e_iconst 280 dL_law_279 rfl ?_
  refine e_iadd 281 dL_law_280 rfl ?_
  refine e_sald 282 dL_law_281 (by omega) (by omega) h2 rfl ?_
  refine e_callP 285 mt_yX11_feed mv_yX11_feed wd_519 (Nat.le_of_ble_eq_true rfl) dL_law_282 at_0 jc_11 rfl rfl rfl (Nat.le_of_ble_eq_true rfl) ⟨by omega, by omega, by omega, by omega⟩ rfl (p_feed hI (i32_bnd _) (i32_bnd _) (i32_bnd _) (i32_bnd _) (i32_bnd _)) (fun z M1 hc => ?_)
  refine e_aload_n (i := 2) 286 dL_law_285 rfl rfl rfl ?_
  refine e_aloadF_n (i := 0) 287 dL_law_286 rfl rfl rfl ?_
  refine e_iload_n (i := 3) 288 dL_law_287 rfl rfl rfl ?_
  refine e_iconst 289 dL_law_288 rfl ?_
  refine e_iadd 290 dL_law_289 rfl ?_
  refine e_sald 291 dL_law_290 (by omega) (by omega) h2 rfl ?_
  refine e_aloadF_n (i := 0) 292 dL_law_291 rfl rfl rfl ?_
  refine e_iload_n (i := 3) 293 dL_law_292 rfl rfl rfl ?_
  refine e_iconst 294 dL_law_293 rfl ?_
  refine e_iadd 295 dL_law_294 rfl ?_
  refine e_sald 296 dL_law_295 (by omega) (by omega) h2 rfl ?_
  refine e_aloadF_n (i := 0) 297 dL_law_296 rfl rfl rfl ?_
  refine e_iload_n (i := 3) 298 dL_law_297 rfl rfl rfl ?_
  refine e_iconst 299 dL_law_298 rfl ?_
  refine e_iadd 300 dL_law_299 rfl ?_
  refine e_sald 301 dL_law_300 (by omega) (by omega) h2 rfl ?_
  refine e_aloadF_n (i := 0) 302 dL_law_301 rfl rfl rfl ?_
  refine e_iload_n (i := 3) 303 dL_law_302 rfl rfl rfl ?_
  refine e_iconst 304 dL_law_303 rfl ?_
  refine e_iadd 305 dL_law_304 rfl ?_
  refine e_sald 306 dL_law_305 (by omega) (by omega) h2 rfl ?_
  refine e_aloadF_n (i := 0) 307 dL_law_306 rfl rfl rfl ?_
  refine e_iload_n (i := 3) 308 dL_law_307 rfl rfl rfl ?_
  refine e_iconst 309 dL_law_308 rfl ?_
  refine e_iadd 310 dL_law_309 rfl ?_
  refine e_sald 311 dL_law_310 (by omega) (by omega) h2 rfl ?_
  refine e_callP 314 mt_yX12_feed mv_yX12_feed wd_1382 (Nat.le_of_ble_eq_true rfl) dL_law_311 at_928 jc_12 rfl rfl rfl (Nat.le_of_ble_eq_true rfl) ⟨by omega, by omega, by omega, by omega⟩ rfl hc (fun z2 M2 hc2 => ?_)
  obtain ⟨rfl, hI2⟩ := hc2
  refine e_w32 ?_
  refine e_w32b ?_
  exact e_icmp_eq 317 2160 dL_law_314 (w32_bnd _) (w32_bnd _) (by decide) rfl (fun _ => kk M2 hI2) (fun g => absurd rfl g)
theorem lc_1 {X : jX} {nm : String} {ret : Option FieldType} {R : Room} {QF : jQF} {cells slots : Nat} {M : jM} {i : Int} (hF : 68 ≤ R.frames) (hL : 7000 ≤ R.locals) (hC : cells ≤ R.cells) (hS : slots ≤ R.slots) (h2 : (X.2.2.2.2.1 : Int) < 100000) (h0 : 0 ≤ i) (h1 : i + 7 ≤ (X.2.2.2.2.1 : Int)) (hI : Inv M) (kk : ∀ M2 : jM, Inv M2 → gE X (yl nm) cL_law 4 ret R QF cells slots 949 topo M2 2160 (lwl i) []) : gE X (yl nm) cL_law 4 ret R QF cells slots 949 topo M 319 (lwl i) [] := by
  refine e_aload_n (i := 1) 320 dL_law_319 rfl rfl rfl ?_
  refine e_aloadF_n (i := 0) 321 dL_law_320 rfl rfl rfl ?_
  refine e_iload_n (i := 3) 322 dL_law_321 rfl rfl rfl ?_
  refine e_iconst 323 dL_law_322 rfl ?_
  refine e_iadd 324 dL_law_323 rfl ?_
  refine e_sald 325 dL_law_324 (by omega) (by omega) h2 rfl ?_
  refine e_aloadF_n (i := 0) 326 dL_law_325 rfl rfl rfl ?_
  refine e_iload_n (i := 3) 327 dL_law_326 rfl rfl rfl ?_
  refine e_iconst 328 dL_law_327 rfl ?_
  refine e_iadd 329 dL_law_328 rfl ?_
  refine e_sald 330 dL_law_329 (by omega) (by omega) h2 rfl ?_
  refine e_callP 333 mt_yX11_text mv_yX11_text wd_527 (Nat.le_of_ble_eq_true rfl) dL_law_330 at_0 jc_11 rfl rfl rfl (Nat.le_of_ble_eq_true rfl) ⟨by omega, by omega, by omega, by omega⟩ rfl (p_text hI (i32_bnd _) (i32_bnd _)) (fun z M1 hc => ?_)
  refine e_aload_n (i := 2) 334 dL_law_333 rfl rfl rfl ?_
  refine e_aloadF_n (i := 0) 335 dL_law_334 rfl rfl rfl ?_
  refine e_iload_n (i := 3) 336 dL_law_335 rfl rfl rfl ?_
  refine e_iconst 337 dL_law_336 rfl ?_
  refine e_iadd 338 dL_law_337 rfl ?_
  refine e_sald 339 dL_law_338 (by omega) (by omega) h2 rfl ?_
  refine e_aloadF_n (i := 0) 340 dL_law_339 rfl rfl rfl ?_
  refine e_iload_n (i := 3) 341 dL_law_340 rfl rfl rfl ?_
  refine e_iconst 342 dL_law_341 rfl ?_
  refine e_iadd 343 dL_law_342 rfl ?_
  refine e_sald 344 dL_law_343 (by omega) (by omega) h2 rfl ?_
  refine e_callP 347 mt_yX12_text mv_yX12_text wd_1386 (Nat.le_of_ble_eq_true rfl) dL_law_344 at_928 jc_12 rfl rfl rfl (Nat.le_of_ble_eq_true rfl) ⟨by omega, by omega, by omega, by omega⟩ rfl hc (fun z2 M2 hc2 => ?_)
  obtain ⟨rfl, hI2⟩ := hc2
  refine e_w32 ?_
  refine e_w32b ?_
  exact e_icmp_eq 350 2160 dL_law_347 (w32_bnd _) (w32_bnd _) (by decide) rfl (fun _ => kk M2 hI2) (fun g => absurd rfl g)
theorem lc_2 {X : jX} {nm : String} {ret : Option FieldType} {R : Room} {QF : jQF} {cells slots : Nat} {M : jM} {i : Int} (hF : 68 ≤ R.frames) (hL : 7000 ≤ R.locals) (hC : cells ≤ R.cells) (hS : slots ≤ R.slots) (h2 : (X.2.2.2.2.1 : Int) < 100000) (h0 : 0 ≤ i) (h1 : i + 7 ≤ (X.2.2.2.2.1 : Int)) (hI : Inv M) (kk : ∀ M2 : jM, Inv M2 → gE X (yl nm) cL_law 4 ret R QF cells slots 949 topo M2 2160 (lwl i) []) : gE X (yl nm) cL_law 4 ret R QF cells slots 949 topo M 352 (lwl i) [] := by
  refine e_aload_n (i := 1) 353 dL_law_352 rfl rfl rfl ?_
  refine e_aloadF_n (i := 0) 354 dL_law_353 rfl rfl rfl ?_
  refine e_iload_n (i := 3) 355 dL_law_354 rfl rfl rfl ?_
  refine e_iconst 356 dL_law_355 rfl ?_
  refine e_iadd 357 dL_law_356 rfl ?_
  refine e_sald 358 dL_law_357 (by omega) (by omega) h2 rfl ?_
  refine e_callP 361 mt_yX11_fault mv_yX11_fault wd_715 (Nat.le_of_ble_eq_true rfl) dL_law_358 at_0 jc_11 rfl rfl rfl (Nat.le_of_ble_eq_true rfl) ⟨by omega, by omega, by omega, by omega⟩ rfl (p_fault hI (i32_bnd _)) (fun z M1 hc => ?_)
  refine e_aload_n (i := 2) 362 dL_law_361 rfl rfl rfl ?_
  refine e_aloadF_n (i := 0) 363 dL_law_362 rfl rfl rfl ?_
  refine e_iload_n (i := 3) 364 dL_law_363 rfl rfl rfl ?_
  refine e_iconst 365 dL_law_364 rfl ?_
  refine e_iadd 366 dL_law_365 rfl ?_
  refine e_sald 367 dL_law_366 (by omega) (by omega) h2 rfl ?_
  refine e_callP 370 mt_yX12_fault mv_yX12_fault wd_1470 (Nat.le_of_ble_eq_true rfl) dL_law_367 at_928 jc_12 rfl rfl rfl (Nat.le_of_ble_eq_true rfl) ⟨by omega, by omega, by omega, by omega⟩ rfl hc (fun z2 M2 hc2 => ?_)
  obtain ⟨rfl, hI2⟩ := hc2
  refine e_w32 ?_
  refine e_w32b ?_
  exact e_icmp_eq 373 2160 dL_law_370 (w32_bnd _) (w32_bnd _) (by decide) rfl (fun _ => kk M2 hI2) (fun g => absurd rfl g)
theorem lc_3 {X : jX} {nm : String} {ret : Option FieldType} {R : Room} {QF : jQF} {cells slots : Nat} {M : jM} {i : Int} (hF : 68 ≤ R.frames) (hL : 7000 ≤ R.locals) (hC : cells ≤ R.cells) (hS : slots ≤ R.slots) (h2 : (X.2.2.2.2.1 : Int) < 100000) (h0 : 0 ≤ i) (h1 : i + 7 ≤ (X.2.2.2.2.1 : Int)) (hI : Inv M) (kk : ∀ M2 : jM, Inv M2 → gE X (yl nm) cL_law 4 ret R QF cells slots 949 topo M2 2160 (lwl i) []) : gE X (yl nm) cL_law 4 ret R QF cells slots 949 topo M 375 (lwl i) [] := by
  refine e_aload_n (i := 1) 376 dL_law_375 rfl rfl rfl ?_
  refine e_callP 379 mt_yX11_other mv_yX11_other wd_719 (Nat.le_of_ble_eq_true rfl) dL_law_376 at_0 jc_11 rfl rfl rfl (Nat.le_of_ble_eq_true rfl) ⟨by omega, by omega, by omega, by omega⟩ rfl (p_other hI) (fun z M1 hc => ?_)
  refine e_aload_n (i := 2) 380 dL_law_379 rfl rfl rfl ?_
  refine e_callP 383 mt_yX12_other mv_yX12_other wd_1474 (Nat.le_of_ble_eq_true rfl) dL_law_380 at_928 jc_12 rfl rfl rfl (Nat.le_of_ble_eq_true rfl) ⟨by omega, by omega, by omega, by omega⟩ rfl hc (fun z2 M2 hc2 => ?_)
  obtain ⟨rfl, hI2⟩ := hc2
  refine e_w32 ?_
  refine e_w32b ?_
  exact e_icmp_eq 386 2160 dL_law_383 (w32_bnd _) (w32_bnd _) (by decide) rfl (fun _ => kk M2 hI2) (fun g => absurd rfl g)
theorem lc_4 {X : jX} {nm : String} {ret : Option FieldType} {R : Room} {QF : jQF} {cells slots : Nat} {M : jM} {i : Int} (hF : 68 ≤ R.frames) (hL : 7000 ≤ R.locals) (hC : cells ≤ R.cells) (hS : slots ≤ R.slots) (h2 : (X.2.2.2.2.1 : Int) < 100000) (h0 : 0 ≤ i) (h1 : i + 7 ≤ (X.2.2.2.2.1 : Int)) (hI : Inv M) (kk : ∀ M2 : jM, Inv M2 → gE X (yl nm) cL_law 4 ret R QF cells slots 949 topo M2 2160 (lwl i) []) : gE X (yl nm) cL_law 4 ret R QF cells slots 949 topo M 388 (lwl i) [] := by
  refine e_aload_n (i := 1) 389 dL_law_388 rfl rfl rfl ?_
  refine e_aloadF_n (i := 0) 390 dL_law_389 rfl rfl rfl ?_
  refine e_iload_n (i := 3) 391 dL_law_390 rfl rfl rfl ?_
  refine e_iconst 392 dL_law_391 rfl ?_
  refine e_iadd 393 dL_law_392 rfl ?_
  refine e_sald 394 dL_law_393 (by omega) (by omega) h2 rfl ?_
  refine e_aloadF_n (i := 0) 395 dL_law_394 rfl rfl rfl ?_
  refine e_iload_n (i := 3) 396 dL_law_395 rfl rfl rfl ?_
  refine e_iconst 397 dL_law_396 rfl ?_
  refine e_iadd 398 dL_law_397 rfl ?_
  refine e_sald 399 dL_law_398 (by omega) (by omega) h2 rfl ?_
  refine e_aloadF_n (i := 0) 400 dL_law_399 rfl rfl rfl ?_
  refine e_iload_n (i := 3) 401 dL_law_400 rfl rfl rfl ?_
  refine e_iconst 402 dL_law_401 rfl ?_
  refine e_iadd 403 dL_law_402 rfl ?_
  refine e_sald 404 dL_law_403 (by omega) (by omega) h2 rfl ?_
  refine e_aloadF_n (i := 0) 405 dL_law_404 rfl rfl rfl ?_
  refine e_iload_n (i := 3) 406 dL_law_405 rfl rfl rfl ?_
  refine e_iconst 407 dL_law_406 rfl ?_
  refine e_iadd 408 dL_law_407 rfl ?_
  refine e_sald 409 dL_law_408 (by omega) (by omega) h2 rfl ?_
  refine e_callP 412 mt_yX11_interest mv_yX11_interest wd_723 (Nat.le_of_ble_eq_true rfl) dL_law_409 at_0 jc_11 rfl rfl rfl (Nat.le_of_ble_eq_true rfl) ⟨by omega, by omega, by omega, by omega⟩ rfl (p_interest hI (i32_bnd _) (i32_bnd _) (i32_bnd _) (i32_bnd _)) (fun z M1 hc => ?_)
  refine e_aload_n (i := 2) 413 dL_law_412 rfl rfl rfl ?_
  refine e_aloadF_n (i := 0) 414 dL_law_413 rfl rfl rfl ?_
  refine e_iload_n (i := 3) 415 dL_law_414 rfl rfl rfl ?_
  refine e_iconst 416 dL_law_415 rfl ?_
  refine e_iadd 417 dL_law_416 rfl ?_
  refine e_sald 418 dL_law_417 (by omega) (by omega) h2 rfl ?_
  refine e_aloadF_n (i := 0) 419 dL_law_418 rfl rfl rfl ?_
  refine e_iload_n (i := 3) 420 dL_law_419 rfl rfl rfl ?_
  refine e_iconst 421 dL_law_420 rfl ?_
  refine e_iadd 422 dL_law_421 rfl ?_
  refine e_sald 423 dL_law_422 (by omega) (by omega) h2 rfl ?_
  refine e_aloadF_n (i := 0) 424 dL_law_423 rfl rfl rfl ?_
  refine e_iload_n (i := 3) 425 dL_law_424 rfl rfl rfl ?_
  refine e_iconst 426 dL_law_425 rfl ?_
  refine e_iadd 427 dL_law_426 rfl ?_
  refine e_sald 428 dL_law_427 (by omega) (by omega) h2 rfl ?_
  refine e_aloadF_n (i := 0) 429 dL_law_428 rfl rfl rfl ?_
  refine e_iload_n (i := 3) 430 dL_law_429 rfl rfl rfl ?_
  refine e_iconst 431 dL_law_430 rfl ?_
  refine e_iadd 432 dL_law_431 rfl ?_
  refine e_sald 433 dL_law_432 (by omega) (by omega) h2 rfl ?_
  refine e_callP 436 mt_yX12_interest mv_yX12_interest wd_1478 (Nat.le_of_ble_eq_true rfl) dL_law_433 at_928 jc_12 rfl rfl rfl (Nat.le_of_ble_eq_true rfl) ⟨by omega, by omega, by omega, by omega⟩ rfl hc (fun z2 M2 hc2 => ?_)
  obtain ⟨rfl, hI2⟩ := hc2
  refine e_w32 ?_
  refine e_w32b ?_
  exact e_icmp_eq 439 2160 dL_law_436 (w32_bnd _) (w32_bnd _) (by decide) rfl (fun _ => kk M2 hI2) (fun g => absurd rfl g)
theorem lc_5 {X : jX} {nm : String} {ret : Option FieldType} {R : Room} {QF : jQF} {cells slots : Nat} {M : jM} {i : Int} (hF : 68 ≤ R.frames) (hL : 7000 ≤ R.locals) (hC : cells ≤ R.cells) (hS : slots ≤ R.slots) (h2 : (X.2.2.2.2.1 : Int) < 100000) (h0 : 0 ≤ i) (h1 : i + 7 ≤ (X.2.2.2.2.1 : Int)) (hI : Inv M) (kk : ∀ M2 : jM, Inv M2 → gE X (yl nm) cL_law 4 ret R QF cells slots 949 topo M2 2160 (lwl i) []) : gE X (yl nm) cL_law 4 ret R QF cells slots 949 topo M 441 (lwl i) [] := by
  refine e_aload_n (i := 1) 442 dL_law_441 rfl rfl rfl ?_
  refine e_aloadF_n (i := 0) 443 dL_law_442 rfl rfl rfl ?_
  refine e_iload_n (i := 3) 444 dL_law_443 rfl rfl rfl ?_
  refine e_iconst 445 dL_law_444 rfl ?_
  refine e_iadd 446 dL_law_445 rfl ?_
  refine e_sald 447 dL_law_446 (by omega) (by omega) h2 rfl ?_
  refine e_aloadF_n (i := 0) 448 dL_law_447 rfl rfl rfl ?_
  refine e_iload_n (i := 3) 449 dL_law_448 rfl rfl rfl ?_
  refine e_iconst 450 dL_law_449 rfl ?_
  refine e_iadd 451 dL_law_450 rfl ?_
  refine e_sald 452 dL_law_451 (by omega) (by omega) h2 rfl ?_
  refine e_aloadF_n (i := 0) 453 dL_law_452 rfl rfl rfl ?_
  refine e_iload_n (i := 3) 454 dL_law_453 rfl rfl rfl ?_
  refine e_iconst 455 dL_law_454 rfl ?_
  refine e_iadd 456 dL_law_455 rfl ?_
  refine e_sald 457 dL_law_456 (by omega) (by omega) h2 rfl ?_
  refine e_aloadF_n (i := 0) 458 dL_law_457 rfl rfl rfl ?_
  refine e_iload_n (i := 3) 459 dL_law_458 rfl rfl rfl ?_
  refine e_iconst 460 dL_law_459 rfl ?_
  refine e_iadd 461 dL_law_460 rfl ?_
  refine e_sald 462 dL_law_461 (by omega) (by omega) h2 rfl ?_
  refine e_aloadF_n (i := 0) 463 dL_law_462 rfl rfl rfl ?_
  refine e_iload_n (i := 3) 464 dL_law_463 rfl rfl rfl ?_
  refine e_iconst 465 dL_law_464 rfl ?_
  refine e_iadd 466 dL_law_465 rfl ?_
  refine e_sald 467 dL_law_466 (by omega) (by omega) h2 rfl ?_
  refine e_if_eq 470 474 dL_law_467 (i32_bnd _) (by decide) rfl (fun g0 => ?_) (fun g0 => ?_)
  · skip
    refine e_iconst 475 dL_law_474 rfl ?_
    refine e_callP 478 mt_yX11_kind mv_yX11_kind wd_749 (Nat.le_of_ble_eq_true rfl) dL_law_475 at_0 jc_11 rfl rfl rfl (Nat.le_of_ble_eq_true rfl) ⟨by omega, by omega, by omega, by omega⟩ rfl (p_kind hI (i32_bnd _) (i32_bnd _) (i32_bnd _) (i32_bnd _) (Or.inl rfl)) (fun z M1 hc => ?_)
    refine e_aload_n (i := 2) 479 dL_law_478 rfl rfl rfl ?_
    refine e_aloadF_n (i := 0) 480 dL_law_479 rfl rfl rfl ?_
    refine e_iload_n (i := 3) 481 dL_law_480 rfl rfl rfl ?_
    refine e_iconst 482 dL_law_481 rfl ?_
    refine e_iadd 483 dL_law_482 rfl ?_
    refine e_sald 484 dL_law_483 (by omega) (by omega) h2 rfl ?_
    refine e_aloadF_n (i := 0) 485 dL_law_484 rfl rfl rfl ?_
    refine e_iload_n (i := 3) 486 dL_law_485 rfl rfl rfl ?_
    refine e_iconst 487 dL_law_486 rfl ?_
    refine e_iadd 488 dL_law_487 rfl ?_
    refine e_sald 489 dL_law_488 (by omega) (by omega) h2 rfl ?_
    refine e_aloadF_n (i := 0) 490 dL_law_489 rfl rfl rfl ?_
    refine e_iload_n (i := 3) 491 dL_law_490 rfl rfl rfl ?_
    refine e_iconst 492 dL_law_491 rfl ?_
    refine e_iadd 493 dL_law_492 rfl ?_
    refine e_sald 494 dL_law_493 (by omega) (by omega) h2 rfl ?_
    refine e_aloadF_n (i := 0) 495 dL_law_494 rfl rfl rfl ?_
    refine e_iload_n (i := 3) 496 dL_law_495 rfl rfl rfl ?_
    refine e_iconst 497 dL_law_496 rfl ?_
    refine e_iadd 498 dL_law_497 rfl ?_
    refine e_sald 499 dL_law_498 (by omega) (by omega) h2 rfl ?_
    refine e_aloadF_n (i := 0) 500 dL_law_499 rfl rfl rfl ?_
    refine e_iload_n (i := 3) 501 dL_law_500 rfl rfl rfl ?_
    refine e_iconst 502 dL_law_501 rfl ?_
    refine e_iadd 503 dL_law_502 rfl ?_
    refine e_sald 504 dL_law_503 (by omega) (by omega) h2 rfl ?_
    refine e_if_eq 507 511 dL_law_504 (i32_bnd _) (by decide) rfl (fun _ => ?_) (fun g => absurd g0 g)
    refine e_iconst 512 dL_law_511 rfl ?_
    refine e_callP 515 mt_yX12_kind mv_yX12_kind wd_1491 (Nat.le_of_ble_eq_true rfl) dL_law_512 at_928 jc_12 rfl rfl rfl (Nat.le_of_ble_eq_true rfl) ⟨by omega, by omega, by omega, by omega⟩ rfl hc (fun z2 M2 hc2 => ?_)
    obtain ⟨rfl, hI2⟩ := hc2
    refine e_w32 ?_
    refine e_w32b ?_
    exact e_icmp_eq 518 2160 dL_law_515 (w32_bnd _) (w32_bnd _) (by decide) rfl (fun _ => kk M2 hI2) (fun g => absurd rfl g)
  · skip
    refine e_iconst 471 dL_law_470 rfl ?_
    refine e_goto 475 dL_law_471 (by decide) ?_
    refine e_callP 478 mt_yX11_kind mv_yX11_kind wd_749 (Nat.le_of_ble_eq_true rfl) dL_law_475 at_0 jc_11 rfl rfl rfl (Nat.le_of_ble_eq_true rfl) ⟨by omega, by omega, by omega, by omega⟩ rfl (p_kind hI (i32_bnd _) (i32_bnd _) (i32_bnd _) (i32_bnd _) (Or.inr rfl)) (fun z M1 hc => ?_)
    refine e_aload_n (i := 2) 479 dL_law_478 rfl rfl rfl ?_
    refine e_aloadF_n (i := 0) 480 dL_law_479 rfl rfl rfl ?_
    refine e_iload_n (i := 3) 481 dL_law_480 rfl rfl rfl ?_
    refine e_iconst 482 dL_law_481 rfl ?_
    refine e_iadd 483 dL_law_482 rfl ?_
    refine e_sald 484 dL_law_483 (by omega) (by omega) h2 rfl ?_
    refine e_aloadF_n (i := 0) 485 dL_law_484 rfl rfl rfl ?_
    refine e_iload_n (i := 3) 486 dL_law_485 rfl rfl rfl ?_
    refine e_iconst 487 dL_law_486 rfl ?_
    refine e_iadd 488 dL_law_487 rfl ?_
    refine e_sald 489 dL_law_488 (by omega) (by omega) h2 rfl ?_
    refine e_aloadF_n (i := 0) 490 dL_law_489 rfl rfl rfl ?_
    refine e_iload_n (i := 3) 491 dL_law_490 rfl rfl rfl ?_
    refine e_iconst 492 dL_law_491 rfl ?_
    refine e_iadd 493 dL_law_492 rfl ?_
    refine e_sald 494 dL_law_493 (by omega) (by omega) h2 rfl ?_
    refine e_aloadF_n (i := 0) 495 dL_law_494 rfl rfl rfl ?_
    refine e_iload_n (i := 3) 496 dL_law_495 rfl rfl rfl ?_
    refine e_iconst 497 dL_law_496 rfl ?_
    refine e_iadd 498 dL_law_497 rfl ?_
    refine e_sald 499 dL_law_498 (by omega) (by omega) h2 rfl ?_
    refine e_aloadF_n (i := 0) 500 dL_law_499 rfl rfl rfl ?_
    refine e_iload_n (i := 3) 501 dL_law_500 rfl rfl rfl ?_
    refine e_iconst 502 dL_law_501 rfl ?_
    refine e_iadd 503 dL_law_502 rfl ?_
    refine e_sald 504 dL_law_503 (by omega) (by omega) h2 rfl ?_
    refine e_if_eq 507 511 dL_law_504 (i32_bnd _) (by decide) rfl (fun g => absurd g g0) (fun _ => ?_)
    refine e_iconst 508 dL_law_507 rfl ?_
    refine e_goto 512 dL_law_508 (by decide) ?_
    refine e_callP 515 mt_yX12_kind mv_yX12_kind wd_1491 (Nat.le_of_ble_eq_true rfl) dL_law_512 at_928 jc_12 rfl rfl rfl (Nat.le_of_ble_eq_true rfl) ⟨by omega, by omega, by omega, by omega⟩ rfl hc (fun z2 M2 hc2 => ?_)
    obtain ⟨rfl, hI2⟩ := hc2
    refine e_w32 ?_
    refine e_w32b ?_
    exact e_icmp_eq 518 2160 dL_law_515 (w32_bnd _) (w32_bnd _) (by decide) rfl (fun _ => kk M2 hI2) (fun g => absurd rfl g)
theorem lc_6 {X : jX} {nm : String} {ret : Option FieldType} {R : Room} {QF : jQF} {cells slots : Nat} {M : jM} {i : Int} (hF : 68 ≤ R.frames) (hL : 7000 ≤ R.locals) (hC : cells ≤ R.cells) (hS : slots ≤ R.slots) (h2 : (X.2.2.2.2.1 : Int) < 100000) (h0 : 0 ≤ i) (h1 : i + 7 ≤ (X.2.2.2.2.1 : Int)) (hI : Inv M) (kk : ∀ M2 : jM, Inv M2 → gE X (yl nm) cL_law 4 ret R QF cells slots 949 topo M2 2160 (lwl i) []) : gE X (yl nm) cL_law 4 ret R QF cells slots 949 topo M 520 (lwl i) [] := by
  refine e_aload_n (i := 1) 521 dL_law_520 rfl rfl rfl ?_
  refine e_aloadF_n (i := 0) 522 dL_law_521 rfl rfl rfl ?_
  refine e_iload_n (i := 3) 523 dL_law_522 rfl rfl rfl ?_
  refine e_iconst 524 dL_law_523 rfl ?_
  refine e_iadd 525 dL_law_524 rfl ?_
  refine e_sald 526 dL_law_525 (by omega) (by omega) h2 rfl ?_
  refine e_aloadF_n (i := 0) 527 dL_law_526 rfl rfl rfl ?_
  refine e_iload_n (i := 3) 528 dL_law_527 rfl rfl rfl ?_
  refine e_iconst 529 dL_law_528 rfl ?_
  refine e_iadd 530 dL_law_529 rfl ?_
  refine e_sald 531 dL_law_530 (by omega) (by omega) h2 rfl ?_
  refine e_aloadF_n (i := 0) 532 dL_law_531 rfl rfl rfl ?_
  refine e_iload_n (i := 3) 533 dL_law_532 rfl rfl rfl ?_
  refine e_iconst 534 dL_law_533 rfl ?_
  refine e_iadd 535 dL_law_534 rfl ?_
  refine e_sald 536 dL_law_535 (by omega) (by omega) h2 rfl ?_
  refine e_aloadF_n (i := 0) 537 dL_law_536 rfl rfl rfl ?_
  refine e_iload_n (i := 3) 538 dL_law_537 rfl rfl rfl ?_
  refine e_iconst 539 dL_law_538 rfl ?_
  refine e_iadd 540 dL_law_539 rfl ?_
  refine e_sald 541 dL_law_540 (by omega) (by omega) h2 rfl ?_
  refine e_callP 544 mt_yX11_person mv_yX11_person wd_753 (Nat.le_of_ble_eq_true rfl) dL_law_541 at_0 jc_11 rfl rfl rfl (Nat.le_of_ble_eq_true rfl) ⟨by omega, by omega, by omega, by omega⟩ rfl (p_person hI (i32_bnd _) (i32_bnd _) (i32_bnd _) (i32_bnd _)) (fun z M1 hc => ?_)
  refine e_aload_n (i := 2) 545 dL_law_544 rfl rfl rfl ?_
  refine e_aloadF_n (i := 0) 546 dL_law_545 rfl rfl rfl ?_
  refine e_iload_n (i := 3) 547 dL_law_546 rfl rfl rfl ?_
  refine e_iconst 548 dL_law_547 rfl ?_
  refine e_iadd 549 dL_law_548 rfl ?_
  refine e_sald 550 dL_law_549 (by omega) (by omega) h2 rfl ?_
  refine e_aloadF_n (i := 0) 551 dL_law_550 rfl rfl rfl ?_
  refine e_iload_n (i := 3) 552 dL_law_551 rfl rfl rfl ?_
  refine e_iconst 553 dL_law_552 rfl ?_
  refine e_iadd 554 dL_law_553 rfl ?_
  refine e_sald 555 dL_law_554 (by omega) (by omega) h2 rfl ?_
  refine e_aloadF_n (i := 0) 556 dL_law_555 rfl rfl rfl ?_
  refine e_iload_n (i := 3) 557 dL_law_556 rfl rfl rfl ?_
  refine e_iconst 558 dL_law_557 rfl ?_
  refine e_iadd 559 dL_law_558 rfl ?_
  refine e_sald 560 dL_law_559 (by omega) (by omega) h2 rfl ?_
  refine e_aloadF_n (i := 0) 561 dL_law_560 rfl rfl rfl ?_
  refine e_iload_n (i := 3) 562 dL_law_561 rfl rfl rfl ?_
  refine e_iconst 563 dL_law_562 rfl ?_
  refine e_iadd 564 dL_law_563 rfl ?_
  refine e_sald 565 dL_law_564 (by omega) (by omega) h2 rfl ?_
  refine e_callP 568 mt_yX12_person mv_yX12_person wd_1497 (Nat.le_of_ble_eq_true rfl) dL_law_565 at_928 jc_12 rfl rfl rfl (Nat.le_of_ble_eq_true rfl) ⟨by omega, by omega, by omega, by omega⟩ rfl hc (fun z2 M2 hc2 => ?_)
  obtain ⟨rfl, hI2⟩ := hc2
  refine e_w32 ?_
  refine e_w32b ?_
  exact e_icmp_eq 571 2160 dL_law_568 (w32_bnd _) (w32_bnd _) (by decide) rfl (fun _ => kk M2 hI2) (fun g => absurd rfl g)
theorem lc_7 {X : jX} {nm : String} {ret : Option FieldType} {R : Room} {QF : jQF} {cells slots : Nat} {M : jM} {i : Int} (hF : 68 ≤ R.frames) (hL : 7000 ≤ R.locals) (hC : cells ≤ R.cells) (hS : slots ≤ R.slots) (h2 : (X.2.2.2.2.1 : Int) < 100000) (h0 : 0 ≤ i) (h1 : i + 7 ≤ (X.2.2.2.2.1 : Int)) (hI : Inv M) (kk : ∀ M2 : jM, Inv M2 → gE X (yl nm) cL_law 4 ret R QF cells slots 949 topo M2 2160 (lwl i) []) : gE X (yl nm) cL_law 4 ret R QF cells slots 949 topo M 573 (lwl i) [] := by
  refine e_aload_n (i := 1) 574 dL_law_573 rfl rfl rfl ?_
  refine e_aloadF_n (i := 0) 575 dL_law_574 rfl rfl rfl ?_
  refine e_iload_n (i := 3) 576 dL_law_575 rfl rfl rfl ?_
  refine e_iconst 577 dL_law_576 rfl ?_
  refine e_iadd 578 dL_law_577 rfl ?_
  refine e_sald 579 dL_law_578 (by omega) (by omega) h2 rfl ?_
  refine e_callP 582 mt_yX11_purse mv_yX11_purse wd_757 (Nat.le_of_ble_eq_true rfl) dL_law_579 at_0 jc_11 rfl rfl rfl (Nat.le_of_ble_eq_true rfl) ⟨by omega, by omega, by omega, by omega⟩ rfl (p_purse hI (i32_bnd _)) (fun z M1 hc => ?_)
  refine e_aload_n (i := 2) 583 dL_law_582 rfl rfl rfl ?_
  refine e_aloadF_n (i := 0) 584 dL_law_583 rfl rfl rfl ?_
  refine e_iload_n (i := 3) 585 dL_law_584 rfl rfl rfl ?_
  refine e_iconst 586 dL_law_585 rfl ?_
  refine e_iadd 587 dL_law_586 rfl ?_
  refine e_sald 588 dL_law_587 (by omega) (by omega) h2 rfl ?_
  refine e_callP 591 mt_yX12_purse mv_yX12_purse wd_1502 (Nat.le_of_ble_eq_true rfl) dL_law_588 at_928 jc_12 rfl rfl rfl (Nat.le_of_ble_eq_true rfl) ⟨by omega, by omega, by omega, by omega⟩ rfl hc (fun z2 M2 hc2 => ?_)
  obtain ⟨rfl, hI2⟩ := hc2
  refine e_w32 ?_
  refine e_w32b ?_
  exact e_icmp_eq 594 2160 dL_law_591 (w32_bnd _) (w32_bnd _) (by decide) rfl (fun _ => kk M2 hI2) (fun g => absurd rfl g)
theorem lc_8 {X : jX} {nm : String} {ret : Option FieldType} {R : Room} {QF : jQF} {cells slots : Nat} {M : jM} {i : Int} (hF : 68 ≤ R.frames) (hL : 7000 ≤ R.locals) (hC : cells ≤ R.cells) (hS : slots ≤ R.slots) (h2 : (X.2.2.2.2.1 : Int) < 100000) (h0 : 0 ≤ i) (h1 : i + 7 ≤ (X.2.2.2.2.1 : Int)) (hI : Inv M) (kk : ∀ M2 : jM, Inv M2 → gE X (yl nm) cL_law 4 ret R QF cells slots 949 topo M2 2160 (lwl i) []) : gE X (yl nm) cL_law 4 ret R QF cells slots 949 topo M 596 (lwl i) [] := by
  refine e_aload_n (i := 1) 597 dL_law_596 rfl rfl rfl ?_
  refine e_aloadF_n (i := 0) 598 dL_law_597 rfl rfl rfl ?_
  refine e_iload_n (i := 3) 599 dL_law_598 rfl rfl rfl ?_
  refine e_iconst 600 dL_law_599 rfl ?_
  refine e_iadd 601 dL_law_600 rfl ?_
  refine e_sald 602 dL_law_601 (by omega) (by omega) h2 rfl ?_
  refine e_callP 605 mt_yX11_weeks mv_yX11_weeks wd_766 (Nat.le_of_ble_eq_true rfl) dL_law_602 at_0 jc_11 rfl rfl rfl (Nat.le_of_ble_eq_true rfl) ⟨by omega, by omega, by omega, by omega⟩ rfl (p_weeks hI (i32_bnd _)) (fun z M1 hc => ?_)
  refine e_aload_n (i := 2) 606 dL_law_605 rfl rfl rfl ?_
  refine e_aloadF_n (i := 0) 607 dL_law_606 rfl rfl rfl ?_
  refine e_iload_n (i := 3) 608 dL_law_607 rfl rfl rfl ?_
  refine e_iconst 609 dL_law_608 rfl ?_
  refine e_iadd 610 dL_law_609 rfl ?_
  refine e_sald 611 dL_law_610 (by omega) (by omega) h2 rfl ?_
  refine e_callP 614 mt_yX12_weeks mv_yX12_weeks wd_1511 (Nat.le_of_ble_eq_true rfl) dL_law_611 at_928 jc_12 rfl rfl rfl (Nat.le_of_ble_eq_true rfl) ⟨by omega, by omega, by omega, by omega⟩ rfl hc (fun z2 M2 hc2 => ?_)
  obtain ⟨rfl, hI2⟩ := hc2
  refine e_w32 ?_
  refine e_w32b ?_
  exact e_icmp_eq 617 2160 dL_law_614 (w32_bnd _) (w32_bnd _) (by decide) rfl (fun _ => kk M2 hI2) (fun g => absurd rfl g)
theorem lc_9 {X : jX} {nm : String} {ret : Option FieldType} {R : Room} {QF : jQF} {cells slots : Nat} {M : jM} {i : Int} (hF : 68 ≤ R.frames) (hL : 7000 ≤ R.locals) (hC : cells ≤ R.cells) (hS : slots ≤ R.slots) (h2 : (X.2.2.2.2.1 : Int) < 100000) (h0 : 0 ≤ i) (h1 : i + 7 ≤ (X.2.2.2.2.1 : Int)) (hI : Inv M) (kk : ∀ M2 : jM, Inv M2 → gE X (yl nm) cL_law 4 ret R QF cells slots 949 topo M2 2160 (lwl i) []) : gE X (yl nm) cL_law 4 ret R QF cells slots 949 topo M 619 (lwl i) [] := by
  refine e_aload_n (i := 1) 620 dL_law_619 rfl rfl rfl ?_
  refine e_aloadF_n (i := 0) 621 dL_law_620 rfl rfl rfl ?_
  refine e_iload_n (i := 3) 622 dL_law_621 rfl rfl rfl ?_
  refine e_iconst 623 dL_law_622 rfl ?_
  refine e_iadd 624 dL_law_623 rfl ?_
  refine e_sald 625 dL_law_624 (by omega) (by omega) h2 rfl ?_
  refine e_aloadF_n (i := 0) 626 dL_law_625 rfl rfl rfl ?_
  refine e_iload_n (i := 3) 627 dL_law_626 rfl rfl rfl ?_
  refine e_iconst 628 dL_law_627 rfl ?_
  refine e_iadd 629 dL_law_628 rfl ?_
  refine e_sald 630 dL_law_629 (by omega) (by omega) h2 rfl ?_
  refine e_aloadF_n (i := 0) 631 dL_law_630 rfl rfl rfl ?_
  refine e_iload_n (i := 3) 632 dL_law_631 rfl rfl rfl ?_
  refine e_iconst 633 dL_law_632 rfl ?_
  refine e_iadd 634 dL_law_633 rfl ?_
  refine e_sald 635 dL_law_634 (by omega) (by omega) h2 rfl ?_
  refine e_callP 638 mt_yX11_pledge mv_yX11_pledge wd_770 (Nat.le_of_ble_eq_true rfl) dL_law_635 at_0 jc_11 rfl rfl rfl (Nat.le_of_ble_eq_true rfl) ⟨by omega, by omega, by omega, by omega⟩ rfl (p_pledge hI (i32_bnd _) (i32_bnd _) (i32_bnd _)) (fun z M1 hc => ?_)
  refine e_aload_n (i := 2) 639 dL_law_638 rfl rfl rfl ?_
  refine e_aloadF_n (i := 0) 640 dL_law_639 rfl rfl rfl ?_
  refine e_iload_n (i := 3) 641 dL_law_640 rfl rfl rfl ?_
  refine e_iconst 642 dL_law_641 rfl ?_
  refine e_iadd 643 dL_law_642 rfl ?_
  refine e_sald 644 dL_law_643 (by omega) (by omega) h2 rfl ?_
  refine e_aloadF_n (i := 0) 645 dL_law_644 rfl rfl rfl ?_
  refine e_iload_n (i := 3) 646 dL_law_645 rfl rfl rfl ?_
  refine e_iconst 647 dL_law_646 rfl ?_
  refine e_iadd 648 dL_law_647 rfl ?_
  refine e_sald 649 dL_law_648 (by omega) (by omega) h2 rfl ?_
  refine e_aloadF_n (i := 0) 650 dL_law_649 rfl rfl rfl ?_
  refine e_iload_n (i := 3) 651 dL_law_650 rfl rfl rfl ?_
  refine e_iconst 652 dL_law_651 rfl ?_
  refine e_iadd 653 dL_law_652 rfl ?_
  refine e_sald 654 dL_law_653 (by omega) (by omega) h2 rfl ?_
  refine e_callP 657 mt_yX12_pledge mv_yX12_pledge wd_1516 (Nat.le_of_ble_eq_true rfl) dL_law_654 at_928 jc_12 rfl rfl rfl (Nat.le_of_ble_eq_true rfl) ⟨by omega, by omega, by omega, by omega⟩ rfl hc (fun z2 M2 hc2 => ?_)
  obtain ⟨rfl, hI2⟩ := hc2
  refine e_w32 ?_
  refine e_w32b ?_
  exact e_icmp_eq 660 2160 dL_law_657 (w32_bnd _) (w32_bnd _) (by decide) rfl (fun _ => kk M2 hI2) (fun g => absurd rfl g)
theorem lc_10 {X : jX} {nm : String} {ret : Option FieldType} {R : Room} {QF : jQF} {cells slots : Nat} {M : jM} {i : Int} (hF : 68 ≤ R.frames) (hL : 7000 ≤ R.locals) (hC : cells ≤ R.cells) (hS : slots ≤ R.slots) (h2 : (X.2.2.2.2.1 : Int) < 100000) (h0 : 0 ≤ i) (h1 : i + 7 ≤ (X.2.2.2.2.1 : Int)) (hI : Inv M) (kk : ∀ M2 : jM, Inv M2 → gE X (yl nm) cL_law 4 ret R QF cells slots 949 topo M2 2160 (lwl i) []) : gE X (yl nm) cL_law 4 ret R QF cells slots 949 topo M 662 (lwl i) [] := by
  refine e_aload_n (i := 1) 663 dL_law_662 rfl rfl rfl ?_
  refine e_aloadF_n (i := 0) 664 dL_law_663 rfl rfl rfl ?_
  refine e_iload_n (i := 3) 665 dL_law_664 rfl rfl rfl ?_
  refine e_iconst 666 dL_law_665 rfl ?_
  refine e_iadd 667 dL_law_666 rfl ?_
  refine e_sald 668 dL_law_667 (by omega) (by omega) h2 rfl ?_
  refine e_callP 671 mt_yX11_ticket mv_yX11_ticket wd_800 (Nat.le_of_ble_eq_true rfl) dL_law_668 at_0 jc_11 rfl rfl rfl (Nat.le_of_ble_eq_true rfl) ⟨by omega, by omega, by omega, by omega⟩ rfl (p_ticket hI (i32_bnd _)) (fun z M1 hc => ?_)
  refine e_aload_n (i := 2) 672 dL_law_671 rfl rfl rfl ?_
  refine e_aloadF_n (i := 0) 673 dL_law_672 rfl rfl rfl ?_
  refine e_iload_n (i := 3) 674 dL_law_673 rfl rfl rfl ?_
  refine e_iconst 675 dL_law_674 rfl ?_
  refine e_iadd 676 dL_law_675 rfl ?_
  refine e_sald 677 dL_law_676 (by omega) (by omega) h2 rfl ?_
  refine e_callP 680 mt_yX12_ticket mv_yX12_ticket wd_1531 (Nat.le_of_ble_eq_true rfl) dL_law_677 at_928 jc_12 rfl rfl rfl (Nat.le_of_ble_eq_true rfl) ⟨by omega, by omega, by omega, by omega⟩ rfl hc (fun z2 M2 hc2 => ?_)
  obtain ⟨rfl, hI2⟩ := hc2
  refine e_w32 ?_
  refine e_w32b ?_
  exact e_icmp_eq 683 2160 dL_law_680 (w32_bnd _) (w32_bnd _) (by decide) rfl (fun _ => kk M2 hI2) (fun g => absurd rfl g)
theorem lc_11 {X : jX} {nm : String} {ret : Option FieldType} {R : Room} {QF : jQF} {cells slots : Nat} {M : jM} {i : Int} (hF : 68 ≤ R.frames) (hL : 7000 ≤ R.locals) (hC : cells ≤ R.cells) (hS : slots ≤ R.slots) (h2 : (X.2.2.2.2.1 : Int) < 100000) (h0 : 0 ≤ i) (h1 : i + 7 ≤ (X.2.2.2.2.1 : Int)) (hI : Inv M) (kk : ∀ M2 : jM, Inv M2 → gE X (yl nm) cL_law 4 ret R QF cells slots 949 topo M2 2160 (lwl i) []) : gE X (yl nm) cL_law 4 ret R QF cells slots 949 topo M 685 (lwl i) [] := by
  refine e_aload_n (i := 1) 686 dL_law_685 rfl rfl rfl ?_
  refine e_aloadF_n (i := 0) 687 dL_law_686 rfl rfl rfl ?_
  refine e_iload_n (i := 3) 688 dL_law_687 rfl rfl rfl ?_
  refine e_iconst 689 dL_law_688 rfl ?_
  refine e_iadd 690 dL_law_689 rfl ?_
  refine e_sald 691 dL_law_690 (by omega) (by omega) h2 rfl ?_
  refine e_aloadF_n (i := 0) 692 dL_law_691 rfl rfl rfl ?_
  refine e_iload_n (i := 3) 693 dL_law_692 rfl rfl rfl ?_
  refine e_iconst 694 dL_law_693 rfl ?_
  refine e_iadd 695 dL_law_694 rfl ?_
  refine e_sald 696 dL_law_695 (by omega) (by omega) h2 rfl ?_
  refine e_callP 699 mt_yX11_held mv_yX11_held wd_808 (Nat.le_of_ble_eq_true rfl) dL_law_696 at_0 jc_11 rfl rfl rfl (Nat.le_of_ble_eq_true rfl) ⟨by omega, by omega, by omega, by omega⟩ rfl (p_held hI (i32_bnd _) (i32_bnd _)) (fun z M1 hc => ?_)
  refine e_aload_n (i := 2) 700 dL_law_699 rfl rfl rfl ?_
  refine e_aloadF_n (i := 0) 701 dL_law_700 rfl rfl rfl ?_
  refine e_iload_n (i := 3) 702 dL_law_701 rfl rfl rfl ?_
  refine e_iconst 703 dL_law_702 rfl ?_
  refine e_iadd 704 dL_law_703 rfl ?_
  refine e_sald 705 dL_law_704 (by omega) (by omega) h2 rfl ?_
  refine e_aloadF_n (i := 0) 706 dL_law_705 rfl rfl rfl ?_
  refine e_iload_n (i := 3) 707 dL_law_706 rfl rfl rfl ?_
  refine e_iconst 708 dL_law_707 rfl ?_
  refine e_iadd 709 dL_law_708 rfl ?_
  refine e_sald 710 dL_law_709 (by omega) (by omega) h2 rfl ?_
  refine e_callP 713 mt_yX12_held mv_yX12_held wd_1542 (Nat.le_of_ble_eq_true rfl) dL_law_710 at_928 jc_12 rfl rfl rfl (Nat.le_of_ble_eq_true rfl) ⟨by omega, by omega, by omega, by omega⟩ rfl hc (fun z2 M2 hc2 => ?_)
  obtain ⟨rfl, hI2⟩ := hc2
  refine e_w32 ?_
  refine e_w32b ?_
  exact e_icmp_eq 716 2160 dL_law_713 (w32_bnd _) (w32_bnd _) (by decide) rfl (fun _ => kk M2 hI2) (fun g => absurd rfl g)
theorem lc_12 {X : jX} {nm : String} {ret : Option FieldType} {R : Room} {QF : jQF} {cells slots : Nat} {M : jM} {i : Int} (hF : 68 ≤ R.frames) (hL : 7000 ≤ R.locals) (hC : cells ≤ R.cells) (hS : slots ≤ R.slots) (h2 : (X.2.2.2.2.1 : Int) < 100000) (h0 : 0 ≤ i) (h1 : i + 7 ≤ (X.2.2.2.2.1 : Int)) (hI : Inv M) (kk : ∀ M2 : jM, Inv M2 → gE X (yl nm) cL_law 4 ret R QF cells slots 949 topo M2 2160 (lwl i) []) : gE X (yl nm) cL_law 4 ret R QF cells slots 949 topo M 718 (lwl i) [] := by
  refine e_aload_n (i := 1) 719 dL_law_718 rfl rfl rfl ?_
  refine e_aloadF_n (i := 0) 720 dL_law_719 rfl rfl rfl ?_
  refine e_iload_n (i := 3) 721 dL_law_720 rfl rfl rfl ?_
  refine e_iconst 722 dL_law_721 rfl ?_
  refine e_iadd 723 dL_law_722 rfl ?_
  refine e_sald 724 dL_law_723 (by omega) (by omega) h2 rfl ?_
  refine e_callP 727 mt_yX11_fetch mv_yX11_fetch wd_827 (Nat.le_of_ble_eq_true rfl) dL_law_724 at_0 jc_11 rfl rfl rfl (Nat.le_of_ble_eq_true rfl) ⟨by omega, by omega, by omega, by omega⟩ rfl (p_fetch hI (i32_bnd _)) (fun z M1 hc => ?_)
  refine e_aload_n (i := 2) 728 dL_law_727 rfl rfl rfl ?_
  refine e_aloadF_n (i := 0) 729 dL_law_728 rfl rfl rfl ?_
  refine e_iload_n (i := 3) 730 dL_law_729 rfl rfl rfl ?_
  refine e_iconst 731 dL_law_730 rfl ?_
  refine e_iadd 732 dL_law_731 rfl ?_
  refine e_sald 733 dL_law_732 (by omega) (by omega) h2 rfl ?_
  refine e_callP 736 mt_yX12_fetch mv_yX12_fetch wd_1555 (Nat.le_of_ble_eq_true rfl) dL_law_733 at_928 jc_12 rfl rfl rfl (Nat.le_of_ble_eq_true rfl) ⟨by omega, by omega, by omega, by omega⟩ rfl hc (fun z2 M2 hc2 => ?_)
  obtain ⟨rfl, hI2⟩ := hc2
  refine e_w32 ?_
  refine e_w32b ?_
  exact e_icmp_eq 739 2160 dL_law_736 (w32_bnd _) (w32_bnd _) (by decide) rfl (fun _ => kk M2 hI2) (fun g => absurd rfl g)
theorem lc_13 {X : jX} {nm : String} {ret : Option FieldType} {R : Room} {QF : jQF} {cells slots : Nat} {M : jM} {i : Int} (hF : 68 ≤ R.frames) (hL : 7000 ≤ R.locals) (hC : cells ≤ R.cells) (hS : slots ≤ R.slots) (h2 : (X.2.2.2.2.1 : Int) < 100000) (h0 : 0 ≤ i) (h1 : i + 7 ≤ (X.2.2.2.2.1 : Int)) (hI : Inv M) (kk : ∀ M2 : jM, Inv M2 → gE X (yl nm) cL_law 4 ret R QF cells slots 949 topo M2 2160 (lwl i) []) : gE X (yl nm) cL_law 4 ret R QF cells slots 949 topo M 741 (lwl i) [] := by
  refine e_aload_n (i := 1) 742 dL_law_741 rfl rfl rfl ?_
  refine e_aloadF_n (i := 0) 743 dL_law_742 rfl rfl rfl ?_
  refine e_iload_n (i := 3) 744 dL_law_743 rfl rfl rfl ?_
  refine e_iconst 745 dL_law_744 rfl ?_
  refine e_iadd 746 dL_law_745 rfl ?_
  refine e_sald 747 dL_law_746 (by omega) (by omega) h2 rfl ?_
  refine e_callP 750 mt_yX11_renew mv_yX11_renew wd_845 (Nat.le_of_ble_eq_true rfl) dL_law_747 at_0 jc_11 rfl rfl rfl (Nat.le_of_ble_eq_true rfl) ⟨by omega, by omega, by omega, by omega⟩ rfl (p_renew hI (i32_bnd _)) (fun z M1 hc => ?_)
  refine e_aload_n (i := 2) 751 dL_law_750 rfl rfl rfl ?_
  refine e_aloadF_n (i := 0) 752 dL_law_751 rfl rfl rfl ?_
  refine e_iload_n (i := 3) 753 dL_law_752 rfl rfl rfl ?_
  refine e_iconst 754 dL_law_753 rfl ?_
  refine e_iadd 755 dL_law_754 rfl ?_
  refine e_sald 756 dL_law_755 (by omega) (by omega) h2 rfl ?_
  refine e_callP 759 mt_yX12_renew mv_yX12_renew wd_1571 (Nat.le_of_ble_eq_true rfl) dL_law_756 at_928 jc_12 rfl rfl rfl (Nat.le_of_ble_eq_true rfl) ⟨by omega, by omega, by omega, by omega⟩ rfl hc (fun z2 M2 hc2 => ?_)
  obtain ⟨rfl, hI2⟩ := hc2
  refine e_w32 ?_
  refine e_w32b ?_
  exact e_icmp_eq 762 2160 dL_law_759 (w32_bnd _) (w32_bnd _) (by decide) rfl (fun _ => kk M2 hI2) (fun g => absurd rfl g)
theorem lc_14 {X : jX} {nm : String} {ret : Option FieldType} {R : Room} {QF : jQF} {cells slots : Nat} {M : jM} {i : Int} (hF : 68 ≤ R.frames) (hL : 7000 ≤ R.locals) (hC : cells ≤ R.cells) (hS : slots ≤ R.slots) (h2 : (X.2.2.2.2.1 : Int) < 100000) (h0 : 0 ≤ i) (h1 : i + 7 ≤ (X.2.2.2.2.1 : Int)) (hI : Inv M) (kk : ∀ M2 : jM, Inv M2 → gE X (yl nm) cL_law 4 ret R QF cells slots 949 topo M2 2160 (lwl i) []) : gE X (yl nm) cL_law 4 ret R QF cells slots 949 topo M 764 (lwl i) [] := by
  refine e_aload_n (i := 1) 765 dL_law_764 rfl rfl rfl ?_
  refine e_aloadF_n (i := 0) 766 dL_law_765 rfl rfl rfl ?_
  refine e_iload_n (i := 3) 767 dL_law_766 rfl rfl rfl ?_
  refine e_iconst 768 dL_law_767 rfl ?_
  refine e_iadd 769 dL_law_768 rfl ?_
  refine e_sald 770 dL_law_769 (by omega) (by omega) h2 rfl ?_
  refine e_callP 773 mt_yX11_swear mv_yX11_swear wd_850 (Nat.le_of_ble_eq_true rfl) dL_law_770 at_0 jc_11 rfl rfl rfl (Nat.le_of_ble_eq_true rfl) ⟨by omega, by omega, by omega, by omega⟩ rfl (p_swear hI (i32_bnd _)) (fun z M1 hc => ?_)
  refine e_aload_n (i := 2) 774 dL_law_773 rfl rfl rfl ?_
  refine e_aloadF_n (i := 0) 775 dL_law_774 rfl rfl rfl ?_
  refine e_iload_n (i := 3) 776 dL_law_775 rfl rfl rfl ?_
  refine e_iconst 777 dL_law_776 rfl ?_
  refine e_iadd 778 dL_law_777 rfl ?_
  refine e_sald 779 dL_law_778 (by omega) (by omega) h2 rfl ?_
  refine e_callP 782 mt_yX12_swear mv_yX12_swear wd_1575 (Nat.le_of_ble_eq_true rfl) dL_law_779 at_928 jc_12 rfl rfl rfl (Nat.le_of_ble_eq_true rfl) ⟨by omega, by omega, by omega, by omega⟩ rfl hc (fun z2 M2 hc2 => ?_)
  obtain ⟨rfl, hI2⟩ := hc2
  refine e_w32 ?_
  refine e_w32b ?_
  exact e_icmp_eq 785 2160 dL_law_782 (w32_bnd _) (w32_bnd _) (by decide) rfl (fun _ => kk M2 hI2) (fun g => absurd rfl g)
theorem lc_15 {X : jX} {nm : String} {ret : Option FieldType} {R : Room} {QF : jQF} {cells slots : Nat} {M : jM} {i : Int} (hF : 68 ≤ R.frames) (hL : 7000 ≤ R.locals) (hC : cells ≤ R.cells) (hS : slots ≤ R.slots) (h2 : (X.2.2.2.2.1 : Int) < 100000) (h0 : 0 ≤ i) (h1 : i + 7 ≤ (X.2.2.2.2.1 : Int)) (hI : Inv M) (kk : ∀ M2 : jM, Inv M2 → gE X (yl nm) cL_law 4 ret R QF cells slots 949 topo M2 2160 (lwl i) []) : gE X (yl nm) cL_law 4 ret R QF cells slots 949 topo M 787 (lwl i) [] := by
  refine e_aload_n (i := 1) 788 dL_law_787 rfl rfl rfl ?_
  refine e_aloadF_n (i := 0) 789 dL_law_788 rfl rfl rfl ?_
  refine e_iload_n (i := 3) 790 dL_law_789 rfl rfl rfl ?_
  refine e_iconst 791 dL_law_790 rfl ?_
  refine e_iadd 792 dL_law_791 rfl ?_
  refine e_sald 793 dL_law_792 (by omega) (by omega) h2 rfl ?_
  refine e_aloadF_n (i := 0) 794 dL_law_793 rfl rfl rfl ?_
  refine e_iload_n (i := 3) 795 dL_law_794 rfl rfl rfl ?_
  refine e_iconst 796 dL_law_795 rfl ?_
  refine e_iadd 797 dL_law_796 rfl ?_
  refine e_sald 798 dL_law_797 (by omega) (by omega) h2 rfl ?_
  refine e_aloadF_n (i := 0) 799 dL_law_798 rfl rfl rfl ?_
  refine e_iload_n (i := 3) 800 dL_law_799 rfl rfl rfl ?_
  refine e_iconst 801 dL_law_800 rfl ?_
  refine e_iadd 802 dL_law_801 rfl ?_
  refine e_sald 803 dL_law_802 (by omega) (by omega) h2 rfl ?_
  refine e_callP 806 mt_yX11_sell mv_yX11_sell wd_859 (Nat.le_of_ble_eq_true rfl) dL_law_803 at_0 jc_11 rfl rfl rfl (Nat.le_of_ble_eq_true rfl) ⟨by omega, by omega, by omega, by omega⟩ rfl (p_sell hI (i32_bnd _) (i32_bnd _) (i32_bnd _)) (fun z M1 hc => ?_)
  refine e_aload_n (i := 2) 807 dL_law_806 rfl rfl rfl ?_
  refine e_aloadF_n (i := 0) 808 dL_law_807 rfl rfl rfl ?_
  refine e_iload_n (i := 3) 809 dL_law_808 rfl rfl rfl ?_
  refine e_iconst 810 dL_law_809 rfl ?_
  refine e_iadd 811 dL_law_810 rfl ?_
  refine e_sald 812 dL_law_811 (by omega) (by omega) h2 rfl ?_
  refine e_aloadF_n (i := 0) 813 dL_law_812 rfl rfl rfl ?_
  refine e_iload_n (i := 3) 814 dL_law_813 rfl rfl rfl ?_
  refine e_iconst 815 dL_law_814 rfl ?_
  refine e_iadd 816 dL_law_815 rfl ?_
  refine e_sald 817 dL_law_816 (by omega) (by omega) h2 rfl ?_
  refine e_aloadF_n (i := 0) 818 dL_law_817 rfl rfl rfl ?_
  refine e_iload_n (i := 3) 819 dL_law_818 rfl rfl rfl ?_
  refine e_iconst 820 dL_law_819 rfl ?_
  refine e_iadd 821 dL_law_820 rfl ?_
  refine e_sald 822 dL_law_821 (by omega) (by omega) h2 rfl ?_
  refine e_callP 825 mt_yX12_sell mv_yX12_sell wd_1583 (Nat.le_of_ble_eq_true rfl) dL_law_822 at_928 jc_12 rfl rfl rfl (Nat.le_of_ble_eq_true rfl) ⟨by omega, by omega, by omega, by omega⟩ rfl hc (fun z2 M2 hc2 => ?_)
  obtain ⟨rfl, hI2⟩ := hc2
  refine e_w32 ?_
  refine e_w32b ?_
  exact e_icmp_eq 828 2160 dL_law_825 (w32_bnd _) (w32_bnd _) (by decide) rfl (fun _ => kk M2 hI2) (fun g => absurd rfl g)
theorem lc_16 {X : jX} {nm : String} {ret : Option FieldType} {R : Room} {QF : jQF} {cells slots : Nat} {M : jM} {i : Int} (hF : 68 ≤ R.frames) (hL : 7000 ≤ R.locals) (hC : cells ≤ R.cells) (hS : slots ≤ R.slots) (h2 : (X.2.2.2.2.1 : Int) < 100000) (h0 : 0 ≤ i) (h1 : i + 7 ≤ (X.2.2.2.2.1 : Int)) (hI : Inv M) (kk : ∀ M2 : jM, Inv M2 → gE X (yl nm) cL_law 4 ret R QF cells slots 949 topo M2 2160 (lwl i) []) : gE X (yl nm) cL_law 4 ret R QF cells slots 949 topo M 830 (lwl i) [] := by
  refine e_aload_n (i := 1) 831 dL_law_830 rfl rfl rfl ?_
  refine e_aloadF_n (i := 0) 832 dL_law_831 rfl rfl rfl ?_
  refine e_iload_n (i := 3) 833 dL_law_832 rfl rfl rfl ?_
  refine e_iconst 834 dL_law_833 rfl ?_
  refine e_iadd 835 dL_law_834 rfl ?_
  refine e_sald 836 dL_law_835 (by omega) (by omega) h2 rfl ?_
  refine e_aloadF_n (i := 0) 837 dL_law_836 rfl rfl rfl ?_
  refine e_iload_n (i := 3) 838 dL_law_837 rfl rfl rfl ?_
  refine e_iconst 839 dL_law_838 rfl ?_
  refine e_iadd 840 dL_law_839 rfl ?_
  refine e_sald 841 dL_law_840 (by omega) (by omega) h2 rfl ?_
  refine e_callP 844 mt_yX11_of mv_yX11_of wd_863 (Nat.le_of_ble_eq_true rfl) dL_law_841 at_0 jc_11 rfl rfl rfl (Nat.le_of_ble_eq_true rfl) ⟨by omega, by omega, by omega, by omega⟩ rfl (p_of hI (i32_bnd _) (i32_bnd _)) (fun z M1 hc => ?_)
  refine e_aload_n (i := 2) 845 dL_law_844 rfl rfl rfl ?_
  refine e_aloadF_n (i := 0) 846 dL_law_845 rfl rfl rfl ?_
  refine e_iload_n (i := 3) 847 dL_law_846 rfl rfl rfl ?_
  refine e_iconst 848 dL_law_847 rfl ?_
  refine e_iadd 849 dL_law_848 rfl ?_
  refine e_sald 850 dL_law_849 (by omega) (by omega) h2 rfl ?_
  refine e_aloadF_n (i := 0) 851 dL_law_850 rfl rfl rfl ?_
  refine e_iload_n (i := 3) 852 dL_law_851 rfl rfl rfl ?_
  refine e_iconst 853 dL_law_852 rfl ?_
  refine e_iadd 854 dL_law_853 rfl ?_
  refine e_sald 855 dL_law_854 (by omega) (by omega) h2 rfl ?_
  refine e_callP 858 mt_yX12_of mv_yX12_of wd_1587 (Nat.le_of_ble_eq_true rfl) dL_law_855 at_928 jc_12 rfl rfl rfl (Nat.le_of_ble_eq_true rfl) ⟨by omega, by omega, by omega, by omega⟩ rfl hc (fun z2 M2 hc2 => ?_)
  obtain ⟨rfl, hI2⟩ := hc2
  refine e_w32 ?_
  refine e_w32b ?_
  exact e_icmp_eq 861 2160 dL_law_858 (w32_bnd _) (w32_bnd _) (by decide) rfl (fun _ => kk M2 hI2) (fun g => absurd rfl g)
theorem lc_17 {X : jX} {nm : String} {ret : Option FieldType} {R : Room} {QF : jQF} {cells slots : Nat} {M : jM} {i : Int} (hF : 68 ≤ R.frames) (hL : 7000 ≤ R.locals) (hC : cells ≤ R.cells) (hS : slots ≤ R.slots) (h2 : (X.2.2.2.2.1 : Int) < 100000) (h0 : 0 ≤ i) (h1 : i + 7 ≤ (X.2.2.2.2.1 : Int)) (hI : Inv M) (kk : ∀ M2 : jM, Inv M2 → gE X (yl nm) cL_law 4 ret R QF cells slots 949 topo M2 2160 (lwl i) []) : gE X (yl nm) cL_law 4 ret R QF cells slots 949 topo M 863 (lwl i) [] := by
  refine e_aload_n (i := 1) 864 dL_law_863 rfl rfl rfl ?_
  refine e_aloadF_n (i := 0) 865 dL_law_864 rfl rfl rfl ?_
  refine e_iload_n (i := 3) 866 dL_law_865 rfl rfl rfl ?_
  refine e_iconst 867 dL_law_866 rfl ?_
  refine e_iadd 868 dL_law_867 rfl ?_
  refine e_sald 869 dL_law_868 (by omega) (by omega) h2 rfl ?_
  refine e_callP 872 mt_yX11_passed mv_yX11_passed wd_880 (Nat.le_of_ble_eq_true rfl) dL_law_869 at_0 jc_11 rfl rfl rfl (Nat.le_of_ble_eq_true rfl) ⟨by omega, by omega, by omega, by omega⟩ rfl (p_passed hI (i32_bnd _)) (fun z M1 hc => ?_)
  refine e_aload_n (i := 2) 873 dL_law_872 rfl rfl rfl ?_
  refine e_aloadF_n (i := 0) 874 dL_law_873 rfl rfl rfl ?_
  refine e_iload_n (i := 3) 875 dL_law_874 rfl rfl rfl ?_
  refine e_iconst 876 dL_law_875 rfl ?_
  refine e_iadd 877 dL_law_876 rfl ?_
  refine e_sald 878 dL_law_877 (by omega) (by omega) h2 rfl ?_
  refine e_callP 881 mt_yX12_passed mv_yX12_passed wd_1599 (Nat.le_of_ble_eq_true rfl) dL_law_878 at_928 jc_12 rfl rfl rfl (Nat.le_of_ble_eq_true rfl) ⟨by omega, by omega, by omega, by omega⟩ rfl hc (fun z2 M2 hc2 => ?_)
  obtain ⟨rfl, hI2⟩ := hc2
  refine e_w32 ?_
  refine e_w32b ?_
  exact e_icmp_eq 884 2160 dL_law_881 (w32_bnd _) (w32_bnd _) (by decide) rfl (fun _ => kk M2 hI2) (fun g => absurd rfl g)
