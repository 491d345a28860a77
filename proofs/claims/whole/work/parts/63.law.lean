/-- the law, by whatever name -/
def mL (nm : String) : nw_Mt := (⟨RL, nm, "([I)Z"⟩, cL_law, 4, some .boolean)
section
variable {l : Launch} {g : nw_G} {I : nw_Me} {nm : String} {i : Nat} {Post : Option Int32 → List nw_Sh → nw_Me → Prop}
theorem lc_0 (hI : iv I) (hi : i + 6 ≤ nw_L g) (hL : nw_L g ≤ 384) (kk : ∀ K, iv K → nw_S l g 10 (mL nm) 1384 [some (.ref (nw_sc g)), some (.ref (nw_a g 0)), some (.ref (nw_a g 219)), some (.int (nI i))] [] K Post) : nw_S l g 10 (mL nm) 200 [some (.ref (nw_sc g)), some (.ref (nw_a g 0)), some (.ref (nw_a g 219)), some (.int (nI i))] [] I Post := by
  refine ev_aload_n (i := 1) dL_law_200 rfl rfl ?_
  refine ev_aload_n (i := 0) dL_law_201 rfl rfl ?_
  refine ev_iload_n (i := 3) dL_law_202 rfl rfl ?_
  refine ev_iconst (v := 1) dL_law_203 kc_1 ?_
  refine ev_iaddN (a := i) (b := 1) dL_law_204 ?_
  refine ev_sld dL_law_205 (pk_in (i + 1) (nw_L g) (by omega)) ?_
  refine ev_aload_n (i := 0) dL_law_206 rfl rfl ?_
  refine ev_iload_n (i := 3) dL_law_207 rfl rfl ?_
  refine ev_iconst (v := 2) dL_law_208 kc_2 ?_
  refine ev_iaddN (a := i) (b := 2) dL_law_209 ?_
  refine ev_sld dL_law_210 (pk_in (i + 2) (nw_L g) (by omega)) ?_
  refine ev_aload_n (i := 0) dL_law_211 rfl rfl ?_
  refine ev_iload_n (i := 3) dL_law_212 rfl rfl ?_
  refine ev_iconst (v := 3) dL_law_213 kc_3 ?_
  refine ev_iaddN (a := i) (b := 3) dL_law_214 ?_
  refine ev_sld dL_law_215 (pk_in (i + 3) (nw_L g) (by omega)) ?_
  refine s_callVi (As := [_, _, _]) (st_row hI _ _ _) (Nat.le_of_ble_eq_true rfl) lL_13 kX9_row vX9_row dL_law_216 rfl rfl rfl (by decide) rfl (Nat.le_of_ble_eq_true rfl) ?_
  intro r J hJ
  refine ev_aload_n (i := 2) dL_law_219 rfl rfl ?_
  refine ev_aload_n (i := 0) dL_law_220 rfl rfl ?_
  refine ev_iload_n (i := 3) dL_law_221 rfl rfl ?_
  refine ev_iconst (v := 1) dL_law_222 kc_1 ?_
  refine ev_iaddN (a := i) (b := 1) dL_law_223 ?_
  refine ev_sld dL_law_224 (pk_in (i + 1) (nw_L g) (by omega)) ?_
  refine ev_aload_n (i := 0) dL_law_225 rfl rfl ?_
  refine ev_iload_n (i := 3) dL_law_226 rfl rfl ?_
  refine ev_iconst (v := 2) dL_law_227 kc_2 ?_
  refine ev_iaddN (a := i) (b := 2) dL_law_228 ?_
  refine ev_sld dL_law_229 (pk_in (i + 2) (nw_L g) (by omega)) ?_
  refine ev_aload_n (i := 0) dL_law_230 rfl rfl ?_
  refine ev_iload_n (i := 3) dL_law_231 rfl rfl ?_
  refine ev_iconst (v := 3) dL_law_232 kc_3 ?_
  refine ev_iaddN (a := i) (b := 3) dL_law_233 ?_
  refine ev_sld dL_law_234 (pk_in (i + 3) (nw_L g) (by omega)) ?_
  refine s_callVi (As := [_, _, _]) hJ (Nat.le_of_ble_eq_true rfl) lL_17 kX10_row vX10_row dL_law_235 rfl rfl rfl (by decide) rfl (Nat.le_of_ble_eq_true rfl) ?_
  rintro r2 K ⟨rfl, hK⟩
  exact ev_icmp_eq (tgt := 1384) dL_law_238 (by decide) (fun _ => kk K hK) (fun h => absurd rfl h)
theorem lc_1 (hI : iv I) (hi : i + 6 ≤ nw_L g) (hL : nw_L g ≤ 384) (kk : ∀ K, iv K → nw_S l g 10 (mL nm) 1384 [some (.ref (nw_sc g)), some (.ref (nw_a g 0)), some (.ref (nw_a g 219)), some (.int (nI i))] [] K Post) : nw_S l g 10 (mL nm) 243 [some (.ref (nw_sc g)), some (.ref (nw_a g 0)), some (.ref (nw_a g 219)), some (.int (nI i))] [] I Post := by
  refine ev_aload_n (i := 1) dL_law_243 rfl rfl ?_
  refine ev_aload_n (i := 0) dL_law_244 rfl rfl ?_
  refine ev_iload_n (i := 3) dL_law_245 rfl rfl ?_
  refine ev_iconst (v := 1) dL_law_246 kc_1 ?_
  refine ev_iaddN (a := i) (b := 1) dL_law_247 ?_
  refine ev_sld dL_law_248 (pk_in (i + 1) (nw_L g) (by omega)) ?_
  refine ev_aload_n (i := 0) dL_law_249 rfl rfl ?_
  refine ev_iload_n (i := 3) dL_law_250 rfl rfl ?_
  refine ev_iconst (v := 2) dL_law_251 kc_2 ?_
  refine ev_iaddN (a := i) (b := 2) dL_law_252 ?_
  refine ev_sld dL_law_253 (pk_in (i + 2) (nw_L g) (by omega)) ?_
  refine ev_aload_n (i := 0) dL_law_254 rfl rfl ?_
  refine ev_iload_n (i := 3) dL_law_255 rfl rfl ?_
  refine ev_iconst (v := 3) dL_law_256 kc_3 ?_
  refine ev_iaddN (a := i) (b := 3) dL_law_257 ?_
  refine ev_sld dL_law_258 (pk_in (i + 3) (nw_L g) (by omega)) ?_
  refine s_callVi (As := [_, _, _]) (st_set hI _ _ _) (Nat.le_of_ble_eq_true rfl) lL_18 kX9_set vX9_set dL_law_259 rfl rfl rfl (by decide) rfl (Nat.le_of_ble_eq_true rfl) ?_
  intro r J hJ
  refine ev_aload_n (i := 2) dL_law_262 rfl rfl ?_
  refine ev_aload_n (i := 0) dL_law_263 rfl rfl ?_
  refine ev_iload_n (i := 3) dL_law_264 rfl rfl ?_
  refine ev_iconst (v := 1) dL_law_265 kc_1 ?_
  refine ev_iaddN (a := i) (b := 1) dL_law_266 ?_
  refine ev_sld dL_law_267 (pk_in (i + 1) (nw_L g) (by omega)) ?_
  refine ev_aload_n (i := 0) dL_law_268 rfl rfl ?_
  refine ev_iload_n (i := 3) dL_law_269 rfl rfl ?_
  refine ev_iconst (v := 2) dL_law_270 kc_2 ?_
  refine ev_iaddN (a := i) (b := 2) dL_law_271 ?_
  refine ev_sld dL_law_272 (pk_in (i + 2) (nw_L g) (by omega)) ?_
  refine ev_aload_n (i := 0) dL_law_273 rfl rfl ?_
  refine ev_iload_n (i := 3) dL_law_274 rfl rfl ?_
  refine ev_iconst (v := 3) dL_law_275 kc_3 ?_
  refine ev_iaddN (a := i) (b := 3) dL_law_276 ?_
  refine ev_sld dL_law_277 (pk_in (i + 3) (nw_L g) (by omega)) ?_
  refine s_callVi (As := [_, _, _]) hJ (Nat.le_of_ble_eq_true rfl) lL_21 kX10_set vX10_set dL_law_278 rfl rfl rfl (by decide) rfl (Nat.le_of_ble_eq_true rfl) ?_
  rintro r2 K ⟨rfl, hK⟩
  exact ev_icmp_eq (tgt := 1384) dL_law_281 (by decide) (fun _ => kk K hK) (fun h => absurd rfl h)
theorem lc_2 (hI : iv I) (hi : i + 6 ≤ nw_L g) (hL : nw_L g ≤ 384) (kk : ∀ K, iv K → nw_S l g 10 (mL nm) 1384 [some (.ref (nw_sc g)), some (.ref (nw_a g 0)), some (.ref (nw_a g 219)), some (.int (nI i))] [] K Post) : nw_S l g 10 (mL nm) 286 [some (.ref (nw_sc g)), some (.ref (nw_a g 0)), some (.ref (nw_a g 219)), some (.int (nI i))] [] I Post := by
  refine ev_aload_n (i := 1) dL_law_286 rfl rfl ?_
  refine ev_aload_n (i := 0) dL_law_287 rfl rfl ?_
  refine ev_iload_n (i := 3) dL_law_288 rfl rfl ?_
  refine ev_iconst (v := 1) dL_law_289 kc_1 ?_
  refine ev_iaddN (a := i) (b := 1) dL_law_290 ?_
  refine ev_sld dL_law_291 (pk_in (i + 1) (nw_L g) (by omega)) ?_
  refine ev_aload_n (i := 0) dL_law_292 rfl rfl ?_
  refine ev_iload_n (i := 3) dL_law_293 rfl rfl ?_
  refine ev_iconst (v := 2) dL_law_294 kc_2 ?_
  refine ev_iaddN (a := i) (b := 2) dL_law_295 ?_
  refine ev_sld dL_law_296 (pk_in (i + 2) (nw_L g) (by omega)) ?_
  refine ev_aload_n (i := 0) dL_law_297 rfl rfl ?_
  refine ev_iload_n (i := 3) dL_law_298 rfl rfl ?_
  refine ev_iconst (v := 3) dL_law_299 kc_3 ?_
  refine ev_iaddN (a := i) (b := 3) dL_law_300 ?_
  refine ev_sld dL_law_301 (pk_in (i + 3) (nw_L g) (by omega)) ?_
  refine ev_aload_n (i := 0) dL_law_302 rfl rfl ?_
  refine ev_iload_n (i := 3) dL_law_303 rfl rfl ?_
  refine ev_iconst (v := 4) dL_law_304 kc_4 ?_
  refine ev_iaddN (a := i) (b := 4) dL_law_305 ?_
  refine ev_sld dL_law_306 (pk_in (i + 4) (nw_L g) (by omega)) ?_
  refine ev_aload_n (i := 0) dL_law_307 rfl rfl ?_
  refine ev_iload_n (i := 3) dL_law_308 rfl rfl ?_
  refine ev_iconst (v := 5) dL_law_309 kc_5 ?_
  refine ev_iaddN (a := i) (b := 5) dL_law_310 ?_
  refine ev_sld dL_law_311 (pk_in (i + 5) (nw_L g) (by omega)) ?_
  refine s_callVi (As := [_, _, _, _, _]) (st_copy hI _ _ _ _ _) (Nat.le_of_ble_eq_true rfl) lL_22 kX9_copy vX9_copy dL_law_312 rfl rfl rfl (by decide) rfl (Nat.le_of_ble_eq_true rfl) ?_
  intro r J hJ
  refine ev_aload_n (i := 2) dL_law_315 rfl rfl ?_
  refine ev_aload_n (i := 0) dL_law_316 rfl rfl ?_
  refine ev_iload_n (i := 3) dL_law_317 rfl rfl ?_
  refine ev_iconst (v := 1) dL_law_318 kc_1 ?_
  refine ev_iaddN (a := i) (b := 1) dL_law_319 ?_
  refine ev_sld dL_law_320 (pk_in (i + 1) (nw_L g) (by omega)) ?_
  refine ev_aload_n (i := 0) dL_law_321 rfl rfl ?_
  refine ev_iload_n (i := 3) dL_law_322 rfl rfl ?_
  refine ev_iconst (v := 2) dL_law_323 kc_2 ?_
  refine ev_iaddN (a := i) (b := 2) dL_law_324 ?_
  refine ev_sld dL_law_325 (pk_in (i + 2) (nw_L g) (by omega)) ?_
  refine ev_aload_n (i := 0) dL_law_326 rfl rfl ?_
  refine ev_iload_n (i := 3) dL_law_327 rfl rfl ?_
  refine ev_iconst (v := 3) dL_law_328 kc_3 ?_
  refine ev_iaddN (a := i) (b := 3) dL_law_329 ?_
  refine ev_sld dL_law_330 (pk_in (i + 3) (nw_L g) (by omega)) ?_
  refine ev_aload_n (i := 0) dL_law_331 rfl rfl ?_
  refine ev_iload_n (i := 3) dL_law_332 rfl rfl ?_
  refine ev_iconst (v := 4) dL_law_333 kc_4 ?_
  refine ev_iaddN (a := i) (b := 4) dL_law_334 ?_
  refine ev_sld dL_law_335 (pk_in (i + 4) (nw_L g) (by omega)) ?_
  refine ev_aload_n (i := 0) dL_law_336 rfl rfl ?_
  refine ev_iload_n (i := 3) dL_law_337 rfl rfl ?_
  refine ev_iconst (v := 5) dL_law_338 kc_5 ?_
  refine ev_iaddN (a := i) (b := 5) dL_law_339 ?_
  refine ev_sld dL_law_340 (pk_in (i + 5) (nw_L g) (by omega)) ?_
  refine s_callVi (As := [_, _, _, _, _]) hJ (Nat.le_of_ble_eq_true rfl) lL_26 kX10_copy vX10_copy dL_law_341 rfl rfl rfl (by decide) rfl (Nat.le_of_ble_eq_true rfl) ?_
  rintro r2 K ⟨rfl, hK⟩
  exact ev_icmp_eq (tgt := 1384) dL_law_344 (by decide) (fun _ => kk K hK) (fun h => absurd rfl h)
theorem lc_3 (hI : iv I) (hi : i + 6 ≤ nw_L g) (hL : nw_L g ≤ 384) (kk : ∀ K, iv K → nw_S l g 10 (mL nm) 1384 [some (.ref (nw_sc g)), some (.ref (nw_a g 0)), some (.ref (nw_a g 219)), some (.int (nI i))] [] K Post) : nw_S l g 10 (mL nm) 349 [some (.ref (nw_sc g)), some (.ref (nw_a g 0)), some (.ref (nw_a g 219)), some (.int (nI i))] [] I Post := by
  refine ev_aload_n (i := 1) dL_law_349 rfl rfl ?_
  refine ev_aload_n (i := 0) dL_law_350 rfl rfl ?_
  refine ev_iload_n (i := 3) dL_law_351 rfl rfl ?_
  refine ev_iconst (v := 1) dL_law_352 kc_1 ?_
  refine ev_iaddN (a := i) (b := 1) dL_law_353 ?_
  refine ev_sld dL_law_354 (pk_in (i + 1) (nw_L g) (by omega)) ?_
  refine s_callVi (As := [_]) (st_drop hI _) (Nat.le_of_ble_eq_true rfl) lL_27 kX9_drop vX9_drop dL_law_355 rfl rfl rfl (by decide) rfl (Nat.le_of_ble_eq_true rfl) ?_
  intro r J hJ
  refine ev_aload_n (i := 2) dL_law_358 rfl rfl ?_
  refine ev_aload_n (i := 0) dL_law_359 rfl rfl ?_
  refine ev_iload_n (i := 3) dL_law_360 rfl rfl ?_
  refine ev_iconst (v := 1) dL_law_361 kc_1 ?_
  refine ev_iaddN (a := i) (b := 1) dL_law_362 ?_
  refine ev_sld dL_law_363 (pk_in (i + 1) (nw_L g) (by omega)) ?_
  refine s_callVi (As := [_]) hJ (Nat.le_of_ble_eq_true rfl) lL_31 kX10_drop vX10_drop dL_law_364 rfl rfl rfl (by decide) rfl (Nat.le_of_ble_eq_true rfl) ?_
  rintro r2 K ⟨rfl, hK⟩
  exact ev_icmp_eq (tgt := 1384) dL_law_367 (by decide) (fun _ => kk K hK) (fun h => absurd rfl h)
theorem lc_4 (hI : iv I) (hi : i + 6 ≤ nw_L g) (hL : nw_L g ≤ 384) (kk : ∀ K, iv K → nw_S l g 10 (mL nm) 1384 [some (.ref (nw_sc g)), some (.ref (nw_a g 0)), some (.ref (nw_a g 219)), some (.int (nI i))] [] K Post) : nw_S l g 10 (mL nm) 372 [some (.ref (nw_sc g)), some (.ref (nw_a g 0)), some (.ref (nw_a g 219)), some (.int (nI i))] [] I Post := by
  refine ev_aload_n (i := 1) dL_law_372 rfl rfl ?_
  refine ev_aload_n (i := 0) dL_law_373 rfl rfl ?_
  refine ev_iload_n (i := 3) dL_law_374 rfl rfl ?_
  refine ev_iconst (v := 1) dL_law_375 kc_1 ?_
  refine ev_iaddN (a := i) (b := 1) dL_law_376 ?_
  refine ev_sld dL_law_377 (pk_in (i + 1) (nw_L g) (by omega)) ?_
  refine s_callVi (As := [_]) (st_feed hI _) (Nat.le_of_ble_eq_true rfl) lL_32 kX9_feed vX9_feed dL_law_378 rfl rfl rfl (by decide) rfl (Nat.le_of_ble_eq_true rfl) ?_
  intro r J hJ
  refine ev_aload_n (i := 2) dL_law_381 rfl rfl ?_
  refine ev_aload_n (i := 0) dL_law_382 rfl rfl ?_
  refine ev_iload_n (i := 3) dL_law_383 rfl rfl ?_
  refine ev_iconst (v := 1) dL_law_384 kc_1 ?_
  refine ev_iaddN (a := i) (b := 1) dL_law_385 ?_
  refine ev_sld dL_law_386 (pk_in (i + 1) (nw_L g) (by omega)) ?_
  refine s_callVi (As := [_]) hJ (Nat.le_of_ble_eq_true rfl) lL_35 kX10_feed vX10_feed dL_law_387 rfl rfl rfl (by decide) rfl (Nat.le_of_ble_eq_true rfl) ?_
  rintro r2 K ⟨rfl, hK⟩
  exact ev_icmp_eq (tgt := 1384) dL_law_390 (by decide) (fun _ => kk K hK) (fun h => absurd rfl h)
theorem lc_5 (hI : iv I) (hi : i + 6 ≤ nw_L g) (hL : nw_L g ≤ 384) (kk : ∀ K, iv K → nw_S l g 10 (mL nm) 1384 [some (.ref (nw_sc g)), some (.ref (nw_a g 0)), some (.ref (nw_a g 219)), some (.int (nI i))] [] K Post) : nw_S l g 10 (mL nm) 395 [some (.ref (nw_sc g)), some (.ref (nw_a g 0)), some (.ref (nw_a g 219)), some (.int (nI i))] [] I Post := by
  refine ev_aload_n (i := 1) dL_law_395 rfl rfl ?_
  refine s_callVi (As := []) (st_sea hI) (Nat.le_of_ble_eq_true rfl) lL_36 kX9_sea vX9_sea dL_law_396 rfl rfl rfl (by decide) rfl (Nat.le_of_ble_eq_true rfl) ?_
  intro r J hJ
  refine ev_aload_n (i := 2) dL_law_399 rfl rfl ?_
  refine s_callVi (As := []) hJ (Nat.le_of_ble_eq_true rfl) lL_40 kX10_sea vX10_sea dL_law_400 rfl rfl rfl (by decide) rfl (Nat.le_of_ble_eq_true rfl) ?_
  rintro r2 K ⟨rfl, hK⟩
  exact ev_icmp_eq (tgt := 1384) dL_law_403 (by decide) (fun _ => kk K hK) (fun h => absurd rfl h)
theorem lc_6 (hI : iv I) (hi : i + 6 ≤ nw_L g) (hL : nw_L g ≤ 384) (kk : ∀ K, iv K → nw_S l g 10 (mL nm) 1384 [some (.ref (nw_sc g)), some (.ref (nw_a g 0)), some (.ref (nw_a g 219)), some (.int (nI i))] [] K Post) : nw_S l g 10 (mL nm) 408 [some (.ref (nw_sc g)), some (.ref (nw_a g 0)), some (.ref (nw_a g 219)), some (.int (nI i))] [] I Post := by
  refine ev_aload_n (i := 1) dL_law_408 rfl rfl ?_
  refine s_callVi (As := []) (st_fault hI) (Nat.le_of_ble_eq_true rfl) lL_41 kX9_fault vX9_fault dL_law_409 rfl rfl rfl (by decide) rfl (Nat.le_of_ble_eq_true rfl) ?_
  intro r J hJ
  refine ev_aload_n (i := 2) dL_law_412 rfl rfl ?_
  refine s_callVi (As := []) hJ (Nat.le_of_ble_eq_true rfl) lL_44 kX10_fault vX10_fault dL_law_413 rfl rfl rfl (by decide) rfl (Nat.le_of_ble_eq_true rfl) ?_
  rintro r2 K ⟨rfl, hK⟩
  exact ev_icmp_eq (tgt := 1384) dL_law_416 (by decide) (fun _ => kk K hK) (fun h => absurd rfl h)
theorem lc_7 (hI : iv I) (hi : i + 6 ≤ nw_L g) (hL : nw_L g ≤ 384) (kk : ∀ K, iv K → nw_S l g 10 (mL nm) 1384 [some (.ref (nw_sc g)), some (.ref (nw_a g 0)), some (.ref (nw_a g 219)), some (.int (nI i))] [] K Post) : nw_S l g 10 (mL nm) 421 [some (.ref (nw_sc g)), some (.ref (nw_a g 0)), some (.ref (nw_a g 219)), some (.int (nI i))] [] I Post := by
  refine ev_aload_n (i := 1) dL_law_421 rfl rfl ?_
  refine ev_aload_n (i := 0) dL_law_422 rfl rfl ?_
  refine ev_iload_n (i := 3) dL_law_423 rfl rfl ?_
  refine ev_iconst (v := 1) dL_law_424 kc_1 ?_
  refine ev_iaddN (a := i) (b := 1) dL_law_425 ?_
  refine ev_sld dL_law_426 (pk_in (i + 1) (nw_L g) (by omega)) ?_
  refine s_callVi (As := [_]) (st_waves hI _) (Nat.le_of_ble_eq_true rfl) lL_45 kX9_waves vX9_waves dL_law_427 rfl rfl rfl (by decide) rfl (Nat.le_of_ble_eq_true rfl) ?_
  intro r J hJ
  refine ev_aload_n (i := 2) dL_law_430 rfl rfl ?_
  refine ev_aload_n (i := 0) dL_law_431 rfl rfl ?_
  refine ev_iload_n (i := 3) dL_law_432 rfl rfl ?_
  refine ev_iconst (v := 1) dL_law_433 kc_1 ?_
  refine ev_iaddN (a := i) (b := 1) dL_law_434 ?_
  refine ev_sld dL_law_435 (pk_in (i + 1) (nw_L g) (by omega)) ?_
  refine s_callVi (As := [_]) hJ (Nat.le_of_ble_eq_true rfl) lL_48 kX10_waves vX10_waves dL_law_436 rfl rfl rfl (by decide) rfl (Nat.le_of_ble_eq_true rfl) ?_
  rintro r2 K ⟨rfl, hK⟩
  exact ev_icmp_eq (tgt := 1384) dL_law_439 (by decide) (fun _ => kk K hK) (fun h => absurd rfl h)
theorem lc_8 (hI : iv I) (hi : i + 6 ≤ nw_L g) (hL : nw_L g ≤ 384) (kk : ∀ K, iv K → nw_S l g 10 (mL nm) 1384 [some (.ref (nw_sc g)), some (.ref (nw_a g 0)), some (.ref (nw_a g 219)), some (.int (nI i))] [] K Post) : nw_S l g 10 (mL nm) 444 [some (.ref (nw_sc g)), some (.ref (nw_a g 0)), some (.ref (nw_a g 219)), some (.int (nI i))] [] I Post := by
  refine ev_aload_n (i := 1) dL_law_444 rfl rfl ?_
  refine ev_aload_n (i := 0) dL_law_445 rfl rfl ?_
  refine ev_iload_n (i := 3) dL_law_446 rfl rfl ?_
  refine ev_iconst (v := 1) dL_law_447 kc_1 ?_
  refine ev_iaddN (a := i) (b := 1) dL_law_448 ?_
  refine ev_sld dL_law_449 (pk_in (i + 1) (nw_L g) (by omega)) ?_
  refine ev_aload_n (i := 0) dL_law_450 rfl rfl ?_
  refine ev_iload_n (i := 3) dL_law_451 rfl rfl ?_
  refine ev_iconst (v := 2) dL_law_452 kc_2 ?_
  refine ev_iaddN (a := i) (b := 2) dL_law_453 ?_
  refine ev_sld dL_law_454 (pk_in (i + 2) (nw_L g) (by omega)) ?_
  refine s_callVi (As := [_, _]) (st_slip hI _ _) (Nat.le_of_ble_eq_true rfl) lL_49 kX9_slip vX9_slip dL_law_455 rfl rfl rfl (by decide) rfl (Nat.le_of_ble_eq_true rfl) ?_
  intro r J hJ
  refine ev_aload_n (i := 2) dL_law_458 rfl rfl ?_
  refine ev_aload_n (i := 0) dL_law_459 rfl rfl ?_
  refine ev_iload_n (i := 3) dL_law_460 rfl rfl ?_
  refine ev_iconst (v := 1) dL_law_461 kc_1 ?_
  refine ev_iaddN (a := i) (b := 1) dL_law_462 ?_
  refine ev_sld dL_law_463 (pk_in (i + 1) (nw_L g) (by omega)) ?_
  refine ev_aload_n (i := 0) dL_law_464 rfl rfl ?_
  refine ev_iload_n (i := 3) dL_law_465 rfl rfl ?_
  refine ev_iconst (v := 2) dL_law_466 kc_2 ?_
  refine ev_iaddN (a := i) (b := 2) dL_law_467 ?_
  refine ev_sld dL_law_468 (pk_in (i + 2) (nw_L g) (by omega)) ?_
  refine s_callVi (As := [_, _]) hJ (Nat.le_of_ble_eq_true rfl) lL_53 kX10_slip vX10_slip dL_law_469 rfl rfl rfl (by decide) rfl (Nat.le_of_ble_eq_true rfl) ?_
  rintro r2 K ⟨rfl, hK⟩
  exact ev_icmp_eq (tgt := 1384) dL_law_472 (by decide) (fun _ => kk K hK) (fun h => absurd rfl h)
theorem lc_9 (hI : iv I) (hi : i + 6 ≤ nw_L g) (hL : nw_L g ≤ 384) (kk : ∀ K, iv K → nw_S l g 10 (mL nm) 1384 [some (.ref (nw_sc g)), some (.ref (nw_a g 0)), some (.ref (nw_a g 219)), some (.int (nI i))] [] K Post) : nw_S l g 10 (mL nm) 477 [some (.ref (nw_sc g)), some (.ref (nw_a g 0)), some (.ref (nw_a g 219)), some (.int (nI i))] [] I Post := by
  refine ev_aload_n (i := 1) dL_law_477 rfl rfl ?_
  refine ev_aload_n (i := 0) dL_law_478 rfl rfl ?_
  refine ev_iload_n (i := 3) dL_law_479 rfl rfl ?_
  refine ev_iconst (v := 1) dL_law_480 kc_1 ?_
  refine ev_iaddN (a := i) (b := 1) dL_law_481 ?_
  refine ev_sld dL_law_482 (pk_in (i + 1) (nw_L g) (by omega)) ?_
  refine s_callVi (As := [_]) (st_law hI _) (Nat.le_of_ble_eq_true rfl) lL_54 kX9_law vX9_law dL_law_483 rfl rfl rfl (by decide) rfl (Nat.le_of_ble_eq_true rfl) ?_
  intro r J hJ
  refine ev_aload_n (i := 2) dL_law_486 rfl rfl ?_
  refine ev_aload_n (i := 0) dL_law_487 rfl rfl ?_
  refine ev_iload_n (i := 3) dL_law_488 rfl rfl ?_
  refine ev_iconst (v := 1) dL_law_489 kc_1 ?_
  refine ev_iaddN (a := i) (b := 1) dL_law_490 ?_
  refine ev_sld dL_law_491 (pk_in (i + 1) (nw_L g) (by omega)) ?_
  refine s_callVi (As := [_]) hJ (Nat.le_of_ble_eq_true rfl) lL_57 kX10_law vX10_law dL_law_492 rfl rfl rfl (by decide) rfl (Nat.le_of_ble_eq_true rfl) ?_
  rintro r2 K ⟨rfl, hK⟩
  exact ev_icmp_eq (tgt := 1384) dL_law_495 (by decide) (fun _ => kk K hK) (fun h => absurd rfl h)
theorem lc_10 (hI : iv I) (hi : i + 6 ≤ nw_L g) (hL : nw_L g ≤ 384) (kk : ∀ K, iv K → nw_S l g 10 (mL nm) 1384 [some (.ref (nw_sc g)), some (.ref (nw_a g 0)), some (.ref (nw_a g 219)), some (.int (nI i))] [] K Post) : nw_S l g 10 (mL nm) 500 [some (.ref (nw_sc g)), some (.ref (nw_a g 0)), some (.ref (nw_a g 219)), some (.int (nI i))] [] I Post := by
  refine ev_aload_n (i := 1) dL_law_500 rfl rfl ?_
  refine ev_aload_n (i := 0) dL_law_501 rfl rfl ?_
  refine ev_iload_n (i := 3) dL_law_502 rfl rfl ?_
  refine ev_iconst (v := 1) dL_law_503 kc_1 ?_
  refine ev_iaddN (a := i) (b := 1) dL_law_504 ?_
  refine ev_sld dL_law_505 (pk_in (i + 1) (nw_L g) (by omega)) ?_
  refine ev_aload_n (i := 0) dL_law_506 rfl rfl ?_
  refine ev_iload_n (i := 3) dL_law_507 rfl rfl ?_
  refine ev_iconst (v := 2) dL_law_508 kc_2 ?_
  refine ev_iaddN (a := i) (b := 2) dL_law_509 ?_
  refine ev_sld dL_law_510 (pk_in (i + 2) (nw_L g) (by omega)) ?_
  refine s_callVi (As := [_, _]) (st_change hI _ _) (Nat.le_of_ble_eq_true rfl) lL_58 kX9_change vX9_change dL_law_511 rfl rfl rfl (by decide) rfl (Nat.le_of_ble_eq_true rfl) ?_
  intro r J hJ
  refine ev_aload_n (i := 2) dL_law_514 rfl rfl ?_
  refine ev_aload_n (i := 0) dL_law_515 rfl rfl ?_
  refine ev_iload_n (i := 3) dL_law_516 rfl rfl ?_
  refine ev_iconst (v := 1) dL_law_517 kc_1 ?_
  refine ev_iaddN (a := i) (b := 1) dL_law_518 ?_
  refine ev_sld dL_law_519 (pk_in (i + 1) (nw_L g) (by omega)) ?_
  refine ev_aload_n (i := 0) dL_law_520 rfl rfl ?_
  refine ev_iload_n (i := 3) dL_law_521 rfl rfl ?_
  refine ev_iconst (v := 2) dL_law_522 kc_2 ?_
  refine ev_iaddN (a := i) (b := 2) dL_law_523 ?_
  refine ev_sld dL_law_524 (pk_in (i + 2) (nw_L g) (by omega)) ?_
  refine s_callVi (As := [_, _]) hJ (Nat.le_of_ble_eq_true rfl) lL_61 kX10_change vX10_change dL_law_525 rfl rfl rfl (by decide) rfl (Nat.le_of_ble_eq_true rfl) ?_
  rintro r2 K ⟨rfl, hK⟩
  exact ev_icmp_eq (tgt := 1384) dL_law_528 (by decide) (fun _ => kk K hK) (fun h => absurd rfl h)
theorem lc_11 (hI : iv I) (hi : i + 6 ≤ nw_L g) (hL : nw_L g ≤ 384) (kk : ∀ K, iv K → nw_S l g 10 (mL nm) 1384 [some (.ref (nw_sc g)), some (.ref (nw_a g 0)), some (.ref (nw_a g 219)), some (.int (nI i))] [] K Post) : nw_S l g 10 (mL nm) 533 [some (.ref (nw_sc g)), some (.ref (nw_a g 0)), some (.ref (nw_a g 219)), some (.int (nI i))] [] I Post := by
  refine ev_aload_n (i := 1) dL_law_533 rfl rfl ?_
  refine ev_aload_n (i := 0) dL_law_534 rfl rfl ?_
  refine ev_iload_n (i := 3) dL_law_535 rfl rfl ?_
  refine ev_iconst (v := 1) dL_law_536 kc_1 ?_
  refine ev_iaddN (a := i) (b := 1) dL_law_537 ?_
  refine ev_sld dL_law_538 (pk_in (i + 1) (nw_L g) (by omega)) ?_
  refine ev_aload_n (i := 0) dL_law_539 rfl rfl ?_
  refine ev_iload_n (i := 3) dL_law_540 rfl rfl ?_
  refine ev_iconst (v := 2) dL_law_541 kc_2 ?_
  refine ev_iaddN (a := i) (b := 2) dL_law_542 ?_
  refine ev_sld dL_law_543 (pk_in (i + 2) (nw_L g) (by omega)) ?_
  refine s_callVi (As := [_, _]) (st_heeds hI _ _) (Nat.le_of_ble_eq_true rfl) lL_62 kX9_heeds vX9_heeds dL_law_544 rfl rfl rfl (by decide) rfl (Nat.le_of_ble_eq_true rfl) ?_
  intro r J hJ
  refine ev_aload_n (i := 2) dL_law_547 rfl rfl ?_
  refine ev_aload_n (i := 0) dL_law_548 rfl rfl ?_
  refine ev_iload_n (i := 3) dL_law_549 rfl rfl ?_
  refine ev_iconst (v := 1) dL_law_550 kc_1 ?_
  refine ev_iaddN (a := i) (b := 1) dL_law_551 ?_
  refine ev_sld dL_law_552 (pk_in (i + 1) (nw_L g) (by omega)) ?_
  refine ev_aload_n (i := 0) dL_law_553 rfl rfl ?_
  refine ev_iload_n (i := 3) dL_law_554 rfl rfl ?_
  refine ev_iconst (v := 2) dL_law_555 kc_2 ?_
  refine ev_iaddN (a := i) (b := 2) dL_law_556 ?_
  refine ev_sld dL_law_557 (pk_in (i + 2) (nw_L g) (by omega)) ?_
  refine s_callVi (As := [_, _]) hJ (Nat.le_of_ble_eq_true rfl) lL_65 kX10_heeds vX10_heeds dL_law_558 rfl rfl rfl (by decide) rfl (Nat.le_of_ble_eq_true rfl) ?_
  rintro r2 K ⟨rfl, hK⟩
  exact ev_icmp_eq (tgt := 1384) dL_law_561 (by decide) (fun _ => kk K hK) (fun h => absurd rfl h)
theorem lc_12 (hI : iv I) (hi : i + 6 ≤ nw_L g) (hL : nw_L g ≤ 384) (kk : ∀ K, iv K → nw_S l g 10 (mL nm) 1384 [some (.ref (nw_sc g)), some (.ref (nw_a g 0)), some (.ref (nw_a g 219)), some (.int (nI i))] [] K Post) : nw_S l g 10 (mL nm) 566 [some (.ref (nw_sc g)), some (.ref (nw_a g 0)), some (.ref (nw_a g 219)), some (.int (nI i))] [] I Post := by
  refine ev_aload_n (i := 1) dL_law_566 rfl rfl ?_
  refine s_callVi (As := []) (st_undo hI) (Nat.le_of_ble_eq_true rfl) lL_66 kX9_undo vX9_undo dL_law_567 rfl rfl rfl (by decide) rfl (Nat.le_of_ble_eq_true rfl) ?_
  intro r J hJ
  refine ev_aload_n (i := 2) dL_law_570 rfl rfl ?_
  refine s_callVi (As := []) hJ (Nat.le_of_ble_eq_true rfl) lL_69 kX10_undo vX10_undo dL_law_571 rfl rfl rfl (by decide) rfl (Nat.le_of_ble_eq_true rfl) ?_
  rintro r2 K ⟨rfl, hK⟩
  exact ev_icmp_eq (tgt := 1384) dL_law_574 (by decide) (fun _ => kk K hK) (fun h => absurd rfl h)
theorem lc_13 (hI : iv I) (hi : i + 6 ≤ nw_L g) (hL : nw_L g ≤ 384) (kk : ∀ K, iv K → nw_S l g 10 (mL nm) 1384 [some (.ref (nw_sc g)), some (.ref (nw_a g 0)), some (.ref (nw_a g 219)), some (.int (nI i))] [] K Post) : nw_S l g 10 (mL nm) 579 [some (.ref (nw_sc g)), some (.ref (nw_a g 0)), some (.ref (nw_a g 219)), some (.int (nI i))] [] I Post := by
  refine ev_aload_n (i := 1) dL_law_579 rfl rfl ?_
  refine ev_aload_n (i := 0) dL_law_580 rfl rfl ?_
  refine ev_iload_n (i := 3) dL_law_581 rfl rfl ?_
  refine ev_iconst (v := 1) dL_law_582 kc_1 ?_
  refine ev_iaddN (a := i) (b := 1) dL_law_583 ?_
  refine ev_sld dL_law_584 (pk_in (i + 1) (nw_L g) (by omega)) ?_
  refine ev_aload_n (i := 0) dL_law_585 rfl rfl ?_
  refine ev_iload_n (i := 3) dL_law_586 rfl rfl ?_
  refine ev_iconst (v := 2) dL_law_587 kc_2 ?_
  refine ev_iaddN (a := i) (b := 2) dL_law_588 ?_
  refine ev_sld dL_law_589 (pk_in (i + 2) (nw_L g) (by omega)) ?_
  refine s_callVi (As := [_, _]) (st_ship hI _ _) (Nat.le_of_ble_eq_true rfl) lL_70 kX9_ship vX9_ship dL_law_590 rfl rfl rfl (by decide) rfl (Nat.le_of_ble_eq_true rfl) ?_
  intro r J hJ
  refine ev_aload_n (i := 2) dL_law_593 rfl rfl ?_
  refine ev_aload_n (i := 0) dL_law_594 rfl rfl ?_
  refine ev_iload_n (i := 3) dL_law_595 rfl rfl ?_
  refine ev_iconst (v := 1) dL_law_596 kc_1 ?_
  refine ev_iaddN (a := i) (b := 1) dL_law_597 ?_
  refine ev_sld dL_law_598 (pk_in (i + 1) (nw_L g) (by omega)) ?_
  refine ev_aload_n (i := 0) dL_law_599 rfl rfl ?_
  refine ev_iload_n (i := 3) dL_law_600 rfl rfl ?_
  refine ev_iconst (v := 2) dL_law_601 kc_2 ?_
  refine ev_iaddN (a := i) (b := 2) dL_law_602 ?_
  refine ev_sld dL_law_603 (pk_in (i + 2) (nw_L g) (by omega)) ?_
  refine s_callVi (As := [_, _]) hJ (Nat.le_of_ble_eq_true rfl) lL_73 kX10_ship vX10_ship dL_law_604 rfl rfl rfl (by decide) rfl (Nat.le_of_ble_eq_true rfl) ?_
  rintro r2 K ⟨rfl, hK⟩
  exact ev_icmp_eq (tgt := 1384) dL_law_607 (by decide) (fun _ => kk K hK) (fun h => absurd rfl h)
theorem lc_14 (hI : iv I) (hi : i + 6 ≤ nw_L g) (hL : nw_L g ≤ 384) (kk : ∀ K, iv K → nw_S l g 10 (mL nm) 1384 [some (.ref (nw_sc g)), some (.ref (nw_a g 0)), some (.ref (nw_a g 219)), some (.int (nI i))] [] K Post) : nw_S l g 10 (mL nm) 612 [some (.ref (nw_sc g)), some (.ref (nw_a g 0)), some (.ref (nw_a g 219)), some (.int (nI i))] [] I Post := by
  refine ev_aload_n (i := 1) dL_law_612 rfl rfl ?_
  refine ev_aload_n (i := 0) dL_law_613 rfl rfl ?_
  refine ev_iload_n (i := 3) dL_law_614 rfl rfl ?_
  refine ev_iconst (v := 1) dL_law_615 kc_1 ?_
  refine ev_iaddN (a := i) (b := 1) dL_law_616 ?_
  refine ev_sld dL_law_617 (pk_in (i + 1) (nw_L g) (by omega)) ?_
  refine ev_aload_n (i := 0) dL_law_618 rfl rfl ?_
  refine ev_iload_n (i := 3) dL_law_619 rfl rfl ?_
  refine ev_iconst (v := 2) dL_law_620 kc_2 ?_
  refine ev_iaddN (a := i) (b := 2) dL_law_621 ?_
  refine ev_sld dL_law_622 (pk_in (i + 2) (nw_L g) (by omega)) ?_
  refine s_callVi (As := [_, _]) (st_tower hI _ _) (Nat.le_of_ble_eq_true rfl) lL_74 kX9_tower vX9_tower dL_law_623 rfl rfl rfl (by decide) rfl (Nat.le_of_ble_eq_true rfl) ?_
  intro r J hJ
  refine ev_aload_n (i := 2) dL_law_626 rfl rfl ?_
  refine ev_aload_n (i := 0) dL_law_627 rfl rfl ?_
  refine ev_iload_n (i := 3) dL_law_628 rfl rfl ?_
  refine ev_iconst (v := 1) dL_law_629 kc_1 ?_
  refine ev_iaddN (a := i) (b := 1) dL_law_630 ?_
  refine ev_sld dL_law_631 (pk_in (i + 1) (nw_L g) (by omega)) ?_
  refine ev_aload_n (i := 0) dL_law_632 rfl rfl ?_
  refine ev_iload_n (i := 3) dL_law_633 rfl rfl ?_
  refine ev_iconst (v := 2) dL_law_634 kc_2 ?_
  refine ev_iaddN (a := i) (b := 2) dL_law_635 ?_
  refine ev_sld dL_law_636 (pk_in (i + 2) (nw_L g) (by omega)) ?_
  refine s_callVi (As := [_, _]) hJ (Nat.le_of_ble_eq_true rfl) lL_77 kX10_tower vX10_tower dL_law_637 rfl rfl rfl (by decide) rfl (Nat.le_of_ble_eq_true rfl) ?_
  rintro r2 K ⟨rfl, hK⟩
  exact ev_icmp_eq (tgt := 1384) dL_law_640 (by decide) (fun _ => kk K hK) (fun h => absurd rfl h)
theorem lc_15 (hI : iv I) (hi : i + 6 ≤ nw_L g) (hL : nw_L g ≤ 384) (kk : ∀ K, iv K → nw_S l g 10 (mL nm) 1384 [some (.ref (nw_sc g)), some (.ref (nw_a g 0)), some (.ref (nw_a g 219)), some (.int (nI i))] [] K Post) : nw_S l g 10 (mL nm) 645 [some (.ref (nw_sc g)), some (.ref (nw_a g 0)), some (.ref (nw_a g 219)), some (.int (nI i))] [] I Post := by
  refine ev_aload_n (i := 1) dL_law_645 rfl rfl ?_
  refine ev_aload_n (i := 0) dL_law_646 rfl rfl ?_
  refine ev_iload_n (i := 3) dL_law_647 rfl rfl ?_
  refine ev_iconst (v := 1) dL_law_648 kc_1 ?_
  refine ev_iaddN (a := i) (b := 1) dL_law_649 ?_
  refine ev_sld dL_law_650 (pk_in (i + 1) (nw_L g) (by omega)) ?_
  refine ev_aload_n (i := 0) dL_law_651 rfl rfl ?_
  refine ev_iload_n (i := 3) dL_law_652 rfl rfl ?_
  refine ev_iconst (v := 2) dL_law_653 kc_2 ?_
  refine ev_iaddN (a := i) (b := 2) dL_law_654 ?_
  refine ev_sld dL_law_655 (pk_in (i + 2) (nw_L g) (by omega)) ?_
  refine s_callVi (As := [_, _]) (st_wave hI _ _) (Nat.le_of_ble_eq_true rfl) lL_78 kX9_wave vX9_wave dL_law_656 rfl rfl rfl (by decide) rfl (Nat.le_of_ble_eq_true rfl) ?_
  intro r J hJ
  refine ev_aload_n (i := 2) dL_law_659 rfl rfl ?_
  refine ev_aload_n (i := 0) dL_law_660 rfl rfl ?_
  refine ev_iload_n (i := 3) dL_law_661 rfl rfl ?_
  refine ev_iconst (v := 1) dL_law_662 kc_1 ?_
  refine ev_iaddN (a := i) (b := 1) dL_law_663 ?_
  refine ev_sld dL_law_664 (pk_in (i + 1) (nw_L g) (by omega)) ?_
  refine ev_aload_n (i := 0) dL_law_665 rfl rfl ?_
  refine ev_iload_n (i := 3) dL_law_666 rfl rfl ?_
  refine ev_iconst (v := 2) dL_law_667 kc_2 ?_
  refine ev_iaddN (a := i) (b := 2) dL_law_668 ?_
  refine ev_sld dL_law_669 (pk_in (i + 2) (nw_L g) (by omega)) ?_
  refine s_callVi (As := [_, _]) hJ (Nat.le_of_ble_eq_true rfl) lL_81 kX10_wave vX10_wave dL_law_670 rfl rfl rfl (by decide) rfl (Nat.le_of_ble_eq_true rfl) ?_
  rintro r2 K ⟨rfl, hK⟩
  exact ev_icmp_eq (tgt := 1384) dL_law_673 (by decide) (fun _ => kk K hK) (fun h => absurd rfl h)
theorem lc_16 (hI : iv I) (hi : i + 6 ≤ nw_L g) (hL : nw_L g ≤ 384) (kk : ∀ K, iv K → nw_S l g 10 (mL nm) 1384 [some (.ref (nw_sc g)), some (.ref (nw_a g 0)), some (.ref (nw_a g 219)), some (.int (nI i))] [] K Post) : nw_S l g 10 (mL nm) 678 [some (.ref (nw_sc g)), some (.ref (nw_a g 0)), some (.ref (nw_a g 219)), some (.int (nI i))] [] I Post := by
  refine ev_aload_n (i := 1) dL_law_678 rfl rfl ?_
  refine ev_aload_n (i := 0) dL_law_679 rfl rfl ?_
  refine ev_iload_n (i := 3) dL_law_680 rfl rfl ?_
  refine ev_iconst (v := 1) dL_law_681 kc_1 ?_
  refine ev_iaddN (a := i) (b := 1) dL_law_682 ?_
  refine ev_sld dL_law_683 (pk_in (i + 1) (nw_L g) (by omega)) ?_
  refine ev_aload_n (i := 0) dL_law_684 rfl rfl ?_
  refine ev_iload_n (i := 3) dL_law_685 rfl rfl ?_
  refine ev_iconst (v := 2) dL_law_686 kc_2 ?_
  refine ev_iaddN (a := i) (b := 2) dL_law_687 ?_
  refine ev_sld dL_law_688 (pk_in (i + 2) (nw_L g) (by omega)) ?_
  refine s_callVi (As := [_, _]) (st_ahead hI _ _) (Nat.le_of_ble_eq_true rfl) lL_82 kX9_ahead vX9_ahead dL_law_689 rfl rfl rfl (by decide) rfl (Nat.le_of_ble_eq_true rfl) ?_
  intro r J hJ
  refine ev_aload_n (i := 2) dL_law_692 rfl rfl ?_
  refine ev_aload_n (i := 0) dL_law_693 rfl rfl ?_
  refine ev_iload_n (i := 3) dL_law_694 rfl rfl ?_
  refine ev_iconst (v := 1) dL_law_695 kc_1 ?_
  refine ev_iaddN (a := i) (b := 1) dL_law_696 ?_
  refine ev_sld dL_law_697 (pk_in (i + 1) (nw_L g) (by omega)) ?_
  refine ev_aload_n (i := 0) dL_law_698 rfl rfl ?_
  refine ev_iload_n (i := 3) dL_law_699 rfl rfl ?_
  refine ev_iconst (v := 2) dL_law_700 kc_2 ?_
  refine ev_iaddN (a := i) (b := 2) dL_law_701 ?_
  refine ev_sld dL_law_702 (pk_in (i + 2) (nw_L g) (by omega)) ?_
  refine s_callVi (As := [_, _]) hJ (Nat.le_of_ble_eq_true rfl) lL_85 kX10_ahead vX10_ahead dL_law_703 rfl rfl rfl (by decide) rfl (Nat.le_of_ble_eq_true rfl) ?_
  rintro r2 K ⟨rfl, hK⟩
  exact ev_icmp_eq (tgt := 1384) dL_law_706 (by decide) (fun _ => kk K hK) (fun h => absurd rfl h)
theorem lc_17 (hI : iv I) (hi : i + 6 ≤ nw_L g) (hL : nw_L g ≤ 384) (kk : ∀ K, iv K → nw_S l g 10 (mL nm) 1384 [some (.ref (nw_sc g)), some (.ref (nw_a g 0)), some (.ref (nw_a g 219)), some (.int (nI i))] [] K Post) : nw_S l g 10 (mL nm) 711 [some (.ref (nw_sc g)), some (.ref (nw_a g 0)), some (.ref (nw_a g 219)), some (.int (nI i))] [] I Post := by
  refine ev_aload_n (i := 1) dL_law_711 rfl rfl ?_
  refine ev_aload_n (i := 0) dL_law_712 rfl rfl ?_
  refine ev_iload_n (i := 3) dL_law_713 rfl rfl ?_
  refine ev_iconst (v := 1) dL_law_714 kc_1 ?_
  refine ev_iaddN (a := i) (b := 1) dL_law_715 ?_
  refine ev_sld dL_law_716 (pk_in (i + 1) (nw_L g) (by omega)) ?_
  refine ev_aload_n (i := 0) dL_law_717 rfl rfl ?_
  refine ev_iload_n (i := 3) dL_law_718 rfl rfl ?_
  refine ev_iconst (v := 2) dL_law_719 kc_2 ?_
  refine ev_iaddN (a := i) (b := 2) dL_law_720 ?_
  refine ev_sld dL_law_721 (pk_in (i + 2) (nw_L g) (by omega)) ?_
  refine ev_aload_n (i := 0) dL_law_722 rfl rfl ?_
  refine ev_iload_n (i := 3) dL_law_723 rfl rfl ?_
  refine ev_iconst (v := 3) dL_law_724 kc_3 ?_
  refine ev_iaddN (a := i) (b := 3) dL_law_725 ?_
  refine ev_sld dL_law_726 (pk_in (i + 3) (nw_L g) (by omega)) ?_
  refine s_callVi (As := [_, _, _]) (st_shipAhead hI _ _ _) (Nat.le_of_ble_eq_true rfl) lL_86 kX9_shipAhead vX9_shipAhead dL_law_727 rfl rfl rfl (by decide) rfl (Nat.le_of_ble_eq_true rfl) ?_
  intro r J hJ
  refine ev_aload_n (i := 2) dL_law_730 rfl rfl ?_
  refine ev_aload_n (i := 0) dL_law_731 rfl rfl ?_
  refine ev_iload_n (i := 3) dL_law_732 rfl rfl ?_
  refine ev_iconst (v := 1) dL_law_733 kc_1 ?_
  refine ev_iaddN (a := i) (b := 1) dL_law_734 ?_
  refine ev_sld dL_law_735 (pk_in (i + 1) (nw_L g) (by omega)) ?_
  refine ev_aload_n (i := 0) dL_law_736 rfl rfl ?_
  refine ev_iload_n (i := 3) dL_law_737 rfl rfl ?_
  refine ev_iconst (v := 2) dL_law_738 kc_2 ?_
  refine ev_iaddN (a := i) (b := 2) dL_law_739 ?_
  refine ev_sld dL_law_740 (pk_in (i + 2) (nw_L g) (by omega)) ?_
  refine ev_aload_n (i := 0) dL_law_741 rfl rfl ?_
  refine ev_iload_n (i := 3) dL_law_742 rfl rfl ?_
  refine ev_iconst (v := 3) dL_law_743 kc_3 ?_
  refine ev_iaddN (a := i) (b := 3) dL_law_744 ?_
  refine ev_sld dL_law_745 (pk_in (i + 3) (nw_L g) (by omega)) ?_
  refine s_callVi (As := [_, _, _]) hJ (Nat.le_of_ble_eq_true rfl) lL_89 kX10_shipAhead vX10_shipAhead dL_law_746 rfl rfl rfl (by decide) rfl (Nat.le_of_ble_eq_true rfl) ?_
  rintro r2 K ⟨rfl, hK⟩
  exact ev_icmp_eq (tgt := 1384) dL_law_749 (by decide) (fun _ => kk K hK) (fun h => absurd rfl h)
theorem lc_18 (hI : iv I) (hi : i + 6 ≤ nw_L g) (hL : nw_L g ≤ 384) (kk : ∀ K, iv K → nw_S l g 10 (mL nm) 1384 [some (.ref (nw_sc g)), some (.ref (nw_a g 0)), some (.ref (nw_a g 219)), some (.int (nI i))] [] K Post) : nw_S l g 10 (mL nm) 754 [some (.ref (nw_sc g)), some (.ref (nw_a g 0)), some (.ref (nw_a g 219)), some (.int (nI i))] [] I Post := by
  refine ev_aload_n (i := 1) dL_law_754 rfl rfl ?_
  refine ev_aload_n (i := 0) dL_law_755 rfl rfl ?_
  refine ev_iload_n (i := 3) dL_law_756 rfl rfl ?_
  refine ev_iconst (v := 1) dL_law_757 kc_1 ?_
  refine ev_iaddN (a := i) (b := 1) dL_law_758 ?_
  refine ev_sld dL_law_759 (pk_in (i + 1) (nw_L g) (by omega)) ?_
  refine ev_aload_n (i := 0) dL_law_760 rfl rfl ?_
  refine ev_iload_n (i := 3) dL_law_761 rfl rfl ?_
  refine ev_iconst (v := 2) dL_law_762 kc_2 ?_
  refine ev_iaddN (a := i) (b := 2) dL_law_763 ?_
  refine ev_sld dL_law_764 (pk_in (i + 2) (nw_L g) (by omega)) ?_
  refine s_callVi (As := [_, _]) (st_towerAhead hI _ _) (Nat.le_of_ble_eq_true rfl) lL_90 kX9_towerAhead vX9_towerAhead dL_law_765 rfl rfl rfl (by decide) rfl (Nat.le_of_ble_eq_true rfl) ?_
  intro r J hJ
  refine ev_aload_n (i := 2) dL_law_768 rfl rfl ?_
  refine ev_aload_n (i := 0) dL_law_769 rfl rfl ?_
  refine ev_iload_n (i := 3) dL_law_770 rfl rfl ?_
  refine ev_iconst (v := 1) dL_law_771 kc_1 ?_
  refine ev_iaddN (a := i) (b := 1) dL_law_772 ?_
  refine ev_sld dL_law_773 (pk_in (i + 1) (nw_L g) (by omega)) ?_
  refine ev_aload_n (i := 0) dL_law_774 rfl rfl ?_
  refine ev_iload_n (i := 3) dL_law_775 rfl rfl ?_
  refine ev_iconst (v := 2) dL_law_776 kc_2 ?_
  refine ev_iaddN (a := i) (b := 2) dL_law_777 ?_
  refine ev_sld dL_law_778 (pk_in (i + 2) (nw_L g) (by omega)) ?_
  refine s_callVi (As := [_, _]) hJ (Nat.le_of_ble_eq_true rfl) lL_93 kX10_towerAhead vX10_towerAhead dL_law_779 rfl rfl rfl (by decide) rfl (Nat.le_of_ble_eq_true rfl) ?_
  rintro r2 K ⟨rfl, hK⟩
  exact ev_icmp_eq (tgt := 1384) dL_law_782 (by decide) (fun _ => kk K hK) (fun h => absurd rfl h)
theorem lc_19 (hI : iv I) (hi : i + 6 ≤ nw_L g) (hL : nw_L g ≤ 384) (kk : ∀ K, iv K → nw_S l g 10 (mL nm) 1384 [some (.ref (nw_sc g)), some (.ref (nw_a g 0)), some (.ref (nw_a g 219)), some (.int (nI i))] [] K Post) : nw_S l g 10 (mL nm) 787 [some (.ref (nw_sc g)), some (.ref (nw_a g 0)), some (.ref (nw_a g 219)), some (.int (nI i))] [] I Post := by
  refine ev_aload_n (i := 1) dL_law_787 rfl rfl ?_
  refine ev_aload_n (i := 0) dL_law_788 rfl rfl ?_
  refine ev_iload_n (i := 3) dL_law_789 rfl rfl ?_
  refine ev_iconst (v := 1) dL_law_790 kc_1 ?_
  refine ev_iaddN (a := i) (b := 1) dL_law_791 ?_
  refine ev_sld dL_law_792 (pk_in (i + 1) (nw_L g) (by omega)) ?_
  refine ev_aload_n (i := 0) dL_law_793 rfl rfl ?_
  refine ev_iload_n (i := 3) dL_law_794 rfl rfl ?_
  refine ev_iconst (v := 2) dL_law_795 kc_2 ?_
  refine ev_iaddN (a := i) (b := 2) dL_law_796 ?_
  refine ev_sld dL_law_797 (pk_in (i + 2) (nw_L g) (by omega)) ?_
  refine s_callVi (As := [_, _]) (st_called hI _ _) (Nat.le_of_ble_eq_true rfl) lL_94 kX9_called vX9_called dL_law_798 rfl rfl rfl (by decide) rfl (Nat.le_of_ble_eq_true rfl) ?_
  intro r J hJ
  refine ev_aload_n (i := 2) dL_law_801 rfl rfl ?_
  refine ev_aload_n (i := 0) dL_law_802 rfl rfl ?_
  refine ev_iload_n (i := 3) dL_law_803 rfl rfl ?_
  refine ev_iconst (v := 1) dL_law_804 kc_1 ?_
  refine ev_iaddN (a := i) (b := 1) dL_law_805 ?_
  refine ev_sld dL_law_806 (pk_in (i + 1) (nw_L g) (by omega)) ?_
  refine ev_aload_n (i := 0) dL_law_807 rfl rfl ?_
  refine ev_iload_n (i := 3) dL_law_808 rfl rfl ?_
  refine ev_iconst (v := 2) dL_law_809 kc_2 ?_
  refine ev_iaddN (a := i) (b := 2) dL_law_810 ?_
  refine ev_sld dL_law_811 (pk_in (i + 2) (nw_L g) (by omega)) ?_
  refine s_callVi (As := [_, _]) hJ (Nat.le_of_ble_eq_true rfl) lL_97 kX10_called vX10_called dL_law_812 rfl rfl rfl (by decide) rfl (Nat.le_of_ble_eq_true rfl) ?_
  rintro r2 K ⟨rfl, hK⟩
  exact ev_icmp_eq (tgt := 1384) dL_law_815 (by decide) (fun _ => kk K hK) (fun h => absurd rfl h)
theorem lc_20 (hI : iv I) (hi : i + 6 ≤ nw_L g) (hL : nw_L g ≤ 384) (kk : ∀ K, iv K → nw_S l g 10 (mL nm) 1384 [some (.ref (nw_sc g)), some (.ref (nw_a g 0)), some (.ref (nw_a g 219)), some (.int (nI i))] [] K Post) : nw_S l g 10 (mL nm) 820 [some (.ref (nw_sc g)), some (.ref (nw_a g 0)), some (.ref (nw_a g 219)), some (.int (nI i))] [] I Post := by
  refine ev_aload_n (i := 1) dL_law_820 rfl rfl ?_
  refine ev_aload_n (i := 0) dL_law_821 rfl rfl ?_
  refine ev_iload_n (i := 3) dL_law_822 rfl rfl ?_
  refine ev_iconst (v := 1) dL_law_823 kc_1 ?_
  refine ev_iaddN (a := i) (b := 1) dL_law_824 ?_
  refine ev_sld dL_law_825 (pk_in (i + 1) (nw_L g) (by omega)) ?_
  refine ev_aload_n (i := 0) dL_law_826 rfl rfl ?_
  refine ev_iload_n (i := 3) dL_law_827 rfl rfl ?_
  refine ev_iconst (v := 2) dL_law_828 kc_2 ?_
  refine ev_iaddN (a := i) (b := 2) dL_law_829 ?_
  refine ev_sld dL_law_830 (pk_in (i + 2) (nw_L g) (by omega)) ?_
  refine s_callVi (As := [_, _]) (st_fit hI _ _) (Nat.le_of_ble_eq_true rfl) lL_98 kX9_fit vX9_fit dL_law_831 rfl rfl rfl (by decide) rfl (Nat.le_of_ble_eq_true rfl) ?_
  intro r J hJ
  refine ev_aload_n (i := 2) dL_law_834 rfl rfl ?_
  refine ev_aload_n (i := 0) dL_law_835 rfl rfl ?_
  refine ev_iload_n (i := 3) dL_law_836 rfl rfl ?_
  refine ev_iconst (v := 1) dL_law_837 kc_1 ?_
  refine ev_iaddN (a := i) (b := 1) dL_law_838 ?_
  refine ev_sld dL_law_839 (pk_in (i + 1) (nw_L g) (by omega)) ?_
  refine ev_aload_n (i := 0) dL_law_840 rfl rfl ?_
  refine ev_iload_n (i := 3) dL_law_841 rfl rfl ?_
  refine ev_iconst (v := 2) dL_law_842 kc_2 ?_
  refine ev_iaddN (a := i) (b := 2) dL_law_843 ?_
  refine ev_sld dL_law_844 (pk_in (i + 2) (nw_L g) (by omega)) ?_
  refine s_callVi (As := [_, _]) hJ (Nat.le_of_ble_eq_true rfl) lL_101 kX10_fit vX10_fit dL_law_845 rfl rfl rfl (by decide) rfl (Nat.le_of_ble_eq_true rfl) ?_
  rintro r2 K ⟨rfl, hK⟩
  exact ev_icmp_eq (tgt := 1384) dL_law_848 (by decide) (fun _ => kk K hK) (fun h => absurd rfl h)
theorem lc_21 (hI : iv I) (hi : i + 6 ≤ nw_L g) (hL : nw_L g ≤ 384) (kk : ∀ K, iv K → nw_S l g 10 (mL nm) 1384 [some (.ref (nw_sc g)), some (.ref (nw_a g 0)), some (.ref (nw_a g 219)), some (.int (nI i))] [] K Post) : nw_S l g 10 (mL nm) 853 [some (.ref (nw_sc g)), some (.ref (nw_a g 0)), some (.ref (nw_a g 219)), some (.int (nI i))] [] I Post := by
  refine ev_aload_n (i := 1) dL_law_853 rfl rfl ?_
  refine ev_aload_n (i := 0) dL_law_854 rfl rfl ?_
  refine ev_iload_n (i := 3) dL_law_855 rfl rfl ?_
  refine ev_iconst (v := 1) dL_law_856 kc_1 ?_
  refine ev_iaddN (a := i) (b := 1) dL_law_857 ?_
  refine ev_sld dL_law_858 (pk_in (i + 1) (nw_L g) (by omega)) ?_
  refine ev_aload_n (i := 0) dL_law_859 rfl rfl ?_
  refine ev_iload_n (i := 3) dL_law_860 rfl rfl ?_
  refine ev_iconst (v := 2) dL_law_861 kc_2 ?_
  refine ev_iaddN (a := i) (b := 2) dL_law_862 ?_
  refine ev_sld dL_law_863 (pk_in (i + 2) (nw_L g) (by omega)) ?_
  refine s_callVi (As := [_, _]) (st_highest hI _ _) (Nat.le_of_ble_eq_true rfl) lL_102 kX9_highest vX9_highest dL_law_864 rfl rfl rfl (by decide) rfl (Nat.le_of_ble_eq_true rfl) ?_
  intro r J hJ
  refine ev_aload_n (i := 2) dL_law_867 rfl rfl ?_
  refine ev_aload_n (i := 0) dL_law_868 rfl rfl ?_
  refine ev_iload_n (i := 3) dL_law_869 rfl rfl ?_
  refine ev_iconst (v := 1) dL_law_870 kc_1 ?_
  refine ev_iaddN (a := i) (b := 1) dL_law_871 ?_
  refine ev_sld dL_law_872 (pk_in (i + 1) (nw_L g) (by omega)) ?_
  refine ev_aload_n (i := 0) dL_law_873 rfl rfl ?_
  refine ev_iload_n (i := 3) dL_law_874 rfl rfl ?_
  refine ev_iconst (v := 2) dL_law_875 kc_2 ?_
  refine ev_iaddN (a := i) (b := 2) dL_law_876 ?_
  refine ev_sld dL_law_877 (pk_in (i + 2) (nw_L g) (by omega)) ?_
  refine s_callVi (As := [_, _]) hJ (Nat.le_of_ble_eq_true rfl) lL_105 kX10_highest vX10_highest dL_law_878 rfl rfl rfl (by decide) rfl (Nat.le_of_ble_eq_true rfl) ?_
  rintro r2 K ⟨rfl, hK⟩
  exact ev_icmp_eq (tgt := 1384) dL_law_881 (by decide) (fun _ => kk K hK) (fun h => absurd rfl h)
theorem lc_22 (hI : iv I) (hi : i + 6 ≤ nw_L g) (hL : nw_L g ≤ 384) (kk : ∀ K, iv K → nw_S l g 10 (mL nm) 1384 [some (.ref (nw_sc g)), some (.ref (nw_a g 0)), some (.ref (nw_a g 219)), some (.int (nI i))] [] K Post) : nw_S l g 10 (mL nm) 886 [some (.ref (nw_sc g)), some (.ref (nw_a g 0)), some (.ref (nw_a g 219)), some (.int (nI i))] [] I Post := by
  refine ev_aload_n (i := 1) dL_law_886 rfl rfl ?_
  refine ev_aload_n (i := 0) dL_law_887 rfl rfl ?_
  refine ev_iload_n (i := 3) dL_law_888 rfl rfl ?_
  refine ev_iconst (v := 1) dL_law_889 kc_1 ?_
  refine ev_iaddN (a := i) (b := 1) dL_law_890 ?_
  refine ev_sld dL_law_891 (pk_in (i + 1) (nw_L g) (by omega)) ?_
  refine ev_aload_n (i := 0) dL_law_892 rfl rfl ?_
  refine ev_iload_n (i := 3) dL_law_893 rfl rfl ?_
  refine ev_iconst (v := 2) dL_law_894 kc_2 ?_
  refine ev_iaddN (a := i) (b := 2) dL_law_895 ?_
  refine ev_sld dL_law_896 (pk_in (i + 2) (nw_L g) (by omega)) ?_
  refine s_callVi (As := [_, _]) (st_order hI _ _) (Nat.le_of_ble_eq_true rfl) lL_106 kX9_order vX9_order dL_law_897 rfl rfl rfl (by decide) rfl (Nat.le_of_ble_eq_true rfl) ?_
  intro r J hJ
  refine ev_aload_n (i := 2) dL_law_900 rfl rfl ?_
  refine ev_aload_n (i := 0) dL_law_901 rfl rfl ?_
  refine ev_iload_n (i := 3) dL_law_902 rfl rfl ?_
  refine ev_iconst (v := 1) dL_law_903 kc_1 ?_
  refine ev_iaddN (a := i) (b := 1) dL_law_904 ?_
  refine ev_sld dL_law_905 (pk_in (i + 1) (nw_L g) (by omega)) ?_
  refine ev_aload_n (i := 0) dL_law_906 rfl rfl ?_
  refine ev_iload_n (i := 3) dL_law_907 rfl rfl ?_
  refine ev_iconst (v := 2) dL_law_908 kc_2 ?_
  refine ev_iaddN (a := i) (b := 2) dL_law_909 ?_
  refine ev_sld dL_law_910 (pk_in (i + 2) (nw_L g) (by omega)) ?_
  refine s_callVi (As := [_, _]) hJ (Nat.le_of_ble_eq_true rfl) lL_109 kX10_order vX10_order dL_law_911 rfl rfl rfl (by decide) rfl (Nat.le_of_ble_eq_true rfl) ?_
  rintro r2 K ⟨rfl, hK⟩
  exact ev_icmp_eq (tgt := 1384) dL_law_914 (by decide) (fun _ => kk K hK) (fun h => absurd rfl h)
theorem lc_23 (hI : iv I) (hi : i + 6 ≤ nw_L g) (hL : nw_L g ≤ 384) (kk : ∀ K, iv K → nw_S l g 10 (mL nm) 1384 [some (.ref (nw_sc g)), some (.ref (nw_a g 0)), some (.ref (nw_a g 219)), some (.int (nI i))] [] K Post) : nw_S l g 10 (mL nm) 919 [some (.ref (nw_sc g)), some (.ref (nw_a g 0)), some (.ref (nw_a g 219)), some (.int (nI i))] [] I Post := by
  refine ev_aload_n (i := 1) dL_law_919 rfl rfl ?_
  refine ev_aload_n (i := 0) dL_law_920 rfl rfl ?_
  refine ev_iload_n (i := 3) dL_law_921 rfl rfl ?_
  refine ev_iconst (v := 1) dL_law_922 kc_1 ?_
  refine ev_iaddN (a := i) (b := 1) dL_law_923 ?_
  refine ev_sld dL_law_924 (pk_in (i + 1) (nw_L g) (by omega)) ?_
  refine ev_aload_n (i := 0) dL_law_925 rfl rfl ?_
  refine ev_iload_n (i := 3) dL_law_926 rfl rfl ?_
  refine ev_iconst (v := 2) dL_law_927 kc_2 ?_
  refine ev_iaddN (a := i) (b := 2) dL_law_928 ?_
  refine ev_sld dL_law_929 (pk_in (i + 2) (nw_L g) (by omega)) ?_
  refine s_callVi (As := [_, _]) (st_laws hI _ _) (Nat.le_of_ble_eq_true rfl) lL_110 kX9_laws vX9_laws dL_law_930 rfl rfl rfl (by decide) rfl (Nat.le_of_ble_eq_true rfl) ?_
  intro r J hJ
  refine ev_aload_n (i := 2) dL_law_933 rfl rfl ?_
  refine ev_aload_n (i := 0) dL_law_934 rfl rfl ?_
  refine ev_iload_n (i := 3) dL_law_935 rfl rfl ?_
  refine ev_iconst (v := 1) dL_law_936 kc_1 ?_
  refine ev_iaddN (a := i) (b := 1) dL_law_937 ?_
  refine ev_sld dL_law_938 (pk_in (i + 1) (nw_L g) (by omega)) ?_
  refine ev_aload_n (i := 0) dL_law_939 rfl rfl ?_
  refine ev_iload_n (i := 3) dL_law_940 rfl rfl ?_
  refine ev_iconst (v := 2) dL_law_941 kc_2 ?_
  refine ev_iaddN (a := i) (b := 2) dL_law_942 ?_
  refine ev_sld dL_law_943 (pk_in (i + 2) (nw_L g) (by omega)) ?_
  refine s_callVi (As := [_, _]) hJ (Nat.le_of_ble_eq_true rfl) lL_113 kX10_laws vX10_laws dL_law_944 rfl rfl rfl (by decide) rfl (Nat.le_of_ble_eq_true rfl) ?_
  rintro r2 K ⟨rfl, hK⟩
  exact ev_icmp_eq (tgt := 1384) dL_law_947 (by decide) (fun _ => kk K hK) (fun h => absurd rfl h)
theorem lc_24 (hI : iv I) (hi : i + 6 ≤ nw_L g) (hL : nw_L g ≤ 384) (kk : ∀ K, iv K → nw_S l g 10 (mL nm) 1384 [some (.ref (nw_sc g)), some (.ref (nw_a g 0)), some (.ref (nw_a g 219)), some (.int (nI i))] [] K Post) : nw_S l g 10 (mL nm) 952 [some (.ref (nw_sc g)), some (.ref (nw_a g 0)), some (.ref (nw_a g 219)), some (.int (nI i))] [] I Post := by
  refine ev_aload_n (i := 1) dL_law_952 rfl rfl ?_
  refine ev_aload_n (i := 0) dL_law_953 rfl rfl ?_
  refine ev_iload_n (i := 3) dL_law_954 rfl rfl ?_
  refine ev_iconst (v := 1) dL_law_955 kc_1 ?_
  refine ev_iaddN (a := i) (b := 1) dL_law_956 ?_
  refine ev_sld dL_law_957 (pk_in (i + 1) (nw_L g) (by omega)) ?_
  refine ev_aload_n (i := 0) dL_law_958 rfl rfl ?_
  refine ev_iload_n (i := 3) dL_law_959 rfl rfl ?_
  refine ev_iconst (v := 2) dL_law_960 kc_2 ?_
  refine ev_iaddN (a := i) (b := 2) dL_law_961 ?_
  refine ev_sld dL_law_962 (pk_in (i + 2) (nw_L g) (by omega)) ?_
  refine s_callVi (As := [_, _]) (st_bribe hI _ _) (Nat.le_of_ble_eq_true rfl) lL_114 kX9_bribe vX9_bribe dL_law_963 rfl rfl rfl (by decide) rfl (Nat.le_of_ble_eq_true rfl) ?_
  intro r J hJ
  refine ev_aload_n (i := 2) dL_law_966 rfl rfl ?_
  refine ev_aload_n (i := 0) dL_law_967 rfl rfl ?_
  refine ev_iload_n (i := 3) dL_law_968 rfl rfl ?_
  refine ev_iconst (v := 1) dL_law_969 kc_1 ?_
  refine ev_iaddN (a := i) (b := 1) dL_law_970 ?_
  refine ev_sld dL_law_971 (pk_in (i + 1) (nw_L g) (by omega)) ?_
  refine ev_aload_n (i := 0) dL_law_972 rfl rfl ?_
  refine ev_iload_n (i := 3) dL_law_973 rfl rfl ?_
  refine ev_iconst (v := 2) dL_law_974 kc_2 ?_
  refine ev_iaddN (a := i) (b := 2) dL_law_975 ?_
  refine ev_sld dL_law_976 (pk_in (i + 2) (nw_L g) (by omega)) ?_
  refine s_callVi (As := [_, _]) hJ (Nat.le_of_ble_eq_true rfl) lL_117 kX10_bribe vX10_bribe dL_law_977 rfl rfl rfl (by decide) rfl (Nat.le_of_ble_eq_true rfl) ?_
  rintro r2 K ⟨rfl, hK⟩
  exact ev_icmp_eq (tgt := 1384) dL_law_980 (by decide) (fun _ => kk K hK) (fun h => absurd rfl h)
theorem lc_25 (hI : iv I) (hi : i + 6 ≤ nw_L g) (hL : nw_L g ≤ 384) (kk : ∀ K, iv K → nw_S l g 10 (mL nm) 1384 [some (.ref (nw_sc g)), some (.ref (nw_a g 0)), some (.ref (nw_a g 219)), some (.int (nI i))] [] K Post) : nw_S l g 10 (mL nm) 985 [some (.ref (nw_sc g)), some (.ref (nw_a g 0)), some (.ref (nw_a g 219)), some (.int (nI i))] [] I Post := by
  refine ev_aload_n (i := 1) dL_law_985 rfl rfl ?_
  refine ev_aload_n (i := 0) dL_law_986 rfl rfl ?_
  refine ev_iload_n (i := 3) dL_law_987 rfl rfl ?_
  refine ev_iconst (v := 1) dL_law_988 kc_1 ?_
  refine ev_iaddN (a := i) (b := 1) dL_law_989 ?_
  refine ev_sld dL_law_990 (pk_in (i + 1) (nw_L g) (by omega)) ?_
  refine s_callVi (As := [_]) (st_heed hI _) (Nat.le_of_ble_eq_true rfl) lL_118 kX9_heed vX9_heed dL_law_991 rfl rfl rfl (by decide) rfl (Nat.le_of_ble_eq_true rfl) ?_
  intro r J hJ
  refine ev_aload_n (i := 2) dL_law_994 rfl rfl ?_
  refine ev_aload_n (i := 0) dL_law_995 rfl rfl ?_
  refine ev_iload_n (i := 3) dL_law_996 rfl rfl ?_
  refine ev_iconst (v := 1) dL_law_997 kc_1 ?_
  refine ev_iaddN (a := i) (b := 1) dL_law_998 ?_
  refine ev_sld dL_law_999 (pk_in (i + 1) (nw_L g) (by omega)) ?_
  refine s_callVi (As := [_]) hJ (Nat.le_of_ble_eq_true rfl) lL_121 kX10_heed vX10_heed dL_law_1000 rfl rfl rfl (by decide) rfl (Nat.le_of_ble_eq_true rfl) ?_
  rintro r2 K ⟨rfl, hK⟩
  exact ev_icmp_eq (tgt := 1384) dL_law_1003 (by decide) (fun _ => kk K hK) (fun h => absurd rfl h)
theorem lc_26 (hI : iv I) (hi : i + 6 ≤ nw_L g) (hL : nw_L g ≤ 384) (kk : ∀ K, iv K → nw_S l g 10 (mL nm) 1384 [some (.ref (nw_sc g)), some (.ref (nw_a g 0)), some (.ref (nw_a g 219)), some (.int (nI i))] [] K Post) : nw_S l g 10 (mL nm) 1008 [some (.ref (nw_sc g)), some (.ref (nw_a g 0)), some (.ref (nw_a g 219)), some (.int (nI i))] [] I Post := by
  refine ev_aload_n (i := 1) dL_law_1008 rfl rfl ?_
  refine ev_aload_n (i := 0) dL_law_1009 rfl rfl ?_
  refine ev_iload_n (i := 3) dL_law_1010 rfl rfl ?_
  refine ev_iconst (v := 1) dL_law_1011 kc_1 ?_
  refine ev_iaddN (a := i) (b := 1) dL_law_1012 ?_
  refine ev_sld dL_law_1013 (pk_in (i + 1) (nw_L g) (by omega)) ?_
  refine ev_aload_n (i := 0) dL_law_1014 rfl rfl ?_
  refine ev_iload_n (i := 3) dL_law_1015 rfl rfl ?_
  refine ev_iconst (v := 2) dL_law_1016 kc_2 ?_
  refine ev_iaddN (a := i) (b := 2) dL_law_1017 ?_
  refine ev_sld dL_law_1018 (pk_in (i + 2) (nw_L g) (by omega)) ?_
  refine s_callVi (As := [_, _]) (st_agreed hI _ _) (Nat.le_of_ble_eq_true rfl) lL_122 kX9_agreed vX9_agreed dL_law_1019 rfl rfl rfl (by decide) rfl (Nat.le_of_ble_eq_true rfl) ?_
  intro r J hJ
  refine ev_aload_n (i := 2) dL_law_1022 rfl rfl ?_
  refine ev_aload_n (i := 0) dL_law_1023 rfl rfl ?_
  refine ev_iload_n (i := 3) dL_law_1024 rfl rfl ?_
  refine ev_iconst (v := 1) dL_law_1025 kc_1 ?_
  refine ev_iaddN (a := i) (b := 1) dL_law_1026 ?_
  refine ev_sld dL_law_1027 (pk_in (i + 1) (nw_L g) (by omega)) ?_
  refine ev_aload_n (i := 0) dL_law_1028 rfl rfl ?_
  refine ev_iload_n (i := 3) dL_law_1029 rfl rfl ?_
  refine ev_iconst (v := 2) dL_law_1030 kc_2 ?_
  refine ev_iaddN (a := i) (b := 2) dL_law_1031 ?_
  refine ev_sld dL_law_1032 (pk_in (i + 2) (nw_L g) (by omega)) ?_
  refine s_callVi (As := [_, _]) hJ (Nat.le_of_ble_eq_true rfl) lL_125 kX10_agreed vX10_agreed dL_law_1033 rfl rfl rfl (by decide) rfl (Nat.le_of_ble_eq_true rfl) ?_
  rintro r2 K ⟨rfl, hK⟩
  exact ev_icmp_eq (tgt := 1384) dL_law_1036 (by decide) (fun _ => kk K hK) (fun h => absurd rfl h)
theorem lc_27 (hI : iv I) (hi : i + 6 ≤ nw_L g) (hL : nw_L g ≤ 384) (kk : ∀ K, iv K → nw_S l g 10 (mL nm) 1384 [some (.ref (nw_sc g)), some (.ref (nw_a g 0)), some (.ref (nw_a g 219)), some (.int (nI i))] [] K Post) : nw_S l g 10 (mL nm) 1041 [some (.ref (nw_sc g)), some (.ref (nw_a g 0)), some (.ref (nw_a g 219)), some (.int (nI i))] [] I Post := by
  refine ev_aload_n (i := 1) dL_law_1041 rfl rfl ?_
  refine ev_aload_n (i := 0) dL_law_1042 rfl rfl ?_
  refine ev_iload_n (i := 3) dL_law_1043 rfl rfl ?_
  refine ev_iconst (v := 1) dL_law_1044 kc_1 ?_
  refine ev_iaddN (a := i) (b := 1) dL_law_1045 ?_
  refine ev_sld dL_law_1046 (pk_in (i + 1) (nw_L g) (by omega)) ?_
  refine ev_aload_n (i := 0) dL_law_1047 rfl rfl ?_
  refine ev_iload_n (i := 3) dL_law_1048 rfl rfl ?_
  refine ev_iconst (v := 2) dL_law_1049 kc_2 ?_
  refine ev_iaddN (a := i) (b := 2) dL_law_1050 ?_
  refine ev_sld dL_law_1051 (pk_in (i + 2) (nw_L g) (by omega)) ?_
  refine ev_aload_n (i := 0) dL_law_1052 rfl rfl ?_
  refine ev_iload_n (i := 3) dL_law_1053 rfl rfl ?_
  refine ev_iconst (v := 3) dL_law_1054 kc_3 ?_
  refine ev_iaddN (a := i) (b := 3) dL_law_1055 ?_
  refine ev_sld dL_law_1056 (pk_in (i + 3) (nw_L g) (by omega)) ?_
  refine ev_aload_n (i := 0) dL_law_1057 rfl rfl ?_
  refine ev_iload_n (i := 3) dL_law_1058 rfl rfl ?_
  refine ev_iconst (v := 4) dL_law_1059 kc_4 ?_
  refine ev_iaddN (a := i) (b := 4) dL_law_1060 ?_
  refine ev_sld dL_law_1061 (pk_in (i + 4) (nw_L g) (by omega)) ?_
  refine s_callVi (As := [_, _, _, _]) (st_log hI _ _ _ _) (Nat.le_of_ble_eq_true rfl) lL_126 kX9_log vX9_log dL_law_1062 rfl rfl rfl (by decide) rfl (Nat.le_of_ble_eq_true rfl) ?_
  intro r J hJ
  refine ev_aload_n (i := 2) dL_law_1065 rfl rfl ?_
  refine ev_aload_n (i := 0) dL_law_1066 rfl rfl ?_
  refine ev_iload_n (i := 3) dL_law_1067 rfl rfl ?_
  refine ev_iconst (v := 1) dL_law_1068 kc_1 ?_
  refine ev_iaddN (a := i) (b := 1) dL_law_1069 ?_
  refine ev_sld dL_law_1070 (pk_in (i + 1) (nw_L g) (by omega)) ?_
  refine ev_aload_n (i := 0) dL_law_1071 rfl rfl ?_
  refine ev_iload_n (i := 3) dL_law_1072 rfl rfl ?_
  refine ev_iconst (v := 2) dL_law_1073 kc_2 ?_
  refine ev_iaddN (a := i) (b := 2) dL_law_1074 ?_
  refine ev_sld dL_law_1075 (pk_in (i + 2) (nw_L g) (by omega)) ?_
  refine ev_aload_n (i := 0) dL_law_1076 rfl rfl ?_
  refine ev_iload_n (i := 3) dL_law_1077 rfl rfl ?_
  refine ev_iconst (v := 3) dL_law_1078 kc_3 ?_
  refine ev_iaddN (a := i) (b := 3) dL_law_1079 ?_
  refine ev_sld dL_law_1080 (pk_in (i + 3) (nw_L g) (by omega)) ?_
  refine ev_aload_n (i := 0) dL_law_1081 rfl rfl ?_
  refine ev_iload_n (i := 3) dL_law_1082 rfl rfl ?_
  refine ev_iconst (v := 4) dL_law_1083 kc_4 ?_
  refine ev_iaddN (a := i) (b := 4) dL_law_1084 ?_
  refine ev_sld dL_law_1085 (pk_in (i + 4) (nw_L g) (by omega)) ?_
  refine s_callVi (As := [_, _, _, _]) hJ (Nat.le_of_ble_eq_true rfl) lL_130 kX10_log vX10_log dL_law_1086 rfl rfl rfl (by decide) rfl (Nat.le_of_ble_eq_true rfl) ?_
  rintro r2 K ⟨rfl, hK⟩
  exact ev_icmp_eq (tgt := 1384) dL_law_1089 (by decide) (fun _ => kk K hK) (fun h => absurd rfl h)
theorem lc_28 (hI : iv I) (hi : i + 6 ≤ nw_L g) (hL : nw_L g ≤ 384) (kk : ∀ K, iv K → nw_S l g 10 (mL nm) 1384 [some (.ref (nw_sc g)), some (.ref (nw_a g 0)), some (.ref (nw_a g 219)), some (.int (nI i))] [] K Post) : nw_S l g 10 (mL nm) 1094 [some (.ref (nw_sc g)), some (.ref (nw_a g 0)), some (.ref (nw_a g 219)), some (.int (nI i))] [] I Post := by
  refine ev_aload_n (i := 1) dL_law_1094 rfl rfl ?_
  refine ev_aload_n (i := 0) dL_law_1095 rfl rfl ?_
  refine ev_iload_n (i := 3) dL_law_1096 rfl rfl ?_
  refine ev_iconst (v := 1) dL_law_1097 kc_1 ?_
  refine ev_iaddN (a := i) (b := 1) dL_law_1098 ?_
  refine ev_sld dL_law_1099 (pk_in (i + 1) (nw_L g) (by omega)) ?_
  refine ev_aload_n (i := 0) dL_law_1100 rfl rfl ?_
  refine ev_iload_n (i := 3) dL_law_1101 rfl rfl ?_
  refine ev_iconst (v := 2) dL_law_1102 kc_2 ?_
  refine ev_iaddN (a := i) (b := 2) dL_law_1103 ?_
  refine ev_sld dL_law_1104 (pk_in (i + 2) (nw_L g) (by omega)) ?_
  refine ev_aload_n (i := 0) dL_law_1105 rfl rfl ?_
  refine ev_iload_n (i := 3) dL_law_1106 rfl rfl ?_
  refine ev_iconst (v := 3) dL_law_1107 kc_3 ?_
  refine ev_iaddN (a := i) (b := 3) dL_law_1108 ?_
  refine ev_sld dL_law_1109 (pk_in (i + 3) (nw_L g) (by omega)) ?_
  refine ev_aload_n (i := 0) dL_law_1110 rfl rfl ?_
  refine ev_iload_n (i := 3) dL_law_1111 rfl rfl ?_
  refine ev_iconst (v := 4) dL_law_1112 kc_4 ?_
  refine ev_iaddN (a := i) (b := 4) dL_law_1113 ?_
  refine ev_sld dL_law_1114 (pk_in (i + 4) (nw_L g) (by omega)) ?_
  refine s_callVi (As := [_, _, _, _]) (st_wreck hI _ _ _ _) (Nat.le_of_ble_eq_true rfl) lL_131 kX9_wreck vX9_wreck dL_law_1115 rfl rfl rfl (by decide) rfl (Nat.le_of_ble_eq_true rfl) ?_
  intro r J hJ
  refine ev_aload_n (i := 2) dL_law_1118 rfl rfl ?_
  refine ev_aload_n (i := 0) dL_law_1119 rfl rfl ?_
  refine ev_iload_n (i := 3) dL_law_1120 rfl rfl ?_
  refine ev_iconst (v := 1) dL_law_1121 kc_1 ?_
  refine ev_iaddN (a := i) (b := 1) dL_law_1122 ?_
  refine ev_sld dL_law_1123 (pk_in (i + 1) (nw_L g) (by omega)) ?_
  refine ev_aload_n (i := 0) dL_law_1124 rfl rfl ?_
  refine ev_iload_n (i := 3) dL_law_1125 rfl rfl ?_
  refine ev_iconst (v := 2) dL_law_1126 kc_2 ?_
  refine ev_iaddN (a := i) (b := 2) dL_law_1127 ?_
  refine ev_sld dL_law_1128 (pk_in (i + 2) (nw_L g) (by omega)) ?_
  refine ev_aload_n (i := 0) dL_law_1129 rfl rfl ?_
  refine ev_iload_n (i := 3) dL_law_1130 rfl rfl ?_
  refine ev_iconst (v := 3) dL_law_1131 kc_3 ?_
  refine ev_iaddN (a := i) (b := 3) dL_law_1132 ?_
  refine ev_sld dL_law_1133 (pk_in (i + 3) (nw_L g) (by omega)) ?_
  refine ev_aload_n (i := 0) dL_law_1134 rfl rfl ?_
  refine ev_iload_n (i := 3) dL_law_1135 rfl rfl ?_
  refine ev_iconst (v := 4) dL_law_1136 kc_4 ?_
  refine ev_iaddN (a := i) (b := 4) dL_law_1137 ?_
  refine ev_sld dL_law_1138 (pk_in (i + 4) (nw_L g) (by omega)) ?_
  refine s_callVi (As := [_, _, _, _]) hJ (Nat.le_of_ble_eq_true rfl) lL_134 kX10_wreck vX10_wreck dL_law_1139 rfl rfl rfl (by decide) rfl (Nat.le_of_ble_eq_true rfl) ?_
  rintro r2 K ⟨rfl, hK⟩
  exact ev_icmp_eq (tgt := 1384) dL_law_1142 (by decide) (fun _ => kk K hK) (fun h => absurd rfl h)
theorem lc_29 (hI : iv I) (hi : i + 6 ≤ nw_L g) (hL : nw_L g ≤ 384) (kk : ∀ K, iv K → nw_S l g 10 (mL nm) 1384 [some (.ref (nw_sc g)), some (.ref (nw_a g 0)), some (.ref (nw_a g 219)), some (.int (nI i))] [] K Post) : nw_S l g 10 (mL nm) 1147 [some (.ref (nw_sc g)), some (.ref (nw_a g 0)), some (.ref (nw_a g 219)), some (.int (nI i))] [] I Post := by
  refine ev_aload_n (i := 1) dL_law_1147 rfl rfl ?_
  refine ev_aload_n (i := 0) dL_law_1148 rfl rfl ?_
  refine ev_iload_n (i := 3) dL_law_1149 rfl rfl ?_
  refine ev_iconst (v := 1) dL_law_1150 kc_1 ?_
  refine ev_iaddN (a := i) (b := 1) dL_law_1151 ?_
  refine ev_sld dL_law_1152 (pk_in (i + 1) (nw_L g) (by omega)) ?_
  refine ev_aload_n (i := 0) dL_law_1153 rfl rfl ?_
  refine ev_iload_n (i := 3) dL_law_1154 rfl rfl ?_
  refine ev_iconst (v := 2) dL_law_1155 kc_2 ?_
  refine ev_iaddN (a := i) (b := 2) dL_law_1156 ?_
  refine ev_sld dL_law_1157 (pk_in (i + 2) (nw_L g) (by omega)) ?_
  refine ev_aload_n (i := 0) dL_law_1158 rfl rfl ?_
  refine ev_iload_n (i := 3) dL_law_1159 rfl rfl ?_
  refine ev_iconst (v := 3) dL_law_1160 kc_3 ?_
  refine ev_iaddN (a := i) (b := 3) dL_law_1161 ?_
  refine ev_sld dL_law_1162 (pk_in (i + 3) (nw_L g) (by omega)) ?_
  refine s_callVi (As := [_, _, _]) (st_season hI _ _ _) (Nat.le_of_ble_eq_true rfl) lL_135 kX9_season vX9_season dL_law_1163 rfl rfl rfl (by decide) rfl (Nat.le_of_ble_eq_true rfl) ?_
  intro r J hJ
  refine ev_aload_n (i := 2) dL_law_1166 rfl rfl ?_
  refine ev_aload_n (i := 0) dL_law_1167 rfl rfl ?_
  refine ev_iload_n (i := 3) dL_law_1168 rfl rfl ?_
  refine ev_iconst (v := 1) dL_law_1169 kc_1 ?_
  refine ev_iaddN (a := i) (b := 1) dL_law_1170 ?_
  refine ev_sld dL_law_1171 (pk_in (i + 1) (nw_L g) (by omega)) ?_
  refine ev_aload_n (i := 0) dL_law_1172 rfl rfl ?_
  refine ev_iload_n (i := 3) dL_law_1173 rfl rfl ?_
  refine ev_iconst (v := 2) dL_law_1174 kc_2 ?_
  refine ev_iaddN (a := i) (b := 2) dL_law_1175 ?_
  refine ev_sld dL_law_1176 (pk_in (i + 2) (nw_L g) (by omega)) ?_
  refine ev_aload_n (i := 0) dL_law_1177 rfl rfl ?_
  refine ev_iload_n (i := 3) dL_law_1178 rfl rfl ?_
  refine ev_iconst (v := 3) dL_law_1179 kc_3 ?_
  refine ev_iaddN (a := i) (b := 3) dL_law_1180 ?_
  refine ev_sld dL_law_1181 (pk_in (i + 3) (nw_L g) (by omega)) ?_
  refine s_callVi (As := [_, _, _]) hJ (Nat.le_of_ble_eq_true rfl) lL_138 kX10_season vX10_season dL_law_1182 rfl rfl rfl (by decide) rfl (Nat.le_of_ble_eq_true rfl) ?_
  rintro r2 K ⟨rfl, hK⟩
  exact ev_icmp_eq (tgt := 1384) dL_law_1185 (by decide) (fun _ => kk K hK) (fun h => absurd rfl h)
theorem lc_30 (hI : iv I) (hi : i + 6 ≤ nw_L g) (hL : nw_L g ≤ 384) (kk : ∀ K, iv K → nw_S l g 10 (mL nm) 1384 [some (.ref (nw_sc g)), some (.ref (nw_a g 0)), some (.ref (nw_a g 219)), some (.int (nI i))] [] K Post) : nw_S l g 10 (mL nm) 1190 [some (.ref (nw_sc g)), some (.ref (nw_a g 0)), some (.ref (nw_a g 219)), some (.int (nI i))] [] I Post := by
  refine ev_aload_n (i := 1) dL_law_1190 rfl rfl ?_
  refine ev_aload_n (i := 0) dL_law_1191 rfl rfl ?_
  refine ev_iload_n (i := 3) dL_law_1192 rfl rfl ?_
  refine ev_iconst (v := 1) dL_law_1193 kc_1 ?_
  refine ev_iaddN (a := i) (b := 1) dL_law_1194 ?_
  refine ev_sld dL_law_1195 (pk_in (i + 1) (nw_L g) (by omega)) ?_
  refine s_callVi (As := [_]) (st_image hI _) (Nat.le_of_ble_eq_true rfl) lL_139 kX9_image vX9_image dL_law_1196 rfl rfl rfl (by decide) rfl (Nat.le_of_ble_eq_true rfl) ?_
  intro r J hJ
  refine ev_aload_n (i := 2) dL_law_1199 rfl rfl ?_
  refine ev_aload_n (i := 0) dL_law_1200 rfl rfl ?_
  refine ev_iload_n (i := 3) dL_law_1201 rfl rfl ?_
  refine ev_iconst (v := 1) dL_law_1202 kc_1 ?_
  refine ev_iaddN (a := i) (b := 1) dL_law_1203 ?_
  refine ev_sld dL_law_1204 (pk_in (i + 1) (nw_L g) (by omega)) ?_
  refine s_callVi (As := [_]) hJ (Nat.le_of_ble_eq_true rfl) lL_142 kX10_image vX10_image dL_law_1205 rfl rfl rfl (by decide) rfl (Nat.le_of_ble_eq_true rfl) ?_
  rintro r2 K ⟨rfl, hK⟩
  exact ev_icmp_eq (tgt := 1384) dL_law_1208 (by decide) (fun _ => kk K hK) (fun h => absurd rfl h)
theorem lc_31 (hI : iv I) (hi : i + 6 ≤ nw_L g) (hL : nw_L g ≤ 384) (kk : ∀ K, iv K → nw_S l g 10 (mL nm) 1384 [some (.ref (nw_sc g)), some (.ref (nw_a g 0)), some (.ref (nw_a g 219)), some (.int (nI i))] [] K Post) : nw_S l g 10 (mL nm) 1213 [some (.ref (nw_sc g)), some (.ref (nw_a g 0)), some (.ref (nw_a g 219)), some (.int (nI i))] [] I Post := by
  refine ev_aload_n (i := 1) dL_law_1213 rfl rfl ?_
  refine ev_aload_n (i := 0) dL_law_1214 rfl rfl ?_
  refine ev_iload_n (i := 3) dL_law_1215 rfl rfl ?_
  refine ev_iconst (v := 1) dL_law_1216 kc_1 ?_
  refine ev_iaddN (a := i) (b := 1) dL_law_1217 ?_
  refine ev_sld dL_law_1218 (pk_in (i + 1) (nw_L g) (by omega)) ?_
  refine s_callVi (As := [_]) (st_restore hI _) (Nat.le_of_ble_eq_true rfl) lL_143 kX9_restore vX9_restore dL_law_1219 rfl rfl rfl (by decide) rfl (Nat.le_of_ble_eq_true rfl) ?_
  intro r J hJ
  refine ev_aload_n (i := 2) dL_law_1222 rfl rfl ?_
  refine ev_aload_n (i := 0) dL_law_1223 rfl rfl ?_
  refine ev_iload_n (i := 3) dL_law_1224 rfl rfl ?_
  refine ev_iconst (v := 1) dL_law_1225 kc_1 ?_
  refine ev_iaddN (a := i) (b := 1) dL_law_1226 ?_
  refine ev_sld dL_law_1227 (pk_in (i + 1) (nw_L g) (by omega)) ?_
  refine s_callVi (As := [_]) hJ (Nat.le_of_ble_eq_true rfl) lL_146 kX10_restore vX10_restore dL_law_1228 rfl rfl rfl (by decide) rfl (Nat.le_of_ble_eq_true rfl) ?_
  rintro r2 K ⟨rfl, hK⟩
  exact ev_icmp_eq (tgt := 1384) dL_law_1231 (by decide) (fun _ => kk K hK) (fun h => absurd rfl h)
theorem lc_32 (hI : iv I) (hi : i + 6 ≤ nw_L g) (hL : nw_L g ≤ 384) (kk : ∀ K, iv K → nw_S l g 10 (mL nm) 1384 [some (.ref (nw_sc g)), some (.ref (nw_a g 0)), some (.ref (nw_a g 219)), some (.int (nI i))] [] K Post) : nw_S l g 10 (mL nm) 1236 [some (.ref (nw_sc g)), some (.ref (nw_a g 0)), some (.ref (nw_a g 219)), some (.int (nI i))] [] I Post := by
  refine ev_aload_n (i := 1) dL_law_1236 rfl rfl ?_
  refine ev_aload_n (i := 0) dL_law_1237 rfl rfl ?_
  refine ev_iload_n (i := 3) dL_law_1238 rfl rfl ?_
  refine ev_iconst (v := 1) dL_law_1239 kc_1 ?_
  refine ev_iaddN (a := i) (b := 1) dL_law_1240 ?_
  refine ev_sld dL_law_1241 (pk_in (i + 1) (nw_L g) (by omega)) ?_
  refine s_callVi (As := [_]) (st_kind hI _) (Nat.le_of_ble_eq_true rfl) lL_147 kX9_kind vX9_kind dL_law_1242 rfl rfl rfl (by decide) rfl (Nat.le_of_ble_eq_true rfl) ?_
  intro r J hJ
  refine ev_aload_n (i := 2) dL_law_1245 rfl rfl ?_
  refine ev_aload_n (i := 0) dL_law_1246 rfl rfl ?_
  refine ev_iload_n (i := 3) dL_law_1247 rfl rfl ?_
  refine ev_iconst (v := 1) dL_law_1248 kc_1 ?_
  refine ev_iaddN (a := i) (b := 1) dL_law_1249 ?_
  refine ev_sld dL_law_1250 (pk_in (i + 1) (nw_L g) (by omega)) ?_
  refine s_callVi (As := [_]) hJ (Nat.le_of_ble_eq_true rfl) lL_150 kX10_kind vX10_kind dL_law_1251 rfl rfl rfl (by decide) rfl (Nat.le_of_ble_eq_true rfl) ?_
  rintro r2 K ⟨rfl, hK⟩
  exact ev_icmp_eq (tgt := 1384) dL_law_1254 (by decide) (fun _ => kk K hK) (fun h => absurd rfl h)
theorem lc_33 (hI : iv I) (hi : i + 6 ≤ nw_L g) (hL : nw_L g ≤ 384) (kk : ∀ K, iv K → nw_S l g 10 (mL nm) 1384 [some (.ref (nw_sc g)), some (.ref (nw_a g 0)), some (.ref (nw_a g 219)), some (.int (nI i))] [] K Post) : nw_S l g 10 (mL nm) 1259 [some (.ref (nw_sc g)), some (.ref (nw_a g 0)), some (.ref (nw_a g 219)), some (.int (nI i))] [] I Post := by
  refine ev_aload_n (i := 1) dL_law_1259 rfl rfl ?_
  refine ev_aload_n (i := 0) dL_law_1260 rfl rfl ?_
  refine ev_iload_n (i := 3) dL_law_1261 rfl rfl ?_
  refine ev_iconst (v := 1) dL_law_1262 kc_1 ?_
  refine ev_iaddN (a := i) (b := 1) dL_law_1263 ?_
  refine ev_sld dL_law_1264 (pk_in (i + 1) (nw_L g) (by omega)) ?_
  refine ev_aload_n (i := 0) dL_law_1265 rfl rfl ?_
  refine ev_iload_n (i := 3) dL_law_1266 rfl rfl ?_
  refine ev_iconst (v := 2) dL_law_1267 kc_2 ?_
  refine ev_iaddN (a := i) (b := 2) dL_law_1268 ?_
  refine ev_sld dL_law_1269 (pk_in (i + 2) (nw_L g) (by omega)) ?_
  refine s_callVi (As := [_, _]) (st_as hI _ _) (Nat.le_of_ble_eq_true rfl) lL_151 kX9_as vX9_as dL_law_1270 rfl rfl rfl (by decide) rfl (Nat.le_of_ble_eq_true rfl) ?_
  intro r J hJ
  refine ev_aload_n (i := 2) dL_law_1273 rfl rfl ?_
  refine ev_aload_n (i := 0) dL_law_1274 rfl rfl ?_
  refine ev_iload_n (i := 3) dL_law_1275 rfl rfl ?_
  refine ev_iconst (v := 1) dL_law_1276 kc_1 ?_
  refine ev_iaddN (a := i) (b := 1) dL_law_1277 ?_
  refine ev_sld dL_law_1278 (pk_in (i + 1) (nw_L g) (by omega)) ?_
  refine ev_aload_n (i := 0) dL_law_1279 rfl rfl ?_
  refine ev_iload_n (i := 3) dL_law_1280 rfl rfl ?_
  refine ev_iconst (v := 2) dL_law_1281 kc_2 ?_
  refine ev_iaddN (a := i) (b := 2) dL_law_1282 ?_
  refine ev_sld dL_law_1283 (pk_in (i + 2) (nw_L g) (by omega)) ?_
  refine s_callVi (As := [_, _]) hJ (Nat.le_of_ble_eq_true rfl) lL_154 kX10_as vX10_as dL_law_1284 rfl rfl rfl (by decide) rfl (Nat.le_of_ble_eq_true rfl) ?_
  rintro r2 K ⟨rfl, hK⟩
  exact ev_icmp_eq (tgt := 1384) dL_law_1287 (by decide) (fun _ => kk K hK) (fun h => absurd rfl h)
theorem lc_34 (hI : iv I) (hi : i + 6 ≤ nw_L g) (hL : nw_L g ≤ 384) (kk : ∀ K, iv K → nw_S l g 10 (mL nm) 1384 [some (.ref (nw_sc g)), some (.ref (nw_a g 0)), some (.ref (nw_a g 219)), some (.int (nI i))] [] K Post) : nw_S l g 10 (mL nm) 1292 [some (.ref (nw_sc g)), some (.ref (nw_a g 0)), some (.ref (nw_a g 219)), some (.int (nI i))] [] I Post := by
  refine ev_aload_n (i := 1) dL_law_1292 rfl rfl ?_
  refine ev_aload_n (i := 0) dL_law_1293 rfl rfl ?_
  refine ev_iload_n (i := 3) dL_law_1294 rfl rfl ?_
  refine ev_iconst (v := 1) dL_law_1295 kc_1 ?_
  refine ev_iaddN (a := i) (b := 1) dL_law_1296 ?_
  refine ev_sld dL_law_1297 (pk_in (i + 1) (nw_L g) (by omega)) ?_
  refine ev_aload_n (i := 0) dL_law_1298 rfl rfl ?_
  refine ev_iload_n (i := 3) dL_law_1299 rfl rfl ?_
  refine ev_iconst (v := 2) dL_law_1300 kc_2 ?_
  refine ev_iaddN (a := i) (b := 2) dL_law_1301 ?_
  refine ev_sld dL_law_1302 (pk_in (i + 2) (nw_L g) (by omega)) ?_
  refine s_callVi (As := [_, _]) (st_ask hI _ _) (Nat.le_of_ble_eq_true rfl) lL_155 kX9_ask vX9_ask dL_law_1303 rfl rfl rfl (by decide) rfl (Nat.le_of_ble_eq_true rfl) ?_
  intro r J hJ
  refine ev_aload_n (i := 2) dL_law_1306 rfl rfl ?_
  refine ev_aload_n (i := 0) dL_law_1307 rfl rfl ?_
  refine ev_iload_n (i := 3) dL_law_1308 rfl rfl ?_
  refine ev_iconst (v := 1) dL_law_1309 kc_1 ?_
  refine ev_iaddN (a := i) (b := 1) dL_law_1310 ?_
  refine ev_sld dL_law_1311 (pk_in (i + 1) (nw_L g) (by omega)) ?_
  refine ev_aload_n (i := 0) dL_law_1312 rfl rfl ?_
  refine ev_iload_n (i := 3) dL_law_1313 rfl rfl ?_
  refine ev_iconst (v := 2) dL_law_1314 kc_2 ?_
  refine ev_iaddN (a := i) (b := 2) dL_law_1315 ?_
  refine ev_sld dL_law_1316 (pk_in (i + 2) (nw_L g) (by omega)) ?_
  refine s_callVi (As := [_, _]) hJ (Nat.le_of_ble_eq_true rfl) lL_158 kX10_ask vX10_ask dL_law_1317 rfl rfl rfl (by decide) rfl (Nat.le_of_ble_eq_true rfl) ?_
  rintro r2 K ⟨rfl, hK⟩
  exact ev_icmp_eq (tgt := 1384) dL_law_1320 (by decide) (fun _ => kk K hK) (fun h => absurd rfl h)
theorem lc_35 (hI : iv I) (hi : i + 6 ≤ nw_L g) (hL : nw_L g ≤ 384) (kk : ∀ K, iv K → nw_S l g 10 (mL nm) 1384 [some (.ref (nw_sc g)), some (.ref (nw_a g 0)), some (.ref (nw_a g 219)), some (.int (nI i))] [] K Post) : nw_S l g 10 (mL nm) 1325 [some (.ref (nw_sc g)), some (.ref (nw_a g 0)), some (.ref (nw_a g 219)), some (.int (nI i))] [] I Post := by
  refine ev_aload_n (i := 1) dL_law_1325 rfl rfl ?_
  refine ev_aload_n (i := 0) dL_law_1326 rfl rfl ?_
  refine ev_iload_n (i := 3) dL_law_1327 rfl rfl ?_
  refine ev_iconst (v := 1) dL_law_1328 kc_1 ?_
  refine ev_iaddN (a := i) (b := 1) dL_law_1329 ?_
  refine ev_sld dL_law_1330 (pk_in (i + 1) (nw_L g) (by omega)) ?_
  refine s_callVi (As := [_]) (st_trace hI _) (Nat.le_of_ble_eq_true rfl) lL_159 kX9_trace vX9_trace dL_law_1331 rfl rfl rfl (by decide) rfl (Nat.le_of_ble_eq_true rfl) ?_
  intro r J hJ
  refine ev_aload_n (i := 2) dL_law_1334 rfl rfl ?_
  refine ev_aload_n (i := 0) dL_law_1335 rfl rfl ?_
  refine ev_iload_n (i := 3) dL_law_1336 rfl rfl ?_
  refine ev_iconst (v := 1) dL_law_1337 kc_1 ?_
  refine ev_iaddN (a := i) (b := 1) dL_law_1338 ?_
  refine ev_sld dL_law_1339 (pk_in (i + 1) (nw_L g) (by omega)) ?_
  refine s_callVi (As := [_]) hJ (Nat.le_of_ble_eq_true rfl) lL_162 kX10_trace vX10_trace dL_law_1340 rfl rfl rfl (by decide) rfl (Nat.le_of_ble_eq_true rfl) ?_
  rintro r2 K ⟨rfl, hK⟩
  exact ev_icmp_eq (tgt := 1384) dL_law_1343 (by decide) (fun _ => kk K hK) (fun h => absurd rfl h)
theorem lc_36 (hI : iv I) (hi : i + 6 ≤ nw_L g) (hL : nw_L g ≤ 384) (kk : ∀ K, iv K → nw_S l g 10 (mL nm) 1384 [some (.ref (nw_sc g)), some (.ref (nw_a g 0)), some (.ref (nw_a g 219)), some (.int (nI i))] [] K Post) : nw_S l g 10 (mL nm) 1348 [some (.ref (nw_sc g)), some (.ref (nw_a g 0)), some (.ref (nw_a g 219)), some (.int (nI i))] [] I Post := by
  refine ev_aload_n (i := 1) dL_law_1348 rfl rfl ?_
  refine ev_aload_n (i := 0) dL_law_1349 rfl rfl ?_
  refine ev_iload_n (i := 3) dL_law_1350 rfl rfl ?_
  refine ev_iconst (v := 1) dL_law_1351 kc_1 ?_
  refine ev_iaddN (a := i) (b := 1) dL_law_1352 ?_
  refine ev_sld dL_law_1353 (pk_in (i + 1) (nw_L g) (by omega)) ?_
  refine s_callVi (As := [_]) (st_count hI _) (Nat.le_of_ble_eq_true rfl) lL_163 kX9_count vX9_count dL_law_1354 rfl rfl rfl (by decide) rfl (Nat.le_of_ble_eq_true rfl) ?_
  intro r J hJ
  refine ev_aload_n (i := 2) dL_law_1357 rfl rfl ?_
  refine ev_aload_n (i := 0) dL_law_1358 rfl rfl ?_
  refine ev_iload_n (i := 3) dL_law_1359 rfl rfl ?_
  refine ev_iconst (v := 1) dL_law_1360 kc_1 ?_
  refine ev_iaddN (a := i) (b := 1) dL_law_1361 ?_
  refine ev_sld dL_law_1362 (pk_in (i + 1) (nw_L g) (by omega)) ?_
  refine s_callVi (As := [_]) hJ (Nat.le_of_ble_eq_true rfl) lL_166 kX10_count vX10_count dL_law_1363 rfl rfl rfl (by decide) rfl (Nat.le_of_ble_eq_true rfl) ?_
  rintro r2 K ⟨rfl, hK⟩
  exact ev_icmp_eq (tgt := 1384) dL_law_1366 (by decide) (fun _ => kk K hK) (fun h => absurd rfl h)
theorem lc_37 (hI : iv I) (hi : i + 6 ≤ nw_L g) (hL : nw_L g ≤ 384) (kk : ∀ K, iv K → nw_S l g 10 (mL nm) 1384 [some (.ref (nw_sc g)), some (.ref (nw_a g 0)), some (.ref (nw_a g 219)), some (.int (nI i))] [] K Post) : nw_S l g 10 (mL nm) 1371 [some (.ref (nw_sc g)), some (.ref (nw_a g 0)), some (.ref (nw_a g 219)), some (.int (nI i))] [] I Post := by
  refine ev_aload_n (i := 1) dL_law_1371 rfl rfl ?_
  refine s_callVi (As := []) (st_status hI) (Nat.le_of_ble_eq_true rfl) lL_167 kX9_status vX9_status dL_law_1372 rfl rfl rfl (by decide) rfl (Nat.le_of_ble_eq_true rfl) ?_
  intro r J hJ
  refine ev_aload_n (i := 2) dL_law_1375 rfl rfl ?_
  refine s_callVi (As := []) hJ (Nat.le_of_ble_eq_true rfl) lL_170 kX10_status vX10_status dL_law_1376 rfl rfl rfl (by decide) rfl (Nat.le_of_ble_eq_true rfl) ?_
  rintro r2 K ⟨rfl, hK⟩
  exact ev_icmp_eq (tgt := 1384) dL_law_1379 (by decide) (fun _ => kk K hK) (fun h => absurd rfl h)
theorem l_exit (h : nw_L g < i + 6) (hL : nw_L g ≤ 384) (hi : i ≤ 390) : nw_S l g 10 (mL nm) 18 [some (.ref (nw_sc g)), some (.ref (nw_a g 0)), some (.ref (nw_a g 219)), some (.int (nI i))] [] I (nw_qZ (fun b _ => b = true)) := by
  refine ev_iload_n (i := 3) dL_law_18 rfl rfl ?_
  refine ev_aload_n (i := 0) dL_law_19 rfl rfl ?_
  refine ev_slen dL_law_20 ?_
  refine ev_bipush (v := 6) dL_law_21 kb_6 ?_
  refine ev_isub dL_law_23 ?_
  refine ev_icmp_gt (tgt := 1390) dL_law_24 (by decide) (fun _ => ?_) (fun q => ?_)
  · refine ev_iconst (v := 1) dL_law_1390 kc_1 ?_
    exact s_ret1 dL_law_1391 rfl
  · refine absurd ?_ q
    show nI (nw_L g) - nI 6 < nI i
    rw [Int32.lt_iff_toInt_lt, pk_sub_toInt (by omega) (by decide), nI_toInt (by omega)]
    omega
set_option maxRecDepth 100000 in
set_option maxHeartbeats 4000000 in
theorem l_law (hL : nw_L g ≤ 384) : ∀ (k i : Nat) (J : nw_Me), nw_L g < i + k → i ≤ 390 → iv J → nw_S l g 10 (mL nm) 18 [some (.ref (nw_sc g)), some (.ref (nw_a g 0)), some (.ref (nw_a g 219)), some (.int (nI i))] [] J (nw_qZ (fun b _ => b = true)) := by
  intro k
  induction k with
  | zero =>
    intro i J hk hi hJ
    exact l_exit (by omega) hL hi
  | succ k ih =>
    intro i J hk hi hJ
    by_cases hx : nw_L g < i + 6
    · exact l_exit hx hL hi
    have kk : ∀ K, iv K → nw_S l g 10 (mL nm) 1384 [some (.ref (nw_sc g)), some (.ref (nw_a g 0)), some (.ref (nw_a g 219)), some (.int (nI i))] [] K (nw_qZ (fun b _ => b = true)) := fun K hK => by
      refine ev_iincm (m := 6) dL_law_1384 (by decide) rfl (Nat.le_of_ble_eq_true rfl) rfl ?_
      refine ev_goto (tgt := 18) dL_law_1387 (by decide) ?_
      have e : nI i + 6 = nI (i + 6) := nI_add i 6
      rw [e]
      exact ih (i + 6) K (by omega) (by omega) hK
    refine ev_iload_n (i := 3) dL_law_18 rfl rfl ?_
    refine ev_aload_n (i := 0) dL_law_19 rfl rfl ?_
    refine ev_slen dL_law_20 ?_
    refine ev_bipush (v := 6) dL_law_21 kb_6 ?_
    refine ev_isub dL_law_23 ?_
    refine ev_icmp_gt (tgt := 1390) dL_law_24 (by decide) (fun q => ?_) (fun _ => ?_)
    · refine absurd q ?_
      show ¬ nI (nw_L g) - nI 6 < nI i
      rw [Int32.lt_iff_toInt_lt, pk_sub_toInt (by omega) (by decide), nI_toInt (by omega)]
      omega
    refine ev_aload_n (i := 0) dL_law_27 rfl rfl ?_
    refine ev_iload_n (i := 3) dL_law_28 rfl rfl ?_
    refine ev_sld dL_law_29 (pk_in i (nw_L g) (by omega)) ?_
    refine ev_bipush (v := 63) dL_law_30 kb_63 ?_
    refine ev_iand dL_law_32 ?_
    obtain ⟨j, j64, ej⟩ := pk_andE (nw_xs g (nI i).toNatClampNeg) (m := 63) 6 (by decide)
    rw [ej]
    have j64 : j < 64 := j64
    rcases (show j = 0 ∨ j = 1 ∨ j = 2 ∨ j = 3 ∨ j = 4 ∨ j = 5 ∨ j = 6 ∨ j = 7 ∨ j = 8 ∨ j = 9 ∨ j = 10 ∨ j = 11 ∨ j = 12 ∨ j = 13 ∨ j = 14 ∨ j = 15 ∨ j = 16 ∨ j = 17 ∨ j = 18 ∨ j = 19 ∨ j = 20 ∨ j = 21 ∨ j = 22 ∨ j = 23 ∨ j = 24 ∨ j = 25 ∨ j = 26 ∨ j = 27 ∨ j = 28 ∨ j = 29 ∨ j = 30 ∨ j = 31 ∨ j = 32 ∨ j = 33 ∨ j = 34 ∨ j = 35 ∨ j = 36 ∨ j = 37 ∨ 38 ≤ j by omega) with rfl | rfl | rfl | rfl | rfl | rfl | rfl | rfl | rfl | rfl | rfl | rfl | rfl | rfl | rfl | rfl | rfl | rfl | rfl | rfl | rfl | rfl | rfl | rfl | rfl | rfl | rfl | rfl | rfl | rfl | rfl | rfl | rfl | rfl | rfl | rfl | rfl | rfl | hj
    · exact ev_tableIn (off := 167) (tgt := 200) dL_law_33 (by decide) (by decide) (by decide) (by decide) (lc_0 hJ (by omega) hL kk)
    · exact ev_tableIn (off := 210) (tgt := 243) dL_law_33 (by decide) (by decide) (by decide) (by decide) (lc_1 hJ (by omega) hL kk)
    · exact ev_tableIn (off := 253) (tgt := 286) dL_law_33 (by decide) (by decide) (by decide) (by decide) (lc_2 hJ (by omega) hL kk)
    · exact ev_tableIn (off := 316) (tgt := 349) dL_law_33 (by decide) (by decide) (by decide) (by decide) (lc_3 hJ (by omega) hL kk)
    · exact ev_tableIn (off := 339) (tgt := 372) dL_law_33 (by decide) (by decide) (by decide) (by decide) (lc_4 hJ (by omega) hL kk)
    · exact ev_tableIn (off := 362) (tgt := 395) dL_law_33 (by decide) (by decide) (by decide) (by decide) (lc_5 hJ (by omega) hL kk)
    · exact ev_tableIn (off := 375) (tgt := 408) dL_law_33 (by decide) (by decide) (by decide) (by decide) (lc_6 hJ (by omega) hL kk)
    · exact ev_tableIn (off := 388) (tgt := 421) dL_law_33 (by decide) (by decide) (by decide) (by decide) (lc_7 hJ (by omega) hL kk)
    · exact ev_tableIn (off := 411) (tgt := 444) dL_law_33 (by decide) (by decide) (by decide) (by decide) (lc_8 hJ (by omega) hL kk)
    · exact ev_tableIn (off := 444) (tgt := 477) dL_law_33 (by decide) (by decide) (by decide) (by decide) (lc_9 hJ (by omega) hL kk)
    · exact ev_tableIn (off := 467) (tgt := 500) dL_law_33 (by decide) (by decide) (by decide) (by decide) (lc_10 hJ (by omega) hL kk)
    · exact ev_tableIn (off := 500) (tgt := 533) dL_law_33 (by decide) (by decide) (by decide) (by decide) (lc_11 hJ (by omega) hL kk)
    · exact ev_tableIn (off := 533) (tgt := 566) dL_law_33 (by decide) (by decide) (by decide) (by decide) (lc_12 hJ (by omega) hL kk)
    · exact ev_tableIn (off := 546) (tgt := 579) dL_law_33 (by decide) (by decide) (by decide) (by decide) (lc_13 hJ (by omega) hL kk)
    · exact ev_tableIn (off := 579) (tgt := 612) dL_law_33 (by decide) (by decide) (by decide) (by decide) (lc_14 hJ (by omega) hL kk)
    · exact ev_tableIn (off := 612) (tgt := 645) dL_law_33 (by decide) (by decide) (by decide) (by decide) (lc_15 hJ (by omega) hL kk)
    · exact ev_tableIn (off := 645) (tgt := 678) dL_law_33 (by decide) (by decide) (by decide) (by decide) (lc_16 hJ (by omega) hL kk)
    · exact ev_tableIn (off := 678) (tgt := 711) dL_law_33 (by decide) (by decide) (by decide) (by decide) (lc_17 hJ (by omega) hL kk)
    · exact ev_tableIn (off := 721) (tgt := 754) dL_law_33 (by decide) (by decide) (by decide) (by decide) (lc_18 hJ (by omega) hL kk)
    · exact ev_tableIn (off := 754) (tgt := 787) dL_law_33 (by decide) (by decide) (by decide) (by decide) (lc_19 hJ (by omega) hL kk)
    · exact ev_tableIn (off := 787) (tgt := 820) dL_law_33 (by decide) (by decide) (by decide) (by decide) (lc_20 hJ (by omega) hL kk)
    · exact ev_tableIn (off := 820) (tgt := 853) dL_law_33 (by decide) (by decide) (by decide) (by decide) (lc_21 hJ (by omega) hL kk)
    · exact ev_tableIn (off := 853) (tgt := 886) dL_law_33 (by decide) (by decide) (by decide) (by decide) (lc_22 hJ (by omega) hL kk)
    · exact ev_tableIn (off := 886) (tgt := 919) dL_law_33 (by decide) (by decide) (by decide) (by decide) (lc_23 hJ (by omega) hL kk)
    · exact ev_tableIn (off := 919) (tgt := 952) dL_law_33 (by decide) (by decide) (by decide) (by decide) (lc_24 hJ (by omega) hL kk)
    · exact ev_tableIn (off := 952) (tgt := 985) dL_law_33 (by decide) (by decide) (by decide) (by decide) (lc_25 hJ (by omega) hL kk)
    · exact ev_tableIn (off := 975) (tgt := 1008) dL_law_33 (by decide) (by decide) (by decide) (by decide) (lc_26 hJ (by omega) hL kk)
    · exact ev_tableIn (off := 1008) (tgt := 1041) dL_law_33 (by decide) (by decide) (by decide) (by decide) (lc_27 hJ (by omega) hL kk)
    · exact ev_tableIn (off := 1061) (tgt := 1094) dL_law_33 (by decide) (by decide) (by decide) (by decide) (lc_28 hJ (by omega) hL kk)
    · exact ev_tableIn (off := 1114) (tgt := 1147) dL_law_33 (by decide) (by decide) (by decide) (by decide) (lc_29 hJ (by omega) hL kk)
    · exact ev_tableIn (off := 1157) (tgt := 1190) dL_law_33 (by decide) (by decide) (by decide) (by decide) (lc_30 hJ (by omega) hL kk)
    · exact ev_tableIn (off := 1180) (tgt := 1213) dL_law_33 (by decide) (by decide) (by decide) (by decide) (lc_31 hJ (by omega) hL kk)
    · exact ev_tableIn (off := 1203) (tgt := 1236) dL_law_33 (by decide) (by decide) (by decide) (by decide) (lc_32 hJ (by omega) hL kk)
    · exact ev_tableIn (off := 1226) (tgt := 1259) dL_law_33 (by decide) (by decide) (by decide) (by decide) (lc_33 hJ (by omega) hL kk)
    · exact ev_tableIn (off := 1259) (tgt := 1292) dL_law_33 (by decide) (by decide) (by decide) (by decide) (lc_34 hJ (by omega) hL kk)
    · exact ev_tableIn (off := 1292) (tgt := 1325) dL_law_33 (by decide) (by decide) (by decide) (by decide) (lc_35 hJ (by omega) hL kk)
    · exact ev_tableIn (off := 1315) (tgt := 1348) dL_law_33 (by decide) (by decide) (by decide) (by decide) (lc_36 hJ (by omega) hL kk)
    · exact ev_tableIn (off := 1338) (tgt := 1371) dL_law_33 (by decide) (by decide) (by decide) (by decide) (lc_37 hJ (by omega) hL kk)
    · exact ev_tableOut (tgt := 1384) dL_law_33 (Or.inr (by rw [nI_toInt (by omega)]; omega)) (by decide) (kk J hJ)
end
