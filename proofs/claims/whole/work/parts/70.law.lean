section LW
variable {Lc : Nat} {xs : Nat → Int32} {mc ms kc ks : Nat} {ah : Bool} {Qf : Option Value → mm_W → Prop} {S : sT} {w1 w2 : mm_W} {i : Nat}
abbrev lwL (i : Nat) : List (Option Value) := [some (.retAddr 0), some (.ref 0), some (.ref 64), some (.int (nI i))]
theorem lw_in {i k Lc : Nat} (h : i + k < Lc) (hL : Lc ≤ 320) : vp_in (nI (i + k)) Lc := by
  rintro (h1 | h1)
  · exact absurd h1 (nI_pos (by omega))
  · rw [nI_clamp (by omega)] at h1
    omega
theorem r_arg {pc : Nat} {n : Int} {st : List Value} {w : mm_W} (k : Nat) (h1 : decode cL_law pc = .ok (.aload_n 0, 1)) (h2 : decode cL_law (pc + 1) = .ok (.iload_n 3, 1)) (h3 : decode cL_law (pc + 2) = .ok (.iconst n, 1)) (h4 : decode cL_law (pc + 3) = .ok (.iadd, 1)) (h5 : decode cL_law (pc + 4) = .ok (.iaload, 1)) (hv : Int32.ofInt n = nI k) (hk : k < 5) (hi : i + 5 ≤ Lc) (hL : Lc ≤ 320) (kk : mm_R 12 mL_law (some (Lc, xs)) mc ms ah false Qf kc ks (pc + 5) (lwL i) (.int (xs (i + k)) :: st) w) : mm_R 12 mL_law (some (Lc, xs)) mc ms ah false Qf kc ks pc (lwL i) st w := by
  refine r_xload_n (i := 0) (pc + 1) h1 rfl rfl rfl ?_
  refine r_iload_n (i := 3) (pc + 2) h2 rfl rfl rfl ?_
  refine r_iconst (pc + 3) h3 rfl hv ?_
  refine r_iadd (pc + 4) h4 rfl ?_
  rw [nI_add]
  refine r_sld (q := (Lc, xs)) (pc + 5) h5 rfl rfl (lw_in (by omega) hL) ?_
  show mm_R _ _ _ _ _ _ _ _ _ _ _ _ (.int (xs (nI (i + k)).toNatClampNeg) :: st) _
  rw [nI_clamp (by omega)]
  exact kk

theorem lcm_self (x : Int64) : lg_cmp x x = 0 := by simp [lg_cmp]
theorem QX_h {r : Int32} {S : sT} {v : Option Value} {u : mm_W} (h : QX r S v u) : CX S u ∧ ∀ σ, v.map (mm_rn σ) = v := ⟨h.2, fun σ => by rw [h.1]; rfl⟩
theorem QL_h {r : Int64} {S : sT} {v : Option Value} {u : mm_W} (h : QL r S v u) : CX S u ∧ ∀ σ, v.map (mm_rn σ) = v := ⟨h.2, fun σ => by rw [h.1]; rfl⟩
theorem QM_h {r : Int32} {S : sT} {v : Option Value} {u : mm_W} (h : QM r S v u) : CM S u ∧ ∀ σ, v.map (mm_rn σ) = v := ⟨h.2, fun σ => by rw [h.1]; rfl⟩
theorem QML_h {r : Int64} {S : sT} {v : Option Value} {u : mm_W} (h : QML r S v u) : CM S u ∧ ∀ σ, v.map (mm_rn σ) = v := ⟨h.2, fun σ => by rw [h.1]; rfl⟩
theorem lw_c0 (hX : CX S w1) (hM : CM S w2) (hi : i + 5 ≤ Lc) (hL : Lc ≤ 320) (hm : kc ≤ mc ∧ ks ≤ ms) (k : ∀ (S' : sT) (u1 u2 : mm_W), CX S' u1 → CM S' u2 → mm_R 12 mL_law (some (Lc, xs)) mc ms ah false Qf kc ks 1384 (lwL i) [] (u1 ++ shW u2)) : mm_R 12 mL_law (some (Lc, xs)) mc ms ah false Qf kc ks 212 (lwL i) [] (w1 ++ shW w2) := by
  have hT : tOk S := hX.1
  refine r_aload_n (i := 1) 213 dL_law_212 rfl rfl rfl ?_
  refine r_arg 1 dL_law_213 dL_law_214 dL_law_215 dL_law_216 dL_law_217 rfl (by decide) hi hL ?_
  refine r_lawX (d := 11) (As0 := [.int (xs (i + 1))]) 221 dL_law_218 rfl ykX7_feed lk_L_13 hX (CM_len hM) (p_feed (d := 9) hX (xs (i + 1))) rfl rfl (fun _ => rfl) rfl rfl hm (fun _ _ => QX_h) (fun v u1 hq hX1 => ?_)
  obtain ⟨rfl, -⟩ := hq
  refine r_aload_n (i := 2) 222 dL_law_221 rfl rfl rfl ?_
  refine r_arg 1 dL_law_222 dL_law_223 dL_law_224 dL_law_225 dL_law_226 rfl (by decide) hi hL ?_
  refine r_lawM (d := 11) (As0 := [.int (xs (i + 1))]) 230 dL_law_227 rfl ykX8_feed lk_L_17 (CX_len hX1) hM (q_feed (d := 9) hT hM (xs (i + 1))) rfl rfl (fun _ => rfl) rfl rfl hm (fun _ _ => QM_h) (fun v u2 hq hM2 => ?_)
  obtain ⟨rfl, -⟩ := hq
  exact r_icmp_eq 1384 233 dL_law_230 (by decide) rfl (fun _ => k _ u1 u2 hX1 hM2) (fun q => absurd rfl q)
theorem lw_c1 (hX : CX S w1) (hM : CM S w2) (hi : i + 5 ≤ Lc) (hL : Lc ≤ 320) (hm : kc ≤ mc ∧ ks ≤ ms) (k : ∀ (S' : sT) (u1 u2 : mm_W), CX S' u1 → CM S' u2 → mm_R 12 mL_law (some (Lc, xs)) mc ms ah false Qf kc ks 1384 (lwL i) [] (u1 ++ shW u2)) : mm_R 12 mL_law (some (Lc, xs)) mc ms ah false Qf kc ks 235 (lwL i) [] (w1 ++ shW w2) := by
  have hT : tOk S := hX.1
  refine r_aload_n (i := 1) 236 dL_law_235 rfl rfl rfl ?_
  refine r_arg 1 dL_law_236 dL_law_237 dL_law_238 dL_law_239 dL_law_240 rfl (by decide) hi hL ?_
  refine r_lawX (d := 11) (As0 := [.int (xs (i + 1))]) 244 dL_law_241 rfl ykX7_end lk_L_18 hX (CM_len hM) (p_end (d := 10) hX (xs (i + 1))) rfl rfl (fun _ => rfl) rfl rfl hm (fun _ _ => QX_h) (fun v u1 hq hX1 => ?_)
  obtain ⟨rfl, -⟩ := hq
  refine r_aload_n (i := 2) 245 dL_law_244 rfl rfl rfl ?_
  refine r_arg 1 dL_law_245 dL_law_246 dL_law_247 dL_law_248 dL_law_249 rfl (by decide) hi hL ?_
  refine r_lawM (d := 11) (As0 := [.int (xs (i + 1))]) 253 dL_law_250 rfl ykX8_end lk_L_21 (CX_len hX1) hM (q_end (d := 9) hT hM (xs (i + 1))) rfl rfl (fun _ => rfl) rfl rfl hm (fun _ _ => QM_h) (fun v u2 hq hM2 => ?_)
  obtain ⟨rfl, -⟩ := hq
  exact r_icmp_eq 1384 256 dL_law_253 (by decide) rfl (fun _ => k _ u1 u2 hX1 hM2) (fun q => absurd rfl q)
theorem lw_c2 (hX : CX S w1) (hM : CM S w2) (hi : i + 5 ≤ Lc) (hL : Lc ≤ 320) (hm : kc ≤ mc ∧ ks ≤ ms) (k : ∀ (S' : sT) (u1 u2 : mm_W), CX S' u1 → CM S' u2 → mm_R 12 mL_law (some (Lc, xs)) mc ms ah false Qf kc ks 1384 (lwL i) [] (u1 ++ shW u2)) : mm_R 12 mL_law (some (Lc, xs)) mc ms ah false Qf kc ks 258 (lwL i) [] (w1 ++ shW w2) := by
  have hT : tOk S := hX.1
  refine r_aload_n (i := 1) 259 dL_law_258 rfl rfl rfl ?_
  refine r_lawX (d := 11) (As0 := []) 262 dL_law_259 rfl ykX7_text lk_L_22 hX (CM_len hM) (p_text (d := 2) hX) rfl rfl (fun _ => rfl) rfl rfl hm (fun _ _ => QX_h) (fun v u1 hq hX1 => ?_)
  obtain ⟨rfl, -⟩ := hq
  refine r_aload_n (i := 2) 263 dL_law_262 rfl rfl rfl ?_
  refine r_lawM (d := 11) (As0 := []) 266 dL_law_263 rfl ykX8_text lk_L_26 (CX_len hX1) hM (q_text (d := 3) hT hM) rfl rfl (fun _ => rfl) rfl rfl hm (fun _ _ => QM_h) (fun v u2 hq hM2 => ?_)
  obtain ⟨rfl, -⟩ := hq
  exact r_icmp_eq 1384 269 dL_law_266 (by decide) rfl (fun _ => k _ u1 u2 hX1 hM2) (fun q => absurd rfl q)
theorem lw_c3 (hX : CX S w1) (hM : CM S w2) (hi : i + 5 ≤ Lc) (hL : Lc ≤ 320) (hm : kc ≤ mc ∧ ks ≤ ms) (k : ∀ (S' : sT) (u1 u2 : mm_W), CX S' u1 → CM S' u2 → mm_R 12 mL_law (some (Lc, xs)) mc ms ah false Qf kc ks 1384 (lwL i) [] (u1 ++ shW u2)) : mm_R 12 mL_law (some (Lc, xs)) mc ms ah false Qf kc ks 271 (lwL i) [] (w1 ++ shW w2) := by
  have hT : tOk S := hX.1
  refine r_aload_n (i := 1) 272 dL_law_271 rfl rfl rfl ?_
  refine r_lawX (d := 11) (As0 := []) 275 dL_law_272 rfl ykX7_fault lk_L_27 hX (CM_len hM) (p_fault (d := 10) hX) rfl rfl (fun _ => rfl) rfl rfl hm (fun _ _ => QX_h) (fun v u1 hq hX1 => ?_)
  obtain ⟨rfl, -⟩ := hq
  refine r_aload_n (i := 2) 276 dL_law_275 rfl rfl rfl ?_
  refine r_lawM (d := 11) (As0 := []) 279 dL_law_276 rfl ykX8_fault lk_L_30 (CX_len hX1) hM (q_fault (d := 10) hT hM) rfl rfl (fun _ => rfl) rfl rfl hm (fun _ _ => QM_h) (fun v u2 hq hM2 => ?_)
  obtain ⟨rfl, -⟩ := hq
  exact r_icmp_eq 1384 282 dL_law_279 (by decide) rfl (fun _ => k _ u1 u2 hX1 hM2) (fun q => absurd rfl q)
theorem lw_c4 (hX : CX S w1) (hM : CM S w2) (hi : i + 5 ≤ Lc) (hL : Lc ≤ 320) (hm : kc ≤ mc ∧ ks ≤ ms) (k : ∀ (S' : sT) (u1 u2 : mm_W), CX S' u1 → CM S' u2 → mm_R 12 mL_law (some (Lc, xs)) mc ms ah false Qf kc ks 1384 (lwL i) [] (u1 ++ shW u2)) : mm_R 12 mL_law (some (Lc, xs)) mc ms ah false Qf kc ks 284 (lwL i) [] (w1 ++ shW w2) := by
  have hT : tOk S := hX.1
  refine r_aload_n (i := 1) 285 dL_law_284 rfl rfl rfl ?_
  refine r_arg 1 dL_law_285 dL_law_286 dL_law_287 dL_law_288 dL_law_289 rfl (by decide) hi hL ?_
  refine r_lawX (d := 11) (As0 := [.int (xs (i + 1))]) 293 dL_law_290 rfl ykX7_rule lk_L_31 hX (CM_len hM) (p_rule (d := 7) hX (xs (i + 1))) rfl rfl (fun _ => rfl) rfl rfl hm (fun _ _ => QX_h) (fun v u1 hq hX1 => ?_)
  obtain ⟨rfl, -⟩ := hq
  refine r_aload_n (i := 2) 294 dL_law_293 rfl rfl rfl ?_
  refine r_arg 1 dL_law_294 dL_law_295 dL_law_296 dL_law_297 dL_law_298 rfl (by decide) hi hL ?_
  refine r_lawM (d := 11) (As0 := [.int (xs (i + 1))]) 302 dL_law_299 rfl ykX8_rule lk_L_34 (CX_len hX1) hM (q_rule (d := 6) hT hM (xs (i + 1))) rfl rfl (fun _ => rfl) rfl rfl hm (fun _ _ => QM_h) (fun v u2 hq hM2 => ?_)
  obtain ⟨rfl, -⟩ := hq
  exact r_icmp_eq 1384 305 dL_law_302 (by decide) rfl (fun _ => k _ u1 u2 hX1 hM2) (fun q => absurd rfl q)
theorem lw_c5 (hX : CX S w1) (hM : CM S w2) (hi : i + 5 ≤ Lc) (hL : Lc ≤ 320) (hm : kc ≤ mc ∧ ks ≤ ms) (k : ∀ (S' : sT) (u1 u2 : mm_W), CX S' u1 → CM S' u2 → mm_R 12 mL_law (some (Lc, xs)) mc ms ah false Qf kc ks 1384 (lwL i) [] (u1 ++ shW u2)) : mm_R 12 mL_law (some (Lc, xs)) mc ms ah false Qf kc ks 307 (lwL i) [] (w1 ++ shW w2) := by
  have hT : tOk S := hX.1
  refine r_aload_n (i := 1) 308 dL_law_307 rfl rfl rfl ?_
  refine r_arg 1 dL_law_308 dL_law_309 dL_law_310 dL_law_311 dL_law_312 rfl (by decide) hi hL ?_
  refine r_arg 2 dL_law_313 dL_law_314 dL_law_315 dL_law_316 dL_law_317 rfl (by decide) hi hL ?_
  refine r_lawX (d := 11) (As0 := [.int (xs (i + 1)), .int (xs (i + 2))]) 321 dL_law_318 rfl ykX7_thing lk_L_35 hX (CM_len hM) (p_thing (d := 9) hX (xs (i + 1)) (xs (i + 2))) rfl rfl (fun _ => rfl) rfl rfl hm (fun _ _ => QX_h) (fun v u1 hq hX1 => ?_)
  obtain ⟨rfl, -⟩ := hq
  refine r_aload_n (i := 2) 322 dL_law_321 rfl rfl rfl ?_
  refine r_arg 1 dL_law_322 dL_law_323 dL_law_324 dL_law_325 dL_law_326 rfl (by decide) hi hL ?_
  refine r_arg 2 dL_law_327 dL_law_328 dL_law_329 dL_law_330 dL_law_331 rfl (by decide) hi hL ?_
  refine r_lawM (d := 11) (As0 := [.int (xs (i + 1)), .int (xs (i + 2))]) 335 dL_law_332 rfl ykX8_thing lk_L_39 (CX_len hX1) hM (q_thing (d := 7) hT hM (xs (i + 1)) (xs (i + 2))) rfl rfl (fun _ => rfl) rfl rfl hm (fun _ _ => QM_h) (fun v u2 hq hM2 => ?_)
  obtain ⟨rfl, -⟩ := hq
  exact r_icmp_eq 1384 338 dL_law_335 (by decide) rfl (fun _ => k _ u1 u2 hX1 hM2) (fun q => absurd rfl q)
theorem lw_c6 (hX : CX S w1) (hM : CM S w2) (hi : i + 5 ≤ Lc) (hL : Lc ≤ 320) (hm : kc ≤ mc ∧ ks ≤ ms) (k : ∀ (S' : sT) (u1 u2 : mm_W), CX S' u1 → CM S' u2 → mm_R 12 mL_law (some (Lc, xs)) mc ms ah false Qf kc ks 1384 (lwL i) [] (u1 ++ shW u2)) : mm_R 12 mL_law (some (Lc, xs)) mc ms ah false Qf kc ks 340 (lwL i) [] (w1 ++ shW w2) := by
  have hT : tOk S := hX.1
  refine r_aload_n (i := 1) 341 dL_law_340 rfl rfl rfl ?_
  refine r_arg 1 dL_law_341 dL_law_342 dL_law_343 dL_law_344 dL_law_345 rfl (by decide) hi hL ?_
  refine r_arg 2 dL_law_346 dL_law_347 dL_law_348 dL_law_349 dL_law_350 rfl (by decide) hi hL ?_
  refine r_lawX (d := 11) (As0 := [.int (xs (i + 1)), .int (xs (i + 2))]) 354 dL_law_351 rfl ykX7_guest lk_L_40 hX (CM_len hM) (p_guest (d := 9) hX (xs (i + 1)) (xs (i + 2))) rfl rfl (fun _ => rfl) rfl rfl hm (fun _ _ => QX_h) (fun v u1 hq hX1 => ?_)
  obtain ⟨rfl, -⟩ := hq
  refine r_aload_n (i := 2) 355 dL_law_354 rfl rfl rfl ?_
  refine r_arg 1 dL_law_355 dL_law_356 dL_law_357 dL_law_358 dL_law_359 rfl (by decide) hi hL ?_
  refine r_arg 2 dL_law_360 dL_law_361 dL_law_362 dL_law_363 dL_law_364 rfl (by decide) hi hL ?_
  refine r_lawM (d := 11) (As0 := [.int (xs (i + 1)), .int (xs (i + 2))]) 368 dL_law_365 rfl ykX8_guest lk_L_43 (CX_len hX1) hM (q_guest (d := 8) hT hM (xs (i + 1)) (xs (i + 2))) rfl rfl (fun _ => rfl) rfl rfl hm (fun _ _ => QM_h) (fun v u2 hq hM2 => ?_)
  obtain ⟨rfl, -⟩ := hq
  exact r_icmp_eq 1384 371 dL_law_368 (by decide) rfl (fun _ => k _ u1 u2 hX1 hM2) (fun q => absurd rfl q)
theorem lw_c7 (hX : CX S w1) (hM : CM S w2) (hi : i + 5 ≤ Lc) (hL : Lc ≤ 320) (hm : kc ≤ mc ∧ ks ≤ ms) (k : ∀ (S' : sT) (u1 u2 : mm_W), CX S' u1 → CM S' u2 → mm_R 12 mL_law (some (Lc, xs)) mc ms ah false Qf kc ks 1384 (lwL i) [] (u1 ++ shW u2)) : mm_R 12 mL_law (some (Lc, xs)) mc ms ah false Qf kc ks 373 (lwL i) [] (w1 ++ shW w2) := by
  have hT : tOk S := hX.1
  refine r_aload_n (i := 1) 374 dL_law_373 rfl rfl rfl ?_
  refine r_arg 1 dL_law_374 dL_law_375 dL_law_376 dL_law_377 dL_law_378 rfl (by decide) hi hL ?_
  refine r_arg 2 dL_law_379 dL_law_380 dL_law_381 dL_law_382 dL_law_383 rfl (by decide) hi hL ?_
  refine r_lawX (d := 11) (As0 := [.int (xs (i + 1)), .int (xs (i + 2))]) 387 dL_law_384 rfl ykX7_ban lk_L_44 hX (CM_len hM) (p_ban (d := 8) hX (xs (i + 1)) (xs (i + 2))) rfl rfl (fun _ => rfl) rfl rfl hm (fun _ _ => QX_h) (fun v u1 hq hX1 => ?_)
  obtain ⟨rfl, -⟩ := hq
  refine r_aload_n (i := 2) 388 dL_law_387 rfl rfl rfl ?_
  refine r_arg 1 dL_law_388 dL_law_389 dL_law_390 dL_law_391 dL_law_392 rfl (by decide) hi hL ?_
  refine r_arg 2 dL_law_393 dL_law_394 dL_law_395 dL_law_396 dL_law_397 rfl (by decide) hi hL ?_
  refine r_lawM (d := 11) (As0 := [.int (xs (i + 1)), .int (xs (i + 2))]) 401 dL_law_398 rfl ykX8_ban lk_L_47 (CX_len hX1) hM (q_ban (d := 8) hT hM (xs (i + 1)) (xs (i + 2))) rfl rfl (fun _ => rfl) rfl rfl hm (fun _ _ => QM_h) (fun v u2 hq hM2 => ?_)
  obtain ⟨rfl, -⟩ := hq
  exact r_icmp_eq 1384 404 dL_law_401 (by decide) rfl (fun _ => k _ u1 u2 hX1 hM2) (fun q => absurd rfl q)
theorem lw_c8 (hX : CX S w1) (hM : CM S w2) (hi : i + 5 ≤ Lc) (hL : Lc ≤ 320) (hm : kc ≤ mc ∧ ks ≤ ms) (k : ∀ (S' : sT) (u1 u2 : mm_W), CX S' u1 → CM S' u2 → mm_R 12 mL_law (some (Lc, xs)) mc ms ah false Qf kc ks 1384 (lwL i) [] (u1 ++ shW u2)) : mm_R 12 mL_law (some (Lc, xs)) mc ms ah false Qf kc ks 406 (lwL i) [] (w1 ++ shW w2) := by
  have hT : tOk S := hX.1
  refine r_aload_n (i := 1) 407 dL_law_406 rfl rfl rfl ?_
  refine r_arg 1 dL_law_407 dL_law_408 dL_law_409 dL_law_410 dL_law_411 rfl (by decide) hi hL ?_
  refine r_arg 2 dL_law_412 dL_law_413 dL_law_414 dL_law_415 dL_law_416 rfl (by decide) hi hL ?_
  refine r_arg 3 dL_law_417 dL_law_418 dL_law_419 dL_law_420 dL_law_421 rfl (by decide) hi hL ?_
  refine r_lawX (d := 11) (As0 := [.int (xs (i + 1)), .int (xs (i + 2)), .int (xs (i + 3))]) 425 dL_law_422 rfl ykX7_alter lk_L_48 hX (CM_len hM) (p_alter (d := 7) hX (xs (i + 1)) (xs (i + 2)) (xs (i + 3))) rfl rfl (fun _ => rfl) rfl rfl hm (fun _ _ => QX_h) (fun v u1 hq hX1 => ?_)
  obtain ⟨rfl, -⟩ := hq
  refine r_aload_n (i := 2) 426 dL_law_425 rfl rfl rfl ?_
  refine r_arg 1 dL_law_426 dL_law_427 dL_law_428 dL_law_429 dL_law_430 rfl (by decide) hi hL ?_
  refine r_arg 2 dL_law_431 dL_law_432 dL_law_433 dL_law_434 dL_law_435 rfl (by decide) hi hL ?_
  refine r_arg 3 dL_law_436 dL_law_437 dL_law_438 dL_law_439 dL_law_440 rfl (by decide) hi hL ?_
  refine r_lawM (d := 11) (As0 := [.int (xs (i + 1)), .int (xs (i + 2)), .int (xs (i + 3))]) 444 dL_law_441 rfl ykX8_alter lk_L_52 (CX_len hX1) hM (q_alter (d := 8) hT hM (xs (i + 1)) (xs (i + 2)) (xs (i + 3))) rfl rfl (fun _ => rfl) rfl rfl hm (fun _ _ => QM_h) (fun v u2 hq hM2 => ?_)
  obtain ⟨rfl, -⟩ := hq
  exact r_icmp_eq 1384 447 dL_law_444 (by decide) rfl (fun _ => k _ u1 u2 hX1 hM2) (fun q => absurd rfl q)
theorem lw_c9 (hX : CX S w1) (hM : CM S w2) (hi : i + 5 ≤ Lc) (hL : Lc ≤ 320) (hm : kc ≤ mc ∧ ks ≤ ms) (k : ∀ (S' : sT) (u1 u2 : mm_W), CX S' u1 → CM S' u2 → mm_R 12 mL_law (some (Lc, xs)) mc ms ah false Qf kc ks 1384 (lwL i) [] (u1 ++ shW u2)) : mm_R 12 mL_law (some (Lc, xs)) mc ms ah false Qf kc ks 449 (lwL i) [] (w1 ++ shW w2) := by
  have hT : tOk S := hX.1
  refine r_aload_n (i := 1) 450 dL_law_449 rfl rfl rfl ?_
  refine r_arg 1 dL_law_450 dL_law_451 dL_law_452 dL_law_453 dL_law_454 rfl (by decide) hi hL ?_
  refine r_arg 2 dL_law_455 dL_law_456 dL_law_457 dL_law_458 dL_law_459 rfl (by decide) hi hL ?_
  refine r_arg 3 dL_law_460 dL_law_461 dL_law_462 dL_law_463 dL_law_464 rfl (by decide) hi hL ?_
  refine r_lawX (d := 11) (As0 := [.int (xs (i + 1)), .int (xs (i + 2)), .int (xs (i + 3))]) 468 dL_law_465 rfl ykX7_hire lk_L_53 hX (CM_len hM) (p_hire (d := 8) hX (xs (i + 1)) (xs (i + 2)) (xs (i + 3))) rfl rfl (fun _ => rfl) rfl rfl hm (fun _ _ => QX_h) (fun v u1 hq hX1 => ?_)
  obtain ⟨rfl, -⟩ := hq
  refine r_aload_n (i := 2) 469 dL_law_468 rfl rfl rfl ?_
  refine r_arg 1 dL_law_469 dL_law_470 dL_law_471 dL_law_472 dL_law_473 rfl (by decide) hi hL ?_
  refine r_arg 2 dL_law_474 dL_law_475 dL_law_476 dL_law_477 dL_law_478 rfl (by decide) hi hL ?_
  refine r_arg 3 dL_law_479 dL_law_480 dL_law_481 dL_law_482 dL_law_483 rfl (by decide) hi hL ?_
  refine r_lawM (d := 11) (As0 := [.int (xs (i + 1)), .int (xs (i + 2)), .int (xs (i + 3))]) 487 dL_law_484 rfl ykX8_hire lk_L_56 (CX_len hX1) hM (q_hire (d := 8) hT hM (xs (i + 1)) (xs (i + 2)) (xs (i + 3))) rfl rfl (fun _ => rfl) rfl rfl hm (fun _ _ => QM_h) (fun v u2 hq hM2 => ?_)
  obtain ⟨rfl, -⟩ := hq
  exact r_icmp_eq 1384 490 dL_law_487 (by decide) rfl (fun _ => k _ u1 u2 hX1 hM2) (fun q => absurd rfl q)
theorem lw_c10 (hX : CX S w1) (hM : CM S w2) (hi : i + 5 ≤ Lc) (hL : Lc ≤ 320) (hm : kc ≤ mc ∧ ks ≤ ms) (k : ∀ (S' : sT) (u1 u2 : mm_W), CX S' u1 → CM S' u2 → mm_R 12 mL_law (some (Lc, xs)) mc ms ah false Qf kc ks 1384 (lwL i) [] (u1 ++ shW u2)) : mm_R 12 mL_law (some (Lc, xs)) mc ms ah false Qf kc ks 492 (lwL i) [] (w1 ++ shW w2) := by
  have hT : tOk S := hX.1
  refine r_aload_n (i := 1) 493 dL_law_492 rfl rfl rfl ?_
  refine r_arg 1 dL_law_493 dL_law_494 dL_law_495 dL_law_496 dL_law_497 rfl (by decide) hi hL ?_
  refine r_arg 2 dL_law_498 dL_law_499 dL_law_500 dL_law_501 dL_law_502 rfl (by decide) hi hL ?_
  refine r_lawX (d := 11) (As0 := [.int (xs (i + 1)), .int (xs (i + 2))]) 506 dL_law_503 rfl ykX7_forbid lk_L_57 hX (CM_len hM) (p_forbid (d := 9) hX (xs (i + 1)) (xs (i + 2))) rfl rfl (fun _ => rfl) rfl rfl hm (fun _ _ => QX_h) (fun v u1 hq hX1 => ?_)
  obtain ⟨rfl, -⟩ := hq
  refine r_aload_n (i := 2) 507 dL_law_506 rfl rfl rfl ?_
  refine r_arg 1 dL_law_507 dL_law_508 dL_law_509 dL_law_510 dL_law_511 rfl (by decide) hi hL ?_
  refine r_arg 2 dL_law_512 dL_law_513 dL_law_514 dL_law_515 dL_law_516 rfl (by decide) hi hL ?_
  refine r_lawM (d := 11) (As0 := [.int (xs (i + 1)), .int (xs (i + 2))]) 520 dL_law_517 rfl ykX8_forbid lk_L_60 (CX_len hX1) hM (q_forbid (d := 8) hT hM (xs (i + 1)) (xs (i + 2))) rfl rfl (fun _ => rfl) rfl rfl hm (fun _ _ => QM_h) (fun v u2 hq hM2 => ?_)
  obtain ⟨rfl, -⟩ := hq
  exact r_icmp_eq 1384 523 dL_law_520 (by decide) rfl (fun _ => k _ u1 u2 hX1 hM2) (fun q => absurd rfl q)
theorem lw_c11 (hX : CX S w1) (hM : CM S w2) (hi : i + 5 ≤ Lc) (hL : Lc ≤ 320) (hm : kc ≤ mc ∧ ks ≤ ms) (k : ∀ (S' : sT) (u1 u2 : mm_W), CX S' u1 → CM S' u2 → mm_R 12 mL_law (some (Lc, xs)) mc ms ah false Qf kc ks 1384 (lwL i) [] (u1 ++ shW u2)) : mm_R 12 mL_law (some (Lc, xs)) mc ms ah false Qf kc ks 525 (lwL i) [] (w1 ++ shW w2) := by
  have hT : tOk S := hX.1
  refine r_aload_n (i := 1) 526 dL_law_525 rfl rfl rfl ?_
  refine r_arg 1 dL_law_526 dL_law_527 dL_law_528 dL_law_529 dL_law_530 rfl (by decide) hi hL ?_
  refine r_lawX (d := 11) (As0 := [.int (xs (i + 1))]) 534 dL_law_531 rfl ykX7_lift lk_L_61 hX (CM_len hM) (p_lift (d := 9) hX (xs (i + 1))) rfl rfl (fun _ => rfl) rfl rfl hm (fun _ _ => QX_h) (fun v u1 hq hX1 => ?_)
  obtain ⟨rfl, -⟩ := hq
  refine r_aload_n (i := 2) 535 dL_law_534 rfl rfl rfl ?_
  refine r_arg 1 dL_law_535 dL_law_536 dL_law_537 dL_law_538 dL_law_539 rfl (by decide) hi hL ?_
  refine r_lawM (d := 11) (As0 := [.int (xs (i + 1))]) 543 dL_law_540 rfl ykX8_lift lk_L_64 (CX_len hX1) hM (q_lift (d := 8) hT hM (xs (i + 1))) rfl rfl (fun _ => rfl) rfl rfl hm (fun _ _ => QM_h) (fun v u2 hq hM2 => ?_)
  obtain ⟨rfl, -⟩ := hq
  exact r_icmp_eq 1384 546 dL_law_543 (by decide) rfl (fun _ => k _ u1 u2 hX1 hM2) (fun q => absurd rfl q)
theorem lw_c12 (hX : CX S w1) (hM : CM S w2) (hi : i + 5 ≤ Lc) (hL : Lc ≤ 320) (hm : kc ≤ mc ∧ ks ≤ ms) (k : ∀ (S' : sT) (u1 u2 : mm_W), CX S' u1 → CM S' u2 → mm_R 12 mL_law (some (Lc, xs)) mc ms ah false Qf kc ks 1384 (lwL i) [] (u1 ++ shW u2)) : mm_R 12 mL_law (some (Lc, xs)) mc ms ah false Qf kc ks 548 (lwL i) [] (w1 ++ shW w2) := by
  have hT : tOk S := hX.1
  refine r_aload_n (i := 1) 549 dL_law_548 rfl rfl rfl ?_
  refine r_arg 1 dL_law_549 dL_law_550 dL_law_551 dL_law_552 dL_law_553 rfl (by decide) hi hL ?_
  refine r_lawX (d := 11) (As0 := [.int (xs (i + 1))]) 557 dL_law_554 rfl ykX7_undo lk_L_65 hX (CM_len hM) (p_undo (d := 7) hX (xs (i + 1))) rfl rfl (fun _ => rfl) rfl rfl hm (fun _ _ => QX_h) (fun v u1 hq hX1 => ?_)
  obtain ⟨rfl, -⟩ := hq
  refine r_aload_n (i := 2) 558 dL_law_557 rfl rfl rfl ?_
  refine r_arg 1 dL_law_558 dL_law_559 dL_law_560 dL_law_561 dL_law_562 rfl (by decide) hi hL ?_
  refine r_lawM (d := 11) (As0 := [.int (xs (i + 1))]) 566 dL_law_563 rfl ykX8_undo lk_L_68 (CX_len hX1) hM (q_undo (d := 7) hT hM (xs (i + 1))) rfl rfl (fun _ => rfl) rfl rfl hm (fun _ _ => QM_h) (fun v u2 hq hM2 => ?_)
  obtain ⟨rfl, -⟩ := hq
  exact r_icmp_eq 1384 569 dL_law_566 (by decide) rfl (fun _ => k _ u1 u2 hX1 hM2) (fun q => absurd rfl q)
theorem lw_c13 (hX : CX S w1) (hM : CM S w2) (hi : i + 5 ≤ Lc) (hL : Lc ≤ 320) (hm : kc ≤ mc ∧ ks ≤ ms) (k : ∀ (S' : sT) (u1 u2 : mm_W), CX S' u1 → CM S' u2 → mm_R 12 mL_law (some (Lc, xs)) mc ms ah false Qf kc ks 1384 (lwL i) [] (u1 ++ shW u2)) : mm_R 12 mL_law (some (Lc, xs)) mc ms ah false Qf kc ks 571 (lwL i) [] (w1 ++ shW w2) := by
  have hT : tOk S := hX.1
  refine r_aload_n (i := 1) 572 dL_law_571 rfl rfl rfl ?_
  refine r_arg 1 dL_law_572 dL_law_573 dL_law_574 dL_law_575 dL_law_576 rfl (by decide) hi hL ?_
  refine r_lawX (d := 11) (As0 := [.int (xs (i + 1))]) 580 dL_law_577 rfl ykX7_go lk_L_69 hX (CM_len hM) (p_go (d := 7) hX (xs (i + 1))) rfl rfl (fun _ => rfl) rfl rfl hm (fun _ _ => QX_h) (fun v u1 hq hX1 => ?_)
  obtain ⟨rfl, -⟩ := hq
  refine r_aload_n (i := 2) 581 dL_law_580 rfl rfl rfl ?_
  refine r_arg 1 dL_law_581 dL_law_582 dL_law_583 dL_law_584 dL_law_585 rfl (by decide) hi hL ?_
  refine r_lawM (d := 11) (As0 := [.int (xs (i + 1))]) 589 dL_law_586 rfl ykX8_go lk_L_72 (CX_len hX1) hM (q_go (d := 6) hT hM (xs (i + 1))) rfl rfl (fun _ => rfl) rfl rfl hm (fun _ _ => QM_h) (fun v u2 hq hM2 => ?_)
  obtain ⟨rfl, -⟩ := hq
  exact r_icmp_eq 1384 592 dL_law_589 (by decide) rfl (fun _ => k _ u1 u2 hX1 hM2) (fun q => absurd rfl q)
theorem lw_c14 (hX : CX S w1) (hM : CM S w2) (hi : i + 5 ≤ Lc) (hL : Lc ≤ 320) (hm : kc ≤ mc ∧ ks ≤ ms) (k : ∀ (S' : sT) (u1 u2 : mm_W), CX S' u1 → CM S' u2 → mm_R 12 mL_law (some (Lc, xs)) mc ms ah false Qf kc ks 1384 (lwL i) [] (u1 ++ shW u2)) : mm_R 12 mL_law (some (Lc, xs)) mc ms ah false Qf kc ks 594 (lwL i) [] (w1 ++ shW w2) := by
  have hT : tOk S := hX.1
  refine r_aload_n (i := 1) 595 dL_law_594 rfl rfl rfl ?_
  refine r_arg 1 dL_law_595 dL_law_596 dL_law_597 dL_law_598 dL_law_599 rfl (by decide) hi hL ?_
  refine r_lawX (d := 11) (As0 := [.int (xs (i + 1))]) 603 dL_law_600 rfl ykX7_ahead lk_L_73 hX (CM_len hM) (p_ahead (d := 7) hX (xs (i + 1))) rfl rfl (fun _ => rfl) rfl rfl hm (fun _ _ => QX_h) (fun v u1 hq hX1 => ?_)
  obtain ⟨rfl, -⟩ := hq
  refine r_aload_n (i := 2) 604 dL_law_603 rfl rfl rfl ?_
  refine r_arg 1 dL_law_604 dL_law_605 dL_law_606 dL_law_607 dL_law_608 rfl (by decide) hi hL ?_
  refine r_lawM (d := 11) (As0 := [.int (xs (i + 1))]) 612 dL_law_609 rfl ykX8_ahead lk_L_76 (CX_len hX1) hM (q_ahead (d := 6) hT hM (xs (i + 1))) rfl rfl (fun _ => rfl) rfl rfl hm (fun _ _ => QM_h) (fun v u2 hq hM2 => ?_)
  obtain ⟨rfl, -⟩ := hq
  exact r_icmp_eq 1384 615 dL_law_612 (by decide) rfl (fun _ => k _ u1 u2 hX1 hM2) (fun q => absurd rfl q)
theorem lw_c15 (hX : CX S w1) (hM : CM S w2) (hi : i + 5 ≤ Lc) (hL : Lc ≤ 320) (hm : kc ≤ mc ∧ ks ≤ ms) (k : ∀ (S' : sT) (u1 u2 : mm_W), CX S' u1 → CM S' u2 → mm_R 12 mL_law (some (Lc, xs)) mc ms ah false Qf kc ks 1384 (lwL i) [] (u1 ++ shW u2)) : mm_R 12 mL_law (some (Lc, xs)) mc ms ah false Qf kc ks 617 (lwL i) [] (w1 ++ shW w2) := by
  have hT : tOk S := hX.1
  refine r_aload_n (i := 1) 618 dL_law_617 rfl rfl rfl ?_
  refine r_arg 1 dL_law_618 dL_law_619 dL_law_620 dL_law_621 dL_law_622 rfl (by decide) hi hL ?_
  refine r_lawX (d := 11) (As0 := [.int (xs (i + 1))]) 626 dL_law_623 rfl ykX7_next lk_L_77 hX (CM_len hM) (p_next (d := 8) hX (xs (i + 1))) rfl rfl (fun _ => rfl) rfl rfl hm (fun _ _ => QX_h) (fun v u1 hq hX1 => ?_)
  obtain ⟨rfl, -⟩ := hq
  refine r_aload_n (i := 2) 627 dL_law_626 rfl rfl rfl ?_
  refine r_arg 1 dL_law_627 dL_law_628 dL_law_629 dL_law_630 dL_law_631 rfl (by decide) hi hL ?_
  refine r_lawM (d := 11) (As0 := [.int (xs (i + 1))]) 635 dL_law_632 rfl ykX8_next lk_L_80 (CX_len hX1) hM (q_next (d := 7) hT hM (xs (i + 1))) rfl rfl (fun _ => rfl) rfl rfl hm (fun _ _ => QM_h) (fun v u2 hq hM2 => ?_)
  obtain ⟨rfl, -⟩ := hq
  exact r_icmp_eq 1384 638 dL_law_635 (by decide) rfl (fun _ => k _ u1 u2 hX1 hM2) (fun q => absurd rfl q)
theorem lw_c16 (hX : CX S w1) (hM : CM S w2) (hi : i + 5 ≤ Lc) (hL : Lc ≤ 320) (hm : kc ≤ mc ∧ ks ≤ ms) (k : ∀ (S' : sT) (u1 u2 : mm_W), CX S' u1 → CM S' u2 → mm_R 12 mL_law (some (Lc, xs)) mc ms ah false Qf kc ks 1384 (lwL i) [] (u1 ++ shW u2)) : mm_R 12 mL_law (some (Lc, xs)) mc ms ah false Qf kc ks 640 (lwL i) [] (w1 ++ shW w2) := by
  have hT : tOk S := hX.1
  refine r_aload_n (i := 1) 641 dL_law_640 rfl rfl rfl ?_
  refine r_arg 1 dL_law_641 dL_law_642 dL_law_643 dL_law_644 dL_law_645 rfl (by decide) hi hL ?_
  refine r_lawX (d := 11) (As0 := [.int (xs (i + 1))]) 649 dL_law_646 rfl ykX7_ring lk_L_81 hX (CM_len hM) (p_ring (d := 6) hX (xs (i + 1))) rfl rfl (fun _ => rfl) rfl rfl hm (fun _ _ => QX_h) (fun v u1 hq hX1 => ?_)
  obtain ⟨rfl, -⟩ := hq
  refine r_aload_n (i := 2) 650 dL_law_649 rfl rfl rfl ?_
  refine r_arg 1 dL_law_650 dL_law_651 dL_law_652 dL_law_653 dL_law_654 rfl (by decide) hi hL ?_
  refine r_lawM (d := 11) (As0 := [.int (xs (i + 1))]) 658 dL_law_655 rfl ykX8_ring lk_L_84 (CX_len hX1) hM (q_ring (d := 6) hT hM (xs (i + 1))) rfl rfl (fun _ => rfl) rfl rfl hm (fun _ _ => QM_h) (fun v u2 hq hM2 => ?_)
  obtain ⟨rfl, -⟩ := hq
  exact r_icmp_eq 1384 661 dL_law_658 (by decide) rfl (fun _ => k _ u1 u2 hX1 hM2) (fun q => absurd rfl q)
theorem lw_c17 (hX : CX S w1) (hM : CM S w2) (hi : i + 5 ≤ Lc) (hL : Lc ≤ 320) (hm : kc ≤ mc ∧ ks ≤ ms) (k : ∀ (S' : sT) (u1 u2 : mm_W), CX S' u1 → CM S' u2 → mm_R 12 mL_law (some (Lc, xs)) mc ms ah false Qf kc ks 1384 (lwL i) [] (u1 ++ shW u2)) : mm_R 12 mL_law (some (Lc, xs)) mc ms ah false Qf kc ks 663 (lwL i) [] (w1 ++ shW w2) := by
  have hT : tOk S := hX.1
  refine r_aload_n (i := 1) 664 dL_law_663 rfl rfl rfl ?_
  refine r_arg 1 dL_law_664 dL_law_665 dL_law_666 dL_law_667 dL_law_668 rfl (by decide) hi hL ?_
  refine r_lawX (d := 11) (As0 := [.int (xs (i + 1))]) 672 dL_law_669 rfl ykX7_rings lk_L_85 hX (CM_len hM) (p_rings (d := 7) hX (xs (i + 1))) rfl rfl (fun _ => rfl) rfl rfl hm (fun _ _ => QX_h) (fun v u1 hq hX1 => ?_)
  obtain ⟨rfl, -⟩ := hq
  refine r_aload_n (i := 2) 673 dL_law_672 rfl rfl rfl ?_
  refine r_arg 1 dL_law_673 dL_law_674 dL_law_675 dL_law_676 dL_law_677 rfl (by decide) hi hL ?_
  refine r_lawM (d := 11) (As0 := [.int (xs (i + 1))]) 681 dL_law_678 rfl ykX8_rings lk_L_88 (CX_len hX1) hM (q_rings (d := 6) hT hM (xs (i + 1))) rfl rfl (fun _ => rfl) rfl rfl hm (fun _ _ => QM_h) (fun v u2 hq hM2 => ?_)
  obtain ⟨rfl, -⟩ := hq
  exact r_icmp_eq 1384 684 dL_law_681 (by decide) rfl (fun _ => k _ u1 u2 hX1 hM2) (fun q => absurd rfl q)
theorem lw_c18 (hX : CX S w1) (hM : CM S w2) (hi : i + 5 ≤ Lc) (hL : Lc ≤ 320) (hm : kc ≤ mc ∧ ks ≤ ms) (k : ∀ (S' : sT) (u1 u2 : mm_W), CX S' u1 → CM S' u2 → mm_R 12 mL_law (some (Lc, xs)) mc ms ah false Qf kc ks 1384 (lwL i) [] (u1 ++ shW u2)) : mm_R 12 mL_law (some (Lc, xs)) mc ms ah false Qf kc ks 686 (lwL i) [] (w1 ++ shW w2) := by
  have hT : tOk S := hX.1
  refine r_aload_n (i := 1) 687 dL_law_686 rfl rfl rfl ?_
  refine r_arg 1 dL_law_687 dL_law_688 dL_law_689 dL_law_690 dL_law_691 rfl (by decide) hi hL ?_
  refine r_lawX (d := 11) (As0 := [.int (xs (i + 1))]) 695 dL_law_692 rfl ykX7_agree lk_L_89 hX (CM_len hM) (p_agree (d := 6) hX (xs (i + 1))) rfl rfl (fun _ => rfl) rfl rfl hm (fun _ _ => QX_h) (fun v u1 hq hX1 => ?_)
  obtain ⟨rfl, -⟩ := hq
  refine r_aload_n (i := 2) 696 dL_law_695 rfl rfl rfl ?_
  refine r_arg 1 dL_law_696 dL_law_697 dL_law_698 dL_law_699 dL_law_700 rfl (by decide) hi hL ?_
  refine r_lawM (d := 11) (As0 := [.int (xs (i + 1))]) 704 dL_law_701 rfl ykX8_agree lk_L_92 (CX_len hX1) hM (q_agree (d := 5) hT hM (xs (i + 1))) rfl rfl (fun _ => rfl) rfl rfl hm (fun _ _ => QM_h) (fun v u2 hq hM2 => ?_)
  obtain ⟨rfl, -⟩ := hq
  exact r_icmp_eq 1384 707 dL_law_704 (by decide) rfl (fun _ => k _ u1 u2 hX1 hM2) (fun q => absurd rfl q)
theorem lw_c19 (hX : CX S w1) (hM : CM S w2) (hi : i + 5 ≤ Lc) (hL : Lc ≤ 320) (hm : kc ≤ mc ∧ ks ≤ ms) (k : ∀ (S' : sT) (u1 u2 : mm_W), CX S' u1 → CM S' u2 → mm_R 12 mL_law (some (Lc, xs)) mc ms ah false Qf kc ks 1384 (lwL i) [] (u1 ++ shW u2)) : mm_R 12 mL_law (some (Lc, xs)) mc ms ah false Qf kc ks 709 (lwL i) [] (w1 ++ shW w2) := by
  have hT : tOk S := hX.1
  refine r_aload_n (i := 1) 710 dL_law_709 rfl rfl rfl ?_
  refine r_arg 1 dL_law_710 dL_law_711 dL_law_712 dL_law_713 dL_law_714 rfl (by decide) hi hL ?_
  refine r_arg 2 dL_law_715 dL_law_716 dL_law_717 dL_law_718 dL_law_719 rfl (by decide) hi hL ?_
  refine r_lawX (d := 11) (As0 := [.int (xs (i + 1)), .int (xs (i + 2))]) 723 dL_law_720 rfl ykX7_before lk_L_93 hX (CM_len hM) (p_before (d := 6) hX (xs (i + 1)) (xs (i + 2))) rfl rfl (fun _ => rfl) rfl rfl hm (fun _ _ => QX_h) (fun v u1 hq hX1 => ?_)
  obtain ⟨rfl, -⟩ := hq
  refine r_aload_n (i := 2) 724 dL_law_723 rfl rfl rfl ?_
  refine r_arg 1 dL_law_724 dL_law_725 dL_law_726 dL_law_727 dL_law_728 rfl (by decide) hi hL ?_
  refine r_arg 2 dL_law_729 dL_law_730 dL_law_731 dL_law_732 dL_law_733 rfl (by decide) hi hL ?_
  refine r_lawM (d := 11) (As0 := [.int (xs (i + 1)), .int (xs (i + 2))]) 737 dL_law_734 rfl ykX8_before lk_L_96 (CX_len hX1) hM (q_before (d := 6) hT hM (xs (i + 1)) (xs (i + 2))) rfl rfl (fun _ => rfl) rfl rfl hm (fun _ _ => QM_h) (fun v u2 hq hM2 => ?_)
  obtain ⟨rfl, -⟩ := hq
  exact r_icmp_eq 1384 740 dL_law_737 (by decide) rfl (fun _ => k _ u1 u2 hX1 hM2) (fun q => absurd rfl q)
theorem lw_c20 (hX : CX S w1) (hM : CM S w2) (hi : i + 5 ≤ Lc) (hL : Lc ≤ 320) (hm : kc ≤ mc ∧ ks ≤ ms) (k : ∀ (S' : sT) (u1 u2 : mm_W), CX S' u1 → CM S' u2 → mm_R 12 mL_law (some (Lc, xs)) mc ms ah false Qf kc ks 1384 (lwL i) [] (u1 ++ shW u2)) : mm_R 12 mL_law (some (Lc, xs)) mc ms ah false Qf kc ks 742 (lwL i) [] (w1 ++ shW w2) := by
  have hT : tOk S := hX.1
  refine r_aload_n (i := 1) 743 dL_law_742 rfl rfl rfl ?_
  refine r_lawX (d := 11) (As0 := []) 746 dL_law_743 rfl ykX7_gardens lk_L_97 hX (CM_len hM) (p_gardens (d := 8) hX) rfl rfl (fun _ => rfl) rfl rfl hm (fun _ _ => QX_h) (fun v u1 hq hX1 => ?_)
  obtain ⟨rfl, -⟩ := hq
  refine r_aload_n (i := 2) 747 dL_law_746 rfl rfl rfl ?_
  refine r_lawM (d := 11) (As0 := []) 750 dL_law_747 rfl ykX8_gardens lk_L_100 (CX_len hX1) hM (q_gardens (d := 6) hT hM) rfl rfl (fun _ => rfl) rfl rfl hm (fun _ _ => QM_h) (fun v u2 hq hM2 => ?_)
  obtain ⟨rfl, -⟩ := hq
  exact r_icmp_eq 1384 753 dL_law_750 (by decide) rfl (fun _ => k _ u1 u2 hX1 hM2) (fun q => absurd rfl q)
theorem lw_c21 (hX : CX S w1) (hM : CM S w2) (hi : i + 5 ≤ Lc) (hL : Lc ≤ 320) (hm : kc ≤ mc ∧ ks ≤ ms) (k : ∀ (S' : sT) (u1 u2 : mm_W), CX S' u1 → CM S' u2 → mm_R 12 mL_law (some (Lc, xs)) mc ms ah false Qf kc ks 1384 (lwL i) [] (u1 ++ shW u2)) : mm_R 12 mL_law (some (Lc, xs)) mc ms ah false Qf kc ks 755 (lwL i) [] (w1 ++ shW w2) := by
  have hT : tOk S := hX.1
  refine r_aload_n (i := 1) 756 dL_law_755 rfl rfl rfl ?_
  refine r_lawX (d := 11) (As0 := []) 759 dL_law_756 rfl ykX7_clash lk_L_101 hX (CM_len hM) (p_clash (d := 7) hX) rfl rfl (fun _ => rfl) rfl rfl hm (fun _ _ => QX_h) (fun v u1 hq hX1 => ?_)
  obtain ⟨rfl, -⟩ := hq
  refine r_aload_n (i := 2) 760 dL_law_759 rfl rfl rfl ?_
  refine r_lawM (d := 11) (As0 := []) 763 dL_law_760 rfl ykX8_clash lk_L_104 (CX_len hX1) hM (q_clash (d := 7) hT hM) rfl rfl (fun _ => rfl) rfl rfl hm (fun _ _ => QM_h) (fun v u2 hq hM2 => ?_)
  obtain ⟨rfl, -⟩ := hq
  exact r_icmp_eq 1384 766 dL_law_763 (by decide) rfl (fun _ => k _ u1 u2 hX1 hM2) (fun q => absurd rfl q)
theorem lw_c22 (hX : CX S w1) (hM : CM S w2) (hi : i + 5 ≤ Lc) (hL : Lc ≤ 320) (hm : kc ≤ mc ∧ ks ≤ ms) (k : ∀ (S' : sT) (u1 u2 : mm_W), CX S' u1 → CM S' u2 → mm_R 12 mL_law (some (Lc, xs)) mc ms ah false Qf kc ks 1384 (lwL i) [] (u1 ++ shW u2)) : mm_R 12 mL_law (some (Lc, xs)) mc ms ah false Qf kc ks 768 (lwL i) [] (w1 ++ shW w2) := by
  have hT : tOk S := hX.1
  refine r_aload_n (i := 1) 769 dL_law_768 rfl rfl rfl ?_
  refine r_arg 1 dL_law_769 dL_law_770 dL_law_771 dL_law_772 dL_law_773 rfl (by decide) hi hL ?_
  refine r_arg 2 dL_law_774 dL_law_775 dL_law_776 dL_law_777 dL_law_778 rfl (by decide) hi hL ?_
  refine r_arg 3 dL_law_779 dL_law_780 dL_law_781 dL_law_782 dL_law_783 rfl (by decide) hi hL ?_
  refine r_lawX (d := 11) (As0 := [.int (xs (i + 1)), .int (xs (i + 2)), .int (xs (i + 3))]) 787 dL_law_784 rfl ykX7_way lk_L_105 hX (CM_len hM) (p_way (d := 5) hX (xs (i + 1)) (xs (i + 2)) (xs (i + 3))) rfl rfl (fun _ => rfl) rfl rfl hm (fun _ _ => QX_h) (fun v u1 hq hX1 => ?_)
  obtain ⟨rfl, -⟩ := hq
  refine r_aload_n (i := 2) 788 dL_law_787 rfl rfl rfl ?_
  refine r_arg 1 dL_law_788 dL_law_789 dL_law_790 dL_law_791 dL_law_792 rfl (by decide) hi hL ?_
  refine r_arg 2 dL_law_793 dL_law_794 dL_law_795 dL_law_796 dL_law_797 rfl (by decide) hi hL ?_
  refine r_arg 3 dL_law_798 dL_law_799 dL_law_800 dL_law_801 dL_law_802 rfl (by decide) hi hL ?_
  refine r_lawM (d := 11) (As0 := [.int (xs (i + 1)), .int (xs (i + 2)), .int (xs (i + 3))]) 806 dL_law_803 rfl ykX8_way lk_L_108 (CX_len hX1) hM (q_way (d := 5) hT hM (xs (i + 1)) (xs (i + 2)) (xs (i + 3))) rfl rfl (fun _ => rfl) rfl rfl hm (fun _ _ => QM_h) (fun v u2 hq hM2 => ?_)
  obtain ⟨rfl, -⟩ := hq
  exact r_icmp_eq 1384 809 dL_law_806 (by decide) rfl (fun _ => k _ u1 u2 hX1 hM2) (fun q => absurd rfl q)
theorem lw_c23 (hX : CX S w1) (hM : CM S w2) (hi : i + 5 ≤ Lc) (hL : Lc ≤ 320) (hm : kc ≤ mc ∧ ks ≤ ms) (k : ∀ (S' : sT) (u1 u2 : mm_W), CX S' u1 → CM S' u2 → mm_R 12 mL_law (some (Lc, xs)) mc ms ah false Qf kc ks 1384 (lwL i) [] (u1 ++ shW u2)) : mm_R 12 mL_law (some (Lc, xs)) mc ms ah false Qf kc ks 811 (lwL i) [] (w1 ++ shW w2) := by
  have hT : tOk S := hX.1
  refine r_aload_n (i := 1) 812 dL_law_811 rfl rfl rfl ?_
  refine r_arg 1 dL_law_812 dL_law_813 dL_law_814 dL_law_815 dL_law_816 rfl (by decide) hi hL ?_
  refine r_arg 2 dL_law_817 dL_law_818 dL_law_819 dL_law_820 dL_law_821 rfl (by decide) hi hL ?_
  refine r_lawX (d := 11) (As0 := [.int (xs (i + 1)), .int (xs (i + 2))]) 825 dL_law_822 rfl ykX7_peace lk_L_109 hX (CM_len hM) (p_peace (d := 5) hX (xs (i + 1)) (xs (i + 2))) rfl rfl (fun _ => rfl) rfl rfl hm (fun _ _ => QX_h) (fun v u1 hq hX1 => ?_)
  obtain ⟨rfl, -⟩ := hq
  refine r_aload_n (i := 2) 826 dL_law_825 rfl rfl rfl ?_
  refine r_arg 1 dL_law_826 dL_law_827 dL_law_828 dL_law_829 dL_law_830 rfl (by decide) hi hL ?_
  refine r_arg 2 dL_law_831 dL_law_832 dL_law_833 dL_law_834 dL_law_835 rfl (by decide) hi hL ?_
  refine r_lawM (d := 11) (As0 := [.int (xs (i + 1)), .int (xs (i + 2))]) 839 dL_law_836 rfl ykX8_peace lk_L_112 (CX_len hX1) hM (q_peace (d := 5) hT hM (xs (i + 1)) (xs (i + 2))) rfl rfl (fun _ => rfl) rfl rfl hm (fun _ _ => QM_h) (fun v u2 hq hM2 => ?_)
  obtain ⟨rfl, -⟩ := hq
  exact r_icmp_eq 1384 842 dL_law_839 (by decide) rfl (fun _ => k _ u1 u2 hX1 hM2) (fun q => absurd rfl q)
theorem lw_c24 (hX : CX S w1) (hM : CM S w2) (hi : i + 5 ≤ Lc) (hL : Lc ≤ 320) (hm : kc ≤ mc ∧ ks ≤ ms) (k : ∀ (S' : sT) (u1 u2 : mm_W), CX S' u1 → CM S' u2 → mm_R 12 mL_law (some (Lc, xs)) mc ms ah false Qf kc ks 1384 (lwL i) [] (u1 ++ shW u2)) : mm_R 12 mL_law (some (Lc, xs)) mc ms ah false Qf kc ks 844 (lwL i) [] (w1 ++ shW w2) := by
  have hT : tOk S := hX.1
  refine r_aload_n (i := 1) 845 dL_law_844 rfl rfl rfl ?_
  refine r_arg 1 dL_law_845 dL_law_846 dL_law_847 dL_law_848 dL_law_849 rfl (by decide) hi hL ?_
  refine r_lawX (d := 11) (As0 := [.int (xs (i + 1))]) 853 dL_law_850 rfl ykX7_amend lk_L_113 hX (CM_len hM) (p_amend (d := 5) hX (xs (i + 1))) rfl rfl (fun _ => rfl) rfl rfl hm (fun _ _ => QX_h) (fun v u1 hq hX1 => ?_)
  obtain ⟨rfl, -⟩ := hq
  refine r_aload_n (i := 2) 854 dL_law_853 rfl rfl rfl ?_
  refine r_arg 1 dL_law_854 dL_law_855 dL_law_856 dL_law_857 dL_law_858 rfl (by decide) hi hL ?_
  refine r_lawM (d := 11) (As0 := [.int (xs (i + 1))]) 862 dL_law_859 rfl ykX8_amend lk_L_116 (CX_len hX1) hM (q_amend (d := 5) hT hM (xs (i + 1))) rfl rfl (fun _ => rfl) rfl rfl hm (fun _ _ => QM_h) (fun v u2 hq hM2 => ?_)
  obtain ⟨rfl, -⟩ := hq
  exact r_icmp_eq 1384 865 dL_law_862 (by decide) rfl (fun _ => k _ u1 u2 hX1 hM2) (fun q => absurd rfl q)
theorem lw_c25 (hX : CX S w1) (hM : CM S w2) (hi : i + 5 ≤ Lc) (hL : Lc ≤ 320) (hm : kc ≤ mc ∧ ks ≤ ms) (k : ∀ (S' : sT) (u1 u2 : mm_W), CX S' u1 → CM S' u2 → mm_R 12 mL_law (some (Lc, xs)) mc ms ah false Qf kc ks 1384 (lwL i) [] (u1 ++ shW u2)) : mm_R 12 mL_law (some (Lc, xs)) mc ms ah false Qf kc ks 867 (lwL i) [] (w1 ++ shW w2) := by
  have hT : tOk S := hX.1
  refine r_aload_n (i := 1) 868 dL_law_867 rfl rfl rfl ?_
  refine r_arg 1 dL_law_868 dL_law_869 dL_law_870 dL_law_871 dL_law_872 rfl (by decide) hi hL ?_
  refine r_lawX (d := 11) (As0 := [.int (xs (i + 1))]) 876 dL_law_873 rfl ykX7_strict lk_L_117 hX (CM_len hM) (p_strict (d := 5) hX (xs (i + 1))) rfl rfl (fun _ => rfl) rfl rfl hm (fun _ _ => QX_h) (fun v u1 hq hX1 => ?_)
  obtain ⟨rfl, -⟩ := hq
  refine r_aload_n (i := 2) 877 dL_law_876 rfl rfl rfl ?_
  refine r_arg 1 dL_law_877 dL_law_878 dL_law_879 dL_law_880 dL_law_881 rfl (by decide) hi hL ?_
  refine r_lawM (d := 11) (As0 := [.int (xs (i + 1))]) 885 dL_law_882 rfl ykX8_strict lk_L_120 (CX_len hX1) hM (q_strict (d := 5) hT hM (xs (i + 1))) rfl rfl (fun _ => rfl) rfl rfl hm (fun _ _ => QM_h) (fun v u2 hq hM2 => ?_)
  obtain ⟨rfl, -⟩ := hq
  exact r_icmp_eq 1384 888 dL_law_885 (by decide) rfl (fun _ => k _ u1 u2 hX1 hM2) (fun q => absurd rfl q)
theorem lw_c26 (hX : CX S w1) (hM : CM S w2) (hi : i + 5 ≤ Lc) (hL : Lc ≤ 320) (hm : kc ≤ mc ∧ ks ≤ ms) (k : ∀ (S' : sT) (u1 u2 : mm_W), CX S' u1 → CM S' u2 → mm_R 12 mL_law (some (Lc, xs)) mc ms ah false Qf kc ks 1384 (lwL i) [] (u1 ++ shW u2)) : mm_R 12 mL_law (some (Lc, xs)) mc ms ah false Qf kc ks 890 (lwL i) [] (w1 ++ shW w2) := by
  have hT : tOk S := hX.1
  refine r_aload_n (i := 1) 891 dL_law_890 rfl rfl rfl ?_
  refine r_arg 1 dL_law_891 dL_law_892 dL_law_893 dL_law_894 dL_law_895 rfl (by decide) hi hL ?_
  refine r_arg 2 dL_law_896 dL_law_897 dL_law_898 dL_law_899 dL_law_900 rfl (by decide) hi hL ?_
  refine r_lawX (d := 11) (As0 := [.int (xs (i + 1)), .int (xs (i + 2))]) 904 dL_law_901 rfl ykX7_luck lk_L_121 hX (CM_len hM) (p_luck (d := 5) hX (xs (i + 1)) (xs (i + 2))) rfl rfl (fun _ => rfl) rfl rfl hm (fun _ _ => QL_h) (fun v u1 hq hX1 => ?_)
  obtain ⟨rfl, -⟩ := hq
  refine r_aload_n (i := 2) 905 dL_law_904 rfl rfl rfl ?_
  refine r_arg 1 dL_law_905 dL_law_906 dL_law_907 dL_law_908 dL_law_909 rfl (by decide) hi hL ?_
  refine r_arg 2 dL_law_910 dL_law_911 dL_law_912 dL_law_913 dL_law_914 rfl (by decide) hi hL ?_
  refine r_lawM (d := 11) (As0 := [.int (xs (i + 1)), .int (xs (i + 2))]) 918 dL_law_915 rfl ykX8_luck lk_L_125 (CX_len hX1) hM (q_luck (d := 5) hT hM (xs (i + 1)) (xs (i + 2))) rfl rfl (fun _ => rfl) rfl rfl hm (fun _ _ => QML_h) (fun v u2 hq hM2 => ?_)
  obtain ⟨rfl, -⟩ := hq
  refine r_lcmp 919 dL_law_918 rfl ?_
  rw [lcm_self]
  exact r_if_eq 1384 922 dL_law_919 (by decide) rfl (fun _ => k _ u1 u2 hX1 hM2) (fun q => absurd rfl q)
theorem lw_c27 (hX : CX S w1) (hM : CM S w2) (hi : i + 5 ≤ Lc) (hL : Lc ≤ 320) (hm : kc ≤ mc ∧ ks ≤ ms) (k : ∀ (S' : sT) (u1 u2 : mm_W), CX S' u1 → CM S' u2 → mm_R 12 mL_law (some (Lc, xs)) mc ms ah false Qf kc ks 1384 (lwL i) [] (u1 ++ shW u2)) : mm_R 12 mL_law (some (Lc, xs)) mc ms ah false Qf kc ks 924 (lwL i) [] (w1 ++ shW w2) := by
  have hT : tOk S := hX.1
  refine r_aload_n (i := 1) 925 dL_law_924 rfl rfl rfl ?_
  refine r_arg 1 dL_law_925 dL_law_926 dL_law_927 dL_law_928 dL_law_929 rfl (by decide) hi hL ?_
  refine r_arg 2 dL_law_930 dL_law_931 dL_law_932 dL_law_933 dL_law_934 rfl (by decide) hi hL ?_
  refine r_lawX (d := 11) (As0 := [.int (xs (i + 1)), .int (xs (i + 2))]) 938 dL_law_935 rfl ykX7_calm lk_L_126 hX (CM_len hM) (p_calm (d := 5) hX (xs (i + 1)) (xs (i + 2))) rfl rfl (fun _ => rfl) rfl rfl hm (fun _ _ => QL_h) (fun v u1 hq hX1 => ?_)
  obtain ⟨rfl, -⟩ := hq
  refine r_aload_n (i := 2) 939 dL_law_938 rfl rfl rfl ?_
  refine r_arg 1 dL_law_939 dL_law_940 dL_law_941 dL_law_942 dL_law_943 rfl (by decide) hi hL ?_
  refine r_arg 2 dL_law_944 dL_law_945 dL_law_946 dL_law_947 dL_law_948 rfl (by decide) hi hL ?_
  refine r_lawM (d := 11) (As0 := [.int (xs (i + 1)), .int (xs (i + 2))]) 952 dL_law_949 rfl ykX8_calm lk_L_129 (CX_len hX1) hM (q_calm (d := 5) hT hM (xs (i + 1)) (xs (i + 2))) rfl rfl (fun _ => rfl) rfl rfl hm (fun _ _ => QML_h) (fun v u2 hq hM2 => ?_)
  obtain ⟨rfl, -⟩ := hq
  refine r_lcmp 953 dL_law_952 rfl ?_
  rw [lcm_self]
  exact r_if_eq 1384 956 dL_law_953 (by decide) rfl (fun _ => k _ u1 u2 hX1 hM2) (fun q => absurd rfl q)
theorem lw_c28 (hX : CX S w1) (hM : CM S w2) (hi : i + 5 ≤ Lc) (hL : Lc ≤ 320) (hm : kc ≤ mc ∧ ks ≤ ms) (k : ∀ (S' : sT) (u1 u2 : mm_W), CX S' u1 → CM S' u2 → mm_R 12 mL_law (some (Lc, xs)) mc ms ah false Qf kc ks 1384 (lwL i) [] (u1 ++ shW u2)) : mm_R 12 mL_law (some (Lc, xs)) mc ms ah false Qf kc ks 958 (lwL i) [] (w1 ++ shW w2) := by
  have hT : tOk S := hX.1
  refine r_aload_n (i := 1) 959 dL_law_958 rfl rfl rfl ?_
  refine r_arg 1 dL_law_959 dL_law_960 dL_law_961 dL_law_962 dL_law_963 rfl (by decide) hi hL ?_
  refine r_arg 2 dL_law_964 dL_law_965 dL_law_966 dL_law_967 dL_law_968 rfl (by decide) hi hL ?_
  refine r_lawX (d := 11) (As0 := [.int (xs (i + 1)), .int (xs (i + 2))]) 972 dL_law_969 rfl ykX7_mean lk_L_130 hX (CM_len hM) (p_mean (d := 5) hX (xs (i + 1)) (xs (i + 2))) rfl rfl (fun _ => rfl) rfl rfl hm (fun _ _ => QL_h) (fun v u1 hq hX1 => ?_)
  obtain ⟨rfl, -⟩ := hq
  refine r_aload_n (i := 2) 973 dL_law_972 rfl rfl rfl ?_
  refine r_arg 1 dL_law_973 dL_law_974 dL_law_975 dL_law_976 dL_law_977 rfl (by decide) hi hL ?_
  refine r_arg 2 dL_law_978 dL_law_979 dL_law_980 dL_law_981 dL_law_982 rfl (by decide) hi hL ?_
  refine r_lawM (d := 11) (As0 := [.int (xs (i + 1)), .int (xs (i + 2))]) 986 dL_law_983 rfl ykX8_mean lk_L_133 (CX_len hX1) hM (q_mean (d := 5) hT hM (xs (i + 1)) (xs (i + 2))) rfl rfl (fun _ => rfl) rfl rfl hm (fun _ _ => QML_h) (fun v u2 hq hM2 => ?_)
  obtain ⟨rfl, -⟩ := hq
  refine r_lcmp 987 dL_law_986 rfl ?_
  rw [lcm_self]
  exact r_if_eq 1384 990 dL_law_987 (by decide) rfl (fun _ => k _ u1 u2 hX1 hM2) (fun q => absurd rfl q)
theorem lw_c29 (hX : CX S w1) (hM : CM S w2) (hi : i + 5 ≤ Lc) (hL : Lc ≤ 320) (hm : kc ≤ mc ∧ ks ≤ ms) (k : ∀ (S' : sT) (u1 u2 : mm_W), CX S' u1 → CM S' u2 → mm_R 12 mL_law (some (Lc, xs)) mc ms ah false Qf kc ks 1384 (lwL i) [] (u1 ++ shW u2)) : mm_R 12 mL_law (some (Lc, xs)) mc ms ah false Qf kc ks 992 (lwL i) [] (w1 ++ shW w2) := by
  have hT : tOk S := hX.1
  refine r_aload_n (i := 1) 993 dL_law_992 rfl rfl rfl ?_
  refine r_arg 1 dL_law_993 dL_law_994 dL_law_995 dL_law_996 dL_law_997 rfl (by decide) hi hL ?_
  refine r_arg 2 dL_law_998 dL_law_999 dL_law_1000 dL_law_1001 dL_law_1002 rfl (by decide) hi hL ?_
  refine r_arg 3 dL_law_1003 dL_law_1004 dL_law_1005 dL_law_1006 dL_law_1007 rfl (by decide) hi hL ?_
  have hbX : mm_R 12 mL_law (some (Lc, xs)) mc ms ah false Qf kc ks 1016 (lwL i) (.int (bI (decide (¬ xs (i + 3) = 0))) :: .int (xs (i + 2)) :: .int (xs (i + 1)) :: .ref 0 :: []) (w1 ++ shW w2) → mm_R 12 mL_law (some (Lc, xs)) mc ms ah false Qf kc ks 1008 (lwL i) (.int (xs (i + 3)) :: .int (xs (i + 2)) :: .int (xs (i + 1)) :: .ref 0 :: []) (w1 ++ shW w2) := fun kb => by
    refine r_if_eq 1015 1011 dL_law_1008 (by decide) rfl (fun q => ?_) (fun q => ?_)
    · rw [show bI (decide (¬ xs (i + 3) = 0)) = 0 from by rw [decide_eq_false (fun z => z q)]; rfl] at kb
      exact r_iconst 1016 dL_law_1015 rfl rfl kb
    · rw [show bI (decide (¬ xs (i + 3) = 0)) = 1 from by rw [decide_eq_true q]; rfl] at kb
      refine r_iconst (v := 1) 1012 dL_law_1011 rfl rfl ?_
      exact r_goto 1016 dL_law_1012 (by decide) kb
  refine hbX ?_
  refine r_lawX (d := 11) (As0 := [.int (xs (i + 1)), .int (xs (i + 2)), .int (bI (decide (¬ xs (i + 3) = 0)))]) 1019 dL_law_1016 rfl ykX7_see lk_L_134 hX (CM_len hM) (p_see (d := 9) hX (xs (i + 1)) (xs (i + 2)) (decide (¬ xs (i + 3) = 0))) rfl rfl (fun _ => rfl) rfl rfl hm (fun _ _ => QX_h) (fun v u1 hq hX1 => ?_)
  obtain ⟨rfl, -⟩ := hq
  refine r_aload_n (i := 2) 1020 dL_law_1019 rfl rfl rfl ?_
  refine r_arg 1 dL_law_1020 dL_law_1021 dL_law_1022 dL_law_1023 dL_law_1024 rfl (by decide) hi hL ?_
  refine r_arg 2 dL_law_1025 dL_law_1026 dL_law_1027 dL_law_1028 dL_law_1029 rfl (by decide) hi hL ?_
  refine r_arg 3 dL_law_1030 dL_law_1031 dL_law_1032 dL_law_1033 dL_law_1034 rfl (by decide) hi hL ?_
  have hbM : (mm_R 12 mL_law (some (Lc, xs)) mc ms ah false Qf kc ks 1043 (lwL i) (.int (bI (decide (¬ xs (i + 3) = 0))) :: .int (xs (i + 2)) :: .int (xs (i + 1)) :: .ref 64 :: .int (s_see S (xs (i + 1)) (xs (i + 2)) (decide (¬ xs (i + 3) = 0))).1 :: []) (u1 ++ shW w2)) → mm_R 12 mL_law (some (Lc, xs)) mc ms ah false Qf kc ks 1035 (lwL i) (.int (xs (i + 3)) :: .int (xs (i + 2)) :: .int (xs (i + 1)) :: .ref 64 :: .int (s_see S (xs (i + 1)) (xs (i + 2)) (decide (¬ xs (i + 3) = 0))).1 :: []) (u1 ++ shW w2) := fun kb => by
    refine r_if_eq 1042 1038 dL_law_1035 (by decide) rfl (fun q => ?_) (fun q => ?_)
    · rw [show bI (decide (¬ xs (i + 3) = 0)) = 0 from by rw [decide_eq_false (fun z => z q)]; rfl] at kb
      exact r_iconst 1043 dL_law_1042 rfl rfl kb
    · rw [show bI (decide (¬ xs (i + 3) = 0)) = 1 from by rw [decide_eq_true q]; rfl] at kb
      refine r_iconst (v := 1) 1039 dL_law_1038 rfl rfl ?_
      exact r_goto 1043 dL_law_1039 (by decide) kb
  refine hbM ?_
  refine r_lawM (d := 11) (As0 := [.int (xs (i + 1)), .int (xs (i + 2)), .int (bI (decide (¬ xs (i + 3) = 0)))]) 1046 dL_law_1043 rfl ykX8_see lk_L_138 (CX_len hX1) hM (q_see (d := 8) hT hM (xs (i + 1)) (xs (i + 2)) (decide (¬ xs (i + 3) = 0))) rfl rfl (fun _ => rfl) rfl rfl hm (fun _ _ => QM_h) (fun v u2 hq hM2 => ?_)
  obtain ⟨rfl, -⟩ := hq
  exact r_icmp_eq 1384 1049 dL_law_1046 (by decide) rfl (fun _ => k _ u1 u2 hX1 hM2) (fun q => absurd rfl q)
theorem lw_c30 (hX : CX S w1) (hM : CM S w2) (hi : i + 5 ≤ Lc) (hL : Lc ≤ 320) (hm : kc ≤ mc ∧ ks ≤ ms) (k : ∀ (S' : sT) (u1 u2 : mm_W), CX S' u1 → CM S' u2 → mm_R 12 mL_law (some (Lc, xs)) mc ms ah false Qf kc ks 1384 (lwL i) [] (u1 ++ shW u2)) : mm_R 12 mL_law (some (Lc, xs)) mc ms ah false Qf kc ks 1051 (lwL i) [] (w1 ++ shW w2) := by
  have hT : tOk S := hX.1
  refine r_aload_n (i := 1) 1052 dL_law_1051 rfl rfl rfl ?_
  refine r_arg 1 dL_law_1052 dL_law_1053 dL_law_1054 dL_law_1055 dL_law_1056 rfl (by decide) hi hL ?_
  refine r_lawX (d := 11) (As0 := [.int (xs (i + 1))]) 1060 dL_law_1057 rfl ykX7_forget lk_L_139 hX (CM_len hM) (p_forget (d := 10) hX (xs (i + 1))) rfl rfl (fun _ => rfl) rfl rfl hm (fun _ _ => QX_h) (fun v u1 hq hX1 => ?_)
  obtain ⟨rfl, -⟩ := hq
  refine r_aload_n (i := 2) 1061 dL_law_1060 rfl rfl rfl ?_
  refine r_arg 1 dL_law_1061 dL_law_1062 dL_law_1063 dL_law_1064 dL_law_1065 rfl (by decide) hi hL ?_
  refine r_lawM (d := 11) (As0 := [.int (xs (i + 1))]) 1069 dL_law_1066 rfl ykX8_forget lk_L_142 (CX_len hX1) hM (q_forget (d := 9) hT hM (xs (i + 1))) rfl rfl (fun _ => rfl) rfl rfl hm (fun _ _ => QM_h) (fun v u2 hq hM2 => ?_)
  obtain ⟨rfl, -⟩ := hq
  exact r_icmp_eq 1384 1072 dL_law_1069 (by decide) rfl (fun _ => k _ u1 u2 hX1 hM2) (fun q => absurd rfl q)
theorem lw_c31 (hX : CX S w1) (hM : CM S w2) (hi : i + 5 ≤ Lc) (hL : Lc ≤ 320) (hm : kc ≤ mc ∧ ks ≤ ms) (k : ∀ (S' : sT) (u1 u2 : mm_W), CX S' u1 → CM S' u2 → mm_R 12 mL_law (some (Lc, xs)) mc ms ah false Qf kc ks 1384 (lwL i) [] (u1 ++ shW u2)) : mm_R 12 mL_law (some (Lc, xs)) mc ms ah false Qf kc ks 1074 (lwL i) [] (w1 ++ shW w2) := by
  have hT : tOk S := hX.1
  refine r_aload_n (i := 1) 1075 dL_law_1074 rfl rfl rfl ?_
  refine r_arg 1 dL_law_1075 dL_law_1076 dL_law_1077 dL_law_1078 dL_law_1079 rfl (by decide) hi hL ?_
  refine r_lawX (d := 11) (As0 := [.int (xs (i + 1))]) 1083 dL_law_1080 rfl ykX7_fits lk_L_143 hX (CM_len hM) (p_fits (d := 6) hX (xs (i + 1))) rfl rfl (fun _ => rfl) rfl rfl hm (fun _ _ => QX_h) (fun v u1 hq hX1 => ?_)
  obtain ⟨rfl, -⟩ := hq
  refine r_aload_n (i := 2) 1084 dL_law_1083 rfl rfl rfl ?_
  refine r_arg 1 dL_law_1084 dL_law_1085 dL_law_1086 dL_law_1087 dL_law_1088 rfl (by decide) hi hL ?_
  refine r_lawM (d := 11) (As0 := [.int (xs (i + 1))]) 1092 dL_law_1089 rfl ykX8_fits lk_L_146 (CX_len hX1) hM (q_fits (d := 5) hT hM (xs (i + 1))) rfl rfl (fun _ => rfl) rfl rfl hm (fun _ _ => QM_h) (fun v u2 hq hM2 => ?_)
  obtain ⟨rfl, -⟩ := hq
  exact r_icmp_eq 1384 1095 dL_law_1092 (by decide) rfl (fun _ => k _ u1 u2 hX1 hM2) (fun q => absurd rfl q)
theorem lw_c32 (hX : CX S w1) (hM : CM S w2) (hi : i + 5 ≤ Lc) (hL : Lc ≤ 320) (hm : kc ≤ mc ∧ ks ≤ ms) (k : ∀ (S' : sT) (u1 u2 : mm_W), CX S' u1 → CM S' u2 → mm_R 12 mL_law (some (Lc, xs)) mc ms ah false Qf kc ks 1384 (lwL i) [] (u1 ++ shW u2)) : mm_R 12 mL_law (some (Lc, xs)) mc ms ah false Qf kc ks 1097 (lwL i) [] (w1 ++ shW w2) := by
  have hT : tOk S := hX.1
  refine r_aload_n (i := 1) 1098 dL_law_1097 rfl rfl rfl ?_
  refine r_arg 1 dL_law_1098 dL_law_1099 dL_law_1100 dL_law_1101 dL_law_1102 rfl (by decide) hi hL ?_
  refine r_lawX (d := 11) (As0 := [.int (xs (i + 1))]) 1106 dL_law_1103 rfl ykX7_look lk_L_147 hX (CM_len hM) (p_look (d := 5) hX (xs (i + 1))) rfl rfl (fun _ => rfl) rfl rfl hm (fun _ _ => QX_h) (fun v u1 hq hX1 => ?_)
  obtain ⟨rfl, -⟩ := hq
  refine r_aload_n (i := 2) 1107 dL_law_1106 rfl rfl rfl ?_
  refine r_arg 1 dL_law_1107 dL_law_1108 dL_law_1109 dL_law_1110 dL_law_1111 rfl (by decide) hi hL ?_
  refine r_lawM (d := 11) (As0 := [.int (xs (i + 1))]) 1115 dL_law_1112 rfl ykX8_look lk_L_150 (CX_len hX1) hM (q_look (d := 5) hT hM (xs (i + 1))) rfl rfl (fun _ => rfl) rfl rfl hm (fun _ _ => QM_h) (fun v u2 hq hM2 => ?_)
  obtain ⟨rfl, -⟩ := hq
  exact r_icmp_eq 1384 1118 dL_law_1115 (by decide) rfl (fun _ => k _ u1 u2 hX1 hM2) (fun q => absurd rfl q)
theorem lw_c33 (hX : CX S w1) (hM : CM S w2) (hi : i + 5 ≤ Lc) (hL : Lc ≤ 320) (hm : kc ≤ mc ∧ ks ≤ ms) (k : ∀ (S' : sT) (u1 u2 : mm_W), CX S' u1 → CM S' u2 → mm_R 12 mL_law (some (Lc, xs)) mc ms ah false Qf kc ks 1384 (lwL i) [] (u1 ++ shW u2)) : mm_R 12 mL_law (some (Lc, xs)) mc ms ah false Qf kc ks 1120 (lwL i) [] (w1 ++ shW w2) := by
  have hT : tOk S := hX.1
  refine r_aload_n (i := 1) 1121 dL_law_1120 rfl rfl rfl ?_
  refine r_arg 1 dL_law_1121 dL_law_1122 dL_law_1123 dL_law_1124 dL_law_1125 rfl (by decide) hi hL ?_
  refine r_arg 2 dL_law_1126 dL_law_1127 dL_law_1128 dL_law_1129 dL_law_1130 rfl (by decide) hi hL ?_
  refine r_arg 3 dL_law_1131 dL_law_1132 dL_law_1133 dL_law_1134 dL_law_1135 rfl (by decide) hi hL ?_
  refine r_lawX (d := 11) (As0 := [.int (xs (i + 1)), .int (xs (i + 2)), .int (xs (i + 3))]) 1139 dL_law_1136 rfl ykX7_drift lk_L_151 hX (CM_len hM) (p_drift (d := 7) hX (xs (i + 1)) (xs (i + 2)) (xs (i + 3))) rfl rfl (fun _ => rfl) rfl rfl hm (fun _ _ => QX_h) (fun v u1 hq hX1 => ?_)
  obtain ⟨rfl, -⟩ := hq
  refine r_aload_n (i := 2) 1140 dL_law_1139 rfl rfl rfl ?_
  refine r_arg 1 dL_law_1140 dL_law_1141 dL_law_1142 dL_law_1143 dL_law_1144 rfl (by decide) hi hL ?_
  refine r_arg 2 dL_law_1145 dL_law_1146 dL_law_1147 dL_law_1148 dL_law_1149 rfl (by decide) hi hL ?_
  refine r_arg 3 dL_law_1150 dL_law_1151 dL_law_1152 dL_law_1153 dL_law_1154 rfl (by decide) hi hL ?_
  refine r_lawM (d := 11) (As0 := [.int (xs (i + 1)), .int (xs (i + 2)), .int (xs (i + 3))]) 1158 dL_law_1155 rfl ykX8_drift lk_L_154 (CX_len hX1) hM (q_drift (d := 7) hT hM (xs (i + 1)) (xs (i + 2)) (xs (i + 3))) rfl rfl (fun _ => rfl) rfl rfl hm (fun _ _ => QM_h) (fun v u2 hq hM2 => ?_)
  obtain ⟨rfl, -⟩ := hq
  exact r_icmp_eq 1384 1161 dL_law_1158 (by decide) rfl (fun _ => k _ u1 u2 hX1 hM2) (fun q => absurd rfl q)
theorem lw_c34 (hX : CX S w1) (hM : CM S w2) (hi : i + 5 ≤ Lc) (hL : Lc ≤ 320) (hm : kc ≤ mc ∧ ks ≤ ms) (k : ∀ (S' : sT) (u1 u2 : mm_W), CX S' u1 → CM S' u2 → mm_R 12 mL_law (some (Lc, xs)) mc ms ah false Qf kc ks 1384 (lwL i) [] (u1 ++ shW u2)) : mm_R 12 mL_law (some (Lc, xs)) mc ms ah false Qf kc ks 1163 (lwL i) [] (w1 ++ shW w2) := by
  have hT : tOk S := hX.1
  refine r_aload_n (i := 1) 1164 dL_law_1163 rfl rfl rfl ?_
  refine r_arg 1 dL_law_1164 dL_law_1165 dL_law_1166 dL_law_1167 dL_law_1168 rfl (by decide) hi hL ?_
  refine r_lawX (d := 11) (As0 := [.int (xs (i + 1))]) 1172 dL_law_1169 rfl ykX7_keep lk_L_155 hX (CM_len hM) (p_keep (d := 9) hX (xs (i + 1))) rfl rfl (fun _ => rfl) rfl rfl hm (fun _ _ => QX_h) (fun v u1 hq hX1 => ?_)
  obtain ⟨rfl, -⟩ := hq
  refine r_aload_n (i := 2) 1173 dL_law_1172 rfl rfl rfl ?_
  refine r_arg 1 dL_law_1173 dL_law_1174 dL_law_1175 dL_law_1176 dL_law_1177 rfl (by decide) hi hL ?_
  refine r_lawM (d := 11) (As0 := [.int (xs (i + 1))]) 1181 dL_law_1178 rfl ykX8_keep lk_L_158 (CX_len hX1) hM (q_keep (d := 9) hT hM (xs (i + 1))) rfl rfl (fun _ => rfl) rfl rfl hm (fun _ _ => QM_h) (fun v u2 hq hM2 => ?_)
  obtain ⟨rfl, -⟩ := hq
  exact r_icmp_eq 1384 1184 dL_law_1181 (by decide) rfl (fun _ => k _ u1 u2 hX1 hM2) (fun q => absurd rfl q)
theorem lw_c35 (hX : CX S w1) (hM : CM S w2) (hi : i + 5 ≤ Lc) (hL : Lc ≤ 320) (hm : kc ≤ mc ∧ ks ≤ ms) (k : ∀ (S' : sT) (u1 u2 : mm_W), CX S' u1 → CM S' u2 → mm_R 12 mL_law (some (Lc, xs)) mc ms ah false Qf kc ks 1384 (lwL i) [] (u1 ++ shW u2)) : mm_R 12 mL_law (some (Lc, xs)) mc ms ah false Qf kc ks 1186 (lwL i) [] (w1 ++ shW w2) := by
  have hT : tOk S := hX.1
  refine r_aload_n (i := 1) 1187 dL_law_1186 rfl rfl rfl ?_
  refine r_arg 1 dL_law_1187 dL_law_1188 dL_law_1189 dL_law_1190 dL_law_1191 rfl (by decide) hi hL ?_
  refine r_lawX (d := 11) (As0 := [.int (xs (i + 1))]) 1195 dL_law_1192 rfl ykX7_back lk_L_159 hX (CM_len hM) (p_back (d := 9) hX (xs (i + 1))) rfl rfl (fun _ => rfl) rfl rfl hm (fun _ _ => QX_h) (fun v u1 hq hX1 => ?_)
  obtain ⟨rfl, -⟩ := hq
  refine r_aload_n (i := 2) 1196 dL_law_1195 rfl rfl rfl ?_
  refine r_arg 1 dL_law_1196 dL_law_1197 dL_law_1198 dL_law_1199 dL_law_1200 rfl (by decide) hi hL ?_
  refine r_lawM (d := 11) (As0 := [.int (xs (i + 1))]) 1204 dL_law_1201 rfl ykX8_back lk_L_162 (CX_len hX1) hM (q_back (d := 9) hT hM (xs (i + 1))) rfl rfl (fun _ => rfl) rfl rfl hm (fun _ _ => QM_h) (fun v u2 hq hM2 => ?_)
  obtain ⟨rfl, -⟩ := hq
  exact r_icmp_eq 1384 1207 dL_law_1204 (by decide) rfl (fun _ => k _ u1 u2 hX1 hM2) (fun q => absurd rfl q)
theorem lw_c36 (hX : CX S w1) (hM : CM S w2) (hi : i + 5 ≤ Lc) (hL : Lc ≤ 320) (hm : kc ≤ mc ∧ ks ≤ ms) (k : ∀ (S' : sT) (u1 u2 : mm_W), CX S' u1 → CM S' u2 → mm_R 12 mL_law (some (Lc, xs)) mc ms ah false Qf kc ks 1384 (lwL i) [] (u1 ++ shW u2)) : mm_R 12 mL_law (some (Lc, xs)) mc ms ah false Qf kc ks 1209 (lwL i) [] (w1 ++ shW w2) := by
  have hT : tOk S := hX.1
  refine r_aload_n (i := 1) 1210 dL_law_1209 rfl rfl rfl ?_
  refine r_arg 1 dL_law_1210 dL_law_1211 dL_law_1212 dL_law_1213 dL_law_1214 rfl (by decide) hi hL ?_
  refine r_arg 2 dL_law_1215 dL_law_1216 dL_law_1217 dL_law_1218 dL_law_1219 rfl (by decide) hi hL ?_
  refine r_arg 3 dL_law_1220 dL_law_1221 dL_law_1222 dL_law_1223 dL_law_1224 rfl (by decide) hi hL ?_
  refine r_lawX (d := 11) (As0 := [.int (xs (i + 1)), .int (xs (i + 2)), .int (xs (i + 3))]) 1228 dL_law_1225 rfl ykX7_sheet lk_L_163 hX (CM_len hM) (p_sheet (d := 9) hX (xs (i + 1)) (xs (i + 2)) (xs (i + 3))) rfl rfl (fun _ => rfl) rfl rfl hm (fun _ _ => QX_h) (fun v u1 hq hX1 => ?_)
  obtain ⟨rfl, -⟩ := hq
  refine r_aload_n (i := 2) 1229 dL_law_1228 rfl rfl rfl ?_
  refine r_arg 1 dL_law_1229 dL_law_1230 dL_law_1231 dL_law_1232 dL_law_1233 rfl (by decide) hi hL ?_
  refine r_arg 2 dL_law_1234 dL_law_1235 dL_law_1236 dL_law_1237 dL_law_1238 rfl (by decide) hi hL ?_
  refine r_arg 3 dL_law_1239 dL_law_1240 dL_law_1241 dL_law_1242 dL_law_1243 rfl (by decide) hi hL ?_
  refine r_lawM (d := 11) (As0 := [.int (xs (i + 1)), .int (xs (i + 2)), .int (xs (i + 3))]) 1247 dL_law_1244 rfl ykX8_sheet lk_L_166 (CX_len hX1) hM (q_sheet (d := 9) hT hM (xs (i + 1)) (xs (i + 2)) (xs (i + 3))) rfl rfl (fun _ => rfl) rfl rfl hm (fun _ _ => QM_h) (fun v u2 hq hM2 => ?_)
  obtain ⟨rfl, -⟩ := hq
  exact r_icmp_eq 1384 1250 dL_law_1247 (by decide) rfl (fun _ => k _ u1 u2 hX1 hM2) (fun q => absurd rfl q)
theorem lw_c37 (hX : CX S w1) (hM : CM S w2) (hi : i + 5 ≤ Lc) (hL : Lc ≤ 320) (hm : kc ≤ mc ∧ ks ≤ ms) (k : ∀ (S' : sT) (u1 u2 : mm_W), CX S' u1 → CM S' u2 → mm_R 12 mL_law (some (Lc, xs)) mc ms ah false Qf kc ks 1384 (lwL i) [] (u1 ++ shW u2)) : mm_R 12 mL_law (some (Lc, xs)) mc ms ah false Qf kc ks 1252 (lwL i) [] (w1 ++ shW w2) := by
  have hT : tOk S := hX.1
  refine r_aload_n (i := 1) 1253 dL_law_1252 rfl rfl rfl ?_
  refine r_arg 1 dL_law_1253 dL_law_1254 dL_law_1255 dL_law_1256 dL_law_1257 rfl (by decide) hi hL ?_
  refine r_arg 2 dL_law_1258 dL_law_1259 dL_law_1260 dL_law_1261 dL_law_1262 rfl (by decide) hi hL ?_
  refine r_arg 3 dL_law_1263 dL_law_1264 dL_law_1265 dL_law_1266 dL_law_1267 rfl (by decide) hi hL ?_
  refine r_lawX (d := 11) (As0 := [.int (xs (i + 1)), .int (xs (i + 2)), .int (xs (i + 3))]) 1271 dL_law_1268 rfl ykX7_lay lk_L_167 hX (CM_len hM) (p_lay (d := 9) hX (xs (i + 1)) (xs (i + 2)) (xs (i + 3))) rfl rfl (fun _ => rfl) rfl rfl hm (fun _ _ => QX_h) (fun v u1 hq hX1 => ?_)
  obtain ⟨rfl, -⟩ := hq
  refine r_aload_n (i := 2) 1272 dL_law_1271 rfl rfl rfl ?_
  refine r_arg 1 dL_law_1272 dL_law_1273 dL_law_1274 dL_law_1275 dL_law_1276 rfl (by decide) hi hL ?_
  refine r_arg 2 dL_law_1277 dL_law_1278 dL_law_1279 dL_law_1280 dL_law_1281 rfl (by decide) hi hL ?_
  refine r_arg 3 dL_law_1282 dL_law_1283 dL_law_1284 dL_law_1285 dL_law_1286 rfl (by decide) hi hL ?_
  refine r_lawM (d := 11) (As0 := [.int (xs (i + 1)), .int (xs (i + 2)), .int (xs (i + 3))]) 1290 dL_law_1287 rfl ykX8_lay lk_L_170 (CX_len hX1) hM (q_lay (d := 9) hT hM (xs (i + 1)) (xs (i + 2)) (xs (i + 3))) rfl rfl (fun _ => rfl) rfl rfl hm (fun _ _ => QM_h) (fun v u2 hq hM2 => ?_)
  obtain ⟨rfl, -⟩ := hq
  exact r_icmp_eq 1384 1293 dL_law_1290 (by decide) rfl (fun _ => k _ u1 u2 hX1 hM2) (fun q => absurd rfl q)
theorem lw_c38 (hX : CX S w1) (hM : CM S w2) (hi : i + 5 ≤ Lc) (hL : Lc ≤ 320) (hm : kc ≤ mc ∧ ks ≤ ms) (k : ∀ (S' : sT) (u1 u2 : mm_W), CX S' u1 → CM S' u2 → mm_R 12 mL_law (some (Lc, xs)) mc ms ah false Qf kc ks 1384 (lwL i) [] (u1 ++ shW u2)) : mm_R 12 mL_law (some (Lc, xs)) mc ms ah false Qf kc ks 1295 (lwL i) [] (w1 ++ shW w2) := by
  have hT : tOk S := hX.1
  refine r_aload_n (i := 1) 1296 dL_law_1295 rfl rfl rfl ?_
  refine r_arg 1 dL_law_1296 dL_law_1297 dL_law_1298 dL_law_1299 dL_law_1300 rfl (by decide) hi hL ?_
  refine r_arg 2 dL_law_1301 dL_law_1302 dL_law_1303 dL_law_1304 dL_law_1305 rfl (by decide) hi hL ?_
  refine r_arg 3 dL_law_1306 dL_law_1307 dL_law_1308 dL_law_1309 dL_law_1310 rfl (by decide) hi hL ?_
  refine r_arg 4 dL_law_1311 dL_law_1312 dL_law_1313 dL_law_1314 dL_law_1315 rfl (by decide) hi hL ?_
  refine r_lawX (d := 11) (As0 := [.int (xs (i + 1)), .int (xs (i + 2)), .int (xs (i + 3)), .int (xs (i + 4))]) 1319 dL_law_1316 rfl ykX7_read lk_L_171 hX (CM_len hM) (p_read (d := 5) hX (xs (i + 1)) (xs (i + 2)) (xs (i + 3)) (xs (i + 4))) rfl rfl (fun _ => rfl) rfl rfl hm (fun _ _ => QX_h) (fun v u1 hq hX1 => ?_)
  obtain ⟨rfl, -⟩ := hq
  refine r_aload_n (i := 2) 1320 dL_law_1319 rfl rfl rfl ?_
  refine r_arg 1 dL_law_1320 dL_law_1321 dL_law_1322 dL_law_1323 dL_law_1324 rfl (by decide) hi hL ?_
  refine r_arg 2 dL_law_1325 dL_law_1326 dL_law_1327 dL_law_1328 dL_law_1329 rfl (by decide) hi hL ?_
  refine r_arg 3 dL_law_1330 dL_law_1331 dL_law_1332 dL_law_1333 dL_law_1334 rfl (by decide) hi hL ?_
  refine r_arg 4 dL_law_1335 dL_law_1336 dL_law_1337 dL_law_1338 dL_law_1339 rfl (by decide) hi hL ?_
  refine r_lawM (d := 11) (As0 := [.int (xs (i + 1)), .int (xs (i + 2)), .int (xs (i + 3)), .int (xs (i + 4))]) 1343 dL_law_1340 rfl ykX8_read lk_L_175 (CX_len hX1) hM (q_read (d := 5) hT hM (xs (i + 1)) (xs (i + 2)) (xs (i + 3)) (xs (i + 4))) rfl rfl (fun _ => rfl) rfl rfl hm (fun _ _ => QM_h) (fun v u2 hq hM2 => ?_)
  obtain ⟨rfl, -⟩ := hq
  exact r_icmp_eq 1384 1346 dL_law_1343 (by decide) rfl (fun _ => k _ u1 u2 hX1 hM2) (fun q => absurd rfl q)
theorem lw_c39 (hX : CX S w1) (hM : CM S w2) (hi : i + 5 ≤ Lc) (hL : Lc ≤ 320) (hm : kc ≤ mc ∧ ks ≤ ms) (k : ∀ (S' : sT) (u1 u2 : mm_W), CX S' u1 → CM S' u2 → mm_R 12 mL_law (some (Lc, xs)) mc ms ah false Qf kc ks 1384 (lwL i) [] (u1 ++ shW u2)) : mm_R 12 mL_law (some (Lc, xs)) mc ms ah false Qf kc ks 1348 (lwL i) [] (w1 ++ shW w2) := by
  have hT : tOk S := hX.1
  refine r_aload_n (i := 1) 1349 dL_law_1348 rfl rfl rfl ?_
  refine r_lawX (d := 11) (As0 := []) 1352 dL_law_1349 rfl ykX7_torn lk_L_176 hX (CM_len hM) (p_torn (d := 10) hX) rfl rfl (fun _ => rfl) rfl rfl hm (fun _ _ => QX_h) (fun v u1 hq hX1 => ?_)
  obtain ⟨rfl, -⟩ := hq
  refine r_aload_n (i := 2) 1353 dL_law_1352 rfl rfl rfl ?_
  refine r_lawM (d := 11) (As0 := []) 1356 dL_law_1353 rfl ykX8_torn lk_L_179 (CX_len hX1) hM (q_torn (d := 10) hT hM) rfl rfl (fun _ => rfl) rfl rfl hm (fun _ _ => QM_h) (fun v u2 hq hM2 => ?_)
  obtain ⟨rfl, -⟩ := hq
  exact r_icmp_eq 1384 1359 dL_law_1356 (by decide) rfl (fun _ => k _ u1 u2 hX1 hM2) (fun q => absurd rfl q)
theorem lw_c40 (hX : CX S w1) (hM : CM S w2) (hi : i + 5 ≤ Lc) (hL : Lc ≤ 320) (hm : kc ≤ mc ∧ ks ≤ ms) (k : ∀ (S' : sT) (u1 u2 : mm_W), CX S' u1 → CM S' u2 → mm_R 12 mL_law (some (Lc, xs)) mc ms ah false Qf kc ks 1384 (lwL i) [] (u1 ++ shW u2)) : mm_R 12 mL_law (some (Lc, xs)) mc ms ah false Qf kc ks 1361 (lwL i) [] (w1 ++ shW w2) := by
  have hT : tOk S := hX.1
  refine r_aload_n (i := 1) 1362 dL_law_1361 rfl rfl rfl ?_
  refine r_arg 1 dL_law_1362 dL_law_1363 dL_law_1364 dL_law_1365 dL_law_1366 rfl (by decide) hi hL ?_
  refine r_lawX (d := 11) (As0 := [.int (xs (i + 1))]) 1370 dL_law_1367 rfl ykX7_count lk_L_180 hX (CM_len hM) (p_count (d := 9) hX (xs (i + 1))) rfl rfl (fun _ => rfl) rfl rfl hm (fun _ _ => QX_h) (fun v u1 hq hX1 => ?_)
  obtain ⟨rfl, -⟩ := hq
  refine r_aload_n (i := 2) 1371 dL_law_1370 rfl rfl rfl ?_
  refine r_arg 1 dL_law_1371 dL_law_1372 dL_law_1373 dL_law_1374 dL_law_1375 rfl (by decide) hi hL ?_
  refine r_lawM (d := 11) (As0 := [.int (xs (i + 1))]) 1379 dL_law_1376 rfl ykX8_count lk_L_183 (CX_len hX1) hM (q_count (d := 9) hT hM (xs (i + 1))) rfl rfl (fun _ => rfl) rfl rfl hm (fun _ _ => QM_h) (fun v u2 hq hM2 => ?_)
  obtain ⟨rfl, -⟩ := hq
  exact r_icmp_eq 1384 1382 dL_law_1379 (by decide) rfl (fun _ => k _ u1 u2 hX1 hM2) (fun q => absurd rfl q)
theorem lw_case (hX : CX S w1) (hM : CM S w2) (hi : i + 5 ≤ Lc) (hL : Lc ≤ 320) (hm : kc ≤ mc ∧ ks ≤ ms) {j : Nat} (hj : j < 64) (k : ∀ (S' : sT) (u1 u2 : mm_W), CX S' u1 → CM S' u2 → mm_R 12 mL_law (some (Lc, xs)) mc ms ah false Qf kc ks 1384 (lwL i) [] (u1 ++ shW u2)) : mm_R 12 mL_law (some (Lc, xs)) mc ms ah false Qf kc ks 32 (lwL i) [.int (nI j)] (w1 ++ shW w2) := by
  by_cases h40 : 40 < j
  · refine r_tabOut 1384 dL_law_32 (Or.inr ?_) (by decide) (k S w1 w2 hX hM)
    rw [nI_toInt (by omega)]
    omega
  · have hh : j = 0 ∨ j = 1 ∨ j = 2 ∨ j = 3 ∨ j = 4 ∨ j = 5 ∨ j = 6 ∨ j = 7 ∨ j = 8 ∨ j = 9 ∨ j = 10 ∨ j = 11 ∨ j = 12 ∨ j = 13 ∨ j = 14 ∨ j = 15 ∨ j = 16 ∨ j = 17 ∨ j = 18 ∨ j = 19 ∨ j = 20 ∨ j = 21 ∨ j = 22 ∨ j = 23 ∨ j = 24 ∨ j = 25 ∨ j = 26 ∨ j = 27 ∨ j = 28 ∨ j = 29 ∨ j = 30 ∨ j = 31 ∨ j = 32 ∨ j = 33 ∨ j = 34 ∨ j = 35 ∨ j = 36 ∨ j = 37 ∨ j = 38 ∨ j = 39 ∨ j = 40 := by omega
    rcases hh with rfl | rfl | rfl | rfl | rfl | rfl | rfl | rfl | rfl | rfl | rfl | rfl | rfl | rfl | rfl | rfl | rfl | rfl | rfl | rfl | rfl | rfl | rfl | rfl | rfl | rfl | rfl | rfl | rfl | rfl | rfl | rfl | rfl | rfl | rfl | rfl | rfl | rfl | rfl | rfl | rfl
    · exact r_tabIn 212 dL_law_32 (by decide) (by decide) rfl (by decide) (lw_c0 hX hM hi hL hm k)
    · exact r_tabIn 235 dL_law_32 (by decide) (by decide) rfl (by decide) (lw_c1 hX hM hi hL hm k)
    · exact r_tabIn 258 dL_law_32 (by decide) (by decide) rfl (by decide) (lw_c2 hX hM hi hL hm k)
    · exact r_tabIn 271 dL_law_32 (by decide) (by decide) rfl (by decide) (lw_c3 hX hM hi hL hm k)
    · exact r_tabIn 284 dL_law_32 (by decide) (by decide) rfl (by decide) (lw_c4 hX hM hi hL hm k)
    · exact r_tabIn 307 dL_law_32 (by decide) (by decide) rfl (by decide) (lw_c5 hX hM hi hL hm k)
    · exact r_tabIn 340 dL_law_32 (by decide) (by decide) rfl (by decide) (lw_c6 hX hM hi hL hm k)
    · exact r_tabIn 373 dL_law_32 (by decide) (by decide) rfl (by decide) (lw_c7 hX hM hi hL hm k)
    · exact r_tabIn 406 dL_law_32 (by decide) (by decide) rfl (by decide) (lw_c8 hX hM hi hL hm k)
    · exact r_tabIn 449 dL_law_32 (by decide) (by decide) rfl (by decide) (lw_c9 hX hM hi hL hm k)
    · exact r_tabIn 492 dL_law_32 (by decide) (by decide) rfl (by decide) (lw_c10 hX hM hi hL hm k)
    · exact r_tabIn 525 dL_law_32 (by decide) (by decide) rfl (by decide) (lw_c11 hX hM hi hL hm k)
    · exact r_tabIn 548 dL_law_32 (by decide) (by decide) rfl (by decide) (lw_c12 hX hM hi hL hm k)
    · exact r_tabIn 571 dL_law_32 (by decide) (by decide) rfl (by decide) (lw_c13 hX hM hi hL hm k)
    · exact r_tabIn 594 dL_law_32 (by decide) (by decide) rfl (by decide) (lw_c14 hX hM hi hL hm k)
    · exact r_tabIn 617 dL_law_32 (by decide) (by decide) rfl (by decide) (lw_c15 hX hM hi hL hm k)
    · exact r_tabIn 640 dL_law_32 (by decide) (by decide) rfl (by decide) (lw_c16 hX hM hi hL hm k)
    · exact r_tabIn 663 dL_law_32 (by decide) (by decide) rfl (by decide) (lw_c17 hX hM hi hL hm k)
    · exact r_tabIn 686 dL_law_32 (by decide) (by decide) rfl (by decide) (lw_c18 hX hM hi hL hm k)
    · exact r_tabIn 709 dL_law_32 (by decide) (by decide) rfl (by decide) (lw_c19 hX hM hi hL hm k)
    · exact r_tabIn 742 dL_law_32 (by decide) (by decide) rfl (by decide) (lw_c20 hX hM hi hL hm k)
    · exact r_tabIn 755 dL_law_32 (by decide) (by decide) rfl (by decide) (lw_c21 hX hM hi hL hm k)
    · exact r_tabIn 768 dL_law_32 (by decide) (by decide) rfl (by decide) (lw_c22 hX hM hi hL hm k)
    · exact r_tabIn 811 dL_law_32 (by decide) (by decide) rfl (by decide) (lw_c23 hX hM hi hL hm k)
    · exact r_tabIn 844 dL_law_32 (by decide) (by decide) rfl (by decide) (lw_c24 hX hM hi hL hm k)
    · exact r_tabIn 867 dL_law_32 (by decide) (by decide) rfl (by decide) (lw_c25 hX hM hi hL hm k)
    · exact r_tabIn 890 dL_law_32 (by decide) (by decide) rfl (by decide) (lw_c26 hX hM hi hL hm k)
    · exact r_tabIn 924 dL_law_32 (by decide) (by decide) rfl (by decide) (lw_c27 hX hM hi hL hm k)
    · exact r_tabIn 958 dL_law_32 (by decide) (by decide) rfl (by decide) (lw_c28 hX hM hi hL hm k)
    · exact r_tabIn 992 dL_law_32 (by decide) (by decide) rfl (by decide) (lw_c29 hX hM hi hL hm k)
    · exact r_tabIn 1051 dL_law_32 (by decide) (by decide) rfl (by decide) (lw_c30 hX hM hi hL hm k)
    · exact r_tabIn 1074 dL_law_32 (by decide) (by decide) rfl (by decide) (lw_c31 hX hM hi hL hm k)
    · exact r_tabIn 1097 dL_law_32 (by decide) (by decide) rfl (by decide) (lw_c32 hX hM hi hL hm k)
    · exact r_tabIn 1120 dL_law_32 (by decide) (by decide) rfl (by decide) (lw_c33 hX hM hi hL hm k)
    · exact r_tabIn 1163 dL_law_32 (by decide) (by decide) rfl (by decide) (lw_c34 hX hM hi hL hm k)
    · exact r_tabIn 1186 dL_law_32 (by decide) (by decide) rfl (by decide) (lw_c35 hX hM hi hL hm k)
    · exact r_tabIn 1209 dL_law_32 (by decide) (by decide) rfl (by decide) (lw_c36 hX hM hi hL hm k)
    · exact r_tabIn 1252 dL_law_32 (by decide) (by decide) rfl (by decide) (lw_c37 hX hM hi hL hm k)
    · exact r_tabIn 1295 dL_law_32 (by decide) (by decide) rfl (by decide) (lw_c38 hX hM hi hL hm k)
    · exact r_tabIn 1348 dL_law_32 (by decide) (by decide) rfl (by decide) (lw_c39 hX hM hi hL hm k)
    · exact r_tabIn 1361 dL_law_32 (by decide) (by decide) rfl (by decide) (lw_c40 hX hM hi hL hm k)
theorem lw_gt {i Lc : Nat} (h : Lc < i + 5) (hi : i ≤ Lc) (hL : Lc ≤ 320) : nI Lc - 5 < nI i := by
  rw [Int32.lt_iff_toInt_lt, Int32.toInt_sub, show (5 : Int32).toInt = 5 from by decide, nI_toInt (by omega), nI_toInt (by omega)]
  rw [show ((Lc : Int) - 5).bmod (2 ^ 32) = (Lc : Int) - 5 from Int.bmod_eq_of_le (by omega) (by omega)]
  omega
theorem lw_head (hL : Lc ≤ 320) (hm : kc ≤ mc ∧ ks ≤ ms) (hq : ∀ w, Qf (some (.int 1)) w) (hi : i ≤ Lc) (hX : CX S w1) (hM : CM S w2) (k : i + 5 ≤ Lc → ∀ (S' : sT) (u1 u2 : mm_W), CX S' u1 → CM S' u2 → mm_R 12 mL_law (some (Lc, xs)) mc ms ah false Qf kc ks 18 (lwL (i + 5)) [] (u1 ++ shW u2)) : mm_R 12 mL_law (some (Lc, xs)) mc ms ah false Qf kc ks 18 (lwL i) [] (w1 ++ shW w2) := by
  refine r_iload_n (i := 3) 19 dL_law_18 rfl rfl rfl ?_
  refine r_xload_n (i := 0) 20 dL_law_19 rfl rfl rfl ?_
  refine r_slen (q := (Lc, xs)) 21 dL_law_20 rfl rfl ?_
  refine r_iconst (v := 5) 22 dL_law_21 rfl rfl ?_
  refine r_isub 23 dL_law_22 rfl ?_
  refine r_icmp_gt 1390 26 dL_law_23 (by decide) rfl (fun _ => ?_) (fun q => ?_)
  · refine r_iconst (v := 1) 1391 dL_law_1390 rfl rfl ?_
    exact r_reti dL_law_1391 rfl rfl hm (fun z => by cases z) (hq _)
  · have h5 : i + 5 ≤ Lc := by
      have q2 : ¬ nI Lc - 5 < nI i := q
      rcases Nat.lt_or_ge Lc (i + 5) with h | h
      · exact absurd (lw_gt h hi hL) q2
      · exact h
    refine r_xload_n (i := 0) 27 dL_law_26 rfl rfl rfl ?_
    refine r_iload_n (i := 3) 28 dL_law_27 rfl rfl rfl ?_
    refine r_sld (q := (Lc, xs)) 29 dL_law_28 rfl rfl (lw_in (k := 0) (by omega) hL) ?_
    refine r_bipush (v := 63) 31 dL_law_29 rfl rfl ?_
    refine r_iand 32 dL_law_31 rfl ?_
    obtain ⟨j, hj, ej⟩ := pk_andE (xs (nI i).toNatClampNeg) (m := 63) 6 (by decide)
    show mm_R _ _ _ _ _ _ _ _ _ _ _ _ [.int (xs (nI i).toNatClampNeg &&& 63)] _
    rw [ej]
    refine lw_case hX hM h5 hL hm hj (fun S' u1 u2 g1 g2 => ?_)
    refine r_iinc (x := nI i) (v := nI (i + 5)) 1387 dL_law_1384 rfl rfl (nI_add i 5) rfl ?_
    exact r_goto 18 dL_law_1387 (by decide) (k h5 S' u1 u2 g1 g2)
theorem lw_loop (hL : Lc ≤ 320) (hm : kc ≤ mc ∧ ks ≤ ms) (hq : ∀ w, Qf (some (.int 1)) w) : ∀ (n i : Nat) (S : sT) (w1 w2 : mm_W), Lc - i ≤ n → i ≤ Lc → CX S w1 → CM S w2 → mm_R 12 mL_law (some (Lc, xs)) mc ms ah false Qf kc ks 18 (lwL i) [] (w1 ++ shW w2) := by
  intro n
  induction n with
  | zero =>
    intro i S w1 w2 hn hi hX hM
    exact lw_head hL hm hq hi hX hM (fun h => absurd h (by omega))
  | succ n ih =>
    intro i S w1 w2 hn hi hX hM
    exact lw_head hL hm hq hi hX hM (fun h S' u1 u2 g1 g2 => ih (i + 5) S' u1 u2 (by omega) (by omega) g1 g2)
end LW
