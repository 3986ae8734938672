set_option maxRecDepth 20000 in
set_option maxHeartbeats 4000000 in
theorem lc_4 (G : rn_G) (a b : Nat) (S : ts_S) (ws : va_W) (hW : ts_W G S ws) (ox om oo : Nat) (mx : (ox, 9) ∈ S) (mm : (om, 30) ∈ S) (mo : (oo, 21) ∈ S) (i : Int32) (ri : Rg 1 5121 i) (hi : i.toInt + 10 ≤ (G.2.2.2.2.1.2.1 : Int)) (I : Cpt S ws) (K : ∀ (S' : ts_S) (w : va_W), ts_W G S' w → (∀ p ∈ S, p ∈ S') → Cpt S' w → Rn G mL_law 9 244 a b 1279 [(0, .ref G.2.2.2.2.1.1), (1, .ref ox), (2, .ref om), (3, .ref oo), (4, .int i)] [] w (fun r _ => r = Sum.inl (some (.int 1)))) : Rn G mL_law 9 244 (a + 1) (b + 6) 317 [(0, .ref G.2.2.2.2.1.1), (1, .ref ox), (2, .ref om), (3, .ref oo), (4, .int i)] [] ws (fun r _ => r = Sum.inl (some (.int 1))) := by
  have hS0 : St G S [4, 11, 21, 30, 33] ws S ws := St.rf hW
  obtain ⟨sc1, hs1⟩ : ∃ x : Int32, G.2.2.2.2.1.2.2 (i.toInt.toNat + 1) = x := ⟨_, rfl⟩
  obtain ⟨sc2, hs2⟩ : ∃ x : Int32, G.2.2.2.2.1.2.2 (i.toInt.toNat + 2) = x := ⟨_, rfl⟩
  obtain ⟨sc3, hs3⟩ : ∃ x : Int32, G.2.2.2.2.1.2.2 (i.toInt.toNat + 3) = x := ⟨_, rfl⟩
  obtain ⟨sc4, hs4⟩ : ∃ x : Int32, G.2.2.2.2.1.2.2 (i.toInt.toNat + 4) = x := ⟨_, rfl⟩
  obtain ⟨sc5, hs5⟩ : ∃ x : Int32, G.2.2.2.2.1.2.2 (i.toInt.toNat + 5) = x := ⟨_, rfl⟩
  obtain ⟨sc6, hs6⟩ : ∃ x : Int32, G.2.2.2.2.1.2.2 (i.toInt.toNat + 6) = x := ⟨_, rfl⟩
  refine rn_aload_n (i := 1) dL_law_317 rfl rfl ?_
  refine rn_aload_n (i := 0) dL_law_318 rfl rfl ?_
  refine rn_iload dL_law_319 rfl ?_
  refine rn_iconst (v := (1 : Int32)) dL_law_321 (by decide) ?_
  refine rs_addC (2) (5122) ri rk_1 dL_law_322 (by decide) (fun v1 ev1 rv1 => ?_)
  refine rn_scl 1 ev1 ri hi (by decide) hs1 dL_law_323 ?_
  refine rn_aload_n (i := 0) dL_law_324 rfl rfl ?_
  refine rn_iload dL_law_325 rfl ?_
  refine rn_iconst (v := (2 : Int32)) dL_law_327 (by decide) ?_
  refine rs_addC (3) (5123) ri rk_2 dL_law_328 (by decide) (fun v2 ev2 rv2 => ?_)
  refine rn_scl 2 ev2 ri hi (by decide) hs2 dL_law_329 ?_
  refine rn_aload_n (i := 0) dL_law_330 rfl rfl ?_
  refine rn_iload dL_law_331 rfl ?_
  refine rn_iconst (v := (3 : Int32)) dL_law_333 (by decide) ?_
  refine rs_addC (4) (5124) ri rk_3 dL_law_334 (by decide) (fun v3 ev3 rv3 => ?_)
  refine rn_scl 3 ev3 ri hi (by decide) hs3 dL_law_335 ?_
  refine rn_aload_n (i := 0) dL_law_336 rfl rfl ?_
  refine rn_iload dL_law_337 rfl ?_
  refine rn_iconst (v := (4 : Int32)) dL_law_339 (by decide) ?_
  refine rs_addC (5) (5125) ri rk_4 dL_law_340 (by decide) (fun v4 ev4 rv4 => ?_)
  refine rn_scl 4 ev4 ri hi (by decide) hs4 dL_law_341 ?_
  refine rn_aload_n (i := 0) dL_law_342 rfl rfl ?_
  refine rn_iload dL_law_343 rfl ?_
  refine rn_iconst (v := (5 : Int32)) dL_law_345 (by decide) ?_
  refine rs_addC (6) (5126) ri rk_5 dL_law_346 (by decide) (fun v5 ev5 rv5 => ?_)
  refine rn_scl 5 ev5 ri hi (by decide) hs5 dL_law_347 ?_
  refine rn_aload_n (i := 0) dL_law_348 rfl rfl ?_
  refine rn_iload dL_law_349 rfl ?_
  refine rn_bipush (v := (6 : Int32)) dL_law_351 (by decide) ?_
  refine rs_addC (7) (5127) ri rk_6 dL_law_353 (by decide) (fun v6 ev6 rv6 => ?_)
  refine rn_scl 6 ev6 ri hi (by decide) hs6 dL_law_354 ?_
  refine rn_aload_n (i := 3) dL_law_355 rfl rfl ?_
  refine rn_callSX (a := (a + 0)) (b := (b + 0)) [.ref ox, .int sc1, .int sc2, .int sc3, .int sc4, .int sc5, .int sc6, .ref oo] kl_SGLaw_122 dL_law_356 (t_L_make G S ws hS0.1 ox mx sc1 sc2 sc3 sc4 sc5 sc6 oo mo) rfl rfl (Nat.le_of_ble_eq_true rfl) (Nat.le_of_ble_eq_true rfl) (Nat.le_of_ble_eq_true rfl) (Nat.le_of_ble_eq_true rfl) (bud_le (by decide)) (bud_le (by decide)) (fun _ _ h => False.elim h) (fun v9 w7 h8 => ?_)
  obtain ⟨hT10, v9, rfl, rv9⟩ := h8
  have hS10 := St.tr hS0 hT10 (by decide +kernel)
  have I10 := Cpt.cl I hT10 rfl rfl rfl
  refine rn_stk [.int v9] rfl ?_
  refine rn_istore dL_law_359 (by decide) [(0, .ref G.2.2.2.2.1.1), (1, .ref ox), (2, .ref om), (3, .ref oo), (4, .int i), (5, .int v9)] rfl ?_
  refine rn_aload_n (i := 2) dL_law_361 rfl rfl ?_
  refine rn_aload_n (i := 0) dL_law_362 rfl rfl ?_
  refine rn_iload dL_law_363 rfl ?_
  refine rn_iconst (v := (1 : Int32)) dL_law_365 (by decide) ?_
  refine rs_addC (2) (5122) ri rk_1 dL_law_366 (by decide) (fun v11 ev11 rv11 => ?_)
  refine rn_scl 1 ev11 ri hi (by decide) hs1 dL_law_367 ?_
  refine rn_aload_n (i := 0) dL_law_368 rfl rfl ?_
  refine rn_iload dL_law_369 rfl ?_
  refine rn_iconst (v := (2 : Int32)) dL_law_371 (by decide) ?_
  refine rs_addC (3) (5123) ri rk_2 dL_law_372 (by decide) (fun v12 ev12 rv12 => ?_)
  refine rn_scl 2 ev12 ri hi (by decide) hs2 dL_law_373 ?_
  refine rn_aload_n (i := 0) dL_law_374 rfl rfl ?_
  refine rn_iload dL_law_375 rfl ?_
  refine rn_iconst (v := (3 : Int32)) dL_law_377 (by decide) ?_
  refine rs_addC (4) (5124) ri rk_3 dL_law_378 (by decide) (fun v13 ev13 rv13 => ?_)
  refine rn_scl 3 ev13 ri hi (by decide) hs3 dL_law_379 ?_
  refine rn_aload_n (i := 0) dL_law_380 rfl rfl ?_
  refine rn_iload dL_law_381 rfl ?_
  refine rn_iconst (v := (4 : Int32)) dL_law_383 (by decide) ?_
  refine rs_addC (5) (5125) ri rk_4 dL_law_384 (by decide) (fun v14 ev14 rv14 => ?_)
  refine rn_scl 4 ev14 ri hi (by decide) hs4 dL_law_385 ?_
  refine rn_aload_n (i := 0) dL_law_386 rfl rfl ?_
  refine rn_iload dL_law_387 rfl ?_
  refine rn_iconst (v := (5 : Int32)) dL_law_389 (by decide) ?_
  refine rs_addC (6) (5126) ri rk_5 dL_law_390 (by decide) (fun v15 ev15 rv15 => ?_)
  refine rn_scl 5 ev15 ri hi (by decide) hs5 dL_law_391 ?_
  refine rn_aload_n (i := 0) dL_law_392 rfl rfl ?_
  refine rn_iload dL_law_393 rfl ?_
  refine rn_bipush (v := (6 : Int32)) dL_law_395 (by decide) ?_
  refine rs_addC (7) (5127) ri rk_6 dL_law_397 (by decide) (fun v16 ev16 rv16 => ?_)
  refine rn_scl 6 ev16 ri hi (by decide) hs6 dL_law_398 ?_
  obtain ⟨q17, fs17, hq17, hl17, hf17⟩ := ts_obj hS10.1 mm hk_30
  refine rn_callV (a := (a + 0)) (b := (b + 0)) [.int sc1, .int sc2, .int sc3, .int sc4, .int sc5, .int sc6] kl_SGLaw_125 dL_law_399 q17 hl17 rfl (t_X10_make G S w7 hS10.1 om mm sc1 sc2 sc3 sc4 sc5 sc6) rfl rfl (Nat.le_of_ble_eq_true rfl) (Nat.le_of_ble_eq_true rfl) (Nat.le_of_ble_eq_true rfl) (Nat.le_of_ble_eq_true rfl) (bud_le (by decide)) (bud_le (by decide)) (fun _ _ h => False.elim h) (fun v9 w18 h19 => ?_)
  obtain ⟨hT21, v20, rfl, rv20, fkh19⟩ := h19
  have hS21 := St.tr hS10 hT21 (by decide +kernel)
  have I21 := Cpt.rf I10 hT21 rfl rfl fkh19
  refine rn_stk [.int v20] rfl ?_
  refine rn_istore dL_law_402 (by decide) [(0, .ref G.2.2.2.2.1.1), (1, .ref ox), (2, .ref om), (3, .ref oo), (4, .int i), (5, .int v9), (6, .int v20)] rfl ?_
  refine rn_goto (tgt := 1279) dL_law_404 (by decide) ?_
  refine rn_lv [(0, .ref G.2.2.2.2.1.1), (1, .ref ox), (2, .ref om), (3, .ref oo), (4, .int i)] rfl ?_
  refine rn_room (d' := 9) (z' := 244) (a' := a) (b' := b) ?_ (Nat.le_refl _) (Nat.le_refl _) (Nat.le_add_right _ _) (Nat.le_add_right _ _)
  exact K _ _ hS21.1 (fun p hp => hS21.mem hp) I21
