set_option maxRecDepth 20000 in
set_option maxHeartbeats 4000000 in
theorem lc_4 (G : rn_G) (a b : Nat) (S : ts_S) (ws : va_W) (hW : ts_W G S ws) (ox om oo : Nat) (mx : (ox, 9) ∈ S) (mm : (om, 30) ∈ S) (mo : (oo, 21) ∈ S) (i : Int32) (ri : Rg 1 5121 i) (hi : i.toInt + 10 ≤ (G.2.2.2.2.1.2.1 : Int)) (K : ∀ (S' : ts_S) (w : va_W), ts_W G S' w → (∀ p ∈ S, p ∈ S') → Rn G mL_law 9 244 a b 1307 [(0, .ref G.2.2.2.2.1.1), (1, .ref ox), (2, .ref om), (3, .ref oo), (4, .int i)] [] w (fun r _ => r = Sum.inl (some (.int 1)))) : Rn G mL_law 9 244 (a + 1) (b + 6) 317 [(0, .ref G.2.2.2.2.1.1), (1, .ref ox), (2, .ref om), (3, .ref oo), (4, .int i)] [] ws (fun r _ => r = Sum.inl (some (.int 1))) := by
  have hS0 : St G S [4, 11, 21, 30, 33] ws S ws := St.rf hW
  obtain ⟨sc1, hs1⟩ : ∃ x : Int32, G.2.2.2.2.1.2.2 (i.toInt.toNat + 1) = x := ⟨_, rfl⟩
  obtain ⟨sc2, hs2⟩ : ∃ x : Int32, G.2.2.2.2.1.2.2 (i.toInt.toNat + 2) = x := ⟨_, rfl⟩
  obtain ⟨sc3, hs3⟩ : ∃ x : Int32, G.2.2.2.2.1.2.2 (i.toInt.toNat + 3) = x := ⟨_, rfl⟩
  obtain ⟨sc4, hs4⟩ : ∃ x : Int32, G.2.2.2.2.1.2.2 (i.toInt.toNat + 4) = x := ⟨_, rfl⟩
  obtain ⟨sc5, hs5⟩ : ∃ x : Int32, G.2.2.2.2.1.2.2 (i.toInt.toNat + 5) = x := ⟨_, rfl⟩
  obtain ⟨sc6, hs6⟩ : ∃ x : Int32, G.2.2.2.2.1.2.2 (i.toInt.toNat + 6) = x := ⟨_, rfl⟩
  refine rn_aload_n (i := 1) dL_law_317 rfl rfl ?_
  refine rn_aload_n (i := 0) dL_law_318 rfl rfl ?_
  refine rn_iload dL_law_319 rfl ?_
  refine rn_iconst (v := (1 : Int32)) dL_law_321 (by decide) ?_
  refine rs_addC (2) (5122) ri rk_1 dL_law_322 (by decide) (fun v1 ev1 rv1 => ?_)
  refine rn_scl 1 ev1 ri hi (by decide) hs1 dL_law_323 ?_
  refine rn_aload_n (i := 0) dL_law_324 rfl rfl ?_
  refine rn_iload dL_law_325 rfl ?_
  refine rn_iconst (v := (2 : Int32)) dL_law_327 (by decide) ?_
  refine rs_addC (3) (5123) ri rk_2 dL_law_328 (by decide) (fun v2 ev2 rv2 => ?_)
  refine rn_scl 2 ev2 ri hi (by decide) hs2 dL_law_329 ?_
  refine rn_aload_n (i := 0) dL_law_330 rfl rfl ?_
  refine rn_iload dL_law_331 rfl ?_
  refine rn_iconst (v := (3 : Int32)) dL_law_333 (by decide) ?_
  refine rs_addC (4) (5124) ri rk_3 dL_law_334 (by decide) (fun v3 ev3 rv3 => ?_)
  refine rn_scl 3 ev3 ri hi (by decide) hs3 dL_law_335 ?_
  refine rn_aload_n (i := 0) dL_law_336 rfl rfl ?_
  refine rn_iload dL_law_337 rfl ?_
  refine rn_iconst (v := (4 : Int32)) dL_law_339 (by decide) ?_
  refine rs_addC (5) (5125) ri rk_4 dL_law_340 (by decide) (fun v4 ev4 rv4 => ?_)
  refine rn_scl 4 ev4 ri hi (by decide) hs4 dL_law_341 ?_
  refine rn_aload_n (i := 0) dL_law_342 rfl rfl ?_
  refine rn_iload dL_law_343 rfl ?_
  refine rn_iconst (v := (5 : Int32)) dL_law_345 (by decide) ?_
  refine rs_addC (6) (5126) ri rk_5 dL_law_346 (by decide) (fun v5 ev5 rv5 => ?_)
  refine rn_scl 5 ev5 ri hi (by decide) hs5 dL_law_347 ?_
  refine rn_aload_n (i := 0) dL_law_348 rfl rfl ?_
  refine rn_iload dL_law_349 rfl ?_
  refine rn_bipush (v := (6 : Int32)) dL_law_351 (by decide) ?_
  refine rs_addC (7) (5127) ri rk_6 dL_law_353 (by decide) (fun v6 ev6 rv6 => ?_)
  refine rn_scl 6 ev6 ri hi (by decide) hs6 dL_law_354 ?_
  refine rn_aload_n (i := 3) dL_law_355 rfl rfl ?_
  refine rn_callSX (a := (a + 0)) (b := (b + 0)) [.ref ox, .int sc1, .int sc2, .int sc3, .int sc4, .int sc5, .int sc6, .ref oo] kl_SGLaw_122 dL_law_356 (t_L_make G S ws hS0.1 ox mx sc1 sc2 sc3 sc4 sc5 sc6 oo mo) rfl rfl (Nat.le_of_ble_eq_true rfl) (Nat.le_of_ble_eq_true rfl) (Nat.le_of_ble_eq_true rfl) (Nat.le_of_ble_eq_true rfl) (bud_le (by decide)) (bud_le (by decide)) (fun _ _ h => False.elim h) (fun v9 w7 h8 => ?_)
  obtain ⟨hT10, v9, rfl, rv9, xah8⟩ := h8
  have hS10 := St.tr hS0 hT10 (by decide +kernel)
  refine rn_stk [.int v9] rfl ?_
  refine rn_istore dL_law_359 (by decide) [(0, .ref G.2.2.2.2.1.1), (1, .ref ox), (2, .ref om), (3, .ref oo), (4, .int i), (5, .int v9)] rfl ?_
  refine rn_aload_n (i := 2) dL_law_361 rfl rfl ?_
  refine rn_aload_n (i := 0) dL_law_362 rfl rfl ?_
  refine rn_iload dL_law_363 rfl ?_
  refine rn_iconst (v := (1 : Int32)) dL_law_365 (by decide) ?_
  refine rs_addC (2) (5122) ri rk_1 dL_law_366 (by decide) (fun v11 ev11 rv11 => ?_)
  refine rn_scl 1 ev11 ri hi (by decide) hs1 dL_law_367 ?_
  refine rn_aload_n (i := 0) dL_law_368 rfl rfl ?_
  refine rn_iload dL_law_369 rfl ?_
  refine rn_iconst (v := (2 : Int32)) dL_law_371 (by decide) ?_
  refine rs_addC (3) (5123) ri rk_2 dL_law_372 (by decide) (fun v12 ev12 rv12 => ?_)
  refine rn_scl 2 ev12 ri hi (by decide) hs2 dL_law_373 ?_
  refine rn_aload_n (i := 0) dL_law_374 rfl rfl ?_
  refine rn_iload dL_law_375 rfl ?_
  refine rn_iconst (v := (3 : Int32)) dL_law_377 (by decide) ?_
  refine rs_addC (4) (5124) ri rk_3 dL_law_378 (by decide) (fun v13 ev13 rv13 => ?_)
  refine rn_scl 3 ev13 ri hi (by decide) hs3 dL_law_379 ?_
  refine rn_aload_n (i := 0) dL_law_380 rfl rfl ?_
  refine rn_iload dL_law_381 rfl ?_
  refine rn_iconst (v := (4 : Int32)) dL_law_383 (by decide) ?_
  refine rs_addC (5) (5125) ri rk_4 dL_law_384 (by decide) (fun v14 ev14 rv14 => ?_)
  refine rn_scl 4 ev14 ri hi (by decide) hs4 dL_law_385 ?_
  refine rn_aload_n (i := 0) dL_law_386 rfl rfl ?_
  refine rn_iload dL_law_387 rfl ?_
  refine rn_iconst (v := (5 : Int32)) dL_law_389 (by decide) ?_
  refine rs_addC (6) (5126) ri rk_5 dL_law_390 (by decide) (fun v15 ev15 rv15 => ?_)
  refine rn_scl 5 ev15 ri hi (by decide) hs5 dL_law_391 ?_
  refine rn_aload_n (i := 0) dL_law_392 rfl rfl ?_
  refine rn_iload dL_law_393 rfl ?_
  refine rn_bipush (v := (6 : Int32)) dL_law_395 (by decide) ?_
  refine rs_addC (7) (5127) ri rk_6 dL_law_397 (by decide) (fun v16 ev16 rv16 => ?_)
  refine rn_scl 6 ev16 ri hi (by decide) hs6 dL_law_398 ?_
  obtain ⟨q17, fs17, hq17, hl17, hf17⟩ := ts_obj hS10.1 mm hk_30
  refine rn_callV (a := (a + 0)) (b := (b + 0)) [.int sc1, .int sc2, .int sc3, .int sc4, .int sc5, .int sc6] kl_SGLaw_125 dL_law_399 q17 hl17 rfl (t_X10_make G S w7 hS10.1 om mm sc1 sc2 sc3 sc4 sc5 sc6) rfl rfl (Nat.le_of_ble_eq_true rfl) (Nat.le_of_ble_eq_true rfl) (Nat.le_of_ble_eq_true rfl) (Nat.le_of_ble_eq_true rfl) (bud_le (by decide)) (bud_le (by decide)) (fun _ _ h => False.elim h) (fun v9 w18 h19 => ?_)
  obtain ⟨hT21, v20, rfl, rv20, xah19⟩ := h19
  have hS21 := St.tr hS10 hT21 (by decide +kernel)
  refine rn_stk [.int v20] rfl ?_
  refine rn_istore dL_law_402 (by decide) [(0, .ref G.2.2.2.2.1.1), (1, .ref ox), (2, .ref om), (3, .ref oo), (4, .int i), (5, .int v9), (6, .int v20)] rfl ?_
  refine rn_aload_n (i := 2) dL_law_404 rfl rfl ?_
  obtain ⟨q22, fs22, hq22, hl22, hf22⟩ := ts_obj hS21.1 mm hk_30
  refine rn_callV (a := (a + 0)) (b := (b + 0)) [] kl_SGLaw_126 dL_law_405 q22 hl22 rfl (t_X10_thrown G S w18 hS21.1 om mm) rfl rfl (Nat.le_of_ble_eq_true rfl) (Nat.le_of_ble_eq_true rfl) (Nat.le_of_ble_eq_true rfl) (Nat.le_of_ble_eq_true rfl) (bud_le (by decide)) (bud_le (by decide)) (fun _ _ h => False.elim h) (fun v9 w23 h24 => ?_)
  obtain ⟨rfl, v25, rfl, rv25, xah24⟩ := h24
  refine rn_stk [.int v25] rfl ?_
  refine rn_iload dL_law_408 rfl ?_
  refine rn_icmp_eq (tgt := 415) dL_law_410 (by decide) (fun h27 => ?_) (fun h27 => (show False from absurd (show v25 = v9 by obtain ⟨t, g1, g2⟩ := xah19; have g3 := cf_u hS21.1 rfl xah24 g1; cases g3; rcases xah8 with ⟨a1, a2, -⟩ | ⟨a1, a2⟩ <;> rcases g2 with ⟨b1, b2, -⟩ | ⟨b1, b2⟩ <;> first | exact absurd a2 b2 | exact absurd b2 a2 | rw [a1, b1]) h27).elim)
  have ch27 := cv_eq h27
  have r28 : Rg (0) (1) v25 := rf_eqx ch27 rv25 rv9 (by decide) (by decide)
  refine rn_iload dL_law_415 rfl ?_
  refine rn_if_ne (tgt := 432) dL_law_417 (by decide) (fun h29 => ?_) (fun h29 => ?_)
  · have ch29 := cv_ne h29
    have r30 : Rg (1) (1) v9 := rf_nel ch29 rv9 rk_0 (by decide) (by decide)
    refine rn_goto (tgt := 1307) dL_law_432 (by decide) ?_
    refine rn_lv [(0, .ref G.2.2.2.2.1.1), (1, .ref ox), (2, .ref om), (3, .ref oo), (4, .int i)] rfl ?_
    refine rn_room (d' := 9) (z' := 244) (a' := a) (b' := b) ?_ (Nat.le_refl _) (Nat.le_refl _) (Nat.le_add_right _ _) (Nat.le_add_right _ _)
    exact K _ _ hS21.1 (fun p hp => hS21.mem hp)
  · have ch29 := cv_eq h29
    have r31 : Rg (0) (0) v9 := rf_eqx ch29 rv9 rk_0 (by decide) (by decide)
    refine rn_aload_n (i := 3) dL_law_420 rfl rfl ?_
    refine rn_iconst (v := (0 : Int32)) dL_law_421 (by decide) ?_
    obtain ⟨q32, f32, hq32, hl32⟩ := ts_la hS21.1 mo hk_21
    refine rs_lald q32 hl32 rfl rk_0 (by decide) (by decide) dL_law_422 (fun v33 ev33 => ?_)
    refine rn_iload dL_law_423 rfl ?_
    refine rn_i2l dL_law_425 rfl ?_
    refine rn_lcmp dL_law_426 ?_
    refine rn_if_eq (tgt := 432) dL_law_427 (by decide) (fun h34 => ?_) (fun h34 => (show False from absurd (show lg_cmp v33 (v20).toInt64 = 0 by obtain ⟨t, g1, g2⟩ := xah19; rcases xah8 with ⟨a1, a2, f, r, a3, a4, a5⟩ | ⟨a1, a2⟩; rotate_left; exact absurd (a1.symm.trans h29) (by decide); rcases g2 with ⟨b1, b2, b3⟩ | ⟨b1, b2⟩; rotate_left; exact absurd a2 b2; have e1 := cl_u hS21.1 rfl (cl.fr a3 hT21 rfl) ⟨q32, oo, _, _, hq32, hl32⟩; rw [ev33, show (0 : Int32).toNatClampNeg = 0 from rfl, ← e1, a4, i32_ext (show v20.toInt = r.toInt by omega)]; exact lg_self _) h34).elim)
    have ch34 := cv_eq h34
    have r35 : Rg (0) (0) (lg_cmp v33 (v20).toInt64) := rf_eqx ch34 (rg_any (lg_cmp v33 (v20).toInt64)) rk_0 (by decide) (by decide)
    refine rn_goto (tgt := 1307) dL_law_432 (by decide) ?_
    refine rn_lv [(0, .ref G.2.2.2.2.1.1), (1, .ref ox), (2, .ref om), (3, .ref oo), (4, .int i)] rfl ?_
    refine rn_room (d' := 9) (z' := 244) (a' := a) (b' := b) ?_ (Nat.le_refl _) (Nat.le_refl _) (Nat.le_add_right _ _) (Nat.le_add_right _ _)
    exact K _ _ hS21.1 (fun p hp => hS21.mem hp)
