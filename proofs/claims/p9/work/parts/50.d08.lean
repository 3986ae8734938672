set_option maxRecDepth 20000 in
set_option maxHeartbeats 4000000 in
theorem lc_7 (G : rn_G) (a b : Nat) (S : ts_S) (ws : va_W) (hW : ts_W G S ws) (ox om oo : Nat) (mx : (ox, 9) ∈ S) (mm : (om, 30) ∈ S) (mo : (oo, 21) ∈ S) (i : Int32) (ri : Rg 1 5121 i) (hi : i.toInt + 10 ≤ (G.2.2.2.2.1.2.1 : Int)) (I : Cp9 S ws) (K : ∀ (S' : ts_S) (w : va_W), ts_W G S' w → (∀ p ∈ S, p ∈ S') → Cp9 S' w → Rn G mL_law 9 244 a b 1307 [(0, .ref G.2.2.2.2.1.1), (1, .ref ox), (2, .ref om), (3, .ref oo), (4, .int i)] [] w (fun r _ => r = Sum.inl (some (.int 1)))) : Rn G mL_law 9 244 (a + 1) (b + 6) 475 [(0, .ref G.2.2.2.2.1.1), (1, .ref ox), (2, .ref om), (3, .ref oo), (4, .int i)] [] ws (fun r _ => r = Sum.inl (some (.int 1))) := by
  have hS0 : St G S [18, 21, 30, 39] ws S ws := St.rf hW
  obtain ⟨sc1, hs1⟩ : ∃ x : Int32, G.2.2.2.2.1.2.2 (i.toInt.toNat + 1) = x := ⟨_, rfl⟩
  obtain ⟨sc2, hs2⟩ : ∃ x : Int32, G.2.2.2.2.1.2.2 (i.toInt.toNat + 2) = x := ⟨_, rfl⟩
  refine rn_aload_n (i := 1) dL_law_475 rfl rfl ?_
  refine rn_aload_n (i := 0) dL_law_476 rfl rfl ?_
  refine rn_iload dL_law_477 rfl ?_
  refine rn_iconst (v := (1 : Int32)) dL_law_479 (by decide) ?_
  refine rs_addC (2) (5122) ri rk_1 dL_law_480 (by decide) (fun v1 ev1 rv1 => ?_)
  refine rn_scl 1 ev1 ri hi (by decide) hs1 dL_law_481 ?_
  refine rn_aload_n (i := 0) dL_law_482 rfl rfl ?_
  refine rn_iload dL_law_483 rfl ?_
  refine rn_iconst (v := (2 : Int32)) dL_law_485 (by decide) ?_
  refine rs_addC (3) (5123) ri rk_2 dL_law_486 (by decide) (fun v2 ev2 rv2 => ?_)
  refine rn_scl 2 ev2 ri hi (by decide) hs2 dL_law_487 ?_
  refine rn_aload_n (i := 3) dL_law_488 rfl rfl ?_
  refine rn_callSX (a := (a + 0)) (b := (b + 0)) [.ref ox, .int sc1, .int sc2, .ref oo] kl_SGLaw_134 dL_law_489 (t_L_peer G S ws hS0.1 ox mx sc1 sc2 oo mo) rfl rfl (Nat.le_of_ble_eq_true rfl) (Nat.le_of_ble_eq_true rfl) (Nat.le_of_ble_eq_true rfl) (Nat.le_of_ble_eq_true rfl) (bud_le (by decide)) (bud_le (by decide)) (fun _ _ h => False.elim h) (fun v9 w3 h4 => ?_)
  obtain ⟨hT6, v5, rfl, rv5, xah4⟩ := h4
  have hS6 := St.tr hS0 hT6 (by decide +kernel)
  refine rn_stk [.int v5] rfl ?_
  refine rn_istore dL_law_492 (by decide) [(0, .ref G.2.2.2.2.1.1), (1, .ref ox), (2, .ref om), (3, .ref oo), (4, .int i), (5, .int v5)] rfl ?_
  refine rn_aload_n (i := 2) dL_law_494 rfl rfl ?_
  refine rn_aload_n (i := 0) dL_law_495 rfl rfl ?_
  refine rn_iload dL_law_496 rfl ?_
  refine rn_iconst (v := (1 : Int32)) dL_law_498 (by decide) ?_
  refine rs_addC (2) (5122) ri rk_1 dL_law_499 (by decide) (fun v7 ev7 rv7 => ?_)
  refine rn_scl 1 ev7 ri hi (by decide) hs1 dL_law_500 ?_
  refine rn_aload_n (i := 0) dL_law_501 rfl rfl ?_
  refine rn_iload dL_law_502 rfl ?_
  refine rn_iconst (v := (2 : Int32)) dL_law_504 (by decide) ?_
  refine rs_addC (3) (5123) ri rk_2 dL_law_505 (by decide) (fun v8 ev8 rv8 => ?_)
  refine rn_scl 2 ev8 ri hi (by decide) hs2 dL_law_506 ?_
  obtain ⟨q9, fs9, hq9, hl9, hf9⟩ := ts_obj hS6.1 mm hk_30
  refine rn_callV (a := (a + 0)) (b := (b + 0)) [.int sc1, .int sc2] kl_SGLaw_136 dL_law_507 q9 hl9 rfl (t_X10_peer G S w3 hS6.1 om mm sc1 sc2) rfl rfl (Nat.le_of_ble_eq_true rfl) (Nat.le_of_ble_eq_true rfl) (Nat.le_of_ble_eq_true rfl) (Nat.le_of_ble_eq_true rfl) (bud_le (by decide)) (bud_le (by decide)) (fun _ _ h => False.elim h) (fun v9 w10 h11 => ?_)
  obtain ⟨hT13, v12, rfl, rv12, xah11⟩ := h11
  have hS13 := St.tr hS6 hT13 (by decide +kernel)
  refine rn_stk [.int v12] rfl ?_
  refine rn_istore dL_law_510 (by decide) [(0, .ref G.2.2.2.2.1.1), (1, .ref ox), (2, .ref om), (3, .ref oo), (4, .int i), (5, .int v5), (6, .int v12)] rfl ?_
  refine rn_aload_n (i := 2) dL_law_512 rfl rfl ?_
  obtain ⟨q14, fs14, hq14, hl14, hf14⟩ := ts_obj hS13.1 mm hk_30
  refine rn_callV (a := (a + 0)) (b := (b + 0)) [] kl_SGLaw_137 dL_law_513 q14 hl14 rfl (t_X10_thrown G S w10 hS13.1 om mm) rfl rfl (Nat.le_of_ble_eq_true rfl) (Nat.le_of_ble_eq_true rfl) (Nat.le_of_ble_eq_true rfl) (Nat.le_of_ble_eq_true rfl) (bud_le (by decide)) (bud_le (by decide)) (fun _ _ h => False.elim h) (fun v9 w15 h16 => ?_)
  obtain ⟨rfl, v17, rfl, rv17, xah16⟩ := h16
  refine rn_stk [.int v17] rfl ?_
  refine rn_iload dL_law_516 rfl ?_
  refine rn_icmp_eq (tgt := 523) dL_law_518 (by decide) (fun h19 => ?_) (fun h19 => (show False from absurd (show v17 = v5 by obtain ⟨t, g1, g2⟩ := xah11; have g3 := cf_u hS13.1 rfl xah16 g1; cases g3; rcases xah4 with ⟨a1, a2, -⟩ | ⟨a1, a2, -⟩ <;> rcases g2 with ⟨b1, b2, -⟩ | ⟨b1, b2, -⟩ <;> first | exact absurd a2 b2 | exact absurd b2 a2 | rw [a1, b1]) h19).elim)
  have ch19 := cv_eq h19
  have r20 : Rg (0) (1) v17 := rf_eqx ch19 rv17 rv5 (by decide) (by decide)
  refine rn_iload dL_law_523 rfl ?_
  refine rn_if_ne (tgt := 540) dL_law_525 (by decide) (fun h21 => ?_) (fun h21 => ?_)
  · have ch21 := cv_ne h21
    have r22 : Rg (1) (1) v5 := rf_nel ch21 rv5 rk_0 (by decide) (by decide)
    refine rn_goto (tgt := 1307) dL_law_540 (by decide) ?_
    refine rn_lv [(0, .ref G.2.2.2.2.1.1), (1, .ref ox), (2, .ref om), (3, .ref oo), (4, .int i)] rfl ?_
    refine rn_room (d' := 9) (z' := 244) (a' := a) (b' := b) ?_ (Nat.le_refl _) (Nat.le_refl _) (Nat.le_add_right _ _) (Nat.le_add_right _ _)
    exact K _ _ hS13.1 (fun p hp => hS13.mem hp) (by obtain ⟨t, g1, g2⟩ := xah11; obtain ⟨f0, g0, i1, i2, i3⟩ := I; have j2 := i2.fr hT6 rfl; rcases xah4 with ⟨a1, a2, f, f2, g, d1, d2, d3, -, -⟩ | ⟨a1, a2, d1⟩ <;> rcases g2 with ⟨b1, b2, h, h2, e1, e2, e3, e4⟩ | ⟨b1, b2, h, e1, e2⟩ <;> first | exact absurd a2 b2 | exact absurd b2 a2 | exact cp9_st (ct_u hW rfl d1 i1) (ct_u hS6.1 rfl e1 j2) i3 d3 e4 (d2.fr hT13 rfl) e2 | exact cp9_eq d1 (ct_u hS6.1 rfl e1 j2) i3 i1 hT13 e2)
  · have ch21 := cv_eq h21
    have r23 : Rg (0) (0) v5 := rf_eqx ch21 rv5 rk_0 (by decide) (by decide)
    refine rn_aload_n (i := 3) dL_law_528 rfl rfl ?_
    refine rn_iconst (v := (0 : Int32)) dL_law_529 (by decide) ?_
    obtain ⟨q24, f24, hq24, hl24⟩ := ts_la hS13.1 mo hk_21
    refine rs_lald q24 hl24 rfl rk_0 (by decide) (by decide) dL_law_530 (fun v25 ev25 => ?_)
    refine rn_iload dL_law_531 rfl ?_
    refine rn_i2l dL_law_533 rfl ?_
    refine rn_lcmp dL_law_534 ?_
    refine rn_if_eq (tgt := 540) dL_law_535 (by decide) (fun h26 => ?_) (fun h26 => (show False from absurd (show lg_cmp v25 (v12).toInt64 = 0 by obtain ⟨t, g1, g2⟩ := xah11; obtain ⟨f0, g0, i1, i2, i3⟩ := I; rcases xah4 with ⟨a1, a2, f, f2, g, d1, d2, d3, d4, d5⟩ | ⟨a1, a2, -⟩; rotate_left; exact absurd (a1.symm.trans h21) (by decide); rcases g2 with ⟨b1, b2, h, h2, e1, e2, e3, e4⟩ | ⟨b1, b2, -⟩; rotate_left; exact absurd a2 b2; have z1 := cl_u hS13.1 rfl (cl.fr d4 hT13 rfl) ⟨q24, oo, _, _, hq24, hl24⟩; have z2 := ct_u hW rfl d1 i1; have z3 := ct_u hS6.1 rfl e1 (i2.fr hT6 rfl); rw [ev25, show (0 : Int32).toNatClampNeg = 0 from rfl, ← z1, d5, e3, z2, z3, i3 _ (by have e9 : sc1.toNatClampNeg = sc1.toInt.toNat := rfl; unfold tok at a2; omega)]; exact lg_self _) h26).elim)
    have ch26 := cv_eq h26
    have r27 : Rg (0) (0) (lg_cmp v25 (v12).toInt64) := rf_eqx ch26 (rg_any (lg_cmp v25 (v12).toInt64)) rk_0 (by decide) (by decide)
    refine rn_goto (tgt := 1307) dL_law_540 (by decide) ?_
    refine rn_lv [(0, .ref G.2.2.2.2.1.1), (1, .ref ox), (2, .ref om), (3, .ref oo), (4, .int i)] rfl ?_
    refine rn_room (d' := 9) (z' := 244) (a' := a) (b' := b) ?_ (Nat.le_refl _) (Nat.le_refl _) (Nat.le_add_right _ _) (Nat.le_add_right _ _)
    exact K _ _ hS13.1 (fun p hp => hS13.mem hp) (by obtain ⟨t, g1, g2⟩ := xah11; obtain ⟨f0, g0, i1, i2, i3⟩ := I; have j2 := i2.fr hT6 rfl; rcases xah4 with ⟨a1, a2, f, f2, g, d1, d2, d3, -, -⟩ | ⟨a1, a2, d1⟩ <;> rcases g2 with ⟨b1, b2, h, h2, e1, e2, e3, e4⟩ | ⟨b1, b2, h, e1, e2⟩ <;> first | exact absurd a2 b2 | exact absurd b2 a2 | exact cp9_st (ct_u hW rfl d1 i1) (ct_u hS6.1 rfl e1 j2) i3 d3 e4 (d2.fr hT13 rfl) e2 | exact cp9_eq d1 (ct_u hS6.1 rfl e1 j2) i3 i1 hT13 e2)
