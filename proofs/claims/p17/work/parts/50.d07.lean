set_option maxRecDepth 20000 in
set_option maxHeartbeats 4000000 in
theorem lc_6 (G : rn_G) (a b : Nat) (S : ts_S) (ws : va_W) (hW : ts_W G S ws) (ox om oo : Nat) (mx : (ox, 9) ∈ S) (mm : (om, 30) ∈ S) (mo : (oo, 21) ∈ S) (i : Int32) (ri : Rg 1 5121 i) (hi : i.toInt + 10 ≤ (G.2.2.2.2.1.2.1 : Int)) (I : Cpt S ws) (K : ∀ (S' : ts_S) (w : va_W), ts_W G S' w → (∀ p ∈ S, p ∈ S') → Cpt S' w → Rn G mL_law 9 244 a b 1279 [(0, .ref G.2.2.2.2.1.1), (1, .ref ox), (2, .ref om), (3, .ref oo), (4, .int i)] [] w (fun r _ => r = Sum.inl (some (.int 1)))) : Rn G mL_law 9 244 (a + 1) (b + 6) 423 [(0, .ref G.2.2.2.2.1.1), (1, .ref ox), (2, .ref om), (3, .ref oo), (4, .int i)] [] ws (fun r _ => r = Sum.inl (some (.int 1))) := by
  have hS0 : St G S [7, 16, 17, 21, 30, 36, 37, 38] ws S ws := St.rf hW
  obtain ⟨sc1, hs1⟩ : ∃ x : Int32, G.2.2.2.2.1.2.2 (i.toInt.toNat + 1) = x := ⟨_, rfl⟩
  obtain ⟨sc2, hs2⟩ : ∃ x : Int32, G.2.2.2.2.1.2.2 (i.toInt.toNat + 2) = x := ⟨_, rfl⟩
  obtain ⟨sc3, hs3⟩ : ∃ x : Int32, G.2.2.2.2.1.2.2 (i.toInt.toNat + 3) = x := ⟨_, rfl⟩
  refine rn_aload_n (i := 1) dL_law_423 rfl rfl ?_
  refine rn_aload_n (i := 0) dL_law_424 rfl rfl ?_
  refine rn_iload dL_law_425 rfl ?_
  refine rn_iconst (v := (1 : Int32)) dL_law_427 (by decide) ?_
  refine rs_addC (2) (5122) ri rk_1 dL_law_428 (by decide) (fun v1 ev1 rv1 => ?_)
  refine rn_scl 1 ev1 ri hi (by decide) hs1 dL_law_429 ?_
  refine rn_aload_n (i := 0) dL_law_430 rfl rfl ?_
  refine rn_iload dL_law_431 rfl ?_
  refine rn_iconst (v := (2 : Int32)) dL_law_433 (by decide) ?_
  refine rs_addC (3) (5123) ri rk_2 dL_law_434 (by decide) (fun v2 ev2 rv2 => ?_)
  refine rn_scl 2 ev2 ri hi (by decide) hs2 dL_law_435 ?_
  refine rn_aload_n (i := 0) dL_law_436 rfl rfl ?_
  refine rn_iload dL_law_437 rfl ?_
  refine rn_iconst (v := (3 : Int32)) dL_law_439 (by decide) ?_
  refine rs_addC (4) (5124) ri rk_3 dL_law_440 (by decide) (fun v3 ev3 rv3 => ?_)
  refine rn_scl 3 ev3 ri hi (by decide) hs3 dL_law_441 ?_
  refine rn_aload_n (i := 3) dL_law_442 rfl rfl ?_
  refine rn_callSX (a := (a + 0)) (b := (b + 0)) [.ref ox, .int sc1, .int sc2, .int sc3, .ref oo] kl_SGLaw_130 dL_law_443 (t_L_route G S ws hS0.1 ox mx sc1 sc2 sc3 oo mo) rfl rfl (Nat.le_of_ble_eq_true rfl) (Nat.le_of_ble_eq_true rfl) (Nat.le_of_ble_eq_true rfl) (Nat.le_of_ble_eq_true rfl) (bud_le (by decide)) (bud_le (by decide)) (fun _ _ h => False.elim h) (fun v9 w4 h5 => ?_)
  obtain ⟨S7, hT7, v6, rfl, rv6, xah5⟩ := h5
  have hS7 := St.tr hS0 hT7 (by decide +kernel)
  refine rn_stk [.int v6] rfl ?_
  refine rn_istore dL_law_446 (by decide) [(0, .ref G.2.2.2.2.1.1), (1, .ref ox), (2, .ref om), (3, .ref oo), (4, .int i), (5, .int v6)] rfl ?_
  refine rn_aload_n (i := 2) dL_law_448 rfl rfl ?_
  refine rn_aload_n (i := 0) dL_law_449 rfl rfl ?_
  refine rn_iload dL_law_450 rfl ?_
  refine rn_iconst (v := (1 : Int32)) dL_law_452 (by decide) ?_
  refine rs_addC (2) (5122) ri rk_1 dL_law_453 (by decide) (fun v8 ev8 rv8 => ?_)
  refine rn_scl 1 ev8 ri hi (by decide) hs1 dL_law_454 ?_
  refine rn_aload_n (i := 0) dL_law_455 rfl rfl ?_
  refine rn_iload dL_law_456 rfl ?_
  refine rn_iconst (v := (2 : Int32)) dL_law_458 (by decide) ?_
  refine rs_addC (3) (5123) ri rk_2 dL_law_459 (by decide) (fun v9 ev9 rv9 => ?_)
  refine rn_scl 2 ev9 ri hi (by decide) hs2 dL_law_460 ?_
  refine rn_aload_n (i := 0) dL_law_461 rfl rfl ?_
  refine rn_iload dL_law_462 rfl ?_
  refine rn_iconst (v := (3 : Int32)) dL_law_464 (by decide) ?_
  refine rs_addC (4) (5124) ri rk_3 dL_law_465 (by decide) (fun v10 ev10 rv10 => ?_)
  refine rn_scl 3 ev10 ri hi (by decide) hs3 dL_law_466 ?_
  obtain ⟨q11, fs11, hq11, hl11, hf11⟩ := ts_obj hS7.1 (hT7.mem mm) hk_30
  refine rn_callV (a := (a + 0)) (b := (b + 0)) [.int sc1, .int sc2, .int sc3] kl_SGLaw_133 dL_law_467 q11 hl11 rfl (t_X10_route G S7 w4 hS7.1 om (hT7.mem mm) sc1 sc2 sc3) rfl rfl (Nat.le_of_ble_eq_true rfl) (Nat.le_of_ble_eq_true rfl) (Nat.le_of_ble_eq_true rfl) (Nat.le_of_ble_eq_true rfl) (bud_le (by decide)) (bud_le (by decide)) (fun _ _ h => False.elim h) (fun v9 w12 h13 => ?_)
  obtain ⟨hT15, v14, rfl, rv14, xah13⟩ := h13
  have hS15 := St.tr hS7 hT15 (by decide +kernel)
  refine rn_stk [.int v14] rfl ?_
  refine rn_istore dL_law_470 (by decide) [(0, .ref G.2.2.2.2.1.1), (1, .ref ox), (2, .ref om), (3, .ref oo), (4, .int i), (5, .int v6), (6, .int v14)] rfl ?_
  refine rn_goto (tgt := 1279) dL_law_472 (by decide) ?_
  refine rn_lv [(0, .ref G.2.2.2.2.1.1), (1, .ref ox), (2, .ref om), (3, .ref oo), (4, .int i)] rfl ?_
  refine rn_room (d' := 9) (z' := 244) (a' := a) (b' := b) ?_ (Nat.le_refl _) (Nat.le_refl _) (Nat.le_add_right _ _) (Nat.le_add_right _ _)
  exact K _ _ hS15.1 (fun p hp => hS15.mem hp) (by obtain ⟨n, net, w9, p, t1, t2, t3⟩ := I; have t4 := t2.fk hT7 rfl (fun v hv => hv.fr hT7 rfl); rcases xah5 with ⟨a1, a2⟩ | ⟨a1, a2⟩ <;> rcases xah13 with ⟨b1, b2⟩ | ⟨b1, b2⟩; exact ⟨_, _, _, _, (a2 _ _ _ _ t1).2.fr hT15 rfl, (b2 _ _ _ _ t4).2, upd_pos t3 (show 0 ≤ sc2.toInt from a1.1)⟩; exact absurd b1 (by rintro (b1 | b1); exact b1 a1; exact absurd (b1 _ _ _ _ t4) (by have := (a2 _ _ _ _ t1).1; omega)); exact absurd a1 (by rintro (a1 | a1); exact a1 b1; exact absurd (a1 _ _ _ _ t1) (by have := (b2 _ _ _ _ t4).1; omega)); exact ⟨_, _, _, _, (a2 _ _ _ _ t1).fr hT15 rfl, b2 _ _ _ _ t4, t3⟩)
