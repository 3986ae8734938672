set_option maxRecDepth 20000 in
set_option maxHeartbeats 4000000 in
theorem lc_8 (G : rn_G) (a b : Nat) (S : ts_S) (ws : va_W) (hW : ts_W G S ws) (ox om oo : Nat) (mx : (ox, 9) ∈ S) (mm : (om, 30) ∈ S) (mo : (oo, 21) ∈ S) (i : Int32) (ri : Rg 1 5121 i) (hi : i.toInt + 10 ≤ (G.2.2.2.2.1.2.1 : Int)) (I : Cpt S ws) (K : ∀ (S' : ts_S) (w : va_W), ts_W G S' w → (∀ p ∈ S, p ∈ S') → Cpt S' w → Rn G mL_law 9 244 a b 1279 [(0, .ref G.2.2.2.2.1.1), (1, .ref ox), (2, .ref om), (3, .ref oo), (4, .int i)] [] w (fun r _ => r = Sum.inl (some (.int 1)))) : Rn G mL_law 9 244 (a + 1) (b + 6) 515 [(0, .ref G.2.2.2.2.1.1), (1, .ref ox), (2, .ref om), (3, .ref oo), (4, .int i)] [] ws (fun r _ => r = Sum.inl (some (.int 1))) := by
  have hS0 : St G S [5, 30] ws S ws := St.rf hW
  obtain ⟨sc1, hs1⟩ : ∃ x : Int32, G.2.2.2.2.1.2.2 (i.toInt.toNat + 1) = x := ⟨_, rfl⟩
  obtain ⟨sc2, hs2⟩ : ∃ x : Int32, G.2.2.2.2.1.2.2 (i.toInt.toNat + 2) = x := ⟨_, rfl⟩
  obtain ⟨sc3, hs3⟩ : ∃ x : Int32, G.2.2.2.2.1.2.2 (i.toInt.toNat + 3) = x := ⟨_, rfl⟩
  refine rn_aload_n (i := 1) dL_law_515 rfl rfl ?_
  refine rn_aload_n (i := 0) dL_law_516 rfl rfl ?_
  refine rn_iload dL_law_517 rfl ?_
  refine rn_iconst (v := (1 : Int32)) dL_law_519 (by decide) ?_
  refine rs_addC (2) (5122) ri rk_1 dL_law_520 (by decide) (fun v1 ev1 rv1 => ?_)
  refine rn_scl 1 ev1 ri hi (by decide) hs1 dL_law_521 ?_
  refine rn_aload_n (i := 0) dL_law_522 rfl rfl ?_
  refine rn_iload dL_law_523 rfl ?_
  refine rn_iconst (v := (2 : Int32)) dL_law_525 (by decide) ?_
  refine rs_addC (3) (5123) ri rk_2 dL_law_526 (by decide) (fun v2 ev2 rv2 => ?_)
  refine rn_scl 2 ev2 ri hi (by decide) hs2 dL_law_527 ?_
  refine rn_aload_n (i := 0) dL_law_528 rfl rfl ?_
  refine rn_iload dL_law_529 rfl ?_
  refine rn_iconst (v := (3 : Int32)) dL_law_531 (by decide) ?_
  refine rs_addC (4) (5124) ri rk_3 dL_law_532 (by decide) (fun v3 ev3 rv3 => ?_)
  refine rn_scl 3 ev3 ri hi (by decide) hs3 dL_law_533 ?_
  refine rn_callSX (a := (a + 0)) (b := (b + 0)) [.ref ox, .int sc1, .int sc2, .int sc3] kl_SGLaw_137 dL_law_534 (t_L_meant G S ws hS0.1 ox mx sc1 sc2 sc3) rfl rfl (Nat.le_of_ble_eq_true rfl) (Nat.le_of_ble_eq_true rfl) (Nat.le_of_ble_eq_true rfl) (Nat.le_of_ble_eq_true rfl) (bud_le (by decide)) (bud_le (by decide)) (fun _ _ h => False.elim h) (fun v9 w4 h5 => ?_)
  obtain ⟨hT7, v6, rfl, rv6⟩ := h5
  have hS7 := St.tr hS0 hT7 (by decide +kernel)
  have I7 := Cpt.cl I hT7 rfl rfl rfl
  refine rn_stk [.int v6] rfl ?_
  refine rn_istore dL_law_537 (by decide) [(0, .ref G.2.2.2.2.1.1), (1, .ref ox), (2, .ref om), (3, .ref oo), (4, .int i), (5, .int v6)] rfl ?_
  refine rn_aload_n (i := 2) dL_law_539 rfl rfl ?_
  refine rn_aload_n (i := 0) dL_law_540 rfl rfl ?_
  refine rn_iload dL_law_541 rfl ?_
  refine rn_iconst (v := (1 : Int32)) dL_law_543 (by decide) ?_
  refine rs_addC (2) (5122) ri rk_1 dL_law_544 (by decide) (fun v8 ev8 rv8 => ?_)
  refine rn_scl 1 ev8 ri hi (by decide) hs1 dL_law_545 ?_
  refine rn_aload_n (i := 0) dL_law_546 rfl rfl ?_
  refine rn_iload dL_law_547 rfl ?_
  refine rn_iconst (v := (2 : Int32)) dL_law_549 (by decide) ?_
  refine rs_addC (3) (5123) ri rk_2 dL_law_550 (by decide) (fun v9 ev9 rv9 => ?_)
  refine rn_scl 2 ev9 ri hi (by decide) hs2 dL_law_551 ?_
  refine rn_aload_n (i := 0) dL_law_552 rfl rfl ?_
  refine rn_iload dL_law_553 rfl ?_
  refine rn_iconst (v := (3 : Int32)) dL_law_555 (by decide) ?_
  refine rs_addC (4) (5124) ri rk_3 dL_law_556 (by decide) (fun v10 ev10 rv10 => ?_)
  refine rn_scl 3 ev10 ri hi (by decide) hs3 dL_law_557 ?_
  obtain ⟨q11, fs11, hq11, hl11, hf11⟩ := ts_obj hS7.1 mm hk_30
  refine rn_callV (a := (a + 0)) (b := (b + 0)) [.int sc1, .int sc2, .int sc3] kl_SGLaw_140 dL_law_558 q11 hl11 rfl (t_X10_meant G S w4 hS7.1 om mm sc1 sc2 sc3) rfl rfl (Nat.le_of_ble_eq_true rfl) (Nat.le_of_ble_eq_true rfl) (Nat.le_of_ble_eq_true rfl) (Nat.le_of_ble_eq_true rfl) (bud_le (by decide)) (bud_le (by decide)) (fun _ _ h => False.elim h) (fun v9 w12 h13 => ?_)
  obtain ⟨hT14, rfl, fkh13⟩ := h13
  have hS14 := St.tr hS7 hT14 (by decide +kernel)
  have I14 := Cpt.rf I7 hT14 rfl rfl fkh13
  refine rn_stk [] rfl ?_
  refine rn_goto (tgt := 1279) dL_law_561 (by decide) ?_
  refine rn_lv [(0, .ref G.2.2.2.2.1.1), (1, .ref ox), (2, .ref om), (3, .ref oo), (4, .int i)] rfl ?_
  refine rn_room (d' := 9) (z' := 244) (a' := a) (b' := b) ?_ (Nat.le_refl _) (Nat.le_refl _) (Nat.le_add_right _ _) (Nat.le_add_right _ _)
  exact K _ _ hS14.1 (fun p hp => hS14.mem hp) I14
