set_option maxRecDepth 20000 in
set_option maxHeartbeats 4000000 in
theorem lc_9 (G : rn_G) (a b : Nat) (S : ts_S) (ws : va_W) (hW : ts_W G S ws) (ox om oo : Nat) (mx : (ox, 9) ∈ S) (mm : (om, 30) ∈ S) (mo : (oo, 21) ∈ S) (i : Int32) (ri : Rg 1 5121 i) (hi : i.toInt + 10 ≤ (G.2.2.2.2.1.2.1 : Int)) (I : Cpt S ws) (K : ∀ (S' : ts_S) (w : va_W), ts_W G S' w → (∀ p ∈ S, p ∈ S') → Cpt S' w → Rn G mL_law 9 244 a b 1279 [(0, .ref G.2.2.2.2.1.1), (1, .ref ox), (2, .ref om), (3, .ref oo), (4, .int i)] [] w (fun r _ => r = Sum.inl (some (.int 1)))) : Rn G mL_law 9 244 (a + 3) (b + 11) 564 [(0, .ref G.2.2.2.2.1.1), (1, .ref ox), (2, .ref om), (3, .ref oo), (4, .int i)] [] ws (fun r _ => r = Sum.inl (some (.int 1))) := by
  have hS0 : St G S [5, 15, 21, 30, 41, 42, 43, 44, 45, 46, 47, 48, 49] ws S ws := St.rf hW
  obtain ⟨sc1, hs1⟩ : ∃ x : Int32, G.2.2.2.2.1.2.2 (i.toInt.toNat + 1) = x := ⟨_, rfl⟩
  obtain ⟨sc2, hs2⟩ : ∃ x : Int32, G.2.2.2.2.1.2.2 (i.toInt.toNat + 2) = x := ⟨_, rfl⟩
  obtain ⟨sc3, hs3⟩ : ∃ x : Int32, G.2.2.2.2.1.2.2 (i.toInt.toNat + 3) = x := ⟨_, rfl⟩
  obtain ⟨sc4, hs4⟩ : ∃ x : Int32, G.2.2.2.2.1.2.2 (i.toInt.toNat + 4) = x := ⟨_, rfl⟩
  obtain ⟨sc5, hs5⟩ : ∃ x : Int32, G.2.2.2.2.1.2.2 (i.toInt.toNat + 5) = x := ⟨_, rfl⟩
  obtain ⟨sc6, hs6⟩ : ∃ x : Int32, G.2.2.2.2.1.2.2 (i.toInt.toNat + 6) = x := ⟨_, rfl⟩
  refine rn_aload_n (i := 1) dL_law_564 rfl rfl ?_
  refine rn_aload_n (i := 0) dL_law_565 rfl rfl ?_
  refine rn_iload dL_law_566 rfl ?_
  refine rn_iconst (v := (1 : Int32)) dL_law_568 (by decide) ?_
  refine rs_addC (2) (5122) ri rk_1 dL_law_569 (by decide) (fun v1 ev1 rv1 => ?_)
  refine rn_scl 1 ev1 ri hi (by decide) hs1 dL_law_570 ?_
  refine rn_aload_n (i := 0) dL_law_571 rfl rfl ?_
  refine rn_iload dL_law_572 rfl ?_
  refine rn_iconst (v := (2 : Int32)) dL_law_574 (by decide) ?_
  refine rs_addC (3) (5123) ri rk_2 dL_law_575 (by decide) (fun v2 ev2 rv2 => ?_)
  refine rn_scl 2 ev2 ri hi (by decide) hs2 dL_law_576 ?_
  refine rn_aload_n (i := 0) dL_law_577 rfl rfl ?_
  refine rn_iload dL_law_578 rfl ?_
  refine rn_iconst (v := (3 : Int32)) dL_law_580 (by decide) ?_
  refine rs_addC (4) (5124) ri rk_3 dL_law_581 (by decide) (fun v3 ev3 rv3 => ?_)
  refine rn_scl 3 ev3 ri hi (by decide) hs3 dL_law_582 ?_
  refine rn_aload_n (i := 0) dL_law_583 rfl rfl ?_
  refine rn_iload dL_law_584 rfl ?_
  refine rn_iconst (v := (4 : Int32)) dL_law_586 (by decide) ?_
  refine rs_addC (5) (5125) ri rk_4 dL_law_587 (by decide) (fun v4 ev4 rv4 => ?_)
  refine rn_scl 4 ev4 ri hi (by decide) hs4 dL_law_588 ?_
  refine rn_aload_n (i := 0) dL_law_589 rfl rfl ?_
  refine rn_iload dL_law_590 rfl ?_
  refine rn_iconst (v := (5 : Int32)) dL_law_592 (by decide) ?_
  refine rs_addC (6) (5126) ri rk_5 dL_law_593 (by decide) (fun v5 ev5 rv5 => ?_)
  refine rn_scl 5 ev5 ri hi (by decide) hs5 dL_law_594 ?_
  refine rn_aload_n (i := 0) dL_law_595 rfl rfl ?_
  refine rn_iload dL_law_596 rfl ?_
  refine rn_bipush (v := (6 : Int32)) dL_law_598 (by decide) ?_
  refine rs_addC (7) (5127) ri rk_6 dL_law_600 (by decide) (fun v6 ev6 rv6 => ?_)
  refine rn_scl 6 ev6 ri hi (by decide) hs6 dL_law_601 ?_
  refine rn_aload_n (i := 3) dL_law_602 rfl rfl ?_
  refine rn_callSX (a := (a + 0)) (b := (b + 0)) [.ref ox, .int sc1, .int sc2, .int sc3, .int sc4, .int sc5, .int sc6, .ref oo] kl_SGLaw_141 dL_law_603 (t_L_policy G S ws hS0.1 ox mx sc1 sc2 sc3 sc4 sc5 sc6 oo mo) rfl rfl (Nat.le_of_ble_eq_true rfl) (Nat.le_of_ble_eq_true rfl) (Nat.le_of_ble_eq_true rfl) (Nat.le_of_ble_eq_true rfl) (bud_le (by decide)) (bud_le (by decide)) (fun _ _ h => False.elim h) (fun v9 w7 h8 => ?_)
  obtain ⟨S10, hT10, v9, rfl, rv9⟩ := h8
  have hS10 := St.tr hS0 hT10 (by decide +kernel)
  have I10 := Cpt.cl I hT10 rfl rfl rfl
  refine rn_stk [.int v9] rfl ?_
  refine rn_istore dL_law_606 (by decide) [(0, .ref G.2.2.2.2.1.1), (1, .ref ox), (2, .ref om), (3, .ref oo), (4, .int i), (5, .int v9)] rfl ?_
  refine rn_aload_n (i := 2) dL_law_608 rfl rfl ?_
  refine rn_aload_n (i := 0) dL_law_609 rfl rfl ?_
  refine rn_iload dL_law_610 rfl ?_
  refine rn_iconst (v := (1 : Int32)) dL_law_612 (by decide) ?_
  refine rs_addC (2) (5122) ri rk_1 dL_law_613 (by decide) (fun v11 ev11 rv11 => ?_)
  refine rn_scl 1 ev11 ri hi (by decide) hs1 dL_law_614 ?_
  refine rn_aload_n (i := 0) dL_law_615 rfl rfl ?_
  refine rn_iload dL_law_616 rfl ?_
  refine rn_iconst (v := (2 : Int32)) dL_law_618 (by decide) ?_
  refine rs_addC (3) (5123) ri rk_2 dL_law_619 (by decide) (fun v12 ev12 rv12 => ?_)
  refine rn_scl 2 ev12 ri hi (by decide) hs2 dL_law_620 ?_
  refine rn_aload_n (i := 0) dL_law_621 rfl rfl ?_
  refine rn_iload dL_law_622 rfl ?_
  refine rn_iconst (v := (3 : Int32)) dL_law_624 (by decide) ?_
  refine rs_addC (4) (5124) ri rk_3 dL_law_625 (by decide) (fun v13 ev13 rv13 => ?_)
  refine rn_scl 3 ev13 ri hi (by decide) hs3 dL_law_626 ?_
  refine rn_aload_n (i := 0) dL_law_627 rfl rfl ?_
  refine rn_iload dL_law_628 rfl ?_
  refine rn_iconst (v := (4 : Int32)) dL_law_630 (by decide) ?_
  refine rs_addC (5) (5125) ri rk_4 dL_law_631 (by decide) (fun v14 ev14 rv14 => ?_)
  refine rn_scl 4 ev14 ri hi (by decide) hs4 dL_law_632 ?_
  refine rn_aload_n (i := 0) dL_law_633 rfl rfl ?_
  refine rn_iload dL_law_634 rfl ?_
  refine rn_iconst (v := (5 : Int32)) dL_law_636 (by decide) ?_
  refine rs_addC (6) (5126) ri rk_5 dL_law_637 (by decide) (fun v15 ev15 rv15 => ?_)
  refine rn_scl 5 ev15 ri hi (by decide) hs5 dL_law_638 ?_
  refine rn_aload_n (i := 0) dL_law_639 rfl rfl ?_
  refine rn_iload dL_law_640 rfl ?_
  refine rn_bipush (v := (6 : Int32)) dL_law_642 (by decide) ?_
  refine rs_addC (7) (5127) ri rk_6 dL_law_644 (by decide) (fun v16 ev16 rv16 => ?_)
  refine rn_scl 6 ev16 ri hi (by decide) hs6 dL_law_645 ?_
  obtain ⟨q17, fs17, hq17, hl17, hf17⟩ := ts_obj hS10.1 (hT10.mem mm) hk_30
  refine rn_callV (a := (a + 0)) (b := (b + 0)) [.int sc1, .int sc2, .int sc3, .int sc4, .int sc5, .int sc6] kl_SGLaw_143 dL_law_646 q17 hl17 rfl (t_X10_policy G S10 w7 hS10.1 om (hT10.mem mm) sc1 sc2 sc3 sc4 sc5 sc6) rfl rfl (Nat.le_of_ble_eq_true rfl) (Nat.le_of_ble_eq_true rfl) (Nat.le_of_ble_eq_true rfl) (Nat.le_of_ble_eq_true rfl) (bud_le (by decide)) (bud_le (by decide)) (fun _ _ h => False.elim h) (fun v9 w18 h19 => ?_)
  obtain ⟨hT21, v20, rfl, rv20, fkh19⟩ := h19
  have hS21 := St.tr hS10 hT21 (by decide +kernel)
  have I21 := Cpt.rf I10 hT21 rfl rfl fkh19
  refine rn_stk [.int v20] rfl ?_
  refine rn_istore dL_law_649 (by decide) [(0, .ref G.2.2.2.2.1.1), (1, .ref ox), (2, .ref om), (3, .ref oo), (4, .int i), (5, .int v9), (6, .int v20)] rfl ?_
  refine rn_goto (tgt := 1279) dL_law_651 (by decide) ?_
  refine rn_lv [(0, .ref G.2.2.2.2.1.1), (1, .ref ox), (2, .ref om), (3, .ref oo), (4, .int i)] rfl ?_
  refine rn_room (d' := 9) (z' := 244) (a' := a) (b' := b) ?_ (Nat.le_refl _) (Nat.le_refl _) (Nat.le_add_right _ _) (Nat.le_add_right _ _)
  exact K _ _ hS21.1 (fun p hp => hS21.mem hp) I21
