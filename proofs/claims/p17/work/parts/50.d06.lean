set_option maxRecDepth 20000 in
set_option maxHeartbeats 4000000 in
theorem lc_5 (G : rn_G) (a b : Nat) (S : ts_S) (ws : va_W) (hW : ts_W G S ws) (ox om oo : Nat) (mx : (ox, 9) ∈ S) (mm : (om, 30) ∈ S) (mo : (oo, 21) ∈ S) (i : Int32) (ri : Rg 1 5121 i) (hi : i.toInt + 10 ≤ (G.2.2.2.2.1.2.1 : Int)) (I : Cpt S ws) (K : ∀ (S' : ts_S) (w : va_W), ts_W G S' w → (∀ p ∈ S, p ∈ S') → Cpt S' w → Rn G mL_law 9 244 a b 1279 [(0, .ref G.2.2.2.2.1.1), (1, .ref ox), (2, .ref om), (3, .ref oo), (4, .int i)] [] w (fun r _ => r = Sum.inl (some (.int 1)))) : Rn G mL_law 9 244 (a + 1) (b + 6) 407 [(0, .ref G.2.2.2.2.1.1), (1, .ref ox), (2, .ref om), (3, .ref oo), (4, .int i)] [] ws (fun r _ => r = Sum.inl (some (.int 1))) := by
  have hS0 : St G S [11, 21, 30, 33] ws S ws := St.rf hW
  refine rn_aload_n (i := 1) dL_law_407 rfl rfl ?_
  refine rn_aload_n (i := 3) dL_law_408 rfl rfl ?_
  refine rn_callSX (a := (a + 0)) (b := (b + 0)) [.ref ox, .ref oo] kl_SGLaw_126 dL_law_409 (t_L_sum G S ws hS0.1 ox mx oo mo) rfl rfl (Nat.le_of_ble_eq_true rfl) (Nat.le_of_ble_eq_true rfl) (Nat.le_of_ble_eq_true rfl) (Nat.le_of_ble_eq_true rfl) (bud_le (by decide)) (bud_le (by decide)) (fun _ _ h => False.elim h) (fun v9 w1 h2 => ?_)
  obtain ⟨hT4, v3, rfl, rv3⟩ := h2
  have hS4 := St.tr hS0 hT4 (by decide +kernel)
  have I4 := Cpt.cl I hT4 rfl rfl rfl
  refine rn_stk [.int v3] rfl ?_
  refine rn_istore dL_law_412 (by decide) [(0, .ref G.2.2.2.2.1.1), (1, .ref ox), (2, .ref om), (3, .ref oo), (4, .int i), (5, .int v3)] rfl ?_
  refine rn_aload_n (i := 2) dL_law_414 rfl rfl ?_
  obtain ⟨q5, fs5, hq5, hl5, hf5⟩ := ts_obj hS4.1 mm hk_30
  refine rn_callV (a := (a + 0)) (b := (b + 0)) [] kl_SGLaw_129 dL_law_415 q5 hl5 rfl (t_X10_sum G S w1 hS4.1 om mm) rfl rfl (Nat.le_of_ble_eq_true rfl) (Nat.le_of_ble_eq_true rfl) (Nat.le_of_ble_eq_true rfl) (Nat.le_of_ble_eq_true rfl) (bud_le (by decide)) (bud_le (by decide)) (fun _ _ h => False.elim h) (fun v9 w6 h7 => ?_)
  obtain ⟨hT9, v8, rfl, rv8, fkh7⟩ := h7
  have hS9 := St.tr hS4 hT9 (by decide +kernel)
  have I9 := Cpt.rf I4 hT9 rfl rfl fkh7
  refine rn_stk [.int v8] rfl ?_
  refine rn_istore dL_law_418 (by decide) [(0, .ref G.2.2.2.2.1.1), (1, .ref ox), (2, .ref om), (3, .ref oo), (4, .int i), (5, .int v3), (6, .int v8)] rfl ?_
  refine rn_goto (tgt := 1279) dL_law_420 (by decide) ?_
  refine rn_lv [(0, .ref G.2.2.2.2.1.1), (1, .ref ox), (2, .ref om), (3, .ref oo), (4, .int i)] rfl ?_
  refine rn_room (d' := 9) (z' := 244) (a' := a) (b' := b) ?_ (Nat.le_refl _) (Nat.le_refl _) (Nat.le_add_right _ _) (Nat.le_add_right _ _)
  exact K _ _ hS9.1 (fun p hp => hS9.mem hp) I9
