set_option maxRecDepth 20000 in
set_option maxHeartbeats 4000000 in
theorem lc_24 (G : rn_G) (a b : Nat) (S : ts_S) (ws : va_W) (hW : ts_W G S ws) (ox om oo : Nat) (mx : (ox, 9) ∈ S) (mm : (om, 30) ∈ S) (mo : (oo, 21) ∈ S) (i : Int32) (ri : Rg 1 5121 i) (hi : i.toInt + 10 ≤ (G.2.2.2.2.1.2.1 : Int)) (I : Cpt S ws) (K : ∀ (S' : ts_S) (w : va_W), ts_W G S' w → (∀ p ∈ S, p ∈ S') → Cpt S' w → Rn G mL_law 9 244 a b 1279 [(0, .ref G.2.2.2.2.1.1), (1, .ref ox), (2, .ref om), (3, .ref oo), (4, .int i)] [] w (fun r _ => r = Sum.inl (some (.int 1)))) : Rn G mL_law 9 244 (a + 0) (b + 0) 1268 [(0, .ref G.2.2.2.2.1.1), (1, .ref ox), (2, .ref om), (3, .ref oo), (4, .int i)] [] ws (fun r _ => r = Sum.inl (some (.int 1))) := by
  have hS0 : St G S [1, 2, 4, 5, 7, 9, 18, 20, 30, 39, 65, 67, 75] ws S ws := St.rf hW
  refine rn_aload_n (i := 1) dL_law_1268 rfl rfl ?_
  obtain ⟨q1, fs1, hq1, hl1, hf1⟩ := ts_obj hS0.1 mx hk_9
  refine rn_callV (a := (a + 0)) (b := (b + 0)) [] kl_SGLaw_190 dL_law_1269 q1 hl1 rfl (t_X9_clear G S ws hS0.1 ox mx) rfl rfl (Nat.le_of_ble_eq_true rfl) (Nat.le_of_ble_eq_true rfl) (Nat.le_of_ble_eq_true rfl) (Nat.le_of_ble_eq_true rfl) (bud_le (by decide)) (bud_le (by decide)) (fun _ _ h => False.elim h) (fun v9 w2 h3 => ?_)
  obtain ⟨hT4, rfl, xah3⟩ := h3
  have hS4 := St.tr hS0 hT4 (by decide +kernel)
  refine rn_stk [] rfl ?_
  refine rn_aload_n (i := 2) dL_law_1272 rfl rfl ?_
  obtain ⟨q5, fs5, hq5, hl5, hf5⟩ := ts_obj hS4.1 mm hk_30
  refine rn_callV (a := (a + 0)) (b := (b + 0)) [] kl_SGLaw_193 dL_law_1273 q5 hl5 rfl (t_X10_clear G S w2 hS4.1 om mm) rfl rfl (Nat.le_of_ble_eq_true rfl) (Nat.le_of_ble_eq_true rfl) (Nat.le_of_ble_eq_true rfl) (Nat.le_of_ble_eq_true rfl) (bud_le (by decide)) (bud_le (by decide)) (fun _ _ h => False.elim h) (fun v9 w6 h7 => ?_)
  obtain ⟨hT8, rfl, xah7⟩ := h7
  have hS8 := St.tr hS4 hT8 (by decide +kernel)
  refine rn_stk [] rfl ?_
  refine rn_goto (tgt := 1279) dL_law_1276 (by decide) ?_
  refine rn_lv [(0, .ref G.2.2.2.2.1.1), (1, .ref ox), (2, .ref om), (3, .ref oo), (4, .int i)] rfl ?_
  refine rn_room (d' := 9) (z' := 244) (a' := a) (b' := b) ?_ (Nat.le_refl _) (Nat.le_refl _) (Nat.le_add_right _ _) (Nat.le_add_right _ _)
  exact K _ _ hS8.1 (fun p hp => hS8.mem hp) ⟨_, _, _, _, Tb.fr xah3 hT8 rfl, xah7, fun k hk => absurd hk (Nat.not_lt_zero k)⟩
