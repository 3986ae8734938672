set_option maxRecDepth 20000 in
set_option maxHeartbeats 4000000 in
theorem lc_21 (G : rn_G) (a b : Nat) (S : ts_S) (ws : va_W) (hW : ts_W G S ws) (ox om oo : Nat) (mx : (ox, 9) ∈ S) (mm : (om, 30) ∈ S) (mo : (oo, 21) ∈ S) (i : Int32) (ri : Rg 1 5121 i) (hi : i.toInt + 10 ≤ (G.2.2.2.2.1.2.1 : Int)) (I : Cpt S ws) (K : ∀ (S' : ts_S) (w : va_W), ts_W G S' w → (∀ p ∈ S, p ∈ S') → Cpt S' w → Rn G mL_law 9 244 a b 1279 [(0, .ref G.2.2.2.2.1.1), (1, .ref ox), (2, .ref om), (3, .ref oo), (4, .int i)] [] w (fun r _ => r = Sum.inl (some (.int 1)))) : Rn G mL_law 9 244 (a + 0) (b + 0) 1187 [(0, .ref G.2.2.2.2.1.1), (1, .ref ox), (2, .ref om), (3, .ref oo), (4, .int i)] [] ws (fun r _ => r = Sum.inl (some (.int 1))) := by
  have hS0 : St G S [0, 1, 13, 30, 67, 72] ws S ws := St.rf hW
  refine rn_aload_n (i := 1) dL_law_1187 rfl rfl ?_
  obtain ⟨q1, fs1, hq1, hl1, hf1⟩ := ts_obj hS0.1 mx hk_9
  refine rn_callV (a := (a + 0)) (b := (b + 0)) [] kl_SGLaw_180 dL_law_1188 q1 hl1 rfl (t_X9_tick G S ws hS0.1 ox mx) rfl rfl (Nat.le_of_ble_eq_true rfl) (Nat.le_of_ble_eq_true rfl) (Nat.le_of_ble_eq_true rfl) (Nat.le_of_ble_eq_true rfl) (bud_le (by decide)) (bud_le (by decide)) (fun _ _ h => False.elim h) (fun v9 w2 h3 => ?_)
  obtain ⟨hT5, v4, rfl, rv4⟩ := h3
  have hS5 := St.tr hS0 hT5 (by decide +kernel)
  have I5 := Cpt.cl I hT5 rfl rfl rfl
  refine rn_stk [.int v4] rfl ?_
  refine rn_pop dL_law_1191 rfl ?_
  refine rn_aload_n (i := 2) dL_law_1192 rfl rfl ?_
  obtain ⟨q6, fs6, hq6, hl6, hf6⟩ := ts_obj hS5.1 mm hk_30
  refine rn_callV (a := (a + 0)) (b := (b + 0)) [] kl_SGLaw_183 dL_law_1193 q6 hl6 rfl (t_X10_tick G S w2 hS5.1 om mm) rfl rfl (Nat.le_of_ble_eq_true rfl) (Nat.le_of_ble_eq_true rfl) (Nat.le_of_ble_eq_true rfl) (Nat.le_of_ble_eq_true rfl) (bud_le (by decide)) (bud_le (by decide)) (fun _ _ h => False.elim h) (fun v9 w7 h8 => ?_)
  obtain ⟨hT10, v9, rfl, rv9, fkh8⟩ := h8
  have hS10 := St.tr hS5 hT10 (by decide +kernel)
  have I10 := Cpt.rf I5 hT10 rfl rfl fkh8
  refine rn_stk [.int v9] rfl ?_
  refine rn_pop dL_law_1196 rfl ?_
  refine rn_goto (tgt := 1279) dL_law_1197 (by decide) ?_
  refine rn_lv [(0, .ref G.2.2.2.2.1.1), (1, .ref ox), (2, .ref om), (3, .ref oo), (4, .int i)] rfl ?_
  refine rn_room (d' := 9) (z' := 244) (a' := a) (b' := b) ?_ (Nat.le_refl _) (Nat.le_refl _) (Nat.le_add_right _ _) (Nat.le_add_right _ _)
  exact K _ _ hS10.1 (fun p hp => hS10.mem hp) I10
