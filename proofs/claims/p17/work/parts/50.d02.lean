set_option maxRecDepth 20000 in
set_option maxHeartbeats 4000000 in
theorem lc_1 (G : rn_G) (a b : Nat) (S : ts_S) (ws : va_W) (hW : ts_W G S ws) (ox om oo : Nat) (mx : (ox, 9) ∈ S) (mm : (om, 30) ∈ S) (mo : (oo, 21) ∈ S) (i : Int32) (ri : Rg 1 5121 i) (hi : i.toInt + 10 ≤ (G.2.2.2.2.1.2.1 : Int)) (I : Cpt S ws) (K : ∀ (S' : ts_S) (w : va_W), ts_W G S' w → (∀ p ∈ S, p ∈ S') → Cpt S' w → Rn G mL_law 9 244 a b 1279 [(0, .ref G.2.2.2.2.1.1), (1, .ref ox), (2, .ref om), (3, .ref oo), (4, .int i)] [] w (fun r _ => r = Sum.inl (some (.int 1)))) : Rn G mL_law 9 244 (a + 1) (b + 6) 224 [(0, .ref G.2.2.2.2.1.1), (1, .ref ox), (2, .ref om), (3, .ref oo), (4, .int i)] [] ws (fun r _ => r = Sum.inl (some (.int 1))) := by
  have hS0 : St G S [4, 30] ws S ws := St.rf hW
  obtain ⟨sc1, hs1⟩ : ∃ x : Int32, G.2.2.2.2.1.2.2 (i.toInt.toNat + 1) = x := ⟨_, rfl⟩
  refine rn_aload_n (i := 1) dL_law_224 rfl rfl ?_
  refine rn_aload_n (i := 0) dL_law_225 rfl rfl ?_
  refine rn_iload dL_law_226 rfl ?_
  refine rn_iconst (v := (1 : Int32)) dL_law_228 (by decide) ?_
  refine rs_addC (2) (5122) ri rk_1 dL_law_229 (by decide) (fun v1 ev1 rv1 => ?_)
  refine rn_scl 1 ev1 ri hi (by decide) hs1 dL_law_230 ?_
  refine rn_callSX (a := (a + 0)) (b := (b + 0)) [.ref ox, .int sc1] kl_SGLaw_110 dL_law_231 (t_L_keep G S ws hS0.1 ox mx sc1) rfl rfl (Nat.le_of_ble_eq_true rfl) (Nat.le_of_ble_eq_true rfl) (Nat.le_of_ble_eq_true rfl) (Nat.le_of_ble_eq_true rfl) (bud_le (by decide)) (bud_le (by decide)) (fun _ _ h => False.elim h) (fun v9 w2 h3 => ?_)
  obtain ⟨hT5, v4, rfl, rv4⟩ := h3
  have hS5 := St.tr hS0 hT5 (by decide +kernel)
  have I5 := Cpt.cl I hT5 rfl rfl rfl
  refine rn_stk [.int v4] rfl ?_
  refine rn_istore dL_law_234 (by decide) [(0, .ref G.2.2.2.2.1.1), (1, .ref ox), (2, .ref om), (3, .ref oo), (4, .int i), (5, .int v4)] rfl ?_
  refine rn_aload_n (i := 2) dL_law_236 rfl rfl ?_
  refine rn_aload_n (i := 0) dL_law_237 rfl rfl ?_
  refine rn_iload dL_law_238 rfl ?_
  refine rn_iconst (v := (1 : Int32)) dL_law_240 (by decide) ?_
  refine rs_addC (2) (5122) ri rk_1 dL_law_241 (by decide) (fun v6 ev6 rv6 => ?_)
  refine rn_scl 1 ev6 ri hi (by decide) hs1 dL_law_242 ?_
  obtain ⟨q7, fs7, hq7, hl7, hf7⟩ := ts_obj hS5.1 mm hk_30
  refine rn_callV (a := (a + 0)) (b := (b + 0)) [.int sc1] kl_SGLaw_113 dL_law_243 q7 hl7 rfl (t_X10_keep G S w2 hS5.1 om mm sc1) rfl rfl (Nat.le_of_ble_eq_true rfl) (Nat.le_of_ble_eq_true rfl) (Nat.le_of_ble_eq_true rfl) (Nat.le_of_ble_eq_true rfl) (bud_le (by decide)) (bud_le (by decide)) (fun _ _ h => False.elim h) (fun v9 w8 h9 => ?_)
  obtain ⟨hT10, rfl, fkh9⟩ := h9
  have hS10 := St.tr hS5 hT10 (by decide +kernel)
  have I10 := Cpt.rf I5 hT10 rfl rfl fkh9
  refine rn_stk [] rfl ?_
  refine rn_goto (tgt := 1279) dL_law_246 (by decide) ?_
  refine rn_lv [(0, .ref G.2.2.2.2.1.1), (1, .ref ox), (2, .ref om), (3, .ref oo), (4, .int i)] rfl ?_
  refine rn_room (d' := 9) (z' := 244) (a' := a) (b' := b) ?_ (Nat.le_refl _) (Nat.le_refl _) (Nat.le_add_right _ _) (Nat.le_add_right _ _)
  exact K _ _ hS10.1 (fun p hp => hS10.mem hp) I10
