set_option maxRecDepth 20000 in
set_option maxHeartbeats 4000000 in
theorem lc_23 (G : rn_G) (a b : Nat) (S : ts_S) (ws : va_W) (hW : ts_W G S ws) (ox om oo : Nat) (mx : (ox, 9) ∈ S) (mm : (om, 30) ∈ S) (mo : (oo, 21) ∈ S) (i : Int32) (ri : Rg 1 5121 i) (hi : i.toInt + 10 ≤ (G.2.2.2.2.1.2.1 : Int)) (I : Cpt S ws) (K : ∀ (S' : ts_S) (w : va_W), ts_W G S' w → (∀ p ∈ S, p ∈ S') → Cpt S' w → Rn G mL_law 9 244 a b 1279 [(0, .ref G.2.2.2.2.1.1), (1, .ref ox), (2, .ref om), (3, .ref oo), (4, .int i)] [] w (fun r _ => r = Sum.inl (some (.int 1)))) : Rn G mL_law 9 244 (a + 1) (b + 6) 1240 [(0, .ref G.2.2.2.2.1.1), (1, .ref ox), (2, .ref om), (3, .ref oo), (4, .int i)] [] ws (fun r _ => r = Sum.inl (some (.int 1))) := by
  have hS0 : St G S [21, 30] ws S ws := St.rf hW
  obtain ⟨sc1, hs1⟩ : ∃ x : Int32, G.2.2.2.2.1.2.2 (i.toInt.toNat + 1) = x := ⟨_, rfl⟩
  refine rn_aload_n (i := 1) dL_law_1240 rfl rfl ?_
  refine rn_aload_n (i := 0) dL_law_1241 rfl rfl ?_
  refine rn_iload dL_law_1242 rfl ?_
  refine rn_iconst (v := (1 : Int32)) dL_law_1244 (by decide) ?_
  refine rs_addC (2) (5122) ri rk_1 dL_law_1245 (by decide) (fun v1 ev1 rv1 => ?_)
  refine rn_scl 1 ev1 ri hi (by decide) hs1 dL_law_1246 ?_
  refine rn_aload_n (i := 3) dL_law_1247 rfl rfl ?_
  refine rn_callSX (a := (a + 0)) (b := (b + 0)) [.ref ox, .int sc1, .ref oo] kl_SGLaw_187 dL_law_1248 (t_L_ended G S ws hS0.1 ox mx sc1 oo mo) rfl rfl (Nat.le_of_ble_eq_true rfl) (Nat.le_of_ble_eq_true rfl) (Nat.le_of_ble_eq_true rfl) (Nat.le_of_ble_eq_true rfl) (bud_le (by decide)) (bud_le (by decide)) (fun _ _ h => False.elim h) (fun v9 w2 h3 => ?_)
  obtain ⟨hT5, v4, rfl, rv4⟩ := h3
  have hS5 := St.tr hS0 hT5 (by decide +kernel)
  have I5 := Cpt.cl I hT5 rfl rfl rfl
  refine rn_stk [.int v4] rfl ?_
  refine rn_istore dL_law_1251 (by decide) [(0, .ref G.2.2.2.2.1.1), (1, .ref ox), (2, .ref om), (3, .ref oo), (4, .int i), (5, .int v4)] rfl ?_
  refine rn_aload_n (i := 2) dL_law_1253 rfl rfl ?_
  refine rn_aload_n (i := 0) dL_law_1254 rfl rfl ?_
  refine rn_iload dL_law_1255 rfl ?_
  refine rn_iconst (v := (1 : Int32)) dL_law_1257 (by decide) ?_
  refine rs_addC (2) (5122) ri rk_1 dL_law_1258 (by decide) (fun v6 ev6 rv6 => ?_)
  refine rn_scl 1 ev6 ri hi (by decide) hs1 dL_law_1259 ?_
  obtain ⟨q7, fs7, hq7, hl7, hf7⟩ := ts_obj hS5.1 mm hk_30
  refine rn_callV (a := (a + 0)) (b := (b + 0)) [.int sc1] kl_SGLaw_189 dL_law_1260 q7 hl7 rfl (t_X10_ended G S w2 hS5.1 om mm sc1) rfl rfl (Nat.le_of_ble_eq_true rfl) (Nat.le_of_ble_eq_true rfl) (Nat.le_of_ble_eq_true rfl) (Nat.le_of_ble_eq_true rfl) (bud_le (by decide)) (bud_le (by decide)) (fun _ _ h => False.elim h) (fun v9 w8 h9 => ?_)
  obtain ⟨hT11, v10, rfl, rv10, fkh9⟩ := h9
  have hS11 := St.tr hS5 hT11 (by decide +kernel)
  have I11 := Cpt.rf I5 hT11 rfl rfl fkh9
  refine rn_stk [.int v10] rfl ?_
  refine rn_istore dL_law_1263 (by decide) [(0, .ref G.2.2.2.2.1.1), (1, .ref ox), (2, .ref om), (3, .ref oo), (4, .int i), (5, .int v4), (6, .int v10)] rfl ?_
  refine rn_goto (tgt := 1279) dL_law_1265 (by decide) ?_
  refine rn_lv [(0, .ref G.2.2.2.2.1.1), (1, .ref ox), (2, .ref om), (3, .ref oo), (4, .int i)] rfl ?_
  refine rn_room (d' := 9) (z' := 244) (a' := a) (b' := b) ?_ (Nat.le_refl _) (Nat.le_refl _) (Nat.le_add_right _ _) (Nat.le_add_right _ _)
  exact K _ _ hS11.1 (fun p hp => hS11.mem hp) I11
