set_option maxRecDepth 20000 in
set_option maxHeartbeats 4000000 in
theorem lc_18 (G : rn_G) (a b : Nat) (S : ts_S) (ws : va_W) (hW : ts_W G S ws) (ox om oo : Nat) (mx : (ox, 9) ∈ S) (mm : (om, 30) ∈ S) (mo : (oo, 21) ∈ S) (i : Int32) (ri : Rg 1 5121 i) (hi : i.toInt + 10 ≤ (G.2.2.2.2.1.2.1 : Int)) (I : Cpt S ws) (K : ∀ (S' : ts_S) (w : va_W), ts_W G S' w → (∀ p ∈ S, p ∈ S') → Cpt S' w → Rn G mL_law 9 244 a b 1279 [(0, .ref G.2.2.2.2.1.1), (1, .ref ox), (2, .ref om), (3, .ref oo), (4, .int i)] [] w (fun r _ => r = Sum.inl (some (.int 1)))) : Rn G mL_law 9 244 (a + 2) (b + 12) 1091 [(0, .ref G.2.2.2.2.1.1), (1, .ref ox), (2, .ref om), (3, .ref oo), (4, .int i)] [] ws (fun r _ => r = Sum.inl (some (.int 1))) := by
  have hS0 : St G S [21, 30] ws S ws := St.rf hW
  obtain ⟨sc1, hs1⟩ : ∃ x : Int32, G.2.2.2.2.1.2.2 (i.toInt.toNat + 1) = x := ⟨_, rfl⟩
  obtain ⟨sc2, hs2⟩ : ∃ x : Int32, G.2.2.2.2.1.2.2 (i.toInt.toNat + 2) = x := ⟨_, rfl⟩
  refine rn_aload_n (i := 1) dL_law_1091 rfl rfl ?_
  refine rn_aload_n (i := 0) dL_law_1092 rfl rfl ?_
  refine rn_iload dL_law_1093 rfl ?_
  refine rn_iconst (v := (1 : Int32)) dL_law_1095 (by decide) ?_
  refine rs_addC (2) (5122) ri rk_1 dL_law_1096 (by decide) (fun v1 ev1 rv1 => ?_)
  refine rn_scl 1 ev1 ri hi (by decide) hs1 dL_law_1097 ?_
  refine rn_aload_n (i := 0) dL_law_1098 rfl rfl ?_
  refine rn_iload dL_law_1099 rfl ?_
  refine rn_iconst (v := (2 : Int32)) dL_law_1101 (by decide) ?_
  refine rs_addC (3) (5123) ri rk_2 dL_law_1102 (by decide) (fun v2 ev2 rv2 => ?_)
  refine rn_scl 2 ev2 ri hi (by decide) hs2 dL_law_1103 ?_
  refine rn_aload_n (i := 3) dL_law_1104 rfl rfl ?_
  refine rn_callSX (a := (a + 0)) (b := (b + 0)) [.ref ox, .int sc1, .int sc2, .ref oo] kl_SGLaw_171 dL_law_1105 (t_L_told G S ws hS0.1 ox mx sc1 sc2 oo mo) rfl rfl (Nat.le_of_ble_eq_true rfl) (Nat.le_of_ble_eq_true rfl) (Nat.le_of_ble_eq_true rfl) (Nat.le_of_ble_eq_true rfl) (bud_le (by decide)) (bud_le (by decide)) (fun _ _ h => False.elim h) (fun v9 w3 h4 => ?_)
  obtain ⟨hT6, v5, rfl, rv5⟩ := h4
  have hS6 := St.tr hS0 hT6 (by decide +kernel)
  have I6 := Cpt.cl I hT6 rfl rfl rfl
  refine rn_stk [.int v5] rfl ?_
  refine rn_istore dL_law_1108 (by decide) [(0, .ref G.2.2.2.2.1.1), (1, .ref ox), (2, .ref om), (3, .ref oo), (4, .int i), (5, .int v5)] rfl ?_
  refine rn_aload_n (i := 2) dL_law_1110 rfl rfl ?_
  refine rn_aload_n (i := 0) dL_law_1111 rfl rfl ?_
  refine rn_iload dL_law_1112 rfl ?_
  refine rn_iconst (v := (1 : Int32)) dL_law_1114 (by decide) ?_
  refine rs_addC (2) (5122) ri rk_1 dL_law_1115 (by decide) (fun v7 ev7 rv7 => ?_)
  refine rn_scl 1 ev7 ri hi (by decide) hs1 dL_law_1116 ?_
  refine rn_aload_n (i := 0) dL_law_1117 rfl rfl ?_
  refine rn_iload dL_law_1118 rfl ?_
  refine rn_iconst (v := (2 : Int32)) dL_law_1120 (by decide) ?_
  refine rs_addC (3) (5123) ri rk_2 dL_law_1121 (by decide) (fun v8 ev8 rv8 => ?_)
  refine rn_scl 2 ev8 ri hi (by decide) hs2 dL_law_1122 ?_
  obtain ⟨q9, fs9, hq9, hl9, hf9⟩ := ts_obj hS6.1 mm hk_30
  refine rn_callV (a := (a + 0)) (b := (b + 0)) [.int sc1, .int sc2] kl_SGLaw_173 dL_law_1123 q9 hl9 rfl (t_X10_told G S w3 hS6.1 om mm sc1 sc2) rfl rfl (Nat.le_of_ble_eq_true rfl) (Nat.le_of_ble_eq_true rfl) (Nat.le_of_ble_eq_true rfl) (Nat.le_of_ble_eq_true rfl) (bud_le (by decide)) (bud_le (by decide)) (fun _ _ h => False.elim h) (fun v9 w10 h11 => ?_)
  obtain ⟨hT13, v12, rfl, rv12, fkh11⟩ := h11
  have hS13 := St.tr hS6 hT13 (by decide +kernel)
  have I13 := Cpt.rf I6 hT13 rfl rfl fkh11
  refine rn_stk [.int v12] rfl ?_
  refine rn_istore dL_law_1126 (by decide) [(0, .ref G.2.2.2.2.1.1), (1, .ref ox), (2, .ref om), (3, .ref oo), (4, .int i), (5, .int v5), (6, .int v12)] rfl ?_
  refine rn_goto (tgt := 1279) dL_law_1128 (by decide) ?_
  refine rn_lv [(0, .ref G.2.2.2.2.1.1), (1, .ref ox), (2, .ref om), (3, .ref oo), (4, .int i)] rfl ?_
  refine rn_room (d' := 9) (z' := 244) (a' := a) (b' := b) ?_ (Nat.le_refl _) (Nat.le_refl _) (Nat.le_add_right _ _) (Nat.le_add_right _ _)
  exact K _ _ hS13.1 (fun p hp => hS13.mem hp) I13
