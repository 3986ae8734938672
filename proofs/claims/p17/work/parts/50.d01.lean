set_option maxRecDepth 20000 in
set_option maxHeartbeats 4000000 in
theorem lc_0 (G : rn_G) (a b : Nat) (S : ts_S) (ws : va_W) (hW : ts_W G S ws) (ox om oo : Nat) (mx : (ox, 9) ∈ S) (mm : (om, 30) ∈ S) (mo : (oo, 21) ∈ S) (i : Int32) (ri : Rg 1 5121 i) (hi : i.toInt + 10 ≤ (G.2.2.2.2.1.2.1 : Int)) (I : Cpt S ws) (K : ∀ (S' : ts_S) (w : va_W), ts_W G S' w → (∀ p ∈ S, p ∈ S') → Cpt S' w → Rn G mL_law 9 244 a b 1279 [(0, .ref G.2.2.2.2.1.1), (1, .ref ox), (2, .ref om), (3, .ref oo), (4, .int i)] [] w (fun r _ => r = Sum.inl (some (.int 1)))) : Rn G mL_law 9 244 (a + 1) (b + 6) 164 [(0, .ref G.2.2.2.2.1.1), (1, .ref ox), (2, .ref om), (3, .ref oo), (4, .int i)] [] ws (fun r _ => r = Sum.inl (some (.int 1))) := by
  have hS0 : St G S [4, 11, 21, 30, 33] ws S ws := St.rf hW
  obtain ⟨sc1, hs1⟩ : ∃ x : Int32, G.2.2.2.2.1.2.2 (i.toInt.toNat + 1) = x := ⟨_, rfl⟩
  obtain ⟨sc2, hs2⟩ : ∃ x : Int32, G.2.2.2.2.1.2.2 (i.toInt.toNat + 2) = x := ⟨_, rfl⟩
  refine rn_aload_n (i := 1) dL_law_164 rfl rfl ?_
  refine rn_aload_n (i := 0) dL_law_165 rfl rfl ?_
  refine rn_iload dL_law_166 rfl ?_
  refine rn_iconst (v := (1 : Int32)) dL_law_168 (by decide) ?_
  refine rs_addC (2) (5122) ri rk_1 dL_law_169 (by decide) (fun v1 ev1 rv1 => ?_)
  refine rn_scl 1 ev1 ri hi (by decide) hs1 dL_law_170 ?_
  refine rn_i2l dL_law_171 rfl (rn_nmL (fun l2 => ?_))
  refine rn_bipush (v := (32 : Int32)) dL_law_172 (by decide) ?_
  refine rn_lshl dL_law_174 rfl (rn_nmL (fun l3 => ?_))
  refine rn_aload_n (i := 0) dL_law_175 rfl rfl ?_
  refine rn_iload dL_law_176 rfl ?_
  refine rn_iconst (v := (2 : Int32)) dL_law_178 (by decide) ?_
  refine rs_addC (3) (5123) ri rk_2 dL_law_179 (by decide) (fun v4 ev4 rv4 => ?_)
  refine rn_scl 2 ev4 ri hi (by decide) hs2 dL_law_180 ?_
  refine rn_i2l dL_law_181 rfl (rn_nmL (fun l5 => ?_))
  refine rn_ldc2 (v := (4294967295 : Int64)) wd_1561 dL_law_182 ?_
  refine rn_land dL_law_185 (rn_nmL (fun l6 => ?_))
  refine rn_lor dL_law_186 (rn_nmL (fun l7 => ?_))
  refine rn_aload_n (i := 3) dL_law_187 rfl rfl ?_
  refine rn_callSX (a := (a + 0)) (b := (b + 0)) [.ref ox, .long l7, .ref oo] kl_SGLaw_106 dL_law_188 (t_L_type G S ws hS0.1 ox mx l7 oo mo) rfl rfl (Nat.le_of_ble_eq_true rfl) (Nat.le_of_ble_eq_true rfl) (Nat.le_of_ble_eq_true rfl) (Nat.le_of_ble_eq_true rfl) (bud_le (by decide)) (bud_le (by decide)) (fun _ _ h => False.elim h) (fun v9 w8 h9 => ?_)
  obtain ⟨hT11, v10, rfl, rv10⟩ := h9
  have hS11 := St.tr hS0 hT11 (by decide +kernel)
  have I11 := Cpt.cl I hT11 rfl rfl rfl
  refine rn_stk [.int v10] rfl ?_
  refine rn_istore dL_law_191 (by decide) [(0, .ref G.2.2.2.2.1.1), (1, .ref ox), (2, .ref om), (3, .ref oo), (4, .int i), (5, .int v10)] rfl ?_
  refine rn_aload_n (i := 2) dL_law_193 rfl rfl ?_
  refine rn_aload_n (i := 0) dL_law_194 rfl rfl ?_
  refine rn_iload dL_law_195 rfl ?_
  refine rn_iconst (v := (1 : Int32)) dL_law_197 (by decide) ?_
  refine rs_addC (2) (5122) ri rk_1 dL_law_198 (by decide) (fun v12 ev12 rv12 => ?_)
  refine rn_scl 1 ev12 ri hi (by decide) hs1 dL_law_199 ?_
  refine rn_i2l dL_law_200 rfl (rn_nmL (fun l13 => ?_))
  refine rn_bipush (v := (32 : Int32)) dL_law_201 (by decide) ?_
  refine rn_lshl dL_law_203 rfl (rn_nmL (fun l14 => ?_))
  refine rn_aload_n (i := 0) dL_law_204 rfl rfl ?_
  refine rn_iload dL_law_205 rfl ?_
  refine rn_iconst (v := (2 : Int32)) dL_law_207 (by decide) ?_
  refine rs_addC (3) (5123) ri rk_2 dL_law_208 (by decide) (fun v15 ev15 rv15 => ?_)
  refine rn_scl 2 ev15 ri hi (by decide) hs2 dL_law_209 ?_
  refine rn_i2l dL_law_210 rfl (rn_nmL (fun l16 => ?_))
  refine rn_ldc2 (v := (4294967295 : Int64)) wd_1561 dL_law_211 ?_
  refine rn_land dL_law_214 (rn_nmL (fun l17 => ?_))
  refine rn_lor dL_law_215 (rn_nmL (fun l18 => ?_))
  obtain ⟨q19, fs19, hq19, hl19, hf19⟩ := ts_obj hS11.1 mm hk_30
  refine rn_callV (a := (a + 0)) (b := (b + 0)) [.long l18] kl_SGLaw_109 dL_law_216 q19 hl19 rfl (t_X10_type G S w8 hS11.1 om mm l18) rfl rfl (Nat.le_of_ble_eq_true rfl) (Nat.le_of_ble_eq_true rfl) (Nat.le_of_ble_eq_true rfl) (Nat.le_of_ble_eq_true rfl) (bud_le (by decide)) (bud_le (by decide)) (fun _ _ h => False.elim h) (fun v9 w20 h21 => ?_)
  obtain ⟨hT23, v22, rfl, rv22, fkh21⟩ := h21
  have hS23 := St.tr hS11 hT23 (by decide +kernel)
  have I23 := Cpt.rf I11 hT23 rfl rfl fkh21
  refine rn_stk [.int v22] rfl ?_
  refine rn_istore dL_law_219 (by decide) [(0, .ref G.2.2.2.2.1.1), (1, .ref ox), (2, .ref om), (3, .ref oo), (4, .int i), (5, .int v10), (6, .int v22)] rfl ?_
  refine rn_goto (tgt := 1279) dL_law_221 (by decide) ?_
  refine rn_lv [(0, .ref G.2.2.2.2.1.1), (1, .ref ox), (2, .ref om), (3, .ref oo), (4, .int i)] rfl ?_
  refine rn_room (d' := 9) (z' := 244) (a' := a) (b' := b) ?_ (Nat.le_refl _) (Nat.le_refl _) (Nat.le_add_right _ _) (Nat.le_add_right _ _)
  exact K _ _ hS23.1 (fun p hp => hS23.mem hp) I23
