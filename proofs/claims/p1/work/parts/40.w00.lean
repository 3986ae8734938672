set_option maxRecDepth 20000 in
set_option maxHeartbeats 4000000 in
theorem c_L_type (G : rn_G) (ws : va_W) (o_sg : Nat) (y : Int64) (o_out : Nat) (fs_sg : List Value) (o_tape : Nat) (fs_tape : List Value) (r_tape : Nat) (f_tape : Nat → Int32) (h_sg : ws[0]? = some (o_sg, Sum.inr (9, fs_sg))) (hf_sg_1 : fs_sg[1]? = some (.ref o_tape)) (h_tape : ws[1]? = some (o_tape, Sum.inr (4, fs_tape))) (hf_tape_0 : fs_tape[0]? = some (.ref r_tape)) (hf_tape_1 : fs_tape[1]? = some (.int (0 : Int32))) (h_taper : ws[2]? = some (r_tape, Sum.inl (rn_k G 0, 2040, Sum.inl f_tape))) (h_out : ws[62]? = some (o_out, Sum.inl (rn_k G 2, 1, Sum.inr (Sum.inl (fun _ => 0))))) : Rn G mL_type 4 90 0 0 0 (lv_args 0 [.ref o_sg, .long y, .ref o_out]) [] ws (fun r w => (((((0 : Int32) ≤ (8 : Int32)) ∧ (((¬ ((0 : Int32) < (0 : Int32)) ∧ ¬ (((if (2040 : Int32) < (8 : Int32) then (2040 : Int32) else (8 : Int32)) - (1 : Int32)) ≤ (0 : Int32))) ∧ (¬ (((0 : Int32) + (2 : Int32)) < (0 : Int32)) ∧ ¬ (((if (2040 : Int32) < (8 : Int32) then (2040 : Int32) else (8 : Int32)) - (1 : Int32)) ≤ ((0 : Int32) + (2 : Int32))))) ∧ ((¬ (((0 : Int32) + (4 : Int32)) < (0 : Int32)) ∧ ¬ (((if (2040 : Int32) < (8 : Int32) then (2040 : Int32) else (8 : Int32)) - (1 : Int32)) ≤ ((0 : Int32) + (4 : Int32)))) ∧ (¬ ((((0 : Int32) + (4 : Int32)) + (2 : Int32)) < (0 : Int32)) ∧ ¬ (((if (2040 : Int32) < (8 : Int32) then (2040 : Int32) else (8 : Int32)) - (1 : Int32)) ≤ (((0 : Int32) + (4 : Int32)) + (2 : Int32)))))))) ∧ r = Sum.inl (some (.int (0 : Int32))) ∧ w = ((((((((((ws.set 1 (o_tape, Sum.inr (4, (fs_tape.set 1 (.int (if (2040 : Int32) < (8 : Int32) then (2040 : Int32) else (8 : Int32))))))).set 2 (r_tape, Sum.inl (rn_k G 0, 2040, Sum.inl (upd f_tape ((0 : Int32)).toNatClampNeg (vp_nar .byte ((((((((y).toUInt64 >>> (((32 : Int32)).toInt64.toUInt64 &&& Int64.toUInt64 63)).toInt64).toInt32).toUInt32 >>> (((16 : Int32)).toUInt32 &&& Int32.toUInt32 31)).toInt32).toUInt32 >>> (((8 : Int32)).toUInt32 &&& Int32.toUInt32 31)).toInt32).toInt8.toInt32))))).set 2 (r_tape, Sum.inl (rn_k G 0, 2040, Sum.inl (upd (upd f_tape ((0 : Int32)).toNatClampNeg (vp_nar .byte ((((((((y).toUInt64 >>> (((32 : Int32)).toInt64.toUInt64 &&& Int64.toUInt64 63)).toInt64).toInt32).toUInt32 >>> (((16 : Int32)).toUInt32 &&& Int32.toUInt32 31)).toInt32).toUInt32 >>> (((8 : Int32)).toUInt32 &&& Int32.toUInt32 31)).toInt32).toInt8.toInt32)) (((0 : Int32) + (1 : Int32))).toNatClampNeg (vp_nar .byte ((((((y).toUInt64 >>> (((32 : Int32)).toInt64.toUInt64 &&& Int64.toUInt64 63)).toInt64).toInt32).toUInt32 >>> (((16 : Int32)).toUInt32 &&& Int32.toUInt32 31)).toInt32).toInt8.toInt32))))).set 2 (r_tape, Sum.inl (rn_k G 0, 2040, Sum.inl (upd (upd (upd f_tape ((0 : Int32)).toNatClampNeg (vp_nar .byte ((((((((y).toUInt64 >>> (((32 : Int32)).toInt64.toUInt64 &&& Int64.toUInt64 63)).toInt64).toInt32).toUInt32 >>> (((16 : Int32)).toUInt32 &&& Int32.toUInt32 31)).toInt32).toUInt32 >>> (((8 : Int32)).toUInt32 &&& Int32.toUInt32 31)).toInt32).toInt8.toInt32)) (((0 : Int32) + (1 : Int32))).toNatClampNeg (vp_nar .byte ((((((y).toUInt64 >>> (((32 : Int32)).toInt64.toUInt64 &&& Int64.toUInt64 63)).toInt64).toInt32).toUInt32 >>> (((16 : Int32)).toUInt32 &&& Int32.toUInt32 31)).toInt32).toInt8.toInt32)) (((0 : Int32) + (2 : Int32))).toNatClampNeg (vp_nar .byte ((((((y).toUInt64 >>> (((32 : Int32)).toInt64.toUInt64 &&& Int64.toUInt64 63)).toInt64).toInt32).toUInt32 >>> (((8 : Int32)).toUInt32 &&& Int32.toUInt32 31)).toInt32).toInt8.toInt32))))).set 2 (r_tape, Sum.inl (rn_k G 0, 2040, Sum.inl (upd (upd (upd (upd f_tape ((0 : Int32)).toNatClampNeg (vp_nar .byte ((((((((y).toUInt64 >>> (((32 : Int32)).toInt64.toUInt64 &&& Int64.toUInt64 63)).toInt64).toInt32).toUInt32 >>> (((16 : Int32)).toUInt32 &&& Int32.toUInt32 31)).toInt32).toUInt32 >>> (((8 : Int32)).toUInt32 &&& Int32.toUInt32 31)).toInt32).toInt8.toInt32)) (((0 : Int32) + (1 : Int32))).toNatClampNeg (vp_nar .byte ((((((y).toUInt64 >>> (((32 : Int32)).toInt64.toUInt64 &&& Int64.toUInt64 63)).toInt64).toInt32).toUInt32 >>> (((16 : Int32)).toUInt32 &&& Int32.toUInt32 31)).toInt32).toInt8.toInt32)) (((0 : Int32) + (2 : Int32))).toNatClampNeg (vp_nar .byte ((((((y).toUInt64 >>> (((32 : Int32)).toInt64.toUInt64 &&& Int64.toUInt64 63)).toInt64).toInt32).toUInt32 >>> (((8 : Int32)).toUInt32 &&& Int32.toUInt32 31)).toInt32).toInt8.toInt32)) ((((0 : Int32) + (2 : Int32)) + (1 : Int32))).toNatClampNeg (vp_nar .byte ((((y).toUInt64 >>> (((32 : Int32)).toInt64.toUInt64 &&& Int64.toUInt64 63)).toInt64).toInt32).toInt8.toInt32))))).set 2 (r_tape, Sum.inl (rn_k G 0, 2040, Sum.inl (upd (upd (upd (upd (upd f_tape ((0 : Int32)).toNatClampNeg (vp_nar .byte ((((((((y).toUInt64 >>> (((32 : Int32)).toInt64.toUInt64 &&& Int64.toUInt64 63)).toInt64).toInt32).toUInt32 >>> (((16 : Int32)).toUInt32 &&& Int32.toUInt32 31)).toInt32).toUInt32 >>> (((8 : Int32)).toUInt32 &&& Int32.toUInt32 31)).toInt32).toInt8.toInt32)) (((0 : Int32) + (1 : Int32))).toNatClampNeg (vp_nar .byte ((((((y).toUInt64 >>> (((32 : Int32)).toInt64.toUInt64 &&& Int64.toUInt64 63)).toInt64).toInt32).toUInt32 >>> (((16 : Int32)).toUInt32 &&& Int32.toUInt32 31)).toInt32).toInt8.toInt32)) (((0 : Int32) + (2 : Int32))).toNatClampNeg (vp_nar .byte ((((((y).toUInt64 >>> (((32 : Int32)).toInt64.toUInt64 &&& Int64.toUInt64 63)).toInt64).toInt32).toUInt32 >>> (((8 : Int32)).toUInt32 &&& Int32.toUInt32 31)).toInt32).toInt8.toInt32)) ((((0 : Int32) + (2 : Int32)) + (1 : Int32))).toNatClampNeg (vp_nar .byte ((((y).toUInt64 >>> (((32 : Int32)).toInt64.toUInt64 &&& Int64.toUInt64 63)).toInt64).toInt32).toInt8.toInt32)) (((0 : Int32) + (4 : Int32))).toNatClampNeg (vp_nar .byte ((((((y).toInt32).toUInt32 >>> (((16 : Int32)).toUInt32 &&& Int32.toUInt32 31)).toInt32).toUInt32 >>> (((8 : Int32)).toUInt32 &&& Int32.toUInt32 31)).toInt32).toInt8.toInt32))))).set 2 (r_tape, Sum.inl (rn_k G 0, 2040, Sum.inl (upd (upd (upd (upd (upd (upd f_tape ((0 : Int32)).toNatClampNeg (vp_nar .byte ((((((((y).toUInt64 >>> (((32 : Int32)).toInt64.toUInt64 &&& Int64.toUInt64 63)).toInt64).toInt32).toUInt32 >>> (((16 : Int32)).toUInt32 &&& Int32.toUInt32 31)).toInt32).toUInt32 >>> (((8 : Int32)).toUInt32 &&& Int32.toUInt32 31)).toInt32).toInt8.toInt32)) (((0 : Int32) + (1 : Int32))).toNatClampNeg (vp_nar .byte ((((((y).toUInt64 >>> (((32 : Int32)).toInt64.toUInt64 &&& Int64.toUInt64 63)).toInt64).toInt32).toUInt32 >>> (((16 : Int32)).toUInt32 &&& Int32.toUInt32 31)).toInt32).toInt8.toInt32)) (((0 : Int32) + (2 : Int32))).toNatClampNeg (vp_nar .byte ((((((y).toUInt64 >>> (((32 : Int32)).toInt64.toUInt64 &&& Int64.toUInt64 63)).toInt64).toInt32).toUInt32 >>> (((8 : Int32)).toUInt32 &&& Int32.toUInt32 31)).toInt32).toInt8.toInt32)) ((((0 : Int32) + (2 : Int32)) + (1 : Int32))).toNatClampNeg (vp_nar .byte ((((y).toUInt64 >>> (((32 : Int32)).toInt64.toUInt64 &&& Int64.toUInt64 63)).toInt64).toInt32).toInt8.toInt32)) (((0 : Int32) + (4 : Int32))).toNatClampNeg (vp_nar .byte ((((((y).toInt32).toUInt32 >>> (((16 : Int32)).toUInt32 &&& Int32.toUInt32 31)).toInt32).toUInt32 >>> (((8 : Int32)).toUInt32 &&& Int32.toUInt32 31)).toInt32).toInt8.toInt32)) ((((0 : Int32) + (4 : Int32)) + (1 : Int32))).toNatClampNeg (vp_nar .byte ((((y).toInt32).toUInt32 >>> (((16 : Int32)).toUInt32 &&& Int32.toUInt32 31)).toInt32).toInt8.toInt32))))).set 2 (r_tape, Sum.inl (rn_k G 0, 2040, Sum.inl (upd (upd (upd (upd (upd (upd (upd f_tape ((0 : Int32)).toNatClampNeg (vp_nar .byte ((((((((y).toUInt64 >>> (((32 : Int32)).toInt64.toUInt64 &&& Int64.toUInt64 63)).toInt64).toInt32).toUInt32 >>> (((16 : Int32)).toUInt32 &&& Int32.toUInt32 31)).toInt32).toUInt32 >>> (((8 : Int32)).toUInt32 &&& Int32.toUInt32 31)).toInt32).toInt8.toInt32)) (((0 : Int32) + (1 : Int32))).toNatClampNeg (vp_nar .byte ((((((y).toUInt64 >>> (((32 : Int32)).toInt64.toUInt64 &&& Int64.toUInt64 63)).toInt64).toInt32).toUInt32 >>> (((16 : Int32)).toUInt32 &&& Int32.toUInt32 31)).toInt32).toInt8.toInt32)) (((0 : Int32) + (2 : Int32))).toNatClampNeg (vp_nar .byte ((((((y).toUInt64 >>> (((32 : Int32)).toInt64.toUInt64 &&& Int64.toUInt64 63)).toInt64).toInt32).toUInt32 >>> (((8 : Int32)).toUInt32 &&& Int32.toUInt32 31)).toInt32).toInt8.toInt32)) ((((0 : Int32) + (2 : Int32)) + (1 : Int32))).toNatClampNeg (vp_nar .byte ((((y).toUInt64 >>> (((32 : Int32)).toInt64.toUInt64 &&& Int64.toUInt64 63)).toInt64).toInt32).toInt8.toInt32)) (((0 : Int32) + (4 : Int32))).toNatClampNeg (vp_nar .byte ((((((y).toInt32).toUInt32 >>> (((16 : Int32)).toUInt32 &&& Int32.toUInt32 31)).toInt32).toUInt32 >>> (((8 : Int32)).toUInt32 &&& Int32.toUInt32 31)).toInt32).toInt8.toInt32)) ((((0 : Int32) + (4 : Int32)) + (1 : Int32))).toNatClampNeg (vp_nar .byte ((((y).toInt32).toUInt32 >>> (((16 : Int32)).toUInt32 &&& Int32.toUInt32 31)).toInt32).toInt8.toInt32)) ((((0 : Int32) + (4 : Int32)) + (2 : Int32))).toNatClampNeg (vp_nar .byte ((((y).toInt32).toUInt32 >>> (((8 : Int32)).toUInt32 &&& Int32.toUInt32 31)).toInt32).toInt8.toInt32))))).set 2 (r_tape, Sum.inl (rn_k G 0, 2040, Sum.inl (upd (upd (upd (upd (upd (upd (upd (upd f_tape ((0 : Int32)).toNatClampNeg (vp_nar .byte ((((((((y).toUInt64 >>> (((32 : Int32)).toInt64.toUInt64 &&& Int64.toUInt64 63)).toInt64).toInt32).toUInt32 >>> (((16 : Int32)).toUInt32 &&& Int32.toUInt32 31)).toInt32).toUInt32 >>> (((8 : Int32)).toUInt32 &&& Int32.toUInt32 31)).toInt32).toInt8.toInt32)) (((0 : Int32) + (1 : Int32))).toNatClampNeg (vp_nar .byte ((((((y).toUInt64 >>> (((32 : Int32)).toInt64.toUInt64 &&& Int64.toUInt64 63)).toInt64).toInt32).toUInt32 >>> (((16 : Int32)).toUInt32 &&& Int32.toUInt32 31)).toInt32).toInt8.toInt32)) (((0 : Int32) + (2 : Int32))).toNatClampNeg (vp_nar .byte ((((((y).toUInt64 >>> (((32 : Int32)).toInt64.toUInt64 &&& Int64.toUInt64 63)).toInt64).toInt32).toUInt32 >>> (((8 : Int32)).toUInt32 &&& Int32.toUInt32 31)).toInt32).toInt8.toInt32)) ((((0 : Int32) + (2 : Int32)) + (1 : Int32))).toNatClampNeg (vp_nar .byte ((((y).toUInt64 >>> (((32 : Int32)).toInt64.toUInt64 &&& Int64.toUInt64 63)).toInt64).toInt32).toInt8.toInt32)) (((0 : Int32) + (4 : Int32))).toNatClampNeg (vp_nar .byte ((((((y).toInt32).toUInt32 >>> (((16 : Int32)).toUInt32 &&& Int32.toUInt32 31)).toInt32).toUInt32 >>> (((8 : Int32)).toUInt32 &&& Int32.toUInt32 31)).toInt32).toInt8.toInt32)) ((((0 : Int32) + (4 : Int32)) + (1 : Int32))).toNatClampNeg (vp_nar .byte ((((y).toInt32).toUInt32 >>> (((16 : Int32)).toUInt32 &&& Int32.toUInt32 31)).toInt32).toInt8.toInt32)) ((((0 : Int32) + (4 : Int32)) + (2 : Int32))).toNatClampNeg (vp_nar .byte ((((y).toInt32).toUInt32 >>> (((8 : Int32)).toUInt32 &&& Int32.toUInt32 31)).toInt32).toInt8.toInt32)) (((((0 : Int32) + (4 : Int32)) + (2 : Int32)) + (1 : Int32))).toNatClampNeg (vp_nar .byte ((y).toInt32).toInt8.toInt32))))).set 62 (o_out, Sum.inl (rn_k G 2, 1, Sum.inr (Sum.inl (vp_updL (fun _ => 0) ((0 : Int32)).toNatClampNeg (8 : Int64)))))))) := by
  refine rn_lv [(0, .ref o_sg), (1, .long y), (3, .ref o_out)] rfl ?_
  refine rn_aload_n (i := 3) dL_type_0 rfl rfl ?_
  refine rn_iconst (v := (0 : Int32)) dL_type_1 (by decide) ?_
  refine rn_aload_n (i := 0) dL_type_2 rfl rfl ?_
  refine rn_lload_n (i := 1) dL_type_3 rfl rfl ?_
  refine rn_callV (a := 0) (b := 0) [.long y] kl_SGLaw_7 dL_type_4 0 h_sg rfl (c_X9_type G _ (o_sg := o_sg) (y := y) (fs_sg := fs_sg) (o_tape := o_tape) (fs_tape := fs_tape) (r_tape := r_tape) (f_tape := f_tape) h_sg hf_sg_1 h_tape hf_tape_0 hf_tape_1 h_taper) rfl rfl (Nat.le_of_ble_eq_true rfl) (Nat.le_of_ble_eq_true rfl) (Nat.le_of_ble_eq_true rfl) (Nat.le_of_ble_eq_true rfl) (Nat.le_of_ble_eq_true rfl) (Nat.le_of_ble_eq_true rfl) (by rintro E w h; rcases h with ⟨_, hr, _⟩ <;> cases hr) ?_
  rintro v w h
  obtain ⟨hc1, hr, hw⟩ := h; cases hr; subst hw
  refine rn_stk [.int (if (2040 : Int32) < (8 : Int32) then (2040 : Int32) else (8 : Int32)), .int (0 : Int32), .ref o_out] rfl ?_
  refine rn_i2l dL_type_7 rfl ?_
  refine rn_topl (8 : Int64) (by decide) ?_
  refine rn_last 62 2 (ls_ne (by decide) (ls_ne (by decide) (ls_ne (by decide) (ls_ne (by decide) (ls_ne (by decide) (ls_ne (by decide) (ls_ne (by decide) (ls_ne (by decide) (ls_ne (by decide) h_out))))))))) rfl (by unfold vp_in; decide) dL_type_8 ?_
  refine rn_goto (tgt := 16) dL_type_9 (by decide) ?_
  refine rn_iconst (v := (0 : Int32)) dL_type_16 (by decide) ?_
  exact rn_iret dL_type_17 rfl rfl ⟨hc1, rfl, rfl⟩
set_option maxRecDepth 20000 in
set_option maxHeartbeats 4000000 in
theorem c_L_keep (G : rn_G) (ws : va_W) (o_sg : Nat) (x : Int32) (fs_sg : List Value) (o_tape : Nat) (fs_tape : List Value) (h_sg : ws[0]? = some (o_sg, Sum.inr (9, fs_sg))) (hf_sg_1 : fs_sg[1]? = some (.ref o_tape)) (h_tape : ws[1]? = some (o_tape, Sum.inr (4, fs_tape))) (hf_tape_1 : fs_tape[1]? = some (.int (0 : Int32))) : Rn G mL_keep 7 111 1 6 0 (lv_args 0 [.ref o_sg, .int x]) [] ws (fun r w => ((((x < (0 : Int32)) ∨ (¬ (x < (0 : Int32)) ∧ ¬ (x ≤ (0 : Int32))))) ∧ r = Sum.inl (some (.int (1 : Int32))) ∧ w = ws) ∨ (((¬ (x < (0 : Int32)) ∧ x ≤ (0 : Int32) ∧ ((0 : Int32) ≤ x))) ∧ r = Sum.inl (some (.int (0 : Int32))) ∧ w = (ws.set 1 (o_tape, Sum.inr (4, (fs_tape.set 1 (.int (if (2040 : Int32) < x then (2040 : Int32) else x)))))))) := by
  refine rn_lv [(0, .ref o_sg), (1, .int x)] rfl ?_
  refine rn_aload_n (i := 0) dL_keep_0 rfl rfl ?_
  refine rn_iload_n (i := 1) dL_keep_1 rfl rfl ?_
  refine rn_callV (a := 0) (b := 0) [.int x] kl_SGLaw_15 dL_keep_2 0 h_sg rfl (c_X9_keep G _ (o_sg := o_sg) (n := x) (fs_sg := fs_sg) (o_tape := o_tape) (fs_tape := fs_tape) h_sg hf_sg_1 h_tape hf_tape_1) rfl rfl (Nat.le_of_ble_eq_true rfl) (Nat.le_of_ble_eq_true rfl) (Nat.le_of_ble_eq_true rfl) (Nat.le_of_ble_eq_true rfl) (Nat.le_of_ble_eq_true rfl) (Nat.le_of_ble_eq_true rfl) ?_ ?_
  · rintro E w h
    rcases h with ⟨hc, hr, hw⟩ | ⟨hc, hr, hw⟩
    · have hc1 := hc; clear hc; cases hr; subst hw
      refine rnx_catch [] ⟨0, 5, 8, 19⟩ [] rfl (fun y hy => nomatch hy) (by decide) (by decide) wd_334 wd_341 (fun q2 => ?_)
      refine rn_astore_n dL_keep_8 rfl (by decide) [(0, .ref o_sg), (1, .int x), (2, .ref q2)] rfl ?_
      refine rn_iconst (v := (1 : Int32)) dL_keep_9 (by decide) ?_
      exact rn_iret dL_keep_10 rfl rfl (Or.inl ⟨hc1, rfl, rfl⟩)
    · cases hr
  · rintro v w h
    rcases h with ⟨hc, hr, hw⟩ | ⟨hc, hr, hw⟩
    · cases hr
    · have hc3 := hc; clear hc; cases hr; subst hw
      refine rn_stk [] rfl ?_
      refine rn_goto (tgt := 11) dL_keep_5 (by decide) ?_
      refine rn_iconst (v := (0 : Int32)) dL_keep_11 (by decide) ?_
      exact rn_iret dL_keep_12 rfl rfl (Or.inr ⟨hc3, rfl, rfl⟩)
set_option maxRecDepth 20000 in
set_option maxHeartbeats 4000000 in
theorem c_L_poke (G : rn_G) (ws : va_W) (o_sg : Nat) (x : Int32) (y : Int32) (o_out : Nat) (fs_sg : List Value) (o_tape : Nat) (fs_tape : List Value) (h_sg : ws[0]? = some (o_sg, Sum.inr (9, fs_sg))) (hf_sg_1 : fs_sg[1]? = some (.ref o_tape)) (h_tape : ws[1]? = some (o_tape, Sum.inr (4, fs_tape))) (hf_tape_1 : fs_tape[1]? = some (.int (0 : Int32))) : Rn G mL_poke 8 134 1 6 0 (lv_args 0 [.ref o_sg, .int x, .int y, .ref o_out]) [] ws (fun r w => (((((x < (0 : Int32)) ∨ (¬ (x < (0 : Int32)) ∧ ¬ (x < (0 : Int32)))))) ∧ r = Sum.inl (some (.int (1 : Int32))) ∧ w = ws)) := by
  refine rn_lv [(0, .ref o_sg), (1, .int x), (2, .int y), (3, .ref o_out)] rfl ?_
  refine rn_aload_n (i := 3) dL_poke_0 rfl rfl ?_
  refine rn_iconst (v := (0 : Int32)) dL_poke_1 (by decide) ?_
  refine rn_aload_n (i := 0) dL_poke_2 rfl rfl ?_
  refine rn_iload_n (i := 1) dL_poke_3 rfl rfl ?_
  refine rn_iload_n (i := 2) dL_poke_4 rfl rfl ?_
  refine rn_callV (a := 0) (b := 0) [.int x, .int y] kl_SGLaw_21 dL_poke_5 0 h_sg rfl (c_X9_poke G _ (o_sg := o_sg) (k := x) (x := y) (fs_sg := fs_sg) (o_tape := o_tape) (fs_tape := fs_tape) h_sg hf_sg_1 h_tape hf_tape_1) rfl rfl (Nat.le_of_ble_eq_true rfl) (Nat.le_of_ble_eq_true rfl) (Nat.le_of_ble_eq_true rfl) (Nat.le_of_ble_eq_true rfl) (Nat.le_of_ble_eq_true rfl) (Nat.le_of_ble_eq_true rfl) ?_ ?_
  · rintro E w h
    rcases h with ⟨hc, hr, hw⟩
    · have hc1 := hc; clear hc; cases hr; subst hw
      refine rnx_catch [] ⟨0, 10, 13, 25⟩ [⟨0, 10, 17, 19⟩] rfl (fun y hy => nomatch hy) (by decide) (by decide) wd_358 wd_369 (fun q2 => ?_)
      refine rn_astore dL_poke_13 (by decide) [(0, .ref o_sg), (1, .int x), (2, .int y), (3, .ref o_out), (4, .ref q2)] rfl ?_
      refine rn_iconst (v := (1 : Int32)) dL_poke_15 (by decide) ?_
      exact rn_iret dL_poke_16 rfl rfl ⟨hc1, rfl, rfl⟩
  · rintro v w h
    obtain ⟨_, hr, _⟩ := h; cases hr
set_option maxRecDepth 20000 in
set_option maxHeartbeats 4000000 in
theorem c_L_at (G : rn_G) (ws : va_W) (o_sg : Nat) (x : Int32) (o_out : Nat) (fs_sg : List Value) (o_tape : Nat) (fs_tape : List Value) (h_sg : ws[0]? = some (o_sg, Sum.inr (9, fs_sg))) (hf_sg_1 : fs_sg[1]? = some (.ref o_tape)) (h_tape : ws[1]? = some (o_tape, Sum.inr (4, fs_tape))) (hf_tape_1 : fs_tape[1]? = some (.int (0 : Int32))) : Rn G mL_at 7 111 1 6 0 (lv_args 0 [.ref o_sg, .int x, .ref o_out]) [] ws (fun r w => ((((x < (0 : Int32)) ∨ (¬ (x < (0 : Int32)) ∧ ¬ (x < (0 : Int32))))) ∧ r = Sum.inl (some (.int (1 : Int32))) ∧ w = ws)) := by
  refine rn_lv [(0, .ref o_sg), (1, .int x), (2, .ref o_out)] rfl ?_
  refine rn_aload_n (i := 2) dL_at_0 rfl rfl ?_
  refine rn_iconst (v := (0 : Int32)) dL_at_1 (by decide) ?_
  refine rn_aload_n (i := 0) dL_at_2 rfl rfl ?_
  refine rn_iload_n (i := 1) dL_at_3 rfl rfl ?_
  refine rn_callV (a := 0) (b := 0) [.int x] kl_SGLaw_27 dL_at_4 0 h_sg rfl (c_X9_at G _ (o_sg := o_sg) (k := x) (fs_sg := fs_sg) (o_tape := o_tape) (fs_tape := fs_tape) h_sg hf_sg_1 h_tape hf_tape_1) rfl rfl (Nat.le_of_ble_eq_true rfl) (Nat.le_of_ble_eq_true rfl) (Nat.le_of_ble_eq_true rfl) (Nat.le_of_ble_eq_true rfl) (Nat.le_of_ble_eq_true rfl) (Nat.le_of_ble_eq_true rfl) ?_ ?_
  · rintro E w h
    rcases h with ⟨hc, hr, hw⟩
    · have hc1 := hc; clear hc; cases hr; subst hw
      refine rnx_catch [] ⟨0, 9, 12, 25⟩ [] rfl (fun y hy => nomatch hy) (by decide) (by decide) wd_358 wd_369 (fun q2 => ?_)
      refine rn_astore_n dL_at_12 rfl (by decide) [(0, .ref o_sg), (1, .int x), (2, .ref o_out), (3, .ref q2)] rfl ?_
      refine rn_iconst (v := (1 : Int32)) dL_at_13 (by decide) ?_
      exact rn_iret dL_at_14 rfl rfl ⟨hc1, rfl, rfl⟩
  · rintro v w h
    obtain ⟨_, hr, _⟩ := h; cases hr
set_option maxRecDepth 20000 in
set_option maxHeartbeats 4000000 in
theorem c_L_sum (G : rn_G) (ws : va_W) (o_sg : Nat) (o_out : Nat) (fs_sg : List Value) (o_tape : Nat) (fs_tape : List Value) (h_sg : ws[0]? = some (o_sg, Sum.inr (9, fs_sg))) (hf_sg_1 : fs_sg[1]? = some (.ref o_tape)) (h_tape : ws[1]? = some (o_tape, Sum.inr (4, fs_tape))) (hf_tape_1 : fs_tape[1]? = some (.int (0 : Int32))) : Rn G mL_sum 7 110 1 6 0 (lv_args 0 [.ref o_sg, .ref o_out]) [] ws (fun r w => (True ∧ r = Sum.inl (some (.int (1 : Int32))) ∧ w = ws)) := by
  refine rn_lv [(0, .ref o_sg), (1, .ref o_out)] rfl ?_
  refine rn_aload_n (i := 1) dL_sum_0 rfl rfl ?_
  refine rn_iconst (v := (0 : Int32)) dL_sum_1 (by decide) ?_
  refine rn_aload_n (i := 0) dL_sum_2 rfl rfl ?_
  refine rn_callV (a := 0) (b := 0) [] kl_SGLaw_35 dL_sum_3 0 h_sg rfl (c_X9_sum G _ (o_sg := o_sg) (fs_sg := fs_sg) (o_tape := o_tape) (fs_tape := fs_tape) h_sg hf_sg_1 h_tape hf_tape_1) rfl rfl (Nat.le_of_ble_eq_true rfl) (Nat.le_of_ble_eq_true rfl) (Nat.le_of_ble_eq_true rfl) (Nat.le_of_ble_eq_true rfl) (Nat.le_of_ble_eq_true rfl) (Nat.le_of_ble_eq_true rfl) ?_ ?_
  · rintro E w h
    rcases h with ⟨hc, hr, hw⟩
    · have hc1 := hc; clear hc; cases hr; subst hw
      refine rnx_catch [] ⟨0, 8, 11, 13⟩ [] rfl (fun y hy => nomatch hy) (by decide) (by decide) wd_243 wd_254 (fun q2 => ?_)
      refine rn_astore_n dL_sum_11 rfl (by decide) [(0, .ref o_sg), (1, .ref o_out), (2, .ref q2)] rfl ?_
      refine rn_iconst (v := (1 : Int32)) dL_sum_12 (by decide) ?_
      exact rn_iret dL_sum_13 rfl rfl ⟨trivial, rfl, rfl⟩
  · rintro v w h
    obtain ⟨_, hr, _⟩ := h; cases hr
set_option maxRecDepth 20000 in
set_option maxHeartbeats 4000000 in
theorem c_L_route (G : rn_G) (ws : va_W) (o_sg : Nat) (x : Int32) (y : Int32) (u : Int32) (o_out : Nat) (fs_sg : List Value) (o_routes : Nat) (o_nets : Nat) (o_ports : Nat) (fs_routes : List Value) (L : Nat) (h_sg : ws[0]? = some (o_sg, Sum.inr (9, fs_sg))) (hf_sg_7 : fs_sg[7]? = some (.ref o_routes)) (h_nets : ws[12]? = some (o_nets, Sum.inl (rn_k G 4, 16, Sum.inr (Sum.inr (Sum.inr (Sum.inr (fun _ => none))))))) (h_ports : ws[13]? = some (o_ports, Sum.inl (rn_k G 1, 16, Sum.inl (fun _ => 0)))) (h_routes : ws[11]? = some (o_routes, Sum.inr (7, fs_routes))) (hf_routes_0 : fs_routes[0]? = some (.ref o_nets)) (hf_routes_1 : fs_routes[1]? = some (.ref o_ports)) (hf_routes_2 : fs_routes[2]? = some (.int (0 : Int32))) (h_out : ws[62]? = some (o_out, Sum.inl (rn_k G 2, 1, Sum.inr (Sum.inl (fun _ => 0))))) (hne_L_11 : L ≠ 11) (hne_L_12 : L ≠ 12) (hne_L_13 : L ≠ 13) (hne_L_62 : L ≠ 62) (hlen : ws.length = L) : Rn G mL_route 7 113 1 6 0 (lv_args 0 [.ref o_sg, .int x, .int y, .int u, .ref o_out]) [] ws (fun r w => ((((((y < (0 : Int32)) ∨ (¬ (y < (0 : Int32)) ∧ (32 : Int32) < y))) ∨ ((¬ (y < (0 : Int32)) ∧ ¬ ((32 : Int32) < y)) ∧ (¬ (u = (0 : Int32)) ∧ ¬ (u = (1 : Int32)))))) ∧ r = Sum.inl (some (.int (1 : Int32))) ∧ w = ws) ∨ (∃ q1 : Nat, (((¬ (y < (0 : Int32)) ∧ ¬ ((32 : Int32) < y)) ∧ ((u = (0 : Int32)) ∨ (¬ (u = (0 : Int32)) ∧ u = (1 : Int32))))) ∧ r = Sum.inl (some (.int (0 : Int32))) ∧ w = (((((((ws ++ [(q1, Sum.inr (3, fs0_3))]).set L (q1, Sum.inr (3, (fs0_3.set 0 (.int x))))).set L (q1, Sum.inr (3, ((fs0_3.set 0 (.int x)).set 1 (.int y))))).set 12 (o_nets, Sum.inl (rn_k G 4, 16, Sum.inr (Sum.inr (Sum.inr (Sum.inr (va_up (fun _ => none) ((0 : Int32)).toNatClampNeg (some q1)))))))).set 13 (o_ports, Sum.inl (rn_k G 1, 16, Sum.inl (upd (fun _ => 0) ((0 : Int32)).toNatClampNeg u)))).set 11 (o_routes, Sum.inr (7, (fs_routes.set 2 (.int (1 : Int32)))))).set 62 (o_out, Sum.inl (rn_k G 2, 1, Sum.inr (Sum.inl (vp_updL (fun _ => 0) ((0 : Int32)).toNatClampNeg (1 : Int64)))))))) := by
  refine rn_lv [(0, .ref o_sg), (1, .int x), (2, .int y), (3, .int u), (4, .ref o_out)] rfl ?_
  refine rn_aload dL_route_0 rfl ?_
  refine rn_iconst (v := (0 : Int32)) dL_route_2 (by decide) ?_
  refine rn_aload_n (i := 0) dL_route_3 rfl rfl ?_
  refine rn_iload_n (i := 1) dL_route_4 rfl rfl ?_
  refine rn_iload_n (i := 2) dL_route_5 rfl rfl ?_
  refine rn_iload_n (i := 3) dL_route_6 rfl rfl ?_
  refine rn_callV (a := 0) (b := 0) [.int x, .int y, .int u] kl_SGLaw_39 dL_route_7 0 h_sg rfl (c_X9_route G _ (o_sg := o_sg) (x := x) (y := y) (u := u) (fs_sg := fs_sg) (o_routes := o_routes) (o_nets := o_nets) (o_ports := o_ports) (fs_routes := fs_routes) (L := L) h_sg hf_sg_7 h_nets h_ports h_routes hf_routes_0 hf_routes_1 hf_routes_2 hne_L_11 hne_L_12 hne_L_13 hlen) rfl rfl (Nat.le_of_ble_eq_true rfl) (Nat.le_of_ble_eq_true rfl) (Nat.le_of_ble_eq_true rfl) (Nat.le_of_ble_eq_true rfl) (Nat.le_of_ble_eq_true rfl) (Nat.le_of_ble_eq_true rfl) ?_ ?_
  · rintro E w h
    rcases h with ⟨hc, hr, hw⟩ | ⟨q1, hc, hr, hw⟩
    · have hc2 := hc; clear hc; cases hr; subst hw
      refine rnx_catch [] ⟨0, 12, 15, 19⟩ [⟨0, 12, 19, 13⟩] rfl (fun y hy => nomatch hy) (by decide) (by decide) wd_334 wd_341 (fun q3 => ?_)
      refine rn_astore dL_route_15 (by decide) [(0, .ref o_sg), (1, .int x), (2, .int y), (3, .int u), (4, .ref o_out), (5, .ref q3)] rfl ?_
      refine rn_iconst (v := (1 : Int32)) dL_route_17 (by decide) ?_
      exact rn_iret dL_route_18 rfl rfl (Or.inl ⟨hc2, rfl, rfl⟩)
    · cases hr
  · rintro v w h
    rcases h with ⟨hc, hr, hw⟩ | ⟨q1, hc, hr, hw⟩
    · cases hr
    · have hc4 := hc; clear hc; cases hr; subst hw
      refine rn_stk [.int (1 : Int32), .int (0 : Int32), .ref o_out] rfl ?_
      refine rn_i2l dL_route_10 rfl ?_
      refine rn_topl (1 : Int64) (by decide) ?_
      refine rn_last 62 2 (ls_ne (by decide) (ls_ne (by decide) (ls_ne (by decide) (ls_ne hne_L_62 (ls_ne hne_L_62 (la_old h_out)))))) rfl (by unfold vp_in; decide) dL_route_11 ?_
      refine rn_goto (tgt := 23) dL_route_12 (by decide) ?_
      refine rn_iconst (v := (0 : Int32)) dL_route_23 (by decide) ?_
      exact rn_iret dL_route_24 rfl rfl (Or.inr ⟨q1, hc4, rfl, rfl⟩)
set_option maxRecDepth 20000 in
set_option maxHeartbeats 4000000 in
theorem c_L_peer (G : rn_G) (ws : va_W) (o_sg : Nat) (x : Int32) (y : Int32) (o_out : Nat) (fs_sg : List Value) (o_peers : Nat) (h_sg : ws[0]? = some (o_sg, Sum.inr (9, fs_sg))) (hf_sg_9 : fs_sg[9]? = some (.ref o_peers)) (h_peers : ws[16]? = some (o_peers, Sum.inl (rn_k G 1, 4, Sum.inl (fun _ => 0)))) (h_out : ws[62]? = some (o_out, Sum.inl (rn_k G 2, 1, Sum.inr (Sum.inl (fun _ => 0))))) : Rn G mL_peer 7 113 1 6 0 (lv_args 0 [.ref o_sg, .int x, .int y, .ref o_out]) [] ws (fun r w => (((((x < (0 : Int32)) ∨ (¬ (x < (0 : Int32)) ∧ (4 : Int32) ≤ x)))) ∧ r = Sum.inl (some (.int (1 : Int32))) ∧ w = ws) ∨ ((((¬ (x < (0 : Int32)) ∧ ¬ ((4 : Int32) ≤ x)))) ∧ r = Sum.inl (some (.int (0 : Int32))) ∧ w = ((ws.set 16 (o_peers, Sum.inl (rn_k G 1, 4, Sum.inl (upd (fun _ => 0) (x).toNatClampNeg y)))).set 62 (o_out, Sum.inl (rn_k G 2, 1, Sum.inr (Sum.inl (vp_updL (fun _ => 0) ((0 : Int32)).toNatClampNeg (0 : Int64)))))))) := by
  refine rn_lv [(0, .ref o_sg), (1, .int x), (2, .int y), (3, .ref o_out)] rfl ?_
  refine rn_aload_n (i := 3) dL_peer_0 rfl rfl ?_
  refine rn_iconst (v := (0 : Int32)) dL_peer_1 (by decide) ?_
  refine rn_aload_n (i := 0) dL_peer_2 rfl rfl ?_
  refine rn_iload_n (i := 1) dL_peer_3 rfl rfl ?_
  refine rn_iload_n (i := 2) dL_peer_4 rfl rfl ?_
  refine rn_callV (a := 0) (b := 0) [.int x, .int y] kl_SGLaw_43 dL_peer_5 0 h_sg rfl (c_X9_peer G _ (o_sg := o_sg) (x := x) (y := y) (fs_sg := fs_sg) (o_peers := o_peers) h_sg hf_sg_9 h_peers) rfl rfl (Nat.le_of_ble_eq_true rfl) (Nat.le_of_ble_eq_true rfl) (Nat.le_of_ble_eq_true rfl) (Nat.le_of_ble_eq_true rfl) (Nat.le_of_ble_eq_true rfl) (Nat.le_of_ble_eq_true rfl) ?_ ?_
  · rintro E w h
    rcases h with ⟨hc, hr, hw⟩ | ⟨hc, hr, hw⟩
    · have hc1 := hc; clear hc; cases hr; subst hw
      refine rnx_catch [] ⟨0, 10, 13, 25⟩ [] rfl (fun y hy => nomatch hy) (by decide) (by decide) wd_358 wd_369 (fun q2 => ?_)
      refine rn_astore dL_peer_13 (by decide) [(0, .ref o_sg), (1, .int x), (2, .int y), (3, .ref o_out), (4, .ref q2)] rfl ?_
      refine rn_iconst (v := (1 : Int32)) dL_peer_15 (by decide) ?_
      exact rn_iret dL_peer_16 rfl rfl (Or.inl ⟨hc1, rfl, rfl⟩)
    · cases hr
  · rintro v w h
    rcases h with ⟨hc, hr, hw⟩ | ⟨hc, hr, hw⟩
    · cases hr
    · have hc3 := hc; clear hc; cases hr; subst hw
      refine rn_stk [.int (0 : Int32), .int (0 : Int32), .ref o_out] rfl ?_
      refine rn_i2l dL_peer_8 rfl ?_
      refine rn_topl (0 : Int64) (by decide) ?_
      refine rn_last 62 2 (ls_ne (by decide) h_out) rfl (by unfold vp_in; decide) dL_peer_9 ?_
      refine rn_goto (tgt := 17) dL_peer_10 (by decide) ?_
      refine rn_iconst (v := (0 : Int32)) dL_peer_17 (by decide) ?_
      exact rn_iret dL_peer_18 rfl rfl (Or.inr ⟨hc3, rfl, rfl⟩)
set_option maxRecDepth 20000 in
set_option maxHeartbeats 4000000 in
theorem c_L_meant (G : rn_G) (ws : va_W) (o_sg : Nat) (x : Int32) (y : Int32) (u : Int32) (fs_sg : List Value) (o_pols : Nat) (fs_pols : List Value) (h_sg : ws[0]? = some (o_sg, Sum.inr (9, fs_sg))) (hf_sg_8 : fs_sg[8]? = some (.ref o_pols)) (h_pols : ws[14]? = some (o_pols, Sum.inr (5, fs_pols))) (hf_pols_2 : fs_pols[2]? = some (.int (0 : Int32))) (hf_pols_3 : fs_pols[3]? = some (.int (0 : Int32))) (hf_pols_4 : fs_pols[4]? = some (.int (65535 : Int32))) : Rn G mL_meant 7 113 1 6 0 (lv_args 0 [.ref o_sg, .int x, .int y, .int u]) [] ws (fun r w => ((((((x < (0 : Int32)) ∨ (¬ (x < (0 : Int32)) ∧ (255 : Int32) < x))) ∨ ((¬ (x < (0 : Int32)) ∧ ¬ ((255 : Int32) < x)) ∧ y < (0 : Int32)) ∨ ((¬ (x < (0 : Int32)) ∧ ¬ ((255 : Int32) < x)) ∧ ¬ (y < (0 : Int32)) ∧ u < y) ∨ ((¬ (x < (0 : Int32)) ∧ ¬ ((255 : Int32) < x)) ∧ ¬ (y < (0 : Int32)) ∧ ¬ (u < y) ∧ ¬ (u ≤ (65535 : Int32))))) ∧ r = Sum.inl (some (.int (1 : Int32))) ∧ w = ws) ∨ ((((¬ (x < (0 : Int32)) ∧ ¬ ((255 : Int32) < x)) ∧ ¬ (y < (0 : Int32)) ∧ ¬ (u < y) ∧ u ≤ (65535 : Int32))) ∧ r = Sum.inl (some (.int (0 : Int32))) ∧ w = (((ws.set 14 (o_pols, Sum.inr (5, (fs_pols.set 2 (.int x))))).set 14 (o_pols, Sum.inr (5, ((fs_pols.set 2 (.int x)).set 3 (.int y))))).set 14 (o_pols, Sum.inr (5, (((fs_pols.set 2 (.int x)).set 3 (.int y)).set 4 (.int u))))))) := by
  refine rn_lv [(0, .ref o_sg), (1, .int x), (2, .int y), (3, .int u)] rfl ?_
  refine rn_aload_n (i := 0) dL_meant_0 rfl rfl ?_
  refine rn_iload_n (i := 1) dL_meant_1 rfl rfl ?_
  refine rn_iload_n (i := 2) dL_meant_2 rfl rfl ?_
  refine rn_iload_n (i := 3) dL_meant_3 rfl rfl ?_
  refine rn_callV (a := 0) (b := 0) [.int x, .int y, .int u] kl_SGLaw_46 dL_meant_4 0 h_sg rfl (c_X9_meant G _ (o_sg := o_sg) (x := x) (y := y) (u := u) (fs_sg := fs_sg) (o_pols := o_pols) (fs_pols := fs_pols) h_sg hf_sg_8 h_pols hf_pols_2 hf_pols_3 hf_pols_4) rfl rfl (Nat.le_of_ble_eq_true rfl) (Nat.le_of_ble_eq_true rfl) (Nat.le_of_ble_eq_true rfl) (Nat.le_of_ble_eq_true rfl) (Nat.le_of_ble_eq_true rfl) (Nat.le_of_ble_eq_true rfl) ?_ ?_
  · rintro E w h
    rcases h with ⟨hc, hr, hw⟩ | ⟨hc, hr, hw⟩
    · have hc1 := hc; clear hc; cases hr; subst hw
      refine rnx_catch [] ⟨0, 7, 10, 19⟩ [] rfl (fun y hy => nomatch hy) (by decide) (by decide) wd_334 wd_341 (fun q2 => ?_)
      refine rn_astore dL_meant_10 (by decide) [(0, .ref o_sg), (1, .int x), (2, .int y), (3, .int u), (4, .ref q2)] rfl ?_
      refine rn_iconst (v := (1 : Int32)) dL_meant_12 (by decide) ?_
      exact rn_iret dL_meant_13 rfl rfl (Or.inl ⟨hc1, rfl, rfl⟩)
    · cases hr
  · rintro v w h
    rcases h with ⟨hc, hr, hw⟩ | ⟨hc, hr, hw⟩
    · cases hr
    · have hc3 := hc; clear hc; cases hr; subst hw
      refine rn_stk [] rfl ?_
      refine rn_goto (tgt := 14) dL_meant_7 (by decide) ?_
      refine rn_iconst (v := (0 : Int32)) dL_meant_14 (by decide) ?_
      exact rn_iret dL_meant_15 rfl rfl (Or.inr ⟨hc3, rfl, rfl⟩)
set_option maxRecDepth 20000 in
set_option maxHeartbeats 4000000 in
theorem c_L_policy (G : rn_G) (ws : va_W) (o_sg : Nat) (x : Int32) (y : Int32) (u : Int32) (x1 : Int32) (x2 : Int32) (x3 : Int32) (o_out : Nat) (fs_sg : List Value) (o_pols : Nat) (o_prow : Nat) (fs_pols : List Value) (L : Nat) (h_sg : ws[0]? = some (o_sg, Sum.inr (9, fs_sg))) (hf_sg_8 : fs_sg[8]? = some (.ref o_pols)) (h_prow : ws[15]? = some (o_prow, Sum.inl (rn_k G 5, 24, Sum.inr (Sum.inr (Sum.inr (Sum.inr (fun _ => none))))))) (h_pols : ws[14]? = some (o_pols, Sum.inr (5, fs_pols))) (hf_pols_0 : fs_pols[0]? = some (.ref o_prow)) (hf_pols_1 : fs_pols[1]? = some (.int (0 : Int32))) (hf_pols_2 : fs_pols[2]? = some (.int (0 : Int32))) (hf_pols_3 : fs_pols[3]? = some (.int (0 : Int32))) (hf_pols_4 : fs_pols[4]? = some (.int (65535 : Int32))) (h_out : ws[62]? = some (o_out, Sum.inl (rn_k G 2, 1, Sum.inr (Sum.inl (fun _ => 0))))) (hne_Lp1_14 : (L + 1) ≠ 14) (hne_Lp1_15 : (L + 1) ≠ 15) (hne_Lp1_62 : (L + 1) ≠ 62) (hne_Lp2_14 : (L + 2) ≠ 14) (hne_Lp2_15 : (L + 2) ≠ 15) (hne_Lp2_62 : (L + 2) ≠ 62) (hne_L_14 : L ≠ 14) (hne_L_15 : L ≠ 15) (hne_L_62 : L ≠ 62) (hlen : ws.length = L) : Rn G mL_policy 7 116 3 11 0 (lv_args 0 [.ref o_sg, .int x, .int y, .int u, .int x1, .int x2, .int x3, .ref o_out]) [] ws (fun r w => ((((((x = (0 : Int32)) ∨ (¬ (x = (0 : Int32)) ∧ x = (1 : Int32))) ∧ ((u < (0 : Int32)) ∨ (¬ (u < (0 : Int32)) ∧ (32 : Int32) < u))) ∨ (((x = (0 : Int32)) ∨ (¬ (x = (0 : Int32)) ∧ x = (1 : Int32))) ∧ (¬ (u < (0 : Int32)) ∧ ¬ ((32 : Int32) < u)) ∧ ((x2 < (0 : Int32)) ∨ (¬ (x2 < (0 : Int32)) ∧ (32 : Int32) < x2))) ∨ (((x = (0 : Int32)) ∨ (¬ (x = (0 : Int32)) ∧ x = (1 : Int32))) ∧ (¬ (u < (0 : Int32)) ∧ ¬ ((32 : Int32) < u)) ∧ (¬ (x2 < (0 : Int32)) ∧ ¬ ((32 : Int32) < x2)) ∧ x3 < (-2 : Int32)) ∨ (((x = (0 : Int32)) ∨ (¬ (x = (0 : Int32)) ∧ x = (1 : Int32))) ∧ (¬ (u < (0 : Int32)) ∧ ¬ ((32 : Int32) < u)) ∧ (¬ (x2 < (0 : Int32)) ∧ ¬ ((32 : Int32) < x2)) ∧ ¬ (x3 < (-2 : Int32)) ∧ ¬ (x3 < (4 : Int32))) ∨ ((¬ (x = (0 : Int32)) ∧ ¬ (x = (1 : Int32)))))) ∧ r = Sum.inl (some (.int (1 : Int32))) ∧ w = ws) ∨ (∃ q1 q2 q3 : Nat, ((((x = (0 : Int32)) ∨ (¬ (x = (0 : Int32)) ∧ x = (1 : Int32))) ∧ (¬ (u < (0 : Int32)) ∧ ¬ ((32 : Int32) < u)) ∧ (¬ (x2 < (0 : Int32)) ∧ ¬ ((32 : Int32) < x2)) ∧ ¬ (x3 < (-2 : Int32)) ∧ x3 < (4 : Int32))) ∧ r = Sum.inl (some (.int (0 : Int32))) ∧ w = ((((((((((((((((((((ws ++ [(q1, Sum.inr (3, fs0_3))]).set L (q1, Sum.inr (3, (fs0_3.set 0 (.int y))))).set L (q1, Sum.inr (3, ((fs0_3.set 0 (.int y)).set 1 (.int u))))) ++ [(q2, Sum.inr (3, fs0_3))]).set (L + 1) (q2, Sum.inr (3, (fs0_3.set 0 (.int x1))))).set (L + 1) (q2, Sum.inr (3, ((fs0_3.set 0 (.int x1)).set 1 (.int x2))))) ++ [(q3, Sum.inr (6, fs0_6))]).set (L + 2) (q3, Sum.inr (6, (fs0_6.set 0 (.int x))))).set (L + 2) (q3, Sum.inr (6, ((fs0_6.set 0 (.int x)).set 1 (.ref q1))))).set (L + 2) (q3, Sum.inr (6, (((fs0_6.set 0 (.int x)).set 1 (.ref q1)).set 2 (.ref q2))))).set (L + 2) (q3, Sum.inr (6, ((((fs0_6.set 0 (.int x)).set 1 (.ref q1)).set 2 (.ref q2)).set 3 (.int x3))))).set (L + 2) (q3, Sum.inr (6, (((((fs0_6.set 0 (.int x)).set 1 (.ref q1)).set 2 (.ref q2)).set 3 (.int x3)).set 4 (.int (0 : Int32)))))).set (L + 2) (q3, Sum.inr (6, ((((((fs0_6.set 0 (.int x)).set 1 (.ref q1)).set 2 (.ref q2)).set 3 (.int x3)).set 4 (.int (0 : Int32))).set 5 (.int (0 : Int32)))))).set (L + 2) (q3, Sum.inr (6, (((((((fs0_6.set 0 (.int x)).set 1 (.ref q1)).set 2 (.ref q2)).set 3 (.int x3)).set 4 (.int (0 : Int32))).set 5 (.int (0 : Int32))).set 6 (.int (65535 : Int32)))))).set 15 (o_prow, Sum.inl (rn_k G 5, 24, Sum.inr (Sum.inr (Sum.inr (Sum.inr (va_up (fun _ => none) ((0 : Int32)).toNatClampNeg (some q3)))))))).set 14 (o_pols, Sum.inr (5, (fs_pols.set 1 (.int (1 : Int32)))))).set 14 (o_pols, Sum.inr (5, ((fs_pols.set 1 (.int (1 : Int32))).set 2 (.int (0 : Int32)))))).set 14 (o_pols, Sum.inr (5, (((fs_pols.set 1 (.int (1 : Int32))).set 2 (.int (0 : Int32))).set 3 (.int (0 : Int32)))))).set 14 (o_pols, Sum.inr (5, ((((fs_pols.set 1 (.int (1 : Int32))).set 2 (.int (0 : Int32))).set 3 (.int (0 : Int32))).set 4 (.int (65535 : Int32)))))).set 62 (o_out, Sum.inl (rn_k G 2, 1, Sum.inr (Sum.inl (vp_updL (fun _ => 0) ((0 : Int32)).toNatClampNeg (1 : Int64)))))))) := by
  refine rn_lv [(0, .ref o_sg), (1, .int x), (2, .int y), (3, .int u), (4, .int x1), (5, .int x2), (6, .int x3), (7, .ref o_out)] rfl ?_
  refine rn_aload dL_policy_0 rfl ?_
  refine rn_iconst (v := (0 : Int32)) dL_policy_2 (by decide) ?_
  refine rn_aload_n (i := 0) dL_policy_3 rfl rfl ?_
  refine rn_iload_n (i := 1) dL_policy_4 rfl rfl ?_
  refine rn_iload_n (i := 2) dL_policy_5 rfl rfl ?_
  refine rn_iload_n (i := 3) dL_policy_6 rfl rfl ?_
  refine rn_iload dL_policy_7 rfl ?_
  refine rn_iload dL_policy_9 rfl ?_
  refine rn_iload dL_policy_11 rfl ?_
  refine rn_callV (a := 0) (b := 0) [.int x, .int y, .int u, .int x1, .int x2, .int x3] kl_SGLaw_50 dL_policy_13 0 h_sg rfl (c_X9_policy G _ (o_sg := o_sg) (x := x) (y := y) (u := u) (x1 := x1) (x2 := x2) (x3 := x3) (fs_sg := fs_sg) (o_pols := o_pols) (o_prow := o_prow) (fs_pols := fs_pols) (L := L) h_sg hf_sg_8 h_prow h_pols hf_pols_0 hf_pols_1 hf_pols_2 hf_pols_3 hf_pols_4 hne_Lp1_14 hne_Lp1_15 hne_Lp2_14 hne_Lp2_15 hne_L_14 hne_L_15 hlen) rfl rfl (Nat.le_of_ble_eq_true rfl) (Nat.le_of_ble_eq_true rfl) (Nat.le_of_ble_eq_true rfl) (Nat.le_of_ble_eq_true rfl) (Nat.le_of_ble_eq_true rfl) (Nat.le_of_ble_eq_true rfl) ?_ ?_
  · rintro E w h
    rcases h with ⟨hc, hr, hw⟩ | ⟨q1, q2, q3, hc, hr, hw⟩
    · have hc4 := hc; clear hc; cases hr; subst hw
      refine rnx_catch [] ⟨0, 18, 21, 19⟩ [⟨0, 18, 25, 13⟩] rfl (fun y hy => nomatch hy) (by decide) (by decide) wd_334 wd_341 (fun q5 => ?_)
      refine rn_astore dL_policy_21 (by decide) [(0, .ref o_sg), (1, .int x), (2, .int y), (3, .int u), (4, .int x1), (5, .int x2), (6, .int x3), (7, .ref o_out), (8, .ref q5)] rfl ?_
      refine rn_iconst (v := (1 : Int32)) dL_policy_23 (by decide) ?_
      exact rn_iret dL_policy_24 rfl rfl (Or.inl ⟨hc4, rfl, rfl⟩)
    · cases hr
  · rintro v w h
    rcases h with ⟨hc, hr, hw⟩ | ⟨q1, q2, q3, hc, hr, hw⟩
    · cases hr
    · have hc6 := hc; clear hc; cases hr; subst hw
      refine rn_stk [.int (1 : Int32), .int (0 : Int32), .ref o_out] rfl ?_
      refine rn_i2l dL_policy_16 rfl ?_
      refine rn_topl (1 : Int64) (by decide) ?_
      refine rn_last 62 2 (ls_ne (by decide) (ls_ne (by decide) (ls_ne (by decide) (ls_ne (by decide) (ls_ne (by decide) (ls_ne hne_Lp2_62 (ls_ne hne_Lp2_62 (ls_ne hne_Lp2_62 (ls_ne hne_Lp2_62 (ls_ne hne_Lp2_62 (ls_ne hne_Lp2_62 (ls_ne hne_Lp2_62 (la_old (ls_ne hne_Lp1_62 (ls_ne hne_Lp1_62 (la_old (ls_ne hne_L_62 (ls_ne hne_L_62 (la_old h_out))))))))))))))))))) rfl (by unfold vp_in; decide) dL_policy_17 ?_
      refine rn_goto (tgt := 29) dL_policy_18 (by decide) ?_
      refine rn_iconst (v := (0 : Int32)) dL_policy_29 (by decide) ?_
      exact rn_iret dL_policy_30 rfl rfl (Or.inr ⟨q1, q2, q3, hc6, rfl, rfl⟩)
set_option maxRecDepth 20000 in
set_option maxHeartbeats 4000000 in
theorem c_L_seal_0 (G : rn_G) (ws : va_W) (o_sg : Nat) (x : Int32) (y : Int32) (u : Int32) (y1 : Int64) (y2 : Int64) (x2 : Int32) (o_out : Nat) (fs_sg : List Value) (o_seals : Nat) (L : Nat) (h_sg : ws[0]? = some (o_sg, Sum.inr (9, fs_sg))) (hf_sg_10 : fs_sg[10]? = some (.ref o_seals)) (hf_sg_11 : fs_sg[11]? = some (.int (0 : Int32))) (h_seals : ws[17]? = some (o_seals, Sum.inl (rn_k G 6, 16, Sum.inr (Sum.inr (Sum.inr (Sum.inr (fun _ => none))))))) (h_out : ws[62]? = some (o_out, Sum.inl (rn_k G 2, 1, Sum.inr (Sum.inl (fun _ => 0))))) (hne_L_0 : L ≠ 0) (hne_L_17 : L ≠ 17) (hne_L_62 : L ≠ 62) (hlen : ws.length = L) : Rn G mL_seal 7 119 1 10 0 (lv_args 0 [.ref o_sg, .int x, .int y, .int u, .long y1, .long y2, .int (0 : Int32), .int x2, .ref o_out]) [] ws (fun r w => (((((y < (0 : Int32)) ∨ (¬ (y < (0 : Int32)) ∧ (4 : Int32) ≤ y)))) ∧ r = Sum.inl (some (.int (1 : Int32))) ∧ w = ws) ∨ (((((¬ (y < (0 : Int32)) ∧ ¬ ((4 : Int32) ≤ y)) ∧ ((x = (0 : Int32)) ∨ (¬ (x = (0 : Int32)) ∧ x = (1 : Int32))) ∧ u < (256 : Int32)) ∨ ((¬ (y < (0 : Int32)) ∧ ¬ ((4 : Int32) ≤ y)) ∧ ((x = (0 : Int32)) ∨ (¬ (x = (0 : Int32)) ∧ x = (1 : Int32))) ∧ ¬ (u < (256 : Int32)) ∧ x2 < (1 : Int32)) ∨ ((¬ (y < (0 : Int32)) ∧ ¬ ((4 : Int32) ≤ y)) ∧ ((x = (0 : Int32)) ∨ (¬ (x = (0 : Int32)) ∧ x = (1 : Int32))) ∧ ¬ (u < (256 : Int32)) ∧ ¬ (x2 < (1 : Int32)) ∧ ¬ (x2 ≤ (1000000 : Int32))) ∨ ((¬ (y < (0 : Int32)) ∧ ¬ ((4 : Int32) ≤ y)) ∧ (¬ (x = (0 : Int32)) ∧ ¬ (x = (1 : Int32)))))) ∧ r = Sum.inl (some (.int (2 : Int32))) ∧ w = ws) ∨ (∃ q1 : Nat, (((¬ (y < (0 : Int32)) ∧ ¬ ((4 : Int32) ≤ y)) ∧ ((x = (0 : Int32)) ∨ (¬ (x = (0 : Int32)) ∧ x = (1 : Int32))) ∧ ¬ (u < (256 : Int32)) ∧ ¬ (x2 < (1 : Int32)) ∧ x2 ≤ (1000000 : Int32))) ∧ r = Sum.inl (some (.int (0 : Int32))) ∧ w = (((((((((((ws ++ [(q1, Sum.inr (8, fs0_8))]).set L (q1, Sum.inr (8, (fs0_8.set 0 (.int x))))).set L (q1, Sum.inr (8, ((fs0_8.set 0 (.int x)).set 1 (.int y))))).set L (q1, Sum.inr (8, (((fs0_8.set 0 (.int x)).set 1 (.int y)).set 2 (.int u))))).set L (q1, Sum.inr (8, ((((fs0_8.set 0 (.int x)).set 1 (.int y)).set 2 (.int u)).set 3 (.long y1))))).set L (q1, Sum.inr (8, (((((fs0_8.set 0 (.int x)).set 1 (.int y)).set 2 (.int u)).set 3 (.long y1)).set 4 (.long y2))))).set L (q1, Sum.inr (8, ((((((fs0_8.set 0 (.int x)).set 1 (.int y)).set 2 (.int u)).set 3 (.long y1)).set 4 (.long y2)).set 5 (.int (0 : Int32)))))).set L (q1, Sum.inr (8, (((((((fs0_8.set 0 (.int x)).set 1 (.int y)).set 2 (.int u)).set 3 (.long y1)).set 4 (.long y2)).set 5 (.int (0 : Int32))).set 6 (.int x2))))).set 17 (o_seals, Sum.inl (rn_k G 6, 16, Sum.inr (Sum.inr (Sum.inr (Sum.inr (va_up (fun _ => none) ((0 : Int32)).toNatClampNeg (some q1)))))))).set 0 (o_sg, Sum.inr (9, (fs_sg.set 11 (.int (1 : Int32)))))).set 62 (o_out, Sum.inl (rn_k G 2, 1, Sum.inr (Sum.inl (vp_updL (fun _ => 0) ((0 : Int32)).toNatClampNeg (0 : Int64)))))))) := by
  refine rn_lv [(0, .ref o_sg), (1, .int x), (2, .int y), (3, .int u), (4, .long y1), (6, .long y2), (8, .int (0 : Int32)), (9, .int x2), (10, .ref o_out)] rfl ?_
  refine rn_aload dL_seal_0 rfl ?_
  refine rn_iconst (v := (0 : Int32)) dL_seal_2 (by decide) ?_
  refine rn_aload_n (i := 0) dL_seal_3 rfl rfl ?_
  refine rn_iload_n (i := 1) dL_seal_4 rfl rfl ?_
  refine rn_iload_n (i := 2) dL_seal_5 rfl rfl ?_
  refine rn_iload_n (i := 3) dL_seal_6 rfl rfl ?_
  refine rn_lload dL_seal_7 rfl ?_
  refine rn_lload dL_seal_9 rfl ?_
  refine rn_iload dL_seal_11 rfl ?_
  refine rn_iload dL_seal_13 rfl ?_
  refine rn_callV (a := 0) (b := 0) [.int x, .int y, .int u, .long y1, .long y2, .int (0 : Int32), .int x2] kl_SGLaw_53 dL_seal_15 0 h_sg rfl (c_X9_seal_0 G _ (o_sg := o_sg) (x := x) (y := y) (u := u) (y1 := y1) (y2 := y2) (x2 := x2) (fs_sg := fs_sg) (o_seals := o_seals) (L := L) h_sg hf_sg_10 hf_sg_11 h_seals hne_L_0 hne_L_17 hlen) rfl rfl (Nat.le_of_ble_eq_true rfl) (Nat.le_of_ble_eq_true rfl) (Nat.le_of_ble_eq_true rfl) (Nat.le_of_ble_eq_true rfl) (Nat.le_of_ble_eq_true rfl) (Nat.le_of_ble_eq_true rfl) ?_ ?_
  · rintro E w h
    rcases h with ⟨hc, hr, hw⟩ | ⟨hc, hr, hw⟩ | ⟨q1, hc, hr, hw⟩
    · have hc2 := hc; clear hc; cases hr; subst hw
      refine rnx_catch [] ⟨0, 20, 23, 25⟩ [⟨0, 20, 27, 19⟩, ⟨0, 20, 31, 13⟩] rfl (fun y hy => nomatch hy) (by decide) (by decide) wd_358 wd_369 (fun q3 => ?_)
      refine rn_astore dL_seal_23 (by decide) [(0, .ref o_sg), (1, .int x), (2, .int y), (3, .int u), (4, .long y1), (6, .long y2), (8, .int (0 : Int32)), (9, .int x2), (10, .ref o_out), (11, .ref q3)] rfl ?_
      refine rn_iconst (v := (1 : Int32)) dL_seal_25 (by decide) ?_
      exact rn_iret dL_seal_26 rfl rfl (Or.inl ⟨hc2, rfl, rfl⟩)
    · have hc4 := hc; clear hc; cases hr; subst hw
      refine rnx_catch [⟨0, 20, 23, 25⟩] ⟨0, 20, 27, 19⟩ [⟨0, 20, 31, 13⟩] rfl (fun y hy => (List.mem_cons.mp hy).elim (fun e => by rw [e]; exact ⟨by decide, "java/lang/IndexOutOfBoundsException", wd_358, by decide⟩) ((fun y hy => absurd hy List.not_mem_nil) y)) (by decide) (by decide) wd_334 wd_341 (fun q5 => ?_)
      refine rn_astore dL_seal_27 (by decide) [(0, .ref o_sg), (1, .int x), (2, .int y), (3, .int u), (4, .long y1), (6, .long y2), (8, .int (0 : Int32)), (9, .int x2), (10, .ref o_out), (11, .ref q5)] rfl ?_
      refine rn_iconst (v := (2 : Int32)) dL_seal_29 (by decide) ?_
      exact rn_iret dL_seal_30 rfl rfl (Or.inr (Or.inl ⟨hc4, rfl, rfl⟩))
    · cases hr
  · rintro v w h
    rcases h with ⟨hc, hr, hw⟩ | ⟨hc, hr, hw⟩ | ⟨q1, hc, hr, hw⟩
    · cases hr
    · cases hr
    · have hc6 := hc; clear hc; cases hr; subst hw
      refine rn_stk [.int (0 : Int32), .int (0 : Int32), .ref o_out] rfl ?_
      refine rn_i2l dL_seal_18 rfl ?_
      refine rn_topl (0 : Int64) (by decide) ?_
      refine rn_last 62 2 (ls_ne (by decide) (ls_ne (by decide) (ls_ne hne_L_62 (ls_ne hne_L_62 (ls_ne hne_L_62 (ls_ne hne_L_62 (ls_ne hne_L_62 (ls_ne hne_L_62 (ls_ne hne_L_62 (la_old h_out)))))))))) rfl (by unfold vp_in; decide) dL_seal_19 ?_
      refine rn_goto (tgt := 35) dL_seal_20 (by decide) ?_
      refine rn_iconst (v := (0 : Int32)) dL_seal_35 (by decide) ?_
      exact rn_iret dL_seal_36 rfl rfl (Or.inr (Or.inr ⟨q1, hc6, rfl, rfl⟩))
set_option maxRecDepth 20000 in
set_option maxHeartbeats 4000000 in
theorem c_L_seal_1 (G : rn_G) (ws : va_W) (o_sg : Nat) (x : Int32) (y : Int32) (u : Int32) (y1 : Int64) (y2 : Int64) (x2 : Int32) (o_out : Nat) (fs_sg : List Value) (o_seals : Nat) (L : Nat) (h_sg : ws[0]? = some (o_sg, Sum.inr (9, fs_sg))) (hf_sg_10 : fs_sg[10]? = some (.ref o_seals)) (hf_sg_11 : fs_sg[11]? = some (.int (0 : Int32))) (h_seals : ws[17]? = some (o_seals, Sum.inl (rn_k G 6, 16, Sum.inr (Sum.inr (Sum.inr (Sum.inr (fun _ => none))))))) (h_out : ws[62]? = some (o_out, Sum.inl (rn_k G 2, 1, Sum.inr (Sum.inl (fun _ => 0))))) (hne_L_0 : L ≠ 0) (hne_L_17 : L ≠ 17) (hne_L_62 : L ≠ 62) (hlen : ws.length = L) : Rn G mL_seal 7 119 1 10 0 (lv_args 0 [.ref o_sg, .int x, .int y, .int u, .long y1, .long y2, .int (1 : Int32), .int x2, .ref o_out]) [] ws (fun r w => (((((y < (0 : Int32)) ∨ (¬ (y < (0 : Int32)) ∧ (4 : Int32) ≤ y)))) ∧ r = Sum.inl (some (.int (1 : Int32))) ∧ w = ws) ∨ (((((¬ (y < (0 : Int32)) ∧ ¬ ((4 : Int32) ≤ y)) ∧ ((x = (0 : Int32)) ∨ (¬ (x = (0 : Int32)) ∧ x = (1 : Int32))) ∧ u < (256 : Int32)) ∨ ((¬ (y < (0 : Int32)) ∧ ¬ ((4 : Int32) ≤ y)) ∧ ((x = (0 : Int32)) ∨ (¬ (x = (0 : Int32)) ∧ x = (1 : Int32))) ∧ ¬ (u < (256 : Int32)) ∧ x2 < (1 : Int32)) ∨ ((¬ (y < (0 : Int32)) ∧ ¬ ((4 : Int32) ≤ y)) ∧ ((x = (0 : Int32)) ∨ (¬ (x = (0 : Int32)) ∧ x = (1 : Int32))) ∧ ¬ (u < (256 : Int32)) ∧ ¬ (x2 < (1 : Int32)) ∧ ¬ (x2 ≤ (1000000 : Int32))) ∨ ((¬ (y < (0 : Int32)) ∧ ¬ ((4 : Int32) ≤ y)) ∧ (¬ (x = (0 : Int32)) ∧ ¬ (x = (1 : Int32)))))) ∧ r = Sum.inl (some (.int (2 : Int32))) ∧ w = ws) ∨ (∃ q1 : Nat, (((¬ (y < (0 : Int32)) ∧ ¬ ((4 : Int32) ≤ y)) ∧ ((x = (0 : Int32)) ∨ (¬ (x = (0 : Int32)) ∧ x = (1 : Int32))) ∧ ¬ (u < (256 : Int32)) ∧ ¬ (x2 < (1 : Int32)) ∧ x2 ≤ (1000000 : Int32))) ∧ r = Sum.inl (some (.int (0 : Int32))) ∧ w = (((((((((((ws ++ [(q1, Sum.inr (8, fs0_8))]).set L (q1, Sum.inr (8, (fs0_8.set 0 (.int x))))).set L (q1, Sum.inr (8, ((fs0_8.set 0 (.int x)).set 1 (.int y))))).set L (q1, Sum.inr (8, (((fs0_8.set 0 (.int x)).set 1 (.int y)).set 2 (.int u))))).set L (q1, Sum.inr (8, ((((fs0_8.set 0 (.int x)).set 1 (.int y)).set 2 (.int u)).set 3 (.long y1))))).set L (q1, Sum.inr (8, (((((fs0_8.set 0 (.int x)).set 1 (.int y)).set 2 (.int u)).set 3 (.long y1)).set 4 (.long y2))))).set L (q1, Sum.inr (8, ((((((fs0_8.set 0 (.int x)).set 1 (.int y)).set 2 (.int u)).set 3 (.long y1)).set 4 (.long y2)).set 5 (.int (1 : Int32)))))).set L (q1, Sum.inr (8, (((((((fs0_8.set 0 (.int x)).set 1 (.int y)).set 2 (.int u)).set 3 (.long y1)).set 4 (.long y2)).set 5 (.int (1 : Int32))).set 6 (.int x2))))).set 17 (o_seals, Sum.inl (rn_k G 6, 16, Sum.inr (Sum.inr (Sum.inr (Sum.inr (va_up (fun _ => none) ((0 : Int32)).toNatClampNeg (some q1)))))))).set 0 (o_sg, Sum.inr (9, (fs_sg.set 11 (.int (1 : Int32)))))).set 62 (o_out, Sum.inl (rn_k G 2, 1, Sum.inr (Sum.inl (vp_updL (fun _ => 0) ((0 : Int32)).toNatClampNeg (0 : Int64)))))))) := by
  refine rn_lv [(0, .ref o_sg), (1, .int x), (2, .int y), (3, .int u), (4, .long y1), (6, .long y2), (8, .int (1 : Int32)), (9, .int x2), (10, .ref o_out)] rfl ?_
  refine rn_aload dL_seal_0 rfl ?_
  refine rn_iconst (v := (0 : Int32)) dL_seal_2 (by decide) ?_
  refine rn_aload_n (i := 0) dL_seal_3 rfl rfl ?_
  refine rn_iload_n (i := 1) dL_seal_4 rfl rfl ?_
  refine rn_iload_n (i := 2) dL_seal_5 rfl rfl ?_
  refine rn_iload_n (i := 3) dL_seal_6 rfl rfl ?_
  refine rn_lload dL_seal_7 rfl ?_
  refine rn_lload dL_seal_9 rfl ?_
  refine rn_iload dL_seal_11 rfl ?_
  refine rn_iload dL_seal_13 rfl ?_
  refine rn_callV (a := 0) (b := 0) [.int x, .int y, .int u, .long y1, .long y2, .int (1 : Int32), .int x2] kl_SGLaw_53 dL_seal_15 0 h_sg rfl (c_X9_seal_1 G _ (o_sg := o_sg) (x := x) (y := y) (u := u) (y1 := y1) (y2 := y2) (x2 := x2) (fs_sg := fs_sg) (o_seals := o_seals) (L := L) h_sg hf_sg_10 hf_sg_11 h_seals hne_L_0 hne_L_17 hlen) rfl rfl (Nat.le_of_ble_eq_true rfl) (Nat.le_of_ble_eq_true rfl) (Nat.le_of_ble_eq_true rfl) (Nat.le_of_ble_eq_true rfl) (Nat.le_of_ble_eq_true rfl) (Nat.le_of_ble_eq_true rfl) ?_ ?_
  · rintro E w h
    rcases h with ⟨hc, hr, hw⟩ | ⟨hc, hr, hw⟩ | ⟨q1, hc, hr, hw⟩
    · have hc2 := hc; clear hc; cases hr; subst hw
      refine rnx_catch [] ⟨0, 20, 23, 25⟩ [⟨0, 20, 27, 19⟩, ⟨0, 20, 31, 13⟩] rfl (fun y hy => nomatch hy) (by decide) (by decide) wd_358 wd_369 (fun q3 => ?_)
      refine rn_astore dL_seal_23 (by decide) [(0, .ref o_sg), (1, .int x), (2, .int y), (3, .int u), (4, .long y1), (6, .long y2), (8, .int (1 : Int32)), (9, .int x2), (10, .ref o_out), (11, .ref q3)] rfl ?_
      refine rn_iconst (v := (1 : Int32)) dL_seal_25 (by decide) ?_
      exact rn_iret dL_seal_26 rfl rfl (Or.inl ⟨hc2, rfl, rfl⟩)
    · have hc4 := hc; clear hc; cases hr; subst hw
      refine rnx_catch [⟨0, 20, 23, 25⟩] ⟨0, 20, 27, 19⟩ [⟨0, 20, 31, 13⟩] rfl (fun y hy => (List.mem_cons.mp hy).elim (fun e => by rw [e]; exact ⟨by decide, "java/lang/IndexOutOfBoundsException", wd_358, by decide⟩) ((fun y hy => absurd hy List.not_mem_nil) y)) (by decide) (by decide) wd_334 wd_341 (fun q5 => ?_)
      refine rn_astore dL_seal_27 (by decide) [(0, .ref o_sg), (1, .int x), (2, .int y), (3, .int u), (4, .long y1), (6, .long y2), (8, .int (1 : Int32)), (9, .int x2), (10, .ref o_out), (11, .ref q5)] rfl ?_
      refine rn_iconst (v := (2 : Int32)) dL_seal_29 (by decide) ?_
      exact rn_iret dL_seal_30 rfl rfl (Or.inr (Or.inl ⟨hc4, rfl, rfl⟩))
    · cases hr
  · rintro v w h
    rcases h with ⟨hc, hr, hw⟩ | ⟨hc, hr, hw⟩ | ⟨q1, hc, hr, hw⟩
    · cases hr
    · cases hr
    · have hc6 := hc; clear hc; cases hr; subst hw
      refine rn_stk [.int (0 : Int32), .int (0 : Int32), .ref o_out] rfl ?_
      refine rn_i2l dL_seal_18 rfl ?_
      refine rn_topl (0 : Int64) (by decide) ?_
      refine rn_last 62 2 (ls_ne (by decide) (ls_ne (by decide) (ls_ne hne_L_62 (ls_ne hne_L_62 (ls_ne hne_L_62 (ls_ne hne_L_62 (ls_ne hne_L_62 (ls_ne hne_L_62 (ls_ne hne_L_62 (la_old h_out)))))))))) rfl (by unfold vp_in; decide) dL_seal_19 ?_
      refine rn_goto (tgt := 35) dL_seal_20 (by decide) ?_
      refine rn_iconst (v := (0 : Int32)) dL_seal_35 (by decide) ?_
      exact rn_iret dL_seal_36 rfl rfl (Or.inr (Or.inr ⟨q1, hc6, rfl, rfl⟩))
set_option maxRecDepth 20000 in
set_option maxHeartbeats 4000000 in
theorem c_L_stop (G : rn_G) (ws : va_W) (o_sg : Nat) (x : Int32) (o_out : Nat) (fs_sg : List Value) (h_sg : ws[0]? = some (o_sg, Sum.inr (9, fs_sg))) (hf_sg_11 : fs_sg[11]? = some (.int (0 : Int32))) : Rn G mL_stop 8 135 1 6 0 (lv_args 0 [.ref o_sg, .int x, .ref o_out]) [] ws (fun r w => (((((x < (0 : Int32)) ∨ (¬ (x < (0 : Int32)) ∧ (0 : Int32) ≤ x)))) ∧ r = Sum.inl (some (.int (1 : Int32))) ∧ w = ws)) := by
  refine rn_lv [(0, .ref o_sg), (1, .int x), (2, .ref o_out)] rfl ?_
  refine rn_aload_n (i := 2) dL_stop_0 rfl rfl ?_
  refine rn_iconst (v := (0 : Int32)) dL_stop_1 (by decide) ?_
  refine rn_aload_n (i := 0) dL_stop_2 rfl rfl ?_
  refine rn_iload_n (i := 1) dL_stop_3 rfl rfl ?_
  refine rn_callV (a := 0) (b := 0) [.int x] kl_SGLaw_57 dL_stop_4 0 h_sg rfl (c_X9_stop G _ (o_sg := o_sg) (k := x) (fs_sg := fs_sg) h_sg hf_sg_11) rfl rfl (Nat.le_of_ble_eq_true rfl) (Nat.le_of_ble_eq_true rfl) (Nat.le_of_ble_eq_true rfl) (Nat.le_of_ble_eq_true rfl) (Nat.le_of_ble_eq_true rfl) (Nat.le_of_ble_eq_true rfl) ?_ ?_
  · rintro E w h
    rcases h with ⟨hc, hr, hw⟩
    · have hc1 := hc; clear hc; cases hr; subst hw
      refine rnx_catch [] ⟨0, 16, 19, 25⟩ [] rfl (fun y hy => nomatch hy) (by decide) (by decide) wd_358 wd_369 (fun q2 => ?_)
      refine rn_astore_n dL_stop_19 rfl (by decide) [(0, .ref o_sg), (1, .int x), (2, .ref o_out), (3, .ref q2)] rfl ?_
      refine rn_iconst (v := (1 : Int32)) dL_stop_20 (by decide) ?_
      exact rn_iret dL_stop_21 rfl rfl ⟨hc1, rfl, rfl⟩
  · rintro v w h
    obtain ⟨_, hr, _⟩ := h; cases hr
set_option maxRecDepth 20000 in
set_option maxHeartbeats 4000000 in
theorem c_L_count (G : rn_G) (ws : va_W) (o_sg : Nat) (x : Int32) (y : Int64) (o_out : Nat) (fs_sg : List Value) (h_sg : ws[0]? = some (o_sg, Sum.inr (9, fs_sg))) (hf_sg_11 : fs_sg[11]? = some (.int (0 : Int32))) : Rn G mL_count 8 138 1 6 0 (lv_args 0 [.ref o_sg, .int x, .long y, .ref o_out]) [] ws (fun r w => (((((x < (0 : Int32)) ∨ (¬ (x < (0 : Int32)) ∧ (0 : Int32) ≤ x)))) ∧ r = Sum.inl (some (.int (1 : Int32))) ∧ w = ws)) := by
  refine rn_lv [(0, .ref o_sg), (1, .int x), (2, .long y), (4, .ref o_out)] rfl ?_
  refine rn_aload dL_count_0 rfl ?_
  refine rn_iconst (v := (0 : Int32)) dL_count_2 (by decide) ?_
  refine rn_aload_n (i := 0) dL_count_3 rfl rfl ?_
  refine rn_iload_n (i := 1) dL_count_4 rfl rfl ?_
  refine rn_lload_n (i := 2) dL_count_5 rfl rfl ?_
  refine rn_callV (a := 0) (b := 0) [.int x, .long y] kl_SGLaw_61 dL_count_6 0 h_sg rfl (c_X9_count G _ (o_sg := o_sg) (k := x) (y := y) (fs_sg := fs_sg) h_sg hf_sg_11) rfl rfl (Nat.le_of_ble_eq_true rfl) (Nat.le_of_ble_eq_true rfl) (Nat.le_of_ble_eq_true rfl) (Nat.le_of_ble_eq_true rfl) (Nat.le_of_ble_eq_true rfl) (Nat.le_of_ble_eq_true rfl) ?_ ?_
  · rintro E w h
    rcases h with ⟨hc, hr, hw⟩
    · have hc1 := hc; clear hc; cases hr; subst hw
      refine rnx_catch [] ⟨0, 10, 13, 25⟩ [⟨0, 10, 17, 19⟩] rfl (fun y hy => nomatch hy) (by decide) (by decide) wd_358 wd_369 (fun q2 => ?_)
      refine rn_astore dL_count_13 (by decide) [(0, .ref o_sg), (1, .int x), (2, .long y), (4, .ref o_out), (5, .ref q2)] rfl ?_
      refine rn_iconst (v := (1 : Int32)) dL_count_15 (by decide) ?_
      exact rn_iret dL_count_16 rfl rfl ⟨hc1, rfl, rfl⟩
  · rintro v w h
    obtain ⟨_, hr, _⟩ := h; cases hr
set_option maxRecDepth 20000 in
set_option maxHeartbeats 4000000 in
theorem c_L_come (G : rn_G) (ws : va_W) (o_sg : Nat) (x : Int32) (o_out : Nat) (fs_sg : List Value) (o_tape : Nat) (o_coming : Nat) (o_ends : Nat) (fs_tape : List Value) (fs_coming : List Value) (h_sg : ws[0]? = some (o_sg, Sum.inr (9, fs_sg))) (hf_sg_1 : fs_sg[1]? = some (.ref o_tape)) (hf_sg_2 : fs_sg[2]? = some (.ref o_coming)) (hf_sg_15 : fs_sg[15]? = some (.ref o_ends)) (h_tape : ws[1]? = some (o_tape, Sum.inr (4, fs_tape))) (hf_tape_1 : fs_tape[1]? = some (.int (0 : Int32))) (h_coming : ws[3]? = some (o_coming, Sum.inr (4, fs_coming))) (hf_coming_1 : fs_coming[1]? = some (.int (0 : Int32))) (h_ends : ws[22]? = some (o_ends, Sum.inl (rn_k G 1, 18, Sum.inl (fun _ => 0)))) (h_out : ws[62]? = some (o_out, Sum.inl (rn_k G 2, 1, Sum.inr (Sum.inl (fun _ => 0))))) : Rn G mL_come 7 112 1 6 0 (lv_args 0 [.ref o_sg, .int x, .ref o_out]) [] ws (fun r w => ((((¬ (x = (0 : Int32)) ∧ ¬ (x = (1 : Int32))))) ∧ r = Sum.inl (some (.int (1 : Int32))) ∧ w = ws) ∨ ((((((x = (0 : Int32)) ∨ (¬ (x = (0 : Int32)) ∧ x = (1 : Int32))) ∧ (((0 : Int32) ≤ (0 : Int32)) ∧ ((0 : Int32) ≤ (0 : Int32))) ∧ ¬ (x = (0 : Int32)) ∧ (((if (2040 : Int32) < (0 : Int32) then (2040 : Int32) else (0 : Int32)) < (20 : Int32)))) ∨ (((x = (0 : Int32)) ∨ (¬ (x = (0 : Int32)) ∧ x = (1 : Int32))) ∧ (((0 : Int32) ≤ (0 : Int32)) ∧ ((0 : Int32) ≤ (0 : Int32))) ∧ x = (0 : Int32) ∧ (((if (2040 : Int32) < (0 : Int32) then (2040 : Int32) else (0 : Int32)) < (20 : Int32)))))) ∧ r = Sum.inl (some (.int (0 : Int32))) ∧ w = (((ws.set 3 (o_coming, Sum.inr (4, (fs_coming.set 1 (.int (if (2040 : Int32) < (0 : Int32) then (2040 : Int32) else (0 : Int32))))))).set 22 (o_ends, Sum.inl (rn_k G 1, 18, Sum.inl (upd (fun _ => 0) ((1 : Int32)).toNatClampNeg (1 : Int32))))).set 62 (o_out, Sum.inl (rn_k G 2, 1, Sum.inr (Sum.inl (vp_updL (fun _ => 0) ((0 : Int32)).toNatClampNeg (1 : Int64)))))))) := by
  refine rn_lv [(0, .ref o_sg), (1, .int x), (2, .ref o_out)] rfl ?_
  refine rn_aload_n (i := 2) dL_come_0 rfl rfl ?_
  refine rn_iconst (v := (0 : Int32)) dL_come_1 (by decide) ?_
  refine rn_aload_n (i := 0) dL_come_2 rfl rfl ?_
  refine rn_iload_n (i := 1) dL_come_3 rfl rfl ?_
  refine rn_callV (a := 0) (b := 0) [.int x] kl_SGLaw_65 dL_come_4 0 h_sg rfl (c_X9_come G _ (o_sg := o_sg) (k := x) (fs_sg := fs_sg) (o_tape := o_tape) (o_coming := o_coming) (o_ends := o_ends) (fs_tape := fs_tape) (fs_coming := fs_coming) h_sg hf_sg_1 hf_sg_2 hf_sg_15 h_tape hf_tape_1 h_coming hf_coming_1 h_ends) rfl rfl (Nat.le_of_ble_eq_true rfl) (Nat.le_of_ble_eq_true rfl) (Nat.le_of_ble_eq_true rfl) (Nat.le_of_ble_eq_true rfl) (Nat.le_of_ble_eq_true rfl) (Nat.le_of_ble_eq_true rfl) ?_ ?_
  · rintro E w h
    rcases h with ⟨hc, hr, hw⟩ | ⟨hc, hr, hw⟩
    · cases hr
    · have hc1 := hc; clear hc; cases hr; subst hw
      refine rnx_catch [] ⟨0, 9, 12, 19⟩ [] rfl (fun y hy => nomatch hy) (by decide) (by decide) wd_334 wd_341 (fun q2 => ?_)
      refine rn_astore_n dL_come_12 rfl (by decide) [(0, .ref o_sg), (1, .int x), (2, .ref o_out), (3, .ref q2)] rfl ?_
      refine rn_iconst (v := (1 : Int32)) dL_come_13 (by decide) ?_
      exact rn_iret dL_come_14 rfl rfl (Or.inl ⟨hc1, rfl, rfl⟩)
  · rintro v w h
    rcases h with ⟨hc, hr, hw⟩ | ⟨hc, hr, hw⟩
    · have hc3 := hc; clear hc; cases hr; subst hw
      refine rn_stk [.int (1 : Int32), .int (0 : Int32), .ref o_out] rfl ?_
      refine rn_i2l dL_come_7 rfl ?_
      refine rn_topl (1 : Int64) (by decide) ?_
      refine rn_last 62 2 (ls_ne (by decide) (ls_ne (by decide) h_out)) rfl (by unfold vp_in; decide) dL_come_8 ?_
      refine rn_goto (tgt := 15) dL_come_9 (by decide) ?_
      refine rn_iconst (v := (0 : Int32)) dL_come_15 (by decide) ?_
      exact rn_iret dL_come_16 rfl rfl (Or.inr ⟨hc3, rfl, rfl⟩)
    · cases hr
set_option maxRecDepth 20000 in
set_option maxHeartbeats 4000000 in
theorem c_L_meaning (G : rn_G) (ws : va_W) (o_sg : Nat) (x : Int32) (o_out : Nat) (fs_sg : List Value) (o_tape : Nat) (o_coming : Nat) (fs_tape : List Value) (fs_coming : List Value) (h_sg : ws[0]? = some (o_sg, Sum.inr (9, fs_sg))) (hf_sg_1 : fs_sg[1]? = some (.ref o_tape)) (hf_sg_2 : fs_sg[2]? = some (.ref o_coming)) (h_tape : ws[1]? = some (o_tape, Sum.inr (4, fs_tape))) (hf_tape_1 : fs_tape[1]? = some (.int (0 : Int32))) (h_coming : ws[3]? = some (o_coming, Sum.inr (4, fs_coming))) (hf_coming_1 : fs_coming[1]? = some (.int (0 : Int32))) (h_out : ws[62]? = some (o_out, Sum.inl (rn_k G 2, 1, Sum.inr (Sum.inl (fun _ => 0))))) : Rn G mL_meaning 7 111 1 6 0 (lv_args 0 [.ref o_sg, .int x, .ref o_out]) [] ws (fun r w => ((((¬ (x = (0 : Int32)) ∧ ¬ (x = (1 : Int32))))) ∧ r = Sum.inl (some (.int (1 : Int32))) ∧ w = ws) ∨ (((((x = (0 : Int32)) ∨ (¬ (x = (0 : Int32)) ∧ x = (1 : Int32))) ∧ (((0 : Int32) ≤ (0 : Int32)) ∧ ((0 : Int32) ≤ (0 : Int32))) ∧ ((if (2040 : Int32) < (0 : Int32) then (2040 : Int32) else (0 : Int32)) < (20 : Int32)))) ∧ r = Sum.inl (some (.int (0 : Int32))) ∧ w = ((ws.set 3 (o_coming, Sum.inr (4, (fs_coming.set 1 (.int (if (2040 : Int32) < (0 : Int32) then (2040 : Int32) else (0 : Int32))))))).set 62 (o_out, Sum.inl (rn_k G 2, 1, Sum.inr (Sum.inl (vp_updL (fun _ => 0) ((0 : Int32)).toNatClampNeg (-1 : Int64)))))))) := by
  refine rn_lv [(0, .ref o_sg), (1, .int x), (2, .ref o_out)] rfl ?_
  refine rn_aload_n (i := 2) dL_meaning_0 rfl rfl ?_
  refine rn_iconst (v := (0 : Int32)) dL_meaning_1 (by decide) ?_
  refine rn_aload_n (i := 0) dL_meaning_2 rfl rfl ?_
  refine rn_iload_n (i := 1) dL_meaning_3 rfl rfl ?_
  refine rn_callV (a := 0) (b := 0) [.int x] kl_SGLaw_68 dL_meaning_4 0 h_sg rfl (c_X9_meaning G _ (o_sg := o_sg) (k := x) (fs_sg := fs_sg) (o_tape := o_tape) (o_coming := o_coming) (fs_tape := fs_tape) (fs_coming := fs_coming) h_sg hf_sg_1 hf_sg_2 h_tape hf_tape_1 h_coming hf_coming_1) rfl rfl (Nat.le_of_ble_eq_true rfl) (Nat.le_of_ble_eq_true rfl) (Nat.le_of_ble_eq_true rfl) (Nat.le_of_ble_eq_true rfl) (Nat.le_of_ble_eq_true rfl) (Nat.le_of_ble_eq_true rfl) ?_ ?_
  · rintro E w h
    rcases h with ⟨hc, hr, hw⟩ | ⟨hc, hr, hw⟩
    · cases hr
    · have hc1 := hc; clear hc; cases hr; subst hw
      refine rnx_catch [] ⟨0, 9, 12, 19⟩ [] rfl (fun y hy => nomatch hy) (by decide) (by decide) wd_334 wd_341 (fun q2 => ?_)
      refine rn_astore_n dL_meaning_12 rfl (by decide) [(0, .ref o_sg), (1, .int x), (2, .ref o_out), (3, .ref q2)] rfl ?_
      refine rn_iconst (v := (1 : Int32)) dL_meaning_13 (by decide) ?_
      exact rn_iret dL_meaning_14 rfl rfl (Or.inl ⟨hc1, rfl, rfl⟩)
  · rintro v w h
    rcases h with ⟨hc, hr, hw⟩ | ⟨hc, hr, hw⟩
    · have hc3 := hc; clear hc; cases hr; subst hw
      refine rn_stk [.int (-1 : Int32), .int (0 : Int32), .ref o_out] rfl ?_
      refine rn_i2l dL_meaning_7 rfl ?_
      refine rn_topl (-1 : Int64) (by decide) ?_
      refine rn_last 62 2 (ls_ne (by decide) h_out) rfl (by unfold vp_in; decide) dL_meaning_8 ?_
      refine rn_goto (tgt := 15) dL_meaning_9 (by decide) ?_
      refine rn_iconst (v := (0 : Int32)) dL_meaning_15 (by decide) ?_
      exact rn_iret dL_meaning_16 rfl rfl (Or.inr ⟨hc3, rfl, rfl⟩)
    · cases hr
set_option maxRecDepth 20000 in
set_option maxHeartbeats 4000000 in
theorem c_L_take (G : rn_G) (ws : va_W) (o_sg : Nat) (x : Int32) (o_out : Nat) (fs_sg : List Value) (o_sentF : Nat) (o_sentS : Nat) (fs_sentF : List Value) (fs_sentS : List Value) (h_sg : ws[0]? = some (o_sg, Sum.inr (9, fs_sg))) (hf_sg_4 : fs_sg[4]? = some (.ref o_sentF)) (hf_sg_5 : fs_sg[5]? = some (.ref o_sentS)) (h_sentF : ws[7]? = some (o_sentF, Sum.inr (4, fs_sentF))) (hf_sentF_1 : fs_sentF[1]? = some (.int (0 : Int32))) (h_sentS : ws[9]? = some (o_sentS, Sum.inr (4, fs_sentS))) (hf_sentS_1 : fs_sentS[1]? = some (.int (0 : Int32))) : Rn G mL_take 8 133 2 12 0 (lv_args 0 [.ref o_sg, .int x, .ref o_out]) [] ws (fun r w => ((((¬ (x = (0 : Int32)) ∧ ¬ (x = (1 : Int32))))) ∧ r = Sum.inl (some (.int (1 : Int32))) ∧ w = ws) ∨ (((((x = (0 : Int32) ∧ x = (0 : Int32))) ∨ ((¬ (x = (0 : Int32)) ∧ x = (1 : Int32) ∧ ¬ (x = (0 : Int32)))))) ∧ r = Sum.inl (some (.int (2 : Int32))) ∧ w = ws)) := by
  refine rn_lv [(0, .ref o_sg), (1, .int x), (2, .ref o_out)] rfl ?_
  refine rn_aload_n (i := 2) dL_take_0 rfl rfl ?_
  refine rn_iconst (v := (0 : Int32)) dL_take_1 (by decide) ?_
  refine rn_aload_n (i := 0) dL_take_2 rfl rfl ?_
  refine rn_iload_n (i := 1) dL_take_3 rfl rfl ?_
  refine rn_callV (a := 0) (b := 0) [.int x] kl_SGLaw_74 dL_take_4 0 h_sg rfl (c_X9_take G _ (o_sg := o_sg) (k := x) (fs_sg := fs_sg) (o_sentF := o_sentF) (o_sentS := o_sentS) (fs_sentF := fs_sentF) (fs_sentS := fs_sentS) h_sg hf_sg_4 hf_sg_5 h_sentF hf_sentF_1 h_sentS hf_sentS_1) rfl rfl (Nat.le_of_ble_eq_true rfl) (Nat.le_of_ble_eq_true rfl) (Nat.le_of_ble_eq_true rfl) (Nat.le_of_ble_eq_true rfl) (Nat.le_of_ble_eq_true rfl) (Nat.le_of_ble_eq_true rfl) ?_ ?_
  · rintro E w h
    rcases h with ⟨hc, hr, hw⟩ | ⟨hc, hr, hw⟩
    · have hc1 := hc; clear hc; cases hr; subst hw
      refine rnx_catch [] ⟨0, 9, 12, 25⟩ [⟨0, 9, 15, 13⟩] rfl (fun y hy => nomatch hy) (by decide) (by decide) wd_358 wd_369 (fun q2 => ?_)
      refine rn_astore_n dL_take_12 rfl (by decide) [(0, .ref o_sg), (1, .int x), (2, .ref o_out), (3, .ref q2)] rfl ?_
      refine rn_iconst (v := (1 : Int32)) dL_take_13 (by decide) ?_
      exact rn_iret dL_take_14 rfl rfl (Or.inl ⟨hc1, rfl, rfl⟩)
    · have hc3 := hc; clear hc; cases hr; subst hw
      refine rnx_catch [⟨0, 9, 12, 25⟩] ⟨0, 9, 15, 13⟩ [] rfl (fun y hy => (List.mem_cons.mp hy).elim (fun e => by rw [e]; exact ⟨by decide, "java/lang/IndexOutOfBoundsException", wd_358, by decide⟩) ((fun y hy => absurd hy List.not_mem_nil) y)) (by decide) (by decide) wd_243 wd_254 (fun q4 => ?_)
      refine rn_astore_n dL_take_15 rfl (by decide) [(0, .ref o_sg), (1, .int x), (2, .ref o_out), (3, .ref q4)] rfl ?_
      refine rn_iconst (v := (2 : Int32)) dL_take_16 (by decide) ?_
      exact rn_iret dL_take_17 rfl rfl (Or.inr ⟨hc3, rfl, rfl⟩)
  · rintro v w h
    rcases h with ⟨hc, hr, hw⟩ | ⟨hc, hr, hw⟩
    · cases hr
    · cases hr
set_option maxRecDepth 20000 in
set_option maxHeartbeats 4000000 in
theorem c_L_top (G : rn_G) (ws : va_W) (o_sg : Nat) (x : Int32) (o_out : Nat) (fs_sg : List Value) (h_sg : ws[0]? = some (o_sg, Sum.inr (9, fs_sg))) (hf_sg_11 : fs_sg[11]? = some (.int (0 : Int32))) : Rn G mL_top 8 133 1 6 0 (lv_args 0 [.ref o_sg, .int x, .ref o_out]) [] ws (fun r w => (((((x < (0 : Int32)) ∨ (¬ (x < (0 : Int32)) ∧ (0 : Int32) ≤ x)))) ∧ r = Sum.inl (some (.int (1 : Int32))) ∧ w = ws)) := by
  refine rn_lv [(0, .ref o_sg), (1, .int x), (2, .ref o_out)] rfl ?_
  refine rn_aload_n (i := 2) dL_top_0 rfl rfl ?_
  refine rn_iconst (v := (0 : Int32)) dL_top_1 (by decide) ?_
  refine rn_aload_n (i := 0) dL_top_2 rfl rfl ?_
  refine rn_iload_n (i := 1) dL_top_3 rfl rfl ?_
  refine rn_callV (a := 0) (b := 0) [.int x] kl_SGLaw_80 dL_top_4 0 h_sg rfl (c_X9_top G _ (o_sg := o_sg) (k := x) (fs_sg := fs_sg) h_sg hf_sg_11) rfl rfl (Nat.le_of_ble_eq_true rfl) (Nat.le_of_ble_eq_true rfl) (Nat.le_of_ble_eq_true rfl) (Nat.le_of_ble_eq_true rfl) (Nat.le_of_ble_eq_true rfl) (Nat.le_of_ble_eq_true rfl) ?_ ?_
  · rintro E w h
    rcases h with ⟨hc, hr, hw⟩
    · have hc1 := hc; clear hc; cases hr; subst hw
      refine rnx_catch [] ⟨0, 8, 11, 25⟩ [] rfl (fun y hy => nomatch hy) (by decide) (by decide) wd_358 wd_369 (fun q2 => ?_)
      refine rn_astore_n dL_top_11 rfl (by decide) [(0, .ref o_sg), (1, .int x), (2, .ref o_out), (3, .ref q2)] rfl ?_
      refine rn_iconst (v := (1 : Int32)) dL_top_12 (by decide) ?_
      exact rn_iret dL_top_13 rfl rfl ⟨hc1, rfl, rfl⟩
  · rintro v w h
    obtain ⟨_, hr, _⟩ := h; cases hr
set_option maxRecDepth 20000 in
set_option maxHeartbeats 4000000 in
theorem c_L_seen (G : rn_G) (ws : va_W) (o_sg : Nat) (x : Int32) (o_out : Nat) (fs_sg : List Value) (h_sg : ws[0]? = some (o_sg, Sum.inr (9, fs_sg))) (hf_sg_11 : fs_sg[11]? = some (.int (0 : Int32))) : Rn G mL_seen 8 133 1 6 0 (lv_args 0 [.ref o_sg, .int x, .ref o_out]) [] ws (fun r w => (((((x < (0 : Int32)) ∨ (¬ (x < (0 : Int32)) ∧ (0 : Int32) ≤ x)))) ∧ r = Sum.inl (some (.int (1 : Int32))) ∧ w = ws)) := by
  refine rn_lv [(0, .ref o_sg), (1, .int x), (2, .ref o_out)] rfl ?_
  refine rn_aload_n (i := 2) dL_seen_0 rfl rfl ?_
  refine rn_iconst (v := (0 : Int32)) dL_seen_1 (by decide) ?_
  refine rn_aload_n (i := 0) dL_seen_2 rfl rfl ?_
  refine rn_iload_n (i := 1) dL_seen_3 rfl rfl ?_
  refine rn_callV (a := 0) (b := 0) [.int x] kl_SGLaw_84 dL_seen_4 0 h_sg rfl (c_X9_seen G _ (o_sg := o_sg) (k := x) (fs_sg := fs_sg) h_sg hf_sg_11) rfl rfl (Nat.le_of_ble_eq_true rfl) (Nat.le_of_ble_eq_true rfl) (Nat.le_of_ble_eq_true rfl) (Nat.le_of_ble_eq_true rfl) (Nat.le_of_ble_eq_true rfl) (Nat.le_of_ble_eq_true rfl) ?_ ?_
  · rintro E w h
    rcases h with ⟨hc, hr, hw⟩
    · have hc1 := hc; clear hc; cases hr; subst hw
      refine rnx_catch [] ⟨0, 8, 11, 25⟩ [] rfl (fun y hy => nomatch hy) (by decide) (by decide) wd_358 wd_369 (fun q2 => ?_)
      refine rn_astore_n dL_seen_11 rfl (by decide) [(0, .ref o_sg), (1, .int x), (2, .ref o_out), (3, .ref q2)] rfl ?_
      refine rn_iconst (v := (1 : Int32)) dL_seen_12 (by decide) ?_
      exact rn_iret dL_seen_13 rfl rfl ⟨hc1, rfl, rfl⟩
  · rintro v w h
    obtain ⟨_, hr, _⟩ := h; cases hr
set_option maxRecDepth 20000 in
set_option maxHeartbeats 4000000 in
theorem c_L_ended (G : rn_G) (ws : va_W) (o_sg : Nat) (x : Int32) (o_out : Nat) (fs_sg : List Value) (o_heaps : Nat) (o_ends : Nat) (fs_heaps : List Value) (h_sg : ws[0]? = some (o_sg, Sum.inr (9, fs_sg))) (hf_sg_11 : fs_sg[11]? = some (.int (0 : Int32))) (hf_sg_12 : fs_sg[12]? = some (.int (0 : Int32))) (hf_sg_13 : fs_sg[13]? = some (.ref o_heaps)) (hf_sg_15 : fs_sg[15]? = some (.ref o_ends)) (h_heaps : ws[18]? = some (o_heaps, Sum.inr (1, fs_heaps))) (hf_heaps_1 : fs_heaps[1]? = some (.int (0 : Int32))) (h_ends : ws[22]? = some (o_ends, Sum.inl (rn_k G 1, 18, Sum.inl (fun _ => 0)))) (h_out : ws[62]? = some (o_out, Sum.inl (rn_k G 2, 1, Sum.inr (Sum.inl (fun _ => 0))))) : Rn G mL_ended 7 111 1 6 0 (lv_args 0 [.ref o_sg, .int x, .ref o_out]) [] ws (fun r w => ((((x < (0 : Int32)) ∨ (¬ (x < (0 : Int32)) ∧ (18 : Int32) ≤ x ∧ ¬ (x = (18 : Int32)) ∧ ¬ (x = (19 : Int32)) ∧ ¬ (x = (20 : Int32))))) ∧ r = Sum.inl (some (.int (1 : Int32))) ∧ w = ws) ∨ ((((¬ (x < (0 : Int32)) ∧ (18 : Int32) ≤ x ∧ x = (18 : Int32)) ∨ (¬ (x < (0 : Int32)) ∧ (18 : Int32) ≤ x ∧ ¬ (x = (18 : Int32)) ∧ x = (19 : Int32)) ∨ (¬ (x < (0 : Int32)) ∧ (18 : Int32) ≤ x ∧ ¬ (x = (18 : Int32)) ∧ ¬ (x = (19 : Int32)) ∧ x = (20 : Int32)) ∨ (¬ (x < (0 : Int32)) ∧ ¬ ((18 : Int32) ≤ x)))) ∧ r = Sum.inl (some (.int (0 : Int32))) ∧ w = (ws.set 62 (o_out, Sum.inl (rn_k G 2, 1, Sum.inr (Sum.inl (vp_updL (fun _ => 0) ((0 : Int32)).toNatClampNeg (0 : Int64)))))))) := by
  refine rn_lv [(0, .ref o_sg), (1, .int x), (2, .ref o_out)] rfl ?_
  refine rn_aload_n (i := 2) dL_ended_0 rfl rfl ?_
  refine rn_iconst (v := (0 : Int32)) dL_ended_1 (by decide) ?_
  refine rn_aload_n (i := 0) dL_ended_2 rfl rfl ?_
  refine rn_iload_n (i := 1) dL_ended_3 rfl rfl ?_
  refine rn_callV (a := 0) (b := 0) [.int x] kl_SGLaw_90 dL_ended_4 0 h_sg rfl (c_X9_ended G _ (o_sg := o_sg) (k := x) (fs_sg := fs_sg) (o_heaps := o_heaps) (o_ends := o_ends) (fs_heaps := fs_heaps) h_sg hf_sg_11 hf_sg_12 hf_sg_13 hf_sg_15 h_heaps hf_heaps_1 h_ends) rfl rfl (Nat.le_of_ble_eq_true rfl) (Nat.le_of_ble_eq_true rfl) (Nat.le_of_ble_eq_true rfl) (Nat.le_of_ble_eq_true rfl) (Nat.le_of_ble_eq_true rfl) (Nat.le_of_ble_eq_true rfl) ?_ ?_
  · rintro E w h
    rcases h with ⟨hc, hr, hw⟩ | ⟨hc, hr, hw⟩
    · have hc1 := hc; clear hc; cases hr; subst hw
      refine rnx_catch [] ⟨0, 9, 12, 25⟩ [] rfl (fun y hy => nomatch hy) (by decide) (by decide) wd_358 wd_369 (fun q2 => ?_)
      refine rn_astore_n dL_ended_12 rfl (by decide) [(0, .ref o_sg), (1, .int x), (2, .ref o_out), (3, .ref q2)] rfl ?_
      refine rn_iconst (v := (1 : Int32)) dL_ended_13 (by decide) ?_
      exact rn_iret dL_ended_14 rfl rfl (Or.inl ⟨hc1, rfl, rfl⟩)
    · cases hr
  · rintro v w h
    rcases h with ⟨hc, hr, hw⟩ | ⟨hc, hr, hw⟩
    · cases hr
    · have hc3 := hc; clear hc; cases hr; subst hw
      refine rn_stk [.int (0 : Int32), .int (0 : Int32), .ref o_out] rfl ?_
      refine rn_i2l dL_ended_7 rfl ?_
      refine rn_topl (0 : Int64) (by decide) ?_
      refine rn_last 62 2 h_out rfl (by unfold vp_in; decide) dL_ended_8 ?_
      refine rn_goto (tgt := 15) dL_ended_9 (by decide) ?_
      refine rn_iconst (v := (0 : Int32)) dL_ended_15 (by decide) ?_
      exact rn_iret dL_ended_16 rfl rfl (Or.inr ⟨hc3, rfl, rfl⟩)
set_option maxRecDepth 20000 in
set_option maxHeartbeats 4000000 in
theorem c_L_sent (G : rn_G) (ws : va_W) (o_sg : Nat) (x : Int32) (y : Int32) (o_out : Nat) (fs_sg : List Value) (o_sentF : Nat) (o_sentS : Nat) (fs_sentF : List Value) (fs_sentS : List Value) (h_sg : ws[0]? = some (o_sg, Sum.inr (9, fs_sg))) (hf_sg_4 : fs_sg[4]? = some (.ref o_sentF)) (hf_sg_5 : fs_sg[5]? = some (.ref o_sentS)) (h_sentF : ws[7]? = some (o_sentF, Sum.inr (4, fs_sentF))) (hf_sentF_1 : fs_sentF[1]? = some (.int (0 : Int32))) (h_sentS : ws[9]? = some (o_sentS, Sum.inr (4, fs_sentS))) (hf_sentS_1 : fs_sentS[1]? = some (.int (0 : Int32))) (h_out : ws[62]? = some (o_out, Sum.inl (rn_k G 2, 1, Sum.inr (Sum.inl (fun _ => 0))))) : Rn G mL_sent 8 134 2 12 0 (lv_args 0 [.ref o_sg, .int x, .int y, .ref o_out]) [] ws (fun r w => (((((¬ (x = (0 : Int32)) ∧ ¬ (x = (1 : Int32)))) ∨ ((x = (0 : Int32) ∧ x = (0 : Int32)) ∧ ¬ (y = (-1 : Int32)) ∧ ¬ (y = (-2 : Int32)) ∧ y < (0 : Int32)) ∨ ((x = (0 : Int32) ∧ x = (0 : Int32)) ∧ ¬ (y = (-1 : Int32)) ∧ ¬ (y = (-2 : Int32)) ∧ ¬ (y < (0 : Int32)) ∧ ¬ (y < (0 : Int32))) ∨ ((¬ (x = (0 : Int32)) ∧ x = (1 : Int32) ∧ ¬ (x = (0 : Int32))) ∧ ¬ (y = (-1 : Int32)) ∧ ¬ (y = (-2 : Int32)) ∧ y < (0 : Int32)) ∨ ((¬ (x = (0 : Int32)) ∧ x = (1 : Int32) ∧ ¬ (x = (0 : Int32))) ∧ ¬ (y = (-1 : Int32)) ∧ ¬ (y = (-2 : Int32)) ∧ ¬ (y < (0 : Int32)) ∧ ¬ (y < (0 : Int32))))) ∧ r = Sum.inl (some (.int (1 : Int32))) ∧ w = ws) ∨ (((((x = (0 : Int32) ∧ x = (0 : Int32)) ∧ ¬ (y = (-1 : Int32)) ∧ y = (-2 : Int32)) ∨ ((¬ (x = (0 : Int32)) ∧ x = (1 : Int32) ∧ ¬ (x = (0 : Int32))) ∧ ¬ (y = (-1 : Int32)) ∧ y = (-2 : Int32)))) ∧ r = Sum.inl (some (.int (0 : Int32))) ∧ w = (ws.set 62 (o_out, Sum.inl (rn_k G 2, 1, Sum.inr (Sum.inl (vp_updL (fun _ => 0) ((0 : Int32)).toNatClampNeg (-1 : Int64))))))) ∨ (((((x = (0 : Int32) ∧ x = (0 : Int32)) ∧ y = (-1 : Int32)) ∨ ((¬ (x = (0 : Int32)) ∧ x = (1 : Int32) ∧ ¬ (x = (0 : Int32))) ∧ y = (-1 : Int32)))) ∧ r = Sum.inl (some (.int (0 : Int32))) ∧ w = (ws.set 62 (o_out, Sum.inl (rn_k G 2, 1, Sum.inr (Sum.inl (vp_updL (fun _ => 0) ((0 : Int32)).toNatClampNeg (0 : Int64)))))))) := by
  refine rn_lv [(0, .ref o_sg), (1, .int x), (2, .int y), (3, .ref o_out)] rfl ?_
  refine rn_aload_n (i := 3) dL_sent_0 rfl rfl ?_
  refine rn_iconst (v := (0 : Int32)) dL_sent_1 (by decide) ?_
  refine rn_aload_n (i := 0) dL_sent_2 rfl rfl ?_
  refine rn_iload_n (i := 1) dL_sent_3 rfl rfl ?_
  refine rn_iload_n (i := 2) dL_sent_4 rfl rfl ?_
  refine rn_callV (a := 0) (b := 0) [.int x, .int y] kl_SGLaw_71 dL_sent_5 0 h_sg rfl (c_X9_sent G _ (o_sg := o_sg) (k := x) (x := y) (fs_sg := fs_sg) (o_sentF := o_sentF) (o_sentS := o_sentS) (fs_sentF := fs_sentF) (fs_sentS := fs_sentS) h_sg hf_sg_4 hf_sg_5 h_sentF hf_sentF_1 h_sentS hf_sentS_1) rfl rfl (Nat.le_of_ble_eq_true rfl) (Nat.le_of_ble_eq_true rfl) (Nat.le_of_ble_eq_true rfl) (Nat.le_of_ble_eq_true rfl) (Nat.le_of_ble_eq_true rfl) (Nat.le_of_ble_eq_true rfl) ?_ ?_
  · rintro E w h
    rcases h with ⟨hc, hr, hw⟩ | ⟨hc, hr, hw⟩ | ⟨hc, hr, hw⟩
    · have hc1 := hc; clear hc; cases hr; subst hw
      refine rnx_catch [] ⟨0, 10, 13, 25⟩ [] rfl (fun y hy => nomatch hy) (by decide) (by decide) wd_358 wd_369 (fun q2 => ?_)
      refine rn_astore dL_sent_13 (by decide) [(0, .ref o_sg), (1, .int x), (2, .int y), (3, .ref o_out), (4, .ref q2)] rfl ?_
      refine rn_iconst (v := (1 : Int32)) dL_sent_15 (by decide) ?_
      exact rn_iret dL_sent_16 rfl rfl (Or.inl ⟨hc1, rfl, rfl⟩)
    · cases hr
    · cases hr
  · rintro v w h
    rcases h with ⟨hc, hr, hw⟩ | ⟨hc, hr, hw⟩ | ⟨hc, hr, hw⟩
    · cases hr
    · have hc3 := hc; clear hc; cases hr; subst hw
      refine rn_stk [.int (-1 : Int32), .int (0 : Int32), .ref o_out] rfl ?_
      refine rn_i2l dL_sent_8 rfl ?_
      refine rn_topl (-1 : Int64) (by decide) ?_
      refine rn_last 62 2 h_out rfl (by unfold vp_in; decide) dL_sent_9 ?_
      refine rn_goto (tgt := 17) dL_sent_10 (by decide) ?_
      refine rn_iconst (v := (0 : Int32)) dL_sent_17 (by decide) ?_
      exact rn_iret dL_sent_18 rfl rfl (Or.inr (Or.inl ⟨hc3, rfl, rfl⟩))
    · have hc4 := hc; clear hc; cases hr; subst hw
      refine rn_stk [.int (0 : Int32), .int (0 : Int32), .ref o_out] rfl ?_
      refine rn_i2l dL_sent_8 rfl ?_
      refine rn_topl (0 : Int64) (by decide) ?_
      refine rn_last 62 2 h_out rfl (by unfold vp_in; decide) dL_sent_9 ?_
      refine rn_goto (tgt := 17) dL_sent_10 (by decide) ?_
      refine rn_iconst (v := (0 : Int32)) dL_sent_17 (by decide) ?_
      exact rn_iret dL_sent_18 rfl rfl (Or.inr (Or.inr ⟨hc4, rfl, rfl⟩))
set_option maxRecDepth 20000 in
set_option maxHeartbeats 4000000 in
theorem c_L_told (G : rn_G) (ws : va_W) (o_sg : Nat) (x : Int32) (y : Int32) (o_out : Nat) (fs_sg : List Value) (h_sg : ws[0]? = some (o_sg, Sum.inr (9, fs_sg))) (hf_sg_11 : fs_sg[11]? = some (.int (0 : Int32))) : Rn G mL_told 8 135 1 6 0 (lv_args 0 [.ref o_sg, .int x, .int y, .ref o_out]) [] ws (fun r w => (((((x < (0 : Int32)) ∨ (¬ (x < (0 : Int32)) ∧ (0 : Int32) ≤ x)))) ∧ r = Sum.inl (some (.int (1 : Int32))) ∧ w = ws)) := by
  refine rn_lv [(0, .ref o_sg), (1, .int x), (2, .int y), (3, .ref o_out)] rfl ?_
  refine rn_aload_n (i := 3) dL_told_0 rfl rfl ?_
  refine rn_iconst (v := (0 : Int32)) dL_told_1 (by decide) ?_
  refine rn_aload_n (i := 0) dL_told_2 rfl rfl ?_
  refine rn_iload_n (i := 1) dL_told_3 rfl rfl ?_
  refine rn_iload_n (i := 2) dL_told_4 rfl rfl ?_
  refine rn_callV (a := 0) (b := 0) [.int x, .int y] kl_SGLaw_77 dL_told_5 0 h_sg rfl (c_X9_told G _ (o_sg := o_sg) (k := x) (x := y) (fs_sg := fs_sg) h_sg hf_sg_11) rfl rfl (Nat.le_of_ble_eq_true rfl) (Nat.le_of_ble_eq_true rfl) (Nat.le_of_ble_eq_true rfl) (Nat.le_of_ble_eq_true rfl) (Nat.le_of_ble_eq_true rfl) (Nat.le_of_ble_eq_true rfl) ?_ ?_
  · rintro E w h
    rcases h with ⟨hc, hr, hw⟩
    · have hc1 := hc; clear hc; cases hr; subst hw
      refine rnx_catch [] ⟨0, 10, 13, 25⟩ [] rfl (fun y hy => nomatch hy) (by decide) (by decide) wd_358 wd_369 (fun q2 => ?_)
      refine rn_astore dL_told_13 (by decide) [(0, .ref o_sg), (1, .int x), (2, .int y), (3, .ref o_out), (4, .ref q2)] rfl ?_
      refine rn_iconst (v := (1 : Int32)) dL_told_15 (by decide) ?_
      exact rn_iret dL_told_16 rfl rfl ⟨hc1, rfl, rfl⟩
  · rintro v w h
    obtain ⟨_, hr, _⟩ := h; cases hr
