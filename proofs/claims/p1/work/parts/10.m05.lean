set_option maxRecDepth 20000 in
set_option maxHeartbeats 4000000 in
theorem c_X10_seal_0 (G : rn_G) (ws : va_W) (o_m : Nat) (x : Int32) (y : Int32) (u : Int32) (y1 : Int64) (y2 : Int64) (x2 : Int32) (fs_m : List Value) (a_sealWay : Nat) (a_sealTunnel : Nat) (a_sealName : Nat) (a_sealKey : Nat) (a_sealStamp : Nat) (a_sealLong : Nat) (a_sealLife : Nat) (a_sealStopped : Nat) (a_sealTop : Nat) (a_sealSeen : Nat) (h_m : ws[23]? = some (o_m, Sum.inr (10, fs_m))) (hf_m_0 : fs_m[0]? = some (.int (0 : Int32))) (hf_m_22 : fs_m[22]? = some (.int (0 : Int32))) (hf_m_23 : fs_m[23]? = some (.ref a_sealWay)) (hf_m_24 : fs_m[24]? = some (.ref a_sealTunnel)) (hf_m_25 : fs_m[25]? = some (.ref a_sealName)) (hf_m_26 : fs_m[26]? = some (.ref a_sealKey)) (hf_m_27 : fs_m[27]? = some (.ref a_sealStamp)) (hf_m_28 : fs_m[28]? = some (.ref a_sealLong)) (hf_m_29 : fs_m[29]? = some (.ref a_sealLife)) (hf_m_30 : fs_m[30]? = some (.ref a_sealStopped)) (hf_m_31 : fs_m[31]? = some (.ref a_sealTop)) (hf_m_32 : fs_m[32]? = some (.ref a_sealSeen)) (h_m_sealWay : ws[38]? = some (a_sealWay, Sum.inl (rn_k G 1, 16, Sum.inl (fun _ => 0)))) (h_m_sealTunnel : ws[39]? = some (a_sealTunnel, Sum.inl (rn_k G 1, 16, Sum.inl (fun _ => 0)))) (h_m_sealName : ws[40]? = some (a_sealName, Sum.inl (rn_k G 1, 16, Sum.inl (fun _ => 0)))) (h_m_sealKey : ws[41]? = some (a_sealKey, Sum.inl (rn_k G 2, 16, Sum.inr (Sum.inl (fun _ => 0))))) (h_m_sealStamp : ws[42]? = some (a_sealStamp, Sum.inl (rn_k G 2, 16, Sum.inr (Sum.inl (fun _ => 0))))) (h_m_sealLong : ws[43]? = some (a_sealLong, Sum.inl (rn_k G 3, 16, Sum.inl (fun _ => 0)))) (h_m_sealLife : ws[44]? = some (a_sealLife, Sum.inl (rn_k G 1, 16, Sum.inl (fun _ => 0)))) (h_m_sealStopped : ws[45]? = some (a_sealStopped, Sum.inl (rn_k G 3, 16, Sum.inl (fun _ => 0)))) (h_m_sealTop : ws[46]? = some (a_sealTop, Sum.inl (rn_k G 2, 16, Sum.inr (Sum.inl (fun _ => 0))))) (h_m_sealSeen : ws[47]? = some (a_sealSeen, Sum.inl (rn_k G 2, 16, Sum.inr (Sum.inl (fun _ => 0))))) : Rn G mX10_seal 1 22 0 0 0 (lv_args 0 [.ref o_m, .int x, .int y, .int u, .long y1, .long y2, .int (0 : Int32), .int x2]) [] ws (fun r w => ((((y < (0 : Int32)) ∨ (¬ (y < (0 : Int32)) ∧ (3 : Int32) < y)) ∧ ((0 : Int32) = (0 : Int32) ∧ ¬ ((1 : Int32) = (0 : Int32)) ∧ ¬ ((1 : Int32) ≤ (0 : Int32)))) ∧ r = Sum.inl (some (.int (0 : Int32))) ∧ w = ((ws.set 23 (o_m, Sum.inr (10, (fs_m.set 0 (.int (0 : Int32)))))).set 23 (o_m, Sum.inr (10, ((fs_m.set 0 (.int (0 : Int32))).set 0 (.int (1 : Int32))))))) ∨ ((((¬ (y < (0 : Int32)) ∧ ¬ ((3 : Int32) < y)) ∧ ((¬ ((0 : Int32) = (0 : Int32)) ∧ (0 : Int32) ≤ (0 : Int32)) ∨ ((0 : Int32) = (0 : Int32) ∧ (0 : Int32) = (0 : Int32) ∧ (0 : Int32) ≤ (0 : Int32))) ∧ ((x < (0 : Int32)) ∨ (¬ (x < (0 : Int32)) ∧ (1 : Int32) < x)) ∧ ((0 : Int32) = (0 : Int32) ∧ ¬ ((1 : Int32) = (0 : Int32)) ∧ ¬ ((2 : Int32) ≤ (0 : Int32)))) ∨ ((¬ (y < (0 : Int32)) ∧ ¬ ((3 : Int32) < y)) ∧ ((¬ ((0 : Int32) = (0 : Int32)) ∧ (0 : Int32) ≤ (0 : Int32)) ∨ ((0 : Int32) = (0 : Int32) ∧ (0 : Int32) = (0 : Int32) ∧ (0 : Int32) ≤ (0 : Int32))) ∧ (¬ (x < (0 : Int32)) ∧ ¬ ((1 : Int32) < x)) ∧ u < (256 : Int32) ∧ ((0 : Int32) = (0 : Int32) ∧ ¬ ((1 : Int32) = (0 : Int32)) ∧ ¬ ((2 : Int32) ≤ (0 : Int32)))) ∨ ((¬ (y < (0 : Int32)) ∧ ¬ ((3 : Int32) < y)) ∧ ((¬ ((0 : Int32) = (0 : Int32)) ∧ (0 : Int32) ≤ (0 : Int32)) ∨ ((0 : Int32) = (0 : Int32) ∧ (0 : Int32) = (0 : Int32) ∧ (0 : Int32) ≤ (0 : Int32))) ∧ (¬ (x < (0 : Int32)) ∧ ¬ ((1 : Int32) < x)) ∧ ¬ (u < (256 : Int32)) ∧ ((x2 < (1 : Int32)) ∨ (¬ (x2 < (1 : Int32)) ∧ (1000000 : Int32) < x2)) ∧ ((0 : Int32) = (0 : Int32) ∧ ¬ ((1 : Int32) = (0 : Int32)) ∧ ¬ ((2 : Int32) ≤ (0 : Int32))))) ∧ r = Sum.inl (some (.int (0 : Int32))) ∧ w = ((ws.set 23 (o_m, Sum.inr (10, (fs_m.set 0 (.int (0 : Int32)))))).set 23 (o_m, Sum.inr (10, ((fs_m.set 0 (.int (0 : Int32))).set 0 (.int (2 : Int32))))))) ∨ ((((¬ (y < (0 : Int32)) ∧ ¬ ((3 : Int32) < y)) ∧ ((¬ ((0 : Int32) = (0 : Int32)) ∧ (0 : Int32) ≤ (0 : Int32)) ∨ ((0 : Int32) = (0 : Int32) ∧ (0 : Int32) = (0 : Int32) ∧ (0 : Int32) ≤ (0 : Int32))) ∧ (¬ (x < (0 : Int32)) ∧ ¬ ((1 : Int32) < x)) ∧ ¬ (u < (256 : Int32)) ∧ (¬ (x2 < (1 : Int32)) ∧ ¬ ((1000000 : Int32) < x2)) ∧ ((¬ ((0 : Int32) = (0 : Int32)) ∧ (0 : Int32) ≤ (0 : Int32)) ∨ ((0 : Int32) = (0 : Int32) ∧ (0 : Int32) = (0 : Int32) ∧ (0 : Int32) ≤ (0 : Int32))) ∧ ¬ (x = (1 : Int32)) ∧ ((¬ ((0 : Int32) = (0 : Int32)) ∧ (0 : Int32) ≤ (0 : Int32)) ∨ ((0 : Int32) = (0 : Int32) ∧ (0 : Int32) = (0 : Int32) ∧ (0 : Int32) ≤ (0 : Int32)))) ∨ ((¬ (y < (0 : Int32)) ∧ ¬ ((3 : Int32) < y)) ∧ ((¬ ((0 : Int32) = (0 : Int32)) ∧ (0 : Int32) ≤ (0 : Int32)) ∨ ((0 : Int32) = (0 : Int32) ∧ (0 : Int32) = (0 : Int32) ∧ (0 : Int32) ≤ (0 : Int32))) ∧ (¬ (x < (0 : Int32)) ∧ ¬ ((1 : Int32) < x)) ∧ ¬ (u < (256 : Int32)) ∧ (¬ (x2 < (1 : Int32)) ∧ ¬ ((1000000 : Int32) < x2)) ∧ ((¬ ((0 : Int32) = (0 : Int32)) ∧ (0 : Int32) ≤ (0 : Int32)) ∨ ((0 : Int32) = (0 : Int32) ∧ (0 : Int32) = (0 : Int32) ∧ (0 : Int32) ≤ (0 : Int32))) ∧ x = (1 : Int32) ∧ ((¬ ((0 : Int32) = (0 : Int32)) ∧ (0 : Int32) ≤ (0 : Int32)) ∨ ((0 : Int32) = (0 : Int32) ∧ (0 : Int32) = (0 : Int32) ∧ (0 : Int32) ≤ (0 : Int32))))) ∧ r = Sum.inl (some (.int (0 : Int32))) ∧ w = ((((((((((((ws.set 23 (o_m, Sum.inr (10, (fs_m.set 0 (.int (0 : Int32)))))).set 38 (a_sealWay, Sum.inl (rn_k G 1, 16, Sum.inl (upd (fun _ => 0) ((0 : Int32)).toNatClampNeg x)))).set 39 (a_sealTunnel, Sum.inl (rn_k G 1, 16, Sum.inl (upd (fun _ => 0) ((0 : Int32)).toNatClampNeg y)))).set 40 (a_sealName, Sum.inl (rn_k G 1, 16, Sum.inl (upd (fun _ => 0) ((0 : Int32)).toNatClampNeg u)))).set 41 (a_sealKey, Sum.inl (rn_k G 2, 16, Sum.inr (Sum.inl (vp_updL (fun _ => 0) ((0 : Int32)).toNatClampNeg y1))))).set 42 (a_sealStamp, Sum.inl (rn_k G 2, 16, Sum.inr (Sum.inl (vp_updL (fun _ => 0) ((0 : Int32)).toNatClampNeg y2))))).set 43 (a_sealLong, Sum.inl (rn_k G 3, 16, Sum.inl (upd (fun _ => 0) ((0 : Int32)).toNatClampNeg (vp_nar .boolean (0 : Int32)))))).set 44 (a_sealLife, Sum.inl (rn_k G 1, 16, Sum.inl (upd (fun _ => 0) ((0 : Int32)).toNatClampNeg x2)))).set 45 (a_sealStopped, Sum.inl (rn_k G 3, 16, Sum.inl (upd (fun _ => 0) ((0 : Int32)).toNatClampNeg (vp_nar .boolean (0 : Int32)))))).set 46 (a_sealTop, Sum.inl (rn_k G 2, 16, Sum.inr (Sum.inl (vp_updL (fun _ => 0) ((0 : Int32)).toNatClampNeg (0 : Int64)))))).set 47 (a_sealSeen, Sum.inl (rn_k G 2, 16, Sum.inr (Sum.inl (vp_updL (fun _ => 0) ((0 : Int32)).toNatClampNeg (0 : Int64)))))).set 23 (o_m, Sum.inr (10, ((fs_m.set 0 (.int (0 : Int32))).set 22 (.int (1 : Int32)))))))) := by
  refine rn_lv [(0, .ref o_m), (1, .int x), (2, .int y), (3, .int u), (4, .long y1), (6, .long y2), (8, .int (0 : Int32)), (9, .int x2)] rfl ?_
  refine rn_aload_n (i := 0) dX10_seal_0 rfl rfl ?_
  refine rn_iconst (v := (0 : Int32)) dX10_seal_1 (by decide) ?_
  refine rn_put 23 (kp_SGModel_137 _) h_m (ls_lt hf_m_0) rfl rfl dX10_seal_2 ?_
  refine rn_aload_n (i := 0) dX10_seal_5 rfl rfl ?_
  refine rn_iload_n (i := 2) dX10_seal_6 rfl rfl ?_
  refine rn_iconst (v := (0 : Int32)) dX10_seal_7 (by decide) ?_
  refine rn_iconst (v := (3 : Int32)) dX10_seal_8 (by decide) ?_
  refine rn_callS (a := 0) (b := 0) [.int y, .int (0 : Int32), .int (3 : Int32)] kl_SGModel_179 dX10_seal_9 (c_X10_in G _ (x := y) (y := (0 : Int32)) (u := (3 : Int32))) rfl rfl (Nat.le_of_ble_eq_true rfl) (Nat.le_of_ble_eq_true rfl) (Nat.le_of_ble_eq_true rfl) (Nat.le_of_ble_eq_true rfl) (Nat.le_of_ble_eq_true rfl) (Nat.le_of_ble_eq_true rfl) (by rintro E w h; rcases h with ⟨_, hr, _⟩ | ⟨_, hr, _⟩ <;> cases hr) ?_
  rintro v w h
  rcases h with ⟨hc, hr, hw⟩ | ⟨hc, hr, hw⟩
  · have hc1 := hc; clear hc; cases hr; subst hw
    refine rn_stk [.int (0 : Int32), .ref o_m] rfl ?_
    refine rn_if_ne (tgt := 19) dX10_seal_12 (by decide) (fun h2 => absurd h2 (by decide)) (fun h2 => ?_)
    refine rn_iconst (v := (1 : Int32)) dX10_seal_15 (by decide) ?_
    refine rn_goto (tgt := 20) dX10_seal_16 (by decide) ?_
    refine rn_iconst (v := (1 : Int32)) dX10_seal_20 (by decide) ?_
    refine rn_callV (a := 0) (b := 0) [.int (1 : Int32), .int (1 : Int32)] kl_SGModel_171 dX10_seal_21 23 (ls_eq h_m) rfl (c_X10_refuses G _ (o_m := o_m) (x := (1 : Int32)) (y := (1 : Int32)) (fs_m := (fs_m.set 0 (.int (0 : Int32)))) (th := (0 : Int32)) (ls_eq h_m) (ls_eq hf_m_0)) rfl rfl (Nat.le_of_ble_eq_true rfl) (Nat.le_of_ble_eq_true rfl) (Nat.le_of_ble_eq_true rfl) (Nat.le_of_ble_eq_true rfl) (Nat.le_of_ble_eq_true rfl) (Nat.le_of_ble_eq_true rfl) (by rintro E w h; rcases h with ⟨_, hr, _⟩ | ⟨_, hr, _⟩ | ⟨_, hr, _⟩ | ⟨_, hr, _⟩ <;> cases hr) ?_
    rintro v w h
    rcases h with ⟨hc, hr, hw⟩ | ⟨hc, hr, hw⟩ | ⟨hc, hr, hw⟩ | ⟨hc, hr, hw⟩
    · have hc3 := hc; clear hc; cases hr; subst hw
      exact absurd hc3 (by decide)
    · have hc4 := hc; clear hc; cases hr; subst hw
      exact absurd hc4 (by decide)
    · have hc5 := hc; clear hc; cases hr; subst hw
      exact absurd hc5 (by decide)
    · have hc6 := hc; clear hc; cases hr; subst hw
      refine rn_stk [.int (1 : Int32)] rfl ?_
      refine rn_if_ne (tgt := 67) dX10_seal_24 (by decide) (fun h7 => ?_) (fun h7 => absurd h7 (by decide))
      refine rn_iconst (v := (0 : Int32)) dX10_seal_67 (by decide) ?_
      exact rn_iret dX10_seal_68 rfl rfl (Or.inl ⟨⟨hc1, hc6⟩, rfl, rfl⟩)
  · have hc8 := hc; clear hc; cases hr; subst hw
    refine rn_stk [.int (1 : Int32), .ref o_m] rfl ?_
    refine rn_if_ne (tgt := 19) dX10_seal_12 (by decide) (fun h9 => ?_) (fun h9 => absurd h9 (by decide))
    refine rn_iconst (v := (0 : Int32)) dX10_seal_19 (by decide) ?_
    refine rn_iconst (v := (1 : Int32)) dX10_seal_20 (by decide) ?_
    refine rn_callV (a := 0) (b := 0) [.int (0 : Int32), .int (1 : Int32)] kl_SGModel_171 dX10_seal_21 23 (ls_eq h_m) rfl (c_X10_refuses G _ (o_m := o_m) (x := (0 : Int32)) (y := (1 : Int32)) (fs_m := (fs_m.set 0 (.int (0 : Int32)))) (th := (0 : Int32)) (ls_eq h_m) (ls_eq hf_m_0)) rfl rfl (Nat.le_of_ble_eq_true rfl) (Nat.le_of_ble_eq_true rfl) (Nat.le_of_ble_eq_true rfl) (Nat.le_of_ble_eq_true rfl) (Nat.le_of_ble_eq_true rfl) (Nat.le_of_ble_eq_true rfl) (by rintro E w h; rcases h with ⟨_, hr, _⟩ | ⟨_, hr, _⟩ | ⟨_, hr, _⟩ | ⟨_, hr, _⟩ <;> cases hr) ?_
    rintro v w h
    rcases h with ⟨hc, hr, hw⟩ | ⟨hc, hr, hw⟩ | ⟨hc, hr, hw⟩ | ⟨hc, hr, hw⟩
    · have hc10 := hc; clear hc; cases hr; subst hw
      refine rn_stk [.int (0 : Int32)] rfl ?_
      refine rn_if_ne (tgt := 67) dX10_seal_24 (by decide) (fun h11 => absurd h11 (by decide)) (fun h11 => ?_)
      refine rn_aload_n (i := 0) dX10_seal_27 rfl rfl ?_
      refine rn_iload_n (i := 1) dX10_seal_28 rfl rfl ?_
      refine rn_iconst (v := (0 : Int32)) dX10_seal_29 (by decide) ?_
      refine rn_iconst (v := (1 : Int32)) dX10_seal_30 (by decide) ?_
      refine rn_callS (a := 0) (b := 0) [.int x, .int (0 : Int32), .int (1 : Int32)] kl_SGModel_179 dX10_seal_31 (c_X10_in G _ (x := x) (y := (0 : Int32)) (u := (1 : Int32))) rfl rfl (Nat.le_of_ble_eq_true rfl) (Nat.le_of_ble_eq_true rfl) (Nat.le_of_ble_eq_true rfl) (Nat.le_of_ble_eq_true rfl) (Nat.le_of_ble_eq_true rfl) (Nat.le_of_ble_eq_true rfl) (by rintro E w h; rcases h with ⟨_, hr, _⟩ | ⟨_, hr, _⟩ <;> cases hr) ?_
      rintro v w h
      rcases h with ⟨hc, hr, hw⟩ | ⟨hc, hr, hw⟩
      · have hc12 := hc; clear hc; cases hr; subst hw
        refine rn_stk [.int (0 : Int32), .ref o_m] rfl ?_
        refine rn_if_eq (tgt := 55) dX10_seal_34 (by decide) (fun h13 => ?_) (fun h13 => absurd h13 (by decide))
        refine rn_iconst (v := (1 : Int32)) dX10_seal_55 (by decide) ?_
        refine rn_goto (tgt := 60) dX10_seal_56 (by decide) ?_
        refine rn_iconst (v := (2 : Int32)) dX10_seal_60 (by decide) ?_
        refine rn_callV (a := 0) (b := 0) [.int (1 : Int32), .int (2 : Int32)] kl_SGModel_171 dX10_seal_61 23 (ls_eq h_m) rfl (c_X10_refuses G _ (o_m := o_m) (x := (1 : Int32)) (y := (2 : Int32)) (fs_m := (fs_m.set 0 (.int (0 : Int32)))) (th := (0 : Int32)) (ls_eq h_m) (ls_eq hf_m_0)) rfl rfl (Nat.le_of_ble_eq_true rfl) (Nat.le_of_ble_eq_true rfl) (Nat.le_of_ble_eq_true rfl) (Nat.le_of_ble_eq_true rfl) (Nat.le_of_ble_eq_true rfl) (Nat.le_of_ble_eq_true rfl) (by rintro E w h; rcases h with ⟨_, hr, _⟩ | ⟨_, hr, _⟩ | ⟨_, hr, _⟩ | ⟨_, hr, _⟩ <;> cases hr) ?_
        rintro v w h
        rcases h with ⟨hc, hr, hw⟩ | ⟨hc, hr, hw⟩ | ⟨hc, hr, hw⟩ | ⟨hc, hr, hw⟩
        · have hc14 := hc; clear hc; cases hr; subst hw
          exact absurd hc14 (by decide)
        · have hc15 := hc; clear hc; cases hr; subst hw
          exact absurd hc15 (by decide)
        · have hc16 := hc; clear hc; cases hr; subst hw
          exact absurd hc16 (by decide)
        · have hc17 := hc; clear hc; cases hr; subst hw
          refine rn_stk [.int (1 : Int32)] rfl ?_
          refine rn_if_eq (tgt := 69) dX10_seal_64 (by decide) (fun h18 => absurd h18 (by decide)) (fun h18 => ?_)
          refine rn_iconst (v := (0 : Int32)) dX10_seal_67 (by decide) ?_
          exact rn_iret dX10_seal_68 rfl rfl (Or.inr (Or.inl ⟨(Or.inl ⟨hc8, hc10, hc12, hc17⟩), rfl, rfl⟩))
      · have hc19 := hc; clear hc; cases hr; subst hw
        refine rn_stk [.int (1 : Int32), .ref o_m] rfl ?_
        refine rn_if_eq (tgt := 55) dX10_seal_34 (by decide) (fun h20 => absurd h20 (by decide)) (fun h20 => ?_)
        refine rn_iload_n (i := 3) dX10_seal_37 rfl rfl ?_
        refine rn_sipush (v := (256 : Int32)) dX10_seal_38 (by decide) ?_
        refine rn_icmp_lt (tgt := 55) dX10_seal_41 (by decide) (fun h21 => ?_) (fun h21 => ?_)
        · refine rn_iconst (v := (1 : Int32)) dX10_seal_55 (by decide) ?_
          refine rn_goto (tgt := 60) dX10_seal_56 (by decide) ?_
          refine rn_iconst (v := (2 : Int32)) dX10_seal_60 (by decide) ?_
          refine rn_callV (a := 0) (b := 0) [.int (1 : Int32), .int (2 : Int32)] kl_SGModel_171 dX10_seal_61 23 (ls_eq h_m) rfl (c_X10_refuses G _ (o_m := o_m) (x := (1 : Int32)) (y := (2 : Int32)) (fs_m := (fs_m.set 0 (.int (0 : Int32)))) (th := (0 : Int32)) (ls_eq h_m) (ls_eq hf_m_0)) rfl rfl (Nat.le_of_ble_eq_true rfl) (Nat.le_of_ble_eq_true rfl) (Nat.le_of_ble_eq_true rfl) (Nat.le_of_ble_eq_true rfl) (Nat.le_of_ble_eq_true rfl) (Nat.le_of_ble_eq_true rfl) (by rintro E w h; rcases h with ⟨_, hr, _⟩ | ⟨_, hr, _⟩ | ⟨_, hr, _⟩ | ⟨_, hr, _⟩ <;> cases hr) ?_
          rintro v w h
          rcases h with ⟨hc, hr, hw⟩ | ⟨hc, hr, hw⟩ | ⟨hc, hr, hw⟩ | ⟨hc, hr, hw⟩
          · have hc22 := hc; clear hc; cases hr; subst hw
            exact absurd hc22 (by decide)
          · have hc23 := hc; clear hc; cases hr; subst hw
            exact absurd hc23 (by decide)
          · have hc24 := hc; clear hc; cases hr; subst hw
            exact absurd hc24 (by decide)
          · have hc25 := hc; clear hc; cases hr; subst hw
            refine rn_stk [.int (1 : Int32)] rfl ?_
            refine rn_if_eq (tgt := 69) dX10_seal_64 (by decide) (fun h26 => absurd h26 (by decide)) (fun h26 => ?_)
            refine rn_iconst (v := (0 : Int32)) dX10_seal_67 (by decide) ?_
            exact rn_iret dX10_seal_68 rfl rfl (Or.inr (Or.inl ⟨(Or.inr (Or.inl ⟨hc8, hc10, hc19, h21, hc25⟩)), rfl, rfl⟩))
        · refine rn_iload dX10_seal_44 rfl ?_
          refine rn_iconst (v := (1 : Int32)) dX10_seal_46 (by decide) ?_
          refine rn_ldc (v := (1000000 : Int32)) wd_1338 dX10_seal_47 ?_
          refine rn_callS (a := 0) (b := 0) [.int x2, .int (1 : Int32), .int (1000000 : Int32)] kl_SGModel_179 dX10_seal_49 (c_X10_in G _ (x := x2) (y := (1 : Int32)) (u := (1000000 : Int32))) rfl rfl (Nat.le_of_ble_eq_true rfl) (Nat.le_of_ble_eq_true rfl) (Nat.le_of_ble_eq_true rfl) (Nat.le_of_ble_eq_true rfl) (Nat.le_of_ble_eq_true rfl) (Nat.le_of_ble_eq_true rfl) (by rintro E w h; rcases h with ⟨_, hr, _⟩ | ⟨_, hr, _⟩ <;> cases hr) ?_
          rintro v w h
          rcases h with ⟨hc, hr, hw⟩ | ⟨hc, hr, hw⟩
          · have hc27 := hc; clear hc; cases hr; subst hw
            refine rn_stk [.int (0 : Int32), .ref o_m] rfl ?_
            refine rn_if_ne (tgt := 59) dX10_seal_52 (by decide) (fun h28 => absurd h28 (by decide)) (fun h28 => ?_)
            refine rn_iconst (v := (1 : Int32)) dX10_seal_55 (by decide) ?_
            refine rn_goto (tgt := 60) dX10_seal_56 (by decide) ?_
            refine rn_iconst (v := (2 : Int32)) dX10_seal_60 (by decide) ?_
            refine rn_callV (a := 0) (b := 0) [.int (1 : Int32), .int (2 : Int32)] kl_SGModel_171 dX10_seal_61 23 (ls_eq h_m) rfl (c_X10_refuses G _ (o_m := o_m) (x := (1 : Int32)) (y := (2 : Int32)) (fs_m := (fs_m.set 0 (.int (0 : Int32)))) (th := (0 : Int32)) (ls_eq h_m) (ls_eq hf_m_0)) rfl rfl (Nat.le_of_ble_eq_true rfl) (Nat.le_of_ble_eq_true rfl) (Nat.le_of_ble_eq_true rfl) (Nat.le_of_ble_eq_true rfl) (Nat.le_of_ble_eq_true rfl) (Nat.le_of_ble_eq_true rfl) (by rintro E w h; rcases h with ⟨_, hr, _⟩ | ⟨_, hr, _⟩ | ⟨_, hr, _⟩ | ⟨_, hr, _⟩ <;> cases hr) ?_
            rintro v w h
            rcases h with ⟨hc, hr, hw⟩ | ⟨hc, hr, hw⟩ | ⟨hc, hr, hw⟩ | ⟨hc, hr, hw⟩
            · have hc29 := hc; clear hc; cases hr; subst hw
              exact absurd hc29 (by decide)
            · have hc30 := hc; clear hc; cases hr; subst hw
              exact absurd hc30 (by decide)
            · have hc31 := hc; clear hc; cases hr; subst hw
              exact absurd hc31 (by decide)
            · have hc32 := hc; clear hc; cases hr; subst hw
              refine rn_stk [.int (1 : Int32)] rfl ?_
              refine rn_if_eq (tgt := 69) dX10_seal_64 (by decide) (fun h33 => absurd h33 (by decide)) (fun h33 => ?_)
              refine rn_iconst (v := (0 : Int32)) dX10_seal_67 (by decide) ?_
              exact rn_iret dX10_seal_68 rfl rfl (Or.inr (Or.inl ⟨(Or.inr (Or.inr ⟨hc8, hc10, hc19, h21, hc27, hc32⟩)), rfl, rfl⟩))
          · have hc34 := hc; clear hc; cases hr; subst hw
            refine rn_stk [.int (1 : Int32), .ref o_m] rfl ?_
            refine rn_if_ne (tgt := 59) dX10_seal_52 (by decide) (fun h35 => ?_) (fun h35 => absurd h35 (by decide))
            refine rn_iconst (v := (0 : Int32)) dX10_seal_59 (by decide) ?_
            refine rn_iconst (v := (2 : Int32)) dX10_seal_60 (by decide) ?_
            refine rn_callV (a := 0) (b := 0) [.int (0 : Int32), .int (2 : Int32)] kl_SGModel_171 dX10_seal_61 23 (ls_eq h_m) rfl (c_X10_refuses G _ (o_m := o_m) (x := (0 : Int32)) (y := (2 : Int32)) (fs_m := (fs_m.set 0 (.int (0 : Int32)))) (th := (0 : Int32)) (ls_eq h_m) (ls_eq hf_m_0)) rfl rfl (Nat.le_of_ble_eq_true rfl) (Nat.le_of_ble_eq_true rfl) (Nat.le_of_ble_eq_true rfl) (Nat.le_of_ble_eq_true rfl) (Nat.le_of_ble_eq_true rfl) (Nat.le_of_ble_eq_true rfl) (by rintro E w h; rcases h with ⟨_, hr, _⟩ | ⟨_, hr, _⟩ | ⟨_, hr, _⟩ | ⟨_, hr, _⟩ <;> cases hr) ?_
            rintro v w h
            rcases h with ⟨hc, hr, hw⟩ | ⟨hc, hr, hw⟩ | ⟨hc, hr, hw⟩ | ⟨hc, hr, hw⟩
            · have hc36 := hc; clear hc; cases hr; subst hw
              refine rn_stk [.int (0 : Int32)] rfl ?_
              refine rn_if_eq (tgt := 69) dX10_seal_64 (by decide) (fun h37 => ?_) (fun h37 => absurd h37 (by decide))
              refine rn_aload_n (i := 0) dX10_seal_69 rfl rfl ?_
              refine rn_aload_n (i := 0) dX10_seal_70 rfl rfl ?_
              refine rn_get 23 kg_SGModel_200 (ls_eq h_m) (ls_ne (by decide) hf_m_22) dX10_seal_71 ?_
              refine rn_bipush (v := (16 : Int32)) dX10_seal_74 (by decide) ?_
              refine rn_icmp_eq (tgt := 92) dX10_seal_76 (by decide) (fun h38 => absurd h38 (by decide)) (fun h38 => ?_)
              refine rn_iload_n (i := 1) dX10_seal_79 rfl rfl ?_
              refine rn_iconst (v := (1 : Int32)) dX10_seal_80 (by decide) ?_
              refine rn_icmp_ne (tgt := 96) dX10_seal_81 (by decide) (fun h39 => ?_) (fun h39 => ?_)
              · refine rn_iconst (v := (0 : Int32)) dX10_seal_96 (by decide) ?_
                refine rn_iconst (v := (3 : Int32)) dX10_seal_97 (by decide) ?_
                refine rn_callV (a := 0) (b := 0) [.int (0 : Int32), .int (3 : Int32)] kl_SGModel_171 dX10_seal_98 23 (ls_eq h_m) rfl (c_X10_refuses G _ (o_m := o_m) (x := (0 : Int32)) (y := (3 : Int32)) (fs_m := (fs_m.set 0 (.int (0 : Int32)))) (th := (0 : Int32)) (ls_eq h_m) (ls_eq hf_m_0)) rfl rfl (Nat.le_of_ble_eq_true rfl) (Nat.le_of_ble_eq_true rfl) (Nat.le_of_ble_eq_true rfl) (Nat.le_of_ble_eq_true rfl) (Nat.le_of_ble_eq_true rfl) (Nat.le_of_ble_eq_true rfl) (by rintro E w h; rcases h with ⟨_, hr, _⟩ | ⟨_, hr, _⟩ | ⟨_, hr, _⟩ | ⟨_, hr, _⟩ <;> cases hr) ?_
                rintro v w h
                rcases h with ⟨hc, hr, hw⟩ | ⟨hc, hr, hw⟩ | ⟨hc, hr, hw⟩ | ⟨hc, hr, hw⟩
                · have hc40 := hc; clear hc; cases hr; subst hw
                  refine rn_stk [.int (0 : Int32)] rfl ?_
                  refine rn_if_eq (tgt := 106) dX10_seal_101 (by decide) (fun h41 => ?_) (fun h41 => absurd h41 (by decide))
                  refine rn_aload_n (i := 0) dX10_seal_106 rfl rfl ?_
                  refine rn_get 23 kg_SGModel_200 (ls_eq h_m) (ls_ne (by decide) hf_m_22) dX10_seal_107 ?_
                  refine rn_istore dX10_seal_110 (by decide) [(0, .ref o_m), (1, .int x), (2, .int y), (3, .int u), (4, .long y1), (6, .long y2), (8, .int (0 : Int32)), (9, .int x2), (10, .int (0 : Int32))] rfl ?_
                  refine rn_aload_n (i := 0) dX10_seal_112 rfl rfl ?_
                  refine rn_get 23 kg_SGModel_57 (ls_eq h_m) (ls_ne (by decide) hf_m_23) dX10_seal_113 ?_
                  refine rn_iload dX10_seal_116 rfl ?_
                  refine rn_iload_n (i := 1) dX10_seal_118 rfl rfl ?_
                  refine rn_iast 38 1 (ls_ne (by decide) h_m_sealWay) rfl (by unfold vp_in; decide) dX10_seal_119 ?_
                  refine rn_aload_n (i := 0) dX10_seal_120 rfl rfl ?_
                  refine rn_get 23 kg_SGModel_60 (ls_ne (by decide) (ls_eq h_m)) (ls_ne (by decide) hf_m_24) dX10_seal_121 ?_
                  refine rn_iload dX10_seal_124 rfl ?_
                  refine rn_iload_n (i := 2) dX10_seal_126 rfl rfl ?_
                  refine rn_iast 39 1 (ls_ne (by decide) (ls_ne (by decide) h_m_sealTunnel)) rfl (by unfold vp_in; decide) dX10_seal_127 ?_
                  refine rn_aload_n (i := 0) dX10_seal_128 rfl rfl ?_
                  refine rn_get 23 kg_SGModel_63 (ls_ne (by decide) (ls_ne (by decide) (ls_eq h_m))) (ls_ne (by decide) hf_m_25) dX10_seal_129 ?_
                  refine rn_iload dX10_seal_132 rfl ?_
                  refine rn_iload_n (i := 3) dX10_seal_134 rfl rfl ?_
                  refine rn_iast 40 1 (ls_ne (by decide) (ls_ne (by decide) (ls_ne (by decide) h_m_sealName))) rfl (by unfold vp_in; decide) dX10_seal_135 ?_
                  refine rn_aload_n (i := 0) dX10_seal_136 rfl rfl ?_
                  refine rn_get 23 kg_SGModel_66 (ls_ne (by decide) (ls_ne (by decide) (ls_ne (by decide) (ls_eq h_m)))) (ls_ne (by decide) hf_m_26) dX10_seal_137 ?_
                  refine rn_iload dX10_seal_140 rfl ?_
                  refine rn_lload dX10_seal_142 rfl ?_
                  refine rn_last 41 2 (ls_ne (by decide) (ls_ne (by decide) (ls_ne (by decide) (ls_ne (by decide) h_m_sealKey)))) rfl (by unfold vp_in; decide) dX10_seal_144 ?_
                  refine rn_aload_n (i := 0) dX10_seal_145 rfl rfl ?_
                  refine rn_get 23 kg_SGModel_70 (ls_ne (by decide) (ls_ne (by decide) (ls_ne (by decide) (ls_ne (by decide) (ls_eq h_m))))) (ls_ne (by decide) hf_m_27) dX10_seal_146 ?_
                  refine rn_iload dX10_seal_149 rfl ?_
                  refine rn_lload dX10_seal_151 rfl ?_
                  refine rn_last 42 2 (ls_ne (by decide) (ls_ne (by decide) (ls_ne (by decide) (ls_ne (by decide) (ls_ne (by decide) h_m_sealStamp))))) rfl (by unfold vp_in; decide) dX10_seal_153 ?_
                  refine rn_aload_n (i := 0) dX10_seal_154 rfl rfl ?_
                  refine rn_get 23 kg_SGModel_73 (ls_ne (by decide) (ls_ne (by decide) (ls_ne (by decide) (ls_ne (by decide) (ls_ne (by decide) (ls_eq h_m)))))) (ls_ne (by decide) hf_m_28) dX10_seal_155 ?_
                  refine rn_iload dX10_seal_158 rfl ?_
                  refine rn_iload dX10_seal_160 rfl ?_
                  refine rn_zast 43 3 (ls_ne (by decide) (ls_ne (by decide) (ls_ne (by decide) (ls_ne (by decide) (ls_ne (by decide) (ls_ne (by decide) h_m_sealLong)))))) rfl (by unfold vp_in; decide) dX10_seal_162 ?_
                  refine rn_aload_n (i := 0) dX10_seal_163 rfl rfl ?_
                  refine rn_get 23 kg_SGModel_77 (ls_ne (by decide) (ls_ne (by decide) (ls_ne (by decide) (ls_ne (by decide) (ls_ne (by decide) (ls_ne (by decide) (ls_eq h_m))))))) (ls_ne (by decide) hf_m_29) dX10_seal_164 ?_
                  refine rn_iload dX10_seal_167 rfl ?_
                  refine rn_iload dX10_seal_169 rfl ?_
                  refine rn_iast 44 1 (ls_ne (by decide) (ls_ne (by decide) (ls_ne (by decide) (ls_ne (by decide) (ls_ne (by decide) (ls_ne (by decide) (ls_ne (by decide) h_m_sealLife))))))) rfl (by unfold vp_in; decide) dX10_seal_171 ?_
                  refine rn_aload_n (i := 0) dX10_seal_172 rfl rfl ?_
                  refine rn_get 23 kg_SGModel_80 (ls_ne (by decide) (ls_ne (by decide) (ls_ne (by decide) (ls_ne (by decide) (ls_ne (by decide) (ls_ne (by decide) (ls_ne (by decide) (ls_eq h_m)))))))) (ls_ne (by decide) hf_m_30) dX10_seal_173 ?_
                  refine rn_iload dX10_seal_176 rfl ?_
                  refine rn_iconst (v := (0 : Int32)) dX10_seal_178 (by decide) ?_
                  refine rn_zast 45 3 (ls_ne (by decide) (ls_ne (by decide) (ls_ne (by decide) (ls_ne (by decide) (ls_ne (by decide) (ls_ne (by decide) (ls_ne (by decide) (ls_ne (by decide) h_m_sealStopped)))))))) rfl (by unfold vp_in; decide) dX10_seal_179 ?_
                  refine rn_aload_n (i := 0) dX10_seal_180 rfl rfl ?_
                  refine rn_get 23 kg_SGModel_83 (ls_ne (by decide) (ls_ne (by decide) (ls_ne (by decide) (ls_ne (by decide) (ls_ne (by decide) (ls_ne (by decide) (ls_ne (by decide) (ls_ne (by decide) (ls_eq h_m))))))))) (ls_ne (by decide) hf_m_31) dX10_seal_181 ?_
                  refine rn_iload dX10_seal_184 rfl ?_
                  refine rn_lconst (v := (0 : Int64)) dX10_seal_186 (by decide) ?_
                  refine rn_last 46 2 (ls_ne (by decide) (ls_ne (by decide) (ls_ne (by decide) (ls_ne (by decide) (ls_ne (by decide) (ls_ne (by decide) (ls_ne (by decide) (ls_ne (by decide) (ls_ne (by decide) h_m_sealTop))))))))) rfl (by unfold vp_in; decide) dX10_seal_187 ?_
                  refine rn_aload_n (i := 0) dX10_seal_188 rfl rfl ?_
                  refine rn_get 23 kg_SGModel_86 (ls_ne (by decide) (ls_ne (by decide) (ls_ne (by decide) (ls_ne (by decide) (ls_ne (by decide) (ls_ne (by decide) (ls_ne (by decide) (ls_ne (by decide) (ls_ne (by decide) (ls_eq h_m)))))))))) (ls_ne (by decide) hf_m_32) dX10_seal_189 ?_
                  refine rn_iload dX10_seal_192 rfl ?_
                  refine rn_lconst (v := (0 : Int64)) dX10_seal_194 (by decide) ?_
                  refine rn_last 47 2 (ls_ne (by decide) (ls_ne (by decide) (ls_ne (by decide) (ls_ne (by decide) (ls_ne (by decide) (ls_ne (by decide) (ls_ne (by decide) (ls_ne (by decide) (ls_ne (by decide) (ls_ne (by decide) h_m_sealSeen)))))))))) rfl (by unfold vp_in; decide) dX10_seal_195 ?_
                  refine rn_aload_n (i := 0) dX10_seal_196 rfl rfl ?_
                  refine rn_dup dX10_seal_197 rfl ?_
                  refine rn_get 23 kg_SGModel_200 (ls_ne (by decide) (ls_ne (by decide) (ls_ne (by decide) (ls_ne (by decide) (ls_ne (by decide) (ls_ne (by decide) (ls_ne (by decide) (ls_ne (by decide) (ls_ne (by decide) (ls_ne (by decide) (ls_eq h_m))))))))))) (ls_ne (by decide) hf_m_22) dX10_seal_198 ?_
                  refine rn_iconst (v := (1 : Int32)) dX10_seal_201 (by decide) ?_
                  refine rn_iadd dX10_seal_202 ?_
                  refine rn_topi (1 : Int32) (by decide) ?_
                  refine rn_put 23 (kp_SGModel_200 _) (ls_ne (by decide) (ls_ne (by decide) (ls_ne (by decide) (ls_ne (by decide) (ls_ne (by decide) (ls_ne (by decide) (ls_ne (by decide) (ls_ne (by decide) (ls_ne (by decide) (ls_ne (by decide) (ls_eq h_m))))))))))) (ls_lt (ls_ne (by decide) hf_m_22)) rfl rfl dX10_seal_203 ?_
                  refine rn_iload dX10_seal_206 rfl ?_
                  exact rn_iret dX10_seal_208 rfl rfl (Or.inr (Or.inr ⟨(Or.inl ⟨hc8, hc10, hc19, h21, hc34, hc36, h39, hc40⟩), rfl, rfl⟩))
                · have hc42 := hc; clear hc; cases hr; subst hw
                  exact absurd hc42 (by decide)
                · have hc43 := hc; clear hc; cases hr; subst hw
                  exact absurd hc43 (by decide)
                · have hc44 := hc; clear hc; cases hr; subst hw
                  exact absurd hc44 (by decide)
              · refine rn_aload_n (i := 0) dX10_seal_84 rfl rfl ?_
                refine rn_iload_n (i := 3) dX10_seal_85 rfl rfl ?_
                refine rn_callV (a := 0) (b := 0) [.int u] kl_SGModel_204 dX10_seal_86 23 (ls_eq h_m) rfl (c_X10_sealNamed G _ (o_m := o_m) (x := u) (fs_m := (fs_m.set 0 (.int (0 : Int32)))) (ls_eq h_m) (ls_ne (by decide) hf_m_22)) rfl rfl (Nat.le_of_ble_eq_true rfl) (Nat.le_of_ble_eq_true rfl) (Nat.le_of_ble_eq_true rfl) (Nat.le_of_ble_eq_true rfl) (Nat.le_of_ble_eq_true rfl) (Nat.le_of_ble_eq_true rfl) (by rintro E w h; rcases h with ⟨_, hr, _⟩ <;> cases hr) ?_
                rintro v w h
                obtain ⟨hc45, hr, hw⟩ := h; cases hr; subst hw
                refine rn_stk [.int (-1 : Int32), .ref o_m] rfl ?_
                refine rn_if_lt (tgt := 96) dX10_seal_89 (by decide) (fun h46 => ?_) (fun h46 => absurd h46 (by decide))
                refine rn_iconst (v := (0 : Int32)) dX10_seal_96 (by decide) ?_
                refine rn_iconst (v := (3 : Int32)) dX10_seal_97 (by decide) ?_
                refine rn_callV (a := 0) (b := 0) [.int (0 : Int32), .int (3 : Int32)] kl_SGModel_171 dX10_seal_98 23 (ls_eq h_m) rfl (c_X10_refuses G _ (o_m := o_m) (x := (0 : Int32)) (y := (3 : Int32)) (fs_m := (fs_m.set 0 (.int (0 : Int32)))) (th := (0 : Int32)) (ls_eq h_m) (ls_eq hf_m_0)) rfl rfl (Nat.le_of_ble_eq_true rfl) (Nat.le_of_ble_eq_true rfl) (Nat.le_of_ble_eq_true rfl) (Nat.le_of_ble_eq_true rfl) (Nat.le_of_ble_eq_true rfl) (Nat.le_of_ble_eq_true rfl) (by rintro E w h; rcases h with ⟨_, hr, _⟩ | ⟨_, hr, _⟩ | ⟨_, hr, _⟩ | ⟨_, hr, _⟩ <;> cases hr) ?_
                rintro v w h
                rcases h with ⟨hc, hr, hw⟩ | ⟨hc, hr, hw⟩ | ⟨hc, hr, hw⟩ | ⟨hc, hr, hw⟩
                · have hc47 := hc; clear hc; cases hr; subst hw
                  refine rn_stk [.int (0 : Int32)] rfl ?_
                  refine rn_if_eq (tgt := 106) dX10_seal_101 (by decide) (fun h48 => ?_) (fun h48 => absurd h48 (by decide))
                  refine rn_aload_n (i := 0) dX10_seal_106 rfl rfl ?_
                  refine rn_get 23 kg_SGModel_200 (ls_eq h_m) (ls_ne (by decide) hf_m_22) dX10_seal_107 ?_
                  refine rn_istore dX10_seal_110 (by decide) [(0, .ref o_m), (1, .int x), (2, .int y), (3, .int u), (4, .long y1), (6, .long y2), (8, .int (0 : Int32)), (9, .int x2), (10, .int (0 : Int32))] rfl ?_
                  refine rn_aload_n (i := 0) dX10_seal_112 rfl rfl ?_
                  refine rn_get 23 kg_SGModel_57 (ls_eq h_m) (ls_ne (by decide) hf_m_23) dX10_seal_113 ?_
                  refine rn_iload dX10_seal_116 rfl ?_
                  refine rn_iload_n (i := 1) dX10_seal_118 rfl rfl ?_
                  refine rn_iast 38 1 (ls_ne (by decide) h_m_sealWay) rfl (by unfold vp_in; decide) dX10_seal_119 ?_
                  refine rn_aload_n (i := 0) dX10_seal_120 rfl rfl ?_
                  refine rn_get 23 kg_SGModel_60 (ls_ne (by decide) (ls_eq h_m)) (ls_ne (by decide) hf_m_24) dX10_seal_121 ?_
                  refine rn_iload dX10_seal_124 rfl ?_
                  refine rn_iload_n (i := 2) dX10_seal_126 rfl rfl ?_
                  refine rn_iast 39 1 (ls_ne (by decide) (ls_ne (by decide) h_m_sealTunnel)) rfl (by unfold vp_in; decide) dX10_seal_127 ?_
                  refine rn_aload_n (i := 0) dX10_seal_128 rfl rfl ?_
                  refine rn_get 23 kg_SGModel_63 (ls_ne (by decide) (ls_ne (by decide) (ls_eq h_m))) (ls_ne (by decide) hf_m_25) dX10_seal_129 ?_
                  refine rn_iload dX10_seal_132 rfl ?_
                  refine rn_iload_n (i := 3) dX10_seal_134 rfl rfl ?_
                  refine rn_iast 40 1 (ls_ne (by decide) (ls_ne (by decide) (ls_ne (by decide) h_m_sealName))) rfl (by unfold vp_in; decide) dX10_seal_135 ?_
                  refine rn_aload_n (i := 0) dX10_seal_136 rfl rfl ?_
                  refine rn_get 23 kg_SGModel_66 (ls_ne (by decide) (ls_ne (by decide) (ls_ne (by decide) (ls_eq h_m)))) (ls_ne (by decide) hf_m_26) dX10_seal_137 ?_
                  refine rn_iload dX10_seal_140 rfl ?_
                  refine rn_lload dX10_seal_142 rfl ?_
                  refine rn_last 41 2 (ls_ne (by decide) (ls_ne (by decide) (ls_ne (by decide) (ls_ne (by decide) h_m_sealKey)))) rfl (by unfold vp_in; decide) dX10_seal_144 ?_
                  refine rn_aload_n (i := 0) dX10_seal_145 rfl rfl ?_
                  refine rn_get 23 kg_SGModel_70 (ls_ne (by decide) (ls_ne (by decide) (ls_ne (by decide) (ls_ne (by decide) (ls_eq h_m))))) (ls_ne (by decide) hf_m_27) dX10_seal_146 ?_
                  refine rn_iload dX10_seal_149 rfl ?_
                  refine rn_lload dX10_seal_151 rfl ?_
                  refine rn_last 42 2 (ls_ne (by decide) (ls_ne (by decide) (ls_ne (by decide) (ls_ne (by decide) (ls_ne (by decide) h_m_sealStamp))))) rfl (by unfold vp_in; decide) dX10_seal_153 ?_
                  refine rn_aload_n (i := 0) dX10_seal_154 rfl rfl ?_
                  refine rn_get 23 kg_SGModel_73 (ls_ne (by decide) (ls_ne (by decide) (ls_ne (by decide) (ls_ne (by decide) (ls_ne (by decide) (ls_eq h_m)))))) (ls_ne (by decide) hf_m_28) dX10_seal_155 ?_
                  refine rn_iload dX10_seal_158 rfl ?_
                  refine rn_iload dX10_seal_160 rfl ?_
                  refine rn_zast 43 3 (ls_ne (by decide) (ls_ne (by decide) (ls_ne (by decide) (ls_ne (by decide) (ls_ne (by decide) (ls_ne (by decide) h_m_sealLong)))))) rfl (by unfold vp_in; decide) dX10_seal_162 ?_
                  refine rn_aload_n (i := 0) dX10_seal_163 rfl rfl ?_
                  refine rn_get 23 kg_SGModel_77 (ls_ne (by decide) (ls_ne (by decide) (ls_ne (by decide) (ls_ne (by decide) (ls_ne (by decide) (ls_ne (by decide) (ls_eq h_m))))))) (ls_ne (by decide) hf_m_29) dX10_seal_164 ?_
                  refine rn_iload dX10_seal_167 rfl ?_
                  refine rn_iload dX10_seal_169 rfl ?_
                  refine rn_iast 44 1 (ls_ne (by decide) (ls_ne (by decide) (ls_ne (by decide) (ls_ne (by decide) (ls_ne (by decide) (ls_ne (by decide) (ls_ne (by decide) h_m_sealLife))))))) rfl (by unfold vp_in; decide) dX10_seal_171 ?_
                  refine rn_aload_n (i := 0) dX10_seal_172 rfl rfl ?_
                  refine rn_get 23 kg_SGModel_80 (ls_ne (by decide) (ls_ne (by decide) (ls_ne (by decide) (ls_ne (by decide) (ls_ne (by decide) (ls_ne (by decide) (ls_ne (by decide) (ls_eq h_m)))))))) (ls_ne (by decide) hf_m_30) dX10_seal_173 ?_
                  refine rn_iload dX10_seal_176 rfl ?_
                  refine rn_iconst (v := (0 : Int32)) dX10_seal_178 (by decide) ?_
                  refine rn_zast 45 3 (ls_ne (by decide) (ls_ne (by decide) (ls_ne (by decide) (ls_ne (by decide) (ls_ne (by decide) (ls_ne (by decide) (ls_ne (by decide) (ls_ne (by decide) h_m_sealStopped)))))))) rfl (by unfold vp_in; decide) dX10_seal_179 ?_
                  refine rn_aload_n (i := 0) dX10_seal_180 rfl rfl ?_
                  refine rn_get 23 kg_SGModel_83 (ls_ne (by decide) (ls_ne (by decide) (ls_ne (by decide) (ls_ne (by decide) (ls_ne (by decide) (ls_ne (by decide) (ls_ne (by decide) (ls_ne (by decide) (ls_eq h_m))))))))) (ls_ne (by decide) hf_m_31) dX10_seal_181 ?_
                  refine rn_iload dX10_seal_184 rfl ?_
                  refine rn_lconst (v := (0 : Int64)) dX10_seal_186 (by decide) ?_
                  refine rn_last 46 2 (ls_ne (by decide) (ls_ne (by decide) (ls_ne (by decide) (ls_ne (by decide) (ls_ne (by decide) (ls_ne (by decide) (ls_ne (by decide) (ls_ne (by decide) (ls_ne (by decide) h_m_sealTop))))))))) rfl (by unfold vp_in; decide) dX10_seal_187 ?_
                  refine rn_aload_n (i := 0) dX10_seal_188 rfl rfl ?_
                  refine rn_get 23 kg_SGModel_86 (ls_ne (by decide) (ls_ne (by decide) (ls_ne (by decide) (ls_ne (by decide) (ls_ne (by decide) (ls_ne (by decide) (ls_ne (by decide) (ls_ne (by decide) (ls_ne (by decide) (ls_eq h_m)))))))))) (ls_ne (by decide) hf_m_32) dX10_seal_189 ?_
                  refine rn_iload dX10_seal_192 rfl ?_
                  refine rn_lconst (v := (0 : Int64)) dX10_seal_194 (by decide) ?_
                  refine rn_last 47 2 (ls_ne (by decide) (ls_ne (by decide) (ls_ne (by decide) (ls_ne (by decide) (ls_ne (by decide) (ls_ne (by decide) (ls_ne (by decide) (ls_ne (by decide) (ls_ne (by decide) (ls_ne (by decide) h_m_sealSeen)))))))))) rfl (by unfold vp_in; decide) dX10_seal_195 ?_
                  refine rn_aload_n (i := 0) dX10_seal_196 rfl rfl ?_
                  refine rn_dup dX10_seal_197 rfl ?_
                  refine rn_get 23 kg_SGModel_200 (ls_ne (by decide) (ls_ne (by decide) (ls_ne (by decide) (ls_ne (by decide) (ls_ne (by decide) (ls_ne (by decide) (ls_ne (by decide) (ls_ne (by decide) (ls_ne (by decide) (ls_ne (by decide) (ls_eq h_m))))))))))) (ls_ne (by decide) hf_m_22) dX10_seal_198 ?_
                  refine rn_iconst (v := (1 : Int32)) dX10_seal_201 (by decide) ?_
                  refine rn_iadd dX10_seal_202 ?_
                  refine rn_topi (1 : Int32) (by decide) ?_
                  refine rn_put 23 (kp_SGModel_200 _) (ls_ne (by decide) (ls_ne (by decide) (ls_ne (by decide) (ls_ne (by decide) (ls_ne (by decide) (ls_ne (by decide) (ls_ne (by decide) (ls_ne (by decide) (ls_ne (by decide) (ls_ne (by decide) (ls_eq h_m))))))))))) (ls_lt (ls_ne (by decide) hf_m_22)) rfl rfl dX10_seal_203 ?_
                  refine rn_iload dX10_seal_206 rfl ?_
                  exact rn_iret dX10_seal_208 rfl rfl (Or.inr (Or.inr ⟨(Or.inr ⟨hc8, hc10, hc19, h21, hc34, hc36, h39, hc47⟩), rfl, rfl⟩))
                · have hc49 := hc; clear hc; cases hr; subst hw
                  exact absurd hc49 (by decide)
                · have hc50 := hc; clear hc; cases hr; subst hw
                  exact absurd hc50 (by decide)
                · have hc51 := hc; clear hc; cases hr; subst hw
                  exact absurd hc51 (by decide)
            · have hc52 := hc; clear hc; cases hr; subst hw
              exact absurd hc52 (by decide)
            · have hc53 := hc; clear hc; cases hr; subst hw
              exact absurd hc53 (by decide)
            · have hc54 := hc; clear hc; cases hr; subst hw
              exact absurd hc54 (by decide)
    · have hc55 := hc; clear hc; cases hr; subst hw
      exact absurd hc55 (by decide)
    · have hc56 := hc; clear hc; cases hr; subst hw
      exact absurd hc56 (by decide)
    · have hc57 := hc; clear hc; cases hr; subst hw
      exact absurd hc57 (by decide)
set_option maxRecDepth 20000 in
set_option maxHeartbeats 4000000 in
theorem c_X10_seal_1 (G : rn_G) (ws : va_W) (o_m : Nat) (x : Int32) (y : Int32) (u : Int32) (y1 : Int64) (y2 : Int64) (x2 : Int32) (fs_m : List Value) (a_sealWay : Nat) (a_sealTunnel : Nat) (a_sealName : Nat) (a_sealKey : Nat) (a_sealStamp : Nat) (a_sealLong : Nat) (a_sealLife : Nat) (a_sealStopped : Nat) (a_sealTop : Nat) (a_sealSeen : Nat) (h_m : ws[23]? = some (o_m, Sum.inr (10, fs_m))) (hf_m_0 : fs_m[0]? = some (.int (0 : Int32))) (hf_m_22 : fs_m[22]? = some (.int (0 : Int32))) (hf_m_23 : fs_m[23]? = some (.ref a_sealWay)) (hf_m_24 : fs_m[24]? = some (.ref a_sealTunnel)) (hf_m_25 : fs_m[25]? = some (.ref a_sealName)) (hf_m_26 : fs_m[26]? = some (.ref a_sealKey)) (hf_m_27 : fs_m[27]? = some (.ref a_sealStamp)) (hf_m_28 : fs_m[28]? = some (.ref a_sealLong)) (hf_m_29 : fs_m[29]? = some (.ref a_sealLife)) (hf_m_30 : fs_m[30]? = some (.ref a_sealStopped)) (hf_m_31 : fs_m[31]? = some (.ref a_sealTop)) (hf_m_32 : fs_m[32]? = some (.ref a_sealSeen)) (h_m_sealWay : ws[38]? = some (a_sealWay, Sum.inl (rn_k G 1, 16, Sum.inl (fun _ => 0)))) (h_m_sealTunnel : ws[39]? = some (a_sealTunnel, Sum.inl (rn_k G 1, 16, Sum.inl (fun _ => 0)))) (h_m_sealName : ws[40]? = some (a_sealName, Sum.inl (rn_k G 1, 16, Sum.inl (fun _ => 0)))) (h_m_sealKey : ws[41]? = some (a_sealKey, Sum.inl (rn_k G 2, 16, Sum.inr (Sum.inl (fun _ => 0))))) (h_m_sealStamp : ws[42]? = some (a_sealStamp, Sum.inl (rn_k G 2, 16, Sum.inr (Sum.inl (fun _ => 0))))) (h_m_sealLong : ws[43]? = some (a_sealLong, Sum.inl (rn_k G 3, 16, Sum.inl (fun _ => 0)))) (h_m_sealLife : ws[44]? = some (a_sealLife, Sum.inl (rn_k G 1, 16, Sum.inl (fun _ => 0)))) (h_m_sealStopped : ws[45]? = some (a_sealStopped, Sum.inl (rn_k G 3, 16, Sum.inl (fun _ => 0)))) (h_m_sealTop : ws[46]? = some (a_sealTop, Sum.inl (rn_k G 2, 16, Sum.inr (Sum.inl (fun _ => 0))))) (h_m_sealSeen : ws[47]? = some (a_sealSeen, Sum.inl (rn_k G 2, 16, Sum.inr (Sum.inl (fun _ => 0))))) : Rn G mX10_seal 1 22 0 0 0 (lv_args 0 [.ref o_m, .int x, .int y, .int u, .long y1, .long y2, .int (1 : Int32), .int x2]) [] ws (fun r w => ((((y < (0 : Int32)) ∨ (¬ (y < (0 : Int32)) ∧ (3 : Int32) < y)) ∧ ((0 : Int32) = (0 : Int32) ∧ ¬ ((1 : Int32) = (0 : Int32)) ∧ ¬ ((1 : Int32) ≤ (0 : Int32)))) ∧ r = Sum.inl (some (.int (0 : Int32))) ∧ w = ((ws.set 23 (o_m, Sum.inr (10, (fs_m.set 0 (.int (0 : Int32)))))).set 23 (o_m, Sum.inr (10, ((fs_m.set 0 (.int (0 : Int32))).set 0 (.int (1 : Int32))))))) ∨ ((((¬ (y < (0 : Int32)) ∧ ¬ ((3 : Int32) < y)) ∧ ((¬ ((0 : Int32) = (0 : Int32)) ∧ (0 : Int32) ≤ (0 : Int32)) ∨ ((0 : Int32) = (0 : Int32) ∧ (0 : Int32) = (0 : Int32) ∧ (0 : Int32) ≤ (0 : Int32))) ∧ ((x < (0 : Int32)) ∨ (¬ (x < (0 : Int32)) ∧ (1 : Int32) < x)) ∧ ((0 : Int32) = (0 : Int32) ∧ ¬ ((1 : Int32) = (0 : Int32)) ∧ ¬ ((2 : Int32) ≤ (0 : Int32)))) ∨ ((¬ (y < (0 : Int32)) ∧ ¬ ((3 : Int32) < y)) ∧ ((¬ ((0 : Int32) = (0 : Int32)) ∧ (0 : Int32) ≤ (0 : Int32)) ∨ ((0 : Int32) = (0 : Int32) ∧ (0 : Int32) = (0 : Int32) ∧ (0 : Int32) ≤ (0 : Int32))) ∧ (¬ (x < (0 : Int32)) ∧ ¬ ((1 : Int32) < x)) ∧ u < (256 : Int32) ∧ ((0 : Int32) = (0 : Int32) ∧ ¬ ((1 : Int32) = (0 : Int32)) ∧ ¬ ((2 : Int32) ≤ (0 : Int32)))) ∨ ((¬ (y < (0 : Int32)) ∧ ¬ ((3 : Int32) < y)) ∧ ((¬ ((0 : Int32) = (0 : Int32)) ∧ (0 : Int32) ≤ (0 : Int32)) ∨ ((0 : Int32) = (0 : Int32) ∧ (0 : Int32) = (0 : Int32) ∧ (0 : Int32) ≤ (0 : Int32))) ∧ (¬ (x < (0 : Int32)) ∧ ¬ ((1 : Int32) < x)) ∧ ¬ (u < (256 : Int32)) ∧ ((x2 < (1 : Int32)) ∨ (¬ (x2 < (1 : Int32)) ∧ (1000000 : Int32) < x2)) ∧ ((0 : Int32) = (0 : Int32) ∧ ¬ ((1 : Int32) = (0 : Int32)) ∧ ¬ ((2 : Int32) ≤ (0 : Int32))))) ∧ r = Sum.inl (some (.int (0 : Int32))) ∧ w = ((ws.set 23 (o_m, Sum.inr (10, (fs_m.set 0 (.int (0 : Int32)))))).set 23 (o_m, Sum.inr (10, ((fs_m.set 0 (.int (0 : Int32))).set 0 (.int (2 : Int32))))))) ∨ ((((¬ (y < (0 : Int32)) ∧ ¬ ((3 : Int32) < y)) ∧ ((¬ ((0 : Int32) = (0 : Int32)) ∧ (0 : Int32) ≤ (0 : Int32)) ∨ ((0 : Int32) = (0 : Int32) ∧ (0 : Int32) = (0 : Int32) ∧ (0 : Int32) ≤ (0 : Int32))) ∧ (¬ (x < (0 : Int32)) ∧ ¬ ((1 : Int32) < x)) ∧ ¬ (u < (256 : Int32)) ∧ (¬ (x2 < (1 : Int32)) ∧ ¬ ((1000000 : Int32) < x2)) ∧ ((¬ ((0 : Int32) = (0 : Int32)) ∧ (0 : Int32) ≤ (0 : Int32)) ∨ ((0 : Int32) = (0 : Int32) ∧ (0 : Int32) = (0 : Int32) ∧ (0 : Int32) ≤ (0 : Int32))) ∧ ¬ (x = (1 : Int32)) ∧ ((¬ ((0 : Int32) = (0 : Int32)) ∧ (0 : Int32) ≤ (0 : Int32)) ∨ ((0 : Int32) = (0 : Int32) ∧ (0 : Int32) = (0 : Int32) ∧ (0 : Int32) ≤ (0 : Int32)))) ∨ ((¬ (y < (0 : Int32)) ∧ ¬ ((3 : Int32) < y)) ∧ ((¬ ((0 : Int32) = (0 : Int32)) ∧ (0 : Int32) ≤ (0 : Int32)) ∨ ((0 : Int32) = (0 : Int32) ∧ (0 : Int32) = (0 : Int32) ∧ (0 : Int32) ≤ (0 : Int32))) ∧ (¬ (x < (0 : Int32)) ∧ ¬ ((1 : Int32) < x)) ∧ ¬ (u < (256 : Int32)) ∧ (¬ (x2 < (1 : Int32)) ∧ ¬ ((1000000 : Int32) < x2)) ∧ ((¬ ((0 : Int32) = (0 : Int32)) ∧ (0 : Int32) ≤ (0 : Int32)) ∨ ((0 : Int32) = (0 : Int32) ∧ (0 : Int32) = (0 : Int32) ∧ (0 : Int32) ≤ (0 : Int32))) ∧ x = (1 : Int32) ∧ ((¬ ((0 : Int32) = (0 : Int32)) ∧ (0 : Int32) ≤ (0 : Int32)) ∨ ((0 : Int32) = (0 : Int32) ∧ (0 : Int32) = (0 : Int32) ∧ (0 : Int32) ≤ (0 : Int32))))) ∧ r = Sum.inl (some (.int (0 : Int32))) ∧ w = ((((((((((((ws.set 23 (o_m, Sum.inr (10, (fs_m.set 0 (.int (0 : Int32)))))).set 38 (a_sealWay, Sum.inl (rn_k G 1, 16, Sum.inl (upd (fun _ => 0) ((0 : Int32)).toNatClampNeg x)))).set 39 (a_sealTunnel, Sum.inl (rn_k G 1, 16, Sum.inl (upd (fun _ => 0) ((0 : Int32)).toNatClampNeg y)))).set 40 (a_sealName, Sum.inl (rn_k G 1, 16, Sum.inl (upd (fun _ => 0) ((0 : Int32)).toNatClampNeg u)))).set 41 (a_sealKey, Sum.inl (rn_k G 2, 16, Sum.inr (Sum.inl (vp_updL (fun _ => 0) ((0 : Int32)).toNatClampNeg y1))))).set 42 (a_sealStamp, Sum.inl (rn_k G 2, 16, Sum.inr (Sum.inl (vp_updL (fun _ => 0) ((0 : Int32)).toNatClampNeg y2))))).set 43 (a_sealLong, Sum.inl (rn_k G 3, 16, Sum.inl (upd (fun _ => 0) ((0 : Int32)).toNatClampNeg (vp_nar .boolean (1 : Int32)))))).set 44 (a_sealLife, Sum.inl (rn_k G 1, 16, Sum.inl (upd (fun _ => 0) ((0 : Int32)).toNatClampNeg x2)))).set 45 (a_sealStopped, Sum.inl (rn_k G 3, 16, Sum.inl (upd (fun _ => 0) ((0 : Int32)).toNatClampNeg (vp_nar .boolean (0 : Int32)))))).set 46 (a_sealTop, Sum.inl (rn_k G 2, 16, Sum.inr (Sum.inl (vp_updL (fun _ => 0) ((0 : Int32)).toNatClampNeg (0 : Int64)))))).set 47 (a_sealSeen, Sum.inl (rn_k G 2, 16, Sum.inr (Sum.inl (vp_updL (fun _ => 0) ((0 : Int32)).toNatClampNeg (0 : Int64)))))).set 23 (o_m, Sum.inr (10, ((fs_m.set 0 (.int (0 : Int32))).set 22 (.int (1 : Int32)))))))) := by
  refine rn_lv [(0, .ref o_m), (1, .int x), (2, .int y), (3, .int u), (4, .long y1), (6, .long y2), (8, .int (1 : Int32)), (9, .int x2)] rfl ?_
  refine rn_aload_n (i := 0) dX10_seal_0 rfl rfl ?_
  refine rn_iconst (v := (0 : Int32)) dX10_seal_1 (by decide) ?_
  refine rn_put 23 (kp_SGModel_137 _) h_m (ls_lt hf_m_0) rfl rfl dX10_seal_2 ?_
  refine rn_aload_n (i := 0) dX10_seal_5 rfl rfl ?_
  refine rn_iload_n (i := 2) dX10_seal_6 rfl rfl ?_
  refine rn_iconst (v := (0 : Int32)) dX10_seal_7 (by decide) ?_
  refine rn_iconst (v := (3 : Int32)) dX10_seal_8 (by decide) ?_
  refine rn_callS (a := 0) (b := 0) [.int y, .int (0 : Int32), .int (3 : Int32)] kl_SGModel_179 dX10_seal_9 (c_X10_in G _ (x := y) (y := (0 : Int32)) (u := (3 : Int32))) rfl rfl (Nat.le_of_ble_eq_true rfl) (Nat.le_of_ble_eq_true rfl) (Nat.le_of_ble_eq_true rfl) (Nat.le_of_ble_eq_true rfl) (Nat.le_of_ble_eq_true rfl) (Nat.le_of_ble_eq_true rfl) (by rintro E w h; rcases h with ⟨_, hr, _⟩ | ⟨_, hr, _⟩ <;> cases hr) ?_
  rintro v w h
  rcases h with ⟨hc, hr, hw⟩ | ⟨hc, hr, hw⟩
  · have hc1 := hc; clear hc; cases hr; subst hw
    refine rn_stk [.int (0 : Int32), .ref o_m] rfl ?_
    refine rn_if_ne (tgt := 19) dX10_seal_12 (by decide) (fun h2 => absurd h2 (by decide)) (fun h2 => ?_)
    refine rn_iconst (v := (1 : Int32)) dX10_seal_15 (by decide) ?_
    refine rn_goto (tgt := 20) dX10_seal_16 (by decide) ?_
    refine rn_iconst (v := (1 : Int32)) dX10_seal_20 (by decide) ?_
    refine rn_callV (a := 0) (b := 0) [.int (1 : Int32), .int (1 : Int32)] kl_SGModel_171 dX10_seal_21 23 (ls_eq h_m) rfl (c_X10_refuses G _ (o_m := o_m) (x := (1 : Int32)) (y := (1 : Int32)) (fs_m := (fs_m.set 0 (.int (0 : Int32)))) (th := (0 : Int32)) (ls_eq h_m) (ls_eq hf_m_0)) rfl rfl (Nat.le_of_ble_eq_true rfl) (Nat.le_of_ble_eq_true rfl) (Nat.le_of_ble_eq_true rfl) (Nat.le_of_ble_eq_true rfl) (Nat.le_of_ble_eq_true rfl) (Nat.le_of_ble_eq_true rfl) (by rintro E w h; rcases h with ⟨_, hr, _⟩ | ⟨_, hr, _⟩ | ⟨_, hr, _⟩ | ⟨_, hr, _⟩ <;> cases hr) ?_
    rintro v w h
    rcases h with ⟨hc, hr, hw⟩ | ⟨hc, hr, hw⟩ | ⟨hc, hr, hw⟩ | ⟨hc, hr, hw⟩
    · have hc3 := hc; clear hc; cases hr; subst hw
      exact absurd hc3 (by decide)
    · have hc4 := hc; clear hc; cases hr; subst hw
      exact absurd hc4 (by decide)
    · have hc5 := hc; clear hc; cases hr; subst hw
      exact absurd hc5 (by decide)
    · have hc6 := hc; clear hc; cases hr; subst hw
      refine rn_stk [.int (1 : Int32)] rfl ?_
      refine rn_if_ne (tgt := 67) dX10_seal_24 (by decide) (fun h7 => ?_) (fun h7 => absurd h7 (by decide))
      refine rn_iconst (v := (0 : Int32)) dX10_seal_67 (by decide) ?_
      exact rn_iret dX10_seal_68 rfl rfl (Or.inl ⟨⟨hc1, hc6⟩, rfl, rfl⟩)
  · have hc8 := hc; clear hc; cases hr; subst hw
    refine rn_stk [.int (1 : Int32), .ref o_m] rfl ?_
    refine rn_if_ne (tgt := 19) dX10_seal_12 (by decide) (fun h9 => ?_) (fun h9 => absurd h9 (by decide))
    refine rn_iconst (v := (0 : Int32)) dX10_seal_19 (by decide) ?_
    refine rn_iconst (v := (1 : Int32)) dX10_seal_20 (by decide) ?_
    refine rn_callV (a := 0) (b := 0) [.int (0 : Int32), .int (1 : Int32)] kl_SGModel_171 dX10_seal_21 23 (ls_eq h_m) rfl (c_X10_refuses G _ (o_m := o_m) (x := (0 : Int32)) (y := (1 : Int32)) (fs_m := (fs_m.set 0 (.int (0 : Int32)))) (th := (0 : Int32)) (ls_eq h_m) (ls_eq hf_m_0)) rfl rfl (Nat.le_of_ble_eq_true rfl) (Nat.le_of_ble_eq_true rfl) (Nat.le_of_ble_eq_true rfl) (Nat.le_of_ble_eq_true rfl) (Nat.le_of_ble_eq_true rfl) (Nat.le_of_ble_eq_true rfl) (by rintro E w h; rcases h with ⟨_, hr, _⟩ | ⟨_, hr, _⟩ | ⟨_, hr, _⟩ | ⟨_, hr, _⟩ <;> cases hr) ?_
    rintro v w h
    rcases h with ⟨hc, hr, hw⟩ | ⟨hc, hr, hw⟩ | ⟨hc, hr, hw⟩ | ⟨hc, hr, hw⟩
    · have hc10 := hc; clear hc; cases hr; subst hw
      refine rn_stk [.int (0 : Int32)] rfl ?_
      refine rn_if_ne (tgt := 67) dX10_seal_24 (by decide) (fun h11 => absurd h11 (by decide)) (fun h11 => ?_)
      refine rn_aload_n (i := 0) dX10_seal_27 rfl rfl ?_
      refine rn_iload_n (i := 1) dX10_seal_28 rfl rfl ?_
      refine rn_iconst (v := (0 : Int32)) dX10_seal_29 (by decide) ?_
      refine rn_iconst (v := (1 : Int32)) dX10_seal_30 (by decide) ?_
      refine rn_callS (a := 0) (b := 0) [.int x, .int (0 : Int32), .int (1 : Int32)] kl_SGModel_179 dX10_seal_31 (c_X10_in G _ (x := x) (y := (0 : Int32)) (u := (1 : Int32))) rfl rfl (Nat.le_of_ble_eq_true rfl) (Nat.le_of_ble_eq_true rfl) (Nat.le_of_ble_eq_true rfl) (Nat.le_of_ble_eq_true rfl) (Nat.le_of_ble_eq_true rfl) (Nat.le_of_ble_eq_true rfl) (by rintro E w h; rcases h with ⟨_, hr, _⟩ | ⟨_, hr, _⟩ <;> cases hr) ?_
      rintro v w h
      rcases h with ⟨hc, hr, hw⟩ | ⟨hc, hr, hw⟩
      · have hc12 := hc; clear hc; cases hr; subst hw
        refine rn_stk [.int (0 : Int32), .ref o_m] rfl ?_
        refine rn_if_eq (tgt := 55) dX10_seal_34 (by decide) (fun h13 => ?_) (fun h13 => absurd h13 (by decide))
        refine rn_iconst (v := (1 : Int32)) dX10_seal_55 (by decide) ?_
        refine rn_goto (tgt := 60) dX10_seal_56 (by decide) ?_
        refine rn_iconst (v := (2 : Int32)) dX10_seal_60 (by decide) ?_
        refine rn_callV (a := 0) (b := 0) [.int (1 : Int32), .int (2 : Int32)] kl_SGModel_171 dX10_seal_61 23 (ls_eq h_m) rfl (c_X10_refuses G _ (o_m := o_m) (x := (1 : Int32)) (y := (2 : Int32)) (fs_m := (fs_m.set 0 (.int (0 : Int32)))) (th := (0 : Int32)) (ls_eq h_m) (ls_eq hf_m_0)) rfl rfl (Nat.le_of_ble_eq_true rfl) (Nat.le_of_ble_eq_true rfl) (Nat.le_of_ble_eq_true rfl) (Nat.le_of_ble_eq_true rfl) (Nat.le_of_ble_eq_true rfl) (Nat.le_of_ble_eq_true rfl) (by rintro E w h; rcases h with ⟨_, hr, _⟩ | ⟨_, hr, _⟩ | ⟨_, hr, _⟩ | ⟨_, hr, _⟩ <;> cases hr) ?_
        rintro v w h
        rcases h with ⟨hc, hr, hw⟩ | ⟨hc, hr, hw⟩ | ⟨hc, hr, hw⟩ | ⟨hc, hr, hw⟩
        · have hc14 := hc; clear hc; cases hr; subst hw
          exact absurd hc14 (by decide)
        · have hc15 := hc; clear hc; cases hr; subst hw
          exact absurd hc15 (by decide)
        · have hc16 := hc; clear hc; cases hr; subst hw
          exact absurd hc16 (by decide)
        · have hc17 := hc; clear hc; cases hr; subst hw
          refine rn_stk [.int (1 : Int32)] rfl ?_
          refine rn_if_eq (tgt := 69) dX10_seal_64 (by decide) (fun h18 => absurd h18 (by decide)) (fun h18 => ?_)
          refine rn_iconst (v := (0 : Int32)) dX10_seal_67 (by decide) ?_
          exact rn_iret dX10_seal_68 rfl rfl (Or.inr (Or.inl ⟨(Or.inl ⟨hc8, hc10, hc12, hc17⟩), rfl, rfl⟩))
      · have hc19 := hc; clear hc; cases hr; subst hw
        refine rn_stk [.int (1 : Int32), .ref o_m] rfl ?_
        refine rn_if_eq (tgt := 55) dX10_seal_34 (by decide) (fun h20 => absurd h20 (by decide)) (fun h20 => ?_)
        refine rn_iload_n (i := 3) dX10_seal_37 rfl rfl ?_
        refine rn_sipush (v := (256 : Int32)) dX10_seal_38 (by decide) ?_
        refine rn_icmp_lt (tgt := 55) dX10_seal_41 (by decide) (fun h21 => ?_) (fun h21 => ?_)
        · refine rn_iconst (v := (1 : Int32)) dX10_seal_55 (by decide) ?_
          refine rn_goto (tgt := 60) dX10_seal_56 (by decide) ?_
          refine rn_iconst (v := (2 : Int32)) dX10_seal_60 (by decide) ?_
          refine rn_callV (a := 0) (b := 0) [.int (1 : Int32), .int (2 : Int32)] kl_SGModel_171 dX10_seal_61 23 (ls_eq h_m) rfl (c_X10_refuses G _ (o_m := o_m) (x := (1 : Int32)) (y := (2 : Int32)) (fs_m := (fs_m.set 0 (.int (0 : Int32)))) (th := (0 : Int32)) (ls_eq h_m) (ls_eq hf_m_0)) rfl rfl (Nat.le_of_ble_eq_true rfl) (Nat.le_of_ble_eq_true rfl) (Nat.le_of_ble_eq_true rfl) (Nat.le_of_ble_eq_true rfl) (Nat.le_of_ble_eq_true rfl) (Nat.le_of_ble_eq_true rfl) (by rintro E w h; rcases h with ⟨_, hr, _⟩ | ⟨_, hr, _⟩ | ⟨_, hr, _⟩ | ⟨_, hr, _⟩ <;> cases hr) ?_
          rintro v w h
          rcases h with ⟨hc, hr, hw⟩ | ⟨hc, hr, hw⟩ | ⟨hc, hr, hw⟩ | ⟨hc, hr, hw⟩
          · have hc22 := hc; clear hc; cases hr; subst hw
            exact absurd hc22 (by decide)
          · have hc23 := hc; clear hc; cases hr; subst hw
            exact absurd hc23 (by decide)
          · have hc24 := hc; clear hc; cases hr; subst hw
            exact absurd hc24 (by decide)
          · have hc25 := hc; clear hc; cases hr; subst hw
            refine rn_stk [.int (1 : Int32)] rfl ?_
            refine rn_if_eq (tgt := 69) dX10_seal_64 (by decide) (fun h26 => absurd h26 (by decide)) (fun h26 => ?_)
            refine rn_iconst (v := (0 : Int32)) dX10_seal_67 (by decide) ?_
            exact rn_iret dX10_seal_68 rfl rfl (Or.inr (Or.inl ⟨(Or.inr (Or.inl ⟨hc8, hc10, hc19, h21, hc25⟩)), rfl, rfl⟩))
        · refine rn_iload dX10_seal_44 rfl ?_
          refine rn_iconst (v := (1 : Int32)) dX10_seal_46 (by decide) ?_
          refine rn_ldc (v := (1000000 : Int32)) wd_1338 dX10_seal_47 ?_
          refine rn_callS (a := 0) (b := 0) [.int x2, .int (1 : Int32), .int (1000000 : Int32)] kl_SGModel_179 dX10_seal_49 (c_X10_in G _ (x := x2) (y := (1 : Int32)) (u := (1000000 : Int32))) rfl rfl (Nat.le_of_ble_eq_true rfl) (Nat.le_of_ble_eq_true rfl) (Nat.le_of_ble_eq_true rfl) (Nat.le_of_ble_eq_true rfl) (Nat.le_of_ble_eq_true rfl) (Nat.le_of_ble_eq_true rfl) (by rintro E w h; rcases h with ⟨_, hr, _⟩ | ⟨_, hr, _⟩ <;> cases hr) ?_
          rintro v w h
          rcases h with ⟨hc, hr, hw⟩ | ⟨hc, hr, hw⟩
          · have hc27 := hc; clear hc; cases hr; subst hw
            refine rn_stk [.int (0 : Int32), .ref o_m] rfl ?_
            refine rn_if_ne (tgt := 59) dX10_seal_52 (by decide) (fun h28 => absurd h28 (by decide)) (fun h28 => ?_)
            refine rn_iconst (v := (1 : Int32)) dX10_seal_55 (by decide) ?_
            refine rn_goto (tgt := 60) dX10_seal_56 (by decide) ?_
            refine rn_iconst (v := (2 : Int32)) dX10_seal_60 (by decide) ?_
            refine rn_callV (a := 0) (b := 0) [.int (1 : Int32), .int (2 : Int32)] kl_SGModel_171 dX10_seal_61 23 (ls_eq h_m) rfl (c_X10_refuses G _ (o_m := o_m) (x := (1 : Int32)) (y := (2 : Int32)) (fs_m := (fs_m.set 0 (.int (0 : Int32)))) (th := (0 : Int32)) (ls_eq h_m) (ls_eq hf_m_0)) rfl rfl (Nat.le_of_ble_eq_true rfl) (Nat.le_of_ble_eq_true rfl) (Nat.le_of_ble_eq_true rfl) (Nat.le_of_ble_eq_true rfl) (Nat.le_of_ble_eq_true rfl) (Nat.le_of_ble_eq_true rfl) (by rintro E w h; rcases h with ⟨_, hr, _⟩ | ⟨_, hr, _⟩ | ⟨_, hr, _⟩ | ⟨_, hr, _⟩ <;> cases hr) ?_
            rintro v w h
            rcases h with ⟨hc, hr, hw⟩ | ⟨hc, hr, hw⟩ | ⟨hc, hr, hw⟩ | ⟨hc, hr, hw⟩
            · have hc29 := hc; clear hc; cases hr; subst hw
              exact absurd hc29 (by decide)
            · have hc30 := hc; clear hc; cases hr; subst hw
              exact absurd hc30 (by decide)
            · have hc31 := hc; clear hc; cases hr; subst hw
              exact absurd hc31 (by decide)
            · have hc32 := hc; clear hc; cases hr; subst hw
              refine rn_stk [.int (1 : Int32)] rfl ?_
              refine rn_if_eq (tgt := 69) dX10_seal_64 (by decide) (fun h33 => absurd h33 (by decide)) (fun h33 => ?_)
              refine rn_iconst (v := (0 : Int32)) dX10_seal_67 (by decide) ?_
              exact rn_iret dX10_seal_68 rfl rfl (Or.inr (Or.inl ⟨(Or.inr (Or.inr ⟨hc8, hc10, hc19, h21, hc27, hc32⟩)), rfl, rfl⟩))
          · have hc34 := hc; clear hc; cases hr; subst hw
            refine rn_stk [.int (1 : Int32), .ref o_m] rfl ?_
            refine rn_if_ne (tgt := 59) dX10_seal_52 (by decide) (fun h35 => ?_) (fun h35 => absurd h35 (by decide))
            refine rn_iconst (v := (0 : Int32)) dX10_seal_59 (by decide) ?_
            refine rn_iconst (v := (2 : Int32)) dX10_seal_60 (by decide) ?_
            refine rn_callV (a := 0) (b := 0) [.int (0 : Int32), .int (2 : Int32)] kl_SGModel_171 dX10_seal_61 23 (ls_eq h_m) rfl (c_X10_refuses G _ (o_m := o_m) (x := (0 : Int32)) (y := (2 : Int32)) (fs_m := (fs_m.set 0 (.int (0 : Int32)))) (th := (0 : Int32)) (ls_eq h_m) (ls_eq hf_m_0)) rfl rfl (Nat.le_of_ble_eq_true rfl) (Nat.le_of_ble_eq_true rfl) (Nat.le_of_ble_eq_true rfl) (Nat.le_of_ble_eq_true rfl) (Nat.le_of_ble_eq_true rfl) (Nat.le_of_ble_eq_true rfl) (by rintro E w h; rcases h with ⟨_, hr, _⟩ | ⟨_, hr, _⟩ | ⟨_, hr, _⟩ | ⟨_, hr, _⟩ <;> cases hr) ?_
            rintro v w h
            rcases h with ⟨hc, hr, hw⟩ | ⟨hc, hr, hw⟩ | ⟨hc, hr, hw⟩ | ⟨hc, hr, hw⟩
            · have hc36 := hc; clear hc; cases hr; subst hw
              refine rn_stk [.int (0 : Int32)] rfl ?_
              refine rn_if_eq (tgt := 69) dX10_seal_64 (by decide) (fun h37 => ?_) (fun h37 => absurd h37 (by decide))
              refine rn_aload_n (i := 0) dX10_seal_69 rfl rfl ?_
              refine rn_aload_n (i := 0) dX10_seal_70 rfl rfl ?_
              refine rn_get 23 kg_SGModel_200 (ls_eq h_m) (ls_ne (by decide) hf_m_22) dX10_seal_71 ?_
              refine rn_bipush (v := (16 : Int32)) dX10_seal_74 (by decide) ?_
              refine rn_icmp_eq (tgt := 92) dX10_seal_76 (by decide) (fun h38 => absurd h38 (by decide)) (fun h38 => ?_)
              refine rn_iload_n (i := 1) dX10_seal_79 rfl rfl ?_
              refine rn_iconst (v := (1 : Int32)) dX10_seal_80 (by decide) ?_
              refine rn_icmp_ne (tgt := 96) dX10_seal_81 (by decide) (fun h39 => ?_) (fun h39 => ?_)
              · refine rn_iconst (v := (0 : Int32)) dX10_seal_96 (by decide) ?_
                refine rn_iconst (v := (3 : Int32)) dX10_seal_97 (by decide) ?_
                refine rn_callV (a := 0) (b := 0) [.int (0 : Int32), .int (3 : Int32)] kl_SGModel_171 dX10_seal_98 23 (ls_eq h_m) rfl (c_X10_refuses G _ (o_m := o_m) (x := (0 : Int32)) (y := (3 : Int32)) (fs_m := (fs_m.set 0 (.int (0 : Int32)))) (th := (0 : Int32)) (ls_eq h_m) (ls_eq hf_m_0)) rfl rfl (Nat.le_of_ble_eq_true rfl) (Nat.le_of_ble_eq_true rfl) (Nat.le_of_ble_eq_true rfl) (Nat.le_of_ble_eq_true rfl) (Nat.le_of_ble_eq_true rfl) (Nat.le_of_ble_eq_true rfl) (by rintro E w h; rcases h with ⟨_, hr, _⟩ | ⟨_, hr, _⟩ | ⟨_, hr, _⟩ | ⟨_, hr, _⟩ <;> cases hr) ?_
                rintro v w h
                rcases h with ⟨hc, hr, hw⟩ | ⟨hc, hr, hw⟩ | ⟨hc, hr, hw⟩ | ⟨hc, hr, hw⟩
                · have hc40 := hc; clear hc; cases hr; subst hw
                  refine rn_stk [.int (0 : Int32)] rfl ?_
                  refine rn_if_eq (tgt := 106) dX10_seal_101 (by decide) (fun h41 => ?_) (fun h41 => absurd h41 (by decide))
                  refine rn_aload_n (i := 0) dX10_seal_106 rfl rfl ?_
                  refine rn_get 23 kg_SGModel_200 (ls_eq h_m) (ls_ne (by decide) hf_m_22) dX10_seal_107 ?_
                  refine rn_istore dX10_seal_110 (by decide) [(0, .ref o_m), (1, .int x), (2, .int y), (3, .int u), (4, .long y1), (6, .long y2), (8, .int (1 : Int32)), (9, .int x2), (10, .int (0 : Int32))] rfl ?_
                  refine rn_aload_n (i := 0) dX10_seal_112 rfl rfl ?_
                  refine rn_get 23 kg_SGModel_57 (ls_eq h_m) (ls_ne (by decide) hf_m_23) dX10_seal_113 ?_
                  refine rn_iload dX10_seal_116 rfl ?_
                  refine rn_iload_n (i := 1) dX10_seal_118 rfl rfl ?_
                  refine rn_iast 38 1 (ls_ne (by decide) h_m_sealWay) rfl (by unfold vp_in; decide) dX10_seal_119 ?_
                  refine rn_aload_n (i := 0) dX10_seal_120 rfl rfl ?_
                  refine rn_get 23 kg_SGModel_60 (ls_ne (by decide) (ls_eq h_m)) (ls_ne (by decide) hf_m_24) dX10_seal_121 ?_
                  refine rn_iload dX10_seal_124 rfl ?_
                  refine rn_iload_n (i := 2) dX10_seal_126 rfl rfl ?_
                  refine rn_iast 39 1 (ls_ne (by decide) (ls_ne (by decide) h_m_sealTunnel)) rfl (by unfold vp_in; decide) dX10_seal_127 ?_
                  refine rn_aload_n (i := 0) dX10_seal_128 rfl rfl ?_
                  refine rn_get 23 kg_SGModel_63 (ls_ne (by decide) (ls_ne (by decide) (ls_eq h_m))) (ls_ne (by decide) hf_m_25) dX10_seal_129 ?_
                  refine rn_iload dX10_seal_132 rfl ?_
                  refine rn_iload_n (i := 3) dX10_seal_134 rfl rfl ?_
                  refine rn_iast 40 1 (ls_ne (by decide) (ls_ne (by decide) (ls_ne (by decide) h_m_sealName))) rfl (by unfold vp_in; decide) dX10_seal_135 ?_
                  refine rn_aload_n (i := 0) dX10_seal_136 rfl rfl ?_
                  refine rn_get 23 kg_SGModel_66 (ls_ne (by decide) (ls_ne (by decide) (ls_ne (by decide) (ls_eq h_m)))) (ls_ne (by decide) hf_m_26) dX10_seal_137 ?_
                  refine rn_iload dX10_seal_140 rfl ?_
                  refine rn_lload dX10_seal_142 rfl ?_
                  refine rn_last 41 2 (ls_ne (by decide) (ls_ne (by decide) (ls_ne (by decide) (ls_ne (by decide) h_m_sealKey)))) rfl (by unfold vp_in; decide) dX10_seal_144 ?_
                  refine rn_aload_n (i := 0) dX10_seal_145 rfl rfl ?_
                  refine rn_get 23 kg_SGModel_70 (ls_ne (by decide) (ls_ne (by decide) (ls_ne (by decide) (ls_ne (by decide) (ls_eq h_m))))) (ls_ne (by decide) hf_m_27) dX10_seal_146 ?_
                  refine rn_iload dX10_seal_149 rfl ?_
                  refine rn_lload dX10_seal_151 rfl ?_
                  refine rn_last 42 2 (ls_ne (by decide) (ls_ne (by decide) (ls_ne (by decide) (ls_ne (by decide) (ls_ne (by decide) h_m_sealStamp))))) rfl (by unfold vp_in; decide) dX10_seal_153 ?_
                  refine rn_aload_n (i := 0) dX10_seal_154 rfl rfl ?_
                  refine rn_get 23 kg_SGModel_73 (ls_ne (by decide) (ls_ne (by decide) (ls_ne (by decide) (ls_ne (by decide) (ls_ne (by decide) (ls_eq h_m)))))) (ls_ne (by decide) hf_m_28) dX10_seal_155 ?_
                  refine rn_iload dX10_seal_158 rfl ?_
                  refine rn_iload dX10_seal_160 rfl ?_
                  refine rn_zast 43 3 (ls_ne (by decide) (ls_ne (by decide) (ls_ne (by decide) (ls_ne (by decide) (ls_ne (by decide) (ls_ne (by decide) h_m_sealLong)))))) rfl (by unfold vp_in; decide) dX10_seal_162 ?_
                  refine rn_aload_n (i := 0) dX10_seal_163 rfl rfl ?_
                  refine rn_get 23 kg_SGModel_77 (ls_ne (by decide) (ls_ne (by decide) (ls_ne (by decide) (ls_ne (by decide) (ls_ne (by decide) (ls_ne (by decide) (ls_eq h_m))))))) (ls_ne (by decide) hf_m_29) dX10_seal_164 ?_
                  refine rn_iload dX10_seal_167 rfl ?_
                  refine rn_iload dX10_seal_169 rfl ?_
                  refine rn_iast 44 1 (ls_ne (by decide) (ls_ne (by decide) (ls_ne (by decide) (ls_ne (by decide) (ls_ne (by decide) (ls_ne (by decide) (ls_ne (by decide) h_m_sealLife))))))) rfl (by unfold vp_in; decide) dX10_seal_171 ?_
                  refine rn_aload_n (i := 0) dX10_seal_172 rfl rfl ?_
                  refine rn_get 23 kg_SGModel_80 (ls_ne (by decide) (ls_ne (by decide) (ls_ne (by decide) (ls_ne (by decide) (ls_ne (by decide) (ls_ne (by decide) (ls_ne (by decide) (ls_eq h_m)))))))) (ls_ne (by decide) hf_m_30) dX10_seal_173 ?_
                  refine rn_iload dX10_seal_176 rfl ?_
                  refine rn_iconst (v := (0 : Int32)) dX10_seal_178 (by decide) ?_
                  refine rn_zast 45 3 (ls_ne (by decide) (ls_ne (by decide) (ls_ne (by decide) (ls_ne (by decide) (ls_ne (by decide) (ls_ne (by decide) (ls_ne (by decide) (ls_ne (by decide) h_m_sealStopped)))))))) rfl (by unfold vp_in; decide) dX10_seal_179 ?_
                  refine rn_aload_n (i := 0) dX10_seal_180 rfl rfl ?_
                  refine rn_get 23 kg_SGModel_83 (ls_ne (by decide) (ls_ne (by decide) (ls_ne (by decide) (ls_ne (by decide) (ls_ne (by decide) (ls_ne (by decide) (ls_ne (by decide) (ls_ne (by decide) (ls_eq h_m))))))))) (ls_ne (by decide) hf_m_31) dX10_seal_181 ?_
                  refine rn_iload dX10_seal_184 rfl ?_
                  refine rn_lconst (v := (0 : Int64)) dX10_seal_186 (by decide) ?_
                  refine rn_last 46 2 (ls_ne (by decide) (ls_ne (by decide) (ls_ne (by decide) (ls_ne (by decide) (ls_ne (by decide) (ls_ne (by decide) (ls_ne (by decide) (ls_ne (by decide) (ls_ne (by decide) h_m_sealTop))))))))) rfl (by unfold vp_in; decide) dX10_seal_187 ?_
                  refine rn_aload_n (i := 0) dX10_seal_188 rfl rfl ?_
                  refine rn_get 23 kg_SGModel_86 (ls_ne (by decide) (ls_ne (by decide) (ls_ne (by decide) (ls_ne (by decide) (ls_ne (by decide) (ls_ne (by decide) (ls_ne (by decide) (ls_ne (by decide) (ls_ne (by decide) (ls_eq h_m)))))))))) (ls_ne (by decide) hf_m_32) dX10_seal_189 ?_
                  refine rn_iload dX10_seal_192 rfl ?_
                  refine rn_lconst (v := (0 : Int64)) dX10_seal_194 (by decide) ?_
                  refine rn_last 47 2 (ls_ne (by decide) (ls_ne (by decide) (ls_ne (by decide) (ls_ne (by decide) (ls_ne (by decide) (ls_ne (by decide) (ls_ne (by decide) (ls_ne (by decide) (ls_ne (by decide) (ls_ne (by decide) h_m_sealSeen)))))))))) rfl (by unfold vp_in; decide) dX10_seal_195 ?_
                  refine rn_aload_n (i := 0) dX10_seal_196 rfl rfl ?_
                  refine rn_dup dX10_seal_197 rfl ?_
                  refine rn_get 23 kg_SGModel_200 (ls_ne (by decide) (ls_ne (by decide) (ls_ne (by decide) (ls_ne (by decide) (ls_ne (by decide) (ls_ne (by decide) (ls_ne (by decide) (ls_ne (by decide) (ls_ne (by decide) (ls_ne (by decide) (ls_eq h_m))))))))))) (ls_ne (by decide) hf_m_22) dX10_seal_198 ?_
                  refine rn_iconst (v := (1 : Int32)) dX10_seal_201 (by decide) ?_
                  refine rn_iadd dX10_seal_202 ?_
                  refine rn_topi (1 : Int32) (by decide) ?_
                  refine rn_put 23 (kp_SGModel_200 _) (ls_ne (by decide) (ls_ne (by decide) (ls_ne (by decide) (ls_ne (by decide) (ls_ne (by decide) (ls_ne (by decide) (ls_ne (by decide) (ls_ne (by decide) (ls_ne (by decide) (ls_ne (by decide) (ls_eq h_m))))))))))) (ls_lt (ls_ne (by decide) hf_m_22)) rfl rfl dX10_seal_203 ?_
                  refine rn_iload dX10_seal_206 rfl ?_
                  exact rn_iret dX10_seal_208 rfl rfl (Or.inr (Or.inr ⟨(Or.inl ⟨hc8, hc10, hc19, h21, hc34, hc36, h39, hc40⟩), rfl, rfl⟩))
                · have hc42 := hc; clear hc; cases hr; subst hw
                  exact absurd hc42 (by decide)
                · have hc43 := hc; clear hc; cases hr; subst hw
                  exact absurd hc43 (by decide)
                · have hc44 := hc; clear hc; cases hr; subst hw
                  exact absurd hc44 (by decide)
              · refine rn_aload_n (i := 0) dX10_seal_84 rfl rfl ?_
                refine rn_iload_n (i := 3) dX10_seal_85 rfl rfl ?_
                refine rn_callV (a := 0) (b := 0) [.int u] kl_SGModel_204 dX10_seal_86 23 (ls_eq h_m) rfl (c_X10_sealNamed G _ (o_m := o_m) (x := u) (fs_m := (fs_m.set 0 (.int (0 : Int32)))) (ls_eq h_m) (ls_ne (by decide) hf_m_22)) rfl rfl (Nat.le_of_ble_eq_true rfl) (Nat.le_of_ble_eq_true rfl) (Nat.le_of_ble_eq_true rfl) (Nat.le_of_ble_eq_true rfl) (Nat.le_of_ble_eq_true rfl) (Nat.le_of_ble_eq_true rfl) (by rintro E w h; rcases h with ⟨_, hr, _⟩ <;> cases hr) ?_
                rintro v w h
                obtain ⟨hc45, hr, hw⟩ := h; cases hr; subst hw
                refine rn_stk [.int (-1 : Int32), .ref o_m] rfl ?_
                refine rn_if_lt (tgt := 96) dX10_seal_89 (by decide) (fun h46 => ?_) (fun h46 => absurd h46 (by decide))
                refine rn_iconst (v := (0 : Int32)) dX10_seal_96 (by decide) ?_
                refine rn_iconst (v := (3 : Int32)) dX10_seal_97 (by decide) ?_
                refine rn_callV (a := 0) (b := 0) [.int (0 : Int32), .int (3 : Int32)] kl_SGModel_171 dX10_seal_98 23 (ls_eq h_m) rfl (c_X10_refuses G _ (o_m := o_m) (x := (0 : Int32)) (y := (3 : Int32)) (fs_m := (fs_m.set 0 (.int (0 : Int32)))) (th := (0 : Int32)) (ls_eq h_m) (ls_eq hf_m_0)) rfl rfl (Nat.le_of_ble_eq_true rfl) (Nat.le_of_ble_eq_true rfl) (Nat.le_of_ble_eq_true rfl) (Nat.le_of_ble_eq_true rfl) (Nat.le_of_ble_eq_true rfl) (Nat.le_of_ble_eq_true rfl) (by rintro E w h; rcases h with ⟨_, hr, _⟩ | ⟨_, hr, _⟩ | ⟨_, hr, _⟩ | ⟨_, hr, _⟩ <;> cases hr) ?_
                rintro v w h
                rcases h with ⟨hc, hr, hw⟩ | ⟨hc, hr, hw⟩ | ⟨hc, hr, hw⟩ | ⟨hc, hr, hw⟩
                · have hc47 := hc; clear hc; cases hr; subst hw
                  refine rn_stk [.int (0 : Int32)] rfl ?_
                  refine rn_if_eq (tgt := 106) dX10_seal_101 (by decide) (fun h48 => ?_) (fun h48 => absurd h48 (by decide))
                  refine rn_aload_n (i := 0) dX10_seal_106 rfl rfl ?_
                  refine rn_get 23 kg_SGModel_200 (ls_eq h_m) (ls_ne (by decide) hf_m_22) dX10_seal_107 ?_
                  refine rn_istore dX10_seal_110 (by decide) [(0, .ref o_m), (1, .int x), (2, .int y), (3, .int u), (4, .long y1), (6, .long y2), (8, .int (1 : Int32)), (9, .int x2), (10, .int (0 : Int32))] rfl ?_
                  refine rn_aload_n (i := 0) dX10_seal_112 rfl rfl ?_
                  refine rn_get 23 kg_SGModel_57 (ls_eq h_m) (ls_ne (by decide) hf_m_23) dX10_seal_113 ?_
                  refine rn_iload dX10_seal_116 rfl ?_
                  refine rn_iload_n (i := 1) dX10_seal_118 rfl rfl ?_
                  refine rn_iast 38 1 (ls_ne (by decide) h_m_sealWay) rfl (by unfold vp_in; decide) dX10_seal_119 ?_
                  refine rn_aload_n (i := 0) dX10_seal_120 rfl rfl ?_
                  refine rn_get 23 kg_SGModel_60 (ls_ne (by decide) (ls_eq h_m)) (ls_ne (by decide) hf_m_24) dX10_seal_121 ?_
                  refine rn_iload dX10_seal_124 rfl ?_
                  refine rn_iload_n (i := 2) dX10_seal_126 rfl rfl ?_
                  refine rn_iast 39 1 (ls_ne (by decide) (ls_ne (by decide) h_m_sealTunnel)) rfl (by unfold vp_in; decide) dX10_seal_127 ?_
                  refine rn_aload_n (i := 0) dX10_seal_128 rfl rfl ?_
                  refine rn_get 23 kg_SGModel_63 (ls_ne (by decide) (ls_ne (by decide) (ls_eq h_m))) (ls_ne (by decide) hf_m_25) dX10_seal_129 ?_
                  refine rn_iload dX10_seal_132 rfl ?_
                  refine rn_iload_n (i := 3) dX10_seal_134 rfl rfl ?_
                  refine rn_iast 40 1 (ls_ne (by decide) (ls_ne (by decide) (ls_ne (by decide) h_m_sealName))) rfl (by unfold vp_in; decide) dX10_seal_135 ?_
                  refine rn_aload_n (i := 0) dX10_seal_136 rfl rfl ?_
                  refine rn_get 23 kg_SGModel_66 (ls_ne (by decide) (ls_ne (by decide) (ls_ne (by decide) (ls_eq h_m)))) (ls_ne (by decide) hf_m_26) dX10_seal_137 ?_
                  refine rn_iload dX10_seal_140 rfl ?_
                  refine rn_lload dX10_seal_142 rfl ?_
                  refine rn_last 41 2 (ls_ne (by decide) (ls_ne (by decide) (ls_ne (by decide) (ls_ne (by decide) h_m_sealKey)))) rfl (by unfold vp_in; decide) dX10_seal_144 ?_
                  refine rn_aload_n (i := 0) dX10_seal_145 rfl rfl ?_
                  refine rn_get 23 kg_SGModel_70 (ls_ne (by decide) (ls_ne (by decide) (ls_ne (by decide) (ls_ne (by decide) (ls_eq h_m))))) (ls_ne (by decide) hf_m_27) dX10_seal_146 ?_
                  refine rn_iload dX10_seal_149 rfl ?_
                  refine rn_lload dX10_seal_151 rfl ?_
                  refine rn_last 42 2 (ls_ne (by decide) (ls_ne (by decide) (ls_ne (by decide) (ls_ne (by decide) (ls_ne (by decide) h_m_sealStamp))))) rfl (by unfold vp_in; decide) dX10_seal_153 ?_
                  refine rn_aload_n (i := 0) dX10_seal_154 rfl rfl ?_
                  refine rn_get 23 kg_SGModel_73 (ls_ne (by decide) (ls_ne (by decide) (ls_ne (by decide) (ls_ne (by decide) (ls_ne (by decide) (ls_eq h_m)))))) (ls_ne (by decide) hf_m_28) dX10_seal_155 ?_
                  refine rn_iload dX10_seal_158 rfl ?_
                  refine rn_iload dX10_seal_160 rfl ?_
                  refine rn_zast 43 3 (ls_ne (by decide) (ls_ne (by decide) (ls_ne (by decide) (ls_ne (by decide) (ls_ne (by decide) (ls_ne (by decide) h_m_sealLong)))))) rfl (by unfold vp_in; decide) dX10_seal_162 ?_
                  refine rn_aload_n (i := 0) dX10_seal_163 rfl rfl ?_
                  refine rn_get 23 kg_SGModel_77 (ls_ne (by decide) (ls_ne (by decide) (ls_ne (by decide) (ls_ne (by decide) (ls_ne (by decide) (ls_ne (by decide) (ls_eq h_m))))))) (ls_ne (by decide) hf_m_29) dX10_seal_164 ?_
                  refine rn_iload dX10_seal_167 rfl ?_
                  refine rn_iload dX10_seal_169 rfl ?_
                  refine rn_iast 44 1 (ls_ne (by decide) (ls_ne (by decide) (ls_ne (by decide) (ls_ne (by decide) (ls_ne (by decide) (ls_ne (by decide) (ls_ne (by decide) h_m_sealLife))))))) rfl (by unfold vp_in; decide) dX10_seal_171 ?_
                  refine rn_aload_n (i := 0) dX10_seal_172 rfl rfl ?_
                  refine rn_get 23 kg_SGModel_80 (ls_ne (by decide) (ls_ne (by decide) (ls_ne (by decide) (ls_ne (by decide) (ls_ne (by decide) (ls_ne (by decide) (ls_ne (by decide) (ls_eq h_m)))))))) (ls_ne (by decide) hf_m_30) dX10_seal_173 ?_
                  refine rn_iload dX10_seal_176 rfl ?_
                  refine rn_iconst (v := (0 : Int32)) dX10_seal_178 (by decide) ?_
                  refine rn_zast 45 3 (ls_ne (by decide) (ls_ne (by decide) (ls_ne (by decide) (ls_ne (by decide) (ls_ne (by decide) (ls_ne (by decide) (ls_ne (by decide) (ls_ne (by decide) h_m_sealStopped)))))))) rfl (by unfold vp_in; decide) dX10_seal_179 ?_
                  refine rn_aload_n (i := 0) dX10_seal_180 rfl rfl ?_
                  refine rn_get 23 kg_SGModel_83 (ls_ne (by decide) (ls_ne (by decide) (ls_ne (by decide) (ls_ne (by decide) (ls_ne (by decide) (ls_ne (by decide) (ls_ne (by decide) (ls_ne (by decide) (ls_eq h_m))))))))) (ls_ne (by decide) hf_m_31) dX10_seal_181 ?_
                  refine rn_iload dX10_seal_184 rfl ?_
                  refine rn_lconst (v := (0 : Int64)) dX10_seal_186 (by decide) ?_
                  refine rn_last 46 2 (ls_ne (by decide) (ls_ne (by decide) (ls_ne (by decide) (ls_ne (by decide) (ls_ne (by decide) (ls_ne (by decide) (ls_ne (by decide) (ls_ne (by decide) (ls_ne (by decide) h_m_sealTop))))))))) rfl (by unfold vp_in; decide) dX10_seal_187 ?_
                  refine rn_aload_n (i := 0) dX10_seal_188 rfl rfl ?_
                  refine rn_get 23 kg_SGModel_86 (ls_ne (by decide) (ls_ne (by decide) (ls_ne (by decide) (ls_ne (by decide) (ls_ne (by decide) (ls_ne (by decide) (ls_ne (by decide) (ls_ne (by decide) (ls_ne (by decide) (ls_eq h_m)))))))))) (ls_ne (by decide) hf_m_32) dX10_seal_189 ?_
                  refine rn_iload dX10_seal_192 rfl ?_
                  refine rn_lconst (v := (0 : Int64)) dX10_seal_194 (by decide) ?_
                  refine rn_last 47 2 (ls_ne (by decide) (ls_ne (by decide) (ls_ne (by decide) (ls_ne (by decide) (ls_ne (by decide) (ls_ne (by decide) (ls_ne (by decide) (ls_ne (by decide) (ls_ne (by decide) (ls_ne (by decide) h_m_sealSeen)))))))))) rfl (by unfold vp_in; decide) dX10_seal_195 ?_
                  refine rn_aload_n (i := 0) dX10_seal_196 rfl rfl ?_
                  refine rn_dup dX10_seal_197 rfl ?_
                  refine rn_get 23 kg_SGModel_200 (ls_ne (by decide) (ls_ne (by decide) (ls_ne (by decide) (ls_ne (by decide) (ls_ne (by decide) (ls_ne (by decide) (ls_ne (by decide) (ls_ne (by decide) (ls_ne (by decide) (ls_ne (by decide) (ls_eq h_m))))))))))) (ls_ne (by decide) hf_m_22) dX10_seal_198 ?_
                  refine rn_iconst (v := (1 : Int32)) dX10_seal_201 (by decide) ?_
                  refine rn_iadd dX10_seal_202 ?_
                  refine rn_topi (1 : Int32) (by decide) ?_
                  refine rn_put 23 (kp_SGModel_200 _) (ls_ne (by decide) (ls_ne (by decide) (ls_ne (by decide) (ls_ne (by decide) (ls_ne (by decide) (ls_ne (by decide) (ls_ne (by decide) (ls_ne (by decide) (ls_ne (by decide) (ls_ne (by decide) (ls_eq h_m))))))))))) (ls_lt (ls_ne (by decide) hf_m_22)) rfl rfl dX10_seal_203 ?_
                  refine rn_iload dX10_seal_206 rfl ?_
                  exact rn_iret dX10_seal_208 rfl rfl (Or.inr (Or.inr ⟨(Or.inr ⟨hc8, hc10, hc19, h21, hc34, hc36, h39, hc47⟩), rfl, rfl⟩))
                · have hc49 := hc; clear hc; cases hr; subst hw
                  exact absurd hc49 (by decide)
                · have hc50 := hc; clear hc; cases hr; subst hw
                  exact absurd hc50 (by decide)
                · have hc51 := hc; clear hc; cases hr; subst hw
                  exact absurd hc51 (by decide)
            · have hc52 := hc; clear hc; cases hr; subst hw
              exact absurd hc52 (by decide)
            · have hc53 := hc; clear hc; cases hr; subst hw
              exact absurd hc53 (by decide)
            · have hc54 := hc; clear hc; cases hr; subst hw
              exact absurd hc54 (by decide)
    · have hc55 := hc; clear hc; cases hr; subst hw
      exact absurd hc55 (by decide)
    · have hc56 := hc; clear hc; cases hr; subst hw
      exact absurd hc56 (by decide)
    · have hc57 := hc; clear hc; cases hr; subst hw
      exact absurd hc57 (by decide)
