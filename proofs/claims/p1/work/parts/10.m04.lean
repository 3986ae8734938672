set_option maxRecDepth 20000 in
set_option maxHeartbeats 4000000 in
theorem c_X10_poke (G : rn_G) (ws : va_W) (o_m : Nat) (k : Int32) (x : Int32) (fs_m : List Value) (h_m : ws[23]? = some (o_m, Sum.inr (10, fs_m))) (hf_m_0 : fs_m[0]? = some (.int (0 : Int32))) (hf_m_3 : fs_m[3]? = some (.int (0 : Int32))) : Rn G mX10_poke 1 22 0 0 0 (lv_args 0 [.ref o_m, .int k, .int x]) [] ws (fun r w => ((((k < (0 : Int32)) ∨ (¬ (k < (0 : Int32)) ∧ (-1 : Int32) < k)) ∧ ((0 : Int32) = (0 : Int32) ∧ ¬ ((1 : Int32) = (0 : Int32)) ∧ ¬ ((1 : Int32) ≤ (0 : Int32)))) ∧ r = Sum.inl (some (.int (0 : Int32))) ∧ w = ((ws.set 23 (o_m, Sum.inr (10, (fs_m.set 0 (.int (0 : Int32)))))).set 23 (o_m, Sum.inr (10, ((fs_m.set 0 (.int (0 : Int32))).set 0 (.int (1 : Int32)))))))) := by
  refine rn_lv [(0, .ref o_m), (1, .int k), (2, .int x)] rfl ?_
  refine rn_aload_n (i := 0) dX10_poke_0 rfl rfl ?_
  refine rn_iconst (v := (0 : Int32)) dX10_poke_1 (by decide) ?_
  refine rn_put 23 (kp_SGModel_137 _) h_m (ls_lt hf_m_0) rfl rfl dX10_poke_2 ?_
  refine rn_aload_n (i := 0) dX10_poke_5 rfl rfl ?_
  refine rn_iload_n (i := 1) dX10_poke_6 rfl rfl ?_
  refine rn_iconst (v := (0 : Int32)) dX10_poke_7 (by decide) ?_
  refine rn_aload_n (i := 0) dX10_poke_8 rfl rfl ?_
  refine rn_get 23 kg_SGModel_168 (ls_eq h_m) (ls_ne (by decide) hf_m_3) dX10_poke_9 ?_
  refine rn_iconst (v := (1 : Int32)) dX10_poke_12 (by decide) ?_
  refine rn_isub dX10_poke_13 ?_
  refine rn_topi (-1 : Int32) (by decide) ?_
  refine rn_callS (a := 0) (b := 0) [.int k, .int (0 : Int32), .int (-1 : Int32)] kl_SGModel_179 dX10_poke_14 (c_X10_in G _ (x := k) (y := (0 : Int32)) (u := (-1 : Int32))) rfl rfl (Nat.le_of_ble_eq_true rfl) (Nat.le_of_ble_eq_true rfl) (Nat.le_of_ble_eq_true rfl) (Nat.le_of_ble_eq_true rfl) (Nat.le_of_ble_eq_true rfl) (Nat.le_of_ble_eq_true rfl) (by rintro E w h; rcases h with ⟨_, hr, _⟩ | ⟨_, hr, _⟩ <;> cases hr) ?_
  rintro v w h
  rcases h with ⟨hc, hr, hw⟩ | ⟨hc, hr, hw⟩
  · have hc1 := hc; clear hc; cases hr; subst hw
    refine rn_stk [.int (0 : Int32), .ref o_m] rfl ?_
    refine rn_if_ne (tgt := 24) dX10_poke_17 (by decide) (fun h2 => absurd h2 (by decide)) (fun h2 => ?_)
    refine rn_iconst (v := (1 : Int32)) dX10_poke_20 (by decide) ?_
    refine rn_goto (tgt := 25) dX10_poke_21 (by decide) ?_
    refine rn_iconst (v := (1 : Int32)) dX10_poke_25 (by decide) ?_
    refine rn_callV (a := 0) (b := 0) [.int (1 : Int32), .int (1 : Int32)] kl_SGModel_171 dX10_poke_26 23 (ls_eq h_m) rfl (c_X10_refuses G _ (o_m := o_m) (x := (1 : Int32)) (y := (1 : Int32)) (fs_m := (fs_m.set 0 (.int (0 : Int32)))) (th := (0 : Int32)) (ls_eq h_m) (ls_eq hf_m_0)) rfl rfl (Nat.le_of_ble_eq_true rfl) (Nat.le_of_ble_eq_true rfl) (Nat.le_of_ble_eq_true rfl) (Nat.le_of_ble_eq_true rfl) (Nat.le_of_ble_eq_true rfl) (Nat.le_of_ble_eq_true rfl) (by rintro E w h; rcases h with ⟨_, hr, _⟩ | ⟨_, hr, _⟩ | ⟨_, hr, _⟩ | ⟨_, hr, _⟩ <;> cases hr) ?_
    rintro v w h
    rcases h with ⟨hc, hr, hw⟩ | ⟨hc, hr, hw⟩ | ⟨hc, hr, hw⟩ | ⟨hc, hr, hw⟩
    · have hc3 := hc; clear hc; cases hr; subst hw
      exact absurd hc3 (by decide)
    · have hc4 := hc; clear hc; cases hr; subst hw
      exact absurd hc4 (by decide)
    · have hc5 := hc; clear hc; cases hr; subst hw
      exact absurd hc5 (by decide)
    · have hc6 := hc; clear hc; cases hr; subst hw
      refine rn_stk [.int (1 : Int32)] rfl ?_
      refine rn_if_ne (tgt := 56) dX10_poke_29 (by decide) (fun h7 => ?_) (fun h7 => absurd h7 (by decide))
      refine rn_iconst (v := (0 : Int32)) dX10_poke_56 (by decide) ?_
      exact rn_iret dX10_poke_57 rfl rfl ⟨⟨hc1, hc6⟩, rfl, rfl⟩
  · have hc8 := hc; clear hc; cases hr; subst hw
    exfalso; have g0 := i32_rng k; simp only [Int32.lt_iff_toInt_lt, Int32.le_iff_toInt_le, gt_iff_lt, ge_iff_le, ← Int32.toInt_inj, i32_m1, i32_0] at *; omega
set_option maxRecDepth 20000 in
set_option maxHeartbeats 4000000 in
theorem c_X10_at (G : rn_G) (ws : va_W) (o_m : Nat) (k : Int32) (fs_m : List Value) (h_m : ws[23]? = some (o_m, Sum.inr (10, fs_m))) (hf_m_0 : fs_m[0]? = some (.int (0 : Int32))) (hf_m_3 : fs_m[3]? = some (.int (0 : Int32))) : Rn G mX10_at 1 22 0 0 0 (lv_args 0 [.ref o_m, .int k]) [] ws (fun r w => ((((k < (0 : Int32)) ∨ (¬ (k < (0 : Int32)) ∧ (-1 : Int32) < k)) ∧ ((0 : Int32) = (0 : Int32) ∧ ¬ ((1 : Int32) = (0 : Int32)) ∧ ¬ ((1 : Int32) ≤ (0 : Int32)))) ∧ r = Sum.inl (some (.int (0 : Int32))) ∧ w = ((ws.set 23 (o_m, Sum.inr (10, (fs_m.set 0 (.int (0 : Int32)))))).set 23 (o_m, Sum.inr (10, ((fs_m.set 0 (.int (0 : Int32))).set 0 (.int (1 : Int32)))))))) := by
  refine rn_lv [(0, .ref o_m), (1, .int k)] rfl ?_
  refine rn_aload_n (i := 0) dX10_at_0 rfl rfl ?_
  refine rn_iconst (v := (0 : Int32)) dX10_at_1 (by decide) ?_
  refine rn_put 23 (kp_SGModel_137 _) h_m (ls_lt hf_m_0) rfl rfl dX10_at_2 ?_
  refine rn_aload_n (i := 0) dX10_at_5 rfl rfl ?_
  refine rn_iload_n (i := 1) dX10_at_6 rfl rfl ?_
  refine rn_iconst (v := (0 : Int32)) dX10_at_7 (by decide) ?_
  refine rn_aload_n (i := 0) dX10_at_8 rfl rfl ?_
  refine rn_get 23 kg_SGModel_168 (ls_eq h_m) (ls_ne (by decide) hf_m_3) dX10_at_9 ?_
  refine rn_iconst (v := (1 : Int32)) dX10_at_12 (by decide) ?_
  refine rn_isub dX10_at_13 ?_
  refine rn_topi (-1 : Int32) (by decide) ?_
  refine rn_callS (a := 0) (b := 0) [.int k, .int (0 : Int32), .int (-1 : Int32)] kl_SGModel_179 dX10_at_14 (c_X10_in G _ (x := k) (y := (0 : Int32)) (u := (-1 : Int32))) rfl rfl (Nat.le_of_ble_eq_true rfl) (Nat.le_of_ble_eq_true rfl) (Nat.le_of_ble_eq_true rfl) (Nat.le_of_ble_eq_true rfl) (Nat.le_of_ble_eq_true rfl) (Nat.le_of_ble_eq_true rfl) (by rintro E w h; rcases h with ⟨_, hr, _⟩ | ⟨_, hr, _⟩ <;> cases hr) ?_
  rintro v w h
  rcases h with ⟨hc, hr, hw⟩ | ⟨hc, hr, hw⟩
  · have hc1 := hc; clear hc; cases hr; subst hw
    refine rn_stk [.int (0 : Int32), .ref o_m] rfl ?_
    refine rn_if_ne (tgt := 24) dX10_at_17 (by decide) (fun h2 => absurd h2 (by decide)) (fun h2 => ?_)
    refine rn_iconst (v := (1 : Int32)) dX10_at_20 (by decide) ?_
    refine rn_goto (tgt := 25) dX10_at_21 (by decide) ?_
    refine rn_iconst (v := (1 : Int32)) dX10_at_25 (by decide) ?_
    refine rn_callV (a := 0) (b := 0) [.int (1 : Int32), .int (1 : Int32)] kl_SGModel_171 dX10_at_26 23 (ls_eq h_m) rfl (c_X10_refuses G _ (o_m := o_m) (x := (1 : Int32)) (y := (1 : Int32)) (fs_m := (fs_m.set 0 (.int (0 : Int32)))) (th := (0 : Int32)) (ls_eq h_m) (ls_eq hf_m_0)) rfl rfl (Nat.le_of_ble_eq_true rfl) (Nat.le_of_ble_eq_true rfl) (Nat.le_of_ble_eq_true rfl) (Nat.le_of_ble_eq_true rfl) (Nat.le_of_ble_eq_true rfl) (Nat.le_of_ble_eq_true rfl) (by rintro E w h; rcases h with ⟨_, hr, _⟩ | ⟨_, hr, _⟩ | ⟨_, hr, _⟩ | ⟨_, hr, _⟩ <;> cases hr) ?_
    rintro v w h
    rcases h with ⟨hc, hr, hw⟩ | ⟨hc, hr, hw⟩ | ⟨hc, hr, hw⟩ | ⟨hc, hr, hw⟩
    · have hc3 := hc; clear hc; cases hr; subst hw
      exact absurd hc3 (by decide)
    · have hc4 := hc; clear hc; cases hr; subst hw
      exact absurd hc4 (by decide)
    · have hc5 := hc; clear hc; cases hr; subst hw
      exact absurd hc5 (by decide)
    · have hc6 := hc; clear hc; cases hr; subst hw
      refine rn_stk [.int (1 : Int32)] rfl ?_
      refine rn_if_eq (tgt := 36) dX10_at_29 (by decide) (fun h7 => absurd h7 (by decide)) (fun h7 => ?_)
      refine rn_iconst (v := (0 : Int32)) dX10_at_32 (by decide) ?_
      refine rn_goto (tgt := 44) dX10_at_33 (by decide) ?_
      exact rn_iret dX10_at_44 rfl rfl ⟨⟨hc1, hc6⟩, rfl, rfl⟩
  · have hc8 := hc; clear hc; cases hr; subst hw
    exfalso; have g0 := i32_rng k; simp only [Int32.lt_iff_toInt_lt, Int32.le_iff_toInt_le, gt_iff_lt, ge_iff_le, ← Int32.toInt_inj, i32_m1, i32_0] at *; omega
set_option maxRecDepth 20000 in
set_option maxHeartbeats 4000000 in
theorem c_X10_sum (G : rn_G) (ws : va_W) (o_m : Nat) (fs_m : List Value) (h_m : ws[23]? = some (o_m, Sum.inr (10, fs_m))) (hf_m_0 : fs_m[0]? = some (.int (0 : Int32))) (hf_m_3 : fs_m[3]? = some (.int (0 : Int32))) : Rn G mX10_sum 1 22 0 0 0 (lv_args 0 [.ref o_m]) [] ws (fun r w => ((((0 : Int32) = (0 : Int32) ∧ ¬ ((1 : Int32) = (0 : Int32)) ∧ ¬ ((1 : Int32) ≤ (0 : Int32)))) ∧ r = Sum.inl (some (.int (0 : Int32))) ∧ w = ((ws.set 23 (o_m, Sum.inr (10, (fs_m.set 0 (.int (0 : Int32)))))).set 23 (o_m, Sum.inr (10, ((fs_m.set 0 (.int (0 : Int32))).set 0 (.int (1 : Int32)))))))) := by
  refine rn_lv [(0, .ref o_m)] rfl ?_
  refine rn_aload_n (i := 0) dX10_sum_0 rfl rfl ?_
  refine rn_iconst (v := (0 : Int32)) dX10_sum_1 (by decide) ?_
  refine rn_put 23 (kp_SGModel_137 _) h_m (ls_lt hf_m_0) rfl rfl dX10_sum_2 ?_
  refine rn_aload_n (i := 0) dX10_sum_5 rfl rfl ?_
  refine rn_aload_n (i := 0) dX10_sum_6 rfl rfl ?_
  refine rn_get 23 kg_SGModel_168 (ls_eq h_m) (ls_ne (by decide) hf_m_3) dX10_sum_7 ?_
  refine rn_bipush (v := (20 : Int32)) dX10_sum_10 (by decide) ?_
  refine rn_icmp_ge (tgt := 19) dX10_sum_12 (by decide) (fun h1 => absurd h1 (by decide)) (fun h1 => ?_)
  refine rn_iconst (v := (1 : Int32)) dX10_sum_15 (by decide) ?_
  refine rn_goto (tgt := 20) dX10_sum_16 (by decide) ?_
  refine rn_iconst (v := (1 : Int32)) dX10_sum_20 (by decide) ?_
  refine rn_callV (a := 0) (b := 0) [.int (1 : Int32), .int (1 : Int32)] kl_SGModel_171 dX10_sum_21 23 (ls_eq h_m) rfl (c_X10_refuses G _ (o_m := o_m) (x := (1 : Int32)) (y := (1 : Int32)) (fs_m := (fs_m.set 0 (.int (0 : Int32)))) (th := (0 : Int32)) (ls_eq h_m) (ls_eq hf_m_0)) rfl rfl (Nat.le_of_ble_eq_true rfl) (Nat.le_of_ble_eq_true rfl) (Nat.le_of_ble_eq_true rfl) (Nat.le_of_ble_eq_true rfl) (Nat.le_of_ble_eq_true rfl) (Nat.le_of_ble_eq_true rfl) (by rintro E w h; rcases h with ⟨_, hr, _⟩ | ⟨_, hr, _⟩ | ⟨_, hr, _⟩ | ⟨_, hr, _⟩ <;> cases hr) ?_
  rintro v w h
  rcases h with ⟨hc, hr, hw⟩ | ⟨hc, hr, hw⟩ | ⟨hc, hr, hw⟩ | ⟨hc, hr, hw⟩
  · have hc2 := hc; clear hc; cases hr; subst hw
    exact absurd hc2 (by decide)
  · have hc3 := hc; clear hc; cases hr; subst hw
    exact absurd hc3 (by decide)
  · have hc4 := hc; clear hc; cases hr; subst hw
    exact absurd hc4 (by decide)
  · have hc5 := hc; clear hc; cases hr; subst hw
    refine rn_stk [.int (1 : Int32)] rfl ?_
    refine rn_if_eq (tgt := 29) dX10_sum_24 (by decide) (fun h6 => absurd h6 (by decide)) (fun h6 => ?_)
    refine rn_iconst (v := (0 : Int32)) dX10_sum_27 (by decide) ?_
    exact rn_iret dX10_sum_28 rfl rfl ⟨hc5, rfl, rfl⟩
set_option maxRecDepth 20000 in
set_option maxHeartbeats 4000000 in
theorem c_X10_route (G : rn_G) (ws : va_W) (o_m : Nat) (x : Int32) (y : Int32) (u : Int32) (fs_m : List Value) (a_routeNet : Nat) (a_routeWidth : Nat) (a_routePort : Nat) (h_m : ws[23]? = some (o_m, Sum.inr (10, fs_m))) (hf_m_0 : fs_m[0]? = some (.int (0 : Int32))) (hf_m_4 : fs_m[4]? = some (.int (0 : Int32))) (hf_m_5 : fs_m[5]? = some (.ref a_routeNet)) (hf_m_6 : fs_m[6]? = some (.ref a_routeWidth)) (hf_m_7 : fs_m[7]? = some (.ref a_routePort)) (h_m_routeNet : ws[25]? = some (a_routeNet, Sum.inl (rn_k G 1, 16, Sum.inl (fun _ => 0)))) (h_m_routeWidth : ws[26]? = some (a_routeWidth, Sum.inl (rn_k G 1, 16, Sum.inl (fun _ => 0)))) (h_m_routePort : ws[27]? = some (a_routePort, Sum.inl (rn_k G 1, 16, Sum.inl (fun _ => 0)))) : Rn G mX10_route 1 22 0 0 0 (lv_args 0 [.ref o_m, .int x, .int y, .int u]) [] ws (fun r w => (((((y < (0 : Int32)) ∨ (¬ (y < (0 : Int32)) ∧ (32 : Int32) < y)) ∧ ((0 : Int32) = (0 : Int32) ∧ ¬ ((1 : Int32) = (0 : Int32)) ∧ ¬ ((1 : Int32) ≤ (0 : Int32)))) ∨ ((¬ (y < (0 : Int32)) ∧ ¬ ((32 : Int32) < y)) ∧ ((u < (0 : Int32)) ∨ (¬ (u < (0 : Int32)) ∧ (1 : Int32) < u)) ∧ ((0 : Int32) = (0 : Int32) ∧ ¬ ((1 : Int32) = (0 : Int32)) ∧ ¬ ((1 : Int32) ≤ (0 : Int32))))) ∧ r = Sum.inl (some (.int (0 : Int32))) ∧ w = ((ws.set 23 (o_m, Sum.inr (10, (fs_m.set 0 (.int (0 : Int32)))))).set 23 (o_m, Sum.inr (10, ((fs_m.set 0 (.int (0 : Int32))).set 0 (.int (1 : Int32))))))) ∨ (((¬ (y < (0 : Int32)) ∧ ¬ ((32 : Int32) < y)) ∧ (¬ (u < (0 : Int32)) ∧ ¬ ((1 : Int32) < u)) ∧ ((¬ ((0 : Int32) = (0 : Int32)) ∧ (0 : Int32) ≤ (0 : Int32)) ∨ ((0 : Int32) = (0 : Int32) ∧ (0 : Int32) = (0 : Int32) ∧ (0 : Int32) ≤ (0 : Int32))) ∧ ((¬ ((0 : Int32) = (0 : Int32)) ∧ (0 : Int32) ≤ (0 : Int32)) ∨ ((0 : Int32) = (0 : Int32) ∧ (0 : Int32) = (0 : Int32) ∧ (0 : Int32) ≤ (0 : Int32)))) ∧ r = Sum.inl (some (.int (1 : Int32))) ∧ w = (((((ws.set 23 (o_m, Sum.inr (10, (fs_m.set 0 (.int (0 : Int32)))))).set 25 (a_routeNet, Sum.inl (rn_k G 1, 16, Sum.inl (upd (fun _ => 0) ((0 : Int32)).toNatClampNeg x)))).set 26 (a_routeWidth, Sum.inl (rn_k G 1, 16, Sum.inl (upd (fun _ => 0) ((0 : Int32)).toNatClampNeg y)))).set 27 (a_routePort, Sum.inl (rn_k G 1, 16, Sum.inl (upd (fun _ => 0) ((0 : Int32)).toNatClampNeg u)))).set 23 (o_m, Sum.inr (10, ((fs_m.set 0 (.int (0 : Int32))).set 4 (.int (1 : Int32)))))))) := by
  refine rn_lv [(0, .ref o_m), (1, .int x), (2, .int y), (3, .int u)] rfl ?_
  refine rn_aload_n (i := 0) dX10_route_0 rfl rfl ?_
  refine rn_iconst (v := (0 : Int32)) dX10_route_1 (by decide) ?_
  refine rn_put 23 (kp_SGModel_137 _) h_m (ls_lt hf_m_0) rfl rfl dX10_route_2 ?_
  refine rn_aload_n (i := 0) dX10_route_5 rfl rfl ?_
  refine rn_iload_n (i := 2) dX10_route_6 rfl rfl ?_
  refine rn_iconst (v := (0 : Int32)) dX10_route_7 (by decide) ?_
  refine rn_bipush (v := (32 : Int32)) dX10_route_8 (by decide) ?_
  refine rn_callS (a := 0) (b := 0) [.int y, .int (0 : Int32), .int (32 : Int32)] kl_SGModel_179 dX10_route_10 (c_X10_in G _ (x := y) (y := (0 : Int32)) (u := (32 : Int32))) rfl rfl (Nat.le_of_ble_eq_true rfl) (Nat.le_of_ble_eq_true rfl) (Nat.le_of_ble_eq_true rfl) (Nat.le_of_ble_eq_true rfl) (Nat.le_of_ble_eq_true rfl) (Nat.le_of_ble_eq_true rfl) (by rintro E w h; rcases h with ⟨_, hr, _⟩ | ⟨_, hr, _⟩ <;> cases hr) ?_
  rintro v w h
  rcases h with ⟨hc, hr, hw⟩ | ⟨hc, hr, hw⟩
  · have hc1 := hc; clear hc; cases hr; subst hw
    refine rn_stk [.int (0 : Int32), .ref o_m] rfl ?_
    refine rn_if_eq (tgt := 25) dX10_route_13 (by decide) (fun h2 => ?_) (fun h2 => absurd h2 (by decide))
    refine rn_iconst (v := (1 : Int32)) dX10_route_25 (by decide) ?_
    refine rn_goto (tgt := 30) dX10_route_26 (by decide) ?_
    refine rn_iconst (v := (1 : Int32)) dX10_route_30 (by decide) ?_
    refine rn_callV (a := 0) (b := 0) [.int (1 : Int32), .int (1 : Int32)] kl_SGModel_171 dX10_route_31 23 (ls_eq h_m) rfl (c_X10_refuses G _ (o_m := o_m) (x := (1 : Int32)) (y := (1 : Int32)) (fs_m := (fs_m.set 0 (.int (0 : Int32)))) (th := (0 : Int32)) (ls_eq h_m) (ls_eq hf_m_0)) rfl rfl (Nat.le_of_ble_eq_true rfl) (Nat.le_of_ble_eq_true rfl) (Nat.le_of_ble_eq_true rfl) (Nat.le_of_ble_eq_true rfl) (Nat.le_of_ble_eq_true rfl) (Nat.le_of_ble_eq_true rfl) (by rintro E w h; rcases h with ⟨_, hr, _⟩ | ⟨_, hr, _⟩ | ⟨_, hr, _⟩ | ⟨_, hr, _⟩ <;> cases hr) ?_
    rintro v w h
    rcases h with ⟨hc, hr, hw⟩ | ⟨hc, hr, hw⟩ | ⟨hc, hr, hw⟩ | ⟨hc, hr, hw⟩
    · have hc3 := hc; clear hc; cases hr; subst hw
      exact absurd hc3 (by decide)
    · have hc4 := hc; clear hc; cases hr; subst hw
      exact absurd hc4 (by decide)
    · have hc5 := hc; clear hc; cases hr; subst hw
      exact absurd hc5 (by decide)
    · have hc6 := hc; clear hc; cases hr; subst hw
      refine rn_stk [.int (1 : Int32)] rfl ?_
      refine rn_if_ne (tgt := 59) dX10_route_34 (by decide) (fun h7 => ?_) (fun h7 => absurd h7 (by decide))
      refine rn_iconst (v := (0 : Int32)) dX10_route_59 (by decide) ?_
      exact rn_iret dX10_route_60 rfl rfl (Or.inl ⟨(Or.inl ⟨hc1, hc6⟩), rfl, rfl⟩)
  · have hc8 := hc; clear hc; cases hr; subst hw
    refine rn_stk [.int (1 : Int32), .ref o_m] rfl ?_
    refine rn_if_eq (tgt := 25) dX10_route_13 (by decide) (fun h9 => absurd h9 (by decide)) (fun h9 => ?_)
    refine rn_iload_n (i := 3) dX10_route_16 rfl rfl ?_
    refine rn_iconst (v := (0 : Int32)) dX10_route_17 (by decide) ?_
    refine rn_iconst (v := (1 : Int32)) dX10_route_18 (by decide) ?_
    refine rn_callS (a := 0) (b := 0) [.int u, .int (0 : Int32), .int (1 : Int32)] kl_SGModel_179 dX10_route_19 (c_X10_in G _ (x := u) (y := (0 : Int32)) (u := (1 : Int32))) rfl rfl (Nat.le_of_ble_eq_true rfl) (Nat.le_of_ble_eq_true rfl) (Nat.le_of_ble_eq_true rfl) (Nat.le_of_ble_eq_true rfl) (Nat.le_of_ble_eq_true rfl) (Nat.le_of_ble_eq_true rfl) (by rintro E w h; rcases h with ⟨_, hr, _⟩ | ⟨_, hr, _⟩ <;> cases hr) ?_
    rintro v w h
    rcases h with ⟨hc, hr, hw⟩ | ⟨hc, hr, hw⟩
    · have hc10 := hc; clear hc; cases hr; subst hw
      refine rn_stk [.int (0 : Int32), .ref o_m] rfl ?_
      refine rn_if_ne (tgt := 29) dX10_route_22 (by decide) (fun h11 => absurd h11 (by decide)) (fun h11 => ?_)
      refine rn_iconst (v := (1 : Int32)) dX10_route_25 (by decide) ?_
      refine rn_goto (tgt := 30) dX10_route_26 (by decide) ?_
      refine rn_iconst (v := (1 : Int32)) dX10_route_30 (by decide) ?_
      refine rn_callV (a := 0) (b := 0) [.int (1 : Int32), .int (1 : Int32)] kl_SGModel_171 dX10_route_31 23 (ls_eq h_m) rfl (c_X10_refuses G _ (o_m := o_m) (x := (1 : Int32)) (y := (1 : Int32)) (fs_m := (fs_m.set 0 (.int (0 : Int32)))) (th := (0 : Int32)) (ls_eq h_m) (ls_eq hf_m_0)) rfl rfl (Nat.le_of_ble_eq_true rfl) (Nat.le_of_ble_eq_true rfl) (Nat.le_of_ble_eq_true rfl) (Nat.le_of_ble_eq_true rfl) (Nat.le_of_ble_eq_true rfl) (Nat.le_of_ble_eq_true rfl) (by rintro E w h; rcases h with ⟨_, hr, _⟩ | ⟨_, hr, _⟩ | ⟨_, hr, _⟩ | ⟨_, hr, _⟩ <;> cases hr) ?_
      rintro v w h
      rcases h with ⟨hc, hr, hw⟩ | ⟨hc, hr, hw⟩ | ⟨hc, hr, hw⟩ | ⟨hc, hr, hw⟩
      · have hc12 := hc; clear hc; cases hr; subst hw
        exact absurd hc12 (by decide)
      · have hc13 := hc; clear hc; cases hr; subst hw
        exact absurd hc13 (by decide)
      · have hc14 := hc; clear hc; cases hr; subst hw
        exact absurd hc14 (by decide)
      · have hc15 := hc; clear hc; cases hr; subst hw
        refine rn_stk [.int (1 : Int32)] rfl ?_
        refine rn_if_ne (tgt := 59) dX10_route_34 (by decide) (fun h16 => ?_) (fun h16 => absurd h16 (by decide))
        refine rn_iconst (v := (0 : Int32)) dX10_route_59 (by decide) ?_
        exact rn_iret dX10_route_60 rfl rfl (Or.inl ⟨(Or.inr ⟨hc8, hc10, hc15⟩), rfl, rfl⟩)
    · have hc17 := hc; clear hc; cases hr; subst hw
      refine rn_stk [.int (1 : Int32), .ref o_m] rfl ?_
      refine rn_if_ne (tgt := 29) dX10_route_22 (by decide) (fun h18 => ?_) (fun h18 => absurd h18 (by decide))
      refine rn_iconst (v := (0 : Int32)) dX10_route_29 (by decide) ?_
      refine rn_iconst (v := (1 : Int32)) dX10_route_30 (by decide) ?_
      refine rn_callV (a := 0) (b := 0) [.int (0 : Int32), .int (1 : Int32)] kl_SGModel_171 dX10_route_31 23 (ls_eq h_m) rfl (c_X10_refuses G _ (o_m := o_m) (x := (0 : Int32)) (y := (1 : Int32)) (fs_m := (fs_m.set 0 (.int (0 : Int32)))) (th := (0 : Int32)) (ls_eq h_m) (ls_eq hf_m_0)) rfl rfl (Nat.le_of_ble_eq_true rfl) (Nat.le_of_ble_eq_true rfl) (Nat.le_of_ble_eq_true rfl) (Nat.le_of_ble_eq_true rfl) (Nat.le_of_ble_eq_true rfl) (Nat.le_of_ble_eq_true rfl) (by rintro E w h; rcases h with ⟨_, hr, _⟩ | ⟨_, hr, _⟩ | ⟨_, hr, _⟩ | ⟨_, hr, _⟩ <;> cases hr) ?_
      rintro v w h
      rcases h with ⟨hc, hr, hw⟩ | ⟨hc, hr, hw⟩ | ⟨hc, hr, hw⟩ | ⟨hc, hr, hw⟩
      · have hc19 := hc; clear hc; cases hr; subst hw
        refine rn_stk [.int (0 : Int32)] rfl ?_
        refine rn_if_ne (tgt := 59) dX10_route_34 (by decide) (fun h20 => absurd h20 (by decide)) (fun h20 => ?_)
        refine rn_aload_n (i := 0) dX10_route_37 rfl rfl ?_
        refine rn_aload_n (i := 0) dX10_route_38 rfl rfl ?_
        refine rn_get 23 kg_SGModel_188 (ls_eq h_m) (ls_ne (by decide) hf_m_4) dX10_route_39 ?_
        refine rn_bipush (v := (16 : Int32)) dX10_route_42 (by decide) ?_
        refine rn_icmp_ne (tgt := 51) dX10_route_44 (by decide) (fun h21 => ?_) (fun h21 => absurd h21 (by decide))
        refine rn_iconst (v := (0 : Int32)) dX10_route_51 (by decide) ?_
        refine rn_iconst (v := (2 : Int32)) dX10_route_52 (by decide) ?_
        refine rn_callV (a := 0) (b := 0) [.int (0 : Int32), .int (2 : Int32)] kl_SGModel_171 dX10_route_53 23 (ls_eq h_m) rfl (c_X10_refuses G _ (o_m := o_m) (x := (0 : Int32)) (y := (2 : Int32)) (fs_m := (fs_m.set 0 (.int (0 : Int32)))) (th := (0 : Int32)) (ls_eq h_m) (ls_eq hf_m_0)) rfl rfl (Nat.le_of_ble_eq_true rfl) (Nat.le_of_ble_eq_true rfl) (Nat.le_of_ble_eq_true rfl) (Nat.le_of_ble_eq_true rfl) (Nat.le_of_ble_eq_true rfl) (Nat.le_of_ble_eq_true rfl) (by rintro E w h; rcases h with ⟨_, hr, _⟩ | ⟨_, hr, _⟩ | ⟨_, hr, _⟩ | ⟨_, hr, _⟩ <;> cases hr) ?_
        rintro v w h
        rcases h with ⟨hc, hr, hw⟩ | ⟨hc, hr, hw⟩ | ⟨hc, hr, hw⟩ | ⟨hc, hr, hw⟩
        · have hc22 := hc; clear hc; cases hr; subst hw
          refine rn_stk [.int (0 : Int32)] rfl ?_
          refine rn_if_eq (tgt := 61) dX10_route_56 (by decide) (fun h23 => ?_) (fun h23 => absurd h23 (by decide))
          refine rn_aload_n (i := 0) dX10_route_61 rfl rfl ?_
          refine rn_get 23 kg_SGModel_13 (ls_eq h_m) (ls_ne (by decide) hf_m_5) dX10_route_62 ?_
          refine rn_aload_n (i := 0) dX10_route_65 rfl rfl ?_
          refine rn_get 23 kg_SGModel_188 (ls_eq h_m) (ls_ne (by decide) hf_m_4) dX10_route_66 ?_
          refine rn_iload_n (i := 1) dX10_route_69 rfl rfl ?_
          refine rn_iast 25 1 (ls_ne (by decide) h_m_routeNet) rfl (by unfold vp_in; decide) dX10_route_70 ?_
          refine rn_aload_n (i := 0) dX10_route_71 rfl rfl ?_
          refine rn_get 23 kg_SGModel_16 (ls_ne (by decide) (ls_eq h_m)) (ls_ne (by decide) hf_m_6) dX10_route_72 ?_
          refine rn_aload_n (i := 0) dX10_route_75 rfl rfl ?_
          refine rn_get 23 kg_SGModel_188 (ls_ne (by decide) (ls_eq h_m)) (ls_ne (by decide) hf_m_4) dX10_route_76 ?_
          refine rn_iload_n (i := 2) dX10_route_79 rfl rfl ?_
          refine rn_iast 26 1 (ls_ne (by decide) (ls_ne (by decide) h_m_routeWidth)) rfl (by unfold vp_in; decide) dX10_route_80 ?_
          refine rn_aload_n (i := 0) dX10_route_81 rfl rfl ?_
          refine rn_get 23 kg_SGModel_19 (ls_ne (by decide) (ls_ne (by decide) (ls_eq h_m))) (ls_ne (by decide) hf_m_7) dX10_route_82 ?_
          refine rn_aload_n (i := 0) dX10_route_85 rfl rfl ?_
          refine rn_get 23 kg_SGModel_188 (ls_ne (by decide) (ls_ne (by decide) (ls_eq h_m))) (ls_ne (by decide) hf_m_4) dX10_route_86 ?_
          refine rn_iload_n (i := 3) dX10_route_89 rfl rfl ?_
          refine rn_iast 27 1 (ls_ne (by decide) (ls_ne (by decide) (ls_ne (by decide) h_m_routePort))) rfl (by unfold vp_in; decide) dX10_route_90 ?_
          refine rn_aload_n (i := 0) dX10_route_91 rfl rfl ?_
          refine rn_dup dX10_route_92 rfl ?_
          refine rn_get 23 kg_SGModel_188 (ls_ne (by decide) (ls_ne (by decide) (ls_ne (by decide) (ls_eq h_m)))) (ls_ne (by decide) hf_m_4) dX10_route_93 ?_
          refine rn_iconst (v := (1 : Int32)) dX10_route_96 (by decide) ?_
          refine rn_iadd dX10_route_97 ?_
          refine rn_topi (1 : Int32) (by decide) ?_
          refine rn_put 23 (kp_SGModel_188 _) (ls_ne (by decide) (ls_ne (by decide) (ls_ne (by decide) (ls_eq h_m)))) (ls_lt (ls_ne (by decide) hf_m_4)) rfl rfl dX10_route_98 ?_
          refine rn_aload_n (i := 0) dX10_route_101 rfl rfl ?_
          refine rn_get 23 kg_SGModel_188 (ls_eq (ls_ne (by decide) (ls_ne (by decide) (ls_ne (by decide) (ls_eq h_m))))) (ls_eq (ls_ne (by decide) hf_m_4)) dX10_route_102 ?_
          exact rn_iret dX10_route_105 rfl rfl (Or.inr ⟨⟨hc8, hc17, hc19, hc22⟩, rfl, rfl⟩)
        · have hc24 := hc; clear hc; cases hr; subst hw
          exact absurd hc24 (by decide)
        · have hc25 := hc; clear hc; cases hr; subst hw
          exact absurd hc25 (by decide)
        · have hc26 := hc; clear hc; cases hr; subst hw
          exact absurd hc26 (by decide)
      · have hc27 := hc; clear hc; cases hr; subst hw
        exact absurd hc27 (by decide)
      · have hc28 := hc; clear hc; cases hr; subst hw
        exact absurd hc28 (by decide)
      · have hc29 := hc; clear hc; cases hr; subst hw
        exact absurd hc29 (by decide)
set_option maxRecDepth 20000 in
set_option maxHeartbeats 4000000 in
theorem c_X10_peer (G : rn_G) (ws : va_W) (o_m : Nat) (x : Int32) (y : Int32) (fs_m : List Value) (a_peers : Nat) (h_m : ws[23]? = some (o_m, Sum.inr (10, fs_m))) (hf_m_0 : fs_m[0]? = some (.int (0 : Int32))) (hf_m_8 : fs_m[8]? = some (.ref a_peers)) (h_m_peers : ws[28]? = some (a_peers, Sum.inl (rn_k G 1, 4, Sum.inl (fun _ => 0)))) : Rn G mX10_peer 1 22 0 0 0 (lv_args 0 [.ref o_m, .int x, .int y]) [] ws (fun r w => ((((x < (0 : Int32)) ∨ (¬ (x < (0 : Int32)) ∧ (3 : Int32) < x)) ∧ ((0 : Int32) = (0 : Int32) ∧ ¬ ((1 : Int32) = (0 : Int32)) ∧ ¬ ((1 : Int32) ≤ (0 : Int32)))) ∧ r = Sum.inl (some (.int (0 : Int32))) ∧ w = ((ws.set 23 (o_m, Sum.inr (10, (fs_m.set 0 (.int (0 : Int32)))))).set 23 (o_m, Sum.inr (10, ((fs_m.set 0 (.int (0 : Int32))).set 0 (.int (1 : Int32))))))) ∨ (((¬ (x < (0 : Int32)) ∧ ¬ ((3 : Int32) < x)) ∧ ((¬ ((0 : Int32) = (0 : Int32)) ∧ (0 : Int32) ≤ (0 : Int32)) ∨ ((0 : Int32) = (0 : Int32) ∧ (0 : Int32) = (0 : Int32) ∧ (0 : Int32) ≤ (0 : Int32)))) ∧ r = Sum.inl (some (.int (0 : Int32))) ∧ w = ((ws.set 23 (o_m, Sum.inr (10, (fs_m.set 0 (.int (0 : Int32)))))).set 28 (a_peers, Sum.inl (rn_k G 1, 4, Sum.inl (upd (fun _ => 0) (x).toNatClampNeg y)))))) := by
  refine rn_lv [(0, .ref o_m), (1, .int x), (2, .int y)] rfl ?_
  refine rn_aload_n (i := 0) dX10_peer_0 rfl rfl ?_
  refine rn_iconst (v := (0 : Int32)) dX10_peer_1 (by decide) ?_
  refine rn_put 23 (kp_SGModel_137 _) h_m (ls_lt hf_m_0) rfl rfl dX10_peer_2 ?_
  refine rn_aload_n (i := 0) dX10_peer_5 rfl rfl ?_
  refine rn_iload_n (i := 1) dX10_peer_6 rfl rfl ?_
  refine rn_iconst (v := (0 : Int32)) dX10_peer_7 (by decide) ?_
  refine rn_iconst (v := (3 : Int32)) dX10_peer_8 (by decide) ?_
  refine rn_callS (a := 0) (b := 0) [.int x, .int (0 : Int32), .int (3 : Int32)] kl_SGModel_179 dX10_peer_9 (c_X10_in G _ (x := x) (y := (0 : Int32)) (u := (3 : Int32))) rfl rfl (Nat.le_of_ble_eq_true rfl) (Nat.le_of_ble_eq_true rfl) (Nat.le_of_ble_eq_true rfl) (Nat.le_of_ble_eq_true rfl) (Nat.le_of_ble_eq_true rfl) (Nat.le_of_ble_eq_true rfl) (by rintro E w h; rcases h with ⟨_, hr, _⟩ | ⟨_, hr, _⟩ <;> cases hr) ?_
  rintro v w h
  rcases h with ⟨hc, hr, hw⟩ | ⟨hc, hr, hw⟩
  · have hc1 := hc; clear hc; cases hr; subst hw
    refine rn_stk [.int (0 : Int32), .ref o_m] rfl ?_
    refine rn_if_ne (tgt := 19) dX10_peer_12 (by decide) (fun h2 => absurd h2 (by decide)) (fun h2 => ?_)
    refine rn_iconst (v := (1 : Int32)) dX10_peer_15 (by decide) ?_
    refine rn_goto (tgt := 20) dX10_peer_16 (by decide) ?_
    refine rn_iconst (v := (1 : Int32)) dX10_peer_20 (by decide) ?_
    refine rn_callV (a := 0) (b := 0) [.int (1 : Int32), .int (1 : Int32)] kl_SGModel_171 dX10_peer_21 23 (ls_eq h_m) rfl (c_X10_refuses G _ (o_m := o_m) (x := (1 : Int32)) (y := (1 : Int32)) (fs_m := (fs_m.set 0 (.int (0 : Int32)))) (th := (0 : Int32)) (ls_eq h_m) (ls_eq hf_m_0)) rfl rfl (Nat.le_of_ble_eq_true rfl) (Nat.le_of_ble_eq_true rfl) (Nat.le_of_ble_eq_true rfl) (Nat.le_of_ble_eq_true rfl) (Nat.le_of_ble_eq_true rfl) (Nat.le_of_ble_eq_true rfl) (by rintro E w h; rcases h with ⟨_, hr, _⟩ | ⟨_, hr, _⟩ | ⟨_, hr, _⟩ | ⟨_, hr, _⟩ <;> cases hr) ?_
    rintro v w h
    rcases h with ⟨hc, hr, hw⟩ | ⟨hc, hr, hw⟩ | ⟨hc, hr, hw⟩ | ⟨hc, hr, hw⟩
    · have hc3 := hc; clear hc; cases hr; subst hw
      exact absurd hc3 (by decide)
    · have hc4 := hc; clear hc; cases hr; subst hw
      exact absurd hc4 (by decide)
    · have hc5 := hc; clear hc; cases hr; subst hw
      exact absurd hc5 (by decide)
    · have hc6 := hc; clear hc; cases hr; subst hw
      refine rn_stk [.int (1 : Int32)] rfl ?_
      refine rn_if_eq (tgt := 29) dX10_peer_24 (by decide) (fun h7 => absurd h7 (by decide)) (fun h7 => ?_)
      refine rn_iconst (v := (0 : Int32)) dX10_peer_27 (by decide) ?_
      exact rn_iret dX10_peer_28 rfl rfl (Or.inl ⟨⟨hc1, hc6⟩, rfl, rfl⟩)
  · have hc8 := hc; clear hc; cases hr; subst hw
    refine rn_stk [.int (1 : Int32), .ref o_m] rfl ?_
    refine rn_if_ne (tgt := 19) dX10_peer_12 (by decide) (fun h9 => ?_) (fun h9 => absurd h9 (by decide))
    refine rn_iconst (v := (0 : Int32)) dX10_peer_19 (by decide) ?_
    refine rn_iconst (v := (1 : Int32)) dX10_peer_20 (by decide) ?_
    refine rn_callV (a := 0) (b := 0) [.int (0 : Int32), .int (1 : Int32)] kl_SGModel_171 dX10_peer_21 23 (ls_eq h_m) rfl (c_X10_refuses G _ (o_m := o_m) (x := (0 : Int32)) (y := (1 : Int32)) (fs_m := (fs_m.set 0 (.int (0 : Int32)))) (th := (0 : Int32)) (ls_eq h_m) (ls_eq hf_m_0)) rfl rfl (Nat.le_of_ble_eq_true rfl) (Nat.le_of_ble_eq_true rfl) (Nat.le_of_ble_eq_true rfl) (Nat.le_of_ble_eq_true rfl) (Nat.le_of_ble_eq_true rfl) (Nat.le_of_ble_eq_true rfl) (by rintro E w h; rcases h with ⟨_, hr, _⟩ | ⟨_, hr, _⟩ | ⟨_, hr, _⟩ | ⟨_, hr, _⟩ <;> cases hr) ?_
    rintro v w h
    rcases h with ⟨hc, hr, hw⟩ | ⟨hc, hr, hw⟩ | ⟨hc, hr, hw⟩ | ⟨hc, hr, hw⟩
    · have hc10 := hc; clear hc; cases hr; subst hw
      refine rn_stk [.int (0 : Int32)] rfl ?_
      refine rn_if_eq (tgt := 29) dX10_peer_24 (by decide) (fun h11 => ?_) (fun h11 => absurd h11 (by decide))
      refine rn_aload_n (i := 0) dX10_peer_29 rfl rfl ?_
      refine rn_get 23 kg_SGModel_22 (ls_eq h_m) (ls_ne (by decide) hf_m_8) dX10_peer_30 ?_
      refine rn_iload_n (i := 1) dX10_peer_33 rfl rfl ?_
      refine rn_iald 28 1 (ls_ne (by decide) h_m_peers) rfl (rn_in (by have g0 := i32_rng x; simp only [Int32.lt_iff_toInt_lt, Int32.le_iff_toInt_le, gt_iff_lt, ge_iff_le, ← Int32.toInt_inj, i32_0, i32_3] at *; omega)) dX10_peer_34 ?_
      refine rn_topi (0 : Int32) rfl ?_
      refine rn_istore_n dX10_peer_35 rfl (by decide) [(0, .ref o_m), (1, .int x), (2, .int y), (3, .int (0 : Int32))] rfl ?_
      refine rn_aload_n (i := 0) dX10_peer_36 rfl rfl ?_
      refine rn_get 23 kg_SGModel_22 (ls_eq h_m) (ls_ne (by decide) hf_m_8) dX10_peer_37 ?_
      refine rn_iload_n (i := 1) dX10_peer_40 rfl rfl ?_
      refine rn_iload_n (i := 2) dX10_peer_41 rfl rfl ?_
      refine rn_iast 28 1 (ls_ne (by decide) h_m_peers) rfl (rn_in (by have g0 := i32_rng x; simp only [Int32.lt_iff_toInt_lt, Int32.le_iff_toInt_le, gt_iff_lt, ge_iff_le, ← Int32.toInt_inj, i32_0, i32_3] at *; omega)) dX10_peer_42 ?_
      refine rn_iload_n (i := 3) dX10_peer_43 rfl rfl ?_
      exact rn_iret dX10_peer_44 rfl rfl (Or.inr ⟨⟨hc8, hc10⟩, rfl, rfl⟩)
    · have hc12 := hc; clear hc; cases hr; subst hw
      exact absurd hc12 (by decide)
    · have hc13 := hc; clear hc; cases hr; subst hw
      exact absurd hc13 (by decide)
    · have hc14 := hc; clear hc; cases hr; subst hw
      exact absurd hc14 (by decide)
set_option maxRecDepth 20000 in
set_option maxHeartbeats 4000000 in
theorem c_X10_meant (G : rn_G) (ws : va_W) (o_m : Nat) (x : Int32) (y : Int32) (u : Int32) (fs_m : List Value) (h_m : ws[23]? = some (o_m, Sum.inr (10, fs_m))) (hf_m_0 : fs_m[0]? = some (.int (0 : Int32))) (hf_m_19 : fs_m[19]? = some (.int (0 : Int32))) (hf_m_20 : fs_m[20]? = some (.int (0 : Int32))) (hf_m_21 : fs_m[21]? = some (.int (65535 : Int32))) : Rn G mX10_meant 1 22 0 0 0 (lv_args 0 [.ref o_m, .int x, .int y, .int u]) [] ws (fun r w => (((((x < (0 : Int32)) ∨ (¬ (x < (0 : Int32)) ∧ (255 : Int32) < x)) ∧ ((0 : Int32) = (0 : Int32) ∧ ¬ ((1 : Int32) = (0 : Int32)) ∧ ¬ ((1 : Int32) ≤ (0 : Int32)))) ∨ ((¬ (x < (0 : Int32)) ∧ ¬ ((255 : Int32) < x)) ∧ ((u < (0 : Int32)) ∨ (¬ (u < (0 : Int32)) ∧ (65535 : Int32) < u)) ∧ ((0 : Int32) = (0 : Int32) ∧ ¬ ((1 : Int32) = (0 : Int32)) ∧ ¬ ((1 : Int32) ≤ (0 : Int32)))) ∨ ((¬ (x < (0 : Int32)) ∧ ¬ ((255 : Int32) < x)) ∧ (¬ (u < (0 : Int32)) ∧ ¬ ((65535 : Int32) < u)) ∧ ((y < (0 : Int32)) ∨ (¬ (y < (0 : Int32)) ∧ u < y)) ∧ ((0 : Int32) = (0 : Int32) ∧ ¬ ((1 : Int32) = (0 : Int32)) ∧ ¬ ((1 : Int32) ≤ (0 : Int32))))) ∧ r = Sum.inl none ∧ w = ((ws.set 23 (o_m, Sum.inr (10, (fs_m.set 0 (.int (0 : Int32)))))).set 23 (o_m, Sum.inr (10, ((fs_m.set 0 (.int (0 : Int32))).set 0 (.int (1 : Int32))))))) ∨ (((¬ (x < (0 : Int32)) ∧ ¬ ((255 : Int32) < x)) ∧ (¬ (u < (0 : Int32)) ∧ ¬ ((65535 : Int32) < u)) ∧ (¬ (y < (0 : Int32)) ∧ ¬ (u < y)) ∧ ((¬ ((0 : Int32) = (0 : Int32)) ∧ (0 : Int32) ≤ (0 : Int32)) ∨ ((0 : Int32) = (0 : Int32) ∧ (0 : Int32) = (0 : Int32) ∧ (0 : Int32) ≤ (0 : Int32)))) ∧ r = Sum.inl none ∧ w = ((((ws.set 23 (o_m, Sum.inr (10, (fs_m.set 0 (.int (0 : Int32)))))).set 23 (o_m, Sum.inr (10, ((fs_m.set 0 (.int (0 : Int32))).set 19 (.int x))))).set 23 (o_m, Sum.inr (10, (((fs_m.set 0 (.int (0 : Int32))).set 19 (.int x)).set 20 (.int y))))).set 23 (o_m, Sum.inr (10, ((((fs_m.set 0 (.int (0 : Int32))).set 19 (.int x)).set 20 (.int y)).set 21 (.int u))))))) := by
  refine rn_lv [(0, .ref o_m), (1, .int x), (2, .int y), (3, .int u)] rfl ?_
  refine rn_aload_n (i := 0) dX10_meant_0 rfl rfl ?_
  refine rn_iconst (v := (0 : Int32)) dX10_meant_1 (by decide) ?_
  refine rn_put 23 (kp_SGModel_137 _) h_m (ls_lt hf_m_0) rfl rfl dX10_meant_2 ?_
  refine rn_aload_n (i := 0) dX10_meant_5 rfl rfl ?_
  refine rn_iload_n (i := 1) dX10_meant_6 rfl rfl ?_
  refine rn_iconst (v := (0 : Int32)) dX10_meant_7 (by decide) ?_
  refine rn_sipush (v := (255 : Int32)) dX10_meant_8 (by decide) ?_
  refine rn_callS (a := 0) (b := 0) [.int x, .int (0 : Int32), .int (255 : Int32)] kl_SGModel_179 dX10_meant_11 (c_X10_in G _ (x := x) (y := (0 : Int32)) (u := (255 : Int32))) rfl rfl (Nat.le_of_ble_eq_true rfl) (Nat.le_of_ble_eq_true rfl) (Nat.le_of_ble_eq_true rfl) (Nat.le_of_ble_eq_true rfl) (Nat.le_of_ble_eq_true rfl) (Nat.le_of_ble_eq_true rfl) (by rintro E w h; rcases h with ⟨_, hr, _⟩ | ⟨_, hr, _⟩ <;> cases hr) ?_
  rintro v w h
  rcases h with ⟨hc, hr, hw⟩ | ⟨hc, hr, hw⟩
  · have hc1 := hc; clear hc; cases hr; subst hw
    refine rn_stk [.int (0 : Int32), .ref o_m] rfl ?_
    refine rn_if_eq (tgt := 36) dX10_meant_14 (by decide) (fun h2 => ?_) (fun h2 => absurd h2 (by decide))
    refine rn_iconst (v := (1 : Int32)) dX10_meant_36 (by decide) ?_
    refine rn_goto (tgt := 41) dX10_meant_37 (by decide) ?_
    refine rn_iconst (v := (1 : Int32)) dX10_meant_41 (by decide) ?_
    refine rn_callV (a := 0) (b := 0) [.int (1 : Int32), .int (1 : Int32)] kl_SGModel_171 dX10_meant_42 23 (ls_eq h_m) rfl (c_X10_refuses G _ (o_m := o_m) (x := (1 : Int32)) (y := (1 : Int32)) (fs_m := (fs_m.set 0 (.int (0 : Int32)))) (th := (0 : Int32)) (ls_eq h_m) (ls_eq hf_m_0)) rfl rfl (Nat.le_of_ble_eq_true rfl) (Nat.le_of_ble_eq_true rfl) (Nat.le_of_ble_eq_true rfl) (Nat.le_of_ble_eq_true rfl) (Nat.le_of_ble_eq_true rfl) (Nat.le_of_ble_eq_true rfl) (by rintro E w h; rcases h with ⟨_, hr, _⟩ | ⟨_, hr, _⟩ | ⟨_, hr, _⟩ | ⟨_, hr, _⟩ <;> cases hr) ?_
    rintro v w h
    rcases h with ⟨hc, hr, hw⟩ | ⟨hc, hr, hw⟩ | ⟨hc, hr, hw⟩ | ⟨hc, hr, hw⟩
    · have hc3 := hc; clear hc; cases hr; subst hw
      exact absurd hc3 (by decide)
    · have hc4 := hc; clear hc; cases hr; subst hw
      exact absurd hc4 (by decide)
    · have hc5 := hc; clear hc; cases hr; subst hw
      exact absurd hc5 (by decide)
    · have hc6 := hc; clear hc; cases hr; subst hw
      refine rn_stk [.int (1 : Int32)] rfl ?_
      refine rn_if_ne (tgt := 63) dX10_meant_45 (by decide) (fun h7 => ?_) (fun h7 => absurd h7 (by decide))
      exact rn_vret dX10_meant_63 rfl (Or.inl ⟨(Or.inl ⟨hc1, hc6⟩), rfl, rfl⟩)
  · have hc8 := hc; clear hc; cases hr; subst hw
    refine rn_stk [.int (1 : Int32), .ref o_m] rfl ?_
    refine rn_if_eq (tgt := 36) dX10_meant_14 (by decide) (fun h9 => absurd h9 (by decide)) (fun h9 => ?_)
    refine rn_iload_n (i := 3) dX10_meant_17 rfl rfl ?_
    refine rn_iconst (v := (0 : Int32)) dX10_meant_18 (by decide) ?_
    refine rn_ldc (v := (65535 : Int32)) wd_1093 dX10_meant_19 ?_
    refine rn_callS (a := 0) (b := 0) [.int u, .int (0 : Int32), .int (65535 : Int32)] kl_SGModel_179 dX10_meant_21 (c_X10_in G _ (x := u) (y := (0 : Int32)) (u := (65535 : Int32))) rfl rfl (Nat.le_of_ble_eq_true rfl) (Nat.le_of_ble_eq_true rfl) (Nat.le_of_ble_eq_true rfl) (Nat.le_of_ble_eq_true rfl) (Nat.le_of_ble_eq_true rfl) (Nat.le_of_ble_eq_true rfl) (by rintro E w h; rcases h with ⟨_, hr, _⟩ | ⟨_, hr, _⟩ <;> cases hr) ?_
    rintro v w h
    rcases h with ⟨hc, hr, hw⟩ | ⟨hc, hr, hw⟩
    · have hc10 := hc; clear hc; cases hr; subst hw
      refine rn_stk [.int (0 : Int32), .ref o_m] rfl ?_
      refine rn_if_eq (tgt := 36) dX10_meant_24 (by decide) (fun h11 => ?_) (fun h11 => absurd h11 (by decide))
      refine rn_iconst (v := (1 : Int32)) dX10_meant_36 (by decide) ?_
      refine rn_goto (tgt := 41) dX10_meant_37 (by decide) ?_
      refine rn_iconst (v := (1 : Int32)) dX10_meant_41 (by decide) ?_
      refine rn_callV (a := 0) (b := 0) [.int (1 : Int32), .int (1 : Int32)] kl_SGModel_171 dX10_meant_42 23 (ls_eq h_m) rfl (c_X10_refuses G _ (o_m := o_m) (x := (1 : Int32)) (y := (1 : Int32)) (fs_m := (fs_m.set 0 (.int (0 : Int32)))) (th := (0 : Int32)) (ls_eq h_m) (ls_eq hf_m_0)) rfl rfl (Nat.le_of_ble_eq_true rfl) (Nat.le_of_ble_eq_true rfl) (Nat.le_of_ble_eq_true rfl) (Nat.le_of_ble_eq_true rfl) (Nat.le_of_ble_eq_true rfl) (Nat.le_of_ble_eq_true rfl) (by rintro E w h; rcases h with ⟨_, hr, _⟩ | ⟨_, hr, _⟩ | ⟨_, hr, _⟩ | ⟨_, hr, _⟩ <;> cases hr) ?_
      rintro v w h
      rcases h with ⟨hc, hr, hw⟩ | ⟨hc, hr, hw⟩ | ⟨hc, hr, hw⟩ | ⟨hc, hr, hw⟩
      · have hc12 := hc; clear hc; cases hr; subst hw
        exact absurd hc12 (by decide)
      · have hc13 := hc; clear hc; cases hr; subst hw
        exact absurd hc13 (by decide)
      · have hc14 := hc; clear hc; cases hr; subst hw
        exact absurd hc14 (by decide)
      · have hc15 := hc; clear hc; cases hr; subst hw
        refine rn_stk [.int (1 : Int32)] rfl ?_
        refine rn_if_ne (tgt := 63) dX10_meant_45 (by decide) (fun h16 => ?_) (fun h16 => absurd h16 (by decide))
        exact rn_vret dX10_meant_63 rfl (Or.inl ⟨(Or.inr (Or.inl ⟨hc8, hc10, hc15⟩)), rfl, rfl⟩)
    · have hc17 := hc; clear hc; cases hr; subst hw
      refine rn_stk [.int (1 : Int32), .ref o_m] rfl ?_
      refine rn_if_eq (tgt := 36) dX10_meant_24 (by decide) (fun h18 => absurd h18 (by decide)) (fun h18 => ?_)
      refine rn_iload_n (i := 2) dX10_meant_27 rfl rfl ?_
      refine rn_iconst (v := (0 : Int32)) dX10_meant_28 (by decide) ?_
      refine rn_iload_n (i := 3) dX10_meant_29 rfl rfl ?_
      refine rn_callS (a := 0) (b := 0) [.int y, .int (0 : Int32), .int u] kl_SGModel_179 dX10_meant_30 (c_X10_in G _ (x := y) (y := (0 : Int32)) (u := u)) rfl rfl (Nat.le_of_ble_eq_true rfl) (Nat.le_of_ble_eq_true rfl) (Nat.le_of_ble_eq_true rfl) (Nat.le_of_ble_eq_true rfl) (Nat.le_of_ble_eq_true rfl) (Nat.le_of_ble_eq_true rfl) (by rintro E w h; rcases h with ⟨_, hr, _⟩ | ⟨_, hr, _⟩ <;> cases hr) ?_
      rintro v w h
      rcases h with ⟨hc, hr, hw⟩ | ⟨hc, hr, hw⟩
      · have hc19 := hc; clear hc; cases hr; subst hw
        refine rn_stk [.int (0 : Int32), .ref o_m] rfl ?_
        refine rn_if_ne (tgt := 40) dX10_meant_33 (by decide) (fun h20 => absurd h20 (by decide)) (fun h20 => ?_)
        refine rn_iconst (v := (1 : Int32)) dX10_meant_36 (by decide) ?_
        refine rn_goto (tgt := 41) dX10_meant_37 (by decide) ?_
        refine rn_iconst (v := (1 : Int32)) dX10_meant_41 (by decide) ?_
        refine rn_callV (a := 0) (b := 0) [.int (1 : Int32), .int (1 : Int32)] kl_SGModel_171 dX10_meant_42 23 (ls_eq h_m) rfl (c_X10_refuses G _ (o_m := o_m) (x := (1 : Int32)) (y := (1 : Int32)) (fs_m := (fs_m.set 0 (.int (0 : Int32)))) (th := (0 : Int32)) (ls_eq h_m) (ls_eq hf_m_0)) rfl rfl (Nat.le_of_ble_eq_true rfl) (Nat.le_of_ble_eq_true rfl) (Nat.le_of_ble_eq_true rfl) (Nat.le_of_ble_eq_true rfl) (Nat.le_of_ble_eq_true rfl) (Nat.le_of_ble_eq_true rfl) (by rintro E w h; rcases h with ⟨_, hr, _⟩ | ⟨_, hr, _⟩ | ⟨_, hr, _⟩ | ⟨_, hr, _⟩ <;> cases hr) ?_
        rintro v w h
        rcases h with ⟨hc, hr, hw⟩ | ⟨hc, hr, hw⟩ | ⟨hc, hr, hw⟩ | ⟨hc, hr, hw⟩
        · have hc21 := hc; clear hc; cases hr; subst hw
          exact absurd hc21 (by decide)
        · have hc22 := hc; clear hc; cases hr; subst hw
          exact absurd hc22 (by decide)
        · have hc23 := hc; clear hc; cases hr; subst hw
          exact absurd hc23 (by decide)
        · have hc24 := hc; clear hc; cases hr; subst hw
          refine rn_stk [.int (1 : Int32)] rfl ?_
          refine rn_if_ne (tgt := 63) dX10_meant_45 (by decide) (fun h25 => ?_) (fun h25 => absurd h25 (by decide))
          exact rn_vret dX10_meant_63 rfl (Or.inl ⟨(Or.inr (Or.inr ⟨hc8, hc17, hc19, hc24⟩)), rfl, rfl⟩)
      · have hc26 := hc; clear hc; cases hr; subst hw
        refine rn_stk [.int (1 : Int32), .ref o_m] rfl ?_
        refine rn_if_ne (tgt := 40) dX10_meant_33 (by decide) (fun h27 => ?_) (fun h27 => absurd h27 (by decide))
        refine rn_iconst (v := (0 : Int32)) dX10_meant_40 (by decide) ?_
        refine rn_iconst (v := (1 : Int32)) dX10_meant_41 (by decide) ?_
        refine rn_callV (a := 0) (b := 0) [.int (0 : Int32), .int (1 : Int32)] kl_SGModel_171 dX10_meant_42 23 (ls_eq h_m) rfl (c_X10_refuses G _ (o_m := o_m) (x := (0 : Int32)) (y := (1 : Int32)) (fs_m := (fs_m.set 0 (.int (0 : Int32)))) (th := (0 : Int32)) (ls_eq h_m) (ls_eq hf_m_0)) rfl rfl (Nat.le_of_ble_eq_true rfl) (Nat.le_of_ble_eq_true rfl) (Nat.le_of_ble_eq_true rfl) (Nat.le_of_ble_eq_true rfl) (Nat.le_of_ble_eq_true rfl) (Nat.le_of_ble_eq_true rfl) (by rintro E w h; rcases h with ⟨_, hr, _⟩ | ⟨_, hr, _⟩ | ⟨_, hr, _⟩ | ⟨_, hr, _⟩ <;> cases hr) ?_
        rintro v w h
        rcases h with ⟨hc, hr, hw⟩ | ⟨hc, hr, hw⟩ | ⟨hc, hr, hw⟩ | ⟨hc, hr, hw⟩
        · have hc28 := hc; clear hc; cases hr; subst hw
          refine rn_stk [.int (0 : Int32)] rfl ?_
          refine rn_if_ne (tgt := 63) dX10_meant_45 (by decide) (fun h29 => absurd h29 (by decide)) (fun h29 => ?_)
          refine rn_aload_n (i := 0) dX10_meant_48 rfl rfl ?_
          refine rn_iload_n (i := 1) dX10_meant_49 rfl rfl ?_
          refine rn_put 23 (kp_SGModel_191 _) (ls_eq h_m) (ls_lt (ls_ne (by decide) hf_m_19)) rfl rfl dX10_meant_50 ?_
          refine rn_aload_n (i := 0) dX10_meant_53 rfl rfl ?_
          refine rn_iload_n (i := 2) dX10_meant_54 rfl rfl ?_
          refine rn_put 23 (kp_SGModel_194 _) (ls_eq (ls_eq h_m)) (ls_lt (ls_ne (by decide) (ls_ne (by decide) hf_m_20))) rfl rfl dX10_meant_55 ?_
          refine rn_aload_n (i := 0) dX10_meant_58 rfl rfl ?_
          refine rn_iload_n (i := 3) dX10_meant_59 rfl rfl ?_
          refine rn_put 23 (kp_SGModel_53 _) (ls_eq (ls_eq (ls_eq h_m))) (ls_lt (ls_ne (by decide) (ls_ne (by decide) (ls_ne (by decide) hf_m_21)))) rfl rfl dX10_meant_60 ?_
          exact rn_vret dX10_meant_63 rfl (Or.inr ⟨⟨hc8, hc17, hc26, hc28⟩, rfl, rfl⟩)
        · have hc30 := hc; clear hc; cases hr; subst hw
          exact absurd hc30 (by decide)
        · have hc31 := hc; clear hc; cases hr; subst hw
          exact absurd hc31 (by decide)
        · have hc32 := hc; clear hc; cases hr; subst hw
          exact absurd hc32 (by decide)
set_option maxRecDepth 20000 in
set_option maxHeartbeats 4000000 in
theorem c_X10_policy (G : rn_G) (ws : va_W) (o_m : Nat) (x : Int32) (y : Int32) (u : Int32) (x1 : Int32) (x2 : Int32) (x3 : Int32) (fs_m : List Value) (a_policyWay : Nat) (a_policyFrom : Nat) (a_policyFromWidth : Nat) (a_policyTo : Nat) (a_policyToWidth : Nat) (a_policyKind : Nat) (a_policyLow : Nat) (a_policyHigh : Nat) (a_policyDone : Nat) (h_m : ws[23]? = some (o_m, Sum.inr (10, fs_m))) (hf_m_0 : fs_m[0]? = some (.int (0 : Int32))) (hf_m_9 : fs_m[9]? = some (.int (0 : Int32))) (hf_m_10 : fs_m[10]? = some (.ref a_policyWay)) (hf_m_11 : fs_m[11]? = some (.ref a_policyFrom)) (hf_m_12 : fs_m[12]? = some (.ref a_policyFromWidth)) (hf_m_13 : fs_m[13]? = some (.ref a_policyTo)) (hf_m_14 : fs_m[14]? = some (.ref a_policyToWidth)) (hf_m_15 : fs_m[15]? = some (.ref a_policyKind)) (hf_m_16 : fs_m[16]? = some (.ref a_policyLow)) (hf_m_17 : fs_m[17]? = some (.ref a_policyHigh)) (hf_m_18 : fs_m[18]? = some (.ref a_policyDone)) (hf_m_19 : fs_m[19]? = some (.int (0 : Int32))) (hf_m_20 : fs_m[20]? = some (.int (0 : Int32))) (hf_m_21 : fs_m[21]? = some (.int (65535 : Int32))) (h_m_policyWay : ws[29]? = some (a_policyWay, Sum.inl (rn_k G 1, 24, Sum.inl (fun _ => 0)))) (h_m_policyFrom : ws[30]? = some (a_policyFrom, Sum.inl (rn_k G 1, 24, Sum.inl (fun _ => 0)))) (h_m_policyFromWidth : ws[31]? = some (a_policyFromWidth, Sum.inl (rn_k G 1, 24, Sum.inl (fun _ => 0)))) (h_m_policyTo : ws[32]? = some (a_policyTo, Sum.inl (rn_k G 1, 24, Sum.inl (fun _ => 0)))) (h_m_policyToWidth : ws[33]? = some (a_policyToWidth, Sum.inl (rn_k G 1, 24, Sum.inl (fun _ => 0)))) (h_m_policyKind : ws[34]? = some (a_policyKind, Sum.inl (rn_k G 1, 24, Sum.inl (fun _ => 0)))) (h_m_policyLow : ws[35]? = some (a_policyLow, Sum.inl (rn_k G 1, 24, Sum.inl (fun _ => 0)))) (h_m_policyHigh : ws[36]? = some (a_policyHigh, Sum.inl (rn_k G 1, 24, Sum.inl (fun _ => 0)))) (h_m_policyDone : ws[37]? = some (a_policyDone, Sum.inl (rn_k G 1, 24, Sum.inl (fun _ => 0)))) : Rn G mX10_policy 1 22 0 0 0 (lv_args 0 [.ref o_m, .int x, .int y, .int u, .int x1, .int x2, .int x3]) [] ws (fun r w => (((((x < (0 : Int32)) ∨ (¬ (x < (0 : Int32)) ∧ (1 : Int32) < x)) ∧ ((0 : Int32) = (0 : Int32) ∧ ¬ ((1 : Int32) = (0 : Int32)) ∧ ¬ ((1 : Int32) ≤ (0 : Int32)))) ∨ ((¬ (x < (0 : Int32)) ∧ ¬ ((1 : Int32) < x)) ∧ ((u < (0 : Int32)) ∨ (¬ (u < (0 : Int32)) ∧ (32 : Int32) < u)) ∧ ((0 : Int32) = (0 : Int32) ∧ ¬ ((1 : Int32) = (0 : Int32)) ∧ ¬ ((1 : Int32) ≤ (0 : Int32)))) ∨ ((¬ (x < (0 : Int32)) ∧ ¬ ((1 : Int32) < x)) ∧ (¬ (u < (0 : Int32)) ∧ ¬ ((32 : Int32) < u)) ∧ ((x2 < (0 : Int32)) ∨ (¬ (x2 < (0 : Int32)) ∧ (32 : Int32) < x2)) ∧ ((0 : Int32) = (0 : Int32) ∧ ¬ ((1 : Int32) = (0 : Int32)) ∧ ¬ ((1 : Int32) ≤ (0 : Int32)))) ∨ ((¬ (x < (0 : Int32)) ∧ ¬ ((1 : Int32) < x)) ∧ (¬ (u < (0 : Int32)) ∧ ¬ ((32 : Int32) < u)) ∧ (¬ (x2 < (0 : Int32)) ∧ ¬ ((32 : Int32) < x2)) ∧ ((x3 < (-2 : Int32)) ∨ (¬ (x3 < (-2 : Int32)) ∧ (3 : Int32) < x3)) ∧ ((0 : Int32) = (0 : Int32) ∧ ¬ ((1 : Int32) = (0 : Int32)) ∧ ¬ ((1 : Int32) ≤ (0 : Int32))))) ∧ r = Sum.inl (some (.int (0 : Int32))) ∧ w = ((ws.set 23 (o_m, Sum.inr (10, (fs_m.set 0 (.int (0 : Int32)))))).set 23 (o_m, Sum.inr (10, ((fs_m.set 0 (.int (0 : Int32))).set 0 (.int (1 : Int32))))))) ∨ (((¬ (x < (0 : Int32)) ∧ ¬ ((1 : Int32) < x)) ∧ (¬ (u < (0 : Int32)) ∧ ¬ ((32 : Int32) < u)) ∧ (¬ (x2 < (0 : Int32)) ∧ ¬ ((32 : Int32) < x2)) ∧ (¬ (x3 < (-2 : Int32)) ∧ ¬ ((3 : Int32) < x3)) ∧ ((¬ ((0 : Int32) = (0 : Int32)) ∧ (0 : Int32) ≤ (0 : Int32)) ∨ ((0 : Int32) = (0 : Int32) ∧ (0 : Int32) = (0 : Int32) ∧ (0 : Int32) ≤ (0 : Int32))) ∧ ((¬ ((0 : Int32) = (0 : Int32)) ∧ (0 : Int32) ≤ (0 : Int32)) ∨ ((0 : Int32) = (0 : Int32) ∧ (0 : Int32) = (0 : Int32) ∧ (0 : Int32) ≤ (0 : Int32)))) ∧ r = Sum.inl (some (.int (1 : Int32))) ∧ w = ((((((((((((((ws.set 23 (o_m, Sum.inr (10, (fs_m.set 0 (.int (0 : Int32)))))).set 29 (a_policyWay, Sum.inl (rn_k G 1, 24, Sum.inl (upd (fun _ => 0) ((0 : Int32)).toNatClampNeg x)))).set 30 (a_policyFrom, Sum.inl (rn_k G 1, 24, Sum.inl (upd (fun _ => 0) ((0 : Int32)).toNatClampNeg y)))).set 31 (a_policyFromWidth, Sum.inl (rn_k G 1, 24, Sum.inl (upd (fun _ => 0) ((0 : Int32)).toNatClampNeg u)))).set 32 (a_policyTo, Sum.inl (rn_k G 1, 24, Sum.inl (upd (fun _ => 0) ((0 : Int32)).toNatClampNeg x1)))).set 33 (a_policyToWidth, Sum.inl (rn_k G 1, 24, Sum.inl (upd (fun _ => 0) ((0 : Int32)).toNatClampNeg x2)))).set 37 (a_policyDone, Sum.inl (rn_k G 1, 24, Sum.inl (upd (fun _ => 0) ((0 : Int32)).toNatClampNeg x3)))).set 34 (a_policyKind, Sum.inl (rn_k G 1, 24, Sum.inl (upd (fun _ => 0) ((0 : Int32)).toNatClampNeg (0 : Int32))))).set 35 (a_policyLow, Sum.inl (rn_k G 1, 24, Sum.inl (upd (fun _ => 0) ((0 : Int32)).toNatClampNeg (0 : Int32))))).set 36 (a_policyHigh, Sum.inl (rn_k G 1, 24, Sum.inl (upd (fun _ => 0) ((0 : Int32)).toNatClampNeg (65535 : Int32))))).set 23 (o_m, Sum.inr (10, ((fs_m.set 0 (.int (0 : Int32))).set 19 (.int (0 : Int32)))))).set 23 (o_m, Sum.inr (10, (((fs_m.set 0 (.int (0 : Int32))).set 19 (.int (0 : Int32))).set 20 (.int (0 : Int32)))))).set 23 (o_m, Sum.inr (10, ((((fs_m.set 0 (.int (0 : Int32))).set 19 (.int (0 : Int32))).set 20 (.int (0 : Int32))).set 21 (.int (65535 : Int32)))))).set 23 (o_m, Sum.inr (10, (((((fs_m.set 0 (.int (0 : Int32))).set 19 (.int (0 : Int32))).set 20 (.int (0 : Int32))).set 21 (.int (65535 : Int32))).set 9 (.int (1 : Int32)))))))) := by
  refine rn_lv [(0, .ref o_m), (1, .int x), (2, .int y), (3, .int u), (4, .int x1), (5, .int x2), (6, .int x3)] rfl ?_
  refine rn_aload_n (i := 0) dX10_policy_0 rfl rfl ?_
  refine rn_iconst (v := (0 : Int32)) dX10_policy_1 (by decide) ?_
  refine rn_put 23 (kp_SGModel_137 _) h_m (ls_lt hf_m_0) rfl rfl dX10_policy_2 ?_
  refine rn_aload_n (i := 0) dX10_policy_5 rfl rfl ?_
  refine rn_iload_n (i := 1) dX10_policy_6 rfl rfl ?_
  refine rn_iconst (v := (0 : Int32)) dX10_policy_7 (by decide) ?_
  refine rn_iconst (v := (1 : Int32)) dX10_policy_8 (by decide) ?_
  refine rn_callS (a := 0) (b := 0) [.int x, .int (0 : Int32), .int (1 : Int32)] kl_SGModel_179 dX10_policy_9 (c_X10_in G _ (x := x) (y := (0 : Int32)) (u := (1 : Int32))) rfl rfl (Nat.le_of_ble_eq_true rfl) (Nat.le_of_ble_eq_true rfl) (Nat.le_of_ble_eq_true rfl) (Nat.le_of_ble_eq_true rfl) (Nat.le_of_ble_eq_true rfl) (Nat.le_of_ble_eq_true rfl) (by rintro E w h; rcases h with ⟨_, hr, _⟩ | ⟨_, hr, _⟩ <;> cases hr) ?_
  rintro v w h
  rcases h with ⟨hc, hr, hw⟩ | ⟨hc, hr, hw⟩
  · have hc1 := hc; clear hc; cases hr; subst hw
    refine rn_stk [.int (0 : Int32), .ref o_m] rfl ?_
    refine rn_if_eq (tgt := 47) dX10_policy_12 (by decide) (fun h2 => ?_) (fun h2 => absurd h2 (by decide))
    refine rn_iconst (v := (1 : Int32)) dX10_policy_47 (by decide) ?_
    refine rn_goto (tgt := 52) dX10_policy_48 (by decide) ?_
    refine rn_iconst (v := (1 : Int32)) dX10_policy_52 (by decide) ?_
    refine rn_callV (a := 0) (b := 0) [.int (1 : Int32), .int (1 : Int32)] kl_SGModel_171 dX10_policy_53 23 (ls_eq h_m) rfl (c_X10_refuses G _ (o_m := o_m) (x := (1 : Int32)) (y := (1 : Int32)) (fs_m := (fs_m.set 0 (.int (0 : Int32)))) (th := (0 : Int32)) (ls_eq h_m) (ls_eq hf_m_0)) rfl rfl (Nat.le_of_ble_eq_true rfl) (Nat.le_of_ble_eq_true rfl) (Nat.le_of_ble_eq_true rfl) (Nat.le_of_ble_eq_true rfl) (Nat.le_of_ble_eq_true rfl) (Nat.le_of_ble_eq_true rfl) (by rintro E w h; rcases h with ⟨_, hr, _⟩ | ⟨_, hr, _⟩ | ⟨_, hr, _⟩ | ⟨_, hr, _⟩ <;> cases hr) ?_
    rintro v w h
    rcases h with ⟨hc, hr, hw⟩ | ⟨hc, hr, hw⟩ | ⟨hc, hr, hw⟩ | ⟨hc, hr, hw⟩
    · have hc3 := hc; clear hc; cases hr; subst hw
      exact absurd hc3 (by decide)
    · have hc4 := hc; clear hc; cases hr; subst hw
      exact absurd hc4 (by decide)
    · have hc5 := hc; clear hc; cases hr; subst hw
      exact absurd hc5 (by decide)
    · have hc6 := hc; clear hc; cases hr; subst hw
      refine rn_stk [.int (1 : Int32)] rfl ?_
      refine rn_if_ne (tgt := 81) dX10_policy_56 (by decide) (fun h7 => ?_) (fun h7 => absurd h7 (by decide))
      refine rn_iconst (v := (0 : Int32)) dX10_policy_81 (by decide) ?_
      exact rn_iret dX10_policy_82 rfl rfl (Or.inl ⟨(Or.inl ⟨hc1, hc6⟩), rfl, rfl⟩)
  · have hc8 := hc; clear hc; cases hr; subst hw
    refine rn_stk [.int (1 : Int32), .ref o_m] rfl ?_
    refine rn_if_eq (tgt := 47) dX10_policy_12 (by decide) (fun h9 => absurd h9 (by decide)) (fun h9 => ?_)
    refine rn_iload_n (i := 3) dX10_policy_15 rfl rfl ?_
    refine rn_iconst (v := (0 : Int32)) dX10_policy_16 (by decide) ?_
    refine rn_bipush (v := (32 : Int32)) dX10_policy_17 (by decide) ?_
    refine rn_callS (a := 0) (b := 0) [.int u, .int (0 : Int32), .int (32 : Int32)] kl_SGModel_179 dX10_policy_19 (c_X10_in G _ (x := u) (y := (0 : Int32)) (u := (32 : Int32))) rfl rfl (Nat.le_of_ble_eq_true rfl) (Nat.le_of_ble_eq_true rfl) (Nat.le_of_ble_eq_true rfl) (Nat.le_of_ble_eq_true rfl) (Nat.le_of_ble_eq_true rfl) (Nat.le_of_ble_eq_true rfl) (by rintro E w h; rcases h with ⟨_, hr, _⟩ | ⟨_, hr, _⟩ <;> cases hr) ?_
    rintro v w h
    rcases h with ⟨hc, hr, hw⟩ | ⟨hc, hr, hw⟩
    · have hc10 := hc; clear hc; cases hr; subst hw
      refine rn_stk [.int (0 : Int32), .ref o_m] rfl ?_
      refine rn_if_eq (tgt := 47) dX10_policy_22 (by decide) (fun h11 => ?_) (fun h11 => absurd h11 (by decide))
      refine rn_iconst (v := (1 : Int32)) dX10_policy_47 (by decide) ?_
      refine rn_goto (tgt := 52) dX10_policy_48 (by decide) ?_
      refine rn_iconst (v := (1 : Int32)) dX10_policy_52 (by decide) ?_
      refine rn_callV (a := 0) (b := 0) [.int (1 : Int32), .int (1 : Int32)] kl_SGModel_171 dX10_policy_53 23 (ls_eq h_m) rfl (c_X10_refuses G _ (o_m := o_m) (x := (1 : Int32)) (y := (1 : Int32)) (fs_m := (fs_m.set 0 (.int (0 : Int32)))) (th := (0 : Int32)) (ls_eq h_m) (ls_eq hf_m_0)) rfl rfl (Nat.le_of_ble_eq_true rfl) (Nat.le_of_ble_eq_true rfl) (Nat.le_of_ble_eq_true rfl) (Nat.le_of_ble_eq_true rfl) (Nat.le_of_ble_eq_true rfl) (Nat.le_of_ble_eq_true rfl) (by rintro E w h; rcases h with ⟨_, hr, _⟩ | ⟨_, hr, _⟩ | ⟨_, hr, _⟩ | ⟨_, hr, _⟩ <;> cases hr) ?_
      rintro v w h
      rcases h with ⟨hc, hr, hw⟩ | ⟨hc, hr, hw⟩ | ⟨hc, hr, hw⟩ | ⟨hc, hr, hw⟩
      · have hc12 := hc; clear hc; cases hr; subst hw
        exact absurd hc12 (by decide)
      · have hc13 := hc; clear hc; cases hr; subst hw
        exact absurd hc13 (by decide)
      · have hc14 := hc; clear hc; cases hr; subst hw
        exact absurd hc14 (by decide)
      · have hc15 := hc; clear hc; cases hr; subst hw
        refine rn_stk [.int (1 : Int32)] rfl ?_
        refine rn_if_ne (tgt := 81) dX10_policy_56 (by decide) (fun h16 => ?_) (fun h16 => absurd h16 (by decide))
        refine rn_iconst (v := (0 : Int32)) dX10_policy_81 (by decide) ?_
        exact rn_iret dX10_policy_82 rfl rfl (Or.inl ⟨(Or.inr (Or.inl ⟨hc8, hc10, hc15⟩)), rfl, rfl⟩)
    · have hc17 := hc; clear hc; cases hr; subst hw
      refine rn_stk [.int (1 : Int32), .ref o_m] rfl ?_
      refine rn_if_eq (tgt := 47) dX10_policy_22 (by decide) (fun h18 => absurd h18 (by decide)) (fun h18 => ?_)
      refine rn_iload dX10_policy_25 rfl ?_
      refine rn_iconst (v := (0 : Int32)) dX10_policy_27 (by decide) ?_
      refine rn_bipush (v := (32 : Int32)) dX10_policy_28 (by decide) ?_
      refine rn_callS (a := 0) (b := 0) [.int x2, .int (0 : Int32), .int (32 : Int32)] kl_SGModel_179 dX10_policy_30 (c_X10_in G _ (x := x2) (y := (0 : Int32)) (u := (32 : Int32))) rfl rfl (Nat.le_of_ble_eq_true rfl) (Nat.le_of_ble_eq_true rfl) (Nat.le_of_ble_eq_true rfl) (Nat.le_of_ble_eq_true rfl) (Nat.le_of_ble_eq_true rfl) (Nat.le_of_ble_eq_true rfl) (by rintro E w h; rcases h with ⟨_, hr, _⟩ | ⟨_, hr, _⟩ <;> cases hr) ?_
      rintro v w h
      rcases h with ⟨hc, hr, hw⟩ | ⟨hc, hr, hw⟩
      · have hc19 := hc; clear hc; cases hr; subst hw
        refine rn_stk [.int (0 : Int32), .ref o_m] rfl ?_
        refine rn_if_eq (tgt := 47) dX10_policy_33 (by decide) (fun h20 => ?_) (fun h20 => absurd h20 (by decide))
        refine rn_iconst (v := (1 : Int32)) dX10_policy_47 (by decide) ?_
        refine rn_goto (tgt := 52) dX10_policy_48 (by decide) ?_
        refine rn_iconst (v := (1 : Int32)) dX10_policy_52 (by decide) ?_
        refine rn_callV (a := 0) (b := 0) [.int (1 : Int32), .int (1 : Int32)] kl_SGModel_171 dX10_policy_53 23 (ls_eq h_m) rfl (c_X10_refuses G _ (o_m := o_m) (x := (1 : Int32)) (y := (1 : Int32)) (fs_m := (fs_m.set 0 (.int (0 : Int32)))) (th := (0 : Int32)) (ls_eq h_m) (ls_eq hf_m_0)) rfl rfl (Nat.le_of_ble_eq_true rfl) (Nat.le_of_ble_eq_true rfl) (Nat.le_of_ble_eq_true rfl) (Nat.le_of_ble_eq_true rfl) (Nat.le_of_ble_eq_true rfl) (Nat.le_of_ble_eq_true rfl) (by rintro E w h; rcases h with ⟨_, hr, _⟩ | ⟨_, hr, _⟩ | ⟨_, hr, _⟩ | ⟨_, hr, _⟩ <;> cases hr) ?_
        rintro v w h
        rcases h with ⟨hc, hr, hw⟩ | ⟨hc, hr, hw⟩ | ⟨hc, hr, hw⟩ | ⟨hc, hr, hw⟩
        · have hc21 := hc; clear hc; cases hr; subst hw
          exact absurd hc21 (by decide)
        · have hc22 := hc; clear hc; cases hr; subst hw
          exact absurd hc22 (by decide)
        · have hc23 := hc; clear hc; cases hr; subst hw
          exact absurd hc23 (by decide)
        · have hc24 := hc; clear hc; cases hr; subst hw
          refine rn_stk [.int (1 : Int32)] rfl ?_
          refine rn_if_ne (tgt := 81) dX10_policy_56 (by decide) (fun h25 => ?_) (fun h25 => absurd h25 (by decide))
          refine rn_iconst (v := (0 : Int32)) dX10_policy_81 (by decide) ?_
          exact rn_iret dX10_policy_82 rfl rfl (Or.inl ⟨(Or.inr (Or.inr (Or.inl ⟨hc8, hc17, hc19, hc24⟩))), rfl, rfl⟩)
      · have hc26 := hc; clear hc; cases hr; subst hw
        refine rn_stk [.int (1 : Int32), .ref o_m] rfl ?_
        refine rn_if_eq (tgt := 47) dX10_policy_33 (by decide) (fun h27 => absurd h27 (by decide)) (fun h27 => ?_)
        refine rn_iload dX10_policy_36 rfl ?_
        refine rn_bipush (v := (-2 : Int32)) dX10_policy_38 (by decide) ?_
        refine rn_iconst (v := (3 : Int32)) dX10_policy_40 (by decide) ?_
        refine rn_callS (a := 0) (b := 0) [.int x3, .int (-2 : Int32), .int (3 : Int32)] kl_SGModel_179 dX10_policy_41 (c_X10_in G _ (x := x3) (y := (-2 : Int32)) (u := (3 : Int32))) rfl rfl (Nat.le_of_ble_eq_true rfl) (Nat.le_of_ble_eq_true rfl) (Nat.le_of_ble_eq_true rfl) (Nat.le_of_ble_eq_true rfl) (Nat.le_of_ble_eq_true rfl) (Nat.le_of_ble_eq_true rfl) (by rintro E w h; rcases h with ⟨_, hr, _⟩ | ⟨_, hr, _⟩ <;> cases hr) ?_
        rintro v w h
        rcases h with ⟨hc, hr, hw⟩ | ⟨hc, hr, hw⟩
        · have hc28 := hc; clear hc; cases hr; subst hw
          refine rn_stk [.int (0 : Int32), .ref o_m] rfl ?_
          refine rn_if_ne (tgt := 51) dX10_policy_44 (by decide) (fun h29 => absurd h29 (by decide)) (fun h29 => ?_)
          refine rn_iconst (v := (1 : Int32)) dX10_policy_47 (by decide) ?_
          refine rn_goto (tgt := 52) dX10_policy_48 (by decide) ?_
          refine rn_iconst (v := (1 : Int32)) dX10_policy_52 (by decide) ?_
          refine rn_callV (a := 0) (b := 0) [.int (1 : Int32), .int (1 : Int32)] kl_SGModel_171 dX10_policy_53 23 (ls_eq h_m) rfl (c_X10_refuses G _ (o_m := o_m) (x := (1 : Int32)) (y := (1 : Int32)) (fs_m := (fs_m.set 0 (.int (0 : Int32)))) (th := (0 : Int32)) (ls_eq h_m) (ls_eq hf_m_0)) rfl rfl (Nat.le_of_ble_eq_true rfl) (Nat.le_of_ble_eq_true rfl) (Nat.le_of_ble_eq_true rfl) (Nat.le_of_ble_eq_true rfl) (Nat.le_of_ble_eq_true rfl) (Nat.le_of_ble_eq_true rfl) (by rintro E w h; rcases h with ⟨_, hr, _⟩ | ⟨_, hr, _⟩ | ⟨_, hr, _⟩ | ⟨_, hr, _⟩ <;> cases hr) ?_
          rintro v w h
          rcases h with ⟨hc, hr, hw⟩ | ⟨hc, hr, hw⟩ | ⟨hc, hr, hw⟩ | ⟨hc, hr, hw⟩
          · have hc30 := hc; clear hc; cases hr; subst hw
            exact absurd hc30 (by decide)
          · have hc31 := hc; clear hc; cases hr; subst hw
            exact absurd hc31 (by decide)
          · have hc32 := hc; clear hc; cases hr; subst hw
            exact absurd hc32 (by decide)
          · have hc33 := hc; clear hc; cases hr; subst hw
            refine rn_stk [.int (1 : Int32)] rfl ?_
            refine rn_if_ne (tgt := 81) dX10_policy_56 (by decide) (fun h34 => ?_) (fun h34 => absurd h34 (by decide))
            refine rn_iconst (v := (0 : Int32)) dX10_policy_81 (by decide) ?_
            exact rn_iret dX10_policy_82 rfl rfl (Or.inl ⟨(Or.inr (Or.inr (Or.inr ⟨hc8, hc17, hc26, hc28, hc33⟩))), rfl, rfl⟩)
        · have hc35 := hc; clear hc; cases hr; subst hw
          refine rn_stk [.int (1 : Int32), .ref o_m] rfl ?_
          refine rn_if_ne (tgt := 51) dX10_policy_44 (by decide) (fun h36 => ?_) (fun h36 => absurd h36 (by decide))
          refine rn_iconst (v := (0 : Int32)) dX10_policy_51 (by decide) ?_
          refine rn_iconst (v := (1 : Int32)) dX10_policy_52 (by decide) ?_
          refine rn_callV (a := 0) (b := 0) [.int (0 : Int32), .int (1 : Int32)] kl_SGModel_171 dX10_policy_53 23 (ls_eq h_m) rfl (c_X10_refuses G _ (o_m := o_m) (x := (0 : Int32)) (y := (1 : Int32)) (fs_m := (fs_m.set 0 (.int (0 : Int32)))) (th := (0 : Int32)) (ls_eq h_m) (ls_eq hf_m_0)) rfl rfl (Nat.le_of_ble_eq_true rfl) (Nat.le_of_ble_eq_true rfl) (Nat.le_of_ble_eq_true rfl) (Nat.le_of_ble_eq_true rfl) (Nat.le_of_ble_eq_true rfl) (Nat.le_of_ble_eq_true rfl) (by rintro E w h; rcases h with ⟨_, hr, _⟩ | ⟨_, hr, _⟩ | ⟨_, hr, _⟩ | ⟨_, hr, _⟩ <;> cases hr) ?_
          rintro v w h
          rcases h with ⟨hc, hr, hw⟩ | ⟨hc, hr, hw⟩ | ⟨hc, hr, hw⟩ | ⟨hc, hr, hw⟩
          · have hc37 := hc; clear hc; cases hr; subst hw
            refine rn_stk [.int (0 : Int32)] rfl ?_
            refine rn_if_ne (tgt := 81) dX10_policy_56 (by decide) (fun h38 => absurd h38 (by decide)) (fun h38 => ?_)
            refine rn_aload_n (i := 0) dX10_policy_59 rfl rfl ?_
            refine rn_aload_n (i := 0) dX10_policy_60 rfl rfl ?_
            refine rn_get 23 kg_SGModel_197 (ls_eq h_m) (ls_ne (by decide) hf_m_9) dX10_policy_61 ?_
            refine rn_bipush (v := (24 : Int32)) dX10_policy_64 (by decide) ?_
            refine rn_icmp_ne (tgt := 73) dX10_policy_66 (by decide) (fun h39 => ?_) (fun h39 => absurd h39 (by decide))
            refine rn_iconst (v := (0 : Int32)) dX10_policy_73 (by decide) ?_
            refine rn_iconst (v := (2 : Int32)) dX10_policy_74 (by decide) ?_
            refine rn_callV (a := 0) (b := 0) [.int (0 : Int32), .int (2 : Int32)] kl_SGModel_171 dX10_policy_75 23 (ls_eq h_m) rfl (c_X10_refuses G _ (o_m := o_m) (x := (0 : Int32)) (y := (2 : Int32)) (fs_m := (fs_m.set 0 (.int (0 : Int32)))) (th := (0 : Int32)) (ls_eq h_m) (ls_eq hf_m_0)) rfl rfl (Nat.le_of_ble_eq_true rfl) (Nat.le_of_ble_eq_true rfl) (Nat.le_of_ble_eq_true rfl) (Nat.le_of_ble_eq_true rfl) (Nat.le_of_ble_eq_true rfl) (Nat.le_of_ble_eq_true rfl) (by rintro E w h; rcases h with ⟨_, hr, _⟩ | ⟨_, hr, _⟩ | ⟨_, hr, _⟩ | ⟨_, hr, _⟩ <;> cases hr) ?_
            rintro v w h
            rcases h with ⟨hc, hr, hw⟩ | ⟨hc, hr, hw⟩ | ⟨hc, hr, hw⟩ | ⟨hc, hr, hw⟩
            · have hc40 := hc; clear hc; cases hr; subst hw
              refine rn_stk [.int (0 : Int32)] rfl ?_
              refine rn_if_eq (tgt := 83) dX10_policy_78 (by decide) (fun h41 => ?_) (fun h41 => absurd h41 (by decide))
              refine rn_aload_n (i := 0) dX10_policy_83 rfl rfl ?_
              refine rn_get 23 kg_SGModel_197 (ls_eq h_m) (ls_ne (by decide) hf_m_9) dX10_policy_84 ?_
              refine rn_istore dX10_policy_87 (by decide) [(0, .ref o_m), (1, .int x), (2, .int y), (3, .int u), (4, .int x1), (5, .int x2), (6, .int x3), (7, .int (0 : Int32))] rfl ?_
              refine rn_aload_n (i := 0) dX10_policy_89 rfl rfl ?_
              refine rn_get 23 kg_SGModel_25 (ls_eq h_m) (ls_ne (by decide) hf_m_10) dX10_policy_90 ?_
              refine rn_iload dX10_policy_93 rfl ?_
              refine rn_iload_n (i := 1) dX10_policy_95 rfl rfl ?_
              refine rn_iast 29 1 (ls_ne (by decide) h_m_policyWay) rfl (by unfold vp_in; decide) dX10_policy_96 ?_
              refine rn_aload_n (i := 0) dX10_policy_97 rfl rfl ?_
              refine rn_get 23 kg_SGModel_28 (ls_ne (by decide) (ls_eq h_m)) (ls_ne (by decide) hf_m_11) dX10_policy_98 ?_
              refine rn_iload dX10_policy_101 rfl ?_
              refine rn_iload_n (i := 2) dX10_policy_103 rfl rfl ?_
              refine rn_iast 30 1 (ls_ne (by decide) (ls_ne (by decide) h_m_policyFrom)) rfl (by unfold vp_in; decide) dX10_policy_104 ?_
              refine rn_aload_n (i := 0) dX10_policy_105 rfl rfl ?_
              refine rn_get 23 kg_SGModel_31 (ls_ne (by decide) (ls_ne (by decide) (ls_eq h_m))) (ls_ne (by decide) hf_m_12) dX10_policy_106 ?_
              refine rn_iload dX10_policy_109 rfl ?_
              refine rn_iload_n (i := 3) dX10_policy_111 rfl rfl ?_
              refine rn_iast 31 1 (ls_ne (by decide) (ls_ne (by decide) (ls_ne (by decide) h_m_policyFromWidth))) rfl (by unfold vp_in; decide) dX10_policy_112 ?_
              refine rn_aload_n (i := 0) dX10_policy_113 rfl rfl ?_
              refine rn_get 23 kg_SGModel_34 (ls_ne (by decide) (ls_ne (by decide) (ls_ne (by decide) (ls_eq h_m)))) (ls_ne (by decide) hf_m_13) dX10_policy_114 ?_
              refine rn_iload dX10_policy_117 rfl ?_
              refine rn_iload dX10_policy_119 rfl ?_
              refine rn_iast 32 1 (ls_ne (by decide) (ls_ne (by decide) (ls_ne (by decide) (ls_ne (by decide) h_m_policyTo)))) rfl (by unfold vp_in; decide) dX10_policy_121 ?_
              refine rn_aload_n (i := 0) dX10_policy_122 rfl rfl ?_
              refine rn_get 23 kg_SGModel_37 (ls_ne (by decide) (ls_ne (by decide) (ls_ne (by decide) (ls_ne (by decide) (ls_eq h_m))))) (ls_ne (by decide) hf_m_14) dX10_policy_123 ?_
              refine rn_iload dX10_policy_126 rfl ?_
              refine rn_iload dX10_policy_128 rfl ?_
              refine rn_iast 33 1 (ls_ne (by decide) (ls_ne (by decide) (ls_ne (by decide) (ls_ne (by decide) (ls_ne (by decide) h_m_policyToWidth))))) rfl (by unfold vp_in; decide) dX10_policy_130 ?_
              refine rn_aload_n (i := 0) dX10_policy_131 rfl rfl ?_
              refine rn_get 23 kg_SGModel_49 (ls_ne (by decide) (ls_ne (by decide) (ls_ne (by decide) (ls_ne (by decide) (ls_ne (by decide) (ls_eq h_m)))))) (ls_ne (by decide) hf_m_18) dX10_policy_132 ?_
              refine rn_iload dX10_policy_135 rfl ?_
              refine rn_iload dX10_policy_137 rfl ?_
              refine rn_iast 37 1 (ls_ne (by decide) (ls_ne (by decide) (ls_ne (by decide) (ls_ne (by decide) (ls_ne (by decide) (ls_ne (by decide) h_m_policyDone)))))) rfl (by unfold vp_in; decide) dX10_policy_139 ?_
              refine rn_aload_n (i := 0) dX10_policy_140 rfl rfl ?_
              refine rn_get 23 kg_SGModel_40 (ls_ne (by decide) (ls_ne (by decide) (ls_ne (by decide) (ls_ne (by decide) (ls_ne (by decide) (ls_ne (by decide) (ls_eq h_m))))))) (ls_ne (by decide) hf_m_15) dX10_policy_141 ?_
              refine rn_iload dX10_policy_144 rfl ?_
              refine rn_aload_n (i := 0) dX10_policy_146 rfl rfl ?_
              refine rn_get 23 kg_SGModel_191 (ls_ne (by decide) (ls_ne (by decide) (ls_ne (by decide) (ls_ne (by decide) (ls_ne (by decide) (ls_ne (by decide) (ls_eq h_m))))))) (ls_ne (by decide) hf_m_19) dX10_policy_147 ?_
              refine rn_iast 34 1 (ls_ne (by decide) (ls_ne (by decide) (ls_ne (by decide) (ls_ne (by decide) (ls_ne (by decide) (ls_ne (by decide) (ls_ne (by decide) h_m_policyKind))))))) rfl (by unfold vp_in; decide) dX10_policy_150 ?_
              refine rn_aload_n (i := 0) dX10_policy_151 rfl rfl ?_
              refine rn_get 23 kg_SGModel_43 (ls_ne (by decide) (ls_ne (by decide) (ls_ne (by decide) (ls_ne (by decide) (ls_ne (by decide) (ls_ne (by decide) (ls_ne (by decide) (ls_eq h_m)))))))) (ls_ne (by decide) hf_m_16) dX10_policy_152 ?_
              refine rn_iload dX10_policy_155 rfl ?_
              refine rn_aload_n (i := 0) dX10_policy_157 rfl rfl ?_
              refine rn_get 23 kg_SGModel_194 (ls_ne (by decide) (ls_ne (by decide) (ls_ne (by decide) (ls_ne (by decide) (ls_ne (by decide) (ls_ne (by decide) (ls_ne (by decide) (ls_eq h_m)))))))) (ls_ne (by decide) hf_m_20) dX10_policy_158 ?_
              refine rn_iast 35 1 (ls_ne (by decide) (ls_ne (by decide) (ls_ne (by decide) (ls_ne (by decide) (ls_ne (by decide) (ls_ne (by decide) (ls_ne (by decide) (ls_ne (by decide) h_m_policyLow)))))))) rfl (by unfold vp_in; decide) dX10_policy_161 ?_
              refine rn_aload_n (i := 0) dX10_policy_162 rfl rfl ?_
              refine rn_get 23 kg_SGModel_46 (ls_ne (by decide) (ls_ne (by decide) (ls_ne (by decide) (ls_ne (by decide) (ls_ne (by decide) (ls_ne (by decide) (ls_ne (by decide) (ls_ne (by decide) (ls_eq h_m))))))))) (ls_ne (by decide) hf_m_17) dX10_policy_163 ?_
              refine rn_iload dX10_policy_166 rfl ?_
              refine rn_aload_n (i := 0) dX10_policy_168 rfl rfl ?_
              refine rn_get 23 kg_SGModel_53 (ls_ne (by decide) (ls_ne (by decide) (ls_ne (by decide) (ls_ne (by decide) (ls_ne (by decide) (ls_ne (by decide) (ls_ne (by decide) (ls_ne (by decide) (ls_eq h_m))))))))) (ls_ne (by decide) hf_m_21) dX10_policy_169 ?_
              refine rn_iast 36 1 (ls_ne (by decide) (ls_ne (by decide) (ls_ne (by decide) (ls_ne (by decide) (ls_ne (by decide) (ls_ne (by decide) (ls_ne (by decide) (ls_ne (by decide) (ls_ne (by decide) h_m_policyHigh))))))))) rfl (by unfold vp_in; decide) dX10_policy_172 ?_
              refine rn_aload_n (i := 0) dX10_policy_173 rfl rfl ?_
              refine rn_iconst (v := (0 : Int32)) dX10_policy_174 (by decide) ?_
              refine rn_put 23 (kp_SGModel_191 _) (ls_ne (by decide) (ls_ne (by decide) (ls_ne (by decide) (ls_ne (by decide) (ls_ne (by decide) (ls_ne (by decide) (ls_ne (by decide) (ls_ne (by decide) (ls_ne (by decide) (ls_eq h_m)))))))))) (ls_lt (ls_ne (by decide) hf_m_19)) rfl rfl dX10_policy_175 ?_
              refine rn_aload_n (i := 0) dX10_policy_178 rfl rfl ?_
              refine rn_iconst (v := (0 : Int32)) dX10_policy_179 (by decide) ?_
              refine rn_put 23 (kp_SGModel_194 _) (ls_eq (ls_ne (by decide) (ls_ne (by decide) (ls_ne (by decide) (ls_ne (by decide) (ls_ne (by decide) (ls_ne (by decide) (ls_ne (by decide) (ls_ne (by decide) (ls_ne (by decide) (ls_eq h_m))))))))))) (ls_lt (ls_ne (by decide) (ls_ne (by decide) hf_m_20))) rfl rfl dX10_policy_180 ?_
              refine rn_aload_n (i := 0) dX10_policy_183 rfl rfl ?_
              refine rn_ldc (v := (65535 : Int32)) wd_1093 dX10_policy_184 ?_
              refine rn_put 23 (kp_SGModel_53 _) (ls_eq (ls_eq (ls_ne (by decide) (ls_ne (by decide) (ls_ne (by decide) (ls_ne (by decide) (ls_ne (by decide) (ls_ne (by decide) (ls_ne (by decide) (ls_ne (by decide) (ls_ne (by decide) (ls_eq h_m)))))))))))) (ls_lt (ls_ne (by decide) (ls_ne (by decide) (ls_ne (by decide) hf_m_21)))) rfl rfl dX10_policy_186 ?_
              refine rn_aload_n (i := 0) dX10_policy_189 rfl rfl ?_
              refine rn_dup dX10_policy_190 rfl ?_
              refine rn_get 23 kg_SGModel_197 (ls_eq (ls_eq (ls_eq (ls_ne (by decide) (ls_ne (by decide) (ls_ne (by decide) (ls_ne (by decide) (ls_ne (by decide) (ls_ne (by decide) (ls_ne (by decide) (ls_ne (by decide) (ls_ne (by decide) (ls_eq h_m))))))))))))) (ls_ne (by decide) (ls_ne (by decide) (ls_ne (by decide) (ls_ne (by decide) hf_m_9)))) dX10_policy_191 ?_
              refine rn_iconst (v := (1 : Int32)) dX10_policy_194 (by decide) ?_
              refine rn_iadd dX10_policy_195 ?_
              refine rn_topi (1 : Int32) (by decide) ?_
              refine rn_put 23 (kp_SGModel_197 _) (ls_eq (ls_eq (ls_eq (ls_ne (by decide) (ls_ne (by decide) (ls_ne (by decide) (ls_ne (by decide) (ls_ne (by decide) (ls_ne (by decide) (ls_ne (by decide) (ls_ne (by decide) (ls_ne (by decide) (ls_eq h_m))))))))))))) (ls_lt (ls_ne (by decide) (ls_ne (by decide) (ls_ne (by decide) (ls_ne (by decide) hf_m_9))))) rfl rfl dX10_policy_196 ?_
              refine rn_aload_n (i := 0) dX10_policy_199 rfl rfl ?_
              refine rn_get 23 kg_SGModel_197 (ls_eq (ls_eq (ls_eq (ls_eq (ls_ne (by decide) (ls_ne (by decide) (ls_ne (by decide) (ls_ne (by decide) (ls_ne (by decide) (ls_ne (by decide) (ls_ne (by decide) (ls_ne (by decide) (ls_ne (by decide) (ls_eq h_m)))))))))))))) (ls_eq (ls_ne (by decide) (ls_ne (by decide) (ls_ne (by decide) (ls_ne (by decide) hf_m_9))))) dX10_policy_200 ?_
              exact rn_iret dX10_policy_203 rfl rfl (Or.inr ⟨⟨hc8, hc17, hc26, hc35, hc37, hc40⟩, rfl, rfl⟩)
            · have hc42 := hc; clear hc; cases hr; subst hw
              exact absurd hc42 (by decide)
            · have hc43 := hc; clear hc; cases hr; subst hw
              exact absurd hc43 (by decide)
            · have hc44 := hc; clear hc; cases hr; subst hw
              exact absurd hc44 (by decide)
          · have hc45 := hc; clear hc; cases hr; subst hw
            exact absurd hc45 (by decide)
          · have hc46 := hc; clear hc; cases hr; subst hw
            exact absurd hc46 (by decide)
          · have hc47 := hc; clear hc; cases hr; subst hw
            exact absurd hc47 (by decide)
