set_option maxRecDepth 20000 in
set_option maxHeartbeats 4000000 in
theorem c_X10_tick (G : rn_G) (ws : va_W) (o_m : Nat) (fs_m : List Value) (a_heapIs : Nat) (h_m : ws[23]? = some (o_m, Sum.inr (10, fs_m))) (hf_m_0 : fs_m[0]? = some (.int (0 : Int32))) (hf_m_36 : fs_m[36]? = some (.ref a_heapIs)) (h_m_heapIs : ws[49]? = some (a_heapIs, Sum.inl (rn_k G 3, 4, Sum.inl (fun _ => 0)))) : Rn G mX10_tick 0 0 0 0 0 (lv_args 0 [.ref o_m]) [] ws (fun r w => (True ∧ r = Sum.inl (some (.int (0 : Int32))) ∧ w = (ws.set 23 (o_m, Sum.inr (10, (fs_m.set 0 (.int (0 : Int32)))))))) := by
  refine rn_lv [(0, .ref o_m)] rfl ?_
  refine rn_aload_n (i := 0) dX10_tick_0 rfl rfl ?_
  refine rn_iconst (v := (0 : Int32)) dX10_tick_1 (by decide) ?_
  refine rn_put 23 (kp_SGModel_137 _) h_m (ls_lt hf_m_0) rfl rfl dX10_tick_2 ?_
  refine rn_iconst (v := (0 : Int32)) dX10_tick_5 (by decide) ?_
  refine rn_istore_n dX10_tick_6 rfl (by decide) [(0, .ref o_m), (1, .int (0 : Int32))] rfl ?_
  refine rn_iconst (v := (0 : Int32)) dX10_tick_7 (by decide) ?_
  refine rn_istore_n dX10_tick_8 rfl (by decide) [(0, .ref o_m), (1, .int (0 : Int32)), (2, .int (0 : Int32))] rfl ?_
  refine rn_iload_n (i := 2) dX10_tick_9 rfl rfl ?_
  refine rn_iconst (v := (4 : Int32)) dX10_tick_10 (by decide) ?_
  refine rn_icmp_ge (tgt := 60) dX10_tick_11 (by decide) (fun h1 => absurd h1 (by decide)) (fun h1 => ?_)
  refine rn_aload_n (i := 0) dX10_tick_14 rfl rfl ?_
  refine rn_get 23 kg_SGModel_95 (ls_eq h_m) (ls_ne (by decide) hf_m_36) dX10_tick_15 ?_
  refine rn_iload_n (i := 2) dX10_tick_18 rfl rfl ?_
  refine rn_zald 49 3 (ls_ne (by decide) h_m_heapIs) rfl (by unfold vp_in; decide) dX10_tick_19 ?_
  refine rn_topi (0 : Int32) rfl ?_
  refine rn_if_eq (tgt := 54) dX10_tick_20 (by decide) (fun h2 => ?_) (fun h2 => absurd h2 (by decide))
  refine rn_iinc (v := (1 : Int32)) dX10_tick_54 rfl (by decide) (by decide) [(0, .ref o_m), (1, .int (0 : Int32)), (2, .int (1 : Int32))] rfl ?_
  refine rn_goto (tgt := 9) dX10_tick_57 (by decide) ?_
  refine rn_iload_n (i := 2) dX10_tick_9 rfl rfl ?_
  refine rn_iconst (v := (4 : Int32)) dX10_tick_10 (by decide) ?_
  refine rn_icmp_ge (tgt := 60) dX10_tick_11 (by decide) (fun h3 => absurd h3 (by decide)) (fun h3 => ?_)
  refine rn_aload_n (i := 0) dX10_tick_14 rfl rfl ?_
  refine rn_get 23 kg_SGModel_95 (ls_eq h_m) (ls_ne (by decide) hf_m_36) dX10_tick_15 ?_
  refine rn_iload_n (i := 2) dX10_tick_18 rfl rfl ?_
  refine rn_zald 49 3 (ls_ne (by decide) h_m_heapIs) rfl (by unfold vp_in; decide) dX10_tick_19 ?_
  refine rn_topi (0 : Int32) rfl ?_
  refine rn_if_eq (tgt := 54) dX10_tick_20 (by decide) (fun h4 => ?_) (fun h4 => absurd h4 (by decide))
  refine rn_iinc (v := (2 : Int32)) dX10_tick_54 rfl (by decide) (by decide) [(0, .ref o_m), (1, .int (0 : Int32)), (2, .int (2 : Int32))] rfl ?_
  refine rn_goto (tgt := 9) dX10_tick_57 (by decide) ?_
  refine rn_iload_n (i := 2) dX10_tick_9 rfl rfl ?_
  refine rn_iconst (v := (4 : Int32)) dX10_tick_10 (by decide) ?_
  refine rn_icmp_ge (tgt := 60) dX10_tick_11 (by decide) (fun h5 => absurd h5 (by decide)) (fun h5 => ?_)
  refine rn_aload_n (i := 0) dX10_tick_14 rfl rfl ?_
  refine rn_get 23 kg_SGModel_95 (ls_eq h_m) (ls_ne (by decide) hf_m_36) dX10_tick_15 ?_
  refine rn_iload_n (i := 2) dX10_tick_18 rfl rfl ?_
  refine rn_zald 49 3 (ls_ne (by decide) h_m_heapIs) rfl (by unfold vp_in; decide) dX10_tick_19 ?_
  refine rn_topi (0 : Int32) rfl ?_
  refine rn_if_eq (tgt := 54) dX10_tick_20 (by decide) (fun h6 => ?_) (fun h6 => absurd h6 (by decide))
  refine rn_iinc (v := (3 : Int32)) dX10_tick_54 rfl (by decide) (by decide) [(0, .ref o_m), (1, .int (0 : Int32)), (2, .int (3 : Int32))] rfl ?_
  refine rn_goto (tgt := 9) dX10_tick_57 (by decide) ?_
  refine rn_iload_n (i := 2) dX10_tick_9 rfl rfl ?_
  refine rn_iconst (v := (4 : Int32)) dX10_tick_10 (by decide) ?_
  refine rn_icmp_ge (tgt := 60) dX10_tick_11 (by decide) (fun h7 => absurd h7 (by decide)) (fun h7 => ?_)
  refine rn_aload_n (i := 0) dX10_tick_14 rfl rfl ?_
  refine rn_get 23 kg_SGModel_95 (ls_eq h_m) (ls_ne (by decide) hf_m_36) dX10_tick_15 ?_
  refine rn_iload_n (i := 2) dX10_tick_18 rfl rfl ?_
  refine rn_zald 49 3 (ls_ne (by decide) h_m_heapIs) rfl (by unfold vp_in; decide) dX10_tick_19 ?_
  refine rn_topi (0 : Int32) rfl ?_
  refine rn_if_eq (tgt := 54) dX10_tick_20 (by decide) (fun h8 => ?_) (fun h8 => absurd h8 (by decide))
  refine rn_iinc (v := (4 : Int32)) dX10_tick_54 rfl (by decide) (by decide) [(0, .ref o_m), (1, .int (0 : Int32)), (2, .int (4 : Int32))] rfl ?_
  refine rn_goto (tgt := 9) dX10_tick_57 (by decide) ?_
  refine rn_iload_n (i := 2) dX10_tick_9 rfl rfl ?_
  refine rn_iconst (v := (4 : Int32)) dX10_tick_10 (by decide) ?_
  refine rn_icmp_ge (tgt := 60) dX10_tick_11 (by decide) (fun h9 => ?_) (fun h9 => absurd h9 (by decide))
  refine rn_iload_n (i := 1) dX10_tick_60 rfl rfl ?_
  exact rn_iret dX10_tick_61 rfl rfl ⟨trivial, rfl, rfl⟩
set_option maxRecDepth 20000 in
set_option maxHeartbeats 4000000 in
theorem c_X10_log (G : rn_G) (ws : va_W) (o_m : Nat) (k : Int32) (x : Int32) (fs_m : List Value) (h_m : ws[23]? = some (o_m, Sum.inr (10, fs_m))) (hf_m_0 : fs_m[0]? = some (.int (0 : Int32))) (hf_m_51 : fs_m[51]? = some (.int (0 : Int32))) : Rn G mX10_log 1 22 0 0 0 (lv_args 0 [.ref o_m, .int k, .int x]) [] ws (fun r w => ((((k < (0 : Int32)) ∨ (¬ (k < (0 : Int32)) ∧ (-1 : Int32) < k)) ∧ ((0 : Int32) = (0 : Int32) ∧ ¬ ((1 : Int32) = (0 : Int32)) ∧ ¬ ((1 : Int32) ≤ (0 : Int32)))) ∧ r = Sum.inl (some (.int (0 : Int32))) ∧ w = ((ws.set 23 (o_m, Sum.inr (10, (fs_m.set 0 (.int (0 : Int32)))))).set 23 (o_m, Sum.inr (10, ((fs_m.set 0 (.int (0 : Int32))).set 0 (.int (1 : Int32)))))))) := by
  refine rn_lv [(0, .ref o_m), (1, .int k), (2, .int x)] rfl ?_
  refine rn_aload_n (i := 0) dX10_log_0 rfl rfl ?_
  refine rn_iconst (v := (0 : Int32)) dX10_log_1 (by decide) ?_
  refine rn_put 23 (kp_SGModel_137 _) h_m (ls_lt hf_m_0) rfl rfl dX10_log_2 ?_
  refine rn_aload_n (i := 0) dX10_log_5 rfl rfl ?_
  refine rn_iload_n (i := 1) dX10_log_6 rfl rfl ?_
  refine rn_iconst (v := (0 : Int32)) dX10_log_7 (by decide) ?_
  refine rn_aload_n (i := 0) dX10_log_8 rfl rfl ?_
  refine rn_get 23 kg_SGModel_243 (ls_eq h_m) (ls_ne (by decide) hf_m_51) dX10_log_9 ?_
  refine rn_iconst (v := (1 : Int32)) dX10_log_12 (by decide) ?_
  refine rn_isub dX10_log_13 ?_
  refine rn_topi (-1 : Int32) (by decide) ?_
  refine rn_callS (a := 0) (b := 0) [.int k, .int (0 : Int32), .int (-1 : Int32)] kl_SGModel_179 dX10_log_14 (c_X10_in G _ (x := k) (y := (0 : Int32)) (u := (-1 : Int32))) rfl rfl (Nat.le_of_ble_eq_true rfl) (Nat.le_of_ble_eq_true rfl) (Nat.le_of_ble_eq_true rfl) (Nat.le_of_ble_eq_true rfl) (Nat.le_of_ble_eq_true rfl) (Nat.le_of_ble_eq_true rfl) (by rintro E w h; rcases h with ⟨_, hr, _⟩ | ⟨_, hr, _⟩ <;> cases hr) ?_
  rintro v w h
  rcases h with ⟨hc, hr, hw⟩ | ⟨hc, hr, hw⟩
  · have hc1 := hc; clear hc; cases hr; subst hw
    refine rn_stk [.int (0 : Int32), .ref o_m] rfl ?_
    refine rn_if_eq (tgt := 29) dX10_log_17 (by decide) (fun h2 => ?_) (fun h2 => absurd h2 (by decide))
    refine rn_iconst (v := (1 : Int32)) dX10_log_29 (by decide) ?_
    refine rn_goto (tgt := 34) dX10_log_30 (by decide) ?_
    refine rn_iconst (v := (1 : Int32)) dX10_log_34 (by decide) ?_
    refine rn_callV (a := 0) (b := 0) [.int (1 : Int32), .int (1 : Int32)] kl_SGModel_171 dX10_log_35 23 (ls_eq h_m) rfl (c_X10_refuses G _ (o_m := o_m) (x := (1 : Int32)) (y := (1 : Int32)) (fs_m := (fs_m.set 0 (.int (0 : Int32)))) (th := (0 : Int32)) (ls_eq h_m) (ls_eq hf_m_0)) rfl rfl (Nat.le_of_ble_eq_true rfl) (Nat.le_of_ble_eq_true rfl) (Nat.le_of_ble_eq_true rfl) (Nat.le_of_ble_eq_true rfl) (Nat.le_of_ble_eq_true rfl) (Nat.le_of_ble_eq_true rfl) (by rintro E w h; rcases h with ⟨_, hr, _⟩ | ⟨_, hr, _⟩ | ⟨_, hr, _⟩ | ⟨_, hr, _⟩ <;> cases hr) ?_
    rintro v w h
    rcases h with ⟨hc, hr, hw⟩ | ⟨hc, hr, hw⟩ | ⟨hc, hr, hw⟩ | ⟨hc, hr, hw⟩
    · have hc3 := hc; clear hc; cases hr; subst hw
      exact absurd hc3 (by decide)
    · have hc4 := hc; clear hc; cases hr; subst hw
      exact absurd hc4 (by decide)
    · have hc5 := hc; clear hc; cases hr; subst hw
      exact absurd hc5 (by decide)
    · have hc6 := hc; clear hc; cases hr; subst hw
      refine rn_stk [.int (1 : Int32)] rfl ?_
      refine rn_if_eq (tgt := 43) dX10_log_38 (by decide) (fun h7 => absurd h7 (by decide)) (fun h7 => ?_)
      refine rn_iconst (v := (0 : Int32)) dX10_log_41 (by decide) ?_
      exact rn_iret dX10_log_42 rfl rfl ⟨⟨hc1, hc6⟩, rfl, rfl⟩
  · have hc8 := hc; clear hc; cases hr; subst hw
    exfalso; have g0 := i32_rng k; simp only [Int32.lt_iff_toInt_lt, Int32.le_iff_toInt_le, gt_iff_lt, ge_iff_le, ← Int32.toInt_inj, i32_m1, i32_0] at *; omega
set_option maxRecDepth 20000 in
set_option maxHeartbeats 4000000 in
theorem c_X10_ended (G : rn_G) (ws : va_W) (o_m : Nat) (k : Int32) (fs_m : List Value) (a_heapIs : Nat) (a_endings : Nat) (h_m : ws[23]? = some (o_m, Sum.inr (10, fs_m))) (hf_m_0 : fs_m[0]? = some (.int (0 : Int32))) (hf_m_22 : fs_m[22]? = some (.int (0 : Int32))) (hf_m_33 : fs_m[33]? = some (.int (0 : Int32))) (hf_m_36 : fs_m[36]? = some (.ref a_heapIs)) (hf_m_44 : fs_m[44]? = some (.ref a_endings)) (h_m_heapIs : ws[49]? = some (a_heapIs, Sum.inl (rn_k G 3, 4, Sum.inl (fun _ => 0)))) (h_m_endings : ws[56]? = some (a_endings, Sum.inl (rn_k G 1, 18, Sum.inl (fun _ => 0)))) : Rn G mX10_ended 1 22 0 0 0 (lv_args 0 [.ref o_m, .int k]) [] ws (fun r w => ((((k < (0 : Int32)) ∨ (¬ (k < (0 : Int32)) ∧ (20 : Int32) < k)) ∧ ((0 : Int32) = (0 : Int32) ∧ ¬ ((1 : Int32) = (0 : Int32)) ∧ ¬ ((1 : Int32) ≤ (0 : Int32)))) ∧ r = Sum.inl (some (.int (0 : Int32))) ∧ w = ((ws.set 23 (o_m, Sum.inr (10, (fs_m.set 0 (.int (0 : Int32)))))).set 23 (o_m, Sum.inr (10, ((fs_m.set 0 (.int (0 : Int32))).set 0 (.int (1 : Int32))))))) ∨ ((((¬ (k < (0 : Int32)) ∧ ¬ ((20 : Int32) < k)) ∧ ((¬ ((0 : Int32) = (0 : Int32)) ∧ (0 : Int32) ≤ (0 : Int32)) ∨ ((0 : Int32) = (0 : Int32) ∧ (0 : Int32) = (0 : Int32) ∧ (0 : Int32) ≤ (0 : Int32))) ∧ (18 : Int32) ≤ k ∧ ¬ (k = (18 : Int32)) ∧ ¬ (k = (19 : Int32))) ∨ ((¬ (k < (0 : Int32)) ∧ ¬ ((20 : Int32) < k)) ∧ ((¬ ((0 : Int32) = (0 : Int32)) ∧ (0 : Int32) ≤ (0 : Int32)) ∨ ((0 : Int32) = (0 : Int32) ∧ (0 : Int32) = (0 : Int32) ∧ (0 : Int32) ≤ (0 : Int32))) ∧ (18 : Int32) ≤ k ∧ ¬ (k = (18 : Int32)) ∧ k = (19 : Int32)) ∨ ((¬ (k < (0 : Int32)) ∧ ¬ ((20 : Int32) < k)) ∧ ((¬ ((0 : Int32) = (0 : Int32)) ∧ (0 : Int32) ≤ (0 : Int32)) ∨ ((0 : Int32) = (0 : Int32) ∧ (0 : Int32) = (0 : Int32) ∧ (0 : Int32) ≤ (0 : Int32))) ∧ (18 : Int32) ≤ k ∧ k = (18 : Int32)) ∨ ((¬ (k < (0 : Int32)) ∧ ¬ ((20 : Int32) < k)) ∧ ((¬ ((0 : Int32) = (0 : Int32)) ∧ (0 : Int32) ≤ (0 : Int32)) ∨ ((0 : Int32) = (0 : Int32) ∧ (0 : Int32) = (0 : Int32) ∧ (0 : Int32) ≤ (0 : Int32))) ∧ ¬ ((18 : Int32) ≤ k))) ∧ r = Sum.inl (some (.int (0 : Int32))) ∧ w = (ws.set 23 (o_m, Sum.inr (10, (fs_m.set 0 (.int (0 : Int32)))))))) := by
  refine rn_lv [(0, .ref o_m), (1, .int k)] rfl ?_
  refine rn_aload_n (i := 0) dX10_ended_0 rfl rfl ?_
  refine rn_iconst (v := (0 : Int32)) dX10_ended_1 (by decide) ?_
  refine rn_put 23 (kp_SGModel_137 _) h_m (ls_lt hf_m_0) rfl rfl dX10_ended_2 ?_
  refine rn_aload_n (i := 0) dX10_ended_5 rfl rfl ?_
  refine rn_iload_n (i := 1) dX10_ended_6 rfl rfl ?_
  refine rn_iconst (v := (0 : Int32)) dX10_ended_7 (by decide) ?_
  refine rn_bipush (v := (20 : Int32)) dX10_ended_8 (by decide) ?_
  refine rn_callS (a := 0) (b := 0) [.int k, .int (0 : Int32), .int (20 : Int32)] kl_SGModel_179 dX10_ended_10 (c_X10_in G _ (x := k) (y := (0 : Int32)) (u := (20 : Int32))) rfl rfl (Nat.le_of_ble_eq_true rfl) (Nat.le_of_ble_eq_true rfl) (Nat.le_of_ble_eq_true rfl) (Nat.le_of_ble_eq_true rfl) (Nat.le_of_ble_eq_true rfl) (Nat.le_of_ble_eq_true rfl) (by rintro E w h; rcases h with ⟨_, hr, _⟩ | ⟨_, hr, _⟩ <;> cases hr) ?_
  rintro v w h
  rcases h with ⟨hc, hr, hw⟩ | ⟨hc, hr, hw⟩
  · have hc1 := hc; clear hc; cases hr; subst hw
    refine rn_stk [.int (0 : Int32), .ref o_m] rfl ?_
    refine rn_if_ne (tgt := 20) dX10_ended_13 (by decide) (fun h2 => absurd h2 (by decide)) (fun h2 => ?_)
    refine rn_iconst (v := (1 : Int32)) dX10_ended_16 (by decide) ?_
    refine rn_goto (tgt := 21) dX10_ended_17 (by decide) ?_
    refine rn_iconst (v := (1 : Int32)) dX10_ended_21 (by decide) ?_
    refine rn_callV (a := 0) (b := 0) [.int (1 : Int32), .int (1 : Int32)] kl_SGModel_171 dX10_ended_22 23 (ls_eq h_m) rfl (c_X10_refuses G _ (o_m := o_m) (x := (1 : Int32)) (y := (1 : Int32)) (fs_m := (fs_m.set 0 (.int (0 : Int32)))) (th := (0 : Int32)) (ls_eq h_m) (ls_eq hf_m_0)) rfl rfl (Nat.le_of_ble_eq_true rfl) (Nat.le_of_ble_eq_true rfl) (Nat.le_of_ble_eq_true rfl) (Nat.le_of_ble_eq_true rfl) (Nat.le_of_ble_eq_true rfl) (Nat.le_of_ble_eq_true rfl) (by rintro E w h; rcases h with ⟨_, hr, _⟩ | ⟨_, hr, _⟩ | ⟨_, hr, _⟩ | ⟨_, hr, _⟩ <;> cases hr) ?_
    rintro v w h
    rcases h with ⟨hc, hr, hw⟩ | ⟨hc, hr, hw⟩ | ⟨hc, hr, hw⟩ | ⟨hc, hr, hw⟩
    · have hc3 := hc; clear hc; cases hr; subst hw
      exact absurd hc3 (by decide)
    · have hc4 := hc; clear hc; cases hr; subst hw
      exact absurd hc4 (by decide)
    · have hc5 := hc; clear hc; cases hr; subst hw
      exact absurd hc5 (by decide)
    · have hc6 := hc; clear hc; cases hr; subst hw
      refine rn_stk [.int (1 : Int32)] rfl ?_
      refine rn_if_eq (tgt := 30) dX10_ended_25 (by decide) (fun h7 => absurd h7 (by decide)) (fun h7 => ?_)
      refine rn_iconst (v := (0 : Int32)) dX10_ended_28 (by decide) ?_
      exact rn_iret dX10_ended_29 rfl rfl (Or.inl ⟨⟨hc1, hc6⟩, rfl, rfl⟩)
  · have hc8 := hc; clear hc; cases hr; subst hw
    refine rn_stk [.int (1 : Int32), .ref o_m] rfl ?_
    refine rn_if_ne (tgt := 20) dX10_ended_13 (by decide) (fun h9 => ?_) (fun h9 => absurd h9 (by decide))
    refine rn_iconst (v := (0 : Int32)) dX10_ended_20 (by decide) ?_
    refine rn_iconst (v := (1 : Int32)) dX10_ended_21 (by decide) ?_
    refine rn_callV (a := 0) (b := 0) [.int (0 : Int32), .int (1 : Int32)] kl_SGModel_171 dX10_ended_22 23 (ls_eq h_m) rfl (c_X10_refuses G _ (o_m := o_m) (x := (0 : Int32)) (y := (1 : Int32)) (fs_m := (fs_m.set 0 (.int (0 : Int32)))) (th := (0 : Int32)) (ls_eq h_m) (ls_eq hf_m_0)) rfl rfl (Nat.le_of_ble_eq_true rfl) (Nat.le_of_ble_eq_true rfl) (Nat.le_of_ble_eq_true rfl) (Nat.le_of_ble_eq_true rfl) (Nat.le_of_ble_eq_true rfl) (Nat.le_of_ble_eq_true rfl) (by rintro E w h; rcases h with ⟨_, hr, _⟩ | ⟨_, hr, _⟩ | ⟨_, hr, _⟩ | ⟨_, hr, _⟩ <;> cases hr) ?_
    rintro v w h
    rcases h with ⟨hc, hr, hw⟩ | ⟨hc, hr, hw⟩ | ⟨hc, hr, hw⟩ | ⟨hc, hr, hw⟩
    · have hc10 := hc; clear hc; cases hr; subst hw
      refine rn_stk [.int (0 : Int32)] rfl ?_
      refine rn_if_eq (tgt := 30) dX10_ended_25 (by decide) (fun h11 => ?_) (fun h11 => absurd h11 (by decide))
      refine rn_iconst (v := (0 : Int32)) dX10_ended_30 (by decide) ?_
      refine rn_istore_n dX10_ended_31 rfl (by decide) [(0, .ref o_m), (1, .int k), (2, .int (0 : Int32))] rfl ?_
      refine rn_iconst (v := (0 : Int32)) dX10_ended_32 (by decide) ?_
      refine rn_istore_n dX10_ended_33 rfl (by decide) [(0, .ref o_m), (1, .int k), (2, .int (0 : Int32)), (3, .int (0 : Int32))] rfl ?_
      refine rn_iload_n (i := 3) dX10_ended_34 rfl rfl ?_
      refine rn_iconst (v := (4 : Int32)) dX10_ended_35 (by decide) ?_
      refine rn_icmp_ge (tgt := 62) dX10_ended_36 (by decide) (fun h12 => absurd h12 (by decide)) (fun h12 => ?_)
      refine rn_iload_n (i := 2) dX10_ended_39 rfl rfl ?_
      refine rn_aload_n (i := 0) dX10_ended_40 rfl rfl ?_
      refine rn_get 23 kg_SGModel_95 (ls_eq h_m) (ls_ne (by decide) hf_m_36) dX10_ended_41 ?_
      refine rn_iload_n (i := 3) dX10_ended_44 rfl rfl ?_
      refine rn_zald 49 3 (ls_ne (by decide) h_m_heapIs) rfl (by unfold vp_in; decide) dX10_ended_45 ?_
      refine rn_topi (0 : Int32) rfl ?_
      refine rn_if_eq (tgt := 53) dX10_ended_46 (by decide) (fun h13 => ?_) (fun h13 => absurd h13 (by decide))
      refine rn_iconst (v := (0 : Int32)) dX10_ended_53 (by decide) ?_
      refine rn_iadd dX10_ended_54 ?_
      refine rn_topi (0 : Int32) (by decide) ?_
      refine rn_istore_n dX10_ended_55 rfl (by decide) [(0, .ref o_m), (1, .int k), (2, .int (0 : Int32)), (3, .int (0 : Int32))] rfl ?_
      refine rn_iinc (v := (1 : Int32)) dX10_ended_56 rfl (by decide) (by decide) [(0, .ref o_m), (1, .int k), (2, .int (0 : Int32)), (3, .int (1 : Int32))] rfl ?_
      refine rn_goto (tgt := 34) dX10_ended_59 (by decide) ?_
      refine rn_iload_n (i := 3) dX10_ended_34 rfl rfl ?_
      refine rn_iconst (v := (4 : Int32)) dX10_ended_35 (by decide) ?_
      refine rn_icmp_ge (tgt := 62) dX10_ended_36 (by decide) (fun h14 => absurd h14 (by decide)) (fun h14 => ?_)
      refine rn_iload_n (i := 2) dX10_ended_39 rfl rfl ?_
      refine rn_aload_n (i := 0) dX10_ended_40 rfl rfl ?_
      refine rn_get 23 kg_SGModel_95 (ls_eq h_m) (ls_ne (by decide) hf_m_36) dX10_ended_41 ?_
      refine rn_iload_n (i := 3) dX10_ended_44 rfl rfl ?_
      refine rn_zald 49 3 (ls_ne (by decide) h_m_heapIs) rfl (by unfold vp_in; decide) dX10_ended_45 ?_
      refine rn_topi (0 : Int32) rfl ?_
      refine rn_if_eq (tgt := 53) dX10_ended_46 (by decide) (fun h15 => ?_) (fun h15 => absurd h15 (by decide))
      refine rn_iconst (v := (0 : Int32)) dX10_ended_53 (by decide) ?_
      refine rn_iadd dX10_ended_54 ?_
      refine rn_topi (0 : Int32) (by decide) ?_
      refine rn_istore_n dX10_ended_55 rfl (by decide) [(0, .ref o_m), (1, .int k), (2, .int (0 : Int32)), (3, .int (1 : Int32))] rfl ?_
      refine rn_iinc (v := (2 : Int32)) dX10_ended_56 rfl (by decide) (by decide) [(0, .ref o_m), (1, .int k), (2, .int (0 : Int32)), (3, .int (2 : Int32))] rfl ?_
      refine rn_goto (tgt := 34) dX10_ended_59 (by decide) ?_
      refine rn_iload_n (i := 3) dX10_ended_34 rfl rfl ?_
      refine rn_iconst (v := (4 : Int32)) dX10_ended_35 (by decide) ?_
      refine rn_icmp_ge (tgt := 62) dX10_ended_36 (by decide) (fun h16 => absurd h16 (by decide)) (fun h16 => ?_)
      refine rn_iload_n (i := 2) dX10_ended_39 rfl rfl ?_
      refine rn_aload_n (i := 0) dX10_ended_40 rfl rfl ?_
      refine rn_get 23 kg_SGModel_95 (ls_eq h_m) (ls_ne (by decide) hf_m_36) dX10_ended_41 ?_
      refine rn_iload_n (i := 3) dX10_ended_44 rfl rfl ?_
      refine rn_zald 49 3 (ls_ne (by decide) h_m_heapIs) rfl (by unfold vp_in; decide) dX10_ended_45 ?_
      refine rn_topi (0 : Int32) rfl ?_
      refine rn_if_eq (tgt := 53) dX10_ended_46 (by decide) (fun h17 => ?_) (fun h17 => absurd h17 (by decide))
      refine rn_iconst (v := (0 : Int32)) dX10_ended_53 (by decide) ?_
      refine rn_iadd dX10_ended_54 ?_
      refine rn_topi (0 : Int32) (by decide) ?_
      refine rn_istore_n dX10_ended_55 rfl (by decide) [(0, .ref o_m), (1, .int k), (2, .int (0 : Int32)), (3, .int (2 : Int32))] rfl ?_
      refine rn_iinc (v := (3 : Int32)) dX10_ended_56 rfl (by decide) (by decide) [(0, .ref o_m), (1, .int k), (2, .int (0 : Int32)), (3, .int (3 : Int32))] rfl ?_
      refine rn_goto (tgt := 34) dX10_ended_59 (by decide) ?_
      refine rn_iload_n (i := 3) dX10_ended_34 rfl rfl ?_
      refine rn_iconst (v := (4 : Int32)) dX10_ended_35 (by decide) ?_
      refine rn_icmp_ge (tgt := 62) dX10_ended_36 (by decide) (fun h18 => absurd h18 (by decide)) (fun h18 => ?_)
      refine rn_iload_n (i := 2) dX10_ended_39 rfl rfl ?_
      refine rn_aload_n (i := 0) dX10_ended_40 rfl rfl ?_
      refine rn_get 23 kg_SGModel_95 (ls_eq h_m) (ls_ne (by decide) hf_m_36) dX10_ended_41 ?_
      refine rn_iload_n (i := 3) dX10_ended_44 rfl rfl ?_
      refine rn_zald 49 3 (ls_ne (by decide) h_m_heapIs) rfl (by unfold vp_in; decide) dX10_ended_45 ?_
      refine rn_topi (0 : Int32) rfl ?_
      refine rn_if_eq (tgt := 53) dX10_ended_46 (by decide) (fun h19 => ?_) (fun h19 => absurd h19 (by decide))
      refine rn_iconst (v := (0 : Int32)) dX10_ended_53 (by decide) ?_
      refine rn_iadd dX10_ended_54 ?_
      refine rn_topi (0 : Int32) (by decide) ?_
      refine rn_istore_n dX10_ended_55 rfl (by decide) [(0, .ref o_m), (1, .int k), (2, .int (0 : Int32)), (3, .int (3 : Int32))] rfl ?_
      refine rn_iinc (v := (4 : Int32)) dX10_ended_56 rfl (by decide) (by decide) [(0, .ref o_m), (1, .int k), (2, .int (0 : Int32)), (3, .int (4 : Int32))] rfl ?_
      refine rn_goto (tgt := 34) dX10_ended_59 (by decide) ?_
      refine rn_iload_n (i := 3) dX10_ended_34 rfl rfl ?_
      refine rn_iconst (v := (4 : Int32)) dX10_ended_35 (by decide) ?_
      refine rn_icmp_ge (tgt := 62) dX10_ended_36 (by decide) (fun h20 => ?_) (fun h20 => absurd h20 (by decide))
      refine rn_iload_n (i := 1) dX10_ended_62 rfl rfl ?_
      refine rn_bipush (v := (18 : Int32)) dX10_ended_63 (by decide) ?_
      refine rn_icmp_ge (tgt := 77) dX10_ended_65 (by decide) (fun h21 => ?_) (fun h21 => ?_)
      · refine rn_iload_n (i := 1) dX10_ended_77 rfl rfl ?_
        refine rn_bipush (v := (18 : Int32)) dX10_ended_78 (by decide) ?_
        refine rn_icmp_ne (tgt := 90) dX10_ended_80 (by decide) (fun h22 => ?_) (fun h22 => ?_)
        · refine rn_iload_n (i := 1) dX10_ended_90 rfl rfl ?_
          refine rn_bipush (v := (19 : Int32)) dX10_ended_91 (by decide) ?_
          refine rn_icmp_ne (tgt := 103) dX10_ended_93 (by decide) (fun h23 => ?_) (fun h23 => ?_)
          · refine rn_iload_n (i := 2) dX10_ended_103 rfl rfl ?_
            exact rn_iret dX10_ended_104 rfl rfl (Or.inr ⟨(Or.inl ⟨hc8, hc10, h21, h22, h23⟩), rfl, rfl⟩)
          · refine rn_aload_n (i := 0) dX10_ended_96 rfl rfl ?_
            refine rn_get 23 kg_SGModel_267 (ls_eq h_m) (ls_ne (by decide) hf_m_33) dX10_ended_97 ?_
            refine rn_goto (tgt := 104) dX10_ended_100 (by decide) ?_
            exact rn_iret dX10_ended_104 rfl rfl (Or.inr ⟨(Or.inr (Or.inl ⟨hc8, hc10, h21, h22, h23⟩)), rfl, rfl⟩)
        · refine rn_aload_n (i := 0) dX10_ended_83 rfl rfl ?_
          refine rn_get 23 kg_SGModel_200 (ls_eq h_m) (ls_ne (by decide) hf_m_22) dX10_ended_84 ?_
          refine rn_goto (tgt := 104) dX10_ended_87 (by decide) ?_
          exact rn_iret dX10_ended_104 rfl rfl (Or.inr ⟨(Or.inr (Or.inr (Or.inl ⟨hc8, hc10, h21, h22⟩))), rfl, rfl⟩)
      · refine rn_aload_n (i := 0) dX10_ended_68 rfl rfl ?_
        refine rn_get 23 kg_SGModel_116 (ls_eq h_m) (ls_ne (by decide) hf_m_44) dX10_ended_69 ?_
        refine rn_iload_n (i := 1) dX10_ended_72 rfl rfl ?_
        refine rn_iald 56 1 (ls_ne (by decide) h_m_endings) rfl (rn_in (by have g0 := i32_rng k; simp only [Int32.lt_iff_toInt_lt, Int32.le_iff_toInt_le, gt_iff_lt, ge_iff_le, ← Int32.toInt_inj, i32_0, i32_18, i32_20] at *; omega)) dX10_ended_73 ?_
        refine rn_topi (0 : Int32) rfl ?_
        refine rn_goto (tgt := 104) dX10_ended_74 (by decide) ?_
        exact rn_iret dX10_ended_104 rfl rfl (Or.inr ⟨(Or.inr (Or.inr (Or.inr ⟨hc8, hc10, h21⟩))), rfl, rfl⟩)
    · have hc24 := hc; clear hc; cases hr; subst hw
      exact absurd hc24 (by decide)
    · have hc25 := hc; clear hc; cases hr; subst hw
      exact absurd hc25 (by decide)
    · have hc26 := hc; clear hc; cases hr; subst hw
      exact absurd hc26 (by decide)
set_option maxRecDepth 20000 in
set_option maxHeartbeats 4000000 in
theorem c_X10_clear (G : rn_G) (ws : va_W) (o_m : Nat) (fs_m : List Value) (a_peers : Nat) (a_sentSize : Nat) (a_heapIs : Nat) (a_endings : Nat) (h_m : ws[23]? = some (o_m, Sum.inr (10, fs_m))) (hf_m_0 : fs_m[0]? = some (.int (0 : Int32))) (hf_m_3 : fs_m[3]? = some (.int (0 : Int32))) (hf_m_4 : fs_m[4]? = some (.int (0 : Int32))) (hf_m_8 : fs_m[8]? = some (.ref a_peers)) (hf_m_9 : fs_m[9]? = some (.int (0 : Int32))) (hf_m_19 : fs_m[19]? = some (.int (0 : Int32))) (hf_m_20 : fs_m[20]? = some (.int (0 : Int32))) (hf_m_21 : fs_m[21]? = some (.int (65535 : Int32))) (hf_m_22 : fs_m[22]? = some (.int (0 : Int32))) (hf_m_33 : fs_m[33]? = some (.int (0 : Int32))) (hf_m_34 : fs_m[34]? = some (.ref a_sentSize)) (hf_m_35 : fs_m[35]? = some (.int (-1 : Int32))) (hf_m_36 : fs_m[36]? = some (.ref a_heapIs)) (hf_m_44 : fs_m[44]? = some (.ref a_endings)) (hf_m_51 : fs_m[51]? = some (.int (0 : Int32))) (h_m_peers : ws[28]? = some (a_peers, Sum.inl (rn_k G 1, 4, Sum.inl (fun _ => 0)))) (h_m_sentSize : ws[48]? = some (a_sentSize, Sum.inl (rn_k G 1, 2, Sum.inl (fun _ => 0)))) (h_m_heapIs : ws[49]? = some (a_heapIs, Sum.inl (rn_k G 3, 4, Sum.inl (fun _ => 0)))) (h_m_endings : ws[56]? = some (a_endings, Sum.inl (rn_k G 1, 18, Sum.inl (fun _ => 0)))) : Rn G mX10_clear 0 0 0 0 0 (lv_args 0 [.ref o_m]) [] ws (fun r w => (True ∧ r = Sum.inl none ∧ True)) := by
  refine rn_lv [(0, .ref o_m)] rfl ?_
  refine rn_aload_n (i := 0) dX10_clear_0 rfl rfl ?_
  refine rn_iconst (v := (0 : Int32)) dX10_clear_1 (by decide) ?_
  refine rn_put 23 (kp_SGModel_137 _) h_m (ls_lt hf_m_0) rfl rfl dX10_clear_2 ?_
  refine rn_aload_n (i := 0) dX10_clear_5 rfl rfl ?_
  refine rn_iconst (v := (0 : Int32)) dX10_clear_6 (by decide) ?_
  refine rn_put 23 (kp_SGModel_168 _) (ls_eq h_m) (ls_lt (ls_ne (by decide) hf_m_3)) rfl rfl dX10_clear_7 ?_
  refine rn_aload_n (i := 0) dX10_clear_10 rfl rfl ?_
  refine rn_iconst (v := (0 : Int32)) dX10_clear_11 (by decide) ?_
  refine rn_put 23 (kp_SGModel_188 _) (ls_eq (ls_eq h_m)) (ls_lt (ls_ne (by decide) (ls_ne (by decide) hf_m_4))) rfl rfl dX10_clear_12 ?_
  refine rn_aload_n (i := 0) dX10_clear_15 rfl rfl ?_
  refine rn_iconst (v := (0 : Int32)) dX10_clear_16 (by decide) ?_
  refine rn_put 23 (kp_SGModel_197 _) (ls_eq (ls_eq (ls_eq h_m))) (ls_lt (ls_ne (by decide) (ls_ne (by decide) (ls_ne (by decide) hf_m_9)))) rfl rfl dX10_clear_17 ?_
  refine rn_aload_n (i := 0) dX10_clear_20 rfl rfl ?_
  refine rn_iconst (v := (0 : Int32)) dX10_clear_21 (by decide) ?_
  refine rn_put 23 (kp_SGModel_200 _) (ls_eq (ls_eq (ls_eq (ls_eq h_m)))) (ls_lt (ls_ne (by decide) (ls_ne (by decide) (ls_ne (by decide) (ls_ne (by decide) hf_m_22))))) rfl rfl dX10_clear_22 ?_
  refine rn_aload_n (i := 0) dX10_clear_25 rfl rfl ?_
  refine rn_iconst (v := (0 : Int32)) dX10_clear_26 (by decide) ?_
  refine rn_put 23 (kp_SGModel_267 _) (ls_eq (ls_eq (ls_eq (ls_eq (ls_eq h_m))))) (ls_lt (ls_ne (by decide) (ls_ne (by decide) (ls_ne (by decide) (ls_ne (by decide) (ls_ne (by decide) hf_m_33)))))) rfl rfl dX10_clear_27 ?_
  refine rn_aload_n (i := 0) dX10_clear_30 rfl rfl ?_
  refine rn_iconst (v := (0 : Int32)) dX10_clear_31 (by decide) ?_
  refine rn_put 23 (kp_SGModel_243 _) (ls_eq (ls_eq (ls_eq (ls_eq (ls_eq (ls_eq h_m)))))) (ls_lt (ls_ne (by decide) (ls_ne (by decide) (ls_ne (by decide) (ls_ne (by decide) (ls_ne (by decide) (ls_ne (by decide) hf_m_51))))))) rfl rfl dX10_clear_32 ?_
  refine rn_aload_n (i := 0) dX10_clear_35 rfl rfl ?_
  refine rn_iconst (v := (-1 : Int32)) dX10_clear_36 (by decide) ?_
  refine rn_put 23 (kp_SGModel_92 _) (ls_eq (ls_eq (ls_eq (ls_eq (ls_eq (ls_eq (ls_eq h_m))))))) (ls_lt (ls_ne (by decide) (ls_ne (by decide) (ls_ne (by decide) (ls_ne (by decide) (ls_ne (by decide) (ls_ne (by decide) (ls_ne (by decide) hf_m_35)))))))) rfl rfl dX10_clear_37 ?_
  refine rn_aload_n (i := 0) dX10_clear_40 rfl rfl ?_
  refine rn_iconst (v := (0 : Int32)) dX10_clear_41 (by decide) ?_
  refine rn_put 23 (kp_SGModel_191 _) (ls_eq (ls_eq (ls_eq (ls_eq (ls_eq (ls_eq (ls_eq (ls_eq h_m)))))))) (ls_lt (ls_ne (by decide) (ls_ne (by decide) (ls_ne (by decide) (ls_ne (by decide) (ls_ne (by decide) (ls_ne (by decide) (ls_ne (by decide) (ls_ne (by decide) hf_m_19))))))))) rfl rfl dX10_clear_42 ?_
  refine rn_aload_n (i := 0) dX10_clear_45 rfl rfl ?_
  refine rn_iconst (v := (0 : Int32)) dX10_clear_46 (by decide) ?_
  refine rn_put 23 (kp_SGModel_194 _) (ls_eq (ls_eq (ls_eq (ls_eq (ls_eq (ls_eq (ls_eq (ls_eq (ls_eq h_m))))))))) (ls_lt (ls_ne (by decide) (ls_ne (by decide) (ls_ne (by decide) (ls_ne (by decide) (ls_ne (by decide) (ls_ne (by decide) (ls_ne (by decide) (ls_ne (by decide) (ls_ne (by decide) hf_m_20)))))))))) rfl rfl dX10_clear_47 ?_
  refine rn_aload_n (i := 0) dX10_clear_50 rfl rfl ?_
  refine rn_ldc (v := (65535 : Int32)) wd_1093 dX10_clear_51 ?_
  refine rn_put 23 (kp_SGModel_53 _) (ls_eq (ls_eq (ls_eq (ls_eq (ls_eq (ls_eq (ls_eq (ls_eq (ls_eq (ls_eq h_m)))))))))) (ls_lt (ls_ne (by decide) (ls_ne (by decide) (ls_ne (by decide) (ls_ne (by decide) (ls_ne (by decide) (ls_ne (by decide) (ls_ne (by decide) (ls_ne (by decide) (ls_ne (by decide) (ls_ne (by decide) hf_m_21))))))))))) rfl rfl dX10_clear_53 ?_
  refine rn_iconst (v := (0 : Int32)) dX10_clear_56 (by decide) ?_
  refine rn_istore_n dX10_clear_57 rfl (by decide) [(0, .ref o_m), (1, .int (0 : Int32))] rfl ?_
  refine rn_iload_n (i := 1) dX10_clear_58 rfl rfl ?_
  refine rn_iconst (v := (4 : Int32)) dX10_clear_59 (by decide) ?_
  refine rn_icmp_ge (tgt := 83) dX10_clear_60 (by decide) (fun h1 => absurd h1 (by decide)) (fun h1 => ?_)
  refine rn_aload_n (i := 0) dX10_clear_63 rfl rfl ?_
  refine rn_get 23 kg_SGModel_22 (ls_eq (ls_eq (ls_eq (ls_eq (ls_eq (ls_eq (ls_eq (ls_eq (ls_eq (ls_eq (ls_eq h_m))))))))))) (ls_ne (by decide) (ls_ne (by decide) (ls_ne (by decide) (ls_ne (by decide) (ls_ne (by decide) (ls_ne (by decide) (ls_ne (by decide) (ls_ne (by decide) (ls_ne (by decide) (ls_ne (by decide) (ls_ne (by decide) hf_m_8))))))))))) dX10_clear_64 ?_
  refine rn_iload_n (i := 1) dX10_clear_67 rfl rfl ?_
  refine rn_iconst (v := (0 : Int32)) dX10_clear_68 (by decide) ?_
  refine rn_iastF 28 1 (ls_ne (by decide) (ls_ne (by decide) (ls_ne (by decide) (ls_ne (by decide) (ls_ne (by decide) (ls_ne (by decide) (ls_ne (by decide) (ls_ne (by decide) (ls_ne (by decide) (ls_ne (by decide) (ls_ne (by decide) h_m_peers))))))))))) rfl (by unfold vp_in; decide) dX10_clear_69 (fun hg2 => ?_)
  refine rn_aload_n (i := 0) dX10_clear_70 rfl rfl ?_
  refine rn_get 23 kg_SGModel_95 (ls_ne (by decide) (ls_eq (ls_eq (ls_eq (ls_eq (ls_eq (ls_eq (ls_eq (ls_eq (ls_eq (ls_eq (ls_eq h_m)))))))))))) (ls_ne (by decide) (ls_ne (by decide) (ls_ne (by decide) (ls_ne (by decide) (ls_ne (by decide) (ls_ne (by decide) (ls_ne (by decide) (ls_ne (by decide) (ls_ne (by decide) (ls_ne (by decide) (ls_ne (by decide) hf_m_36))))))))))) dX10_clear_71 ?_
  refine rn_iload_n (i := 1) dX10_clear_74 rfl rfl ?_
  refine rn_iconst (v := (0 : Int32)) dX10_clear_75 (by decide) ?_
  refine rn_zastF 49 3 (ls_ne (by decide) (ls_ne (by decide) (ls_ne (by decide) (ls_ne (by decide) (ls_ne (by decide) (ls_ne (by decide) (ls_ne (by decide) (ls_ne (by decide) (ls_ne (by decide) (ls_ne (by decide) (ls_ne (by decide) (ls_ne (by decide) h_m_heapIs)))))))))))) rfl (by unfold vp_in; decide) dX10_clear_76 (fun hg3 => ?_)
  refine rn_iinc (v := (1 : Int32)) dX10_clear_77 rfl (by decide) (by decide) [(0, .ref o_m), (1, .int (1 : Int32))] rfl ?_
  refine rn_goto (tgt := 58) dX10_clear_80 (by decide) ?_
  refine rn_iload_n (i := 1) dX10_clear_58 rfl rfl ?_
  refine rn_iconst (v := (4 : Int32)) dX10_clear_59 (by decide) ?_
  refine rn_icmp_ge (tgt := 83) dX10_clear_60 (by decide) (fun h4 => absurd h4 (by decide)) (fun h4 => ?_)
  refine rn_aload_n (i := 0) dX10_clear_63 rfl rfl ?_
  refine rn_get 23 kg_SGModel_22 (ls_ne (by decide) (ls_ne (by decide) (ls_eq (ls_eq (ls_eq (ls_eq (ls_eq (ls_eq (ls_eq (ls_eq (ls_eq (ls_eq (ls_eq h_m))))))))))))) (ls_ne (by decide) (ls_ne (by decide) (ls_ne (by decide) (ls_ne (by decide) (ls_ne (by decide) (ls_ne (by decide) (ls_ne (by decide) (ls_ne (by decide) (ls_ne (by decide) (ls_ne (by decide) (ls_ne (by decide) hf_m_8))))))))))) dX10_clear_64 ?_
  refine rn_iload_n (i := 1) dX10_clear_67 rfl rfl ?_
  refine rn_iconst (v := (0 : Int32)) dX10_clear_68 (by decide) ?_
  refine rn_iastF 28 1 (ls_ne (by decide) (ls_eq (ls_ne (by decide) (ls_ne (by decide) (ls_ne (by decide) (ls_ne (by decide) (ls_ne (by decide) (ls_ne (by decide) (ls_ne (by decide) (ls_ne (by decide) (ls_ne (by decide) (ls_ne (by decide) (ls_ne (by decide) h_m_peers))))))))))))) rfl (by unfold vp_in; decide) dX10_clear_69 (fun hg5 => ?_)
  refine rn_aload_n (i := 0) dX10_clear_70 rfl rfl ?_
  refine rn_get 23 kg_SGModel_95 (ls_ne (by decide) (ls_ne (by decide) (ls_ne (by decide) (ls_eq (ls_eq (ls_eq (ls_eq (ls_eq (ls_eq (ls_eq (ls_eq (ls_eq (ls_eq (ls_eq h_m)))))))))))))) (ls_ne (by decide) (ls_ne (by decide) (ls_ne (by decide) (ls_ne (by decide) (ls_ne (by decide) (ls_ne (by decide) (ls_ne (by decide) (ls_ne (by decide) (ls_ne (by decide) (ls_ne (by decide) (ls_ne (by decide) hf_m_36))))))))))) dX10_clear_71 ?_
  refine rn_iload_n (i := 1) dX10_clear_74 rfl rfl ?_
  refine rn_iconst (v := (0 : Int32)) dX10_clear_75 (by decide) ?_
  refine rn_zastF 49 3 (ls_ne (by decide) (ls_eq (ls_ne (by decide) (ls_ne (by decide) (ls_ne (by decide) (ls_ne (by decide) (ls_ne (by decide) (ls_ne (by decide) (ls_ne (by decide) (ls_ne (by decide) (ls_ne (by decide) (ls_ne (by decide) (ls_ne (by decide) (ls_ne (by decide) h_m_heapIs)))))))))))))) rfl (by unfold vp_in; decide) dX10_clear_76 (fun hg6 => ?_)
  refine rn_iinc (v := (2 : Int32)) dX10_clear_77 rfl (by decide) (by decide) [(0, .ref o_m), (1, .int (2 : Int32))] rfl ?_
  refine rn_goto (tgt := 58) dX10_clear_80 (by decide) ?_
  refine rn_iload_n (i := 1) dX10_clear_58 rfl rfl ?_
  refine rn_iconst (v := (4 : Int32)) dX10_clear_59 (by decide) ?_
  refine rn_icmp_ge (tgt := 83) dX10_clear_60 (by decide) (fun h7 => absurd h7 (by decide)) (fun h7 => ?_)
  refine rn_aload_n (i := 0) dX10_clear_63 rfl rfl ?_
  refine rn_get 23 kg_SGModel_22 (ls_ne (by decide) (ls_ne (by decide) (ls_ne (by decide) (ls_ne (by decide) (ls_eq (ls_eq (ls_eq (ls_eq (ls_eq (ls_eq (ls_eq (ls_eq (ls_eq (ls_eq (ls_eq h_m))))))))))))))) (ls_ne (by decide) (ls_ne (by decide) (ls_ne (by decide) (ls_ne (by decide) (ls_ne (by decide) (ls_ne (by decide) (ls_ne (by decide) (ls_ne (by decide) (ls_ne (by decide) (ls_ne (by decide) (ls_ne (by decide) hf_m_8))))))))))) dX10_clear_64 ?_
  refine rn_iload_n (i := 1) dX10_clear_67 rfl rfl ?_
  refine rn_iconst (v := (0 : Int32)) dX10_clear_68 (by decide) ?_
  refine rn_iastF 28 1 (ls_ne (by decide) (ls_eq (ls_ne (by decide) (ls_eq (ls_ne (by decide) (ls_ne (by decide) (ls_ne (by decide) (ls_ne (by decide) (ls_ne (by decide) (ls_ne (by decide) (ls_ne (by decide) (ls_ne (by decide) (ls_ne (by decide) (ls_ne (by decide) (ls_ne (by decide) h_m_peers))))))))))))))) rfl (by unfold vp_in; decide) dX10_clear_69 (fun hg8 => ?_)
  refine rn_aload_n (i := 0) dX10_clear_70 rfl rfl ?_
  refine rn_get 23 kg_SGModel_95 (ls_ne (by decide) (ls_ne (by decide) (ls_ne (by decide) (ls_ne (by decide) (ls_ne (by decide) (ls_eq (ls_eq (ls_eq (ls_eq (ls_eq (ls_eq (ls_eq (ls_eq (ls_eq (ls_eq (ls_eq h_m)))))))))))))))) (ls_ne (by decide) (ls_ne (by decide) (ls_ne (by decide) (ls_ne (by decide) (ls_ne (by decide) (ls_ne (by decide) (ls_ne (by decide) (ls_ne (by decide) (ls_ne (by decide) (ls_ne (by decide) (ls_ne (by decide) hf_m_36))))))))))) dX10_clear_71 ?_
  refine rn_iload_n (i := 1) dX10_clear_74 rfl rfl ?_
  refine rn_iconst (v := (0 : Int32)) dX10_clear_75 (by decide) ?_
  refine rn_zastF 49 3 (ls_ne (by decide) (ls_eq (ls_ne (by decide) (ls_eq (ls_ne (by decide) (ls_ne (by decide) (ls_ne (by decide) (ls_ne (by decide) (ls_ne (by decide) (ls_ne (by decide) (ls_ne (by decide) (ls_ne (by decide) (ls_ne (by decide) (ls_ne (by decide) (ls_ne (by decide) (ls_ne (by decide) h_m_heapIs)))))))))))))))) rfl (by unfold vp_in; decide) dX10_clear_76 (fun hg9 => ?_)
  refine rn_iinc (v := (3 : Int32)) dX10_clear_77 rfl (by decide) (by decide) [(0, .ref o_m), (1, .int (3 : Int32))] rfl ?_
  refine rn_goto (tgt := 58) dX10_clear_80 (by decide) ?_
  refine rn_iload_n (i := 1) dX10_clear_58 rfl rfl ?_
  refine rn_iconst (v := (4 : Int32)) dX10_clear_59 (by decide) ?_
  refine rn_icmp_ge (tgt := 83) dX10_clear_60 (by decide) (fun h10 => absurd h10 (by decide)) (fun h10 => ?_)
  refine rn_aload_n (i := 0) dX10_clear_63 rfl rfl ?_
  refine rn_get 23 kg_SGModel_22 (ls_ne (by decide) (ls_ne (by decide) (ls_ne (by decide) (ls_ne (by decide) (ls_ne (by decide) (ls_ne (by decide) (ls_eq (ls_eq (ls_eq (ls_eq (ls_eq (ls_eq (ls_eq (ls_eq (ls_eq (ls_eq (ls_eq h_m))))))))))))))))) (ls_ne (by decide) (ls_ne (by decide) (ls_ne (by decide) (ls_ne (by decide) (ls_ne (by decide) (ls_ne (by decide) (ls_ne (by decide) (ls_ne (by decide) (ls_ne (by decide) (ls_ne (by decide) (ls_ne (by decide) hf_m_8))))))))))) dX10_clear_64 ?_
  refine rn_iload_n (i := 1) dX10_clear_67 rfl rfl ?_
  refine rn_iconst (v := (0 : Int32)) dX10_clear_68 (by decide) ?_
  refine rn_iastF 28 1 (ls_ne (by decide) (ls_eq (ls_ne (by decide) (ls_eq (ls_ne (by decide) (ls_eq (ls_ne (by decide) (ls_ne (by decide) (ls_ne (by decide) (ls_ne (by decide) (ls_ne (by decide) (ls_ne (by decide) (ls_ne (by decide) (ls_ne (by decide) (ls_ne (by decide) (ls_ne (by decide) (ls_ne (by decide) h_m_peers))))))))))))))))) rfl (by unfold vp_in; decide) dX10_clear_69 (fun hg11 => ?_)
  refine rn_aload_n (i := 0) dX10_clear_70 rfl rfl ?_
  refine rn_get 23 kg_SGModel_95 (ls_ne (by decide) (ls_ne (by decide) (ls_ne (by decide) (ls_ne (by decide) (ls_ne (by decide) (ls_ne (by decide) (ls_ne (by decide) (ls_eq (ls_eq (ls_eq (ls_eq (ls_eq (ls_eq (ls_eq (ls_eq (ls_eq (ls_eq (ls_eq h_m)))))))))))))))))) (ls_ne (by decide) (ls_ne (by decide) (ls_ne (by decide) (ls_ne (by decide) (ls_ne (by decide) (ls_ne (by decide) (ls_ne (by decide) (ls_ne (by decide) (ls_ne (by decide) (ls_ne (by decide) (ls_ne (by decide) hf_m_36))))))))))) dX10_clear_71 ?_
  refine rn_iload_n (i := 1) dX10_clear_74 rfl rfl ?_
  refine rn_iconst (v := (0 : Int32)) dX10_clear_75 (by decide) ?_
  refine rn_zastF 49 3 (ls_ne (by decide) (ls_eq (ls_ne (by decide) (ls_eq (ls_ne (by decide) (ls_eq (ls_ne (by decide) (ls_ne (by decide) (ls_ne (by decide) (ls_ne (by decide) (ls_ne (by decide) (ls_ne (by decide) (ls_ne (by decide) (ls_ne (by decide) (ls_ne (by decide) (ls_ne (by decide) (ls_ne (by decide) (ls_ne (by decide) h_m_heapIs)))))))))))))))))) rfl (by unfold vp_in; decide) dX10_clear_76 (fun hg12 => ?_)
  refine rn_iinc (v := (4 : Int32)) dX10_clear_77 rfl (by decide) (by decide) [(0, .ref o_m), (1, .int (4 : Int32))] rfl ?_
  refine rn_goto (tgt := 58) dX10_clear_80 (by decide) ?_
  refine rn_iload_n (i := 1) dX10_clear_58 rfl rfl ?_
  refine rn_iconst (v := (4 : Int32)) dX10_clear_59 (by decide) ?_
  refine rn_icmp_ge (tgt := 83) dX10_clear_60 (by decide) (fun h13 => ?_) (fun h13 => absurd h13 (by decide))
  refine rn_aload_n (i := 0) dX10_clear_83 rfl rfl ?_
  refine rn_get 23 kg_SGModel_89 (ls_ne (by decide) (ls_ne (by decide) (ls_ne (by decide) (ls_ne (by decide) (ls_ne (by decide) (ls_ne (by decide) (ls_ne (by decide) (ls_ne (by decide) (ls_eq (ls_eq (ls_eq (ls_eq (ls_eq (ls_eq (ls_eq (ls_eq (ls_eq (ls_eq (ls_eq h_m))))))))))))))))))) (ls_ne (by decide) (ls_ne (by decide) (ls_ne (by decide) (ls_ne (by decide) (ls_ne (by decide) (ls_ne (by decide) (ls_ne (by decide) (ls_ne (by decide) (ls_ne (by decide) (ls_ne (by decide) (ls_ne (by decide) hf_m_34))))))))))) dX10_clear_84 ?_
  refine rn_iconst (v := (0 : Int32)) dX10_clear_87 (by decide) ?_
  refine rn_iconst (v := (0 : Int32)) dX10_clear_88 (by decide) ?_
  refine rn_iastF 48 1 (ls_ne (by decide) (ls_ne (by decide) (ls_ne (by decide) (ls_ne (by decide) (ls_ne (by decide) (ls_ne (by decide) (ls_ne (by decide) (ls_ne (by decide) (ls_ne (by decide) (ls_ne (by decide) (ls_ne (by decide) (ls_ne (by decide) (ls_ne (by decide) (ls_ne (by decide) (ls_ne (by decide) (ls_ne (by decide) (ls_ne (by decide) (ls_ne (by decide) (ls_ne (by decide) h_m_sentSize))))))))))))))))))) rfl (by unfold vp_in; decide) dX10_clear_89 (fun hg14 => ?_)
  refine rn_aload_n (i := 0) dX10_clear_90 rfl rfl ?_
  refine rn_get 23 kg_SGModel_89 (ls_ne (by decide) (ls_ne (by decide) (ls_ne (by decide) (ls_ne (by decide) (ls_ne (by decide) (ls_ne (by decide) (ls_ne (by decide) (ls_ne (by decide) (ls_ne (by decide) (ls_eq (ls_eq (ls_eq (ls_eq (ls_eq (ls_eq (ls_eq (ls_eq (ls_eq (ls_eq (ls_eq h_m)))))))))))))))))))) (ls_ne (by decide) (ls_ne (by decide) (ls_ne (by decide) (ls_ne (by decide) (ls_ne (by decide) (ls_ne (by decide) (ls_ne (by decide) (ls_ne (by decide) (ls_ne (by decide) (ls_ne (by decide) (ls_ne (by decide) hf_m_34))))))))))) dX10_clear_91 ?_
  refine rn_iconst (v := (1 : Int32)) dX10_clear_94 (by decide) ?_
  refine rn_iconst (v := (0 : Int32)) dX10_clear_95 (by decide) ?_
  refine rn_iastC 48 1 (ls_eq (ls_ne (by decide) (ls_ne (by decide) (ls_ne (by decide) (ls_ne (by decide) (ls_ne (by decide) (ls_ne (by decide) (ls_ne (by decide) (ls_ne (by decide) (ls_ne (by decide) (ls_ne (by decide) (ls_ne (by decide) (ls_ne (by decide) (ls_ne (by decide) (ls_ne (by decide) (ls_ne (by decide) (ls_ne (by decide) (ls_ne (by decide) (ls_ne (by decide) (ls_ne (by decide) h_m_sentSize)))))))))))))))))))) rfl (by unfold vp_in; decide) dX10_clear_96 (fun hg15 => ?_)
  refine rn_iconst (v := (0 : Int32)) dX10_clear_97 (by decide) ?_
  refine rn_istore_n dX10_clear_98 rfl (by decide) [(0, .ref o_m), (1, .int (0 : Int32))] rfl ?_
  refine rn_iload_n (i := 1) dX10_clear_99 rfl rfl ?_
  refine rn_bipush (v := (18 : Int32)) dX10_clear_100 (by decide) ?_
  refine rn_icmp_ge (tgt := 118) dX10_clear_102 (by decide) (fun h16 => absurd h16 (by decide)) (fun h16 => ?_)
  refine rn_aload_n (i := 0) dX10_clear_105 rfl rfl ?_
  refine rn_get 23 kg_SGModel_116 (ls_ne (by decide) (ls_ne (by decide) (ls_ne (by decide) (ls_ne (by decide) (ls_ne (by decide) (ls_ne (by decide) (ls_ne (by decide) (ls_ne (by decide) (ls_ne (by decide) (ls_eq (ls_eq (ls_eq (ls_eq (ls_eq (ls_eq (ls_eq (ls_eq (ls_eq (ls_eq (ls_eq h_m)))))))))))))))))))) (ls_ne (by decide) (ls_ne (by decide) (ls_ne (by decide) (ls_ne (by decide) (ls_ne (by decide) (ls_ne (by decide) (ls_ne (by decide) (ls_ne (by decide) (ls_ne (by decide) (ls_ne (by decide) (ls_ne (by decide) hf_m_44))))))))))) dX10_clear_106 ?_
  refine rn_iload_n (i := 1) dX10_clear_109 rfl rfl ?_
  refine rn_iconst (v := (0 : Int32)) dX10_clear_110 (by decide) ?_
  refine rn_iastF 56 1 (ls_ne (by decide) (ls_ne (by decide) (ls_ne (by decide) (ls_ne (by decide) (ls_ne (by decide) (ls_ne (by decide) (ls_ne (by decide) (ls_ne (by decide) (ls_ne (by decide) (ls_ne (by decide) (ls_ne (by decide) (ls_ne (by decide) (ls_ne (by decide) (ls_ne (by decide) (ls_ne (by decide) (ls_ne (by decide) (ls_ne (by decide) (ls_ne (by decide) (ls_ne (by decide) (ls_ne (by decide) h_m_endings)))))))))))))))))))) rfl (by unfold vp_in; decide) dX10_clear_111 (fun hg17 => ?_)
  refine rn_iinc (v := (1 : Int32)) dX10_clear_112 rfl (by decide) (by decide) [(0, .ref o_m), (1, .int (1 : Int32))] rfl ?_
  refine rn_goto (tgt := 99) dX10_clear_115 (by decide) ?_
  refine rn_iload_n (i := 1) dX10_clear_99 rfl rfl ?_
  refine rn_bipush (v := (18 : Int32)) dX10_clear_100 (by decide) ?_
  refine rn_icmp_ge (tgt := 118) dX10_clear_102 (by decide) (fun h18 => absurd h18 (by decide)) (fun h18 => ?_)
  refine rn_aload_n (i := 0) dX10_clear_105 rfl rfl ?_
  refine rn_get 23 kg_SGModel_116 (ls_ne (by decide) (ls_ne (by decide) (ls_ne (by decide) (ls_ne (by decide) (ls_ne (by decide) (ls_ne (by decide) (ls_ne (by decide) (ls_ne (by decide) (ls_ne (by decide) (ls_ne (by decide) (ls_eq (ls_eq (ls_eq (ls_eq (ls_eq (ls_eq (ls_eq (ls_eq (ls_eq (ls_eq (ls_eq h_m))))))))))))))))))))) (ls_ne (by decide) (ls_ne (by decide) (ls_ne (by decide) (ls_ne (by decide) (ls_ne (by decide) (ls_ne (by decide) (ls_ne (by decide) (ls_ne (by decide) (ls_ne (by decide) (ls_ne (by decide) (ls_ne (by decide) hf_m_44))))))))))) dX10_clear_106 ?_
  refine rn_iload_n (i := 1) dX10_clear_109 rfl rfl ?_
  refine rn_iconst (v := (0 : Int32)) dX10_clear_110 (by decide) ?_
  refine rn_iastC 56 1 (ls_eq (ls_ne (by decide) (ls_ne (by decide) (ls_ne (by decide) (ls_ne (by decide) (ls_ne (by decide) (ls_ne (by decide) (ls_ne (by decide) (ls_ne (by decide) (ls_ne (by decide) (ls_ne (by decide) (ls_ne (by decide) (ls_ne (by decide) (ls_ne (by decide) (ls_ne (by decide) (ls_ne (by decide) (ls_ne (by decide) (ls_ne (by decide) (ls_ne (by decide) (ls_ne (by decide) (ls_ne (by decide) h_m_endings))))))))))))))))))))) rfl (by unfold vp_in; decide) dX10_clear_111 (fun hg19 => ?_)
  refine rn_iinc (v := (2 : Int32)) dX10_clear_112 rfl (by decide) (by decide) [(0, .ref o_m), (1, .int (2 : Int32))] rfl ?_
  refine rn_goto (tgt := 99) dX10_clear_115 (by decide) ?_
  refine rn_iload_n (i := 1) dX10_clear_99 rfl rfl ?_
  refine rn_bipush (v := (18 : Int32)) dX10_clear_100 (by decide) ?_
  refine rn_icmp_ge (tgt := 118) dX10_clear_102 (by decide) (fun h20 => absurd h20 (by decide)) (fun h20 => ?_)
  refine rn_aload_n (i := 0) dX10_clear_105 rfl rfl ?_
  refine rn_get 23 kg_SGModel_116 (ls_ne (by decide) (ls_ne (by decide) (ls_ne (by decide) (ls_ne (by decide) (ls_ne (by decide) (ls_ne (by decide) (ls_ne (by decide) (ls_ne (by decide) (ls_ne (by decide) (ls_ne (by decide) (ls_eq (ls_eq (ls_eq (ls_eq (ls_eq (ls_eq (ls_eq (ls_eq (ls_eq (ls_eq (ls_eq h_m))))))))))))))))))))) (ls_ne (by decide) (ls_ne (by decide) (ls_ne (by decide) (ls_ne (by decide) (ls_ne (by decide) (ls_ne (by decide) (ls_ne (by decide) (ls_ne (by decide) (ls_ne (by decide) (ls_ne (by decide) (ls_ne (by decide) hf_m_44))))))))))) dX10_clear_106 ?_
  refine rn_iload_n (i := 1) dX10_clear_109 rfl rfl ?_
  refine rn_iconst (v := (0 : Int32)) dX10_clear_110 (by decide) ?_
  refine rn_iastC 56 1 (ls_eq (ls_ne (by decide) (ls_ne (by decide) (ls_ne (by decide) (ls_ne (by decide) (ls_ne (by decide) (ls_ne (by decide) (ls_ne (by decide) (ls_ne (by decide) (ls_ne (by decide) (ls_ne (by decide) (ls_ne (by decide) (ls_ne (by decide) (ls_ne (by decide) (ls_ne (by decide) (ls_ne (by decide) (ls_ne (by decide) (ls_ne (by decide) (ls_ne (by decide) (ls_ne (by decide) (ls_ne (by decide) h_m_endings))))))))))))))))))))) rfl (by unfold vp_in; decide) dX10_clear_111 (fun hg21 => ?_)
  refine rn_iinc (v := (3 : Int32)) dX10_clear_112 rfl (by decide) (by decide) [(0, .ref o_m), (1, .int (3 : Int32))] rfl ?_
  refine rn_goto (tgt := 99) dX10_clear_115 (by decide) ?_
  refine rn_iload_n (i := 1) dX10_clear_99 rfl rfl ?_
  refine rn_bipush (v := (18 : Int32)) dX10_clear_100 (by decide) ?_
  refine rn_icmp_ge (tgt := 118) dX10_clear_102 (by decide) (fun h22 => absurd h22 (by decide)) (fun h22 => ?_)
  refine rn_aload_n (i := 0) dX10_clear_105 rfl rfl ?_
  refine rn_get 23 kg_SGModel_116 (ls_ne (by decide) (ls_ne (by decide) (ls_ne (by decide) (ls_ne (by decide) (ls_ne (by decide) (ls_ne (by decide) (ls_ne (by decide) (ls_ne (by decide) (ls_ne (by decide) (ls_ne (by decide) (ls_eq (ls_eq (ls_eq (ls_eq (ls_eq (ls_eq (ls_eq (ls_eq (ls_eq (ls_eq (ls_eq h_m))))))))))))))))))))) (ls_ne (by decide) (ls_ne (by decide) (ls_ne (by decide) (ls_ne (by decide) (ls_ne (by decide) (ls_ne (by decide) (ls_ne (by decide) (ls_ne (by decide) (ls_ne (by decide) (ls_ne (by decide) (ls_ne (by decide) hf_m_44))))))))))) dX10_clear_106 ?_
  refine rn_iload_n (i := 1) dX10_clear_109 rfl rfl ?_
  refine rn_iconst (v := (0 : Int32)) dX10_clear_110 (by decide) ?_
  refine rn_iastC 56 1 (ls_eq (ls_ne (by decide) (ls_ne (by decide) (ls_ne (by decide) (ls_ne (by decide) (ls_ne (by decide) (ls_ne (by decide) (ls_ne (by decide) (ls_ne (by decide) (ls_ne (by decide) (ls_ne (by decide) (ls_ne (by decide) (ls_ne (by decide) (ls_ne (by decide) (ls_ne (by decide) (ls_ne (by decide) (ls_ne (by decide) (ls_ne (by decide) (ls_ne (by decide) (ls_ne (by decide) (ls_ne (by decide) h_m_endings))))))))))))))))))))) rfl (by unfold vp_in; decide) dX10_clear_111 (fun hg23 => ?_)
  refine rn_iinc (v := (4 : Int32)) dX10_clear_112 rfl (by decide) (by decide) [(0, .ref o_m), (1, .int (4 : Int32))] rfl ?_
  refine rn_goto (tgt := 99) dX10_clear_115 (by decide) ?_
  refine rn_iload_n (i := 1) dX10_clear_99 rfl rfl ?_
  refine rn_bipush (v := (18 : Int32)) dX10_clear_100 (by decide) ?_
  refine rn_icmp_ge (tgt := 118) dX10_clear_102 (by decide) (fun h24 => absurd h24 (by decide)) (fun h24 => ?_)
  refine rn_aload_n (i := 0) dX10_clear_105 rfl rfl ?_
  refine rn_get 23 kg_SGModel_116 (ls_ne (by decide) (ls_ne (by decide) (ls_ne (by decide) (ls_ne (by decide) (ls_ne (by decide) (ls_ne (by decide) (ls_ne (by decide) (ls_ne (by decide) (ls_ne (by decide) (ls_ne (by decide) (ls_eq (ls_eq (ls_eq (ls_eq (ls_eq (ls_eq (ls_eq (ls_eq (ls_eq (ls_eq (ls_eq h_m))))))))))))))))))))) (ls_ne (by decide) (ls_ne (by decide) (ls_ne (by decide) (ls_ne (by decide) (ls_ne (by decide) (ls_ne (by decide) (ls_ne (by decide) (ls_ne (by decide) (ls_ne (by decide) (ls_ne (by decide) (ls_ne (by decide) hf_m_44))))))))))) dX10_clear_106 ?_
  refine rn_iload_n (i := 1) dX10_clear_109 rfl rfl ?_
  refine rn_iconst (v := (0 : Int32)) dX10_clear_110 (by decide) ?_
  refine rn_iastC 56 1 (ls_eq (ls_ne (by decide) (ls_ne (by decide) (ls_ne (by decide) (ls_ne (by decide) (ls_ne (by decide) (ls_ne (by decide) (ls_ne (by decide) (ls_ne (by decide) (ls_ne (by decide) (ls_ne (by decide) (ls_ne (by decide) (ls_ne (by decide) (ls_ne (by decide) (ls_ne (by decide) (ls_ne (by decide) (ls_ne (by decide) (ls_ne (by decide) (ls_ne (by decide) (ls_ne (by decide) (ls_ne (by decide) h_m_endings))))))))))))))))))))) rfl (by unfold vp_in; decide) dX10_clear_111 (fun hg25 => ?_)
  refine rn_iinc (v := (5 : Int32)) dX10_clear_112 rfl (by decide) (by decide) [(0, .ref o_m), (1, .int (5 : Int32))] rfl ?_
  refine rn_goto (tgt := 99) dX10_clear_115 (by decide) ?_
  refine rn_iload_n (i := 1) dX10_clear_99 rfl rfl ?_
  refine rn_bipush (v := (18 : Int32)) dX10_clear_100 (by decide) ?_
  refine rn_icmp_ge (tgt := 118) dX10_clear_102 (by decide) (fun h26 => absurd h26 (by decide)) (fun h26 => ?_)
  refine rn_aload_n (i := 0) dX10_clear_105 rfl rfl ?_
  refine rn_get 23 kg_SGModel_116 (ls_ne (by decide) (ls_ne (by decide) (ls_ne (by decide) (ls_ne (by decide) (ls_ne (by decide) (ls_ne (by decide) (ls_ne (by decide) (ls_ne (by decide) (ls_ne (by decide) (ls_ne (by decide) (ls_eq (ls_eq (ls_eq (ls_eq (ls_eq (ls_eq (ls_eq (ls_eq (ls_eq (ls_eq (ls_eq h_m))))))))))))))))))))) (ls_ne (by decide) (ls_ne (by decide) (ls_ne (by decide) (ls_ne (by decide) (ls_ne (by decide) (ls_ne (by decide) (ls_ne (by decide) (ls_ne (by decide) (ls_ne (by decide) (ls_ne (by decide) (ls_ne (by decide) hf_m_44))))))))))) dX10_clear_106 ?_
  refine rn_iload_n (i := 1) dX10_clear_109 rfl rfl ?_
  refine rn_iconst (v := (0 : Int32)) dX10_clear_110 (by decide) ?_
  refine rn_iastC 56 1 (ls_eq (ls_ne (by decide) (ls_ne (by decide) (ls_ne (by decide) (ls_ne (by decide) (ls_ne (by decide) (ls_ne (by decide) (ls_ne (by decide) (ls_ne (by decide) (ls_ne (by decide) (ls_ne (by decide) (ls_ne (by decide) (ls_ne (by decide) (ls_ne (by decide) (ls_ne (by decide) (ls_ne (by decide) (ls_ne (by decide) (ls_ne (by decide) (ls_ne (by decide) (ls_ne (by decide) (ls_ne (by decide) h_m_endings))))))))))))))))))))) rfl (by unfold vp_in; decide) dX10_clear_111 (fun hg27 => ?_)
  refine rn_iinc (v := (6 : Int32)) dX10_clear_112 rfl (by decide) (by decide) [(0, .ref o_m), (1, .int (6 : Int32))] rfl ?_
  refine rn_goto (tgt := 99) dX10_clear_115 (by decide) ?_
  refine rn_iload_n (i := 1) dX10_clear_99 rfl rfl ?_
  refine rn_bipush (v := (18 : Int32)) dX10_clear_100 (by decide) ?_
  refine rn_icmp_ge (tgt := 118) dX10_clear_102 (by decide) (fun h28 => absurd h28 (by decide)) (fun h28 => ?_)
  refine rn_aload_n (i := 0) dX10_clear_105 rfl rfl ?_
  refine rn_get 23 kg_SGModel_116 (ls_ne (by decide) (ls_ne (by decide) (ls_ne (by decide) (ls_ne (by decide) (ls_ne (by decide) (ls_ne (by decide) (ls_ne (by decide) (ls_ne (by decide) (ls_ne (by decide) (ls_ne (by decide) (ls_eq (ls_eq (ls_eq (ls_eq (ls_eq (ls_eq (ls_eq (ls_eq (ls_eq (ls_eq (ls_eq h_m))))))))))))))))))))) (ls_ne (by decide) (ls_ne (by decide) (ls_ne (by decide) (ls_ne (by decide) (ls_ne (by decide) (ls_ne (by decide) (ls_ne (by decide) (ls_ne (by decide) (ls_ne (by decide) (ls_ne (by decide) (ls_ne (by decide) hf_m_44))))))))))) dX10_clear_106 ?_
  refine rn_iload_n (i := 1) dX10_clear_109 rfl rfl ?_
  refine rn_iconst (v := (0 : Int32)) dX10_clear_110 (by decide) ?_
  refine rn_iastC 56 1 (ls_eq (ls_ne (by decide) (ls_ne (by decide) (ls_ne (by decide) (ls_ne (by decide) (ls_ne (by decide) (ls_ne (by decide) (ls_ne (by decide) (ls_ne (by decide) (ls_ne (by decide) (ls_ne (by decide) (ls_ne (by decide) (ls_ne (by decide) (ls_ne (by decide) (ls_ne (by decide) (ls_ne (by decide) (ls_ne (by decide) (ls_ne (by decide) (ls_ne (by decide) (ls_ne (by decide) (ls_ne (by decide) h_m_endings))))))))))))))))))))) rfl (by unfold vp_in; decide) dX10_clear_111 (fun hg29 => ?_)
  refine rn_iinc (v := (7 : Int32)) dX10_clear_112 rfl (by decide) (by decide) [(0, .ref o_m), (1, .int (7 : Int32))] rfl ?_
  refine rn_goto (tgt := 99) dX10_clear_115 (by decide) ?_
  refine rn_iload_n (i := 1) dX10_clear_99 rfl rfl ?_
  refine rn_bipush (v := (18 : Int32)) dX10_clear_100 (by decide) ?_
  refine rn_icmp_ge (tgt := 118) dX10_clear_102 (by decide) (fun h30 => absurd h30 (by decide)) (fun h30 => ?_)
  refine rn_aload_n (i := 0) dX10_clear_105 rfl rfl ?_
  refine rn_get 23 kg_SGModel_116 (ls_ne (by decide) (ls_ne (by decide) (ls_ne (by decide) (ls_ne (by decide) (ls_ne (by decide) (ls_ne (by decide) (ls_ne (by decide) (ls_ne (by decide) (ls_ne (by decide) (ls_ne (by decide) (ls_eq (ls_eq (ls_eq (ls_eq (ls_eq (ls_eq (ls_eq (ls_eq (ls_eq (ls_eq (ls_eq h_m))))))))))))))))))))) (ls_ne (by decide) (ls_ne (by decide) (ls_ne (by decide) (ls_ne (by decide) (ls_ne (by decide) (ls_ne (by decide) (ls_ne (by decide) (ls_ne (by decide) (ls_ne (by decide) (ls_ne (by decide) (ls_ne (by decide) hf_m_44))))))))))) dX10_clear_106 ?_
  refine rn_iload_n (i := 1) dX10_clear_109 rfl rfl ?_
  refine rn_iconst (v := (0 : Int32)) dX10_clear_110 (by decide) ?_
  refine rn_iastC 56 1 (ls_eq (ls_ne (by decide) (ls_ne (by decide) (ls_ne (by decide) (ls_ne (by decide) (ls_ne (by decide) (ls_ne (by decide) (ls_ne (by decide) (ls_ne (by decide) (ls_ne (by decide) (ls_ne (by decide) (ls_ne (by decide) (ls_ne (by decide) (ls_ne (by decide) (ls_ne (by decide) (ls_ne (by decide) (ls_ne (by decide) (ls_ne (by decide) (ls_ne (by decide) (ls_ne (by decide) (ls_ne (by decide) h_m_endings))))))))))))))))))))) rfl (by unfold vp_in; decide) dX10_clear_111 (fun hg31 => ?_)
  refine rn_iinc (v := (8 : Int32)) dX10_clear_112 rfl (by decide) (by decide) [(0, .ref o_m), (1, .int (8 : Int32))] rfl ?_
  refine rn_goto (tgt := 99) dX10_clear_115 (by decide) ?_
  refine rn_iload_n (i := 1) dX10_clear_99 rfl rfl ?_
  refine rn_bipush (v := (18 : Int32)) dX10_clear_100 (by decide) ?_
  refine rn_icmp_ge (tgt := 118) dX10_clear_102 (by decide) (fun h32 => absurd h32 (by decide)) (fun h32 => ?_)
  refine rn_aload_n (i := 0) dX10_clear_105 rfl rfl ?_
  refine rn_get 23 kg_SGModel_116 (ls_ne (by decide) (ls_ne (by decide) (ls_ne (by decide) (ls_ne (by decide) (ls_ne (by decide) (ls_ne (by decide) (ls_ne (by decide) (ls_ne (by decide) (ls_ne (by decide) (ls_ne (by decide) (ls_eq (ls_eq (ls_eq (ls_eq (ls_eq (ls_eq (ls_eq (ls_eq (ls_eq (ls_eq (ls_eq h_m))))))))))))))))))))) (ls_ne (by decide) (ls_ne (by decide) (ls_ne (by decide) (ls_ne (by decide) (ls_ne (by decide) (ls_ne (by decide) (ls_ne (by decide) (ls_ne (by decide) (ls_ne (by decide) (ls_ne (by decide) (ls_ne (by decide) hf_m_44))))))))))) dX10_clear_106 ?_
  refine rn_iload_n (i := 1) dX10_clear_109 rfl rfl ?_
  refine rn_iconst (v := (0 : Int32)) dX10_clear_110 (by decide) ?_
  refine rn_iastC 56 1 (ls_eq (ls_ne (by decide) (ls_ne (by decide) (ls_ne (by decide) (ls_ne (by decide) (ls_ne (by decide) (ls_ne (by decide) (ls_ne (by decide) (ls_ne (by decide) (ls_ne (by decide) (ls_ne (by decide) (ls_ne (by decide) (ls_ne (by decide) (ls_ne (by decide) (ls_ne (by decide) (ls_ne (by decide) (ls_ne (by decide) (ls_ne (by decide) (ls_ne (by decide) (ls_ne (by decide) (ls_ne (by decide) h_m_endings))))))))))))))))))))) rfl (by unfold vp_in; decide) dX10_clear_111 (fun hg33 => ?_)
  refine rn_iinc (v := (9 : Int32)) dX10_clear_112 rfl (by decide) (by decide) [(0, .ref o_m), (1, .int (9 : Int32))] rfl ?_
  refine rn_goto (tgt := 99) dX10_clear_115 (by decide) ?_
  refine rn_iload_n (i := 1) dX10_clear_99 rfl rfl ?_
  refine rn_bipush (v := (18 : Int32)) dX10_clear_100 (by decide) ?_
  refine rn_icmp_ge (tgt := 118) dX10_clear_102 (by decide) (fun h34 => absurd h34 (by decide)) (fun h34 => ?_)
  refine rn_aload_n (i := 0) dX10_clear_105 rfl rfl ?_
  refine rn_get 23 kg_SGModel_116 (ls_ne (by decide) (ls_ne (by decide) (ls_ne (by decide) (ls_ne (by decide) (ls_ne (by decide) (ls_ne (by decide) (ls_ne (by decide) (ls_ne (by decide) (ls_ne (by decide) (ls_ne (by decide) (ls_eq (ls_eq (ls_eq (ls_eq (ls_eq (ls_eq (ls_eq (ls_eq (ls_eq (ls_eq (ls_eq h_m))))))))))))))))))))) (ls_ne (by decide) (ls_ne (by decide) (ls_ne (by decide) (ls_ne (by decide) (ls_ne (by decide) (ls_ne (by decide) (ls_ne (by decide) (ls_ne (by decide) (ls_ne (by decide) (ls_ne (by decide) (ls_ne (by decide) hf_m_44))))))))))) dX10_clear_106 ?_
  refine rn_iload_n (i := 1) dX10_clear_109 rfl rfl ?_
  refine rn_iconst (v := (0 : Int32)) dX10_clear_110 (by decide) ?_
  refine rn_iastC 56 1 (ls_eq (ls_ne (by decide) (ls_ne (by decide) (ls_ne (by decide) (ls_ne (by decide) (ls_ne (by decide) (ls_ne (by decide) (ls_ne (by decide) (ls_ne (by decide) (ls_ne (by decide) (ls_ne (by decide) (ls_ne (by decide) (ls_ne (by decide) (ls_ne (by decide) (ls_ne (by decide) (ls_ne (by decide) (ls_ne (by decide) (ls_ne (by decide) (ls_ne (by decide) (ls_ne (by decide) (ls_ne (by decide) h_m_endings))))))))))))))))))))) rfl (by unfold vp_in; decide) dX10_clear_111 (fun hg35 => ?_)
  refine rn_iinc (v := (10 : Int32)) dX10_clear_112 rfl (by decide) (by decide) [(0, .ref o_m), (1, .int (10 : Int32))] rfl ?_
  refine rn_goto (tgt := 99) dX10_clear_115 (by decide) ?_
  refine rn_iload_n (i := 1) dX10_clear_99 rfl rfl ?_
  refine rn_bipush (v := (18 : Int32)) dX10_clear_100 (by decide) ?_
  refine rn_icmp_ge (tgt := 118) dX10_clear_102 (by decide) (fun h36 => absurd h36 (by decide)) (fun h36 => ?_)
  refine rn_aload_n (i := 0) dX10_clear_105 rfl rfl ?_
  refine rn_get 23 kg_SGModel_116 (ls_ne (by decide) (ls_ne (by decide) (ls_ne (by decide) (ls_ne (by decide) (ls_ne (by decide) (ls_ne (by decide) (ls_ne (by decide) (ls_ne (by decide) (ls_ne (by decide) (ls_ne (by decide) (ls_eq (ls_eq (ls_eq (ls_eq (ls_eq (ls_eq (ls_eq (ls_eq (ls_eq (ls_eq (ls_eq h_m))))))))))))))))))))) (ls_ne (by decide) (ls_ne (by decide) (ls_ne (by decide) (ls_ne (by decide) (ls_ne (by decide) (ls_ne (by decide) (ls_ne (by decide) (ls_ne (by decide) (ls_ne (by decide) (ls_ne (by decide) (ls_ne (by decide) hf_m_44))))))))))) dX10_clear_106 ?_
  refine rn_iload_n (i := 1) dX10_clear_109 rfl rfl ?_
  refine rn_iconst (v := (0 : Int32)) dX10_clear_110 (by decide) ?_
  refine rn_iastC 56 1 (ls_eq (ls_ne (by decide) (ls_ne (by decide) (ls_ne (by decide) (ls_ne (by decide) (ls_ne (by decide) (ls_ne (by decide) (ls_ne (by decide) (ls_ne (by decide) (ls_ne (by decide) (ls_ne (by decide) (ls_ne (by decide) (ls_ne (by decide) (ls_ne (by decide) (ls_ne (by decide) (ls_ne (by decide) (ls_ne (by decide) (ls_ne (by decide) (ls_ne (by decide) (ls_ne (by decide) (ls_ne (by decide) h_m_endings))))))))))))))))))))) rfl (by unfold vp_in; decide) dX10_clear_111 (fun hg37 => ?_)
  refine rn_iinc (v := (11 : Int32)) dX10_clear_112 rfl (by decide) (by decide) [(0, .ref o_m), (1, .int (11 : Int32))] rfl ?_
  refine rn_goto (tgt := 99) dX10_clear_115 (by decide) ?_
  refine rn_iload_n (i := 1) dX10_clear_99 rfl rfl ?_
  refine rn_bipush (v := (18 : Int32)) dX10_clear_100 (by decide) ?_
  refine rn_icmp_ge (tgt := 118) dX10_clear_102 (by decide) (fun h38 => absurd h38 (by decide)) (fun h38 => ?_)
  refine rn_aload_n (i := 0) dX10_clear_105 rfl rfl ?_
  refine rn_get 23 kg_SGModel_116 (ls_ne (by decide) (ls_ne (by decide) (ls_ne (by decide) (ls_ne (by decide) (ls_ne (by decide) (ls_ne (by decide) (ls_ne (by decide) (ls_ne (by decide) (ls_ne (by decide) (ls_ne (by decide) (ls_eq (ls_eq (ls_eq (ls_eq (ls_eq (ls_eq (ls_eq (ls_eq (ls_eq (ls_eq (ls_eq h_m))))))))))))))))))))) (ls_ne (by decide) (ls_ne (by decide) (ls_ne (by decide) (ls_ne (by decide) (ls_ne (by decide) (ls_ne (by decide) (ls_ne (by decide) (ls_ne (by decide) (ls_ne (by decide) (ls_ne (by decide) (ls_ne (by decide) hf_m_44))))))))))) dX10_clear_106 ?_
  refine rn_iload_n (i := 1) dX10_clear_109 rfl rfl ?_
  refine rn_iconst (v := (0 : Int32)) dX10_clear_110 (by decide) ?_
  refine rn_iastC 56 1 (ls_eq (ls_ne (by decide) (ls_ne (by decide) (ls_ne (by decide) (ls_ne (by decide) (ls_ne (by decide) (ls_ne (by decide) (ls_ne (by decide) (ls_ne (by decide) (ls_ne (by decide) (ls_ne (by decide) (ls_ne (by decide) (ls_ne (by decide) (ls_ne (by decide) (ls_ne (by decide) (ls_ne (by decide) (ls_ne (by decide) (ls_ne (by decide) (ls_ne (by decide) (ls_ne (by decide) (ls_ne (by decide) h_m_endings))))))))))))))))))))) rfl (by unfold vp_in; decide) dX10_clear_111 (fun hg39 => ?_)
  refine rn_iinc (v := (12 : Int32)) dX10_clear_112 rfl (by decide) (by decide) [(0, .ref o_m), (1, .int (12 : Int32))] rfl ?_
  refine rn_goto (tgt := 99) dX10_clear_115 (by decide) ?_
  refine rn_iload_n (i := 1) dX10_clear_99 rfl rfl ?_
  refine rn_bipush (v := (18 : Int32)) dX10_clear_100 (by decide) ?_
  refine rn_icmp_ge (tgt := 118) dX10_clear_102 (by decide) (fun h40 => absurd h40 (by decide)) (fun h40 => ?_)
  refine rn_aload_n (i := 0) dX10_clear_105 rfl rfl ?_
  refine rn_get 23 kg_SGModel_116 (ls_ne (by decide) (ls_ne (by decide) (ls_ne (by decide) (ls_ne (by decide) (ls_ne (by decide) (ls_ne (by decide) (ls_ne (by decide) (ls_ne (by decide) (ls_ne (by decide) (ls_ne (by decide) (ls_eq (ls_eq (ls_eq (ls_eq (ls_eq (ls_eq (ls_eq (ls_eq (ls_eq (ls_eq (ls_eq h_m))))))))))))))))))))) (ls_ne (by decide) (ls_ne (by decide) (ls_ne (by decide) (ls_ne (by decide) (ls_ne (by decide) (ls_ne (by decide) (ls_ne (by decide) (ls_ne (by decide) (ls_ne (by decide) (ls_ne (by decide) (ls_ne (by decide) hf_m_44))))))))))) dX10_clear_106 ?_
  refine rn_iload_n (i := 1) dX10_clear_109 rfl rfl ?_
  refine rn_iconst (v := (0 : Int32)) dX10_clear_110 (by decide) ?_
  refine rn_iastC 56 1 (ls_eq (ls_ne (by decide) (ls_ne (by decide) (ls_ne (by decide) (ls_ne (by decide) (ls_ne (by decide) (ls_ne (by decide) (ls_ne (by decide) (ls_ne (by decide) (ls_ne (by decide) (ls_ne (by decide) (ls_ne (by decide) (ls_ne (by decide) (ls_ne (by decide) (ls_ne (by decide) (ls_ne (by decide) (ls_ne (by decide) (ls_ne (by decide) (ls_ne (by decide) (ls_ne (by decide) (ls_ne (by decide) h_m_endings))))))))))))))))))))) rfl (by unfold vp_in; decide) dX10_clear_111 (fun hg41 => ?_)
  refine rn_iinc (v := (13 : Int32)) dX10_clear_112 rfl (by decide) (by decide) [(0, .ref o_m), (1, .int (13 : Int32))] rfl ?_
  refine rn_goto (tgt := 99) dX10_clear_115 (by decide) ?_
  refine rn_iload_n (i := 1) dX10_clear_99 rfl rfl ?_
  refine rn_bipush (v := (18 : Int32)) dX10_clear_100 (by decide) ?_
  refine rn_icmp_ge (tgt := 118) dX10_clear_102 (by decide) (fun h42 => absurd h42 (by decide)) (fun h42 => ?_)
  refine rn_aload_n (i := 0) dX10_clear_105 rfl rfl ?_
  refine rn_get 23 kg_SGModel_116 (ls_ne (by decide) (ls_ne (by decide) (ls_ne (by decide) (ls_ne (by decide) (ls_ne (by decide) (ls_ne (by decide) (ls_ne (by decide) (ls_ne (by decide) (ls_ne (by decide) (ls_ne (by decide) (ls_eq (ls_eq (ls_eq (ls_eq (ls_eq (ls_eq (ls_eq (ls_eq (ls_eq (ls_eq (ls_eq h_m))))))))))))))))))))) (ls_ne (by decide) (ls_ne (by decide) (ls_ne (by decide) (ls_ne (by decide) (ls_ne (by decide) (ls_ne (by decide) (ls_ne (by decide) (ls_ne (by decide) (ls_ne (by decide) (ls_ne (by decide) (ls_ne (by decide) hf_m_44))))))))))) dX10_clear_106 ?_
  refine rn_iload_n (i := 1) dX10_clear_109 rfl rfl ?_
  refine rn_iconst (v := (0 : Int32)) dX10_clear_110 (by decide) ?_
  refine rn_iastC 56 1 (ls_eq (ls_ne (by decide) (ls_ne (by decide) (ls_ne (by decide) (ls_ne (by decide) (ls_ne (by decide) (ls_ne (by decide) (ls_ne (by decide) (ls_ne (by decide) (ls_ne (by decide) (ls_ne (by decide) (ls_ne (by decide) (ls_ne (by decide) (ls_ne (by decide) (ls_ne (by decide) (ls_ne (by decide) (ls_ne (by decide) (ls_ne (by decide) (ls_ne (by decide) (ls_ne (by decide) (ls_ne (by decide) h_m_endings))))))))))))))))))))) rfl (by unfold vp_in; decide) dX10_clear_111 (fun hg43 => ?_)
  refine rn_iinc (v := (14 : Int32)) dX10_clear_112 rfl (by decide) (by decide) [(0, .ref o_m), (1, .int (14 : Int32))] rfl ?_
  refine rn_goto (tgt := 99) dX10_clear_115 (by decide) ?_
  refine rn_iload_n (i := 1) dX10_clear_99 rfl rfl ?_
  refine rn_bipush (v := (18 : Int32)) dX10_clear_100 (by decide) ?_
  refine rn_icmp_ge (tgt := 118) dX10_clear_102 (by decide) (fun h44 => absurd h44 (by decide)) (fun h44 => ?_)
  refine rn_aload_n (i := 0) dX10_clear_105 rfl rfl ?_
  refine rn_get 23 kg_SGModel_116 (ls_ne (by decide) (ls_ne (by decide) (ls_ne (by decide) (ls_ne (by decide) (ls_ne (by decide) (ls_ne (by decide) (ls_ne (by decide) (ls_ne (by decide) (ls_ne (by decide) (ls_ne (by decide) (ls_eq (ls_eq (ls_eq (ls_eq (ls_eq (ls_eq (ls_eq (ls_eq (ls_eq (ls_eq (ls_eq h_m))))))))))))))))))))) (ls_ne (by decide) (ls_ne (by decide) (ls_ne (by decide) (ls_ne (by decide) (ls_ne (by decide) (ls_ne (by decide) (ls_ne (by decide) (ls_ne (by decide) (ls_ne (by decide) (ls_ne (by decide) (ls_ne (by decide) hf_m_44))))))))))) dX10_clear_106 ?_
  refine rn_iload_n (i := 1) dX10_clear_109 rfl rfl ?_
  refine rn_iconst (v := (0 : Int32)) dX10_clear_110 (by decide) ?_
  refine rn_iastC 56 1 (ls_eq (ls_ne (by decide) (ls_ne (by decide) (ls_ne (by decide) (ls_ne (by decide) (ls_ne (by decide) (ls_ne (by decide) (ls_ne (by decide) (ls_ne (by decide) (ls_ne (by decide) (ls_ne (by decide) (ls_ne (by decide) (ls_ne (by decide) (ls_ne (by decide) (ls_ne (by decide) (ls_ne (by decide) (ls_ne (by decide) (ls_ne (by decide) (ls_ne (by decide) (ls_ne (by decide) (ls_ne (by decide) h_m_endings))))))))))))))))))))) rfl (by unfold vp_in; decide) dX10_clear_111 (fun hg45 => ?_)
  refine rn_iinc (v := (15 : Int32)) dX10_clear_112 rfl (by decide) (by decide) [(0, .ref o_m), (1, .int (15 : Int32))] rfl ?_
  refine rn_goto (tgt := 99) dX10_clear_115 (by decide) ?_
  refine rn_iload_n (i := 1) dX10_clear_99 rfl rfl ?_
  refine rn_bipush (v := (18 : Int32)) dX10_clear_100 (by decide) ?_
  refine rn_icmp_ge (tgt := 118) dX10_clear_102 (by decide) (fun h46 => absurd h46 (by decide)) (fun h46 => ?_)
  refine rn_aload_n (i := 0) dX10_clear_105 rfl rfl ?_
  refine rn_get 23 kg_SGModel_116 (ls_ne (by decide) (ls_ne (by decide) (ls_ne (by decide) (ls_ne (by decide) (ls_ne (by decide) (ls_ne (by decide) (ls_ne (by decide) (ls_ne (by decide) (ls_ne (by decide) (ls_ne (by decide) (ls_eq (ls_eq (ls_eq (ls_eq (ls_eq (ls_eq (ls_eq (ls_eq (ls_eq (ls_eq (ls_eq h_m))))))))))))))))))))) (ls_ne (by decide) (ls_ne (by decide) (ls_ne (by decide) (ls_ne (by decide) (ls_ne (by decide) (ls_ne (by decide) (ls_ne (by decide) (ls_ne (by decide) (ls_ne (by decide) (ls_ne (by decide) (ls_ne (by decide) hf_m_44))))))))))) dX10_clear_106 ?_
  refine rn_iload_n (i := 1) dX10_clear_109 rfl rfl ?_
  refine rn_iconst (v := (0 : Int32)) dX10_clear_110 (by decide) ?_
  refine rn_iastC 56 1 (ls_eq (ls_ne (by decide) (ls_ne (by decide) (ls_ne (by decide) (ls_ne (by decide) (ls_ne (by decide) (ls_ne (by decide) (ls_ne (by decide) (ls_ne (by decide) (ls_ne (by decide) (ls_ne (by decide) (ls_ne (by decide) (ls_ne (by decide) (ls_ne (by decide) (ls_ne (by decide) (ls_ne (by decide) (ls_ne (by decide) (ls_ne (by decide) (ls_ne (by decide) (ls_ne (by decide) (ls_ne (by decide) h_m_endings))))))))))))))))))))) rfl (by unfold vp_in; decide) dX10_clear_111 (fun hg47 => ?_)
  refine rn_iinc (v := (16 : Int32)) dX10_clear_112 rfl (by decide) (by decide) [(0, .ref o_m), (1, .int (16 : Int32))] rfl ?_
  refine rn_goto (tgt := 99) dX10_clear_115 (by decide) ?_
  refine rn_iload_n (i := 1) dX10_clear_99 rfl rfl ?_
  refine rn_bipush (v := (18 : Int32)) dX10_clear_100 (by decide) ?_
  refine rn_icmp_ge (tgt := 118) dX10_clear_102 (by decide) (fun h48 => absurd h48 (by decide)) (fun h48 => ?_)
  refine rn_aload_n (i := 0) dX10_clear_105 rfl rfl ?_
  refine rn_get 23 kg_SGModel_116 (ls_ne (by decide) (ls_ne (by decide) (ls_ne (by decide) (ls_ne (by decide) (ls_ne (by decide) (ls_ne (by decide) (ls_ne (by decide) (ls_ne (by decide) (ls_ne (by decide) (ls_ne (by decide) (ls_eq (ls_eq (ls_eq (ls_eq (ls_eq (ls_eq (ls_eq (ls_eq (ls_eq (ls_eq (ls_eq h_m))))))))))))))))))))) (ls_ne (by decide) (ls_ne (by decide) (ls_ne (by decide) (ls_ne (by decide) (ls_ne (by decide) (ls_ne (by decide) (ls_ne (by decide) (ls_ne (by decide) (ls_ne (by decide) (ls_ne (by decide) (ls_ne (by decide) hf_m_44))))))))))) dX10_clear_106 ?_
  refine rn_iload_n (i := 1) dX10_clear_109 rfl rfl ?_
  refine rn_iconst (v := (0 : Int32)) dX10_clear_110 (by decide) ?_
  refine rn_iastC 56 1 (ls_eq (ls_ne (by decide) (ls_ne (by decide) (ls_ne (by decide) (ls_ne (by decide) (ls_ne (by decide) (ls_ne (by decide) (ls_ne (by decide) (ls_ne (by decide) (ls_ne (by decide) (ls_ne (by decide) (ls_ne (by decide) (ls_ne (by decide) (ls_ne (by decide) (ls_ne (by decide) (ls_ne (by decide) (ls_ne (by decide) (ls_ne (by decide) (ls_ne (by decide) (ls_ne (by decide) (ls_ne (by decide) h_m_endings))))))))))))))))))))) rfl (by unfold vp_in; decide) dX10_clear_111 (fun hg49 => ?_)
  refine rn_iinc (v := (17 : Int32)) dX10_clear_112 rfl (by decide) (by decide) [(0, .ref o_m), (1, .int (17 : Int32))] rfl ?_
  refine rn_goto (tgt := 99) dX10_clear_115 (by decide) ?_
  refine rn_iload_n (i := 1) dX10_clear_99 rfl rfl ?_
  refine rn_bipush (v := (18 : Int32)) dX10_clear_100 (by decide) ?_
  refine rn_icmp_ge (tgt := 118) dX10_clear_102 (by decide) (fun h50 => absurd h50 (by decide)) (fun h50 => ?_)
  refine rn_aload_n (i := 0) dX10_clear_105 rfl rfl ?_
  refine rn_get 23 kg_SGModel_116 (ls_ne (by decide) (ls_ne (by decide) (ls_ne (by decide) (ls_ne (by decide) (ls_ne (by decide) (ls_ne (by decide) (ls_ne (by decide) (ls_ne (by decide) (ls_ne (by decide) (ls_ne (by decide) (ls_eq (ls_eq (ls_eq (ls_eq (ls_eq (ls_eq (ls_eq (ls_eq (ls_eq (ls_eq (ls_eq h_m))))))))))))))))))))) (ls_ne (by decide) (ls_ne (by decide) (ls_ne (by decide) (ls_ne (by decide) (ls_ne (by decide) (ls_ne (by decide) (ls_ne (by decide) (ls_ne (by decide) (ls_ne (by decide) (ls_ne (by decide) (ls_ne (by decide) hf_m_44))))))))))) dX10_clear_106 ?_
  refine rn_iload_n (i := 1) dX10_clear_109 rfl rfl ?_
  refine rn_iconst (v := (0 : Int32)) dX10_clear_110 (by decide) ?_
  refine rn_iastC 56 1 (ls_eq (ls_ne (by decide) (ls_ne (by decide) (ls_ne (by decide) (ls_ne (by decide) (ls_ne (by decide) (ls_ne (by decide) (ls_ne (by decide) (ls_ne (by decide) (ls_ne (by decide) (ls_ne (by decide) (ls_ne (by decide) (ls_ne (by decide) (ls_ne (by decide) (ls_ne (by decide) (ls_ne (by decide) (ls_ne (by decide) (ls_ne (by decide) (ls_ne (by decide) (ls_ne (by decide) (ls_ne (by decide) h_m_endings))))))))))))))))))))) rfl (by unfold vp_in; decide) dX10_clear_111 (fun hg51 => ?_)
  refine rn_iinc (v := (18 : Int32)) dX10_clear_112 rfl (by decide) (by decide) [(0, .ref o_m), (1, .int (18 : Int32))] rfl ?_
  refine rn_goto (tgt := 99) dX10_clear_115 (by decide) ?_
  refine rn_iload_n (i := 1) dX10_clear_99 rfl rfl ?_
  refine rn_bipush (v := (18 : Int32)) dX10_clear_100 (by decide) ?_
  refine rn_icmp_ge (tgt := 118) dX10_clear_102 (by decide) (fun h52 => ?_) (fun h52 => absurd h52 (by decide))
  exact rn_vret dX10_clear_118 rfl ⟨trivial, rfl, trivial⟩
