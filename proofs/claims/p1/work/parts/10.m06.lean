set_option maxRecDepth 20000 in
set_option maxHeartbeats 4000000 in
theorem c_X10_stop (G : rn_G) (ws : va_W) (o_m : Nat) (k : Int32) (fs_m : List Value) (h_m : ws[23]? = some (o_m, Sum.inr (10, fs_m))) (hf_m_0 : fs_m[0]? = some (.int (0 : Int32))) (hf_m_22 : fs_m[22]? = some (.int (0 : Int32))) : Rn G mX10_stop 1 22 0 0 0 (lv_args 0 [.ref o_m, .int k]) [] ws (fun r w => ((((k < (0 : Int32)) ∨ (¬ (k < (0 : Int32)) ∧ (-1 : Int32) < k)) ∧ ((0 : Int32) = (0 : Int32) ∧ ¬ ((1 : Int32) = (0 : Int32)) ∧ ¬ ((1 : Int32) ≤ (0 : Int32)))) ∧ r = Sum.inl (some (.int (0 : Int32))) ∧ w = ((ws.set 23 (o_m, Sum.inr (10, (fs_m.set 0 (.int (0 : Int32)))))).set 23 (o_m, Sum.inr (10, ((fs_m.set 0 (.int (0 : Int32))).set 0 (.int (1 : Int32)))))))) := by
  refine rn_lv [(0, .ref o_m), (1, .int k)] rfl ?_
  refine rn_aload_n (i := 0) dX10_stop_0 rfl rfl ?_
  refine rn_iconst (v := (0 : Int32)) dX10_stop_1 (by decide) ?_
  refine rn_put 23 (kp_SGModel_137 _) h_m (ls_lt hf_m_0) rfl rfl dX10_stop_2 ?_
  refine rn_aload_n (i := 0) dX10_stop_5 rfl rfl ?_
  refine rn_iload_n (i := 1) dX10_stop_6 rfl rfl ?_
  refine rn_iconst (v := (0 : Int32)) dX10_stop_7 (by decide) ?_
  refine rn_aload_n (i := 0) dX10_stop_8 rfl rfl ?_
  refine rn_get 23 kg_SGModel_200 (ls_eq h_m) (ls_ne (by decide) hf_m_22) dX10_stop_9 ?_
  refine rn_iconst (v := (1 : Int32)) dX10_stop_12 (by decide) ?_
  refine rn_isub dX10_stop_13 ?_
  refine rn_topi (-1 : Int32) (by decide) ?_
  refine rn_callS (a := 0) (b := 0) [.int k, .int (0 : Int32), .int (-1 : Int32)] kl_SGModel_179 dX10_stop_14 (c_X10_in G _ (x := k) (y := (0 : Int32)) (u := (-1 : Int32))) rfl rfl (Nat.le_of_ble_eq_true rfl) (Nat.le_of_ble_eq_true rfl) (Nat.le_of_ble_eq_true rfl) (Nat.le_of_ble_eq_true rfl) (Nat.le_of_ble_eq_true rfl) (Nat.le_of_ble_eq_true rfl) (by rintro E w h; rcases h with ⟨_, hr, _⟩ | ⟨_, hr, _⟩ <;> cases hr) ?_
  rintro v w h
  rcases h with ⟨hc, hr, hw⟩ | ⟨hc, hr, hw⟩
  · have hc1 := hc; clear hc; cases hr; subst hw
    refine rn_stk [.int (0 : Int32), .ref o_m] rfl ?_
    refine rn_if_ne (tgt := 24) dX10_stop_17 (by decide) (fun h2 => absurd h2 (by decide)) (fun h2 => ?_)
    refine rn_iconst (v := (1 : Int32)) dX10_stop_20 (by decide) ?_
    refine rn_goto (tgt := 25) dX10_stop_21 (by decide) ?_
    refine rn_iconst (v := (1 : Int32)) dX10_stop_25 (by decide) ?_
    refine rn_callV (a := 0) (b := 0) [.int (1 : Int32), .int (1 : Int32)] kl_SGModel_171 dX10_stop_26 23 (ls_eq h_m) rfl (c_X10_refuses G _ (o_m := o_m) (x := (1 : Int32)) (y := (1 : Int32)) (fs_m := (fs_m.set 0 (.int (0 : Int32)))) (th := (0 : Int32)) (ls_eq h_m) (ls_eq hf_m_0)) rfl rfl (Nat.le_of_ble_eq_true rfl) (Nat.le_of_ble_eq_true rfl) (Nat.le_of_ble_eq_true rfl) (Nat.le_of_ble_eq_true rfl) (Nat.le_of_ble_eq_true rfl) (Nat.le_of_ble_eq_true rfl) (by rintro E w h; rcases h with ⟨_, hr, _⟩ | ⟨_, hr, _⟩ | ⟨_, hr, _⟩ | ⟨_, hr, _⟩ <;> cases hr) ?_
    rintro v w h
    rcases h with ⟨hc, hr, hw⟩ | ⟨hc, hr, hw⟩ | ⟨hc, hr, hw⟩ | ⟨hc, hr, hw⟩
    · have hc3 := hc; clear hc; cases hr; subst hw
      exact absurd hc3 (by decide)
    · have hc4 := hc; clear hc; cases hr; subst hw
      exact absurd hc4 (by decide)
    · have hc5 := hc; clear hc; cases hr; subst hw
      exact absurd hc5 (by decide)
    · have hc6 := hc; clear hc; cases hr; subst hw
      refine rn_stk [.int (1 : Int32)] rfl ?_
      refine rn_if_eq (tgt := 34) dX10_stop_29 (by decide) (fun h7 => absurd h7 (by decide)) (fun h7 => ?_)
      refine rn_iconst (v := (0 : Int32)) dX10_stop_32 (by decide) ?_
      exact rn_iret dX10_stop_33 rfl rfl ⟨⟨hc1, hc6⟩, rfl, rfl⟩
  · have hc8 := hc; clear hc; cases hr; subst hw
    exfalso; have g0 := i32_rng k; simp only [Int32.lt_iff_toInt_lt, Int32.le_iff_toInt_le, gt_iff_lt, ge_iff_le, ← Int32.toInt_inj, i32_m1, i32_0] at *; omega
set_option maxRecDepth 20000 in
set_option maxHeartbeats 4000000 in
theorem c_X10_top (G : rn_G) (ws : va_W) (o_m : Nat) (k : Int32) (fs_m : List Value) (h_m : ws[23]? = some (o_m, Sum.inr (10, fs_m))) (hf_m_0 : fs_m[0]? = some (.int (0 : Int32))) (hf_m_22 : fs_m[22]? = some (.int (0 : Int32))) : Rn G mX10_top 1 22 0 0 0 (lv_args 0 [.ref o_m, .int k]) [] ws (fun r w => ((((k < (0 : Int32)) ∨ (¬ (k < (0 : Int32)) ∧ (-1 : Int32) < k)) ∧ ((0 : Int32) = (0 : Int32) ∧ ¬ ((1 : Int32) = (0 : Int32)) ∧ ¬ ((1 : Int32) ≤ (0 : Int32)))) ∧ r = Sum.inl (some (.long (0 : Int64))) ∧ w = ((ws.set 23 (o_m, Sum.inr (10, (fs_m.set 0 (.int (0 : Int32)))))).set 23 (o_m, Sum.inr (10, ((fs_m.set 0 (.int (0 : Int32))).set 0 (.int (1 : Int32)))))))) := by
  refine rn_lv [(0, .ref o_m), (1, .int k)] rfl ?_
  refine rn_aload_n (i := 0) dX10_top_0 rfl rfl ?_
  refine rn_iconst (v := (0 : Int32)) dX10_top_1 (by decide) ?_
  refine rn_put 23 (kp_SGModel_137 _) h_m (ls_lt hf_m_0) rfl rfl dX10_top_2 ?_
  refine rn_aload_n (i := 0) dX10_top_5 rfl rfl ?_
  refine rn_iload_n (i := 1) dX10_top_6 rfl rfl ?_
  refine rn_iconst (v := (0 : Int32)) dX10_top_7 (by decide) ?_
  refine rn_aload_n (i := 0) dX10_top_8 rfl rfl ?_
  refine rn_get 23 kg_SGModel_200 (ls_eq h_m) (ls_ne (by decide) hf_m_22) dX10_top_9 ?_
  refine rn_iconst (v := (1 : Int32)) dX10_top_12 (by decide) ?_
  refine rn_isub dX10_top_13 ?_
  refine rn_topi (-1 : Int32) (by decide) ?_
  refine rn_callS (a := 0) (b := 0) [.int k, .int (0 : Int32), .int (-1 : Int32)] kl_SGModel_179 dX10_top_14 (c_X10_in G _ (x := k) (y := (0 : Int32)) (u := (-1 : Int32))) rfl rfl (Nat.le_of_ble_eq_true rfl) (Nat.le_of_ble_eq_true rfl) (Nat.le_of_ble_eq_true rfl) (Nat.le_of_ble_eq_true rfl) (Nat.le_of_ble_eq_true rfl) (Nat.le_of_ble_eq_true rfl) (by rintro E w h; rcases h with ⟨_, hr, _⟩ | ⟨_, hr, _⟩ <;> cases hr) ?_
  rintro v w h
  rcases h with ⟨hc, hr, hw⟩ | ⟨hc, hr, hw⟩
  · have hc1 := hc; clear hc; cases hr; subst hw
    refine rn_stk [.int (0 : Int32), .ref o_m] rfl ?_
    refine rn_if_ne (tgt := 24) dX10_top_17 (by decide) (fun h2 => absurd h2 (by decide)) (fun h2 => ?_)
    refine rn_iconst (v := (1 : Int32)) dX10_top_20 (by decide) ?_
    refine rn_goto (tgt := 25) dX10_top_21 (by decide) ?_
    refine rn_iconst (v := (1 : Int32)) dX10_top_25 (by decide) ?_
    refine rn_callV (a := 0) (b := 0) [.int (1 : Int32), .int (1 : Int32)] kl_SGModel_171 dX10_top_26 23 (ls_eq h_m) rfl (c_X10_refuses G _ (o_m := o_m) (x := (1 : Int32)) (y := (1 : Int32)) (fs_m := (fs_m.set 0 (.int (0 : Int32)))) (th := (0 : Int32)) (ls_eq h_m) (ls_eq hf_m_0)) rfl rfl (Nat.le_of_ble_eq_true rfl) (Nat.le_of_ble_eq_true rfl) (Nat.le_of_ble_eq_true rfl) (Nat.le_of_ble_eq_true rfl) (Nat.le_of_ble_eq_true rfl) (Nat.le_of_ble_eq_true rfl) (by rintro E w h; rcases h with ⟨_, hr, _⟩ | ⟨_, hr, _⟩ | ⟨_, hr, _⟩ | ⟨_, hr, _⟩ <;> cases hr) ?_
    rintro v w h
    rcases h with ⟨hc, hr, hw⟩ | ⟨hc, hr, hw⟩ | ⟨hc, hr, hw⟩ | ⟨hc, hr, hw⟩
    · have hc3 := hc; clear hc; cases hr; subst hw
      exact absurd hc3 (by decide)
    · have hc4 := hc; clear hc; cases hr; subst hw
      exact absurd hc4 (by decide)
    · have hc5 := hc; clear hc; cases hr; subst hw
      exact absurd hc5 (by decide)
    · have hc6 := hc; clear hc; cases hr; subst hw
      refine rn_stk [.int (1 : Int32)] rfl ?_
      refine rn_if_eq (tgt := 36) dX10_top_29 (by decide) (fun h7 => absurd h7 (by decide)) (fun h7 => ?_)
      refine rn_lconst (v := (0 : Int64)) dX10_top_32 (by decide) ?_
      refine rn_goto (tgt := 42) dX10_top_33 (by decide) ?_
      exact rn_lret dX10_top_42 rfl ⟨⟨hc1, hc6⟩, rfl, rfl⟩
  · have hc8 := hc; clear hc; cases hr; subst hw
    exfalso; have g0 := i32_rng k; simp only [Int32.lt_iff_toInt_lt, Int32.le_iff_toInt_le, gt_iff_lt, ge_iff_le, ← Int32.toInt_inj, i32_m1, i32_0] at *; omega
set_option maxRecDepth 20000 in
set_option maxHeartbeats 4000000 in
theorem c_X10_seen (G : rn_G) (ws : va_W) (o_m : Nat) (k : Int32) (fs_m : List Value) (h_m : ws[23]? = some (o_m, Sum.inr (10, fs_m))) (hf_m_0 : fs_m[0]? = some (.int (0 : Int32))) (hf_m_22 : fs_m[22]? = some (.int (0 : Int32))) : Rn G mX10_seen 1 22 0 0 0 (lv_args 0 [.ref o_m, .int k]) [] ws (fun r w => ((((k < (0 : Int32)) ∨ (¬ (k < (0 : Int32)) ∧ (-1 : Int32) < k)) ∧ ((0 : Int32) = (0 : Int32) ∧ ¬ ((1 : Int32) = (0 : Int32)) ∧ ¬ ((1 : Int32) ≤ (0 : Int32)))) ∧ r = Sum.inl (some (.long (0 : Int64))) ∧ w = ((ws.set 23 (o_m, Sum.inr (10, (fs_m.set 0 (.int (0 : Int32)))))).set 23 (o_m, Sum.inr (10, ((fs_m.set 0 (.int (0 : Int32))).set 0 (.int (1 : Int32)))))))) := by
  refine rn_lv [(0, .ref o_m), (1, .int k)] rfl ?_
  refine rn_aload_n (i := 0) dX10_seen_0 rfl rfl ?_
  refine rn_iconst (v := (0 : Int32)) dX10_seen_1 (by decide) ?_
  refine rn_put 23 (kp_SGModel_137 _) h_m (ls_lt hf_m_0) rfl rfl dX10_seen_2 ?_
  refine rn_aload_n (i := 0) dX10_seen_5 rfl rfl ?_
  refine rn_iload_n (i := 1) dX10_seen_6 rfl rfl ?_
  refine rn_iconst (v := (0 : Int32)) dX10_seen_7 (by decide) ?_
  refine rn_aload_n (i := 0) dX10_seen_8 rfl rfl ?_
  refine rn_get 23 kg_SGModel_200 (ls_eq h_m) (ls_ne (by decide) hf_m_22) dX10_seen_9 ?_
  refine rn_iconst (v := (1 : Int32)) dX10_seen_12 (by decide) ?_
  refine rn_isub dX10_seen_13 ?_
  refine rn_topi (-1 : Int32) (by decide) ?_
  refine rn_callS (a := 0) (b := 0) [.int k, .int (0 : Int32), .int (-1 : Int32)] kl_SGModel_179 dX10_seen_14 (c_X10_in G _ (x := k) (y := (0 : Int32)) (u := (-1 : Int32))) rfl rfl (Nat.le_of_ble_eq_true rfl) (Nat.le_of_ble_eq_true rfl) (Nat.le_of_ble_eq_true rfl) (Nat.le_of_ble_eq_true rfl) (Nat.le_of_ble_eq_true rfl) (Nat.le_of_ble_eq_true rfl) (by rintro E w h; rcases h with ⟨_, hr, _⟩ | ⟨_, hr, _⟩ <;> cases hr) ?_
  rintro v w h
  rcases h with ⟨hc, hr, hw⟩ | ⟨hc, hr, hw⟩
  · have hc1 := hc; clear hc; cases hr; subst hw
    refine rn_stk [.int (0 : Int32), .ref o_m] rfl ?_
    refine rn_if_ne (tgt := 24) dX10_seen_17 (by decide) (fun h2 => absurd h2 (by decide)) (fun h2 => ?_)
    refine rn_iconst (v := (1 : Int32)) dX10_seen_20 (by decide) ?_
    refine rn_goto (tgt := 25) dX10_seen_21 (by decide) ?_
    refine rn_iconst (v := (1 : Int32)) dX10_seen_25 (by decide) ?_
    refine rn_callV (a := 0) (b := 0) [.int (1 : Int32), .int (1 : Int32)] kl_SGModel_171 dX10_seen_26 23 (ls_eq h_m) rfl (c_X10_refuses G _ (o_m := o_m) (x := (1 : Int32)) (y := (1 : Int32)) (fs_m := (fs_m.set 0 (.int (0 : Int32)))) (th := (0 : Int32)) (ls_eq h_m) (ls_eq hf_m_0)) rfl rfl (Nat.le_of_ble_eq_true rfl) (Nat.le_of_ble_eq_true rfl) (Nat.le_of_ble_eq_true rfl) (Nat.le_of_ble_eq_true rfl) (Nat.le_of_ble_eq_true rfl) (Nat.le_of_ble_eq_true rfl) (by rintro E w h; rcases h with ⟨_, hr, _⟩ | ⟨_, hr, _⟩ | ⟨_, hr, _⟩ | ⟨_, hr, _⟩ <;> cases hr) ?_
    rintro v w h
    rcases h with ⟨hc, hr, hw⟩ | ⟨hc, hr, hw⟩ | ⟨hc, hr, hw⟩ | ⟨hc, hr, hw⟩
    · have hc3 := hc; clear hc; cases hr; subst hw
      exact absurd hc3 (by decide)
    · have hc4 := hc; clear hc; cases hr; subst hw
      exact absurd hc4 (by decide)
    · have hc5 := hc; clear hc; cases hr; subst hw
      exact absurd hc5 (by decide)
    · have hc6 := hc; clear hc; cases hr; subst hw
      refine rn_stk [.int (1 : Int32)] rfl ?_
      refine rn_if_eq (tgt := 36) dX10_seen_29 (by decide) (fun h7 => absurd h7 (by decide)) (fun h7 => ?_)
      refine rn_lconst (v := (0 : Int64)) dX10_seen_32 (by decide) ?_
      refine rn_goto (tgt := 42) dX10_seen_33 (by decide) ?_
      exact rn_lret dX10_seen_42 rfl ⟨⟨hc1, hc6⟩, rfl, rfl⟩
  · have hc8 := hc; clear hc; cases hr; subst hw
    exfalso; have g0 := i32_rng k; simp only [Int32.lt_iff_toInt_lt, Int32.le_iff_toInt_le, gt_iff_lt, ge_iff_le, ← Int32.toInt_inj, i32_m1, i32_0] at *; omega
set_option maxRecDepth 20000 in
set_option maxHeartbeats 4000000 in
theorem c_X10_count (G : rn_G) (ws : va_W) (o_m : Nat) (k : Int32) (y : Int64) (fs_m : List Value) (h_m : ws[23]? = some (o_m, Sum.inr (10, fs_m))) (hf_m_0 : fs_m[0]? = some (.int (0 : Int32))) (hf_m_22 : fs_m[22]? = some (.int (0 : Int32))) : Rn G mX10_count 1 22 0 0 0 (lv_args 0 [.ref o_m, .int k, .long y]) [] ws (fun r w => ((((k < (0 : Int32)) ∨ (¬ (k < (0 : Int32)) ∧ (-1 : Int32) < k)) ∧ ((0 : Int32) = (0 : Int32) ∧ ¬ ((1 : Int32) = (0 : Int32)) ∧ ¬ ((1 : Int32) ≤ (0 : Int32)))) ∧ r = Sum.inl (some (.long (0 : Int64))) ∧ w = ((ws.set 23 (o_m, Sum.inr (10, (fs_m.set 0 (.int (0 : Int32)))))).set 23 (o_m, Sum.inr (10, ((fs_m.set 0 (.int (0 : Int32))).set 0 (.int (1 : Int32)))))))) := by
  refine rn_lv [(0, .ref o_m), (1, .int k), (2, .long y)] rfl ?_
  refine rn_aload_n (i := 0) dX10_count_0 rfl rfl ?_
  refine rn_iconst (v := (0 : Int32)) dX10_count_1 (by decide) ?_
  refine rn_put 23 (kp_SGModel_137 _) h_m (ls_lt hf_m_0) rfl rfl dX10_count_2 ?_
  refine rn_aload_n (i := 0) dX10_count_5 rfl rfl ?_
  refine rn_iload_n (i := 1) dX10_count_6 rfl rfl ?_
  refine rn_iconst (v := (0 : Int32)) dX10_count_7 (by decide) ?_
  refine rn_aload_n (i := 0) dX10_count_8 rfl rfl ?_
  refine rn_get 23 kg_SGModel_200 (ls_eq h_m) (ls_ne (by decide) hf_m_22) dX10_count_9 ?_
  refine rn_iconst (v := (1 : Int32)) dX10_count_12 (by decide) ?_
  refine rn_isub dX10_count_13 ?_
  refine rn_topi (-1 : Int32) (by decide) ?_
  refine rn_callS (a := 0) (b := 0) [.int k, .int (0 : Int32), .int (-1 : Int32)] kl_SGModel_179 dX10_count_14 (c_X10_in G _ (x := k) (y := (0 : Int32)) (u := (-1 : Int32))) rfl rfl (Nat.le_of_ble_eq_true rfl) (Nat.le_of_ble_eq_true rfl) (Nat.le_of_ble_eq_true rfl) (Nat.le_of_ble_eq_true rfl) (Nat.le_of_ble_eq_true rfl) (Nat.le_of_ble_eq_true rfl) (by rintro E w h; rcases h with ⟨_, hr, _⟩ | ⟨_, hr, _⟩ <;> cases hr) ?_
  rintro v w h
  rcases h with ⟨hc, hr, hw⟩ | ⟨hc, hr, hw⟩
  · have hc1 := hc; clear hc; cases hr; subst hw
    refine rn_stk [.int (0 : Int32), .ref o_m] rfl ?_
    refine rn_if_ne (tgt := 24) dX10_count_17 (by decide) (fun h2 => absurd h2 (by decide)) (fun h2 => ?_)
    refine rn_iconst (v := (1 : Int32)) dX10_count_20 (by decide) ?_
    refine rn_goto (tgt := 25) dX10_count_21 (by decide) ?_
    refine rn_iconst (v := (1 : Int32)) dX10_count_25 (by decide) ?_
    refine rn_callV (a := 0) (b := 0) [.int (1 : Int32), .int (1 : Int32)] kl_SGModel_171 dX10_count_26 23 (ls_eq h_m) rfl (c_X10_refuses G _ (o_m := o_m) (x := (1 : Int32)) (y := (1 : Int32)) (fs_m := (fs_m.set 0 (.int (0 : Int32)))) (th := (0 : Int32)) (ls_eq h_m) (ls_eq hf_m_0)) rfl rfl (Nat.le_of_ble_eq_true rfl) (Nat.le_of_ble_eq_true rfl) (Nat.le_of_ble_eq_true rfl) (Nat.le_of_ble_eq_true rfl) (Nat.le_of_ble_eq_true rfl) (Nat.le_of_ble_eq_true rfl) (by rintro E w h; rcases h with ⟨_, hr, _⟩ | ⟨_, hr, _⟩ | ⟨_, hr, _⟩ | ⟨_, hr, _⟩ <;> cases hr) ?_
    rintro v w h
    rcases h with ⟨hc, hr, hw⟩ | ⟨hc, hr, hw⟩ | ⟨hc, hr, hw⟩ | ⟨hc, hr, hw⟩
    · have hc3 := hc; clear hc; cases hr; subst hw
      exact absurd hc3 (by decide)
    · have hc4 := hc; clear hc; cases hr; subst hw
      exact absurd hc4 (by decide)
    · have hc5 := hc; clear hc; cases hr; subst hw
      exact absurd hc5 (by decide)
    · have hc6 := hc; clear hc; cases hr; subst hw
      refine rn_stk [.int (1 : Int32)] rfl ?_
      refine rn_if_ne (tgt := 68) dX10_count_29 (by decide) (fun h7 => ?_) (fun h7 => absurd h7 (by decide))
      refine rn_lconst (v := (0 : Int64)) dX10_count_68 (by decide) ?_
      exact rn_lret dX10_count_69 rfl ⟨⟨hc1, hc6⟩, rfl, rfl⟩
  · have hc8 := hc; clear hc; cases hr; subst hw
    exfalso; have g0 := i32_rng k; simp only [Int32.lt_iff_toInt_lt, Int32.le_iff_toInt_le, gt_iff_lt, ge_iff_le, ← Int32.toInt_inj, i32_m1, i32_0] at *; omega
set_option maxRecDepth 20000 in
set_option maxHeartbeats 4000000 in
theorem c_X10_told (G : rn_G) (ws : va_W) (o_m : Nat) (k : Int32) (x : Int32) (fs_m : List Value) (h_m : ws[23]? = some (o_m, Sum.inr (10, fs_m))) (hf_m_0 : fs_m[0]? = some (.int (0 : Int32))) (hf_m_22 : fs_m[22]? = some (.int (0 : Int32))) : Rn G mX10_told 1 22 0 0 0 (lv_args 0 [.ref o_m, .int k, .int x]) [] ws (fun r w => ((((k < (0 : Int32)) ∨ (¬ (k < (0 : Int32)) ∧ (-1 : Int32) < k)) ∧ ((0 : Int32) = (0 : Int32) ∧ ¬ ((1 : Int32) = (0 : Int32)) ∧ ¬ ((1 : Int32) ≤ (0 : Int32)))) ∧ r = Sum.inl (some (.int (0 : Int32))) ∧ w = ((ws.set 23 (o_m, Sum.inr (10, (fs_m.set 0 (.int (0 : Int32)))))).set 23 (o_m, Sum.inr (10, ((fs_m.set 0 (.int (0 : Int32))).set 0 (.int (1 : Int32)))))))) := by
  refine rn_lv [(0, .ref o_m), (1, .int k), (2, .int x)] rfl ?_
  refine rn_aload_n (i := 0) dX10_told_0 rfl rfl ?_
  refine rn_iconst (v := (0 : Int32)) dX10_told_1 (by decide) ?_
  refine rn_put 23 (kp_SGModel_137 _) h_m (ls_lt hf_m_0) rfl rfl dX10_told_2 ?_
  refine rn_aload_n (i := 0) dX10_told_5 rfl rfl ?_
  refine rn_iload_n (i := 1) dX10_told_6 rfl rfl ?_
  refine rn_iconst (v := (0 : Int32)) dX10_told_7 (by decide) ?_
  refine rn_aload_n (i := 0) dX10_told_8 rfl rfl ?_
  refine rn_get 23 kg_SGModel_200 (ls_eq h_m) (ls_ne (by decide) hf_m_22) dX10_told_9 ?_
  refine rn_iconst (v := (1 : Int32)) dX10_told_12 (by decide) ?_
  refine rn_isub dX10_told_13 ?_
  refine rn_topi (-1 : Int32) (by decide) ?_
  refine rn_callS (a := 0) (b := 0) [.int k, .int (0 : Int32), .int (-1 : Int32)] kl_SGModel_179 dX10_told_14 (c_X10_in G _ (x := k) (y := (0 : Int32)) (u := (-1 : Int32))) rfl rfl (Nat.le_of_ble_eq_true rfl) (Nat.le_of_ble_eq_true rfl) (Nat.le_of_ble_eq_true rfl) (Nat.le_of_ble_eq_true rfl) (Nat.le_of_ble_eq_true rfl) (Nat.le_of_ble_eq_true rfl) (by rintro E w h; rcases h with ⟨_, hr, _⟩ | ⟨_, hr, _⟩ <;> cases hr) ?_
  rintro v w h
  rcases h with ⟨hc, hr, hw⟩ | ⟨hc, hr, hw⟩
  · have hc1 := hc; clear hc; cases hr; subst hw
    refine rn_stk [.int (0 : Int32), .ref o_m] rfl ?_
    refine rn_if_eq (tgt := 29) dX10_told_17 (by decide) (fun h2 => ?_) (fun h2 => absurd h2 (by decide))
    refine rn_iconst (v := (1 : Int32)) dX10_told_29 (by decide) ?_
    refine rn_goto (tgt := 34) dX10_told_30 (by decide) ?_
    refine rn_iconst (v := (1 : Int32)) dX10_told_34 (by decide) ?_
    refine rn_callV (a := 0) (b := 0) [.int (1 : Int32), .int (1 : Int32)] kl_SGModel_171 dX10_told_35 23 (ls_eq h_m) rfl (c_X10_refuses G _ (o_m := o_m) (x := (1 : Int32)) (y := (1 : Int32)) (fs_m := (fs_m.set 0 (.int (0 : Int32)))) (th := (0 : Int32)) (ls_eq h_m) (ls_eq hf_m_0)) rfl rfl (Nat.le_of_ble_eq_true rfl) (Nat.le_of_ble_eq_true rfl) (Nat.le_of_ble_eq_true rfl) (Nat.le_of_ble_eq_true rfl) (Nat.le_of_ble_eq_true rfl) (Nat.le_of_ble_eq_true rfl) (by rintro E w h; rcases h with ⟨_, hr, _⟩ | ⟨_, hr, _⟩ | ⟨_, hr, _⟩ | ⟨_, hr, _⟩ <;> cases hr) ?_
    rintro v w h
    rcases h with ⟨hc, hr, hw⟩ | ⟨hc, hr, hw⟩ | ⟨hc, hr, hw⟩ | ⟨hc, hr, hw⟩
    · have hc3 := hc; clear hc; cases hr; subst hw
      exact absurd hc3 (by decide)
    · have hc4 := hc; clear hc; cases hr; subst hw
      exact absurd hc4 (by decide)
    · have hc5 := hc; clear hc; cases hr; subst hw
      exact absurd hc5 (by decide)
    · have hc6 := hc; clear hc; cases hr; subst hw
      refine rn_stk [.int (1 : Int32)] rfl ?_
      refine rn_if_eq (tgt := 43) dX10_told_38 (by decide) (fun h7 => absurd h7 (by decide)) (fun h7 => ?_)
      refine rn_iconst (v := (0 : Int32)) dX10_told_41 (by decide) ?_
      exact rn_iret dX10_told_42 rfl rfl ⟨⟨hc1, hc6⟩, rfl, rfl⟩
  · have hc8 := hc; clear hc; cases hr; subst hw
    exfalso; have g0 := i32_rng k; simp only [Int32.lt_iff_toInt_lt, Int32.le_iff_toInt_le, gt_iff_lt, ge_iff_le, ← Int32.toInt_inj, i32_m1, i32_0] at *; omega
set_option maxRecDepth 20000 in
set_option maxHeartbeats 4000000 in
theorem c_X10_come (G : rn_G) (ws : va_W) (o_m : Nat) (k : Int32) (fs_m : List Value) (a_endings : Nat) (h_m : ws[23]? = some (o_m, Sum.inr (10, fs_m))) (hf_m_0 : fs_m[0]? = some (.int (0 : Int32))) (hf_m_3 : fs_m[3]? = some (.int (0 : Int32))) (hf_m_44 : fs_m[44]? = some (.ref a_endings)) (h_m_endings : ws[56]? = some (a_endings, Sum.inl (rn_k G 1, 18, Sum.inl (fun _ => 0)))) : Rn G mX10_come 1 22 0 0 0 (lv_args 0 [.ref o_m, .int k]) [] ws (fun r w => ((((k < (0 : Int32)) ∨ (¬ (k < (0 : Int32)) ∧ (1 : Int32) < k)) ∧ ((0 : Int32) = (0 : Int32) ∧ ¬ ((1 : Int32) = (0 : Int32)) ∧ ¬ ((1 : Int32) ≤ (0 : Int32)))) ∧ r = Sum.inl (some (.int (0 : Int32))) ∧ w = ((ws.set 23 (o_m, Sum.inr (10, (fs_m.set 0 (.int (0 : Int32)))))).set 23 (o_m, Sum.inr (10, ((fs_m.set 0 (.int (0 : Int32))).set 0 (.int (1 : Int32))))))) ∨ (((¬ (k < (0 : Int32)) ∧ ¬ ((1 : Int32) < k)) ∧ ((¬ ((0 : Int32) = (0 : Int32)) ∧ (0 : Int32) ≤ (0 : Int32)) ∨ ((0 : Int32) = (0 : Int32) ∧ (0 : Int32) = (0 : Int32) ∧ (0 : Int32) ≤ (0 : Int32))) ∧ ((0 : Int32) < (20 : Int32))) ∧ r = Sum.inl (some (.int (1 : Int32))) ∧ w = ((ws.set 23 (o_m, Sum.inr (10, (fs_m.set 0 (.int (0 : Int32)))))).set 56 (a_endings, Sum.inl (rn_k G 1, 18, Sum.inl (upd (fun _ => 0) ((1 : Int32)).toNatClampNeg (1 : Int32))))))) := by
  refine rn_lv [(0, .ref o_m), (1, .int k)] rfl ?_
  refine rn_aload_n (i := 0) dX10_come_0 rfl rfl ?_
  refine rn_iconst (v := (0 : Int32)) dX10_come_1 (by decide) ?_
  refine rn_put 23 (kp_SGModel_137 _) h_m (ls_lt hf_m_0) rfl rfl dX10_come_2 ?_
  refine rn_aload_n (i := 0) dX10_come_5 rfl rfl ?_
  refine rn_iload_n (i := 1) dX10_come_6 rfl rfl ?_
  refine rn_iconst (v := (0 : Int32)) dX10_come_7 (by decide) ?_
  refine rn_iconst (v := (1 : Int32)) dX10_come_8 (by decide) ?_
  refine rn_callS (a := 0) (b := 0) [.int k, .int (0 : Int32), .int (1 : Int32)] kl_SGModel_179 dX10_come_9 (c_X10_in G _ (x := k) (y := (0 : Int32)) (u := (1 : Int32))) rfl rfl (Nat.le_of_ble_eq_true rfl) (Nat.le_of_ble_eq_true rfl) (Nat.le_of_ble_eq_true rfl) (Nat.le_of_ble_eq_true rfl) (Nat.le_of_ble_eq_true rfl) (Nat.le_of_ble_eq_true rfl) (by rintro E w h; rcases h with ⟨_, hr, _⟩ | ⟨_, hr, _⟩ <;> cases hr) ?_
  rintro v w h
  rcases h with ⟨hc, hr, hw⟩ | ⟨hc, hr, hw⟩
  · have hc1 := hc; clear hc; cases hr; subst hw
    refine rn_stk [.int (0 : Int32), .ref o_m] rfl ?_
    refine rn_if_ne (tgt := 19) dX10_come_12 (by decide) (fun h2 => absurd h2 (by decide)) (fun h2 => ?_)
    refine rn_iconst (v := (1 : Int32)) dX10_come_15 (by decide) ?_
    refine rn_goto (tgt := 20) dX10_come_16 (by decide) ?_
    refine rn_iconst (v := (1 : Int32)) dX10_come_20 (by decide) ?_
    refine rn_callV (a := 0) (b := 0) [.int (1 : Int32), .int (1 : Int32)] kl_SGModel_171 dX10_come_21 23 (ls_eq h_m) rfl (c_X10_refuses G _ (o_m := o_m) (x := (1 : Int32)) (y := (1 : Int32)) (fs_m := (fs_m.set 0 (.int (0 : Int32)))) (th := (0 : Int32)) (ls_eq h_m) (ls_eq hf_m_0)) rfl rfl (Nat.le_of_ble_eq_true rfl) (Nat.le_of_ble_eq_true rfl) (Nat.le_of_ble_eq_true rfl) (Nat.le_of_ble_eq_true rfl) (Nat.le_of_ble_eq_true rfl) (Nat.le_of_ble_eq_true rfl) (by rintro E w h; rcases h with ⟨_, hr, _⟩ | ⟨_, hr, _⟩ | ⟨_, hr, _⟩ | ⟨_, hr, _⟩ <;> cases hr) ?_
    rintro v w h
    rcases h with ⟨hc, hr, hw⟩ | ⟨hc, hr, hw⟩ | ⟨hc, hr, hw⟩ | ⟨hc, hr, hw⟩
    · have hc3 := hc; clear hc; cases hr; subst hw
      exact absurd hc3 (by decide)
    · have hc4 := hc; clear hc; cases hr; subst hw
      exact absurd hc4 (by decide)
    · have hc5 := hc; clear hc; cases hr; subst hw
      exact absurd hc5 (by decide)
    · have hc6 := hc; clear hc; cases hr; subst hw
      refine rn_stk [.int (1 : Int32)] rfl ?_
      refine rn_if_eq (tgt := 29) dX10_come_24 (by decide) (fun h7 => absurd h7 (by decide)) (fun h7 => ?_)
      refine rn_iconst (v := (0 : Int32)) dX10_come_27 (by decide) ?_
      exact rn_iret dX10_come_28 rfl rfl (Or.inl ⟨⟨hc1, hc6⟩, rfl, rfl⟩)
  · have hc8 := hc; clear hc; cases hr; subst hw
    refine rn_stk [.int (1 : Int32), .ref o_m] rfl ?_
    refine rn_if_ne (tgt := 19) dX10_come_12 (by decide) (fun h9 => ?_) (fun h9 => absurd h9 (by decide))
    refine rn_iconst (v := (0 : Int32)) dX10_come_19 (by decide) ?_
    refine rn_iconst (v := (1 : Int32)) dX10_come_20 (by decide) ?_
    refine rn_callV (a := 0) (b := 0) [.int (0 : Int32), .int (1 : Int32)] kl_SGModel_171 dX10_come_21 23 (ls_eq h_m) rfl (c_X10_refuses G _ (o_m := o_m) (x := (0 : Int32)) (y := (1 : Int32)) (fs_m := (fs_m.set 0 (.int (0 : Int32)))) (th := (0 : Int32)) (ls_eq h_m) (ls_eq hf_m_0)) rfl rfl (Nat.le_of_ble_eq_true rfl) (Nat.le_of_ble_eq_true rfl) (Nat.le_of_ble_eq_true rfl) (Nat.le_of_ble_eq_true rfl) (Nat.le_of_ble_eq_true rfl) (Nat.le_of_ble_eq_true rfl) (by rintro E w h; rcases h with ⟨_, hr, _⟩ | ⟨_, hr, _⟩ | ⟨_, hr, _⟩ | ⟨_, hr, _⟩ <;> cases hr) ?_
    rintro v w h
    rcases h with ⟨hc, hr, hw⟩ | ⟨hc, hr, hw⟩ | ⟨hc, hr, hw⟩ | ⟨hc, hr, hw⟩
    · have hc10 := hc; clear hc; cases hr; subst hw
      refine rn_stk [.int (0 : Int32)] rfl ?_
      refine rn_if_eq (tgt := 29) dX10_come_24 (by decide) (fun h11 => ?_) (fun h11 => absurd h11 (by decide))
      refine rn_aload_n (i := 0) dX10_come_29 rfl rfl ?_
      refine rn_iconst (v := (0 : Int32)) dX10_come_30 (by decide) ?_
      refine rn_aload_n (i := 0) dX10_come_31 rfl rfl ?_
      refine rn_get 23 kg_SGModel_168 (ls_eq h_m) (ls_ne (by decide) hf_m_3) dX10_come_32 ?_
      refine rn_callV (a := 0) (b := 0) [.int (0 : Int32), .int (0 : Int32)] kl_SGModel_225 dX10_come_35 23 (ls_eq h_m) rfl (c_X10_isBroken G _ (o_m := o_m) (p := (0 : Int32)) (n := (0 : Int32)) (by decide)) rfl rfl (Nat.le_of_ble_eq_true rfl) (Nat.le_of_ble_eq_true rfl) (Nat.le_of_ble_eq_true rfl) (Nat.le_of_ble_eq_true rfl) (Nat.le_of_ble_eq_true rfl) (Nat.le_of_ble_eq_true rfl) (by rintro E w h; rcases h with ⟨_, hr, _⟩ <;> cases hr) ?_
      rintro v w h
      obtain ⟨hc12, hr, hw⟩ := h; cases hr; subst hw
      refine rn_stk [.int (1 : Int32)] rfl ?_
      refine rn_if_eq (tgt := 47) dX10_come_38 (by decide) (fun h13 => absurd h13 (by decide)) (fun h13 => ?_)
      refine rn_aload_n (i := 0) dX10_come_41 rfl rfl ?_
      refine rn_iconst (v := (1 : Int32)) dX10_come_42 (by decide) ?_
      refine rn_callV (a := 0) (b := 0) [.int (1 : Int32)] kl_SGModel_353 dX10_come_43 23 (ls_eq h_m) rfl (c_X10_ends G _ (o_m := o_m) (p := (1 : Int32)) (fs_m := (fs_m.set 0 (.int (0 : Int32)))) (a_endings := a_endings) (ls_eq h_m) (ls_ne (by decide) hf_m_44) (ls_ne (by decide) h_m_endings) (by decide) (by decide)) rfl rfl (Nat.le_of_ble_eq_true rfl) (Nat.le_of_ble_eq_true rfl) (Nat.le_of_ble_eq_true rfl) (Nat.le_of_ble_eq_true rfl) (Nat.le_of_ble_eq_true rfl) (Nat.le_of_ble_eq_true rfl) (by rintro E w h; rcases h with ⟨_, hr, _⟩ <;> cases hr) ?_
      rintro v w h
      obtain ⟨hc14, hr, hw⟩ := h; cases hr; subst hw
      refine rn_stk [.int (1 : Int32)] rfl ?_
      exact rn_iret dX10_come_46 rfl rfl (Or.inr ⟨⟨hc8, hc10, hc12⟩, rfl, rfl⟩)
    · have hc15 := hc; clear hc; cases hr; subst hw
      exact absurd hc15 (by decide)
    · have hc16 := hc; clear hc; cases hr; subst hw
      exact absurd hc16 (by decide)
    · have hc17 := hc; clear hc; cases hr; subst hw
      exact absurd hc17 (by decide)
set_option maxRecDepth 20000 in
set_option maxHeartbeats 4000000 in
theorem c_X10_meaning (G : rn_G) (ws : va_W) (o_m : Nat) (k : Int32) (fs_m : List Value) (h_m : ws[23]? = some (o_m, Sum.inr (10, fs_m))) (hf_m_0 : fs_m[0]? = some (.int (0 : Int32))) (hf_m_3 : fs_m[3]? = some (.int (0 : Int32))) : Rn G mX10_meaning 1 22 0 0 0 (lv_args 0 [.ref o_m, .int k]) [] ws (fun r w => ((((k < (0 : Int32)) ∨ (¬ (k < (0 : Int32)) ∧ (1 : Int32) < k)) ∧ ((0 : Int32) = (0 : Int32) ∧ ¬ ((1 : Int32) = (0 : Int32)) ∧ ¬ ((1 : Int32) ≤ (0 : Int32)))) ∧ r = Sum.inl (some (.int (0 : Int32))) ∧ w = ((ws.set 23 (o_m, Sum.inr (10, (fs_m.set 0 (.int (0 : Int32)))))).set 23 (o_m, Sum.inr (10, ((fs_m.set 0 (.int (0 : Int32))).set 0 (.int (1 : Int32))))))) ∨ (((¬ (k < (0 : Int32)) ∧ ¬ ((1 : Int32) < k)) ∧ ((¬ ((0 : Int32) = (0 : Int32)) ∧ (0 : Int32) ≤ (0 : Int32)) ∨ ((0 : Int32) = (0 : Int32) ∧ (0 : Int32) = (0 : Int32) ∧ (0 : Int32) ≤ (0 : Int32))) ∧ ((0 : Int32) < (20 : Int32))) ∧ r = Sum.inl (some (.int (-1 : Int32))) ∧ w = (ws.set 23 (o_m, Sum.inr (10, (fs_m.set 0 (.int (0 : Int32)))))))) := by
  refine rn_lv [(0, .ref o_m), (1, .int k)] rfl ?_
  refine rn_aload_n (i := 0) dX10_meaning_0 rfl rfl ?_
  refine rn_iconst (v := (0 : Int32)) dX10_meaning_1 (by decide) ?_
  refine rn_put 23 (kp_SGModel_137 _) h_m (ls_lt hf_m_0) rfl rfl dX10_meaning_2 ?_
  refine rn_aload_n (i := 0) dX10_meaning_5 rfl rfl ?_
  refine rn_iload_n (i := 1) dX10_meaning_6 rfl rfl ?_
  refine rn_iconst (v := (0 : Int32)) dX10_meaning_7 (by decide) ?_
  refine rn_iconst (v := (1 : Int32)) dX10_meaning_8 (by decide) ?_
  refine rn_callS (a := 0) (b := 0) [.int k, .int (0 : Int32), .int (1 : Int32)] kl_SGModel_179 dX10_meaning_9 (c_X10_in G _ (x := k) (y := (0 : Int32)) (u := (1 : Int32))) rfl rfl (Nat.le_of_ble_eq_true rfl) (Nat.le_of_ble_eq_true rfl) (Nat.le_of_ble_eq_true rfl) (Nat.le_of_ble_eq_true rfl) (Nat.le_of_ble_eq_true rfl) (Nat.le_of_ble_eq_true rfl) (by rintro E w h; rcases h with ⟨_, hr, _⟩ | ⟨_, hr, _⟩ <;> cases hr) ?_
  rintro v w h
  rcases h with ⟨hc, hr, hw⟩ | ⟨hc, hr, hw⟩
  · have hc1 := hc; clear hc; cases hr; subst hw
    refine rn_stk [.int (0 : Int32), .ref o_m] rfl ?_
    refine rn_if_ne (tgt := 19) dX10_meaning_12 (by decide) (fun h2 => absurd h2 (by decide)) (fun h2 => ?_)
    refine rn_iconst (v := (1 : Int32)) dX10_meaning_15 (by decide) ?_
    refine rn_goto (tgt := 20) dX10_meaning_16 (by decide) ?_
    refine rn_iconst (v := (1 : Int32)) dX10_meaning_20 (by decide) ?_
    refine rn_callV (a := 0) (b := 0) [.int (1 : Int32), .int (1 : Int32)] kl_SGModel_171 dX10_meaning_21 23 (ls_eq h_m) rfl (c_X10_refuses G _ (o_m := o_m) (x := (1 : Int32)) (y := (1 : Int32)) (fs_m := (fs_m.set 0 (.int (0 : Int32)))) (th := (0 : Int32)) (ls_eq h_m) (ls_eq hf_m_0)) rfl rfl (Nat.le_of_ble_eq_true rfl) (Nat.le_of_ble_eq_true rfl) (Nat.le_of_ble_eq_true rfl) (Nat.le_of_ble_eq_true rfl) (Nat.le_of_ble_eq_true rfl) (Nat.le_of_ble_eq_true rfl) (by rintro E w h; rcases h with ⟨_, hr, _⟩ | ⟨_, hr, _⟩ | ⟨_, hr, _⟩ | ⟨_, hr, _⟩ <;> cases hr) ?_
    rintro v w h
    rcases h with ⟨hc, hr, hw⟩ | ⟨hc, hr, hw⟩ | ⟨hc, hr, hw⟩ | ⟨hc, hr, hw⟩
    · have hc3 := hc; clear hc; cases hr; subst hw
      exact absurd hc3 (by decide)
    · have hc4 := hc; clear hc; cases hr; subst hw
      exact absurd hc4 (by decide)
    · have hc5 := hc; clear hc; cases hr; subst hw
      exact absurd hc5 (by decide)
    · have hc6 := hc; clear hc; cases hr; subst hw
      refine rn_stk [.int (1 : Int32)] rfl ?_
      refine rn_if_eq (tgt := 29) dX10_meaning_24 (by decide) (fun h7 => absurd h7 (by decide)) (fun h7 => ?_)
      refine rn_iconst (v := (0 : Int32)) dX10_meaning_27 (by decide) ?_
      exact rn_iret dX10_meaning_28 rfl rfl (Or.inl ⟨⟨hc1, hc6⟩, rfl, rfl⟩)
  · have hc8 := hc; clear hc; cases hr; subst hw
    refine rn_stk [.int (1 : Int32), .ref o_m] rfl ?_
    refine rn_if_ne (tgt := 19) dX10_meaning_12 (by decide) (fun h9 => ?_) (fun h9 => absurd h9 (by decide))
    refine rn_iconst (v := (0 : Int32)) dX10_meaning_19 (by decide) ?_
    refine rn_iconst (v := (1 : Int32)) dX10_meaning_20 (by decide) ?_
    refine rn_callV (a := 0) (b := 0) [.int (0 : Int32), .int (1 : Int32)] kl_SGModel_171 dX10_meaning_21 23 (ls_eq h_m) rfl (c_X10_refuses G _ (o_m := o_m) (x := (0 : Int32)) (y := (1 : Int32)) (fs_m := (fs_m.set 0 (.int (0 : Int32)))) (th := (0 : Int32)) (ls_eq h_m) (ls_eq hf_m_0)) rfl rfl (Nat.le_of_ble_eq_true rfl) (Nat.le_of_ble_eq_true rfl) (Nat.le_of_ble_eq_true rfl) (Nat.le_of_ble_eq_true rfl) (Nat.le_of_ble_eq_true rfl) (Nat.le_of_ble_eq_true rfl) (by rintro E w h; rcases h with ⟨_, hr, _⟩ | ⟨_, hr, _⟩ | ⟨_, hr, _⟩ | ⟨_, hr, _⟩ <;> cases hr) ?_
    rintro v w h
    rcases h with ⟨hc, hr, hw⟩ | ⟨hc, hr, hw⟩ | ⟨hc, hr, hw⟩ | ⟨hc, hr, hw⟩
    · have hc10 := hc; clear hc; cases hr; subst hw
      refine rn_stk [.int (0 : Int32)] rfl ?_
      refine rn_if_eq (tgt := 29) dX10_meaning_24 (by decide) (fun h11 => ?_) (fun h11 => absurd h11 (by decide))
      refine rn_aload_n (i := 0) dX10_meaning_29 rfl rfl ?_
      refine rn_iconst (v := (0 : Int32)) dX10_meaning_30 (by decide) ?_
      refine rn_aload_n (i := 0) dX10_meaning_31 rfl rfl ?_
      refine rn_get 23 kg_SGModel_168 (ls_eq h_m) (ls_ne (by decide) hf_m_3) dX10_meaning_32 ?_
      refine rn_callV (a := 0) (b := 0) [.int (0 : Int32), .int (0 : Int32)] kl_SGModel_225 dX10_meaning_35 23 (ls_eq h_m) rfl (c_X10_isBroken G _ (o_m := o_m) (p := (0 : Int32)) (n := (0 : Int32)) (by decide)) rfl rfl (Nat.le_of_ble_eq_true rfl) (Nat.le_of_ble_eq_true rfl) (Nat.le_of_ble_eq_true rfl) (Nat.le_of_ble_eq_true rfl) (Nat.le_of_ble_eq_true rfl) (Nat.le_of_ble_eq_true rfl) (by rintro E w h; rcases h with ⟨_, hr, _⟩ <;> cases hr) ?_
      rintro v w h
      obtain ⟨hc12, hr, hw⟩ := h; cases hr; subst hw
      refine rn_stk [.int (1 : Int32)] rfl ?_
      refine rn_if_eq (tgt := 45) dX10_meaning_38 (by decide) (fun h13 => absurd h13 (by decide)) (fun h13 => ?_)
      refine rn_iconst (v := (-1 : Int32)) dX10_meaning_41 (by decide) ?_
      refine rn_goto (tgt := 51) dX10_meaning_42 (by decide) ?_
      exact rn_iret dX10_meaning_51 rfl rfl (Or.inr ⟨⟨hc8, hc10, hc12⟩, rfl, rfl⟩)
    · have hc14 := hc; clear hc; cases hr; subst hw
      exact absurd hc14 (by decide)
    · have hc15 := hc; clear hc; cases hr; subst hw
      exact absurd hc15 (by decide)
    · have hc16 := hc; clear hc; cases hr; subst hw
      exact absurd hc16 (by decide)
set_option maxRecDepth 20000 in
set_option maxHeartbeats 4000000 in
theorem c_X10_routed (G : rn_G) (ws : va_W) (o_m : Nat) (x : Int32) (fs_m : List Value) (h_m : ws[23]? = some (o_m, Sum.inr (10, fs_m))) (hf_m_0 : fs_m[0]? = some (.int (0 : Int32))) (hf_m_4 : fs_m[4]? = some (.int (0 : Int32))) : Rn G mX10_routed 1 23 0 0 0 (lv_args 0 [.ref o_m, .int x]) [] ws (fun r w => (True ∧ r = Sum.inl (some (.int (-1 : Int32))) ∧ w = (ws.set 23 (o_m, Sum.inr (10, (fs_m.set 0 (.int (0 : Int32)))))))) := by
  refine rn_lv [(0, .ref o_m), (1, .int x)] rfl ?_
  refine rn_aload_n (i := 0) dX10_routed_0 rfl rfl ?_
  refine rn_iconst (v := (0 : Int32)) dX10_routed_1 (by decide) ?_
  refine rn_put 23 (kp_SGModel_137 _) h_m (ls_lt hf_m_0) rfl rfl dX10_routed_2 ?_
  refine rn_aload_n (i := 0) dX10_routed_5 rfl rfl ?_
  refine rn_iload_n (i := 1) dX10_routed_6 rfl rfl ?_
  refine rn_callV (a := 0) (b := 0) [.int x] kl_SGModel_232 dX10_routed_7 23 (ls_eq h_m) rfl (c_X10_routeOf G _ (o_m := o_m) (x := x) (fs_m := (fs_m.set 0 (.int (0 : Int32)))) (ls_eq h_m) (ls_ne (by decide) hf_m_4)) rfl rfl (Nat.le_of_ble_eq_true rfl) (Nat.le_of_ble_eq_true rfl) (Nat.le_of_ble_eq_true rfl) (Nat.le_of_ble_eq_true rfl) (Nat.le_of_ble_eq_true rfl) (Nat.le_of_ble_eq_true rfl) (by rintro E w h; rcases h with ⟨_, hr, _⟩ <;> cases hr) ?_
  rintro v w h
  obtain ⟨hc1, hr, hw⟩ := h; cases hr; subst hw
  refine rn_stk [.int (-1 : Int32)] rfl ?_
  exact rn_iret dX10_routed_10 rfl rfl ⟨trivial, rfl, rfl⟩
set_option maxRecDepth 20000 in
set_option maxHeartbeats 4000000 in
theorem c_X10_sent (G : rn_G) (ws : va_W) (o_m : Nat) (k : Int32) (x : Int32) (fs_m : List Value) (a_sentSize : Nat) (h_m : ws[23]? = some (o_m, Sum.inr (10, fs_m))) (hf_m_0 : fs_m[0]? = some (.int (0 : Int32))) (hf_m_34 : fs_m[34]? = some (.ref a_sentSize)) (h_m_sentSize : ws[48]? = some (a_sentSize, Sum.inl (rn_k G 1, 2, Sum.inl (fun _ => 0)))) : Rn G mX10_sent 1 22 0 0 0 (lv_args 0 [.ref o_m, .int k, .int x]) [] ws (fun r w => (((((k < (0 : Int32)) ∨ (¬ (k < (0 : Int32)) ∧ (1 : Int32) < k)) ∧ ((0 : Int32) = (0 : Int32) ∧ ¬ ((1 : Int32) = (0 : Int32)) ∧ ¬ ((1 : Int32) ≤ (0 : Int32)))) ∨ ((¬ (k < (0 : Int32)) ∧ ¬ ((1 : Int32) < k)) ∧ ((¬ ((0 : Int32) = (0 : Int32)) ∧ (0 : Int32) ≤ (0 : Int32)) ∨ ((0 : Int32) = (0 : Int32) ∧ (0 : Int32) = (0 : Int32) ∧ (0 : Int32) ≤ (0 : Int32))) ∧ ¬ (x = (-1 : Int32)) ∧ ¬ (x = (-2 : Int32)) ∧ ((x < (0 : Int32)) ∨ (¬ (x < (0 : Int32)) ∧ (-1 : Int32) < x)) ∧ ((0 : Int32) = (0 : Int32) ∧ ¬ ((1 : Int32) = (0 : Int32)) ∧ ¬ ((1 : Int32) ≤ (0 : Int32))))) ∧ r = Sum.inl (some (.int (0 : Int32))) ∧ w = ((ws.set 23 (o_m, Sum.inr (10, (fs_m.set 0 (.int (0 : Int32)))))).set 23 (o_m, Sum.inr (10, ((fs_m.set 0 (.int (0 : Int32))).set 0 (.int (1 : Int32))))))) ∨ (((¬ (k < (0 : Int32)) ∧ ¬ ((1 : Int32) < k)) ∧ ((¬ ((0 : Int32) = (0 : Int32)) ∧ (0 : Int32) ≤ (0 : Int32)) ∨ ((0 : Int32) = (0 : Int32) ∧ (0 : Int32) = (0 : Int32) ∧ (0 : Int32) ≤ (0 : Int32))) ∧ ¬ (x = (-1 : Int32)) ∧ x = (-2 : Int32)) ∧ r = Sum.inl (some (.int (-1 : Int32))) ∧ w = (ws.set 23 (o_m, Sum.inr (10, (fs_m.set 0 (.int (0 : Int32))))))) ∨ (((¬ (k < (0 : Int32)) ∧ ¬ ((1 : Int32) < k)) ∧ ((¬ ((0 : Int32) = (0 : Int32)) ∧ (0 : Int32) ≤ (0 : Int32)) ∨ ((0 : Int32) = (0 : Int32) ∧ (0 : Int32) = (0 : Int32) ∧ (0 : Int32) ≤ (0 : Int32))) ∧ x = (-1 : Int32)) ∧ r = Sum.inl (some (.int (0 : Int32))) ∧ w = (ws.set 23 (o_m, Sum.inr (10, (fs_m.set 0 (.int (0 : Int32)))))))) := by
  refine rn_lv [(0, .ref o_m), (1, .int k), (2, .int x)] rfl ?_
  refine rn_aload_n (i := 0) dX10_sent_0 rfl rfl ?_
  refine rn_iconst (v := (0 : Int32)) dX10_sent_1 (by decide) ?_
  refine rn_put 23 (kp_SGModel_137 _) h_m (ls_lt hf_m_0) rfl rfl dX10_sent_2 ?_
  refine rn_aload_n (i := 0) dX10_sent_5 rfl rfl ?_
  refine rn_iload_n (i := 1) dX10_sent_6 rfl rfl ?_
  refine rn_iconst (v := (0 : Int32)) dX10_sent_7 (by decide) ?_
  refine rn_iconst (v := (1 : Int32)) dX10_sent_8 (by decide) ?_
  refine rn_callS (a := 0) (b := 0) [.int k, .int (0 : Int32), .int (1 : Int32)] kl_SGModel_179 dX10_sent_9 (c_X10_in G _ (x := k) (y := (0 : Int32)) (u := (1 : Int32))) rfl rfl (Nat.le_of_ble_eq_true rfl) (Nat.le_of_ble_eq_true rfl) (Nat.le_of_ble_eq_true rfl) (Nat.le_of_ble_eq_true rfl) (Nat.le_of_ble_eq_true rfl) (Nat.le_of_ble_eq_true rfl) (by rintro E w h; rcases h with ⟨_, hr, _⟩ | ⟨_, hr, _⟩ <;> cases hr) ?_
  rintro v w h
  rcases h with ⟨hc, hr, hw⟩ | ⟨hc, hr, hw⟩
  · have hc1 := hc; clear hc; cases hr; subst hw
    refine rn_stk [.int (0 : Int32), .ref o_m] rfl ?_
    refine rn_if_ne (tgt := 19) dX10_sent_12 (by decide) (fun h2 => absurd h2 (by decide)) (fun h2 => ?_)
    refine rn_iconst (v := (1 : Int32)) dX10_sent_15 (by decide) ?_
    refine rn_goto (tgt := 20) dX10_sent_16 (by decide) ?_
    refine rn_iconst (v := (1 : Int32)) dX10_sent_20 (by decide) ?_
    refine rn_callV (a := 0) (b := 0) [.int (1 : Int32), .int (1 : Int32)] kl_SGModel_171 dX10_sent_21 23 (ls_eq h_m) rfl (c_X10_refuses G _ (o_m := o_m) (x := (1 : Int32)) (y := (1 : Int32)) (fs_m := (fs_m.set 0 (.int (0 : Int32)))) (th := (0 : Int32)) (ls_eq h_m) (ls_eq hf_m_0)) rfl rfl (Nat.le_of_ble_eq_true rfl) (Nat.le_of_ble_eq_true rfl) (Nat.le_of_ble_eq_true rfl) (Nat.le_of_ble_eq_true rfl) (Nat.le_of_ble_eq_true rfl) (Nat.le_of_ble_eq_true rfl) (by rintro E w h; rcases h with ⟨_, hr, _⟩ | ⟨_, hr, _⟩ | ⟨_, hr, _⟩ | ⟨_, hr, _⟩ <;> cases hr) ?_
    rintro v w h
    rcases h with ⟨hc, hr, hw⟩ | ⟨hc, hr, hw⟩ | ⟨hc, hr, hw⟩ | ⟨hc, hr, hw⟩
    · have hc3 := hc; clear hc; cases hr; subst hw
      exact absurd hc3 (by decide)
    · have hc4 := hc; clear hc; cases hr; subst hw
      exact absurd hc4 (by decide)
    · have hc5 := hc; clear hc; cases hr; subst hw
      exact absurd hc5 (by decide)
    · have hc6 := hc; clear hc; cases hr; subst hw
      refine rn_stk [.int (1 : Int32)] rfl ?_
      refine rn_if_eq (tgt := 29) dX10_sent_24 (by decide) (fun h7 => absurd h7 (by decide)) (fun h7 => ?_)
      refine rn_iconst (v := (0 : Int32)) dX10_sent_27 (by decide) ?_
      exact rn_iret dX10_sent_28 rfl rfl (Or.inl ⟨(Or.inl ⟨hc1, hc6⟩), rfl, rfl⟩)
  · have hc8 := hc; clear hc; cases hr; subst hw
    refine rn_stk [.int (1 : Int32), .ref o_m] rfl ?_
    refine rn_if_ne (tgt := 19) dX10_sent_12 (by decide) (fun h9 => ?_) (fun h9 => absurd h9 (by decide))
    refine rn_iconst (v := (0 : Int32)) dX10_sent_19 (by decide) ?_
    refine rn_iconst (v := (1 : Int32)) dX10_sent_20 (by decide) ?_
    refine rn_callV (a := 0) (b := 0) [.int (0 : Int32), .int (1 : Int32)] kl_SGModel_171 dX10_sent_21 23 (ls_eq h_m) rfl (c_X10_refuses G _ (o_m := o_m) (x := (0 : Int32)) (y := (1 : Int32)) (fs_m := (fs_m.set 0 (.int (0 : Int32)))) (th := (0 : Int32)) (ls_eq h_m) (ls_eq hf_m_0)) rfl rfl (Nat.le_of_ble_eq_true rfl) (Nat.le_of_ble_eq_true rfl) (Nat.le_of_ble_eq_true rfl) (Nat.le_of_ble_eq_true rfl) (Nat.le_of_ble_eq_true rfl) (Nat.le_of_ble_eq_true rfl) (by rintro E w h; rcases h with ⟨_, hr, _⟩ | ⟨_, hr, _⟩ | ⟨_, hr, _⟩ | ⟨_, hr, _⟩ <;> cases hr) ?_
    rintro v w h
    rcases h with ⟨hc, hr, hw⟩ | ⟨hc, hr, hw⟩ | ⟨hc, hr, hw⟩ | ⟨hc, hr, hw⟩
    · have hc10 := hc; clear hc; cases hr; subst hw
      refine rn_stk [.int (0 : Int32)] rfl ?_
      refine rn_if_eq (tgt := 29) dX10_sent_24 (by decide) (fun h11 => ?_) (fun h11 => absurd h11 (by decide))
      refine rn_aload_n (i := 0) dX10_sent_29 rfl rfl ?_
      refine rn_get 23 kg_SGModel_89 (ls_eq h_m) (ls_ne (by decide) hf_m_34) dX10_sent_30 ?_
      refine rn_iload_n (i := 1) dX10_sent_33 rfl rfl ?_
      refine rn_iald 48 1 (ls_ne (by decide) h_m_sentSize) rfl (rn_in (by have g0 := i32_rng k; simp only [Int32.lt_iff_toInt_lt, Int32.le_iff_toInt_le, gt_iff_lt, ge_iff_le, ← Int32.toInt_inj, i32_0, i32_1] at *; omega)) dX10_sent_34 ?_
      refine rn_topi (0 : Int32) rfl ?_
      refine rn_istore_n dX10_sent_35 rfl (by decide) [(0, .ref o_m), (1, .int k), (2, .int x), (3, .int (0 : Int32))] rfl ?_
      refine rn_iload_n (i := 2) dX10_sent_36 rfl rfl ?_
      refine rn_iconst (v := (-1 : Int32)) dX10_sent_37 (by decide) ?_
      refine rn_icmp_ne (tgt := 43) dX10_sent_38 (by decide) (fun h12 => ?_) (fun h12 => ?_)
      · refine rn_iload_n (i := 2) dX10_sent_43 rfl rfl ?_
        refine rn_bipush (v := (-2 : Int32)) dX10_sent_44 (by decide) ?_
        refine rn_icmp_ne (tgt := 62) dX10_sent_46 (by decide) (fun h13 => ?_) (fun h13 => ?_)
        · refine rn_aload_n (i := 0) dX10_sent_62 rfl rfl ?_
          refine rn_iload_n (i := 2) dX10_sent_63 rfl rfl ?_
          refine rn_iconst (v := (0 : Int32)) dX10_sent_64 (by decide) ?_
          refine rn_iload_n (i := 3) dX10_sent_65 rfl rfl ?_
          refine rn_iconst (v := (1 : Int32)) dX10_sent_66 (by decide) ?_
          refine rn_isub dX10_sent_67 ?_
          refine rn_topi (-1 : Int32) (by decide) ?_
          refine rn_callS (a := 0) (b := 0) [.int x, .int (0 : Int32), .int (-1 : Int32)] kl_SGModel_179 dX10_sent_68 (c_X10_in G _ (x := x) (y := (0 : Int32)) (u := (-1 : Int32))) rfl rfl (Nat.le_of_ble_eq_true rfl) (Nat.le_of_ble_eq_true rfl) (Nat.le_of_ble_eq_true rfl) (Nat.le_of_ble_eq_true rfl) (Nat.le_of_ble_eq_true rfl) (Nat.le_of_ble_eq_true rfl) (by rintro E w h; rcases h with ⟨_, hr, _⟩ | ⟨_, hr, _⟩ <;> cases hr) ?_
          rintro v w h
          rcases h with ⟨hc, hr, hw⟩ | ⟨hc, hr, hw⟩
          · have hc14 := hc; clear hc; cases hr; subst hw
            refine rn_stk [.int (0 : Int32), .ref o_m] rfl ?_
            refine rn_if_ne (tgt := 78) dX10_sent_71 (by decide) (fun h15 => absurd h15 (by decide)) (fun h15 => ?_)
            refine rn_iconst (v := (1 : Int32)) dX10_sent_74 (by decide) ?_
            refine rn_goto (tgt := 79) dX10_sent_75 (by decide) ?_
            refine rn_iconst (v := (1 : Int32)) dX10_sent_79 (by decide) ?_
            refine rn_callV (a := 0) (b := 0) [.int (1 : Int32), .int (1 : Int32)] kl_SGModel_171 dX10_sent_80 23 (ls_eq h_m) rfl (c_X10_refuses G _ (o_m := o_m) (x := (1 : Int32)) (y := (1 : Int32)) (fs_m := (fs_m.set 0 (.int (0 : Int32)))) (th := (0 : Int32)) (ls_eq h_m) (ls_eq hf_m_0)) rfl rfl (Nat.le_of_ble_eq_true rfl) (Nat.le_of_ble_eq_true rfl) (Nat.le_of_ble_eq_true rfl) (Nat.le_of_ble_eq_true rfl) (Nat.le_of_ble_eq_true rfl) (Nat.le_of_ble_eq_true rfl) (by rintro E w h; rcases h with ⟨_, hr, _⟩ | ⟨_, hr, _⟩ | ⟨_, hr, _⟩ | ⟨_, hr, _⟩ <;> cases hr) ?_
            rintro v w h
            rcases h with ⟨hc, hr, hw⟩ | ⟨hc, hr, hw⟩ | ⟨hc, hr, hw⟩ | ⟨hc, hr, hw⟩
            · have hc16 := hc; clear hc; cases hr; subst hw
              exact absurd hc16 (by decide)
            · have hc17 := hc; clear hc; cases hr; subst hw
              exact absurd hc17 (by decide)
            · have hc18 := hc; clear hc; cases hr; subst hw
              exact absurd hc18 (by decide)
            · have hc19 := hc; clear hc; cases hr; subst hw
              refine rn_stk [.int (1 : Int32)] rfl ?_
              refine rn_if_eq (tgt := 90) dX10_sent_83 (by decide) (fun h20 => absurd h20 (by decide)) (fun h20 => ?_)
              refine rn_iconst (v := (0 : Int32)) dX10_sent_86 (by decide) ?_
              refine rn_goto (tgt := 106) dX10_sent_87 (by decide) ?_
              exact rn_iret dX10_sent_106 rfl rfl (Or.inl ⟨(Or.inr ⟨hc8, hc10, h12, h13, hc14, hc19⟩), rfl, rfl⟩)
          · have hc21 := hc; clear hc; cases hr; subst hw
            exfalso; have g0 := i32_rng k; have g1 := i32_rng x; simp only [Int32.lt_iff_toInt_lt, Int32.le_iff_toInt_le, gt_iff_lt, ge_iff_le, ← Int32.toInt_inj, i32_m2, i32_m1, i32_0, i32_1] at *; omega
        · refine rn_iload_n (i := 3) dX10_sent_49 rfl rfl ?_
          refine rn_if_ne (tgt := 57) dX10_sent_50 (by decide) (fun h22 => absurd h22 (by decide)) (fun h22 => ?_)
          refine rn_iconst (v := (-1 : Int32)) dX10_sent_53 (by decide) ?_
          refine rn_goto (tgt := 61) dX10_sent_54 (by decide) ?_
          exact rn_iret dX10_sent_61 rfl rfl (Or.inr (Or.inl ⟨⟨hc8, hc10, h12, h13⟩, rfl, rfl⟩))
      · refine rn_iload_n (i := 3) dX10_sent_41 rfl rfl ?_
        exact rn_iret dX10_sent_42 rfl rfl (Or.inr (Or.inr ⟨⟨hc8, hc10, h12⟩, rfl, rfl⟩))
    · have hc23 := hc; clear hc; cases hr; subst hw
      exact absurd hc23 (by decide)
    · have hc24 := hc; clear hc; cases hr; subst hw
      exact absurd hc24 (by decide)
    · have hc25 := hc; clear hc; cases hr; subst hw
      exact absurd hc25 (by decide)
set_option maxRecDepth 20000 in
set_option maxHeartbeats 4000000 in
theorem c_X10_take (G : rn_G) (ws : va_W) (o_m : Nat) (k : Int32) (fs_m : List Value) (a_sentSize : Nat) (h_m : ws[23]? = some (o_m, Sum.inr (10, fs_m))) (hf_m_0 : fs_m[0]? = some (.int (0 : Int32))) (hf_m_34 : fs_m[34]? = some (.ref a_sentSize)) (h_m_sentSize : ws[48]? = some (a_sentSize, Sum.inl (rn_k G 1, 2, Sum.inl (fun _ => 0)))) : Rn G mX10_take 1 22 0 0 0 (lv_args 0 [.ref o_m, .int k]) [] ws (fun r w => ((((k < (0 : Int32)) ∨ (¬ (k < (0 : Int32)) ∧ (1 : Int32) < k)) ∧ ((0 : Int32) = (0 : Int32) ∧ ¬ ((1 : Int32) = (0 : Int32)) ∧ ¬ ((1 : Int32) ≤ (0 : Int32)))) ∧ r = Sum.inl (some (.int (0 : Int32))) ∧ w = ((ws.set 23 (o_m, Sum.inr (10, (fs_m.set 0 (.int (0 : Int32)))))).set 23 (o_m, Sum.inr (10, ((fs_m.set 0 (.int (0 : Int32))).set 0 (.int (1 : Int32))))))) ∨ (((¬ (k < (0 : Int32)) ∧ ¬ ((1 : Int32) < k)) ∧ ((¬ ((0 : Int32) = (0 : Int32)) ∧ (0 : Int32) ≤ (0 : Int32)) ∨ ((0 : Int32) = (0 : Int32) ∧ (0 : Int32) = (0 : Int32) ∧ (0 : Int32) ≤ (0 : Int32))) ∧ ((0 : Int32) = (0 : Int32) ∧ ¬ ((1 : Int32) = (0 : Int32)) ∧ ¬ ((2 : Int32) ≤ (0 : Int32)))) ∧ r = Sum.inl (some (.int (0 : Int32))) ∧ w = ((ws.set 23 (o_m, Sum.inr (10, (fs_m.set 0 (.int (0 : Int32)))))).set 23 (o_m, Sum.inr (10, ((fs_m.set 0 (.int (0 : Int32))).set 0 (.int (2 : Int32)))))))) := by
  refine rn_lv [(0, .ref o_m), (1, .int k)] rfl ?_
  refine rn_aload_n (i := 0) dX10_take_0 rfl rfl ?_
  refine rn_iconst (v := (0 : Int32)) dX10_take_1 (by decide) ?_
  refine rn_put 23 (kp_SGModel_137 _) h_m (ls_lt hf_m_0) rfl rfl dX10_take_2 ?_
  refine rn_aload_n (i := 0) dX10_take_5 rfl rfl ?_
  refine rn_iload_n (i := 1) dX10_take_6 rfl rfl ?_
  refine rn_iconst (v := (0 : Int32)) dX10_take_7 (by decide) ?_
  refine rn_iconst (v := (1 : Int32)) dX10_take_8 (by decide) ?_
  refine rn_callS (a := 0) (b := 0) [.int k, .int (0 : Int32), .int (1 : Int32)] kl_SGModel_179 dX10_take_9 (c_X10_in G _ (x := k) (y := (0 : Int32)) (u := (1 : Int32))) rfl rfl (Nat.le_of_ble_eq_true rfl) (Nat.le_of_ble_eq_true rfl) (Nat.le_of_ble_eq_true rfl) (Nat.le_of_ble_eq_true rfl) (Nat.le_of_ble_eq_true rfl) (Nat.le_of_ble_eq_true rfl) (by rintro E w h; rcases h with ⟨_, hr, _⟩ | ⟨_, hr, _⟩ <;> cases hr) ?_
  rintro v w h
  rcases h with ⟨hc, hr, hw⟩ | ⟨hc, hr, hw⟩
  · have hc1 := hc; clear hc; cases hr; subst hw
    refine rn_stk [.int (0 : Int32), .ref o_m] rfl ?_
    refine rn_if_ne (tgt := 19) dX10_take_12 (by decide) (fun h2 => absurd h2 (by decide)) (fun h2 => ?_)
    refine rn_iconst (v := (1 : Int32)) dX10_take_15 (by decide) ?_
    refine rn_goto (tgt := 20) dX10_take_16 (by decide) ?_
    refine rn_iconst (v := (1 : Int32)) dX10_take_20 (by decide) ?_
    refine rn_callV (a := 0) (b := 0) [.int (1 : Int32), .int (1 : Int32)] kl_SGModel_171 dX10_take_21 23 (ls_eq h_m) rfl (c_X10_refuses G _ (o_m := o_m) (x := (1 : Int32)) (y := (1 : Int32)) (fs_m := (fs_m.set 0 (.int (0 : Int32)))) (th := (0 : Int32)) (ls_eq h_m) (ls_eq hf_m_0)) rfl rfl (Nat.le_of_ble_eq_true rfl) (Nat.le_of_ble_eq_true rfl) (Nat.le_of_ble_eq_true rfl) (Nat.le_of_ble_eq_true rfl) (Nat.le_of_ble_eq_true rfl) (Nat.le_of_ble_eq_true rfl) (by rintro E w h; rcases h with ⟨_, hr, _⟩ | ⟨_, hr, _⟩ | ⟨_, hr, _⟩ | ⟨_, hr, _⟩ <;> cases hr) ?_
    rintro v w h
    rcases h with ⟨hc, hr, hw⟩ | ⟨hc, hr, hw⟩ | ⟨hc, hr, hw⟩ | ⟨hc, hr, hw⟩
    · have hc3 := hc; clear hc; cases hr; subst hw
      exact absurd hc3 (by decide)
    · have hc4 := hc; clear hc; cases hr; subst hw
      exact absurd hc4 (by decide)
    · have hc5 := hc; clear hc; cases hr; subst hw
      exact absurd hc5 (by decide)
    · have hc6 := hc; clear hc; cases hr; subst hw
      refine rn_stk [.int (1 : Int32)] rfl ?_
      refine rn_if_ne (tgt := 49) dX10_take_24 (by decide) (fun h7 => ?_) (fun h7 => absurd h7 (by decide))
      refine rn_iconst (v := (0 : Int32)) dX10_take_49 (by decide) ?_
      exact rn_iret dX10_take_50 rfl rfl (Or.inl ⟨⟨hc1, hc6⟩, rfl, rfl⟩)
  · have hc8 := hc; clear hc; cases hr; subst hw
    refine rn_stk [.int (1 : Int32), .ref o_m] rfl ?_
    refine rn_if_ne (tgt := 19) dX10_take_12 (by decide) (fun h9 => ?_) (fun h9 => absurd h9 (by decide))
    refine rn_iconst (v := (0 : Int32)) dX10_take_19 (by decide) ?_
    refine rn_iconst (v := (1 : Int32)) dX10_take_20 (by decide) ?_
    refine rn_callV (a := 0) (b := 0) [.int (0 : Int32), .int (1 : Int32)] kl_SGModel_171 dX10_take_21 23 (ls_eq h_m) rfl (c_X10_refuses G _ (o_m := o_m) (x := (0 : Int32)) (y := (1 : Int32)) (fs_m := (fs_m.set 0 (.int (0 : Int32)))) (th := (0 : Int32)) (ls_eq h_m) (ls_eq hf_m_0)) rfl rfl (Nat.le_of_ble_eq_true rfl) (Nat.le_of_ble_eq_true rfl) (Nat.le_of_ble_eq_true rfl) (Nat.le_of_ble_eq_true rfl) (Nat.le_of_ble_eq_true rfl) (Nat.le_of_ble_eq_true rfl) (by rintro E w h; rcases h with ⟨_, hr, _⟩ | ⟨_, hr, _⟩ | ⟨_, hr, _⟩ | ⟨_, hr, _⟩ <;> cases hr) ?_
    rintro v w h
    rcases h with ⟨hc, hr, hw⟩ | ⟨hc, hr, hw⟩ | ⟨hc, hr, hw⟩ | ⟨hc, hr, hw⟩
    · have hc10 := hc; clear hc; cases hr; subst hw
      refine rn_stk [.int (0 : Int32)] rfl ?_
      refine rn_if_ne (tgt := 49) dX10_take_24 (by decide) (fun h11 => absurd h11 (by decide)) (fun h11 => ?_)
      refine rn_aload_n (i := 0) dX10_take_27 rfl rfl ?_
      refine rn_aload_n (i := 0) dX10_take_28 rfl rfl ?_
      refine rn_get 23 kg_SGModel_89 (ls_eq h_m) (ls_ne (by decide) hf_m_34) dX10_take_29 ?_
      refine rn_iload_n (i := 1) dX10_take_32 rfl rfl ?_
      refine rn_iald 48 1 (ls_ne (by decide) h_m_sentSize) rfl (rn_in (by have g0 := i32_rng k; simp only [Int32.lt_iff_toInt_lt, Int32.le_iff_toInt_le, gt_iff_lt, ge_iff_le, ← Int32.toInt_inj, i32_0, i32_1] at *; omega)) dX10_take_33 ?_
      refine rn_topi (0 : Int32) rfl ?_
      refine rn_if_ne (tgt := 41) dX10_take_34 (by decide) (fun h12 => absurd h12 (by decide)) (fun h12 => ?_)
      refine rn_iconst (v := (1 : Int32)) dX10_take_37 (by decide) ?_
      refine rn_goto (tgt := 42) dX10_take_38 (by decide) ?_
      refine rn_iconst (v := (2 : Int32)) dX10_take_42 (by decide) ?_
      refine rn_callV (a := 0) (b := 0) [.int (1 : Int32), .int (2 : Int32)] kl_SGModel_171 dX10_take_43 23 (ls_eq h_m) rfl (c_X10_refuses G _ (o_m := o_m) (x := (1 : Int32)) (y := (2 : Int32)) (fs_m := (fs_m.set 0 (.int (0 : Int32)))) (th := (0 : Int32)) (ls_eq h_m) (ls_eq hf_m_0)) rfl rfl (Nat.le_of_ble_eq_true rfl) (Nat.le_of_ble_eq_true rfl) (Nat.le_of_ble_eq_true rfl) (Nat.le_of_ble_eq_true rfl) (Nat.le_of_ble_eq_true rfl) (Nat.le_of_ble_eq_true rfl) (by rintro E w h; rcases h with ⟨_, hr, _⟩ | ⟨_, hr, _⟩ | ⟨_, hr, _⟩ | ⟨_, hr, _⟩ <;> cases hr) ?_
      rintro v w h
      rcases h with ⟨hc, hr, hw⟩ | ⟨hc, hr, hw⟩ | ⟨hc, hr, hw⟩ | ⟨hc, hr, hw⟩
      · have hc13 := hc; clear hc; cases hr; subst hw
        exact absurd hc13 (by decide)
      · have hc14 := hc; clear hc; cases hr; subst hw
        exact absurd hc14 (by decide)
      · have hc15 := hc; clear hc; cases hr; subst hw
        exact absurd hc15 (by decide)
      · have hc16 := hc; clear hc; cases hr; subst hw
        refine rn_stk [.int (1 : Int32)] rfl ?_
        refine rn_if_eq (tgt := 51) dX10_take_46 (by decide) (fun h17 => absurd h17 (by decide)) (fun h17 => ?_)
        refine rn_iconst (v := (0 : Int32)) dX10_take_49 (by decide) ?_
        exact rn_iret dX10_take_50 rfl rfl (Or.inr ⟨⟨hc8, hc10, hc16⟩, rfl, rfl⟩)
    · have hc18 := hc; clear hc; cases hr; subst hw
      exact absurd hc18 (by decide)
    · have hc19 := hc; clear hc; cases hr; subst hw
      exact absurd hc19 (by decide)
    · have hc20 := hc; clear hc; cases hr; subst hw
      exact absurd hc20 (by decide)
