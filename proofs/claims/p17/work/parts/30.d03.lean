abbrev q_t_X10_sum (G : rn_G) (S : ts_S) (ws : va_W) : rn_R → va_W → Prop := rQ (fun v w => St G S [30, 33] ws S w ∧ (∃ x : Int32, v = some (.int x) ∧ Rg (0) (65535) x ∧ fK1 4 S ws w)) (fun E w => False)
set_option maxRecDepth 20000 in
set_option maxHeartbeats 4000000 in
theorem t_X10_sum (G : rn_G) (S : ts_S) (ws : va_W) (hW : ts_W G S ws) (o0_ : Nat) (m0_ : (o0_, 30) ∈ S) : Rn G mX10_sum 3 66 0 0 0 (lv_args 0 [.ref o0_]) [] ws (q_t_X10_sum G S ws ) := by
  have hS0 : St G S [30, 33] ws S ws := St.rf hW
  have fk0 : fK1 4 S ws ws := fun v h => h
  refine rn_lv [(0, .ref o0_)] rfl ?_
  refine rn_aload_n (i := 0) dX10_sum_0 rfl rfl ?_
  refine rn_iconst (v := (0 : Int32)) dX10_sum_1 (by decide) ?_
  obtain ⟨q1, fs1, hq1, hl1, hf1⟩ := ts_obj hS0.1 m0_ hk_30
  refine rs_put q1 (kp_SGModel_137 _) hS0 hq1 hl1 hf1 hk_30 rfl rfl (tv_i (rg_w rk_0 (by decide) (by decide))) rfl rfl dX10_sum_2 (fun w2 fs3 hS3 hl3 hf3 hx3 ho3 hn3 => ?_)
  have fk4 : fK1 4 S ws w2 := fk_put fk0 hS0.1 hq1 hl1 hl3 ho3 (by decide)
  refine rn_aload_n (i := 0) dX10_sum_5 rfl rfl ?_
  refine rn_aload_n (i := 0) dX10_sum_6 rfl rfl ?_
  obtain ⟨x5, hx5, rx5⟩ := fs_i hf3 3 rfl
  refine rn_get q1 kg_SGModel_168 hl3 hx5 dX10_sum_7 ?_
  refine rn_bipush (v := (20 : Int32)) dX10_sum_10 (by decide) ?_
  refine rn_icmp_ge (tgt := 19) dX10_sum_12 (by decide) (fun h6 => ?_) (fun h6 => ?_)
  · have ch6 := cv_le h6
    have r7 : Rg (20) (2000) x5 := rf_ley ch6 rk_20 rx5 (by decide)
    refine rn_iconst (v := (0 : Int32)) dX10_sum_19 (by decide) ?_
    refine rn_iconst (v := (1 : Int32)) dX10_sum_20 (by decide) ?_
    refine rn_inV (d' := 0) (z' := 0) [.int (0 : Int32), .int (1 : Int32)] kl_SGModel_171 dX10_sum_21 q1 hl3 rfl rfl rfl (Nat.le_of_ble_eq_true rfl) (Nat.le_of_ble_eq_true rfl) (Nat.le_of_ble_eq_true rfl) (Nat.le_of_ble_eq_true rfl) ?_
    refine rn_lv [(0, .ref o0_), (1, .int (0 : Int32)), (2, .int (1 : Int32))] rfl ?_
    refine rn_aload_n (i := 0) dX10_refuses_0 rfl rfl ?_
    refine rn_get q1 kg_SGModel_137 hl3 hx3 dX10_refuses_1 ?_
    refine rn_if_ne (tgt := 16) dX10_refuses_4 (by decide) (fun h8 => (cx_ne (cv_ne h8) rk_0 rk_0 (by decide)).elim) (fun h8 => ?_)
    refine rn_iload_n (i := 1) dX10_refuses_7 rfl rfl ?_
    refine rn_if_eq (tgt := 16) dX10_refuses_8 (by decide) (fun h9 => ?_) (fun h9 => (cx_ne (cv_ne h9) rk_0 rk_0 (by decide)).elim)
    refine rn_aload_n (i := 0) dX10_refuses_16 rfl rfl ?_
    refine rn_get q1 kg_SGModel_137 hl3 hx3 dX10_refuses_17 ?_
    refine rn_if_le (tgt := 27) dX10_refuses_20 (by decide) (fun h10 => ?_) (fun h10 => (cx_lt (cv_nle h10) rk_0 rk_0 (by decide)).elim)
    refine rn_iconst (v := (0 : Int32)) dX10_refuses_27 (by decide) ?_
    refine rn_iret dX10_refuses_28 rfl rfl (rq_in ?_)
    refine rn_stk [.int (0 : Int32)] rfl ?_
    refine rn_if_eq (tgt := 29) dX10_sum_24 (by decide) (fun h11 => ?_) (fun h11 => (cx_ne (cv_ne h11) rk_0 rk_0 (by decide)).elim)
    refine rn_aload_n (i := 0) dX10_sum_29 rfl rfl ?_
    refine rn_iconst (v := (0 : Int32)) dX10_sum_30 (by decide) ?_
    refine rn_callV (a := 0) (b := 0) [.int (0 : Int32)] kl_SGModel_184 dX10_sum_31 q1 hl3 rfl (t_X10_setSum G S w2 hS3.1 o0_ m0_ (0 : Int32) (rg_w rk_0 (by decide) (by decide))) rfl rfl (Nat.le_of_ble_eq_true rfl) (Nat.le_of_ble_eq_true rfl) (Nat.le_of_ble_eq_true rfl) (Nat.le_of_ble_eq_true rfl) (Nat.le_of_ble_eq_true rfl) (Nat.le_of_ble_eq_true rfl) (fun _ _ h => False.elim h) (fun v9 w12 h13 => ?_)
    obtain ⟨hT14, rfl, xah13⟩ := h13
    have hS14 := St.tr hS3 hT14 rfl
    have fk15 : fK1 4 S ws w12 := fk_fr fk4 hT14 rfl
    refine rn_stk [] rfl ?_
    refine rn_aload_n (i := 0) dX10_sum_34 rfl rfl ?_
    refine rn_bipush (v := (10 : Int32)) dX10_sum_35 (by decide) ?_
    refine rn_callV (a := 0) (b := 0) [.int (10 : Int32)] kl_SGModel_140 dX10_sum_37 q1 (hT14.fr hq1 rfl hl3) rfl (t_X10_two G S w12 hS14.1 o0_ m0_ (10 : Int32) (rg_w rk_10 (by decide) (by decide))) rfl rfl (Nat.le_of_ble_eq_true rfl) (Nat.le_of_ble_eq_true rfl) (Nat.le_of_ble_eq_true rfl) (Nat.le_of_ble_eq_true rfl) (Nat.le_of_ble_eq_true rfl) (Nat.le_of_ble_eq_true rfl) (fun _ _ h => False.elim h) (fun v9 w16 h17 => ?_)
    obtain ⟨rfl, v18, rfl, rv18, xah17⟩ := h17
    refine rn_stk [.int v18] rfl ?_
    exact rn_iret dX10_sum_40 rfl rfl (rq_in ⟨hS14, v18, rfl, rv18, fk15⟩)
  · have ch6 := cv_nle h6
    have r20 : Rg (0) (19) x5 := rf_ltx ch6 rx5 rk_20 (by decide)
    refine rn_iconst (v := (1 : Int32)) dX10_sum_15 (by decide) ?_
    refine rn_goto (tgt := 20) dX10_sum_16 (by decide) ?_
    refine rn_iconst (v := (1 : Int32)) dX10_sum_20 (by decide) ?_
    refine rn_inV (d' := 0) (z' := 0) [.int (1 : Int32), .int (1 : Int32)] kl_SGModel_171 dX10_sum_21 q1 hl3 rfl rfl rfl (Nat.le_of_ble_eq_true rfl) (Nat.le_of_ble_eq_true rfl) (Nat.le_of_ble_eq_true rfl) (Nat.le_of_ble_eq_true rfl) ?_
    refine rn_lv [(0, .ref o0_), (1, .int (1 : Int32)), (2, .int (1 : Int32))] rfl ?_
    refine rn_aload_n (i := 0) dX10_refuses_0 rfl rfl ?_
    refine rn_get q1 kg_SGModel_137 hl3 hx3 dX10_refuses_1 ?_
    refine rn_if_ne (tgt := 16) dX10_refuses_4 (by decide) (fun h21 => (cx_ne (cv_ne h21) rk_0 rk_0 (by decide)).elim) (fun h21 => ?_)
    refine rn_iload_n (i := 1) dX10_refuses_7 rfl rfl ?_
    refine rn_if_eq (tgt := 16) dX10_refuses_8 (by decide) (fun h22 => (cx_eq (cv_eq h22) rk_1 rk_0 (by decide)).elim) (fun h22 => ?_)
    refine rn_aload_n (i := 0) dX10_refuses_11 rfl rfl ?_
    refine rn_iload_n (i := 2) dX10_refuses_12 rfl rfl ?_
    refine rs_put q1 (kp_SGModel_137 _) hS3 hq1 hl3 hf3 hk_30 rfl rfl (tv_i (rg_w rk_1 (by decide) (by decide))) rfl rfl dX10_refuses_13 (fun w23 fs24 hS24 hl24 hf24 hx24 ho24 hn24 => ?_)
    have fk25 : fK1 4 S ws w23 := fk_put fk4 hS3.1 hq1 hl3 hl24 ho24 (by decide)
    refine rn_aload_n (i := 0) dX10_refuses_16 rfl rfl ?_
    refine rn_get q1 kg_SGModel_137 hl24 hx24 dX10_refuses_17 ?_
    refine rn_if_le (tgt := 27) dX10_refuses_20 (by decide) (fun h26 => (cx_le (cv_le h26) rk_1 rk_0 (by decide)).elim) (fun h26 => ?_)
    refine rn_iconst (v := (1 : Int32)) dX10_refuses_23 (by decide) ?_
    refine rn_goto (tgt := 28) dX10_refuses_24 (by decide) ?_
    refine rn_iret dX10_refuses_28 rfl rfl (rq_in ?_)
    refine rn_stk [.int (1 : Int32)] rfl ?_
    refine rn_if_eq (tgt := 29) dX10_sum_24 (by decide) (fun h27 => (cx_eq (cv_eq h27) rk_1 rk_0 (by decide)).elim) (fun h27 => ?_)
    refine rn_iconst (v := (0 : Int32)) dX10_sum_27 (by decide) ?_
    exact rn_iret dX10_sum_28 rfl rfl (rq_in ⟨hS24, (0 : Int32), rfl, (rg_w rk_0 (by decide) (by decide)), fk25⟩)
abbrev q_t_X10_route (G : rn_G) (S : ts_S) (ws : va_W) (x1_ x2_ x3_ : Int32) : rn_R → va_W → Prop := rQ (fun v w => St G S [30, 36, 37, 38] ws S w ∧ (∃ x : Int32, v = some (.int x) ∧ Rg (0) (16) x ∧ ((rok x2_ x3_ ∧ ∀ (n : Nat) (net w9 p : Nat → Int32), TM S ws n net w9 p → n < 16 ∧ TM S w (n + 1) (upd net n x1_) (upd w9 n x2_) (upd p n x3_)) ∨ ((¬ rok x2_ x3_ ∨ (∀ (n : Nat) (net w9 p : Nat → Int32), TM S ws n net w9 p → 16 ≤ n)) ∧ ∀ (n : Nat) (net w9 p : Nat → Int32), TM S ws n net w9 p → TM S w n net w9 p)))) (fun E w => False)
set_option maxRecDepth 20000 in
set_option maxHeartbeats 4000000 in
theorem t_X10_route (G : rn_G) (S : ts_S) (ws : va_W) (hW : ts_W G S ws) (o0_ : Nat) (m0_ : (o0_, 30) ∈ S) (x1_ : Int32) (x2_ : Int32) (x3_ : Int32) : Rn G mX10_route 1 22 0 0 0 (lv_args 0 [.ref o0_, .int x1_, .int x2_, .int x3_]) [] ws (q_t_X10_route G S ws x1_ x2_ x3_) := by
  have hS0 : St G S [30, 36, 37, 38] ws S ws := St.rf hW
  obtain ⟨q1, fs1, hq1, hl1, hf1⟩ := ts_obj hS0.1 m0_ hk_30
  obtain ⟨x2, hx2, rx2⟩ := fs_i hf1 4 rfl
  obtain ⟨o3, hx3, m3⟩ := fs_r hf1 5 rfl
  obtain ⟨q4, f4, hq4, hl4, hf4⟩ := ts_ia hS0.1 m3 hk_36
  obtain ⟨o5, hx5, m5⟩ := fs_r hf1 6 rfl
  obtain ⟨q6, f6, hq6, hl6, hf6⟩ := ts_ia hS0.1 m5 hk_37
  obtain ⟨o7, hx7, m7⟩ := fs_r hf1 7 rfl
  obtain ⟨q8, f8, hq8, hl8, hf8⟩ := ts_ia hS0.1 m7 hk_38
  refine rn_lv [(0, .ref o0_), (1, .int x1_), (2, .int x2_), (3, .int x3_)] rfl ?_
  refine rn_aload_n (i := 0) dX10_route_0 rfl rfl ?_
  refine rn_iconst (v := (0 : Int32)) dX10_route_1 (by decide) ?_
  refine rs_put q1 (kp_SGModel_137 _) hS0 hq1 hl1 hf1 hk_30 rfl rfl (tv_i (rg_w rk_0 (by decide) (by decide))) rfl rfl dX10_route_2 (fun w9 fs10 hS10 hl10 hf10 hx10 ho10 hn10 => ?_)
  refine rn_aload_n (i := 0) dX10_route_5 rfl rfl ?_
  refine rn_iload_n (i := 2) dX10_route_6 rfl rfl ?_
  refine rn_iconst (v := (0 : Int32)) dX10_route_7 (by decide) ?_
  refine rn_bipush (v := (32 : Int32)) dX10_route_8 (by decide) ?_
  refine rn_inS (d' := 0) (z' := 0) [.int x2_, .int (0 : Int32), .int (32 : Int32)] kl_SGModel_179 dX10_route_10 rfl rfl (Nat.le_of_ble_eq_true rfl) (Nat.le_of_ble_eq_true rfl) (Nat.le_of_ble_eq_true rfl) (Nat.le_of_ble_eq_true rfl) ?_
  refine rn_lv [(0, .int x2_), (1, .int (0 : Int32)), (2, .int (32 : Int32))] rfl ?_
  refine rn_iload_n (i := 0) dX10_in_0 rfl rfl ?_
  refine rn_iload_n (i := 1) dX10_in_1 rfl rfl ?_
  refine rn_icmp_lt (tgt := 14) dX10_in_2 (by decide) (fun h11 => ?_) (fun h11 => ?_)
  · have ch11 := cv_lt h11
    have r12 : Rg (-2147483648) (-1) x2_ := rf_ltx ch11 (rg_any x2_) rk_0 (by decide)
    refine rn_iconst (v := (0 : Int32)) dX10_in_14 (by decide) ?_
    refine rn_iret dX10_in_15 rfl rfl (rq_in ?_)
    refine rn_stk [.int (0 : Int32), .ref o0_] rfl ?_
    refine rn_if_eq (tgt := 25) dX10_route_13 (by decide) (fun h13 => ?_) (fun h13 => (cx_ne (cv_ne h13) rk_0 rk_0 (by decide)).elim)
    refine rn_iconst (v := (1 : Int32)) dX10_route_25 (by decide) ?_
    refine rn_goto (tgt := 30) dX10_route_26 (by decide) ?_
    refine rn_iconst (v := (1 : Int32)) dX10_route_30 (by decide) ?_
    refine rn_inV (d' := 0) (z' := 0) [.int (1 : Int32), .int (1 : Int32)] kl_SGModel_171 dX10_route_31 q1 hl10 rfl rfl rfl (Nat.le_of_ble_eq_true rfl) (Nat.le_of_ble_eq_true rfl) (Nat.le_of_ble_eq_true rfl) (Nat.le_of_ble_eq_true rfl) ?_
    refine rn_lv [(0, .ref o0_), (1, .int (1 : Int32)), (2, .int (1 : Int32))] rfl ?_
    refine rn_aload_n (i := 0) dX10_refuses_0 rfl rfl ?_
    refine rn_get q1 kg_SGModel_137 hl10 hx10 dX10_refuses_1 ?_
    refine rn_if_ne (tgt := 16) dX10_refuses_4 (by decide) (fun h14 => (cx_ne (cv_ne h14) rk_0 rk_0 (by decide)).elim) (fun h14 => ?_)
    refine rn_iload_n (i := 1) dX10_refuses_7 rfl rfl ?_
    refine rn_if_eq (tgt := 16) dX10_refuses_8 (by decide) (fun h15 => (cx_eq (cv_eq h15) rk_1 rk_0 (by decide)).elim) (fun h15 => ?_)
    refine rn_aload_n (i := 0) dX10_refuses_11 rfl rfl ?_
    refine rn_iload_n (i := 2) dX10_refuses_12 rfl rfl ?_
    refine rs_put q1 (kp_SGModel_137 _) hS10 hq1 hl10 hf10 hk_30 rfl rfl (tv_i (rg_w rk_1 (by decide) (by decide))) rfl rfl dX10_refuses_13 (fun w16 fs17 hS17 hl17 hf17 hx17 ho17 hn17 => ?_)
    refine rn_aload_n (i := 0) dX10_refuses_16 rfl rfl ?_
    refine rn_get q1 kg_SGModel_137 hl17 hx17 dX10_refuses_17 ?_
    refine rn_if_le (tgt := 27) dX10_refuses_20 (by decide) (fun h18 => (cx_le (cv_le h18) rk_1 rk_0 (by decide)).elim) (fun h18 => ?_)
    refine rn_iconst (v := (1 : Int32)) dX10_refuses_23 (by decide) ?_
    refine rn_goto (tgt := 28) dX10_refuses_24 (by decide) ?_
    refine rn_iret dX10_refuses_28 rfl rfl (rq_in ?_)
    refine rn_stk [.int (1 : Int32)] rfl ?_
    refine rn_if_ne (tgt := 59) dX10_route_34 (by decide) (fun h19 => ?_) (fun h19 => (cx_eq (cv_eq h19) rk_1 rk_0 (by decide)).elim)
    refine rn_iconst (v := (0 : Int32)) dX10_route_59 (by decide) ?_
    exact rn_iret dX10_route_60 rfl rfl (rq_in ⟨hS17, (0 : Int32), rfl, (rg_w rk_0 (by decide) (by decide)), (Or.inr ⟨Or.inl (by unfold rok; have := rk_32.1; have := rk_32.2; have := rk_1.1; have := rk_1.2; have := rk_0.1; have := rk_0.2; omega), fun n net w9 p hT => tm_keep hW hT ⟨q1, o0_, fs1, hq1, hl1, hx2⟩ ⟨q4, o3, _, _, hq4, hl4⟩ ⟨q6, o5, _, _, hq6, hl6⟩ ⟨q8, o7, _, _, hq8, hl8⟩ ⟨q1, o0_, fs17, hq1, hl17, ((ho17 4 (by decide)).trans ((ho10 4 (by decide)).trans hx2))⟩ ⟨q4, o3, _, _, hq4, ((hn17 _ (ts_ne hq1 hq4 rfl)).trans ((hn10 _ (ts_ne hq1 hq4 rfl)).trans hl4))⟩ ⟨q6, o5, _, _, hq6, ((hn17 _ (ts_ne hq1 hq6 rfl)).trans ((hn10 _ (ts_ne hq1 hq6 rfl)).trans hl6))⟩ ⟨q8, o7, _, _, hq8, ((hn17 _ (ts_ne hq1 hq8 rfl)).trans ((hn10 _ (ts_ne hq1 hq8 rfl)).trans hl8))⟩⟩)⟩)
  · have ch11 := cv_nlt h11
    have r20 : Rg (0) (2147483647) x2_ := rf_ley ch11 rk_0 (rg_any x2_) (by decide)
    refine rn_iload_n (i := 0) dX10_in_5 rfl rfl ?_
    refine rn_iload_n (i := 2) dX10_in_6 rfl rfl ?_
    refine rn_icmp_gt (tgt := 14) dX10_in_7 (by decide) (fun h21 => ?_) (fun h21 => ?_)
    · have ch21 := cv_lt h21
      have r22 : Rg (33) (2147483647) x2_ := rf_lty ch21 rk_32 r20 (by decide)
      refine rn_iconst (v := (0 : Int32)) dX10_in_14 (by decide) ?_
      refine rn_iret dX10_in_15 rfl rfl (rq_in ?_)
      refine rn_stk [.int (0 : Int32), .ref o0_] rfl ?_
      refine rn_if_eq (tgt := 25) dX10_route_13 (by decide) (fun h23 => ?_) (fun h23 => (cx_ne (cv_ne h23) rk_0 rk_0 (by decide)).elim)
      refine rn_iconst (v := (1 : Int32)) dX10_route_25 (by decide) ?_
      refine rn_goto (tgt := 30) dX10_route_26 (by decide) ?_
      refine rn_iconst (v := (1 : Int32)) dX10_route_30 (by decide) ?_
      refine rn_inV (d' := 0) (z' := 0) [.int (1 : Int32), .int (1 : Int32)] kl_SGModel_171 dX10_route_31 q1 hl10 rfl rfl rfl (Nat.le_of_ble_eq_true rfl) (Nat.le_of_ble_eq_true rfl) (Nat.le_of_ble_eq_true rfl) (Nat.le_of_ble_eq_true rfl) ?_
      refine rn_lv [(0, .ref o0_), (1, .int (1 : Int32)), (2, .int (1 : Int32))] rfl ?_
      refine rn_aload_n (i := 0) dX10_refuses_0 rfl rfl ?_
      refine rn_get q1 kg_SGModel_137 hl10 hx10 dX10_refuses_1 ?_
      refine rn_if_ne (tgt := 16) dX10_refuses_4 (by decide) (fun h24 => (cx_ne (cv_ne h24) rk_0 rk_0 (by decide)).elim) (fun h24 => ?_)
      refine rn_iload_n (i := 1) dX10_refuses_7 rfl rfl ?_
      refine rn_if_eq (tgt := 16) dX10_refuses_8 (by decide) (fun h25 => (cx_eq (cv_eq h25) rk_1 rk_0 (by decide)).elim) (fun h25 => ?_)
      refine rn_aload_n (i := 0) dX10_refuses_11 rfl rfl ?_
      refine rn_iload_n (i := 2) dX10_refuses_12 rfl rfl ?_
      refine rs_put q1 (kp_SGModel_137 _) hS10 hq1 hl10 hf10 hk_30 rfl rfl (tv_i (rg_w rk_1 (by decide) (by decide))) rfl rfl dX10_refuses_13 (fun w26 fs27 hS27 hl27 hf27 hx27 ho27 hn27 => ?_)
      refine rn_aload_n (i := 0) dX10_refuses_16 rfl rfl ?_
      refine rn_get q1 kg_SGModel_137 hl27 hx27 dX10_refuses_17 ?_
      refine rn_if_le (tgt := 27) dX10_refuses_20 (by decide) (fun h28 => (cx_le (cv_le h28) rk_1 rk_0 (by decide)).elim) (fun h28 => ?_)
      refine rn_iconst (v := (1 : Int32)) dX10_refuses_23 (by decide) ?_
      refine rn_goto (tgt := 28) dX10_refuses_24 (by decide) ?_
      refine rn_iret dX10_refuses_28 rfl rfl (rq_in ?_)
      refine rn_stk [.int (1 : Int32)] rfl ?_
      refine rn_if_ne (tgt := 59) dX10_route_34 (by decide) (fun h29 => ?_) (fun h29 => (cx_eq (cv_eq h29) rk_1 rk_0 (by decide)).elim)
      refine rn_iconst (v := (0 : Int32)) dX10_route_59 (by decide) ?_
      exact rn_iret dX10_route_60 rfl rfl (rq_in ⟨hS27, (0 : Int32), rfl, (rg_w rk_0 (by decide) (by decide)), (Or.inr ⟨Or.inl (by unfold rok; have := rk_32.1; have := rk_32.2; have := rk_1.1; have := rk_1.2; have := rk_0.1; have := rk_0.2; omega), fun n net w9 p hT => tm_keep hW hT ⟨q1, o0_, fs1, hq1, hl1, hx2⟩ ⟨q4, o3, _, _, hq4, hl4⟩ ⟨q6, o5, _, _, hq6, hl6⟩ ⟨q8, o7, _, _, hq8, hl8⟩ ⟨q1, o0_, fs27, hq1, hl27, ((ho27 4 (by decide)).trans ((ho10 4 (by decide)).trans hx2))⟩ ⟨q4, o3, _, _, hq4, ((hn27 _ (ts_ne hq1 hq4 rfl)).trans ((hn10 _ (ts_ne hq1 hq4 rfl)).trans hl4))⟩ ⟨q6, o5, _, _, hq6, ((hn27 _ (ts_ne hq1 hq6 rfl)).trans ((hn10 _ (ts_ne hq1 hq6 rfl)).trans hl6))⟩ ⟨q8, o7, _, _, hq8, ((hn27 _ (ts_ne hq1 hq8 rfl)).trans ((hn10 _ (ts_ne hq1 hq8 rfl)).trans hl8))⟩⟩)⟩)
    · have ch21 := cv_nlt h21
      have r30 : Rg (0) (32) x2_ := rf_lex ch21 r20 rk_32 (by decide)
      refine rn_iconst (v := (1 : Int32)) dX10_in_10 (by decide) ?_
      refine rn_goto (tgt := 15) dX10_in_11 (by decide) ?_
      refine rn_iret dX10_in_15 rfl rfl (rq_in ?_)
      refine rn_stk [.int (1 : Int32), .ref o0_] rfl ?_
      refine rn_if_eq (tgt := 25) dX10_route_13 (by decide) (fun h31 => (cx_eq (cv_eq h31) rk_1 rk_0 (by decide)).elim) (fun h31 => ?_)
      refine rn_iload_n (i := 3) dX10_route_16 rfl rfl ?_
      refine rn_iconst (v := (0 : Int32)) dX10_route_17 (by decide) ?_
      refine rn_iconst (v := (1 : Int32)) dX10_route_18 (by decide) ?_
      refine rn_inS (d' := 0) (z' := 0) [.int x3_, .int (0 : Int32), .int (1 : Int32)] kl_SGModel_179 dX10_route_19 rfl rfl (Nat.le_of_ble_eq_true rfl) (Nat.le_of_ble_eq_true rfl) (Nat.le_of_ble_eq_true rfl) (Nat.le_of_ble_eq_true rfl) ?_
      refine rn_lv [(0, .int x3_), (1, .int (0 : Int32)), (2, .int (1 : Int32))] rfl ?_
      refine rn_iload_n (i := 0) dX10_in_0 rfl rfl ?_
      refine rn_iload_n (i := 1) dX10_in_1 rfl rfl ?_
      refine rn_icmp_lt (tgt := 14) dX10_in_2 (by decide) (fun h32 => ?_) (fun h32 => ?_)
      · have ch32 := cv_lt h32
        have r33 : Rg (-2147483648) (-1) x3_ := rf_ltx ch32 (rg_any x3_) rk_0 (by decide)
        refine rn_iconst (v := (0 : Int32)) dX10_in_14 (by decide) ?_
        refine rn_iret dX10_in_15 rfl rfl (rq_in ?_)
        refine rn_stk [.int (0 : Int32), .ref o0_] rfl ?_
        refine rn_if_ne (tgt := 29) dX10_route_22 (by decide) (fun h34 => (cx_ne (cv_ne h34) rk_0 rk_0 (by decide)).elim) (fun h34 => ?_)
        refine rn_iconst (v := (1 : Int32)) dX10_route_25 (by decide) ?_
        refine rn_goto (tgt := 30) dX10_route_26 (by decide) ?_
        refine rn_iconst (v := (1 : Int32)) dX10_route_30 (by decide) ?_
        refine rn_inV (d' := 0) (z' := 0) [.int (1 : Int32), .int (1 : Int32)] kl_SGModel_171 dX10_route_31 q1 hl10 rfl rfl rfl (Nat.le_of_ble_eq_true rfl) (Nat.le_of_ble_eq_true rfl) (Nat.le_of_ble_eq_true rfl) (Nat.le_of_ble_eq_true rfl) ?_
        refine rn_lv [(0, .ref o0_), (1, .int (1 : Int32)), (2, .int (1 : Int32))] rfl ?_
        refine rn_aload_n (i := 0) dX10_refuses_0 rfl rfl ?_
        refine rn_get q1 kg_SGModel_137 hl10 hx10 dX10_refuses_1 ?_
        refine rn_if_ne (tgt := 16) dX10_refuses_4 (by decide) (fun h35 => (cx_ne (cv_ne h35) rk_0 rk_0 (by decide)).elim) (fun h35 => ?_)
        refine rn_iload_n (i := 1) dX10_refuses_7 rfl rfl ?_
        refine rn_if_eq (tgt := 16) dX10_refuses_8 (by decide) (fun h36 => (cx_eq (cv_eq h36) rk_1 rk_0 (by decide)).elim) (fun h36 => ?_)
        refine rn_aload_n (i := 0) dX10_refuses_11 rfl rfl ?_
        refine rn_iload_n (i := 2) dX10_refuses_12 rfl rfl ?_
        refine rs_put q1 (kp_SGModel_137 _) hS10 hq1 hl10 hf10 hk_30 rfl rfl (tv_i (rg_w rk_1 (by decide) (by decide))) rfl rfl dX10_refuses_13 (fun w37 fs38 hS38 hl38 hf38 hx38 ho38 hn38 => ?_)
        refine rn_aload_n (i := 0) dX10_refuses_16 rfl rfl ?_
        refine rn_get q1 kg_SGModel_137 hl38 hx38 dX10_refuses_17 ?_
        refine rn_if_le (tgt := 27) dX10_refuses_20 (by decide) (fun h39 => (cx_le (cv_le h39) rk_1 rk_0 (by decide)).elim) (fun h39 => ?_)
        refine rn_iconst (v := (1 : Int32)) dX10_refuses_23 (by decide) ?_
        refine rn_goto (tgt := 28) dX10_refuses_24 (by decide) ?_
        refine rn_iret dX10_refuses_28 rfl rfl (rq_in ?_)
        refine rn_stk [.int (1 : Int32)] rfl ?_
        refine rn_if_ne (tgt := 59) dX10_route_34 (by decide) (fun h40 => ?_) (fun h40 => (cx_eq (cv_eq h40) rk_1 rk_0 (by decide)).elim)
        refine rn_iconst (v := (0 : Int32)) dX10_route_59 (by decide) ?_
        exact rn_iret dX10_route_60 rfl rfl (rq_in ⟨hS38, (0 : Int32), rfl, (rg_w rk_0 (by decide) (by decide)), (Or.inr ⟨Or.inl (by unfold rok; have := rk_32.1; have := rk_32.2; have := rk_1.1; have := rk_1.2; have := rk_0.1; have := rk_0.2; omega), fun n net w9 p hT => tm_keep hW hT ⟨q1, o0_, fs1, hq1, hl1, hx2⟩ ⟨q4, o3, _, _, hq4, hl4⟩ ⟨q6, o5, _, _, hq6, hl6⟩ ⟨q8, o7, _, _, hq8, hl8⟩ ⟨q1, o0_, fs38, hq1, hl38, ((ho38 4 (by decide)).trans ((ho10 4 (by decide)).trans hx2))⟩ ⟨q4, o3, _, _, hq4, ((hn38 _ (ts_ne hq1 hq4 rfl)).trans ((hn10 _ (ts_ne hq1 hq4 rfl)).trans hl4))⟩ ⟨q6, o5, _, _, hq6, ((hn38 _ (ts_ne hq1 hq6 rfl)).trans ((hn10 _ (ts_ne hq1 hq6 rfl)).trans hl6))⟩ ⟨q8, o7, _, _, hq8, ((hn38 _ (ts_ne hq1 hq8 rfl)).trans ((hn10 _ (ts_ne hq1 hq8 rfl)).trans hl8))⟩⟩)⟩)
      · have ch32 := cv_nlt h32
        have r41 : Rg (0) (2147483647) x3_ := rf_ley ch32 rk_0 (rg_any x3_) (by decide)
        refine rn_iload_n (i := 0) dX10_in_5 rfl rfl ?_
        refine rn_iload_n (i := 2) dX10_in_6 rfl rfl ?_
        refine rn_icmp_gt (tgt := 14) dX10_in_7 (by decide) (fun h42 => ?_) (fun h42 => ?_)
        · have ch42 := cv_lt h42
          have r43 : Rg (2) (2147483647) x3_ := rf_lty ch42 rk_1 r41 (by decide)
          refine rn_iconst (v := (0 : Int32)) dX10_in_14 (by decide) ?_
          refine rn_iret dX10_in_15 rfl rfl (rq_in ?_)
          refine rn_stk [.int (0 : Int32), .ref o0_] rfl ?_
          refine rn_if_ne (tgt := 29) dX10_route_22 (by decide) (fun h44 => (cx_ne (cv_ne h44) rk_0 rk_0 (by decide)).elim) (fun h44 => ?_)
          refine rn_iconst (v := (1 : Int32)) dX10_route_25 (by decide) ?_
          refine rn_goto (tgt := 30) dX10_route_26 (by decide) ?_
          refine rn_iconst (v := (1 : Int32)) dX10_route_30 (by decide) ?_
          refine rn_inV (d' := 0) (z' := 0) [.int (1 : Int32), .int (1 : Int32)] kl_SGModel_171 dX10_route_31 q1 hl10 rfl rfl rfl (Nat.le_of_ble_eq_true rfl) (Nat.le_of_ble_eq_true rfl) (Nat.le_of_ble_eq_true rfl) (Nat.le_of_ble_eq_true rfl) ?_
          refine rn_lv [(0, .ref o0_), (1, .int (1 : Int32)), (2, .int (1 : Int32))] rfl ?_
          refine rn_aload_n (i := 0) dX10_refuses_0 rfl rfl ?_
          refine rn_get q1 kg_SGModel_137 hl10 hx10 dX10_refuses_1 ?_
          refine rn_if_ne (tgt := 16) dX10_refuses_4 (by decide) (fun h45 => (cx_ne (cv_ne h45) rk_0 rk_0 (by decide)).elim) (fun h45 => ?_)
          refine rn_iload_n (i := 1) dX10_refuses_7 rfl rfl ?_
          refine rn_if_eq (tgt := 16) dX10_refuses_8 (by decide) (fun h46 => (cx_eq (cv_eq h46) rk_1 rk_0 (by decide)).elim) (fun h46 => ?_)
          refine rn_aload_n (i := 0) dX10_refuses_11 rfl rfl ?_
          refine rn_iload_n (i := 2) dX10_refuses_12 rfl rfl ?_
          refine rs_put q1 (kp_SGModel_137 _) hS10 hq1 hl10 hf10 hk_30 rfl rfl (tv_i (rg_w rk_1 (by decide) (by decide))) rfl rfl dX10_refuses_13 (fun w47 fs48 hS48 hl48 hf48 hx48 ho48 hn48 => ?_)
          refine rn_aload_n (i := 0) dX10_refuses_16 rfl rfl ?_
          refine rn_get q1 kg_SGModel_137 hl48 hx48 dX10_refuses_17 ?_
          refine rn_if_le (tgt := 27) dX10_refuses_20 (by decide) (fun h49 => (cx_le (cv_le h49) rk_1 rk_0 (by decide)).elim) (fun h49 => ?_)
          refine rn_iconst (v := (1 : Int32)) dX10_refuses_23 (by decide) ?_
          refine rn_goto (tgt := 28) dX10_refuses_24 (by decide) ?_
          refine rn_iret dX10_refuses_28 rfl rfl (rq_in ?_)
          refine rn_stk [.int (1 : Int32)] rfl ?_
          refine rn_if_ne (tgt := 59) dX10_route_34 (by decide) (fun h50 => ?_) (fun h50 => (cx_eq (cv_eq h50) rk_1 rk_0 (by decide)).elim)
          refine rn_iconst (v := (0 : Int32)) dX10_route_59 (by decide) ?_
          exact rn_iret dX10_route_60 rfl rfl (rq_in ⟨hS48, (0 : Int32), rfl, (rg_w rk_0 (by decide) (by decide)), (Or.inr ⟨Or.inl (by unfold rok; have := rk_32.1; have := rk_32.2; have := rk_1.1; have := rk_1.2; have := rk_0.1; have := rk_0.2; omega), fun n net w9 p hT => tm_keep hW hT ⟨q1, o0_, fs1, hq1, hl1, hx2⟩ ⟨q4, o3, _, _, hq4, hl4⟩ ⟨q6, o5, _, _, hq6, hl6⟩ ⟨q8, o7, _, _, hq8, hl8⟩ ⟨q1, o0_, fs48, hq1, hl48, ((ho48 4 (by decide)).trans ((ho10 4 (by decide)).trans hx2))⟩ ⟨q4, o3, _, _, hq4, ((hn48 _ (ts_ne hq1 hq4 rfl)).trans ((hn10 _ (ts_ne hq1 hq4 rfl)).trans hl4))⟩ ⟨q6, o5, _, _, hq6, ((hn48 _ (ts_ne hq1 hq6 rfl)).trans ((hn10 _ (ts_ne hq1 hq6 rfl)).trans hl6))⟩ ⟨q8, o7, _, _, hq8, ((hn48 _ (ts_ne hq1 hq8 rfl)).trans ((hn10 _ (ts_ne hq1 hq8 rfl)).trans hl8))⟩⟩)⟩)
        · have ch42 := cv_nlt h42
          have r51 : Rg (0) (1) x3_ := rf_lex ch42 r41 rk_1 (by decide)
          refine rn_iconst (v := (1 : Int32)) dX10_in_10 (by decide) ?_
          refine rn_goto (tgt := 15) dX10_in_11 (by decide) ?_
          refine rn_iret dX10_in_15 rfl rfl (rq_in ?_)
          refine rn_stk [.int (1 : Int32), .ref o0_] rfl ?_
          refine rn_if_ne (tgt := 29) dX10_route_22 (by decide) (fun h52 => ?_) (fun h52 => (cx_eq (cv_eq h52) rk_1 rk_0 (by decide)).elim)
          refine rn_iconst (v := (0 : Int32)) dX10_route_29 (by decide) ?_
          refine rn_iconst (v := (1 : Int32)) dX10_route_30 (by decide) ?_
          refine rn_inV (d' := 0) (z' := 0) [.int (0 : Int32), .int (1 : Int32)] kl_SGModel_171 dX10_route_31 q1 hl10 rfl rfl rfl (Nat.le_of_ble_eq_true rfl) (Nat.le_of_ble_eq_true rfl) (Nat.le_of_ble_eq_true rfl) (Nat.le_of_ble_eq_true rfl) ?_
          refine rn_lv [(0, .ref o0_), (1, .int (0 : Int32)), (2, .int (1 : Int32))] rfl ?_
          refine rn_aload_n (i := 0) dX10_refuses_0 rfl rfl ?_
          refine rn_get q1 kg_SGModel_137 hl10 hx10 dX10_refuses_1 ?_
          refine rn_if_ne (tgt := 16) dX10_refuses_4 (by decide) (fun h53 => (cx_ne (cv_ne h53) rk_0 rk_0 (by decide)).elim) (fun h53 => ?_)
          refine rn_iload_n (i := 1) dX10_refuses_7 rfl rfl ?_
          refine rn_if_eq (tgt := 16) dX10_refuses_8 (by decide) (fun h54 => ?_) (fun h54 => (cx_ne (cv_ne h54) rk_0 rk_0 (by decide)).elim)
          refine rn_aload_n (i := 0) dX10_refuses_16 rfl rfl ?_
          refine rn_get q1 kg_SGModel_137 hl10 hx10 dX10_refuses_17 ?_
          refine rn_if_le (tgt := 27) dX10_refuses_20 (by decide) (fun h55 => ?_) (fun h55 => (cx_lt (cv_nle h55) rk_0 rk_0 (by decide)).elim)
          refine rn_iconst (v := (0 : Int32)) dX10_refuses_27 (by decide) ?_
          refine rn_iret dX10_refuses_28 rfl rfl (rq_in ?_)
          refine rn_stk [.int (0 : Int32)] rfl ?_
          refine rn_if_ne (tgt := 59) dX10_route_34 (by decide) (fun h56 => (cx_ne (cv_ne h56) rk_0 rk_0 (by decide)).elim) (fun h56 => ?_)
          refine rn_aload_n (i := 0) dX10_route_37 rfl rfl ?_
          refine rn_aload_n (i := 0) dX10_route_38 rfl rfl ?_
          refine rn_get q1 kg_SGModel_188 hl10 ((ho10 4 (by decide)).trans hx2) dX10_route_39 ?_
          refine rn_bipush (v := (16 : Int32)) dX10_route_42 (by decide) ?_
          refine rn_icmp_ne (tgt := 51) dX10_route_44 (by decide) (fun h57 => ?_) (fun h57 => ?_)
          · have ch57 := cv_ne h57
            have r58 : Rg (0) (15) x2 := rf_neh ch57 rx2 rk_16 (by decide) (by decide)
            refine rn_iconst (v := (0 : Int32)) dX10_route_51 (by decide) ?_
            refine rn_iconst (v := (2 : Int32)) dX10_route_52 (by decide) ?_
            refine rn_inV (d' := 0) (z' := 0) [.int (0 : Int32), .int (2 : Int32)] kl_SGModel_171 dX10_route_53 q1 hl10 rfl rfl rfl (Nat.le_of_ble_eq_true rfl) (Nat.le_of_ble_eq_true rfl) (Nat.le_of_ble_eq_true rfl) (Nat.le_of_ble_eq_true rfl) ?_
            refine rn_lv [(0, .ref o0_), (1, .int (0 : Int32)), (2, .int (2 : Int32))] rfl ?_
            refine rn_aload_n (i := 0) dX10_refuses_0 rfl rfl ?_
            refine rn_get q1 kg_SGModel_137 hl10 hx10 dX10_refuses_1 ?_
            refine rn_if_ne (tgt := 16) dX10_refuses_4 (by decide) (fun h59 => (cx_ne (cv_ne h59) rk_0 rk_0 (by decide)).elim) (fun h59 => ?_)
            refine rn_iload_n (i := 1) dX10_refuses_7 rfl rfl ?_
            refine rn_if_eq (tgt := 16) dX10_refuses_8 (by decide) (fun h60 => ?_) (fun h60 => (cx_ne (cv_ne h60) rk_0 rk_0 (by decide)).elim)
            refine rn_aload_n (i := 0) dX10_refuses_16 rfl rfl ?_
            refine rn_get q1 kg_SGModel_137 hl10 hx10 dX10_refuses_17 ?_
            refine rn_if_le (tgt := 27) dX10_refuses_20 (by decide) (fun h61 => ?_) (fun h61 => (cx_lt (cv_nle h61) rk_0 rk_0 (by decide)).elim)
            refine rn_iconst (v := (0 : Int32)) dX10_refuses_27 (by decide) ?_
            refine rn_iret dX10_refuses_28 rfl rfl (rq_in ?_)
            refine rn_stk [.int (0 : Int32)] rfl ?_
            refine rn_if_eq (tgt := 61) dX10_route_56 (by decide) (fun h62 => ?_) (fun h62 => (cx_ne (cv_ne h62) rk_0 rk_0 (by decide)).elim)
            refine rn_aload_n (i := 0) dX10_route_61 rfl rfl ?_
            refine rn_get q1 kg_SGModel_13 hl10 ((ho10 5 (by decide)).trans hx3) dX10_route_62 ?_
            refine rn_aload_n (i := 0) dX10_route_65 rfl rfl ?_
            refine rn_get q1 kg_SGModel_188 hl10 ((ho10 4 (by decide)).trans hx2) dX10_route_66 ?_
            refine rn_iload_n (i := 1) dX10_route_69 rfl rfl ?_
            refine rs_iast q4 hS10 hq4 ((hn10 _ (ts_ne hq1 hq4 rfl)).trans hl4) hf4 hk_36 rfl rfl r58 (by decide) (by decide) (rg_any x1_) dX10_route_70 (fun w63 f64 hS64 hl64 hf64 hu64 hn64 => ?_)
            refine rn_aload_n (i := 0) dX10_route_71 rfl rfl ?_
            refine rn_get q1 kg_SGModel_16 ((hn64 _ (ts_ne hq4 hq1 rfl)).trans hl10) ((ho10 6 (by decide)).trans hx5) dX10_route_72 ?_
            refine rn_aload_n (i := 0) dX10_route_75 rfl rfl ?_
            refine rn_get q1 kg_SGModel_188 ((hn64 _ (ts_ne hq4 hq1 rfl)).trans hl10) ((ho10 4 (by decide)).trans hx2) dX10_route_76 ?_
            refine rn_iload_n (i := 2) dX10_route_79 rfl rfl ?_
            refine rs_iast q6 hS64 hq6 ((hn64 _ (ts_ne hq4 hq6 rfl)).trans ((hn10 _ (ts_ne hq1 hq6 rfl)).trans hl6)) hf6 hk_37 rfl rfl r58 (by decide) (by decide) (rg_w r30 (by decide) (by decide)) dX10_route_80 (fun w65 f66 hS66 hl66 hf66 hu66 hn66 => ?_)
            refine rn_aload_n (i := 0) dX10_route_81 rfl rfl ?_
            refine rn_get q1 kg_SGModel_19 ((hn66 _ (ts_ne hq6 hq1 rfl)).trans ((hn64 _ (ts_ne hq4 hq1 rfl)).trans hl10)) ((ho10 7 (by decide)).trans hx7) dX10_route_82 ?_
            refine rn_aload_n (i := 0) dX10_route_85 rfl rfl ?_
            refine rn_get q1 kg_SGModel_188 ((hn66 _ (ts_ne hq6 hq1 rfl)).trans ((hn64 _ (ts_ne hq4 hq1 rfl)).trans hl10)) ((ho10 4 (by decide)).trans hx2) dX10_route_86 ?_
            refine rn_iload_n (i := 3) dX10_route_89 rfl rfl ?_
            refine rs_iast q8 hS66 hq8 ((hn66 _ (ts_ne hq6 hq8 rfl)).trans ((hn64 _ (ts_ne hq4 hq8 rfl)).trans ((hn10 _ (ts_ne hq1 hq8 rfl)).trans hl8))) hf8 hk_38 rfl rfl r58 (by decide) (by decide) (rg_w r51 (by decide) (by decide)) dX10_route_90 (fun w67 f68 hS68 hl68 hf68 hu68 hn68 => ?_)
            refine rn_aload_n (i := 0) dX10_route_91 rfl rfl ?_
            refine rn_dup dX10_route_92 rfl ?_
            refine rn_get q1 kg_SGModel_188 ((hn68 _ (ts_ne hq8 hq1 rfl)).trans ((hn66 _ (ts_ne hq6 hq1 rfl)).trans ((hn64 _ (ts_ne hq4 hq1 rfl)).trans hl10))) ((ho10 4 (by decide)).trans hx2) dX10_route_93 ?_
            refine rn_iconst (v := (1 : Int32)) dX10_route_96 (by decide) ?_
            refine rs_addC (1) (16) r58 rk_1 dX10_route_97 (by decide) (fun v69 ev69 rv69 => ?_)
            refine rs_put q1 (kp_SGModel_188 _) hS68 hq1 ((hn68 _ (ts_ne hq8 hq1 rfl)).trans ((hn66 _ (ts_ne hq6 hq1 rfl)).trans ((hn64 _ (ts_ne hq4 hq1 rfl)).trans hl10))) hf10 hk_30 rfl rfl (tv_i (rg_w rv69 (by decide) (by decide))) rfl rfl dX10_route_98 (fun w70 fs71 hS71 hl71 hf71 hx71 ho71 hn71 => ?_)
            refine rn_aload_n (i := 0) dX10_route_101 rfl rfl ?_
            refine rn_get q1 kg_SGModel_188 hl71 hx71 dX10_route_102 ?_
            exact rn_iret dX10_route_105 rfl rfl (rq_in ⟨hS71, v69, rfl, (rg_w rv69 (by decide) (by decide)), (Or.inl ⟨(by unfold rok; have := rk_32.1; have := rk_32.2; have := rk_1.1; have := rk_1.2; have := rk_0.1; have := rk_0.2; omega), fun n net w9 p hT => by have hn := mt_n hW hT ⟨q1, o0_, fs1, hq1, hl1, hx2⟩; exact ⟨by have := rk_16.1; have := rk_16.2; have := r58.1; have := r58.2; omega, tm_add hW hT ⟨q1, o0_, fs1, hq1, hl1, hx2⟩ ⟨q4, o3, _, _, hq4, hl4⟩ ⟨q6, o5, _, _, hq6, hl6⟩ ⟨q8, o7, _, _, hq8, hl8⟩ ⟨q1, o0_, fs71, hq1, hl71, hx71⟩ ⟨q4, o3, _, _, hq4, ((hn71 _ (ts_ne hq1 hq4 rfl)).trans ((hn68 _ (ts_ne hq8 hq4 rfl)).trans ((hn66 _ (ts_ne hq6 hq4 rfl)).trans hl64)))⟩ ⟨q6, o5, _, _, hq6, ((hn71 _ (ts_ne hq1 hq6 rfl)).trans ((hn68 _ (ts_ne hq8 hq6 rfl)).trans hl66))⟩ ⟨q8, o7, _, _, hq8, ((hn71 _ (ts_ne hq1 hq8 rfl)).trans hl68)⟩ (show v69.toInt = x2.toInt + 1 by have := r58.1; have := r58.2; have := rv69.1; have := rv69.2; have := rk_1.1; have := rk_1.2; omega) (by have := r58.1; omega) hu64 hu66 hu68⟩⟩)⟩)
          · have ch57 := cv_eq h57
            have r72 : Rg (16) (16) x2 := rf_eqx ch57 rx2 rk_16 (by decide) (by decide)
            refine rn_iconst (v := (1 : Int32)) dX10_route_47 (by decide) ?_
            refine rn_goto (tgt := 52) dX10_route_48 (by decide) ?_
            refine rn_iconst (v := (2 : Int32)) dX10_route_52 (by decide) ?_
            refine rn_inV (d' := 0) (z' := 0) [.int (1 : Int32), .int (2 : Int32)] kl_SGModel_171 dX10_route_53 q1 hl10 rfl rfl rfl (Nat.le_of_ble_eq_true rfl) (Nat.le_of_ble_eq_true rfl) (Nat.le_of_ble_eq_true rfl) (Nat.le_of_ble_eq_true rfl) ?_
            refine rn_lv [(0, .ref o0_), (1, .int (1 : Int32)), (2, .int (2 : Int32))] rfl ?_
            refine rn_aload_n (i := 0) dX10_refuses_0 rfl rfl ?_
            refine rn_get q1 kg_SGModel_137 hl10 hx10 dX10_refuses_1 ?_
            refine rn_if_ne (tgt := 16) dX10_refuses_4 (by decide) (fun h73 => (cx_ne (cv_ne h73) rk_0 rk_0 (by decide)).elim) (fun h73 => ?_)
            refine rn_iload_n (i := 1) dX10_refuses_7 rfl rfl ?_
            refine rn_if_eq (tgt := 16) dX10_refuses_8 (by decide) (fun h74 => (cx_eq (cv_eq h74) rk_1 rk_0 (by decide)).elim) (fun h74 => ?_)
            refine rn_aload_n (i := 0) dX10_refuses_11 rfl rfl ?_
            refine rn_iload_n (i := 2) dX10_refuses_12 rfl rfl ?_
            refine rs_put q1 (kp_SGModel_137 _) hS10 hq1 hl10 hf10 hk_30 rfl rfl (tv_i (rg_w rk_2 (by decide) (by decide))) rfl rfl dX10_refuses_13 (fun w75 fs76 hS76 hl76 hf76 hx76 ho76 hn76 => ?_)
            refine rn_aload_n (i := 0) dX10_refuses_16 rfl rfl ?_
            refine rn_get q1 kg_SGModel_137 hl76 hx76 dX10_refuses_17 ?_
            refine rn_if_le (tgt := 27) dX10_refuses_20 (by decide) (fun h77 => (cx_le (cv_le h77) rk_2 rk_0 (by decide)).elim) (fun h77 => ?_)
            refine rn_iconst (v := (1 : Int32)) dX10_refuses_23 (by decide) ?_
            refine rn_goto (tgt := 28) dX10_refuses_24 (by decide) ?_
            refine rn_iret dX10_refuses_28 rfl rfl (rq_in ?_)
            refine rn_stk [.int (1 : Int32)] rfl ?_
            refine rn_if_eq (tgt := 61) dX10_route_56 (by decide) (fun h78 => (cx_eq (cv_eq h78) rk_1 rk_0 (by decide)).elim) (fun h78 => ?_)
            refine rn_iconst (v := (0 : Int32)) dX10_route_59 (by decide) ?_
            exact rn_iret dX10_route_60 rfl rfl (rq_in ⟨hS76, (0 : Int32), rfl, (rg_w rk_0 (by decide) (by decide)), (Or.inr ⟨Or.inr (fun n net w9 p hT => by have hn := mt_n hW hT ⟨q1, o0_, fs1, hq1, hl1, hx2⟩; have := rk_16.1; have := rk_16.2; have := r72.1; have := r72.2; omega), fun n net w9 p hT => tm_keep hW hT ⟨q1, o0_, fs1, hq1, hl1, hx2⟩ ⟨q4, o3, _, _, hq4, hl4⟩ ⟨q6, o5, _, _, hq6, hl6⟩ ⟨q8, o7, _, _, hq8, hl8⟩ ⟨q1, o0_, fs76, hq1, hl76, ((ho76 4 (by decide)).trans ((ho10 4 (by decide)).trans hx2))⟩ ⟨q4, o3, _, _, hq4, ((hn76 _ (ts_ne hq1 hq4 rfl)).trans ((hn10 _ (ts_ne hq1 hq4 rfl)).trans hl4))⟩ ⟨q6, o5, _, _, hq6, ((hn76 _ (ts_ne hq1 hq6 rfl)).trans ((hn10 _ (ts_ne hq1 hq6 rfl)).trans hl6))⟩ ⟨q8, o7, _, _, hq8, ((hn76 _ (ts_ne hq1 hq8 rfl)).trans ((hn10 _ (ts_ne hq1 hq8 rfl)).trans hl8))⟩⟩)⟩)
abbrev q_t_X10_peer (G : rn_G) (S : ts_S) (ws : va_W) : rn_R → va_W → Prop := rQ (fun v w => St G S [30, 39] ws S w ∧ (∃ x : Int32, v = some (.int x) ∧ Rg (-2147483648) (2147483647) x ∧ fK1 4 S ws w)) (fun E w => False)
set_option maxRecDepth 20000 in
set_option maxHeartbeats 4000000 in
theorem t_X10_peer (G : rn_G) (S : ts_S) (ws : va_W) (hW : ts_W G S ws) (o0_ : Nat) (m0_ : (o0_, 30) ∈ S) (x1_ : Int32) (x2_ : Int32) : Rn G mX10_peer 1 22 0 0 0 (lv_args 0 [.ref o0_, .int x1_, .int x2_]) [] ws (q_t_X10_peer G S ws ) := by
  have hS0 : St G S [30, 39] ws S ws := St.rf hW
  have fk0 : fK1 4 S ws ws := fun v h => h
  refine rn_lv [(0, .ref o0_), (1, .int x1_), (2, .int x2_)] rfl ?_
  refine rn_aload_n (i := 0) dX10_peer_0 rfl rfl ?_
  refine rn_iconst (v := (0 : Int32)) dX10_peer_1 (by decide) ?_
  obtain ⟨q1, fs1, hq1, hl1, hf1⟩ := ts_obj hS0.1 m0_ hk_30
  refine rs_put q1 (kp_SGModel_137 _) hS0 hq1 hl1 hf1 hk_30 rfl rfl (tv_i (rg_w rk_0 (by decide) (by decide))) rfl rfl dX10_peer_2 (fun w2 fs3 hS3 hl3 hf3 hx3 ho3 hn3 => ?_)
  have fk4 : fK1 4 S ws w2 := fk_put fk0 hS0.1 hq1 hl1 hl3 ho3 (by decide)
  refine rn_aload_n (i := 0) dX10_peer_5 rfl rfl ?_
  refine rn_iload_n (i := 1) dX10_peer_6 rfl rfl ?_
  refine rn_iconst (v := (0 : Int32)) dX10_peer_7 (by decide) ?_
  refine rn_iconst (v := (3 : Int32)) dX10_peer_8 (by decide) ?_
  refine rn_inS (d' := 0) (z' := 0) [.int x1_, .int (0 : Int32), .int (3 : Int32)] kl_SGModel_179 dX10_peer_9 rfl rfl (Nat.le_of_ble_eq_true rfl) (Nat.le_of_ble_eq_true rfl) (Nat.le_of_ble_eq_true rfl) (Nat.le_of_ble_eq_true rfl) ?_
  refine rn_lv [(0, .int x1_), (1, .int (0 : Int32)), (2, .int (3 : Int32))] rfl ?_
  refine rn_iload_n (i := 0) dX10_in_0 rfl rfl ?_
  refine rn_iload_n (i := 1) dX10_in_1 rfl rfl ?_
  refine rn_icmp_lt (tgt := 14) dX10_in_2 (by decide) (fun h5 => ?_) (fun h5 => ?_)
  · have ch5 := cv_lt h5
    have r6 : Rg (-2147483648) (-1) x1_ := rf_ltx ch5 (rg_any x1_) rk_0 (by decide)
    refine rn_iconst (v := (0 : Int32)) dX10_in_14 (by decide) ?_
    refine rn_iret dX10_in_15 rfl rfl (rq_in ?_)
    refine rn_stk [.int (0 : Int32), .ref o0_] rfl ?_
    refine rn_if_ne (tgt := 19) dX10_peer_12 (by decide) (fun h7 => (cx_ne (cv_ne h7) rk_0 rk_0 (by decide)).elim) (fun h7 => ?_)
    refine rn_iconst (v := (1 : Int32)) dX10_peer_15 (by decide) ?_
    refine rn_goto (tgt := 20) dX10_peer_16 (by decide) ?_
    refine rn_iconst (v := (1 : Int32)) dX10_peer_20 (by decide) ?_
    refine rn_inV (d' := 0) (z' := 0) [.int (1 : Int32), .int (1 : Int32)] kl_SGModel_171 dX10_peer_21 q1 hl3 rfl rfl rfl (Nat.le_of_ble_eq_true rfl) (Nat.le_of_ble_eq_true rfl) (Nat.le_of_ble_eq_true rfl) (Nat.le_of_ble_eq_true rfl) ?_
    refine rn_lv [(0, .ref o0_), (1, .int (1 : Int32)), (2, .int (1 : Int32))] rfl ?_
    refine rn_aload_n (i := 0) dX10_refuses_0 rfl rfl ?_
    refine rn_get q1 kg_SGModel_137 hl3 hx3 dX10_refuses_1 ?_
    refine rn_if_ne (tgt := 16) dX10_refuses_4 (by decide) (fun h8 => (cx_ne (cv_ne h8) rk_0 rk_0 (by decide)).elim) (fun h8 => ?_)
    refine rn_iload_n (i := 1) dX10_refuses_7 rfl rfl ?_
    refine rn_if_eq (tgt := 16) dX10_refuses_8 (by decide) (fun h9 => (cx_eq (cv_eq h9) rk_1 rk_0 (by decide)).elim) (fun h9 => ?_)
    refine rn_aload_n (i := 0) dX10_refuses_11 rfl rfl ?_
    refine rn_iload_n (i := 2) dX10_refuses_12 rfl rfl ?_
    refine rs_put q1 (kp_SGModel_137 _) hS3 hq1 hl3 hf3 hk_30 rfl rfl (tv_i (rg_w rk_1 (by decide) (by decide))) rfl rfl dX10_refuses_13 (fun w10 fs11 hS11 hl11 hf11 hx11 ho11 hn11 => ?_)
    have fk12 : fK1 4 S ws w10 := fk_put fk4 hS3.1 hq1 hl3 hl11 ho11 (by decide)
    refine rn_aload_n (i := 0) dX10_refuses_16 rfl rfl ?_
    refine rn_get q1 kg_SGModel_137 hl11 hx11 dX10_refuses_17 ?_
    refine rn_if_le (tgt := 27) dX10_refuses_20 (by decide) (fun h13 => (cx_le (cv_le h13) rk_1 rk_0 (by decide)).elim) (fun h13 => ?_)
    refine rn_iconst (v := (1 : Int32)) dX10_refuses_23 (by decide) ?_
    refine rn_goto (tgt := 28) dX10_refuses_24 (by decide) ?_
    refine rn_iret dX10_refuses_28 rfl rfl (rq_in ?_)
    refine rn_stk [.int (1 : Int32)] rfl ?_
    refine rn_if_eq (tgt := 29) dX10_peer_24 (by decide) (fun h14 => (cx_eq (cv_eq h14) rk_1 rk_0 (by decide)).elim) (fun h14 => ?_)
    refine rn_iconst (v := (0 : Int32)) dX10_peer_27 (by decide) ?_
    exact rn_iret dX10_peer_28 rfl rfl (rq_in ⟨hS11, (0 : Int32), rfl, (rg_w rk_0 (by decide) (by decide)), fk12⟩)
  · have ch5 := cv_nlt h5
    have r15 : Rg (0) (2147483647) x1_ := rf_ley ch5 rk_0 (rg_any x1_) (by decide)
    refine rn_iload_n (i := 0) dX10_in_5 rfl rfl ?_
    refine rn_iload_n (i := 2) dX10_in_6 rfl rfl ?_
    refine rn_icmp_gt (tgt := 14) dX10_in_7 (by decide) (fun h16 => ?_) (fun h16 => ?_)
    · have ch16 := cv_lt h16
      have r17 : Rg (4) (2147483647) x1_ := rf_lty ch16 rk_3 r15 (by decide)
      refine rn_iconst (v := (0 : Int32)) dX10_in_14 (by decide) ?_
      refine rn_iret dX10_in_15 rfl rfl (rq_in ?_)
      refine rn_stk [.int (0 : Int32), .ref o0_] rfl ?_
      refine rn_if_ne (tgt := 19) dX10_peer_12 (by decide) (fun h18 => (cx_ne (cv_ne h18) rk_0 rk_0 (by decide)).elim) (fun h18 => ?_)
      refine rn_iconst (v := (1 : Int32)) dX10_peer_15 (by decide) ?_
      refine rn_goto (tgt := 20) dX10_peer_16 (by decide) ?_
      refine rn_iconst (v := (1 : Int32)) dX10_peer_20 (by decide) ?_
      refine rn_inV (d' := 0) (z' := 0) [.int (1 : Int32), .int (1 : Int32)] kl_SGModel_171 dX10_peer_21 q1 hl3 rfl rfl rfl (Nat.le_of_ble_eq_true rfl) (Nat.le_of_ble_eq_true rfl) (Nat.le_of_ble_eq_true rfl) (Nat.le_of_ble_eq_true rfl) ?_
      refine rn_lv [(0, .ref o0_), (1, .int (1 : Int32)), (2, .int (1 : Int32))] rfl ?_
      refine rn_aload_n (i := 0) dX10_refuses_0 rfl rfl ?_
      refine rn_get q1 kg_SGModel_137 hl3 hx3 dX10_refuses_1 ?_
      refine rn_if_ne (tgt := 16) dX10_refuses_4 (by decide) (fun h19 => (cx_ne (cv_ne h19) rk_0 rk_0 (by decide)).elim) (fun h19 => ?_)
      refine rn_iload_n (i := 1) dX10_refuses_7 rfl rfl ?_
      refine rn_if_eq (tgt := 16) dX10_refuses_8 (by decide) (fun h20 => (cx_eq (cv_eq h20) rk_1 rk_0 (by decide)).elim) (fun h20 => ?_)
      refine rn_aload_n (i := 0) dX10_refuses_11 rfl rfl ?_
      refine rn_iload_n (i := 2) dX10_refuses_12 rfl rfl ?_
      refine rs_put q1 (kp_SGModel_137 _) hS3 hq1 hl3 hf3 hk_30 rfl rfl (tv_i (rg_w rk_1 (by decide) (by decide))) rfl rfl dX10_refuses_13 (fun w21 fs22 hS22 hl22 hf22 hx22 ho22 hn22 => ?_)
      have fk23 : fK1 4 S ws w21 := fk_put fk4 hS3.1 hq1 hl3 hl22 ho22 (by decide)
      refine rn_aload_n (i := 0) dX10_refuses_16 rfl rfl ?_
      refine rn_get q1 kg_SGModel_137 hl22 hx22 dX10_refuses_17 ?_
      refine rn_if_le (tgt := 27) dX10_refuses_20 (by decide) (fun h24 => (cx_le (cv_le h24) rk_1 rk_0 (by decide)).elim) (fun h24 => ?_)
      refine rn_iconst (v := (1 : Int32)) dX10_refuses_23 (by decide) ?_
      refine rn_goto (tgt := 28) dX10_refuses_24 (by decide) ?_
      refine rn_iret dX10_refuses_28 rfl rfl (rq_in ?_)
      refine rn_stk [.int (1 : Int32)] rfl ?_
      refine rn_if_eq (tgt := 29) dX10_peer_24 (by decide) (fun h25 => (cx_eq (cv_eq h25) rk_1 rk_0 (by decide)).elim) (fun h25 => ?_)
      refine rn_iconst (v := (0 : Int32)) dX10_peer_27 (by decide) ?_
      exact rn_iret dX10_peer_28 rfl rfl (rq_in ⟨hS22, (0 : Int32), rfl, (rg_w rk_0 (by decide) (by decide)), fk23⟩)
    · have ch16 := cv_nlt h16
      have r26 : Rg (0) (3) x1_ := rf_lex ch16 r15 rk_3 (by decide)
      refine rn_iconst (v := (1 : Int32)) dX10_in_10 (by decide) ?_
      refine rn_goto (tgt := 15) dX10_in_11 (by decide) ?_
      refine rn_iret dX10_in_15 rfl rfl (rq_in ?_)
      refine rn_stk [.int (1 : Int32), .ref o0_] rfl ?_
      refine rn_if_ne (tgt := 19) dX10_peer_12 (by decide) (fun h27 => ?_) (fun h27 => (cx_eq (cv_eq h27) rk_1 rk_0 (by decide)).elim)
      refine rn_iconst (v := (0 : Int32)) dX10_peer_19 (by decide) ?_
      refine rn_iconst (v := (1 : Int32)) dX10_peer_20 (by decide) ?_
      refine rn_inV (d' := 0) (z' := 0) [.int (0 : Int32), .int (1 : Int32)] kl_SGModel_171 dX10_peer_21 q1 hl3 rfl rfl rfl (Nat.le_of_ble_eq_true rfl) (Nat.le_of_ble_eq_true rfl) (Nat.le_of_ble_eq_true rfl) (Nat.le_of_ble_eq_true rfl) ?_
      refine rn_lv [(0, .ref o0_), (1, .int (0 : Int32)), (2, .int (1 : Int32))] rfl ?_
      refine rn_aload_n (i := 0) dX10_refuses_0 rfl rfl ?_
      refine rn_get q1 kg_SGModel_137 hl3 hx3 dX10_refuses_1 ?_
      refine rn_if_ne (tgt := 16) dX10_refuses_4 (by decide) (fun h28 => (cx_ne (cv_ne h28) rk_0 rk_0 (by decide)).elim) (fun h28 => ?_)
      refine rn_iload_n (i := 1) dX10_refuses_7 rfl rfl ?_
      refine rn_if_eq (tgt := 16) dX10_refuses_8 (by decide) (fun h29 => ?_) (fun h29 => (cx_ne (cv_ne h29) rk_0 rk_0 (by decide)).elim)
      refine rn_aload_n (i := 0) dX10_refuses_16 rfl rfl ?_
      refine rn_get q1 kg_SGModel_137 hl3 hx3 dX10_refuses_17 ?_
      refine rn_if_le (tgt := 27) dX10_refuses_20 (by decide) (fun h30 => ?_) (fun h30 => (cx_lt (cv_nle h30) rk_0 rk_0 (by decide)).elim)
      refine rn_iconst (v := (0 : Int32)) dX10_refuses_27 (by decide) ?_
      refine rn_iret dX10_refuses_28 rfl rfl (rq_in ?_)
      refine rn_stk [.int (0 : Int32)] rfl ?_
      refine rn_if_eq (tgt := 29) dX10_peer_24 (by decide) (fun h31 => ?_) (fun h31 => (cx_ne (cv_ne h31) rk_0 rk_0 (by decide)).elim)
      refine rn_aload_n (i := 0) dX10_peer_29 rfl rfl ?_
      obtain ⟨o32, hx32, m32⟩ := fs_r hf3 8 rfl
      refine rn_get q1 kg_SGModel_22 hl3 hx32 dX10_peer_30 ?_
      refine rn_iload_n (i := 1) dX10_peer_33 rfl rfl ?_
      obtain ⟨q33, f33, hq33, hl33, hf33⟩ := ts_ia hS3.1 m32 hk_39
      refine rs_iald q33 hl33 hf33 rfl r26 (by decide) (by decide) dX10_peer_34 (fun v34 ev34 rv34 => ?_)
      refine rn_istore_n dX10_peer_35 rfl (by decide) [(0, .ref o0_), (1, .int x1_), (2, .int x2_), (3, .int v34)] rfl ?_
      refine rn_aload_n (i := 0) dX10_peer_36 rfl rfl ?_
      refine rn_get q1 kg_SGModel_22 hl3 hx32 dX10_peer_37 ?_
      refine rn_iload_n (i := 1) dX10_peer_40 rfl rfl ?_
      refine rn_iload_n (i := 2) dX10_peer_41 rfl rfl ?_
      refine rs_iast q33 hS3 hq33 hl33 hf33 hk_39 rfl rfl r26 (by decide) (by decide) (rg_any x2_) dX10_peer_42 (fun w35 f36 hS36 hl36 hf36 hu36 hn36 => ?_)
      have fk37 : fK1 4 S ws w35 := fk_ne fk4 hn36 hq33 rfl
      refine rn_iload_n (i := 3) dX10_peer_43 rfl rfl ?_
      exact rn_iret dX10_peer_44 rfl rfl (rq_in ⟨hS36, v34, rfl, rv34, fk37⟩)
