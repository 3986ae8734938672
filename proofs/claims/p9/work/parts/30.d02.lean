abbrev q_t_X10_at (G : rn_G) (S : ts_S) (ws : va_W) : rn_R → va_W → Prop := rQ (fun v w => St G S [30] ws S w ∧ (∃ x : Int32, v = some (.int x) ∧ Rg (0) (255) x)) (fun E w => False)
set_option maxRecDepth 20000 in
set_option maxHeartbeats 4000000 in
theorem t_X10_at (G : rn_G) (S : ts_S) (ws : va_W) (hW : ts_W G S ws) (o0_ : Nat) (m0_ : (o0_, 30) ∈ S) (x1_ : Int32) : Rn G mX10_at 1 22 0 0 0 (lv_args 0 [.ref o0_, .int x1_]) [] ws (q_t_X10_at G S ws ) := by
  have hS0 : St G S [30] ws S ws := St.rf hW
  refine rn_lv [(0, .ref o0_), (1, .int x1_)] rfl ?_
  refine rn_aload_n (i := 0) dX10_at_0 rfl rfl ?_
  refine rn_iconst (v := (0 : Int32)) dX10_at_1 (by decide) ?_
  obtain ⟨q1, fs1, hq1, hl1, hf1⟩ := ts_obj hS0.1 m0_ hk_30
  refine rs_put q1 (kp_SGModel_137 _) hS0 hq1 hl1 hf1 hk_30 rfl rfl (tv_i (rg_w rk_0 (by decide) (by decide))) rfl rfl dX10_at_2 (fun w2 fs3 hS3 hl3 hf3 hx3 ho3 hn3 => ?_)
  refine rn_aload_n (i := 0) dX10_at_5 rfl rfl ?_
  refine rn_iload_n (i := 1) dX10_at_6 rfl rfl ?_
  refine rn_iconst (v := (0 : Int32)) dX10_at_7 (by decide) ?_
  refine rn_aload_n (i := 0) dX10_at_8 rfl rfl ?_
  obtain ⟨x4, hx4, rx4⟩ := fs_i hf3 3 rfl
  refine rn_get q1 kg_SGModel_168 hl3 hx4 dX10_at_9 ?_
  refine rn_iconst (v := (1 : Int32)) dX10_at_12 (by decide) ?_
  refine rs_subC (-1) (1999) rx4 rk_1 dX10_at_13 (by decide) (fun v5 ev5 rv5 => ?_)
  refine rn_inS (d' := 0) (z' := 0) [.int x1_, .int (0 : Int32), .int v5] kl_SGModel_179 dX10_at_14 rfl rfl (Nat.le_of_ble_eq_true rfl) (Nat.le_of_ble_eq_true rfl) (Nat.le_of_ble_eq_true rfl) (Nat.le_of_ble_eq_true rfl) ?_
  refine rn_lv [(0, .int x1_), (1, .int (0 : Int32)), (2, .int v5)] rfl ?_
  refine rn_iload_n (i := 0) dX10_in_0 rfl rfl ?_
  refine rn_iload_n (i := 1) dX10_in_1 rfl rfl ?_
  refine rn_icmp_lt (tgt := 14) dX10_in_2 (by decide) (fun h6 => ?_) (fun h6 => ?_)
  · have ch6 := cv_lt h6
    have r7 : Rg (-2147483648) (-1) x1_ := rf_ltx ch6 (rg_any x1_) rk_0 (by decide)
    refine rn_iconst (v := (0 : Int32)) dX10_in_14 (by decide) ?_
    refine rn_iret dX10_in_15 rfl rfl (rq_in ?_)
    refine rn_stk [.int (0 : Int32), .ref o0_] rfl ?_
    refine rn_if_ne (tgt := 24) dX10_at_17 (by decide) (fun h8 => (cx_ne (cv_ne h8) rk_0 rk_0 (by decide)).elim) (fun h8 => ?_)
    refine rn_iconst (v := (1 : Int32)) dX10_at_20 (by decide) ?_
    refine rn_goto (tgt := 25) dX10_at_21 (by decide) ?_
    refine rn_iconst (v := (1 : Int32)) dX10_at_25 (by decide) ?_
    refine rn_inV (d' := 0) (z' := 0) [.int (1 : Int32), .int (1 : Int32)] kl_SGModel_171 dX10_at_26 q1 hl3 rfl rfl rfl (Nat.le_of_ble_eq_true rfl) (Nat.le_of_ble_eq_true rfl) (Nat.le_of_ble_eq_true rfl) (Nat.le_of_ble_eq_true rfl) ?_
    refine rn_lv [(0, .ref o0_), (1, .int (1 : Int32)), (2, .int (1 : Int32))] rfl ?_
    refine rn_aload_n (i := 0) dX10_refuses_0 rfl rfl ?_
    refine rn_get q1 kg_SGModel_137 hl3 hx3 dX10_refuses_1 ?_
    refine rn_if_ne (tgt := 16) dX10_refuses_4 (by decide) (fun h9 => (cx_ne (cv_ne h9) rk_0 rk_0 (by decide)).elim) (fun h9 => ?_)
    refine rn_iload_n (i := 1) dX10_refuses_7 rfl rfl ?_
    refine rn_if_eq (tgt := 16) dX10_refuses_8 (by decide) (fun h10 => (cx_eq (cv_eq h10) rk_1 rk_0 (by decide)).elim) (fun h10 => ?_)
    refine rn_aload_n (i := 0) dX10_refuses_11 rfl rfl ?_
    refine rn_iload_n (i := 2) dX10_refuses_12 rfl rfl ?_
    refine rs_put q1 (kp_SGModel_137 _) hS3 hq1 hl3 hf3 hk_30 rfl rfl (tv_i (rg_w rk_1 (by decide) (by decide))) rfl rfl dX10_refuses_13 (fun w11 fs12 hS12 hl12 hf12 hx12 ho12 hn12 => ?_)
    refine rn_aload_n (i := 0) dX10_refuses_16 rfl rfl ?_
    refine rn_get q1 kg_SGModel_137 hl12 hx12 dX10_refuses_17 ?_
    refine rn_if_le (tgt := 27) dX10_refuses_20 (by decide) (fun h13 => (cx_le (cv_le h13) rk_1 rk_0 (by decide)).elim) (fun h13 => ?_)
    refine rn_iconst (v := (1 : Int32)) dX10_refuses_23 (by decide) ?_
    refine rn_goto (tgt := 28) dX10_refuses_24 (by decide) ?_
    refine rn_iret dX10_refuses_28 rfl rfl (rq_in ?_)
    refine rn_stk [.int (1 : Int32)] rfl ?_
    refine rn_if_eq (tgt := 36) dX10_at_29 (by decide) (fun h14 => (cx_eq (cv_eq h14) rk_1 rk_0 (by decide)).elim) (fun h14 => ?_)
    refine rn_iconst (v := (0 : Int32)) dX10_at_32 (by decide) ?_
    refine rn_goto (tgt := 44) dX10_at_33 (by decide) ?_
    exact rn_iret dX10_at_44 rfl rfl (rq_in ⟨hS12, (0 : Int32), rfl, (rg_w rk_0 (by decide) (by decide))⟩)
  · have ch6 := cv_nlt h6
    have r15 : Rg (0) (2147483647) x1_ := rf_ley ch6 rk_0 (rg_any x1_) (by decide)
    refine rn_iload_n (i := 0) dX10_in_5 rfl rfl ?_
    refine rn_iload_n (i := 2) dX10_in_6 rfl rfl ?_
    refine rn_icmp_gt (tgt := 14) dX10_in_7 (by decide) (fun h16 => ?_) (fun h16 => ?_)
    · have ch16 := cv_lt h16
      refine rn_iconst (v := (0 : Int32)) dX10_in_14 (by decide) ?_
      refine rn_iret dX10_in_15 rfl rfl (rq_in ?_)
      refine rn_stk [.int (0 : Int32), .ref o0_] rfl ?_
      refine rn_if_ne (tgt := 24) dX10_at_17 (by decide) (fun h17 => (cx_ne (cv_ne h17) rk_0 rk_0 (by decide)).elim) (fun h17 => ?_)
      refine rn_iconst (v := (1 : Int32)) dX10_at_20 (by decide) ?_
      refine rn_goto (tgt := 25) dX10_at_21 (by decide) ?_
      refine rn_iconst (v := (1 : Int32)) dX10_at_25 (by decide) ?_
      refine rn_inV (d' := 0) (z' := 0) [.int (1 : Int32), .int (1 : Int32)] kl_SGModel_171 dX10_at_26 q1 hl3 rfl rfl rfl (Nat.le_of_ble_eq_true rfl) (Nat.le_of_ble_eq_true rfl) (Nat.le_of_ble_eq_true rfl) (Nat.le_of_ble_eq_true rfl) ?_
      refine rn_lv [(0, .ref o0_), (1, .int (1 : Int32)), (2, .int (1 : Int32))] rfl ?_
      refine rn_aload_n (i := 0) dX10_refuses_0 rfl rfl ?_
      refine rn_get q1 kg_SGModel_137 hl3 hx3 dX10_refuses_1 ?_
      refine rn_if_ne (tgt := 16) dX10_refuses_4 (by decide) (fun h18 => (cx_ne (cv_ne h18) rk_0 rk_0 (by decide)).elim) (fun h18 => ?_)
      refine rn_iload_n (i := 1) dX10_refuses_7 rfl rfl ?_
      refine rn_if_eq (tgt := 16) dX10_refuses_8 (by decide) (fun h19 => (cx_eq (cv_eq h19) rk_1 rk_0 (by decide)).elim) (fun h19 => ?_)
      refine rn_aload_n (i := 0) dX10_refuses_11 rfl rfl ?_
      refine rn_iload_n (i := 2) dX10_refuses_12 rfl rfl ?_
      refine rs_put q1 (kp_SGModel_137 _) hS3 hq1 hl3 hf3 hk_30 rfl rfl (tv_i (rg_w rk_1 (by decide) (by decide))) rfl rfl dX10_refuses_13 (fun w20 fs21 hS21 hl21 hf21 hx21 ho21 hn21 => ?_)
      refine rn_aload_n (i := 0) dX10_refuses_16 rfl rfl ?_
      refine rn_get q1 kg_SGModel_137 hl21 hx21 dX10_refuses_17 ?_
      refine rn_if_le (tgt := 27) dX10_refuses_20 (by decide) (fun h22 => (cx_le (cv_le h22) rk_1 rk_0 (by decide)).elim) (fun h22 => ?_)
      refine rn_iconst (v := (1 : Int32)) dX10_refuses_23 (by decide) ?_
      refine rn_goto (tgt := 28) dX10_refuses_24 (by decide) ?_
      refine rn_iret dX10_refuses_28 rfl rfl (rq_in ?_)
      refine rn_stk [.int (1 : Int32)] rfl ?_
      refine rn_if_eq (tgt := 36) dX10_at_29 (by decide) (fun h23 => (cx_eq (cv_eq h23) rk_1 rk_0 (by decide)).elim) (fun h23 => ?_)
      refine rn_iconst (v := (0 : Int32)) dX10_at_32 (by decide) ?_
      refine rn_goto (tgt := 44) dX10_at_33 (by decide) ?_
      exact rn_iret dX10_at_44 rfl rfl (rq_in ⟨hS21, (0 : Int32), rfl, (rg_w rk_0 (by decide) (by decide))⟩)
    · have ch16 := cv_nlt h16
      have r24 : Rg (0) (1999) x1_ := rf_lex ch16 r15 rv5 (by decide)
      have r25 : Rg (0) (1999) v5 := rf_ley ch16 r15 rv5 (by decide)
      refine rn_iconst (v := (1 : Int32)) dX10_in_10 (by decide) ?_
      refine rn_goto (tgt := 15) dX10_in_11 (by decide) ?_
      refine rn_iret dX10_in_15 rfl rfl (rq_in ?_)
      refine rn_stk [.int (1 : Int32), .ref o0_] rfl ?_
      refine rn_if_ne (tgt := 24) dX10_at_17 (by decide) (fun h26 => ?_) (fun h26 => (cx_eq (cv_eq h26) rk_1 rk_0 (by decide)).elim)
      refine rn_iconst (v := (0 : Int32)) dX10_at_24 (by decide) ?_
      refine rn_iconst (v := (1 : Int32)) dX10_at_25 (by decide) ?_
      refine rn_inV (d' := 0) (z' := 0) [.int (0 : Int32), .int (1 : Int32)] kl_SGModel_171 dX10_at_26 q1 hl3 rfl rfl rfl (Nat.le_of_ble_eq_true rfl) (Nat.le_of_ble_eq_true rfl) (Nat.le_of_ble_eq_true rfl) (Nat.le_of_ble_eq_true rfl) ?_
      refine rn_lv [(0, .ref o0_), (1, .int (0 : Int32)), (2, .int (1 : Int32))] rfl ?_
      refine rn_aload_n (i := 0) dX10_refuses_0 rfl rfl ?_
      refine rn_get q1 kg_SGModel_137 hl3 hx3 dX10_refuses_1 ?_
      refine rn_if_ne (tgt := 16) dX10_refuses_4 (by decide) (fun h27 => (cx_ne (cv_ne h27) rk_0 rk_0 (by decide)).elim) (fun h27 => ?_)
      refine rn_iload_n (i := 1) dX10_refuses_7 rfl rfl ?_
      refine rn_if_eq (tgt := 16) dX10_refuses_8 (by decide) (fun h28 => ?_) (fun h28 => (cx_ne (cv_ne h28) rk_0 rk_0 (by decide)).elim)
      refine rn_aload_n (i := 0) dX10_refuses_16 rfl rfl ?_
      refine rn_get q1 kg_SGModel_137 hl3 hx3 dX10_refuses_17 ?_
      refine rn_if_le (tgt := 27) dX10_refuses_20 (by decide) (fun h29 => ?_) (fun h29 => (cx_lt (cv_nle h29) rk_0 rk_0 (by decide)).elim)
      refine rn_iconst (v := (0 : Int32)) dX10_refuses_27 (by decide) ?_
      refine rn_iret dX10_refuses_28 rfl rfl (rq_in ?_)
      refine rn_stk [.int (0 : Int32)] rfl ?_
      refine rn_if_eq (tgt := 36) dX10_at_29 (by decide) (fun h30 => ?_) (fun h30 => (cx_ne (cv_ne h30) rk_0 rk_0 (by decide)).elim)
      refine rn_aload_n (i := 0) dX10_at_36 rfl rfl ?_
      obtain ⟨o31, hx31, m31⟩ := fs_r hf3 2 rfl
      refine rn_get q1 kg_SGModel_7 hl3 hx31 dX10_at_37 ?_
      refine rn_iconst (v := (0 : Int32)) dX10_at_40 (by decide) ?_
      refine rn_iload_n (i := 1) dX10_at_41 rfl rfl ?_
      refine rs_addD (0) (1999) rk_0 r24 dX10_at_42 (by decide) (fun v32 ev32 rv32 => ?_)
      obtain ⟨q33, f33, hq33, hl33, hf33⟩ := ts_ia hS3.1 m31 hk_33
      refine rs_iald q33 hl33 hf33 rfl rv32 (by decide) (by decide) dX10_at_43 (fun v34 ev34 rv34 => ?_)
      exact rn_iret dX10_at_44 rfl rfl (rq_in ⟨hS3, v34, rfl, rv34⟩)
abbrev q_t_X10_make (G : rn_G) (S : ts_S) (ws : va_W) : rn_R → va_W → Prop := rQ (fun v w => St G S [30, 33] ws S w ∧ (∃ x : Int32, v = some (.int x) ∧ Rg (0) (1500) x)) (fun E w => False)
set_option maxRecDepth 20000 in
set_option maxHeartbeats 4000000 in
theorem t_X10_make (G : rn_G) (S : ts_S) (ws : va_W) (hW : ts_W G S ws) (o0_ : Nat) (m0_ : (o0_, 30) ∈ S) (x1_ : Int32) (x2_ : Int32) (x3_ : Int32) (x4_ : Int32) (x5_ : Int32) (x6_ : Int32) : Rn G mX10_make 3 66 0 0 0 (lv_args 0 [.ref o0_, .int x1_, .int x2_, .int x3_, .int x4_, .int x5_, .int x6_]) [] ws (q_t_X10_make G S ws ) := by
  have hS0 : St G S [30, 33] ws S ws := St.rf hW
  refine rn_lv [(0, .ref o0_), (1, .int x1_), (2, .int x2_), (3, .int x3_), (4, .int x4_), (5, .int x5_), (6, .int x6_)] rfl ?_
  refine rn_aload_n (i := 0) dX10_make_0 rfl rfl ?_
  refine rn_iconst (v := (0 : Int32)) dX10_make_1 (by decide) ?_
  obtain ⟨q1, fs1, hq1, hl1, hf1⟩ := ts_obj hS0.1 m0_ hk_30
  refine rs_put q1 (kp_SGModel_137 _) hS0 hq1 hl1 hf1 hk_30 rfl rfl (tv_i (rg_w rk_0 (by decide) (by decide))) rfl rfl dX10_make_2 (fun w2 fs3 hS3 hl3 hf3 hx3 ho3 hn3 => ?_)
  refine rn_aload_n (i := 0) dX10_make_5 rfl rfl ?_
  refine rn_iload_n (i := 3) dX10_make_6 rfl rfl ?_
  refine rn_iconst (v := (0 : Int32)) dX10_make_7 (by decide) ?_
  refine rn_sipush (v := (255 : Int32)) dX10_make_8 (by decide) ?_
  refine rn_inS (d' := 0) (z' := 0) [.int x3_, .int (0 : Int32), .int (255 : Int32)] kl_SGModel_179 dX10_make_11 rfl rfl (Nat.le_of_ble_eq_true rfl) (Nat.le_of_ble_eq_true rfl) (Nat.le_of_ble_eq_true rfl) (Nat.le_of_ble_eq_true rfl) ?_
  refine rn_lv [(0, .int x3_), (1, .int (0 : Int32)), (2, .int (255 : Int32))] rfl ?_
  refine rn_iload_n (i := 0) dX10_in_0 rfl rfl ?_
  refine rn_iload_n (i := 1) dX10_in_1 rfl rfl ?_
  refine rn_icmp_lt (tgt := 14) dX10_in_2 (by decide) (fun h4 => ?_) (fun h4 => ?_)
  · have ch4 := cv_lt h4
    have r5 : Rg (-2147483648) (-1) x3_ := rf_ltx ch4 (rg_any x3_) rk_0 (by decide)
    refine rn_iconst (v := (0 : Int32)) dX10_in_14 (by decide) ?_
    refine rn_iret dX10_in_15 rfl rfl (rq_in ?_)
    refine rn_stk [.int (0 : Int32), .ref o0_] rfl ?_
    refine rn_if_eq (tgt := 41) dX10_make_14 (by decide) (fun h6 => ?_) (fun h6 => (cx_ne (cv_ne h6) rk_0 rk_0 (by decide)).elim)
    refine rn_iconst (v := (1 : Int32)) dX10_make_41 (by decide) ?_
    refine rn_goto (tgt := 46) dX10_make_42 (by decide) ?_
    refine rn_iconst (v := (1 : Int32)) dX10_make_46 (by decide) ?_
    refine rn_inV (d' := 0) (z' := 0) [.int (1 : Int32), .int (1 : Int32)] kl_SGModel_171 dX10_make_47 q1 hl3 rfl rfl rfl (Nat.le_of_ble_eq_true rfl) (Nat.le_of_ble_eq_true rfl) (Nat.le_of_ble_eq_true rfl) (Nat.le_of_ble_eq_true rfl) ?_
    refine rn_lv [(0, .ref o0_), (1, .int (1 : Int32)), (2, .int (1 : Int32))] rfl ?_
    refine rn_aload_n (i := 0) dX10_refuses_0 rfl rfl ?_
    refine rn_get q1 kg_SGModel_137 hl3 hx3 dX10_refuses_1 ?_
    refine rn_if_ne (tgt := 16) dX10_refuses_4 (by decide) (fun h7 => (cx_ne (cv_ne h7) rk_0 rk_0 (by decide)).elim) (fun h7 => ?_)
    refine rn_iload_n (i := 1) dX10_refuses_7 rfl rfl ?_
    refine rn_if_eq (tgt := 16) dX10_refuses_8 (by decide) (fun h8 => (cx_eq (cv_eq h8) rk_1 rk_0 (by decide)).elim) (fun h8 => ?_)
    refine rn_aload_n (i := 0) dX10_refuses_11 rfl rfl ?_
    refine rn_iload_n (i := 2) dX10_refuses_12 rfl rfl ?_
    refine rs_put q1 (kp_SGModel_137 _) hS3 hq1 hl3 hf3 hk_30 rfl rfl (tv_i (rg_w rk_1 (by decide) (by decide))) rfl rfl dX10_refuses_13 (fun w9 fs10 hS10 hl10 hf10 hx10 ho10 hn10 => ?_)
    refine rn_aload_n (i := 0) dX10_refuses_16 rfl rfl ?_
    refine rn_get q1 kg_SGModel_137 hl10 hx10 dX10_refuses_17 ?_
    refine rn_if_le (tgt := 27) dX10_refuses_20 (by decide) (fun h11 => (cx_le (cv_le h11) rk_1 rk_0 (by decide)).elim) (fun h11 => ?_)
    refine rn_iconst (v := (1 : Int32)) dX10_refuses_23 (by decide) ?_
    refine rn_goto (tgt := 28) dX10_refuses_24 (by decide) ?_
    refine rn_iret dX10_refuses_28 rfl rfl (rq_in ?_)
    refine rn_stk [.int (1 : Int32)] rfl ?_
    refine rn_if_eq (tgt := 55) dX10_make_50 (by decide) (fun h12 => (cx_eq (cv_eq h12) rk_1 rk_0 (by decide)).elim) (fun h12 => ?_)
    refine rn_iconst (v := (0 : Int32)) dX10_make_53 (by decide) ?_
    exact rn_iret dX10_make_54 rfl rfl (rq_in ⟨hS10, (0 : Int32), rfl, (rg_w rk_0 (by decide) (by decide))⟩)
  · have ch4 := cv_nlt h4
    have r13 : Rg (0) (2147483647) x3_ := rf_ley ch4 rk_0 (rg_any x3_) (by decide)
    refine rn_iload_n (i := 0) dX10_in_5 rfl rfl ?_
    refine rn_iload_n (i := 2) dX10_in_6 rfl rfl ?_
    refine rn_icmp_gt (tgt := 14) dX10_in_7 (by decide) (fun h14 => ?_) (fun h14 => ?_)
    · have ch14 := cv_lt h14
      have r15 : Rg (256) (2147483647) x3_ := rf_lty ch14 rk_255 r13 (by decide)
      refine rn_iconst (v := (0 : Int32)) dX10_in_14 (by decide) ?_
      refine rn_iret dX10_in_15 rfl rfl (rq_in ?_)
      refine rn_stk [.int (0 : Int32), .ref o0_] rfl ?_
      refine rn_if_eq (tgt := 41) dX10_make_14 (by decide) (fun h16 => ?_) (fun h16 => (cx_ne (cv_ne h16) rk_0 rk_0 (by decide)).elim)
      refine rn_iconst (v := (1 : Int32)) dX10_make_41 (by decide) ?_
      refine rn_goto (tgt := 46) dX10_make_42 (by decide) ?_
      refine rn_iconst (v := (1 : Int32)) dX10_make_46 (by decide) ?_
      refine rn_inV (d' := 0) (z' := 0) [.int (1 : Int32), .int (1 : Int32)] kl_SGModel_171 dX10_make_47 q1 hl3 rfl rfl rfl (Nat.le_of_ble_eq_true rfl) (Nat.le_of_ble_eq_true rfl) (Nat.le_of_ble_eq_true rfl) (Nat.le_of_ble_eq_true rfl) ?_
      refine rn_lv [(0, .ref o0_), (1, .int (1 : Int32)), (2, .int (1 : Int32))] rfl ?_
      refine rn_aload_n (i := 0) dX10_refuses_0 rfl rfl ?_
      refine rn_get q1 kg_SGModel_137 hl3 hx3 dX10_refuses_1 ?_
      refine rn_if_ne (tgt := 16) dX10_refuses_4 (by decide) (fun h17 => (cx_ne (cv_ne h17) rk_0 rk_0 (by decide)).elim) (fun h17 => ?_)
      refine rn_iload_n (i := 1) dX10_refuses_7 rfl rfl ?_
      refine rn_if_eq (tgt := 16) dX10_refuses_8 (by decide) (fun h18 => (cx_eq (cv_eq h18) rk_1 rk_0 (by decide)).elim) (fun h18 => ?_)
      refine rn_aload_n (i := 0) dX10_refuses_11 rfl rfl ?_
      refine rn_iload_n (i := 2) dX10_refuses_12 rfl rfl ?_
      refine rs_put q1 (kp_SGModel_137 _) hS3 hq1 hl3 hf3 hk_30 rfl rfl (tv_i (rg_w rk_1 (by decide) (by decide))) rfl rfl dX10_refuses_13 (fun w19 fs20 hS20 hl20 hf20 hx20 ho20 hn20 => ?_)
      refine rn_aload_n (i := 0) dX10_refuses_16 rfl rfl ?_
      refine rn_get q1 kg_SGModel_137 hl20 hx20 dX10_refuses_17 ?_
      refine rn_if_le (tgt := 27) dX10_refuses_20 (by decide) (fun h21 => (cx_le (cv_le h21) rk_1 rk_0 (by decide)).elim) (fun h21 => ?_)
      refine rn_iconst (v := (1 : Int32)) dX10_refuses_23 (by decide) ?_
      refine rn_goto (tgt := 28) dX10_refuses_24 (by decide) ?_
      refine rn_iret dX10_refuses_28 rfl rfl (rq_in ?_)
      refine rn_stk [.int (1 : Int32)] rfl ?_
      refine rn_if_eq (tgt := 55) dX10_make_50 (by decide) (fun h22 => (cx_eq (cv_eq h22) rk_1 rk_0 (by decide)).elim) (fun h22 => ?_)
      refine rn_iconst (v := (0 : Int32)) dX10_make_53 (by decide) ?_
      exact rn_iret dX10_make_54 rfl rfl (rq_in ⟨hS20, (0 : Int32), rfl, (rg_w rk_0 (by decide) (by decide))⟩)
    · have ch14 := cv_nlt h14
      have r23 : Rg (0) (255) x3_ := rf_lex ch14 r13 rk_255 (by decide)
      refine rn_iconst (v := (1 : Int32)) dX10_in_10 (by decide) ?_
      refine rn_goto (tgt := 15) dX10_in_11 (by decide) ?_
      refine rn_iret dX10_in_15 rfl rfl (rq_in ?_)
      refine rn_stk [.int (1 : Int32), .ref o0_] rfl ?_
      refine rn_if_eq (tgt := 41) dX10_make_14 (by decide) (fun h24 => (cx_eq (cv_eq h24) rk_1 rk_0 (by decide)).elim) (fun h24 => ?_)
      refine rn_iload dX10_make_17 rfl ?_
      refine rn_iconst (v := (0 : Int32)) dX10_make_19 (by decide) ?_
      refine rn_sipush (v := (255 : Int32)) dX10_make_20 (by decide) ?_
      refine rn_inS (d' := 0) (z' := 0) [.int x4_, .int (0 : Int32), .int (255 : Int32)] kl_SGModel_179 dX10_make_23 rfl rfl (Nat.le_of_ble_eq_true rfl) (Nat.le_of_ble_eq_true rfl) (Nat.le_of_ble_eq_true rfl) (Nat.le_of_ble_eq_true rfl) ?_
      refine rn_lv [(0, .int x4_), (1, .int (0 : Int32)), (2, .int (255 : Int32))] rfl ?_
      refine rn_iload_n (i := 0) dX10_in_0 rfl rfl ?_
      refine rn_iload_n (i := 1) dX10_in_1 rfl rfl ?_
      refine rn_icmp_lt (tgt := 14) dX10_in_2 (by decide) (fun h25 => ?_) (fun h25 => ?_)
      · have ch25 := cv_lt h25
        have r26 : Rg (-2147483648) (-1) x4_ := rf_ltx ch25 (rg_any x4_) rk_0 (by decide)
        refine rn_iconst (v := (0 : Int32)) dX10_in_14 (by decide) ?_
        refine rn_iret dX10_in_15 rfl rfl (rq_in ?_)
        refine rn_stk [.int (0 : Int32), .ref o0_] rfl ?_
        refine rn_if_eq (tgt := 41) dX10_make_26 (by decide) (fun h27 => ?_) (fun h27 => (cx_ne (cv_ne h27) rk_0 rk_0 (by decide)).elim)
        refine rn_iconst (v := (1 : Int32)) dX10_make_41 (by decide) ?_
        refine rn_goto (tgt := 46) dX10_make_42 (by decide) ?_
        refine rn_iconst (v := (1 : Int32)) dX10_make_46 (by decide) ?_
        refine rn_inV (d' := 0) (z' := 0) [.int (1 : Int32), .int (1 : Int32)] kl_SGModel_171 dX10_make_47 q1 hl3 rfl rfl rfl (Nat.le_of_ble_eq_true rfl) (Nat.le_of_ble_eq_true rfl) (Nat.le_of_ble_eq_true rfl) (Nat.le_of_ble_eq_true rfl) ?_
        refine rn_lv [(0, .ref o0_), (1, .int (1 : Int32)), (2, .int (1 : Int32))] rfl ?_
        refine rn_aload_n (i := 0) dX10_refuses_0 rfl rfl ?_
        refine rn_get q1 kg_SGModel_137 hl3 hx3 dX10_refuses_1 ?_
        refine rn_if_ne (tgt := 16) dX10_refuses_4 (by decide) (fun h28 => (cx_ne (cv_ne h28) rk_0 rk_0 (by decide)).elim) (fun h28 => ?_)
        refine rn_iload_n (i := 1) dX10_refuses_7 rfl rfl ?_
        refine rn_if_eq (tgt := 16) dX10_refuses_8 (by decide) (fun h29 => (cx_eq (cv_eq h29) rk_1 rk_0 (by decide)).elim) (fun h29 => ?_)
        refine rn_aload_n (i := 0) dX10_refuses_11 rfl rfl ?_
        refine rn_iload_n (i := 2) dX10_refuses_12 rfl rfl ?_
        refine rs_put q1 (kp_SGModel_137 _) hS3 hq1 hl3 hf3 hk_30 rfl rfl (tv_i (rg_w rk_1 (by decide) (by decide))) rfl rfl dX10_refuses_13 (fun w30 fs31 hS31 hl31 hf31 hx31 ho31 hn31 => ?_)
        refine rn_aload_n (i := 0) dX10_refuses_16 rfl rfl ?_
        refine rn_get q1 kg_SGModel_137 hl31 hx31 dX10_refuses_17 ?_
        refine rn_if_le (tgt := 27) dX10_refuses_20 (by decide) (fun h32 => (cx_le (cv_le h32) rk_1 rk_0 (by decide)).elim) (fun h32 => ?_)
        refine rn_iconst (v := (1 : Int32)) dX10_refuses_23 (by decide) ?_
        refine rn_goto (tgt := 28) dX10_refuses_24 (by decide) ?_
        refine rn_iret dX10_refuses_28 rfl rfl (rq_in ?_)
        refine rn_stk [.int (1 : Int32)] rfl ?_
        refine rn_if_eq (tgt := 55) dX10_make_50 (by decide) (fun h33 => (cx_eq (cv_eq h33) rk_1 rk_0 (by decide)).elim) (fun h33 => ?_)
        refine rn_iconst (v := (0 : Int32)) dX10_make_53 (by decide) ?_
        exact rn_iret dX10_make_54 rfl rfl (rq_in ⟨hS31, (0 : Int32), rfl, (rg_w rk_0 (by decide) (by decide))⟩)
      · have ch25 := cv_nlt h25
        have r34 : Rg (0) (2147483647) x4_ := rf_ley ch25 rk_0 (rg_any x4_) (by decide)
        refine rn_iload_n (i := 0) dX10_in_5 rfl rfl ?_
        refine rn_iload_n (i := 2) dX10_in_6 rfl rfl ?_
        refine rn_icmp_gt (tgt := 14) dX10_in_7 (by decide) (fun h35 => ?_) (fun h35 => ?_)
        · have ch35 := cv_lt h35
          have r36 : Rg (256) (2147483647) x4_ := rf_lty ch35 rk_255 r34 (by decide)
          refine rn_iconst (v := (0 : Int32)) dX10_in_14 (by decide) ?_
          refine rn_iret dX10_in_15 rfl rfl (rq_in ?_)
          refine rn_stk [.int (0 : Int32), .ref o0_] rfl ?_
          refine rn_if_eq (tgt := 41) dX10_make_26 (by decide) (fun h37 => ?_) (fun h37 => (cx_ne (cv_ne h37) rk_0 rk_0 (by decide)).elim)
          refine rn_iconst (v := (1 : Int32)) dX10_make_41 (by decide) ?_
          refine rn_goto (tgt := 46) dX10_make_42 (by decide) ?_
          refine rn_iconst (v := (1 : Int32)) dX10_make_46 (by decide) ?_
          refine rn_inV (d' := 0) (z' := 0) [.int (1 : Int32), .int (1 : Int32)] kl_SGModel_171 dX10_make_47 q1 hl3 rfl rfl rfl (Nat.le_of_ble_eq_true rfl) (Nat.le_of_ble_eq_true rfl) (Nat.le_of_ble_eq_true rfl) (Nat.le_of_ble_eq_true rfl) ?_
          refine rn_lv [(0, .ref o0_), (1, .int (1 : Int32)), (2, .int (1 : Int32))] rfl ?_
          refine rn_aload_n (i := 0) dX10_refuses_0 rfl rfl ?_
          refine rn_get q1 kg_SGModel_137 hl3 hx3 dX10_refuses_1 ?_
          refine rn_if_ne (tgt := 16) dX10_refuses_4 (by decide) (fun h38 => (cx_ne (cv_ne h38) rk_0 rk_0 (by decide)).elim) (fun h38 => ?_)
          refine rn_iload_n (i := 1) dX10_refuses_7 rfl rfl ?_
          refine rn_if_eq (tgt := 16) dX10_refuses_8 (by decide) (fun h39 => (cx_eq (cv_eq h39) rk_1 rk_0 (by decide)).elim) (fun h39 => ?_)
          refine rn_aload_n (i := 0) dX10_refuses_11 rfl rfl ?_
          refine rn_iload_n (i := 2) dX10_refuses_12 rfl rfl ?_
          refine rs_put q1 (kp_SGModel_137 _) hS3 hq1 hl3 hf3 hk_30 rfl rfl (tv_i (rg_w rk_1 (by decide) (by decide))) rfl rfl dX10_refuses_13 (fun w40 fs41 hS41 hl41 hf41 hx41 ho41 hn41 => ?_)
          refine rn_aload_n (i := 0) dX10_refuses_16 rfl rfl ?_
          refine rn_get q1 kg_SGModel_137 hl41 hx41 dX10_refuses_17 ?_
          refine rn_if_le (tgt := 27) dX10_refuses_20 (by decide) (fun h42 => (cx_le (cv_le h42) rk_1 rk_0 (by decide)).elim) (fun h42 => ?_)
          refine rn_iconst (v := (1 : Int32)) dX10_refuses_23 (by decide) ?_
          refine rn_goto (tgt := 28) dX10_refuses_24 (by decide) ?_
          refine rn_iret dX10_refuses_28 rfl rfl (rq_in ?_)
          refine rn_stk [.int (1 : Int32)] rfl ?_
          refine rn_if_eq (tgt := 55) dX10_make_50 (by decide) (fun h43 => (cx_eq (cv_eq h43) rk_1 rk_0 (by decide)).elim) (fun h43 => ?_)
          refine rn_iconst (v := (0 : Int32)) dX10_make_53 (by decide) ?_
          exact rn_iret dX10_make_54 rfl rfl (rq_in ⟨hS41, (0 : Int32), rfl, (rg_w rk_0 (by decide) (by decide))⟩)
        · have ch35 := cv_nlt h35
          have r44 : Rg (0) (255) x4_ := rf_lex ch35 r34 rk_255 (by decide)
          refine rn_iconst (v := (1 : Int32)) dX10_in_10 (by decide) ?_
          refine rn_goto (tgt := 15) dX10_in_11 (by decide) ?_
          refine rn_iret dX10_in_15 rfl rfl (rq_in ?_)
          refine rn_stk [.int (1 : Int32), .ref o0_] rfl ?_
          refine rn_if_eq (tgt := 41) dX10_make_26 (by decide) (fun h45 => (cx_eq (cv_eq h45) rk_1 rk_0 (by decide)).elim) (fun h45 => ?_)
          refine rn_iload dX10_make_29 rfl ?_
          refine rn_iconst (v := (0 : Int32)) dX10_make_31 (by decide) ?_
          refine rn_sipush (v := (1480 : Int32)) dX10_make_32 (by decide) ?_
          refine rn_inS (d' := 0) (z' := 0) [.int x5_, .int (0 : Int32), .int (1480 : Int32)] kl_SGModel_179 dX10_make_35 rfl rfl (Nat.le_of_ble_eq_true rfl) (Nat.le_of_ble_eq_true rfl) (Nat.le_of_ble_eq_true rfl) (Nat.le_of_ble_eq_true rfl) ?_
          refine rn_lv [(0, .int x5_), (1, .int (0 : Int32)), (2, .int (1480 : Int32))] rfl ?_
          refine rn_iload_n (i := 0) dX10_in_0 rfl rfl ?_
          refine rn_iload_n (i := 1) dX10_in_1 rfl rfl ?_
          refine rn_icmp_lt (tgt := 14) dX10_in_2 (by decide) (fun h46 => ?_) (fun h46 => ?_)
          · have ch46 := cv_lt h46
            have r47 : Rg (-2147483648) (-1) x5_ := rf_ltx ch46 (rg_any x5_) rk_0 (by decide)
            refine rn_iconst (v := (0 : Int32)) dX10_in_14 (by decide) ?_
            refine rn_iret dX10_in_15 rfl rfl (rq_in ?_)
            refine rn_stk [.int (0 : Int32), .ref o0_] rfl ?_
            refine rn_if_ne (tgt := 45) dX10_make_38 (by decide) (fun h48 => (cx_ne (cv_ne h48) rk_0 rk_0 (by decide)).elim) (fun h48 => ?_)
            refine rn_iconst (v := (1 : Int32)) dX10_make_41 (by decide) ?_
            refine rn_goto (tgt := 46) dX10_make_42 (by decide) ?_
            refine rn_iconst (v := (1 : Int32)) dX10_make_46 (by decide) ?_
            refine rn_inV (d' := 0) (z' := 0) [.int (1 : Int32), .int (1 : Int32)] kl_SGModel_171 dX10_make_47 q1 hl3 rfl rfl rfl (Nat.le_of_ble_eq_true rfl) (Nat.le_of_ble_eq_true rfl) (Nat.le_of_ble_eq_true rfl) (Nat.le_of_ble_eq_true rfl) ?_
            refine rn_lv [(0, .ref o0_), (1, .int (1 : Int32)), (2, .int (1 : Int32))] rfl ?_
            refine rn_aload_n (i := 0) dX10_refuses_0 rfl rfl ?_
            refine rn_get q1 kg_SGModel_137 hl3 hx3 dX10_refuses_1 ?_
            refine rn_if_ne (tgt := 16) dX10_refuses_4 (by decide) (fun h49 => (cx_ne (cv_ne h49) rk_0 rk_0 (by decide)).elim) (fun h49 => ?_)
            refine rn_iload_n (i := 1) dX10_refuses_7 rfl rfl ?_
            refine rn_if_eq (tgt := 16) dX10_refuses_8 (by decide) (fun h50 => (cx_eq (cv_eq h50) rk_1 rk_0 (by decide)).elim) (fun h50 => ?_)
            refine rn_aload_n (i := 0) dX10_refuses_11 rfl rfl ?_
            refine rn_iload_n (i := 2) dX10_refuses_12 rfl rfl ?_
            refine rs_put q1 (kp_SGModel_137 _) hS3 hq1 hl3 hf3 hk_30 rfl rfl (tv_i (rg_w rk_1 (by decide) (by decide))) rfl rfl dX10_refuses_13 (fun w51 fs52 hS52 hl52 hf52 hx52 ho52 hn52 => ?_)
            refine rn_aload_n (i := 0) dX10_refuses_16 rfl rfl ?_
            refine rn_get q1 kg_SGModel_137 hl52 hx52 dX10_refuses_17 ?_
            refine rn_if_le (tgt := 27) dX10_refuses_20 (by decide) (fun h53 => (cx_le (cv_le h53) rk_1 rk_0 (by decide)).elim) (fun h53 => ?_)
            refine rn_iconst (v := (1 : Int32)) dX10_refuses_23 (by decide) ?_
            refine rn_goto (tgt := 28) dX10_refuses_24 (by decide) ?_
            refine rn_iret dX10_refuses_28 rfl rfl (rq_in ?_)
            refine rn_stk [.int (1 : Int32)] rfl ?_
            refine rn_if_eq (tgt := 55) dX10_make_50 (by decide) (fun h54 => (cx_eq (cv_eq h54) rk_1 rk_0 (by decide)).elim) (fun h54 => ?_)
            refine rn_iconst (v := (0 : Int32)) dX10_make_53 (by decide) ?_
            exact rn_iret dX10_make_54 rfl rfl (rq_in ⟨hS52, (0 : Int32), rfl, (rg_w rk_0 (by decide) (by decide))⟩)
          · have ch46 := cv_nlt h46
            have r55 : Rg (0) (2147483647) x5_ := rf_ley ch46 rk_0 (rg_any x5_) (by decide)
            refine rn_iload_n (i := 0) dX10_in_5 rfl rfl ?_
            refine rn_iload_n (i := 2) dX10_in_6 rfl rfl ?_
            refine rn_icmp_gt (tgt := 14) dX10_in_7 (by decide) (fun h56 => ?_) (fun h56 => ?_)
            · have ch56 := cv_lt h56
              have r57 : Rg (1481) (2147483647) x5_ := rf_lty ch56 rk_1480 r55 (by decide)
              refine rn_iconst (v := (0 : Int32)) dX10_in_14 (by decide) ?_
              refine rn_iret dX10_in_15 rfl rfl (rq_in ?_)
              refine rn_stk [.int (0 : Int32), .ref o0_] rfl ?_
              refine rn_if_ne (tgt := 45) dX10_make_38 (by decide) (fun h58 => (cx_ne (cv_ne h58) rk_0 rk_0 (by decide)).elim) (fun h58 => ?_)
              refine rn_iconst (v := (1 : Int32)) dX10_make_41 (by decide) ?_
              refine rn_goto (tgt := 46) dX10_make_42 (by decide) ?_
              refine rn_iconst (v := (1 : Int32)) dX10_make_46 (by decide) ?_
              refine rn_inV (d' := 0) (z' := 0) [.int (1 : Int32), .int (1 : Int32)] kl_SGModel_171 dX10_make_47 q1 hl3 rfl rfl rfl (Nat.le_of_ble_eq_true rfl) (Nat.le_of_ble_eq_true rfl) (Nat.le_of_ble_eq_true rfl) (Nat.le_of_ble_eq_true rfl) ?_
              refine rn_lv [(0, .ref o0_), (1, .int (1 : Int32)), (2, .int (1 : Int32))] rfl ?_
              refine rn_aload_n (i := 0) dX10_refuses_0 rfl rfl ?_
              refine rn_get q1 kg_SGModel_137 hl3 hx3 dX10_refuses_1 ?_
              refine rn_if_ne (tgt := 16) dX10_refuses_4 (by decide) (fun h59 => (cx_ne (cv_ne h59) rk_0 rk_0 (by decide)).elim) (fun h59 => ?_)
              refine rn_iload_n (i := 1) dX10_refuses_7 rfl rfl ?_
              refine rn_if_eq (tgt := 16) dX10_refuses_8 (by decide) (fun h60 => (cx_eq (cv_eq h60) rk_1 rk_0 (by decide)).elim) (fun h60 => ?_)
              refine rn_aload_n (i := 0) dX10_refuses_11 rfl rfl ?_
              refine rn_iload_n (i := 2) dX10_refuses_12 rfl rfl ?_
              refine rs_put q1 (kp_SGModel_137 _) hS3 hq1 hl3 hf3 hk_30 rfl rfl (tv_i (rg_w rk_1 (by decide) (by decide))) rfl rfl dX10_refuses_13 (fun w61 fs62 hS62 hl62 hf62 hx62 ho62 hn62 => ?_)
              refine rn_aload_n (i := 0) dX10_refuses_16 rfl rfl ?_
              refine rn_get q1 kg_SGModel_137 hl62 hx62 dX10_refuses_17 ?_
              refine rn_if_le (tgt := 27) dX10_refuses_20 (by decide) (fun h63 => (cx_le (cv_le h63) rk_1 rk_0 (by decide)).elim) (fun h63 => ?_)
              refine rn_iconst (v := (1 : Int32)) dX10_refuses_23 (by decide) ?_
              refine rn_goto (tgt := 28) dX10_refuses_24 (by decide) ?_
              refine rn_iret dX10_refuses_28 rfl rfl (rq_in ?_)
              refine rn_stk [.int (1 : Int32)] rfl ?_
              refine rn_if_eq (tgt := 55) dX10_make_50 (by decide) (fun h64 => (cx_eq (cv_eq h64) rk_1 rk_0 (by decide)).elim) (fun h64 => ?_)
              refine rn_iconst (v := (0 : Int32)) dX10_make_53 (by decide) ?_
              exact rn_iret dX10_make_54 rfl rfl (rq_in ⟨hS62, (0 : Int32), rfl, (rg_w rk_0 (by decide) (by decide))⟩)
            · have ch56 := cv_nlt h56
              have r65 : Rg (0) (1480) x5_ := rf_lex ch56 r55 rk_1480 (by decide)
              refine rn_iconst (v := (1 : Int32)) dX10_in_10 (by decide) ?_
              refine rn_goto (tgt := 15) dX10_in_11 (by decide) ?_
              refine rn_iret dX10_in_15 rfl rfl (rq_in ?_)
              refine rn_stk [.int (1 : Int32), .ref o0_] rfl ?_
              refine rn_if_ne (tgt := 45) dX10_make_38 (by decide) (fun h66 => ?_) (fun h66 => (cx_eq (cv_eq h66) rk_1 rk_0 (by decide)).elim)
              refine rn_iconst (v := (0 : Int32)) dX10_make_45 (by decide) ?_
              refine rn_iconst (v := (1 : Int32)) dX10_make_46 (by decide) ?_
              refine rn_inV (d' := 0) (z' := 0) [.int (0 : Int32), .int (1 : Int32)] kl_SGModel_171 dX10_make_47 q1 hl3 rfl rfl rfl (Nat.le_of_ble_eq_true rfl) (Nat.le_of_ble_eq_true rfl) (Nat.le_of_ble_eq_true rfl) (Nat.le_of_ble_eq_true rfl) ?_
              refine rn_lv [(0, .ref o0_), (1, .int (0 : Int32)), (2, .int (1 : Int32))] rfl ?_
              refine rn_aload_n (i := 0) dX10_refuses_0 rfl rfl ?_
              refine rn_get q1 kg_SGModel_137 hl3 hx3 dX10_refuses_1 ?_
              refine rn_if_ne (tgt := 16) dX10_refuses_4 (by decide) (fun h67 => (cx_ne (cv_ne h67) rk_0 rk_0 (by decide)).elim) (fun h67 => ?_)
              refine rn_iload_n (i := 1) dX10_refuses_7 rfl rfl ?_
              refine rn_if_eq (tgt := 16) dX10_refuses_8 (by decide) (fun h68 => ?_) (fun h68 => (cx_ne (cv_ne h68) rk_0 rk_0 (by decide)).elim)
              refine rn_aload_n (i := 0) dX10_refuses_16 rfl rfl ?_
              refine rn_get q1 kg_SGModel_137 hl3 hx3 dX10_refuses_17 ?_
              refine rn_if_le (tgt := 27) dX10_refuses_20 (by decide) (fun h69 => ?_) (fun h69 => (cx_lt (cv_nle h69) rk_0 rk_0 (by decide)).elim)
              refine rn_iconst (v := (0 : Int32)) dX10_refuses_27 (by decide) ?_
              refine rn_iret dX10_refuses_28 rfl rfl (rq_in ?_)
              refine rn_stk [.int (0 : Int32)] rfl ?_
              refine rn_if_eq (tgt := 55) dX10_make_50 (by decide) (fun h70 => ?_) (fun h70 => (cx_ne (cv_ne h70) rk_0 rk_0 (by decide)).elim)
              refine rn_aload_n (i := 0) dX10_make_55 rfl rfl ?_
              refine rn_iconst (v := (0 : Int32)) dX10_make_56 (by decide) ?_
              refine rn_ldc (v := (1157627904 : Int32)) wd_1301 dX10_make_57 ?_
              refine rn_bipush (v := (20 : Int32)) dX10_make_59 (by decide) ?_
              refine rn_iload dX10_make_61 rfl ?_
              refine rs_addD (20) (1500) rk_20 r65 dX10_make_63 (by decide) (fun v71 ev71 rv71 => ?_)
              refine rn_ior dX10_make_64 (rn_tn 0 (2147483647) (rg_or 31 2147483648 rfl rk_1157627904 rv71 (by decide)) (fun v72 rv72 => ?_))
              refine rn_callV (a := 0) (b := 0) [.int (0 : Int32), .int v72] kl_SGModel_148 dX10_make_65 q1 hl3 rfl (t_X10_putFour G S w2 hS3.1 o0_ m0_ (0 : Int32) (rg_w rk_0 (by decide) (by decide)) v72) rfl rfl (Nat.le_of_ble_eq_true rfl) (Nat.le_of_ble_eq_true rfl) (Nat.le_of_ble_eq_true rfl) (Nat.le_of_ble_eq_true rfl) (Nat.le_of_ble_eq_true rfl) (Nat.le_of_ble_eq_true rfl) (fun _ _ h => False.elim h) (fun v9 w73 h74 => ?_)
              obtain ⟨hT75, rfl, xah74⟩ := h74
              have hS75 := St.tr hS3 hT75 rfl
              refine rn_stk [] rfl ?_
              refine rn_aload_n (i := 0) dX10_make_68 rfl rfl ?_
              refine rn_iconst (v := (4 : Int32)) dX10_make_69 (by decide) ?_
              refine rn_iconst (v := (0 : Int32)) dX10_make_70 (by decide) ?_
              refine rn_callV (a := 0) (b := 0) [.int (4 : Int32), .int (0 : Int32)] kl_SGModel_148 dX10_make_71 q1 (hT75.fr hq1 rfl hl3) rfl (t_X10_putFour G S w73 hS75.1 o0_ m0_ (4 : Int32) (rg_w rk_4 (by decide) (by decide)) (0 : Int32)) rfl rfl (Nat.le_of_ble_eq_true rfl) (Nat.le_of_ble_eq_true rfl) (Nat.le_of_ble_eq_true rfl) (Nat.le_of_ble_eq_true rfl) (Nat.le_of_ble_eq_true rfl) (Nat.le_of_ble_eq_true rfl) (fun _ _ h => False.elim h) (fun v9 w76 h77 => ?_)
              obtain ⟨hT78, rfl, xah77⟩ := h77
              have hS78 := St.tr hS75 hT78 rfl
              refine rn_stk [] rfl ?_
              refine rn_aload_n (i := 0) dX10_make_74 rfl rfl ?_
              obtain ⟨o79, hx79, m79⟩ := fs_r hf3 2 rfl
              refine rn_get q1 kg_SGModel_7 (hT78.fr hq1 rfl (hT75.fr hq1 rfl hl3)) hx79 dX10_make_75 ?_
              refine rn_bipush (v := (8 : Int32)) dX10_make_78 (by decide) ?_
              refine rn_iload dX10_make_80 rfl ?_
              obtain ⟨q80, f80, hq80, hl80, hf80⟩ := ts_ia hS78.1 m79 hk_33
              refine rs_iast q80 hS78 hq80 hl80 hf80 hk_33 rfl rfl rk_8 (by decide) (by decide) r44 dX10_make_82 (fun w81 f82 hS82 hl82 hf82 hu82 hn82 => ?_)
              refine rn_aload_n (i := 0) dX10_make_83 rfl rfl ?_
              refine rn_get q1 kg_SGModel_7 ((hn82 _ (ts_ne hq80 hq1 rfl)).trans (hT78.fr hq1 rfl (hT75.fr hq1 rfl hl3))) hx79 dX10_make_84 ?_
              refine rn_bipush (v := (9 : Int32)) dX10_make_87 (by decide) ?_
              refine rn_iload_n (i := 3) dX10_make_89 rfl rfl ?_
              refine rs_iast q80 hS82 hq80 hl82 hf82 hk_33 rfl rfl rk_9 (by decide) (by decide) r23 dX10_make_90 (fun w83 f84 hS84 hl84 hf84 hu84 hn84 => ?_)
              refine rn_aload_n (i := 0) dX10_make_91 rfl rfl ?_
              refine rn_bipush (v := (12 : Int32)) dX10_make_92 (by decide) ?_
              refine rn_iload_n (i := 1) dX10_make_94 rfl rfl ?_
              refine rn_callV (a := 0) (b := 0) [.int (12 : Int32), .int x1_] kl_SGModel_148 dX10_make_95 q1 ((hn84 _ (ts_ne hq80 hq1 rfl)).trans ((hn82 _ (ts_ne hq80 hq1 rfl)).trans (hT78.fr hq1 rfl (hT75.fr hq1 rfl hl3)))) rfl (t_X10_putFour G S w83 hS84.1 o0_ m0_ (12 : Int32) (rg_w rk_12 (by decide) (by decide)) x1_) rfl rfl (Nat.le_of_ble_eq_true rfl) (Nat.le_of_ble_eq_true rfl) (Nat.le_of_ble_eq_true rfl) (Nat.le_of_ble_eq_true rfl) (Nat.le_of_ble_eq_true rfl) (Nat.le_of_ble_eq_true rfl) (fun _ _ h => False.elim h) (fun v9 w85 h86 => ?_)
              obtain ⟨hT87, rfl, xah86⟩ := h86
              have hS87 := St.tr hS84 hT87 rfl
              refine rn_stk [] rfl ?_
              refine rn_aload_n (i := 0) dX10_make_98 rfl rfl ?_
              refine rn_bipush (v := (16 : Int32)) dX10_make_99 (by decide) ?_
              refine rn_iload_n (i := 2) dX10_make_101 rfl rfl ?_
              refine rn_callV (a := 0) (b := 0) [.int (16 : Int32), .int x2_] kl_SGModel_148 dX10_make_102 q1 (hT87.fr hq1 rfl ((hn84 _ (ts_ne hq80 hq1 rfl)).trans ((hn82 _ (ts_ne hq80 hq1 rfl)).trans (hT78.fr hq1 rfl (hT75.fr hq1 rfl hl3))))) rfl (t_X10_putFour G S w85 hS87.1 o0_ m0_ (16 : Int32) (rg_w rk_16 (by decide) (by decide)) x2_) rfl rfl (Nat.le_of_ble_eq_true rfl) (Nat.le_of_ble_eq_true rfl) (Nat.le_of_ble_eq_true rfl) (Nat.le_of_ble_eq_true rfl) (Nat.le_of_ble_eq_true rfl) (Nat.le_of_ble_eq_true rfl) (fun _ _ h => False.elim h) (fun v9 w88 h89 => ?_)
              obtain ⟨hT90, rfl, xah89⟩ := h89
              have hS90 := St.tr hS87 hT90 rfl
              refine rn_stk [] rfl ?_
              refine rn_iconst (v := (0 : Int32)) dX10_make_105 (by decide) ?_
              refine rn_istore dX10_make_106 (by decide) [(0, .ref o0_), (1, .int x1_), (2, .int x2_), (3, .int x3_), (4, .int x4_), (5, .int x5_), (6, .int x6_), (7, .int (0 : Int32))] rfl ?_
              have LP92 : ∀ (n : Nat) (w93 : va_W) (x91 : Int32), St G S [33] w88 S w93 → Rg (0) (1480) x91 → (1480 - x91.toInt).toNat = n → Rn G mX10_make 3 66 0 0 108 [(0, .ref o0_), (1, .int x1_), (2, .int x2_), (3, .int x3_), (4, .int x4_), (5, .int x5_), (6, .int x6_), (7, .int x91)] [] w93 (q_t_X10_make G S ws ) := by
                intro n
                induction n using Nat.strongRecOn with
                | _ n ih =>
                  intro w93 x91 hT94 r95 hm96
                  refine rn_iload dX10_make_108 rfl ?_
                  refine rn_iload dX10_make_110 rfl ?_
                  refine rn_icmp_ge (tgt := 140) dX10_make_112 (by decide) (fun h97 => ?_) (fun h97 => ?_)
                  · have ch97 := cv_le h97
                    have hS98 := St.tr hS90 hT94 rfl
                    refine rn_aload_n (i := 0) dX10_make_140 rfl rfl ?_
                    refine rn_iconst (v := (0 : Int32)) dX10_make_141 (by decide) ?_
                    refine rn_callV (a := 0) (b := 0) [.int (0 : Int32)] kl_SGModel_184 dX10_make_142 q1 (hT94.fr hq1 rfl (hT90.fr hq1 rfl (hT87.fr hq1 rfl ((hn84 _ (ts_ne hq80 hq1 rfl)).trans ((hn82 _ (ts_ne hq80 hq1 rfl)).trans (hT78.fr hq1 rfl (hT75.fr hq1 rfl hl3))))))) rfl (t_X10_setSum G S w93 hS98.1 o0_ m0_ (0 : Int32) (rg_w rk_0 (by decide) (by decide))) rfl rfl (Nat.le_of_ble_eq_true rfl) (Nat.le_of_ble_eq_true rfl) (Nat.le_of_ble_eq_true rfl) (Nat.le_of_ble_eq_true rfl) (Nat.le_of_ble_eq_true rfl) (Nat.le_of_ble_eq_true rfl) (fun _ _ h => False.elim h) (fun v9 w99 h100 => ?_)
                    obtain ⟨hT101, rfl, xah100⟩ := h100
                    have hS101 := St.tr hS98 hT101 rfl
                    refine rn_stk [] rfl ?_
                    refine rn_aload_n (i := 0) dX10_make_145 rfl rfl ?_
                    refine rn_bipush (v := (20 : Int32)) dX10_make_146 (by decide) ?_
                    refine rn_iload dX10_make_148 rfl ?_
                    refine rs_addD (20) (1500) rk_20 r65 dX10_make_150 (by decide) (fun v102 ev102 rv102 => ?_)
                    refine rs_put q1 (kp_SGModel_168 _) hS101 hq1 (hT101.fr hq1 rfl (hT94.fr hq1 rfl (hT90.fr hq1 rfl (hT87.fr hq1 rfl ((hn84 _ (ts_ne hq80 hq1 rfl)).trans ((hn82 _ (ts_ne hq80 hq1 rfl)).trans (hT78.fr hq1 rfl (hT75.fr hq1 rfl hl3)))))))) hf3 hk_30 rfl rfl (tv_i (rg_w rv102 (by decide) (by decide))) rfl rfl dX10_make_151 (fun w103 fs104 hS104 hl104 hf104 hx104 ho104 hn104 => ?_)
                    refine rn_aload_n (i := 0) dX10_make_154 rfl rfl ?_
                    refine rn_get q1 kg_SGModel_168 hl104 hx104 dX10_make_155 ?_
                    exact rn_iret dX10_make_158 rfl rfl (rq_in ⟨hS104, v102, rfl, (rg_w rv102 (by decide) (by decide))⟩)
                  · have ch97 := cv_nle h97
                    have r105 : Rg (0) (1479) x91 := rf_ltx ch97 r95 r65 (by decide)
                    have r106 : Rg (1) (1480) x5_ := rf_lty ch97 r95 r65 (by decide)
                    refine rn_aload_n (i := 0) dX10_make_115 rfl rfl ?_
                    refine rn_get q1 kg_SGModel_7 (hT94.fr hq1 rfl (hT90.fr hq1 rfl (hT87.fr hq1 rfl ((hn84 _ (ts_ne hq80 hq1 rfl)).trans ((hn82 _ (ts_ne hq80 hq1 rfl)).trans (hT78.fr hq1 rfl (hT75.fr hq1 rfl hl3))))))) hx79 dX10_make_116 ?_
                    refine rn_bipush (v := (20 : Int32)) dX10_make_119 (by decide) ?_
                    refine rn_iload dX10_make_121 rfl ?_
                    refine rs_addD (20) (1499) rk_20 r105 dX10_make_123 (by decide) (fun v107 ev107 rv107 => ?_)
                    refine rn_iload dX10_make_124 rfl ?_
                    refine rn_iload dX10_make_126 rfl ?_
                    refine rn_iadd dX10_make_128 (rn_nmA (fun v108 rv108 => ?_))
                    refine rn_sipush (v := (255 : Int32)) dX10_make_129 (by decide) ?_
                    refine rn_iand dX10_make_132 (rn_tn 0 (255) (rg_andr rk_255 (by decide)) (fun v109 rv109 => ?_))
                    obtain ⟨q110, f110, hq110, hl110, hf110⟩ := ts_ia hT94.1 m79 hk_33
                    refine rs_iast q110 hT94 hq110 hl110 hf110 hk_33 rfl rfl rv107 (by decide) (by decide) rv109 dX10_make_133 (fun w111 f112 hS112 hl112 hf112 hu112 hn112 => ?_)
                    refine rs_iinc (1) (1480) dX10_make_134 rfl (by decide) r105 rk_1 (by decide) (fun v113 => [(0, .ref o0_), (1, .int x1_), (2, .int x2_), (3, .int x3_), (4, .int x4_), (5, .int x5_), (6, .int x6_), (7, .int v113)]) (fun _ => rfl) (fun v113 ev113 rv113 => ?_)
                    refine rn_goto (tgt := 108) dX10_make_137 (by decide) ?_
                    refine rn_lv [(0, .ref o0_), (1, .int x1_), (2, .int x2_), (3, .int x3_), (4, .int x4_), (5, .int x5_), (6, .int x6_), (7, .int v113)] rfl ?_
                    exact ih _ (lp_inc hm96 ev113 rv113 (by decide)) w111 v113 hS112 (rg_w rv113 (by decide) (by decide)) rfl
              exact LP92 _ w88 (0 : Int32) (St.rf hS90.1) (rg_w rk_0 (by decide) (by decide)) rfl
