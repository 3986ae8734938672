abbrev q_t_X10_top (G : rn_G) (S : ts_S) (ws : va_W) : rn_R → va_W → Prop := rQ (fun v w => St G S [30] ws S w ∧ (∃ x : Int64, v = some (.long x))) (fun E w => False)
set_option maxRecDepth 20000 in
set_option maxHeartbeats 4000000 in
theorem t_X10_top (G : rn_G) (S : ts_S) (ws : va_W) (hW : ts_W G S ws) (o0_ : Nat) (m0_ : (o0_, 30) ∈ S) (x1_ : Int32) : Rn G mX10_top 1 22 0 0 0 (lv_args 0 [.ref o0_, .int x1_]) [] ws (q_t_X10_top G S ws ) := by
  have hS0 : St G S [30] ws S ws := St.rf hW
  refine rn_lv [(0, .ref o0_), (1, .int x1_)] rfl ?_
  refine rn_aload_n (i := 0) dX10_top_0 rfl rfl ?_
  refine rn_iconst (v := (0 : Int32)) dX10_top_1 (by decide) ?_
  obtain ⟨q1, fs1, hq1, hl1, hf1⟩ := ts_obj hS0.1 m0_ hk_30
  refine rs_put q1 (kp_SGModel_137 _) hS0 hq1 hl1 hf1 hk_30 rfl rfl (tv_i (rg_w rk_0 (by decide) (by decide))) rfl rfl dX10_top_2 (fun w2 fs3 hS3 hl3 hf3 hx3 ho3 hn3 => ?_)
  refine rn_aload_n (i := 0) dX10_top_5 rfl rfl ?_
  refine rn_iload_n (i := 1) dX10_top_6 rfl rfl ?_
  refine rn_iconst (v := (0 : Int32)) dX10_top_7 (by decide) ?_
  refine rn_aload_n (i := 0) dX10_top_8 rfl rfl ?_
  obtain ⟨x4, hx4, rx4⟩ := fs_i hf3 22 rfl
  refine rn_get q1 kg_SGModel_200 hl3 hx4 dX10_top_9 ?_
  refine rn_iconst (v := (1 : Int32)) dX10_top_12 (by decide) ?_
  refine rs_subC (-1) (15) rx4 rk_1 dX10_top_13 (by decide) (fun v5 ev5 rv5 => ?_)
  refine rn_inS (d' := 0) (z' := 0) [.int x1_, .int (0 : Int32), .int v5] kl_SGModel_179 dX10_top_14 rfl rfl (Nat.le_of_ble_eq_true rfl) (Nat.le_of_ble_eq_true rfl) (Nat.le_of_ble_eq_true rfl) (Nat.le_of_ble_eq_true rfl) ?_
  refine rn_lv [(0, .int x1_), (1, .int (0 : Int32)), (2, .int v5)] rfl ?_
  refine rn_iload_n (i := 0) dX10_in_0 rfl rfl ?_
  refine rn_iload_n (i := 1) dX10_in_1 rfl rfl ?_
  refine rn_icmp_lt (tgt := 14) dX10_in_2 (by decide) (fun h6 => ?_) (fun h6 => ?_)
  · have ch6 := cv_lt h6
    have r7 : Rg (-2147483648) (-1) x1_ := rf_ltx ch6 (rg_any x1_) rk_0 (by decide)
    refine rn_iconst (v := (0 : Int32)) dX10_in_14 (by decide) ?_
    refine rn_iret dX10_in_15 rfl rfl (rq_in ?_)
    refine rn_stk [.int (0 : Int32), .ref o0_] rfl ?_
    refine rn_if_ne (tgt := 24) dX10_top_17 (by decide) (fun h8 => (cx_ne (cv_ne h8) rk_0 rk_0 (by decide)).elim) (fun h8 => ?_)
    refine rn_iconst (v := (1 : Int32)) dX10_top_20 (by decide) ?_
    refine rn_goto (tgt := 25) dX10_top_21 (by decide) ?_
    refine rn_iconst (v := (1 : Int32)) dX10_top_25 (by decide) ?_
    refine rn_inV (d' := 0) (z' := 0) [.int (1 : Int32), .int (1 : Int32)] kl_SGModel_171 dX10_top_26 q1 hl3 rfl rfl rfl (Nat.le_of_ble_eq_true rfl) (Nat.le_of_ble_eq_true rfl) (Nat.le_of_ble_eq_true rfl) (Nat.le_of_ble_eq_true rfl) ?_
    refine rn_lv [(0, .ref o0_), (1, .int (1 : Int32)), (2, .int (1 : Int32))] rfl ?_
    refine rn_aload_n (i := 0) dX10_refuses_0 rfl rfl ?_
    refine rn_get q1 kg_SGModel_137 hl3 hx3 dX10_refuses_1 ?_
    refine rn_if_ne (tgt := 16) dX10_refuses_4 (by decide) (fun h9 => (cx_ne (cv_ne h9) rk_0 rk_0 (by decide)).elim) (fun h9 => ?_)
    refine rn_iload_n (i := 1) dX10_refuses_7 rfl rfl ?_
    refine rn_if_eq (tgt := 16) dX10_refuses_8 (by decide) (fun h10 => (cx_eq (cv_eq h10) rk_1 rk_0 (by decide)).elim) (fun h10 => ?_)
    refine rn_aload_n (i := 0) dX10_refuses_11 rfl rfl ?_
    refine rn_iload_n (i := 2) dX10_refuses_12 rfl rfl ?_
    refine rs_put q1 (kp_SGModel_137 _) hS3 hq1 hl3 hf3 hk_30 rfl rfl (tv_i (rg_w rk_1 (by decide) (by decide))) rfl rfl dX10_refuses_13 (fun w11 fs12 hS12 hl12 hf12 hx12 ho12 hn12 => ?_)
    refine rn_aload_n (i := 0) dX10_refuses_16 rfl rfl ?_
    refine rn_get q1 kg_SGModel_137 hl12 hx12 dX10_refuses_17 ?_
    refine rn_if_le (tgt := 27) dX10_refuses_20 (by decide) (fun h13 => (cx_le (cv_le h13) rk_1 rk_0 (by decide)).elim) (fun h13 => ?_)
    refine rn_iconst (v := (1 : Int32)) dX10_refuses_23 (by decide) ?_
    refine rn_goto (tgt := 28) dX10_refuses_24 (by decide) ?_
    refine rn_iret dX10_refuses_28 rfl rfl (rq_in ?_)
    refine rn_stk [.int (1 : Int32)] rfl ?_
    refine rn_if_eq (tgt := 36) dX10_top_29 (by decide) (fun h14 => (cx_eq (cv_eq h14) rk_1 rk_0 (by decide)).elim) (fun h14 => ?_)
    refine rn_lconst (v := (0 : Int64)) dX10_top_32 (by decide) ?_
    refine rn_goto (tgt := 42) dX10_top_33 (by decide) ?_
    exact rn_lret dX10_top_42 rfl (rq_in ⟨hS12, (0 : Int64), rfl⟩)
  · have ch6 := cv_nlt h6
    have r15 : Rg (0) (2147483647) x1_ := rf_ley ch6 rk_0 (rg_any x1_) (by decide)
    refine rn_iload_n (i := 0) dX10_in_5 rfl rfl ?_
    refine rn_iload_n (i := 2) dX10_in_6 rfl rfl ?_
    refine rn_icmp_gt (tgt := 14) dX10_in_7 (by decide) (fun h16 => ?_) (fun h16 => ?_)
    · have ch16 := cv_lt h16
      refine rn_iconst (v := (0 : Int32)) dX10_in_14 (by decide) ?_
      refine rn_iret dX10_in_15 rfl rfl (rq_in ?_)
      refine rn_stk [.int (0 : Int32), .ref o0_] rfl ?_
      refine rn_if_ne (tgt := 24) dX10_top_17 (by decide) (fun h17 => (cx_ne (cv_ne h17) rk_0 rk_0 (by decide)).elim) (fun h17 => ?_)
      refine rn_iconst (v := (1 : Int32)) dX10_top_20 (by decide) ?_
      refine rn_goto (tgt := 25) dX10_top_21 (by decide) ?_
      refine rn_iconst (v := (1 : Int32)) dX10_top_25 (by decide) ?_
      refine rn_inV (d' := 0) (z' := 0) [.int (1 : Int32), .int (1 : Int32)] kl_SGModel_171 dX10_top_26 q1 hl3 rfl rfl rfl (Nat.le_of_ble_eq_true rfl) (Nat.le_of_ble_eq_true rfl) (Nat.le_of_ble_eq_true rfl) (Nat.le_of_ble_eq_true rfl) ?_
      refine rn_lv [(0, .ref o0_), (1, .int (1 : Int32)), (2, .int (1 : Int32))] rfl ?_
      refine rn_aload_n (i := 0) dX10_refuses_0 rfl rfl ?_
      refine rn_get q1 kg_SGModel_137 hl3 hx3 dX10_refuses_1 ?_
      refine rn_if_ne (tgt := 16) dX10_refuses_4 (by decide) (fun h18 => (cx_ne (cv_ne h18) rk_0 rk_0 (by decide)).elim) (fun h18 => ?_)
      refine rn_iload_n (i := 1) dX10_refuses_7 rfl rfl ?_
      refine rn_if_eq (tgt := 16) dX10_refuses_8 (by decide) (fun h19 => (cx_eq (cv_eq h19) rk_1 rk_0 (by decide)).elim) (fun h19 => ?_)
      refine rn_aload_n (i := 0) dX10_refuses_11 rfl rfl ?_
      refine rn_iload_n (i := 2) dX10_refuses_12 rfl rfl ?_
      refine rs_put q1 (kp_SGModel_137 _) hS3 hq1 hl3 hf3 hk_30 rfl rfl (tv_i (rg_w rk_1 (by decide) (by decide))) rfl rfl dX10_refuses_13 (fun w20 fs21 hS21 hl21 hf21 hx21 ho21 hn21 => ?_)
      refine rn_aload_n (i := 0) dX10_refuses_16 rfl rfl ?_
      refine rn_get q1 kg_SGModel_137 hl21 hx21 dX10_refuses_17 ?_
      refine rn_if_le (tgt := 27) dX10_refuses_20 (by decide) (fun h22 => (cx_le (cv_le h22) rk_1 rk_0 (by decide)).elim) (fun h22 => ?_)
      refine rn_iconst (v := (1 : Int32)) dX10_refuses_23 (by decide) ?_
      refine rn_goto (tgt := 28) dX10_refuses_24 (by decide) ?_
      refine rn_iret dX10_refuses_28 rfl rfl (rq_in ?_)
      refine rn_stk [.int (1 : Int32)] rfl ?_
      refine rn_if_eq (tgt := 36) dX10_top_29 (by decide) (fun h23 => (cx_eq (cv_eq h23) rk_1 rk_0 (by decide)).elim) (fun h23 => ?_)
      refine rn_lconst (v := (0 : Int64)) dX10_top_32 (by decide) ?_
      refine rn_goto (tgt := 42) dX10_top_33 (by decide) ?_
      exact rn_lret dX10_top_42 rfl (rq_in ⟨hS21, (0 : Int64), rfl⟩)
    · have ch16 := cv_nlt h16
      have r24 : Rg (0) (15) x1_ := rf_lex ch16 r15 rv5 (by decide)
      have r25 : Rg (0) (15) v5 := rf_ley ch16 r15 rv5 (by decide)
      refine rn_iconst (v := (1 : Int32)) dX10_in_10 (by decide) ?_
      refine rn_goto (tgt := 15) dX10_in_11 (by decide) ?_
      refine rn_iret dX10_in_15 rfl rfl (rq_in ?_)
      refine rn_stk [.int (1 : Int32), .ref o0_] rfl ?_
      refine rn_if_ne (tgt := 24) dX10_top_17 (by decide) (fun h26 => ?_) (fun h26 => (cx_eq (cv_eq h26) rk_1 rk_0 (by decide)).elim)
      refine rn_iconst (v := (0 : Int32)) dX10_top_24 (by decide) ?_
      refine rn_iconst (v := (1 : Int32)) dX10_top_25 (by decide) ?_
      refine rn_inV (d' := 0) (z' := 0) [.int (0 : Int32), .int (1 : Int32)] kl_SGModel_171 dX10_top_26 q1 hl3 rfl rfl rfl (Nat.le_of_ble_eq_true rfl) (Nat.le_of_ble_eq_true rfl) (Nat.le_of_ble_eq_true rfl) (Nat.le_of_ble_eq_true rfl) ?_
      refine rn_lv [(0, .ref o0_), (1, .int (0 : Int32)), (2, .int (1 : Int32))] rfl ?_
      refine rn_aload_n (i := 0) dX10_refuses_0 rfl rfl ?_
      refine rn_get q1 kg_SGModel_137 hl3 hx3 dX10_refuses_1 ?_
      refine rn_if_ne (tgt := 16) dX10_refuses_4 (by decide) (fun h27 => (cx_ne (cv_ne h27) rk_0 rk_0 (by decide)).elim) (fun h27 => ?_)
      refine rn_iload_n (i := 1) dX10_refuses_7 rfl rfl ?_
      refine rn_if_eq (tgt := 16) dX10_refuses_8 (by decide) (fun h28 => ?_) (fun h28 => (cx_ne (cv_ne h28) rk_0 rk_0 (by decide)).elim)
      refine rn_aload_n (i := 0) dX10_refuses_16 rfl rfl ?_
      refine rn_get q1 kg_SGModel_137 hl3 hx3 dX10_refuses_17 ?_
      refine rn_if_le (tgt := 27) dX10_refuses_20 (by decide) (fun h29 => ?_) (fun h29 => (cx_lt (cv_nle h29) rk_0 rk_0 (by decide)).elim)
      refine rn_iconst (v := (0 : Int32)) dX10_refuses_27 (by decide) ?_
      refine rn_iret dX10_refuses_28 rfl rfl (rq_in ?_)
      refine rn_stk [.int (0 : Int32)] rfl ?_
      refine rn_if_eq (tgt := 36) dX10_top_29 (by decide) (fun h30 => ?_) (fun h30 => (cx_ne (cv_ne h30) rk_0 rk_0 (by decide)).elim)
      refine rn_aload_n (i := 0) dX10_top_36 rfl rfl ?_
      obtain ⟨o31, hx31, m31⟩ := fs_r hf3 31 rfl
      refine rn_get q1 kg_SGModel_83 hl3 hx31 dX10_top_37 ?_
      refine rn_iload_n (i := 1) dX10_top_40 rfl rfl ?_
      obtain ⟨q32, f32, hq32, hl32⟩ := ts_la hS3.1 m31 hk_62
      refine rs_lald q32 hl32 rfl r24 (by decide) (by decide) dX10_top_41 (fun v33 ev33 => ?_)
      exact rn_lret dX10_top_42 rfl (rq_in ⟨hS3, v33, rfl⟩)
abbrev q_t_X10_seen (G : rn_G) (S : ts_S) (ws : va_W) : rn_R → va_W → Prop := rQ (fun v w => St G S [30] ws S w ∧ (∃ x : Int64, v = some (.long x))) (fun E w => False)
set_option maxRecDepth 20000 in
set_option maxHeartbeats 4000000 in
theorem t_X10_seen (G : rn_G) (S : ts_S) (ws : va_W) (hW : ts_W G S ws) (o0_ : Nat) (m0_ : (o0_, 30) ∈ S) (x1_ : Int32) : Rn G mX10_seen 1 22 0 0 0 (lv_args 0 [.ref o0_, .int x1_]) [] ws (q_t_X10_seen G S ws ) := by
  have hS0 : St G S [30] ws S ws := St.rf hW
  refine rn_lv [(0, .ref o0_), (1, .int x1_)] rfl ?_
  refine rn_aload_n (i := 0) dX10_seen_0 rfl rfl ?_
  refine rn_iconst (v := (0 : Int32)) dX10_seen_1 (by decide) ?_
  obtain ⟨q1, fs1, hq1, hl1, hf1⟩ := ts_obj hS0.1 m0_ hk_30
  refine rs_put q1 (kp_SGModel_137 _) hS0 hq1 hl1 hf1 hk_30 rfl rfl (tv_i (rg_w rk_0 (by decide) (by decide))) rfl rfl dX10_seen_2 (fun w2 fs3 hS3 hl3 hf3 hx3 ho3 hn3 => ?_)
  refine rn_aload_n (i := 0) dX10_seen_5 rfl rfl ?_
  refine rn_iload_n (i := 1) dX10_seen_6 rfl rfl ?_
  refine rn_iconst (v := (0 : Int32)) dX10_seen_7 (by decide) ?_
  refine rn_aload_n (i := 0) dX10_seen_8 rfl rfl ?_
  obtain ⟨x4, hx4, rx4⟩ := fs_i hf3 22 rfl
  refine rn_get q1 kg_SGModel_200 hl3 hx4 dX10_seen_9 ?_
  refine rn_iconst (v := (1 : Int32)) dX10_seen_12 (by decide) ?_
  refine rs_subC (-1) (15) rx4 rk_1 dX10_seen_13 (by decide) (fun v5 ev5 rv5 => ?_)
  refine rn_inS (d' := 0) (z' := 0) [.int x1_, .int (0 : Int32), .int v5] kl_SGModel_179 dX10_seen_14 rfl rfl (Nat.le_of_ble_eq_true rfl) (Nat.le_of_ble_eq_true rfl) (Nat.le_of_ble_eq_true rfl) (Nat.le_of_ble_eq_true rfl) ?_
  refine rn_lv [(0, .int x1_), (1, .int (0 : Int32)), (2, .int v5)] rfl ?_
  refine rn_iload_n (i := 0) dX10_in_0 rfl rfl ?_
  refine rn_iload_n (i := 1) dX10_in_1 rfl rfl ?_
  refine rn_icmp_lt (tgt := 14) dX10_in_2 (by decide) (fun h6 => ?_) (fun h6 => ?_)
  · have ch6 := cv_lt h6
    have r7 : Rg (-2147483648) (-1) x1_ := rf_ltx ch6 (rg_any x1_) rk_0 (by decide)
    refine rn_iconst (v := (0 : Int32)) dX10_in_14 (by decide) ?_
    refine rn_iret dX10_in_15 rfl rfl (rq_in ?_)
    refine rn_stk [.int (0 : Int32), .ref o0_] rfl ?_
    refine rn_if_ne (tgt := 24) dX10_seen_17 (by decide) (fun h8 => (cx_ne (cv_ne h8) rk_0 rk_0 (by decide)).elim) (fun h8 => ?_)
    refine rn_iconst (v := (1 : Int32)) dX10_seen_20 (by decide) ?_
    refine rn_goto (tgt := 25) dX10_seen_21 (by decide) ?_
    refine rn_iconst (v := (1 : Int32)) dX10_seen_25 (by decide) ?_
    refine rn_inV (d' := 0) (z' := 0) [.int (1 : Int32), .int (1 : Int32)] kl_SGModel_171 dX10_seen_26 q1 hl3 rfl rfl rfl (Nat.le_of_ble_eq_true rfl) (Nat.le_of_ble_eq_true rfl) (Nat.le_of_ble_eq_true rfl) (Nat.le_of_ble_eq_true rfl) ?_
    refine rn_lv [(0, .ref o0_), (1, .int (1 : Int32)), (2, .int (1 : Int32))] rfl ?_
    refine rn_aload_n (i := 0) dX10_refuses_0 rfl rfl ?_
    refine rn_get q1 kg_SGModel_137 hl3 hx3 dX10_refuses_1 ?_
    refine rn_if_ne (tgt := 16) dX10_refuses_4 (by decide) (fun h9 => (cx_ne (cv_ne h9) rk_0 rk_0 (by decide)).elim) (fun h9 => ?_)
    refine rn_iload_n (i := 1) dX10_refuses_7 rfl rfl ?_
    refine rn_if_eq (tgt := 16) dX10_refuses_8 (by decide) (fun h10 => (cx_eq (cv_eq h10) rk_1 rk_0 (by decide)).elim) (fun h10 => ?_)
    refine rn_aload_n (i := 0) dX10_refuses_11 rfl rfl ?_
    refine rn_iload_n (i := 2) dX10_refuses_12 rfl rfl ?_
    refine rs_put q1 (kp_SGModel_137 _) hS3 hq1 hl3 hf3 hk_30 rfl rfl (tv_i (rg_w rk_1 (by decide) (by decide))) rfl rfl dX10_refuses_13 (fun w11 fs12 hS12 hl12 hf12 hx12 ho12 hn12 => ?_)
    refine rn_aload_n (i := 0) dX10_refuses_16 rfl rfl ?_
    refine rn_get q1 kg_SGModel_137 hl12 hx12 dX10_refuses_17 ?_
    refine rn_if_le (tgt := 27) dX10_refuses_20 (by decide) (fun h13 => (cx_le (cv_le h13) rk_1 rk_0 (by decide)).elim) (fun h13 => ?_)
    refine rn_iconst (v := (1 : Int32)) dX10_refuses_23 (by decide) ?_
    refine rn_goto (tgt := 28) dX10_refuses_24 (by decide) ?_
    refine rn_iret dX10_refuses_28 rfl rfl (rq_in ?_)
    refine rn_stk [.int (1 : Int32)] rfl ?_
    refine rn_if_eq (tgt := 36) dX10_seen_29 (by decide) (fun h14 => (cx_eq (cv_eq h14) rk_1 rk_0 (by decide)).elim) (fun h14 => ?_)
    refine rn_lconst (v := (0 : Int64)) dX10_seen_32 (by decide) ?_
    refine rn_goto (tgt := 42) dX10_seen_33 (by decide) ?_
    exact rn_lret dX10_seen_42 rfl (rq_in ⟨hS12, (0 : Int64), rfl⟩)
  · have ch6 := cv_nlt h6
    have r15 : Rg (0) (2147483647) x1_ := rf_ley ch6 rk_0 (rg_any x1_) (by decide)
    refine rn_iload_n (i := 0) dX10_in_5 rfl rfl ?_
    refine rn_iload_n (i := 2) dX10_in_6 rfl rfl ?_
    refine rn_icmp_gt (tgt := 14) dX10_in_7 (by decide) (fun h16 => ?_) (fun h16 => ?_)
    · have ch16 := cv_lt h16
      refine rn_iconst (v := (0 : Int32)) dX10_in_14 (by decide) ?_
      refine rn_iret dX10_in_15 rfl rfl (rq_in ?_)
      refine rn_stk [.int (0 : Int32), .ref o0_] rfl ?_
      refine rn_if_ne (tgt := 24) dX10_seen_17 (by decide) (fun h17 => (cx_ne (cv_ne h17) rk_0 rk_0 (by decide)).elim) (fun h17 => ?_)
      refine rn_iconst (v := (1 : Int32)) dX10_seen_20 (by decide) ?_
      refine rn_goto (tgt := 25) dX10_seen_21 (by decide) ?_
      refine rn_iconst (v := (1 : Int32)) dX10_seen_25 (by decide) ?_
      refine rn_inV (d' := 0) (z' := 0) [.int (1 : Int32), .int (1 : Int32)] kl_SGModel_171 dX10_seen_26 q1 hl3 rfl rfl rfl (Nat.le_of_ble_eq_true rfl) (Nat.le_of_ble_eq_true rfl) (Nat.le_of_ble_eq_true rfl) (Nat.le_of_ble_eq_true rfl) ?_
      refine rn_lv [(0, .ref o0_), (1, .int (1 : Int32)), (2, .int (1 : Int32))] rfl ?_
      refine rn_aload_n (i := 0) dX10_refuses_0 rfl rfl ?_
      refine rn_get q1 kg_SGModel_137 hl3 hx3 dX10_refuses_1 ?_
      refine rn_if_ne (tgt := 16) dX10_refuses_4 (by decide) (fun h18 => (cx_ne (cv_ne h18) rk_0 rk_0 (by decide)).elim) (fun h18 => ?_)
      refine rn_iload_n (i := 1) dX10_refuses_7 rfl rfl ?_
      refine rn_if_eq (tgt := 16) dX10_refuses_8 (by decide) (fun h19 => (cx_eq (cv_eq h19) rk_1 rk_0 (by decide)).elim) (fun h19 => ?_)
      refine rn_aload_n (i := 0) dX10_refuses_11 rfl rfl ?_
      refine rn_iload_n (i := 2) dX10_refuses_12 rfl rfl ?_
      refine rs_put q1 (kp_SGModel_137 _) hS3 hq1 hl3 hf3 hk_30 rfl rfl (tv_i (rg_w rk_1 (by decide) (by decide))) rfl rfl dX10_refuses_13 (fun w20 fs21 hS21 hl21 hf21 hx21 ho21 hn21 => ?_)
      refine rn_aload_n (i := 0) dX10_refuses_16 rfl rfl ?_
      refine rn_get q1 kg_SGModel_137 hl21 hx21 dX10_refuses_17 ?_
      refine rn_if_le (tgt := 27) dX10_refuses_20 (by decide) (fun h22 => (cx_le (cv_le h22) rk_1 rk_0 (by decide)).elim) (fun h22 => ?_)
      refine rn_iconst (v := (1 : Int32)) dX10_refuses_23 (by decide) ?_
      refine rn_goto (tgt := 28) dX10_refuses_24 (by decide) ?_
      refine rn_iret dX10_refuses_28 rfl rfl (rq_in ?_)
      refine rn_stk [.int (1 : Int32)] rfl ?_
      refine rn_if_eq (tgt := 36) dX10_seen_29 (by decide) (fun h23 => (cx_eq (cv_eq h23) rk_1 rk_0 (by decide)).elim) (fun h23 => ?_)
      refine rn_lconst (v := (0 : Int64)) dX10_seen_32 (by decide) ?_
      refine rn_goto (tgt := 42) dX10_seen_33 (by decide) ?_
      exact rn_lret dX10_seen_42 rfl (rq_in ⟨hS21, (0 : Int64), rfl⟩)
    · have ch16 := cv_nlt h16
      have r24 : Rg (0) (15) x1_ := rf_lex ch16 r15 rv5 (by decide)
      have r25 : Rg (0) (15) v5 := rf_ley ch16 r15 rv5 (by decide)
      refine rn_iconst (v := (1 : Int32)) dX10_in_10 (by decide) ?_
      refine rn_goto (tgt := 15) dX10_in_11 (by decide) ?_
      refine rn_iret dX10_in_15 rfl rfl (rq_in ?_)
      refine rn_stk [.int (1 : Int32), .ref o0_] rfl ?_
      refine rn_if_ne (tgt := 24) dX10_seen_17 (by decide) (fun h26 => ?_) (fun h26 => (cx_eq (cv_eq h26) rk_1 rk_0 (by decide)).elim)
      refine rn_iconst (v := (0 : Int32)) dX10_seen_24 (by decide) ?_
      refine rn_iconst (v := (1 : Int32)) dX10_seen_25 (by decide) ?_
      refine rn_inV (d' := 0) (z' := 0) [.int (0 : Int32), .int (1 : Int32)] kl_SGModel_171 dX10_seen_26 q1 hl3 rfl rfl rfl (Nat.le_of_ble_eq_true rfl) (Nat.le_of_ble_eq_true rfl) (Nat.le_of_ble_eq_true rfl) (Nat.le_of_ble_eq_true rfl) ?_
      refine rn_lv [(0, .ref o0_), (1, .int (0 : Int32)), (2, .int (1 : Int32))] rfl ?_
      refine rn_aload_n (i := 0) dX10_refuses_0 rfl rfl ?_
      refine rn_get q1 kg_SGModel_137 hl3 hx3 dX10_refuses_1 ?_
      refine rn_if_ne (tgt := 16) dX10_refuses_4 (by decide) (fun h27 => (cx_ne (cv_ne h27) rk_0 rk_0 (by decide)).elim) (fun h27 => ?_)
      refine rn_iload_n (i := 1) dX10_refuses_7 rfl rfl ?_
      refine rn_if_eq (tgt := 16) dX10_refuses_8 (by decide) (fun h28 => ?_) (fun h28 => (cx_ne (cv_ne h28) rk_0 rk_0 (by decide)).elim)
      refine rn_aload_n (i := 0) dX10_refuses_16 rfl rfl ?_
      refine rn_get q1 kg_SGModel_137 hl3 hx3 dX10_refuses_17 ?_
      refine rn_if_le (tgt := 27) dX10_refuses_20 (by decide) (fun h29 => ?_) (fun h29 => (cx_lt (cv_nle h29) rk_0 rk_0 (by decide)).elim)
      refine rn_iconst (v := (0 : Int32)) dX10_refuses_27 (by decide) ?_
      refine rn_iret dX10_refuses_28 rfl rfl (rq_in ?_)
      refine rn_stk [.int (0 : Int32)] rfl ?_
      refine rn_if_eq (tgt := 36) dX10_seen_29 (by decide) (fun h30 => ?_) (fun h30 => (cx_ne (cv_ne h30) rk_0 rk_0 (by decide)).elim)
      refine rn_aload_n (i := 0) dX10_seen_36 rfl rfl ?_
      obtain ⟨o31, hx31, m31⟩ := fs_r hf3 32 rfl
      refine rn_get q1 kg_SGModel_86 hl3 hx31 dX10_seen_37 ?_
      refine rn_iload_n (i := 1) dX10_seen_40 rfl rfl ?_
      obtain ⟨q32, f32, hq32, hl32⟩ := ts_la hS3.1 m31 hk_63
      refine rs_lald q32 hl32 rfl r24 (by decide) (by decide) dX10_seen_41 (fun v33 ev33 => ?_)
      exact rn_lret dX10_seen_42 rfl (rq_in ⟨hS3, v33, rfl⟩)
abbrev q_t_X10_log (G : rn_G) (S : ts_S) (ws : va_W) : rn_R → va_W → Prop := rQ (fun v w => St G S [30] ws S w ∧ (∃ x : Int32, v = some (.int x) ∧ Rg (-2147483648) (2147483647) x)) (fun E w => False)
set_option maxRecDepth 20000 in
set_option maxHeartbeats 4000000 in
theorem t_X10_log (G : rn_G) (S : ts_S) (ws : va_W) (hW : ts_W G S ws) (o0_ : Nat) (m0_ : (o0_, 30) ∈ S) (x1_ : Int32) (x2_ : Int32) : Rn G mX10_log 1 22 0 0 0 (lv_args 0 [.ref o0_, .int x1_, .int x2_]) [] ws (q_t_X10_log G S ws ) := by
  have hS0 : St G S [30] ws S ws := St.rf hW
  refine rn_lv [(0, .ref o0_), (1, .int x1_), (2, .int x2_)] rfl ?_
  refine rn_aload_n (i := 0) dX10_log_0 rfl rfl ?_
  refine rn_iconst (v := (0 : Int32)) dX10_log_1 (by decide) ?_
  obtain ⟨q1, fs1, hq1, hl1, hf1⟩ := ts_obj hS0.1 m0_ hk_30
  refine rs_put q1 (kp_SGModel_137 _) hS0 hq1 hl1 hf1 hk_30 rfl rfl (tv_i (rg_w rk_0 (by decide) (by decide))) rfl rfl dX10_log_2 (fun w2 fs3 hS3 hl3 hf3 hx3 ho3 hn3 => ?_)
  refine rn_aload_n (i := 0) dX10_log_5 rfl rfl ?_
  refine rn_iload_n (i := 1) dX10_log_6 rfl rfl ?_
  refine rn_iconst (v := (0 : Int32)) dX10_log_7 (by decide) ?_
  refine rn_aload_n (i := 0) dX10_log_8 rfl rfl ?_
  obtain ⟨x4, hx4, rx4⟩ := fs_i hf3 51 rfl
  refine rn_get q1 kg_SGModel_243 hl3 hx4 dX10_log_9 ?_
  refine rn_iconst (v := (1 : Int32)) dX10_log_12 (by decide) ?_
  refine rs_subC (-1) (15) rx4 rk_1 dX10_log_13 (by decide) (fun v5 ev5 rv5 => ?_)
  refine rn_inS (d' := 0) (z' := 0) [.int x1_, .int (0 : Int32), .int v5] kl_SGModel_179 dX10_log_14 rfl rfl (Nat.le_of_ble_eq_true rfl) (Nat.le_of_ble_eq_true rfl) (Nat.le_of_ble_eq_true rfl) (Nat.le_of_ble_eq_true rfl) ?_
  refine rn_lv [(0, .int x1_), (1, .int (0 : Int32)), (2, .int v5)] rfl ?_
  refine rn_iload_n (i := 0) dX10_in_0 rfl rfl ?_
  refine rn_iload_n (i := 1) dX10_in_1 rfl rfl ?_
  refine rn_icmp_lt (tgt := 14) dX10_in_2 (by decide) (fun h6 => ?_) (fun h6 => ?_)
  · have ch6 := cv_lt h6
    have r7 : Rg (-2147483648) (-1) x1_ := rf_ltx ch6 (rg_any x1_) rk_0 (by decide)
    refine rn_iconst (v := (0 : Int32)) dX10_in_14 (by decide) ?_
    refine rn_iret dX10_in_15 rfl rfl (rq_in ?_)
    refine rn_stk [.int (0 : Int32), .ref o0_] rfl ?_
    refine rn_if_eq (tgt := 29) dX10_log_17 (by decide) (fun h8 => ?_) (fun h8 => (cx_ne (cv_ne h8) rk_0 rk_0 (by decide)).elim)
    refine rn_iconst (v := (1 : Int32)) dX10_log_29 (by decide) ?_
    refine rn_goto (tgt := 34) dX10_log_30 (by decide) ?_
    refine rn_iconst (v := (1 : Int32)) dX10_log_34 (by decide) ?_
    refine rn_inV (d' := 0) (z' := 0) [.int (1 : Int32), .int (1 : Int32)] kl_SGModel_171 dX10_log_35 q1 hl3 rfl rfl rfl (Nat.le_of_ble_eq_true rfl) (Nat.le_of_ble_eq_true rfl) (Nat.le_of_ble_eq_true rfl) (Nat.le_of_ble_eq_true rfl) ?_
    refine rn_lv [(0, .ref o0_), (1, .int (1 : Int32)), (2, .int (1 : Int32))] rfl ?_
    refine rn_aload_n (i := 0) dX10_refuses_0 rfl rfl ?_
    refine rn_get q1 kg_SGModel_137 hl3 hx3 dX10_refuses_1 ?_
    refine rn_if_ne (tgt := 16) dX10_refuses_4 (by decide) (fun h9 => (cx_ne (cv_ne h9) rk_0 rk_0 (by decide)).elim) (fun h9 => ?_)
    refine rn_iload_n (i := 1) dX10_refuses_7 rfl rfl ?_
    refine rn_if_eq (tgt := 16) dX10_refuses_8 (by decide) (fun h10 => (cx_eq (cv_eq h10) rk_1 rk_0 (by decide)).elim) (fun h10 => ?_)
    refine rn_aload_n (i := 0) dX10_refuses_11 rfl rfl ?_
    refine rn_iload_n (i := 2) dX10_refuses_12 rfl rfl ?_
    refine rs_put q1 (kp_SGModel_137 _) hS3 hq1 hl3 hf3 hk_30 rfl rfl (tv_i (rg_w rk_1 (by decide) (by decide))) rfl rfl dX10_refuses_13 (fun w11 fs12 hS12 hl12 hf12 hx12 ho12 hn12 => ?_)
    refine rn_aload_n (i := 0) dX10_refuses_16 rfl rfl ?_
    refine rn_get q1 kg_SGModel_137 hl12 hx12 dX10_refuses_17 ?_
    refine rn_if_le (tgt := 27) dX10_refuses_20 (by decide) (fun h13 => (cx_le (cv_le h13) rk_1 rk_0 (by decide)).elim) (fun h13 => ?_)
    refine rn_iconst (v := (1 : Int32)) dX10_refuses_23 (by decide) ?_
    refine rn_goto (tgt := 28) dX10_refuses_24 (by decide) ?_
    refine rn_iret dX10_refuses_28 rfl rfl (rq_in ?_)
    refine rn_stk [.int (1 : Int32)] rfl ?_
    refine rn_if_eq (tgt := 43) dX10_log_38 (by decide) (fun h14 => (cx_eq (cv_eq h14) rk_1 rk_0 (by decide)).elim) (fun h14 => ?_)
    refine rn_iconst (v := (0 : Int32)) dX10_log_41 (by decide) ?_
    exact rn_iret dX10_log_42 rfl rfl (rq_in ⟨hS12, (0 : Int32), rfl, (rg_w rk_0 (by decide) (by decide))⟩)
  · have ch6 := cv_nlt h6
    have r15 : Rg (0) (2147483647) x1_ := rf_ley ch6 rk_0 (rg_any x1_) (by decide)
    refine rn_iload_n (i := 0) dX10_in_5 rfl rfl ?_
    refine rn_iload_n (i := 2) dX10_in_6 rfl rfl ?_
    refine rn_icmp_gt (tgt := 14) dX10_in_7 (by decide) (fun h16 => ?_) (fun h16 => ?_)
    · have ch16 := cv_lt h16
      refine rn_iconst (v := (0 : Int32)) dX10_in_14 (by decide) ?_
      refine rn_iret dX10_in_15 rfl rfl (rq_in ?_)
      refine rn_stk [.int (0 : Int32), .ref o0_] rfl ?_
      refine rn_if_eq (tgt := 29) dX10_log_17 (by decide) (fun h17 => ?_) (fun h17 => (cx_ne (cv_ne h17) rk_0 rk_0 (by decide)).elim)
      refine rn_iconst (v := (1 : Int32)) dX10_log_29 (by decide) ?_
      refine rn_goto (tgt := 34) dX10_log_30 (by decide) ?_
      refine rn_iconst (v := (1 : Int32)) dX10_log_34 (by decide) ?_
      refine rn_inV (d' := 0) (z' := 0) [.int (1 : Int32), .int (1 : Int32)] kl_SGModel_171 dX10_log_35 q1 hl3 rfl rfl rfl (Nat.le_of_ble_eq_true rfl) (Nat.le_of_ble_eq_true rfl) (Nat.le_of_ble_eq_true rfl) (Nat.le_of_ble_eq_true rfl) ?_
      refine rn_lv [(0, .ref o0_), (1, .int (1 : Int32)), (2, .int (1 : Int32))] rfl ?_
      refine rn_aload_n (i := 0) dX10_refuses_0 rfl rfl ?_
      refine rn_get q1 kg_SGModel_137 hl3 hx3 dX10_refuses_1 ?_
      refine rn_if_ne (tgt := 16) dX10_refuses_4 (by decide) (fun h18 => (cx_ne (cv_ne h18) rk_0 rk_0 (by decide)).elim) (fun h18 => ?_)
      refine rn_iload_n (i := 1) dX10_refuses_7 rfl rfl ?_
      refine rn_if_eq (tgt := 16) dX10_refuses_8 (by decide) (fun h19 => (cx_eq (cv_eq h19) rk_1 rk_0 (by decide)).elim) (fun h19 => ?_)
      refine rn_aload_n (i := 0) dX10_refuses_11 rfl rfl ?_
      refine rn_iload_n (i := 2) dX10_refuses_12 rfl rfl ?_
      refine rs_put q1 (kp_SGModel_137 _) hS3 hq1 hl3 hf3 hk_30 rfl rfl (tv_i (rg_w rk_1 (by decide) (by decide))) rfl rfl dX10_refuses_13 (fun w20 fs21 hS21 hl21 hf21 hx21 ho21 hn21 => ?_)
      refine rn_aload_n (i := 0) dX10_refuses_16 rfl rfl ?_
      refine rn_get q1 kg_SGModel_137 hl21 hx21 dX10_refuses_17 ?_
      refine rn_if_le (tgt := 27) dX10_refuses_20 (by decide) (fun h22 => (cx_le (cv_le h22) rk_1 rk_0 (by decide)).elim) (fun h22 => ?_)
      refine rn_iconst (v := (1 : Int32)) dX10_refuses_23 (by decide) ?_
      refine rn_goto (tgt := 28) dX10_refuses_24 (by decide) ?_
      refine rn_iret dX10_refuses_28 rfl rfl (rq_in ?_)
      refine rn_stk [.int (1 : Int32)] rfl ?_
      refine rn_if_eq (tgt := 43) dX10_log_38 (by decide) (fun h23 => (cx_eq (cv_eq h23) rk_1 rk_0 (by decide)).elim) (fun h23 => ?_)
      refine rn_iconst (v := (0 : Int32)) dX10_log_41 (by decide) ?_
      exact rn_iret dX10_log_42 rfl rfl (rq_in ⟨hS21, (0 : Int32), rfl, (rg_w rk_0 (by decide) (by decide))⟩)
    · have ch16 := cv_nlt h16
      have r24 : Rg (0) (15) x1_ := rf_lex ch16 r15 rv5 (by decide)
      have r25 : Rg (0) (15) v5 := rf_ley ch16 r15 rv5 (by decide)
      refine rn_iconst (v := (1 : Int32)) dX10_in_10 (by decide) ?_
      refine rn_goto (tgt := 15) dX10_in_11 (by decide) ?_
      refine rn_iret dX10_in_15 rfl rfl (rq_in ?_)
      refine rn_stk [.int (1 : Int32), .ref o0_] rfl ?_
      refine rn_if_eq (tgt := 29) dX10_log_17 (by decide) (fun h26 => (cx_eq (cv_eq h26) rk_1 rk_0 (by decide)).elim) (fun h26 => ?_)
      refine rn_iload_n (i := 2) dX10_log_20 rfl rfl ?_
      refine rn_iconst (v := (0 : Int32)) dX10_log_21 (by decide) ?_
      refine rn_iconst (v := (4 : Int32)) dX10_log_22 (by decide) ?_
      refine rn_inS (d' := 0) (z' := 0) [.int x2_, .int (0 : Int32), .int (4 : Int32)] kl_SGModel_179 dX10_log_23 rfl rfl (Nat.le_of_ble_eq_true rfl) (Nat.le_of_ble_eq_true rfl) (Nat.le_of_ble_eq_true rfl) (Nat.le_of_ble_eq_true rfl) ?_
      refine rn_lv [(0, .int x2_), (1, .int (0 : Int32)), (2, .int (4 : Int32))] rfl ?_
      refine rn_iload_n (i := 0) dX10_in_0 rfl rfl ?_
      refine rn_iload_n (i := 1) dX10_in_1 rfl rfl ?_
      refine rn_icmp_lt (tgt := 14) dX10_in_2 (by decide) (fun h27 => ?_) (fun h27 => ?_)
      · have ch27 := cv_lt h27
        have r28 : Rg (-2147483648) (-1) x2_ := rf_ltx ch27 (rg_any x2_) rk_0 (by decide)
        refine rn_iconst (v := (0 : Int32)) dX10_in_14 (by decide) ?_
        refine rn_iret dX10_in_15 rfl rfl (rq_in ?_)
        refine rn_stk [.int (0 : Int32), .ref o0_] rfl ?_
        refine rn_if_ne (tgt := 33) dX10_log_26 (by decide) (fun h29 => (cx_ne (cv_ne h29) rk_0 rk_0 (by decide)).elim) (fun h29 => ?_)
        refine rn_iconst (v := (1 : Int32)) dX10_log_29 (by decide) ?_
        refine rn_goto (tgt := 34) dX10_log_30 (by decide) ?_
        refine rn_iconst (v := (1 : Int32)) dX10_log_34 (by decide) ?_
        refine rn_inV (d' := 0) (z' := 0) [.int (1 : Int32), .int (1 : Int32)] kl_SGModel_171 dX10_log_35 q1 hl3 rfl rfl rfl (Nat.le_of_ble_eq_true rfl) (Nat.le_of_ble_eq_true rfl) (Nat.le_of_ble_eq_true rfl) (Nat.le_of_ble_eq_true rfl) ?_
        refine rn_lv [(0, .ref o0_), (1, .int (1 : Int32)), (2, .int (1 : Int32))] rfl ?_
        refine rn_aload_n (i := 0) dX10_refuses_0 rfl rfl ?_
        refine rn_get q1 kg_SGModel_137 hl3 hx3 dX10_refuses_1 ?_
        refine rn_if_ne (tgt := 16) dX10_refuses_4 (by decide) (fun h30 => (cx_ne (cv_ne h30) rk_0 rk_0 (by decide)).elim) (fun h30 => ?_)
        refine rn_iload_n (i := 1) dX10_refuses_7 rfl rfl ?_
        refine rn_if_eq (tgt := 16) dX10_refuses_8 (by decide) (fun h31 => (cx_eq (cv_eq h31) rk_1 rk_0 (by decide)).elim) (fun h31 => ?_)
        refine rn_aload_n (i := 0) dX10_refuses_11 rfl rfl ?_
        refine rn_iload_n (i := 2) dX10_refuses_12 rfl rfl ?_
        refine rs_put q1 (kp_SGModel_137 _) hS3 hq1 hl3 hf3 hk_30 rfl rfl (tv_i (rg_w rk_1 (by decide) (by decide))) rfl rfl dX10_refuses_13 (fun w32 fs33 hS33 hl33 hf33 hx33 ho33 hn33 => ?_)
        refine rn_aload_n (i := 0) dX10_refuses_16 rfl rfl ?_
        refine rn_get q1 kg_SGModel_137 hl33 hx33 dX10_refuses_17 ?_
        refine rn_if_le (tgt := 27) dX10_refuses_20 (by decide) (fun h34 => (cx_le (cv_le h34) rk_1 rk_0 (by decide)).elim) (fun h34 => ?_)
        refine rn_iconst (v := (1 : Int32)) dX10_refuses_23 (by decide) ?_
        refine rn_goto (tgt := 28) dX10_refuses_24 (by decide) ?_
        refine rn_iret dX10_refuses_28 rfl rfl (rq_in ?_)
        refine rn_stk [.int (1 : Int32)] rfl ?_
        refine rn_if_eq (tgt := 43) dX10_log_38 (by decide) (fun h35 => (cx_eq (cv_eq h35) rk_1 rk_0 (by decide)).elim) (fun h35 => ?_)
        refine rn_iconst (v := (0 : Int32)) dX10_log_41 (by decide) ?_
        exact rn_iret dX10_log_42 rfl rfl (rq_in ⟨hS33, (0 : Int32), rfl, (rg_w rk_0 (by decide) (by decide))⟩)
      · have ch27 := cv_nlt h27
        have r36 : Rg (0) (2147483647) x2_ := rf_ley ch27 rk_0 (rg_any x2_) (by decide)
        refine rn_iload_n (i := 0) dX10_in_5 rfl rfl ?_
        refine rn_iload_n (i := 2) dX10_in_6 rfl rfl ?_
        refine rn_icmp_gt (tgt := 14) dX10_in_7 (by decide) (fun h37 => ?_) (fun h37 => ?_)
        · have ch37 := cv_lt h37
          have r38 : Rg (5) (2147483647) x2_ := rf_lty ch37 rk_4 r36 (by decide)
          refine rn_iconst (v := (0 : Int32)) dX10_in_14 (by decide) ?_
          refine rn_iret dX10_in_15 rfl rfl (rq_in ?_)
          refine rn_stk [.int (0 : Int32), .ref o0_] rfl ?_
          refine rn_if_ne (tgt := 33) dX10_log_26 (by decide) (fun h39 => (cx_ne (cv_ne h39) rk_0 rk_0 (by decide)).elim) (fun h39 => ?_)
          refine rn_iconst (v := (1 : Int32)) dX10_log_29 (by decide) ?_
          refine rn_goto (tgt := 34) dX10_log_30 (by decide) ?_
          refine rn_iconst (v := (1 : Int32)) dX10_log_34 (by decide) ?_
          refine rn_inV (d' := 0) (z' := 0) [.int (1 : Int32), .int (1 : Int32)] kl_SGModel_171 dX10_log_35 q1 hl3 rfl rfl rfl (Nat.le_of_ble_eq_true rfl) (Nat.le_of_ble_eq_true rfl) (Nat.le_of_ble_eq_true rfl) (Nat.le_of_ble_eq_true rfl) ?_
          refine rn_lv [(0, .ref o0_), (1, .int (1 : Int32)), (2, .int (1 : Int32))] rfl ?_
          refine rn_aload_n (i := 0) dX10_refuses_0 rfl rfl ?_
          refine rn_get q1 kg_SGModel_137 hl3 hx3 dX10_refuses_1 ?_
          refine rn_if_ne (tgt := 16) dX10_refuses_4 (by decide) (fun h40 => (cx_ne (cv_ne h40) rk_0 rk_0 (by decide)).elim) (fun h40 => ?_)
          refine rn_iload_n (i := 1) dX10_refuses_7 rfl rfl ?_
          refine rn_if_eq (tgt := 16) dX10_refuses_8 (by decide) (fun h41 => (cx_eq (cv_eq h41) rk_1 rk_0 (by decide)).elim) (fun h41 => ?_)
          refine rn_aload_n (i := 0) dX10_refuses_11 rfl rfl ?_
          refine rn_iload_n (i := 2) dX10_refuses_12 rfl rfl ?_
          refine rs_put q1 (kp_SGModel_137 _) hS3 hq1 hl3 hf3 hk_30 rfl rfl (tv_i (rg_w rk_1 (by decide) (by decide))) rfl rfl dX10_refuses_13 (fun w42 fs43 hS43 hl43 hf43 hx43 ho43 hn43 => ?_)
          refine rn_aload_n (i := 0) dX10_refuses_16 rfl rfl ?_
          refine rn_get q1 kg_SGModel_137 hl43 hx43 dX10_refuses_17 ?_
          refine rn_if_le (tgt := 27) dX10_refuses_20 (by decide) (fun h44 => (cx_le (cv_le h44) rk_1 rk_0 (by decide)).elim) (fun h44 => ?_)
          refine rn_iconst (v := (1 : Int32)) dX10_refuses_23 (by decide) ?_
          refine rn_goto (tgt := 28) dX10_refuses_24 (by decide) ?_
          refine rn_iret dX10_refuses_28 rfl rfl (rq_in ?_)
          refine rn_stk [.int (1 : Int32)] rfl ?_
          refine rn_if_eq (tgt := 43) dX10_log_38 (by decide) (fun h45 => (cx_eq (cv_eq h45) rk_1 rk_0 (by decide)).elim) (fun h45 => ?_)
          refine rn_iconst (v := (0 : Int32)) dX10_log_41 (by decide) ?_
          exact rn_iret dX10_log_42 rfl rfl (rq_in ⟨hS43, (0 : Int32), rfl, (rg_w rk_0 (by decide) (by decide))⟩)
        · have ch37 := cv_nlt h37
          have r46 : Rg (0) (4) x2_ := rf_lex ch37 r36 rk_4 (by decide)
          refine rn_iconst (v := (1 : Int32)) dX10_in_10 (by decide) ?_
          refine rn_goto (tgt := 15) dX10_in_11 (by decide) ?_
          refine rn_iret dX10_in_15 rfl rfl (rq_in ?_)
          refine rn_stk [.int (1 : Int32), .ref o0_] rfl ?_
          refine rn_if_ne (tgt := 33) dX10_log_26 (by decide) (fun h47 => ?_) (fun h47 => (cx_eq (cv_eq h47) rk_1 rk_0 (by decide)).elim)
          refine rn_iconst (v := (0 : Int32)) dX10_log_33 (by decide) ?_
          refine rn_iconst (v := (1 : Int32)) dX10_log_34 (by decide) ?_
          refine rn_inV (d' := 0) (z' := 0) [.int (0 : Int32), .int (1 : Int32)] kl_SGModel_171 dX10_log_35 q1 hl3 rfl rfl rfl (Nat.le_of_ble_eq_true rfl) (Nat.le_of_ble_eq_true rfl) (Nat.le_of_ble_eq_true rfl) (Nat.le_of_ble_eq_true rfl) ?_
          refine rn_lv [(0, .ref o0_), (1, .int (0 : Int32)), (2, .int (1 : Int32))] rfl ?_
          refine rn_aload_n (i := 0) dX10_refuses_0 rfl rfl ?_
          refine rn_get q1 kg_SGModel_137 hl3 hx3 dX10_refuses_1 ?_
          refine rn_if_ne (tgt := 16) dX10_refuses_4 (by decide) (fun h48 => (cx_ne (cv_ne h48) rk_0 rk_0 (by decide)).elim) (fun h48 => ?_)
          refine rn_iload_n (i := 1) dX10_refuses_7 rfl rfl ?_
          refine rn_if_eq (tgt := 16) dX10_refuses_8 (by decide) (fun h49 => ?_) (fun h49 => (cx_ne (cv_ne h49) rk_0 rk_0 (by decide)).elim)
          refine rn_aload_n (i := 0) dX10_refuses_16 rfl rfl ?_
          refine rn_get q1 kg_SGModel_137 hl3 hx3 dX10_refuses_17 ?_
          refine rn_if_le (tgt := 27) dX10_refuses_20 (by decide) (fun h50 => ?_) (fun h50 => (cx_lt (cv_nle h50) rk_0 rk_0 (by decide)).elim)
          refine rn_iconst (v := (0 : Int32)) dX10_refuses_27 (by decide) ?_
          refine rn_iret dX10_refuses_28 rfl rfl (rq_in ?_)
          refine rn_stk [.int (0 : Int32)] rfl ?_
          refine rn_if_eq (tgt := 43) dX10_log_38 (by decide) (fun h51 => ?_) (fun h51 => (cx_ne (cv_ne h51) rk_0 rk_0 (by decide)).elim)
          refine rn_iload_n (i := 2) dX10_log_43 rfl rfl ?_
          refine rn_if_ne (tgt := 56) dX10_log_44 (by decide) (fun h52 => ?_) (fun h52 => ?_)
          · have ch52 := cv_ne h52
            have r53 : Rg (1) (4) x2_ := rf_nel ch52 r46 rk_0 (by decide) (by decide)
            refine rn_iload_n (i := 2) dX10_log_56 rfl rfl ?_
            refine rn_iconst (v := (1 : Int32)) dX10_log_57 (by decide) ?_
            refine rn_icmp_ne (tgt := 70) dX10_log_58 (by decide) (fun h54 => ?_) (fun h54 => ?_)
            · have ch54 := cv_ne h54
              have r55 : Rg (2) (4) x2_ := rf_nel ch54 r53 rk_1 (by decide) (by decide)
              refine rn_iload_n (i := 2) dX10_log_70 rfl rfl ?_
              refine rn_iconst (v := (2 : Int32)) dX10_log_71 (by decide) ?_
              refine rn_icmp_ne (tgt := 84) dX10_log_72 (by decide) (fun h56 => ?_) (fun h56 => ?_)
              · have ch56 := cv_ne h56
                have r57 : Rg (3) (4) x2_ := rf_nel ch56 r55 rk_2 (by decide) (by decide)
                refine rn_iload_n (i := 2) dX10_log_84 rfl rfl ?_
                refine rn_iconst (v := (3 : Int32)) dX10_log_85 (by decide) ?_
                refine rn_icmp_ne (tgt := 98) dX10_log_86 (by decide) (fun h58 => ?_) (fun h58 => ?_)
                · have ch58 := cv_ne h58
                  have r59 : Rg (4) (4) x2_ := rf_nel ch58 r57 rk_3 (by decide) (by decide)
                  refine rn_aload_n (i := 0) dX10_log_98 rfl rfl ?_
                  obtain ⟨o60, hx60, m60⟩ := fs_r hf3 50 rfl
                  refine rn_get q1 kg_SGModel_131 hl3 hx60 dX10_log_99 ?_
                  refine rn_iload_n (i := 1) dX10_log_102 rfl rfl ?_
                  obtain ⟨q61, f61, hq61, hl61, hf61⟩ := ts_ia hS3.1 m60 hk_81
                  refine rs_iald q61 hl61 hf61 rfl r24 (by decide) (by decide) dX10_log_103 (fun v62 ev62 rv62 => ?_)
                  exact rn_iret dX10_log_104 rfl rfl (rq_in ⟨hS3, v62, rfl, rv62⟩)
                · have ch58 := cv_eq h58
                  have r63 : Rg (3) (3) x2_ := rf_eqx ch58 r57 rk_3 (by decide) (by decide)
                  refine rn_aload_n (i := 0) dX10_log_89 rfl rfl ?_
                  obtain ⟨o64, hx64, m64⟩ := fs_r hf3 49 rfl
                  refine rn_get q1 kg_SGModel_128 hl3 hx64 dX10_log_90 ?_
                  refine rn_iload_n (i := 1) dX10_log_93 rfl rfl ?_
                  obtain ⟨q65, f65, hq65, hl65, hf65⟩ := ts_ia hS3.1 m64 hk_80
                  refine rs_iald q65 hl65 hf65 rfl r24 (by decide) (by decide) dX10_log_94 (fun v66 ev66 rv66 => ?_)
                  refine rn_goto (tgt := 104) dX10_log_95 (by decide) ?_
                  exact rn_iret dX10_log_104 rfl rfl (rq_in ⟨hS3, v66, rfl, rv66⟩)
              · have ch56 := cv_eq h56
                have r67 : Rg (2) (2) x2_ := rf_eqx ch56 r55 rk_2 (by decide) (by decide)
                refine rn_aload_n (i := 0) dX10_log_75 rfl rfl ?_
                obtain ⟨o68, hx68, m68⟩ := fs_r hf3 48 rfl
                refine rn_get q1 kg_SGModel_125 hl3 hx68 dX10_log_76 ?_
                refine rn_iload_n (i := 1) dX10_log_79 rfl rfl ?_
                obtain ⟨q69, f69, hq69, hl69, hf69⟩ := ts_ia hS3.1 m68 hk_79
                refine rs_iald q69 hl69 hf69 rfl r24 (by decide) (by decide) dX10_log_80 (fun v70 ev70 rv70 => ?_)
                refine rn_goto (tgt := 104) dX10_log_81 (by decide) ?_
                exact rn_iret dX10_log_104 rfl rfl (rq_in ⟨hS3, v70, rfl, rv70⟩)
            · have ch54 := cv_eq h54
              have r71 : Rg (1) (1) x2_ := rf_eqx ch54 r53 rk_1 (by decide) (by decide)
              refine rn_aload_n (i := 0) dX10_log_61 rfl rfl ?_
              obtain ⟨o72, hx72, m72⟩ := fs_r hf3 47 rfl
              refine rn_get q1 kg_SGModel_122 hl3 hx72 dX10_log_62 ?_
              refine rn_iload_n (i := 1) dX10_log_65 rfl rfl ?_
              obtain ⟨q73, f73, hq73, hl73, hf73⟩ := ts_ia hS3.1 m72 hk_78
              refine rs_iald q73 hl73 hf73 rfl r24 (by decide) (by decide) dX10_log_66 (fun v74 ev74 rv74 => ?_)
              refine rn_goto (tgt := 104) dX10_log_67 (by decide) ?_
              exact rn_iret dX10_log_104 rfl rfl (rq_in ⟨hS3, v74, rfl, rv74⟩)
          · have ch52 := cv_eq h52
            have r75 : Rg (0) (0) x2_ := rf_eqx ch52 r46 rk_0 (by decide) (by decide)
            refine rn_aload_n (i := 0) dX10_log_47 rfl rfl ?_
            obtain ⟨o76, hx76, m76⟩ := fs_r hf3 46 rfl
            refine rn_get q1 kg_SGModel_119 hl3 hx76 dX10_log_48 ?_
            refine rn_iload_n (i := 1) dX10_log_51 rfl rfl ?_
            obtain ⟨q77, f77, hq77, hl77, hf77⟩ := ts_ia hS3.1 m76 hk_77
            refine rs_iald q77 hl77 hf77 rfl r24 (by decide) (by decide) dX10_log_52 (fun v78 ev78 rv78 => ?_)
            refine rn_goto (tgt := 104) dX10_log_53 (by decide) ?_
            exact rn_iret dX10_log_104 rfl rfl (rq_in ⟨hS3, v78, rfl, rv78⟩)
