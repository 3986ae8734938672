abbrev q_t_X10_top (G : rn_G) (S : ts_S) (ws : va_W) : rn_R → va_W → Prop := rQ (fun v w => St G S [30] ws S w ∧ (∃ x : Int64, v = some (.long x) ∧ fK1 4 S ws w)) (fun E w => False)
set_option maxRecDepth 20000 in
set_option maxHeartbeats 4000000 in
theorem t_X10_top (G : rn_G) (S : ts_S) (ws : va_W) (hW : ts_W G S ws) (o0_ : Nat) (m0_ : (o0_, 30) ∈ S) (x1_ : Int32) : Rn G mX10_top 1 22 0 0 0 (lv_args 0 [.ref o0_, .int x1_]) [] ws (q_t_X10_top G S ws ) := by
  have hS0 : St G S [30] ws S ws := St.rf hW
  have fk0 : fK1 4 S ws ws := fun v h => h
  refine rn_lv [(0, .ref o0_), (1, .int x1_)] rfl ?_
  refine rn_aload_n (i := 0) dX10_top_0 rfl rfl ?_
  refine rn_iconst (v := (0 : Int32)) dX10_top_1 (by decide) ?_
  obtain ⟨q1, fs1, hq1, hl1, hf1⟩ := ts_obj hS0.1 m0_ hk_30
  refine rs_put q1 (kp_SGModel_137 _) hS0 hq1 hl1 hf1 hk_30 rfl rfl (tv_i (rg_w rk_0 (by decide) (by decide))) rfl rfl dX10_top_2 (fun w2 fs3 hS3 hl3 hf3 hx3 ho3 hn3 => ?_)
  have fk4 : fK1 4 S ws w2 := fk_put fk0 hS0.1 hq1 hl1 hl3 ho3 (by decide)
  refine rn_aload_n (i := 0) dX10_top_5 rfl rfl ?_
  refine rn_iload_n (i := 1) dX10_top_6 rfl rfl ?_
  refine rn_iconst (v := (0 : Int32)) dX10_top_7 (by decide) ?_
  refine rn_aload_n (i := 0) dX10_top_8 rfl rfl ?_
  obtain ⟨x5, hx5, rx5⟩ := fs_i hf3 22 rfl
  refine rn_get q1 kg_SGModel_200 hl3 hx5 dX10_top_9 ?_
  refine rn_iconst (v := (1 : Int32)) dX10_top_12 (by decide) ?_
  refine rs_subC (-1) (15) rx5 rk_1 dX10_top_13 (by decide) (fun v6 ev6 rv6 => ?_)
  refine rn_inS (d' := 0) (z' := 0) [.int x1_, .int (0 : Int32), .int v6] kl_SGModel_179 dX10_top_14 rfl rfl (Nat.le_of_ble_eq_true rfl) (Nat.le_of_ble_eq_true rfl) (Nat.le_of_ble_eq_true rfl) (Nat.le_of_ble_eq_true rfl) ?_
  refine rn_lv [(0, .int x1_), (1, .int (0 : Int32)), (2, .int v6)] rfl ?_
  refine rn_iload_n (i := 0) dX10_in_0 rfl rfl ?_
  refine rn_iload_n (i := 1) dX10_in_1 rfl rfl ?_
  refine rn_icmp_lt (tgt := 14) dX10_in_2 (by decide) (fun h7 => ?_) (fun h7 => ?_)
  · have ch7 := cv_lt h7
    have r8 : Rg (-2147483648) (-1) x1_ := rf_ltx ch7 (rg_any x1_) rk_0 (by decide)
    refine rn_iconst (v := (0 : Int32)) dX10_in_14 (by decide) ?_
    refine rn_iret dX10_in_15 rfl rfl (rq_in ?_)
    refine rn_stk [.int (0 : Int32), .ref o0_] rfl ?_
    refine rn_if_ne (tgt := 24) dX10_top_17 (by decide) (fun h9 => (cx_ne (cv_ne h9) rk_0 rk_0 (by decide)).elim) (fun h9 => ?_)
    refine rn_iconst (v := (1 : Int32)) dX10_top_20 (by decide) ?_
    refine rn_goto (tgt := 25) dX10_top_21 (by decide) ?_
    refine rn_iconst (v := (1 : Int32)) dX10_top_25 (by decide) ?_
    refine rn_inV (d' := 0) (z' := 0) [.int (1 : Int32), .int (1 : Int32)] kl_SGModel_171 dX10_top_26 q1 hl3 rfl rfl rfl (Nat.le_of_ble_eq_true rfl) (Nat.le_of_ble_eq_true rfl) (Nat.le_of_ble_eq_true rfl) (Nat.le_of_ble_eq_true rfl) ?_
    refine rn_lv [(0, .ref o0_), (1, .int (1 : Int32)), (2, .int (1 : Int32))] rfl ?_
    refine rn_aload_n (i := 0) dX10_refuses_0 rfl rfl ?_
    refine rn_get q1 kg_SGModel_137 hl3 hx3 dX10_refuses_1 ?_
    refine rn_if_ne (tgt := 16) dX10_refuses_4 (by decide) (fun h10 => (cx_ne (cv_ne h10) rk_0 rk_0 (by decide)).elim) (fun h10 => ?_)
    refine rn_iload_n (i := 1) dX10_refuses_7 rfl rfl ?_
    refine rn_if_eq (tgt := 16) dX10_refuses_8 (by decide) (fun h11 => (cx_eq (cv_eq h11) rk_1 rk_0 (by decide)).elim) (fun h11 => ?_)
    refine rn_aload_n (i := 0) dX10_refuses_11 rfl rfl ?_
    refine rn_iload_n (i := 2) dX10_refuses_12 rfl rfl ?_
    refine rs_put q1 (kp_SGModel_137 _) hS3 hq1 hl3 hf3 hk_30 rfl rfl (tv_i (rg_w rk_1 (by decide) (by decide))) rfl rfl dX10_refuses_13 (fun w12 fs13 hS13 hl13 hf13 hx13 ho13 hn13 => ?_)
    have fk14 : fK1 4 S ws w12 := fk_put fk4 hS3.1 hq1 hl3 hl13 ho13 (by decide)
    refine rn_aload_n (i := 0) dX10_refuses_16 rfl rfl ?_
    refine rn_get q1 kg_SGModel_137 hl13 hx13 dX10_refuses_17 ?_
    refine rn_if_le (tgt := 27) dX10_refuses_20 (by decide) (fun h15 => (cx_le (cv_le h15) rk_1 rk_0 (by decide)).elim) (fun h15 => ?_)
    refine rn_iconst (v := (1 : Int32)) dX10_refuses_23 (by decide) ?_
    refine rn_goto (tgt := 28) dX10_refuses_24 (by decide) ?_
    refine rn_iret dX10_refuses_28 rfl rfl (rq_in ?_)
    refine rn_stk [.int (1 : Int32)] rfl ?_
    refine rn_if_eq (tgt := 36) dX10_top_29 (by decide) (fun h16 => (cx_eq (cv_eq h16) rk_1 rk_0 (by decide)).elim) (fun h16 => ?_)
    refine rn_lconst (v := (0 : Int64)) dX10_top_32 (by decide) ?_
    refine rn_goto (tgt := 42) dX10_top_33 (by decide) ?_
    exact rn_lret dX10_top_42 rfl (rq_in ⟨hS13, (0 : Int64), rfl, fk14⟩)
  · have ch7 := cv_nlt h7
    have r17 : Rg (0) (2147483647) x1_ := rf_ley ch7 rk_0 (rg_any x1_) (by decide)
    refine rn_iload_n (i := 0) dX10_in_5 rfl rfl ?_
    refine rn_iload_n (i := 2) dX10_in_6 rfl rfl ?_
    refine rn_icmp_gt (tgt := 14) dX10_in_7 (by decide) (fun h18 => ?_) (fun h18 => ?_)
    · have ch18 := cv_lt h18
      refine rn_iconst (v := (0 : Int32)) dX10_in_14 (by decide) ?_
      refine rn_iret dX10_in_15 rfl rfl (rq_in ?_)
      refine rn_stk [.int (0 : Int32), .ref o0_] rfl ?_
      refine rn_if_ne (tgt := 24) dX10_top_17 (by decide) (fun h19 => (cx_ne (cv_ne h19) rk_0 rk_0 (by decide)).elim) (fun h19 => ?_)
      refine rn_iconst (v := (1 : Int32)) dX10_top_20 (by decide) ?_
      refine rn_goto (tgt := 25) dX10_top_21 (by decide) ?_
      refine rn_iconst (v := (1 : Int32)) dX10_top_25 (by decide) ?_
      refine rn_inV (d' := 0) (z' := 0) [.int (1 : Int32), .int (1 : Int32)] kl_SGModel_171 dX10_top_26 q1 hl3 rfl rfl rfl (Nat.le_of_ble_eq_true rfl) (Nat.le_of_ble_eq_true rfl) (Nat.le_of_ble_eq_true rfl) (Nat.le_of_ble_eq_true rfl) ?_
      refine rn_lv [(0, .ref o0_), (1, .int (1 : Int32)), (2, .int (1 : Int32))] rfl ?_
      refine rn_aload_n (i := 0) dX10_refuses_0 rfl rfl ?_
      refine rn_get q1 kg_SGModel_137 hl3 hx3 dX10_refuses_1 ?_
      refine rn_if_ne (tgt := 16) dX10_refuses_4 (by decide) (fun h20 => (cx_ne (cv_ne h20) rk_0 rk_0 (by decide)).elim) (fun h20 => ?_)
      refine rn_iload_n (i := 1) dX10_refuses_7 rfl rfl ?_
      refine rn_if_eq (tgt := 16) dX10_refuses_8 (by decide) (fun h21 => (cx_eq (cv_eq h21) rk_1 rk_0 (by decide)).elim) (fun h21 => ?_)
      refine rn_aload_n (i := 0) dX10_refuses_11 rfl rfl ?_
      refine rn_iload_n (i := 2) dX10_refuses_12 rfl rfl ?_
      refine rs_put q1 (kp_SGModel_137 _) hS3 hq1 hl3 hf3 hk_30 rfl rfl (tv_i (rg_w rk_1 (by decide) (by decide))) rfl rfl dX10_refuses_13 (fun w22 fs23 hS23 hl23 hf23 hx23 ho23 hn23 => ?_)
      have fk24 : fK1 4 S ws w22 := fk_put fk4 hS3.1 hq1 hl3 hl23 ho23 (by decide)
      refine rn_aload_n (i := 0) dX10_refuses_16 rfl rfl ?_
      refine rn_get q1 kg_SGModel_137 hl23 hx23 dX10_refuses_17 ?_
      refine rn_if_le (tgt := 27) dX10_refuses_20 (by decide) (fun h25 => (cx_le (cv_le h25) rk_1 rk_0 (by decide)).elim) (fun h25 => ?_)
      refine rn_iconst (v := (1 : Int32)) dX10_refuses_23 (by decide) ?_
      refine rn_goto (tgt := 28) dX10_refuses_24 (by decide) ?_
      refine rn_iret dX10_refuses_28 rfl rfl (rq_in ?_)
      refine rn_stk [.int (1 : Int32)] rfl ?_
      refine rn_if_eq (tgt := 36) dX10_top_29 (by decide) (fun h26 => (cx_eq (cv_eq h26) rk_1 rk_0 (by decide)).elim) (fun h26 => ?_)
      refine rn_lconst (v := (0 : Int64)) dX10_top_32 (by decide) ?_
      refine rn_goto (tgt := 42) dX10_top_33 (by decide) ?_
      exact rn_lret dX10_top_42 rfl (rq_in ⟨hS23, (0 : Int64), rfl, fk24⟩)
    · have ch18 := cv_nlt h18
      have r27 : Rg (0) (15) x1_ := rf_lex ch18 r17 rv6 (by decide)
      have r28 : Rg (0) (15) v6 := rf_ley ch18 r17 rv6 (by decide)
      refine rn_iconst (v := (1 : Int32)) dX10_in_10 (by decide) ?_
      refine rn_goto (tgt := 15) dX10_in_11 (by decide) ?_
      refine rn_iret dX10_in_15 rfl rfl (rq_in ?_)
      refine rn_stk [.int (1 : Int32), .ref o0_] rfl ?_
      refine rn_if_ne (tgt := 24) dX10_top_17 (by decide) (fun h29 => ?_) (fun h29 => (cx_eq (cv_eq h29) rk_1 rk_0 (by decide)).elim)
      refine rn_iconst (v := (0 : Int32)) dX10_top_24 (by decide) ?_
      refine rn_iconst (v := (1 : Int32)) dX10_top_25 (by decide) ?_
      refine rn_inV (d' := 0) (z' := 0) [.int (0 : Int32), .int (1 : Int32)] kl_SGModel_171 dX10_top_26 q1 hl3 rfl rfl rfl (Nat.le_of_ble_eq_true rfl) (Nat.le_of_ble_eq_true rfl) (Nat.le_of_ble_eq_true rfl) (Nat.le_of_ble_eq_true rfl) ?_
      refine rn_lv [(0, .ref o0_), (1, .int (0 : Int32)), (2, .int (1 : Int32))] rfl ?_
      refine rn_aload_n (i := 0) dX10_refuses_0 rfl rfl ?_
      refine rn_get q1 kg_SGModel_137 hl3 hx3 dX10_refuses_1 ?_
      refine rn_if_ne (tgt := 16) dX10_refuses_4 (by decide) (fun h30 => (cx_ne (cv_ne h30) rk_0 rk_0 (by decide)).elim) (fun h30 => ?_)
      refine rn_iload_n (i := 1) dX10_refuses_7 rfl rfl ?_
      refine rn_if_eq (tgt := 16) dX10_refuses_8 (by decide) (fun h31 => ?_) (fun h31 => (cx_ne (cv_ne h31) rk_0 rk_0 (by decide)).elim)
      refine rn_aload_n (i := 0) dX10_refuses_16 rfl rfl ?_
      refine rn_get q1 kg_SGModel_137 hl3 hx3 dX10_refuses_17 ?_
      refine rn_if_le (tgt := 27) dX10_refuses_20 (by decide) (fun h32 => ?_) (fun h32 => (cx_lt (cv_nle h32) rk_0 rk_0 (by decide)).elim)
      refine rn_iconst (v := (0 : Int32)) dX10_refuses_27 (by decide) ?_
      refine rn_iret dX10_refuses_28 rfl rfl (rq_in ?_)
      refine rn_stk [.int (0 : Int32)] rfl ?_
      refine rn_if_eq (tgt := 36) dX10_top_29 (by decide) (fun h33 => ?_) (fun h33 => (cx_ne (cv_ne h33) rk_0 rk_0 (by decide)).elim)
      refine rn_aload_n (i := 0) dX10_top_36 rfl rfl ?_
      obtain ⟨o34, hx34, m34⟩ := fs_r hf3 31 rfl
      refine rn_get q1 kg_SGModel_83 hl3 hx34 dX10_top_37 ?_
      refine rn_iload_n (i := 1) dX10_top_40 rfl rfl ?_
      obtain ⟨q35, f35, hq35, hl35⟩ := ts_la hS3.1 m34 hk_62
      refine rs_lald q35 hl35 rfl r27 (by decide) (by decide) dX10_top_41 (fun v36 ev36 => ?_)
      exact rn_lret dX10_top_42 rfl (rq_in ⟨hS3, v36, rfl, fk4⟩)
abbrev q_t_X10_seen (G : rn_G) (S : ts_S) (ws : va_W) : rn_R → va_W → Prop := rQ (fun v w => St G S [30] ws S w ∧ (∃ x : Int64, v = some (.long x) ∧ fK1 4 S ws w)) (fun E w => False)
set_option maxRecDepth 20000 in
set_option maxHeartbeats 4000000 in
theorem t_X10_seen (G : rn_G) (S : ts_S) (ws : va_W) (hW : ts_W G S ws) (o0_ : Nat) (m0_ : (o0_, 30) ∈ S) (x1_ : Int32) : Rn G mX10_seen 1 22 0 0 0 (lv_args 0 [.ref o0_, .int x1_]) [] ws (q_t_X10_seen G S ws ) := by
  have hS0 : St G S [30] ws S ws := St.rf hW
  have fk0 : fK1 4 S ws ws := fun v h => h
  refine rn_lv [(0, .ref o0_), (1, .int x1_)] rfl ?_
  refine rn_aload_n (i := 0) dX10_seen_0 rfl rfl ?_
  refine rn_iconst (v := (0 : Int32)) dX10_seen_1 (by decide) ?_
  obtain ⟨q1, fs1, hq1, hl1, hf1⟩ := ts_obj hS0.1 m0_ hk_30
  refine rs_put q1 (kp_SGModel_137 _) hS0 hq1 hl1 hf1 hk_30 rfl rfl (tv_i (rg_w rk_0 (by decide) (by decide))) rfl rfl dX10_seen_2 (fun w2 fs3 hS3 hl3 hf3 hx3 ho3 hn3 => ?_)
  have fk4 : fK1 4 S ws w2 := fk_put fk0 hS0.1 hq1 hl1 hl3 ho3 (by decide)
  refine rn_aload_n (i := 0) dX10_seen_5 rfl rfl ?_
  refine rn_iload_n (i := 1) dX10_seen_6 rfl rfl ?_
  refine rn_iconst (v := (0 : Int32)) dX10_seen_7 (by decide) ?_
  refine rn_aload_n (i := 0) dX10_seen_8 rfl rfl ?_
  obtain ⟨x5, hx5, rx5⟩ := fs_i hf3 22 rfl
  refine rn_get q1 kg_SGModel_200 hl3 hx5 dX10_seen_9 ?_
  refine rn_iconst (v := (1 : Int32)) dX10_seen_12 (by decide) ?_
  refine rs_subC (-1) (15) rx5 rk_1 dX10_seen_13 (by decide) (fun v6 ev6 rv6 => ?_)
  refine rn_inS (d' := 0) (z' := 0) [.int x1_, .int (0 : Int32), .int v6] kl_SGModel_179 dX10_seen_14 rfl rfl (Nat.le_of_ble_eq_true rfl) (Nat.le_of_ble_eq_true rfl) (Nat.le_of_ble_eq_true rfl) (Nat.le_of_ble_eq_true rfl) ?_
  refine rn_lv [(0, .int x1_), (1, .int (0 : Int32)), (2, .int v6)] rfl ?_
  refine rn_iload_n (i := 0) dX10_in_0 rfl rfl ?_
  refine rn_iload_n (i := 1) dX10_in_1 rfl rfl ?_
  refine rn_icmp_lt (tgt := 14) dX10_in_2 (by decide) (fun h7 => ?_) (fun h7 => ?_)
  · have ch7 := cv_lt h7
    have r8 : Rg (-2147483648) (-1) x1_ := rf_ltx ch7 (rg_any x1_) rk_0 (by decide)
    refine rn_iconst (v := (0 : Int32)) dX10_in_14 (by decide) ?_
    refine rn_iret dX10_in_15 rfl rfl (rq_in ?_)
    refine rn_stk [.int (0 : Int32), .ref o0_] rfl ?_
    refine rn_if_ne (tgt := 24) dX10_seen_17 (by decide) (fun h9 => (cx_ne (cv_ne h9) rk_0 rk_0 (by decide)).elim) (fun h9 => ?_)
    refine rn_iconst (v := (1 : Int32)) dX10_seen_20 (by decide) ?_
    refine rn_goto (tgt := 25) dX10_seen_21 (by decide) ?_
    refine rn_iconst (v := (1 : Int32)) dX10_seen_25 (by decide) ?_
    refine rn_inV (d' := 0) (z' := 0) [.int (1 : Int32), .int (1 : Int32)] kl_SGModel_171 dX10_seen_26 q1 hl3 rfl rfl rfl (Nat.le_of_ble_eq_true rfl) (Nat.le_of_ble_eq_true rfl) (Nat.le_of_ble_eq_true rfl) (Nat.le_of_ble_eq_true rfl) ?_
    refine rn_lv [(0, .ref o0_), (1, .int (1 : Int32)), (2, .int (1 : Int32))] rfl ?_
    refine rn_aload_n (i := 0) dX10_refuses_0 rfl rfl ?_
    refine rn_get q1 kg_SGModel_137 hl3 hx3 dX10_refuses_1 ?_
    refine rn_if_ne (tgt := 16) dX10_refuses_4 (by decide) (fun h10 => (cx_ne (cv_ne h10) rk_0 rk_0 (by decide)).elim) (fun h10 => ?_)
    refine rn_iload_n (i := 1) dX10_refuses_7 rfl rfl ?_
    refine rn_if_eq (tgt := 16) dX10_refuses_8 (by decide) (fun h11 => (cx_eq (cv_eq h11) rk_1 rk_0 (by decide)).elim) (fun h11 => ?_)
    refine rn_aload_n (i := 0) dX10_refuses_11 rfl rfl ?_
    refine rn_iload_n (i := 2) dX10_refuses_12 rfl rfl ?_
    refine rs_put q1 (kp_SGModel_137 _) hS3 hq1 hl3 hf3 hk_30 rfl rfl (tv_i (rg_w rk_1 (by decide) (by decide))) rfl rfl dX10_refuses_13 (fun w12 fs13 hS13 hl13 hf13 hx13 ho13 hn13 => ?_)
    have fk14 : fK1 4 S ws w12 := fk_put fk4 hS3.1 hq1 hl3 hl13 ho13 (by decide)
    refine rn_aload_n (i := 0) dX10_refuses_16 rfl rfl ?_
    refine rn_get q1 kg_SGModel_137 hl13 hx13 dX10_refuses_17 ?_
    refine rn_if_le (tgt := 27) dX10_refuses_20 (by decide) (fun h15 => (cx_le (cv_le h15) rk_1 rk_0 (by decide)).elim) (fun h15 => ?_)
    refine rn_iconst (v := (1 : Int32)) dX10_refuses_23 (by decide) ?_
    refine rn_goto (tgt := 28) dX10_refuses_24 (by decide) ?_
    refine rn_iret dX10_refuses_28 rfl rfl (rq_in ?_)
    refine rn_stk [.int (1 : Int32)] rfl ?_
    refine rn_if_eq (tgt := 36) dX10_seen_29 (by decide) (fun h16 => (cx_eq (cv_eq h16) rk_1 rk_0 (by decide)).elim) (fun h16 => ?_)
    refine rn_lconst (v := (0 : Int64)) dX10_seen_32 (by decide) ?_
    refine rn_goto (tgt := 42) dX10_seen_33 (by decide) ?_
    exact rn_lret dX10_seen_42 rfl (rq_in ⟨hS13, (0 : Int64), rfl, fk14⟩)
  · have ch7 := cv_nlt h7
    have r17 : Rg (0) (2147483647) x1_ := rf_ley ch7 rk_0 (rg_any x1_) (by decide)
    refine rn_iload_n (i := 0) dX10_in_5 rfl rfl ?_
    refine rn_iload_n (i := 2) dX10_in_6 rfl rfl ?_
    refine rn_icmp_gt (tgt := 14) dX10_in_7 (by decide) (fun h18 => ?_) (fun h18 => ?_)
    · have ch18 := cv_lt h18
      refine rn_iconst (v := (0 : Int32)) dX10_in_14 (by decide) ?_
      refine rn_iret dX10_in_15 rfl rfl (rq_in ?_)
      refine rn_stk [.int (0 : Int32), .ref o0_] rfl ?_
      refine rn_if_ne (tgt := 24) dX10_seen_17 (by decide) (fun h19 => (cx_ne (cv_ne h19) rk_0 rk_0 (by decide)).elim) (fun h19 => ?_)
      refine rn_iconst (v := (1 : Int32)) dX10_seen_20 (by decide) ?_
      refine rn_goto (tgt := 25) dX10_seen_21 (by decide) ?_
      refine rn_iconst (v := (1 : Int32)) dX10_seen_25 (by decide) ?_
      refine rn_inV (d' := 0) (z' := 0) [.int (1 : Int32), .int (1 : Int32)] kl_SGModel_171 dX10_seen_26 q1 hl3 rfl rfl rfl (Nat.le_of_ble_eq_true rfl) (Nat.le_of_ble_eq_true rfl) (Nat.le_of_ble_eq_true rfl) (Nat.le_of_ble_eq_true rfl) ?_
      refine rn_lv [(0, .ref o0_), (1, .int (1 : Int32)), (2, .int (1 : Int32))] rfl ?_
      refine rn_aload_n (i := 0) dX10_refuses_0 rfl rfl ?_
      refine rn_get q1 kg_SGModel_137 hl3 hx3 dX10_refuses_1 ?_
      refine rn_if_ne (tgt := 16) dX10_refuses_4 (by decide) (fun h20 => (cx_ne (cv_ne h20) rk_0 rk_0 (by decide)).elim) (fun h20 => ?_)
      refine rn_iload_n (i := 1) dX10_refuses_7 rfl rfl ?_
      refine rn_if_eq (tgt := 16) dX10_refuses_8 (by decide) (fun h21 => (cx_eq (cv_eq h21) rk_1 rk_0 (by decide)).elim) (fun h21 => ?_)
      refine rn_aload_n (i := 0) dX10_refuses_11 rfl rfl ?_
      refine rn_iload_n (i := 2) dX10_refuses_12 rfl rfl ?_
      refine rs_put q1 (kp_SGModel_137 _) hS3 hq1 hl3 hf3 hk_30 rfl rfl (tv_i (rg_w rk_1 (by decide) (by decide))) rfl rfl dX10_refuses_13 (fun w22 fs23 hS23 hl23 hf23 hx23 ho23 hn23 => ?_)
      have fk24 : fK1 4 S ws w22 := fk_put fk4 hS3.1 hq1 hl3 hl23 ho23 (by decide)
      refine rn_aload_n (i := 0) dX10_refuses_16 rfl rfl ?_
      refine rn_get q1 kg_SGModel_137 hl23 hx23 dX10_refuses_17 ?_
      refine rn_if_le (tgt := 27) dX10_refuses_20 (by decide) (fun h25 => (cx_le (cv_le h25) rk_1 rk_0 (by decide)).elim) (fun h25 => ?_)
      refine rn_iconst (v := (1 : Int32)) dX10_refuses_23 (by decide) ?_
      refine rn_goto (tgt := 28) dX10_refuses_24 (by decide) ?_
      refine rn_iret dX10_refuses_28 rfl rfl (rq_in ?_)
      refine rn_stk [.int (1 : Int32)] rfl ?_
      refine rn_if_eq (tgt := 36) dX10_seen_29 (by decide) (fun h26 => (cx_eq (cv_eq h26) rk_1 rk_0 (by decide)).elim) (fun h26 => ?_)
      refine rn_lconst (v := (0 : Int64)) dX10_seen_32 (by decide) ?_
      refine rn_goto (tgt := 42) dX10_seen_33 (by decide) ?_
      exact rn_lret dX10_seen_42 rfl (rq_in ⟨hS23, (0 : Int64), rfl, fk24⟩)
    · have ch18 := cv_nlt h18
      have r27 : Rg (0) (15) x1_ := rf_lex ch18 r17 rv6 (by decide)
      have r28 : Rg (0) (15) v6 := rf_ley ch18 r17 rv6 (by decide)
      refine rn_iconst (v := (1 : Int32)) dX10_in_10 (by decide) ?_
      refine rn_goto (tgt := 15) dX10_in_11 (by decide) ?_
      refine rn_iret dX10_in_15 rfl rfl (rq_in ?_)
      refine rn_stk [.int (1 : Int32), .ref o0_] rfl ?_
      refine rn_if_ne (tgt := 24) dX10_seen_17 (by decide) (fun h29 => ?_) (fun h29 => (cx_eq (cv_eq h29) rk_1 rk_0 (by decide)).elim)
      refine rn_iconst (v := (0 : Int32)) dX10_seen_24 (by decide) ?_
      refine rn_iconst (v := (1 : Int32)) dX10_seen_25 (by decide) ?_
      refine rn_inV (d' := 0) (z' := 0) [.int (0 : Int32), .int (1 : Int32)] kl_SGModel_171 dX10_seen_26 q1 hl3 rfl rfl rfl (Nat.le_of_ble_eq_true rfl) (Nat.le_of_ble_eq_true rfl) (Nat.le_of_ble_eq_true rfl) (Nat.le_of_ble_eq_true rfl) ?_
      refine rn_lv [(0, .ref o0_), (1, .int (0 : Int32)), (2, .int (1 : Int32))] rfl ?_
      refine rn_aload_n (i := 0) dX10_refuses_0 rfl rfl ?_
      refine rn_get q1 kg_SGModel_137 hl3 hx3 dX10_refuses_1 ?_
      refine rn_if_ne (tgt := 16) dX10_refuses_4 (by decide) (fun h30 => (cx_ne (cv_ne h30) rk_0 rk_0 (by decide)).elim) (fun h30 => ?_)
      refine rn_iload_n (i := 1) dX10_refuses_7 rfl rfl ?_
      refine rn_if_eq (tgt := 16) dX10_refuses_8 (by decide) (fun h31 => ?_) (fun h31 => (cx_ne (cv_ne h31) rk_0 rk_0 (by decide)).elim)
      refine rn_aload_n (i := 0) dX10_refuses_16 rfl rfl ?_
      refine rn_get q1 kg_SGModel_137 hl3 hx3 dX10_refuses_17 ?_
      refine rn_if_le (tgt := 27) dX10_refuses_20 (by decide) (fun h32 => ?_) (fun h32 => (cx_lt (cv_nle h32) rk_0 rk_0 (by decide)).elim)
      refine rn_iconst (v := (0 : Int32)) dX10_refuses_27 (by decide) ?_
      refine rn_iret dX10_refuses_28 rfl rfl (rq_in ?_)
      refine rn_stk [.int (0 : Int32)] rfl ?_
      refine rn_if_eq (tgt := 36) dX10_seen_29 (by decide) (fun h33 => ?_) (fun h33 => (cx_ne (cv_ne h33) rk_0 rk_0 (by decide)).elim)
      refine rn_aload_n (i := 0) dX10_seen_36 rfl rfl ?_
      obtain ⟨o34, hx34, m34⟩ := fs_r hf3 32 rfl
      refine rn_get q1 kg_SGModel_86 hl3 hx34 dX10_seen_37 ?_
      refine rn_iload_n (i := 1) dX10_seen_40 rfl rfl ?_
      obtain ⟨q35, f35, hq35, hl35⟩ := ts_la hS3.1 m34 hk_63
      refine rs_lald q35 hl35 rfl r27 (by decide) (by decide) dX10_seen_41 (fun v36 ev36 => ?_)
      exact rn_lret dX10_seen_42 rfl (rq_in ⟨hS3, v36, rfl, fk4⟩)
abbrev q_t_X10_log (G : rn_G) (S : ts_S) (ws : va_W) : rn_R → va_W → Prop := rQ (fun v w => St G S [30] ws S w ∧ (∃ x : Int32, v = some (.int x) ∧ Rg (-2147483648) (2147483647) x ∧ fK1 4 S ws w)) (fun E w => False)
set_option maxRecDepth 20000 in
set_option maxHeartbeats 4000000 in
theorem t_X10_log (G : rn_G) (S : ts_S) (ws : va_W) (hW : ts_W G S ws) (o0_ : Nat) (m0_ : (o0_, 30) ∈ S) (x1_ : Int32) (x2_ : Int32) : Rn G mX10_log 1 22 0 0 0 (lv_args 0 [.ref o0_, .int x1_, .int x2_]) [] ws (q_t_X10_log G S ws ) := by
  have hS0 : St G S [30] ws S ws := St.rf hW
  have fk0 : fK1 4 S ws ws := fun v h => h
  refine rn_lv [(0, .ref o0_), (1, .int x1_), (2, .int x2_)] rfl ?_
  refine rn_aload_n (i := 0) dX10_log_0 rfl rfl ?_
  refine rn_iconst (v := (0 : Int32)) dX10_log_1 (by decide) ?_
  obtain ⟨q1, fs1, hq1, hl1, hf1⟩ := ts_obj hS0.1 m0_ hk_30
  refine rs_put q1 (kp_SGModel_137 _) hS0 hq1 hl1 hf1 hk_30 rfl rfl (tv_i (rg_w rk_0 (by decide) (by decide))) rfl rfl dX10_log_2 (fun w2 fs3 hS3 hl3 hf3 hx3 ho3 hn3 => ?_)
  have fk4 : fK1 4 S ws w2 := fk_put fk0 hS0.1 hq1 hl1 hl3 ho3 (by decide)
  refine rn_aload_n (i := 0) dX10_log_5 rfl rfl ?_
  refine rn_iload_n (i := 1) dX10_log_6 rfl rfl ?_
  refine rn_iconst (v := (0 : Int32)) dX10_log_7 (by decide) ?_
  refine rn_aload_n (i := 0) dX10_log_8 rfl rfl ?_
  obtain ⟨x5, hx5, rx5⟩ := fs_i hf3 51 rfl
  refine rn_get q1 kg_SGModel_243 hl3 hx5 dX10_log_9 ?_
  refine rn_iconst (v := (1 : Int32)) dX10_log_12 (by decide) ?_
  refine rs_subC (-1) (15) rx5 rk_1 dX10_log_13 (by decide) (fun v6 ev6 rv6 => ?_)
  refine rn_inS (d' := 0) (z' := 0) [.int x1_, .int (0 : Int32), .int v6] kl_SGModel_179 dX10_log_14 rfl rfl (Nat.le_of_ble_eq_true rfl) (Nat.le_of_ble_eq_true rfl) (Nat.le_of_ble_eq_true rfl) (Nat.le_of_ble_eq_true rfl) ?_
  refine rn_lv [(0, .int x1_), (1, .int (0 : Int32)), (2, .int v6)] rfl ?_
  refine rn_iload_n (i := 0) dX10_in_0 rfl rfl ?_
  refine rn_iload_n (i := 1) dX10_in_1 rfl rfl ?_
  refine rn_icmp_lt (tgt := 14) dX10_in_2 (by decide) (fun h7 => ?_) (fun h7 => ?_)
  · have ch7 := cv_lt h7
    have r8 : Rg (-2147483648) (-1) x1_ := rf_ltx ch7 (rg_any x1_) rk_0 (by decide)
    refine rn_iconst (v := (0 : Int32)) dX10_in_14 (by decide) ?_
    refine rn_iret dX10_in_15 rfl rfl (rq_in ?_)
    refine rn_stk [.int (0 : Int32), .ref o0_] rfl ?_
    refine rn_if_eq (tgt := 29) dX10_log_17 (by decide) (fun h9 => ?_) (fun h9 => (cx_ne (cv_ne h9) rk_0 rk_0 (by decide)).elim)
    refine rn_iconst (v := (1 : Int32)) dX10_log_29 (by decide) ?_
    refine rn_goto (tgt := 34) dX10_log_30 (by decide) ?_
    refine rn_iconst (v := (1 : Int32)) dX10_log_34 (by decide) ?_
    refine rn_inV (d' := 0) (z' := 0) [.int (1 : Int32), .int (1 : Int32)] kl_SGModel_171 dX10_log_35 q1 hl3 rfl rfl rfl (Nat.le_of_ble_eq_true rfl) (Nat.le_of_ble_eq_true rfl) (Nat.le_of_ble_eq_true rfl) (Nat.le_of_ble_eq_true rfl) ?_
    refine rn_lv [(0, .ref o0_), (1, .int (1 : Int32)), (2, .int (1 : Int32))] rfl ?_
    refine rn_aload_n (i := 0) dX10_refuses_0 rfl rfl ?_
    refine rn_get q1 kg_SGModel_137 hl3 hx3 dX10_refuses_1 ?_
    refine rn_if_ne (tgt := 16) dX10_refuses_4 (by decide) (fun h10 => (cx_ne (cv_ne h10) rk_0 rk_0 (by decide)).elim) (fun h10 => ?_)
    refine rn_iload_n (i := 1) dX10_refuses_7 rfl rfl ?_
    refine rn_if_eq (tgt := 16) dX10_refuses_8 (by decide) (fun h11 => (cx_eq (cv_eq h11) rk_1 rk_0 (by decide)).elim) (fun h11 => ?_)
    refine rn_aload_n (i := 0) dX10_refuses_11 rfl rfl ?_
    refine rn_iload_n (i := 2) dX10_refuses_12 rfl rfl ?_
    refine rs_put q1 (kp_SGModel_137 _) hS3 hq1 hl3 hf3 hk_30 rfl rfl (tv_i (rg_w rk_1 (by decide) (by decide))) rfl rfl dX10_refuses_13 (fun w12 fs13 hS13 hl13 hf13 hx13 ho13 hn13 => ?_)
    have fk14 : fK1 4 S ws w12 := fk_put fk4 hS3.1 hq1 hl3 hl13 ho13 (by decide)
    refine rn_aload_n (i := 0) dX10_refuses_16 rfl rfl ?_
    refine rn_get q1 kg_SGModel_137 hl13 hx13 dX10_refuses_17 ?_
    refine rn_if_le (tgt := 27) dX10_refuses_20 (by decide) (fun h15 => (cx_le (cv_le h15) rk_1 rk_0 (by decide)).elim) (fun h15 => ?_)
    refine rn_iconst (v := (1 : Int32)) dX10_refuses_23 (by decide) ?_
    refine rn_goto (tgt := 28) dX10_refuses_24 (by decide) ?_
    refine rn_iret dX10_refuses_28 rfl rfl (rq_in ?_)
    refine rn_stk [.int (1 : Int32)] rfl ?_
    refine rn_if_eq (tgt := 43) dX10_log_38 (by decide) (fun h16 => (cx_eq (cv_eq h16) rk_1 rk_0 (by decide)).elim) (fun h16 => ?_)
    refine rn_iconst (v := (0 : Int32)) dX10_log_41 (by decide) ?_
    exact rn_iret dX10_log_42 rfl rfl (rq_in ⟨hS13, (0 : Int32), rfl, (rg_w rk_0 (by decide) (by decide)), fk14⟩)
  · have ch7 := cv_nlt h7
    have r17 : Rg (0) (2147483647) x1_ := rf_ley ch7 rk_0 (rg_any x1_) (by decide)
    refine rn_iload_n (i := 0) dX10_in_5 rfl rfl ?_
    refine rn_iload_n (i := 2) dX10_in_6 rfl rfl ?_
    refine rn_icmp_gt (tgt := 14) dX10_in_7 (by decide) (fun h18 => ?_) (fun h18 => ?_)
    · have ch18 := cv_lt h18
      refine rn_iconst (v := (0 : Int32)) dX10_in_14 (by decide) ?_
      refine rn_iret dX10_in_15 rfl rfl (rq_in ?_)
      refine rn_stk [.int (0 : Int32), .ref o0_] rfl ?_
      refine rn_if_eq (tgt := 29) dX10_log_17 (by decide) (fun h19 => ?_) (fun h19 => (cx_ne (cv_ne h19) rk_0 rk_0 (by decide)).elim)
      refine rn_iconst (v := (1 : Int32)) dX10_log_29 (by decide) ?_
      refine rn_goto (tgt := 34) dX10_log_30 (by decide) ?_
      refine rn_iconst (v := (1 : Int32)) dX10_log_34 (by decide) ?_
      refine rn_inV (d' := 0) (z' := 0) [.int (1 : Int32), .int (1 : Int32)] kl_SGModel_171 dX10_log_35 q1 hl3 rfl rfl rfl (Nat.le_of_ble_eq_true rfl) (Nat.le_of_ble_eq_true rfl) (Nat.le_of_ble_eq_true rfl) (Nat.le_of_ble_eq_true rfl) ?_
      refine rn_lv [(0, .ref o0_), (1, .int (1 : Int32)), (2, .int (1 : Int32))] rfl ?_
      refine rn_aload_n (i := 0) dX10_refuses_0 rfl rfl ?_
      refine rn_get q1 kg_SGModel_137 hl3 hx3 dX10_refuses_1 ?_
      refine rn_if_ne (tgt := 16) dX10_refuses_4 (by decide) (fun h20 => (cx_ne (cv_ne h20) rk_0 rk_0 (by decide)).elim) (fun h20 => ?_)
      refine rn_iload_n (i := 1) dX10_refuses_7 rfl rfl ?_
      refine rn_if_eq (tgt := 16) dX10_refuses_8 (by decide) (fun h21 => (cx_eq (cv_eq h21) rk_1 rk_0 (by decide)).elim) (fun h21 => ?_)
      refine rn_aload_n (i := 0) dX10_refuses_11 rfl rfl ?_
      refine rn_iload_n (i := 2) dX10_refuses_12 rfl rfl ?_
      refine rs_put q1 (kp_SGModel_137 _) hS3 hq1 hl3 hf3 hk_30 rfl rfl (tv_i (rg_w rk_1 (by decide) (by decide))) rfl rfl dX10_refuses_13 (fun w22 fs23 hS23 hl23 hf23 hx23 ho23 hn23 => ?_)
      have fk24 : fK1 4 S ws w22 := fk_put fk4 hS3.1 hq1 hl3 hl23 ho23 (by decide)
      refine rn_aload_n (i := 0) dX10_refuses_16 rfl rfl ?_
      refine rn_get q1 kg_SGModel_137 hl23 hx23 dX10_refuses_17 ?_
      refine rn_if_le (tgt := 27) dX10_refuses_20 (by decide) (fun h25 => (cx_le (cv_le h25) rk_1 rk_0 (by decide)).elim) (fun h25 => ?_)
      refine rn_iconst (v := (1 : Int32)) dX10_refuses_23 (by decide) ?_
      refine rn_goto (tgt := 28) dX10_refuses_24 (by decide) ?_
      refine rn_iret dX10_refuses_28 rfl rfl (rq_in ?_)
      refine rn_stk [.int (1 : Int32)] rfl ?_
      refine rn_if_eq (tgt := 43) dX10_log_38 (by decide) (fun h26 => (cx_eq (cv_eq h26) rk_1 rk_0 (by decide)).elim) (fun h26 => ?_)
      refine rn_iconst (v := (0 : Int32)) dX10_log_41 (by decide) ?_
      exact rn_iret dX10_log_42 rfl rfl (rq_in ⟨hS23, (0 : Int32), rfl, (rg_w rk_0 (by decide) (by decide)), fk24⟩)
    · have ch18 := cv_nlt h18
      have r27 : Rg (0) (15) x1_ := rf_lex ch18 r17 rv6 (by decide)
      have r28 : Rg (0) (15) v6 := rf_ley ch18 r17 rv6 (by decide)
      refine rn_iconst (v := (1 : Int32)) dX10_in_10 (by decide) ?_
      refine rn_goto (tgt := 15) dX10_in_11 (by decide) ?_
      refine rn_iret dX10_in_15 rfl rfl (rq_in ?_)
      refine rn_stk [.int (1 : Int32), .ref o0_] rfl ?_
      refine rn_if_eq (tgt := 29) dX10_log_17 (by decide) (fun h29 => (cx_eq (cv_eq h29) rk_1 rk_0 (by decide)).elim) (fun h29 => ?_)
      refine rn_iload_n (i := 2) dX10_log_20 rfl rfl ?_
      refine rn_iconst (v := (0 : Int32)) dX10_log_21 (by decide) ?_
      refine rn_iconst (v := (4 : Int32)) dX10_log_22 (by decide) ?_
      refine rn_inS (d' := 0) (z' := 0) [.int x2_, .int (0 : Int32), .int (4 : Int32)] kl_SGModel_179 dX10_log_23 rfl rfl (Nat.le_of_ble_eq_true rfl) (Nat.le_of_ble_eq_true rfl) (Nat.le_of_ble_eq_true rfl) (Nat.le_of_ble_eq_true rfl) ?_
      refine rn_lv [(0, .int x2_), (1, .int (0 : Int32)), (2, .int (4 : Int32))] rfl ?_
      refine rn_iload_n (i := 0) dX10_in_0 rfl rfl ?_
      refine rn_iload_n (i := 1) dX10_in_1 rfl rfl ?_
      refine rn_icmp_lt (tgt := 14) dX10_in_2 (by decide) (fun h30 => ?_) (fun h30 => ?_)
      · have ch30 := cv_lt h30
        have r31 : Rg (-2147483648) (-1) x2_ := rf_ltx ch30 (rg_any x2_) rk_0 (by decide)
        refine rn_iconst (v := (0 : Int32)) dX10_in_14 (by decide) ?_
        refine rn_iret dX10_in_15 rfl rfl (rq_in ?_)
        refine rn_stk [.int (0 : Int32), .ref o0_] rfl ?_
        refine rn_if_ne (tgt := 33) dX10_log_26 (by decide) (fun h32 => (cx_ne (cv_ne h32) rk_0 rk_0 (by decide)).elim) (fun h32 => ?_)
        refine rn_iconst (v := (1 : Int32)) dX10_log_29 (by decide) ?_
        refine rn_goto (tgt := 34) dX10_log_30 (by decide) ?_
        refine rn_iconst (v := (1 : Int32)) dX10_log_34 (by decide) ?_
        refine rn_inV (d' := 0) (z' := 0) [.int (1 : Int32), .int (1 : Int32)] kl_SGModel_171 dX10_log_35 q1 hl3 rfl rfl rfl (Nat.le_of_ble_eq_true rfl) (Nat.le_of_ble_eq_true rfl) (Nat.le_of_ble_eq_true rfl) (Nat.le_of_ble_eq_true rfl) ?_
        refine rn_lv [(0, .ref o0_), (1, .int (1 : Int32)), (2, .int (1 : Int32))] rfl ?_
        refine rn_aload_n (i := 0) dX10_refuses_0 rfl rfl ?_
        refine rn_get q1 kg_SGModel_137 hl3 hx3 dX10_refuses_1 ?_
        refine rn_if_ne (tgt := 16) dX10_refuses_4 (by decide) (fun h33 => (cx_ne (cv_ne h33) rk_0 rk_0 (by decide)).elim) (fun h33 => ?_)
        refine rn_iload_n (i := 1) dX10_refuses_7 rfl rfl ?_
        refine rn_if_eq (tgt := 16) dX10_refuses_8 (by decide) (fun h34 => (cx_eq (cv_eq h34) rk_1 rk_0 (by decide)).elim) (fun h34 => ?_)
        refine rn_aload_n (i := 0) dX10_refuses_11 rfl rfl ?_
        refine rn_iload_n (i := 2) dX10_refuses_12 rfl rfl ?_
        refine rs_put q1 (kp_SGModel_137 _) hS3 hq1 hl3 hf3 hk_30 rfl rfl (tv_i (rg_w rk_1 (by decide) (by decide))) rfl rfl dX10_refuses_13 (fun w35 fs36 hS36 hl36 hf36 hx36 ho36 hn36 => ?_)
        have fk37 : fK1 4 S ws w35 := fk_put fk4 hS3.1 hq1 hl3 hl36 ho36 (by decide)
        refine rn_aload_n (i := 0) dX10_refuses_16 rfl rfl ?_
        refine rn_get q1 kg_SGModel_137 hl36 hx36 dX10_refuses_17 ?_
        refine rn_if_le (tgt := 27) dX10_refuses_20 (by decide) (fun h38 => (cx_le (cv_le h38) rk_1 rk_0 (by decide)).elim) (fun h38 => ?_)
        refine rn_iconst (v := (1 : Int32)) dX10_refuses_23 (by decide) ?_
        refine rn_goto (tgt := 28) dX10_refuses_24 (by decide) ?_
        refine rn_iret dX10_refuses_28 rfl rfl (rq_in ?_)
        refine rn_stk [.int (1 : Int32)] rfl ?_
        refine rn_if_eq (tgt := 43) dX10_log_38 (by decide) (fun h39 => (cx_eq (cv_eq h39) rk_1 rk_0 (by decide)).elim) (fun h39 => ?_)
        refine rn_iconst (v := (0 : Int32)) dX10_log_41 (by decide) ?_
        exact rn_iret dX10_log_42 rfl rfl (rq_in ⟨hS36, (0 : Int32), rfl, (rg_w rk_0 (by decide) (by decide)), fk37⟩)
      · have ch30 := cv_nlt h30
        have r40 : Rg (0) (2147483647) x2_ := rf_ley ch30 rk_0 (rg_any x2_) (by decide)
        refine rn_iload_n (i := 0) dX10_in_5 rfl rfl ?_
        refine rn_iload_n (i := 2) dX10_in_6 rfl rfl ?_
        refine rn_icmp_gt (tgt := 14) dX10_in_7 (by decide) (fun h41 => ?_) (fun h41 => ?_)
        · have ch41 := cv_lt h41
          have r42 : Rg (5) (2147483647) x2_ := rf_lty ch41 rk_4 r40 (by decide)
          refine rn_iconst (v := (0 : Int32)) dX10_in_14 (by decide) ?_
          refine rn_iret dX10_in_15 rfl rfl (rq_in ?_)
          refine rn_stk [.int (0 : Int32), .ref o0_] rfl ?_
          refine rn_if_ne (tgt := 33) dX10_log_26 (by decide) (fun h43 => (cx_ne (cv_ne h43) rk_0 rk_0 (by decide)).elim) (fun h43 => ?_)
          refine rn_iconst (v := (1 : Int32)) dX10_log_29 (by decide) ?_
          refine rn_goto (tgt := 34) dX10_log_30 (by decide) ?_
          refine rn_iconst (v := (1 : Int32)) dX10_log_34 (by decide) ?_
          refine rn_inV (d' := 0) (z' := 0) [.int (1 : Int32), .int (1 : Int32)] kl_SGModel_171 dX10_log_35 q1 hl3 rfl rfl rfl (Nat.le_of_ble_eq_true rfl) (Nat.le_of_ble_eq_true rfl) (Nat.le_of_ble_eq_true rfl) (Nat.le_of_ble_eq_true rfl) ?_
          refine rn_lv [(0, .ref o0_), (1, .int (1 : Int32)), (2, .int (1 : Int32))] rfl ?_
          refine rn_aload_n (i := 0) dX10_refuses_0 rfl rfl ?_
          refine rn_get q1 kg_SGModel_137 hl3 hx3 dX10_refuses_1 ?_
          refine rn_if_ne (tgt := 16) dX10_refuses_4 (by decide) (fun h44 => (cx_ne (cv_ne h44) rk_0 rk_0 (by decide)).elim) (fun h44 => ?_)
          refine rn_iload_n (i := 1) dX10_refuses_7 rfl rfl ?_
          refine rn_if_eq (tgt := 16) dX10_refuses_8 (by decide) (fun h45 => (cx_eq (cv_eq h45) rk_1 rk_0 (by decide)).elim) (fun h45 => ?_)
          refine rn_aload_n (i := 0) dX10_refuses_11 rfl rfl ?_
          refine rn_iload_n (i := 2) dX10_refuses_12 rfl rfl ?_
          refine rs_put q1 (kp_SGModel_137 _) hS3 hq1 hl3 hf3 hk_30 rfl rfl (tv_i (rg_w rk_1 (by decide) (by decide))) rfl rfl dX10_refuses_13 (fun w46 fs47 hS47 hl47 hf47 hx47 ho47 hn47 => ?_)
          have fk48 : fK1 4 S ws w46 := fk_put fk4 hS3.1 hq1 hl3 hl47 ho47 (by decide)
          refine rn_aload_n (i := 0) dX10_refuses_16 rfl rfl ?_
          refine rn_get q1 kg_SGModel_137 hl47 hx47 dX10_refuses_17 ?_
          refine rn_if_le (tgt := 27) dX10_refuses_20 (by decide) (fun h49 => (cx_le (cv_le h49) rk_1 rk_0 (by decide)).elim) (fun h49 => ?_)
          refine rn_iconst (v := (1 : Int32)) dX10_refuses_23 (by decide) ?_
          refine rn_goto (tgt := 28) dX10_refuses_24 (by decide) ?_
          refine rn_iret dX10_refuses_28 rfl rfl (rq_in ?_)
          refine rn_stk [.int (1 : Int32)] rfl ?_
          refine rn_if_eq (tgt := 43) dX10_log_38 (by decide) (fun h50 => (cx_eq (cv_eq h50) rk_1 rk_0 (by decide)).elim) (fun h50 => ?_)
          refine rn_iconst (v := (0 : Int32)) dX10_log_41 (by decide) ?_
          exact rn_iret dX10_log_42 rfl rfl (rq_in ⟨hS47, (0 : Int32), rfl, (rg_w rk_0 (by decide) (by decide)), fk48⟩)
        · have ch41 := cv_nlt h41
          have r51 : Rg (0) (4) x2_ := rf_lex ch41 r40 rk_4 (by decide)
          refine rn_iconst (v := (1 : Int32)) dX10_in_10 (by decide) ?_
          refine rn_goto (tgt := 15) dX10_in_11 (by decide) ?_
          refine rn_iret dX10_in_15 rfl rfl (rq_in ?_)
          refine rn_stk [.int (1 : Int32), .ref o0_] rfl ?_
          refine rn_if_ne (tgt := 33) dX10_log_26 (by decide) (fun h52 => ?_) (fun h52 => (cx_eq (cv_eq h52) rk_1 rk_0 (by decide)).elim)
          refine rn_iconst (v := (0 : Int32)) dX10_log_33 (by decide) ?_
          refine rn_iconst (v := (1 : Int32)) dX10_log_34 (by decide) ?_
          refine rn_inV (d' := 0) (z' := 0) [.int (0 : Int32), .int (1 : Int32)] kl_SGModel_171 dX10_log_35 q1 hl3 rfl rfl rfl (Nat.le_of_ble_eq_true rfl) (Nat.le_of_ble_eq_true rfl) (Nat.le_of_ble_eq_true rfl) (Nat.le_of_ble_eq_true rfl) ?_
          refine rn_lv [(0, .ref o0_), (1, .int (0 : Int32)), (2, .int (1 : Int32))] rfl ?_
          refine rn_aload_n (i := 0) dX10_refuses_0 rfl rfl ?_
          refine rn_get q1 kg_SGModel_137 hl3 hx3 dX10_refuses_1 ?_
          refine rn_if_ne (tgt := 16) dX10_refuses_4 (by decide) (fun h53 => (cx_ne (cv_ne h53) rk_0 rk_0 (by decide)).elim) (fun h53 => ?_)
          refine rn_iload_n (i := 1) dX10_refuses_7 rfl rfl ?_
          refine rn_if_eq (tgt := 16) dX10_refuses_8 (by decide) (fun h54 => ?_) (fun h54 => (cx_ne (cv_ne h54) rk_0 rk_0 (by decide)).elim)
          refine rn_aload_n (i := 0) dX10_refuses_16 rfl rfl ?_
          refine rn_get q1 kg_SGModel_137 hl3 hx3 dX10_refuses_17 ?_
          refine rn_if_le (tgt := 27) dX10_refuses_20 (by decide) (fun h55 => ?_) (fun h55 => (cx_lt (cv_nle h55) rk_0 rk_0 (by decide)).elim)
          refine rn_iconst (v := (0 : Int32)) dX10_refuses_27 (by decide) ?_
          refine rn_iret dX10_refuses_28 rfl rfl (rq_in ?_)
          refine rn_stk [.int (0 : Int32)] rfl ?_
          refine rn_if_eq (tgt := 43) dX10_log_38 (by decide) (fun h56 => ?_) (fun h56 => (cx_ne (cv_ne h56) rk_0 rk_0 (by decide)).elim)
          refine rn_iload_n (i := 2) dX10_log_43 rfl rfl ?_
          refine rn_if_ne (tgt := 56) dX10_log_44 (by decide) (fun h57 => ?_) (fun h57 => ?_)
          · have ch57 := cv_ne h57
            have r58 : Rg (1) (4) x2_ := rf_nel ch57 r51 rk_0 (by decide) (by decide)
            refine rn_iload_n (i := 2) dX10_log_56 rfl rfl ?_
            refine rn_iconst (v := (1 : Int32)) dX10_log_57 (by decide) ?_
            refine rn_icmp_ne (tgt := 70) dX10_log_58 (by decide) (fun h59 => ?_) (fun h59 => ?_)
            · have ch59 := cv_ne h59
              have r60 : Rg (2) (4) x2_ := rf_nel ch59 r58 rk_1 (by decide) (by decide)
              refine rn_iload_n (i := 2) dX10_log_70 rfl rfl ?_
              refine rn_iconst (v := (2 : Int32)) dX10_log_71 (by decide) ?_
              refine rn_icmp_ne (tgt := 84) dX10_log_72 (by decide) (fun h61 => ?_) (fun h61 => ?_)
              · have ch61 := cv_ne h61
                have r62 : Rg (3) (4) x2_ := rf_nel ch61 r60 rk_2 (by decide) (by decide)
                refine rn_iload_n (i := 2) dX10_log_84 rfl rfl ?_
                refine rn_iconst (v := (3 : Int32)) dX10_log_85 (by decide) ?_
                refine rn_icmp_ne (tgt := 98) dX10_log_86 (by decide) (fun h63 => ?_) (fun h63 => ?_)
                · have ch63 := cv_ne h63
                  have r64 : Rg (4) (4) x2_ := rf_nel ch63 r62 rk_3 (by decide) (by decide)
                  refine rn_aload_n (i := 0) dX10_log_98 rfl rfl ?_
                  obtain ⟨o65, hx65, m65⟩ := fs_r hf3 50 rfl
                  refine rn_get q1 kg_SGModel_131 hl3 hx65 dX10_log_99 ?_
                  refine rn_iload_n (i := 1) dX10_log_102 rfl rfl ?_
                  obtain ⟨q66, f66, hq66, hl66, hf66⟩ := ts_ia hS3.1 m65 hk_81
                  refine rs_iald q66 hl66 hf66 rfl r27 (by decide) (by decide) dX10_log_103 (fun v67 ev67 rv67 => ?_)
                  exact rn_iret dX10_log_104 rfl rfl (rq_in ⟨hS3, v67, rfl, rv67, fk4⟩)
                · have ch63 := cv_eq h63
                  have r68 : Rg (3) (3) x2_ := rf_eqx ch63 r62 rk_3 (by decide) (by decide)
                  refine rn_aload_n (i := 0) dX10_log_89 rfl rfl ?_
                  obtain ⟨o69, hx69, m69⟩ := fs_r hf3 49 rfl
                  refine rn_get q1 kg_SGModel_128 hl3 hx69 dX10_log_90 ?_
                  refine rn_iload_n (i := 1) dX10_log_93 rfl rfl ?_
                  obtain ⟨q70, f70, hq70, hl70, hf70⟩ := ts_ia hS3.1 m69 hk_80
                  refine rs_iald q70 hl70 hf70 rfl r27 (by decide) (by decide) dX10_log_94 (fun v71 ev71 rv71 => ?_)
                  refine rn_goto (tgt := 104) dX10_log_95 (by decide) ?_
                  exact rn_iret dX10_log_104 rfl rfl (rq_in ⟨hS3, v71, rfl, rv71, fk4⟩)
              · have ch61 := cv_eq h61
                have r72 : Rg (2) (2) x2_ := rf_eqx ch61 r60 rk_2 (by decide) (by decide)
                refine rn_aload_n (i := 0) dX10_log_75 rfl rfl ?_
                obtain ⟨o73, hx73, m73⟩ := fs_r hf3 48 rfl
                refine rn_get q1 kg_SGModel_125 hl3 hx73 dX10_log_76 ?_
                refine rn_iload_n (i := 1) dX10_log_79 rfl rfl ?_
                obtain ⟨q74, f74, hq74, hl74, hf74⟩ := ts_ia hS3.1 m73 hk_79
                refine rs_iald q74 hl74 hf74 rfl r27 (by decide) (by decide) dX10_log_80 (fun v75 ev75 rv75 => ?_)
                refine rn_goto (tgt := 104) dX10_log_81 (by decide) ?_
                exact rn_iret dX10_log_104 rfl rfl (rq_in ⟨hS3, v75, rfl, rv75, fk4⟩)
            · have ch59 := cv_eq h59
              have r76 : Rg (1) (1) x2_ := rf_eqx ch59 r58 rk_1 (by decide) (by decide)
              refine rn_aload_n (i := 0) dX10_log_61 rfl rfl ?_
              obtain ⟨o77, hx77, m77⟩ := fs_r hf3 47 rfl
              refine rn_get q1 kg_SGModel_122 hl3 hx77 dX10_log_62 ?_
              refine rn_iload_n (i := 1) dX10_log_65 rfl rfl ?_
              obtain ⟨q78, f78, hq78, hl78, hf78⟩ := ts_ia hS3.1 m77 hk_78
              refine rs_iald q78 hl78 hf78 rfl r27 (by decide) (by decide) dX10_log_66 (fun v79 ev79 rv79 => ?_)
              refine rn_goto (tgt := 104) dX10_log_67 (by decide) ?_
              exact rn_iret dX10_log_104 rfl rfl (rq_in ⟨hS3, v79, rfl, rv79, fk4⟩)
          · have ch57 := cv_eq h57
            have r80 : Rg (0) (0) x2_ := rf_eqx ch57 r51 rk_0 (by decide) (by decide)
            refine rn_aload_n (i := 0) dX10_log_47 rfl rfl ?_
            obtain ⟨o81, hx81, m81⟩ := fs_r hf3 46 rfl
            refine rn_get q1 kg_SGModel_119 hl3 hx81 dX10_log_48 ?_
            refine rn_iload_n (i := 1) dX10_log_51 rfl rfl ?_
            obtain ⟨q82, f82, hq82, hl82, hf82⟩ := ts_ia hS3.1 m81 hk_77
            refine rs_iald q82 hl82 hf82 rfl r27 (by decide) (by decide) dX10_log_52 (fun v83 ev83 rv83 => ?_)
            refine rn_goto (tgt := 104) dX10_log_53 (by decide) ?_
            exact rn_iret dX10_log_104 rfl rfl (rq_in ⟨hS3, v83, rfl, rv83, fk4⟩)
