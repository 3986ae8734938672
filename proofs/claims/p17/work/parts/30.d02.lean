abbrev q_t_X10_at (G : rn_G) (S : ts_S) (ws : va_W) : rn_R → va_W → Prop := rQ (fun v w => St G S [30] ws S w ∧ (∃ x : Int32, v = some (.int x) ∧ Rg (0) (255) x ∧ fK1 4 S ws w)) (fun E w => False)
set_option maxRecDepth 20000 in
set_option maxHeartbeats 4000000 in
theorem t_X10_at (G : rn_G) (S : ts_S) (ws : va_W) (hW : ts_W G S ws) (o0_ : Nat) (m0_ : (o0_, 30) ∈ S) (x1_ : Int32) : Rn G mX10_at 1 22 0 0 0 (lv_args 0 [.ref o0_, .int x1_]) [] ws (q_t_X10_at G S ws ) := by
  have hS0 : St G S [30] ws S ws := St.rf hW
  have fk0 : fK1 4 S ws ws := fun v h => h
  refine rn_lv [(0, .ref o0_), (1, .int x1_)] rfl ?_
  refine rn_aload_n (i := 0) dX10_at_0 rfl rfl ?_
  refine rn_iconst (v := (0 : Int32)) dX10_at_1 (by decide) ?_
  obtain ⟨q1, fs1, hq1, hl1, hf1⟩ := ts_obj hS0.1 m0_ hk_30
  refine rs_put q1 (kp_SGModel_137 _) hS0 hq1 hl1 hf1 hk_30 rfl rfl (tv_i (rg_w rk_0 (by decide) (by decide))) rfl rfl dX10_at_2 (fun w2 fs3 hS3 hl3 hf3 hx3 ho3 hn3 => ?_)
  have fk4 : fK1 4 S ws w2 := fk_put fk0 hS0.1 hq1 hl1 hl3 ho3 (by decide)
  refine rn_aload_n (i := 0) dX10_at_5 rfl rfl ?_
  refine rn_iload_n (i := 1) dX10_at_6 rfl rfl ?_
  refine rn_iconst (v := (0 : Int32)) dX10_at_7 (by decide) ?_
  refine rn_aload_n (i := 0) dX10_at_8 rfl rfl ?_
  obtain ⟨x5, hx5, rx5⟩ := fs_i hf3 3 rfl
  refine rn_get q1 kg_SGModel_168 hl3 hx5 dX10_at_9 ?_
  refine rn_iconst (v := (1 : Int32)) dX10_at_12 (by decide) ?_
  refine rs_subC (-1) (1999) rx5 rk_1 dX10_at_13 (by decide) (fun v6 ev6 rv6 => ?_)
  refine rn_inS (d' := 0) (z' := 0) [.int x1_, .int (0 : Int32), .int v6] kl_SGModel_179 dX10_at_14 rfl rfl (Nat.le_of_ble_eq_true rfl) (Nat.le_of_ble_eq_true rfl) (Nat.le_of_ble_eq_true rfl) (Nat.le_of_ble_eq_true rfl) ?_
  refine rn_lv [(0, .int x1_), (1, .int (0 : Int32)), (2, .int v6)] rfl ?_
  refine rn_iload_n (i := 0) dX10_in_0 rfl rfl ?_
  refine rn_iload_n (i := 1) dX10_in_1 rfl rfl ?_
  refine rn_icmp_lt (tgt := 14) dX10_in_2 (by decide) (fun h7 => ?_) (fun h7 => ?_)
  · have ch7 := cv_lt h7
    have r8 : Rg (-2147483648) (-1) x1_ := rf_ltx ch7 (rg_any x1_) rk_0 (by decide)
    refine rn_iconst (v := (0 : Int32)) dX10_in_14 (by decide) ?_
    refine rn_iret dX10_in_15 rfl rfl (rq_in ?_)
    refine rn_stk [.int (0 : Int32), .ref o0_] rfl ?_
    refine rn_if_ne (tgt := 24) dX10_at_17 (by decide) (fun h9 => (cx_ne (cv_ne h9) rk_0 rk_0 (by decide)).elim) (fun h9 => ?_)
    refine rn_iconst (v := (1 : Int32)) dX10_at_20 (by decide) ?_
    refine rn_goto (tgt := 25) dX10_at_21 (by decide) ?_
    refine rn_iconst (v := (1 : Int32)) dX10_at_25 (by decide) ?_
    refine rn_inV (d' := 0) (z' := 0) [.int (1 : Int32), .int (1 : Int32)] kl_SGModel_171 dX10_at_26 q1 hl3 rfl rfl rfl (Nat.le_of_ble_eq_true rfl) (Nat.le_of_ble_eq_true rfl) (Nat.le_of_ble_eq_true rfl) (Nat.le_of_ble_eq_true rfl) ?_
    refine rn_lv [(0, .ref o0_), (1, .int (1 : Int32)), (2, .int (1 : Int32))] rfl ?_
    refine rn_aload_n (i := 0) dX10_refuses_0 rfl rfl ?_
    refine rn_get q1 kg_SGModel_137 hl3 hx3 dX10_refuses_1 ?_
    refine rn_if_ne (tgt := 16) dX10_refuses_4 (by decide) (fun h10 => (cx_ne (cv_ne h10) rk_0 rk_0 (by decide)).elim) (fun h10 => ?_)
    refine rn_iload_n (i := 1) dX10_refuses_7 rfl rfl ?_
    refine rn_if_eq (tgt := 16) dX10_refuses_8 (by decide) (fun h11 => (cx_eq (cv_eq h11) rk_1 rk_0 (by decide)).elim) (fun h11 => ?_)
    refine rn_aload_n (i := 0) dX10_refuses_11 rfl rfl ?_
    refine rn_iload_n (i := 2) dX10_refuses_12 rfl rfl ?_
    refine rs_put q1 (kp_SGModel_137 _) hS3 hq1 hl3 hf3 hk_30 rfl rfl (tv_i (rg_w rk_1 (by decide) (by decide))) rfl rfl dX10_refuses_13 (fun w12 fs13 hS13 hl13 hf13 hx13 ho13 hn13 => ?_)
    have fk14 : fK1 4 S ws w12 := fk_put fk4 hS3.1 hq1 hl3 hl13 ho13 (by decide)
    refine rn_aload_n (i := 0) dX10_refuses_16 rfl rfl ?_
    refine rn_get q1 kg_SGModel_137 hl13 hx13 dX10_refuses_17 ?_
    refine rn_if_le (tgt := 27) dX10_refuses_20 (by decide) (fun h15 => (cx_le (cv_le h15) rk_1 rk_0 (by decide)).elim) (fun h15 => ?_)
    refine rn_iconst (v := (1 : Int32)) dX10_refuses_23 (by decide) ?_
    refine rn_goto (tgt := 28) dX10_refuses_24 (by decide) ?_
    refine rn_iret dX10_refuses_28 rfl rfl (rq_in ?_)
    refine rn_stk [.int (1 : Int32)] rfl ?_
    refine rn_if_eq (tgt := 36) dX10_at_29 (by decide) (fun h16 => (cx_eq (cv_eq h16) rk_1 rk_0 (by decide)).elim) (fun h16 => ?_)
    refine rn_iconst (v := (0 : Int32)) dX10_at_32 (by decide) ?_
    refine rn_goto (tgt := 44) dX10_at_33 (by decide) ?_
    exact rn_iret dX10_at_44 rfl rfl (rq_in ⟨hS13, (0 : Int32), rfl, (rg_w rk_0 (by decide) (by decide)), fk14⟩)
  · have ch7 := cv_nlt h7
    have r17 : Rg (0) (2147483647) x1_ := rf_ley ch7 rk_0 (rg_any x1_) (by decide)
    refine rn_iload_n (i := 0) dX10_in_5 rfl rfl ?_
    refine rn_iload_n (i := 2) dX10_in_6 rfl rfl ?_
    refine rn_icmp_gt (tgt := 14) dX10_in_7 (by decide) (fun h18 => ?_) (fun h18 => ?_)
    · have ch18 := cv_lt h18
      refine rn_iconst (v := (0 : Int32)) dX10_in_14 (by decide) ?_
      refine rn_iret dX10_in_15 rfl rfl (rq_in ?_)
      refine rn_stk [.int (0 : Int32), .ref o0_] rfl ?_
      refine rn_if_ne (tgt := 24) dX10_at_17 (by decide) (fun h19 => (cx_ne (cv_ne h19) rk_0 rk_0 (by decide)).elim) (fun h19 => ?_)
      refine rn_iconst (v := (1 : Int32)) dX10_at_20 (by decide) ?_
      refine rn_goto (tgt := 25) dX10_at_21 (by decide) ?_
      refine rn_iconst (v := (1 : Int32)) dX10_at_25 (by decide) ?_
      refine rn_inV (d' := 0) (z' := 0) [.int (1 : Int32), .int (1 : Int32)] kl_SGModel_171 dX10_at_26 q1 hl3 rfl rfl rfl (Nat.le_of_ble_eq_true rfl) (Nat.le_of_ble_eq_true rfl) (Nat.le_of_ble_eq_true rfl) (Nat.le_of_ble_eq_true rfl) ?_
      refine rn_lv [(0, .ref o0_), (1, .int (1 : Int32)), (2, .int (1 : Int32))] rfl ?_
      refine rn_aload_n (i := 0) dX10_refuses_0 rfl rfl ?_
      refine rn_get q1 kg_SGModel_137 hl3 hx3 dX10_refuses_1 ?_
      refine rn_if_ne (tgt := 16) dX10_refuses_4 (by decide) (fun h20 => (cx_ne (cv_ne h20) rk_0 rk_0 (by decide)).elim) (fun h20 => ?_)
      refine rn_iload_n (i := 1) dX10_refuses_7 rfl rfl ?_
      refine rn_if_eq (tgt := 16) dX10_refuses_8 (by decide) (fun h21 => (cx_eq (cv_eq h21) rk_1 rk_0 (by decide)).elim) (fun h21 => ?_)
      refine rn_aload_n (i := 0) dX10_refuses_11 rfl rfl ?_
      refine rn_iload_n (i := 2) dX10_refuses_12 rfl rfl ?_
      refine rs_put q1 (kp_SGModel_137 _) hS3 hq1 hl3 hf3 hk_30 rfl rfl (tv_i (rg_w rk_1 (by decide) (by decide))) rfl rfl dX10_refuses_13 (fun w22 fs23 hS23 hl23 hf23 hx23 ho23 hn23 => ?_)
      have fk24 : fK1 4 S ws w22 := fk_put fk4 hS3.1 hq1 hl3 hl23 ho23 (by decide)
      refine rn_aload_n (i := 0) dX10_refuses_16 rfl rfl ?_
      refine rn_get q1 kg_SGModel_137 hl23 hx23 dX10_refuses_17 ?_
      refine rn_if_le (tgt := 27) dX10_refuses_20 (by decide) (fun h25 => (cx_le (cv_le h25) rk_1 rk_0 (by decide)).elim) (fun h25 => ?_)
      refine rn_iconst (v := (1 : Int32)) dX10_refuses_23 (by decide) ?_
      refine rn_goto (tgt := 28) dX10_refuses_24 (by decide) ?_
      refine rn_iret dX10_refuses_28 rfl rfl (rq_in ?_)
      refine rn_stk [.int (1 : Int32)] rfl ?_
      refine rn_if_eq (tgt := 36) dX10_at_29 (by decide) (fun h26 => (cx_eq (cv_eq h26) rk_1 rk_0 (by decide)).elim) (fun h26 => ?_)
      refine rn_iconst (v := (0 : Int32)) dX10_at_32 (by decide) ?_
      refine rn_goto (tgt := 44) dX10_at_33 (by decide) ?_
      exact rn_iret dX10_at_44 rfl rfl (rq_in ⟨hS23, (0 : Int32), rfl, (rg_w rk_0 (by decide) (by decide)), fk24⟩)
    · have ch18 := cv_nlt h18
      have r27 : Rg (0) (1999) x1_ := rf_lex ch18 r17 rv6 (by decide)
      have r28 : Rg (0) (1999) v6 := rf_ley ch18 r17 rv6 (by decide)
      refine rn_iconst (v := (1 : Int32)) dX10_in_10 (by decide) ?_
      refine rn_goto (tgt := 15) dX10_in_11 (by decide) ?_
      refine rn_iret dX10_in_15 rfl rfl (rq_in ?_)
      refine rn_stk [.int (1 : Int32), .ref o0_] rfl ?_
      refine rn_if_ne (tgt := 24) dX10_at_17 (by decide) (fun h29 => ?_) (fun h29 => (cx_eq (cv_eq h29) rk_1 rk_0 (by decide)).elim)
      refine rn_iconst (v := (0 : Int32)) dX10_at_24 (by decide) ?_
      refine rn_iconst (v := (1 : Int32)) dX10_at_25 (by decide) ?_
      refine rn_inV (d' := 0) (z' := 0) [.int (0 : Int32), .int (1 : Int32)] kl_SGModel_171 dX10_at_26 q1 hl3 rfl rfl rfl (Nat.le_of_ble_eq_true rfl) (Nat.le_of_ble_eq_true rfl) (Nat.le_of_ble_eq_true rfl) (Nat.le_of_ble_eq_true rfl) ?_
      refine rn_lv [(0, .ref o0_), (1, .int (0 : Int32)), (2, .int (1 : Int32))] rfl ?_
      refine rn_aload_n (i := 0) dX10_refuses_0 rfl rfl ?_
      refine rn_get q1 kg_SGModel_137 hl3 hx3 dX10_refuses_1 ?_
      refine rn_if_ne (tgt := 16) dX10_refuses_4 (by decide) (fun h30 => (cx_ne (cv_ne h30) rk_0 rk_0 (by decide)).elim) (fun h30 => ?_)
      refine rn_iload_n (i := 1) dX10_refuses_7 rfl rfl ?_
      refine rn_if_eq (tgt := 16) dX10_refuses_8 (by decide) (fun h31 => ?_) (fun h31 => (cx_ne (cv_ne h31) rk_0 rk_0 (by decide)).elim)
      refine rn_aload_n (i := 0) dX10_refuses_16 rfl rfl ?_
      refine rn_get q1 kg_SGModel_137 hl3 hx3 dX10_refuses_17 ?_
      refine rn_if_le (tgt := 27) dX10_refuses_20 (by decide) (fun h32 => ?_) (fun h32 => (cx_lt (cv_nle h32) rk_0 rk_0 (by decide)).elim)
      refine rn_iconst (v := (0 : Int32)) dX10_refuses_27 (by decide) ?_
      refine rn_iret dX10_refuses_28 rfl rfl (rq_in ?_)
      refine rn_stk [.int (0 : Int32)] rfl ?_
      refine rn_if_eq (tgt := 36) dX10_at_29 (by decide) (fun h33 => ?_) (fun h33 => (cx_ne (cv_ne h33) rk_0 rk_0 (by decide)).elim)
      refine rn_aload_n (i := 0) dX10_at_36 rfl rfl ?_
      obtain ⟨o34, hx34, m34⟩ := fs_r hf3 2 rfl
      refine rn_get q1 kg_SGModel_7 hl3 hx34 dX10_at_37 ?_
      refine rn_iconst (v := (0 : Int32)) dX10_at_40 (by decide) ?_
      refine rn_iload_n (i := 1) dX10_at_41 rfl rfl ?_
      refine rs_addD (0) (1999) rk_0 r27 dX10_at_42 (by decide) (fun v35 ev35 rv35 => ?_)
      obtain ⟨q36, f36, hq36, hl36, hf36⟩ := ts_ia hS3.1 m34 hk_33
      refine rs_iald q36 hl36 hf36 rfl rv35 (by decide) (by decide) dX10_at_43 (fun v37 ev37 rv37 => ?_)
      exact rn_iret dX10_at_44 rfl rfl (rq_in ⟨hS3, v37, rfl, rv37, fk4⟩)
abbrev q_t_X10_make (G : rn_G) (S : ts_S) (ws : va_W) : rn_R → va_W → Prop := rQ (fun v w => St G S [30, 33] ws S w ∧ (∃ x : Int32, v = some (.int x) ∧ Rg (0) (1500) x ∧ fK1 4 S ws w)) (fun E w => False)
set_option maxRecDepth 20000 in
set_option maxHeartbeats 4000000 in
theorem t_X10_make (G : rn_G) (S : ts_S) (ws : va_W) (hW : ts_W G S ws) (o0_ : Nat) (m0_ : (o0_, 30) ∈ S) (x1_ : Int32) (x2_ : Int32) (x3_ : Int32) (x4_ : Int32) (x5_ : Int32) (x6_ : Int32) : Rn G mX10_make 3 66 0 0 0 (lv_args 0 [.ref o0_, .int x1_, .int x2_, .int x3_, .int x4_, .int x5_, .int x6_]) [] ws (q_t_X10_make G S ws ) := by
  have hS0 : St G S [30, 33] ws S ws := St.rf hW
  have fk0 : fK1 4 S ws ws := fun v h => h
  refine rn_lv [(0, .ref o0_), (1, .int x1_), (2, .int x2_), (3, .int x3_), (4, .int x4_), (5, .int x5_), (6, .int x6_)] rfl ?_
  refine rn_aload_n (i := 0) dX10_make_0 rfl rfl ?_
  refine rn_iconst (v := (0 : Int32)) dX10_make_1 (by decide) ?_
  obtain ⟨q1, fs1, hq1, hl1, hf1⟩ := ts_obj hS0.1 m0_ hk_30
  refine rs_put q1 (kp_SGModel_137 _) hS0 hq1 hl1 hf1 hk_30 rfl rfl (tv_i (rg_w rk_0 (by decide) (by decide))) rfl rfl dX10_make_2 (fun w2 fs3 hS3 hl3 hf3 hx3 ho3 hn3 => ?_)
  have fk4 : fK1 4 S ws w2 := fk_put fk0 hS0.1 hq1 hl1 hl3 ho3 (by decide)
  refine rn_aload_n (i := 0) dX10_make_5 rfl rfl ?_
  refine rn_iload_n (i := 3) dX10_make_6 rfl rfl ?_
  refine rn_iconst (v := (0 : Int32)) dX10_make_7 (by decide) ?_
  refine rn_sipush (v := (255 : Int32)) dX10_make_8 (by decide) ?_
  refine rn_inS (d' := 0) (z' := 0) [.int x3_, .int (0 : Int32), .int (255 : Int32)] kl_SGModel_179 dX10_make_11 rfl rfl (Nat.le_of_ble_eq_true rfl) (Nat.le_of_ble_eq_true rfl) (Nat.le_of_ble_eq_true rfl) (Nat.le_of_ble_eq_true rfl) ?_
  refine rn_lv [(0, .int x3_), (1, .int (0 : Int32)), (2, .int (255 : Int32))] rfl ?_
  refine rn_iload_n (i := 0) dX10_in_0 rfl rfl ?_
  refine rn_iload_n (i := 1) dX10_in_1 rfl rfl ?_
  refine rn_icmp_lt (tgt := 14) dX10_in_2 (by decide) (fun h5 => ?_) (fun h5 => ?_)
  · have ch5 := cv_lt h5
    have r6 : Rg (-2147483648) (-1) x3_ := rf_ltx ch5 (rg_any x3_) rk_0 (by decide)
    refine rn_iconst (v := (0 : Int32)) dX10_in_14 (by decide) ?_
    refine rn_iret dX10_in_15 rfl rfl (rq_in ?_)
    refine rn_stk [.int (0 : Int32), .ref o0_] rfl ?_
    refine rn_if_eq (tgt := 41) dX10_make_14 (by decide) (fun h7 => ?_) (fun h7 => (cx_ne (cv_ne h7) rk_0 rk_0 (by decide)).elim)
    refine rn_iconst (v := (1 : Int32)) dX10_make_41 (by decide) ?_
    refine rn_goto (tgt := 46) dX10_make_42 (by decide) ?_
    refine rn_iconst (v := (1 : Int32)) dX10_make_46 (by decide) ?_
    refine rn_inV (d' := 0) (z' := 0) [.int (1 : Int32), .int (1 : Int32)] kl_SGModel_171 dX10_make_47 q1 hl3 rfl rfl rfl (Nat.le_of_ble_eq_true rfl) (Nat.le_of_ble_eq_true rfl) (Nat.le_of_ble_eq_true rfl) (Nat.le_of_ble_eq_true rfl) ?_
    refine rn_lv [(0, .ref o0_), (1, .int (1 : Int32)), (2, .int (1 : Int32))] rfl ?_
    refine rn_aload_n (i := 0) dX10_refuses_0 rfl rfl ?_
    refine rn_get q1 kg_SGModel_137 hl3 hx3 dX10_refuses_1 ?_
    refine rn_if_ne (tgt := 16) dX10_refuses_4 (by decide) (fun h8 => (cx_ne (cv_ne h8) rk_0 rk_0 (by decide)).elim) (fun h8 => ?_)
    refine rn_iload_n (i := 1) dX10_refuses_7 rfl rfl ?_
    refine rn_if_eq (tgt := 16) dX10_refuses_8 (by decide) (fun h9 => (cx_eq (cv_eq h9) rk_1 rk_0 (by decide)).elim) (fun h9 => ?_)
    refine rn_aload_n (i := 0) dX10_refuses_11 rfl rfl ?_
    refine rn_iload_n (i := 2) dX10_refuses_12 rfl rfl ?_
    refine rs_put q1 (kp_SGModel_137 _) hS3 hq1 hl3 hf3 hk_30 rfl rfl (tv_i (rg_w rk_1 (by decide) (by decide))) rfl rfl dX10_refuses_13 (fun w10 fs11 hS11 hl11 hf11 hx11 ho11 hn11 => ?_)
    have fk12 : fK1 4 S ws w10 := fk_put fk4 hS3.1 hq1 hl3 hl11 ho11 (by decide)
    refine rn_aload_n (i := 0) dX10_refuses_16 rfl rfl ?_
    refine rn_get q1 kg_SGModel_137 hl11 hx11 dX10_refuses_17 ?_
    refine rn_if_le (tgt := 27) dX10_refuses_20 (by decide) (fun h13 => (cx_le (cv_le h13) rk_1 rk_0 (by decide)).elim) (fun h13 => ?_)
    refine rn_iconst (v := (1 : Int32)) dX10_refuses_23 (by decide) ?_
    refine rn_goto (tgt := 28) dX10_refuses_24 (by decide) ?_
    refine rn_iret dX10_refuses_28 rfl rfl (rq_in ?_)
    refine rn_stk [.int (1 : Int32)] rfl ?_
    refine rn_if_eq (tgt := 55) dX10_make_50 (by decide) (fun h14 => (cx_eq (cv_eq h14) rk_1 rk_0 (by decide)).elim) (fun h14 => ?_)
    refine rn_iconst (v := (0 : Int32)) dX10_make_53 (by decide) ?_
    exact rn_iret dX10_make_54 rfl rfl (rq_in ⟨hS11, (0 : Int32), rfl, (rg_w rk_0 (by decide) (by decide)), fk12⟩)
  · have ch5 := cv_nlt h5
    have r15 : Rg (0) (2147483647) x3_ := rf_ley ch5 rk_0 (rg_any x3_) (by decide)
    refine rn_iload_n (i := 0) dX10_in_5 rfl rfl ?_
    refine rn_iload_n (i := 2) dX10_in_6 rfl rfl ?_
    refine rn_icmp_gt (tgt := 14) dX10_in_7 (by decide) (fun h16 => ?_) (fun h16 => ?_)
    · have ch16 := cv_lt h16
      have r17 : Rg (256) (2147483647) x3_ := rf_lty ch16 rk_255 r15 (by decide)
      refine rn_iconst (v := (0 : Int32)) dX10_in_14 (by decide) ?_
      refine rn_iret dX10_in_15 rfl rfl (rq_in ?_)
      refine rn_stk [.int (0 : Int32), .ref o0_] rfl ?_
      refine rn_if_eq (tgt := 41) dX10_make_14 (by decide) (fun h18 => ?_) (fun h18 => (cx_ne (cv_ne h18) rk_0 rk_0 (by decide)).elim)
      refine rn_iconst (v := (1 : Int32)) dX10_make_41 (by decide) ?_
      refine rn_goto (tgt := 46) dX10_make_42 (by decide) ?_
      refine rn_iconst (v := (1 : Int32)) dX10_make_46 (by decide) ?_
      refine rn_inV (d' := 0) (z' := 0) [.int (1 : Int32), .int (1 : Int32)] kl_SGModel_171 dX10_make_47 q1 hl3 rfl rfl rfl (Nat.le_of_ble_eq_true rfl) (Nat.le_of_ble_eq_true rfl) (Nat.le_of_ble_eq_true rfl) (Nat.le_of_ble_eq_true rfl) ?_
      refine rn_lv [(0, .ref o0_), (1, .int (1 : Int32)), (2, .int (1 : Int32))] rfl ?_
      refine rn_aload_n (i := 0) dX10_refuses_0 rfl rfl ?_
      refine rn_get q1 kg_SGModel_137 hl3 hx3 dX10_refuses_1 ?_
      refine rn_if_ne (tgt := 16) dX10_refuses_4 (by decide) (fun h19 => (cx_ne (cv_ne h19) rk_0 rk_0 (by decide)).elim) (fun h19 => ?_)
      refine rn_iload_n (i := 1) dX10_refuses_7 rfl rfl ?_
      refine rn_if_eq (tgt := 16) dX10_refuses_8 (by decide) (fun h20 => (cx_eq (cv_eq h20) rk_1 rk_0 (by decide)).elim) (fun h20 => ?_)
      refine rn_aload_n (i := 0) dX10_refuses_11 rfl rfl ?_
      refine rn_iload_n (i := 2) dX10_refuses_12 rfl rfl ?_
      refine rs_put q1 (kp_SGModel_137 _) hS3 hq1 hl3 hf3 hk_30 rfl rfl (tv_i (rg_w rk_1 (by decide) (by decide))) rfl rfl dX10_refuses_13 (fun w21 fs22 hS22 hl22 hf22 hx22 ho22 hn22 => ?_)
      have fk23 : fK1 4 S ws w21 := fk_put fk4 hS3.1 hq1 hl3 hl22 ho22 (by decide)
      refine rn_aload_n (i := 0) dX10_refuses_16 rfl rfl ?_
      refine rn_get q1 kg_SGModel_137 hl22 hx22 dX10_refuses_17 ?_
      refine rn_if_le (tgt := 27) dX10_refuses_20 (by decide) (fun h24 => (cx_le (cv_le h24) rk_1 rk_0 (by decide)).elim) (fun h24 => ?_)
      refine rn_iconst (v := (1 : Int32)) dX10_refuses_23 (by decide) ?_
      refine rn_goto (tgt := 28) dX10_refuses_24 (by decide) ?_
      refine rn_iret dX10_refuses_28 rfl rfl (rq_in ?_)
      refine rn_stk [.int (1 : Int32)] rfl ?_
      refine rn_if_eq (tgt := 55) dX10_make_50 (by decide) (fun h25 => (cx_eq (cv_eq h25) rk_1 rk_0 (by decide)).elim) (fun h25 => ?_)
      refine rn_iconst (v := (0 : Int32)) dX10_make_53 (by decide) ?_
      exact rn_iret dX10_make_54 rfl rfl (rq_in ⟨hS22, (0 : Int32), rfl, (rg_w rk_0 (by decide) (by decide)), fk23⟩)
    · have ch16 := cv_nlt h16
      have r26 : Rg (0) (255) x3_ := rf_lex ch16 r15 rk_255 (by decide)
      refine rn_iconst (v := (1 : Int32)) dX10_in_10 (by decide) ?_
      refine rn_goto (tgt := 15) dX10_in_11 (by decide) ?_
      refine rn_iret dX10_in_15 rfl rfl (rq_in ?_)
      refine rn_stk [.int (1 : Int32), .ref o0_] rfl ?_
      refine rn_if_eq (tgt := 41) dX10_make_14 (by decide) (fun h27 => (cx_eq (cv_eq h27) rk_1 rk_0 (by decide)).elim) (fun h27 => ?_)
      refine rn_iload dX10_make_17 rfl ?_
      refine rn_iconst (v := (0 : Int32)) dX10_make_19 (by decide) ?_
      refine rn_sipush (v := (255 : Int32)) dX10_make_20 (by decide) ?_
      refine rn_inS (d' := 0) (z' := 0) [.int x4_, .int (0 : Int32), .int (255 : Int32)] kl_SGModel_179 dX10_make_23 rfl rfl (Nat.le_of_ble_eq_true rfl) (Nat.le_of_ble_eq_true rfl) (Nat.le_of_ble_eq_true rfl) (Nat.le_of_ble_eq_true rfl) ?_
      refine rn_lv [(0, .int x4_), (1, .int (0 : Int32)), (2, .int (255 : Int32))] rfl ?_
      refine rn_iload_n (i := 0) dX10_in_0 rfl rfl ?_
      refine rn_iload_n (i := 1) dX10_in_1 rfl rfl ?_
      refine rn_icmp_lt (tgt := 14) dX10_in_2 (by decide) (fun h28 => ?_) (fun h28 => ?_)
      · have ch28 := cv_lt h28
        have r29 : Rg (-2147483648) (-1) x4_ := rf_ltx ch28 (rg_any x4_) rk_0 (by decide)
        refine rn_iconst (v := (0 : Int32)) dX10_in_14 (by decide) ?_
        refine rn_iret dX10_in_15 rfl rfl (rq_in ?_)
        refine rn_stk [.int (0 : Int32), .ref o0_] rfl ?_
        refine rn_if_eq (tgt := 41) dX10_make_26 (by decide) (fun h30 => ?_) (fun h30 => (cx_ne (cv_ne h30) rk_0 rk_0 (by decide)).elim)
        refine rn_iconst (v := (1 : Int32)) dX10_make_41 (by decide) ?_
        refine rn_goto (tgt := 46) dX10_make_42 (by decide) ?_
        refine rn_iconst (v := (1 : Int32)) dX10_make_46 (by decide) ?_
        refine rn_inV (d' := 0) (z' := 0) [.int (1 : Int32), .int (1 : Int32)] kl_SGModel_171 dX10_make_47 q1 hl3 rfl rfl rfl (Nat.le_of_ble_eq_true rfl) (Nat.le_of_ble_eq_true rfl) (Nat.le_of_ble_eq_true rfl) (Nat.le_of_ble_eq_true rfl) ?_
        refine rn_lv [(0, .ref o0_), (1, .int (1 : Int32)), (2, .int (1 : Int32))] rfl ?_
        refine rn_aload_n (i := 0) dX10_refuses_0 rfl rfl ?_
        refine rn_get q1 kg_SGModel_137 hl3 hx3 dX10_refuses_1 ?_
        refine rn_if_ne (tgt := 16) dX10_refuses_4 (by decide) (fun h31 => (cx_ne (cv_ne h31) rk_0 rk_0 (by decide)).elim) (fun h31 => ?_)
        refine rn_iload_n (i := 1) dX10_refuses_7 rfl rfl ?_
        refine rn_if_eq (tgt := 16) dX10_refuses_8 (by decide) (fun h32 => (cx_eq (cv_eq h32) rk_1 rk_0 (by decide)).elim) (fun h32 => ?_)
        refine rn_aload_n (i := 0) dX10_refuses_11 rfl rfl ?_
        refine rn_iload_n (i := 2) dX10_refuses_12 rfl rfl ?_
        refine rs_put q1 (kp_SGModel_137 _) hS3 hq1 hl3 hf3 hk_30 rfl rfl (tv_i (rg_w rk_1 (by decide) (by decide))) rfl rfl dX10_refuses_13 (fun w33 fs34 hS34 hl34 hf34 hx34 ho34 hn34 => ?_)
        have fk35 : fK1 4 S ws w33 := fk_put fk4 hS3.1 hq1 hl3 hl34 ho34 (by decide)
        refine rn_aload_n (i := 0) dX10_refuses_16 rfl rfl ?_
        refine rn_get q1 kg_SGModel_137 hl34 hx34 dX10_refuses_17 ?_
        refine rn_if_le (tgt := 27) dX10_refuses_20 (by decide) (fun h36 => (cx_le (cv_le h36) rk_1 rk_0 (by decide)).elim) (fun h36 => ?_)
        refine rn_iconst (v := (1 : Int32)) dX10_refuses_23 (by decide) ?_
        refine rn_goto (tgt := 28) dX10_refuses_24 (by decide) ?_
        refine rn_iret dX10_refuses_28 rfl rfl (rq_in ?_)
        refine rn_stk [.int (1 : Int32)] rfl ?_
        refine rn_if_eq (tgt := 55) dX10_make_50 (by decide) (fun h37 => (cx_eq (cv_eq h37) rk_1 rk_0 (by decide)).elim) (fun h37 => ?_)
        refine rn_iconst (v := (0 : Int32)) dX10_make_53 (by decide) ?_
        exact rn_iret dX10_make_54 rfl rfl (rq_in ⟨hS34, (0 : Int32), rfl, (rg_w rk_0 (by decide) (by decide)), fk35⟩)
      · have ch28 := cv_nlt h28
        have r38 : Rg (0) (2147483647) x4_ := rf_ley ch28 rk_0 (rg_any x4_) (by decide)
        refine rn_iload_n (i := 0) dX10_in_5 rfl rfl ?_
        refine rn_iload_n (i := 2) dX10_in_6 rfl rfl ?_
        refine rn_icmp_gt (tgt := 14) dX10_in_7 (by decide) (fun h39 => ?_) (fun h39 => ?_)
        · have ch39 := cv_lt h39
          have r40 : Rg (256) (2147483647) x4_ := rf_lty ch39 rk_255 r38 (by decide)
          refine rn_iconst (v := (0 : Int32)) dX10_in_14 (by decide) ?_
          refine rn_iret dX10_in_15 rfl rfl (rq_in ?_)
          refine rn_stk [.int (0 : Int32), .ref o0_] rfl ?_
          refine rn_if_eq (tgt := 41) dX10_make_26 (by decide) (fun h41 => ?_) (fun h41 => (cx_ne (cv_ne h41) rk_0 rk_0 (by decide)).elim)
          refine rn_iconst (v := (1 : Int32)) dX10_make_41 (by decide) ?_
          refine rn_goto (tgt := 46) dX10_make_42 (by decide) ?_
          refine rn_iconst (v := (1 : Int32)) dX10_make_46 (by decide) ?_
          refine rn_inV (d' := 0) (z' := 0) [.int (1 : Int32), .int (1 : Int32)] kl_SGModel_171 dX10_make_47 q1 hl3 rfl rfl rfl (Nat.le_of_ble_eq_true rfl) (Nat.le_of_ble_eq_true rfl) (Nat.le_of_ble_eq_true rfl) (Nat.le_of_ble_eq_true rfl) ?_
          refine rn_lv [(0, .ref o0_), (1, .int (1 : Int32)), (2, .int (1 : Int32))] rfl ?_
          refine rn_aload_n (i := 0) dX10_refuses_0 rfl rfl ?_
          refine rn_get q1 kg_SGModel_137 hl3 hx3 dX10_refuses_1 ?_
          refine rn_if_ne (tgt := 16) dX10_refuses_4 (by decide) (fun h42 => (cx_ne (cv_ne h42) rk_0 rk_0 (by decide)).elim) (fun h42 => ?_)
          refine rn_iload_n (i := 1) dX10_refuses_7 rfl rfl ?_
          refine rn_if_eq (tgt := 16) dX10_refuses_8 (by decide) (fun h43 => (cx_eq (cv_eq h43) rk_1 rk_0 (by decide)).elim) (fun h43 => ?_)
          refine rn_aload_n (i := 0) dX10_refuses_11 rfl rfl ?_
          refine rn_iload_n (i := 2) dX10_refuses_12 rfl rfl ?_
          refine rs_put q1 (kp_SGModel_137 _) hS3 hq1 hl3 hf3 hk_30 rfl rfl (tv_i (rg_w rk_1 (by decide) (by decide))) rfl rfl dX10_refuses_13 (fun w44 fs45 hS45 hl45 hf45 hx45 ho45 hn45 => ?_)
          have fk46 : fK1 4 S ws w44 := fk_put fk4 hS3.1 hq1 hl3 hl45 ho45 (by decide)
          refine rn_aload_n (i := 0) dX10_refuses_16 rfl rfl ?_
          refine rn_get q1 kg_SGModel_137 hl45 hx45 dX10_refuses_17 ?_
          refine rn_if_le (tgt := 27) dX10_refuses_20 (by decide) (fun h47 => (cx_le (cv_le h47) rk_1 rk_0 (by decide)).elim) (fun h47 => ?_)
          refine rn_iconst (v := (1 : Int32)) dX10_refuses_23 (by decide) ?_
          refine rn_goto (tgt := 28) dX10_refuses_24 (by decide) ?_
          refine rn_iret dX10_refuses_28 rfl rfl (rq_in ?_)
          refine rn_stk [.int (1 : Int32)] rfl ?_
          refine rn_if_eq (tgt := 55) dX10_make_50 (by decide) (fun h48 => (cx_eq (cv_eq h48) rk_1 rk_0 (by decide)).elim) (fun h48 => ?_)
          refine rn_iconst (v := (0 : Int32)) dX10_make_53 (by decide) ?_
          exact rn_iret dX10_make_54 rfl rfl (rq_in ⟨hS45, (0 : Int32), rfl, (rg_w rk_0 (by decide) (by decide)), fk46⟩)
        · have ch39 := cv_nlt h39
          have r49 : Rg (0) (255) x4_ := rf_lex ch39 r38 rk_255 (by decide)
          refine rn_iconst (v := (1 : Int32)) dX10_in_10 (by decide) ?_
          refine rn_goto (tgt := 15) dX10_in_11 (by decide) ?_
          refine rn_iret dX10_in_15 rfl rfl (rq_in ?_)
          refine rn_stk [.int (1 : Int32), .ref o0_] rfl ?_
          refine rn_if_eq (tgt := 41) dX10_make_26 (by decide) (fun h50 => (cx_eq (cv_eq h50) rk_1 rk_0 (by decide)).elim) (fun h50 => ?_)
          refine rn_iload dX10_make_29 rfl ?_
          refine rn_iconst (v := (0 : Int32)) dX10_make_31 (by decide) ?_
          refine rn_sipush (v := (1480 : Int32)) dX10_make_32 (by decide) ?_
          refine rn_inS (d' := 0) (z' := 0) [.int x5_, .int (0 : Int32), .int (1480 : Int32)] kl_SGModel_179 dX10_make_35 rfl rfl (Nat.le_of_ble_eq_true rfl) (Nat.le_of_ble_eq_true rfl) (Nat.le_of_ble_eq_true rfl) (Nat.le_of_ble_eq_true rfl) ?_
          refine rn_lv [(0, .int x5_), (1, .int (0 : Int32)), (2, .int (1480 : Int32))] rfl ?_
          refine rn_iload_n (i := 0) dX10_in_0 rfl rfl ?_
          refine rn_iload_n (i := 1) dX10_in_1 rfl rfl ?_
          refine rn_icmp_lt (tgt := 14) dX10_in_2 (by decide) (fun h51 => ?_) (fun h51 => ?_)
          · have ch51 := cv_lt h51
            have r52 : Rg (-2147483648) (-1) x5_ := rf_ltx ch51 (rg_any x5_) rk_0 (by decide)
            refine rn_iconst (v := (0 : Int32)) dX10_in_14 (by decide) ?_
            refine rn_iret dX10_in_15 rfl rfl (rq_in ?_)
            refine rn_stk [.int (0 : Int32), .ref o0_] rfl ?_
            refine rn_if_ne (tgt := 45) dX10_make_38 (by decide) (fun h53 => (cx_ne (cv_ne h53) rk_0 rk_0 (by decide)).elim) (fun h53 => ?_)
            refine rn_iconst (v := (1 : Int32)) dX10_make_41 (by decide) ?_
            refine rn_goto (tgt := 46) dX10_make_42 (by decide) ?_
            refine rn_iconst (v := (1 : Int32)) dX10_make_46 (by decide) ?_
            refine rn_inV (d' := 0) (z' := 0) [.int (1 : Int32), .int (1 : Int32)] kl_SGModel_171 dX10_make_47 q1 hl3 rfl rfl rfl (Nat.le_of_ble_eq_true rfl) (Nat.le_of_ble_eq_true rfl) (Nat.le_of_ble_eq_true rfl) (Nat.le_of_ble_eq_true rfl) ?_
            refine rn_lv [(0, .ref o0_), (1, .int (1 : Int32)), (2, .int (1 : Int32))] rfl ?_
            refine rn_aload_n (i := 0) dX10_refuses_0 rfl rfl ?_
            refine rn_get q1 kg_SGModel_137 hl3 hx3 dX10_refuses_1 ?_
            refine rn_if_ne (tgt := 16) dX10_refuses_4 (by decide) (fun h54 => (cx_ne (cv_ne h54) rk_0 rk_0 (by decide)).elim) (fun h54 => ?_)
            refine rn_iload_n (i := 1) dX10_refuses_7 rfl rfl ?_
            refine rn_if_eq (tgt := 16) dX10_refuses_8 (by decide) (fun h55 => (cx_eq (cv_eq h55) rk_1 rk_0 (by decide)).elim) (fun h55 => ?_)
            refine rn_aload_n (i := 0) dX10_refuses_11 rfl rfl ?_
            refine rn_iload_n (i := 2) dX10_refuses_12 rfl rfl ?_
            refine rs_put q1 (kp_SGModel_137 _) hS3 hq1 hl3 hf3 hk_30 rfl rfl (tv_i (rg_w rk_1 (by decide) (by decide))) rfl rfl dX10_refuses_13 (fun w56 fs57 hS57 hl57 hf57 hx57 ho57 hn57 => ?_)
            have fk58 : fK1 4 S ws w56 := fk_put fk4 hS3.1 hq1 hl3 hl57 ho57 (by decide)
            refine rn_aload_n (i := 0) dX10_refuses_16 rfl rfl ?_
            refine rn_get q1 kg_SGModel_137 hl57 hx57 dX10_refuses_17 ?_
            refine rn_if_le (tgt := 27) dX10_refuses_20 (by decide) (fun h59 => (cx_le (cv_le h59) rk_1 rk_0 (by decide)).elim) (fun h59 => ?_)
            refine rn_iconst (v := (1 : Int32)) dX10_refuses_23 (by decide) ?_
            refine rn_goto (tgt := 28) dX10_refuses_24 (by decide) ?_
            refine rn_iret dX10_refuses_28 rfl rfl (rq_in ?_)
            refine rn_stk [.int (1 : Int32)] rfl ?_
            refine rn_if_eq (tgt := 55) dX10_make_50 (by decide) (fun h60 => (cx_eq (cv_eq h60) rk_1 rk_0 (by decide)).elim) (fun h60 => ?_)
            refine rn_iconst (v := (0 : Int32)) dX10_make_53 (by decide) ?_
            exact rn_iret dX10_make_54 rfl rfl (rq_in ⟨hS57, (0 : Int32), rfl, (rg_w rk_0 (by decide) (by decide)), fk58⟩)
          · have ch51 := cv_nlt h51
            have r61 : Rg (0) (2147483647) x5_ := rf_ley ch51 rk_0 (rg_any x5_) (by decide)
            refine rn_iload_n (i := 0) dX10_in_5 rfl rfl ?_
            refine rn_iload_n (i := 2) dX10_in_6 rfl rfl ?_
            refine rn_icmp_gt (tgt := 14) dX10_in_7 (by decide) (fun h62 => ?_) (fun h62 => ?_)
            · have ch62 := cv_lt h62
              have r63 : Rg (1481) (2147483647) x5_ := rf_lty ch62 rk_1480 r61 (by decide)
              refine rn_iconst (v := (0 : Int32)) dX10_in_14 (by decide) ?_
              refine rn_iret dX10_in_15 rfl rfl (rq_in ?_)
              refine rn_stk [.int (0 : Int32), .ref o0_] rfl ?_
              refine rn_if_ne (tgt := 45) dX10_make_38 (by decide) (fun h64 => (cx_ne (cv_ne h64) rk_0 rk_0 (by decide)).elim) (fun h64 => ?_)
              refine rn_iconst (v := (1 : Int32)) dX10_make_41 (by decide) ?_
              refine rn_goto (tgt := 46) dX10_make_42 (by decide) ?_
              refine rn_iconst (v := (1 : Int32)) dX10_make_46 (by decide) ?_
              refine rn_inV (d' := 0) (z' := 0) [.int (1 : Int32), .int (1 : Int32)] kl_SGModel_171 dX10_make_47 q1 hl3 rfl rfl rfl (Nat.le_of_ble_eq_true rfl) (Nat.le_of_ble_eq_true rfl) (Nat.le_of_ble_eq_true rfl) (Nat.le_of_ble_eq_true rfl) ?_
              refine rn_lv [(0, .ref o0_), (1, .int (1 : Int32)), (2, .int (1 : Int32))] rfl ?_
              refine rn_aload_n (i := 0) dX10_refuses_0 rfl rfl ?_
              refine rn_get q1 kg_SGModel_137 hl3 hx3 dX10_refuses_1 ?_
              refine rn_if_ne (tgt := 16) dX10_refuses_4 (by decide) (fun h65 => (cx_ne (cv_ne h65) rk_0 rk_0 (by decide)).elim) (fun h65 => ?_)
              refine rn_iload_n (i := 1) dX10_refuses_7 rfl rfl ?_
              refine rn_if_eq (tgt := 16) dX10_refuses_8 (by decide) (fun h66 => (cx_eq (cv_eq h66) rk_1 rk_0 (by decide)).elim) (fun h66 => ?_)
              refine rn_aload_n (i := 0) dX10_refuses_11 rfl rfl ?_
              refine rn_iload_n (i := 2) dX10_refuses_12 rfl rfl ?_
              refine rs_put q1 (kp_SGModel_137 _) hS3 hq1 hl3 hf3 hk_30 rfl rfl (tv_i (rg_w rk_1 (by decide) (by decide))) rfl rfl dX10_refuses_13 (fun w67 fs68 hS68 hl68 hf68 hx68 ho68 hn68 => ?_)
              have fk69 : fK1 4 S ws w67 := fk_put fk4 hS3.1 hq1 hl3 hl68 ho68 (by decide)
              refine rn_aload_n (i := 0) dX10_refuses_16 rfl rfl ?_
              refine rn_get q1 kg_SGModel_137 hl68 hx68 dX10_refuses_17 ?_
              refine rn_if_le (tgt := 27) dX10_refuses_20 (by decide) (fun h70 => (cx_le (cv_le h70) rk_1 rk_0 (by decide)).elim) (fun h70 => ?_)
              refine rn_iconst (v := (1 : Int32)) dX10_refuses_23 (by decide) ?_
              refine rn_goto (tgt := 28) dX10_refuses_24 (by decide) ?_
              refine rn_iret dX10_refuses_28 rfl rfl (rq_in ?_)
              refine rn_stk [.int (1 : Int32)] rfl ?_
              refine rn_if_eq (tgt := 55) dX10_make_50 (by decide) (fun h71 => (cx_eq (cv_eq h71) rk_1 rk_0 (by decide)).elim) (fun h71 => ?_)
              refine rn_iconst (v := (0 : Int32)) dX10_make_53 (by decide) ?_
              exact rn_iret dX10_make_54 rfl rfl (rq_in ⟨hS68, (0 : Int32), rfl, (rg_w rk_0 (by decide) (by decide)), fk69⟩)
            · have ch62 := cv_nlt h62
              have r72 : Rg (0) (1480) x5_ := rf_lex ch62 r61 rk_1480 (by decide)
              refine rn_iconst (v := (1 : Int32)) dX10_in_10 (by decide) ?_
              refine rn_goto (tgt := 15) dX10_in_11 (by decide) ?_
              refine rn_iret dX10_in_15 rfl rfl (rq_in ?_)
              refine rn_stk [.int (1 : Int32), .ref o0_] rfl ?_
              refine rn_if_ne (tgt := 45) dX10_make_38 (by decide) (fun h73 => ?_) (fun h73 => (cx_eq (cv_eq h73) rk_1 rk_0 (by decide)).elim)
              refine rn_iconst (v := (0 : Int32)) dX10_make_45 (by decide) ?_
              refine rn_iconst (v := (1 : Int32)) dX10_make_46 (by decide) ?_
              refine rn_inV (d' := 0) (z' := 0) [.int (0 : Int32), .int (1 : Int32)] kl_SGModel_171 dX10_make_47 q1 hl3 rfl rfl rfl (Nat.le_of_ble_eq_true rfl) (Nat.le_of_ble_eq_true rfl) (Nat.le_of_ble_eq_true rfl) (Nat.le_of_ble_eq_true rfl) ?_
              refine rn_lv [(0, .ref o0_), (1, .int (0 : Int32)), (2, .int (1 : Int32))] rfl ?_
              refine rn_aload_n (i := 0) dX10_refuses_0 rfl rfl ?_
              refine rn_get q1 kg_SGModel_137 hl3 hx3 dX10_refuses_1 ?_
              refine rn_if_ne (tgt := 16) dX10_refuses_4 (by decide) (fun h74 => (cx_ne (cv_ne h74) rk_0 rk_0 (by decide)).elim) (fun h74 => ?_)
              refine rn_iload_n (i := 1) dX10_refuses_7 rfl rfl ?_
              refine rn_if_eq (tgt := 16) dX10_refuses_8 (by decide) (fun h75 => ?_) (fun h75 => (cx_ne (cv_ne h75) rk_0 rk_0 (by decide)).elim)
              refine rn_aload_n (i := 0) dX10_refuses_16 rfl rfl ?_
              refine rn_get q1 kg_SGModel_137 hl3 hx3 dX10_refuses_17 ?_
              refine rn_if_le (tgt := 27) dX10_refuses_20 (by decide) (fun h76 => ?_) (fun h76 => (cx_lt (cv_nle h76) rk_0 rk_0 (by decide)).elim)
              refine rn_iconst (v := (0 : Int32)) dX10_refuses_27 (by decide) ?_
              refine rn_iret dX10_refuses_28 rfl rfl (rq_in ?_)
              refine rn_stk [.int (0 : Int32)] rfl ?_
              refine rn_if_eq (tgt := 55) dX10_make_50 (by decide) (fun h77 => ?_) (fun h77 => (cx_ne (cv_ne h77) rk_0 rk_0 (by decide)).elim)
              refine rn_aload_n (i := 0) dX10_make_55 rfl rfl ?_
              refine rn_iconst (v := (0 : Int32)) dX10_make_56 (by decide) ?_
              refine rn_ldc (v := (1157627904 : Int32)) wd_1297 dX10_make_57 ?_
              refine rn_bipush (v := (20 : Int32)) dX10_make_59 (by decide) ?_
              refine rn_iload dX10_make_61 rfl ?_
              refine rs_addD (20) (1500) rk_20 r72 dX10_make_63 (by decide) (fun v78 ev78 rv78 => ?_)
              refine rn_ior dX10_make_64 (rn_tn 0 (2147483647) (rg_or 31 2147483648 rfl rk_1157627904 rv78 (by decide)) (fun v79 rv79 => ?_))
              refine rn_callV (a := 0) (b := 0) [.int (0 : Int32), .int v79] kl_SGModel_148 dX10_make_65 q1 hl3 rfl (t_X10_putFour G S w2 hS3.1 o0_ m0_ (0 : Int32) (rg_w rk_0 (by decide) (by decide)) v79) rfl rfl (Nat.le_of_ble_eq_true rfl) (Nat.le_of_ble_eq_true rfl) (Nat.le_of_ble_eq_true rfl) (Nat.le_of_ble_eq_true rfl) (Nat.le_of_ble_eq_true rfl) (Nat.le_of_ble_eq_true rfl) (fun _ _ h => False.elim h) (fun v9 w80 h81 => ?_)
              obtain ⟨hT82, rfl, xah81⟩ := h81
              have hS82 := St.tr hS3 hT82 rfl
              have fk83 : fK1 4 S ws w80 := fk_fr fk4 hT82 rfl
              refine rn_stk [] rfl ?_
              refine rn_aload_n (i := 0) dX10_make_68 rfl rfl ?_
              refine rn_iconst (v := (4 : Int32)) dX10_make_69 (by decide) ?_
              refine rn_iconst (v := (0 : Int32)) dX10_make_70 (by decide) ?_
              refine rn_callV (a := 0) (b := 0) [.int (4 : Int32), .int (0 : Int32)] kl_SGModel_148 dX10_make_71 q1 (hT82.fr hq1 rfl hl3) rfl (t_X10_putFour G S w80 hS82.1 o0_ m0_ (4 : Int32) (rg_w rk_4 (by decide) (by decide)) (0 : Int32)) rfl rfl (Nat.le_of_ble_eq_true rfl) (Nat.le_of_ble_eq_true rfl) (Nat.le_of_ble_eq_true rfl) (Nat.le_of_ble_eq_true rfl) (Nat.le_of_ble_eq_true rfl) (Nat.le_of_ble_eq_true rfl) (fun _ _ h => False.elim h) (fun v9 w84 h85 => ?_)
              obtain ⟨hT86, rfl, xah85⟩ := h85
              have hS86 := St.tr hS82 hT86 rfl
              have fk87 : fK1 4 S ws w84 := fk_fr fk83 hT86 rfl
              refine rn_stk [] rfl ?_
              refine rn_aload_n (i := 0) dX10_make_74 rfl rfl ?_
              obtain ⟨o88, hx88, m88⟩ := fs_r hf3 2 rfl
              refine rn_get q1 kg_SGModel_7 (hT86.fr hq1 rfl (hT82.fr hq1 rfl hl3)) hx88 dX10_make_75 ?_
              refine rn_bipush (v := (8 : Int32)) dX10_make_78 (by decide) ?_
              refine rn_iload dX10_make_80 rfl ?_
              obtain ⟨q89, f89, hq89, hl89, hf89⟩ := ts_ia hS86.1 m88 hk_33
              refine rs_iast q89 hS86 hq89 hl89 hf89 hk_33 rfl rfl rk_8 (by decide) (by decide) r49 dX10_make_82 (fun w90 f91 hS91 hl91 hf91 hu91 hn91 => ?_)
              have fk92 : fK1 4 S ws w90 := fk_ne fk87 hn91 hq89 rfl
              refine rn_aload_n (i := 0) dX10_make_83 rfl rfl ?_
              refine rn_get q1 kg_SGModel_7 ((hn91 _ (ts_ne hq89 hq1 rfl)).trans (hT86.fr hq1 rfl (hT82.fr hq1 rfl hl3))) hx88 dX10_make_84 ?_
              refine rn_bipush (v := (9 : Int32)) dX10_make_87 (by decide) ?_
              refine rn_iload_n (i := 3) dX10_make_89 rfl rfl ?_
              refine rs_iast q89 hS91 hq89 hl91 hf91 hk_33 rfl rfl rk_9 (by decide) (by decide) r26 dX10_make_90 (fun w93 f94 hS94 hl94 hf94 hu94 hn94 => ?_)
              have fk95 : fK1 4 S ws w93 := fk_ne fk92 hn94 hq89 rfl
              refine rn_aload_n (i := 0) dX10_make_91 rfl rfl ?_
              refine rn_bipush (v := (12 : Int32)) dX10_make_92 (by decide) ?_
              refine rn_iload_n (i := 1) dX10_make_94 rfl rfl ?_
              refine rn_callV (a := 0) (b := 0) [.int (12 : Int32), .int x1_] kl_SGModel_148 dX10_make_95 q1 ((hn94 _ (ts_ne hq89 hq1 rfl)).trans ((hn91 _ (ts_ne hq89 hq1 rfl)).trans (hT86.fr hq1 rfl (hT82.fr hq1 rfl hl3)))) rfl (t_X10_putFour G S w93 hS94.1 o0_ m0_ (12 : Int32) (rg_w rk_12 (by decide) (by decide)) x1_) rfl rfl (Nat.le_of_ble_eq_true rfl) (Nat.le_of_ble_eq_true rfl) (Nat.le_of_ble_eq_true rfl) (Nat.le_of_ble_eq_true rfl) (Nat.le_of_ble_eq_true rfl) (Nat.le_of_ble_eq_true rfl) (fun _ _ h => False.elim h) (fun v9 w96 h97 => ?_)
              obtain ⟨hT98, rfl, xah97⟩ := h97
              have hS98 := St.tr hS94 hT98 rfl
              have fk99 : fK1 4 S ws w96 := fk_fr fk95 hT98 rfl
              refine rn_stk [] rfl ?_
              refine rn_aload_n (i := 0) dX10_make_98 rfl rfl ?_
              refine rn_bipush (v := (16 : Int32)) dX10_make_99 (by decide) ?_
              refine rn_iload_n (i := 2) dX10_make_101 rfl rfl ?_
              refine rn_callV (a := 0) (b := 0) [.int (16 : Int32), .int x2_] kl_SGModel_148 dX10_make_102 q1 (hT98.fr hq1 rfl ((hn94 _ (ts_ne hq89 hq1 rfl)).trans ((hn91 _ (ts_ne hq89 hq1 rfl)).trans (hT86.fr hq1 rfl (hT82.fr hq1 rfl hl3))))) rfl (t_X10_putFour G S w96 hS98.1 o0_ m0_ (16 : Int32) (rg_w rk_16 (by decide) (by decide)) x2_) rfl rfl (Nat.le_of_ble_eq_true rfl) (Nat.le_of_ble_eq_true rfl) (Nat.le_of_ble_eq_true rfl) (Nat.le_of_ble_eq_true rfl) (Nat.le_of_ble_eq_true rfl) (Nat.le_of_ble_eq_true rfl) (fun _ _ h => False.elim h) (fun v9 w100 h101 => ?_)
              obtain ⟨hT102, rfl, xah101⟩ := h101
              have hS102 := St.tr hS98 hT102 rfl
              have fk103 : fK1 4 S ws w100 := fk_fr fk99 hT102 rfl
              refine rn_stk [] rfl ?_
              refine rn_iconst (v := (0 : Int32)) dX10_make_105 (by decide) ?_
              refine rn_istore dX10_make_106 (by decide) [(0, .ref o0_), (1, .int x1_), (2, .int x2_), (3, .int x3_), (4, .int x4_), (5, .int x5_), (6, .int x6_), (7, .int (0 : Int32))] rfl ?_
              have LP105 : ∀ (n : Nat) (w106 : va_W) (x104 : Int32), St G S [33] w100 S w106 → Rg (0) (1480) x104 → (1480 - x104.toInt).toNat = n → Rn G mX10_make 3 66 0 0 108 [(0, .ref o0_), (1, .int x1_), (2, .int x2_), (3, .int x3_), (4, .int x4_), (5, .int x5_), (6, .int x6_), (7, .int x104)] [] w106 (q_t_X10_make G S ws ) := by
                intro n
                induction n using Nat.strongRecOn with
                | _ n ih =>
                  intro w106 x104 hT107 r108 hm109
                  have fk110 : fK1 4 S ws w106 := fk_fr fk103 hT107 rfl
                  refine rn_iload dX10_make_108 rfl ?_
                  refine rn_iload dX10_make_110 rfl ?_
                  refine rn_icmp_ge (tgt := 140) dX10_make_112 (by decide) (fun h111 => ?_) (fun h111 => ?_)
                  · have ch111 := cv_le h111
                    have hS112 := St.tr hS102 hT107 rfl
                    refine rn_aload_n (i := 0) dX10_make_140 rfl rfl ?_
                    refine rn_iconst (v := (0 : Int32)) dX10_make_141 (by decide) ?_
                    refine rn_callV (a := 0) (b := 0) [.int (0 : Int32)] kl_SGModel_184 dX10_make_142 q1 (hT107.fr hq1 rfl (hT102.fr hq1 rfl (hT98.fr hq1 rfl ((hn94 _ (ts_ne hq89 hq1 rfl)).trans ((hn91 _ (ts_ne hq89 hq1 rfl)).trans (hT86.fr hq1 rfl (hT82.fr hq1 rfl hl3))))))) rfl (t_X10_setSum G S w106 hS112.1 o0_ m0_ (0 : Int32) (rg_w rk_0 (by decide) (by decide))) rfl rfl (Nat.le_of_ble_eq_true rfl) (Nat.le_of_ble_eq_true rfl) (Nat.le_of_ble_eq_true rfl) (Nat.le_of_ble_eq_true rfl) (Nat.le_of_ble_eq_true rfl) (Nat.le_of_ble_eq_true rfl) (fun _ _ h => False.elim h) (fun v9 w113 h114 => ?_)
                    obtain ⟨hT115, rfl, xah114⟩ := h114
                    have hS115 := St.tr hS112 hT115 rfl
                    have fk116 : fK1 4 S ws w113 := fk_fr fk110 hT115 rfl
                    refine rn_stk [] rfl ?_
                    refine rn_aload_n (i := 0) dX10_make_145 rfl rfl ?_
                    refine rn_bipush (v := (20 : Int32)) dX10_make_146 (by decide) ?_
                    refine rn_iload dX10_make_148 rfl ?_
                    refine rs_addD (20) (1500) rk_20 r72 dX10_make_150 (by decide) (fun v117 ev117 rv117 => ?_)
                    refine rs_put q1 (kp_SGModel_168 _) hS115 hq1 (hT115.fr hq1 rfl (hT107.fr hq1 rfl (hT102.fr hq1 rfl (hT98.fr hq1 rfl ((hn94 _ (ts_ne hq89 hq1 rfl)).trans ((hn91 _ (ts_ne hq89 hq1 rfl)).trans (hT86.fr hq1 rfl (hT82.fr hq1 rfl hl3)))))))) hf3 hk_30 rfl rfl (tv_i (rg_w rv117 (by decide) (by decide))) rfl rfl dX10_make_151 (fun w118 fs119 hS119 hl119 hf119 hx119 ho119 hn119 => ?_)
                    have fk120 : fK1 4 S ws w118 := fk_put fk116 hS115.1 hq1 (hT115.fr hq1 rfl (hT107.fr hq1 rfl (hT102.fr hq1 rfl (hT98.fr hq1 rfl ((hn94 _ (ts_ne hq89 hq1 rfl)).trans ((hn91 _ (ts_ne hq89 hq1 rfl)).trans (hT86.fr hq1 rfl (hT82.fr hq1 rfl hl3)))))))) hl119 ho119 (by decide)
                    refine rn_aload_n (i := 0) dX10_make_154 rfl rfl ?_
                    refine rn_get q1 kg_SGModel_168 hl119 hx119 dX10_make_155 ?_
                    exact rn_iret dX10_make_158 rfl rfl (rq_in ⟨hS119, v117, rfl, (rg_w rv117 (by decide) (by decide)), fk120⟩)
                  · have ch111 := cv_nle h111
                    have r121 : Rg (0) (1479) x104 := rf_ltx ch111 r108 r72 (by decide)
                    have r122 : Rg (1) (1480) x5_ := rf_lty ch111 r108 r72 (by decide)
                    refine rn_aload_n (i := 0) dX10_make_115 rfl rfl ?_
                    refine rn_get q1 kg_SGModel_7 (hT107.fr hq1 rfl (hT102.fr hq1 rfl (hT98.fr hq1 rfl ((hn94 _ (ts_ne hq89 hq1 rfl)).trans ((hn91 _ (ts_ne hq89 hq1 rfl)).trans (hT86.fr hq1 rfl (hT82.fr hq1 rfl hl3))))))) hx88 dX10_make_116 ?_
                    refine rn_bipush (v := (20 : Int32)) dX10_make_119 (by decide) ?_
                    refine rn_iload dX10_make_121 rfl ?_
                    refine rs_addD (20) (1499) rk_20 r121 dX10_make_123 (by decide) (fun v123 ev123 rv123 => ?_)
                    refine rn_iload dX10_make_124 rfl ?_
                    refine rn_iload dX10_make_126 rfl ?_
                    refine rn_iadd dX10_make_128 (rn_nmA (fun v124 rv124 => ?_))
                    refine rn_sipush (v := (255 : Int32)) dX10_make_129 (by decide) ?_
                    refine rn_iand dX10_make_132 (rn_tn 0 (255) (rg_andr rk_255 (by decide)) (fun v125 rv125 => ?_))
                    obtain ⟨q126, f126, hq126, hl126, hf126⟩ := ts_ia hT107.1 m88 hk_33
                    refine rs_iast q126 hT107 hq126 hl126 hf126 hk_33 rfl rfl rv123 (by decide) (by decide) rv125 dX10_make_133 (fun w127 f128 hS128 hl128 hf128 hu128 hn128 => ?_)
                    have fk129 : fK1 4 S ws w127 := fk_ne fk110 hn128 hq126 rfl
                    refine rs_iinc (1) (1480) dX10_make_134 rfl (by decide) r121 rk_1 (by decide) (fun v130 => [(0, .ref o0_), (1, .int x1_), (2, .int x2_), (3, .int x3_), (4, .int x4_), (5, .int x5_), (6, .int x6_), (7, .int v130)]) (fun _ => rfl) (fun v130 ev130 rv130 => ?_)
                    refine rn_goto (tgt := 108) dX10_make_137 (by decide) ?_
                    refine rn_lv [(0, .ref o0_), (1, .int x1_), (2, .int x2_), (3, .int x3_), (4, .int x4_), (5, .int x5_), (6, .int x6_), (7, .int v130)] rfl ?_
                    exact ih _ (lp_inc hm109 ev130 rv130 (by decide)) w127 v130 hS128 (rg_w rv130 (by decide) (by decide)) rfl
              exact LP105 _ w100 (0 : Int32) (St.rf hS102.1) (rg_w rk_0 (by decide) (by decide)) rfl
