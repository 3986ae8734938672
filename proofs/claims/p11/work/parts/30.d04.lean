abbrev q_t_X10_meant (G : rn_G) (S : ts_S) (ws : va_W) : rn_R → va_W → Prop := rQ (fun v w => St G S [30] ws S w ∧ (v = none ∧ fK1 9 S ws w)) (fun E w => False)
set_option maxRecDepth 20000 in
set_option maxHeartbeats 4000000 in
theorem t_X10_meant (G : rn_G) (S : ts_S) (ws : va_W) (hW : ts_W G S ws) (o0_ : Nat) (m0_ : (o0_, 30) ∈ S) (x1_ : Int32) (x2_ : Int32) (x3_ : Int32) : Rn G mX10_meant 1 22 0 0 0 (lv_args 0 [.ref o0_, .int x1_, .int x2_, .int x3_]) [] ws (q_t_X10_meant G S ws ) := by
  have hS0 : St G S [30] ws S ws := St.rf hW
  have fk0 : fK1 9 S ws ws := fun v h => h
  refine rn_lv [(0, .ref o0_), (1, .int x1_), (2, .int x2_), (3, .int x3_)] rfl ?_
  refine rn_aload_n (i := 0) dX10_meant_0 rfl rfl ?_
  refine rn_iconst (v := (0 : Int32)) dX10_meant_1 (by decide) ?_
  obtain ⟨q1, fs1, hq1, hl1, hf1⟩ := ts_obj hS0.1 m0_ hk_30
  refine rs_put q1 (kp_SGModel_137 _) hS0 hq1 hl1 hf1 hk_30 rfl rfl (tv_i (rg_w rk_0 (by decide) (by decide))) rfl rfl dX10_meant_2 (fun w2 fs3 hS3 hl3 hf3 hx3 ho3 hn3 => ?_)
  have fk4 : fK1 9 S ws w2 := fk_put fk0 hS0.1 hq1 hl1 hl3 ho3 (by decide)
  refine rn_aload_n (i := 0) dX10_meant_5 rfl rfl ?_
  refine rn_iload_n (i := 1) dX10_meant_6 rfl rfl ?_
  refine rn_iconst (v := (0 : Int32)) dX10_meant_7 (by decide) ?_
  refine rn_sipush (v := (255 : Int32)) dX10_meant_8 (by decide) ?_
  refine rn_inS (d' := 0) (z' := 0) [.int x1_, .int (0 : Int32), .int (255 : Int32)] kl_SGModel_179 dX10_meant_11 rfl rfl (Nat.le_of_ble_eq_true rfl) (Nat.le_of_ble_eq_true rfl) (Nat.le_of_ble_eq_true rfl) (Nat.le_of_ble_eq_true rfl) ?_
  refine rn_lv [(0, .int x1_), (1, .int (0 : Int32)), (2, .int (255 : Int32))] rfl ?_
  refine rn_iload_n (i := 0) dX10_in_0 rfl rfl ?_
  refine rn_iload_n (i := 1) dX10_in_1 rfl rfl ?_
  refine rn_icmp_lt (tgt := 14) dX10_in_2 (by decide) (fun h5 => ?_) (fun h5 => ?_)
  · have ch5 := cv_lt h5
    have r6 : Rg (-2147483648) (-1) x1_ := rf_ltx ch5 (rg_any x1_) rk_0 (by decide)
    refine rn_iconst (v := (0 : Int32)) dX10_in_14 (by decide) ?_
    refine rn_iret dX10_in_15 rfl rfl (rq_in ?_)
    refine rn_stk [.int (0 : Int32), .ref o0_] rfl ?_
    refine rn_if_eq (tgt := 36) dX10_meant_14 (by decide) (fun h7 => ?_) (fun h7 => (cx_ne (cv_ne h7) rk_0 rk_0 (by decide)).elim)
    refine rn_iconst (v := (1 : Int32)) dX10_meant_36 (by decide) ?_
    refine rn_goto (tgt := 41) dX10_meant_37 (by decide) ?_
    refine rn_iconst (v := (1 : Int32)) dX10_meant_41 (by decide) ?_
    refine rn_inV (d' := 0) (z' := 0) [.int (1 : Int32), .int (1 : Int32)] kl_SGModel_171 dX10_meant_42 q1 hl3 rfl rfl rfl (Nat.le_of_ble_eq_true rfl) (Nat.le_of_ble_eq_true rfl) (Nat.le_of_ble_eq_true rfl) (Nat.le_of_ble_eq_true rfl) ?_
    refine rn_lv [(0, .ref o0_), (1, .int (1 : Int32)), (2, .int (1 : Int32))] rfl ?_
    refine rn_aload_n (i := 0) dX10_refuses_0 rfl rfl ?_
    refine rn_get q1 kg_SGModel_137 hl3 hx3 dX10_refuses_1 ?_
    refine rn_if_ne (tgt := 16) dX10_refuses_4 (by decide) (fun h8 => (cx_ne (cv_ne h8) rk_0 rk_0 (by decide)).elim) (fun h8 => ?_)
    refine rn_iload_n (i := 1) dX10_refuses_7 rfl rfl ?_
    refine rn_if_eq (tgt := 16) dX10_refuses_8 (by decide) (fun h9 => (cx_eq (cv_eq h9) rk_1 rk_0 (by decide)).elim) (fun h9 => ?_)
    refine rn_aload_n (i := 0) dX10_refuses_11 rfl rfl ?_
    refine rn_iload_n (i := 2) dX10_refuses_12 rfl rfl ?_
    refine rs_put q1 (kp_SGModel_137 _) hS3 hq1 hl3 hf3 hk_30 rfl rfl (tv_i (rg_w rk_1 (by decide) (by decide))) rfl rfl dX10_refuses_13 (fun w10 fs11 hS11 hl11 hf11 hx11 ho11 hn11 => ?_)
    have fk12 : fK1 9 S ws w10 := fk_put fk4 hS3.1 hq1 hl3 hl11 ho11 (by decide)
    refine rn_aload_n (i := 0) dX10_refuses_16 rfl rfl ?_
    refine rn_get q1 kg_SGModel_137 hl11 hx11 dX10_refuses_17 ?_
    refine rn_if_le (tgt := 27) dX10_refuses_20 (by decide) (fun h13 => (cx_le (cv_le h13) rk_1 rk_0 (by decide)).elim) (fun h13 => ?_)
    refine rn_iconst (v := (1 : Int32)) dX10_refuses_23 (by decide) ?_
    refine rn_goto (tgt := 28) dX10_refuses_24 (by decide) ?_
    refine rn_iret dX10_refuses_28 rfl rfl (rq_in ?_)
    refine rn_stk [.int (1 : Int32)] rfl ?_
    refine rn_if_ne (tgt := 63) dX10_meant_45 (by decide) (fun h14 => ?_) (fun h14 => (cx_eq (cv_eq h14) rk_1 rk_0 (by decide)).elim)
    exact rn_vret dX10_meant_63 rfl (rq_in ⟨hS11, rfl, fk12⟩)
  · have ch5 := cv_nlt h5
    have r15 : Rg (0) (2147483647) x1_ := rf_ley ch5 rk_0 (rg_any x1_) (by decide)
    refine rn_iload_n (i := 0) dX10_in_5 rfl rfl ?_
    refine rn_iload_n (i := 2) dX10_in_6 rfl rfl ?_
    refine rn_icmp_gt (tgt := 14) dX10_in_7 (by decide) (fun h16 => ?_) (fun h16 => ?_)
    · have ch16 := cv_lt h16
      have r17 : Rg (256) (2147483647) x1_ := rf_lty ch16 rk_255 r15 (by decide)
      refine rn_iconst (v := (0 : Int32)) dX10_in_14 (by decide) ?_
      refine rn_iret dX10_in_15 rfl rfl (rq_in ?_)
      refine rn_stk [.int (0 : Int32), .ref o0_] rfl ?_
      refine rn_if_eq (tgt := 36) dX10_meant_14 (by decide) (fun h18 => ?_) (fun h18 => (cx_ne (cv_ne h18) rk_0 rk_0 (by decide)).elim)
      refine rn_iconst (v := (1 : Int32)) dX10_meant_36 (by decide) ?_
      refine rn_goto (tgt := 41) dX10_meant_37 (by decide) ?_
      refine rn_iconst (v := (1 : Int32)) dX10_meant_41 (by decide) ?_
      refine rn_inV (d' := 0) (z' := 0) [.int (1 : Int32), .int (1 : Int32)] kl_SGModel_171 dX10_meant_42 q1 hl3 rfl rfl rfl (Nat.le_of_ble_eq_true rfl) (Nat.le_of_ble_eq_true rfl) (Nat.le_of_ble_eq_true rfl) (Nat.le_of_ble_eq_true rfl) ?_
      refine rn_lv [(0, .ref o0_), (1, .int (1 : Int32)), (2, .int (1 : Int32))] rfl ?_
      refine rn_aload_n (i := 0) dX10_refuses_0 rfl rfl ?_
      refine rn_get q1 kg_SGModel_137 hl3 hx3 dX10_refuses_1 ?_
      refine rn_if_ne (tgt := 16) dX10_refuses_4 (by decide) (fun h19 => (cx_ne (cv_ne h19) rk_0 rk_0 (by decide)).elim) (fun h19 => ?_)
      refine rn_iload_n (i := 1) dX10_refuses_7 rfl rfl ?_
      refine rn_if_eq (tgt := 16) dX10_refuses_8 (by decide) (fun h20 => (cx_eq (cv_eq h20) rk_1 rk_0 (by decide)).elim) (fun h20 => ?_)
      refine rn_aload_n (i := 0) dX10_refuses_11 rfl rfl ?_
      refine rn_iload_n (i := 2) dX10_refuses_12 rfl rfl ?_
      refine rs_put q1 (kp_SGModel_137 _) hS3 hq1 hl3 hf3 hk_30 rfl rfl (tv_i (rg_w rk_1 (by decide) (by decide))) rfl rfl dX10_refuses_13 (fun w21 fs22 hS22 hl22 hf22 hx22 ho22 hn22 => ?_)
      have fk23 : fK1 9 S ws w21 := fk_put fk4 hS3.1 hq1 hl3 hl22 ho22 (by decide)
      refine rn_aload_n (i := 0) dX10_refuses_16 rfl rfl ?_
      refine rn_get q1 kg_SGModel_137 hl22 hx22 dX10_refuses_17 ?_
      refine rn_if_le (tgt := 27) dX10_refuses_20 (by decide) (fun h24 => (cx_le (cv_le h24) rk_1 rk_0 (by decide)).elim) (fun h24 => ?_)
      refine rn_iconst (v := (1 : Int32)) dX10_refuses_23 (by decide) ?_
      refine rn_goto (tgt := 28) dX10_refuses_24 (by decide) ?_
      refine rn_iret dX10_refuses_28 rfl rfl (rq_in ?_)
      refine rn_stk [.int (1 : Int32)] rfl ?_
      refine rn_if_ne (tgt := 63) dX10_meant_45 (by decide) (fun h25 => ?_) (fun h25 => (cx_eq (cv_eq h25) rk_1 rk_0 (by decide)).elim)
      exact rn_vret dX10_meant_63 rfl (rq_in ⟨hS22, rfl, fk23⟩)
    · have ch16 := cv_nlt h16
      have r26 : Rg (0) (255) x1_ := rf_lex ch16 r15 rk_255 (by decide)
      refine rn_iconst (v := (1 : Int32)) dX10_in_10 (by decide) ?_
      refine rn_goto (tgt := 15) dX10_in_11 (by decide) ?_
      refine rn_iret dX10_in_15 rfl rfl (rq_in ?_)
      refine rn_stk [.int (1 : Int32), .ref o0_] rfl ?_
      refine rn_if_eq (tgt := 36) dX10_meant_14 (by decide) (fun h27 => (cx_eq (cv_eq h27) rk_1 rk_0 (by decide)).elim) (fun h27 => ?_)
      refine rn_iload_n (i := 3) dX10_meant_17 rfl rfl ?_
      refine rn_iconst (v := (0 : Int32)) dX10_meant_18 (by decide) ?_
      refine rn_ldc (v := (65535 : Int32)) wd_1093 dX10_meant_19 ?_
      refine rn_inS (d' := 0) (z' := 0) [.int x3_, .int (0 : Int32), .int (65535 : Int32)] kl_SGModel_179 dX10_meant_21 rfl rfl (Nat.le_of_ble_eq_true rfl) (Nat.le_of_ble_eq_true rfl) (Nat.le_of_ble_eq_true rfl) (Nat.le_of_ble_eq_true rfl) ?_
      refine rn_lv [(0, .int x3_), (1, .int (0 : Int32)), (2, .int (65535 : Int32))] rfl ?_
      refine rn_iload_n (i := 0) dX10_in_0 rfl rfl ?_
      refine rn_iload_n (i := 1) dX10_in_1 rfl rfl ?_
      refine rn_icmp_lt (tgt := 14) dX10_in_2 (by decide) (fun h28 => ?_) (fun h28 => ?_)
      · have ch28 := cv_lt h28
        have r29 : Rg (-2147483648) (-1) x3_ := rf_ltx ch28 (rg_any x3_) rk_0 (by decide)
        refine rn_iconst (v := (0 : Int32)) dX10_in_14 (by decide) ?_
        refine rn_iret dX10_in_15 rfl rfl (rq_in ?_)
        refine rn_stk [.int (0 : Int32), .ref o0_] rfl ?_
        refine rn_if_eq (tgt := 36) dX10_meant_24 (by decide) (fun h30 => ?_) (fun h30 => (cx_ne (cv_ne h30) rk_0 rk_0 (by decide)).elim)
        refine rn_iconst (v := (1 : Int32)) dX10_meant_36 (by decide) ?_
        refine rn_goto (tgt := 41) dX10_meant_37 (by decide) ?_
        refine rn_iconst (v := (1 : Int32)) dX10_meant_41 (by decide) ?_
        refine rn_inV (d' := 0) (z' := 0) [.int (1 : Int32), .int (1 : Int32)] kl_SGModel_171 dX10_meant_42 q1 hl3 rfl rfl rfl (Nat.le_of_ble_eq_true rfl) (Nat.le_of_ble_eq_true rfl) (Nat.le_of_ble_eq_true rfl) (Nat.le_of_ble_eq_true rfl) ?_
        refine rn_lv [(0, .ref o0_), (1, .int (1 : Int32)), (2, .int (1 : Int32))] rfl ?_
        refine rn_aload_n (i := 0) dX10_refuses_0 rfl rfl ?_
        refine rn_get q1 kg_SGModel_137 hl3 hx3 dX10_refuses_1 ?_
        refine rn_if_ne (tgt := 16) dX10_refuses_4 (by decide) (fun h31 => (cx_ne (cv_ne h31) rk_0 rk_0 (by decide)).elim) (fun h31 => ?_)
        refine rn_iload_n (i := 1) dX10_refuses_7 rfl rfl ?_
        refine rn_if_eq (tgt := 16) dX10_refuses_8 (by decide) (fun h32 => (cx_eq (cv_eq h32) rk_1 rk_0 (by decide)).elim) (fun h32 => ?_)
        refine rn_aload_n (i := 0) dX10_refuses_11 rfl rfl ?_
        refine rn_iload_n (i := 2) dX10_refuses_12 rfl rfl ?_
        refine rs_put q1 (kp_SGModel_137 _) hS3 hq1 hl3 hf3 hk_30 rfl rfl (tv_i (rg_w rk_1 (by decide) (by decide))) rfl rfl dX10_refuses_13 (fun w33 fs34 hS34 hl34 hf34 hx34 ho34 hn34 => ?_)
        have fk35 : fK1 9 S ws w33 := fk_put fk4 hS3.1 hq1 hl3 hl34 ho34 (by decide)
        refine rn_aload_n (i := 0) dX10_refuses_16 rfl rfl ?_
        refine rn_get q1 kg_SGModel_137 hl34 hx34 dX10_refuses_17 ?_
        refine rn_if_le (tgt := 27) dX10_refuses_20 (by decide) (fun h36 => (cx_le (cv_le h36) rk_1 rk_0 (by decide)).elim) (fun h36 => ?_)
        refine rn_iconst (v := (1 : Int32)) dX10_refuses_23 (by decide) ?_
        refine rn_goto (tgt := 28) dX10_refuses_24 (by decide) ?_
        refine rn_iret dX10_refuses_28 rfl rfl (rq_in ?_)
        refine rn_stk [.int (1 : Int32)] rfl ?_
        refine rn_if_ne (tgt := 63) dX10_meant_45 (by decide) (fun h37 => ?_) (fun h37 => (cx_eq (cv_eq h37) rk_1 rk_0 (by decide)).elim)
        exact rn_vret dX10_meant_63 rfl (rq_in ⟨hS34, rfl, fk35⟩)
      · have ch28 := cv_nlt h28
        have r38 : Rg (0) (2147483647) x3_ := rf_ley ch28 rk_0 (rg_any x3_) (by decide)
        refine rn_iload_n (i := 0) dX10_in_5 rfl rfl ?_
        refine rn_iload_n (i := 2) dX10_in_6 rfl rfl ?_
        refine rn_icmp_gt (tgt := 14) dX10_in_7 (by decide) (fun h39 => ?_) (fun h39 => ?_)
        · have ch39 := cv_lt h39
          have r40 : Rg (65536) (2147483647) x3_ := rf_lty ch39 rk_65535 r38 (by decide)
          refine rn_iconst (v := (0 : Int32)) dX10_in_14 (by decide) ?_
          refine rn_iret dX10_in_15 rfl rfl (rq_in ?_)
          refine rn_stk [.int (0 : Int32), .ref o0_] rfl ?_
          refine rn_if_eq (tgt := 36) dX10_meant_24 (by decide) (fun h41 => ?_) (fun h41 => (cx_ne (cv_ne h41) rk_0 rk_0 (by decide)).elim)
          refine rn_iconst (v := (1 : Int32)) dX10_meant_36 (by decide) ?_
          refine rn_goto (tgt := 41) dX10_meant_37 (by decide) ?_
          refine rn_iconst (v := (1 : Int32)) dX10_meant_41 (by decide) ?_
          refine rn_inV (d' := 0) (z' := 0) [.int (1 : Int32), .int (1 : Int32)] kl_SGModel_171 dX10_meant_42 q1 hl3 rfl rfl rfl (Nat.le_of_ble_eq_true rfl) (Nat.le_of_ble_eq_true rfl) (Nat.le_of_ble_eq_true rfl) (Nat.le_of_ble_eq_true rfl) ?_
          refine rn_lv [(0, .ref o0_), (1, .int (1 : Int32)), (2, .int (1 : Int32))] rfl ?_
          refine rn_aload_n (i := 0) dX10_refuses_0 rfl rfl ?_
          refine rn_get q1 kg_SGModel_137 hl3 hx3 dX10_refuses_1 ?_
          refine rn_if_ne (tgt := 16) dX10_refuses_4 (by decide) (fun h42 => (cx_ne (cv_ne h42) rk_0 rk_0 (by decide)).elim) (fun h42 => ?_)
          refine rn_iload_n (i := 1) dX10_refuses_7 rfl rfl ?_
          refine rn_if_eq (tgt := 16) dX10_refuses_8 (by decide) (fun h43 => (cx_eq (cv_eq h43) rk_1 rk_0 (by decide)).elim) (fun h43 => ?_)
          refine rn_aload_n (i := 0) dX10_refuses_11 rfl rfl ?_
          refine rn_iload_n (i := 2) dX10_refuses_12 rfl rfl ?_
          refine rs_put q1 (kp_SGModel_137 _) hS3 hq1 hl3 hf3 hk_30 rfl rfl (tv_i (rg_w rk_1 (by decide) (by decide))) rfl rfl dX10_refuses_13 (fun w44 fs45 hS45 hl45 hf45 hx45 ho45 hn45 => ?_)
          have fk46 : fK1 9 S ws w44 := fk_put fk4 hS3.1 hq1 hl3 hl45 ho45 (by decide)
          refine rn_aload_n (i := 0) dX10_refuses_16 rfl rfl ?_
          refine rn_get q1 kg_SGModel_137 hl45 hx45 dX10_refuses_17 ?_
          refine rn_if_le (tgt := 27) dX10_refuses_20 (by decide) (fun h47 => (cx_le (cv_le h47) rk_1 rk_0 (by decide)).elim) (fun h47 => ?_)
          refine rn_iconst (v := (1 : Int32)) dX10_refuses_23 (by decide) ?_
          refine rn_goto (tgt := 28) dX10_refuses_24 (by decide) ?_
          refine rn_iret dX10_refuses_28 rfl rfl (rq_in ?_)
          refine rn_stk [.int (1 : Int32)] rfl ?_
          refine rn_if_ne (tgt := 63) dX10_meant_45 (by decide) (fun h48 => ?_) (fun h48 => (cx_eq (cv_eq h48) rk_1 rk_0 (by decide)).elim)
          exact rn_vret dX10_meant_63 rfl (rq_in ⟨hS45, rfl, fk46⟩)
        · have ch39 := cv_nlt h39
          have r49 : Rg (0) (65535) x3_ := rf_lex ch39 r38 rk_65535 (by decide)
          refine rn_iconst (v := (1 : Int32)) dX10_in_10 (by decide) ?_
          refine rn_goto (tgt := 15) dX10_in_11 (by decide) ?_
          refine rn_iret dX10_in_15 rfl rfl (rq_in ?_)
          refine rn_stk [.int (1 : Int32), .ref o0_] rfl ?_
          refine rn_if_eq (tgt := 36) dX10_meant_24 (by decide) (fun h50 => (cx_eq (cv_eq h50) rk_1 rk_0 (by decide)).elim) (fun h50 => ?_)
          refine rn_iload_n (i := 2) dX10_meant_27 rfl rfl ?_
          refine rn_iconst (v := (0 : Int32)) dX10_meant_28 (by decide) ?_
          refine rn_iload_n (i := 3) dX10_meant_29 rfl rfl ?_
          refine rn_inS (d' := 0) (z' := 0) [.int x2_, .int (0 : Int32), .int x3_] kl_SGModel_179 dX10_meant_30 rfl rfl (Nat.le_of_ble_eq_true rfl) (Nat.le_of_ble_eq_true rfl) (Nat.le_of_ble_eq_true rfl) (Nat.le_of_ble_eq_true rfl) ?_
          refine rn_lv [(0, .int x2_), (1, .int (0 : Int32)), (2, .int x3_)] rfl ?_
          refine rn_iload_n (i := 0) dX10_in_0 rfl rfl ?_
          refine rn_iload_n (i := 1) dX10_in_1 rfl rfl ?_
          refine rn_icmp_lt (tgt := 14) dX10_in_2 (by decide) (fun h51 => ?_) (fun h51 => ?_)
          · have ch51 := cv_lt h51
            have r52 : Rg (-2147483648) (-1) x2_ := rf_ltx ch51 (rg_any x2_) rk_0 (by decide)
            refine rn_iconst (v := (0 : Int32)) dX10_in_14 (by decide) ?_
            refine rn_iret dX10_in_15 rfl rfl (rq_in ?_)
            refine rn_stk [.int (0 : Int32), .ref o0_] rfl ?_
            refine rn_if_ne (tgt := 40) dX10_meant_33 (by decide) (fun h53 => (cx_ne (cv_ne h53) rk_0 rk_0 (by decide)).elim) (fun h53 => ?_)
            refine rn_iconst (v := (1 : Int32)) dX10_meant_36 (by decide) ?_
            refine rn_goto (tgt := 41) dX10_meant_37 (by decide) ?_
            refine rn_iconst (v := (1 : Int32)) dX10_meant_41 (by decide) ?_
            refine rn_inV (d' := 0) (z' := 0) [.int (1 : Int32), .int (1 : Int32)] kl_SGModel_171 dX10_meant_42 q1 hl3 rfl rfl rfl (Nat.le_of_ble_eq_true rfl) (Nat.le_of_ble_eq_true rfl) (Nat.le_of_ble_eq_true rfl) (Nat.le_of_ble_eq_true rfl) ?_
            refine rn_lv [(0, .ref o0_), (1, .int (1 : Int32)), (2, .int (1 : Int32))] rfl ?_
            refine rn_aload_n (i := 0) dX10_refuses_0 rfl rfl ?_
            refine rn_get q1 kg_SGModel_137 hl3 hx3 dX10_refuses_1 ?_
            refine rn_if_ne (tgt := 16) dX10_refuses_4 (by decide) (fun h54 => (cx_ne (cv_ne h54) rk_0 rk_0 (by decide)).elim) (fun h54 => ?_)
            refine rn_iload_n (i := 1) dX10_refuses_7 rfl rfl ?_
            refine rn_if_eq (tgt := 16) dX10_refuses_8 (by decide) (fun h55 => (cx_eq (cv_eq h55) rk_1 rk_0 (by decide)).elim) (fun h55 => ?_)
            refine rn_aload_n (i := 0) dX10_refuses_11 rfl rfl ?_
            refine rn_iload_n (i := 2) dX10_refuses_12 rfl rfl ?_
            refine rs_put q1 (kp_SGModel_137 _) hS3 hq1 hl3 hf3 hk_30 rfl rfl (tv_i (rg_w rk_1 (by decide) (by decide))) rfl rfl dX10_refuses_13 (fun w56 fs57 hS57 hl57 hf57 hx57 ho57 hn57 => ?_)
            have fk58 : fK1 9 S ws w56 := fk_put fk4 hS3.1 hq1 hl3 hl57 ho57 (by decide)
            refine rn_aload_n (i := 0) dX10_refuses_16 rfl rfl ?_
            refine rn_get q1 kg_SGModel_137 hl57 hx57 dX10_refuses_17 ?_
            refine rn_if_le (tgt := 27) dX10_refuses_20 (by decide) (fun h59 => (cx_le (cv_le h59) rk_1 rk_0 (by decide)).elim) (fun h59 => ?_)
            refine rn_iconst (v := (1 : Int32)) dX10_refuses_23 (by decide) ?_
            refine rn_goto (tgt := 28) dX10_refuses_24 (by decide) ?_
            refine rn_iret dX10_refuses_28 rfl rfl (rq_in ?_)
            refine rn_stk [.int (1 : Int32)] rfl ?_
            refine rn_if_ne (tgt := 63) dX10_meant_45 (by decide) (fun h60 => ?_) (fun h60 => (cx_eq (cv_eq h60) rk_1 rk_0 (by decide)).elim)
            exact rn_vret dX10_meant_63 rfl (rq_in ⟨hS57, rfl, fk58⟩)
          · have ch51 := cv_nlt h51
            have r61 : Rg (0) (2147483647) x2_ := rf_ley ch51 rk_0 (rg_any x2_) (by decide)
            refine rn_iload_n (i := 0) dX10_in_5 rfl rfl ?_
            refine rn_iload_n (i := 2) dX10_in_6 rfl rfl ?_
            refine rn_icmp_gt (tgt := 14) dX10_in_7 (by decide) (fun h62 => ?_) (fun h62 => ?_)
            · have ch62 := cv_lt h62
              have r63 : Rg (1) (2147483647) x2_ := rf_lty ch62 r49 r61 (by decide)
              refine rn_iconst (v := (0 : Int32)) dX10_in_14 (by decide) ?_
              refine rn_iret dX10_in_15 rfl rfl (rq_in ?_)
              refine rn_stk [.int (0 : Int32), .ref o0_] rfl ?_
              refine rn_if_ne (tgt := 40) dX10_meant_33 (by decide) (fun h64 => (cx_ne (cv_ne h64) rk_0 rk_0 (by decide)).elim) (fun h64 => ?_)
              refine rn_iconst (v := (1 : Int32)) dX10_meant_36 (by decide) ?_
              refine rn_goto (tgt := 41) dX10_meant_37 (by decide) ?_
              refine rn_iconst (v := (1 : Int32)) dX10_meant_41 (by decide) ?_
              refine rn_inV (d' := 0) (z' := 0) [.int (1 : Int32), .int (1 : Int32)] kl_SGModel_171 dX10_meant_42 q1 hl3 rfl rfl rfl (Nat.le_of_ble_eq_true rfl) (Nat.le_of_ble_eq_true rfl) (Nat.le_of_ble_eq_true rfl) (Nat.le_of_ble_eq_true rfl) ?_
              refine rn_lv [(0, .ref o0_), (1, .int (1 : Int32)), (2, .int (1 : Int32))] rfl ?_
              refine rn_aload_n (i := 0) dX10_refuses_0 rfl rfl ?_
              refine rn_get q1 kg_SGModel_137 hl3 hx3 dX10_refuses_1 ?_
              refine rn_if_ne (tgt := 16) dX10_refuses_4 (by decide) (fun h65 => (cx_ne (cv_ne h65) rk_0 rk_0 (by decide)).elim) (fun h65 => ?_)
              refine rn_iload_n (i := 1) dX10_refuses_7 rfl rfl ?_
              refine rn_if_eq (tgt := 16) dX10_refuses_8 (by decide) (fun h66 => (cx_eq (cv_eq h66) rk_1 rk_0 (by decide)).elim) (fun h66 => ?_)
              refine rn_aload_n (i := 0) dX10_refuses_11 rfl rfl ?_
              refine rn_iload_n (i := 2) dX10_refuses_12 rfl rfl ?_
              refine rs_put q1 (kp_SGModel_137 _) hS3 hq1 hl3 hf3 hk_30 rfl rfl (tv_i (rg_w rk_1 (by decide) (by decide))) rfl rfl dX10_refuses_13 (fun w67 fs68 hS68 hl68 hf68 hx68 ho68 hn68 => ?_)
              have fk69 : fK1 9 S ws w67 := fk_put fk4 hS3.1 hq1 hl3 hl68 ho68 (by decide)
              refine rn_aload_n (i := 0) dX10_refuses_16 rfl rfl ?_
              refine rn_get q1 kg_SGModel_137 hl68 hx68 dX10_refuses_17 ?_
              refine rn_if_le (tgt := 27) dX10_refuses_20 (by decide) (fun h70 => (cx_le (cv_le h70) rk_1 rk_0 (by decide)).elim) (fun h70 => ?_)
              refine rn_iconst (v := (1 : Int32)) dX10_refuses_23 (by decide) ?_
              refine rn_goto (tgt := 28) dX10_refuses_24 (by decide) ?_
              refine rn_iret dX10_refuses_28 rfl rfl (rq_in ?_)
              refine rn_stk [.int (1 : Int32)] rfl ?_
              refine rn_if_ne (tgt := 63) dX10_meant_45 (by decide) (fun h71 => ?_) (fun h71 => (cx_eq (cv_eq h71) rk_1 rk_0 (by decide)).elim)
              exact rn_vret dX10_meant_63 rfl (rq_in ⟨hS68, rfl, fk69⟩)
            · have ch62 := cv_nlt h62
              have r72 : Rg (0) (65535) x2_ := rf_lex ch62 r61 r49 (by decide)
              refine rn_iconst (v := (1 : Int32)) dX10_in_10 (by decide) ?_
              refine rn_goto (tgt := 15) dX10_in_11 (by decide) ?_
              refine rn_iret dX10_in_15 rfl rfl (rq_in ?_)
              refine rn_stk [.int (1 : Int32), .ref o0_] rfl ?_
              refine rn_if_ne (tgt := 40) dX10_meant_33 (by decide) (fun h73 => ?_) (fun h73 => (cx_eq (cv_eq h73) rk_1 rk_0 (by decide)).elim)
              refine rn_iconst (v := (0 : Int32)) dX10_meant_40 (by decide) ?_
              refine rn_iconst (v := (1 : Int32)) dX10_meant_41 (by decide) ?_
              refine rn_inV (d' := 0) (z' := 0) [.int (0 : Int32), .int (1 : Int32)] kl_SGModel_171 dX10_meant_42 q1 hl3 rfl rfl rfl (Nat.le_of_ble_eq_true rfl) (Nat.le_of_ble_eq_true rfl) (Nat.le_of_ble_eq_true rfl) (Nat.le_of_ble_eq_true rfl) ?_
              refine rn_lv [(0, .ref o0_), (1, .int (0 : Int32)), (2, .int (1 : Int32))] rfl ?_
              refine rn_aload_n (i := 0) dX10_refuses_0 rfl rfl ?_
              refine rn_get q1 kg_SGModel_137 hl3 hx3 dX10_refuses_1 ?_
              refine rn_if_ne (tgt := 16) dX10_refuses_4 (by decide) (fun h74 => (cx_ne (cv_ne h74) rk_0 rk_0 (by decide)).elim) (fun h74 => ?_)
              refine rn_iload_n (i := 1) dX10_refuses_7 rfl rfl ?_
              refine rn_if_eq (tgt := 16) dX10_refuses_8 (by decide) (fun h75 => ?_) (fun h75 => (cx_ne (cv_ne h75) rk_0 rk_0 (by decide)).elim)
              refine rn_aload_n (i := 0) dX10_refuses_16 rfl rfl ?_
              refine rn_get q1 kg_SGModel_137 hl3 hx3 dX10_refuses_17 ?_
              refine rn_if_le (tgt := 27) dX10_refuses_20 (by decide) (fun h76 => ?_) (fun h76 => (cx_lt (cv_nle h76) rk_0 rk_0 (by decide)).elim)
              refine rn_iconst (v := (0 : Int32)) dX10_refuses_27 (by decide) ?_
              refine rn_iret dX10_refuses_28 rfl rfl (rq_in ?_)
              refine rn_stk [.int (0 : Int32)] rfl ?_
              refine rn_if_ne (tgt := 63) dX10_meant_45 (by decide) (fun h77 => (cx_ne (cv_ne h77) rk_0 rk_0 (by decide)).elim) (fun h77 => ?_)
              refine rn_aload_n (i := 0) dX10_meant_48 rfl rfl ?_
              refine rn_iload_n (i := 1) dX10_meant_49 rfl rfl ?_
              refine rs_put q1 (kp_SGModel_191 _) hS3 hq1 hl3 hf3 hk_30 rfl rfl (tv_i (rg_w r26 (by decide) (by decide))) rfl rfl dX10_meant_50 (fun w78 fs79 hS79 hl79 hf79 hx79 ho79 hn79 => ?_)
              have fk80 : fK1 9 S ws w78 := fk_put fk4 hS3.1 hq1 hl3 hl79 ho79 (by decide)
              refine rn_aload_n (i := 0) dX10_meant_53 rfl rfl ?_
              refine rn_iload_n (i := 2) dX10_meant_54 rfl rfl ?_
              refine rs_put q1 (kp_SGModel_194 _) hS79 hq1 hl79 hf79 hk_30 rfl rfl (tv_i (rg_w r72 (by decide) (by decide))) rfl rfl dX10_meant_55 (fun w81 fs82 hS82 hl82 hf82 hx82 ho82 hn82 => ?_)
              have fk83 : fK1 9 S ws w81 := fk_put fk80 hS79.1 hq1 hl79 hl82 ho82 (by decide)
              refine rn_aload_n (i := 0) dX10_meant_58 rfl rfl ?_
              refine rn_iload_n (i := 3) dX10_meant_59 rfl rfl ?_
              refine rs_put q1 (kp_SGModel_53 _) hS82 hq1 hl82 hf82 hk_30 rfl rfl (tv_i (rg_w r49 (by decide) (by decide))) rfl rfl dX10_meant_60 (fun w84 fs85 hS85 hl85 hf85 hx85 ho85 hn85 => ?_)
              have fk86 : fK1 9 S ws w84 := fk_put fk83 hS82.1 hq1 hl82 hl85 ho85 (by decide)
              exact rn_vret dX10_meant_63 rfl (rq_in ⟨hS85, rfl, fk86⟩)
abbrev q_t_X10_policy (G : rn_G) (S : ts_S) (ws : va_W) (x1_ x2_ x3_ x4_ x5_ x6_ : Int32) : rn_R → va_W → Prop := rQ (fun v w => St G S [30, 41, 42, 43, 44, 45, 46, 47, 48, 49] ws S w ∧ (∃ x : Int32, v = some (.int x) ∧ Rg (0) (24) x ∧ (∃ t u u' : Int32, cf S w 30 10 0 (.int t) ∧ cf S ws 30 10 9 (.int u) ∧ cf S w 30 10 9 (.int u') ∧ ((t = 0 ∧ pok x1_ x3_ x5_ x6_ ∧ u.toInt < 24 ∧ u'.toInt = u.toInt + 1 ∧ x = u') ∨ (t = 1 ∧ ¬ pok x1_ x3_ x5_ x6_ ∧ u' = u) ∨ (t = 2 ∧ pok x1_ x3_ x5_ x6_ ∧ 24 ≤ u.toInt ∧ u' = u))))) (fun E w => False)
set_option maxRecDepth 20000 in
set_option maxHeartbeats 4000000 in
theorem t_X10_policy (G : rn_G) (S : ts_S) (ws : va_W) (hW : ts_W G S ws) (o0_ : Nat) (m0_ : (o0_, 30) ∈ S) (x1_ : Int32) (x2_ : Int32) (x3_ : Int32) (x4_ : Int32) (x5_ : Int32) (x6_ : Int32) : Rn G mX10_policy 1 22 0 0 0 (lv_args 0 [.ref o0_, .int x1_, .int x2_, .int x3_, .int x4_, .int x5_, .int x6_]) [] ws (q_t_X10_policy G S ws x1_ x2_ x3_ x4_ x5_ x6_) := by
  have hS0 : St G S [30, 41, 42, 43, 44, 45, 46, 47, 48, 49] ws S ws := St.rf hW
  obtain ⟨q1, fs1, hq1, hl1, hf1⟩ := ts_obj hS0.1 m0_ hk_30
  obtain ⟨x2, hx2, rx2⟩ := fs_i hf1 9 rfl
  refine rn_lv [(0, .ref o0_), (1, .int x1_), (2, .int x2_), (3, .int x3_), (4, .int x4_), (5, .int x5_), (6, .int x6_)] rfl ?_
  refine rn_aload_n (i := 0) dX10_policy_0 rfl rfl ?_
  refine rn_iconst (v := (0 : Int32)) dX10_policy_1 (by decide) ?_
  refine rs_put q1 (kp_SGModel_137 _) hS0 hq1 hl1 hf1 hk_30 rfl rfl (tv_i (rg_w rk_0 (by decide) (by decide))) rfl rfl dX10_policy_2 (fun w3 fs4 hS4 hl4 hf4 hx4 ho4 hn4 => ?_)
  refine rn_aload_n (i := 0) dX10_policy_5 rfl rfl ?_
  refine rn_iload_n (i := 1) dX10_policy_6 rfl rfl ?_
  refine rn_iconst (v := (0 : Int32)) dX10_policy_7 (by decide) ?_
  refine rn_iconst (v := (1 : Int32)) dX10_policy_8 (by decide) ?_
  refine rn_inS (d' := 0) (z' := 0) [.int x1_, .int (0 : Int32), .int (1 : Int32)] kl_SGModel_179 dX10_policy_9 rfl rfl (Nat.le_of_ble_eq_true rfl) (Nat.le_of_ble_eq_true rfl) (Nat.le_of_ble_eq_true rfl) (Nat.le_of_ble_eq_true rfl) ?_
  refine rn_lv [(0, .int x1_), (1, .int (0 : Int32)), (2, .int (1 : Int32))] rfl ?_
  refine rn_iload_n (i := 0) dX10_in_0 rfl rfl ?_
  refine rn_iload_n (i := 1) dX10_in_1 rfl rfl ?_
  refine rn_icmp_lt (tgt := 14) dX10_in_2 (by decide) (fun h5 => ?_) (fun h5 => ?_)
  · have ch5 := cv_lt h5
    have r6 : Rg (-2147483648) (-1) x1_ := rf_ltx ch5 (rg_any x1_) rk_0 (by decide)
    refine rn_iconst (v := (0 : Int32)) dX10_in_14 (by decide) ?_
    refine rn_iret dX10_in_15 rfl rfl (rq_in ?_)
    refine rn_stk [.int (0 : Int32), .ref o0_] rfl ?_
    refine rn_if_eq (tgt := 47) dX10_policy_12 (by decide) (fun h7 => ?_) (fun h7 => (cx_ne (cv_ne h7) rk_0 rk_0 (by decide)).elim)
    refine rn_iconst (v := (1 : Int32)) dX10_policy_47 (by decide) ?_
    refine rn_goto (tgt := 52) dX10_policy_48 (by decide) ?_
    refine rn_iconst (v := (1 : Int32)) dX10_policy_52 (by decide) ?_
    refine rn_inV (d' := 0) (z' := 0) [.int (1 : Int32), .int (1 : Int32)] kl_SGModel_171 dX10_policy_53 q1 hl4 rfl rfl rfl (Nat.le_of_ble_eq_true rfl) (Nat.le_of_ble_eq_true rfl) (Nat.le_of_ble_eq_true rfl) (Nat.le_of_ble_eq_true rfl) ?_
    refine rn_lv [(0, .ref o0_), (1, .int (1 : Int32)), (2, .int (1 : Int32))] rfl ?_
    refine rn_aload_n (i := 0) dX10_refuses_0 rfl rfl ?_
    refine rn_get q1 kg_SGModel_137 hl4 hx4 dX10_refuses_1 ?_
    refine rn_if_ne (tgt := 16) dX10_refuses_4 (by decide) (fun h8 => (cx_ne (cv_ne h8) rk_0 rk_0 (by decide)).elim) (fun h8 => ?_)
    refine rn_iload_n (i := 1) dX10_refuses_7 rfl rfl ?_
    refine rn_if_eq (tgt := 16) dX10_refuses_8 (by decide) (fun h9 => (cx_eq (cv_eq h9) rk_1 rk_0 (by decide)).elim) (fun h9 => ?_)
    refine rn_aload_n (i := 0) dX10_refuses_11 rfl rfl ?_
    refine rn_iload_n (i := 2) dX10_refuses_12 rfl rfl ?_
    refine rs_put q1 (kp_SGModel_137 _) hS4 hq1 hl4 hf4 hk_30 rfl rfl (tv_i (rg_w rk_1 (by decide) (by decide))) rfl rfl dX10_refuses_13 (fun w10 fs11 hS11 hl11 hf11 hx11 ho11 hn11 => ?_)
    refine rn_aload_n (i := 0) dX10_refuses_16 rfl rfl ?_
    refine rn_get q1 kg_SGModel_137 hl11 hx11 dX10_refuses_17 ?_
    refine rn_if_le (tgt := 27) dX10_refuses_20 (by decide) (fun h12 => (cx_le (cv_le h12) rk_1 rk_0 (by decide)).elim) (fun h12 => ?_)
    refine rn_iconst (v := (1 : Int32)) dX10_refuses_23 (by decide) ?_
    refine rn_goto (tgt := 28) dX10_refuses_24 (by decide) ?_
    refine rn_iret dX10_refuses_28 rfl rfl (rq_in ?_)
    refine rn_stk [.int (1 : Int32)] rfl ?_
    refine rn_if_ne (tgt := 81) dX10_policy_56 (by decide) (fun h13 => ?_) (fun h13 => (cx_eq (cv_eq h13) rk_1 rk_0 (by decide)).elim)
    refine rn_iconst (v := (0 : Int32)) dX10_policy_81 (by decide) ?_
    exact rn_iret dX10_policy_82 rfl rfl (rq_in ⟨hS11, (0 : Int32), rfl, (rg_w rk_0 (by decide) (by decide)), ⟨(1 : Int32), x2, x2, ⟨q1, o0_, fs11, hq1, hl11, hx11⟩, ⟨q1, o0_, fs1, hq1, hl1, hx2⟩, ⟨q1, o0_, fs11, hq1, hl11, ((ho11 9 (by decide)).trans ((ho4 9 (by decide)).trans hx2))⟩, Or.inr (Or.inl ⟨rfl, (by unfold pok; have := rk_4.1; have := rk_4.2; have := rk_3.1; have := rk_3.2; have := rk_m2.1; have := rk_m2.2; have := rk_32.1; have := rk_32.2; have := rk_1.1; have := rk_1.2; have := rk_0.1; have := rk_0.2; omega), rfl⟩)⟩⟩)
  · have ch5 := cv_nlt h5
    have r14 : Rg (0) (2147483647) x1_ := rf_ley ch5 rk_0 (rg_any x1_) (by decide)
    refine rn_iload_n (i := 0) dX10_in_5 rfl rfl ?_
    refine rn_iload_n (i := 2) dX10_in_6 rfl rfl ?_
    refine rn_icmp_gt (tgt := 14) dX10_in_7 (by decide) (fun h15 => ?_) (fun h15 => ?_)
    · have ch15 := cv_lt h15
      have r16 : Rg (2) (2147483647) x1_ := rf_lty ch15 rk_1 r14 (by decide)
      refine rn_iconst (v := (0 : Int32)) dX10_in_14 (by decide) ?_
      refine rn_iret dX10_in_15 rfl rfl (rq_in ?_)
      refine rn_stk [.int (0 : Int32), .ref o0_] rfl ?_
      refine rn_if_eq (tgt := 47) dX10_policy_12 (by decide) (fun h17 => ?_) (fun h17 => (cx_ne (cv_ne h17) rk_0 rk_0 (by decide)).elim)
      refine rn_iconst (v := (1 : Int32)) dX10_policy_47 (by decide) ?_
      refine rn_goto (tgt := 52) dX10_policy_48 (by decide) ?_
      refine rn_iconst (v := (1 : Int32)) dX10_policy_52 (by decide) ?_
      refine rn_inV (d' := 0) (z' := 0) [.int (1 : Int32), .int (1 : Int32)] kl_SGModel_171 dX10_policy_53 q1 hl4 rfl rfl rfl (Nat.le_of_ble_eq_true rfl) (Nat.le_of_ble_eq_true rfl) (Nat.le_of_ble_eq_true rfl) (Nat.le_of_ble_eq_true rfl) ?_
      refine rn_lv [(0, .ref o0_), (1, .int (1 : Int32)), (2, .int (1 : Int32))] rfl ?_
      refine rn_aload_n (i := 0) dX10_refuses_0 rfl rfl ?_
      refine rn_get q1 kg_SGModel_137 hl4 hx4 dX10_refuses_1 ?_
      refine rn_if_ne (tgt := 16) dX10_refuses_4 (by decide) (fun h18 => (cx_ne (cv_ne h18) rk_0 rk_0 (by decide)).elim) (fun h18 => ?_)
      refine rn_iload_n (i := 1) dX10_refuses_7 rfl rfl ?_
      refine rn_if_eq (tgt := 16) dX10_refuses_8 (by decide) (fun h19 => (cx_eq (cv_eq h19) rk_1 rk_0 (by decide)).elim) (fun h19 => ?_)
      refine rn_aload_n (i := 0) dX10_refuses_11 rfl rfl ?_
      refine rn_iload_n (i := 2) dX10_refuses_12 rfl rfl ?_
      refine rs_put q1 (kp_SGModel_137 _) hS4 hq1 hl4 hf4 hk_30 rfl rfl (tv_i (rg_w rk_1 (by decide) (by decide))) rfl rfl dX10_refuses_13 (fun w20 fs21 hS21 hl21 hf21 hx21 ho21 hn21 => ?_)
      refine rn_aload_n (i := 0) dX10_refuses_16 rfl rfl ?_
      refine rn_get q1 kg_SGModel_137 hl21 hx21 dX10_refuses_17 ?_
      refine rn_if_le (tgt := 27) dX10_refuses_20 (by decide) (fun h22 => (cx_le (cv_le h22) rk_1 rk_0 (by decide)).elim) (fun h22 => ?_)
      refine rn_iconst (v := (1 : Int32)) dX10_refuses_23 (by decide) ?_
      refine rn_goto (tgt := 28) dX10_refuses_24 (by decide) ?_
      refine rn_iret dX10_refuses_28 rfl rfl (rq_in ?_)
      refine rn_stk [.int (1 : Int32)] rfl ?_
      refine rn_if_ne (tgt := 81) dX10_policy_56 (by decide) (fun h23 => ?_) (fun h23 => (cx_eq (cv_eq h23) rk_1 rk_0 (by decide)).elim)
      refine rn_iconst (v := (0 : Int32)) dX10_policy_81 (by decide) ?_
      exact rn_iret dX10_policy_82 rfl rfl (rq_in ⟨hS21, (0 : Int32), rfl, (rg_w rk_0 (by decide) (by decide)), ⟨(1 : Int32), x2, x2, ⟨q1, o0_, fs21, hq1, hl21, hx21⟩, ⟨q1, o0_, fs1, hq1, hl1, hx2⟩, ⟨q1, o0_, fs21, hq1, hl21, ((ho21 9 (by decide)).trans ((ho4 9 (by decide)).trans hx2))⟩, Or.inr (Or.inl ⟨rfl, (by unfold pok; have := rk_4.1; have := rk_4.2; have := rk_3.1; have := rk_3.2; have := rk_m2.1; have := rk_m2.2; have := rk_32.1; have := rk_32.2; have := rk_1.1; have := rk_1.2; have := rk_0.1; have := rk_0.2; omega), rfl⟩)⟩⟩)
    · have ch15 := cv_nlt h15
      have r24 : Rg (0) (1) x1_ := rf_lex ch15 r14 rk_1 (by decide)
      refine rn_iconst (v := (1 : Int32)) dX10_in_10 (by decide) ?_
      refine rn_goto (tgt := 15) dX10_in_11 (by decide) ?_
      refine rn_iret dX10_in_15 rfl rfl (rq_in ?_)
      refine rn_stk [.int (1 : Int32), .ref o0_] rfl ?_
      refine rn_if_eq (tgt := 47) dX10_policy_12 (by decide) (fun h25 => (cx_eq (cv_eq h25) rk_1 rk_0 (by decide)).elim) (fun h25 => ?_)
      refine rn_iload_n (i := 3) dX10_policy_15 rfl rfl ?_
      refine rn_iconst (v := (0 : Int32)) dX10_policy_16 (by decide) ?_
      refine rn_bipush (v := (32 : Int32)) dX10_policy_17 (by decide) ?_
      refine rn_inS (d' := 0) (z' := 0) [.int x3_, .int (0 : Int32), .int (32 : Int32)] kl_SGModel_179 dX10_policy_19 rfl rfl (Nat.le_of_ble_eq_true rfl) (Nat.le_of_ble_eq_true rfl) (Nat.le_of_ble_eq_true rfl) (Nat.le_of_ble_eq_true rfl) ?_
      refine rn_lv [(0, .int x3_), (1, .int (0 : Int32)), (2, .int (32 : Int32))] rfl ?_
      refine rn_iload_n (i := 0) dX10_in_0 rfl rfl ?_
      refine rn_iload_n (i := 1) dX10_in_1 rfl rfl ?_
      refine rn_icmp_lt (tgt := 14) dX10_in_2 (by decide) (fun h26 => ?_) (fun h26 => ?_)
      · have ch26 := cv_lt h26
        have r27 : Rg (-2147483648) (-1) x3_ := rf_ltx ch26 (rg_any x3_) rk_0 (by decide)
        refine rn_iconst (v := (0 : Int32)) dX10_in_14 (by decide) ?_
        refine rn_iret dX10_in_15 rfl rfl (rq_in ?_)
        refine rn_stk [.int (0 : Int32), .ref o0_] rfl ?_
        refine rn_if_eq (tgt := 47) dX10_policy_22 (by decide) (fun h28 => ?_) (fun h28 => (cx_ne (cv_ne h28) rk_0 rk_0 (by decide)).elim)
        refine rn_iconst (v := (1 : Int32)) dX10_policy_47 (by decide) ?_
        refine rn_goto (tgt := 52) dX10_policy_48 (by decide) ?_
        refine rn_iconst (v := (1 : Int32)) dX10_policy_52 (by decide) ?_
        refine rn_inV (d' := 0) (z' := 0) [.int (1 : Int32), .int (1 : Int32)] kl_SGModel_171 dX10_policy_53 q1 hl4 rfl rfl rfl (Nat.le_of_ble_eq_true rfl) (Nat.le_of_ble_eq_true rfl) (Nat.le_of_ble_eq_true rfl) (Nat.le_of_ble_eq_true rfl) ?_
        refine rn_lv [(0, .ref o0_), (1, .int (1 : Int32)), (2, .int (1 : Int32))] rfl ?_
        refine rn_aload_n (i := 0) dX10_refuses_0 rfl rfl ?_
        refine rn_get q1 kg_SGModel_137 hl4 hx4 dX10_refuses_1 ?_
        refine rn_if_ne (tgt := 16) dX10_refuses_4 (by decide) (fun h29 => (cx_ne (cv_ne h29) rk_0 rk_0 (by decide)).elim) (fun h29 => ?_)
        refine rn_iload_n (i := 1) dX10_refuses_7 rfl rfl ?_
        refine rn_if_eq (tgt := 16) dX10_refuses_8 (by decide) (fun h30 => (cx_eq (cv_eq h30) rk_1 rk_0 (by decide)).elim) (fun h30 => ?_)
        refine rn_aload_n (i := 0) dX10_refuses_11 rfl rfl ?_
        refine rn_iload_n (i := 2) dX10_refuses_12 rfl rfl ?_
        refine rs_put q1 (kp_SGModel_137 _) hS4 hq1 hl4 hf4 hk_30 rfl rfl (tv_i (rg_w rk_1 (by decide) (by decide))) rfl rfl dX10_refuses_13 (fun w31 fs32 hS32 hl32 hf32 hx32 ho32 hn32 => ?_)
        refine rn_aload_n (i := 0) dX10_refuses_16 rfl rfl ?_
        refine rn_get q1 kg_SGModel_137 hl32 hx32 dX10_refuses_17 ?_
        refine rn_if_le (tgt := 27) dX10_refuses_20 (by decide) (fun h33 => (cx_le (cv_le h33) rk_1 rk_0 (by decide)).elim) (fun h33 => ?_)
        refine rn_iconst (v := (1 : Int32)) dX10_refuses_23 (by decide) ?_
        refine rn_goto (tgt := 28) dX10_refuses_24 (by decide) ?_
        refine rn_iret dX10_refuses_28 rfl rfl (rq_in ?_)
        refine rn_stk [.int (1 : Int32)] rfl ?_
        refine rn_if_ne (tgt := 81) dX10_policy_56 (by decide) (fun h34 => ?_) (fun h34 => (cx_eq (cv_eq h34) rk_1 rk_0 (by decide)).elim)
        refine rn_iconst (v := (0 : Int32)) dX10_policy_81 (by decide) ?_
        exact rn_iret dX10_policy_82 rfl rfl (rq_in ⟨hS32, (0 : Int32), rfl, (rg_w rk_0 (by decide) (by decide)), ⟨(1 : Int32), x2, x2, ⟨q1, o0_, fs32, hq1, hl32, hx32⟩, ⟨q1, o0_, fs1, hq1, hl1, hx2⟩, ⟨q1, o0_, fs32, hq1, hl32, ((ho32 9 (by decide)).trans ((ho4 9 (by decide)).trans hx2))⟩, Or.inr (Or.inl ⟨rfl, (by unfold pok; have := rk_4.1; have := rk_4.2; have := rk_3.1; have := rk_3.2; have := rk_m2.1; have := rk_m2.2; have := rk_32.1; have := rk_32.2; have := rk_1.1; have := rk_1.2; have := rk_0.1; have := rk_0.2; omega), rfl⟩)⟩⟩)
      · have ch26 := cv_nlt h26
        have r35 : Rg (0) (2147483647) x3_ := rf_ley ch26 rk_0 (rg_any x3_) (by decide)
        refine rn_iload_n (i := 0) dX10_in_5 rfl rfl ?_
        refine rn_iload_n (i := 2) dX10_in_6 rfl rfl ?_
        refine rn_icmp_gt (tgt := 14) dX10_in_7 (by decide) (fun h36 => ?_) (fun h36 => ?_)
        · have ch36 := cv_lt h36
          have r37 : Rg (33) (2147483647) x3_ := rf_lty ch36 rk_32 r35 (by decide)
          refine rn_iconst (v := (0 : Int32)) dX10_in_14 (by decide) ?_
          refine rn_iret dX10_in_15 rfl rfl (rq_in ?_)
          refine rn_stk [.int (0 : Int32), .ref o0_] rfl ?_
          refine rn_if_eq (tgt := 47) dX10_policy_22 (by decide) (fun h38 => ?_) (fun h38 => (cx_ne (cv_ne h38) rk_0 rk_0 (by decide)).elim)
          refine rn_iconst (v := (1 : Int32)) dX10_policy_47 (by decide) ?_
          refine rn_goto (tgt := 52) dX10_policy_48 (by decide) ?_
          refine rn_iconst (v := (1 : Int32)) dX10_policy_52 (by decide) ?_
          refine rn_inV (d' := 0) (z' := 0) [.int (1 : Int32), .int (1 : Int32)] kl_SGModel_171 dX10_policy_53 q1 hl4 rfl rfl rfl (Nat.le_of_ble_eq_true rfl) (Nat.le_of_ble_eq_true rfl) (Nat.le_of_ble_eq_true rfl) (Nat.le_of_ble_eq_true rfl) ?_
          refine rn_lv [(0, .ref o0_), (1, .int (1 : Int32)), (2, .int (1 : Int32))] rfl ?_
          refine rn_aload_n (i := 0) dX10_refuses_0 rfl rfl ?_
          refine rn_get q1 kg_SGModel_137 hl4 hx4 dX10_refuses_1 ?_
          refine rn_if_ne (tgt := 16) dX10_refuses_4 (by decide) (fun h39 => (cx_ne (cv_ne h39) rk_0 rk_0 (by decide)).elim) (fun h39 => ?_)
          refine rn_iload_n (i := 1) dX10_refuses_7 rfl rfl ?_
          refine rn_if_eq (tgt := 16) dX10_refuses_8 (by decide) (fun h40 => (cx_eq (cv_eq h40) rk_1 rk_0 (by decide)).elim) (fun h40 => ?_)
          refine rn_aload_n (i := 0) dX10_refuses_11 rfl rfl ?_
          refine rn_iload_n (i := 2) dX10_refuses_12 rfl rfl ?_
          refine rs_put q1 (kp_SGModel_137 _) hS4 hq1 hl4 hf4 hk_30 rfl rfl (tv_i (rg_w rk_1 (by decide) (by decide))) rfl rfl dX10_refuses_13 (fun w41 fs42 hS42 hl42 hf42 hx42 ho42 hn42 => ?_)
          refine rn_aload_n (i := 0) dX10_refuses_16 rfl rfl ?_
          refine rn_get q1 kg_SGModel_137 hl42 hx42 dX10_refuses_17 ?_
          refine rn_if_le (tgt := 27) dX10_refuses_20 (by decide) (fun h43 => (cx_le (cv_le h43) rk_1 rk_0 (by decide)).elim) (fun h43 => ?_)
          refine rn_iconst (v := (1 : Int32)) dX10_refuses_23 (by decide) ?_
          refine rn_goto (tgt := 28) dX10_refuses_24 (by decide) ?_
          refine rn_iret dX10_refuses_28 rfl rfl (rq_in ?_)
          refine rn_stk [.int (1 : Int32)] rfl ?_
          refine rn_if_ne (tgt := 81) dX10_policy_56 (by decide) (fun h44 => ?_) (fun h44 => (cx_eq (cv_eq h44) rk_1 rk_0 (by decide)).elim)
          refine rn_iconst (v := (0 : Int32)) dX10_policy_81 (by decide) ?_
          exact rn_iret dX10_policy_82 rfl rfl (rq_in ⟨hS42, (0 : Int32), rfl, (rg_w rk_0 (by decide) (by decide)), ⟨(1 : Int32), x2, x2, ⟨q1, o0_, fs42, hq1, hl42, hx42⟩, ⟨q1, o0_, fs1, hq1, hl1, hx2⟩, ⟨q1, o0_, fs42, hq1, hl42, ((ho42 9 (by decide)).trans ((ho4 9 (by decide)).trans hx2))⟩, Or.inr (Or.inl ⟨rfl, (by unfold pok; have := rk_4.1; have := rk_4.2; have := rk_3.1; have := rk_3.2; have := rk_m2.1; have := rk_m2.2; have := rk_32.1; have := rk_32.2; have := rk_1.1; have := rk_1.2; have := rk_0.1; have := rk_0.2; omega), rfl⟩)⟩⟩)
        · have ch36 := cv_nlt h36
          have r45 : Rg (0) (32) x3_ := rf_lex ch36 r35 rk_32 (by decide)
          refine rn_iconst (v := (1 : Int32)) dX10_in_10 (by decide) ?_
          refine rn_goto (tgt := 15) dX10_in_11 (by decide) ?_
          refine rn_iret dX10_in_15 rfl rfl (rq_in ?_)
          refine rn_stk [.int (1 : Int32), .ref o0_] rfl ?_
          refine rn_if_eq (tgt := 47) dX10_policy_22 (by decide) (fun h46 => (cx_eq (cv_eq h46) rk_1 rk_0 (by decide)).elim) (fun h46 => ?_)
          refine rn_iload dX10_policy_25 rfl ?_
          refine rn_iconst (v := (0 : Int32)) dX10_policy_27 (by decide) ?_
          refine rn_bipush (v := (32 : Int32)) dX10_policy_28 (by decide) ?_
          refine rn_inS (d' := 0) (z' := 0) [.int x5_, .int (0 : Int32), .int (32 : Int32)] kl_SGModel_179 dX10_policy_30 rfl rfl (Nat.le_of_ble_eq_true rfl) (Nat.le_of_ble_eq_true rfl) (Nat.le_of_ble_eq_true rfl) (Nat.le_of_ble_eq_true rfl) ?_
          refine rn_lv [(0, .int x5_), (1, .int (0 : Int32)), (2, .int (32 : Int32))] rfl ?_
          refine rn_iload_n (i := 0) dX10_in_0 rfl rfl ?_
          refine rn_iload_n (i := 1) dX10_in_1 rfl rfl ?_
          refine rn_icmp_lt (tgt := 14) dX10_in_2 (by decide) (fun h47 => ?_) (fun h47 => ?_)
          · have ch47 := cv_lt h47
            have r48 : Rg (-2147483648) (-1) x5_ := rf_ltx ch47 (rg_any x5_) rk_0 (by decide)
            refine rn_iconst (v := (0 : Int32)) dX10_in_14 (by decide) ?_
            refine rn_iret dX10_in_15 rfl rfl (rq_in ?_)
            refine rn_stk [.int (0 : Int32), .ref o0_] rfl ?_
            refine rn_if_eq (tgt := 47) dX10_policy_33 (by decide) (fun h49 => ?_) (fun h49 => (cx_ne (cv_ne h49) rk_0 rk_0 (by decide)).elim)
            refine rn_iconst (v := (1 : Int32)) dX10_policy_47 (by decide) ?_
            refine rn_goto (tgt := 52) dX10_policy_48 (by decide) ?_
            refine rn_iconst (v := (1 : Int32)) dX10_policy_52 (by decide) ?_
            refine rn_inV (d' := 0) (z' := 0) [.int (1 : Int32), .int (1 : Int32)] kl_SGModel_171 dX10_policy_53 q1 hl4 rfl rfl rfl (Nat.le_of_ble_eq_true rfl) (Nat.le_of_ble_eq_true rfl) (Nat.le_of_ble_eq_true rfl) (Nat.le_of_ble_eq_true rfl) ?_
            refine rn_lv [(0, .ref o0_), (1, .int (1 : Int32)), (2, .int (1 : Int32))] rfl ?_
            refine rn_aload_n (i := 0) dX10_refuses_0 rfl rfl ?_
            refine rn_get q1 kg_SGModel_137 hl4 hx4 dX10_refuses_1 ?_
            refine rn_if_ne (tgt := 16) dX10_refuses_4 (by decide) (fun h50 => (cx_ne (cv_ne h50) rk_0 rk_0 (by decide)).elim) (fun h50 => ?_)
            refine rn_iload_n (i := 1) dX10_refuses_7 rfl rfl ?_
            refine rn_if_eq (tgt := 16) dX10_refuses_8 (by decide) (fun h51 => (cx_eq (cv_eq h51) rk_1 rk_0 (by decide)).elim) (fun h51 => ?_)
            refine rn_aload_n (i := 0) dX10_refuses_11 rfl rfl ?_
            refine rn_iload_n (i := 2) dX10_refuses_12 rfl rfl ?_
            refine rs_put q1 (kp_SGModel_137 _) hS4 hq1 hl4 hf4 hk_30 rfl rfl (tv_i (rg_w rk_1 (by decide) (by decide))) rfl rfl dX10_refuses_13 (fun w52 fs53 hS53 hl53 hf53 hx53 ho53 hn53 => ?_)
            refine rn_aload_n (i := 0) dX10_refuses_16 rfl rfl ?_
            refine rn_get q1 kg_SGModel_137 hl53 hx53 dX10_refuses_17 ?_
            refine rn_if_le (tgt := 27) dX10_refuses_20 (by decide) (fun h54 => (cx_le (cv_le h54) rk_1 rk_0 (by decide)).elim) (fun h54 => ?_)
            refine rn_iconst (v := (1 : Int32)) dX10_refuses_23 (by decide) ?_
            refine rn_goto (tgt := 28) dX10_refuses_24 (by decide) ?_
            refine rn_iret dX10_refuses_28 rfl rfl (rq_in ?_)
            refine rn_stk [.int (1 : Int32)] rfl ?_
            refine rn_if_ne (tgt := 81) dX10_policy_56 (by decide) (fun h55 => ?_) (fun h55 => (cx_eq (cv_eq h55) rk_1 rk_0 (by decide)).elim)
            refine rn_iconst (v := (0 : Int32)) dX10_policy_81 (by decide) ?_
            exact rn_iret dX10_policy_82 rfl rfl (rq_in ⟨hS53, (0 : Int32), rfl, (rg_w rk_0 (by decide) (by decide)), ⟨(1 : Int32), x2, x2, ⟨q1, o0_, fs53, hq1, hl53, hx53⟩, ⟨q1, o0_, fs1, hq1, hl1, hx2⟩, ⟨q1, o0_, fs53, hq1, hl53, ((ho53 9 (by decide)).trans ((ho4 9 (by decide)).trans hx2))⟩, Or.inr (Or.inl ⟨rfl, (by unfold pok; have := rk_4.1; have := rk_4.2; have := rk_3.1; have := rk_3.2; have := rk_m2.1; have := rk_m2.2; have := rk_32.1; have := rk_32.2; have := rk_1.1; have := rk_1.2; have := rk_0.1; have := rk_0.2; omega), rfl⟩)⟩⟩)
          · have ch47 := cv_nlt h47
            have r56 : Rg (0) (2147483647) x5_ := rf_ley ch47 rk_0 (rg_any x5_) (by decide)
            refine rn_iload_n (i := 0) dX10_in_5 rfl rfl ?_
            refine rn_iload_n (i := 2) dX10_in_6 rfl rfl ?_
            refine rn_icmp_gt (tgt := 14) dX10_in_7 (by decide) (fun h57 => ?_) (fun h57 => ?_)
            · have ch57 := cv_lt h57
              have r58 : Rg (33) (2147483647) x5_ := rf_lty ch57 rk_32 r56 (by decide)
              refine rn_iconst (v := (0 : Int32)) dX10_in_14 (by decide) ?_
              refine rn_iret dX10_in_15 rfl rfl (rq_in ?_)
              refine rn_stk [.int (0 : Int32), .ref o0_] rfl ?_
              refine rn_if_eq (tgt := 47) dX10_policy_33 (by decide) (fun h59 => ?_) (fun h59 => (cx_ne (cv_ne h59) rk_0 rk_0 (by decide)).elim)
              refine rn_iconst (v := (1 : Int32)) dX10_policy_47 (by decide) ?_
              refine rn_goto (tgt := 52) dX10_policy_48 (by decide) ?_
              refine rn_iconst (v := (1 : Int32)) dX10_policy_52 (by decide) ?_
              refine rn_inV (d' := 0) (z' := 0) [.int (1 : Int32), .int (1 : Int32)] kl_SGModel_171 dX10_policy_53 q1 hl4 rfl rfl rfl (Nat.le_of_ble_eq_true rfl) (Nat.le_of_ble_eq_true rfl) (Nat.le_of_ble_eq_true rfl) (Nat.le_of_ble_eq_true rfl) ?_
              refine rn_lv [(0, .ref o0_), (1, .int (1 : Int32)), (2, .int (1 : Int32))] rfl ?_
              refine rn_aload_n (i := 0) dX10_refuses_0 rfl rfl ?_
              refine rn_get q1 kg_SGModel_137 hl4 hx4 dX10_refuses_1 ?_
              refine rn_if_ne (tgt := 16) dX10_refuses_4 (by decide) (fun h60 => (cx_ne (cv_ne h60) rk_0 rk_0 (by decide)).elim) (fun h60 => ?_)
              refine rn_iload_n (i := 1) dX10_refuses_7 rfl rfl ?_
              refine rn_if_eq (tgt := 16) dX10_refuses_8 (by decide) (fun h61 => (cx_eq (cv_eq h61) rk_1 rk_0 (by decide)).elim) (fun h61 => ?_)
              refine rn_aload_n (i := 0) dX10_refuses_11 rfl rfl ?_
              refine rn_iload_n (i := 2) dX10_refuses_12 rfl rfl ?_
              refine rs_put q1 (kp_SGModel_137 _) hS4 hq1 hl4 hf4 hk_30 rfl rfl (tv_i (rg_w rk_1 (by decide) (by decide))) rfl rfl dX10_refuses_13 (fun w62 fs63 hS63 hl63 hf63 hx63 ho63 hn63 => ?_)
              refine rn_aload_n (i := 0) dX10_refuses_16 rfl rfl ?_
              refine rn_get q1 kg_SGModel_137 hl63 hx63 dX10_refuses_17 ?_
              refine rn_if_le (tgt := 27) dX10_refuses_20 (by decide) (fun h64 => (cx_le (cv_le h64) rk_1 rk_0 (by decide)).elim) (fun h64 => ?_)
              refine rn_iconst (v := (1 : Int32)) dX10_refuses_23 (by decide) ?_
              refine rn_goto (tgt := 28) dX10_refuses_24 (by decide) ?_
              refine rn_iret dX10_refuses_28 rfl rfl (rq_in ?_)
              refine rn_stk [.int (1 : Int32)] rfl ?_
              refine rn_if_ne (tgt := 81) dX10_policy_56 (by decide) (fun h65 => ?_) (fun h65 => (cx_eq (cv_eq h65) rk_1 rk_0 (by decide)).elim)
              refine rn_iconst (v := (0 : Int32)) dX10_policy_81 (by decide) ?_
              exact rn_iret dX10_policy_82 rfl rfl (rq_in ⟨hS63, (0 : Int32), rfl, (rg_w rk_0 (by decide) (by decide)), ⟨(1 : Int32), x2, x2, ⟨q1, o0_, fs63, hq1, hl63, hx63⟩, ⟨q1, o0_, fs1, hq1, hl1, hx2⟩, ⟨q1, o0_, fs63, hq1, hl63, ((ho63 9 (by decide)).trans ((ho4 9 (by decide)).trans hx2))⟩, Or.inr (Or.inl ⟨rfl, (by unfold pok; have := rk_4.1; have := rk_4.2; have := rk_3.1; have := rk_3.2; have := rk_m2.1; have := rk_m2.2; have := rk_32.1; have := rk_32.2; have := rk_1.1; have := rk_1.2; have := rk_0.1; have := rk_0.2; omega), rfl⟩)⟩⟩)
            · have ch57 := cv_nlt h57
              have r66 : Rg (0) (32) x5_ := rf_lex ch57 r56 rk_32 (by decide)
              refine rn_iconst (v := (1 : Int32)) dX10_in_10 (by decide) ?_
              refine rn_goto (tgt := 15) dX10_in_11 (by decide) ?_
              refine rn_iret dX10_in_15 rfl rfl (rq_in ?_)
              refine rn_stk [.int (1 : Int32), .ref o0_] rfl ?_
              refine rn_if_eq (tgt := 47) dX10_policy_33 (by decide) (fun h67 => (cx_eq (cv_eq h67) rk_1 rk_0 (by decide)).elim) (fun h67 => ?_)
              refine rn_iload dX10_policy_36 rfl ?_
              refine rn_bipush (v := (-2 : Int32)) dX10_policy_38 (by decide) ?_
              refine rn_iconst (v := (3 : Int32)) dX10_policy_40 (by decide) ?_
              refine rn_inS (d' := 0) (z' := 0) [.int x6_, .int (-2 : Int32), .int (3 : Int32)] kl_SGModel_179 dX10_policy_41 rfl rfl (Nat.le_of_ble_eq_true rfl) (Nat.le_of_ble_eq_true rfl) (Nat.le_of_ble_eq_true rfl) (Nat.le_of_ble_eq_true rfl) ?_
              refine rn_lv [(0, .int x6_), (1, .int (-2 : Int32)), (2, .int (3 : Int32))] rfl ?_
              refine rn_iload_n (i := 0) dX10_in_0 rfl rfl ?_
              refine rn_iload_n (i := 1) dX10_in_1 rfl rfl ?_
              refine rn_icmp_lt (tgt := 14) dX10_in_2 (by decide) (fun h68 => ?_) (fun h68 => ?_)
              · have ch68 := cv_lt h68
                have r69 : Rg (-2147483648) (-3) x6_ := rf_ltx ch68 (rg_any x6_) rk_m2 (by decide)
                refine rn_iconst (v := (0 : Int32)) dX10_in_14 (by decide) ?_
                refine rn_iret dX10_in_15 rfl rfl (rq_in ?_)
                refine rn_stk [.int (0 : Int32), .ref o0_] rfl ?_
                refine rn_if_ne (tgt := 51) dX10_policy_44 (by decide) (fun h70 => (cx_ne (cv_ne h70) rk_0 rk_0 (by decide)).elim) (fun h70 => ?_)
                refine rn_iconst (v := (1 : Int32)) dX10_policy_47 (by decide) ?_
                refine rn_goto (tgt := 52) dX10_policy_48 (by decide) ?_
                refine rn_iconst (v := (1 : Int32)) dX10_policy_52 (by decide) ?_
                refine rn_inV (d' := 0) (z' := 0) [.int (1 : Int32), .int (1 : Int32)] kl_SGModel_171 dX10_policy_53 q1 hl4 rfl rfl rfl (Nat.le_of_ble_eq_true rfl) (Nat.le_of_ble_eq_true rfl) (Nat.le_of_ble_eq_true rfl) (Nat.le_of_ble_eq_true rfl) ?_
                refine rn_lv [(0, .ref o0_), (1, .int (1 : Int32)), (2, .int (1 : Int32))] rfl ?_
                refine rn_aload_n (i := 0) dX10_refuses_0 rfl rfl ?_
                refine rn_get q1 kg_SGModel_137 hl4 hx4 dX10_refuses_1 ?_
                refine rn_if_ne (tgt := 16) dX10_refuses_4 (by decide) (fun h71 => (cx_ne (cv_ne h71) rk_0 rk_0 (by decide)).elim) (fun h71 => ?_)
                refine rn_iload_n (i := 1) dX10_refuses_7 rfl rfl ?_
                refine rn_if_eq (tgt := 16) dX10_refuses_8 (by decide) (fun h72 => (cx_eq (cv_eq h72) rk_1 rk_0 (by decide)).elim) (fun h72 => ?_)
                refine rn_aload_n (i := 0) dX10_refuses_11 rfl rfl ?_
                refine rn_iload_n (i := 2) dX10_refuses_12 rfl rfl ?_
                refine rs_put q1 (kp_SGModel_137 _) hS4 hq1 hl4 hf4 hk_30 rfl rfl (tv_i (rg_w rk_1 (by decide) (by decide))) rfl rfl dX10_refuses_13 (fun w73 fs74 hS74 hl74 hf74 hx74 ho74 hn74 => ?_)
                refine rn_aload_n (i := 0) dX10_refuses_16 rfl rfl ?_
                refine rn_get q1 kg_SGModel_137 hl74 hx74 dX10_refuses_17 ?_
                refine rn_if_le (tgt := 27) dX10_refuses_20 (by decide) (fun h75 => (cx_le (cv_le h75) rk_1 rk_0 (by decide)).elim) (fun h75 => ?_)
                refine rn_iconst (v := (1 : Int32)) dX10_refuses_23 (by decide) ?_
                refine rn_goto (tgt := 28) dX10_refuses_24 (by decide) ?_
                refine rn_iret dX10_refuses_28 rfl rfl (rq_in ?_)
                refine rn_stk [.int (1 : Int32)] rfl ?_
                refine rn_if_ne (tgt := 81) dX10_policy_56 (by decide) (fun h76 => ?_) (fun h76 => (cx_eq (cv_eq h76) rk_1 rk_0 (by decide)).elim)
                refine rn_iconst (v := (0 : Int32)) dX10_policy_81 (by decide) ?_
                exact rn_iret dX10_policy_82 rfl rfl (rq_in ⟨hS74, (0 : Int32), rfl, (rg_w rk_0 (by decide) (by decide)), ⟨(1 : Int32), x2, x2, ⟨q1, o0_, fs74, hq1, hl74, hx74⟩, ⟨q1, o0_, fs1, hq1, hl1, hx2⟩, ⟨q1, o0_, fs74, hq1, hl74, ((ho74 9 (by decide)).trans ((ho4 9 (by decide)).trans hx2))⟩, Or.inr (Or.inl ⟨rfl, (by unfold pok; have := rk_4.1; have := rk_4.2; have := rk_3.1; have := rk_3.2; have := rk_m2.1; have := rk_m2.2; have := rk_32.1; have := rk_32.2; have := rk_1.1; have := rk_1.2; have := rk_0.1; have := rk_0.2; omega), rfl⟩)⟩⟩)
              · have ch68 := cv_nlt h68
                have r77 : Rg (-2) (2147483647) x6_ := rf_ley ch68 rk_m2 (rg_any x6_) (by decide)
                refine rn_iload_n (i := 0) dX10_in_5 rfl rfl ?_
                refine rn_iload_n (i := 2) dX10_in_6 rfl rfl ?_
                refine rn_icmp_gt (tgt := 14) dX10_in_7 (by decide) (fun h78 => ?_) (fun h78 => ?_)
                · have ch78 := cv_lt h78
                  have r79 : Rg (4) (2147483647) x6_ := rf_lty ch78 rk_3 r77 (by decide)
                  refine rn_iconst (v := (0 : Int32)) dX10_in_14 (by decide) ?_
                  refine rn_iret dX10_in_15 rfl rfl (rq_in ?_)
                  refine rn_stk [.int (0 : Int32), .ref o0_] rfl ?_
                  refine rn_if_ne (tgt := 51) dX10_policy_44 (by decide) (fun h80 => (cx_ne (cv_ne h80) rk_0 rk_0 (by decide)).elim) (fun h80 => ?_)
                  refine rn_iconst (v := (1 : Int32)) dX10_policy_47 (by decide) ?_
                  refine rn_goto (tgt := 52) dX10_policy_48 (by decide) ?_
                  refine rn_iconst (v := (1 : Int32)) dX10_policy_52 (by decide) ?_
                  refine rn_inV (d' := 0) (z' := 0) [.int (1 : Int32), .int (1 : Int32)] kl_SGModel_171 dX10_policy_53 q1 hl4 rfl rfl rfl (Nat.le_of_ble_eq_true rfl) (Nat.le_of_ble_eq_true rfl) (Nat.le_of_ble_eq_true rfl) (Nat.le_of_ble_eq_true rfl) ?_
                  refine rn_lv [(0, .ref o0_), (1, .int (1 : Int32)), (2, .int (1 : Int32))] rfl ?_
                  refine rn_aload_n (i := 0) dX10_refuses_0 rfl rfl ?_
                  refine rn_get q1 kg_SGModel_137 hl4 hx4 dX10_refuses_1 ?_
                  refine rn_if_ne (tgt := 16) dX10_refuses_4 (by decide) (fun h81 => (cx_ne (cv_ne h81) rk_0 rk_0 (by decide)).elim) (fun h81 => ?_)
                  refine rn_iload_n (i := 1) dX10_refuses_7 rfl rfl ?_
                  refine rn_if_eq (tgt := 16) dX10_refuses_8 (by decide) (fun h82 => (cx_eq (cv_eq h82) rk_1 rk_0 (by decide)).elim) (fun h82 => ?_)
                  refine rn_aload_n (i := 0) dX10_refuses_11 rfl rfl ?_
                  refine rn_iload_n (i := 2) dX10_refuses_12 rfl rfl ?_
                  refine rs_put q1 (kp_SGModel_137 _) hS4 hq1 hl4 hf4 hk_30 rfl rfl (tv_i (rg_w rk_1 (by decide) (by decide))) rfl rfl dX10_refuses_13 (fun w83 fs84 hS84 hl84 hf84 hx84 ho84 hn84 => ?_)
                  refine rn_aload_n (i := 0) dX10_refuses_16 rfl rfl ?_
                  refine rn_get q1 kg_SGModel_137 hl84 hx84 dX10_refuses_17 ?_
                  refine rn_if_le (tgt := 27) dX10_refuses_20 (by decide) (fun h85 => (cx_le (cv_le h85) rk_1 rk_0 (by decide)).elim) (fun h85 => ?_)
                  refine rn_iconst (v := (1 : Int32)) dX10_refuses_23 (by decide) ?_
                  refine rn_goto (tgt := 28) dX10_refuses_24 (by decide) ?_
                  refine rn_iret dX10_refuses_28 rfl rfl (rq_in ?_)
                  refine rn_stk [.int (1 : Int32)] rfl ?_
                  refine rn_if_ne (tgt := 81) dX10_policy_56 (by decide) (fun h86 => ?_) (fun h86 => (cx_eq (cv_eq h86) rk_1 rk_0 (by decide)).elim)
                  refine rn_iconst (v := (0 : Int32)) dX10_policy_81 (by decide) ?_
                  exact rn_iret dX10_policy_82 rfl rfl (rq_in ⟨hS84, (0 : Int32), rfl, (rg_w rk_0 (by decide) (by decide)), ⟨(1 : Int32), x2, x2, ⟨q1, o0_, fs84, hq1, hl84, hx84⟩, ⟨q1, o0_, fs1, hq1, hl1, hx2⟩, ⟨q1, o0_, fs84, hq1, hl84, ((ho84 9 (by decide)).trans ((ho4 9 (by decide)).trans hx2))⟩, Or.inr (Or.inl ⟨rfl, (by unfold pok; have := rk_4.1; have := rk_4.2; have := rk_3.1; have := rk_3.2; have := rk_m2.1; have := rk_m2.2; have := rk_32.1; have := rk_32.2; have := rk_1.1; have := rk_1.2; have := rk_0.1; have := rk_0.2; omega), rfl⟩)⟩⟩)
                · have ch78 := cv_nlt h78
                  have r87 : Rg (-2) (3) x6_ := rf_lex ch78 r77 rk_3 (by decide)
                  refine rn_iconst (v := (1 : Int32)) dX10_in_10 (by decide) ?_
                  refine rn_goto (tgt := 15) dX10_in_11 (by decide) ?_
                  refine rn_iret dX10_in_15 rfl rfl (rq_in ?_)
                  refine rn_stk [.int (1 : Int32), .ref o0_] rfl ?_
                  refine rn_if_ne (tgt := 51) dX10_policy_44 (by decide) (fun h88 => ?_) (fun h88 => (cx_eq (cv_eq h88) rk_1 rk_0 (by decide)).elim)
                  refine rn_iconst (v := (0 : Int32)) dX10_policy_51 (by decide) ?_
                  refine rn_iconst (v := (1 : Int32)) dX10_policy_52 (by decide) ?_
                  refine rn_inV (d' := 0) (z' := 0) [.int (0 : Int32), .int (1 : Int32)] kl_SGModel_171 dX10_policy_53 q1 hl4 rfl rfl rfl (Nat.le_of_ble_eq_true rfl) (Nat.le_of_ble_eq_true rfl) (Nat.le_of_ble_eq_true rfl) (Nat.le_of_ble_eq_true rfl) ?_
                  refine rn_lv [(0, .ref o0_), (1, .int (0 : Int32)), (2, .int (1 : Int32))] rfl ?_
                  refine rn_aload_n (i := 0) dX10_refuses_0 rfl rfl ?_
                  refine rn_get q1 kg_SGModel_137 hl4 hx4 dX10_refuses_1 ?_
                  refine rn_if_ne (tgt := 16) dX10_refuses_4 (by decide) (fun h89 => (cx_ne (cv_ne h89) rk_0 rk_0 (by decide)).elim) (fun h89 => ?_)
                  refine rn_iload_n (i := 1) dX10_refuses_7 rfl rfl ?_
                  refine rn_if_eq (tgt := 16) dX10_refuses_8 (by decide) (fun h90 => ?_) (fun h90 => (cx_ne (cv_ne h90) rk_0 rk_0 (by decide)).elim)
                  refine rn_aload_n (i := 0) dX10_refuses_16 rfl rfl ?_
                  refine rn_get q1 kg_SGModel_137 hl4 hx4 dX10_refuses_17 ?_
                  refine rn_if_le (tgt := 27) dX10_refuses_20 (by decide) (fun h91 => ?_) (fun h91 => (cx_lt (cv_nle h91) rk_0 rk_0 (by decide)).elim)
                  refine rn_iconst (v := (0 : Int32)) dX10_refuses_27 (by decide) ?_
                  refine rn_iret dX10_refuses_28 rfl rfl (rq_in ?_)
                  refine rn_stk [.int (0 : Int32)] rfl ?_
                  refine rn_if_ne (tgt := 81) dX10_policy_56 (by decide) (fun h92 => (cx_ne (cv_ne h92) rk_0 rk_0 (by decide)).elim) (fun h92 => ?_)
                  refine rn_aload_n (i := 0) dX10_policy_59 rfl rfl ?_
                  refine rn_aload_n (i := 0) dX10_policy_60 rfl rfl ?_
                  refine rn_get q1 kg_SGModel_197 hl4 ((ho4 9 (by decide)).trans hx2) dX10_policy_61 ?_
                  refine rn_bipush (v := (24 : Int32)) dX10_policy_64 (by decide) ?_
                  refine rn_icmp_ne (tgt := 73) dX10_policy_66 (by decide) (fun h93 => ?_) (fun h93 => ?_)
                  · have ch93 := cv_ne h93
                    have r94 : Rg (0) (23) x2 := rf_neh ch93 rx2 rk_24 (by decide) (by decide)
                    refine rn_iconst (v := (0 : Int32)) dX10_policy_73 (by decide) ?_
                    refine rn_iconst (v := (2 : Int32)) dX10_policy_74 (by decide) ?_
                    refine rn_inV (d' := 0) (z' := 0) [.int (0 : Int32), .int (2 : Int32)] kl_SGModel_171 dX10_policy_75 q1 hl4 rfl rfl rfl (Nat.le_of_ble_eq_true rfl) (Nat.le_of_ble_eq_true rfl) (Nat.le_of_ble_eq_true rfl) (Nat.le_of_ble_eq_true rfl) ?_
                    refine rn_lv [(0, .ref o0_), (1, .int (0 : Int32)), (2, .int (2 : Int32))] rfl ?_
                    refine rn_aload_n (i := 0) dX10_refuses_0 rfl rfl ?_
                    refine rn_get q1 kg_SGModel_137 hl4 hx4 dX10_refuses_1 ?_
                    refine rn_if_ne (tgt := 16) dX10_refuses_4 (by decide) (fun h95 => (cx_ne (cv_ne h95) rk_0 rk_0 (by decide)).elim) (fun h95 => ?_)
                    refine rn_iload_n (i := 1) dX10_refuses_7 rfl rfl ?_
                    refine rn_if_eq (tgt := 16) dX10_refuses_8 (by decide) (fun h96 => ?_) (fun h96 => (cx_ne (cv_ne h96) rk_0 rk_0 (by decide)).elim)
                    refine rn_aload_n (i := 0) dX10_refuses_16 rfl rfl ?_
                    refine rn_get q1 kg_SGModel_137 hl4 hx4 dX10_refuses_17 ?_
                    refine rn_if_le (tgt := 27) dX10_refuses_20 (by decide) (fun h97 => ?_) (fun h97 => (cx_lt (cv_nle h97) rk_0 rk_0 (by decide)).elim)
                    refine rn_iconst (v := (0 : Int32)) dX10_refuses_27 (by decide) ?_
                    refine rn_iret dX10_refuses_28 rfl rfl (rq_in ?_)
                    refine rn_stk [.int (0 : Int32)] rfl ?_
                    refine rn_if_eq (tgt := 83) dX10_policy_78 (by decide) (fun h98 => ?_) (fun h98 => (cx_ne (cv_ne h98) rk_0 rk_0 (by decide)).elim)
                    refine rn_aload_n (i := 0) dX10_policy_83 rfl rfl ?_
                    refine rn_get q1 kg_SGModel_197 hl4 ((ho4 9 (by decide)).trans hx2) dX10_policy_84 ?_
                    refine rn_istore dX10_policy_87 (by decide) [(0, .ref o0_), (1, .int x1_), (2, .int x2_), (3, .int x3_), (4, .int x4_), (5, .int x5_), (6, .int x6_), (7, .int x2)] rfl ?_
                    refine rn_aload_n (i := 0) dX10_policy_89 rfl rfl ?_
                    obtain ⟨o99, hx99, m99⟩ := fs_r hf4 10 rfl
                    refine rn_get q1 kg_SGModel_25 hl4 hx99 dX10_policy_90 ?_
                    refine rn_iload dX10_policy_93 rfl ?_
                    refine rn_iload_n (i := 1) dX10_policy_95 rfl rfl ?_
                    obtain ⟨q100, f100, hq100, hl100, hf100⟩ := ts_ia hS4.1 m99 hk_41
                    refine rs_iast q100 hS4 hq100 hl100 hf100 hk_41 rfl rfl r94 (by decide) (by decide) (rg_w r24 (by decide) (by decide)) dX10_policy_96 (fun w101 f102 hS102 hl102 hf102 hu102 hn102 => ?_)
                    refine rn_aload_n (i := 0) dX10_policy_97 rfl rfl ?_
                    obtain ⟨o103, hx103, m103⟩ := fs_r hf4 11 rfl
                    refine rn_get q1 kg_SGModel_28 ((hn102 _ (ts_ne hq100 hq1 rfl)).trans hl4) hx103 dX10_policy_98 ?_
                    refine rn_iload dX10_policy_101 rfl ?_
                    refine rn_iload_n (i := 2) dX10_policy_103 rfl rfl ?_
                    obtain ⟨q104, f104, hq104, hl104, hf104⟩ := ts_ia hS102.1 m103 hk_42
                    refine rs_iast q104 hS102 hq104 hl104 hf104 hk_42 rfl rfl r94 (by decide) (by decide) (rg_any x2_) dX10_policy_104 (fun w105 f106 hS106 hl106 hf106 hu106 hn106 => ?_)
                    refine rn_aload_n (i := 0) dX10_policy_105 rfl rfl ?_
                    obtain ⟨o107, hx107, m107⟩ := fs_r hf4 12 rfl
                    refine rn_get q1 kg_SGModel_31 ((hn106 _ (ts_ne hq104 hq1 rfl)).trans ((hn102 _ (ts_ne hq100 hq1 rfl)).trans hl4)) hx107 dX10_policy_106 ?_
                    refine rn_iload dX10_policy_109 rfl ?_
                    refine rn_iload_n (i := 3) dX10_policy_111 rfl rfl ?_
                    obtain ⟨q108, f108, hq108, hl108, hf108⟩ := ts_ia hS106.1 m107 hk_43
                    refine rs_iast q108 hS106 hq108 hl108 hf108 hk_43 rfl rfl r94 (by decide) (by decide) (rg_w r45 (by decide) (by decide)) dX10_policy_112 (fun w109 f110 hS110 hl110 hf110 hu110 hn110 => ?_)
                    refine rn_aload_n (i := 0) dX10_policy_113 rfl rfl ?_
                    obtain ⟨o111, hx111, m111⟩ := fs_r hf4 13 rfl
                    refine rn_get q1 kg_SGModel_34 ((hn110 _ (ts_ne hq108 hq1 rfl)).trans ((hn106 _ (ts_ne hq104 hq1 rfl)).trans ((hn102 _ (ts_ne hq100 hq1 rfl)).trans hl4))) hx111 dX10_policy_114 ?_
                    refine rn_iload dX10_policy_117 rfl ?_
                    refine rn_iload dX10_policy_119 rfl ?_
                    obtain ⟨q112, f112, hq112, hl112, hf112⟩ := ts_ia hS110.1 m111 hk_44
                    refine rs_iast q112 hS110 hq112 hl112 hf112 hk_44 rfl rfl r94 (by decide) (by decide) (rg_any x4_) dX10_policy_121 (fun w113 f114 hS114 hl114 hf114 hu114 hn114 => ?_)
                    refine rn_aload_n (i := 0) dX10_policy_122 rfl rfl ?_
                    obtain ⟨o115, hx115, m115⟩ := fs_r hf4 14 rfl
                    refine rn_get q1 kg_SGModel_37 ((hn114 _ (ts_ne hq112 hq1 rfl)).trans ((hn110 _ (ts_ne hq108 hq1 rfl)).trans ((hn106 _ (ts_ne hq104 hq1 rfl)).trans ((hn102 _ (ts_ne hq100 hq1 rfl)).trans hl4)))) hx115 dX10_policy_123 ?_
                    refine rn_iload dX10_policy_126 rfl ?_
                    refine rn_iload dX10_policy_128 rfl ?_
                    obtain ⟨q116, f116, hq116, hl116, hf116⟩ := ts_ia hS114.1 m115 hk_45
                    refine rs_iast q116 hS114 hq116 hl116 hf116 hk_45 rfl rfl r94 (by decide) (by decide) (rg_w r66 (by decide) (by decide)) dX10_policy_130 (fun w117 f118 hS118 hl118 hf118 hu118 hn118 => ?_)
                    refine rn_aload_n (i := 0) dX10_policy_131 rfl rfl ?_
                    obtain ⟨o119, hx119, m119⟩ := fs_r hf4 18 rfl
                    refine rn_get q1 kg_SGModel_49 ((hn118 _ (ts_ne hq116 hq1 rfl)).trans ((hn114 _ (ts_ne hq112 hq1 rfl)).trans ((hn110 _ (ts_ne hq108 hq1 rfl)).trans ((hn106 _ (ts_ne hq104 hq1 rfl)).trans ((hn102 _ (ts_ne hq100 hq1 rfl)).trans hl4))))) hx119 dX10_policy_132 ?_
                    refine rn_iload dX10_policy_135 rfl ?_
                    refine rn_iload dX10_policy_137 rfl ?_
                    obtain ⟨q120, f120, hq120, hl120, hf120⟩ := ts_ia hS118.1 m119 hk_49
                    refine rs_iast q120 hS118 hq120 hl120 hf120 hk_49 rfl rfl r94 (by decide) (by decide) (rg_w r87 (by decide) (by decide)) dX10_policy_139 (fun w121 f122 hS122 hl122 hf122 hu122 hn122 => ?_)
                    refine rn_aload_n (i := 0) dX10_policy_140 rfl rfl ?_
                    obtain ⟨o123, hx123, m123⟩ := fs_r hf4 15 rfl
                    refine rn_get q1 kg_SGModel_40 ((hn122 _ (ts_ne hq120 hq1 rfl)).trans ((hn118 _ (ts_ne hq116 hq1 rfl)).trans ((hn114 _ (ts_ne hq112 hq1 rfl)).trans ((hn110 _ (ts_ne hq108 hq1 rfl)).trans ((hn106 _ (ts_ne hq104 hq1 rfl)).trans ((hn102 _ (ts_ne hq100 hq1 rfl)).trans hl4)))))) hx123 dX10_policy_141 ?_
                    refine rn_iload dX10_policy_144 rfl ?_
                    refine rn_aload_n (i := 0) dX10_policy_146 rfl rfl ?_
                    obtain ⟨x124, hx124, rx124⟩ := fs_i hf4 19 rfl
                    refine rn_get q1 kg_SGModel_191 ((hn122 _ (ts_ne hq120 hq1 rfl)).trans ((hn118 _ (ts_ne hq116 hq1 rfl)).trans ((hn114 _ (ts_ne hq112 hq1 rfl)).trans ((hn110 _ (ts_ne hq108 hq1 rfl)).trans ((hn106 _ (ts_ne hq104 hq1 rfl)).trans ((hn102 _ (ts_ne hq100 hq1 rfl)).trans hl4)))))) hx124 dX10_policy_147 ?_
                    obtain ⟨q125, f125, hq125, hl125, hf125⟩ := ts_ia hS122.1 m123 hk_46
                    refine rs_iast q125 hS122 hq125 hl125 hf125 hk_46 rfl rfl r94 (by decide) (by decide) rx124 dX10_policy_150 (fun w126 f127 hS127 hl127 hf127 hu127 hn127 => ?_)
                    refine rn_aload_n (i := 0) dX10_policy_151 rfl rfl ?_
                    obtain ⟨o128, hx128, m128⟩ := fs_r hf4 16 rfl
                    refine rn_get q1 kg_SGModel_43 ((hn127 _ (ts_ne hq125 hq1 rfl)).trans ((hn122 _ (ts_ne hq120 hq1 rfl)).trans ((hn118 _ (ts_ne hq116 hq1 rfl)).trans ((hn114 _ (ts_ne hq112 hq1 rfl)).trans ((hn110 _ (ts_ne hq108 hq1 rfl)).trans ((hn106 _ (ts_ne hq104 hq1 rfl)).trans ((hn102 _ (ts_ne hq100 hq1 rfl)).trans hl4))))))) hx128 dX10_policy_152 ?_
                    refine rn_iload dX10_policy_155 rfl ?_
                    refine rn_aload_n (i := 0) dX10_policy_157 rfl rfl ?_
                    obtain ⟨x129, hx129, rx129⟩ := fs_i hf4 20 rfl
                    refine rn_get q1 kg_SGModel_194 ((hn127 _ (ts_ne hq125 hq1 rfl)).trans ((hn122 _ (ts_ne hq120 hq1 rfl)).trans ((hn118 _ (ts_ne hq116 hq1 rfl)).trans ((hn114 _ (ts_ne hq112 hq1 rfl)).trans ((hn110 _ (ts_ne hq108 hq1 rfl)).trans ((hn106 _ (ts_ne hq104 hq1 rfl)).trans ((hn102 _ (ts_ne hq100 hq1 rfl)).trans hl4))))))) hx129 dX10_policy_158 ?_
                    obtain ⟨q130, f130, hq130, hl130, hf130⟩ := ts_ia hS127.1 m128 hk_47
                    refine rs_iast q130 hS127 hq130 hl130 hf130 hk_47 rfl rfl r94 (by decide) (by decide) rx129 dX10_policy_161 (fun w131 f132 hS132 hl132 hf132 hu132 hn132 => ?_)
                    have hl133 := ((hn132 _ (ts_ne hq130 hq1 rfl)).trans ((hn127 _ (ts_ne hq125 hq1 rfl)).trans ((hn122 _ (ts_ne hq120 hq1 rfl)).trans ((hn118 _ (ts_ne hq116 hq1 rfl)).trans ((hn114 _ (ts_ne hq112 hq1 rfl)).trans ((hn110 _ (ts_ne hq108 hq1 rfl)).trans ((hn106 _ (ts_ne hq104 hq1 rfl)).trans ((hn102 _ (ts_ne hq100 hq1 rfl)).trans hl4))))))))
                    refine rn_aload_n (i := 0) dX10_policy_162 rfl rfl ?_
                    obtain ⟨o134, hx134, m134⟩ := fs_r hf4 17 rfl
                    refine rn_get q1 kg_SGModel_46 hl133 hx134 dX10_policy_163 ?_
                    refine rn_iload dX10_policy_166 rfl ?_
                    refine rn_aload_n (i := 0) dX10_policy_168 rfl rfl ?_
                    obtain ⟨x135, hx135, rx135⟩ := fs_i hf4 21 rfl
                    refine rn_get q1 kg_SGModel_53 hl133 hx135 dX10_policy_169 ?_
                    obtain ⟨q136, f136, hq136, hl136, hf136⟩ := ts_ia hS132.1 m134 hk_48
                    refine rs_iast q136 hS132 hq136 hl136 hf136 hk_48 rfl rfl r94 (by decide) (by decide) rx135 dX10_policy_172 (fun w137 f138 hS138 hl138 hf138 hu138 hn138 => ?_)
                    have hl139 := ((hn138 _ (ts_ne hq136 hq100 rfl)).trans ((hn132 _ (ts_ne hq130 hq100 rfl)).trans ((hn127 _ (ts_ne hq125 hq100 rfl)).trans ((hn122 _ (ts_ne hq120 hq100 rfl)).trans ((hn118 _ (ts_ne hq116 hq100 rfl)).trans ((hn114 _ (ts_ne hq112 hq100 rfl)).trans ((hn110 _ (ts_ne hq108 hq100 rfl)).trans ((hn106 _ (ts_ne hq104 hq100 rfl)).trans hl102))))))))
                    refine rn_aload_n (i := 0) dX10_policy_173 rfl rfl ?_
                    refine rn_iconst (v := (0 : Int32)) dX10_policy_174 (by decide) ?_
                    refine rs_put q1 (kp_SGModel_191 _) hS138 hq1 ((hn138 _ (ts_ne hq136 hq1 rfl)).trans hl133) hf4 hk_30 rfl rfl (tv_i (rg_w rk_0 (by decide) (by decide))) rfl rfl dX10_policy_175 (fun w140 fs141 hS141 hl141 hf141 hx141 ho141 hn141 => ?_)
                    have hl142 := ((hn141 _ (ts_ne hq1 hq104 rfl)).trans ((hn138 _ (ts_ne hq136 hq104 rfl)).trans ((hn132 _ (ts_ne hq130 hq104 rfl)).trans ((hn127 _ (ts_ne hq125 hq104 rfl)).trans ((hn122 _ (ts_ne hq120 hq104 rfl)).trans ((hn118 _ (ts_ne hq116 hq104 rfl)).trans ((hn114 _ (ts_ne hq112 hq104 rfl)).trans ((hn110 _ (ts_ne hq108 hq104 rfl)).trans hl106))))))))
                    refine rn_aload_n (i := 0) dX10_policy_178 rfl rfl ?_
                    refine rn_iconst (v := (0 : Int32)) dX10_policy_179 (by decide) ?_
                    refine rs_put q1 (kp_SGModel_194 _) hS141 hq1 hl141 hf141 hk_30 rfl rfl (tv_i (rg_w rk_0 (by decide) (by decide))) rfl rfl dX10_policy_180 (fun w143 fs144 hS144 hl144 hf144 hx144 ho144 hn144 => ?_)
                    have hl145 := ((hn144 _ (ts_ne hq1 hq108 rfl)).trans ((hn141 _ (ts_ne hq1 hq108 rfl)).trans ((hn138 _ (ts_ne hq136 hq108 rfl)).trans ((hn132 _ (ts_ne hq130 hq108 rfl)).trans ((hn127 _ (ts_ne hq125 hq108 rfl)).trans ((hn122 _ (ts_ne hq120 hq108 rfl)).trans ((hn118 _ (ts_ne hq116 hq108 rfl)).trans ((hn114 _ (ts_ne hq112 hq108 rfl)).trans hl110))))))))
                    refine rn_aload_n (i := 0) dX10_policy_183 rfl rfl ?_
                    refine rn_ldc (v := (65535 : Int32)) wd_1093 dX10_policy_184 ?_
                    refine rs_put q1 (kp_SGModel_53 _) hS144 hq1 hl144 hf144 hk_30 rfl rfl (tv_i (rg_w rk_65535 (by decide) (by decide))) rfl rfl dX10_policy_186 (fun w146 fs147 hS147 hl147 hf147 hx147 ho147 hn147 => ?_)
                    have hl148 := ((hn147 _ (ts_ne hq1 hq112 rfl)).trans ((hn144 _ (ts_ne hq1 hq112 rfl)).trans ((hn141 _ (ts_ne hq1 hq112 rfl)).trans ((hn138 _ (ts_ne hq136 hq112 rfl)).trans ((hn132 _ (ts_ne hq130 hq112 rfl)).trans ((hn127 _ (ts_ne hq125 hq112 rfl)).trans ((hn122 _ (ts_ne hq120 hq112 rfl)).trans ((hn118 _ (ts_ne hq116 hq112 rfl)).trans hl114))))))))
                    refine rn_aload_n (i := 0) dX10_policy_189 rfl rfl ?_
                    refine rn_dup dX10_policy_190 rfl ?_
                    refine rn_get q1 kg_SGModel_197 hl147 ((ho147 9 (by decide)).trans ((ho144 9 (by decide)).trans ((ho141 9 (by decide)).trans ((ho4 9 (by decide)).trans hx2)))) dX10_policy_191 ?_
                    refine rn_iconst (v := (1 : Int32)) dX10_policy_194 (by decide) ?_
                    refine rs_addC (1) (24) r94 rk_1 dX10_policy_195 (by decide) (fun v149 ev149 rv149 => ?_)
                    refine rs_put q1 (kp_SGModel_197 _) hS147 hq1 hl147 hf147 hk_30 rfl rfl (tv_i (rg_w rv149 (by decide) (by decide))) rfl rfl dX10_policy_196 (fun w150 fs151 hS151 hl151 hf151 hx151 ho151 hn151 => ?_)
                    have hl152 := ((hn151 _ (ts_ne hq1 hq116 rfl)).trans ((hn147 _ (ts_ne hq1 hq116 rfl)).trans ((hn144 _ (ts_ne hq1 hq116 rfl)).trans ((hn141 _ (ts_ne hq1 hq116 rfl)).trans ((hn138 _ (ts_ne hq136 hq116 rfl)).trans ((hn132 _ (ts_ne hq130 hq116 rfl)).trans ((hn127 _ (ts_ne hq125 hq116 rfl)).trans ((hn122 _ (ts_ne hq120 hq116 rfl)).trans hl118))))))))
                    refine rn_aload_n (i := 0) dX10_policy_199 rfl rfl ?_
                    refine rn_get q1 kg_SGModel_197 hl151 hx151 dX10_policy_200 ?_
                    exact rn_iret dX10_policy_203 rfl rfl (rq_in ⟨hS151, v149, rfl, (rg_w rv149 (by decide) (by decide)), ⟨(0 : Int32), x2, v149, ⟨q1, o0_, fs151, hq1, hl151, ((ho151 0 (by decide)).trans ((ho147 0 (by decide)).trans ((ho144 0 (by decide)).trans ((ho141 0 (by decide)).trans hx4))))⟩, ⟨q1, o0_, fs1, hq1, hl1, hx2⟩, ⟨q1, o0_, fs151, hq1, hl151, hx151⟩, Or.inl ⟨rfl, (by unfold pok; have := rk_4.1; have := rk_4.2; have := rk_3.1; have := rk_3.2; have := rk_m2.1; have := rk_m2.2; have := rk_32.1; have := rk_32.2; have := rk_1.1; have := rk_1.2; have := rk_0.1; have := rk_0.2; omega), by have := rk_24.1; have := rk_24.2; have := r94.1; have := r94.2; omega, by have := rv149.1; have := rv149.2; have := rk_1.1; have := rk_1.2; have := r94.1; have := r94.2; omega, rfl⟩⟩⟩)
                  · have ch93 := cv_eq h93
                    have r153 : Rg (24) (24) x2 := rf_eqx ch93 rx2 rk_24 (by decide) (by decide)
                    refine rn_iconst (v := (1 : Int32)) dX10_policy_69 (by decide) ?_
                    refine rn_goto (tgt := 74) dX10_policy_70 (by decide) ?_
                    refine rn_iconst (v := (2 : Int32)) dX10_policy_74 (by decide) ?_
                    refine rn_inV (d' := 0) (z' := 0) [.int (1 : Int32), .int (2 : Int32)] kl_SGModel_171 dX10_policy_75 q1 hl4 rfl rfl rfl (Nat.le_of_ble_eq_true rfl) (Nat.le_of_ble_eq_true rfl) (Nat.le_of_ble_eq_true rfl) (Nat.le_of_ble_eq_true rfl) ?_
                    refine rn_lv [(0, .ref o0_), (1, .int (1 : Int32)), (2, .int (2 : Int32))] rfl ?_
                    refine rn_aload_n (i := 0) dX10_refuses_0 rfl rfl ?_
                    refine rn_get q1 kg_SGModel_137 hl4 hx4 dX10_refuses_1 ?_
                    refine rn_if_ne (tgt := 16) dX10_refuses_4 (by decide) (fun h154 => (cx_ne (cv_ne h154) rk_0 rk_0 (by decide)).elim) (fun h154 => ?_)
                    refine rn_iload_n (i := 1) dX10_refuses_7 rfl rfl ?_
                    refine rn_if_eq (tgt := 16) dX10_refuses_8 (by decide) (fun h155 => (cx_eq (cv_eq h155) rk_1 rk_0 (by decide)).elim) (fun h155 => ?_)
                    refine rn_aload_n (i := 0) dX10_refuses_11 rfl rfl ?_
                    refine rn_iload_n (i := 2) dX10_refuses_12 rfl rfl ?_
                    refine rs_put q1 (kp_SGModel_137 _) hS4 hq1 hl4 hf4 hk_30 rfl rfl (tv_i (rg_w rk_2 (by decide) (by decide))) rfl rfl dX10_refuses_13 (fun w156 fs157 hS157 hl157 hf157 hx157 ho157 hn157 => ?_)
                    refine rn_aload_n (i := 0) dX10_refuses_16 rfl rfl ?_
                    refine rn_get q1 kg_SGModel_137 hl157 hx157 dX10_refuses_17 ?_
                    refine rn_if_le (tgt := 27) dX10_refuses_20 (by decide) (fun h158 => (cx_le (cv_le h158) rk_2 rk_0 (by decide)).elim) (fun h158 => ?_)
                    refine rn_iconst (v := (1 : Int32)) dX10_refuses_23 (by decide) ?_
                    refine rn_goto (tgt := 28) dX10_refuses_24 (by decide) ?_
                    refine rn_iret dX10_refuses_28 rfl rfl (rq_in ?_)
                    refine rn_stk [.int (1 : Int32)] rfl ?_
                    refine rn_if_eq (tgt := 83) dX10_policy_78 (by decide) (fun h159 => (cx_eq (cv_eq h159) rk_1 rk_0 (by decide)).elim) (fun h159 => ?_)
                    refine rn_iconst (v := (0 : Int32)) dX10_policy_81 (by decide) ?_
                    exact rn_iret dX10_policy_82 rfl rfl (rq_in ⟨hS157, (0 : Int32), rfl, (rg_w rk_0 (by decide) (by decide)), ⟨(2 : Int32), x2, x2, ⟨q1, o0_, fs157, hq1, hl157, hx157⟩, ⟨q1, o0_, fs1, hq1, hl1, hx2⟩, ⟨q1, o0_, fs157, hq1, hl157, ((ho157 9 (by decide)).trans ((ho4 9 (by decide)).trans hx2))⟩, Or.inr (Or.inr ⟨rfl, (by unfold pok; have := rk_4.1; have := rk_4.2; have := rk_3.1; have := rk_3.2; have := rk_m2.1; have := rk_m2.2; have := rk_32.1; have := rk_32.2; have := rk_1.1; have := rk_1.2; have := rk_0.1; have := rk_0.2; omega), by have := rk_24.1; have := rk_24.2; have := r153.1; have := r153.2; omega, rfl⟩)⟩⟩)
