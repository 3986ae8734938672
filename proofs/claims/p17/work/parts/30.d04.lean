abbrev q_t_X10_meant (G : rn_G) (S : ts_S) (ws : va_W) : rn_R → va_W → Prop := rQ (fun v w => St G S [30] ws S w ∧ (v = none ∧ fK1 4 S ws w)) (fun E w => False)
set_option maxRecDepth 20000 in
set_option maxHeartbeats 4000000 in
theorem t_X10_meant (G : rn_G) (S : ts_S) (ws : va_W) (hW : ts_W G S ws) (o0_ : Nat) (m0_ : (o0_, 30) ∈ S) (x1_ : Int32) (x2_ : Int32) (x3_ : Int32) : Rn G mX10_meant 1 22 0 0 0 (lv_args 0 [.ref o0_, .int x1_, .int x2_, .int x3_]) [] ws (q_t_X10_meant G S ws ) := by
  have hS0 : St G S [30] ws S ws := St.rf hW
  have fk0 : fK1 4 S ws ws := fun v h => h
  refine rn_lv [(0, .ref o0_), (1, .int x1_), (2, .int x2_), (3, .int x3_)] rfl ?_
  refine rn_aload_n (i := 0) dX10_meant_0 rfl rfl ?_
  refine rn_iconst (v := (0 : Int32)) dX10_meant_1 (by decide) ?_
  obtain ⟨q1, fs1, hq1, hl1, hf1⟩ := ts_obj hS0.1 m0_ hk_30
  refine rs_put q1 (kp_SGModel_137 _) hS0 hq1 hl1 hf1 hk_30 rfl rfl (tv_i (rg_w rk_0 (by decide) (by decide))) rfl rfl dX10_meant_2 (fun w2 fs3 hS3 hl3 hf3 hx3 ho3 hn3 => ?_)
  have fk4 : fK1 4 S ws w2 := fk_put fk0 hS0.1 hq1 hl1 hl3 ho3 (by decide)
  refine rn_aload_n (i := 0) dX10_meant_5 rfl rfl ?_
  refine rn_iload_n (i := 1) dX10_meant_6 rfl rfl ?_
  refine rn_iconst (v := (0 : Int32)) dX10_meant_7 (by decide) ?_
  refine rn_sipush (v := (255 : Int32)) dX10_meant_8 (by decide) ?_
  refine rn_inS (d' := 0) (z' := 0) [.int x1_, .int (0 : Int32), .int (255 : Int32)] kl_SGModel_179 dX10_meant_11 rfl rfl (Nat.le_of_ble_eq_true rfl) (Nat.le_of_ble_eq_true rfl) (Nat.le_of_ble_eq_true rfl) (Nat.le_of_ble_eq_true rfl) ?_
  refine rn_lv [(0, .int x1_), (1, .int (0 : Int32)), (2, .int (255 : Int32))] rfl ?_
  refine rn_iload_n (i := 0) dX10_in_0 rfl rfl ?_
  refine rn_iload_n (i := 1) dX10_in_1 rfl rfl ?_
  refine rn_icmp_lt (tgt := 14) dX10_in_2 (by decide) (fun h5 => ?_) (fun h5 => ?_)
  · have ch5 := cv_lt h5
    have r6 : Rg (-2147483648) (-1) x1_ := rf_ltx ch5 (rg_any x1_) rk_0 (by decide)
    refine rn_iconst (v := (0 : Int32)) dX10_in_14 (by decide) ?_
    refine rn_iret dX10_in_15 rfl rfl (rq_in ?_)
    refine rn_stk [.int (0 : Int32), .ref o0_] rfl ?_
    refine rn_if_eq (tgt := 36) dX10_meant_14 (by decide) (fun h7 => ?_) (fun h7 => (cx_ne (cv_ne h7) rk_0 rk_0 (by decide)).elim)
    refine rn_iconst (v := (1 : Int32)) dX10_meant_36 (by decide) ?_
    refine rn_goto (tgt := 41) dX10_meant_37 (by decide) ?_
    refine rn_iconst (v := (1 : Int32)) dX10_meant_41 (by decide) ?_
    refine rn_inV (d' := 0) (z' := 0) [.int (1 : Int32), .int (1 : Int32)] kl_SGModel_171 dX10_meant_42 q1 hl3 rfl rfl rfl (Nat.le_of_ble_eq_true rfl) (Nat.le_of_ble_eq_true rfl) (Nat.le_of_ble_eq_true rfl) (Nat.le_of_ble_eq_true rfl) ?_
    refine rn_lv [(0, .ref o0_), (1, .int (1 : Int32)), (2, .int (1 : Int32))] rfl ?_
    refine rn_aload_n (i := 0) dX10_refuses_0 rfl rfl ?_
    refine rn_get q1 kg_SGModel_137 hl3 hx3 dX10_refuses_1 ?_
    refine rn_if_ne (tgt := 16) dX10_refuses_4 (by decide) (fun h8 => (cx_ne (cv_ne h8) rk_0 rk_0 (by decide)).elim) (fun h8 => ?_)
    refine rn_iload_n (i := 1) dX10_refuses_7 rfl rfl ?_
    refine rn_if_eq (tgt := 16) dX10_refuses_8 (by decide) (fun h9 => (cx_eq (cv_eq h9) rk_1 rk_0 (by decide)).elim) (fun h9 => ?_)
    refine rn_aload_n (i := 0) dX10_refuses_11 rfl rfl ?_
    refine rn_iload_n (i := 2) dX10_refuses_12 rfl rfl ?_
    refine rs_put q1 (kp_SGModel_137 _) hS3 hq1 hl3 hf3 hk_30 rfl rfl (tv_i (rg_w rk_1 (by decide) (by decide))) rfl rfl dX10_refuses_13 (fun w10 fs11 hS11 hl11 hf11 hx11 ho11 hn11 => ?_)
    have fk12 : fK1 4 S ws w10 := fk_put fk4 hS3.1 hq1 hl3 hl11 ho11 (by decide)
    refine rn_aload_n (i := 0) dX10_refuses_16 rfl rfl ?_
    refine rn_get q1 kg_SGModel_137 hl11 hx11 dX10_refuses_17 ?_
    refine rn_if_le (tgt := 27) dX10_refuses_20 (by decide) (fun h13 => (cx_le (cv_le h13) rk_1 rk_0 (by decide)).elim) (fun h13 => ?_)
    refine rn_iconst (v := (1 : Int32)) dX10_refuses_23 (by decide) ?_
    refine rn_goto (tgt := 28) dX10_refuses_24 (by decide) ?_
    refine rn_iret dX10_refuses_28 rfl rfl (rq_in ?_)
    refine rn_stk [.int (1 : Int32)] rfl ?_
    refine rn_if_ne (tgt := 63) dX10_meant_45 (by decide) (fun h14 => ?_) (fun h14 => (cx_eq (cv_eq h14) rk_1 rk_0 (by decide)).elim)
    exact rn_vret dX10_meant_63 rfl (rq_in ⟨hS11, rfl, fk12⟩)
  · have ch5 := cv_nlt h5
    have r15 : Rg (0) (2147483647) x1_ := rf_ley ch5 rk_0 (rg_any x1_) (by decide)
    refine rn_iload_n (i := 0) dX10_in_5 rfl rfl ?_
    refine rn_iload_n (i := 2) dX10_in_6 rfl rfl ?_
    refine rn_icmp_gt (tgt := 14) dX10_in_7 (by decide) (fun h16 => ?_) (fun h16 => ?_)
    · have ch16 := cv_lt h16
      have r17 : Rg (256) (2147483647) x1_ := rf_lty ch16 rk_255 r15 (by decide)
      refine rn_iconst (v := (0 : Int32)) dX10_in_14 (by decide) ?_
      refine rn_iret dX10_in_15 rfl rfl (rq_in ?_)
      refine rn_stk [.int (0 : Int32), .ref o0_] rfl ?_
      refine rn_if_eq (tgt := 36) dX10_meant_14 (by decide) (fun h18 => ?_) (fun h18 => (cx_ne (cv_ne h18) rk_0 rk_0 (by decide)).elim)
      refine rn_iconst (v := (1 : Int32)) dX10_meant_36 (by decide) ?_
      refine rn_goto (tgt := 41) dX10_meant_37 (by decide) ?_
      refine rn_iconst (v := (1 : Int32)) dX10_meant_41 (by decide) ?_
      refine rn_inV (d' := 0) (z' := 0) [.int (1 : Int32), .int (1 : Int32)] kl_SGModel_171 dX10_meant_42 q1 hl3 rfl rfl rfl (Nat.le_of_ble_eq_true rfl) (Nat.le_of_ble_eq_true rfl) (Nat.le_of_ble_eq_true rfl) (Nat.le_of_ble_eq_true rfl) ?_
      refine rn_lv [(0, .ref o0_), (1, .int (1 : Int32)), (2, .int (1 : Int32))] rfl ?_
      refine rn_aload_n (i := 0) dX10_refuses_0 rfl rfl ?_
      refine rn_get q1 kg_SGModel_137 hl3 hx3 dX10_refuses_1 ?_
      refine rn_if_ne (tgt := 16) dX10_refuses_4 (by decide) (fun h19 => (cx_ne (cv_ne h19) rk_0 rk_0 (by decide)).elim) (fun h19 => ?_)
      refine rn_iload_n (i := 1) dX10_refuses_7 rfl rfl ?_
      refine rn_if_eq (tgt := 16) dX10_refuses_8 (by decide) (fun h20 => (cx_eq (cv_eq h20) rk_1 rk_0 (by decide)).elim) (fun h20 => ?_)
      refine rn_aload_n (i := 0) dX10_refuses_11 rfl rfl ?_
      refine rn_iload_n (i := 2) dX10_refuses_12 rfl rfl ?_
      refine rs_put q1 (kp_SGModel_137 _) hS3 hq1 hl3 hf3 hk_30 rfl rfl (tv_i (rg_w rk_1 (by decide) (by decide))) rfl rfl dX10_refuses_13 (fun w21 fs22 hS22 hl22 hf22 hx22 ho22 hn22 => ?_)
      have fk23 : fK1 4 S ws w21 := fk_put fk4 hS3.1 hq1 hl3 hl22 ho22 (by decide)
      refine rn_aload_n (i := 0) dX10_refuses_16 rfl rfl ?_
      refine rn_get q1 kg_SGModel_137 hl22 hx22 dX10_refuses_17 ?_
      refine rn_if_le (tgt := 27) dX10_refuses_20 (by decide) (fun h24 => (cx_le (cv_le h24) rk_1 rk_0 (by decide)).elim) (fun h24 => ?_)
      refine rn_iconst (v := (1 : Int32)) dX10_refuses_23 (by decide) ?_
      refine rn_goto (tgt := 28) dX10_refuses_24 (by decide) ?_
      refine rn_iret dX10_refuses_28 rfl rfl (rq_in ?_)
      refine rn_stk [.int (1 : Int32)] rfl ?_
      refine rn_if_ne (tgt := 63) dX10_meant_45 (by decide) (fun h25 => ?_) (fun h25 => (cx_eq (cv_eq h25) rk_1 rk_0 (by decide)).elim)
      exact rn_vret dX10_meant_63 rfl (rq_in ⟨hS22, rfl, fk23⟩)
    · have ch16 := cv_nlt h16
      have r26 : Rg (0) (255) x1_ := rf_lex ch16 r15 rk_255 (by decide)
      refine rn_iconst (v := (1 : Int32)) dX10_in_10 (by decide) ?_
      refine rn_goto (tgt := 15) dX10_in_11 (by decide) ?_
      refine rn_iret dX10_in_15 rfl rfl (rq_in ?_)
      refine rn_stk [.int (1 : Int32), .ref o0_] rfl ?_
      refine rn_if_eq (tgt := 36) dX10_meant_14 (by decide) (fun h27 => (cx_eq (cv_eq h27) rk_1 rk_0 (by decide)).elim) (fun h27 => ?_)
      refine rn_iload_n (i := 3) dX10_meant_17 rfl rfl ?_
      refine rn_iconst (v := (0 : Int32)) dX10_meant_18 (by decide) ?_
      refine rn_ldc (v := (65535 : Int32)) wd_1093 dX10_meant_19 ?_
      refine rn_inS (d' := 0) (z' := 0) [.int x3_, .int (0 : Int32), .int (65535 : Int32)] kl_SGModel_179 dX10_meant_21 rfl rfl (Nat.le_of_ble_eq_true rfl) (Nat.le_of_ble_eq_true rfl) (Nat.le_of_ble_eq_true rfl) (Nat.le_of_ble_eq_true rfl) ?_
      refine rn_lv [(0, .int x3_), (1, .int (0 : Int32)), (2, .int (65535 : Int32))] rfl ?_
      refine rn_iload_n (i := 0) dX10_in_0 rfl rfl ?_
      refine rn_iload_n (i := 1) dX10_in_1 rfl rfl ?_
      refine rn_icmp_lt (tgt := 14) dX10_in_2 (by decide) (fun h28 => ?_) (fun h28 => ?_)
      · have ch28 := cv_lt h28
        have r29 : Rg (-2147483648) (-1) x3_ := rf_ltx ch28 (rg_any x3_) rk_0 (by decide)
        refine rn_iconst (v := (0 : Int32)) dX10_in_14 (by decide) ?_
        refine rn_iret dX10_in_15 rfl rfl (rq_in ?_)
        refine rn_stk [.int (0 : Int32), .ref o0_] rfl ?_
        refine rn_if_eq (tgt := 36) dX10_meant_24 (by decide) (fun h30 => ?_) (fun h30 => (cx_ne (cv_ne h30) rk_0 rk_0 (by decide)).elim)
        refine rn_iconst (v := (1 : Int32)) dX10_meant_36 (by decide) ?_
        refine rn_goto (tgt := 41) dX10_meant_37 (by decide) ?_
        refine rn_iconst (v := (1 : Int32)) dX10_meant_41 (by decide) ?_
        refine rn_inV (d' := 0) (z' := 0) [.int (1 : Int32), .int (1 : Int32)] kl_SGModel_171 dX10_meant_42 q1 hl3 rfl rfl rfl (Nat.le_of_ble_eq_true rfl) (Nat.le_of_ble_eq_true rfl) (Nat.le_of_ble_eq_true rfl) (Nat.le_of_ble_eq_true rfl) ?_
        refine rn_lv [(0, .ref o0_), (1, .int (1 : Int32)), (2, .int (1 : Int32))] rfl ?_
        refine rn_aload_n (i := 0) dX10_refuses_0 rfl rfl ?_
        refine rn_get q1 kg_SGModel_137 hl3 hx3 dX10_refuses_1 ?_
        refine rn_if_ne (tgt := 16) dX10_refuses_4 (by decide) (fun h31 => (cx_ne (cv_ne h31) rk_0 rk_0 (by decide)).elim) (fun h31 => ?_)
        refine rn_iload_n (i := 1) dX10_refuses_7 rfl rfl ?_
        refine rn_if_eq (tgt := 16) dX10_refuses_8 (by decide) (fun h32 => (cx_eq (cv_eq h32) rk_1 rk_0 (by decide)).elim) (fun h32 => ?_)
        refine rn_aload_n (i := 0) dX10_refuses_11 rfl rfl ?_
        refine rn_iload_n (i := 2) dX10_refuses_12 rfl rfl ?_
        refine rs_put q1 (kp_SGModel_137 _) hS3 hq1 hl3 hf3 hk_30 rfl rfl (tv_i (rg_w rk_1 (by decide) (by decide))) rfl rfl dX10_refuses_13 (fun w33 fs34 hS34 hl34 hf34 hx34 ho34 hn34 => ?_)
        have fk35 : fK1 4 S ws w33 := fk_put fk4 hS3.1 hq1 hl3 hl34 ho34 (by decide)
        refine rn_aload_n (i := 0) dX10_refuses_16 rfl rfl ?_
        refine rn_get q1 kg_SGModel_137 hl34 hx34 dX10_refuses_17 ?_
        refine rn_if_le (tgt := 27) dX10_refuses_20 (by decide) (fun h36 => (cx_le (cv_le h36) rk_1 rk_0 (by decide)).elim) (fun h36 => ?_)
        refine rn_iconst (v := (1 : Int32)) dX10_refuses_23 (by decide) ?_
        refine rn_goto (tgt := 28) dX10_refuses_24 (by decide) ?_
        refine rn_iret dX10_refuses_28 rfl rfl (rq_in ?_)
        refine rn_stk [.int (1 : Int32)] rfl ?_
        refine rn_if_ne (tgt := 63) dX10_meant_45 (by decide) (fun h37 => ?_) (fun h37 => (cx_eq (cv_eq h37) rk_1 rk_0 (by decide)).elim)
        exact rn_vret dX10_meant_63 rfl (rq_in ⟨hS34, rfl, fk35⟩)
      · have ch28 := cv_nlt h28
        have r38 : Rg (0) (2147483647) x3_ := rf_ley ch28 rk_0 (rg_any x3_) (by decide)
        refine rn_iload_n (i := 0) dX10_in_5 rfl rfl ?_
        refine rn_iload_n (i := 2) dX10_in_6 rfl rfl ?_
        refine rn_icmp_gt (tgt := 14) dX10_in_7 (by decide) (fun h39 => ?_) (fun h39 => ?_)
        · have ch39 := cv_lt h39
          have r40 : Rg (65536) (2147483647) x3_ := rf_lty ch39 rk_65535 r38 (by decide)
          refine rn_iconst (v := (0 : Int32)) dX10_in_14 (by decide) ?_
          refine rn_iret dX10_in_15 rfl rfl (rq_in ?_)
          refine rn_stk [.int (0 : Int32), .ref o0_] rfl ?_
          refine rn_if_eq (tgt := 36) dX10_meant_24 (by decide) (fun h41 => ?_) (fun h41 => (cx_ne (cv_ne h41) rk_0 rk_0 (by decide)).elim)
          refine rn_iconst (v := (1 : Int32)) dX10_meant_36 (by decide) ?_
          refine rn_goto (tgt := 41) dX10_meant_37 (by decide) ?_
          refine rn_iconst (v := (1 : Int32)) dX10_meant_41 (by decide) ?_
          refine rn_inV (d' := 0) (z' := 0) [.int (1 : Int32), .int (1 : Int32)] kl_SGModel_171 dX10_meant_42 q1 hl3 rfl rfl rfl (Nat.le_of_ble_eq_true rfl) (Nat.le_of_ble_eq_true rfl) (Nat.le_of_ble_eq_true rfl) (Nat.le_of_ble_eq_true rfl) ?_
          refine rn_lv [(0, .ref o0_), (1, .int (1 : Int32)), (2, .int (1 : Int32))] rfl ?_
          refine rn_aload_n (i := 0) dX10_refuses_0 rfl rfl ?_
          refine rn_get q1 kg_SGModel_137 hl3 hx3 dX10_refuses_1 ?_
          refine rn_if_ne (tgt := 16) dX10_refuses_4 (by decide) (fun h42 => (cx_ne (cv_ne h42) rk_0 rk_0 (by decide)).elim) (fun h42 => ?_)
          refine rn_iload_n (i := 1) dX10_refuses_7 rfl rfl ?_
          refine rn_if_eq (tgt := 16) dX10_refuses_8 (by decide) (fun h43 => (cx_eq (cv_eq h43) rk_1 rk_0 (by decide)).elim) (fun h43 => ?_)
          refine rn_aload_n (i := 0) dX10_refuses_11 rfl rfl ?_
          refine rn_iload_n (i := 2) dX10_refuses_12 rfl rfl ?_
          refine rs_put q1 (kp_SGModel_137 _) hS3 hq1 hl3 hf3 hk_30 rfl rfl (tv_i (rg_w rk_1 (by decide) (by decide))) rfl rfl dX10_refuses_13 (fun w44 fs45 hS45 hl45 hf45 hx45 ho45 hn45 => ?_)
          have fk46 : fK1 4 S ws w44 := fk_put fk4 hS3.1 hq1 hl3 hl45 ho45 (by decide)
          refine rn_aload_n (i := 0) dX10_refuses_16 rfl rfl ?_
          refine rn_get q1 kg_SGModel_137 hl45 hx45 dX10_refuses_17 ?_
          refine rn_if_le (tgt := 27) dX10_refuses_20 (by decide) (fun h47 => (cx_le (cv_le h47) rk_1 rk_0 (by decide)).elim) (fun h47 => ?_)
          refine rn_iconst (v := (1 : Int32)) dX10_refuses_23 (by decide) ?_
          refine rn_goto (tgt := 28) dX10_refuses_24 (by decide) ?_
          refine rn_iret dX10_refuses_28 rfl rfl (rq_in ?_)
          refine rn_stk [.int (1 : Int32)] rfl ?_
          refine rn_if_ne (tgt := 63) dX10_meant_45 (by decide) (fun h48 => ?_) (fun h48 => (cx_eq (cv_eq h48) rk_1 rk_0 (by decide)).elim)
          exact rn_vret dX10_meant_63 rfl (rq_in ⟨hS45, rfl, fk46⟩)
        · have ch39 := cv_nlt h39
          have r49 : Rg (0) (65535) x3_ := rf_lex ch39 r38 rk_65535 (by decide)
          refine rn_iconst (v := (1 : Int32)) dX10_in_10 (by decide) ?_
          refine rn_goto (tgt := 15) dX10_in_11 (by decide) ?_
          refine rn_iret dX10_in_15 rfl rfl (rq_in ?_)
          refine rn_stk [.int (1 : Int32), .ref o0_] rfl ?_
          refine rn_if_eq (tgt := 36) dX10_meant_24 (by decide) (fun h50 => (cx_eq (cv_eq h50) rk_1 rk_0 (by decide)).elim) (fun h50 => ?_)
          refine rn_iload_n (i := 2) dX10_meant_27 rfl rfl ?_
          refine rn_iconst (v := (0 : Int32)) dX10_meant_28 (by decide) ?_
          refine rn_iload_n (i := 3) dX10_meant_29 rfl rfl ?_
          refine rn_inS (d' := 0) (z' := 0) [.int x2_, .int (0 : Int32), .int x3_] kl_SGModel_179 dX10_meant_30 rfl rfl (Nat.le_of_ble_eq_true rfl) (Nat.le_of_ble_eq_true rfl) (Nat.le_of_ble_eq_true rfl) (Nat.le_of_ble_eq_true rfl) ?_
          refine rn_lv [(0, .int x2_), (1, .int (0 : Int32)), (2, .int x3_)] rfl ?_
          refine rn_iload_n (i := 0) dX10_in_0 rfl rfl ?_
          refine rn_iload_n (i := 1) dX10_in_1 rfl rfl ?_
          refine rn_icmp_lt (tgt := 14) dX10_in_2 (by decide) (fun h51 => ?_) (fun h51 => ?_)
          · have ch51 := cv_lt h51
            have r52 : Rg (-2147483648) (-1) x2_ := rf_ltx ch51 (rg_any x2_) rk_0 (by decide)
            refine rn_iconst (v := (0 : Int32)) dX10_in_14 (by decide) ?_
            refine rn_iret dX10_in_15 rfl rfl (rq_in ?_)
            refine rn_stk [.int (0 : Int32), .ref o0_] rfl ?_
            refine rn_if_ne (tgt := 40) dX10_meant_33 (by decide) (fun h53 => (cx_ne (cv_ne h53) rk_0 rk_0 (by decide)).elim) (fun h53 => ?_)
            refine rn_iconst (v := (1 : Int32)) dX10_meant_36 (by decide) ?_
            refine rn_goto (tgt := 41) dX10_meant_37 (by decide) ?_
            refine rn_iconst (v := (1 : Int32)) dX10_meant_41 (by decide) ?_
            refine rn_inV (d' := 0) (z' := 0) [.int (1 : Int32), .int (1 : Int32)] kl_SGModel_171 dX10_meant_42 q1 hl3 rfl rfl rfl (Nat.le_of_ble_eq_true rfl) (Nat.le_of_ble_eq_true rfl) (Nat.le_of_ble_eq_true rfl) (Nat.le_of_ble_eq_true rfl) ?_
            refine rn_lv [(0, .ref o0_), (1, .int (1 : Int32)), (2, .int (1 : Int32))] rfl ?_
            refine rn_aload_n (i := 0) dX10_refuses_0 rfl rfl ?_
            refine rn_get q1 kg_SGModel_137 hl3 hx3 dX10_refuses_1 ?_
            refine rn_if_ne (tgt := 16) dX10_refuses_4 (by decide) (fun h54 => (cx_ne (cv_ne h54) rk_0 rk_0 (by decide)).elim) (fun h54 => ?_)
            refine rn_iload_n (i := 1) dX10_refuses_7 rfl rfl ?_
            refine rn_if_eq (tgt := 16) dX10_refuses_8 (by decide) (fun h55 => (cx_eq (cv_eq h55) rk_1 rk_0 (by decide)).elim) (fun h55 => ?_)
            refine rn_aload_n (i := 0) dX10_refuses_11 rfl rfl ?_
            refine rn_iload_n (i := 2) dX10_refuses_12 rfl rfl ?_
            refine rs_put q1 (kp_SGModel_137 _) hS3 hq1 hl3 hf3 hk_30 rfl rfl (tv_i (rg_w rk_1 (by decide) (by decide))) rfl rfl dX10_refuses_13 (fun w56 fs57 hS57 hl57 hf57 hx57 ho57 hn57 => ?_)
            have fk58 : fK1 4 S ws w56 := fk_put fk4 hS3.1 hq1 hl3 hl57 ho57 (by decide)
            refine rn_aload_n (i := 0) dX10_refuses_16 rfl rfl ?_
            refine rn_get q1 kg_SGModel_137 hl57 hx57 dX10_refuses_17 ?_
            refine rn_if_le (tgt := 27) dX10_refuses_20 (by decide) (fun h59 => (cx_le (cv_le h59) rk_1 rk_0 (by decide)).elim) (fun h59 => ?_)
            refine rn_iconst (v := (1 : Int32)) dX10_refuses_23 (by decide) ?_
            refine rn_goto (tgt := 28) dX10_refuses_24 (by decide) ?_
            refine rn_iret dX10_refuses_28 rfl rfl (rq_in ?_)
            refine rn_stk [.int (1 : Int32)] rfl ?_
            refine rn_if_ne (tgt := 63) dX10_meant_45 (by decide) (fun h60 => ?_) (fun h60 => (cx_eq (cv_eq h60) rk_1 rk_0 (by decide)).elim)
            exact rn_vret dX10_meant_63 rfl (rq_in ⟨hS57, rfl, fk58⟩)
          · have ch51 := cv_nlt h51
            have r61 : Rg (0) (2147483647) x2_ := rf_ley ch51 rk_0 (rg_any x2_) (by decide)
            refine rn_iload_n (i := 0) dX10_in_5 rfl rfl ?_
            refine rn_iload_n (i := 2) dX10_in_6 rfl rfl ?_
            refine rn_icmp_gt (tgt := 14) dX10_in_7 (by decide) (fun h62 => ?_) (fun h62 => ?_)
            · have ch62 := cv_lt h62
              have r63 : Rg (1) (2147483647) x2_ := rf_lty ch62 r49 r61 (by decide)
              refine rn_iconst (v := (0 : Int32)) dX10_in_14 (by decide) ?_
              refine rn_iret dX10_in_15 rfl rfl (rq_in ?_)
              refine rn_stk [.int (0 : Int32), .ref o0_] rfl ?_
              refine rn_if_ne (tgt := 40) dX10_meant_33 (by decide) (fun h64 => (cx_ne (cv_ne h64) rk_0 rk_0 (by decide)).elim) (fun h64 => ?_)
              refine rn_iconst (v := (1 : Int32)) dX10_meant_36 (by decide) ?_
              refine rn_goto (tgt := 41) dX10_meant_37 (by decide) ?_
              refine rn_iconst (v := (1 : Int32)) dX10_meant_41 (by decide) ?_
              refine rn_inV (d' := 0) (z' := 0) [.int (1 : Int32), .int (1 : Int32)] kl_SGModel_171 dX10_meant_42 q1 hl3 rfl rfl rfl (Nat.le_of_ble_eq_true rfl) (Nat.le_of_ble_eq_true rfl) (Nat.le_of_ble_eq_true rfl) (Nat.le_of_ble_eq_true rfl) ?_
              refine rn_lv [(0, .ref o0_), (1, .int (1 : Int32)), (2, .int (1 : Int32))] rfl ?_
              refine rn_aload_n (i := 0) dX10_refuses_0 rfl rfl ?_
              refine rn_get q1 kg_SGModel_137 hl3 hx3 dX10_refuses_1 ?_
              refine rn_if_ne (tgt := 16) dX10_refuses_4 (by decide) (fun h65 => (cx_ne (cv_ne h65) rk_0 rk_0 (by decide)).elim) (fun h65 => ?_)
              refine rn_iload_n (i := 1) dX10_refuses_7 rfl rfl ?_
              refine rn_if_eq (tgt := 16) dX10_refuses_8 (by decide) (fun h66 => (cx_eq (cv_eq h66) rk_1 rk_0 (by decide)).elim) (fun h66 => ?_)
              refine rn_aload_n (i := 0) dX10_refuses_11 rfl rfl ?_
              refine rn_iload_n (i := 2) dX10_refuses_12 rfl rfl ?_
              refine rs_put q1 (kp_SGModel_137 _) hS3 hq1 hl3 hf3 hk_30 rfl rfl (tv_i (rg_w rk_1 (by decide) (by decide))) rfl rfl dX10_refuses_13 (fun w67 fs68 hS68 hl68 hf68 hx68 ho68 hn68 => ?_)
              have fk69 : fK1 4 S ws w67 := fk_put fk4 hS3.1 hq1 hl3 hl68 ho68 (by decide)
              refine rn_aload_n (i := 0) dX10_refuses_16 rfl rfl ?_
              refine rn_get q1 kg_SGModel_137 hl68 hx68 dX10_refuses_17 ?_
              refine rn_if_le (tgt := 27) dX10_refuses_20 (by decide) (fun h70 => (cx_le (cv_le h70) rk_1 rk_0 (by decide)).elim) (fun h70 => ?_)
              refine rn_iconst (v := (1 : Int32)) dX10_refuses_23 (by decide) ?_
              refine rn_goto (tgt := 28) dX10_refuses_24 (by decide) ?_
              refine rn_iret dX10_refuses_28 rfl rfl (rq_in ?_)
              refine rn_stk [.int (1 : Int32)] rfl ?_
              refine rn_if_ne (tgt := 63) dX10_meant_45 (by decide) (fun h71 => ?_) (fun h71 => (cx_eq (cv_eq h71) rk_1 rk_0 (by decide)).elim)
              exact rn_vret dX10_meant_63 rfl (rq_in ⟨hS68, rfl, fk69⟩)
            · have ch62 := cv_nlt h62
              have r72 : Rg (0) (65535) x2_ := rf_lex ch62 r61 r49 (by decide)
              refine rn_iconst (v := (1 : Int32)) dX10_in_10 (by decide) ?_
              refine rn_goto (tgt := 15) dX10_in_11 (by decide) ?_
              refine rn_iret dX10_in_15 rfl rfl (rq_in ?_)
              refine rn_stk [.int (1 : Int32), .ref o0_] rfl ?_
              refine rn_if_ne (tgt := 40) dX10_meant_33 (by decide) (fun h73 => ?_) (fun h73 => (cx_eq (cv_eq h73) rk_1 rk_0 (by decide)).elim)
              refine rn_iconst (v := (0 : Int32)) dX10_meant_40 (by decide) ?_
              refine rn_iconst (v := (1 : Int32)) dX10_meant_41 (by decide) ?_
              refine rn_inV (d' := 0) (z' := 0) [.int (0 : Int32), .int (1 : Int32)] kl_SGModel_171 dX10_meant_42 q1 hl3 rfl rfl rfl (Nat.le_of_ble_eq_true rfl) (Nat.le_of_ble_eq_true rfl) (Nat.le_of_ble_eq_true rfl) (Nat.le_of_ble_eq_true rfl) ?_
              refine rn_lv [(0, .ref o0_), (1, .int (0 : Int32)), (2, .int (1 : Int32))] rfl ?_
              refine rn_aload_n (i := 0) dX10_refuses_0 rfl rfl ?_
              refine rn_get q1 kg_SGModel_137 hl3 hx3 dX10_refuses_1 ?_
              refine rn_if_ne (tgt := 16) dX10_refuses_4 (by decide) (fun h74 => (cx_ne (cv_ne h74) rk_0 rk_0 (by decide)).elim) (fun h74 => ?_)
              refine rn_iload_n (i := 1) dX10_refuses_7 rfl rfl ?_
              refine rn_if_eq (tgt := 16) dX10_refuses_8 (by decide) (fun h75 => ?_) (fun h75 => (cx_ne (cv_ne h75) rk_0 rk_0 (by decide)).elim)
              refine rn_aload_n (i := 0) dX10_refuses_16 rfl rfl ?_
              refine rn_get q1 kg_SGModel_137 hl3 hx3 dX10_refuses_17 ?_
              refine rn_if_le (tgt := 27) dX10_refuses_20 (by decide) (fun h76 => ?_) (fun h76 => (cx_lt (cv_nle h76) rk_0 rk_0 (by decide)).elim)
              refine rn_iconst (v := (0 : Int32)) dX10_refuses_27 (by decide) ?_
              refine rn_iret dX10_refuses_28 rfl rfl (rq_in ?_)
              refine rn_stk [.int (0 : Int32)] rfl ?_
              refine rn_if_ne (tgt := 63) dX10_meant_45 (by decide) (fun h77 => (cx_ne (cv_ne h77) rk_0 rk_0 (by decide)).elim) (fun h77 => ?_)
              refine rn_aload_n (i := 0) dX10_meant_48 rfl rfl ?_
              refine rn_iload_n (i := 1) dX10_meant_49 rfl rfl ?_
              refine rs_put q1 (kp_SGModel_191 _) hS3 hq1 hl3 hf3 hk_30 rfl rfl (tv_i (rg_w r26 (by decide) (by decide))) rfl rfl dX10_meant_50 (fun w78 fs79 hS79 hl79 hf79 hx79 ho79 hn79 => ?_)
              have fk80 : fK1 4 S ws w78 := fk_put fk4 hS3.1 hq1 hl3 hl79 ho79 (by decide)
              refine rn_aload_n (i := 0) dX10_meant_53 rfl rfl ?_
              refine rn_iload_n (i := 2) dX10_meant_54 rfl rfl ?_
              refine rs_put q1 (kp_SGModel_194 _) hS79 hq1 hl79 hf79 hk_30 rfl rfl (tv_i (rg_w r72 (by decide) (by decide))) rfl rfl dX10_meant_55 (fun w81 fs82 hS82 hl82 hf82 hx82 ho82 hn82 => ?_)
              have fk83 : fK1 4 S ws w81 := fk_put fk80 hS79.1 hq1 hl79 hl82 ho82 (by decide)
              refine rn_aload_n (i := 0) dX10_meant_58 rfl rfl ?_
              refine rn_iload_n (i := 3) dX10_meant_59 rfl rfl ?_
              refine rs_put q1 (kp_SGModel_53 _) hS82 hq1 hl82 hf82 hk_30 rfl rfl (tv_i (rg_w r49 (by decide) (by decide))) rfl rfl dX10_meant_60 (fun w84 fs85 hS85 hl85 hf85 hx85 ho85 hn85 => ?_)
              have fk86 : fK1 4 S ws w84 := fk_put fk83 hS82.1 hq1 hl82 hl85 ho85 (by decide)
              exact rn_vret dX10_meant_63 rfl (rq_in ⟨hS85, rfl, fk86⟩)
abbrev q_t_X10_policy (G : rn_G) (S : ts_S) (ws : va_W) : rn_R → va_W → Prop := rQ (fun v w => St G S [30, 41, 42, 43, 44, 45, 46, 47, 48, 49] ws S w ∧ (∃ x : Int32, v = some (.int x) ∧ Rg (0) (24) x ∧ fK1 4 S ws w)) (fun E w => False)
set_option maxRecDepth 20000 in
set_option maxHeartbeats 4000000 in
theorem t_X10_policy (G : rn_G) (S : ts_S) (ws : va_W) (hW : ts_W G S ws) (o0_ : Nat) (m0_ : (o0_, 30) ∈ S) (x1_ : Int32) (x2_ : Int32) (x3_ : Int32) (x4_ : Int32) (x5_ : Int32) (x6_ : Int32) : Rn G mX10_policy 1 22 0 0 0 (lv_args 0 [.ref o0_, .int x1_, .int x2_, .int x3_, .int x4_, .int x5_, .int x6_]) [] ws (q_t_X10_policy G S ws ) := by
  have hS0 : St G S [30, 41, 42, 43, 44, 45, 46, 47, 48, 49] ws S ws := St.rf hW
  have fk0 : fK1 4 S ws ws := fun v h => h
  refine rn_lv [(0, .ref o0_), (1, .int x1_), (2, .int x2_), (3, .int x3_), (4, .int x4_), (5, .int x5_), (6, .int x6_)] rfl ?_
  refine rn_aload_n (i := 0) dX10_policy_0 rfl rfl ?_
  refine rn_iconst (v := (0 : Int32)) dX10_policy_1 (by decide) ?_
  obtain ⟨q1, fs1, hq1, hl1, hf1⟩ := ts_obj hS0.1 m0_ hk_30
  refine rs_put q1 (kp_SGModel_137 _) hS0 hq1 hl1 hf1 hk_30 rfl rfl (tv_i (rg_w rk_0 (by decide) (by decide))) rfl rfl dX10_policy_2 (fun w2 fs3 hS3 hl3 hf3 hx3 ho3 hn3 => ?_)
  have fk4 : fK1 4 S ws w2 := fk_put fk0 hS0.1 hq1 hl1 hl3 ho3 (by decide)
  refine rn_aload_n (i := 0) dX10_policy_5 rfl rfl ?_
  refine rn_iload_n (i := 1) dX10_policy_6 rfl rfl ?_
  refine rn_iconst (v := (0 : Int32)) dX10_policy_7 (by decide) ?_
  refine rn_iconst (v := (1 : Int32)) dX10_policy_8 (by decide) ?_
  refine rn_inS (d' := 0) (z' := 0) [.int x1_, .int (0 : Int32), .int (1 : Int32)] kl_SGModel_179 dX10_policy_9 rfl rfl (Nat.le_of_ble_eq_true rfl) (Nat.le_of_ble_eq_true rfl) (Nat.le_of_ble_eq_true rfl) (Nat.le_of_ble_eq_true rfl) ?_
  refine rn_lv [(0, .int x1_), (1, .int (0 : Int32)), (2, .int (1 : Int32))] rfl ?_
  refine rn_iload_n (i := 0) dX10_in_0 rfl rfl ?_
  refine rn_iload_n (i := 1) dX10_in_1 rfl rfl ?_
  refine rn_icmp_lt (tgt := 14) dX10_in_2 (by decide) (fun h5 => ?_) (fun h5 => ?_)
  · have ch5 := cv_lt h5
    have r6 : Rg (-2147483648) (-1) x1_ := rf_ltx ch5 (rg_any x1_) rk_0 (by decide)
    refine rn_iconst (v := (0 : Int32)) dX10_in_14 (by decide) ?_
    refine rn_iret dX10_in_15 rfl rfl (rq_in ?_)
    refine rn_stk [.int (0 : Int32), .ref o0_] rfl ?_
    refine rn_if_eq (tgt := 47) dX10_policy_12 (by decide) (fun h7 => ?_) (fun h7 => (cx_ne (cv_ne h7) rk_0 rk_0 (by decide)).elim)
    refine rn_iconst (v := (1 : Int32)) dX10_policy_47 (by decide) ?_
    refine rn_goto (tgt := 52) dX10_policy_48 (by decide) ?_
    refine rn_iconst (v := (1 : Int32)) dX10_policy_52 (by decide) ?_
    refine rn_inV (d' := 0) (z' := 0) [.int (1 : Int32), .int (1 : Int32)] kl_SGModel_171 dX10_policy_53 q1 hl3 rfl rfl rfl (Nat.le_of_ble_eq_true rfl) (Nat.le_of_ble_eq_true rfl) (Nat.le_of_ble_eq_true rfl) (Nat.le_of_ble_eq_true rfl) ?_
    refine rn_lv [(0, .ref o0_), (1, .int (1 : Int32)), (2, .int (1 : Int32))] rfl ?_
    refine rn_aload_n (i := 0) dX10_refuses_0 rfl rfl ?_
    refine rn_get q1 kg_SGModel_137 hl3 hx3 dX10_refuses_1 ?_
    refine rn_if_ne (tgt := 16) dX10_refuses_4 (by decide) (fun h8 => (cx_ne (cv_ne h8) rk_0 rk_0 (by decide)).elim) (fun h8 => ?_)
    refine rn_iload_n (i := 1) dX10_refuses_7 rfl rfl ?_
    refine rn_if_eq (tgt := 16) dX10_refuses_8 (by decide) (fun h9 => (cx_eq (cv_eq h9) rk_1 rk_0 (by decide)).elim) (fun h9 => ?_)
    refine rn_aload_n (i := 0) dX10_refuses_11 rfl rfl ?_
    refine rn_iload_n (i := 2) dX10_refuses_12 rfl rfl ?_
    refine rs_put q1 (kp_SGModel_137 _) hS3 hq1 hl3 hf3 hk_30 rfl rfl (tv_i (rg_w rk_1 (by decide) (by decide))) rfl rfl dX10_refuses_13 (fun w10 fs11 hS11 hl11 hf11 hx11 ho11 hn11 => ?_)
    have fk12 : fK1 4 S ws w10 := fk_put fk4 hS3.1 hq1 hl3 hl11 ho11 (by decide)
    refine rn_aload_n (i := 0) dX10_refuses_16 rfl rfl ?_
    refine rn_get q1 kg_SGModel_137 hl11 hx11 dX10_refuses_17 ?_
    refine rn_if_le (tgt := 27) dX10_refuses_20 (by decide) (fun h13 => (cx_le (cv_le h13) rk_1 rk_0 (by decide)).elim) (fun h13 => ?_)
    refine rn_iconst (v := (1 : Int32)) dX10_refuses_23 (by decide) ?_
    refine rn_goto (tgt := 28) dX10_refuses_24 (by decide) ?_
    refine rn_iret dX10_refuses_28 rfl rfl (rq_in ?_)
    refine rn_stk [.int (1 : Int32)] rfl ?_
    refine rn_if_ne (tgt := 81) dX10_policy_56 (by decide) (fun h14 => ?_) (fun h14 => (cx_eq (cv_eq h14) rk_1 rk_0 (by decide)).elim)
    refine rn_iconst (v := (0 : Int32)) dX10_policy_81 (by decide) ?_
    exact rn_iret dX10_policy_82 rfl rfl (rq_in ⟨hS11, (0 : Int32), rfl, (rg_w rk_0 (by decide) (by decide)), fk12⟩)
  · have ch5 := cv_nlt h5
    have r15 : Rg (0) (2147483647) x1_ := rf_ley ch5 rk_0 (rg_any x1_) (by decide)
    refine rn_iload_n (i := 0) dX10_in_5 rfl rfl ?_
    refine rn_iload_n (i := 2) dX10_in_6 rfl rfl ?_
    refine rn_icmp_gt (tgt := 14) dX10_in_7 (by decide) (fun h16 => ?_) (fun h16 => ?_)
    · have ch16 := cv_lt h16
      have r17 : Rg (2) (2147483647) x1_ := rf_lty ch16 rk_1 r15 (by decide)
      refine rn_iconst (v := (0 : Int32)) dX10_in_14 (by decide) ?_
      refine rn_iret dX10_in_15 rfl rfl (rq_in ?_)
      refine rn_stk [.int (0 : Int32), .ref o0_] rfl ?_
      refine rn_if_eq (tgt := 47) dX10_policy_12 (by decide) (fun h18 => ?_) (fun h18 => (cx_ne (cv_ne h18) rk_0 rk_0 (by decide)).elim)
      refine rn_iconst (v := (1 : Int32)) dX10_policy_47 (by decide) ?_
      refine rn_goto (tgt := 52) dX10_policy_48 (by decide) ?_
      refine rn_iconst (v := (1 : Int32)) dX10_policy_52 (by decide) ?_
      refine rn_inV (d' := 0) (z' := 0) [.int (1 : Int32), .int (1 : Int32)] kl_SGModel_171 dX10_policy_53 q1 hl3 rfl rfl rfl (Nat.le_of_ble_eq_true rfl) (Nat.le_of_ble_eq_true rfl) (Nat.le_of_ble_eq_true rfl) (Nat.le_of_ble_eq_true rfl) ?_
      refine rn_lv [(0, .ref o0_), (1, .int (1 : Int32)), (2, .int (1 : Int32))] rfl ?_
      refine rn_aload_n (i := 0) dX10_refuses_0 rfl rfl ?_
      refine rn_get q1 kg_SGModel_137 hl3 hx3 dX10_refuses_1 ?_
      refine rn_if_ne (tgt := 16) dX10_refuses_4 (by decide) (fun h19 => (cx_ne (cv_ne h19) rk_0 rk_0 (by decide)).elim) (fun h19 => ?_)
      refine rn_iload_n (i := 1) dX10_refuses_7 rfl rfl ?_
      refine rn_if_eq (tgt := 16) dX10_refuses_8 (by decide) (fun h20 => (cx_eq (cv_eq h20) rk_1 rk_0 (by decide)).elim) (fun h20 => ?_)
      refine rn_aload_n (i := 0) dX10_refuses_11 rfl rfl ?_
      refine rn_iload_n (i := 2) dX10_refuses_12 rfl rfl ?_
      refine rs_put q1 (kp_SGModel_137 _) hS3 hq1 hl3 hf3 hk_30 rfl rfl (tv_i (rg_w rk_1 (by decide) (by decide))) rfl rfl dX10_refuses_13 (fun w21 fs22 hS22 hl22 hf22 hx22 ho22 hn22 => ?_)
      have fk23 : fK1 4 S ws w21 := fk_put fk4 hS3.1 hq1 hl3 hl22 ho22 (by decide)
      refine rn_aload_n (i := 0) dX10_refuses_16 rfl rfl ?_
      refine rn_get q1 kg_SGModel_137 hl22 hx22 dX10_refuses_17 ?_
      refine rn_if_le (tgt := 27) dX10_refuses_20 (by decide) (fun h24 => (cx_le (cv_le h24) rk_1 rk_0 (by decide)).elim) (fun h24 => ?_)
      refine rn_iconst (v := (1 : Int32)) dX10_refuses_23 (by decide) ?_
      refine rn_goto (tgt := 28) dX10_refuses_24 (by decide) ?_
      refine rn_iret dX10_refuses_28 rfl rfl (rq_in ?_)
      refine rn_stk [.int (1 : Int32)] rfl ?_
      refine rn_if_ne (tgt := 81) dX10_policy_56 (by decide) (fun h25 => ?_) (fun h25 => (cx_eq (cv_eq h25) rk_1 rk_0 (by decide)).elim)
      refine rn_iconst (v := (0 : Int32)) dX10_policy_81 (by decide) ?_
      exact rn_iret dX10_policy_82 rfl rfl (rq_in ⟨hS22, (0 : Int32), rfl, (rg_w rk_0 (by decide) (by decide)), fk23⟩)
    · have ch16 := cv_nlt h16
      have r26 : Rg (0) (1) x1_ := rf_lex ch16 r15 rk_1 (by decide)
      refine rn_iconst (v := (1 : Int32)) dX10_in_10 (by decide) ?_
      refine rn_goto (tgt := 15) dX10_in_11 (by decide) ?_
      refine rn_iret dX10_in_15 rfl rfl (rq_in ?_)
      refine rn_stk [.int (1 : Int32), .ref o0_] rfl ?_
      refine rn_if_eq (tgt := 47) dX10_policy_12 (by decide) (fun h27 => (cx_eq (cv_eq h27) rk_1 rk_0 (by decide)).elim) (fun h27 => ?_)
      refine rn_iload_n (i := 3) dX10_policy_15 rfl rfl ?_
      refine rn_iconst (v := (0 : Int32)) dX10_policy_16 (by decide) ?_
      refine rn_bipush (v := (32 : Int32)) dX10_policy_17 (by decide) ?_
      refine rn_inS (d' := 0) (z' := 0) [.int x3_, .int (0 : Int32), .int (32 : Int32)] kl_SGModel_179 dX10_policy_19 rfl rfl (Nat.le_of_ble_eq_true rfl) (Nat.le_of_ble_eq_true rfl) (Nat.le_of_ble_eq_true rfl) (Nat.le_of_ble_eq_true rfl) ?_
      refine rn_lv [(0, .int x3_), (1, .int (0 : Int32)), (2, .int (32 : Int32))] rfl ?_
      refine rn_iload_n (i := 0) dX10_in_0 rfl rfl ?_
      refine rn_iload_n (i := 1) dX10_in_1 rfl rfl ?_
      refine rn_icmp_lt (tgt := 14) dX10_in_2 (by decide) (fun h28 => ?_) (fun h28 => ?_)
      · have ch28 := cv_lt h28
        have r29 : Rg (-2147483648) (-1) x3_ := rf_ltx ch28 (rg_any x3_) rk_0 (by decide)
        refine rn_iconst (v := (0 : Int32)) dX10_in_14 (by decide) ?_
        refine rn_iret dX10_in_15 rfl rfl (rq_in ?_)
        refine rn_stk [.int (0 : Int32), .ref o0_] rfl ?_
        refine rn_if_eq (tgt := 47) dX10_policy_22 (by decide) (fun h30 => ?_) (fun h30 => (cx_ne (cv_ne h30) rk_0 rk_0 (by decide)).elim)
        refine rn_iconst (v := (1 : Int32)) dX10_policy_47 (by decide) ?_
        refine rn_goto (tgt := 52) dX10_policy_48 (by decide) ?_
        refine rn_iconst (v := (1 : Int32)) dX10_policy_52 (by decide) ?_
        refine rn_inV (d' := 0) (z' := 0) [.int (1 : Int32), .int (1 : Int32)] kl_SGModel_171 dX10_policy_53 q1 hl3 rfl rfl rfl (Nat.le_of_ble_eq_true rfl) (Nat.le_of_ble_eq_true rfl) (Nat.le_of_ble_eq_true rfl) (Nat.le_of_ble_eq_true rfl) ?_
        refine rn_lv [(0, .ref o0_), (1, .int (1 : Int32)), (2, .int (1 : Int32))] rfl ?_
        refine rn_aload_n (i := 0) dX10_refuses_0 rfl rfl ?_
        refine rn_get q1 kg_SGModel_137 hl3 hx3 dX10_refuses_1 ?_
        refine rn_if_ne (tgt := 16) dX10_refuses_4 (by decide) (fun h31 => (cx_ne (cv_ne h31) rk_0 rk_0 (by decide)).elim) (fun h31 => ?_)
        refine rn_iload_n (i := 1) dX10_refuses_7 rfl rfl ?_
        refine rn_if_eq (tgt := 16) dX10_refuses_8 (by decide) (fun h32 => (cx_eq (cv_eq h32) rk_1 rk_0 (by decide)).elim) (fun h32 => ?_)
        refine rn_aload_n (i := 0) dX10_refuses_11 rfl rfl ?_
        refine rn_iload_n (i := 2) dX10_refuses_12 rfl rfl ?_
        refine rs_put q1 (kp_SGModel_137 _) hS3 hq1 hl3 hf3 hk_30 rfl rfl (tv_i (rg_w rk_1 (by decide) (by decide))) rfl rfl dX10_refuses_13 (fun w33 fs34 hS34 hl34 hf34 hx34 ho34 hn34 => ?_)
        have fk35 : fK1 4 S ws w33 := fk_put fk4 hS3.1 hq1 hl3 hl34 ho34 (by decide)
        refine rn_aload_n (i := 0) dX10_refuses_16 rfl rfl ?_
        refine rn_get q1 kg_SGModel_137 hl34 hx34 dX10_refuses_17 ?_
        refine rn_if_le (tgt := 27) dX10_refuses_20 (by decide) (fun h36 => (cx_le (cv_le h36) rk_1 rk_0 (by decide)).elim) (fun h36 => ?_)
        refine rn_iconst (v := (1 : Int32)) dX10_refuses_23 (by decide) ?_
        refine rn_goto (tgt := 28) dX10_refuses_24 (by decide) ?_
        refine rn_iret dX10_refuses_28 rfl rfl (rq_in ?_)
        refine rn_stk [.int (1 : Int32)] rfl ?_
        refine rn_if_ne (tgt := 81) dX10_policy_56 (by decide) (fun h37 => ?_) (fun h37 => (cx_eq (cv_eq h37) rk_1 rk_0 (by decide)).elim)
        refine rn_iconst (v := (0 : Int32)) dX10_policy_81 (by decide) ?_
        exact rn_iret dX10_policy_82 rfl rfl (rq_in ⟨hS34, (0 : Int32), rfl, (rg_w rk_0 (by decide) (by decide)), fk35⟩)
      · have ch28 := cv_nlt h28
        have r38 : Rg (0) (2147483647) x3_ := rf_ley ch28 rk_0 (rg_any x3_) (by decide)
        refine rn_iload_n (i := 0) dX10_in_5 rfl rfl ?_
        refine rn_iload_n (i := 2) dX10_in_6 rfl rfl ?_
        refine rn_icmp_gt (tgt := 14) dX10_in_7 (by decide) (fun h39 => ?_) (fun h39 => ?_)
        · have ch39 := cv_lt h39
          have r40 : Rg (33) (2147483647) x3_ := rf_lty ch39 rk_32 r38 (by decide)
          refine rn_iconst (v := (0 : Int32)) dX10_in_14 (by decide) ?_
          refine rn_iret dX10_in_15 rfl rfl (rq_in ?_)
          refine rn_stk [.int (0 : Int32), .ref o0_] rfl ?_
          refine rn_if_eq (tgt := 47) dX10_policy_22 (by decide) (fun h41 => ?_) (fun h41 => (cx_ne (cv_ne h41) rk_0 rk_0 (by decide)).elim)
          refine rn_iconst (v := (1 : Int32)) dX10_policy_47 (by decide) ?_
          refine rn_goto (tgt := 52) dX10_policy_48 (by decide) ?_
          refine rn_iconst (v := (1 : Int32)) dX10_policy_52 (by decide) ?_
          refine rn_inV (d' := 0) (z' := 0) [.int (1 : Int32), .int (1 : Int32)] kl_SGModel_171 dX10_policy_53 q1 hl3 rfl rfl rfl (Nat.le_of_ble_eq_true rfl) (Nat.le_of_ble_eq_true rfl) (Nat.le_of_ble_eq_true rfl) (Nat.le_of_ble_eq_true rfl) ?_
          refine rn_lv [(0, .ref o0_), (1, .int (1 : Int32)), (2, .int (1 : Int32))] rfl ?_
          refine rn_aload_n (i := 0) dX10_refuses_0 rfl rfl ?_
          refine rn_get q1 kg_SGModel_137 hl3 hx3 dX10_refuses_1 ?_
          refine rn_if_ne (tgt := 16) dX10_refuses_4 (by decide) (fun h42 => (cx_ne (cv_ne h42) rk_0 rk_0 (by decide)).elim) (fun h42 => ?_)
          refine rn_iload_n (i := 1) dX10_refuses_7 rfl rfl ?_
          refine rn_if_eq (tgt := 16) dX10_refuses_8 (by decide) (fun h43 => (cx_eq (cv_eq h43) rk_1 rk_0 (by decide)).elim) (fun h43 => ?_)
          refine rn_aload_n (i := 0) dX10_refuses_11 rfl rfl ?_
          refine rn_iload_n (i := 2) dX10_refuses_12 rfl rfl ?_
          refine rs_put q1 (kp_SGModel_137 _) hS3 hq1 hl3 hf3 hk_30 rfl rfl (tv_i (rg_w rk_1 (by decide) (by decide))) rfl rfl dX10_refuses_13 (fun w44 fs45 hS45 hl45 hf45 hx45 ho45 hn45 => ?_)
          have fk46 : fK1 4 S ws w44 := fk_put fk4 hS3.1 hq1 hl3 hl45 ho45 (by decide)
          refine rn_aload_n (i := 0) dX10_refuses_16 rfl rfl ?_
          refine rn_get q1 kg_SGModel_137 hl45 hx45 dX10_refuses_17 ?_
          refine rn_if_le (tgt := 27) dX10_refuses_20 (by decide) (fun h47 => (cx_le (cv_le h47) rk_1 rk_0 (by decide)).elim) (fun h47 => ?_)
          refine rn_iconst (v := (1 : Int32)) dX10_refuses_23 (by decide) ?_
          refine rn_goto (tgt := 28) dX10_refuses_24 (by decide) ?_
          refine rn_iret dX10_refuses_28 rfl rfl (rq_in ?_)
          refine rn_stk [.int (1 : Int32)] rfl ?_
          refine rn_if_ne (tgt := 81) dX10_policy_56 (by decide) (fun h48 => ?_) (fun h48 => (cx_eq (cv_eq h48) rk_1 rk_0 (by decide)).elim)
          refine rn_iconst (v := (0 : Int32)) dX10_policy_81 (by decide) ?_
          exact rn_iret dX10_policy_82 rfl rfl (rq_in ⟨hS45, (0 : Int32), rfl, (rg_w rk_0 (by decide) (by decide)), fk46⟩)
        · have ch39 := cv_nlt h39
          have r49 : Rg (0) (32) x3_ := rf_lex ch39 r38 rk_32 (by decide)
          refine rn_iconst (v := (1 : Int32)) dX10_in_10 (by decide) ?_
          refine rn_goto (tgt := 15) dX10_in_11 (by decide) ?_
          refine rn_iret dX10_in_15 rfl rfl (rq_in ?_)
          refine rn_stk [.int (1 : Int32), .ref o0_] rfl ?_
          refine rn_if_eq (tgt := 47) dX10_policy_22 (by decide) (fun h50 => (cx_eq (cv_eq h50) rk_1 rk_0 (by decide)).elim) (fun h50 => ?_)
          refine rn_iload dX10_policy_25 rfl ?_
          refine rn_iconst (v := (0 : Int32)) dX10_policy_27 (by decide) ?_
          refine rn_bipush (v := (32 : Int32)) dX10_policy_28 (by decide) ?_
          refine rn_inS (d' := 0) (z' := 0) [.int x5_, .int (0 : Int32), .int (32 : Int32)] kl_SGModel_179 dX10_policy_30 rfl rfl (Nat.le_of_ble_eq_true rfl) (Nat.le_of_ble_eq_true rfl) (Nat.le_of_ble_eq_true rfl) (Nat.le_of_ble_eq_true rfl) ?_
          refine rn_lv [(0, .int x5_), (1, .int (0 : Int32)), (2, .int (32 : Int32))] rfl ?_
          refine rn_iload_n (i := 0) dX10_in_0 rfl rfl ?_
          refine rn_iload_n (i := 1) dX10_in_1 rfl rfl ?_
          refine rn_icmp_lt (tgt := 14) dX10_in_2 (by decide) (fun h51 => ?_) (fun h51 => ?_)
          · have ch51 := cv_lt h51
            have r52 : Rg (-2147483648) (-1) x5_ := rf_ltx ch51 (rg_any x5_) rk_0 (by decide)
            refine rn_iconst (v := (0 : Int32)) dX10_in_14 (by decide) ?_
            refine rn_iret dX10_in_15 rfl rfl (rq_in ?_)
            refine rn_stk [.int (0 : Int32), .ref o0_] rfl ?_
            refine rn_if_eq (tgt := 47) dX10_policy_33 (by decide) (fun h53 => ?_) (fun h53 => (cx_ne (cv_ne h53) rk_0 rk_0 (by decide)).elim)
            refine rn_iconst (v := (1 : Int32)) dX10_policy_47 (by decide) ?_
            refine rn_goto (tgt := 52) dX10_policy_48 (by decide) ?_
            refine rn_iconst (v := (1 : Int32)) dX10_policy_52 (by decide) ?_
            refine rn_inV (d' := 0) (z' := 0) [.int (1 : Int32), .int (1 : Int32)] kl_SGModel_171 dX10_policy_53 q1 hl3 rfl rfl rfl (Nat.le_of_ble_eq_true rfl) (Nat.le_of_ble_eq_true rfl) (Nat.le_of_ble_eq_true rfl) (Nat.le_of_ble_eq_true rfl) ?_
            refine rn_lv [(0, .ref o0_), (1, .int (1 : Int32)), (2, .int (1 : Int32))] rfl ?_
            refine rn_aload_n (i := 0) dX10_refuses_0 rfl rfl ?_
            refine rn_get q1 kg_SGModel_137 hl3 hx3 dX10_refuses_1 ?_
            refine rn_if_ne (tgt := 16) dX10_refuses_4 (by decide) (fun h54 => (cx_ne (cv_ne h54) rk_0 rk_0 (by decide)).elim) (fun h54 => ?_)
            refine rn_iload_n (i := 1) dX10_refuses_7 rfl rfl ?_
            refine rn_if_eq (tgt := 16) dX10_refuses_8 (by decide) (fun h55 => (cx_eq (cv_eq h55) rk_1 rk_0 (by decide)).elim) (fun h55 => ?_)
            refine rn_aload_n (i := 0) dX10_refuses_11 rfl rfl ?_
            refine rn_iload_n (i := 2) dX10_refuses_12 rfl rfl ?_
            refine rs_put q1 (kp_SGModel_137 _) hS3 hq1 hl3 hf3 hk_30 rfl rfl (tv_i (rg_w rk_1 (by decide) (by decide))) rfl rfl dX10_refuses_13 (fun w56 fs57 hS57 hl57 hf57 hx57 ho57 hn57 => ?_)
            have fk58 : fK1 4 S ws w56 := fk_put fk4 hS3.1 hq1 hl3 hl57 ho57 (by decide)
            refine rn_aload_n (i := 0) dX10_refuses_16 rfl rfl ?_
            refine rn_get q1 kg_SGModel_137 hl57 hx57 dX10_refuses_17 ?_
            refine rn_if_le (tgt := 27) dX10_refuses_20 (by decide) (fun h59 => (cx_le (cv_le h59) rk_1 rk_0 (by decide)).elim) (fun h59 => ?_)
            refine rn_iconst (v := (1 : Int32)) dX10_refuses_23 (by decide) ?_
            refine rn_goto (tgt := 28) dX10_refuses_24 (by decide) ?_
            refine rn_iret dX10_refuses_28 rfl rfl (rq_in ?_)
            refine rn_stk [.int (1 : Int32)] rfl ?_
            refine rn_if_ne (tgt := 81) dX10_policy_56 (by decide) (fun h60 => ?_) (fun h60 => (cx_eq (cv_eq h60) rk_1 rk_0 (by decide)).elim)
            refine rn_iconst (v := (0 : Int32)) dX10_policy_81 (by decide) ?_
            exact rn_iret dX10_policy_82 rfl rfl (rq_in ⟨hS57, (0 : Int32), rfl, (rg_w rk_0 (by decide) (by decide)), fk58⟩)
          · have ch51 := cv_nlt h51
            have r61 : Rg (0) (2147483647) x5_ := rf_ley ch51 rk_0 (rg_any x5_) (by decide)
            refine rn_iload_n (i := 0) dX10_in_5 rfl rfl ?_
            refine rn_iload_n (i := 2) dX10_in_6 rfl rfl ?_
            refine rn_icmp_gt (tgt := 14) dX10_in_7 (by decide) (fun h62 => ?_) (fun h62 => ?_)
            · have ch62 := cv_lt h62
              have r63 : Rg (33) (2147483647) x5_ := rf_lty ch62 rk_32 r61 (by decide)
              refine rn_iconst (v := (0 : Int32)) dX10_in_14 (by decide) ?_
              refine rn_iret dX10_in_15 rfl rfl (rq_in ?_)
              refine rn_stk [.int (0 : Int32), .ref o0_] rfl ?_
              refine rn_if_eq (tgt := 47) dX10_policy_33 (by decide) (fun h64 => ?_) (fun h64 => (cx_ne (cv_ne h64) rk_0 rk_0 (by decide)).elim)
              refine rn_iconst (v := (1 : Int32)) dX10_policy_47 (by decide) ?_
              refine rn_goto (tgt := 52) dX10_policy_48 (by decide) ?_
              refine rn_iconst (v := (1 : Int32)) dX10_policy_52 (by decide) ?_
              refine rn_inV (d' := 0) (z' := 0) [.int (1 : Int32), .int (1 : Int32)] kl_SGModel_171 dX10_policy_53 q1 hl3 rfl rfl rfl (Nat.le_of_ble_eq_true rfl) (Nat.le_of_ble_eq_true rfl) (Nat.le_of_ble_eq_true rfl) (Nat.le_of_ble_eq_true rfl) ?_
              refine rn_lv [(0, .ref o0_), (1, .int (1 : Int32)), (2, .int (1 : Int32))] rfl ?_
              refine rn_aload_n (i := 0) dX10_refuses_0 rfl rfl ?_
              refine rn_get q1 kg_SGModel_137 hl3 hx3 dX10_refuses_1 ?_
              refine rn_if_ne (tgt := 16) dX10_refuses_4 (by decide) (fun h65 => (cx_ne (cv_ne h65) rk_0 rk_0 (by decide)).elim) (fun h65 => ?_)
              refine rn_iload_n (i := 1) dX10_refuses_7 rfl rfl ?_
              refine rn_if_eq (tgt := 16) dX10_refuses_8 (by decide) (fun h66 => (cx_eq (cv_eq h66) rk_1 rk_0 (by decide)).elim) (fun h66 => ?_)
              refine rn_aload_n (i := 0) dX10_refuses_11 rfl rfl ?_
              refine rn_iload_n (i := 2) dX10_refuses_12 rfl rfl ?_
              refine rs_put q1 (kp_SGModel_137 _) hS3 hq1 hl3 hf3 hk_30 rfl rfl (tv_i (rg_w rk_1 (by decide) (by decide))) rfl rfl dX10_refuses_13 (fun w67 fs68 hS68 hl68 hf68 hx68 ho68 hn68 => ?_)
              have fk69 : fK1 4 S ws w67 := fk_put fk4 hS3.1 hq1 hl3 hl68 ho68 (by decide)
              refine rn_aload_n (i := 0) dX10_refuses_16 rfl rfl ?_
              refine rn_get q1 kg_SGModel_137 hl68 hx68 dX10_refuses_17 ?_
              refine rn_if_le (tgt := 27) dX10_refuses_20 (by decide) (fun h70 => (cx_le (cv_le h70) rk_1 rk_0 (by decide)).elim) (fun h70 => ?_)
              refine rn_iconst (v := (1 : Int32)) dX10_refuses_23 (by decide) ?_
              refine rn_goto (tgt := 28) dX10_refuses_24 (by decide) ?_
              refine rn_iret dX10_refuses_28 rfl rfl (rq_in ?_)
              refine rn_stk [.int (1 : Int32)] rfl ?_
              refine rn_if_ne (tgt := 81) dX10_policy_56 (by decide) (fun h71 => ?_) (fun h71 => (cx_eq (cv_eq h71) rk_1 rk_0 (by decide)).elim)
              refine rn_iconst (v := (0 : Int32)) dX10_policy_81 (by decide) ?_
              exact rn_iret dX10_policy_82 rfl rfl (rq_in ⟨hS68, (0 : Int32), rfl, (rg_w rk_0 (by decide) (by decide)), fk69⟩)
            · have ch62 := cv_nlt h62
              have r72 : Rg (0) (32) x5_ := rf_lex ch62 r61 rk_32 (by decide)
              refine rn_iconst (v := (1 : Int32)) dX10_in_10 (by decide) ?_
              refine rn_goto (tgt := 15) dX10_in_11 (by decide) ?_
              refine rn_iret dX10_in_15 rfl rfl (rq_in ?_)
              refine rn_stk [.int (1 : Int32), .ref o0_] rfl ?_
              refine rn_if_eq (tgt := 47) dX10_policy_33 (by decide) (fun h73 => (cx_eq (cv_eq h73) rk_1 rk_0 (by decide)).elim) (fun h73 => ?_)
              refine rn_iload dX10_policy_36 rfl ?_
              refine rn_bipush (v := (-2 : Int32)) dX10_policy_38 (by decide) ?_
              refine rn_iconst (v := (3 : Int32)) dX10_policy_40 (by decide) ?_
              refine rn_inS (d' := 0) (z' := 0) [.int x6_, .int (-2 : Int32), .int (3 : Int32)] kl_SGModel_179 dX10_policy_41 rfl rfl (Nat.le_of_ble_eq_true rfl) (Nat.le_of_ble_eq_true rfl) (Nat.le_of_ble_eq_true rfl) (Nat.le_of_ble_eq_true rfl) ?_
              refine rn_lv [(0, .int x6_), (1, .int (-2 : Int32)), (2, .int (3 : Int32))] rfl ?_
              refine rn_iload_n (i := 0) dX10_in_0 rfl rfl ?_
              refine rn_iload_n (i := 1) dX10_in_1 rfl rfl ?_
              refine rn_icmp_lt (tgt := 14) dX10_in_2 (by decide) (fun h74 => ?_) (fun h74 => ?_)
              · have ch74 := cv_lt h74
                have r75 : Rg (-2147483648) (-3) x6_ := rf_ltx ch74 (rg_any x6_) rk_m2 (by decide)
                refine rn_iconst (v := (0 : Int32)) dX10_in_14 (by decide) ?_
                refine rn_iret dX10_in_15 rfl rfl (rq_in ?_)
                refine rn_stk [.int (0 : Int32), .ref o0_] rfl ?_
                refine rn_if_ne (tgt := 51) dX10_policy_44 (by decide) (fun h76 => (cx_ne (cv_ne h76) rk_0 rk_0 (by decide)).elim) (fun h76 => ?_)
                refine rn_iconst (v := (1 : Int32)) dX10_policy_47 (by decide) ?_
                refine rn_goto (tgt := 52) dX10_policy_48 (by decide) ?_
                refine rn_iconst (v := (1 : Int32)) dX10_policy_52 (by decide) ?_
                refine rn_inV (d' := 0) (z' := 0) [.int (1 : Int32), .int (1 : Int32)] kl_SGModel_171 dX10_policy_53 q1 hl3 rfl rfl rfl (Nat.le_of_ble_eq_true rfl) (Nat.le_of_ble_eq_true rfl) (Nat.le_of_ble_eq_true rfl) (Nat.le_of_ble_eq_true rfl) ?_
                refine rn_lv [(0, .ref o0_), (1, .int (1 : Int32)), (2, .int (1 : Int32))] rfl ?_
                refine rn_aload_n (i := 0) dX10_refuses_0 rfl rfl ?_
                refine rn_get q1 kg_SGModel_137 hl3 hx3 dX10_refuses_1 ?_
                refine rn_if_ne (tgt := 16) dX10_refuses_4 (by decide) (fun h77 => (cx_ne (cv_ne h77) rk_0 rk_0 (by decide)).elim) (fun h77 => ?_)
                refine rn_iload_n (i := 1) dX10_refuses_7 rfl rfl ?_
                refine rn_if_eq (tgt := 16) dX10_refuses_8 (by decide) (fun h78 => (cx_eq (cv_eq h78) rk_1 rk_0 (by decide)).elim) (fun h78 => ?_)
                refine rn_aload_n (i := 0) dX10_refuses_11 rfl rfl ?_
                refine rn_iload_n (i := 2) dX10_refuses_12 rfl rfl ?_
                refine rs_put q1 (kp_SGModel_137 _) hS3 hq1 hl3 hf3 hk_30 rfl rfl (tv_i (rg_w rk_1 (by decide) (by decide))) rfl rfl dX10_refuses_13 (fun w79 fs80 hS80 hl80 hf80 hx80 ho80 hn80 => ?_)
                have fk81 : fK1 4 S ws w79 := fk_put fk4 hS3.1 hq1 hl3 hl80 ho80 (by decide)
                refine rn_aload_n (i := 0) dX10_refuses_16 rfl rfl ?_
                refine rn_get q1 kg_SGModel_137 hl80 hx80 dX10_refuses_17 ?_
                refine rn_if_le (tgt := 27) dX10_refuses_20 (by decide) (fun h82 => (cx_le (cv_le h82) rk_1 rk_0 (by decide)).elim) (fun h82 => ?_)
                refine rn_iconst (v := (1 : Int32)) dX10_refuses_23 (by decide) ?_
                refine rn_goto (tgt := 28) dX10_refuses_24 (by decide) ?_
                refine rn_iret dX10_refuses_28 rfl rfl (rq_in ?_)
                refine rn_stk [.int (1 : Int32)] rfl ?_
                refine rn_if_ne (tgt := 81) dX10_policy_56 (by decide) (fun h83 => ?_) (fun h83 => (cx_eq (cv_eq h83) rk_1 rk_0 (by decide)).elim)
                refine rn_iconst (v := (0 : Int32)) dX10_policy_81 (by decide) ?_
                exact rn_iret dX10_policy_82 rfl rfl (rq_in ⟨hS80, (0 : Int32), rfl, (rg_w rk_0 (by decide) (by decide)), fk81⟩)
              · have ch74 := cv_nlt h74
                have r84 : Rg (-2) (2147483647) x6_ := rf_ley ch74 rk_m2 (rg_any x6_) (by decide)
                refine rn_iload_n (i := 0) dX10_in_5 rfl rfl ?_
                refine rn_iload_n (i := 2) dX10_in_6 rfl rfl ?_
                refine rn_icmp_gt (tgt := 14) dX10_in_7 (by decide) (fun h85 => ?_) (fun h85 => ?_)
                · have ch85 := cv_lt h85
                  have r86 : Rg (4) (2147483647) x6_ := rf_lty ch85 rk_3 r84 (by decide)
                  refine rn_iconst (v := (0 : Int32)) dX10_in_14 (by decide) ?_
                  refine rn_iret dX10_in_15 rfl rfl (rq_in ?_)
                  refine rn_stk [.int (0 : Int32), .ref o0_] rfl ?_
                  refine rn_if_ne (tgt := 51) dX10_policy_44 (by decide) (fun h87 => (cx_ne (cv_ne h87) rk_0 rk_0 (by decide)).elim) (fun h87 => ?_)
                  refine rn_iconst (v := (1 : Int32)) dX10_policy_47 (by decide) ?_
                  refine rn_goto (tgt := 52) dX10_policy_48 (by decide) ?_
                  refine rn_iconst (v := (1 : Int32)) dX10_policy_52 (by decide) ?_
                  refine rn_inV (d' := 0) (z' := 0) [.int (1 : Int32), .int (1 : Int32)] kl_SGModel_171 dX10_policy_53 q1 hl3 rfl rfl rfl (Nat.le_of_ble_eq_true rfl) (Nat.le_of_ble_eq_true rfl) (Nat.le_of_ble_eq_true rfl) (Nat.le_of_ble_eq_true rfl) ?_
                  refine rn_lv [(0, .ref o0_), (1, .int (1 : Int32)), (2, .int (1 : Int32))] rfl ?_
                  refine rn_aload_n (i := 0) dX10_refuses_0 rfl rfl ?_
                  refine rn_get q1 kg_SGModel_137 hl3 hx3 dX10_refuses_1 ?_
                  refine rn_if_ne (tgt := 16) dX10_refuses_4 (by decide) (fun h88 => (cx_ne (cv_ne h88) rk_0 rk_0 (by decide)).elim) (fun h88 => ?_)
                  refine rn_iload_n (i := 1) dX10_refuses_7 rfl rfl ?_
                  refine rn_if_eq (tgt := 16) dX10_refuses_8 (by decide) (fun h89 => (cx_eq (cv_eq h89) rk_1 rk_0 (by decide)).elim) (fun h89 => ?_)
                  refine rn_aload_n (i := 0) dX10_refuses_11 rfl rfl ?_
                  refine rn_iload_n (i := 2) dX10_refuses_12 rfl rfl ?_
                  refine rs_put q1 (kp_SGModel_137 _) hS3 hq1 hl3 hf3 hk_30 rfl rfl (tv_i (rg_w rk_1 (by decide) (by decide))) rfl rfl dX10_refuses_13 (fun w90 fs91 hS91 hl91 hf91 hx91 ho91 hn91 => ?_)
                  have fk92 : fK1 4 S ws w90 := fk_put fk4 hS3.1 hq1 hl3 hl91 ho91 (by decide)
                  refine rn_aload_n (i := 0) dX10_refuses_16 rfl rfl ?_
                  refine rn_get q1 kg_SGModel_137 hl91 hx91 dX10_refuses_17 ?_
                  refine rn_if_le (tgt := 27) dX10_refuses_20 (by decide) (fun h93 => (cx_le (cv_le h93) rk_1 rk_0 (by decide)).elim) (fun h93 => ?_)
                  refine rn_iconst (v := (1 : Int32)) dX10_refuses_23 (by decide) ?_
                  refine rn_goto (tgt := 28) dX10_refuses_24 (by decide) ?_
                  refine rn_iret dX10_refuses_28 rfl rfl (rq_in ?_)
                  refine rn_stk [.int (1 : Int32)] rfl ?_
                  refine rn_if_ne (tgt := 81) dX10_policy_56 (by decide) (fun h94 => ?_) (fun h94 => (cx_eq (cv_eq h94) rk_1 rk_0 (by decide)).elim)
                  refine rn_iconst (v := (0 : Int32)) dX10_policy_81 (by decide) ?_
                  exact rn_iret dX10_policy_82 rfl rfl (rq_in ⟨hS91, (0 : Int32), rfl, (rg_w rk_0 (by decide) (by decide)), fk92⟩)
                · have ch85 := cv_nlt h85
                  have r95 : Rg (-2) (3) x6_ := rf_lex ch85 r84 rk_3 (by decide)
                  refine rn_iconst (v := (1 : Int32)) dX10_in_10 (by decide) ?_
                  refine rn_goto (tgt := 15) dX10_in_11 (by decide) ?_
                  refine rn_iret dX10_in_15 rfl rfl (rq_in ?_)
                  refine rn_stk [.int (1 : Int32), .ref o0_] rfl ?_
                  refine rn_if_ne (tgt := 51) dX10_policy_44 (by decide) (fun h96 => ?_) (fun h96 => (cx_eq (cv_eq h96) rk_1 rk_0 (by decide)).elim)
                  refine rn_iconst (v := (0 : Int32)) dX10_policy_51 (by decide) ?_
                  refine rn_iconst (v := (1 : Int32)) dX10_policy_52 (by decide) ?_
                  refine rn_inV (d' := 0) (z' := 0) [.int (0 : Int32), .int (1 : Int32)] kl_SGModel_171 dX10_policy_53 q1 hl3 rfl rfl rfl (Nat.le_of_ble_eq_true rfl) (Nat.le_of_ble_eq_true rfl) (Nat.le_of_ble_eq_true rfl) (Nat.le_of_ble_eq_true rfl) ?_
                  refine rn_lv [(0, .ref o0_), (1, .int (0 : Int32)), (2, .int (1 : Int32))] rfl ?_
                  refine rn_aload_n (i := 0) dX10_refuses_0 rfl rfl ?_
                  refine rn_get q1 kg_SGModel_137 hl3 hx3 dX10_refuses_1 ?_
                  refine rn_if_ne (tgt := 16) dX10_refuses_4 (by decide) (fun h97 => (cx_ne (cv_ne h97) rk_0 rk_0 (by decide)).elim) (fun h97 => ?_)
                  refine rn_iload_n (i := 1) dX10_refuses_7 rfl rfl ?_
                  refine rn_if_eq (tgt := 16) dX10_refuses_8 (by decide) (fun h98 => ?_) (fun h98 => (cx_ne (cv_ne h98) rk_0 rk_0 (by decide)).elim)
                  refine rn_aload_n (i := 0) dX10_refuses_16 rfl rfl ?_
                  refine rn_get q1 kg_SGModel_137 hl3 hx3 dX10_refuses_17 ?_
                  refine rn_if_le (tgt := 27) dX10_refuses_20 (by decide) (fun h99 => ?_) (fun h99 => (cx_lt (cv_nle h99) rk_0 rk_0 (by decide)).elim)
                  refine rn_iconst (v := (0 : Int32)) dX10_refuses_27 (by decide) ?_
                  refine rn_iret dX10_refuses_28 rfl rfl (rq_in ?_)
                  refine rn_stk [.int (0 : Int32)] rfl ?_
                  refine rn_if_ne (tgt := 81) dX10_policy_56 (by decide) (fun h100 => (cx_ne (cv_ne h100) rk_0 rk_0 (by decide)).elim) (fun h100 => ?_)
                  refine rn_aload_n (i := 0) dX10_policy_59 rfl rfl ?_
                  refine rn_aload_n (i := 0) dX10_policy_60 rfl rfl ?_
                  obtain ⟨x101, hx101, rx101⟩ := fs_i hf3 9 rfl
                  refine rn_get q1 kg_SGModel_197 hl3 hx101 dX10_policy_61 ?_
                  refine rn_bipush (v := (24 : Int32)) dX10_policy_64 (by decide) ?_
                  refine rn_icmp_ne (tgt := 73) dX10_policy_66 (by decide) (fun h102 => ?_) (fun h102 => ?_)
                  · have ch102 := cv_ne h102
                    have r103 : Rg (0) (23) x101 := rf_neh ch102 rx101 rk_24 (by decide) (by decide)
                    refine rn_iconst (v := (0 : Int32)) dX10_policy_73 (by decide) ?_
                    refine rn_iconst (v := (2 : Int32)) dX10_policy_74 (by decide) ?_
                    refine rn_inV (d' := 0) (z' := 0) [.int (0 : Int32), .int (2 : Int32)] kl_SGModel_171 dX10_policy_75 q1 hl3 rfl rfl rfl (Nat.le_of_ble_eq_true rfl) (Nat.le_of_ble_eq_true rfl) (Nat.le_of_ble_eq_true rfl) (Nat.le_of_ble_eq_true rfl) ?_
                    refine rn_lv [(0, .ref o0_), (1, .int (0 : Int32)), (2, .int (2 : Int32))] rfl ?_
                    refine rn_aload_n (i := 0) dX10_refuses_0 rfl rfl ?_
                    refine rn_get q1 kg_SGModel_137 hl3 hx3 dX10_refuses_1 ?_
                    refine rn_if_ne (tgt := 16) dX10_refuses_4 (by decide) (fun h104 => (cx_ne (cv_ne h104) rk_0 rk_0 (by decide)).elim) (fun h104 => ?_)
                    refine rn_iload_n (i := 1) dX10_refuses_7 rfl rfl ?_
                    refine rn_if_eq (tgt := 16) dX10_refuses_8 (by decide) (fun h105 => ?_) (fun h105 => (cx_ne (cv_ne h105) rk_0 rk_0 (by decide)).elim)
                    refine rn_aload_n (i := 0) dX10_refuses_16 rfl rfl ?_
                    refine rn_get q1 kg_SGModel_137 hl3 hx3 dX10_refuses_17 ?_
                    refine rn_if_le (tgt := 27) dX10_refuses_20 (by decide) (fun h106 => ?_) (fun h106 => (cx_lt (cv_nle h106) rk_0 rk_0 (by decide)).elim)
                    refine rn_iconst (v := (0 : Int32)) dX10_refuses_27 (by decide) ?_
                    refine rn_iret dX10_refuses_28 rfl rfl (rq_in ?_)
                    refine rn_stk [.int (0 : Int32)] rfl ?_
                    refine rn_if_eq (tgt := 83) dX10_policy_78 (by decide) (fun h107 => ?_) (fun h107 => (cx_ne (cv_ne h107) rk_0 rk_0 (by decide)).elim)
                    refine rn_aload_n (i := 0) dX10_policy_83 rfl rfl ?_
                    refine rn_get q1 kg_SGModel_197 hl3 hx101 dX10_policy_84 ?_
                    refine rn_istore dX10_policy_87 (by decide) [(0, .ref o0_), (1, .int x1_), (2, .int x2_), (3, .int x3_), (4, .int x4_), (5, .int x5_), (6, .int x6_), (7, .int x101)] rfl ?_
                    refine rn_aload_n (i := 0) dX10_policy_89 rfl rfl ?_
                    obtain ⟨o108, hx108, m108⟩ := fs_r hf3 10 rfl
                    refine rn_get q1 kg_SGModel_25 hl3 hx108 dX10_policy_90 ?_
                    refine rn_iload dX10_policy_93 rfl ?_
                    refine rn_iload_n (i := 1) dX10_policy_95 rfl rfl ?_
                    obtain ⟨q109, f109, hq109, hl109, hf109⟩ := ts_ia hS3.1 m108 hk_41
                    refine rs_iast q109 hS3 hq109 hl109 hf109 hk_41 rfl rfl r103 (by decide) (by decide) (rg_w r26 (by decide) (by decide)) dX10_policy_96 (fun w110 f111 hS111 hl111 hf111 hu111 hn111 => ?_)
                    have fk112 : fK1 4 S ws w110 := fk_ne fk4 hn111 hq109 rfl
                    refine rn_aload_n (i := 0) dX10_policy_97 rfl rfl ?_
                    obtain ⟨o113, hx113, m113⟩ := fs_r hf3 11 rfl
                    refine rn_get q1 kg_SGModel_28 ((hn111 _ (ts_ne hq109 hq1 rfl)).trans hl3) hx113 dX10_policy_98 ?_
                    refine rn_iload dX10_policy_101 rfl ?_
                    refine rn_iload_n (i := 2) dX10_policy_103 rfl rfl ?_
                    obtain ⟨q114, f114, hq114, hl114, hf114⟩ := ts_ia hS111.1 m113 hk_42
                    refine rs_iast q114 hS111 hq114 hl114 hf114 hk_42 rfl rfl r103 (by decide) (by decide) (rg_any x2_) dX10_policy_104 (fun w115 f116 hS116 hl116 hf116 hu116 hn116 => ?_)
                    have fk117 : fK1 4 S ws w115 := fk_ne fk112 hn116 hq114 rfl
                    refine rn_aload_n (i := 0) dX10_policy_105 rfl rfl ?_
                    obtain ⟨o118, hx118, m118⟩ := fs_r hf3 12 rfl
                    refine rn_get q1 kg_SGModel_31 ((hn116 _ (ts_ne hq114 hq1 rfl)).trans ((hn111 _ (ts_ne hq109 hq1 rfl)).trans hl3)) hx118 dX10_policy_106 ?_
                    refine rn_iload dX10_policy_109 rfl ?_
                    refine rn_iload_n (i := 3) dX10_policy_111 rfl rfl ?_
                    obtain ⟨q119, f119, hq119, hl119, hf119⟩ := ts_ia hS116.1 m118 hk_43
                    refine rs_iast q119 hS116 hq119 hl119 hf119 hk_43 rfl rfl r103 (by decide) (by decide) (rg_w r49 (by decide) (by decide)) dX10_policy_112 (fun w120 f121 hS121 hl121 hf121 hu121 hn121 => ?_)
                    have fk122 : fK1 4 S ws w120 := fk_ne fk117 hn121 hq119 rfl
                    refine rn_aload_n (i := 0) dX10_policy_113 rfl rfl ?_
                    obtain ⟨o123, hx123, m123⟩ := fs_r hf3 13 rfl
                    refine rn_get q1 kg_SGModel_34 ((hn121 _ (ts_ne hq119 hq1 rfl)).trans ((hn116 _ (ts_ne hq114 hq1 rfl)).trans ((hn111 _ (ts_ne hq109 hq1 rfl)).trans hl3))) hx123 dX10_policy_114 ?_
                    refine rn_iload dX10_policy_117 rfl ?_
                    refine rn_iload dX10_policy_119 rfl ?_
                    obtain ⟨q124, f124, hq124, hl124, hf124⟩ := ts_ia hS121.1 m123 hk_44
                    refine rs_iast q124 hS121 hq124 hl124 hf124 hk_44 rfl rfl r103 (by decide) (by decide) (rg_any x4_) dX10_policy_121 (fun w125 f126 hS126 hl126 hf126 hu126 hn126 => ?_)
                    have fk127 : fK1 4 S ws w125 := fk_ne fk122 hn126 hq124 rfl
                    refine rn_aload_n (i := 0) dX10_policy_122 rfl rfl ?_
                    obtain ⟨o128, hx128, m128⟩ := fs_r hf3 14 rfl
                    refine rn_get q1 kg_SGModel_37 ((hn126 _ (ts_ne hq124 hq1 rfl)).trans ((hn121 _ (ts_ne hq119 hq1 rfl)).trans ((hn116 _ (ts_ne hq114 hq1 rfl)).trans ((hn111 _ (ts_ne hq109 hq1 rfl)).trans hl3)))) hx128 dX10_policy_123 ?_
                    refine rn_iload dX10_policy_126 rfl ?_
                    refine rn_iload dX10_policy_128 rfl ?_
                    obtain ⟨q129, f129, hq129, hl129, hf129⟩ := ts_ia hS126.1 m128 hk_45
                    refine rs_iast q129 hS126 hq129 hl129 hf129 hk_45 rfl rfl r103 (by decide) (by decide) (rg_w r72 (by decide) (by decide)) dX10_policy_130 (fun w130 f131 hS131 hl131 hf131 hu131 hn131 => ?_)
                    have fk132 : fK1 4 S ws w130 := fk_ne fk127 hn131 hq129 rfl
                    refine rn_aload_n (i := 0) dX10_policy_131 rfl rfl ?_
                    obtain ⟨o133, hx133, m133⟩ := fs_r hf3 18 rfl
                    refine rn_get q1 kg_SGModel_49 ((hn131 _ (ts_ne hq129 hq1 rfl)).trans ((hn126 _ (ts_ne hq124 hq1 rfl)).trans ((hn121 _ (ts_ne hq119 hq1 rfl)).trans ((hn116 _ (ts_ne hq114 hq1 rfl)).trans ((hn111 _ (ts_ne hq109 hq1 rfl)).trans hl3))))) hx133 dX10_policy_132 ?_
                    refine rn_iload dX10_policy_135 rfl ?_
                    refine rn_iload dX10_policy_137 rfl ?_
                    obtain ⟨q134, f134, hq134, hl134, hf134⟩ := ts_ia hS131.1 m133 hk_49
                    refine rs_iast q134 hS131 hq134 hl134 hf134 hk_49 rfl rfl r103 (by decide) (by decide) (rg_w r95 (by decide) (by decide)) dX10_policy_139 (fun w135 f136 hS136 hl136 hf136 hu136 hn136 => ?_)
                    have fk137 : fK1 4 S ws w135 := fk_ne fk132 hn136 hq134 rfl
                    refine rn_aload_n (i := 0) dX10_policy_140 rfl rfl ?_
                    obtain ⟨o138, hx138, m138⟩ := fs_r hf3 15 rfl
                    refine rn_get q1 kg_SGModel_40 ((hn136 _ (ts_ne hq134 hq1 rfl)).trans ((hn131 _ (ts_ne hq129 hq1 rfl)).trans ((hn126 _ (ts_ne hq124 hq1 rfl)).trans ((hn121 _ (ts_ne hq119 hq1 rfl)).trans ((hn116 _ (ts_ne hq114 hq1 rfl)).trans ((hn111 _ (ts_ne hq109 hq1 rfl)).trans hl3)))))) hx138 dX10_policy_141 ?_
                    refine rn_iload dX10_policy_144 rfl ?_
                    refine rn_aload_n (i := 0) dX10_policy_146 rfl rfl ?_
                    obtain ⟨x139, hx139, rx139⟩ := fs_i hf3 19 rfl
                    refine rn_get q1 kg_SGModel_191 ((hn136 _ (ts_ne hq134 hq1 rfl)).trans ((hn131 _ (ts_ne hq129 hq1 rfl)).trans ((hn126 _ (ts_ne hq124 hq1 rfl)).trans ((hn121 _ (ts_ne hq119 hq1 rfl)).trans ((hn116 _ (ts_ne hq114 hq1 rfl)).trans ((hn111 _ (ts_ne hq109 hq1 rfl)).trans hl3)))))) hx139 dX10_policy_147 ?_
                    obtain ⟨q140, f140, hq140, hl140, hf140⟩ := ts_ia hS136.1 m138 hk_46
                    refine rs_iast q140 hS136 hq140 hl140 hf140 hk_46 rfl rfl r103 (by decide) (by decide) rx139 dX10_policy_150 (fun w141 f142 hS142 hl142 hf142 hu142 hn142 => ?_)
                    have fk143 : fK1 4 S ws w141 := fk_ne fk137 hn142 hq140 rfl
                    refine rn_aload_n (i := 0) dX10_policy_151 rfl rfl ?_
                    obtain ⟨o144, hx144, m144⟩ := fs_r hf3 16 rfl
                    refine rn_get q1 kg_SGModel_43 ((hn142 _ (ts_ne hq140 hq1 rfl)).trans ((hn136 _ (ts_ne hq134 hq1 rfl)).trans ((hn131 _ (ts_ne hq129 hq1 rfl)).trans ((hn126 _ (ts_ne hq124 hq1 rfl)).trans ((hn121 _ (ts_ne hq119 hq1 rfl)).trans ((hn116 _ (ts_ne hq114 hq1 rfl)).trans ((hn111 _ (ts_ne hq109 hq1 rfl)).trans hl3))))))) hx144 dX10_policy_152 ?_
                    refine rn_iload dX10_policy_155 rfl ?_
                    refine rn_aload_n (i := 0) dX10_policy_157 rfl rfl ?_
                    obtain ⟨x145, hx145, rx145⟩ := fs_i hf3 20 rfl
                    refine rn_get q1 kg_SGModel_194 ((hn142 _ (ts_ne hq140 hq1 rfl)).trans ((hn136 _ (ts_ne hq134 hq1 rfl)).trans ((hn131 _ (ts_ne hq129 hq1 rfl)).trans ((hn126 _ (ts_ne hq124 hq1 rfl)).trans ((hn121 _ (ts_ne hq119 hq1 rfl)).trans ((hn116 _ (ts_ne hq114 hq1 rfl)).trans ((hn111 _ (ts_ne hq109 hq1 rfl)).trans hl3))))))) hx145 dX10_policy_158 ?_
                    obtain ⟨q146, f146, hq146, hl146, hf146⟩ := ts_ia hS142.1 m144 hk_47
                    refine rs_iast q146 hS142 hq146 hl146 hf146 hk_47 rfl rfl r103 (by decide) (by decide) rx145 dX10_policy_161 (fun w147 f148 hS148 hl148 hf148 hu148 hn148 => ?_)
                    have fk149 : fK1 4 S ws w147 := fk_ne fk143 hn148 hq146 rfl
                    have hl150 := ((hn148 _ (ts_ne hq146 hq1 rfl)).trans ((hn142 _ (ts_ne hq140 hq1 rfl)).trans ((hn136 _ (ts_ne hq134 hq1 rfl)).trans ((hn131 _ (ts_ne hq129 hq1 rfl)).trans ((hn126 _ (ts_ne hq124 hq1 rfl)).trans ((hn121 _ (ts_ne hq119 hq1 rfl)).trans ((hn116 _ (ts_ne hq114 hq1 rfl)).trans ((hn111 _ (ts_ne hq109 hq1 rfl)).trans hl3))))))))
                    refine rn_aload_n (i := 0) dX10_policy_162 rfl rfl ?_
                    obtain ⟨o151, hx151, m151⟩ := fs_r hf3 17 rfl
                    refine rn_get q1 kg_SGModel_46 hl150 hx151 dX10_policy_163 ?_
                    refine rn_iload dX10_policy_166 rfl ?_
                    refine rn_aload_n (i := 0) dX10_policy_168 rfl rfl ?_
                    obtain ⟨x152, hx152, rx152⟩ := fs_i hf3 21 rfl
                    refine rn_get q1 kg_SGModel_53 hl150 hx152 dX10_policy_169 ?_
                    obtain ⟨q153, f153, hq153, hl153, hf153⟩ := ts_ia hS148.1 m151 hk_48
                    refine rs_iast q153 hS148 hq153 hl153 hf153 hk_48 rfl rfl r103 (by decide) (by decide) rx152 dX10_policy_172 (fun w154 f155 hS155 hl155 hf155 hu155 hn155 => ?_)
                    have fk156 : fK1 4 S ws w154 := fk_ne fk149 hn155 hq153 rfl
                    have hl157 := ((hn155 _ (ts_ne hq153 hq109 rfl)).trans ((hn148 _ (ts_ne hq146 hq109 rfl)).trans ((hn142 _ (ts_ne hq140 hq109 rfl)).trans ((hn136 _ (ts_ne hq134 hq109 rfl)).trans ((hn131 _ (ts_ne hq129 hq109 rfl)).trans ((hn126 _ (ts_ne hq124 hq109 rfl)).trans ((hn121 _ (ts_ne hq119 hq109 rfl)).trans ((hn116 _ (ts_ne hq114 hq109 rfl)).trans hl111))))))))
                    refine rn_aload_n (i := 0) dX10_policy_173 rfl rfl ?_
                    refine rn_iconst (v := (0 : Int32)) dX10_policy_174 (by decide) ?_
                    refine rs_put q1 (kp_SGModel_191 _) hS155 hq1 ((hn155 _ (ts_ne hq153 hq1 rfl)).trans hl150) hf3 hk_30 rfl rfl (tv_i (rg_w rk_0 (by decide) (by decide))) rfl rfl dX10_policy_175 (fun w158 fs159 hS159 hl159 hf159 hx159 ho159 hn159 => ?_)
                    have fk160 : fK1 4 S ws w158 := fk_put fk156 hS155.1 hq1 ((hn155 _ (ts_ne hq153 hq1 rfl)).trans hl150) hl159 ho159 (by decide)
                    have hl161 := ((hn159 _ (ts_ne hq1 hq114 rfl)).trans ((hn155 _ (ts_ne hq153 hq114 rfl)).trans ((hn148 _ (ts_ne hq146 hq114 rfl)).trans ((hn142 _ (ts_ne hq140 hq114 rfl)).trans ((hn136 _ (ts_ne hq134 hq114 rfl)).trans ((hn131 _ (ts_ne hq129 hq114 rfl)).trans ((hn126 _ (ts_ne hq124 hq114 rfl)).trans ((hn121 _ (ts_ne hq119 hq114 rfl)).trans hl116))))))))
                    refine rn_aload_n (i := 0) dX10_policy_178 rfl rfl ?_
                    refine rn_iconst (v := (0 : Int32)) dX10_policy_179 (by decide) ?_
                    refine rs_put q1 (kp_SGModel_194 _) hS159 hq1 hl159 hf159 hk_30 rfl rfl (tv_i (rg_w rk_0 (by decide) (by decide))) rfl rfl dX10_policy_180 (fun w162 fs163 hS163 hl163 hf163 hx163 ho163 hn163 => ?_)
                    have fk164 : fK1 4 S ws w162 := fk_put fk160 hS159.1 hq1 hl159 hl163 ho163 (by decide)
                    have hl165 := ((hn163 _ (ts_ne hq1 hq119 rfl)).trans ((hn159 _ (ts_ne hq1 hq119 rfl)).trans ((hn155 _ (ts_ne hq153 hq119 rfl)).trans ((hn148 _ (ts_ne hq146 hq119 rfl)).trans ((hn142 _ (ts_ne hq140 hq119 rfl)).trans ((hn136 _ (ts_ne hq134 hq119 rfl)).trans ((hn131 _ (ts_ne hq129 hq119 rfl)).trans ((hn126 _ (ts_ne hq124 hq119 rfl)).trans hl121))))))))
                    refine rn_aload_n (i := 0) dX10_policy_183 rfl rfl ?_
                    refine rn_ldc (v := (65535 : Int32)) wd_1093 dX10_policy_184 ?_
                    refine rs_put q1 (kp_SGModel_53 _) hS163 hq1 hl163 hf163 hk_30 rfl rfl (tv_i (rg_w rk_65535 (by decide) (by decide))) rfl rfl dX10_policy_186 (fun w166 fs167 hS167 hl167 hf167 hx167 ho167 hn167 => ?_)
                    have fk168 : fK1 4 S ws w166 := fk_put fk164 hS163.1 hq1 hl163 hl167 ho167 (by decide)
                    have hl169 := ((hn167 _ (ts_ne hq1 hq124 rfl)).trans ((hn163 _ (ts_ne hq1 hq124 rfl)).trans ((hn159 _ (ts_ne hq1 hq124 rfl)).trans ((hn155 _ (ts_ne hq153 hq124 rfl)).trans ((hn148 _ (ts_ne hq146 hq124 rfl)).trans ((hn142 _ (ts_ne hq140 hq124 rfl)).trans ((hn136 _ (ts_ne hq134 hq124 rfl)).trans ((hn131 _ (ts_ne hq129 hq124 rfl)).trans hl126))))))))
                    refine rn_aload_n (i := 0) dX10_policy_189 rfl rfl ?_
                    refine rn_dup dX10_policy_190 rfl ?_
                    refine rn_get q1 kg_SGModel_197 hl167 ((ho167 9 (by decide)).trans ((ho163 9 (by decide)).trans ((ho159 9 (by decide)).trans hx101))) dX10_policy_191 ?_
                    refine rn_iconst (v := (1 : Int32)) dX10_policy_194 (by decide) ?_
                    refine rs_addC (1) (24) r103 rk_1 dX10_policy_195 (by decide) (fun v170 ev170 rv170 => ?_)
                    refine rs_put q1 (kp_SGModel_197 _) hS167 hq1 hl167 hf167 hk_30 rfl rfl (tv_i (rg_w rv170 (by decide) (by decide))) rfl rfl dX10_policy_196 (fun w171 fs172 hS172 hl172 hf172 hx172 ho172 hn172 => ?_)
                    have fk173 : fK1 4 S ws w171 := fk_put fk168 hS167.1 hq1 hl167 hl172 ho172 (by decide)
                    have hl174 := ((hn172 _ (ts_ne hq1 hq129 rfl)).trans ((hn167 _ (ts_ne hq1 hq129 rfl)).trans ((hn163 _ (ts_ne hq1 hq129 rfl)).trans ((hn159 _ (ts_ne hq1 hq129 rfl)).trans ((hn155 _ (ts_ne hq153 hq129 rfl)).trans ((hn148 _ (ts_ne hq146 hq129 rfl)).trans ((hn142 _ (ts_ne hq140 hq129 rfl)).trans ((hn136 _ (ts_ne hq134 hq129 rfl)).trans hl131))))))))
                    refine rn_aload_n (i := 0) dX10_policy_199 rfl rfl ?_
                    refine rn_get q1 kg_SGModel_197 hl172 hx172 dX10_policy_200 ?_
                    exact rn_iret dX10_policy_203 rfl rfl (rq_in ⟨hS172, v170, rfl, (rg_w rv170 (by decide) (by decide)), fk173⟩)
                  · have ch102 := cv_eq h102
                    have r175 : Rg (24) (24) x101 := rf_eqx ch102 rx101 rk_24 (by decide) (by decide)
                    refine rn_iconst (v := (1 : Int32)) dX10_policy_69 (by decide) ?_
                    refine rn_goto (tgt := 74) dX10_policy_70 (by decide) ?_
                    refine rn_iconst (v := (2 : Int32)) dX10_policy_74 (by decide) ?_
                    refine rn_inV (d' := 0) (z' := 0) [.int (1 : Int32), .int (2 : Int32)] kl_SGModel_171 dX10_policy_75 q1 hl3 rfl rfl rfl (Nat.le_of_ble_eq_true rfl) (Nat.le_of_ble_eq_true rfl) (Nat.le_of_ble_eq_true rfl) (Nat.le_of_ble_eq_true rfl) ?_
                    refine rn_lv [(0, .ref o0_), (1, .int (1 : Int32)), (2, .int (2 : Int32))] rfl ?_
                    refine rn_aload_n (i := 0) dX10_refuses_0 rfl rfl ?_
                    refine rn_get q1 kg_SGModel_137 hl3 hx3 dX10_refuses_1 ?_
                    refine rn_if_ne (tgt := 16) dX10_refuses_4 (by decide) (fun h176 => (cx_ne (cv_ne h176) rk_0 rk_0 (by decide)).elim) (fun h176 => ?_)
                    refine rn_iload_n (i := 1) dX10_refuses_7 rfl rfl ?_
                    refine rn_if_eq (tgt := 16) dX10_refuses_8 (by decide) (fun h177 => (cx_eq (cv_eq h177) rk_1 rk_0 (by decide)).elim) (fun h177 => ?_)
                    refine rn_aload_n (i := 0) dX10_refuses_11 rfl rfl ?_
                    refine rn_iload_n (i := 2) dX10_refuses_12 rfl rfl ?_
                    refine rs_put q1 (kp_SGModel_137 _) hS3 hq1 hl3 hf3 hk_30 rfl rfl (tv_i (rg_w rk_2 (by decide) (by decide))) rfl rfl dX10_refuses_13 (fun w178 fs179 hS179 hl179 hf179 hx179 ho179 hn179 => ?_)
                    have fk180 : fK1 4 S ws w178 := fk_put fk4 hS3.1 hq1 hl3 hl179 ho179 (by decide)
                    refine rn_aload_n (i := 0) dX10_refuses_16 rfl rfl ?_
                    refine rn_get q1 kg_SGModel_137 hl179 hx179 dX10_refuses_17 ?_
                    refine rn_if_le (tgt := 27) dX10_refuses_20 (by decide) (fun h181 => (cx_le (cv_le h181) rk_2 rk_0 (by decide)).elim) (fun h181 => ?_)
                    refine rn_iconst (v := (1 : Int32)) dX10_refuses_23 (by decide) ?_
                    refine rn_goto (tgt := 28) dX10_refuses_24 (by decide) ?_
                    refine rn_iret dX10_refuses_28 rfl rfl (rq_in ?_)
                    refine rn_stk [.int (1 : Int32)] rfl ?_
                    refine rn_if_eq (tgt := 83) dX10_policy_78 (by decide) (fun h182 => (cx_eq (cv_eq h182) rk_1 rk_0 (by decide)).elim) (fun h182 => ?_)
                    refine rn_iconst (v := (0 : Int32)) dX10_policy_81 (by decide) ?_
                    exact rn_iret dX10_policy_82 rfl rfl (rq_in ⟨hS179, (0 : Int32), rfl, (rg_w rk_0 (by decide) (by decide)), fk180⟩)
