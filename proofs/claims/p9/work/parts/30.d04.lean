abbrev q_t_X10_meant (G : rn_G) (S : ts_S) (ws : va_W) : rn_R → va_W → Prop := rQ (fun v w => St G S [30] ws S w ∧ (v = none)) (fun E w => False)
set_option maxRecDepth 20000 in
set_option maxHeartbeats 4000000 in
theorem t_X10_meant (G : rn_G) (S : ts_S) (ws : va_W) (hW : ts_W G S ws) (o0_ : Nat) (m0_ : (o0_, 30) ∈ S) (x1_ : Int32) (x2_ : Int32) (x3_ : Int32) : Rn G mX10_meant 1 22 0 0 0 (lv_args 0 [.ref o0_, .int x1_, .int x2_, .int x3_]) [] ws (q_t_X10_meant G S ws ) := by
  have hS0 : St G S [30] ws S ws := St.rf hW
  refine rn_lv [(0, .ref o0_), (1, .int x1_), (2, .int x2_), (3, .int x3_)] rfl ?_
  refine rn_aload_n (i := 0) dX10_meant_0 rfl rfl ?_
  refine rn_iconst (v := (0 : Int32)) dX10_meant_1 (by decide) ?_
  obtain ⟨q1, fs1, hq1, hl1, hf1⟩ := ts_obj hS0.1 m0_ hk_30
  refine rs_put q1 (kp_SGModel_137 _) hS0 hq1 hl1 hf1 hk_30 rfl rfl (tv_i (rg_w rk_0 (by decide) (by decide))) rfl rfl dX10_meant_2 (fun w2 fs3 hS3 hl3 hf3 hx3 ho3 hn3 => ?_)
  refine rn_aload_n (i := 0) dX10_meant_5 rfl rfl ?_
  refine rn_iload_n (i := 1) dX10_meant_6 rfl rfl ?_
  refine rn_iconst (v := (0 : Int32)) dX10_meant_7 (by decide) ?_
  refine rn_sipush (v := (255 : Int32)) dX10_meant_8 (by decide) ?_
  refine rn_inS (d' := 0) (z' := 0) [.int x1_, .int (0 : Int32), .int (255 : Int32)] kl_SGModel_179 dX10_meant_11 rfl rfl (Nat.le_of_ble_eq_true rfl) (Nat.le_of_ble_eq_true rfl) (Nat.le_of_ble_eq_true rfl) (Nat.le_of_ble_eq_true rfl) ?_
  refine rn_lv [(0, .int x1_), (1, .int (0 : Int32)), (2, .int (255 : Int32))] rfl ?_
  refine rn_iload_n (i := 0) dX10_in_0 rfl rfl ?_
  refine rn_iload_n (i := 1) dX10_in_1 rfl rfl ?_
  refine rn_icmp_lt (tgt := 14) dX10_in_2 (by decide) (fun h4 => ?_) (fun h4 => ?_)
  · have ch4 := cv_lt h4
    have r5 : Rg (-2147483648) (-1) x1_ := rf_ltx ch4 (rg_any x1_) rk_0 (by decide)
    refine rn_iconst (v := (0 : Int32)) dX10_in_14 (by decide) ?_
    refine rn_iret dX10_in_15 rfl rfl (rq_in ?_)
    refine rn_stk [.int (0 : Int32), .ref o0_] rfl ?_
    refine rn_if_eq (tgt := 36) dX10_meant_14 (by decide) (fun h6 => ?_) (fun h6 => (cx_ne (cv_ne h6) rk_0 rk_0 (by decide)).elim)
    refine rn_iconst (v := (1 : Int32)) dX10_meant_36 (by decide) ?_
    refine rn_goto (tgt := 41) dX10_meant_37 (by decide) ?_
    refine rn_iconst (v := (1 : Int32)) dX10_meant_41 (by decide) ?_
    refine rn_inV (d' := 0) (z' := 0) [.int (1 : Int32), .int (1 : Int32)] kl_SGModel_171 dX10_meant_42 q1 hl3 rfl rfl rfl (Nat.le_of_ble_eq_true rfl) (Nat.le_of_ble_eq_true rfl) (Nat.le_of_ble_eq_true rfl) (Nat.le_of_ble_eq_true rfl) ?_
    refine rn_lv [(0, .ref o0_), (1, .int (1 : Int32)), (2, .int (1 : Int32))] rfl ?_
    refine rn_aload_n (i := 0) dX10_refuses_0 rfl rfl ?_
    refine rn_get q1 kg_SGModel_137 hl3 hx3 dX10_refuses_1 ?_
    refine rn_if_ne (tgt := 16) dX10_refuses_4 (by decide) (fun h7 => (cx_ne (cv_ne h7) rk_0 rk_0 (by decide)).elim) (fun h7 => ?_)
    refine rn_iload_n (i := 1) dX10_refuses_7 rfl rfl ?_
    refine rn_if_eq (tgt := 16) dX10_refuses_8 (by decide) (fun h8 => (cx_eq (cv_eq h8) rk_1 rk_0 (by decide)).elim) (fun h8 => ?_)
    refine rn_aload_n (i := 0) dX10_refuses_11 rfl rfl ?_
    refine rn_iload_n (i := 2) dX10_refuses_12 rfl rfl ?_
    refine rs_put q1 (kp_SGModel_137 _) hS3 hq1 hl3 hf3 hk_30 rfl rfl (tv_i (rg_w rk_1 (by decide) (by decide))) rfl rfl dX10_refuses_13 (fun w9 fs10 hS10 hl10 hf10 hx10 ho10 hn10 => ?_)
    refine rn_aload_n (i := 0) dX10_refuses_16 rfl rfl ?_
    refine rn_get q1 kg_SGModel_137 hl10 hx10 dX10_refuses_17 ?_
    refine rn_if_le (tgt := 27) dX10_refuses_20 (by decide) (fun h11 => (cx_le (cv_le h11) rk_1 rk_0 (by decide)).elim) (fun h11 => ?_)
    refine rn_iconst (v := (1 : Int32)) dX10_refuses_23 (by decide) ?_
    refine rn_goto (tgt := 28) dX10_refuses_24 (by decide) ?_
    refine rn_iret dX10_refuses_28 rfl rfl (rq_in ?_)
    refine rn_stk [.int (1 : Int32)] rfl ?_
    refine rn_if_ne (tgt := 63) dX10_meant_45 (by decide) (fun h12 => ?_) (fun h12 => (cx_eq (cv_eq h12) rk_1 rk_0 (by decide)).elim)
    exact rn_vret dX10_meant_63 rfl (rq_in ⟨hS10, rfl⟩)
  · have ch4 := cv_nlt h4
    have r13 : Rg (0) (2147483647) x1_ := rf_ley ch4 rk_0 (rg_any x1_) (by decide)
    refine rn_iload_n (i := 0) dX10_in_5 rfl rfl ?_
    refine rn_iload_n (i := 2) dX10_in_6 rfl rfl ?_
    refine rn_icmp_gt (tgt := 14) dX10_in_7 (by decide) (fun h14 => ?_) (fun h14 => ?_)
    · have ch14 := cv_lt h14
      have r15 : Rg (256) (2147483647) x1_ := rf_lty ch14 rk_255 r13 (by decide)
      refine rn_iconst (v := (0 : Int32)) dX10_in_14 (by decide) ?_
      refine rn_iret dX10_in_15 rfl rfl (rq_in ?_)
      refine rn_stk [.int (0 : Int32), .ref o0_] rfl ?_
      refine rn_if_eq (tgt := 36) dX10_meant_14 (by decide) (fun h16 => ?_) (fun h16 => (cx_ne (cv_ne h16) rk_0 rk_0 (by decide)).elim)
      refine rn_iconst (v := (1 : Int32)) dX10_meant_36 (by decide) ?_
      refine rn_goto (tgt := 41) dX10_meant_37 (by decide) ?_
      refine rn_iconst (v := (1 : Int32)) dX10_meant_41 (by decide) ?_
      refine rn_inV (d' := 0) (z' := 0) [.int (1 : Int32), .int (1 : Int32)] kl_SGModel_171 dX10_meant_42 q1 hl3 rfl rfl rfl (Nat.le_of_ble_eq_true rfl) (Nat.le_of_ble_eq_true rfl) (Nat.le_of_ble_eq_true rfl) (Nat.le_of_ble_eq_true rfl) ?_
      refine rn_lv [(0, .ref o0_), (1, .int (1 : Int32)), (2, .int (1 : Int32))] rfl ?_
      refine rn_aload_n (i := 0) dX10_refuses_0 rfl rfl ?_
      refine rn_get q1 kg_SGModel_137 hl3 hx3 dX10_refuses_1 ?_
      refine rn_if_ne (tgt := 16) dX10_refuses_4 (by decide) (fun h17 => (cx_ne (cv_ne h17) rk_0 rk_0 (by decide)).elim) (fun h17 => ?_)
      refine rn_iload_n (i := 1) dX10_refuses_7 rfl rfl ?_
      refine rn_if_eq (tgt := 16) dX10_refuses_8 (by decide) (fun h18 => (cx_eq (cv_eq h18) rk_1 rk_0 (by decide)).elim) (fun h18 => ?_)
      refine rn_aload_n (i := 0) dX10_refuses_11 rfl rfl ?_
      refine rn_iload_n (i := 2) dX10_refuses_12 rfl rfl ?_
      refine rs_put q1 (kp_SGModel_137 _) hS3 hq1 hl3 hf3 hk_30 rfl rfl (tv_i (rg_w rk_1 (by decide) (by decide))) rfl rfl dX10_refuses_13 (fun w19 fs20 hS20 hl20 hf20 hx20 ho20 hn20 => ?_)
      refine rn_aload_n (i := 0) dX10_refuses_16 rfl rfl ?_
      refine rn_get q1 kg_SGModel_137 hl20 hx20 dX10_refuses_17 ?_
      refine rn_if_le (tgt := 27) dX10_refuses_20 (by decide) (fun h21 => (cx_le (cv_le h21) rk_1 rk_0 (by decide)).elim) (fun h21 => ?_)
      refine rn_iconst (v := (1 : Int32)) dX10_refuses_23 (by decide) ?_
      refine rn_goto (tgt := 28) dX10_refuses_24 (by decide) ?_
      refine rn_iret dX10_refuses_28 rfl rfl (rq_in ?_)
      refine rn_stk [.int (1 : Int32)] rfl ?_
      refine rn_if_ne (tgt := 63) dX10_meant_45 (by decide) (fun h22 => ?_) (fun h22 => (cx_eq (cv_eq h22) rk_1 rk_0 (by decide)).elim)
      exact rn_vret dX10_meant_63 rfl (rq_in ⟨hS20, rfl⟩)
    · have ch14 := cv_nlt h14
      have r23 : Rg (0) (255) x1_ := rf_lex ch14 r13 rk_255 (by decide)
      refine rn_iconst (v := (1 : Int32)) dX10_in_10 (by decide) ?_
      refine rn_goto (tgt := 15) dX10_in_11 (by decide) ?_
      refine rn_iret dX10_in_15 rfl rfl (rq_in ?_)
      refine rn_stk [.int (1 : Int32), .ref o0_] rfl ?_
      refine rn_if_eq (tgt := 36) dX10_meant_14 (by decide) (fun h24 => (cx_eq (cv_eq h24) rk_1 rk_0 (by decide)).elim) (fun h24 => ?_)
      refine rn_iload_n (i := 3) dX10_meant_17 rfl rfl ?_
      refine rn_iconst (v := (0 : Int32)) dX10_meant_18 (by decide) ?_
      refine rn_ldc (v := (65535 : Int32)) wd_1093 dX10_meant_19 ?_
      refine rn_inS (d' := 0) (z' := 0) [.int x3_, .int (0 : Int32), .int (65535 : Int32)] kl_SGModel_179 dX10_meant_21 rfl rfl (Nat.le_of_ble_eq_true rfl) (Nat.le_of_ble_eq_true rfl) (Nat.le_of_ble_eq_true rfl) (Nat.le_of_ble_eq_true rfl) ?_
      refine rn_lv [(0, .int x3_), (1, .int (0 : Int32)), (2, .int (65535 : Int32))] rfl ?_
      refine rn_iload_n (i := 0) dX10_in_0 rfl rfl ?_
      refine rn_iload_n (i := 1) dX10_in_1 rfl rfl ?_
      refine rn_icmp_lt (tgt := 14) dX10_in_2 (by decide) (fun h25 => ?_) (fun h25 => ?_)
      · have ch25 := cv_lt h25
        have r26 : Rg (-2147483648) (-1) x3_ := rf_ltx ch25 (rg_any x3_) rk_0 (by decide)
        refine rn_iconst (v := (0 : Int32)) dX10_in_14 (by decide) ?_
        refine rn_iret dX10_in_15 rfl rfl (rq_in ?_)
        refine rn_stk [.int (0 : Int32), .ref o0_] rfl ?_
        refine rn_if_eq (tgt := 36) dX10_meant_24 (by decide) (fun h27 => ?_) (fun h27 => (cx_ne (cv_ne h27) rk_0 rk_0 (by decide)).elim)
        refine rn_iconst (v := (1 : Int32)) dX10_meant_36 (by decide) ?_
        refine rn_goto (tgt := 41) dX10_meant_37 (by decide) ?_
        refine rn_iconst (v := (1 : Int32)) dX10_meant_41 (by decide) ?_
        refine rn_inV (d' := 0) (z' := 0) [.int (1 : Int32), .int (1 : Int32)] kl_SGModel_171 dX10_meant_42 q1 hl3 rfl rfl rfl (Nat.le_of_ble_eq_true rfl) (Nat.le_of_ble_eq_true rfl) (Nat.le_of_ble_eq_true rfl) (Nat.le_of_ble_eq_true rfl) ?_
        refine rn_lv [(0, .ref o0_), (1, .int (1 : Int32)), (2, .int (1 : Int32))] rfl ?_
        refine rn_aload_n (i := 0) dX10_refuses_0 rfl rfl ?_
        refine rn_get q1 kg_SGModel_137 hl3 hx3 dX10_refuses_1 ?_
        refine rn_if_ne (tgt := 16) dX10_refuses_4 (by decide) (fun h28 => (cx_ne (cv_ne h28) rk_0 rk_0 (by decide)).elim) (fun h28 => ?_)
        refine rn_iload_n (i := 1) dX10_refuses_7 rfl rfl ?_
        refine rn_if_eq (tgt := 16) dX10_refuses_8 (by decide) (fun h29 => (cx_eq (cv_eq h29) rk_1 rk_0 (by decide)).elim) (fun h29 => ?_)
        refine rn_aload_n (i := 0) dX10_refuses_11 rfl rfl ?_
        refine rn_iload_n (i := 2) dX10_refuses_12 rfl rfl ?_
        refine rs_put q1 (kp_SGModel_137 _) hS3 hq1 hl3 hf3 hk_30 rfl rfl (tv_i (rg_w rk_1 (by decide) (by decide))) rfl rfl dX10_refuses_13 (fun w30 fs31 hS31 hl31 hf31 hx31 ho31 hn31 => ?_)
        refine rn_aload_n (i := 0) dX10_refuses_16 rfl rfl ?_
        refine rn_get q1 kg_SGModel_137 hl31 hx31 dX10_refuses_17 ?_
        refine rn_if_le (tgt := 27) dX10_refuses_20 (by decide) (fun h32 => (cx_le (cv_le h32) rk_1 rk_0 (by decide)).elim) (fun h32 => ?_)
        refine rn_iconst (v := (1 : Int32)) dX10_refuses_23 (by decide) ?_
        refine rn_goto (tgt := 28) dX10_refuses_24 (by decide) ?_
        refine rn_iret dX10_refuses_28 rfl rfl (rq_in ?_)
        refine rn_stk [.int (1 : Int32)] rfl ?_
        refine rn_if_ne (tgt := 63) dX10_meant_45 (by decide) (fun h33 => ?_) (fun h33 => (cx_eq (cv_eq h33) rk_1 rk_0 (by decide)).elim)
        exact rn_vret dX10_meant_63 rfl (rq_in ⟨hS31, rfl⟩)
      · have ch25 := cv_nlt h25
        have r34 : Rg (0) (2147483647) x3_ := rf_ley ch25 rk_0 (rg_any x3_) (by decide)
        refine rn_iload_n (i := 0) dX10_in_5 rfl rfl ?_
        refine rn_iload_n (i := 2) dX10_in_6 rfl rfl ?_
        refine rn_icmp_gt (tgt := 14) dX10_in_7 (by decide) (fun h35 => ?_) (fun h35 => ?_)
        · have ch35 := cv_lt h35
          have r36 : Rg (65536) (2147483647) x3_ := rf_lty ch35 rk_65535 r34 (by decide)
          refine rn_iconst (v := (0 : Int32)) dX10_in_14 (by decide) ?_
          refine rn_iret dX10_in_15 rfl rfl (rq_in ?_)
          refine rn_stk [.int (0 : Int32), .ref o0_] rfl ?_
          refine rn_if_eq (tgt := 36) dX10_meant_24 (by decide) (fun h37 => ?_) (fun h37 => (cx_ne (cv_ne h37) rk_0 rk_0 (by decide)).elim)
          refine rn_iconst (v := (1 : Int32)) dX10_meant_36 (by decide) ?_
          refine rn_goto (tgt := 41) dX10_meant_37 (by decide) ?_
          refine rn_iconst (v := (1 : Int32)) dX10_meant_41 (by decide) ?_
          refine rn_inV (d' := 0) (z' := 0) [.int (1 : Int32), .int (1 : Int32)] kl_SGModel_171 dX10_meant_42 q1 hl3 rfl rfl rfl (Nat.le_of_ble_eq_true rfl) (Nat.le_of_ble_eq_true rfl) (Nat.le_of_ble_eq_true rfl) (Nat.le_of_ble_eq_true rfl) ?_
          refine rn_lv [(0, .ref o0_), (1, .int (1 : Int32)), (2, .int (1 : Int32))] rfl ?_
          refine rn_aload_n (i := 0) dX10_refuses_0 rfl rfl ?_
          refine rn_get q1 kg_SGModel_137 hl3 hx3 dX10_refuses_1 ?_
          refine rn_if_ne (tgt := 16) dX10_refuses_4 (by decide) (fun h38 => (cx_ne (cv_ne h38) rk_0 rk_0 (by decide)).elim) (fun h38 => ?_)
          refine rn_iload_n (i := 1) dX10_refuses_7 rfl rfl ?_
          refine rn_if_eq (tgt := 16) dX10_refuses_8 (by decide) (fun h39 => (cx_eq (cv_eq h39) rk_1 rk_0 (by decide)).elim) (fun h39 => ?_)
          refine rn_aload_n (i := 0) dX10_refuses_11 rfl rfl ?_
          refine rn_iload_n (i := 2) dX10_refuses_12 rfl rfl ?_
          refine rs_put q1 (kp_SGModel_137 _) hS3 hq1 hl3 hf3 hk_30 rfl rfl (tv_i (rg_w rk_1 (by decide) (by decide))) rfl rfl dX10_refuses_13 (fun w40 fs41 hS41 hl41 hf41 hx41 ho41 hn41 => ?_)
          refine rn_aload_n (i := 0) dX10_refuses_16 rfl rfl ?_
          refine rn_get q1 kg_SGModel_137 hl41 hx41 dX10_refuses_17 ?_
          refine rn_if_le (tgt := 27) dX10_refuses_20 (by decide) (fun h42 => (cx_le (cv_le h42) rk_1 rk_0 (by decide)).elim) (fun h42 => ?_)
          refine rn_iconst (v := (1 : Int32)) dX10_refuses_23 (by decide) ?_
          refine rn_goto (tgt := 28) dX10_refuses_24 (by decide) ?_
          refine rn_iret dX10_refuses_28 rfl rfl (rq_in ?_)
          refine rn_stk [.int (1 : Int32)] rfl ?_
          refine rn_if_ne (tgt := 63) dX10_meant_45 (by decide) (fun h43 => ?_) (fun h43 => (cx_eq (cv_eq h43) rk_1 rk_0 (by decide)).elim)
          exact rn_vret dX10_meant_63 rfl (rq_in ⟨hS41, rfl⟩)
        · have ch35 := cv_nlt h35
          have r44 : Rg (0) (65535) x3_ := rf_lex ch35 r34 rk_65535 (by decide)
          refine rn_iconst (v := (1 : Int32)) dX10_in_10 (by decide) ?_
          refine rn_goto (tgt := 15) dX10_in_11 (by decide) ?_
          refine rn_iret dX10_in_15 rfl rfl (rq_in ?_)
          refine rn_stk [.int (1 : Int32), .ref o0_] rfl ?_
          refine rn_if_eq (tgt := 36) dX10_meant_24 (by decide) (fun h45 => (cx_eq (cv_eq h45) rk_1 rk_0 (by decide)).elim) (fun h45 => ?_)
          refine rn_iload_n (i := 2) dX10_meant_27 rfl rfl ?_
          refine rn_iconst (v := (0 : Int32)) dX10_meant_28 (by decide) ?_
          refine rn_iload_n (i := 3) dX10_meant_29 rfl rfl ?_
          refine rn_inS (d' := 0) (z' := 0) [.int x2_, .int (0 : Int32), .int x3_] kl_SGModel_179 dX10_meant_30 rfl rfl (Nat.le_of_ble_eq_true rfl) (Nat.le_of_ble_eq_true rfl) (Nat.le_of_ble_eq_true rfl) (Nat.le_of_ble_eq_true rfl) ?_
          refine rn_lv [(0, .int x2_), (1, .int (0 : Int32)), (2, .int x3_)] rfl ?_
          refine rn_iload_n (i := 0) dX10_in_0 rfl rfl ?_
          refine rn_iload_n (i := 1) dX10_in_1 rfl rfl ?_
          refine rn_icmp_lt (tgt := 14) dX10_in_2 (by decide) (fun h46 => ?_) (fun h46 => ?_)
          · have ch46 := cv_lt h46
            have r47 : Rg (-2147483648) (-1) x2_ := rf_ltx ch46 (rg_any x2_) rk_0 (by decide)
            refine rn_iconst (v := (0 : Int32)) dX10_in_14 (by decide) ?_
            refine rn_iret dX10_in_15 rfl rfl (rq_in ?_)
            refine rn_stk [.int (0 : Int32), .ref o0_] rfl ?_
            refine rn_if_ne (tgt := 40) dX10_meant_33 (by decide) (fun h48 => (cx_ne (cv_ne h48) rk_0 rk_0 (by decide)).elim) (fun h48 => ?_)
            refine rn_iconst (v := (1 : Int32)) dX10_meant_36 (by decide) ?_
            refine rn_goto (tgt := 41) dX10_meant_37 (by decide) ?_
            refine rn_iconst (v := (1 : Int32)) dX10_meant_41 (by decide) ?_
            refine rn_inV (d' := 0) (z' := 0) [.int (1 : Int32), .int (1 : Int32)] kl_SGModel_171 dX10_meant_42 q1 hl3 rfl rfl rfl (Nat.le_of_ble_eq_true rfl) (Nat.le_of_ble_eq_true rfl) (Nat.le_of_ble_eq_true rfl) (Nat.le_of_ble_eq_true rfl) ?_
            refine rn_lv [(0, .ref o0_), (1, .int (1 : Int32)), (2, .int (1 : Int32))] rfl ?_
            refine rn_aload_n (i := 0) dX10_refuses_0 rfl rfl ?_
            refine rn_get q1 kg_SGModel_137 hl3 hx3 dX10_refuses_1 ?_
            refine rn_if_ne (tgt := 16) dX10_refuses_4 (by decide) (fun h49 => (cx_ne (cv_ne h49) rk_0 rk_0 (by decide)).elim) (fun h49 => ?_)
            refine rn_iload_n (i := 1) dX10_refuses_7 rfl rfl ?_
            refine rn_if_eq (tgt := 16) dX10_refuses_8 (by decide) (fun h50 => (cx_eq (cv_eq h50) rk_1 rk_0 (by decide)).elim) (fun h50 => ?_)
            refine rn_aload_n (i := 0) dX10_refuses_11 rfl rfl ?_
            refine rn_iload_n (i := 2) dX10_refuses_12 rfl rfl ?_
            refine rs_put q1 (kp_SGModel_137 _) hS3 hq1 hl3 hf3 hk_30 rfl rfl (tv_i (rg_w rk_1 (by decide) (by decide))) rfl rfl dX10_refuses_13 (fun w51 fs52 hS52 hl52 hf52 hx52 ho52 hn52 => ?_)
            refine rn_aload_n (i := 0) dX10_refuses_16 rfl rfl ?_
            refine rn_get q1 kg_SGModel_137 hl52 hx52 dX10_refuses_17 ?_
            refine rn_if_le (tgt := 27) dX10_refuses_20 (by decide) (fun h53 => (cx_le (cv_le h53) rk_1 rk_0 (by decide)).elim) (fun h53 => ?_)
            refine rn_iconst (v := (1 : Int32)) dX10_refuses_23 (by decide) ?_
            refine rn_goto (tgt := 28) dX10_refuses_24 (by decide) ?_
            refine rn_iret dX10_refuses_28 rfl rfl (rq_in ?_)
            refine rn_stk [.int (1 : Int32)] rfl ?_
            refine rn_if_ne (tgt := 63) dX10_meant_45 (by decide) (fun h54 => ?_) (fun h54 => (cx_eq (cv_eq h54) rk_1 rk_0 (by decide)).elim)
            exact rn_vret dX10_meant_63 rfl (rq_in ⟨hS52, rfl⟩)
          · have ch46 := cv_nlt h46
            have r55 : Rg (0) (2147483647) x2_ := rf_ley ch46 rk_0 (rg_any x2_) (by decide)
            refine rn_iload_n (i := 0) dX10_in_5 rfl rfl ?_
            refine rn_iload_n (i := 2) dX10_in_6 rfl rfl ?_
            refine rn_icmp_gt (tgt := 14) dX10_in_7 (by decide) (fun h56 => ?_) (fun h56 => ?_)
            · have ch56 := cv_lt h56
              have r57 : Rg (1) (2147483647) x2_ := rf_lty ch56 r44 r55 (by decide)
              refine rn_iconst (v := (0 : Int32)) dX10_in_14 (by decide) ?_
              refine rn_iret dX10_in_15 rfl rfl (rq_in ?_)
              refine rn_stk [.int (0 : Int32), .ref o0_] rfl ?_
              refine rn_if_ne (tgt := 40) dX10_meant_33 (by decide) (fun h58 => (cx_ne (cv_ne h58) rk_0 rk_0 (by decide)).elim) (fun h58 => ?_)
              refine rn_iconst (v := (1 : Int32)) dX10_meant_36 (by decide) ?_
              refine rn_goto (tgt := 41) dX10_meant_37 (by decide) ?_
              refine rn_iconst (v := (1 : Int32)) dX10_meant_41 (by decide) ?_
              refine rn_inV (d' := 0) (z' := 0) [.int (1 : Int32), .int (1 : Int32)] kl_SGModel_171 dX10_meant_42 q1 hl3 rfl rfl rfl (Nat.le_of_ble_eq_true rfl) (Nat.le_of_ble_eq_true rfl) (Nat.le_of_ble_eq_true rfl) (Nat.le_of_ble_eq_true rfl) ?_
              refine rn_lv [(0, .ref o0_), (1, .int (1 : Int32)), (2, .int (1 : Int32))] rfl ?_
              refine rn_aload_n (i := 0) dX10_refuses_0 rfl rfl ?_
              refine rn_get q1 kg_SGModel_137 hl3 hx3 dX10_refuses_1 ?_
              refine rn_if_ne (tgt := 16) dX10_refuses_4 (by decide) (fun h59 => (cx_ne (cv_ne h59) rk_0 rk_0 (by decide)).elim) (fun h59 => ?_)
              refine rn_iload_n (i := 1) dX10_refuses_7 rfl rfl ?_
              refine rn_if_eq (tgt := 16) dX10_refuses_8 (by decide) (fun h60 => (cx_eq (cv_eq h60) rk_1 rk_0 (by decide)).elim) (fun h60 => ?_)
              refine rn_aload_n (i := 0) dX10_refuses_11 rfl rfl ?_
              refine rn_iload_n (i := 2) dX10_refuses_12 rfl rfl ?_
              refine rs_put q1 (kp_SGModel_137 _) hS3 hq1 hl3 hf3 hk_30 rfl rfl (tv_i (rg_w rk_1 (by decide) (by decide))) rfl rfl dX10_refuses_13 (fun w61 fs62 hS62 hl62 hf62 hx62 ho62 hn62 => ?_)
              refine rn_aload_n (i := 0) dX10_refuses_16 rfl rfl ?_
              refine rn_get q1 kg_SGModel_137 hl62 hx62 dX10_refuses_17 ?_
              refine rn_if_le (tgt := 27) dX10_refuses_20 (by decide) (fun h63 => (cx_le (cv_le h63) rk_1 rk_0 (by decide)).elim) (fun h63 => ?_)
              refine rn_iconst (v := (1 : Int32)) dX10_refuses_23 (by decide) ?_
              refine rn_goto (tgt := 28) dX10_refuses_24 (by decide) ?_
              refine rn_iret dX10_refuses_28 rfl rfl (rq_in ?_)
              refine rn_stk [.int (1 : Int32)] rfl ?_
              refine rn_if_ne (tgt := 63) dX10_meant_45 (by decide) (fun h64 => ?_) (fun h64 => (cx_eq (cv_eq h64) rk_1 rk_0 (by decide)).elim)
              exact rn_vret dX10_meant_63 rfl (rq_in ⟨hS62, rfl⟩)
            · have ch56 := cv_nlt h56
              have r65 : Rg (0) (65535) x2_ := rf_lex ch56 r55 r44 (by decide)
              refine rn_iconst (v := (1 : Int32)) dX10_in_10 (by decide) ?_
              refine rn_goto (tgt := 15) dX10_in_11 (by decide) ?_
              refine rn_iret dX10_in_15 rfl rfl (rq_in ?_)
              refine rn_stk [.int (1 : Int32), .ref o0_] rfl ?_
              refine rn_if_ne (tgt := 40) dX10_meant_33 (by decide) (fun h66 => ?_) (fun h66 => (cx_eq (cv_eq h66) rk_1 rk_0 (by decide)).elim)
              refine rn_iconst (v := (0 : Int32)) dX10_meant_40 (by decide) ?_
              refine rn_iconst (v := (1 : Int32)) dX10_meant_41 (by decide) ?_
              refine rn_inV (d' := 0) (z' := 0) [.int (0 : Int32), .int (1 : Int32)] kl_SGModel_171 dX10_meant_42 q1 hl3 rfl rfl rfl (Nat.le_of_ble_eq_true rfl) (Nat.le_of_ble_eq_true rfl) (Nat.le_of_ble_eq_true rfl) (Nat.le_of_ble_eq_true rfl) ?_
              refine rn_lv [(0, .ref o0_), (1, .int (0 : Int32)), (2, .int (1 : Int32))] rfl ?_
              refine rn_aload_n (i := 0) dX10_refuses_0 rfl rfl ?_
              refine rn_get q1 kg_SGModel_137 hl3 hx3 dX10_refuses_1 ?_
              refine rn_if_ne (tgt := 16) dX10_refuses_4 (by decide) (fun h67 => (cx_ne (cv_ne h67) rk_0 rk_0 (by decide)).elim) (fun h67 => ?_)
              refine rn_iload_n (i := 1) dX10_refuses_7 rfl rfl ?_
              refine rn_if_eq (tgt := 16) dX10_refuses_8 (by decide) (fun h68 => ?_) (fun h68 => (cx_ne (cv_ne h68) rk_0 rk_0 (by decide)).elim)
              refine rn_aload_n (i := 0) dX10_refuses_16 rfl rfl ?_
              refine rn_get q1 kg_SGModel_137 hl3 hx3 dX10_refuses_17 ?_
              refine rn_if_le (tgt := 27) dX10_refuses_20 (by decide) (fun h69 => ?_) (fun h69 => (cx_lt (cv_nle h69) rk_0 rk_0 (by decide)).elim)
              refine rn_iconst (v := (0 : Int32)) dX10_refuses_27 (by decide) ?_
              refine rn_iret dX10_refuses_28 rfl rfl (rq_in ?_)
              refine rn_stk [.int (0 : Int32)] rfl ?_
              refine rn_if_ne (tgt := 63) dX10_meant_45 (by decide) (fun h70 => (cx_ne (cv_ne h70) rk_0 rk_0 (by decide)).elim) (fun h70 => ?_)
              refine rn_aload_n (i := 0) dX10_meant_48 rfl rfl ?_
              refine rn_iload_n (i := 1) dX10_meant_49 rfl rfl ?_
              refine rs_put q1 (kp_SGModel_191 _) hS3 hq1 hl3 hf3 hk_30 rfl rfl (tv_i (rg_w r23 (by decide) (by decide))) rfl rfl dX10_meant_50 (fun w71 fs72 hS72 hl72 hf72 hx72 ho72 hn72 => ?_)
              refine rn_aload_n (i := 0) dX10_meant_53 rfl rfl ?_
              refine rn_iload_n (i := 2) dX10_meant_54 rfl rfl ?_
              refine rs_put q1 (kp_SGModel_194 _) hS72 hq1 hl72 hf72 hk_30 rfl rfl (tv_i (rg_w r65 (by decide) (by decide))) rfl rfl dX10_meant_55 (fun w73 fs74 hS74 hl74 hf74 hx74 ho74 hn74 => ?_)
              refine rn_aload_n (i := 0) dX10_meant_58 rfl rfl ?_
              refine rn_iload_n (i := 3) dX10_meant_59 rfl rfl ?_
              refine rs_put q1 (kp_SGModel_53 _) hS74 hq1 hl74 hf74 hk_30 rfl rfl (tv_i (rg_w r44 (by decide) (by decide))) rfl rfl dX10_meant_60 (fun w75 fs76 hS76 hl76 hf76 hx76 ho76 hn76 => ?_)
              exact rn_vret dX10_meant_63 rfl (rq_in ⟨hS76, rfl⟩)
abbrev q_t_X10_policy (G : rn_G) (S : ts_S) (ws : va_W) : rn_R → va_W → Prop := rQ (fun v w => St G S [30, 41, 42, 43, 44, 45, 46, 47, 48, 49] ws S w ∧ (∃ x : Int32, v = some (.int x) ∧ Rg (0) (24) x)) (fun E w => False)
set_option maxRecDepth 20000 in
set_option maxHeartbeats 4000000 in
theorem t_X10_policy (G : rn_G) (S : ts_S) (ws : va_W) (hW : ts_W G S ws) (o0_ : Nat) (m0_ : (o0_, 30) ∈ S) (x1_ : Int32) (x2_ : Int32) (x3_ : Int32) (x4_ : Int32) (x5_ : Int32) (x6_ : Int32) : Rn G mX10_policy 1 22 0 0 0 (lv_args 0 [.ref o0_, .int x1_, .int x2_, .int x3_, .int x4_, .int x5_, .int x6_]) [] ws (q_t_X10_policy G S ws ) := by
  have hS0 : St G S [30, 41, 42, 43, 44, 45, 46, 47, 48, 49] ws S ws := St.rf hW
  refine rn_lv [(0, .ref o0_), (1, .int x1_), (2, .int x2_), (3, .int x3_), (4, .int x4_), (5, .int x5_), (6, .int x6_)] rfl ?_
  refine rn_aload_n (i := 0) dX10_policy_0 rfl rfl ?_
  refine rn_iconst (v := (0 : Int32)) dX10_policy_1 (by decide) ?_
  obtain ⟨q1, fs1, hq1, hl1, hf1⟩ := ts_obj hS0.1 m0_ hk_30
  refine rs_put q1 (kp_SGModel_137 _) hS0 hq1 hl1 hf1 hk_30 rfl rfl (tv_i (rg_w rk_0 (by decide) (by decide))) rfl rfl dX10_policy_2 (fun w2 fs3 hS3 hl3 hf3 hx3 ho3 hn3 => ?_)
  refine rn_aload_n (i := 0) dX10_policy_5 rfl rfl ?_
  refine rn_iload_n (i := 1) dX10_policy_6 rfl rfl ?_
  refine rn_iconst (v := (0 : Int32)) dX10_policy_7 (by decide) ?_
  refine rn_iconst (v := (1 : Int32)) dX10_policy_8 (by decide) ?_
  refine rn_inS (d' := 0) (z' := 0) [.int x1_, .int (0 : Int32), .int (1 : Int32)] kl_SGModel_179 dX10_policy_9 rfl rfl (Nat.le_of_ble_eq_true rfl) (Nat.le_of_ble_eq_true rfl) (Nat.le_of_ble_eq_true rfl) (Nat.le_of_ble_eq_true rfl) ?_
  refine rn_lv [(0, .int x1_), (1, .int (0 : Int32)), (2, .int (1 : Int32))] rfl ?_
  refine rn_iload_n (i := 0) dX10_in_0 rfl rfl ?_
  refine rn_iload_n (i := 1) dX10_in_1 rfl rfl ?_
  refine rn_icmp_lt (tgt := 14) dX10_in_2 (by decide) (fun h4 => ?_) (fun h4 => ?_)
  · have ch4 := cv_lt h4
    have r5 : Rg (-2147483648) (-1) x1_ := rf_ltx ch4 (rg_any x1_) rk_0 (by decide)
    refine rn_iconst (v := (0 : Int32)) dX10_in_14 (by decide) ?_
    refine rn_iret dX10_in_15 rfl rfl (rq_in ?_)
    refine rn_stk [.int (0 : Int32), .ref o0_] rfl ?_
    refine rn_if_eq (tgt := 47) dX10_policy_12 (by decide) (fun h6 => ?_) (fun h6 => (cx_ne (cv_ne h6) rk_0 rk_0 (by decide)).elim)
    refine rn_iconst (v := (1 : Int32)) dX10_policy_47 (by decide) ?_
    refine rn_goto (tgt := 52) dX10_policy_48 (by decide) ?_
    refine rn_iconst (v := (1 : Int32)) dX10_policy_52 (by decide) ?_
    refine rn_inV (d' := 0) (z' := 0) [.int (1 : Int32), .int (1 : Int32)] kl_SGModel_171 dX10_policy_53 q1 hl3 rfl rfl rfl (Nat.le_of_ble_eq_true rfl) (Nat.le_of_ble_eq_true rfl) (Nat.le_of_ble_eq_true rfl) (Nat.le_of_ble_eq_true rfl) ?_
    refine rn_lv [(0, .ref o0_), (1, .int (1 : Int32)), (2, .int (1 : Int32))] rfl ?_
    refine rn_aload_n (i := 0) dX10_refuses_0 rfl rfl ?_
    refine rn_get q1 kg_SGModel_137 hl3 hx3 dX10_refuses_1 ?_
    refine rn_if_ne (tgt := 16) dX10_refuses_4 (by decide) (fun h7 => (cx_ne (cv_ne h7) rk_0 rk_0 (by decide)).elim) (fun h7 => ?_)
    refine rn_iload_n (i := 1) dX10_refuses_7 rfl rfl ?_
    refine rn_if_eq (tgt := 16) dX10_refuses_8 (by decide) (fun h8 => (cx_eq (cv_eq h8) rk_1 rk_0 (by decide)).elim) (fun h8 => ?_)
    refine rn_aload_n (i := 0) dX10_refuses_11 rfl rfl ?_
    refine rn_iload_n (i := 2) dX10_refuses_12 rfl rfl ?_
    refine rs_put q1 (kp_SGModel_137 _) hS3 hq1 hl3 hf3 hk_30 rfl rfl (tv_i (rg_w rk_1 (by decide) (by decide))) rfl rfl dX10_refuses_13 (fun w9 fs10 hS10 hl10 hf10 hx10 ho10 hn10 => ?_)
    refine rn_aload_n (i := 0) dX10_refuses_16 rfl rfl ?_
    refine rn_get q1 kg_SGModel_137 hl10 hx10 dX10_refuses_17 ?_
    refine rn_if_le (tgt := 27) dX10_refuses_20 (by decide) (fun h11 => (cx_le (cv_le h11) rk_1 rk_0 (by decide)).elim) (fun h11 => ?_)
    refine rn_iconst (v := (1 : Int32)) dX10_refuses_23 (by decide) ?_
    refine rn_goto (tgt := 28) dX10_refuses_24 (by decide) ?_
    refine rn_iret dX10_refuses_28 rfl rfl (rq_in ?_)
    refine rn_stk [.int (1 : Int32)] rfl ?_
    refine rn_if_ne (tgt := 81) dX10_policy_56 (by decide) (fun h12 => ?_) (fun h12 => (cx_eq (cv_eq h12) rk_1 rk_0 (by decide)).elim)
    refine rn_iconst (v := (0 : Int32)) dX10_policy_81 (by decide) ?_
    exact rn_iret dX10_policy_82 rfl rfl (rq_in ⟨hS10, (0 : Int32), rfl, (rg_w rk_0 (by decide) (by decide))⟩)
  · have ch4 := cv_nlt h4
    have r13 : Rg (0) (2147483647) x1_ := rf_ley ch4 rk_0 (rg_any x1_) (by decide)
    refine rn_iload_n (i := 0) dX10_in_5 rfl rfl ?_
    refine rn_iload_n (i := 2) dX10_in_6 rfl rfl ?_
    refine rn_icmp_gt (tgt := 14) dX10_in_7 (by decide) (fun h14 => ?_) (fun h14 => ?_)
    · have ch14 := cv_lt h14
      have r15 : Rg (2) (2147483647) x1_ := rf_lty ch14 rk_1 r13 (by decide)
      refine rn_iconst (v := (0 : Int32)) dX10_in_14 (by decide) ?_
      refine rn_iret dX10_in_15 rfl rfl (rq_in ?_)
      refine rn_stk [.int (0 : Int32), .ref o0_] rfl ?_
      refine rn_if_eq (tgt := 47) dX10_policy_12 (by decide) (fun h16 => ?_) (fun h16 => (cx_ne (cv_ne h16) rk_0 rk_0 (by decide)).elim)
      refine rn_iconst (v := (1 : Int32)) dX10_policy_47 (by decide) ?_
      refine rn_goto (tgt := 52) dX10_policy_48 (by decide) ?_
      refine rn_iconst (v := (1 : Int32)) dX10_policy_52 (by decide) ?_
      refine rn_inV (d' := 0) (z' := 0) [.int (1 : Int32), .int (1 : Int32)] kl_SGModel_171 dX10_policy_53 q1 hl3 rfl rfl rfl (Nat.le_of_ble_eq_true rfl) (Nat.le_of_ble_eq_true rfl) (Nat.le_of_ble_eq_true rfl) (Nat.le_of_ble_eq_true rfl) ?_
      refine rn_lv [(0, .ref o0_), (1, .int (1 : Int32)), (2, .int (1 : Int32))] rfl ?_
      refine rn_aload_n (i := 0) dX10_refuses_0 rfl rfl ?_
      refine rn_get q1 kg_SGModel_137 hl3 hx3 dX10_refuses_1 ?_
      refine rn_if_ne (tgt := 16) dX10_refuses_4 (by decide) (fun h17 => (cx_ne (cv_ne h17) rk_0 rk_0 (by decide)).elim) (fun h17 => ?_)
      refine rn_iload_n (i := 1) dX10_refuses_7 rfl rfl ?_
      refine rn_if_eq (tgt := 16) dX10_refuses_8 (by decide) (fun h18 => (cx_eq (cv_eq h18) rk_1 rk_0 (by decide)).elim) (fun h18 => ?_)
      refine rn_aload_n (i := 0) dX10_refuses_11 rfl rfl ?_
      refine rn_iload_n (i := 2) dX10_refuses_12 rfl rfl ?_
      refine rs_put q1 (kp_SGModel_137 _) hS3 hq1 hl3 hf3 hk_30 rfl rfl (tv_i (rg_w rk_1 (by decide) (by decide))) rfl rfl dX10_refuses_13 (fun w19 fs20 hS20 hl20 hf20 hx20 ho20 hn20 => ?_)
      refine rn_aload_n (i := 0) dX10_refuses_16 rfl rfl ?_
      refine rn_get q1 kg_SGModel_137 hl20 hx20 dX10_refuses_17 ?_
      refine rn_if_le (tgt := 27) dX10_refuses_20 (by decide) (fun h21 => (cx_le (cv_le h21) rk_1 rk_0 (by decide)).elim) (fun h21 => ?_)
      refine rn_iconst (v := (1 : Int32)) dX10_refuses_23 (by decide) ?_
      refine rn_goto (tgt := 28) dX10_refuses_24 (by decide) ?_
      refine rn_iret dX10_refuses_28 rfl rfl (rq_in ?_)
      refine rn_stk [.int (1 : Int32)] rfl ?_
      refine rn_if_ne (tgt := 81) dX10_policy_56 (by decide) (fun h22 => ?_) (fun h22 => (cx_eq (cv_eq h22) rk_1 rk_0 (by decide)).elim)
      refine rn_iconst (v := (0 : Int32)) dX10_policy_81 (by decide) ?_
      exact rn_iret dX10_policy_82 rfl rfl (rq_in ⟨hS20, (0 : Int32), rfl, (rg_w rk_0 (by decide) (by decide))⟩)
    · have ch14 := cv_nlt h14
      have r23 : Rg (0) (1) x1_ := rf_lex ch14 r13 rk_1 (by decide)
      refine rn_iconst (v := (1 : Int32)) dX10_in_10 (by decide) ?_
      refine rn_goto (tgt := 15) dX10_in_11 (by decide) ?_
      refine rn_iret dX10_in_15 rfl rfl (rq_in ?_)
      refine rn_stk [.int (1 : Int32), .ref o0_] rfl ?_
      refine rn_if_eq (tgt := 47) dX10_policy_12 (by decide) (fun h24 => (cx_eq (cv_eq h24) rk_1 rk_0 (by decide)).elim) (fun h24 => ?_)
      refine rn_iload_n (i := 3) dX10_policy_15 rfl rfl ?_
      refine rn_iconst (v := (0 : Int32)) dX10_policy_16 (by decide) ?_
      refine rn_bipush (v := (32 : Int32)) dX10_policy_17 (by decide) ?_
      refine rn_inS (d' := 0) (z' := 0) [.int x3_, .int (0 : Int32), .int (32 : Int32)] kl_SGModel_179 dX10_policy_19 rfl rfl (Nat.le_of_ble_eq_true rfl) (Nat.le_of_ble_eq_true rfl) (Nat.le_of_ble_eq_true rfl) (Nat.le_of_ble_eq_true rfl) ?_
      refine rn_lv [(0, .int x3_), (1, .int (0 : Int32)), (2, .int (32 : Int32))] rfl ?_
      refine rn_iload_n (i := 0) dX10_in_0 rfl rfl ?_
      refine rn_iload_n (i := 1) dX10_in_1 rfl rfl ?_
      refine rn_icmp_lt (tgt := 14) dX10_in_2 (by decide) (fun h25 => ?_) (fun h25 => ?_)
      · have ch25 := cv_lt h25
        have r26 : Rg (-2147483648) (-1) x3_ := rf_ltx ch25 (rg_any x3_) rk_0 (by decide)
        refine rn_iconst (v := (0 : Int32)) dX10_in_14 (by decide) ?_
        refine rn_iret dX10_in_15 rfl rfl (rq_in ?_)
        refine rn_stk [.int (0 : Int32), .ref o0_] rfl ?_
        refine rn_if_eq (tgt := 47) dX10_policy_22 (by decide) (fun h27 => ?_) (fun h27 => (cx_ne (cv_ne h27) rk_0 rk_0 (by decide)).elim)
        refine rn_iconst (v := (1 : Int32)) dX10_policy_47 (by decide) ?_
        refine rn_goto (tgt := 52) dX10_policy_48 (by decide) ?_
        refine rn_iconst (v := (1 : Int32)) dX10_policy_52 (by decide) ?_
        refine rn_inV (d' := 0) (z' := 0) [.int (1 : Int32), .int (1 : Int32)] kl_SGModel_171 dX10_policy_53 q1 hl3 rfl rfl rfl (Nat.le_of_ble_eq_true rfl) (Nat.le_of_ble_eq_true rfl) (Nat.le_of_ble_eq_true rfl) (Nat.le_of_ble_eq_true rfl) ?_
        refine rn_lv [(0, .ref o0_), (1, .int (1 : Int32)), (2, .int (1 : Int32))] rfl ?_
        refine rn_aload_n (i := 0) dX10_refuses_0 rfl rfl ?_
        refine rn_get q1 kg_SGModel_137 hl3 hx3 dX10_refuses_1 ?_
        refine rn_if_ne (tgt := 16) dX10_refuses_4 (by decide) (fun h28 => (cx_ne (cv_ne h28) rk_0 rk_0 (by decide)).elim) (fun h28 => ?_)
        refine rn_iload_n (i := 1) dX10_refuses_7 rfl rfl ?_
        refine rn_if_eq (tgt := 16) dX10_refuses_8 (by decide) (fun h29 => (cx_eq (cv_eq h29) rk_1 rk_0 (by decide)).elim) (fun h29 => ?_)
        refine rn_aload_n (i := 0) dX10_refuses_11 rfl rfl ?_
        refine rn_iload_n (i := 2) dX10_refuses_12 rfl rfl ?_
        refine rs_put q1 (kp_SGModel_137 _) hS3 hq1 hl3 hf3 hk_30 rfl rfl (tv_i (rg_w rk_1 (by decide) (by decide))) rfl rfl dX10_refuses_13 (fun w30 fs31 hS31 hl31 hf31 hx31 ho31 hn31 => ?_)
        refine rn_aload_n (i := 0) dX10_refuses_16 rfl rfl ?_
        refine rn_get q1 kg_SGModel_137 hl31 hx31 dX10_refuses_17 ?_
        refine rn_if_le (tgt := 27) dX10_refuses_20 (by decide) (fun h32 => (cx_le (cv_le h32) rk_1 rk_0 (by decide)).elim) (fun h32 => ?_)
        refine rn_iconst (v := (1 : Int32)) dX10_refuses_23 (by decide) ?_
        refine rn_goto (tgt := 28) dX10_refuses_24 (by decide) ?_
        refine rn_iret dX10_refuses_28 rfl rfl (rq_in ?_)
        refine rn_stk [.int (1 : Int32)] rfl ?_
        refine rn_if_ne (tgt := 81) dX10_policy_56 (by decide) (fun h33 => ?_) (fun h33 => (cx_eq (cv_eq h33) rk_1 rk_0 (by decide)).elim)
        refine rn_iconst (v := (0 : Int32)) dX10_policy_81 (by decide) ?_
        exact rn_iret dX10_policy_82 rfl rfl (rq_in ⟨hS31, (0 : Int32), rfl, (rg_w rk_0 (by decide) (by decide))⟩)
      · have ch25 := cv_nlt h25
        have r34 : Rg (0) (2147483647) x3_ := rf_ley ch25 rk_0 (rg_any x3_) (by decide)
        refine rn_iload_n (i := 0) dX10_in_5 rfl rfl ?_
        refine rn_iload_n (i := 2) dX10_in_6 rfl rfl ?_
        refine rn_icmp_gt (tgt := 14) dX10_in_7 (by decide) (fun h35 => ?_) (fun h35 => ?_)
        · have ch35 := cv_lt h35
          have r36 : Rg (33) (2147483647) x3_ := rf_lty ch35 rk_32 r34 (by decide)
          refine rn_iconst (v := (0 : Int32)) dX10_in_14 (by decide) ?_
          refine rn_iret dX10_in_15 rfl rfl (rq_in ?_)
          refine rn_stk [.int (0 : Int32), .ref o0_] rfl ?_
          refine rn_if_eq (tgt := 47) dX10_policy_22 (by decide) (fun h37 => ?_) (fun h37 => (cx_ne (cv_ne h37) rk_0 rk_0 (by decide)).elim)
          refine rn_iconst (v := (1 : Int32)) dX10_policy_47 (by decide) ?_
          refine rn_goto (tgt := 52) dX10_policy_48 (by decide) ?_
          refine rn_iconst (v := (1 : Int32)) dX10_policy_52 (by decide) ?_
          refine rn_inV (d' := 0) (z' := 0) [.int (1 : Int32), .int (1 : Int32)] kl_SGModel_171 dX10_policy_53 q1 hl3 rfl rfl rfl (Nat.le_of_ble_eq_true rfl) (Nat.le_of_ble_eq_true rfl) (Nat.le_of_ble_eq_true rfl) (Nat.le_of_ble_eq_true rfl) ?_
          refine rn_lv [(0, .ref o0_), (1, .int (1 : Int32)), (2, .int (1 : Int32))] rfl ?_
          refine rn_aload_n (i := 0) dX10_refuses_0 rfl rfl ?_
          refine rn_get q1 kg_SGModel_137 hl3 hx3 dX10_refuses_1 ?_
          refine rn_if_ne (tgt := 16) dX10_refuses_4 (by decide) (fun h38 => (cx_ne (cv_ne h38) rk_0 rk_0 (by decide)).elim) (fun h38 => ?_)
          refine rn_iload_n (i := 1) dX10_refuses_7 rfl rfl ?_
          refine rn_if_eq (tgt := 16) dX10_refuses_8 (by decide) (fun h39 => (cx_eq (cv_eq h39) rk_1 rk_0 (by decide)).elim) (fun h39 => ?_)
          refine rn_aload_n (i := 0) dX10_refuses_11 rfl rfl ?_
          refine rn_iload_n (i := 2) dX10_refuses_12 rfl rfl ?_
          refine rs_put q1 (kp_SGModel_137 _) hS3 hq1 hl3 hf3 hk_30 rfl rfl (tv_i (rg_w rk_1 (by decide) (by decide))) rfl rfl dX10_refuses_13 (fun w40 fs41 hS41 hl41 hf41 hx41 ho41 hn41 => ?_)
          refine rn_aload_n (i := 0) dX10_refuses_16 rfl rfl ?_
          refine rn_get q1 kg_SGModel_137 hl41 hx41 dX10_refuses_17 ?_
          refine rn_if_le (tgt := 27) dX10_refuses_20 (by decide) (fun h42 => (cx_le (cv_le h42) rk_1 rk_0 (by decide)).elim) (fun h42 => ?_)
          refine rn_iconst (v := (1 : Int32)) dX10_refuses_23 (by decide) ?_
          refine rn_goto (tgt := 28) dX10_refuses_24 (by decide) ?_
          refine rn_iret dX10_refuses_28 rfl rfl (rq_in ?_)
          refine rn_stk [.int (1 : Int32)] rfl ?_
          refine rn_if_ne (tgt := 81) dX10_policy_56 (by decide) (fun h43 => ?_) (fun h43 => (cx_eq (cv_eq h43) rk_1 rk_0 (by decide)).elim)
          refine rn_iconst (v := (0 : Int32)) dX10_policy_81 (by decide) ?_
          exact rn_iret dX10_policy_82 rfl rfl (rq_in ⟨hS41, (0 : Int32), rfl, (rg_w rk_0 (by decide) (by decide))⟩)
        · have ch35 := cv_nlt h35
          have r44 : Rg (0) (32) x3_ := rf_lex ch35 r34 rk_32 (by decide)
          refine rn_iconst (v := (1 : Int32)) dX10_in_10 (by decide) ?_
          refine rn_goto (tgt := 15) dX10_in_11 (by decide) ?_
          refine rn_iret dX10_in_15 rfl rfl (rq_in ?_)
          refine rn_stk [.int (1 : Int32), .ref o0_] rfl ?_
          refine rn_if_eq (tgt := 47) dX10_policy_22 (by decide) (fun h45 => (cx_eq (cv_eq h45) rk_1 rk_0 (by decide)).elim) (fun h45 => ?_)
          refine rn_iload dX10_policy_25 rfl ?_
          refine rn_iconst (v := (0 : Int32)) dX10_policy_27 (by decide) ?_
          refine rn_bipush (v := (32 : Int32)) dX10_policy_28 (by decide) ?_
          refine rn_inS (d' := 0) (z' := 0) [.int x5_, .int (0 : Int32), .int (32 : Int32)] kl_SGModel_179 dX10_policy_30 rfl rfl (Nat.le_of_ble_eq_true rfl) (Nat.le_of_ble_eq_true rfl) (Nat.le_of_ble_eq_true rfl) (Nat.le_of_ble_eq_true rfl) ?_
          refine rn_lv [(0, .int x5_), (1, .int (0 : Int32)), (2, .int (32 : Int32))] rfl ?_
          refine rn_iload_n (i := 0) dX10_in_0 rfl rfl ?_
          refine rn_iload_n (i := 1) dX10_in_1 rfl rfl ?_
          refine rn_icmp_lt (tgt := 14) dX10_in_2 (by decide) (fun h46 => ?_) (fun h46 => ?_)
          · have ch46 := cv_lt h46
            have r47 : Rg (-2147483648) (-1) x5_ := rf_ltx ch46 (rg_any x5_) rk_0 (by decide)
            refine rn_iconst (v := (0 : Int32)) dX10_in_14 (by decide) ?_
            refine rn_iret dX10_in_15 rfl rfl (rq_in ?_)
            refine rn_stk [.int (0 : Int32), .ref o0_] rfl ?_
            refine rn_if_eq (tgt := 47) dX10_policy_33 (by decide) (fun h48 => ?_) (fun h48 => (cx_ne (cv_ne h48) rk_0 rk_0 (by decide)).elim)
            refine rn_iconst (v := (1 : Int32)) dX10_policy_47 (by decide) ?_
            refine rn_goto (tgt := 52) dX10_policy_48 (by decide) ?_
            refine rn_iconst (v := (1 : Int32)) dX10_policy_52 (by decide) ?_
            refine rn_inV (d' := 0) (z' := 0) [.int (1 : Int32), .int (1 : Int32)] kl_SGModel_171 dX10_policy_53 q1 hl3 rfl rfl rfl (Nat.le_of_ble_eq_true rfl) (Nat.le_of_ble_eq_true rfl) (Nat.le_of_ble_eq_true rfl) (Nat.le_of_ble_eq_true rfl) ?_
            refine rn_lv [(0, .ref o0_), (1, .int (1 : Int32)), (2, .int (1 : Int32))] rfl ?_
            refine rn_aload_n (i := 0) dX10_refuses_0 rfl rfl ?_
            refine rn_get q1 kg_SGModel_137 hl3 hx3 dX10_refuses_1 ?_
            refine rn_if_ne (tgt := 16) dX10_refuses_4 (by decide) (fun h49 => (cx_ne (cv_ne h49) rk_0 rk_0 (by decide)).elim) (fun h49 => ?_)
            refine rn_iload_n (i := 1) dX10_refuses_7 rfl rfl ?_
            refine rn_if_eq (tgt := 16) dX10_refuses_8 (by decide) (fun h50 => (cx_eq (cv_eq h50) rk_1 rk_0 (by decide)).elim) (fun h50 => ?_)
            refine rn_aload_n (i := 0) dX10_refuses_11 rfl rfl ?_
            refine rn_iload_n (i := 2) dX10_refuses_12 rfl rfl ?_
            refine rs_put q1 (kp_SGModel_137 _) hS3 hq1 hl3 hf3 hk_30 rfl rfl (tv_i (rg_w rk_1 (by decide) (by decide))) rfl rfl dX10_refuses_13 (fun w51 fs52 hS52 hl52 hf52 hx52 ho52 hn52 => ?_)
            refine rn_aload_n (i := 0) dX10_refuses_16 rfl rfl ?_
            refine rn_get q1 kg_SGModel_137 hl52 hx52 dX10_refuses_17 ?_
            refine rn_if_le (tgt := 27) dX10_refuses_20 (by decide) (fun h53 => (cx_le (cv_le h53) rk_1 rk_0 (by decide)).elim) (fun h53 => ?_)
            refine rn_iconst (v := (1 : Int32)) dX10_refuses_23 (by decide) ?_
            refine rn_goto (tgt := 28) dX10_refuses_24 (by decide) ?_
            refine rn_iret dX10_refuses_28 rfl rfl (rq_in ?_)
            refine rn_stk [.int (1 : Int32)] rfl ?_
            refine rn_if_ne (tgt := 81) dX10_policy_56 (by decide) (fun h54 => ?_) (fun h54 => (cx_eq (cv_eq h54) rk_1 rk_0 (by decide)).elim)
            refine rn_iconst (v := (0 : Int32)) dX10_policy_81 (by decide) ?_
            exact rn_iret dX10_policy_82 rfl rfl (rq_in ⟨hS52, (0 : Int32), rfl, (rg_w rk_0 (by decide) (by decide))⟩)
          · have ch46 := cv_nlt h46
            have r55 : Rg (0) (2147483647) x5_ := rf_ley ch46 rk_0 (rg_any x5_) (by decide)
            refine rn_iload_n (i := 0) dX10_in_5 rfl rfl ?_
            refine rn_iload_n (i := 2) dX10_in_6 rfl rfl ?_
            refine rn_icmp_gt (tgt := 14) dX10_in_7 (by decide) (fun h56 => ?_) (fun h56 => ?_)
            · have ch56 := cv_lt h56
              have r57 : Rg (33) (2147483647) x5_ := rf_lty ch56 rk_32 r55 (by decide)
              refine rn_iconst (v := (0 : Int32)) dX10_in_14 (by decide) ?_
              refine rn_iret dX10_in_15 rfl rfl (rq_in ?_)
              refine rn_stk [.int (0 : Int32), .ref o0_] rfl ?_
              refine rn_if_eq (tgt := 47) dX10_policy_33 (by decide) (fun h58 => ?_) (fun h58 => (cx_ne (cv_ne h58) rk_0 rk_0 (by decide)).elim)
              refine rn_iconst (v := (1 : Int32)) dX10_policy_47 (by decide) ?_
              refine rn_goto (tgt := 52) dX10_policy_48 (by decide) ?_
              refine rn_iconst (v := (1 : Int32)) dX10_policy_52 (by decide) ?_
              refine rn_inV (d' := 0) (z' := 0) [.int (1 : Int32), .int (1 : Int32)] kl_SGModel_171 dX10_policy_53 q1 hl3 rfl rfl rfl (Nat.le_of_ble_eq_true rfl) (Nat.le_of_ble_eq_true rfl) (Nat.le_of_ble_eq_true rfl) (Nat.le_of_ble_eq_true rfl) ?_
              refine rn_lv [(0, .ref o0_), (1, .int (1 : Int32)), (2, .int (1 : Int32))] rfl ?_
              refine rn_aload_n (i := 0) dX10_refuses_0 rfl rfl ?_
              refine rn_get q1 kg_SGModel_137 hl3 hx3 dX10_refuses_1 ?_
              refine rn_if_ne (tgt := 16) dX10_refuses_4 (by decide) (fun h59 => (cx_ne (cv_ne h59) rk_0 rk_0 (by decide)).elim) (fun h59 => ?_)
              refine rn_iload_n (i := 1) dX10_refuses_7 rfl rfl ?_
              refine rn_if_eq (tgt := 16) dX10_refuses_8 (by decide) (fun h60 => (cx_eq (cv_eq h60) rk_1 rk_0 (by decide)).elim) (fun h60 => ?_)
              refine rn_aload_n (i := 0) dX10_refuses_11 rfl rfl ?_
              refine rn_iload_n (i := 2) dX10_refuses_12 rfl rfl ?_
              refine rs_put q1 (kp_SGModel_137 _) hS3 hq1 hl3 hf3 hk_30 rfl rfl (tv_i (rg_w rk_1 (by decide) (by decide))) rfl rfl dX10_refuses_13 (fun w61 fs62 hS62 hl62 hf62 hx62 ho62 hn62 => ?_)
              refine rn_aload_n (i := 0) dX10_refuses_16 rfl rfl ?_
              refine rn_get q1 kg_SGModel_137 hl62 hx62 dX10_refuses_17 ?_
              refine rn_if_le (tgt := 27) dX10_refuses_20 (by decide) (fun h63 => (cx_le (cv_le h63) rk_1 rk_0 (by decide)).elim) (fun h63 => ?_)
              refine rn_iconst (v := (1 : Int32)) dX10_refuses_23 (by decide) ?_
              refine rn_goto (tgt := 28) dX10_refuses_24 (by decide) ?_
              refine rn_iret dX10_refuses_28 rfl rfl (rq_in ?_)
              refine rn_stk [.int (1 : Int32)] rfl ?_
              refine rn_if_ne (tgt := 81) dX10_policy_56 (by decide) (fun h64 => ?_) (fun h64 => (cx_eq (cv_eq h64) rk_1 rk_0 (by decide)).elim)
              refine rn_iconst (v := (0 : Int32)) dX10_policy_81 (by decide) ?_
              exact rn_iret dX10_policy_82 rfl rfl (rq_in ⟨hS62, (0 : Int32), rfl, (rg_w rk_0 (by decide) (by decide))⟩)
            · have ch56 := cv_nlt h56
              have r65 : Rg (0) (32) x5_ := rf_lex ch56 r55 rk_32 (by decide)
              refine rn_iconst (v := (1 : Int32)) dX10_in_10 (by decide) ?_
              refine rn_goto (tgt := 15) dX10_in_11 (by decide) ?_
              refine rn_iret dX10_in_15 rfl rfl (rq_in ?_)
              refine rn_stk [.int (1 : Int32), .ref o0_] rfl ?_
              refine rn_if_eq (tgt := 47) dX10_policy_33 (by decide) (fun h66 => (cx_eq (cv_eq h66) rk_1 rk_0 (by decide)).elim) (fun h66 => ?_)
              refine rn_iload dX10_policy_36 rfl ?_
              refine rn_bipush (v := (-2 : Int32)) dX10_policy_38 (by decide) ?_
              refine rn_iconst (v := (3 : Int32)) dX10_policy_40 (by decide) ?_
              refine rn_inS (d' := 0) (z' := 0) [.int x6_, .int (-2 : Int32), .int (3 : Int32)] kl_SGModel_179 dX10_policy_41 rfl rfl (Nat.le_of_ble_eq_true rfl) (Nat.le_of_ble_eq_true rfl) (Nat.le_of_ble_eq_true rfl) (Nat.le_of_ble_eq_true rfl) ?_
              refine rn_lv [(0, .int x6_), (1, .int (-2 : Int32)), (2, .int (3 : Int32))] rfl ?_
              refine rn_iload_n (i := 0) dX10_in_0 rfl rfl ?_
              refine rn_iload_n (i := 1) dX10_in_1 rfl rfl ?_
              refine rn_icmp_lt (tgt := 14) dX10_in_2 (by decide) (fun h67 => ?_) (fun h67 => ?_)
              · have ch67 := cv_lt h67
                have r68 : Rg (-2147483648) (-3) x6_ := rf_ltx ch67 (rg_any x6_) rk_m2 (by decide)
                refine rn_iconst (v := (0 : Int32)) dX10_in_14 (by decide) ?_
                refine rn_iret dX10_in_15 rfl rfl (rq_in ?_)
                refine rn_stk [.int (0 : Int32), .ref o0_] rfl ?_
                refine rn_if_ne (tgt := 51) dX10_policy_44 (by decide) (fun h69 => (cx_ne (cv_ne h69) rk_0 rk_0 (by decide)).elim) (fun h69 => ?_)
                refine rn_iconst (v := (1 : Int32)) dX10_policy_47 (by decide) ?_
                refine rn_goto (tgt := 52) dX10_policy_48 (by decide) ?_
                refine rn_iconst (v := (1 : Int32)) dX10_policy_52 (by decide) ?_
                refine rn_inV (d' := 0) (z' := 0) [.int (1 : Int32), .int (1 : Int32)] kl_SGModel_171 dX10_policy_53 q1 hl3 rfl rfl rfl (Nat.le_of_ble_eq_true rfl) (Nat.le_of_ble_eq_true rfl) (Nat.le_of_ble_eq_true rfl) (Nat.le_of_ble_eq_true rfl) ?_
                refine rn_lv [(0, .ref o0_), (1, .int (1 : Int32)), (2, .int (1 : Int32))] rfl ?_
                refine rn_aload_n (i := 0) dX10_refuses_0 rfl rfl ?_
                refine rn_get q1 kg_SGModel_137 hl3 hx3 dX10_refuses_1 ?_
                refine rn_if_ne (tgt := 16) dX10_refuses_4 (by decide) (fun h70 => (cx_ne (cv_ne h70) rk_0 rk_0 (by decide)).elim) (fun h70 => ?_)
                refine rn_iload_n (i := 1) dX10_refuses_7 rfl rfl ?_
                refine rn_if_eq (tgt := 16) dX10_refuses_8 (by decide) (fun h71 => (cx_eq (cv_eq h71) rk_1 rk_0 (by decide)).elim) (fun h71 => ?_)
                refine rn_aload_n (i := 0) dX10_refuses_11 rfl rfl ?_
                refine rn_iload_n (i := 2) dX10_refuses_12 rfl rfl ?_
                refine rs_put q1 (kp_SGModel_137 _) hS3 hq1 hl3 hf3 hk_30 rfl rfl (tv_i (rg_w rk_1 (by decide) (by decide))) rfl rfl dX10_refuses_13 (fun w72 fs73 hS73 hl73 hf73 hx73 ho73 hn73 => ?_)
                refine rn_aload_n (i := 0) dX10_refuses_16 rfl rfl ?_
                refine rn_get q1 kg_SGModel_137 hl73 hx73 dX10_refuses_17 ?_
                refine rn_if_le (tgt := 27) dX10_refuses_20 (by decide) (fun h74 => (cx_le (cv_le h74) rk_1 rk_0 (by decide)).elim) (fun h74 => ?_)
                refine rn_iconst (v := (1 : Int32)) dX10_refuses_23 (by decide) ?_
                refine rn_goto (tgt := 28) dX10_refuses_24 (by decide) ?_
                refine rn_iret dX10_refuses_28 rfl rfl (rq_in ?_)
                refine rn_stk [.int (1 : Int32)] rfl ?_
                refine rn_if_ne (tgt := 81) dX10_policy_56 (by decide) (fun h75 => ?_) (fun h75 => (cx_eq (cv_eq h75) rk_1 rk_0 (by decide)).elim)
                refine rn_iconst (v := (0 : Int32)) dX10_policy_81 (by decide) ?_
                exact rn_iret dX10_policy_82 rfl rfl (rq_in ⟨hS73, (0 : Int32), rfl, (rg_w rk_0 (by decide) (by decide))⟩)
              · have ch67 := cv_nlt h67
                have r76 : Rg (-2) (2147483647) x6_ := rf_ley ch67 rk_m2 (rg_any x6_) (by decide)
                refine rn_iload_n (i := 0) dX10_in_5 rfl rfl ?_
                refine rn_iload_n (i := 2) dX10_in_6 rfl rfl ?_
                refine rn_icmp_gt (tgt := 14) dX10_in_7 (by decide) (fun h77 => ?_) (fun h77 => ?_)
                · have ch77 := cv_lt h77
                  have r78 : Rg (4) (2147483647) x6_ := rf_lty ch77 rk_3 r76 (by decide)
                  refine rn_iconst (v := (0 : Int32)) dX10_in_14 (by decide) ?_
                  refine rn_iret dX10_in_15 rfl rfl (rq_in ?_)
                  refine rn_stk [.int (0 : Int32), .ref o0_] rfl ?_
                  refine rn_if_ne (tgt := 51) dX10_policy_44 (by decide) (fun h79 => (cx_ne (cv_ne h79) rk_0 rk_0 (by decide)).elim) (fun h79 => ?_)
                  refine rn_iconst (v := (1 : Int32)) dX10_policy_47 (by decide) ?_
                  refine rn_goto (tgt := 52) dX10_policy_48 (by decide) ?_
                  refine rn_iconst (v := (1 : Int32)) dX10_policy_52 (by decide) ?_
                  refine rn_inV (d' := 0) (z' := 0) [.int (1 : Int32), .int (1 : Int32)] kl_SGModel_171 dX10_policy_53 q1 hl3 rfl rfl rfl (Nat.le_of_ble_eq_true rfl) (Nat.le_of_ble_eq_true rfl) (Nat.le_of_ble_eq_true rfl) (Nat.le_of_ble_eq_true rfl) ?_
                  refine rn_lv [(0, .ref o0_), (1, .int (1 : Int32)), (2, .int (1 : Int32))] rfl ?_
                  refine rn_aload_n (i := 0) dX10_refuses_0 rfl rfl ?_
                  refine rn_get q1 kg_SGModel_137 hl3 hx3 dX10_refuses_1 ?_
                  refine rn_if_ne (tgt := 16) dX10_refuses_4 (by decide) (fun h80 => (cx_ne (cv_ne h80) rk_0 rk_0 (by decide)).elim) (fun h80 => ?_)
                  refine rn_iload_n (i := 1) dX10_refuses_7 rfl rfl ?_
                  refine rn_if_eq (tgt := 16) dX10_refuses_8 (by decide) (fun h81 => (cx_eq (cv_eq h81) rk_1 rk_0 (by decide)).elim) (fun h81 => ?_)
                  refine rn_aload_n (i := 0) dX10_refuses_11 rfl rfl ?_
                  refine rn_iload_n (i := 2) dX10_refuses_12 rfl rfl ?_
                  refine rs_put q1 (kp_SGModel_137 _) hS3 hq1 hl3 hf3 hk_30 rfl rfl (tv_i (rg_w rk_1 (by decide) (by decide))) rfl rfl dX10_refuses_13 (fun w82 fs83 hS83 hl83 hf83 hx83 ho83 hn83 => ?_)
                  refine rn_aload_n (i := 0) dX10_refuses_16 rfl rfl ?_
                  refine rn_get q1 kg_SGModel_137 hl83 hx83 dX10_refuses_17 ?_
                  refine rn_if_le (tgt := 27) dX10_refuses_20 (by decide) (fun h84 => (cx_le (cv_le h84) rk_1 rk_0 (by decide)).elim) (fun h84 => ?_)
                  refine rn_iconst (v := (1 : Int32)) dX10_refuses_23 (by decide) ?_
                  refine rn_goto (tgt := 28) dX10_refuses_24 (by decide) ?_
                  refine rn_iret dX10_refuses_28 rfl rfl (rq_in ?_)
                  refine rn_stk [.int (1 : Int32)] rfl ?_
                  refine rn_if_ne (tgt := 81) dX10_policy_56 (by decide) (fun h85 => ?_) (fun h85 => (cx_eq (cv_eq h85) rk_1 rk_0 (by decide)).elim)
                  refine rn_iconst (v := (0 : Int32)) dX10_policy_81 (by decide) ?_
                  exact rn_iret dX10_policy_82 rfl rfl (rq_in ⟨hS83, (0 : Int32), rfl, (rg_w rk_0 (by decide) (by decide))⟩)
                · have ch77 := cv_nlt h77
                  have r86 : Rg (-2) (3) x6_ := rf_lex ch77 r76 rk_3 (by decide)
                  refine rn_iconst (v := (1 : Int32)) dX10_in_10 (by decide) ?_
                  refine rn_goto (tgt := 15) dX10_in_11 (by decide) ?_
                  refine rn_iret dX10_in_15 rfl rfl (rq_in ?_)
                  refine rn_stk [.int (1 : Int32), .ref o0_] rfl ?_
                  refine rn_if_ne (tgt := 51) dX10_policy_44 (by decide) (fun h87 => ?_) (fun h87 => (cx_eq (cv_eq h87) rk_1 rk_0 (by decide)).elim)
                  refine rn_iconst (v := (0 : Int32)) dX10_policy_51 (by decide) ?_
                  refine rn_iconst (v := (1 : Int32)) dX10_policy_52 (by decide) ?_
                  refine rn_inV (d' := 0) (z' := 0) [.int (0 : Int32), .int (1 : Int32)] kl_SGModel_171 dX10_policy_53 q1 hl3 rfl rfl rfl (Nat.le_of_ble_eq_true rfl) (Nat.le_of_ble_eq_true rfl) (Nat.le_of_ble_eq_true rfl) (Nat.le_of_ble_eq_true rfl) ?_
                  refine rn_lv [(0, .ref o0_), (1, .int (0 : Int32)), (2, .int (1 : Int32))] rfl ?_
                  refine rn_aload_n (i := 0) dX10_refuses_0 rfl rfl ?_
                  refine rn_get q1 kg_SGModel_137 hl3 hx3 dX10_refuses_1 ?_
                  refine rn_if_ne (tgt := 16) dX10_refuses_4 (by decide) (fun h88 => (cx_ne (cv_ne h88) rk_0 rk_0 (by decide)).elim) (fun h88 => ?_)
                  refine rn_iload_n (i := 1) dX10_refuses_7 rfl rfl ?_
                  refine rn_if_eq (tgt := 16) dX10_refuses_8 (by decide) (fun h89 => ?_) (fun h89 => (cx_ne (cv_ne h89) rk_0 rk_0 (by decide)).elim)
                  refine rn_aload_n (i := 0) dX10_refuses_16 rfl rfl ?_
                  refine rn_get q1 kg_SGModel_137 hl3 hx3 dX10_refuses_17 ?_
                  refine rn_if_le (tgt := 27) dX10_refuses_20 (by decide) (fun h90 => ?_) (fun h90 => (cx_lt (cv_nle h90) rk_0 rk_0 (by decide)).elim)
                  refine rn_iconst (v := (0 : Int32)) dX10_refuses_27 (by decide) ?_
                  refine rn_iret dX10_refuses_28 rfl rfl (rq_in ?_)
                  refine rn_stk [.int (0 : Int32)] rfl ?_
                  refine rn_if_ne (tgt := 81) dX10_policy_56 (by decide) (fun h91 => (cx_ne (cv_ne h91) rk_0 rk_0 (by decide)).elim) (fun h91 => ?_)
                  refine rn_aload_n (i := 0) dX10_policy_59 rfl rfl ?_
                  refine rn_aload_n (i := 0) dX10_policy_60 rfl rfl ?_
                  obtain ⟨x92, hx92, rx92⟩ := fs_i hf3 9 rfl
                  refine rn_get q1 kg_SGModel_197 hl3 hx92 dX10_policy_61 ?_
                  refine rn_bipush (v := (24 : Int32)) dX10_policy_64 (by decide) ?_
                  refine rn_icmp_ne (tgt := 73) dX10_policy_66 (by decide) (fun h93 => ?_) (fun h93 => ?_)
                  · have ch93 := cv_ne h93
                    have r94 : Rg (0) (23) x92 := rf_neh ch93 rx92 rk_24 (by decide) (by decide)
                    refine rn_iconst (v := (0 : Int32)) dX10_policy_73 (by decide) ?_
                    refine rn_iconst (v := (2 : Int32)) dX10_policy_74 (by decide) ?_
                    refine rn_inV (d' := 0) (z' := 0) [.int (0 : Int32), .int (2 : Int32)] kl_SGModel_171 dX10_policy_75 q1 hl3 rfl rfl rfl (Nat.le_of_ble_eq_true rfl) (Nat.le_of_ble_eq_true rfl) (Nat.le_of_ble_eq_true rfl) (Nat.le_of_ble_eq_true rfl) ?_
                    refine rn_lv [(0, .ref o0_), (1, .int (0 : Int32)), (2, .int (2 : Int32))] rfl ?_
                    refine rn_aload_n (i := 0) dX10_refuses_0 rfl rfl ?_
                    refine rn_get q1 kg_SGModel_137 hl3 hx3 dX10_refuses_1 ?_
                    refine rn_if_ne (tgt := 16) dX10_refuses_4 (by decide) (fun h95 => (cx_ne (cv_ne h95) rk_0 rk_0 (by decide)).elim) (fun h95 => ?_)
                    refine rn_iload_n (i := 1) dX10_refuses_7 rfl rfl ?_
                    refine rn_if_eq (tgt := 16) dX10_refuses_8 (by decide) (fun h96 => ?_) (fun h96 => (cx_ne (cv_ne h96) rk_0 rk_0 (by decide)).elim)
                    refine rn_aload_n (i := 0) dX10_refuses_16 rfl rfl ?_
                    refine rn_get q1 kg_SGModel_137 hl3 hx3 dX10_refuses_17 ?_
                    refine rn_if_le (tgt := 27) dX10_refuses_20 (by decide) (fun h97 => ?_) (fun h97 => (cx_lt (cv_nle h97) rk_0 rk_0 (by decide)).elim)
                    refine rn_iconst (v := (0 : Int32)) dX10_refuses_27 (by decide) ?_
                    refine rn_iret dX10_refuses_28 rfl rfl (rq_in ?_)
                    refine rn_stk [.int (0 : Int32)] rfl ?_
                    refine rn_if_eq (tgt := 83) dX10_policy_78 (by decide) (fun h98 => ?_) (fun h98 => (cx_ne (cv_ne h98) rk_0 rk_0 (by decide)).elim)
                    refine rn_aload_n (i := 0) dX10_policy_83 rfl rfl ?_
                    refine rn_get q1 kg_SGModel_197 hl3 hx92 dX10_policy_84 ?_
                    refine rn_istore dX10_policy_87 (by decide) [(0, .ref o0_), (1, .int x1_), (2, .int x2_), (3, .int x3_), (4, .int x4_), (5, .int x5_), (6, .int x6_), (7, .int x92)] rfl ?_
                    refine rn_aload_n (i := 0) dX10_policy_89 rfl rfl ?_
                    obtain ⟨o99, hx99, m99⟩ := fs_r hf3 10 rfl
                    refine rn_get q1 kg_SGModel_25 hl3 hx99 dX10_policy_90 ?_
                    refine rn_iload dX10_policy_93 rfl ?_
                    refine rn_iload_n (i := 1) dX10_policy_95 rfl rfl ?_
                    obtain ⟨q100, f100, hq100, hl100, hf100⟩ := ts_ia hS3.1 m99 hk_41
                    refine rs_iast q100 hS3 hq100 hl100 hf100 hk_41 rfl rfl r94 (by decide) (by decide) (rg_w r23 (by decide) (by decide)) dX10_policy_96 (fun w101 f102 hS102 hl102 hf102 hu102 hn102 => ?_)
                    refine rn_aload_n (i := 0) dX10_policy_97 rfl rfl ?_
                    obtain ⟨o103, hx103, m103⟩ := fs_r hf3 11 rfl
                    refine rn_get q1 kg_SGModel_28 ((hn102 _ (ts_ne hq100 hq1 rfl)).trans hl3) hx103 dX10_policy_98 ?_
                    refine rn_iload dX10_policy_101 rfl ?_
                    refine rn_iload_n (i := 2) dX10_policy_103 rfl rfl ?_
                    obtain ⟨q104, f104, hq104, hl104, hf104⟩ := ts_ia hS102.1 m103 hk_42
                    refine rs_iast q104 hS102 hq104 hl104 hf104 hk_42 rfl rfl r94 (by decide) (by decide) (rg_any x2_) dX10_policy_104 (fun w105 f106 hS106 hl106 hf106 hu106 hn106 => ?_)
                    refine rn_aload_n (i := 0) dX10_policy_105 rfl rfl ?_
                    obtain ⟨o107, hx107, m107⟩ := fs_r hf3 12 rfl
                    refine rn_get q1 kg_SGModel_31 ((hn106 _ (ts_ne hq104 hq1 rfl)).trans ((hn102 _ (ts_ne hq100 hq1 rfl)).trans hl3)) hx107 dX10_policy_106 ?_
                    refine rn_iload dX10_policy_109 rfl ?_
                    refine rn_iload_n (i := 3) dX10_policy_111 rfl rfl ?_
                    obtain ⟨q108, f108, hq108, hl108, hf108⟩ := ts_ia hS106.1 m107 hk_43
                    refine rs_iast q108 hS106 hq108 hl108 hf108 hk_43 rfl rfl r94 (by decide) (by decide) (rg_w r44 (by decide) (by decide)) dX10_policy_112 (fun w109 f110 hS110 hl110 hf110 hu110 hn110 => ?_)
                    refine rn_aload_n (i := 0) dX10_policy_113 rfl rfl ?_
                    obtain ⟨o111, hx111, m111⟩ := fs_r hf3 13 rfl
                    refine rn_get q1 kg_SGModel_34 ((hn110 _ (ts_ne hq108 hq1 rfl)).trans ((hn106 _ (ts_ne hq104 hq1 rfl)).trans ((hn102 _ (ts_ne hq100 hq1 rfl)).trans hl3))) hx111 dX10_policy_114 ?_
                    refine rn_iload dX10_policy_117 rfl ?_
                    refine rn_iload dX10_policy_119 rfl ?_
                    obtain ⟨q112, f112, hq112, hl112, hf112⟩ := ts_ia hS110.1 m111 hk_44
                    refine rs_iast q112 hS110 hq112 hl112 hf112 hk_44 rfl rfl r94 (by decide) (by decide) (rg_any x4_) dX10_policy_121 (fun w113 f114 hS114 hl114 hf114 hu114 hn114 => ?_)
                    refine rn_aload_n (i := 0) dX10_policy_122 rfl rfl ?_
                    obtain ⟨o115, hx115, m115⟩ := fs_r hf3 14 rfl
                    refine rn_get q1 kg_SGModel_37 ((hn114 _ (ts_ne hq112 hq1 rfl)).trans ((hn110 _ (ts_ne hq108 hq1 rfl)).trans ((hn106 _ (ts_ne hq104 hq1 rfl)).trans ((hn102 _ (ts_ne hq100 hq1 rfl)).trans hl3)))) hx115 dX10_policy_123 ?_
                    refine rn_iload dX10_policy_126 rfl ?_
                    refine rn_iload dX10_policy_128 rfl ?_
                    obtain ⟨q116, f116, hq116, hl116, hf116⟩ := ts_ia hS114.1 m115 hk_45
                    refine rs_iast q116 hS114 hq116 hl116 hf116 hk_45 rfl rfl r94 (by decide) (by decide) (rg_w r65 (by decide) (by decide)) dX10_policy_130 (fun w117 f118 hS118 hl118 hf118 hu118 hn118 => ?_)
                    refine rn_aload_n (i := 0) dX10_policy_131 rfl rfl ?_
                    obtain ⟨o119, hx119, m119⟩ := fs_r hf3 18 rfl
                    refine rn_get q1 kg_SGModel_49 ((hn118 _ (ts_ne hq116 hq1 rfl)).trans ((hn114 _ (ts_ne hq112 hq1 rfl)).trans ((hn110 _ (ts_ne hq108 hq1 rfl)).trans ((hn106 _ (ts_ne hq104 hq1 rfl)).trans ((hn102 _ (ts_ne hq100 hq1 rfl)).trans hl3))))) hx119 dX10_policy_132 ?_
                    refine rn_iload dX10_policy_135 rfl ?_
                    refine rn_iload dX10_policy_137 rfl ?_
                    obtain ⟨q120, f120, hq120, hl120, hf120⟩ := ts_ia hS118.1 m119 hk_49
                    refine rs_iast q120 hS118 hq120 hl120 hf120 hk_49 rfl rfl r94 (by decide) (by decide) (rg_w r86 (by decide) (by decide)) dX10_policy_139 (fun w121 f122 hS122 hl122 hf122 hu122 hn122 => ?_)
                    refine rn_aload_n (i := 0) dX10_policy_140 rfl rfl ?_
                    obtain ⟨o123, hx123, m123⟩ := fs_r hf3 15 rfl
                    refine rn_get q1 kg_SGModel_40 ((hn122 _ (ts_ne hq120 hq1 rfl)).trans ((hn118 _ (ts_ne hq116 hq1 rfl)).trans ((hn114 _ (ts_ne hq112 hq1 rfl)).trans ((hn110 _ (ts_ne hq108 hq1 rfl)).trans ((hn106 _ (ts_ne hq104 hq1 rfl)).trans ((hn102 _ (ts_ne hq100 hq1 rfl)).trans hl3)))))) hx123 dX10_policy_141 ?_
                    refine rn_iload dX10_policy_144 rfl ?_
                    refine rn_aload_n (i := 0) dX10_policy_146 rfl rfl ?_
                    obtain ⟨x124, hx124, rx124⟩ := fs_i hf3 19 rfl
                    refine rn_get q1 kg_SGModel_191 ((hn122 _ (ts_ne hq120 hq1 rfl)).trans ((hn118 _ (ts_ne hq116 hq1 rfl)).trans ((hn114 _ (ts_ne hq112 hq1 rfl)).trans ((hn110 _ (ts_ne hq108 hq1 rfl)).trans ((hn106 _ (ts_ne hq104 hq1 rfl)).trans ((hn102 _ (ts_ne hq100 hq1 rfl)).trans hl3)))))) hx124 dX10_policy_147 ?_
                    obtain ⟨q125, f125, hq125, hl125, hf125⟩ := ts_ia hS122.1 m123 hk_46
                    refine rs_iast q125 hS122 hq125 hl125 hf125 hk_46 rfl rfl r94 (by decide) (by decide) rx124 dX10_policy_150 (fun w126 f127 hS127 hl127 hf127 hu127 hn127 => ?_)
                    refine rn_aload_n (i := 0) dX10_policy_151 rfl rfl ?_
                    obtain ⟨o128, hx128, m128⟩ := fs_r hf3 16 rfl
                    refine rn_get q1 kg_SGModel_43 ((hn127 _ (ts_ne hq125 hq1 rfl)).trans ((hn122 _ (ts_ne hq120 hq1 rfl)).trans ((hn118 _ (ts_ne hq116 hq1 rfl)).trans ((hn114 _ (ts_ne hq112 hq1 rfl)).trans ((hn110 _ (ts_ne hq108 hq1 rfl)).trans ((hn106 _ (ts_ne hq104 hq1 rfl)).trans ((hn102 _ (ts_ne hq100 hq1 rfl)).trans hl3))))))) hx128 dX10_policy_152 ?_
                    refine rn_iload dX10_policy_155 rfl ?_
                    refine rn_aload_n (i := 0) dX10_policy_157 rfl rfl ?_
                    obtain ⟨x129, hx129, rx129⟩ := fs_i hf3 20 rfl
                    refine rn_get q1 kg_SGModel_194 ((hn127 _ (ts_ne hq125 hq1 rfl)).trans ((hn122 _ (ts_ne hq120 hq1 rfl)).trans ((hn118 _ (ts_ne hq116 hq1 rfl)).trans ((hn114 _ (ts_ne hq112 hq1 rfl)).trans ((hn110 _ (ts_ne hq108 hq1 rfl)).trans ((hn106 _ (ts_ne hq104 hq1 rfl)).trans ((hn102 _ (ts_ne hq100 hq1 rfl)).trans hl3))))))) hx129 dX10_policy_158 ?_
                    obtain ⟨q130, f130, hq130, hl130, hf130⟩ := ts_ia hS127.1 m128 hk_47
                    refine rs_iast q130 hS127 hq130 hl130 hf130 hk_47 rfl rfl r94 (by decide) (by decide) rx129 dX10_policy_161 (fun w131 f132 hS132 hl132 hf132 hu132 hn132 => ?_)
                    have hl133 := ((hn132 _ (ts_ne hq130 hq1 rfl)).trans ((hn127 _ (ts_ne hq125 hq1 rfl)).trans ((hn122 _ (ts_ne hq120 hq1 rfl)).trans ((hn118 _ (ts_ne hq116 hq1 rfl)).trans ((hn114 _ (ts_ne hq112 hq1 rfl)).trans ((hn110 _ (ts_ne hq108 hq1 rfl)).trans ((hn106 _ (ts_ne hq104 hq1 rfl)).trans ((hn102 _ (ts_ne hq100 hq1 rfl)).trans hl3))))))))
                    refine rn_aload_n (i := 0) dX10_policy_162 rfl rfl ?_
                    obtain ⟨o134, hx134, m134⟩ := fs_r hf3 17 rfl
                    refine rn_get q1 kg_SGModel_46 hl133 hx134 dX10_policy_163 ?_
                    refine rn_iload dX10_policy_166 rfl ?_
                    refine rn_aload_n (i := 0) dX10_policy_168 rfl rfl ?_
                    obtain ⟨x135, hx135, rx135⟩ := fs_i hf3 21 rfl
                    refine rn_get q1 kg_SGModel_53 hl133 hx135 dX10_policy_169 ?_
                    obtain ⟨q136, f136, hq136, hl136, hf136⟩ := ts_ia hS132.1 m134 hk_48
                    refine rs_iast q136 hS132 hq136 hl136 hf136 hk_48 rfl rfl r94 (by decide) (by decide) rx135 dX10_policy_172 (fun w137 f138 hS138 hl138 hf138 hu138 hn138 => ?_)
                    have hl139 := ((hn138 _ (ts_ne hq136 hq100 rfl)).trans ((hn132 _ (ts_ne hq130 hq100 rfl)).trans ((hn127 _ (ts_ne hq125 hq100 rfl)).trans ((hn122 _ (ts_ne hq120 hq100 rfl)).trans ((hn118 _ (ts_ne hq116 hq100 rfl)).trans ((hn114 _ (ts_ne hq112 hq100 rfl)).trans ((hn110 _ (ts_ne hq108 hq100 rfl)).trans ((hn106 _ (ts_ne hq104 hq100 rfl)).trans hl102))))))))
                    refine rn_aload_n (i := 0) dX10_policy_173 rfl rfl ?_
                    refine rn_iconst (v := (0 : Int32)) dX10_policy_174 (by decide) ?_
                    refine rs_put q1 (kp_SGModel_191 _) hS138 hq1 ((hn138 _ (ts_ne hq136 hq1 rfl)).trans hl133) hf3 hk_30 rfl rfl (tv_i (rg_w rk_0 (by decide) (by decide))) rfl rfl dX10_policy_175 (fun w140 fs141 hS141 hl141 hf141 hx141 ho141 hn141 => ?_)
                    have hl142 := ((hn141 _ (ts_ne hq1 hq104 rfl)).trans ((hn138 _ (ts_ne hq136 hq104 rfl)).trans ((hn132 _ (ts_ne hq130 hq104 rfl)).trans ((hn127 _ (ts_ne hq125 hq104 rfl)).trans ((hn122 _ (ts_ne hq120 hq104 rfl)).trans ((hn118 _ (ts_ne hq116 hq104 rfl)).trans ((hn114 _ (ts_ne hq112 hq104 rfl)).trans ((hn110 _ (ts_ne hq108 hq104 rfl)).trans hl106))))))))
                    refine rn_aload_n (i := 0) dX10_policy_178 rfl rfl ?_
                    refine rn_iconst (v := (0 : Int32)) dX10_policy_179 (by decide) ?_
                    refine rs_put q1 (kp_SGModel_194 _) hS141 hq1 hl141 hf141 hk_30 rfl rfl (tv_i (rg_w rk_0 (by decide) (by decide))) rfl rfl dX10_policy_180 (fun w143 fs144 hS144 hl144 hf144 hx144 ho144 hn144 => ?_)
                    have hl145 := ((hn144 _ (ts_ne hq1 hq108 rfl)).trans ((hn141 _ (ts_ne hq1 hq108 rfl)).trans ((hn138 _ (ts_ne hq136 hq108 rfl)).trans ((hn132 _ (ts_ne hq130 hq108 rfl)).trans ((hn127 _ (ts_ne hq125 hq108 rfl)).trans ((hn122 _ (ts_ne hq120 hq108 rfl)).trans ((hn118 _ (ts_ne hq116 hq108 rfl)).trans ((hn114 _ (ts_ne hq112 hq108 rfl)).trans hl110))))))))
                    refine rn_aload_n (i := 0) dX10_policy_183 rfl rfl ?_
                    refine rn_ldc (v := (65535 : Int32)) wd_1093 dX10_policy_184 ?_
                    refine rs_put q1 (kp_SGModel_53 _) hS144 hq1 hl144 hf144 hk_30 rfl rfl (tv_i (rg_w rk_65535 (by decide) (by decide))) rfl rfl dX10_policy_186 (fun w146 fs147 hS147 hl147 hf147 hx147 ho147 hn147 => ?_)
                    have hl148 := ((hn147 _ (ts_ne hq1 hq112 rfl)).trans ((hn144 _ (ts_ne hq1 hq112 rfl)).trans ((hn141 _ (ts_ne hq1 hq112 rfl)).trans ((hn138 _ (ts_ne hq136 hq112 rfl)).trans ((hn132 _ (ts_ne hq130 hq112 rfl)).trans ((hn127 _ (ts_ne hq125 hq112 rfl)).trans ((hn122 _ (ts_ne hq120 hq112 rfl)).trans ((hn118 _ (ts_ne hq116 hq112 rfl)).trans hl114))))))))
                    refine rn_aload_n (i := 0) dX10_policy_189 rfl rfl ?_
                    refine rn_dup dX10_policy_190 rfl ?_
                    refine rn_get q1 kg_SGModel_197 hl147 ((ho147 9 (by decide)).trans ((ho144 9 (by decide)).trans ((ho141 9 (by decide)).trans hx92))) dX10_policy_191 ?_
                    refine rn_iconst (v := (1 : Int32)) dX10_policy_194 (by decide) ?_
                    refine rs_addC (1) (24) r94 rk_1 dX10_policy_195 (by decide) (fun v149 ev149 rv149 => ?_)
                    refine rs_put q1 (kp_SGModel_197 _) hS147 hq1 hl147 hf147 hk_30 rfl rfl (tv_i (rg_w rv149 (by decide) (by decide))) rfl rfl dX10_policy_196 (fun w150 fs151 hS151 hl151 hf151 hx151 ho151 hn151 => ?_)
                    have hl152 := ((hn151 _ (ts_ne hq1 hq116 rfl)).trans ((hn147 _ (ts_ne hq1 hq116 rfl)).trans ((hn144 _ (ts_ne hq1 hq116 rfl)).trans ((hn141 _ (ts_ne hq1 hq116 rfl)).trans ((hn138 _ (ts_ne hq136 hq116 rfl)).trans ((hn132 _ (ts_ne hq130 hq116 rfl)).trans ((hn127 _ (ts_ne hq125 hq116 rfl)).trans ((hn122 _ (ts_ne hq120 hq116 rfl)).trans hl118))))))))
                    refine rn_aload_n (i := 0) dX10_policy_199 rfl rfl ?_
                    refine rn_get q1 kg_SGModel_197 hl151 hx151 dX10_policy_200 ?_
                    exact rn_iret dX10_policy_203 rfl rfl (rq_in ⟨hS151, v149, rfl, (rg_w rv149 (by decide) (by decide))⟩)
                  · have ch93 := cv_eq h93
                    have r153 : Rg (24) (24) x92 := rf_eqx ch93 rx92 rk_24 (by decide) (by decide)
                    refine rn_iconst (v := (1 : Int32)) dX10_policy_69 (by decide) ?_
                    refine rn_goto (tgt := 74) dX10_policy_70 (by decide) ?_
                    refine rn_iconst (v := (2 : Int32)) dX10_policy_74 (by decide) ?_
                    refine rn_inV (d' := 0) (z' := 0) [.int (1 : Int32), .int (2 : Int32)] kl_SGModel_171 dX10_policy_75 q1 hl3 rfl rfl rfl (Nat.le_of_ble_eq_true rfl) (Nat.le_of_ble_eq_true rfl) (Nat.le_of_ble_eq_true rfl) (Nat.le_of_ble_eq_true rfl) ?_
                    refine rn_lv [(0, .ref o0_), (1, .int (1 : Int32)), (2, .int (2 : Int32))] rfl ?_
                    refine rn_aload_n (i := 0) dX10_refuses_0 rfl rfl ?_
                    refine rn_get q1 kg_SGModel_137 hl3 hx3 dX10_refuses_1 ?_
                    refine rn_if_ne (tgt := 16) dX10_refuses_4 (by decide) (fun h154 => (cx_ne (cv_ne h154) rk_0 rk_0 (by decide)).elim) (fun h154 => ?_)
                    refine rn_iload_n (i := 1) dX10_refuses_7 rfl rfl ?_
                    refine rn_if_eq (tgt := 16) dX10_refuses_8 (by decide) (fun h155 => (cx_eq (cv_eq h155) rk_1 rk_0 (by decide)).elim) (fun h155 => ?_)
                    refine rn_aload_n (i := 0) dX10_refuses_11 rfl rfl ?_
                    refine rn_iload_n (i := 2) dX10_refuses_12 rfl rfl ?_
                    refine rs_put q1 (kp_SGModel_137 _) hS3 hq1 hl3 hf3 hk_30 rfl rfl (tv_i (rg_w rk_2 (by decide) (by decide))) rfl rfl dX10_refuses_13 (fun w156 fs157 hS157 hl157 hf157 hx157 ho157 hn157 => ?_)
                    refine rn_aload_n (i := 0) dX10_refuses_16 rfl rfl ?_
                    refine rn_get q1 kg_SGModel_137 hl157 hx157 dX10_refuses_17 ?_
                    refine rn_if_le (tgt := 27) dX10_refuses_20 (by decide) (fun h158 => (cx_le (cv_le h158) rk_2 rk_0 (by decide)).elim) (fun h158 => ?_)
                    refine rn_iconst (v := (1 : Int32)) dX10_refuses_23 (by decide) ?_
                    refine rn_goto (tgt := 28) dX10_refuses_24 (by decide) ?_
                    refine rn_iret dX10_refuses_28 rfl rfl (rq_in ?_)
                    refine rn_stk [.int (1 : Int32)] rfl ?_
                    refine rn_if_eq (tgt := 83) dX10_policy_78 (by decide) (fun h159 => (cx_eq (cv_eq h159) rk_1 rk_0 (by decide)).elim) (fun h159 => ?_)
                    refine rn_iconst (v := (0 : Int32)) dX10_policy_81 (by decide) ?_
                    exact rn_iret dX10_policy_82 rfl rfl (rq_in ⟨hS157, (0 : Int32), rfl, (rg_w rk_0 (by decide) (by decide))⟩)
