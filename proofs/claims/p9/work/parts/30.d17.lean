abbrev q_t_X10_sent (G : rn_G) (S : ts_S) (ws : va_W) : rn_R → va_W → Prop := rQ (fun v w => St G S [30] ws S w ∧ (∃ x : Int32, v = some (.int x) ∧ Rg (-2147483648) (2147483647) x)) (fun E w => False)
set_option maxRecDepth 20000 in
set_option maxHeartbeats 4000000 in
theorem t_X10_sent (G : rn_G) (S : ts_S) (ws : va_W) (hW : ts_W G S ws) (o0_ : Nat) (m0_ : (o0_, 30) ∈ S) (x1_ : Int32) (x2_ : Int32) : Rn G mX10_sent 1 22 0 0 0 (lv_args 0 [.ref o0_, .int x1_, .int x2_]) [] ws (q_t_X10_sent G S ws ) := by
  have hS0 : St G S [30] ws S ws := St.rf hW
  refine rn_lv [(0, .ref o0_), (1, .int x1_), (2, .int x2_)] rfl ?_
  refine rn_aload_n (i := 0) dX10_sent_0 rfl rfl ?_
  refine rn_iconst (v := (0 : Int32)) dX10_sent_1 (by decide) ?_
  obtain ⟨q1, fs1, hq1, hl1, hf1⟩ := ts_obj hS0.1 m0_ hk_30
  refine rs_put q1 (kp_SGModel_137 _) hS0 hq1 hl1 hf1 hk_30 rfl rfl (tv_i (rg_w rk_0 (by decide) (by decide))) rfl rfl dX10_sent_2 (fun w2 fs3 hS3 hl3 hf3 hx3 ho3 hn3 => ?_)
  refine rn_aload_n (i := 0) dX10_sent_5 rfl rfl ?_
  refine rn_iload_n (i := 1) dX10_sent_6 rfl rfl ?_
  refine rn_iconst (v := (0 : Int32)) dX10_sent_7 (by decide) ?_
  refine rn_iconst (v := (1 : Int32)) dX10_sent_8 (by decide) ?_
  refine rn_inS (d' := 0) (z' := 0) [.int x1_, .int (0 : Int32), .int (1 : Int32)] kl_SGModel_179 dX10_sent_9 rfl rfl (Nat.le_of_ble_eq_true rfl) (Nat.le_of_ble_eq_true rfl) (Nat.le_of_ble_eq_true rfl) (Nat.le_of_ble_eq_true rfl) ?_
  refine rn_lv [(0, .int x1_), (1, .int (0 : Int32)), (2, .int (1 : Int32))] rfl ?_
  refine rn_iload_n (i := 0) dX10_in_0 rfl rfl ?_
  refine rn_iload_n (i := 1) dX10_in_1 rfl rfl ?_
  refine rn_icmp_lt (tgt := 14) dX10_in_2 (by decide) (fun h4 => ?_) (fun h4 => ?_)
  · have ch4 := cv_lt h4
    have r5 : Rg (-2147483648) (-1) x1_ := rf_ltx ch4 (rg_any x1_) rk_0 (by decide)
    refine rn_iconst (v := (0 : Int32)) dX10_in_14 (by decide) ?_
    refine rn_iret dX10_in_15 rfl rfl (rq_in ?_)
    refine rn_stk [.int (0 : Int32), .ref o0_] rfl ?_
    refine rn_if_ne (tgt := 19) dX10_sent_12 (by decide) (fun h6 => (cx_ne (cv_ne h6) rk_0 rk_0 (by decide)).elim) (fun h6 => ?_)
    refine rn_iconst (v := (1 : Int32)) dX10_sent_15 (by decide) ?_
    refine rn_goto (tgt := 20) dX10_sent_16 (by decide) ?_
    refine rn_iconst (v := (1 : Int32)) dX10_sent_20 (by decide) ?_
    refine rn_inV (d' := 0) (z' := 0) [.int (1 : Int32), .int (1 : Int32)] kl_SGModel_171 dX10_sent_21 q1 hl3 rfl rfl rfl (Nat.le_of_ble_eq_true rfl) (Nat.le_of_ble_eq_true rfl) (Nat.le_of_ble_eq_true rfl) (Nat.le_of_ble_eq_true rfl) ?_
    refine rn_lv [(0, .ref o0_), (1, .int (1 : Int32)), (2, .int (1 : Int32))] rfl ?_
    refine rn_aload_n (i := 0) dX10_refuses_0 rfl rfl ?_
    refine rn_get q1 kg_SGModel_137 hl3 hx3 dX10_refuses_1 ?_
    refine rn_if_ne (tgt := 16) dX10_refuses_4 (by decide) (fun h7 => (cx_ne (cv_ne h7) rk_0 rk_0 (by decide)).elim) (fun h7 => ?_)
    refine rn_iload_n (i := 1) dX10_refuses_7 rfl rfl ?_
    refine rn_if_eq (tgt := 16) dX10_refuses_8 (by decide) (fun h8 => (cx_eq (cv_eq h8) rk_1 rk_0 (by decide)).elim) (fun h8 => ?_)
    refine rn_aload_n (i := 0) dX10_refuses_11 rfl rfl ?_
    refine rn_iload_n (i := 2) dX10_refuses_12 rfl rfl ?_
    refine rs_put q1 (kp_SGModel_137 _) hS3 hq1 hl3 hf3 hk_30 rfl rfl (tv_i (rg_w rk_1 (by decide) (by decide))) rfl rfl dX10_refuses_13 (fun w9 fs10 hS10 hl10 hf10 hx10 ho10 hn10 => ?_)
    refine rn_aload_n (i := 0) dX10_refuses_16 rfl rfl ?_
    refine rn_get q1 kg_SGModel_137 hl10 hx10 dX10_refuses_17 ?_
    refine rn_if_le (tgt := 27) dX10_refuses_20 (by decide) (fun h11 => (cx_le (cv_le h11) rk_1 rk_0 (by decide)).elim) (fun h11 => ?_)
    refine rn_iconst (v := (1 : Int32)) dX10_refuses_23 (by decide) ?_
    refine rn_goto (tgt := 28) dX10_refuses_24 (by decide) ?_
    refine rn_iret dX10_refuses_28 rfl rfl (rq_in ?_)
    refine rn_stk [.int (1 : Int32)] rfl ?_
    refine rn_if_eq (tgt := 29) dX10_sent_24 (by decide) (fun h12 => (cx_eq (cv_eq h12) rk_1 rk_0 (by decide)).elim) (fun h12 => ?_)
    refine rn_iconst (v := (0 : Int32)) dX10_sent_27 (by decide) ?_
    exact rn_iret dX10_sent_28 rfl rfl (rq_in ⟨hS10, (0 : Int32), rfl, (rg_w rk_0 (by decide) (by decide))⟩)
  · have ch4 := cv_nlt h4
    have r13 : Rg (0) (2147483647) x1_ := rf_ley ch4 rk_0 (rg_any x1_) (by decide)
    refine rn_iload_n (i := 0) dX10_in_5 rfl rfl ?_
    refine rn_iload_n (i := 2) dX10_in_6 rfl rfl ?_
    refine rn_icmp_gt (tgt := 14) dX10_in_7 (by decide) (fun h14 => ?_) (fun h14 => ?_)
    · have ch14 := cv_lt h14
      have r15 : Rg (2) (2147483647) x1_ := rf_lty ch14 rk_1 r13 (by decide)
      refine rn_iconst (v := (0 : Int32)) dX10_in_14 (by decide) ?_
      refine rn_iret dX10_in_15 rfl rfl (rq_in ?_)
      refine rn_stk [.int (0 : Int32), .ref o0_] rfl ?_
      refine rn_if_ne (tgt := 19) dX10_sent_12 (by decide) (fun h16 => (cx_ne (cv_ne h16) rk_0 rk_0 (by decide)).elim) (fun h16 => ?_)
      refine rn_iconst (v := (1 : Int32)) dX10_sent_15 (by decide) ?_
      refine rn_goto (tgt := 20) dX10_sent_16 (by decide) ?_
      refine rn_iconst (v := (1 : Int32)) dX10_sent_20 (by decide) ?_
      refine rn_inV (d' := 0) (z' := 0) [.int (1 : Int32), .int (1 : Int32)] kl_SGModel_171 dX10_sent_21 q1 hl3 rfl rfl rfl (Nat.le_of_ble_eq_true rfl) (Nat.le_of_ble_eq_true rfl) (Nat.le_of_ble_eq_true rfl) (Nat.le_of_ble_eq_true rfl) ?_
      refine rn_lv [(0, .ref o0_), (1, .int (1 : Int32)), (2, .int (1 : Int32))] rfl ?_
      refine rn_aload_n (i := 0) dX10_refuses_0 rfl rfl ?_
      refine rn_get q1 kg_SGModel_137 hl3 hx3 dX10_refuses_1 ?_
      refine rn_if_ne (tgt := 16) dX10_refuses_4 (by decide) (fun h17 => (cx_ne (cv_ne h17) rk_0 rk_0 (by decide)).elim) (fun h17 => ?_)
      refine rn_iload_n (i := 1) dX10_refuses_7 rfl rfl ?_
      refine rn_if_eq (tgt := 16) dX10_refuses_8 (by decide) (fun h18 => (cx_eq (cv_eq h18) rk_1 rk_0 (by decide)).elim) (fun h18 => ?_)
      refine rn_aload_n (i := 0) dX10_refuses_11 rfl rfl ?_
      refine rn_iload_n (i := 2) dX10_refuses_12 rfl rfl ?_
      refine rs_put q1 (kp_SGModel_137 _) hS3 hq1 hl3 hf3 hk_30 rfl rfl (tv_i (rg_w rk_1 (by decide) (by decide))) rfl rfl dX10_refuses_13 (fun w19 fs20 hS20 hl20 hf20 hx20 ho20 hn20 => ?_)
      refine rn_aload_n (i := 0) dX10_refuses_16 rfl rfl ?_
      refine rn_get q1 kg_SGModel_137 hl20 hx20 dX10_refuses_17 ?_
      refine rn_if_le (tgt := 27) dX10_refuses_20 (by decide) (fun h21 => (cx_le (cv_le h21) rk_1 rk_0 (by decide)).elim) (fun h21 => ?_)
      refine rn_iconst (v := (1 : Int32)) dX10_refuses_23 (by decide) ?_
      refine rn_goto (tgt := 28) dX10_refuses_24 (by decide) ?_
      refine rn_iret dX10_refuses_28 rfl rfl (rq_in ?_)
      refine rn_stk [.int (1 : Int32)] rfl ?_
      refine rn_if_eq (tgt := 29) dX10_sent_24 (by decide) (fun h22 => (cx_eq (cv_eq h22) rk_1 rk_0 (by decide)).elim) (fun h22 => ?_)
      refine rn_iconst (v := (0 : Int32)) dX10_sent_27 (by decide) ?_
      exact rn_iret dX10_sent_28 rfl rfl (rq_in ⟨hS20, (0 : Int32), rfl, (rg_w rk_0 (by decide) (by decide))⟩)
    · have ch14 := cv_nlt h14
      have r23 : Rg (0) (1) x1_ := rf_lex ch14 r13 rk_1 (by decide)
      refine rn_iconst (v := (1 : Int32)) dX10_in_10 (by decide) ?_
      refine rn_goto (tgt := 15) dX10_in_11 (by decide) ?_
      refine rn_iret dX10_in_15 rfl rfl (rq_in ?_)
      refine rn_stk [.int (1 : Int32), .ref o0_] rfl ?_
      refine rn_if_ne (tgt := 19) dX10_sent_12 (by decide) (fun h24 => ?_) (fun h24 => (cx_eq (cv_eq h24) rk_1 rk_0 (by decide)).elim)
      refine rn_iconst (v := (0 : Int32)) dX10_sent_19 (by decide) ?_
      refine rn_iconst (v := (1 : Int32)) dX10_sent_20 (by decide) ?_
      refine rn_inV (d' := 0) (z' := 0) [.int (0 : Int32), .int (1 : Int32)] kl_SGModel_171 dX10_sent_21 q1 hl3 rfl rfl rfl (Nat.le_of_ble_eq_true rfl) (Nat.le_of_ble_eq_true rfl) (Nat.le_of_ble_eq_true rfl) (Nat.le_of_ble_eq_true rfl) ?_
      refine rn_lv [(0, .ref o0_), (1, .int (0 : Int32)), (2, .int (1 : Int32))] rfl ?_
      refine rn_aload_n (i := 0) dX10_refuses_0 rfl rfl ?_
      refine rn_get q1 kg_SGModel_137 hl3 hx3 dX10_refuses_1 ?_
      refine rn_if_ne (tgt := 16) dX10_refuses_4 (by decide) (fun h25 => (cx_ne (cv_ne h25) rk_0 rk_0 (by decide)).elim) (fun h25 => ?_)
      refine rn_iload_n (i := 1) dX10_refuses_7 rfl rfl ?_
      refine rn_if_eq (tgt := 16) dX10_refuses_8 (by decide) (fun h26 => ?_) (fun h26 => (cx_ne (cv_ne h26) rk_0 rk_0 (by decide)).elim)
      refine rn_aload_n (i := 0) dX10_refuses_16 rfl rfl ?_
      refine rn_get q1 kg_SGModel_137 hl3 hx3 dX10_refuses_17 ?_
      refine rn_if_le (tgt := 27) dX10_refuses_20 (by decide) (fun h27 => ?_) (fun h27 => (cx_lt (cv_nle h27) rk_0 rk_0 (by decide)).elim)
      refine rn_iconst (v := (0 : Int32)) dX10_refuses_27 (by decide) ?_
      refine rn_iret dX10_refuses_28 rfl rfl (rq_in ?_)
      refine rn_stk [.int (0 : Int32)] rfl ?_
      refine rn_if_eq (tgt := 29) dX10_sent_24 (by decide) (fun h28 => ?_) (fun h28 => (cx_ne (cv_ne h28) rk_0 rk_0 (by decide)).elim)
      refine rn_aload_n (i := 0) dX10_sent_29 rfl rfl ?_
      obtain ⟨o29, hx29, m29⟩ := fs_r hf3 34 rfl
      refine rn_get q1 kg_SGModel_89 hl3 hx29 dX10_sent_30 ?_
      refine rn_iload_n (i := 1) dX10_sent_33 rfl rfl ?_
      obtain ⟨q30, f30, hq30, hl30, hf30⟩ := ts_ia hS3.1 m29 hk_65
      refine rs_iald q30 hl30 hf30 rfl r23 (by decide) (by decide) dX10_sent_34 (fun v31 ev31 rv31 => ?_)
      refine rn_istore_n dX10_sent_35 rfl (by decide) [(0, .ref o0_), (1, .int x1_), (2, .int x2_), (3, .int v31)] rfl ?_
      refine rn_iload_n (i := 2) dX10_sent_36 rfl rfl ?_
      refine rn_iconst (v := (-1 : Int32)) dX10_sent_37 (by decide) ?_
      refine rn_icmp_ne (tgt := 43) dX10_sent_38 (by decide) (fun h32 => ?_) (fun h32 => ?_)
      · have ch32 := cv_ne h32
        refine rn_iload_n (i := 2) dX10_sent_43 rfl rfl ?_
        refine rn_bipush (v := (-2 : Int32)) dX10_sent_44 (by decide) ?_
        refine rn_icmp_ne (tgt := 62) dX10_sent_46 (by decide) (fun h33 => ?_) (fun h33 => ?_)
        · have ch33 := cv_ne h33
          refine rn_aload_n (i := 0) dX10_sent_62 rfl rfl ?_
          refine rn_iload_n (i := 2) dX10_sent_63 rfl rfl ?_
          refine rn_iconst (v := (0 : Int32)) dX10_sent_64 (by decide) ?_
          refine rn_iload_n (i := 3) dX10_sent_65 rfl rfl ?_
          refine rn_iconst (v := (1 : Int32)) dX10_sent_66 (by decide) ?_
          refine rs_subC (-1) (1499) rv31 rk_1 dX10_sent_67 (by decide) (fun v34 ev34 rv34 => ?_)
          refine rn_inS (d' := 0) (z' := 0) [.int x2_, .int (0 : Int32), .int v34] kl_SGModel_179 dX10_sent_68 rfl rfl (Nat.le_of_ble_eq_true rfl) (Nat.le_of_ble_eq_true rfl) (Nat.le_of_ble_eq_true rfl) (Nat.le_of_ble_eq_true rfl) ?_
          refine rn_lv [(0, .int x2_), (1, .int (0 : Int32)), (2, .int v34)] rfl ?_
          refine rn_iload_n (i := 0) dX10_in_0 rfl rfl ?_
          refine rn_iload_n (i := 1) dX10_in_1 rfl rfl ?_
          refine rn_icmp_lt (tgt := 14) dX10_in_2 (by decide) (fun h35 => ?_) (fun h35 => ?_)
          · have ch35 := cv_lt h35
            have r36 : Rg (-2147483648) (-1) x2_ := rf_ltx ch35 (rg_any x2_) rk_0 (by decide)
            refine rn_iconst (v := (0 : Int32)) dX10_in_14 (by decide) ?_
            refine rn_iret dX10_in_15 rfl rfl (rq_in ?_)
            refine rn_stk [.int (0 : Int32), .ref o0_] rfl ?_
            refine rn_if_ne (tgt := 78) dX10_sent_71 (by decide) (fun h37 => (cx_ne (cv_ne h37) rk_0 rk_0 (by decide)).elim) (fun h37 => ?_)
            refine rn_iconst (v := (1 : Int32)) dX10_sent_74 (by decide) ?_
            refine rn_goto (tgt := 79) dX10_sent_75 (by decide) ?_
            refine rn_iconst (v := (1 : Int32)) dX10_sent_79 (by decide) ?_
            refine rn_inV (d' := 0) (z' := 0) [.int (1 : Int32), .int (1 : Int32)] kl_SGModel_171 dX10_sent_80 q1 hl3 rfl rfl rfl (Nat.le_of_ble_eq_true rfl) (Nat.le_of_ble_eq_true rfl) (Nat.le_of_ble_eq_true rfl) (Nat.le_of_ble_eq_true rfl) ?_
            refine rn_lv [(0, .ref o0_), (1, .int (1 : Int32)), (2, .int (1 : Int32))] rfl ?_
            refine rn_aload_n (i := 0) dX10_refuses_0 rfl rfl ?_
            refine rn_get q1 kg_SGModel_137 hl3 hx3 dX10_refuses_1 ?_
            refine rn_if_ne (tgt := 16) dX10_refuses_4 (by decide) (fun h38 => (cx_ne (cv_ne h38) rk_0 rk_0 (by decide)).elim) (fun h38 => ?_)
            refine rn_iload_n (i := 1) dX10_refuses_7 rfl rfl ?_
            refine rn_if_eq (tgt := 16) dX10_refuses_8 (by decide) (fun h39 => (cx_eq (cv_eq h39) rk_1 rk_0 (by decide)).elim) (fun h39 => ?_)
            refine rn_aload_n (i := 0) dX10_refuses_11 rfl rfl ?_
            refine rn_iload_n (i := 2) dX10_refuses_12 rfl rfl ?_
            refine rs_put q1 (kp_SGModel_137 _) hS3 hq1 hl3 hf3 hk_30 rfl rfl (tv_i (rg_w rk_1 (by decide) (by decide))) rfl rfl dX10_refuses_13 (fun w40 fs41 hS41 hl41 hf41 hx41 ho41 hn41 => ?_)
            refine rn_aload_n (i := 0) dX10_refuses_16 rfl rfl ?_
            refine rn_get q1 kg_SGModel_137 hl41 hx41 dX10_refuses_17 ?_
            refine rn_if_le (tgt := 27) dX10_refuses_20 (by decide) (fun h42 => (cx_le (cv_le h42) rk_1 rk_0 (by decide)).elim) (fun h42 => ?_)
            refine rn_iconst (v := (1 : Int32)) dX10_refuses_23 (by decide) ?_
            refine rn_goto (tgt := 28) dX10_refuses_24 (by decide) ?_
            refine rn_iret dX10_refuses_28 rfl rfl (rq_in ?_)
            refine rn_stk [.int (1 : Int32)] rfl ?_
            refine rn_if_eq (tgt := 90) dX10_sent_83 (by decide) (fun h43 => (cx_eq (cv_eq h43) rk_1 rk_0 (by decide)).elim) (fun h43 => ?_)
            refine rn_iconst (v := (0 : Int32)) dX10_sent_86 (by decide) ?_
            refine rn_goto (tgt := 106) dX10_sent_87 (by decide) ?_
            exact rn_iret dX10_sent_106 rfl rfl (rq_in ⟨hS41, (0 : Int32), rfl, (rg_w rk_0 (by decide) (by decide))⟩)
          · have ch35 := cv_nlt h35
            have r44 : Rg (0) (2147483647) x2_ := rf_ley ch35 rk_0 (rg_any x2_) (by decide)
            refine rn_iload_n (i := 0) dX10_in_5 rfl rfl ?_
            refine rn_iload_n (i := 2) dX10_in_6 rfl rfl ?_
            refine rn_icmp_gt (tgt := 14) dX10_in_7 (by decide) (fun h45 => ?_) (fun h45 => ?_)
            · have ch45 := cv_lt h45
              refine rn_iconst (v := (0 : Int32)) dX10_in_14 (by decide) ?_
              refine rn_iret dX10_in_15 rfl rfl (rq_in ?_)
              refine rn_stk [.int (0 : Int32), .ref o0_] rfl ?_
              refine rn_if_ne (tgt := 78) dX10_sent_71 (by decide) (fun h46 => (cx_ne (cv_ne h46) rk_0 rk_0 (by decide)).elim) (fun h46 => ?_)
              refine rn_iconst (v := (1 : Int32)) dX10_sent_74 (by decide) ?_
              refine rn_goto (tgt := 79) dX10_sent_75 (by decide) ?_
              refine rn_iconst (v := (1 : Int32)) dX10_sent_79 (by decide) ?_
              refine rn_inV (d' := 0) (z' := 0) [.int (1 : Int32), .int (1 : Int32)] kl_SGModel_171 dX10_sent_80 q1 hl3 rfl rfl rfl (Nat.le_of_ble_eq_true rfl) (Nat.le_of_ble_eq_true rfl) (Nat.le_of_ble_eq_true rfl) (Nat.le_of_ble_eq_true rfl) ?_
              refine rn_lv [(0, .ref o0_), (1, .int (1 : Int32)), (2, .int (1 : Int32))] rfl ?_
              refine rn_aload_n (i := 0) dX10_refuses_0 rfl rfl ?_
              refine rn_get q1 kg_SGModel_137 hl3 hx3 dX10_refuses_1 ?_
              refine rn_if_ne (tgt := 16) dX10_refuses_4 (by decide) (fun h47 => (cx_ne (cv_ne h47) rk_0 rk_0 (by decide)).elim) (fun h47 => ?_)
              refine rn_iload_n (i := 1) dX10_refuses_7 rfl rfl ?_
              refine rn_if_eq (tgt := 16) dX10_refuses_8 (by decide) (fun h48 => (cx_eq (cv_eq h48) rk_1 rk_0 (by decide)).elim) (fun h48 => ?_)
              refine rn_aload_n (i := 0) dX10_refuses_11 rfl rfl ?_
              refine rn_iload_n (i := 2) dX10_refuses_12 rfl rfl ?_
              refine rs_put q1 (kp_SGModel_137 _) hS3 hq1 hl3 hf3 hk_30 rfl rfl (tv_i (rg_w rk_1 (by decide) (by decide))) rfl rfl dX10_refuses_13 (fun w49 fs50 hS50 hl50 hf50 hx50 ho50 hn50 => ?_)
              refine rn_aload_n (i := 0) dX10_refuses_16 rfl rfl ?_
              refine rn_get q1 kg_SGModel_137 hl50 hx50 dX10_refuses_17 ?_
              refine rn_if_le (tgt := 27) dX10_refuses_20 (by decide) (fun h51 => (cx_le (cv_le h51) rk_1 rk_0 (by decide)).elim) (fun h51 => ?_)
              refine rn_iconst (v := (1 : Int32)) dX10_refuses_23 (by decide) ?_
              refine rn_goto (tgt := 28) dX10_refuses_24 (by decide) ?_
              refine rn_iret dX10_refuses_28 rfl rfl (rq_in ?_)
              refine rn_stk [.int (1 : Int32)] rfl ?_
              refine rn_if_eq (tgt := 90) dX10_sent_83 (by decide) (fun h52 => (cx_eq (cv_eq h52) rk_1 rk_0 (by decide)).elim) (fun h52 => ?_)
              refine rn_iconst (v := (0 : Int32)) dX10_sent_86 (by decide) ?_
              refine rn_goto (tgt := 106) dX10_sent_87 (by decide) ?_
              exact rn_iret dX10_sent_106 rfl rfl (rq_in ⟨hS50, (0 : Int32), rfl, (rg_w rk_0 (by decide) (by decide))⟩)
            · have ch45 := cv_nlt h45
              have r53 : Rg (0) (1499) x2_ := rf_lex ch45 r44 rv34 (by decide)
              have r54 : Rg (0) (1499) v34 := rf_ley ch45 r44 rv34 (by decide)
              refine rn_iconst (v := (1 : Int32)) dX10_in_10 (by decide) ?_
              refine rn_goto (tgt := 15) dX10_in_11 (by decide) ?_
              refine rn_iret dX10_in_15 rfl rfl (rq_in ?_)
              refine rn_stk [.int (1 : Int32), .ref o0_] rfl ?_
              refine rn_if_ne (tgt := 78) dX10_sent_71 (by decide) (fun h55 => ?_) (fun h55 => (cx_eq (cv_eq h55) rk_1 rk_0 (by decide)).elim)
              refine rn_iconst (v := (0 : Int32)) dX10_sent_78 (by decide) ?_
              refine rn_iconst (v := (1 : Int32)) dX10_sent_79 (by decide) ?_
              refine rn_inV (d' := 0) (z' := 0) [.int (0 : Int32), .int (1 : Int32)] kl_SGModel_171 dX10_sent_80 q1 hl3 rfl rfl rfl (Nat.le_of_ble_eq_true rfl) (Nat.le_of_ble_eq_true rfl) (Nat.le_of_ble_eq_true rfl) (Nat.le_of_ble_eq_true rfl) ?_
              refine rn_lv [(0, .ref o0_), (1, .int (0 : Int32)), (2, .int (1 : Int32))] rfl ?_
              refine rn_aload_n (i := 0) dX10_refuses_0 rfl rfl ?_
              refine rn_get q1 kg_SGModel_137 hl3 hx3 dX10_refuses_1 ?_
              refine rn_if_ne (tgt := 16) dX10_refuses_4 (by decide) (fun h56 => (cx_ne (cv_ne h56) rk_0 rk_0 (by decide)).elim) (fun h56 => ?_)
              refine rn_iload_n (i := 1) dX10_refuses_7 rfl rfl ?_
              refine rn_if_eq (tgt := 16) dX10_refuses_8 (by decide) (fun h57 => ?_) (fun h57 => (cx_ne (cv_ne h57) rk_0 rk_0 (by decide)).elim)
              refine rn_aload_n (i := 0) dX10_refuses_16 rfl rfl ?_
              refine rn_get q1 kg_SGModel_137 hl3 hx3 dX10_refuses_17 ?_
              refine rn_if_le (tgt := 27) dX10_refuses_20 (by decide) (fun h58 => ?_) (fun h58 => (cx_lt (cv_nle h58) rk_0 rk_0 (by decide)).elim)
              refine rn_iconst (v := (0 : Int32)) dX10_refuses_27 (by decide) ?_
              refine rn_iret dX10_refuses_28 rfl rfl (rq_in ?_)
              refine rn_stk [.int (0 : Int32)] rfl ?_
              refine rn_if_eq (tgt := 90) dX10_sent_83 (by decide) (fun h59 => ?_) (fun h59 => (cx_ne (cv_ne h59) rk_0 rk_0 (by decide)).elim)
              refine rn_aload_n (i := 0) dX10_sent_90 rfl rfl ?_
              obtain ⟨o60, hx60, m60⟩ := fs_r hf3 2 rfl
              refine rn_get q1 kg_SGModel_7 hl3 hx60 dX10_sent_91 ?_
              refine rn_sipush (v := (8800 : Int32)) dX10_sent_94 (by decide) ?_
              refine rn_sipush (v := (2200 : Int32)) dX10_sent_97 (by decide) ?_
              refine rn_iload_n (i := 1) dX10_sent_100 rfl rfl ?_
              refine rs_mulD (0) (2200) rk_2200 r23 dX10_sent_101 (by decide) (fun v61 ev61 rv61 => ?_)
              refine rs_addD (8800) (11000) rk_8800 rv61 dX10_sent_102 (by decide) (fun v62 ev62 rv62 => ?_)
              refine rn_iload_n (i := 2) dX10_sent_103 rfl rfl ?_
              refine rs_addR (8800) (12499) rv62 r53 dX10_sent_104 (by decide) (fun v63 ev63 rv63 => ?_)
              obtain ⟨q64, f64, hq64, hl64, hf64⟩ := ts_ia hS3.1 m60 hk_33
              refine rs_iald q64 hl64 hf64 rfl rv63 (by decide) (by decide) dX10_sent_105 (fun v65 ev65 rv65 => ?_)
              exact rn_iret dX10_sent_106 rfl rfl (rq_in ⟨hS3, v65, rfl, (rg_w rv65 (by decide) (by decide))⟩)
        · have ch33 := cv_eq h33
          have r66 : Rg (-2) (-2) x2_ := rf_eqx ch33 (rg_any x2_) rk_m2 (by decide) (by decide)
          refine rn_iload_n (i := 3) dX10_sent_49 rfl rfl ?_
          refine rn_if_ne (tgt := 57) dX10_sent_50 (by decide) (fun h67 => ?_) (fun h67 => ?_)
          · have ch67 := cv_ne h67
            have r68 : Rg (1) (1500) v31 := rf_nel ch67 rv31 rk_0 (by decide) (by decide)
            refine rn_aload_n (i := 0) dX10_sent_57 rfl rfl ?_
            obtain ⟨x69, hx69, rx69⟩ := fs_i hf3 35 rfl
            refine rn_get q1 kg_SGModel_92 hl3 hx69 dX10_sent_58 ?_
            exact rn_iret dX10_sent_61 rfl rfl (rq_in ⟨hS3, x69, rfl, rx69⟩)
          · have ch67 := cv_eq h67
            have r70 : Rg (0) (0) v31 := rf_eqx ch67 rv31 rk_0 (by decide) (by decide)
            refine rn_iconst (v := (-1 : Int32)) dX10_sent_53 (by decide) ?_
            refine rn_goto (tgt := 61) dX10_sent_54 (by decide) ?_
            exact rn_iret dX10_sent_61 rfl rfl (rq_in ⟨hS3, (-1 : Int32), rfl, (rg_w rk_m1 (by decide) (by decide))⟩)
      · have ch32 := cv_eq h32
        have r71 : Rg (-1) (-1) x2_ := rf_eqx ch32 (rg_any x2_) rk_m1 (by decide) (by decide)
        refine rn_iload_n (i := 3) dX10_sent_41 rfl rfl ?_
        exact rn_iret dX10_sent_42 rfl rfl (rq_in ⟨hS3, v31, rfl, (rg_w rv31 (by decide) (by decide))⟩)
abbrev q_t_X10_take (G : rn_G) (S : ts_S) (ws : va_W) : rn_R → va_W → Prop := rQ (fun v w => St G S [30, 33] ws S w ∧ (∃ x : Int32, v = some (.int x) ∧ Rg (0) (1500) x)) (fun E w => False)
set_option maxRecDepth 20000 in
set_option maxHeartbeats 4000000 in
theorem t_X10_take (G : rn_G) (S : ts_S) (ws : va_W) (hW : ts_W G S ws) (o0_ : Nat) (m0_ : (o0_, 30) ∈ S) (x1_ : Int32) : Rn G mX10_take 1 24 0 0 0 (lv_args 0 [.ref o0_, .int x1_]) [] ws (q_t_X10_take G S ws ) := by
  have hS0 : St G S [30, 33] ws S ws := St.rf hW
  refine rn_lv [(0, .ref o0_), (1, .int x1_)] rfl ?_
  refine rn_aload_n (i := 0) dX10_take_0 rfl rfl ?_
  refine rn_iconst (v := (0 : Int32)) dX10_take_1 (by decide) ?_
  obtain ⟨q1, fs1, hq1, hl1, hf1⟩ := ts_obj hS0.1 m0_ hk_30
  refine rs_put q1 (kp_SGModel_137 _) hS0 hq1 hl1 hf1 hk_30 rfl rfl (tv_i (rg_w rk_0 (by decide) (by decide))) rfl rfl dX10_take_2 (fun w2 fs3 hS3 hl3 hf3 hx3 ho3 hn3 => ?_)
  refine rn_aload_n (i := 0) dX10_take_5 rfl rfl ?_
  refine rn_iload_n (i := 1) dX10_take_6 rfl rfl ?_
  refine rn_iconst (v := (0 : Int32)) dX10_take_7 (by decide) ?_
  refine rn_iconst (v := (1 : Int32)) dX10_take_8 (by decide) ?_
  refine rn_inS (d' := 0) (z' := 0) [.int x1_, .int (0 : Int32), .int (1 : Int32)] kl_SGModel_179 dX10_take_9 rfl rfl (Nat.le_of_ble_eq_true rfl) (Nat.le_of_ble_eq_true rfl) (Nat.le_of_ble_eq_true rfl) (Nat.le_of_ble_eq_true rfl) ?_
  refine rn_lv [(0, .int x1_), (1, .int (0 : Int32)), (2, .int (1 : Int32))] rfl ?_
  refine rn_iload_n (i := 0) dX10_in_0 rfl rfl ?_
  refine rn_iload_n (i := 1) dX10_in_1 rfl rfl ?_
  refine rn_icmp_lt (tgt := 14) dX10_in_2 (by decide) (fun h4 => ?_) (fun h4 => ?_)
  · have ch4 := cv_lt h4
    have r5 : Rg (-2147483648) (-1) x1_ := rf_ltx ch4 (rg_any x1_) rk_0 (by decide)
    refine rn_iconst (v := (0 : Int32)) dX10_in_14 (by decide) ?_
    refine rn_iret dX10_in_15 rfl rfl (rq_in ?_)
    refine rn_stk [.int (0 : Int32), .ref o0_] rfl ?_
    refine rn_if_ne (tgt := 19) dX10_take_12 (by decide) (fun h6 => (cx_ne (cv_ne h6) rk_0 rk_0 (by decide)).elim) (fun h6 => ?_)
    refine rn_iconst (v := (1 : Int32)) dX10_take_15 (by decide) ?_
    refine rn_goto (tgt := 20) dX10_take_16 (by decide) ?_
    refine rn_iconst (v := (1 : Int32)) dX10_take_20 (by decide) ?_
    refine rn_inV (d' := 0) (z' := 0) [.int (1 : Int32), .int (1 : Int32)] kl_SGModel_171 dX10_take_21 q1 hl3 rfl rfl rfl (Nat.le_of_ble_eq_true rfl) (Nat.le_of_ble_eq_true rfl) (Nat.le_of_ble_eq_true rfl) (Nat.le_of_ble_eq_true rfl) ?_
    refine rn_lv [(0, .ref o0_), (1, .int (1 : Int32)), (2, .int (1 : Int32))] rfl ?_
    refine rn_aload_n (i := 0) dX10_refuses_0 rfl rfl ?_
    refine rn_get q1 kg_SGModel_137 hl3 hx3 dX10_refuses_1 ?_
    refine rn_if_ne (tgt := 16) dX10_refuses_4 (by decide) (fun h7 => (cx_ne (cv_ne h7) rk_0 rk_0 (by decide)).elim) (fun h7 => ?_)
    refine rn_iload_n (i := 1) dX10_refuses_7 rfl rfl ?_
    refine rn_if_eq (tgt := 16) dX10_refuses_8 (by decide) (fun h8 => (cx_eq (cv_eq h8) rk_1 rk_0 (by decide)).elim) (fun h8 => ?_)
    refine rn_aload_n (i := 0) dX10_refuses_11 rfl rfl ?_
    refine rn_iload_n (i := 2) dX10_refuses_12 rfl rfl ?_
    refine rs_put q1 (kp_SGModel_137 _) hS3 hq1 hl3 hf3 hk_30 rfl rfl (tv_i (rg_w rk_1 (by decide) (by decide))) rfl rfl dX10_refuses_13 (fun w9 fs10 hS10 hl10 hf10 hx10 ho10 hn10 => ?_)
    refine rn_aload_n (i := 0) dX10_refuses_16 rfl rfl ?_
    refine rn_get q1 kg_SGModel_137 hl10 hx10 dX10_refuses_17 ?_
    refine rn_if_le (tgt := 27) dX10_refuses_20 (by decide) (fun h11 => (cx_le (cv_le h11) rk_1 rk_0 (by decide)).elim) (fun h11 => ?_)
    refine rn_iconst (v := (1 : Int32)) dX10_refuses_23 (by decide) ?_
    refine rn_goto (tgt := 28) dX10_refuses_24 (by decide) ?_
    refine rn_iret dX10_refuses_28 rfl rfl (rq_in ?_)
    refine rn_stk [.int (1 : Int32)] rfl ?_
    refine rn_if_ne (tgt := 49) dX10_take_24 (by decide) (fun h12 => ?_) (fun h12 => (cx_eq (cv_eq h12) rk_1 rk_0 (by decide)).elim)
    refine rn_iconst (v := (0 : Int32)) dX10_take_49 (by decide) ?_
    exact rn_iret dX10_take_50 rfl rfl (rq_in ⟨hS10, (0 : Int32), rfl, (rg_w rk_0 (by decide) (by decide))⟩)
  · have ch4 := cv_nlt h4
    have r13 : Rg (0) (2147483647) x1_ := rf_ley ch4 rk_0 (rg_any x1_) (by decide)
    refine rn_iload_n (i := 0) dX10_in_5 rfl rfl ?_
    refine rn_iload_n (i := 2) dX10_in_6 rfl rfl ?_
    refine rn_icmp_gt (tgt := 14) dX10_in_7 (by decide) (fun h14 => ?_) (fun h14 => ?_)
    · have ch14 := cv_lt h14
      have r15 : Rg (2) (2147483647) x1_ := rf_lty ch14 rk_1 r13 (by decide)
      refine rn_iconst (v := (0 : Int32)) dX10_in_14 (by decide) ?_
      refine rn_iret dX10_in_15 rfl rfl (rq_in ?_)
      refine rn_stk [.int (0 : Int32), .ref o0_] rfl ?_
      refine rn_if_ne (tgt := 19) dX10_take_12 (by decide) (fun h16 => (cx_ne (cv_ne h16) rk_0 rk_0 (by decide)).elim) (fun h16 => ?_)
      refine rn_iconst (v := (1 : Int32)) dX10_take_15 (by decide) ?_
      refine rn_goto (tgt := 20) dX10_take_16 (by decide) ?_
      refine rn_iconst (v := (1 : Int32)) dX10_take_20 (by decide) ?_
      refine rn_inV (d' := 0) (z' := 0) [.int (1 : Int32), .int (1 : Int32)] kl_SGModel_171 dX10_take_21 q1 hl3 rfl rfl rfl (Nat.le_of_ble_eq_true rfl) (Nat.le_of_ble_eq_true rfl) (Nat.le_of_ble_eq_true rfl) (Nat.le_of_ble_eq_true rfl) ?_
      refine rn_lv [(0, .ref o0_), (1, .int (1 : Int32)), (2, .int (1 : Int32))] rfl ?_
      refine rn_aload_n (i := 0) dX10_refuses_0 rfl rfl ?_
      refine rn_get q1 kg_SGModel_137 hl3 hx3 dX10_refuses_1 ?_
      refine rn_if_ne (tgt := 16) dX10_refuses_4 (by decide) (fun h17 => (cx_ne (cv_ne h17) rk_0 rk_0 (by decide)).elim) (fun h17 => ?_)
      refine rn_iload_n (i := 1) dX10_refuses_7 rfl rfl ?_
      refine rn_if_eq (tgt := 16) dX10_refuses_8 (by decide) (fun h18 => (cx_eq (cv_eq h18) rk_1 rk_0 (by decide)).elim) (fun h18 => ?_)
      refine rn_aload_n (i := 0) dX10_refuses_11 rfl rfl ?_
      refine rn_iload_n (i := 2) dX10_refuses_12 rfl rfl ?_
      refine rs_put q1 (kp_SGModel_137 _) hS3 hq1 hl3 hf3 hk_30 rfl rfl (tv_i (rg_w rk_1 (by decide) (by decide))) rfl rfl dX10_refuses_13 (fun w19 fs20 hS20 hl20 hf20 hx20 ho20 hn20 => ?_)
      refine rn_aload_n (i := 0) dX10_refuses_16 rfl rfl ?_
      refine rn_get q1 kg_SGModel_137 hl20 hx20 dX10_refuses_17 ?_
      refine rn_if_le (tgt := 27) dX10_refuses_20 (by decide) (fun h21 => (cx_le (cv_le h21) rk_1 rk_0 (by decide)).elim) (fun h21 => ?_)
      refine rn_iconst (v := (1 : Int32)) dX10_refuses_23 (by decide) ?_
      refine rn_goto (tgt := 28) dX10_refuses_24 (by decide) ?_
      refine rn_iret dX10_refuses_28 rfl rfl (rq_in ?_)
      refine rn_stk [.int (1 : Int32)] rfl ?_
      refine rn_if_ne (tgt := 49) dX10_take_24 (by decide) (fun h22 => ?_) (fun h22 => (cx_eq (cv_eq h22) rk_1 rk_0 (by decide)).elim)
      refine rn_iconst (v := (0 : Int32)) dX10_take_49 (by decide) ?_
      exact rn_iret dX10_take_50 rfl rfl (rq_in ⟨hS20, (0 : Int32), rfl, (rg_w rk_0 (by decide) (by decide))⟩)
    · have ch14 := cv_nlt h14
      have r23 : Rg (0) (1) x1_ := rf_lex ch14 r13 rk_1 (by decide)
      refine rn_iconst (v := (1 : Int32)) dX10_in_10 (by decide) ?_
      refine rn_goto (tgt := 15) dX10_in_11 (by decide) ?_
      refine rn_iret dX10_in_15 rfl rfl (rq_in ?_)
      refine rn_stk [.int (1 : Int32), .ref o0_] rfl ?_
      refine rn_if_ne (tgt := 19) dX10_take_12 (by decide) (fun h24 => ?_) (fun h24 => (cx_eq (cv_eq h24) rk_1 rk_0 (by decide)).elim)
      refine rn_iconst (v := (0 : Int32)) dX10_take_19 (by decide) ?_
      refine rn_iconst (v := (1 : Int32)) dX10_take_20 (by decide) ?_
      refine rn_inV (d' := 0) (z' := 0) [.int (0 : Int32), .int (1 : Int32)] kl_SGModel_171 dX10_take_21 q1 hl3 rfl rfl rfl (Nat.le_of_ble_eq_true rfl) (Nat.le_of_ble_eq_true rfl) (Nat.le_of_ble_eq_true rfl) (Nat.le_of_ble_eq_true rfl) ?_
      refine rn_lv [(0, .ref o0_), (1, .int (0 : Int32)), (2, .int (1 : Int32))] rfl ?_
      refine rn_aload_n (i := 0) dX10_refuses_0 rfl rfl ?_
      refine rn_get q1 kg_SGModel_137 hl3 hx3 dX10_refuses_1 ?_
      refine rn_if_ne (tgt := 16) dX10_refuses_4 (by decide) (fun h25 => (cx_ne (cv_ne h25) rk_0 rk_0 (by decide)).elim) (fun h25 => ?_)
      refine rn_iload_n (i := 1) dX10_refuses_7 rfl rfl ?_
      refine rn_if_eq (tgt := 16) dX10_refuses_8 (by decide) (fun h26 => ?_) (fun h26 => (cx_ne (cv_ne h26) rk_0 rk_0 (by decide)).elim)
      refine rn_aload_n (i := 0) dX10_refuses_16 rfl rfl ?_
      refine rn_get q1 kg_SGModel_137 hl3 hx3 dX10_refuses_17 ?_
      refine rn_if_le (tgt := 27) dX10_refuses_20 (by decide) (fun h27 => ?_) (fun h27 => (cx_lt (cv_nle h27) rk_0 rk_0 (by decide)).elim)
      refine rn_iconst (v := (0 : Int32)) dX10_refuses_27 (by decide) ?_
      refine rn_iret dX10_refuses_28 rfl rfl (rq_in ?_)
      refine rn_stk [.int (0 : Int32)] rfl ?_
      refine rn_if_ne (tgt := 49) dX10_take_24 (by decide) (fun h28 => (cx_ne (cv_ne h28) rk_0 rk_0 (by decide)).elim) (fun h28 => ?_)
      refine rn_aload_n (i := 0) dX10_take_27 rfl rfl ?_
      refine rn_aload_n (i := 0) dX10_take_28 rfl rfl ?_
      obtain ⟨o29, hx29, m29⟩ := fs_r hf3 34 rfl
      refine rn_get q1 kg_SGModel_89 hl3 hx29 dX10_take_29 ?_
      refine rn_iload_n (i := 1) dX10_take_32 rfl rfl ?_
      obtain ⟨q30, f30, hq30, hl30, hf30⟩ := ts_ia hS3.1 m29 hk_65
      refine rs_iald q30 hl30 hf30 rfl r23 (by decide) (by decide) dX10_take_33 (fun v31 ev31 rv31 => ?_)
      refine rn_if_ne (tgt := 41) dX10_take_34 (by decide) (fun h32 => ?_) (fun h32 => ?_)
      · have ch32 := cv_ne h32
        have r33 : Rg (1) (1500) v31 := rf_nel ch32 rv31 rk_0 (by decide) (by decide)
        refine rn_iconst (v := (0 : Int32)) dX10_take_41 (by decide) ?_
        refine rn_iconst (v := (2 : Int32)) dX10_take_42 (by decide) ?_
        refine rn_inV (d' := 0) (z' := 0) [.int (0 : Int32), .int (2 : Int32)] kl_SGModel_171 dX10_take_43 q1 hl3 rfl rfl rfl (Nat.le_of_ble_eq_true rfl) (Nat.le_of_ble_eq_true rfl) (Nat.le_of_ble_eq_true rfl) (Nat.le_of_ble_eq_true rfl) ?_
        refine rn_lv [(0, .ref o0_), (1, .int (0 : Int32)), (2, .int (2 : Int32))] rfl ?_
        refine rn_aload_n (i := 0) dX10_refuses_0 rfl rfl ?_
        refine rn_get q1 kg_SGModel_137 hl3 hx3 dX10_refuses_1 ?_
        refine rn_if_ne (tgt := 16) dX10_refuses_4 (by decide) (fun h34 => (cx_ne (cv_ne h34) rk_0 rk_0 (by decide)).elim) (fun h34 => ?_)
        refine rn_iload_n (i := 1) dX10_refuses_7 rfl rfl ?_
        refine rn_if_eq (tgt := 16) dX10_refuses_8 (by decide) (fun h35 => ?_) (fun h35 => (cx_ne (cv_ne h35) rk_0 rk_0 (by decide)).elim)
        refine rn_aload_n (i := 0) dX10_refuses_16 rfl rfl ?_
        refine rn_get q1 kg_SGModel_137 hl3 hx3 dX10_refuses_17 ?_
        refine rn_if_le (tgt := 27) dX10_refuses_20 (by decide) (fun h36 => ?_) (fun h36 => (cx_lt (cv_nle h36) rk_0 rk_0 (by decide)).elim)
        refine rn_iconst (v := (0 : Int32)) dX10_refuses_27 (by decide) ?_
        refine rn_iret dX10_refuses_28 rfl rfl (rq_in ?_)
        refine rn_stk [.int (0 : Int32)] rfl ?_
        refine rn_if_eq (tgt := 51) dX10_take_46 (by decide) (fun h37 => ?_) (fun h37 => (cx_ne (cv_ne h37) rk_0 rk_0 (by decide)).elim)
        refine rn_aload_n (i := 0) dX10_take_51 rfl rfl ?_
        refine rn_aload_n (i := 0) dX10_take_52 rfl rfl ?_
        refine rn_get q1 kg_SGModel_89 hl3 hx29 dX10_take_53 ?_
        refine rn_iload_n (i := 1) dX10_take_56 rfl rfl ?_
        refine rs_iald q30 hl30 hf30 rfl r23 (by decide) (by decide) dX10_take_57 (fun v38 ev38 rv38 => ?_)
        refine rs_put q1 (kp_SGModel_168 _) hS3 hq1 hl3 hf3 hk_30 rfl rfl (tv_i (rg_w rv38 (by decide) (by decide))) rfl rfl dX10_take_58 (fun w39 fs40 hS40 hl40 hf40 hx40 ho40 hn40 => ?_)
        refine rn_aload_n (i := 0) dX10_take_61 rfl rfl ?_
        refine rn_sipush (v := (8800 : Int32)) dX10_take_62 (by decide) ?_
        refine rn_sipush (v := (2200 : Int32)) dX10_take_65 (by decide) ?_
        refine rn_iload_n (i := 1) dX10_take_68 rfl rfl ?_
        refine rs_mulD (0) (2200) rk_2200 r23 dX10_take_69 (by decide) (fun v41 ev41 rv41 => ?_)
        refine rs_addD (8800) (11000) rk_8800 rv41 dX10_take_70 (by decide) (fun v42 ev42 rv42 => ?_)
        refine rn_iconst (v := (0 : Int32)) dX10_take_71 (by decide) ?_
        refine rn_aload_n (i := 0) dX10_take_72 rfl rfl ?_
        refine rn_get q1 kg_SGModel_168 hl40 hx40 dX10_take_73 ?_
        refine rn_callV (a := 0) (b := 0) [.int v42, .int (0 : Int32), .int v38] kl_SGModel_235 dX10_take_76 q1 hl40 rfl (t_X10_move G S w39 hS40.1 o0_ m0_ v42 (0 : Int32) v38 ⟨by have := rv38.1; have := rv38.2; have := rk_0.1; have := rk_0.2; have := rv42.1; have := rv42.2; have := rv41.1; have := rv41.2; have := r23.1; have := r23.2; have := rk_2200.1; have := rk_2200.2; have := rk_8800.1; have := rk_8800.2; omega, by have := rv38.1; have := rv38.2; have := rk_0.1; have := rk_0.2; have := rv42.1; have := rv42.2; have := rv41.1; have := rv41.2; have := r23.1; have := r23.2; have := rk_2200.1; have := rk_2200.2; have := rk_8800.1; have := rk_8800.2; omega, by have := rv38.1; have := rv38.2; have := rk_0.1; have := rk_0.2; have := rv42.1; have := rv42.2; have := rv41.1; have := rv41.2; have := r23.1; have := r23.2; have := rk_2200.1; have := rk_2200.2; have := rk_8800.1; have := rk_8800.2; omega, by have := rv38.1; have := rv38.2; have := rk_0.1; have := rk_0.2; have := rv42.1; have := rv42.2; have := rv41.1; have := rv41.2; have := r23.1; have := r23.2; have := rk_2200.1; have := rk_2200.2; have := rk_8800.1; have := rk_8800.2; omega⟩) rfl rfl (Nat.le_of_ble_eq_true rfl) (Nat.le_of_ble_eq_true rfl) (Nat.le_of_ble_eq_true rfl) (Nat.le_of_ble_eq_true rfl) (Nat.le_of_ble_eq_true rfl) (Nat.le_of_ble_eq_true rfl) (fun _ _ h => False.elim h) (fun v9 w43 h44 => ?_)
        obtain ⟨hT45, rfl, xah44⟩ := h44
        have hS45 := St.tr hS40 hT45 rfl
        refine rn_stk [] rfl ?_
        refine rn_aload_n (i := 0) dX10_take_79 rfl rfl ?_
        refine rn_get q1 kg_SGModel_168 (hT45.fr hq1 rfl hl40) hx40 dX10_take_80 ?_
        exact rn_iret dX10_take_83 rfl rfl (rq_in ⟨hS45, v38, rfl, rv38⟩)
      · have ch32 := cv_eq h32
        have r46 : Rg (0) (0) v31 := rf_eqx ch32 rv31 rk_0 (by decide) (by decide)
        refine rn_iconst (v := (1 : Int32)) dX10_take_37 (by decide) ?_
        refine rn_goto (tgt := 42) dX10_take_38 (by decide) ?_
        refine rn_iconst (v := (2 : Int32)) dX10_take_42 (by decide) ?_
        refine rn_inV (d' := 0) (z' := 0) [.int (1 : Int32), .int (2 : Int32)] kl_SGModel_171 dX10_take_43 q1 hl3 rfl rfl rfl (Nat.le_of_ble_eq_true rfl) (Nat.le_of_ble_eq_true rfl) (Nat.le_of_ble_eq_true rfl) (Nat.le_of_ble_eq_true rfl) ?_
        refine rn_lv [(0, .ref o0_), (1, .int (1 : Int32)), (2, .int (2 : Int32))] rfl ?_
        refine rn_aload_n (i := 0) dX10_refuses_0 rfl rfl ?_
        refine rn_get q1 kg_SGModel_137 hl3 hx3 dX10_refuses_1 ?_
        refine rn_if_ne (tgt := 16) dX10_refuses_4 (by decide) (fun h47 => (cx_ne (cv_ne h47) rk_0 rk_0 (by decide)).elim) (fun h47 => ?_)
        refine rn_iload_n (i := 1) dX10_refuses_7 rfl rfl ?_
        refine rn_if_eq (tgt := 16) dX10_refuses_8 (by decide) (fun h48 => (cx_eq (cv_eq h48) rk_1 rk_0 (by decide)).elim) (fun h48 => ?_)
        refine rn_aload_n (i := 0) dX10_refuses_11 rfl rfl ?_
        refine rn_iload_n (i := 2) dX10_refuses_12 rfl rfl ?_
        refine rs_put q1 (kp_SGModel_137 _) hS3 hq1 hl3 hf3 hk_30 rfl rfl (tv_i (rg_w rk_2 (by decide) (by decide))) rfl rfl dX10_refuses_13 (fun w49 fs50 hS50 hl50 hf50 hx50 ho50 hn50 => ?_)
        refine rn_aload_n (i := 0) dX10_refuses_16 rfl rfl ?_
        refine rn_get q1 kg_SGModel_137 hl50 hx50 dX10_refuses_17 ?_
        refine rn_if_le (tgt := 27) dX10_refuses_20 (by decide) (fun h51 => (cx_le (cv_le h51) rk_2 rk_0 (by decide)).elim) (fun h51 => ?_)
        refine rn_iconst (v := (1 : Int32)) dX10_refuses_23 (by decide) ?_
        refine rn_goto (tgt := 28) dX10_refuses_24 (by decide) ?_
        refine rn_iret dX10_refuses_28 rfl rfl (rq_in ?_)
        refine rn_stk [.int (1 : Int32)] rfl ?_
        refine rn_if_eq (tgt := 51) dX10_take_46 (by decide) (fun h52 => (cx_eq (cv_eq h52) rk_1 rk_0 (by decide)).elim) (fun h52 => ?_)
        refine rn_iconst (v := (0 : Int32)) dX10_take_49 (by decide) ?_
        exact rn_iret dX10_take_50 rfl rfl (rq_in ⟨hS50, (0 : Int32), rfl, (rg_w rk_0 (by decide) (by decide))⟩)
abbrev q_t_X10_told (G : rn_G) (S : ts_S) (ws : va_W) : rn_R → va_W → Prop := rQ (fun v w => St G S [30] ws S w ∧ (∃ x : Int32, v = some (.int x) ∧ Rg (-2147483648) (2147483647) x)) (fun E w => False)
set_option maxRecDepth 20000 in
set_option maxHeartbeats 4000000 in
theorem t_X10_told (G : rn_G) (S : ts_S) (ws : va_W) (hW : ts_W G S ws) (o0_ : Nat) (m0_ : (o0_, 30) ∈ S) (x1_ : Int32) (x2_ : Int32) : Rn G mX10_told 1 22 0 0 0 (lv_args 0 [.ref o0_, .int x1_, .int x2_]) [] ws (q_t_X10_told G S ws ) := by
  have hS0 : St G S [30] ws S ws := St.rf hW
  refine rn_lv [(0, .ref o0_), (1, .int x1_), (2, .int x2_)] rfl ?_
  refine rn_aload_n (i := 0) dX10_told_0 rfl rfl ?_
  refine rn_iconst (v := (0 : Int32)) dX10_told_1 (by decide) ?_
  obtain ⟨q1, fs1, hq1, hl1, hf1⟩ := ts_obj hS0.1 m0_ hk_30
  refine rs_put q1 (kp_SGModel_137 _) hS0 hq1 hl1 hf1 hk_30 rfl rfl (tv_i (rg_w rk_0 (by decide) (by decide))) rfl rfl dX10_told_2 (fun w2 fs3 hS3 hl3 hf3 hx3 ho3 hn3 => ?_)
  refine rn_aload_n (i := 0) dX10_told_5 rfl rfl ?_
  refine rn_iload_n (i := 1) dX10_told_6 rfl rfl ?_
  refine rn_iconst (v := (0 : Int32)) dX10_told_7 (by decide) ?_
  refine rn_aload_n (i := 0) dX10_told_8 rfl rfl ?_
  obtain ⟨x4, hx4, rx4⟩ := fs_i hf3 22 rfl
  refine rn_get q1 kg_SGModel_200 hl3 hx4 dX10_told_9 ?_
  refine rn_iconst (v := (1 : Int32)) dX10_told_12 (by decide) ?_
  refine rs_subC (-1) (15) rx4 rk_1 dX10_told_13 (by decide) (fun v5 ev5 rv5 => ?_)
  refine rn_inS (d' := 0) (z' := 0) [.int x1_, .int (0 : Int32), .int v5] kl_SGModel_179 dX10_told_14 rfl rfl (Nat.le_of_ble_eq_true rfl) (Nat.le_of_ble_eq_true rfl) (Nat.le_of_ble_eq_true rfl) (Nat.le_of_ble_eq_true rfl) ?_
  refine rn_lv [(0, .int x1_), (1, .int (0 : Int32)), (2, .int v5)] rfl ?_
  refine rn_iload_n (i := 0) dX10_in_0 rfl rfl ?_
  refine rn_iload_n (i := 1) dX10_in_1 rfl rfl ?_
  refine rn_icmp_lt (tgt := 14) dX10_in_2 (by decide) (fun h6 => ?_) (fun h6 => ?_)
  · have ch6 := cv_lt h6
    have r7 : Rg (-2147483648) (-1) x1_ := rf_ltx ch6 (rg_any x1_) rk_0 (by decide)
    refine rn_iconst (v := (0 : Int32)) dX10_in_14 (by decide) ?_
    refine rn_iret dX10_in_15 rfl rfl (rq_in ?_)
    refine rn_stk [.int (0 : Int32), .ref o0_] rfl ?_
    refine rn_if_eq (tgt := 29) dX10_told_17 (by decide) (fun h8 => ?_) (fun h8 => (cx_ne (cv_ne h8) rk_0 rk_0 (by decide)).elim)
    refine rn_iconst (v := (1 : Int32)) dX10_told_29 (by decide) ?_
    refine rn_goto (tgt := 34) dX10_told_30 (by decide) ?_
    refine rn_iconst (v := (1 : Int32)) dX10_told_34 (by decide) ?_
    refine rn_inV (d' := 0) (z' := 0) [.int (1 : Int32), .int (1 : Int32)] kl_SGModel_171 dX10_told_35 q1 hl3 rfl rfl rfl (Nat.le_of_ble_eq_true rfl) (Nat.le_of_ble_eq_true rfl) (Nat.le_of_ble_eq_true rfl) (Nat.le_of_ble_eq_true rfl) ?_
    refine rn_lv [(0, .ref o0_), (1, .int (1 : Int32)), (2, .int (1 : Int32))] rfl ?_
    refine rn_aload_n (i := 0) dX10_refuses_0 rfl rfl ?_
    refine rn_get q1 kg_SGModel_137 hl3 hx3 dX10_refuses_1 ?_
    refine rn_if_ne (tgt := 16) dX10_refuses_4 (by decide) (fun h9 => (cx_ne (cv_ne h9) rk_0 rk_0 (by decide)).elim) (fun h9 => ?_)
    refine rn_iload_n (i := 1) dX10_refuses_7 rfl rfl ?_
    refine rn_if_eq (tgt := 16) dX10_refuses_8 (by decide) (fun h10 => (cx_eq (cv_eq h10) rk_1 rk_0 (by decide)).elim) (fun h10 => ?_)
    refine rn_aload_n (i := 0) dX10_refuses_11 rfl rfl ?_
    refine rn_iload_n (i := 2) dX10_refuses_12 rfl rfl ?_
    refine rs_put q1 (kp_SGModel_137 _) hS3 hq1 hl3 hf3 hk_30 rfl rfl (tv_i (rg_w rk_1 (by decide) (by decide))) rfl rfl dX10_refuses_13 (fun w11 fs12 hS12 hl12 hf12 hx12 ho12 hn12 => ?_)
    refine rn_aload_n (i := 0) dX10_refuses_16 rfl rfl ?_
    refine rn_get q1 kg_SGModel_137 hl12 hx12 dX10_refuses_17 ?_
    refine rn_if_le (tgt := 27) dX10_refuses_20 (by decide) (fun h13 => (cx_le (cv_le h13) rk_1 rk_0 (by decide)).elim) (fun h13 => ?_)
    refine rn_iconst (v := (1 : Int32)) dX10_refuses_23 (by decide) ?_
    refine rn_goto (tgt := 28) dX10_refuses_24 (by decide) ?_
    refine rn_iret dX10_refuses_28 rfl rfl (rq_in ?_)
    refine rn_stk [.int (1 : Int32)] rfl ?_
    refine rn_if_eq (tgt := 43) dX10_told_38 (by decide) (fun h14 => (cx_eq (cv_eq h14) rk_1 rk_0 (by decide)).elim) (fun h14 => ?_)
    refine rn_iconst (v := (0 : Int32)) dX10_told_41 (by decide) ?_
    exact rn_iret dX10_told_42 rfl rfl (rq_in ⟨hS12, (0 : Int32), rfl, (rg_w rk_0 (by decide) (by decide))⟩)
  · have ch6 := cv_nlt h6
    have r15 : Rg (0) (2147483647) x1_ := rf_ley ch6 rk_0 (rg_any x1_) (by decide)
    refine rn_iload_n (i := 0) dX10_in_5 rfl rfl ?_
    refine rn_iload_n (i := 2) dX10_in_6 rfl rfl ?_
    refine rn_icmp_gt (tgt := 14) dX10_in_7 (by decide) (fun h16 => ?_) (fun h16 => ?_)
    · have ch16 := cv_lt h16
      refine rn_iconst (v := (0 : Int32)) dX10_in_14 (by decide) ?_
      refine rn_iret dX10_in_15 rfl rfl (rq_in ?_)
      refine rn_stk [.int (0 : Int32), .ref o0_] rfl ?_
      refine rn_if_eq (tgt := 29) dX10_told_17 (by decide) (fun h17 => ?_) (fun h17 => (cx_ne (cv_ne h17) rk_0 rk_0 (by decide)).elim)
      refine rn_iconst (v := (1 : Int32)) dX10_told_29 (by decide) ?_
      refine rn_goto (tgt := 34) dX10_told_30 (by decide) ?_
      refine rn_iconst (v := (1 : Int32)) dX10_told_34 (by decide) ?_
      refine rn_inV (d' := 0) (z' := 0) [.int (1 : Int32), .int (1 : Int32)] kl_SGModel_171 dX10_told_35 q1 hl3 rfl rfl rfl (Nat.le_of_ble_eq_true rfl) (Nat.le_of_ble_eq_true rfl) (Nat.le_of_ble_eq_true rfl) (Nat.le_of_ble_eq_true rfl) ?_
      refine rn_lv [(0, .ref o0_), (1, .int (1 : Int32)), (2, .int (1 : Int32))] rfl ?_
      refine rn_aload_n (i := 0) dX10_refuses_0 rfl rfl ?_
      refine rn_get q1 kg_SGModel_137 hl3 hx3 dX10_refuses_1 ?_
      refine rn_if_ne (tgt := 16) dX10_refuses_4 (by decide) (fun h18 => (cx_ne (cv_ne h18) rk_0 rk_0 (by decide)).elim) (fun h18 => ?_)
      refine rn_iload_n (i := 1) dX10_refuses_7 rfl rfl ?_
      refine rn_if_eq (tgt := 16) dX10_refuses_8 (by decide) (fun h19 => (cx_eq (cv_eq h19) rk_1 rk_0 (by decide)).elim) (fun h19 => ?_)
      refine rn_aload_n (i := 0) dX10_refuses_11 rfl rfl ?_
      refine rn_iload_n (i := 2) dX10_refuses_12 rfl rfl ?_
      refine rs_put q1 (kp_SGModel_137 _) hS3 hq1 hl3 hf3 hk_30 rfl rfl (tv_i (rg_w rk_1 (by decide) (by decide))) rfl rfl dX10_refuses_13 (fun w20 fs21 hS21 hl21 hf21 hx21 ho21 hn21 => ?_)
      refine rn_aload_n (i := 0) dX10_refuses_16 rfl rfl ?_
      refine rn_get q1 kg_SGModel_137 hl21 hx21 dX10_refuses_17 ?_
      refine rn_if_le (tgt := 27) dX10_refuses_20 (by decide) (fun h22 => (cx_le (cv_le h22) rk_1 rk_0 (by decide)).elim) (fun h22 => ?_)
      refine rn_iconst (v := (1 : Int32)) dX10_refuses_23 (by decide) ?_
      refine rn_goto (tgt := 28) dX10_refuses_24 (by decide) ?_
      refine rn_iret dX10_refuses_28 rfl rfl (rq_in ?_)
      refine rn_stk [.int (1 : Int32)] rfl ?_
      refine rn_if_eq (tgt := 43) dX10_told_38 (by decide) (fun h23 => (cx_eq (cv_eq h23) rk_1 rk_0 (by decide)).elim) (fun h23 => ?_)
      refine rn_iconst (v := (0 : Int32)) dX10_told_41 (by decide) ?_
      exact rn_iret dX10_told_42 rfl rfl (rq_in ⟨hS21, (0 : Int32), rfl, (rg_w rk_0 (by decide) (by decide))⟩)
    · have ch16 := cv_nlt h16
      have r24 : Rg (0) (15) x1_ := rf_lex ch16 r15 rv5 (by decide)
      have r25 : Rg (0) (15) v5 := rf_ley ch16 r15 rv5 (by decide)
      refine rn_iconst (v := (1 : Int32)) dX10_in_10 (by decide) ?_
      refine rn_goto (tgt := 15) dX10_in_11 (by decide) ?_
      refine rn_iret dX10_in_15 rfl rfl (rq_in ?_)
      refine rn_stk [.int (1 : Int32), .ref o0_] rfl ?_
      refine rn_if_eq (tgt := 29) dX10_told_17 (by decide) (fun h26 => (cx_eq (cv_eq h26) rk_1 rk_0 (by decide)).elim) (fun h26 => ?_)
      refine rn_iload_n (i := 2) dX10_told_20 rfl rfl ?_
      refine rn_iconst (v := (0 : Int32)) dX10_told_21 (by decide) ?_
      refine rn_iconst (v := (5 : Int32)) dX10_told_22 (by decide) ?_
      refine rn_inS (d' := 0) (z' := 0) [.int x2_, .int (0 : Int32), .int (5 : Int32)] kl_SGModel_179 dX10_told_23 rfl rfl (Nat.le_of_ble_eq_true rfl) (Nat.le_of_ble_eq_true rfl) (Nat.le_of_ble_eq_true rfl) (Nat.le_of_ble_eq_true rfl) ?_
      refine rn_lv [(0, .int x2_), (1, .int (0 : Int32)), (2, .int (5 : Int32))] rfl ?_
      refine rn_iload_n (i := 0) dX10_in_0 rfl rfl ?_
      refine rn_iload_n (i := 1) dX10_in_1 rfl rfl ?_
      refine rn_icmp_lt (tgt := 14) dX10_in_2 (by decide) (fun h27 => ?_) (fun h27 => ?_)
      · have ch27 := cv_lt h27
        have r28 : Rg (-2147483648) (-1) x2_ := rf_ltx ch27 (rg_any x2_) rk_0 (by decide)
        refine rn_iconst (v := (0 : Int32)) dX10_in_14 (by decide) ?_
        refine rn_iret dX10_in_15 rfl rfl (rq_in ?_)
        refine rn_stk [.int (0 : Int32), .ref o0_] rfl ?_
        refine rn_if_ne (tgt := 33) dX10_told_26 (by decide) (fun h29 => (cx_ne (cv_ne h29) rk_0 rk_0 (by decide)).elim) (fun h29 => ?_)
        refine rn_iconst (v := (1 : Int32)) dX10_told_29 (by decide) ?_
        refine rn_goto (tgt := 34) dX10_told_30 (by decide) ?_
        refine rn_iconst (v := (1 : Int32)) dX10_told_34 (by decide) ?_
        refine rn_inV (d' := 0) (z' := 0) [.int (1 : Int32), .int (1 : Int32)] kl_SGModel_171 dX10_told_35 q1 hl3 rfl rfl rfl (Nat.le_of_ble_eq_true rfl) (Nat.le_of_ble_eq_true rfl) (Nat.le_of_ble_eq_true rfl) (Nat.le_of_ble_eq_true rfl) ?_
        refine rn_lv [(0, .ref o0_), (1, .int (1 : Int32)), (2, .int (1 : Int32))] rfl ?_
        refine rn_aload_n (i := 0) dX10_refuses_0 rfl rfl ?_
        refine rn_get q1 kg_SGModel_137 hl3 hx3 dX10_refuses_1 ?_
        refine rn_if_ne (tgt := 16) dX10_refuses_4 (by decide) (fun h30 => (cx_ne (cv_ne h30) rk_0 rk_0 (by decide)).elim) (fun h30 => ?_)
        refine rn_iload_n (i := 1) dX10_refuses_7 rfl rfl ?_
        refine rn_if_eq (tgt := 16) dX10_refuses_8 (by decide) (fun h31 => (cx_eq (cv_eq h31) rk_1 rk_0 (by decide)).elim) (fun h31 => ?_)
        refine rn_aload_n (i := 0) dX10_refuses_11 rfl rfl ?_
        refine rn_iload_n (i := 2) dX10_refuses_12 rfl rfl ?_
        refine rs_put q1 (kp_SGModel_137 _) hS3 hq1 hl3 hf3 hk_30 rfl rfl (tv_i (rg_w rk_1 (by decide) (by decide))) rfl rfl dX10_refuses_13 (fun w32 fs33 hS33 hl33 hf33 hx33 ho33 hn33 => ?_)
        refine rn_aload_n (i := 0) dX10_refuses_16 rfl rfl ?_
        refine rn_get q1 kg_SGModel_137 hl33 hx33 dX10_refuses_17 ?_
        refine rn_if_le (tgt := 27) dX10_refuses_20 (by decide) (fun h34 => (cx_le (cv_le h34) rk_1 rk_0 (by decide)).elim) (fun h34 => ?_)
        refine rn_iconst (v := (1 : Int32)) dX10_refuses_23 (by decide) ?_
        refine rn_goto (tgt := 28) dX10_refuses_24 (by decide) ?_
        refine rn_iret dX10_refuses_28 rfl rfl (rq_in ?_)
        refine rn_stk [.int (1 : Int32)] rfl ?_
        refine rn_if_eq (tgt := 43) dX10_told_38 (by decide) (fun h35 => (cx_eq (cv_eq h35) rk_1 rk_0 (by decide)).elim) (fun h35 => ?_)
        refine rn_iconst (v := (0 : Int32)) dX10_told_41 (by decide) ?_
        exact rn_iret dX10_told_42 rfl rfl (rq_in ⟨hS33, (0 : Int32), rfl, (rg_w rk_0 (by decide) (by decide))⟩)
      · have ch27 := cv_nlt h27
        have r36 : Rg (0) (2147483647) x2_ := rf_ley ch27 rk_0 (rg_any x2_) (by decide)
        refine rn_iload_n (i := 0) dX10_in_5 rfl rfl ?_
        refine rn_iload_n (i := 2) dX10_in_6 rfl rfl ?_
        refine rn_icmp_gt (tgt := 14) dX10_in_7 (by decide) (fun h37 => ?_) (fun h37 => ?_)
        · have ch37 := cv_lt h37
          have r38 : Rg (6) (2147483647) x2_ := rf_lty ch37 rk_5 r36 (by decide)
          refine rn_iconst (v := (0 : Int32)) dX10_in_14 (by decide) ?_
          refine rn_iret dX10_in_15 rfl rfl (rq_in ?_)
          refine rn_stk [.int (0 : Int32), .ref o0_] rfl ?_
          refine rn_if_ne (tgt := 33) dX10_told_26 (by decide) (fun h39 => (cx_ne (cv_ne h39) rk_0 rk_0 (by decide)).elim) (fun h39 => ?_)
          refine rn_iconst (v := (1 : Int32)) dX10_told_29 (by decide) ?_
          refine rn_goto (tgt := 34) dX10_told_30 (by decide) ?_
          refine rn_iconst (v := (1 : Int32)) dX10_told_34 (by decide) ?_
          refine rn_inV (d' := 0) (z' := 0) [.int (1 : Int32), .int (1 : Int32)] kl_SGModel_171 dX10_told_35 q1 hl3 rfl rfl rfl (Nat.le_of_ble_eq_true rfl) (Nat.le_of_ble_eq_true rfl) (Nat.le_of_ble_eq_true rfl) (Nat.le_of_ble_eq_true rfl) ?_
          refine rn_lv [(0, .ref o0_), (1, .int (1 : Int32)), (2, .int (1 : Int32))] rfl ?_
          refine rn_aload_n (i := 0) dX10_refuses_0 rfl rfl ?_
          refine rn_get q1 kg_SGModel_137 hl3 hx3 dX10_refuses_1 ?_
          refine rn_if_ne (tgt := 16) dX10_refuses_4 (by decide) (fun h40 => (cx_ne (cv_ne h40) rk_0 rk_0 (by decide)).elim) (fun h40 => ?_)
          refine rn_iload_n (i := 1) dX10_refuses_7 rfl rfl ?_
          refine rn_if_eq (tgt := 16) dX10_refuses_8 (by decide) (fun h41 => (cx_eq (cv_eq h41) rk_1 rk_0 (by decide)).elim) (fun h41 => ?_)
          refine rn_aload_n (i := 0) dX10_refuses_11 rfl rfl ?_
          refine rn_iload_n (i := 2) dX10_refuses_12 rfl rfl ?_
          refine rs_put q1 (kp_SGModel_137 _) hS3 hq1 hl3 hf3 hk_30 rfl rfl (tv_i (rg_w rk_1 (by decide) (by decide))) rfl rfl dX10_refuses_13 (fun w42 fs43 hS43 hl43 hf43 hx43 ho43 hn43 => ?_)
          refine rn_aload_n (i := 0) dX10_refuses_16 rfl rfl ?_
          refine rn_get q1 kg_SGModel_137 hl43 hx43 dX10_refuses_17 ?_
          refine rn_if_le (tgt := 27) dX10_refuses_20 (by decide) (fun h44 => (cx_le (cv_le h44) rk_1 rk_0 (by decide)).elim) (fun h44 => ?_)
          refine rn_iconst (v := (1 : Int32)) dX10_refuses_23 (by decide) ?_
          refine rn_goto (tgt := 28) dX10_refuses_24 (by decide) ?_
          refine rn_iret dX10_refuses_28 rfl rfl (rq_in ?_)
          refine rn_stk [.int (1 : Int32)] rfl ?_
          refine rn_if_eq (tgt := 43) dX10_told_38 (by decide) (fun h45 => (cx_eq (cv_eq h45) rk_1 rk_0 (by decide)).elim) (fun h45 => ?_)
          refine rn_iconst (v := (0 : Int32)) dX10_told_41 (by decide) ?_
          exact rn_iret dX10_told_42 rfl rfl (rq_in ⟨hS43, (0 : Int32), rfl, (rg_w rk_0 (by decide) (by decide))⟩)
        · have ch37 := cv_nlt h37
          have r46 : Rg (0) (5) x2_ := rf_lex ch37 r36 rk_5 (by decide)
          refine rn_iconst (v := (1 : Int32)) dX10_in_10 (by decide) ?_
          refine rn_goto (tgt := 15) dX10_in_11 (by decide) ?_
          refine rn_iret dX10_in_15 rfl rfl (rq_in ?_)
          refine rn_stk [.int (1 : Int32), .ref o0_] rfl ?_
          refine rn_if_ne (tgt := 33) dX10_told_26 (by decide) (fun h47 => ?_) (fun h47 => (cx_eq (cv_eq h47) rk_1 rk_0 (by decide)).elim)
          refine rn_iconst (v := (0 : Int32)) dX10_told_33 (by decide) ?_
          refine rn_iconst (v := (1 : Int32)) dX10_told_34 (by decide) ?_
          refine rn_inV (d' := 0) (z' := 0) [.int (0 : Int32), .int (1 : Int32)] kl_SGModel_171 dX10_told_35 q1 hl3 rfl rfl rfl (Nat.le_of_ble_eq_true rfl) (Nat.le_of_ble_eq_true rfl) (Nat.le_of_ble_eq_true rfl) (Nat.le_of_ble_eq_true rfl) ?_
          refine rn_lv [(0, .ref o0_), (1, .int (0 : Int32)), (2, .int (1 : Int32))] rfl ?_
          refine rn_aload_n (i := 0) dX10_refuses_0 rfl rfl ?_
          refine rn_get q1 kg_SGModel_137 hl3 hx3 dX10_refuses_1 ?_
          refine rn_if_ne (tgt := 16) dX10_refuses_4 (by decide) (fun h48 => (cx_ne (cv_ne h48) rk_0 rk_0 (by decide)).elim) (fun h48 => ?_)
          refine rn_iload_n (i := 1) dX10_refuses_7 rfl rfl ?_
          refine rn_if_eq (tgt := 16) dX10_refuses_8 (by decide) (fun h49 => ?_) (fun h49 => (cx_ne (cv_ne h49) rk_0 rk_0 (by decide)).elim)
          refine rn_aload_n (i := 0) dX10_refuses_16 rfl rfl ?_
          refine rn_get q1 kg_SGModel_137 hl3 hx3 dX10_refuses_17 ?_
          refine rn_if_le (tgt := 27) dX10_refuses_20 (by decide) (fun h50 => ?_) (fun h50 => (cx_lt (cv_nle h50) rk_0 rk_0 (by decide)).elim)
          refine rn_iconst (v := (0 : Int32)) dX10_refuses_27 (by decide) ?_
          refine rn_iret dX10_refuses_28 rfl rfl (rq_in ?_)
          refine rn_stk [.int (0 : Int32)] rfl ?_
          refine rn_if_eq (tgt := 43) dX10_told_38 (by decide) (fun h51 => ?_) (fun h51 => (cx_ne (cv_ne h51) rk_0 rk_0 (by decide)).elim)
          refine rn_iload_n (i := 2) dX10_told_43 rfl rfl ?_
          by_cases h52 : x2_ = (0 : Int32)
          · refine rn_topi (0 : Int32) h52 ?_
            refine rn_tableIn (off := 36) (tgt := 80) dX10_told_44 (by decide) (by decide) (by decide) (by decide) ?_
            refine rn_aload_n (i := 0) dX10_told_80 rfl rfl ?_
            obtain ⟨o53, hx53, m53⟩ := fs_r hf3 23 rfl
            refine rn_get q1 kg_SGModel_57 hl3 hx53 dX10_told_81 ?_
            refine rn_iload_n (i := 1) dX10_told_84 rfl rfl ?_
            obtain ⟨q54, f54, hq54, hl54, hf54⟩ := ts_ia hS3.1 m53 hk_54
            refine rs_iald q54 hl54 hf54 rfl r24 (by decide) (by decide) dX10_told_85 (fun v55 ev55 rv55 => ?_)
            exact rn_iret dX10_told_86 rfl rfl (rq_in ⟨hS3, v55, rfl, rv55⟩)
          · skip
            by_cases h56 : x2_ = (1 : Int32)
            · refine rn_topi (1 : Int32) h56 ?_
              refine rn_tableIn (off := 43) (tgt := 87) dX10_told_44 (by decide) (by decide) (by decide) (by decide) ?_
              refine rn_aload_n (i := 0) dX10_told_87 rfl rfl ?_
              obtain ⟨o57, hx57, m57⟩ := fs_r hf3 24 rfl
              refine rn_get q1 kg_SGModel_60 hl3 hx57 dX10_told_88 ?_
              refine rn_iload_n (i := 1) dX10_told_91 rfl rfl ?_
              obtain ⟨q58, f58, hq58, hl58, hf58⟩ := ts_ia hS3.1 m57 hk_55
              refine rs_iald q58 hl58 hf58 rfl r24 (by decide) (by decide) dX10_told_92 (fun v59 ev59 rv59 => ?_)
              exact rn_iret dX10_told_93 rfl rfl (rq_in ⟨hS3, v59, rfl, (rg_w rv59 (by decide) (by decide))⟩)
            · skip
              by_cases h60 : x2_ = (2 : Int32)
              · refine rn_topi (2 : Int32) h60 ?_
                refine rn_tableIn (off := 50) (tgt := 94) dX10_told_44 (by decide) (by decide) (by decide) (by decide) ?_
                refine rn_aload_n (i := 0) dX10_told_94 rfl rfl ?_
                obtain ⟨o61, hx61, m61⟩ := fs_r hf3 25 rfl
                refine rn_get q1 kg_SGModel_63 hl3 hx61 dX10_told_95 ?_
                refine rn_iload_n (i := 1) dX10_told_98 rfl rfl ?_
                obtain ⟨q62, f62, hq62, hl62, hf62⟩ := ts_ia hS3.1 m61 hk_56
                refine rs_iald q62 hl62 hf62 rfl r24 (by decide) (by decide) dX10_told_99 (fun v63 ev63 rv63 => ?_)
                exact rn_iret dX10_told_100 rfl rfl (rq_in ⟨hS3, v63, rfl, rv63⟩)
              · skip
                by_cases h64 : x2_ = (3 : Int32)
                · refine rn_topi (3 : Int32) h64 ?_
                  refine rn_tableIn (off := 57) (tgt := 101) dX10_told_44 (by decide) (by decide) (by decide) (by decide) ?_
                  refine rn_aload_n (i := 0) dX10_told_101 rfl rfl ?_
                  obtain ⟨o65, hx65, m65⟩ := fs_r hf3 29 rfl
                  refine rn_get q1 kg_SGModel_77 hl3 hx65 dX10_told_102 ?_
                  refine rn_iload_n (i := 1) dX10_told_105 rfl rfl ?_
                  obtain ⟨q66, f66, hq66, hl66, hf66⟩ := ts_ia hS3.1 m65 hk_60
                  refine rs_iald q66 hl66 hf66 rfl r24 (by decide) (by decide) dX10_told_106 (fun v67 ev67 rv67 => ?_)
                  exact rn_iret dX10_told_107 rfl rfl (rq_in ⟨hS3, v67, rfl, rv67⟩)
                · skip
                  by_cases h68 : x2_ = (4 : Int32)
                  · refine rn_topi (4 : Int32) h68 ?_
                    refine rn_tableIn (off := 64) (tgt := 108) dX10_told_44 (by decide) (by decide) (by decide) (by decide) ?_
                    refine rn_aload_n (i := 0) dX10_told_108 rfl rfl ?_
                    refine rn_iload_n (i := 1) dX10_told_109 rfl rfl ?_
                    refine rn_callV (a := 0) (b := 0) [.int x1_] kl_SGModel_207 dX10_told_110 q1 hl3 rfl (t_X10_isDead G S w2 hS3.1 o0_ m0_ x1_ r24) rfl rfl (Nat.le_of_ble_eq_true rfl) (Nat.le_of_ble_eq_true rfl) (Nat.le_of_ble_eq_true rfl) (Nat.le_of_ble_eq_true rfl) (Nat.le_of_ble_eq_true rfl) (Nat.le_of_ble_eq_true rfl) (fun _ _ h => False.elim h) (fun v9 w69 h70 => ?_)
                    obtain ⟨rfl, v71, rfl, rv71⟩ := h70
                    refine rn_stk [.int v71] rfl ?_
                    refine rn_if_eq (tgt := 120) dX10_told_113 (by decide) (fun h73 => ?_) (fun h73 => ?_)
                    · have ch73 := cv_eq h73
                      have r74 : Rg (0) (0) v71 := rf_eqx ch73 rv71 rk_0 (by decide) (by decide)
                      refine rn_iconst (v := (0 : Int32)) dX10_told_120 (by decide) ?_
                      exact rn_iret dX10_told_121 rfl rfl (rq_in ⟨hS3, (0 : Int32), rfl, (rg_w rk_0 (by decide) (by decide))⟩)
                    · have ch73 := cv_ne h73
                      have r75 : Rg (1) (1) v71 := rf_nel ch73 rv71 rk_0 (by decide) (by decide)
                      refine rn_iconst (v := (1 : Int32)) dX10_told_116 (by decide) ?_
                      refine rn_goto (tgt := 121) dX10_told_117 (by decide) ?_
                      exact rn_iret dX10_told_121 rfl rfl (rq_in ⟨hS3, (1 : Int32), rfl, (rg_w rk_1 (by decide) (by decide))⟩)
                  · skip
                    have ch52 := cv_ne h52
                    rw [show (0 : Int32).toInt = 0 by decide] at ch52
                    have ch56 := cv_ne h56
                    rw [show (1 : Int32).toInt = 1 by decide] at ch56
                    have ch60 := cv_ne h60
                    rw [show (2 : Int32).toInt = 2 by decide] at ch60
                    have ch64 := cv_ne h64
                    rw [show (3 : Int32).toInt = 3 by decide] at ch64
                    have ch68 := cv_ne h68
                    rw [show (4 : Int32).toInt = 4 by decide] at ch68
                    have r9a := r46.1; have r9b := r46.2
                    refine rn_tableOut (tgt := 122) dX10_told_44 (by omega) (by decide) ?_
                    refine rn_aload_n (i := 0) dX10_told_122 rfl rfl ?_
                    obtain ⟨o76, hx76, m76⟩ := fs_r hf3 28 rfl
                    refine rn_get q1 kg_SGModel_73 hl3 hx76 dX10_told_123 ?_
                    refine rn_iload_n (i := 1) dX10_told_126 rfl rfl ?_
                    obtain ⟨q77, f77, hq77, hl77, hf77⟩ := ts_ia hS3.1 m76 hk_59
                    refine rs_zald q77 hl77 hf77 rfl r24 (by decide) (by decide) dX10_told_127 (fun v78 ev78 rv78 => ?_)
                    refine rn_if_eq (tgt := 135) dX10_told_128 (by decide) (fun h79 => ?_) (fun h79 => ?_)
                    · have ch79 := cv_eq h79
                      have r80 : Rg (0) (0) v78 := rf_eqx ch79 rv78 rk_0 (by decide) (by decide)
                      refine rn_iconst (v := (0 : Int32)) dX10_told_135 (by decide) ?_
                      exact rn_iret dX10_told_136 rfl rfl (rq_in ⟨hS3, (0 : Int32), rfl, (rg_w rk_0 (by decide) (by decide))⟩)
                    · have ch79 := cv_ne h79
                      have r81 : Rg (1) (1) v78 := rf_nel ch79 rv78 rk_0 (by decide) (by decide)
                      refine rn_iconst (v := (1 : Int32)) dX10_told_131 (by decide) ?_
                      refine rn_goto (tgt := 136) dX10_told_132 (by decide) ?_
                      exact rn_iret dX10_told_136 rfl rfl (rq_in ⟨hS3, (1 : Int32), rfl, (rg_w rk_1 (by decide) (by decide))⟩)
