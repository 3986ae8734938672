abbrev q_t_X10_isDead (G : rn_G) (S : ts_S) (ws : va_W) : rn_R → va_W → Prop := rQ (fun v w => ws = w ∧ (∃ x : Int32, v = some (.int x) ∧ Rg (0) (1) x)) (fun E w => False)
set_option maxRecDepth 20000 in
set_option maxHeartbeats 4000000 in
theorem t_X10_isDead (G : rn_G) (S : ts_S) (ws : va_W) (hW : ts_W G S ws) (o0_ : Nat) (m0_ : (o0_, 30) ∈ S) (x1_ : Int32) (r1_ : Rg (0) (15) x1_) : Rn G mX10_isDead 0 0 0 0 0 (lv_args 0 [.ref o0_, .int x1_]) [] ws (q_t_X10_isDead G S ws ) := by
  refine rn_lv [(0, .ref o0_), (1, .int x1_)] rfl ?_
  refine rn_aload_n (i := 0) dX10_isDead_0 rfl rfl ?_
  obtain ⟨q1, fs1, hq1, hl1, hf1⟩ := ts_obj hW m0_ hk_30
  obtain ⟨o2, hx2, m2⟩ := fs_r hf1 30 rfl
  refine rn_get q1 kg_SGModel_80 hl1 hx2 dX10_isDead_1 ?_
  refine rn_iload_n (i := 1) dX10_isDead_4 rfl rfl ?_
  obtain ⟨q3, f3, hq3, hl3, hf3⟩ := ts_ia hW m2 hk_61
  refine rs_zald q3 hl3 hf3 rfl r1_ (by decide) (by decide) dX10_isDead_5 (fun v4 ev4 rv4 => ?_)
  refine rn_if_ne (tgt := 18) dX10_isDead_6 (by decide) (fun h5 => ?_) (fun h5 => ?_)
  · have ch5 := cv_ne h5
    have r6 : Rg (1) (1) v4 := rf_nel ch5 rv4 rk_0 (by decide) (by decide)
    refine rn_iconst (v := (1 : Int32)) dX10_isDead_18 (by decide) ?_
    refine rn_goto (tgt := 23) dX10_isDead_19 (by decide) ?_
    exact rn_iret dX10_isDead_23 rfl rfl (rq_in ⟨rfl, (1 : Int32), rfl, (rg_w rk_1 (by decide) (by decide))⟩)
  · have ch5 := cv_eq h5
    have r7 : Rg (0) (0) v4 := rf_eqx ch5 rv4 rk_0 (by decide) (by decide)
    refine rn_aload_n (i := 0) dX10_isDead_9 rfl rfl ?_
    obtain ⟨o8, hx8, m8⟩ := fs_r hf1 29 rfl
    refine rn_get q1 kg_SGModel_77 hl1 hx8 dX10_isDead_10 ?_
    refine rn_iload_n (i := 1) dX10_isDead_13 rfl rfl ?_
    obtain ⟨q9, f9, hq9, hl9, hf9⟩ := ts_ia hW m8 hk_60
    refine rs_iald q9 hl9 hf9 rfl r1_ (by decide) (by decide) dX10_isDead_14 (fun v10 ev10 rv10 => ?_)
    refine rn_if_ne (tgt := 22) dX10_isDead_15 (by decide) (fun h11 => ?_) (fun h11 => ?_)
    · have ch11 := cv_ne h11
      refine rn_iconst (v := (0 : Int32)) dX10_isDead_22 (by decide) ?_
      exact rn_iret dX10_isDead_23 rfl rfl (rq_in ⟨rfl, (0 : Int32), rfl, (rg_w rk_0 (by decide) (by decide))⟩)
    · have ch11 := cv_eq h11
      have r12 : Rg (0) (0) v10 := rf_eqx ch11 rv10 rk_0 (by decide) (by decide)
      refine rn_iconst (v := (1 : Int32)) dX10_isDead_18 (by decide) ?_
      refine rn_goto (tgt := 23) dX10_isDead_19 (by decide) ?_
      exact rn_iret dX10_isDead_23 rfl rfl (rq_in ⟨rfl, (1 : Int32), rfl, (rg_w rk_1 (by decide) (by decide))⟩)
abbrev q_t_X10_stop (G : rn_G) (S : ts_S) (ws : va_W) : rn_R → va_W → Prop := rQ (fun v w => St G S [30, 61] ws S w ∧ (∃ x : Int32, v = some (.int x) ∧ Rg (0) (1) x)) (fun E w => False)
set_option maxRecDepth 20000 in
set_option maxHeartbeats 4000000 in
theorem t_X10_stop (G : rn_G) (S : ts_S) (ws : va_W) (hW : ts_W G S ws) (o0_ : Nat) (m0_ : (o0_, 30) ∈ S) (x1_ : Int32) : Rn G mX10_stop 1 22 0 0 0 (lv_args 0 [.ref o0_, .int x1_]) [] ws (q_t_X10_stop G S ws ) := by
  have hS0 : St G S [30, 61] ws S ws := St.rf hW
  refine rn_lv [(0, .ref o0_), (1, .int x1_)] rfl ?_
  refine rn_aload_n (i := 0) dX10_stop_0 rfl rfl ?_
  refine rn_iconst (v := (0 : Int32)) dX10_stop_1 (by decide) ?_
  obtain ⟨q1, fs1, hq1, hl1, hf1⟩ := ts_obj hS0.1 m0_ hk_30
  refine rs_put q1 (kp_SGModel_137 _) hS0 hq1 hl1 hf1 hk_30 rfl rfl (tv_i (rg_w rk_0 (by decide) (by decide))) rfl rfl dX10_stop_2 (fun w2 fs3 hS3 hl3 hf3 hx3 ho3 hn3 => ?_)
  refine rn_aload_n (i := 0) dX10_stop_5 rfl rfl ?_
  refine rn_iload_n (i := 1) dX10_stop_6 rfl rfl ?_
  refine rn_iconst (v := (0 : Int32)) dX10_stop_7 (by decide) ?_
  refine rn_aload_n (i := 0) dX10_stop_8 rfl rfl ?_
  obtain ⟨x4, hx4, rx4⟩ := fs_i hf3 22 rfl
  refine rn_get q1 kg_SGModel_200 hl3 hx4 dX10_stop_9 ?_
  refine rn_iconst (v := (1 : Int32)) dX10_stop_12 (by decide) ?_
  refine rs_subC (-1) (15) rx4 rk_1 dX10_stop_13 (by decide) (fun v5 ev5 rv5 => ?_)
  refine rn_inS (d' := 0) (z' := 0) [.int x1_, .int (0 : Int32), .int v5] kl_SGModel_179 dX10_stop_14 rfl rfl (Nat.le_of_ble_eq_true rfl) (Nat.le_of_ble_eq_true rfl) (Nat.le_of_ble_eq_true rfl) (Nat.le_of_ble_eq_true rfl) ?_
  refine rn_lv [(0, .int x1_), (1, .int (0 : Int32)), (2, .int v5)] rfl ?_
  refine rn_iload_n (i := 0) dX10_in_0 rfl rfl ?_
  refine rn_iload_n (i := 1) dX10_in_1 rfl rfl ?_
  refine rn_icmp_lt (tgt := 14) dX10_in_2 (by decide) (fun h6 => ?_) (fun h6 => ?_)
  · have ch6 := cv_lt h6
    have r7 : Rg (-2147483648) (-1) x1_ := rf_ltx ch6 (rg_any x1_) rk_0 (by decide)
    refine rn_iconst (v := (0 : Int32)) dX10_in_14 (by decide) ?_
    refine rn_iret dX10_in_15 rfl rfl (rq_in ?_)
    refine rn_stk [.int (0 : Int32), .ref o0_] rfl ?_
    refine rn_if_ne (tgt := 24) dX10_stop_17 (by decide) (fun h8 => (cx_ne (cv_ne h8) rk_0 rk_0 (by decide)).elim) (fun h8 => ?_)
    refine rn_iconst (v := (1 : Int32)) dX10_stop_20 (by decide) ?_
    refine rn_goto (tgt := 25) dX10_stop_21 (by decide) ?_
    refine rn_iconst (v := (1 : Int32)) dX10_stop_25 (by decide) ?_
    refine rn_inV (d' := 0) (z' := 0) [.int (1 : Int32), .int (1 : Int32)] kl_SGModel_171 dX10_stop_26 q1 hl3 rfl rfl rfl (Nat.le_of_ble_eq_true rfl) (Nat.le_of_ble_eq_true rfl) (Nat.le_of_ble_eq_true rfl) (Nat.le_of_ble_eq_true rfl) ?_
    refine rn_lv [(0, .ref o0_), (1, .int (1 : Int32)), (2, .int (1 : Int32))] rfl ?_
    refine rn_aload_n (i := 0) dX10_refuses_0 rfl rfl ?_
    refine rn_get q1 kg_SGModel_137 hl3 hx3 dX10_refuses_1 ?_
    refine rn_if_ne (tgt := 16) dX10_refuses_4 (by decide) (fun h9 => (cx_ne (cv_ne h9) rk_0 rk_0 (by decide)).elim) (fun h9 => ?_)
    refine rn_iload_n (i := 1) dX10_refuses_7 rfl rfl ?_
    refine rn_if_eq (tgt := 16) dX10_refuses_8 (by decide) (fun h10 => (cx_eq (cv_eq h10) rk_1 rk_0 (by decide)).elim) (fun h10 => ?_)
    refine rn_aload_n (i := 0) dX10_refuses_11 rfl rfl ?_
    refine rn_iload_n (i := 2) dX10_refuses_12 rfl rfl ?_
    refine rs_put q1 (kp_SGModel_137 _) hS3 hq1 hl3 hf3 hk_30 rfl rfl (tv_i (rg_w rk_1 (by decide) (by decide))) rfl rfl dX10_refuses_13 (fun w11 fs12 hS12 hl12 hf12 hx12 ho12 hn12 => ?_)
    refine rn_aload_n (i := 0) dX10_refuses_16 rfl rfl ?_
    refine rn_get q1 kg_SGModel_137 hl12 hx12 dX10_refuses_17 ?_
    refine rn_if_le (tgt := 27) dX10_refuses_20 (by decide) (fun h13 => (cx_le (cv_le h13) rk_1 rk_0 (by decide)).elim) (fun h13 => ?_)
    refine rn_iconst (v := (1 : Int32)) dX10_refuses_23 (by decide) ?_
    refine rn_goto (tgt := 28) dX10_refuses_24 (by decide) ?_
    refine rn_iret dX10_refuses_28 rfl rfl (rq_in ?_)
    refine rn_stk [.int (1 : Int32)] rfl ?_
    refine rn_if_eq (tgt := 34) dX10_stop_29 (by decide) (fun h14 => (cx_eq (cv_eq h14) rk_1 rk_0 (by decide)).elim) (fun h14 => ?_)
    refine rn_iconst (v := (0 : Int32)) dX10_stop_32 (by decide) ?_
    exact rn_iret dX10_stop_33 rfl rfl (rq_in ⟨hS12, (0 : Int32), rfl, (rg_w rk_0 (by decide) (by decide))⟩)
  · have ch6 := cv_nlt h6
    have r15 : Rg (0) (2147483647) x1_ := rf_ley ch6 rk_0 (rg_any x1_) (by decide)
    refine rn_iload_n (i := 0) dX10_in_5 rfl rfl ?_
    refine rn_iload_n (i := 2) dX10_in_6 rfl rfl ?_
    refine rn_icmp_gt (tgt := 14) dX10_in_7 (by decide) (fun h16 => ?_) (fun h16 => ?_)
    · have ch16 := cv_lt h16
      refine rn_iconst (v := (0 : Int32)) dX10_in_14 (by decide) ?_
      refine rn_iret dX10_in_15 rfl rfl (rq_in ?_)
      refine rn_stk [.int (0 : Int32), .ref o0_] rfl ?_
      refine rn_if_ne (tgt := 24) dX10_stop_17 (by decide) (fun h17 => (cx_ne (cv_ne h17) rk_0 rk_0 (by decide)).elim) (fun h17 => ?_)
      refine rn_iconst (v := (1 : Int32)) dX10_stop_20 (by decide) ?_
      refine rn_goto (tgt := 25) dX10_stop_21 (by decide) ?_
      refine rn_iconst (v := (1 : Int32)) dX10_stop_25 (by decide) ?_
      refine rn_inV (d' := 0) (z' := 0) [.int (1 : Int32), .int (1 : Int32)] kl_SGModel_171 dX10_stop_26 q1 hl3 rfl rfl rfl (Nat.le_of_ble_eq_true rfl) (Nat.le_of_ble_eq_true rfl) (Nat.le_of_ble_eq_true rfl) (Nat.le_of_ble_eq_true rfl) ?_
      refine rn_lv [(0, .ref o0_), (1, .int (1 : Int32)), (2, .int (1 : Int32))] rfl ?_
      refine rn_aload_n (i := 0) dX10_refuses_0 rfl rfl ?_
      refine rn_get q1 kg_SGModel_137 hl3 hx3 dX10_refuses_1 ?_
      refine rn_if_ne (tgt := 16) dX10_refuses_4 (by decide) (fun h18 => (cx_ne (cv_ne h18) rk_0 rk_0 (by decide)).elim) (fun h18 => ?_)
      refine rn_iload_n (i := 1) dX10_refuses_7 rfl rfl ?_
      refine rn_if_eq (tgt := 16) dX10_refuses_8 (by decide) (fun h19 => (cx_eq (cv_eq h19) rk_1 rk_0 (by decide)).elim) (fun h19 => ?_)
      refine rn_aload_n (i := 0) dX10_refuses_11 rfl rfl ?_
      refine rn_iload_n (i := 2) dX10_refuses_12 rfl rfl ?_
      refine rs_put q1 (kp_SGModel_137 _) hS3 hq1 hl3 hf3 hk_30 rfl rfl (tv_i (rg_w rk_1 (by decide) (by decide))) rfl rfl dX10_refuses_13 (fun w20 fs21 hS21 hl21 hf21 hx21 ho21 hn21 => ?_)
      refine rn_aload_n (i := 0) dX10_refuses_16 rfl rfl ?_
      refine rn_get q1 kg_SGModel_137 hl21 hx21 dX10_refuses_17 ?_
      refine rn_if_le (tgt := 27) dX10_refuses_20 (by decide) (fun h22 => (cx_le (cv_le h22) rk_1 rk_0 (by decide)).elim) (fun h22 => ?_)
      refine rn_iconst (v := (1 : Int32)) dX10_refuses_23 (by decide) ?_
      refine rn_goto (tgt := 28) dX10_refuses_24 (by decide) ?_
      refine rn_iret dX10_refuses_28 rfl rfl (rq_in ?_)
      refine rn_stk [.int (1 : Int32)] rfl ?_
      refine rn_if_eq (tgt := 34) dX10_stop_29 (by decide) (fun h23 => (cx_eq (cv_eq h23) rk_1 rk_0 (by decide)).elim) (fun h23 => ?_)
      refine rn_iconst (v := (0 : Int32)) dX10_stop_32 (by decide) ?_
      exact rn_iret dX10_stop_33 rfl rfl (rq_in ⟨hS21, (0 : Int32), rfl, (rg_w rk_0 (by decide) (by decide))⟩)
    · have ch16 := cv_nlt h16
      have r24 : Rg (0) (15) x1_ := rf_lex ch16 r15 rv5 (by decide)
      have r25 : Rg (0) (15) v5 := rf_ley ch16 r15 rv5 (by decide)
      refine rn_iconst (v := (1 : Int32)) dX10_in_10 (by decide) ?_
      refine rn_goto (tgt := 15) dX10_in_11 (by decide) ?_
      refine rn_iret dX10_in_15 rfl rfl (rq_in ?_)
      refine rn_stk [.int (1 : Int32), .ref o0_] rfl ?_
      refine rn_if_ne (tgt := 24) dX10_stop_17 (by decide) (fun h26 => ?_) (fun h26 => (cx_eq (cv_eq h26) rk_1 rk_0 (by decide)).elim)
      refine rn_iconst (v := (0 : Int32)) dX10_stop_24 (by decide) ?_
      refine rn_iconst (v := (1 : Int32)) dX10_stop_25 (by decide) ?_
      refine rn_inV (d' := 0) (z' := 0) [.int (0 : Int32), .int (1 : Int32)] kl_SGModel_171 dX10_stop_26 q1 hl3 rfl rfl rfl (Nat.le_of_ble_eq_true rfl) (Nat.le_of_ble_eq_true rfl) (Nat.le_of_ble_eq_true rfl) (Nat.le_of_ble_eq_true rfl) ?_
      refine rn_lv [(0, .ref o0_), (1, .int (0 : Int32)), (2, .int (1 : Int32))] rfl ?_
      refine rn_aload_n (i := 0) dX10_refuses_0 rfl rfl ?_
      refine rn_get q1 kg_SGModel_137 hl3 hx3 dX10_refuses_1 ?_
      refine rn_if_ne (tgt := 16) dX10_refuses_4 (by decide) (fun h27 => (cx_ne (cv_ne h27) rk_0 rk_0 (by decide)).elim) (fun h27 => ?_)
      refine rn_iload_n (i := 1) dX10_refuses_7 rfl rfl ?_
      refine rn_if_eq (tgt := 16) dX10_refuses_8 (by decide) (fun h28 => ?_) (fun h28 => (cx_ne (cv_ne h28) rk_0 rk_0 (by decide)).elim)
      refine rn_aload_n (i := 0) dX10_refuses_16 rfl rfl ?_
      refine rn_get q1 kg_SGModel_137 hl3 hx3 dX10_refuses_17 ?_
      refine rn_if_le (tgt := 27) dX10_refuses_20 (by decide) (fun h29 => ?_) (fun h29 => (cx_lt (cv_nle h29) rk_0 rk_0 (by decide)).elim)
      refine rn_iconst (v := (0 : Int32)) dX10_refuses_27 (by decide) ?_
      refine rn_iret dX10_refuses_28 rfl rfl (rq_in ?_)
      refine rn_stk [.int (0 : Int32)] rfl ?_
      refine rn_if_eq (tgt := 34) dX10_stop_29 (by decide) (fun h30 => ?_) (fun h30 => (cx_ne (cv_ne h30) rk_0 rk_0 (by decide)).elim)
      refine rn_aload_n (i := 0) dX10_stop_34 rfl rfl ?_
      refine rn_iload_n (i := 1) dX10_stop_35 rfl rfl ?_
      refine rn_callV (a := 0) (b := 0) [.int x1_] kl_SGModel_207 dX10_stop_36 q1 hl3 rfl (t_X10_isDead G S w2 hS3.1 o0_ m0_ x1_ r24) rfl rfl (Nat.le_of_ble_eq_true rfl) (Nat.le_of_ble_eq_true rfl) (Nat.le_of_ble_eq_true rfl) (Nat.le_of_ble_eq_true rfl) (Nat.le_of_ble_eq_true rfl) (Nat.le_of_ble_eq_true rfl) (fun _ _ h => False.elim h) (fun v9 w31 h32 => ?_)
      obtain ⟨rfl, v33, rfl, rv33⟩ := h32
      refine rn_stk [.int v33] rfl ?_
      refine rn_if_ne (tgt := 46) dX10_stop_39 (by decide) (fun h35 => ?_) (fun h35 => ?_)
      · have ch35 := cv_ne h35
        have r36 : Rg (1) (1) v33 := rf_nel ch35 rv33 rk_0 (by decide) (by decide)
        refine rn_iconst (v := (0 : Int32)) dX10_stop_46 (by decide) ?_
        refine rn_istore_n dX10_stop_47 rfl (by decide) [(0, .ref o0_), (1, .int x1_), (2, .int (0 : Int32))] rfl ?_
        refine rn_aload_n (i := 0) dX10_stop_48 rfl rfl ?_
        obtain ⟨o37, hx37, m37⟩ := fs_r hf3 30 rfl
        refine rn_get q1 kg_SGModel_80 hl3 hx37 dX10_stop_49 ?_
        refine rn_iload_n (i := 1) dX10_stop_52 rfl rfl ?_
        refine rn_iconst (v := (1 : Int32)) dX10_stop_53 (by decide) ?_
        obtain ⟨q38, f38, hq38, hl38, hf38⟩ := ts_ia hS3.1 m37 hk_61
        refine rs_zast q38 hS3 hq38 hl38 hf38 hk_61 rfl rfl r24 (by decide) (by decide) (by decide) (by decide) dX10_stop_54 (fun w39 f40 hS40 hl40 hf40 hu40 hn40 => ?_)
        refine rn_iload_n (i := 2) dX10_stop_55 rfl rfl ?_
        exact rn_iret dX10_stop_56 rfl rfl (rq_in ⟨hS40, (0 : Int32), rfl, (rg_w rk_0 (by decide) (by decide))⟩)
      · have ch35 := cv_eq h35
        have r41 : Rg (0) (0) v33 := rf_eqx ch35 rv33 rk_0 (by decide) (by decide)
        refine rn_iconst (v := (1 : Int32)) dX10_stop_42 (by decide) ?_
        refine rn_goto (tgt := 47) dX10_stop_43 (by decide) ?_
        refine rn_istore_n dX10_stop_47 rfl (by decide) [(0, .ref o0_), (1, .int x1_), (2, .int (1 : Int32))] rfl ?_
        refine rn_aload_n (i := 0) dX10_stop_48 rfl rfl ?_
        obtain ⟨o42, hx42, m42⟩ := fs_r hf3 30 rfl
        refine rn_get q1 kg_SGModel_80 hl3 hx42 dX10_stop_49 ?_
        refine rn_iload_n (i := 1) dX10_stop_52 rfl rfl ?_
        refine rn_iconst (v := (1 : Int32)) dX10_stop_53 (by decide) ?_
        obtain ⟨q43, f43, hq43, hl43, hf43⟩ := ts_ia hS3.1 m42 hk_61
        refine rs_zast q43 hS3 hq43 hl43 hf43 hk_61 rfl rfl r24 (by decide) (by decide) (by decide) (by decide) dX10_stop_54 (fun w44 f45 hS45 hl45 hf45 hu45 hn45 => ?_)
        refine rn_iload_n (i := 2) dX10_stop_55 rfl rfl ?_
        exact rn_iret dX10_stop_56 rfl rfl (rq_in ⟨hS45, (1 : Int32), rfl, (rg_w rk_1 (by decide) (by decide))⟩)
abbrev q_t_X10_count (G : rn_G) (S : ts_S) (ws : va_W) : rn_R → va_W → Prop := rQ (fun v w => St G S [30, 62, 63] ws S w ∧ (∃ x : Int64, v = some (.long x))) (fun E w => False)
set_option maxRecDepth 20000 in
set_option maxHeartbeats 4000000 in
theorem t_X10_count (G : rn_G) (S : ts_S) (ws : va_W) (hW : ts_W G S ws) (o0_ : Nat) (m0_ : (o0_, 30) ∈ S) (x1_ : Int32) (y2_ : Int64) : Rn G mX10_count 1 22 0 0 0 (lv_args 0 [.ref o0_, .int x1_, .long y2_]) [] ws (q_t_X10_count G S ws ) := by
  have hS0 : St G S [30, 62, 63] ws S ws := St.rf hW
  refine rn_lv [(0, .ref o0_), (1, .int x1_), (2, .long y2_)] rfl ?_
  refine rn_aload_n (i := 0) dX10_count_0 rfl rfl ?_
  refine rn_iconst (v := (0 : Int32)) dX10_count_1 (by decide) ?_
  obtain ⟨q1, fs1, hq1, hl1, hf1⟩ := ts_obj hS0.1 m0_ hk_30
  refine rs_put q1 (kp_SGModel_137 _) hS0 hq1 hl1 hf1 hk_30 rfl rfl (tv_i (rg_w rk_0 (by decide) (by decide))) rfl rfl dX10_count_2 (fun w2 fs3 hS3 hl3 hf3 hx3 ho3 hn3 => ?_)
  refine rn_aload_n (i := 0) dX10_count_5 rfl rfl ?_
  refine rn_iload_n (i := 1) dX10_count_6 rfl rfl ?_
  refine rn_iconst (v := (0 : Int32)) dX10_count_7 (by decide) ?_
  refine rn_aload_n (i := 0) dX10_count_8 rfl rfl ?_
  obtain ⟨x4, hx4, rx4⟩ := fs_i hf3 22 rfl
  refine rn_get q1 kg_SGModel_200 hl3 hx4 dX10_count_9 ?_
  refine rn_iconst (v := (1 : Int32)) dX10_count_12 (by decide) ?_
  refine rs_subC (-1) (15) rx4 rk_1 dX10_count_13 (by decide) (fun v5 ev5 rv5 => ?_)
  refine rn_inS (d' := 0) (z' := 0) [.int x1_, .int (0 : Int32), .int v5] kl_SGModel_179 dX10_count_14 rfl rfl (Nat.le_of_ble_eq_true rfl) (Nat.le_of_ble_eq_true rfl) (Nat.le_of_ble_eq_true rfl) (Nat.le_of_ble_eq_true rfl) ?_
  refine rn_lv [(0, .int x1_), (1, .int (0 : Int32)), (2, .int v5)] rfl ?_
  refine rn_iload_n (i := 0) dX10_in_0 rfl rfl ?_
  refine rn_iload_n (i := 1) dX10_in_1 rfl rfl ?_
  refine rn_icmp_lt (tgt := 14) dX10_in_2 (by decide) (fun h6 => ?_) (fun h6 => ?_)
  · have ch6 := cv_lt h6
    have r7 : Rg (-2147483648) (-1) x1_ := rf_ltx ch6 (rg_any x1_) rk_0 (by decide)
    refine rn_iconst (v := (0 : Int32)) dX10_in_14 (by decide) ?_
    refine rn_iret dX10_in_15 rfl rfl (rq_in ?_)
    refine rn_stk [.int (0 : Int32), .ref o0_] rfl ?_
    refine rn_if_ne (tgt := 24) dX10_count_17 (by decide) (fun h8 => (cx_ne (cv_ne h8) rk_0 rk_0 (by decide)).elim) (fun h8 => ?_)
    refine rn_iconst (v := (1 : Int32)) dX10_count_20 (by decide) ?_
    refine rn_goto (tgt := 25) dX10_count_21 (by decide) ?_
    refine rn_iconst (v := (1 : Int32)) dX10_count_25 (by decide) ?_
    refine rn_inV (d' := 0) (z' := 0) [.int (1 : Int32), .int (1 : Int32)] kl_SGModel_171 dX10_count_26 q1 hl3 rfl rfl rfl (Nat.le_of_ble_eq_true rfl) (Nat.le_of_ble_eq_true rfl) (Nat.le_of_ble_eq_true rfl) (Nat.le_of_ble_eq_true rfl) ?_
    refine rn_lv [(0, .ref o0_), (1, .int (1 : Int32)), (2, .int (1 : Int32))] rfl ?_
    refine rn_aload_n (i := 0) dX10_refuses_0 rfl rfl ?_
    refine rn_get q1 kg_SGModel_137 hl3 hx3 dX10_refuses_1 ?_
    refine rn_if_ne (tgt := 16) dX10_refuses_4 (by decide) (fun h9 => (cx_ne (cv_ne h9) rk_0 rk_0 (by decide)).elim) (fun h9 => ?_)
    refine rn_iload_n (i := 1) dX10_refuses_7 rfl rfl ?_
    refine rn_if_eq (tgt := 16) dX10_refuses_8 (by decide) (fun h10 => (cx_eq (cv_eq h10) rk_1 rk_0 (by decide)).elim) (fun h10 => ?_)
    refine rn_aload_n (i := 0) dX10_refuses_11 rfl rfl ?_
    refine rn_iload_n (i := 2) dX10_refuses_12 rfl rfl ?_
    refine rs_put q1 (kp_SGModel_137 _) hS3 hq1 hl3 hf3 hk_30 rfl rfl (tv_i (rg_w rk_1 (by decide) (by decide))) rfl rfl dX10_refuses_13 (fun w11 fs12 hS12 hl12 hf12 hx12 ho12 hn12 => ?_)
    refine rn_aload_n (i := 0) dX10_refuses_16 rfl rfl ?_
    refine rn_get q1 kg_SGModel_137 hl12 hx12 dX10_refuses_17 ?_
    refine rn_if_le (tgt := 27) dX10_refuses_20 (by decide) (fun h13 => (cx_le (cv_le h13) rk_1 rk_0 (by decide)).elim) (fun h13 => ?_)
    refine rn_iconst (v := (1 : Int32)) dX10_refuses_23 (by decide) ?_
    refine rn_goto (tgt := 28) dX10_refuses_24 (by decide) ?_
    refine rn_iret dX10_refuses_28 rfl rfl (rq_in ?_)
    refine rn_stk [.int (1 : Int32)] rfl ?_
    refine rn_if_ne (tgt := 68) dX10_count_29 (by decide) (fun h14 => ?_) (fun h14 => (cx_eq (cv_eq h14) rk_1 rk_0 (by decide)).elim)
    refine rn_lconst (v := (0 : Int64)) dX10_count_68 (by decide) ?_
    exact rn_lret dX10_count_69 rfl (rq_in ⟨hS12, (0 : Int64), rfl⟩)
  · have ch6 := cv_nlt h6
    have r15 : Rg (0) (2147483647) x1_ := rf_ley ch6 rk_0 (rg_any x1_) (by decide)
    refine rn_iload_n (i := 0) dX10_in_5 rfl rfl ?_
    refine rn_iload_n (i := 2) dX10_in_6 rfl rfl ?_
    refine rn_icmp_gt (tgt := 14) dX10_in_7 (by decide) (fun h16 => ?_) (fun h16 => ?_)
    · have ch16 := cv_lt h16
      refine rn_iconst (v := (0 : Int32)) dX10_in_14 (by decide) ?_
      refine rn_iret dX10_in_15 rfl rfl (rq_in ?_)
      refine rn_stk [.int (0 : Int32), .ref o0_] rfl ?_
      refine rn_if_ne (tgt := 24) dX10_count_17 (by decide) (fun h17 => (cx_ne (cv_ne h17) rk_0 rk_0 (by decide)).elim) (fun h17 => ?_)
      refine rn_iconst (v := (1 : Int32)) dX10_count_20 (by decide) ?_
      refine rn_goto (tgt := 25) dX10_count_21 (by decide) ?_
      refine rn_iconst (v := (1 : Int32)) dX10_count_25 (by decide) ?_
      refine rn_inV (d' := 0) (z' := 0) [.int (1 : Int32), .int (1 : Int32)] kl_SGModel_171 dX10_count_26 q1 hl3 rfl rfl rfl (Nat.le_of_ble_eq_true rfl) (Nat.le_of_ble_eq_true rfl) (Nat.le_of_ble_eq_true rfl) (Nat.le_of_ble_eq_true rfl) ?_
      refine rn_lv [(0, .ref o0_), (1, .int (1 : Int32)), (2, .int (1 : Int32))] rfl ?_
      refine rn_aload_n (i := 0) dX10_refuses_0 rfl rfl ?_
      refine rn_get q1 kg_SGModel_137 hl3 hx3 dX10_refuses_1 ?_
      refine rn_if_ne (tgt := 16) dX10_refuses_4 (by decide) (fun h18 => (cx_ne (cv_ne h18) rk_0 rk_0 (by decide)).elim) (fun h18 => ?_)
      refine rn_iload_n (i := 1) dX10_refuses_7 rfl rfl ?_
      refine rn_if_eq (tgt := 16) dX10_refuses_8 (by decide) (fun h19 => (cx_eq (cv_eq h19) rk_1 rk_0 (by decide)).elim) (fun h19 => ?_)
      refine rn_aload_n (i := 0) dX10_refuses_11 rfl rfl ?_
      refine rn_iload_n (i := 2) dX10_refuses_12 rfl rfl ?_
      refine rs_put q1 (kp_SGModel_137 _) hS3 hq1 hl3 hf3 hk_30 rfl rfl (tv_i (rg_w rk_1 (by decide) (by decide))) rfl rfl dX10_refuses_13 (fun w20 fs21 hS21 hl21 hf21 hx21 ho21 hn21 => ?_)
      refine rn_aload_n (i := 0) dX10_refuses_16 rfl rfl ?_
      refine rn_get q1 kg_SGModel_137 hl21 hx21 dX10_refuses_17 ?_
      refine rn_if_le (tgt := 27) dX10_refuses_20 (by decide) (fun h22 => (cx_le (cv_le h22) rk_1 rk_0 (by decide)).elim) (fun h22 => ?_)
      refine rn_iconst (v := (1 : Int32)) dX10_refuses_23 (by decide) ?_
      refine rn_goto (tgt := 28) dX10_refuses_24 (by decide) ?_
      refine rn_iret dX10_refuses_28 rfl rfl (rq_in ?_)
      refine rn_stk [.int (1 : Int32)] rfl ?_
      refine rn_if_ne (tgt := 68) dX10_count_29 (by decide) (fun h23 => ?_) (fun h23 => (cx_eq (cv_eq h23) rk_1 rk_0 (by decide)).elim)
      refine rn_lconst (v := (0 : Int64)) dX10_count_68 (by decide) ?_
      exact rn_lret dX10_count_69 rfl (rq_in ⟨hS21, (0 : Int64), rfl⟩)
    · have ch16 := cv_nlt h16
      have r24 : Rg (0) (15) x1_ := rf_lex ch16 r15 rv5 (by decide)
      have r25 : Rg (0) (15) v5 := rf_ley ch16 r15 rv5 (by decide)
      refine rn_iconst (v := (1 : Int32)) dX10_in_10 (by decide) ?_
      refine rn_goto (tgt := 15) dX10_in_11 (by decide) ?_
      refine rn_iret dX10_in_15 rfl rfl (rq_in ?_)
      refine rn_stk [.int (1 : Int32), .ref o0_] rfl ?_
      refine rn_if_ne (tgt := 24) dX10_count_17 (by decide) (fun h26 => ?_) (fun h26 => (cx_eq (cv_eq h26) rk_1 rk_0 (by decide)).elim)
      refine rn_iconst (v := (0 : Int32)) dX10_count_24 (by decide) ?_
      refine rn_iconst (v := (1 : Int32)) dX10_count_25 (by decide) ?_
      refine rn_inV (d' := 0) (z' := 0) [.int (0 : Int32), .int (1 : Int32)] kl_SGModel_171 dX10_count_26 q1 hl3 rfl rfl rfl (Nat.le_of_ble_eq_true rfl) (Nat.le_of_ble_eq_true rfl) (Nat.le_of_ble_eq_true rfl) (Nat.le_of_ble_eq_true rfl) ?_
      refine rn_lv [(0, .ref o0_), (1, .int (0 : Int32)), (2, .int (1 : Int32))] rfl ?_
      refine rn_aload_n (i := 0) dX10_refuses_0 rfl rfl ?_
      refine rn_get q1 kg_SGModel_137 hl3 hx3 dX10_refuses_1 ?_
      refine rn_if_ne (tgt := 16) dX10_refuses_4 (by decide) (fun h27 => (cx_ne (cv_ne h27) rk_0 rk_0 (by decide)).elim) (fun h27 => ?_)
      refine rn_iload_n (i := 1) dX10_refuses_7 rfl rfl ?_
      refine rn_if_eq (tgt := 16) dX10_refuses_8 (by decide) (fun h28 => ?_) (fun h28 => (cx_ne (cv_ne h28) rk_0 rk_0 (by decide)).elim)
      refine rn_aload_n (i := 0) dX10_refuses_16 rfl rfl ?_
      refine rn_get q1 kg_SGModel_137 hl3 hx3 dX10_refuses_17 ?_
      refine rn_if_le (tgt := 27) dX10_refuses_20 (by decide) (fun h29 => ?_) (fun h29 => (cx_lt (cv_nle h29) rk_0 rk_0 (by decide)).elim)
      refine rn_iconst (v := (0 : Int32)) dX10_refuses_27 (by decide) ?_
      refine rn_iret dX10_refuses_28 rfl rfl (rq_in ?_)
      refine rn_stk [.int (0 : Int32)] rfl ?_
      refine rn_if_ne (tgt := 68) dX10_count_29 (by decide) (fun h30 => (cx_ne (cv_ne h30) rk_0 rk_0 (by decide)).elim) (fun h30 => ?_)
      refine rn_aload_n (i := 0) dX10_count_32 rfl rfl ?_
      refine rn_lload_n (i := 2) dX10_count_33 rfl rfl ?_
      refine rn_lconst (v := (0 : Int64)) dX10_count_34 (by decide) ?_
      refine rn_lcmp dX10_count_35 (rn_tn (-1) 1 (rg_lcmp _ _) (fun v31 rv31 => ?_))
      refine rn_if_lt (tgt := 56) dX10_count_36 (by decide) (fun h32 => ?_) (fun h32 => ?_)
      · have ch32 := cv_lt h32
        have r33 : Rg (-1) (-1) v31 := rf_ltx ch32 rv31 rk_0 (by decide)
        refine rn_iconst (v := (1 : Int32)) dX10_count_56 (by decide) ?_
        refine rn_goto (tgt := 61) dX10_count_57 (by decide) ?_
        refine rn_iconst (v := (2 : Int32)) dX10_count_61 (by decide) ?_
        refine rn_inV (d' := 0) (z' := 0) [.int (1 : Int32), .int (2 : Int32)] kl_SGModel_171 dX10_count_62 q1 hl3 rfl rfl rfl (Nat.le_of_ble_eq_true rfl) (Nat.le_of_ble_eq_true rfl) (Nat.le_of_ble_eq_true rfl) (Nat.le_of_ble_eq_true rfl) ?_
        refine rn_lv [(0, .ref o0_), (1, .int (1 : Int32)), (2, .int (2 : Int32))] rfl ?_
        refine rn_aload_n (i := 0) dX10_refuses_0 rfl rfl ?_
        refine rn_get q1 kg_SGModel_137 hl3 hx3 dX10_refuses_1 ?_
        refine rn_if_ne (tgt := 16) dX10_refuses_4 (by decide) (fun h34 => (cx_ne (cv_ne h34) rk_0 rk_0 (by decide)).elim) (fun h34 => ?_)
        refine rn_iload_n (i := 1) dX10_refuses_7 rfl rfl ?_
        refine rn_if_eq (tgt := 16) dX10_refuses_8 (by decide) (fun h35 => (cx_eq (cv_eq h35) rk_1 rk_0 (by decide)).elim) (fun h35 => ?_)
        refine rn_aload_n (i := 0) dX10_refuses_11 rfl rfl ?_
        refine rn_iload_n (i := 2) dX10_refuses_12 rfl rfl ?_
        refine rs_put q1 (kp_SGModel_137 _) hS3 hq1 hl3 hf3 hk_30 rfl rfl (tv_i (rg_w rk_2 (by decide) (by decide))) rfl rfl dX10_refuses_13 (fun w36 fs37 hS37 hl37 hf37 hx37 ho37 hn37 => ?_)
        refine rn_aload_n (i := 0) dX10_refuses_16 rfl rfl ?_
        refine rn_get q1 kg_SGModel_137 hl37 hx37 dX10_refuses_17 ?_
        refine rn_if_le (tgt := 27) dX10_refuses_20 (by decide) (fun h38 => (cx_le (cv_le h38) rk_2 rk_0 (by decide)).elim) (fun h38 => ?_)
        refine rn_iconst (v := (1 : Int32)) dX10_refuses_23 (by decide) ?_
        refine rn_goto (tgt := 28) dX10_refuses_24 (by decide) ?_
        refine rn_iret dX10_refuses_28 rfl rfl (rq_in ?_)
        refine rn_stk [.int (1 : Int32)] rfl ?_
        refine rn_if_eq (tgt := 70) dX10_count_65 (by decide) (fun h39 => (cx_eq (cv_eq h39) rk_1 rk_0 (by decide)).elim) (fun h39 => ?_)
        refine rn_lconst (v := (0 : Int64)) dX10_count_68 (by decide) ?_
        exact rn_lret dX10_count_69 rfl (rq_in ⟨hS37, (0 : Int64), rfl⟩)
      · have ch32 := cv_nlt h32
        have r40 : Rg (0) (1) v31 := rf_ley ch32 rk_0 rv31 (by decide)
        refine rn_aload_n (i := 0) dX10_count_39 rfl rfl ?_
        obtain ⟨o41, hx41, m41⟩ := fs_r hf3 28 rfl
        refine rn_get q1 kg_SGModel_73 hl3 hx41 dX10_count_40 ?_
        refine rn_iload_n (i := 1) dX10_count_43 rfl rfl ?_
        obtain ⟨q42, f42, hq42, hl42, hf42⟩ := ts_ia hS3.1 m41 hk_59
        refine rs_zald q42 hl42 hf42 rfl r24 (by decide) (by decide) dX10_count_44 (fun v43 ev43 rv43 => ?_)
        refine rn_if_ne (tgt := 60) dX10_count_45 (by decide) (fun h44 => ?_) (fun h44 => ?_)
        · have ch44 := cv_ne h44
          have r45 : Rg (1) (1) v43 := rf_nel ch44 rv43 rk_0 (by decide) (by decide)
          refine rn_iconst (v := (0 : Int32)) dX10_count_60 (by decide) ?_
          refine rn_iconst (v := (2 : Int32)) dX10_count_61 (by decide) ?_
          refine rn_inV (d' := 0) (z' := 0) [.int (0 : Int32), .int (2 : Int32)] kl_SGModel_171 dX10_count_62 q1 hl3 rfl rfl rfl (Nat.le_of_ble_eq_true rfl) (Nat.le_of_ble_eq_true rfl) (Nat.le_of_ble_eq_true rfl) (Nat.le_of_ble_eq_true rfl) ?_
          refine rn_lv [(0, .ref o0_), (1, .int (0 : Int32)), (2, .int (2 : Int32))] rfl ?_
          refine rn_aload_n (i := 0) dX10_refuses_0 rfl rfl ?_
          refine rn_get q1 kg_SGModel_137 hl3 hx3 dX10_refuses_1 ?_
          refine rn_if_ne (tgt := 16) dX10_refuses_4 (by decide) (fun h46 => (cx_ne (cv_ne h46) rk_0 rk_0 (by decide)).elim) (fun h46 => ?_)
          refine rn_iload_n (i := 1) dX10_refuses_7 rfl rfl ?_
          refine rn_if_eq (tgt := 16) dX10_refuses_8 (by decide) (fun h47 => ?_) (fun h47 => (cx_ne (cv_ne h47) rk_0 rk_0 (by decide)).elim)
          refine rn_aload_n (i := 0) dX10_refuses_16 rfl rfl ?_
          refine rn_get q1 kg_SGModel_137 hl3 hx3 dX10_refuses_17 ?_
          refine rn_if_le (tgt := 27) dX10_refuses_20 (by decide) (fun h48 => ?_) (fun h48 => (cx_lt (cv_nle h48) rk_0 rk_0 (by decide)).elim)
          refine rn_iconst (v := (0 : Int32)) dX10_refuses_27 (by decide) ?_
          refine rn_iret dX10_refuses_28 rfl rfl (rq_in ?_)
          refine rn_stk [.int (0 : Int32)] rfl ?_
          refine rn_if_eq (tgt := 70) dX10_count_65 (by decide) (fun h49 => ?_) (fun h49 => (cx_ne (cv_ne h49) rk_0 rk_0 (by decide)).elim)
          refine rn_aload_n (i := 0) dX10_count_70 rfl rfl ?_
          obtain ⟨o50, hx50, m50⟩ := fs_r hf3 31 rfl
          refine rn_get q1 kg_SGModel_83 hl3 hx50 dX10_count_71 ?_
          refine rn_iload_n (i := 1) dX10_count_74 rfl rfl ?_
          obtain ⟨q51, f51, hq51, hl51⟩ := ts_la hS3.1 m50 hk_62
          refine rs_lald q51 hl51 rfl r24 (by decide) (by decide) dX10_count_75 (fun v52 ev52 => ?_)
          refine rn_lstore dX10_count_76 (by decide) [(0, .ref o0_), (1, .int x1_), (2, .long y2_), (4, .long v52)] rfl ?_
          refine rn_aload_n (i := 0) dX10_count_78 rfl rfl ?_
          refine rn_get q1 kg_SGModel_83 hl3 hx50 dX10_count_79 ?_
          refine rn_iload_n (i := 1) dX10_count_82 rfl rfl ?_
          refine rn_lload_n (i := 2) dX10_count_83 rfl rfl ?_
          refine rs_last q51 hS3 hq51 hl51 hk_62 rfl rfl r24 (by decide) (by decide) dX10_count_84 (fun w53 f54 hS54 hl54 hu54 hn54 => ?_)
          refine rn_aload_n (i := 0) dX10_count_85 rfl rfl ?_
          obtain ⟨o55, hx55, m55⟩ := fs_r hf3 32 rfl
          refine rn_get q1 kg_SGModel_86 ((hn54 _ (ts_ne hq51 hq1 rfl)).trans hl3) hx55 dX10_count_86 ?_
          refine rn_iload_n (i := 1) dX10_count_89 rfl rfl ?_
          refine rn_aload_n (i := 0) dX10_count_90 rfl rfl ?_
          obtain ⟨o56, hx56, m56⟩ := fs_r hf3 23 rfl
          refine rn_get q1 kg_SGModel_57 ((hn54 _ (ts_ne hq51 hq1 rfl)).trans hl3) hx56 dX10_count_91 ?_
          refine rn_iload_n (i := 1) dX10_count_94 rfl rfl ?_
          obtain ⟨q57, f57, hq57, hl57, hf57⟩ := ts_ia hS54.1 m56 hk_54
          refine rs_iald q57 hl57 hf57 rfl r24 (by decide) (by decide) dX10_count_95 (fun v58 ev58 rv58 => ?_)
          refine rn_iconst (v := (1 : Int32)) dX10_count_96 (by decide) ?_
          refine rn_icmp_ne (tgt := 110) dX10_count_97 (by decide) (fun h59 => ?_) (fun h59 => ?_)
          · have ch59 := cv_ne h59
            refine rn_lconst (v := (0 : Int64)) dX10_count_110 (by decide) ?_
            obtain ⟨q60, f60, hq60, hl60⟩ := ts_la hS54.1 m55 hk_63
            refine rs_last q60 hS54 hq60 hl60 hk_63 rfl rfl r24 (by decide) (by decide) dX10_count_111 (fun w61 f62 hS62 hl62 hu62 hn62 => ?_)
            refine rn_lload dX10_count_112 rfl ?_
            exact rn_lret dX10_count_114 rfl (rq_in ⟨hS62, v52, rfl⟩)
          · have ch59 := cv_eq h59
            have r63 : Rg (1) (1) v58 := rf_eqx ch59 rv58 rk_1 (by decide) (by decide)
            refine rn_lload_n (i := 2) dX10_count_100 rfl rfl ?_
            refine rn_lconst (v := (0 : Int64)) dX10_count_101 (by decide) ?_
            refine rn_lcmp dX10_count_102 (rn_tn (-1) 1 (rg_lcmp _ _) (fun v64 rv64 => ?_))
            refine rn_if_eq (tgt := 110) dX10_count_103 (by decide) (fun h65 => ?_) (fun h65 => ?_)
            · have ch65 := cv_eq h65
              have r66 : Rg (0) (0) v64 := rf_eqx ch65 rv64 rk_0 (by decide) (by decide)
              refine rn_lconst (v := (0 : Int64)) dX10_count_110 (by decide) ?_
              obtain ⟨q67, f67, hq67, hl67⟩ := ts_la hS54.1 m55 hk_63
              refine rs_last q67 hS54 hq67 hl67 hk_63 rfl rfl r24 (by decide) (by decide) dX10_count_111 (fun w68 f69 hS69 hl69 hu69 hn69 => ?_)
              refine rn_lload dX10_count_112 rfl ?_
              exact rn_lret dX10_count_114 rfl (rq_in ⟨hS69, v52, rfl⟩)
            · have ch65 := cv_ne h65
              refine rn_lconst (v := (1 : Int64)) dX10_count_106 (by decide) ?_
              refine rn_goto (tgt := 111) dX10_count_107 (by decide) ?_
              obtain ⟨q70, f70, hq70, hl70⟩ := ts_la hS54.1 m55 hk_63
              refine rs_last q70 hS54 hq70 hl70 hk_63 rfl rfl r24 (by decide) (by decide) dX10_count_111 (fun w71 f72 hS72 hl72 hu72 hn72 => ?_)
              refine rn_lload dX10_count_112 rfl ?_
              exact rn_lret dX10_count_114 rfl (rq_in ⟨hS72, v52, rfl⟩)
        · have ch44 := cv_eq h44
          have r73 : Rg (0) (0) v43 := rf_eqx ch44 rv43 rk_0 (by decide) (by decide)
          refine rn_lload_n (i := 2) dX10_count_48 rfl rfl ?_
          refine rn_ldc2 (v := (4294967295 : Int64)) wd_1355 dX10_count_49 ?_
          refine rn_lcmp dX10_count_52 (rn_tn (-1) 1 (rg_lcmp _ _) (fun v74 rv74 => ?_))
          refine rn_if_le (tgt := 60) dX10_count_53 (by decide) (fun h75 => ?_) (fun h75 => ?_)
          · have ch75 := cv_le h75
            have r76 : Rg (-1) (0) v74 := rf_lex ch75 rv74 rk_0 (by decide)
            refine rn_iconst (v := (0 : Int32)) dX10_count_60 (by decide) ?_
            refine rn_iconst (v := (2 : Int32)) dX10_count_61 (by decide) ?_
            refine rn_inV (d' := 0) (z' := 0) [.int (0 : Int32), .int (2 : Int32)] kl_SGModel_171 dX10_count_62 q1 hl3 rfl rfl rfl (Nat.le_of_ble_eq_true rfl) (Nat.le_of_ble_eq_true rfl) (Nat.le_of_ble_eq_true rfl) (Nat.le_of_ble_eq_true rfl) ?_
            refine rn_lv [(0, .ref o0_), (1, .int (0 : Int32)), (2, .int (2 : Int32))] rfl ?_
            refine rn_aload_n (i := 0) dX10_refuses_0 rfl rfl ?_
            refine rn_get q1 kg_SGModel_137 hl3 hx3 dX10_refuses_1 ?_
            refine rn_if_ne (tgt := 16) dX10_refuses_4 (by decide) (fun h77 => (cx_ne (cv_ne h77) rk_0 rk_0 (by decide)).elim) (fun h77 => ?_)
            refine rn_iload_n (i := 1) dX10_refuses_7 rfl rfl ?_
            refine rn_if_eq (tgt := 16) dX10_refuses_8 (by decide) (fun h78 => ?_) (fun h78 => (cx_ne (cv_ne h78) rk_0 rk_0 (by decide)).elim)
            refine rn_aload_n (i := 0) dX10_refuses_16 rfl rfl ?_
            refine rn_get q1 kg_SGModel_137 hl3 hx3 dX10_refuses_17 ?_
            refine rn_if_le (tgt := 27) dX10_refuses_20 (by decide) (fun h79 => ?_) (fun h79 => (cx_lt (cv_nle h79) rk_0 rk_0 (by decide)).elim)
            refine rn_iconst (v := (0 : Int32)) dX10_refuses_27 (by decide) ?_
            refine rn_iret dX10_refuses_28 rfl rfl (rq_in ?_)
            refine rn_stk [.int (0 : Int32)] rfl ?_
            refine rn_if_eq (tgt := 70) dX10_count_65 (by decide) (fun h80 => ?_) (fun h80 => (cx_ne (cv_ne h80) rk_0 rk_0 (by decide)).elim)
            refine rn_aload_n (i := 0) dX10_count_70 rfl rfl ?_
            obtain ⟨o81, hx81, m81⟩ := fs_r hf3 31 rfl
            refine rn_get q1 kg_SGModel_83 hl3 hx81 dX10_count_71 ?_
            refine rn_iload_n (i := 1) dX10_count_74 rfl rfl ?_
            obtain ⟨q82, f82, hq82, hl82⟩ := ts_la hS3.1 m81 hk_62
            refine rs_lald q82 hl82 rfl r24 (by decide) (by decide) dX10_count_75 (fun v83 ev83 => ?_)
            refine rn_lstore dX10_count_76 (by decide) [(0, .ref o0_), (1, .int x1_), (2, .long y2_), (4, .long v83)] rfl ?_
            refine rn_aload_n (i := 0) dX10_count_78 rfl rfl ?_
            refine rn_get q1 kg_SGModel_83 hl3 hx81 dX10_count_79 ?_
            refine rn_iload_n (i := 1) dX10_count_82 rfl rfl ?_
            refine rn_lload_n (i := 2) dX10_count_83 rfl rfl ?_
            refine rs_last q82 hS3 hq82 hl82 hk_62 rfl rfl r24 (by decide) (by decide) dX10_count_84 (fun w84 f85 hS85 hl85 hu85 hn85 => ?_)
            refine rn_aload_n (i := 0) dX10_count_85 rfl rfl ?_
            obtain ⟨o86, hx86, m86⟩ := fs_r hf3 32 rfl
            refine rn_get q1 kg_SGModel_86 ((hn85 _ (ts_ne hq82 hq1 rfl)).trans hl3) hx86 dX10_count_86 ?_
            refine rn_iload_n (i := 1) dX10_count_89 rfl rfl ?_
            refine rn_aload_n (i := 0) dX10_count_90 rfl rfl ?_
            obtain ⟨o87, hx87, m87⟩ := fs_r hf3 23 rfl
            refine rn_get q1 kg_SGModel_57 ((hn85 _ (ts_ne hq82 hq1 rfl)).trans hl3) hx87 dX10_count_91 ?_
            refine rn_iload_n (i := 1) dX10_count_94 rfl rfl ?_
            obtain ⟨q88, f88, hq88, hl88, hf88⟩ := ts_ia hS85.1 m87 hk_54
            refine rs_iald q88 hl88 hf88 rfl r24 (by decide) (by decide) dX10_count_95 (fun v89 ev89 rv89 => ?_)
            refine rn_iconst (v := (1 : Int32)) dX10_count_96 (by decide) ?_
            refine rn_icmp_ne (tgt := 110) dX10_count_97 (by decide) (fun h90 => ?_) (fun h90 => ?_)
            · have ch90 := cv_ne h90
              refine rn_lconst (v := (0 : Int64)) dX10_count_110 (by decide) ?_
              obtain ⟨q91, f91, hq91, hl91⟩ := ts_la hS85.1 m86 hk_63
              refine rs_last q91 hS85 hq91 hl91 hk_63 rfl rfl r24 (by decide) (by decide) dX10_count_111 (fun w92 f93 hS93 hl93 hu93 hn93 => ?_)
              refine rn_lload dX10_count_112 rfl ?_
              exact rn_lret dX10_count_114 rfl (rq_in ⟨hS93, v83, rfl⟩)
            · have ch90 := cv_eq h90
              have r94 : Rg (1) (1) v89 := rf_eqx ch90 rv89 rk_1 (by decide) (by decide)
              refine rn_lload_n (i := 2) dX10_count_100 rfl rfl ?_
              refine rn_lconst (v := (0 : Int64)) dX10_count_101 (by decide) ?_
              refine rn_lcmp dX10_count_102 (rn_tn (-1) 1 (rg_lcmp _ _) (fun v95 rv95 => ?_))
              refine rn_if_eq (tgt := 110) dX10_count_103 (by decide) (fun h96 => ?_) (fun h96 => ?_)
              · have ch96 := cv_eq h96
                have r97 : Rg (0) (0) v95 := rf_eqx ch96 rv95 rk_0 (by decide) (by decide)
                refine rn_lconst (v := (0 : Int64)) dX10_count_110 (by decide) ?_
                obtain ⟨q98, f98, hq98, hl98⟩ := ts_la hS85.1 m86 hk_63
                refine rs_last q98 hS85 hq98 hl98 hk_63 rfl rfl r24 (by decide) (by decide) dX10_count_111 (fun w99 f100 hS100 hl100 hu100 hn100 => ?_)
                refine rn_lload dX10_count_112 rfl ?_
                exact rn_lret dX10_count_114 rfl (rq_in ⟨hS100, v83, rfl⟩)
              · have ch96 := cv_ne h96
                refine rn_lconst (v := (1 : Int64)) dX10_count_106 (by decide) ?_
                refine rn_goto (tgt := 111) dX10_count_107 (by decide) ?_
                obtain ⟨q101, f101, hq101, hl101⟩ := ts_la hS85.1 m86 hk_63
                refine rs_last q101 hS85 hq101 hl101 hk_63 rfl rfl r24 (by decide) (by decide) dX10_count_111 (fun w102 f103 hS103 hl103 hu103 hn103 => ?_)
                refine rn_lload dX10_count_112 rfl ?_
                exact rn_lret dX10_count_114 rfl (rq_in ⟨hS103, v83, rfl⟩)
          · have ch75 := cv_nle h75
            have r104 : Rg (1) (1) v74 := rf_lty ch75 rk_0 rv74 (by decide)
            refine rn_iconst (v := (1 : Int32)) dX10_count_56 (by decide) ?_
            refine rn_goto (tgt := 61) dX10_count_57 (by decide) ?_
            refine rn_iconst (v := (2 : Int32)) dX10_count_61 (by decide) ?_
            refine rn_inV (d' := 0) (z' := 0) [.int (1 : Int32), .int (2 : Int32)] kl_SGModel_171 dX10_count_62 q1 hl3 rfl rfl rfl (Nat.le_of_ble_eq_true rfl) (Nat.le_of_ble_eq_true rfl) (Nat.le_of_ble_eq_true rfl) (Nat.le_of_ble_eq_true rfl) ?_
            refine rn_lv [(0, .ref o0_), (1, .int (1 : Int32)), (2, .int (2 : Int32))] rfl ?_
            refine rn_aload_n (i := 0) dX10_refuses_0 rfl rfl ?_
            refine rn_get q1 kg_SGModel_137 hl3 hx3 dX10_refuses_1 ?_
            refine rn_if_ne (tgt := 16) dX10_refuses_4 (by decide) (fun h105 => (cx_ne (cv_ne h105) rk_0 rk_0 (by decide)).elim) (fun h105 => ?_)
            refine rn_iload_n (i := 1) dX10_refuses_7 rfl rfl ?_
            refine rn_if_eq (tgt := 16) dX10_refuses_8 (by decide) (fun h106 => (cx_eq (cv_eq h106) rk_1 rk_0 (by decide)).elim) (fun h106 => ?_)
            refine rn_aload_n (i := 0) dX10_refuses_11 rfl rfl ?_
            refine rn_iload_n (i := 2) dX10_refuses_12 rfl rfl ?_
            refine rs_put q1 (kp_SGModel_137 _) hS3 hq1 hl3 hf3 hk_30 rfl rfl (tv_i (rg_w rk_2 (by decide) (by decide))) rfl rfl dX10_refuses_13 (fun w107 fs108 hS108 hl108 hf108 hx108 ho108 hn108 => ?_)
            refine rn_aload_n (i := 0) dX10_refuses_16 rfl rfl ?_
            refine rn_get q1 kg_SGModel_137 hl108 hx108 dX10_refuses_17 ?_
            refine rn_if_le (tgt := 27) dX10_refuses_20 (by decide) (fun h109 => (cx_le (cv_le h109) rk_2 rk_0 (by decide)).elim) (fun h109 => ?_)
            refine rn_iconst (v := (1 : Int32)) dX10_refuses_23 (by decide) ?_
            refine rn_goto (tgt := 28) dX10_refuses_24 (by decide) ?_
            refine rn_iret dX10_refuses_28 rfl rfl (rq_in ?_)
            refine rn_stk [.int (1 : Int32)] rfl ?_
            refine rn_if_eq (tgt := 70) dX10_count_65 (by decide) (fun h110 => (cx_eq (cv_eq h110) rk_1 rk_0 (by decide)).elim) (fun h110 => ?_)
            refine rn_lconst (v := (0 : Int64)) dX10_count_68 (by decide) ?_
            exact rn_lret dX10_count_69 rfl (rq_in ⟨hS108, (0 : Int64), rfl⟩)
