abbrev q_t_X10_isDead (G : rn_G) (S : ts_S) (ws : va_W) : rn_R → va_W → Prop := rQ (fun v w => ws = w ∧ (∃ x : Int32, v = some (.int x) ∧ Rg (0) (1) x)) (fun E w => False)
set_option maxRecDepth 20000 in
set_option maxHeartbeats 4000000 in
theorem t_X10_isDead (G : rn_G) (S : ts_S) (ws : va_W) (hW : ts_W G S ws) (o0_ : Nat) (m0_ : (o0_, 30) ∈ S) (x1_ : Int32) (r1_ : Rg (0) (15) x1_) : Rn G mX10_isDead 0 0 0 0 0 (lv_args 0 [.ref o0_, .int x1_]) [] ws (q_t_X10_isDead G S ws ) := by
  refine rn_lv [(0, .ref o0_), (1, .int x1_)] rfl ?_
  refine rn_aload_n (i := 0) dX10_isDead_0 rfl rfl ?_
  obtain ⟨q1, fs1, hq1, hl1, hf1⟩ := ts_obj hW m0_ hk_30
  obtain ⟨o2, hx2, m2⟩ := fs_r hf1 30 rfl
  refine rn_get q1 kg_SGModel_80 hl1 hx2 dX10_isDead_1 ?_
  refine rn_iload_n (i := 1) dX10_isDead_4 rfl rfl ?_
  obtain ⟨q3, f3, hq3, hl3, hf3⟩ := ts_ia hW m2 hk_61
  refine rs_zald q3 hl3 hf3 rfl r1_ (by decide) (by decide) dX10_isDead_5 (fun v4 ev4 rv4 => ?_)
  refine rn_if_ne (tgt := 18) dX10_isDead_6 (by decide) (fun h5 => ?_) (fun h5 => ?_)
  · have ch5 := cv_ne h5
    have r6 : Rg (1) (1) v4 := rf_nel ch5 rv4 rk_0 (by decide) (by decide)
    refine rn_iconst (v := (1 : Int32)) dX10_isDead_18 (by decide) ?_
    refine rn_goto (tgt := 23) dX10_isDead_19 (by decide) ?_
    exact rn_iret dX10_isDead_23 rfl rfl (rq_in ⟨rfl, (1 : Int32), rfl, (rg_w rk_1 (by decide) (by decide))⟩)
  · have ch5 := cv_eq h5
    have r7 : Rg (0) (0) v4 := rf_eqx ch5 rv4 rk_0 (by decide) (by decide)
    refine rn_aload_n (i := 0) dX10_isDead_9 rfl rfl ?_
    obtain ⟨o8, hx8, m8⟩ := fs_r hf1 29 rfl
    refine rn_get q1 kg_SGModel_77 hl1 hx8 dX10_isDead_10 ?_
    refine rn_iload_n (i := 1) dX10_isDead_13 rfl rfl ?_
    obtain ⟨q9, f9, hq9, hl9, hf9⟩ := ts_ia hW m8 hk_60
    refine rs_iald q9 hl9 hf9 rfl r1_ (by decide) (by decide) dX10_isDead_14 (fun v10 ev10 rv10 => ?_)
    refine rn_if_ne (tgt := 22) dX10_isDead_15 (by decide) (fun h11 => ?_) (fun h11 => ?_)
    · have ch11 := cv_ne h11
      refine rn_iconst (v := (0 : Int32)) dX10_isDead_22 (by decide) ?_
      exact rn_iret dX10_isDead_23 rfl rfl (rq_in ⟨rfl, (0 : Int32), rfl, (rg_w rk_0 (by decide) (by decide))⟩)
    · have ch11 := cv_eq h11
      have r12 : Rg (0) (0) v10 := rf_eqx ch11 rv10 rk_0 (by decide) (by decide)
      refine rn_iconst (v := (1 : Int32)) dX10_isDead_18 (by decide) ?_
      refine rn_goto (tgt := 23) dX10_isDead_19 (by decide) ?_
      exact rn_iret dX10_isDead_23 rfl rfl (rq_in ⟨rfl, (1 : Int32), rfl, (rg_w rk_1 (by decide) (by decide))⟩)
abbrev q_t_X10_stop (G : rn_G) (S : ts_S) (ws : va_W) : rn_R → va_W → Prop := rQ (fun v w => St G S [30, 61] ws S w ∧ (∃ x : Int32, v = some (.int x) ∧ Rg (0) (1) x ∧ fK1 4 S ws w)) (fun E w => False)
set_option maxRecDepth 20000 in
set_option maxHeartbeats 4000000 in
theorem t_X10_stop (G : rn_G) (S : ts_S) (ws : va_W) (hW : ts_W G S ws) (o0_ : Nat) (m0_ : (o0_, 30) ∈ S) (x1_ : Int32) : Rn G mX10_stop 1 22 0 0 0 (lv_args 0 [.ref o0_, .int x1_]) [] ws (q_t_X10_stop G S ws ) := by
  have hS0 : St G S [30, 61] ws S ws := St.rf hW
  have fk0 : fK1 4 S ws ws := fun v h => h
  refine rn_lv [(0, .ref o0_), (1, .int x1_)] rfl ?_
  refine rn_aload_n (i := 0) dX10_stop_0 rfl rfl ?_
  refine rn_iconst (v := (0 : Int32)) dX10_stop_1 (by decide) ?_
  obtain ⟨q1, fs1, hq1, hl1, hf1⟩ := ts_obj hS0.1 m0_ hk_30
  refine rs_put q1 (kp_SGModel_137 _) hS0 hq1 hl1 hf1 hk_30 rfl rfl (tv_i (rg_w rk_0 (by decide) (by decide))) rfl rfl dX10_stop_2 (fun w2 fs3 hS3 hl3 hf3 hx3 ho3 hn3 => ?_)
  have fk4 : fK1 4 S ws w2 := fk_put fk0 hS0.1 hq1 hl1 hl3 ho3 (by decide)
  refine rn_aload_n (i := 0) dX10_stop_5 rfl rfl ?_
  refine rn_iload_n (i := 1) dX10_stop_6 rfl rfl ?_
  refine rn_iconst (v := (0 : Int32)) dX10_stop_7 (by decide) ?_
  refine rn_aload_n (i := 0) dX10_stop_8 rfl rfl ?_
  obtain ⟨x5, hx5, rx5⟩ := fs_i hf3 22 rfl
  refine rn_get q1 kg_SGModel_200 hl3 hx5 dX10_stop_9 ?_
  refine rn_iconst (v := (1 : Int32)) dX10_stop_12 (by decide) ?_
  refine rs_subC (-1) (15) rx5 rk_1 dX10_stop_13 (by decide) (fun v6 ev6 rv6 => ?_)
  refine rn_inS (d' := 0) (z' := 0) [.int x1_, .int (0 : Int32), .int v6] kl_SGModel_179 dX10_stop_14 rfl rfl (Nat.le_of_ble_eq_true rfl) (Nat.le_of_ble_eq_true rfl) (Nat.le_of_ble_eq_true rfl) (Nat.le_of_ble_eq_true rfl) ?_
  refine rn_lv [(0, .int x1_), (1, .int (0 : Int32)), (2, .int v6)] rfl ?_
  refine rn_iload_n (i := 0) dX10_in_0 rfl rfl ?_
  refine rn_iload_n (i := 1) dX10_in_1 rfl rfl ?_
  refine rn_icmp_lt (tgt := 14) dX10_in_2 (by decide) (fun h7 => ?_) (fun h7 => ?_)
  · have ch7 := cv_lt h7
    have r8 : Rg (-2147483648) (-1) x1_ := rf_ltx ch7 (rg_any x1_) rk_0 (by decide)
    refine rn_iconst (v := (0 : Int32)) dX10_in_14 (by decide) ?_
    refine rn_iret dX10_in_15 rfl rfl (rq_in ?_)
    refine rn_stk [.int (0 : Int32), .ref o0_] rfl ?_
    refine rn_if_ne (tgt := 24) dX10_stop_17 (by decide) (fun h9 => (cx_ne (cv_ne h9) rk_0 rk_0 (by decide)).elim) (fun h9 => ?_)
    refine rn_iconst (v := (1 : Int32)) dX10_stop_20 (by decide) ?_
    refine rn_goto (tgt := 25) dX10_stop_21 (by decide) ?_
    refine rn_iconst (v := (1 : Int32)) dX10_stop_25 (by decide) ?_
    refine rn_inV (d' := 0) (z' := 0) [.int (1 : Int32), .int (1 : Int32)] kl_SGModel_171 dX10_stop_26 q1 hl3 rfl rfl rfl (Nat.le_of_ble_eq_true rfl) (Nat.le_of_ble_eq_true rfl) (Nat.le_of_ble_eq_true rfl) (Nat.le_of_ble_eq_true rfl) ?_
    refine rn_lv [(0, .ref o0_), (1, .int (1 : Int32)), (2, .int (1 : Int32))] rfl ?_
    refine rn_aload_n (i := 0) dX10_refuses_0 rfl rfl ?_
    refine rn_get q1 kg_SGModel_137 hl3 hx3 dX10_refuses_1 ?_
    refine rn_if_ne (tgt := 16) dX10_refuses_4 (by decide) (fun h10 => (cx_ne (cv_ne h10) rk_0 rk_0 (by decide)).elim) (fun h10 => ?_)
    refine rn_iload_n (i := 1) dX10_refuses_7 rfl rfl ?_
    refine rn_if_eq (tgt := 16) dX10_refuses_8 (by decide) (fun h11 => (cx_eq (cv_eq h11) rk_1 rk_0 (by decide)).elim) (fun h11 => ?_)
    refine rn_aload_n (i := 0) dX10_refuses_11 rfl rfl ?_
    refine rn_iload_n (i := 2) dX10_refuses_12 rfl rfl ?_
    refine rs_put q1 (kp_SGModel_137 _) hS3 hq1 hl3 hf3 hk_30 rfl rfl (tv_i (rg_w rk_1 (by decide) (by decide))) rfl rfl dX10_refuses_13 (fun w12 fs13 hS13 hl13 hf13 hx13 ho13 hn13 => ?_)
    have fk14 : fK1 4 S ws w12 := fk_put fk4 hS3.1 hq1 hl3 hl13 ho13 (by decide)
    refine rn_aload_n (i := 0) dX10_refuses_16 rfl rfl ?_
    refine rn_get q1 kg_SGModel_137 hl13 hx13 dX10_refuses_17 ?_
    refine rn_if_le (tgt := 27) dX10_refuses_20 (by decide) (fun h15 => (cx_le (cv_le h15) rk_1 rk_0 (by decide)).elim) (fun h15 => ?_)
    refine rn_iconst (v := (1 : Int32)) dX10_refuses_23 (by decide) ?_
    refine rn_goto (tgt := 28) dX10_refuses_24 (by decide) ?_
    refine rn_iret dX10_refuses_28 rfl rfl (rq_in ?_)
    refine rn_stk [.int (1 : Int32)] rfl ?_
    refine rn_if_eq (tgt := 34) dX10_stop_29 (by decide) (fun h16 => (cx_eq (cv_eq h16) rk_1 rk_0 (by decide)).elim) (fun h16 => ?_)
    refine rn_iconst (v := (0 : Int32)) dX10_stop_32 (by decide) ?_
    exact rn_iret dX10_stop_33 rfl rfl (rq_in ⟨hS13, (0 : Int32), rfl, (rg_w rk_0 (by decide) (by decide)), fk14⟩)
  · have ch7 := cv_nlt h7
    have r17 : Rg (0) (2147483647) x1_ := rf_ley ch7 rk_0 (rg_any x1_) (by decide)
    refine rn_iload_n (i := 0) dX10_in_5 rfl rfl ?_
    refine rn_iload_n (i := 2) dX10_in_6 rfl rfl ?_
    refine rn_icmp_gt (tgt := 14) dX10_in_7 (by decide) (fun h18 => ?_) (fun h18 => ?_)
    · have ch18 := cv_lt h18
      refine rn_iconst (v := (0 : Int32)) dX10_in_14 (by decide) ?_
      refine rn_iret dX10_in_15 rfl rfl (rq_in ?_)
      refine rn_stk [.int (0 : Int32), .ref o0_] rfl ?_
      refine rn_if_ne (tgt := 24) dX10_stop_17 (by decide) (fun h19 => (cx_ne (cv_ne h19) rk_0 rk_0 (by decide)).elim) (fun h19 => ?_)
      refine rn_iconst (v := (1 : Int32)) dX10_stop_20 (by decide) ?_
      refine rn_goto (tgt := 25) dX10_stop_21 (by decide) ?_
      refine rn_iconst (v := (1 : Int32)) dX10_stop_25 (by decide) ?_
      refine rn_inV (d' := 0) (z' := 0) [.int (1 : Int32), .int (1 : Int32)] kl_SGModel_171 dX10_stop_26 q1 hl3 rfl rfl rfl (Nat.le_of_ble_eq_true rfl) (Nat.le_of_ble_eq_true rfl) (Nat.le_of_ble_eq_true rfl) (Nat.le_of_ble_eq_true rfl) ?_
      refine rn_lv [(0, .ref o0_), (1, .int (1 : Int32)), (2, .int (1 : Int32))] rfl ?_
      refine rn_aload_n (i := 0) dX10_refuses_0 rfl rfl ?_
      refine rn_get q1 kg_SGModel_137 hl3 hx3 dX10_refuses_1 ?_
      refine rn_if_ne (tgt := 16) dX10_refuses_4 (by decide) (fun h20 => (cx_ne (cv_ne h20) rk_0 rk_0 (by decide)).elim) (fun h20 => ?_)
      refine rn_iload_n (i := 1) dX10_refuses_7 rfl rfl ?_
      refine rn_if_eq (tgt := 16) dX10_refuses_8 (by decide) (fun h21 => (cx_eq (cv_eq h21) rk_1 rk_0 (by decide)).elim) (fun h21 => ?_)
      refine rn_aload_n (i := 0) dX10_refuses_11 rfl rfl ?_
      refine rn_iload_n (i := 2) dX10_refuses_12 rfl rfl ?_
      refine rs_put q1 (kp_SGModel_137 _) hS3 hq1 hl3 hf3 hk_30 rfl rfl (tv_i (rg_w rk_1 (by decide) (by decide))) rfl rfl dX10_refuses_13 (fun w22 fs23 hS23 hl23 hf23 hx23 ho23 hn23 => ?_)
      have fk24 : fK1 4 S ws w22 := fk_put fk4 hS3.1 hq1 hl3 hl23 ho23 (by decide)
      refine rn_aload_n (i := 0) dX10_refuses_16 rfl rfl ?_
      refine rn_get q1 kg_SGModel_137 hl23 hx23 dX10_refuses_17 ?_
      refine rn_if_le (tgt := 27) dX10_refuses_20 (by decide) (fun h25 => (cx_le (cv_le h25) rk_1 rk_0 (by decide)).elim) (fun h25 => ?_)
      refine rn_iconst (v := (1 : Int32)) dX10_refuses_23 (by decide) ?_
      refine rn_goto (tgt := 28) dX10_refuses_24 (by decide) ?_
      refine rn_iret dX10_refuses_28 rfl rfl (rq_in ?_)
      refine rn_stk [.int (1 : Int32)] rfl ?_
      refine rn_if_eq (tgt := 34) dX10_stop_29 (by decide) (fun h26 => (cx_eq (cv_eq h26) rk_1 rk_0 (by decide)).elim) (fun h26 => ?_)
      refine rn_iconst (v := (0 : Int32)) dX10_stop_32 (by decide) ?_
      exact rn_iret dX10_stop_33 rfl rfl (rq_in ⟨hS23, (0 : Int32), rfl, (rg_w rk_0 (by decide) (by decide)), fk24⟩)
    · have ch18 := cv_nlt h18
      have r27 : Rg (0) (15) x1_ := rf_lex ch18 r17 rv6 (by decide)
      have r28 : Rg (0) (15) v6 := rf_ley ch18 r17 rv6 (by decide)
      refine rn_iconst (v := (1 : Int32)) dX10_in_10 (by decide) ?_
      refine rn_goto (tgt := 15) dX10_in_11 (by decide) ?_
      refine rn_iret dX10_in_15 rfl rfl (rq_in ?_)
      refine rn_stk [.int (1 : Int32), .ref o0_] rfl ?_
      refine rn_if_ne (tgt := 24) dX10_stop_17 (by decide) (fun h29 => ?_) (fun h29 => (cx_eq (cv_eq h29) rk_1 rk_0 (by decide)).elim)
      refine rn_iconst (v := (0 : Int32)) dX10_stop_24 (by decide) ?_
      refine rn_iconst (v := (1 : Int32)) dX10_stop_25 (by decide) ?_
      refine rn_inV (d' := 0) (z' := 0) [.int (0 : Int32), .int (1 : Int32)] kl_SGModel_171 dX10_stop_26 q1 hl3 rfl rfl rfl (Nat.le_of_ble_eq_true rfl) (Nat.le_of_ble_eq_true rfl) (Nat.le_of_ble_eq_true rfl) (Nat.le_of_ble_eq_true rfl) ?_
      refine rn_lv [(0, .ref o0_), (1, .int (0 : Int32)), (2, .int (1 : Int32))] rfl ?_
      refine rn_aload_n (i := 0) dX10_refuses_0 rfl rfl ?_
      refine rn_get q1 kg_SGModel_137 hl3 hx3 dX10_refuses_1 ?_
      refine rn_if_ne (tgt := 16) dX10_refuses_4 (by decide) (fun h30 => (cx_ne (cv_ne h30) rk_0 rk_0 (by decide)).elim) (fun h30 => ?_)
      refine rn_iload_n (i := 1) dX10_refuses_7 rfl rfl ?_
      refine rn_if_eq (tgt := 16) dX10_refuses_8 (by decide) (fun h31 => ?_) (fun h31 => (cx_ne (cv_ne h31) rk_0 rk_0 (by decide)).elim)
      refine rn_aload_n (i := 0) dX10_refuses_16 rfl rfl ?_
      refine rn_get q1 kg_SGModel_137 hl3 hx3 dX10_refuses_17 ?_
      refine rn_if_le (tgt := 27) dX10_refuses_20 (by decide) (fun h32 => ?_) (fun h32 => (cx_lt (cv_nle h32) rk_0 rk_0 (by decide)).elim)
      refine rn_iconst (v := (0 : Int32)) dX10_refuses_27 (by decide) ?_
      refine rn_iret dX10_refuses_28 rfl rfl (rq_in ?_)
      refine rn_stk [.int (0 : Int32)] rfl ?_
      refine rn_if_eq (tgt := 34) dX10_stop_29 (by decide) (fun h33 => ?_) (fun h33 => (cx_ne (cv_ne h33) rk_0 rk_0 (by decide)).elim)
      refine rn_aload_n (i := 0) dX10_stop_34 rfl rfl ?_
      refine rn_iload_n (i := 1) dX10_stop_35 rfl rfl ?_
      refine rn_callV (a := 0) (b := 0) [.int x1_] kl_SGModel_207 dX10_stop_36 q1 hl3 rfl (t_X10_isDead G S w2 hS3.1 o0_ m0_ x1_ r27) rfl rfl (Nat.le_of_ble_eq_true rfl) (Nat.le_of_ble_eq_true rfl) (Nat.le_of_ble_eq_true rfl) (Nat.le_of_ble_eq_true rfl) (Nat.le_of_ble_eq_true rfl) (Nat.le_of_ble_eq_true rfl) (fun _ _ h => False.elim h) (fun v9 w34 h35 => ?_)
      obtain ⟨rfl, v36, rfl, rv36⟩ := h35
      refine rn_stk [.int v36] rfl ?_
      refine rn_if_ne (tgt := 46) dX10_stop_39 (by decide) (fun h38 => ?_) (fun h38 => ?_)
      · have ch38 := cv_ne h38
        have r39 : Rg (1) (1) v36 := rf_nel ch38 rv36 rk_0 (by decide) (by decide)
        refine rn_iconst (v := (0 : Int32)) dX10_stop_46 (by decide) ?_
        refine rn_istore_n dX10_stop_47 rfl (by decide) [(0, .ref o0_), (1, .int x1_), (2, .int (0 : Int32))] rfl ?_
        refine rn_aload_n (i := 0) dX10_stop_48 rfl rfl ?_
        obtain ⟨o40, hx40, m40⟩ := fs_r hf3 30 rfl
        refine rn_get q1 kg_SGModel_80 hl3 hx40 dX10_stop_49 ?_
        refine rn_iload_n (i := 1) dX10_stop_52 rfl rfl ?_
        refine rn_iconst (v := (1 : Int32)) dX10_stop_53 (by decide) ?_
        obtain ⟨q41, f41, hq41, hl41, hf41⟩ := ts_ia hS3.1 m40 hk_61
        refine rs_zast q41 hS3 hq41 hl41 hf41 hk_61 rfl rfl r27 (by decide) (by decide) (by decide) (by decide) dX10_stop_54 (fun w42 f43 hS43 hl43 hf43 hu43 hn43 => ?_)
        have fk44 : fK1 4 S ws w42 := fk_ne fk4 hn43 hq41 rfl
        refine rn_iload_n (i := 2) dX10_stop_55 rfl rfl ?_
        exact rn_iret dX10_stop_56 rfl rfl (rq_in ⟨hS43, (0 : Int32), rfl, (rg_w rk_0 (by decide) (by decide)), fk44⟩)
      · have ch38 := cv_eq h38
        have r45 : Rg (0) (0) v36 := rf_eqx ch38 rv36 rk_0 (by decide) (by decide)
        refine rn_iconst (v := (1 : Int32)) dX10_stop_42 (by decide) ?_
        refine rn_goto (tgt := 47) dX10_stop_43 (by decide) ?_
        refine rn_istore_n dX10_stop_47 rfl (by decide) [(0, .ref o0_), (1, .int x1_), (2, .int (1 : Int32))] rfl ?_
        refine rn_aload_n (i := 0) dX10_stop_48 rfl rfl ?_
        obtain ⟨o46, hx46, m46⟩ := fs_r hf3 30 rfl
        refine rn_get q1 kg_SGModel_80 hl3 hx46 dX10_stop_49 ?_
        refine rn_iload_n (i := 1) dX10_stop_52 rfl rfl ?_
        refine rn_iconst (v := (1 : Int32)) dX10_stop_53 (by decide) ?_
        obtain ⟨q47, f47, hq47, hl47, hf47⟩ := ts_ia hS3.1 m46 hk_61
        refine rs_zast q47 hS3 hq47 hl47 hf47 hk_61 rfl rfl r27 (by decide) (by decide) (by decide) (by decide) dX10_stop_54 (fun w48 f49 hS49 hl49 hf49 hu49 hn49 => ?_)
        have fk50 : fK1 4 S ws w48 := fk_ne fk4 hn49 hq47 rfl
        refine rn_iload_n (i := 2) dX10_stop_55 rfl rfl ?_
        exact rn_iret dX10_stop_56 rfl rfl (rq_in ⟨hS49, (1 : Int32), rfl, (rg_w rk_1 (by decide) (by decide)), fk50⟩)
abbrev q_t_X10_count (G : rn_G) (S : ts_S) (ws : va_W) : rn_R → va_W → Prop := rQ (fun v w => St G S [30, 62, 63] ws S w ∧ (∃ x : Int64, v = some (.long x) ∧ fK1 4 S ws w)) (fun E w => False)
set_option maxRecDepth 20000 in
set_option maxHeartbeats 4000000 in
theorem t_X10_count (G : rn_G) (S : ts_S) (ws : va_W) (hW : ts_W G S ws) (o0_ : Nat) (m0_ : (o0_, 30) ∈ S) (x1_ : Int32) (y2_ : Int64) : Rn G mX10_count 1 22 0 0 0 (lv_args 0 [.ref o0_, .int x1_, .long y2_]) [] ws (q_t_X10_count G S ws ) := by
  have hS0 : St G S [30, 62, 63] ws S ws := St.rf hW
  have fk0 : fK1 4 S ws ws := fun v h => h
  refine rn_lv [(0, .ref o0_), (1, .int x1_), (2, .long y2_)] rfl ?_
  refine rn_aload_n (i := 0) dX10_count_0 rfl rfl ?_
  refine rn_iconst (v := (0 : Int32)) dX10_count_1 (by decide) ?_
  obtain ⟨q1, fs1, hq1, hl1, hf1⟩ := ts_obj hS0.1 m0_ hk_30
  refine rs_put q1 (kp_SGModel_137 _) hS0 hq1 hl1 hf1 hk_30 rfl rfl (tv_i (rg_w rk_0 (by decide) (by decide))) rfl rfl dX10_count_2 (fun w2 fs3 hS3 hl3 hf3 hx3 ho3 hn3 => ?_)
  have fk4 : fK1 4 S ws w2 := fk_put fk0 hS0.1 hq1 hl1 hl3 ho3 (by decide)
  refine rn_aload_n (i := 0) dX10_count_5 rfl rfl ?_
  refine rn_iload_n (i := 1) dX10_count_6 rfl rfl ?_
  refine rn_iconst (v := (0 : Int32)) dX10_count_7 (by decide) ?_
  refine rn_aload_n (i := 0) dX10_count_8 rfl rfl ?_
  obtain ⟨x5, hx5, rx5⟩ := fs_i hf3 22 rfl
  refine rn_get q1 kg_SGModel_200 hl3 hx5 dX10_count_9 ?_
  refine rn_iconst (v := (1 : Int32)) dX10_count_12 (by decide) ?_
  refine rs_subC (-1) (15) rx5 rk_1 dX10_count_13 (by decide) (fun v6 ev6 rv6 => ?_)
  refine rn_inS (d' := 0) (z' := 0) [.int x1_, .int (0 : Int32), .int v6] kl_SGModel_179 dX10_count_14 rfl rfl (Nat.le_of_ble_eq_true rfl) (Nat.le_of_ble_eq_true rfl) (Nat.le_of_ble_eq_true rfl) (Nat.le_of_ble_eq_true rfl) ?_
  refine rn_lv [(0, .int x1_), (1, .int (0 : Int32)), (2, .int v6)] rfl ?_
  refine rn_iload_n (i := 0) dX10_in_0 rfl rfl ?_
  refine rn_iload_n (i := 1) dX10_in_1 rfl rfl ?_
  refine rn_icmp_lt (tgt := 14) dX10_in_2 (by decide) (fun h7 => ?_) (fun h7 => ?_)
  · have ch7 := cv_lt h7
    have r8 : Rg (-2147483648) (-1) x1_ := rf_ltx ch7 (rg_any x1_) rk_0 (by decide)
    refine rn_iconst (v := (0 : Int32)) dX10_in_14 (by decide) ?_
    refine rn_iret dX10_in_15 rfl rfl (rq_in ?_)
    refine rn_stk [.int (0 : Int32), .ref o0_] rfl ?_
    refine rn_if_ne (tgt := 24) dX10_count_17 (by decide) (fun h9 => (cx_ne (cv_ne h9) rk_0 rk_0 (by decide)).elim) (fun h9 => ?_)
    refine rn_iconst (v := (1 : Int32)) dX10_count_20 (by decide) ?_
    refine rn_goto (tgt := 25) dX10_count_21 (by decide) ?_
    refine rn_iconst (v := (1 : Int32)) dX10_count_25 (by decide) ?_
    refine rn_inV (d' := 0) (z' := 0) [.int (1 : Int32), .int (1 : Int32)] kl_SGModel_171 dX10_count_26 q1 hl3 rfl rfl rfl (Nat.le_of_ble_eq_true rfl) (Nat.le_of_ble_eq_true rfl) (Nat.le_of_ble_eq_true rfl) (Nat.le_of_ble_eq_true rfl) ?_
    refine rn_lv [(0, .ref o0_), (1, .int (1 : Int32)), (2, .int (1 : Int32))] rfl ?_
    refine rn_aload_n (i := 0) dX10_refuses_0 rfl rfl ?_
    refine rn_get q1 kg_SGModel_137 hl3 hx3 dX10_refuses_1 ?_
    refine rn_if_ne (tgt := 16) dX10_refuses_4 (by decide) (fun h10 => (cx_ne (cv_ne h10) rk_0 rk_0 (by decide)).elim) (fun h10 => ?_)
    refine rn_iload_n (i := 1) dX10_refuses_7 rfl rfl ?_
    refine rn_if_eq (tgt := 16) dX10_refuses_8 (by decide) (fun h11 => (cx_eq (cv_eq h11) rk_1 rk_0 (by decide)).elim) (fun h11 => ?_)
    refine rn_aload_n (i := 0) dX10_refuses_11 rfl rfl ?_
    refine rn_iload_n (i := 2) dX10_refuses_12 rfl rfl ?_
    refine rs_put q1 (kp_SGModel_137 _) hS3 hq1 hl3 hf3 hk_30 rfl rfl (tv_i (rg_w rk_1 (by decide) (by decide))) rfl rfl dX10_refuses_13 (fun w12 fs13 hS13 hl13 hf13 hx13 ho13 hn13 => ?_)
    have fk14 : fK1 4 S ws w12 := fk_put fk4 hS3.1 hq1 hl3 hl13 ho13 (by decide)
    refine rn_aload_n (i := 0) dX10_refuses_16 rfl rfl ?_
    refine rn_get q1 kg_SGModel_137 hl13 hx13 dX10_refuses_17 ?_
    refine rn_if_le (tgt := 27) dX10_refuses_20 (by decide) (fun h15 => (cx_le (cv_le h15) rk_1 rk_0 (by decide)).elim) (fun h15 => ?_)
    refine rn_iconst (v := (1 : Int32)) dX10_refuses_23 (by decide) ?_
    refine rn_goto (tgt := 28) dX10_refuses_24 (by decide) ?_
    refine rn_iret dX10_refuses_28 rfl rfl (rq_in ?_)
    refine rn_stk [.int (1 : Int32)] rfl ?_
    refine rn_if_ne (tgt := 68) dX10_count_29 (by decide) (fun h16 => ?_) (fun h16 => (cx_eq (cv_eq h16) rk_1 rk_0 (by decide)).elim)
    refine rn_lconst (v := (0 : Int64)) dX10_count_68 (by decide) ?_
    exact rn_lret dX10_count_69 rfl (rq_in ⟨hS13, (0 : Int64), rfl, fk14⟩)
  · have ch7 := cv_nlt h7
    have r17 : Rg (0) (2147483647) x1_ := rf_ley ch7 rk_0 (rg_any x1_) (by decide)
    refine rn_iload_n (i := 0) dX10_in_5 rfl rfl ?_
    refine rn_iload_n (i := 2) dX10_in_6 rfl rfl ?_
    refine rn_icmp_gt (tgt := 14) dX10_in_7 (by decide) (fun h18 => ?_) (fun h18 => ?_)
    · have ch18 := cv_lt h18
      refine rn_iconst (v := (0 : Int32)) dX10_in_14 (by decide) ?_
      refine rn_iret dX10_in_15 rfl rfl (rq_in ?_)
      refine rn_stk [.int (0 : Int32), .ref o0_] rfl ?_
      refine rn_if_ne (tgt := 24) dX10_count_17 (by decide) (fun h19 => (cx_ne (cv_ne h19) rk_0 rk_0 (by decide)).elim) (fun h19 => ?_)
      refine rn_iconst (v := (1 : Int32)) dX10_count_20 (by decide) ?_
      refine rn_goto (tgt := 25) dX10_count_21 (by decide) ?_
      refine rn_iconst (v := (1 : Int32)) dX10_count_25 (by decide) ?_
      refine rn_inV (d' := 0) (z' := 0) [.int (1 : Int32), .int (1 : Int32)] kl_SGModel_171 dX10_count_26 q1 hl3 rfl rfl rfl (Nat.le_of_ble_eq_true rfl) (Nat.le_of_ble_eq_true rfl) (Nat.le_of_ble_eq_true rfl) (Nat.le_of_ble_eq_true rfl) ?_
      refine rn_lv [(0, .ref o0_), (1, .int (1 : Int32)), (2, .int (1 : Int32))] rfl ?_
      refine rn_aload_n (i := 0) dX10_refuses_0 rfl rfl ?_
      refine rn_get q1 kg_SGModel_137 hl3 hx3 dX10_refuses_1 ?_
      refine rn_if_ne (tgt := 16) dX10_refuses_4 (by decide) (fun h20 => (cx_ne (cv_ne h20) rk_0 rk_0 (by decide)).elim) (fun h20 => ?_)
      refine rn_iload_n (i := 1) dX10_refuses_7 rfl rfl ?_
      refine rn_if_eq (tgt := 16) dX10_refuses_8 (by decide) (fun h21 => (cx_eq (cv_eq h21) rk_1 rk_0 (by decide)).elim) (fun h21 => ?_)
      refine rn_aload_n (i := 0) dX10_refuses_11 rfl rfl ?_
      refine rn_iload_n (i := 2) dX10_refuses_12 rfl rfl ?_
      refine rs_put q1 (kp_SGModel_137 _) hS3 hq1 hl3 hf3 hk_30 rfl rfl (tv_i (rg_w rk_1 (by decide) (by decide))) rfl rfl dX10_refuses_13 (fun w22 fs23 hS23 hl23 hf23 hx23 ho23 hn23 => ?_)
      have fk24 : fK1 4 S ws w22 := fk_put fk4 hS3.1 hq1 hl3 hl23 ho23 (by decide)
      refine rn_aload_n (i := 0) dX10_refuses_16 rfl rfl ?_
      refine rn_get q1 kg_SGModel_137 hl23 hx23 dX10_refuses_17 ?_
      refine rn_if_le (tgt := 27) dX10_refuses_20 (by decide) (fun h25 => (cx_le (cv_le h25) rk_1 rk_0 (by decide)).elim) (fun h25 => ?_)
      refine rn_iconst (v := (1 : Int32)) dX10_refuses_23 (by decide) ?_
      refine rn_goto (tgt := 28) dX10_refuses_24 (by decide) ?_
      refine rn_iret dX10_refuses_28 rfl rfl (rq_in ?_)
      refine rn_stk [.int (1 : Int32)] rfl ?_
      refine rn_if_ne (tgt := 68) dX10_count_29 (by decide) (fun h26 => ?_) (fun h26 => (cx_eq (cv_eq h26) rk_1 rk_0 (by decide)).elim)
      refine rn_lconst (v := (0 : Int64)) dX10_count_68 (by decide) ?_
      exact rn_lret dX10_count_69 rfl (rq_in ⟨hS23, (0 : Int64), rfl, fk24⟩)
    · have ch18 := cv_nlt h18
      have r27 : Rg (0) (15) x1_ := rf_lex ch18 r17 rv6 (by decide)
      have r28 : Rg (0) (15) v6 := rf_ley ch18 r17 rv6 (by decide)
      refine rn_iconst (v := (1 : Int32)) dX10_in_10 (by decide) ?_
      refine rn_goto (tgt := 15) dX10_in_11 (by decide) ?_
      refine rn_iret dX10_in_15 rfl rfl (rq_in ?_)
      refine rn_stk [.int (1 : Int32), .ref o0_] rfl ?_
      refine rn_if_ne (tgt := 24) dX10_count_17 (by decide) (fun h29 => ?_) (fun h29 => (cx_eq (cv_eq h29) rk_1 rk_0 (by decide)).elim)
      refine rn_iconst (v := (0 : Int32)) dX10_count_24 (by decide) ?_
      refine rn_iconst (v := (1 : Int32)) dX10_count_25 (by decide) ?_
      refine rn_inV (d' := 0) (z' := 0) [.int (0 : Int32), .int (1 : Int32)] kl_SGModel_171 dX10_count_26 q1 hl3 rfl rfl rfl (Nat.le_of_ble_eq_true rfl) (Nat.le_of_ble_eq_true rfl) (Nat.le_of_ble_eq_true rfl) (Nat.le_of_ble_eq_true rfl) ?_
      refine rn_lv [(0, .ref o0_), (1, .int (0 : Int32)), (2, .int (1 : Int32))] rfl ?_
      refine rn_aload_n (i := 0) dX10_refuses_0 rfl rfl ?_
      refine rn_get q1 kg_SGModel_137 hl3 hx3 dX10_refuses_1 ?_
      refine rn_if_ne (tgt := 16) dX10_refuses_4 (by decide) (fun h30 => (cx_ne (cv_ne h30) rk_0 rk_0 (by decide)).elim) (fun h30 => ?_)
      refine rn_iload_n (i := 1) dX10_refuses_7 rfl rfl ?_
      refine rn_if_eq (tgt := 16) dX10_refuses_8 (by decide) (fun h31 => ?_) (fun h31 => (cx_ne (cv_ne h31) rk_0 rk_0 (by decide)).elim)
      refine rn_aload_n (i := 0) dX10_refuses_16 rfl rfl ?_
      refine rn_get q1 kg_SGModel_137 hl3 hx3 dX10_refuses_17 ?_
      refine rn_if_le (tgt := 27) dX10_refuses_20 (by decide) (fun h32 => ?_) (fun h32 => (cx_lt (cv_nle h32) rk_0 rk_0 (by decide)).elim)
      refine rn_iconst (v := (0 : Int32)) dX10_refuses_27 (by decide) ?_
      refine rn_iret dX10_refuses_28 rfl rfl (rq_in ?_)
      refine rn_stk [.int (0 : Int32)] rfl ?_
      refine rn_if_ne (tgt := 68) dX10_count_29 (by decide) (fun h33 => (cx_ne (cv_ne h33) rk_0 rk_0 (by decide)).elim) (fun h33 => ?_)
      refine rn_aload_n (i := 0) dX10_count_32 rfl rfl ?_
      refine rn_lload_n (i := 2) dX10_count_33 rfl rfl ?_
      refine rn_lconst (v := (0 : Int64)) dX10_count_34 (by decide) ?_
      refine rn_lcmp dX10_count_35 (rn_tn (-1) 1 (rg_lcmp _ _) (fun v34 rv34 => ?_))
      refine rn_if_lt (tgt := 56) dX10_count_36 (by decide) (fun h35 => ?_) (fun h35 => ?_)
      · have ch35 := cv_lt h35
        have r36 : Rg (-1) (-1) v34 := rf_ltx ch35 rv34 rk_0 (by decide)
        refine rn_iconst (v := (1 : Int32)) dX10_count_56 (by decide) ?_
        refine rn_goto (tgt := 61) dX10_count_57 (by decide) ?_
        refine rn_iconst (v := (2 : Int32)) dX10_count_61 (by decide) ?_
        refine rn_inV (d' := 0) (z' := 0) [.int (1 : Int32), .int (2 : Int32)] kl_SGModel_171 dX10_count_62 q1 hl3 rfl rfl rfl (Nat.le_of_ble_eq_true rfl) (Nat.le_of_ble_eq_true rfl) (Nat.le_of_ble_eq_true rfl) (Nat.le_of_ble_eq_true rfl) ?_
        refine rn_lv [(0, .ref o0_), (1, .int (1 : Int32)), (2, .int (2 : Int32))] rfl ?_
        refine rn_aload_n (i := 0) dX10_refuses_0 rfl rfl ?_
        refine rn_get q1 kg_SGModel_137 hl3 hx3 dX10_refuses_1 ?_
        refine rn_if_ne (tgt := 16) dX10_refuses_4 (by decide) (fun h37 => (cx_ne (cv_ne h37) rk_0 rk_0 (by decide)).elim) (fun h37 => ?_)
        refine rn_iload_n (i := 1) dX10_refuses_7 rfl rfl ?_
        refine rn_if_eq (tgt := 16) dX10_refuses_8 (by decide) (fun h38 => (cx_eq (cv_eq h38) rk_1 rk_0 (by decide)).elim) (fun h38 => ?_)
        refine rn_aload_n (i := 0) dX10_refuses_11 rfl rfl ?_
        refine rn_iload_n (i := 2) dX10_refuses_12 rfl rfl ?_
        refine rs_put q1 (kp_SGModel_137 _) hS3 hq1 hl3 hf3 hk_30 rfl rfl (tv_i (rg_w rk_2 (by decide) (by decide))) rfl rfl dX10_refuses_13 (fun w39 fs40 hS40 hl40 hf40 hx40 ho40 hn40 => ?_)
        have fk41 : fK1 4 S ws w39 := fk_put fk4 hS3.1 hq1 hl3 hl40 ho40 (by decide)
        refine rn_aload_n (i := 0) dX10_refuses_16 rfl rfl ?_
        refine rn_get q1 kg_SGModel_137 hl40 hx40 dX10_refuses_17 ?_
        refine rn_if_le (tgt := 27) dX10_refuses_20 (by decide) (fun h42 => (cx_le (cv_le h42) rk_2 rk_0 (by decide)).elim) (fun h42 => ?_)
        refine rn_iconst (v := (1 : Int32)) dX10_refuses_23 (by decide) ?_
        refine rn_goto (tgt := 28) dX10_refuses_24 (by decide) ?_
        refine rn_iret dX10_refuses_28 rfl rfl (rq_in ?_)
        refine rn_stk [.int (1 : Int32)] rfl ?_
        refine rn_if_eq (tgt := 70) dX10_count_65 (by decide) (fun h43 => (cx_eq (cv_eq h43) rk_1 rk_0 (by decide)).elim) (fun h43 => ?_)
        refine rn_lconst (v := (0 : Int64)) dX10_count_68 (by decide) ?_
        exact rn_lret dX10_count_69 rfl (rq_in ⟨hS40, (0 : Int64), rfl, fk41⟩)
      · have ch35 := cv_nlt h35
        have r44 : Rg (0) (1) v34 := rf_ley ch35 rk_0 rv34 (by decide)
        refine rn_aload_n (i := 0) dX10_count_39 rfl rfl ?_
        obtain ⟨o45, hx45, m45⟩ := fs_r hf3 28 rfl
        refine rn_get q1 kg_SGModel_73 hl3 hx45 dX10_count_40 ?_
        refine rn_iload_n (i := 1) dX10_count_43 rfl rfl ?_
        obtain ⟨q46, f46, hq46, hl46, hf46⟩ := ts_ia hS3.1 m45 hk_59
        refine rs_zald q46 hl46 hf46 rfl r27 (by decide) (by decide) dX10_count_44 (fun v47 ev47 rv47 => ?_)
        refine rn_if_ne (tgt := 60) dX10_count_45 (by decide) (fun h48 => ?_) (fun h48 => ?_)
        · have ch48 := cv_ne h48
          have r49 : Rg (1) (1) v47 := rf_nel ch48 rv47 rk_0 (by decide) (by decide)
          refine rn_iconst (v := (0 : Int32)) dX10_count_60 (by decide) ?_
          refine rn_iconst (v := (2 : Int32)) dX10_count_61 (by decide) ?_
          refine rn_inV (d' := 0) (z' := 0) [.int (0 : Int32), .int (2 : Int32)] kl_SGModel_171 dX10_count_62 q1 hl3 rfl rfl rfl (Nat.le_of_ble_eq_true rfl) (Nat.le_of_ble_eq_true rfl) (Nat.le_of_ble_eq_true rfl) (Nat.le_of_ble_eq_true rfl) ?_
          refine rn_lv [(0, .ref o0_), (1, .int (0 : Int32)), (2, .int (2 : Int32))] rfl ?_
          refine rn_aload_n (i := 0) dX10_refuses_0 rfl rfl ?_
          refine rn_get q1 kg_SGModel_137 hl3 hx3 dX10_refuses_1 ?_
          refine rn_if_ne (tgt := 16) dX10_refuses_4 (by decide) (fun h50 => (cx_ne (cv_ne h50) rk_0 rk_0 (by decide)).elim) (fun h50 => ?_)
          refine rn_iload_n (i := 1) dX10_refuses_7 rfl rfl ?_
          refine rn_if_eq (tgt := 16) dX10_refuses_8 (by decide) (fun h51 => ?_) (fun h51 => (cx_ne (cv_ne h51) rk_0 rk_0 (by decide)).elim)
          refine rn_aload_n (i := 0) dX10_refuses_16 rfl rfl ?_
          refine rn_get q1 kg_SGModel_137 hl3 hx3 dX10_refuses_17 ?_
          refine rn_if_le (tgt := 27) dX10_refuses_20 (by decide) (fun h52 => ?_) (fun h52 => (cx_lt (cv_nle h52) rk_0 rk_0 (by decide)).elim)
          refine rn_iconst (v := (0 : Int32)) dX10_refuses_27 (by decide) ?_
          refine rn_iret dX10_refuses_28 rfl rfl (rq_in ?_)
          refine rn_stk [.int (0 : Int32)] rfl ?_
          refine rn_if_eq (tgt := 70) dX10_count_65 (by decide) (fun h53 => ?_) (fun h53 => (cx_ne (cv_ne h53) rk_0 rk_0 (by decide)).elim)
          refine rn_aload_n (i := 0) dX10_count_70 rfl rfl ?_
          obtain ⟨o54, hx54, m54⟩ := fs_r hf3 31 rfl
          refine rn_get q1 kg_SGModel_83 hl3 hx54 dX10_count_71 ?_
          refine rn_iload_n (i := 1) dX10_count_74 rfl rfl ?_
          obtain ⟨q55, f55, hq55, hl55⟩ := ts_la hS3.1 m54 hk_62
          refine rs_lald q55 hl55 rfl r27 (by decide) (by decide) dX10_count_75 (fun v56 ev56 => ?_)
          refine rn_lstore dX10_count_76 (by decide) [(0, .ref o0_), (1, .int x1_), (2, .long y2_), (4, .long v56)] rfl ?_
          refine rn_aload_n (i := 0) dX10_count_78 rfl rfl ?_
          refine rn_get q1 kg_SGModel_83 hl3 hx54 dX10_count_79 ?_
          refine rn_iload_n (i := 1) dX10_count_82 rfl rfl ?_
          refine rn_lload_n (i := 2) dX10_count_83 rfl rfl ?_
          refine rs_last q55 hS3 hq55 hl55 hk_62 rfl rfl r27 (by decide) (by decide) dX10_count_84 (fun w57 f58 hS58 hl58 hu58 hn58 => ?_)
          have fk59 : fK1 4 S ws w57 := fk_ne fk4 hn58 hq55 rfl
          refine rn_aload_n (i := 0) dX10_count_85 rfl rfl ?_
          obtain ⟨o60, hx60, m60⟩ := fs_r hf3 32 rfl
          refine rn_get q1 kg_SGModel_86 ((hn58 _ (ts_ne hq55 hq1 rfl)).trans hl3) hx60 dX10_count_86 ?_
          refine rn_iload_n (i := 1) dX10_count_89 rfl rfl ?_
          refine rn_aload_n (i := 0) dX10_count_90 rfl rfl ?_
          obtain ⟨o61, hx61, m61⟩ := fs_r hf3 23 rfl
          refine rn_get q1 kg_SGModel_57 ((hn58 _ (ts_ne hq55 hq1 rfl)).trans hl3) hx61 dX10_count_91 ?_
          refine rn_iload_n (i := 1) dX10_count_94 rfl rfl ?_
          obtain ⟨q62, f62, hq62, hl62, hf62⟩ := ts_ia hS58.1 m61 hk_54
          refine rs_iald q62 hl62 hf62 rfl r27 (by decide) (by decide) dX10_count_95 (fun v63 ev63 rv63 => ?_)
          refine rn_iconst (v := (1 : Int32)) dX10_count_96 (by decide) ?_
          refine rn_icmp_ne (tgt := 110) dX10_count_97 (by decide) (fun h64 => ?_) (fun h64 => ?_)
          · have ch64 := cv_ne h64
            refine rn_lconst (v := (0 : Int64)) dX10_count_110 (by decide) ?_
            obtain ⟨q65, f65, hq65, hl65⟩ := ts_la hS58.1 m60 hk_63
            refine rs_last q65 hS58 hq65 hl65 hk_63 rfl rfl r27 (by decide) (by decide) dX10_count_111 (fun w66 f67 hS67 hl67 hu67 hn67 => ?_)
            have fk68 : fK1 4 S ws w66 := fk_ne fk59 hn67 hq65 rfl
            refine rn_lload dX10_count_112 rfl ?_
            exact rn_lret dX10_count_114 rfl (rq_in ⟨hS67, v56, rfl, fk68⟩)
          · have ch64 := cv_eq h64
            have r69 : Rg (1) (1) v63 := rf_eqx ch64 rv63 rk_1 (by decide) (by decide)
            refine rn_lload_n (i := 2) dX10_count_100 rfl rfl ?_
            refine rn_lconst (v := (0 : Int64)) dX10_count_101 (by decide) ?_
            refine rn_lcmp dX10_count_102 (rn_tn (-1) 1 (rg_lcmp _ _) (fun v70 rv70 => ?_))
            refine rn_if_eq (tgt := 110) dX10_count_103 (by decide) (fun h71 => ?_) (fun h71 => ?_)
            · have ch71 := cv_eq h71
              have r72 : Rg (0) (0) v70 := rf_eqx ch71 rv70 rk_0 (by decide) (by decide)
              refine rn_lconst (v := (0 : Int64)) dX10_count_110 (by decide) ?_
              obtain ⟨q73, f73, hq73, hl73⟩ := ts_la hS58.1 m60 hk_63
              refine rs_last q73 hS58 hq73 hl73 hk_63 rfl rfl r27 (by decide) (by decide) dX10_count_111 (fun w74 f75 hS75 hl75 hu75 hn75 => ?_)
              have fk76 : fK1 4 S ws w74 := fk_ne fk59 hn75 hq73 rfl
              refine rn_lload dX10_count_112 rfl ?_
              exact rn_lret dX10_count_114 rfl (rq_in ⟨hS75, v56, rfl, fk76⟩)
            · have ch71 := cv_ne h71
              refine rn_lconst (v := (1 : Int64)) dX10_count_106 (by decide) ?_
              refine rn_goto (tgt := 111) dX10_count_107 (by decide) ?_
              obtain ⟨q77, f77, hq77, hl77⟩ := ts_la hS58.1 m60 hk_63
              refine rs_last q77 hS58 hq77 hl77 hk_63 rfl rfl r27 (by decide) (by decide) dX10_count_111 (fun w78 f79 hS79 hl79 hu79 hn79 => ?_)
              have fk80 : fK1 4 S ws w78 := fk_ne fk59 hn79 hq77 rfl
              refine rn_lload dX10_count_112 rfl ?_
              exact rn_lret dX10_count_114 rfl (rq_in ⟨hS79, v56, rfl, fk80⟩)
        · have ch48 := cv_eq h48
          have r81 : Rg (0) (0) v47 := rf_eqx ch48 rv47 rk_0 (by decide) (by decide)
          refine rn_lload_n (i := 2) dX10_count_48 rfl rfl ?_
          refine rn_ldc2 (v := (4294967295 : Int64)) wd_1351 dX10_count_49 ?_
          refine rn_lcmp dX10_count_52 (rn_tn (-1) 1 (rg_lcmp _ _) (fun v82 rv82 => ?_))
          refine rn_if_le (tgt := 60) dX10_count_53 (by decide) (fun h83 => ?_) (fun h83 => ?_)
          · have ch83 := cv_le h83
            have r84 : Rg (-1) (0) v82 := rf_lex ch83 rv82 rk_0 (by decide)
            refine rn_iconst (v := (0 : Int32)) dX10_count_60 (by decide) ?_
            refine rn_iconst (v := (2 : Int32)) dX10_count_61 (by decide) ?_
            refine rn_inV (d' := 0) (z' := 0) [.int (0 : Int32), .int (2 : Int32)] kl_SGModel_171 dX10_count_62 q1 hl3 rfl rfl rfl (Nat.le_of_ble_eq_true rfl) (Nat.le_of_ble_eq_true rfl) (Nat.le_of_ble_eq_true rfl) (Nat.le_of_ble_eq_true rfl) ?_
            refine rn_lv [(0, .ref o0_), (1, .int (0 : Int32)), (2, .int (2 : Int32))] rfl ?_
            refine rn_aload_n (i := 0) dX10_refuses_0 rfl rfl ?_
            refine rn_get q1 kg_SGModel_137 hl3 hx3 dX10_refuses_1 ?_
            refine rn_if_ne (tgt := 16) dX10_refuses_4 (by decide) (fun h85 => (cx_ne (cv_ne h85) rk_0 rk_0 (by decide)).elim) (fun h85 => ?_)
            refine rn_iload_n (i := 1) dX10_refuses_7 rfl rfl ?_
            refine rn_if_eq (tgt := 16) dX10_refuses_8 (by decide) (fun h86 => ?_) (fun h86 => (cx_ne (cv_ne h86) rk_0 rk_0 (by decide)).elim)
            refine rn_aload_n (i := 0) dX10_refuses_16 rfl rfl ?_
            refine rn_get q1 kg_SGModel_137 hl3 hx3 dX10_refuses_17 ?_
            refine rn_if_le (tgt := 27) dX10_refuses_20 (by decide) (fun h87 => ?_) (fun h87 => (cx_lt (cv_nle h87) rk_0 rk_0 (by decide)).elim)
            refine rn_iconst (v := (0 : Int32)) dX10_refuses_27 (by decide) ?_
            refine rn_iret dX10_refuses_28 rfl rfl (rq_in ?_)
            refine rn_stk [.int (0 : Int32)] rfl ?_
            refine rn_if_eq (tgt := 70) dX10_count_65 (by decide) (fun h88 => ?_) (fun h88 => (cx_ne (cv_ne h88) rk_0 rk_0 (by decide)).elim)
            refine rn_aload_n (i := 0) dX10_count_70 rfl rfl ?_
            obtain ⟨o89, hx89, m89⟩ := fs_r hf3 31 rfl
            refine rn_get q1 kg_SGModel_83 hl3 hx89 dX10_count_71 ?_
            refine rn_iload_n (i := 1) dX10_count_74 rfl rfl ?_
            obtain ⟨q90, f90, hq90, hl90⟩ := ts_la hS3.1 m89 hk_62
            refine rs_lald q90 hl90 rfl r27 (by decide) (by decide) dX10_count_75 (fun v91 ev91 => ?_)
            refine rn_lstore dX10_count_76 (by decide) [(0, .ref o0_), (1, .int x1_), (2, .long y2_), (4, .long v91)] rfl ?_
            refine rn_aload_n (i := 0) dX10_count_78 rfl rfl ?_
            refine rn_get q1 kg_SGModel_83 hl3 hx89 dX10_count_79 ?_
            refine rn_iload_n (i := 1) dX10_count_82 rfl rfl ?_
            refine rn_lload_n (i := 2) dX10_count_83 rfl rfl ?_
            refine rs_last q90 hS3 hq90 hl90 hk_62 rfl rfl r27 (by decide) (by decide) dX10_count_84 (fun w92 f93 hS93 hl93 hu93 hn93 => ?_)
            have fk94 : fK1 4 S ws w92 := fk_ne fk4 hn93 hq90 rfl
            refine rn_aload_n (i := 0) dX10_count_85 rfl rfl ?_
            obtain ⟨o95, hx95, m95⟩ := fs_r hf3 32 rfl
            refine rn_get q1 kg_SGModel_86 ((hn93 _ (ts_ne hq90 hq1 rfl)).trans hl3) hx95 dX10_count_86 ?_
            refine rn_iload_n (i := 1) dX10_count_89 rfl rfl ?_
            refine rn_aload_n (i := 0) dX10_count_90 rfl rfl ?_
            obtain ⟨o96, hx96, m96⟩ := fs_r hf3 23 rfl
            refine rn_get q1 kg_SGModel_57 ((hn93 _ (ts_ne hq90 hq1 rfl)).trans hl3) hx96 dX10_count_91 ?_
            refine rn_iload_n (i := 1) dX10_count_94 rfl rfl ?_
            obtain ⟨q97, f97, hq97, hl97, hf97⟩ := ts_ia hS93.1 m96 hk_54
            refine rs_iald q97 hl97 hf97 rfl r27 (by decide) (by decide) dX10_count_95 (fun v98 ev98 rv98 => ?_)
            refine rn_iconst (v := (1 : Int32)) dX10_count_96 (by decide) ?_
            refine rn_icmp_ne (tgt := 110) dX10_count_97 (by decide) (fun h99 => ?_) (fun h99 => ?_)
            · have ch99 := cv_ne h99
              refine rn_lconst (v := (0 : Int64)) dX10_count_110 (by decide) ?_
              obtain ⟨q100, f100, hq100, hl100⟩ := ts_la hS93.1 m95 hk_63
              refine rs_last q100 hS93 hq100 hl100 hk_63 rfl rfl r27 (by decide) (by decide) dX10_count_111 (fun w101 f102 hS102 hl102 hu102 hn102 => ?_)
              have fk103 : fK1 4 S ws w101 := fk_ne fk94 hn102 hq100 rfl
              refine rn_lload dX10_count_112 rfl ?_
              exact rn_lret dX10_count_114 rfl (rq_in ⟨hS102, v91, rfl, fk103⟩)
            · have ch99 := cv_eq h99
              have r104 : Rg (1) (1) v98 := rf_eqx ch99 rv98 rk_1 (by decide) (by decide)
              refine rn_lload_n (i := 2) dX10_count_100 rfl rfl ?_
              refine rn_lconst (v := (0 : Int64)) dX10_count_101 (by decide) ?_
              refine rn_lcmp dX10_count_102 (rn_tn (-1) 1 (rg_lcmp _ _) (fun v105 rv105 => ?_))
              refine rn_if_eq (tgt := 110) dX10_count_103 (by decide) (fun h106 => ?_) (fun h106 => ?_)
              · have ch106 := cv_eq h106
                have r107 : Rg (0) (0) v105 := rf_eqx ch106 rv105 rk_0 (by decide) (by decide)
                refine rn_lconst (v := (0 : Int64)) dX10_count_110 (by decide) ?_
                obtain ⟨q108, f108, hq108, hl108⟩ := ts_la hS93.1 m95 hk_63
                refine rs_last q108 hS93 hq108 hl108 hk_63 rfl rfl r27 (by decide) (by decide) dX10_count_111 (fun w109 f110 hS110 hl110 hu110 hn110 => ?_)
                have fk111 : fK1 4 S ws w109 := fk_ne fk94 hn110 hq108 rfl
                refine rn_lload dX10_count_112 rfl ?_
                exact rn_lret dX10_count_114 rfl (rq_in ⟨hS110, v91, rfl, fk111⟩)
              · have ch106 := cv_ne h106
                refine rn_lconst (v := (1 : Int64)) dX10_count_106 (by decide) ?_
                refine rn_goto (tgt := 111) dX10_count_107 (by decide) ?_
                obtain ⟨q112, f112, hq112, hl112⟩ := ts_la hS93.1 m95 hk_63
                refine rs_last q112 hS93 hq112 hl112 hk_63 rfl rfl r27 (by decide) (by decide) dX10_count_111 (fun w113 f114 hS114 hl114 hu114 hn114 => ?_)
                have fk115 : fK1 4 S ws w113 := fk_ne fk94 hn114 hq112 rfl
                refine rn_lload dX10_count_112 rfl ?_
                exact rn_lret dX10_count_114 rfl (rq_in ⟨hS114, v91, rfl, fk115⟩)
          · have ch83 := cv_nle h83
            have r116 : Rg (1) (1) v82 := rf_lty ch83 rk_0 rv82 (by decide)
            refine rn_iconst (v := (1 : Int32)) dX10_count_56 (by decide) ?_
            refine rn_goto (tgt := 61) dX10_count_57 (by decide) ?_
            refine rn_iconst (v := (2 : Int32)) dX10_count_61 (by decide) ?_
            refine rn_inV (d' := 0) (z' := 0) [.int (1 : Int32), .int (2 : Int32)] kl_SGModel_171 dX10_count_62 q1 hl3 rfl rfl rfl (Nat.le_of_ble_eq_true rfl) (Nat.le_of_ble_eq_true rfl) (Nat.le_of_ble_eq_true rfl) (Nat.le_of_ble_eq_true rfl) ?_
            refine rn_lv [(0, .ref o0_), (1, .int (1 : Int32)), (2, .int (2 : Int32))] rfl ?_
            refine rn_aload_n (i := 0) dX10_refuses_0 rfl rfl ?_
            refine rn_get q1 kg_SGModel_137 hl3 hx3 dX10_refuses_1 ?_
            refine rn_if_ne (tgt := 16) dX10_refuses_4 (by decide) (fun h117 => (cx_ne (cv_ne h117) rk_0 rk_0 (by decide)).elim) (fun h117 => ?_)
            refine rn_iload_n (i := 1) dX10_refuses_7 rfl rfl ?_
            refine rn_if_eq (tgt := 16) dX10_refuses_8 (by decide) (fun h118 => (cx_eq (cv_eq h118) rk_1 rk_0 (by decide)).elim) (fun h118 => ?_)
            refine rn_aload_n (i := 0) dX10_refuses_11 rfl rfl ?_
            refine rn_iload_n (i := 2) dX10_refuses_12 rfl rfl ?_
            refine rs_put q1 (kp_SGModel_137 _) hS3 hq1 hl3 hf3 hk_30 rfl rfl (tv_i (rg_w rk_2 (by decide) (by decide))) rfl rfl dX10_refuses_13 (fun w119 fs120 hS120 hl120 hf120 hx120 ho120 hn120 => ?_)
            have fk121 : fK1 4 S ws w119 := fk_put fk4 hS3.1 hq1 hl3 hl120 ho120 (by decide)
            refine rn_aload_n (i := 0) dX10_refuses_16 rfl rfl ?_
            refine rn_get q1 kg_SGModel_137 hl120 hx120 dX10_refuses_17 ?_
            refine rn_if_le (tgt := 27) dX10_refuses_20 (by decide) (fun h122 => (cx_le (cv_le h122) rk_2 rk_0 (by decide)).elim) (fun h122 => ?_)
            refine rn_iconst (v := (1 : Int32)) dX10_refuses_23 (by decide) ?_
            refine rn_goto (tgt := 28) dX10_refuses_24 (by decide) ?_
            refine rn_iret dX10_refuses_28 rfl rfl (rq_in ?_)
            refine rn_stk [.int (1 : Int32)] rfl ?_
            refine rn_if_eq (tgt := 70) dX10_count_65 (by decide) (fun h123 => (cx_eq (cv_eq h123) rk_1 rk_0 (by decide)).elim) (fun h123 => ?_)
            refine rn_lconst (v := (0 : Int64)) dX10_count_68 (by decide) ?_
            exact rn_lret dX10_count_69 rfl (rq_in ⟨hS120, (0 : Int64), rfl, fk121⟩)
