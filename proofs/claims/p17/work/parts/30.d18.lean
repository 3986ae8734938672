abbrev q_t_X10_take (G : rn_G) (S : ts_S) (ws : va_W) : rn_R → va_W → Prop := rQ (fun v w => St G S [30, 33] ws S w ∧ (∃ x : Int32, v = some (.int x) ∧ Rg (0) (1500) x ∧ fK1 4 S ws w)) (fun E w => False)
set_option maxRecDepth 20000 in
set_option maxHeartbeats 4000000 in
theorem t_X10_take (G : rn_G) (S : ts_S) (ws : va_W) (hW : ts_W G S ws) (o0_ : Nat) (m0_ : (o0_, 30) ∈ S) (x1_ : Int32) : Rn G mX10_take 1 24 0 0 0 (lv_args 0 [.ref o0_, .int x1_]) [] ws (q_t_X10_take G S ws ) := by
  have hS0 : St G S [30, 33] ws S ws := St.rf hW
  have fk0 : fK1 4 S ws ws := fun v h => h
  refine rn_lv [(0, .ref o0_), (1, .int x1_)] rfl ?_
  refine rn_aload_n (i := 0) dX10_take_0 rfl rfl ?_
  refine rn_iconst (v := (0 : Int32)) dX10_take_1 (by decide) ?_
  obtain ⟨q1, fs1, hq1, hl1, hf1⟩ := ts_obj hS0.1 m0_ hk_30
  refine rs_put q1 (kp_SGModel_137 _) hS0 hq1 hl1 hf1 hk_30 rfl rfl (tv_i (rg_w rk_0 (by decide) (by decide))) rfl rfl dX10_take_2 (fun w2 fs3 hS3 hl3 hf3 hx3 ho3 hn3 => ?_)
  have fk4 : fK1 4 S ws w2 := fk_put fk0 hS0.1 hq1 hl1 hl3 ho3 (by decide)
  refine rn_aload_n (i := 0) dX10_take_5 rfl rfl ?_
  refine rn_iload_n (i := 1) dX10_take_6 rfl rfl ?_
  refine rn_iconst (v := (0 : Int32)) dX10_take_7 (by decide) ?_
  refine rn_iconst (v := (1 : Int32)) dX10_take_8 (by decide) ?_
  refine rn_inS (d' := 0) (z' := 0) [.int x1_, .int (0 : Int32), .int (1 : Int32)] kl_SGModel_179 dX10_take_9 rfl rfl (Nat.le_of_ble_eq_true rfl) (Nat.le_of_ble_eq_true rfl) (Nat.le_of_ble_eq_true rfl) (Nat.le_of_ble_eq_true rfl) ?_
  refine rn_lv [(0, .int x1_), (1, .int (0 : Int32)), (2, .int (1 : Int32))] rfl ?_
  refine rn_iload_n (i := 0) dX10_in_0 rfl rfl ?_
  refine rn_iload_n (i := 1) dX10_in_1 rfl rfl ?_
  refine rn_icmp_lt (tgt := 14) dX10_in_2 (by decide) (fun h5 => ?_) (fun h5 => ?_)
  · have ch5 := cv_lt h5
    have r6 : Rg (-2147483648) (-1) x1_ := rf_ltx ch5 (rg_any x1_) rk_0 (by decide)
    refine rn_iconst (v := (0 : Int32)) dX10_in_14 (by decide) ?_
    refine rn_iret dX10_in_15 rfl rfl (rq_in ?_)
    refine rn_stk [.int (0 : Int32), .ref o0_] rfl ?_
    refine rn_if_ne (tgt := 19) dX10_take_12 (by decide) (fun h7 => (cx_ne (cv_ne h7) rk_0 rk_0 (by decide)).elim) (fun h7 => ?_)
    refine rn_iconst (v := (1 : Int32)) dX10_take_15 (by decide) ?_
    refine rn_goto (tgt := 20) dX10_take_16 (by decide) ?_
    refine rn_iconst (v := (1 : Int32)) dX10_take_20 (by decide) ?_
    refine rn_inV (d' := 0) (z' := 0) [.int (1 : Int32), .int (1 : Int32)] kl_SGModel_171 dX10_take_21 q1 hl3 rfl rfl rfl (Nat.le_of_ble_eq_true rfl) (Nat.le_of_ble_eq_true rfl) (Nat.le_of_ble_eq_true rfl) (Nat.le_of_ble_eq_true rfl) ?_
    refine rn_lv [(0, .ref o0_), (1, .int (1 : Int32)), (2, .int (1 : Int32))] rfl ?_
    refine rn_aload_n (i := 0) dX10_refuses_0 rfl rfl ?_
    refine rn_get q1 kg_SGModel_137 hl3 hx3 dX10_refuses_1 ?_
    refine rn_if_ne (tgt := 16) dX10_refuses_4 (by decide) (fun h8 => (cx_ne (cv_ne h8) rk_0 rk_0 (by decide)).elim) (fun h8 => ?_)
    refine rn_iload_n (i := 1) dX10_refuses_7 rfl rfl ?_
    refine rn_if_eq (tgt := 16) dX10_refuses_8 (by decide) (fun h9 => (cx_eq (cv_eq h9) rk_1 rk_0 (by decide)).elim) (fun h9 => ?_)
    refine rn_aload_n (i := 0) dX10_refuses_11 rfl rfl ?_
    refine rn_iload_n (i := 2) dX10_refuses_12 rfl rfl ?_
    refine rs_put q1 (kp_SGModel_137 _) hS3 hq1 hl3 hf3 hk_30 rfl rfl (tv_i (rg_w rk_1 (by decide) (by decide))) rfl rfl dX10_refuses_13 (fun w10 fs11 hS11 hl11 hf11 hx11 ho11 hn11 => ?_)
    have fk12 : fK1 4 S ws w10 := fk_put fk4 hS3.1 hq1 hl3 hl11 ho11 (by decide)
    refine rn_aload_n (i := 0) dX10_refuses_16 rfl rfl ?_
    refine rn_get q1 kg_SGModel_137 hl11 hx11 dX10_refuses_17 ?_
    refine rn_if_le (tgt := 27) dX10_refuses_20 (by decide) (fun h13 => (cx_le (cv_le h13) rk_1 rk_0 (by decide)).elim) (fun h13 => ?_)
    refine rn_iconst (v := (1 : Int32)) dX10_refuses_23 (by decide) ?_
    refine rn_goto (tgt := 28) dX10_refuses_24 (by decide) ?_
    refine rn_iret dX10_refuses_28 rfl rfl (rq_in ?_)
    refine rn_stk [.int (1 : Int32)] rfl ?_
    refine rn_if_ne (tgt := 49) dX10_take_24 (by decide) (fun h14 => ?_) (fun h14 => (cx_eq (cv_eq h14) rk_1 rk_0 (by decide)).elim)
    refine rn_iconst (v := (0 : Int32)) dX10_take_49 (by decide) ?_
    exact rn_iret dX10_take_50 rfl rfl (rq_in ⟨hS11, (0 : Int32), rfl, (rg_w rk_0 (by decide) (by decide)), fk12⟩)
  · have ch5 := cv_nlt h5
    have r15 : Rg (0) (2147483647) x1_ := rf_ley ch5 rk_0 (rg_any x1_) (by decide)
    refine rn_iload_n (i := 0) dX10_in_5 rfl rfl ?_
    refine rn_iload_n (i := 2) dX10_in_6 rfl rfl ?_
    refine rn_icmp_gt (tgt := 14) dX10_in_7 (by decide) (fun h16 => ?_) (fun h16 => ?_)
    · have ch16 := cv_lt h16
      have r17 : Rg (2) (2147483647) x1_ := rf_lty ch16 rk_1 r15 (by decide)
      refine rn_iconst (v := (0 : Int32)) dX10_in_14 (by decide) ?_
      refine rn_iret dX10_in_15 rfl rfl (rq_in ?_)
      refine rn_stk [.int (0 : Int32), .ref o0_] rfl ?_
      refine rn_if_ne (tgt := 19) dX10_take_12 (by decide) (fun h18 => (cx_ne (cv_ne h18) rk_0 rk_0 (by decide)).elim) (fun h18 => ?_)
      refine rn_iconst (v := (1 : Int32)) dX10_take_15 (by decide) ?_
      refine rn_goto (tgt := 20) dX10_take_16 (by decide) ?_
      refine rn_iconst (v := (1 : Int32)) dX10_take_20 (by decide) ?_
      refine rn_inV (d' := 0) (z' := 0) [.int (1 : Int32), .int (1 : Int32)] kl_SGModel_171 dX10_take_21 q1 hl3 rfl rfl rfl (Nat.le_of_ble_eq_true rfl) (Nat.le_of_ble_eq_true rfl) (Nat.le_of_ble_eq_true rfl) (Nat.le_of_ble_eq_true rfl) ?_
      refine rn_lv [(0, .ref o0_), (1, .int (1 : Int32)), (2, .int (1 : Int32))] rfl ?_
      refine rn_aload_n (i := 0) dX10_refuses_0 rfl rfl ?_
      refine rn_get q1 kg_SGModel_137 hl3 hx3 dX10_refuses_1 ?_
      refine rn_if_ne (tgt := 16) dX10_refuses_4 (by decide) (fun h19 => (cx_ne (cv_ne h19) rk_0 rk_0 (by decide)).elim) (fun h19 => ?_)
      refine rn_iload_n (i := 1) dX10_refuses_7 rfl rfl ?_
      refine rn_if_eq (tgt := 16) dX10_refuses_8 (by decide) (fun h20 => (cx_eq (cv_eq h20) rk_1 rk_0 (by decide)).elim) (fun h20 => ?_)
      refine rn_aload_n (i := 0) dX10_refuses_11 rfl rfl ?_
      refine rn_iload_n (i := 2) dX10_refuses_12 rfl rfl ?_
      refine rs_put q1 (kp_SGModel_137 _) hS3 hq1 hl3 hf3 hk_30 rfl rfl (tv_i (rg_w rk_1 (by decide) (by decide))) rfl rfl dX10_refuses_13 (fun w21 fs22 hS22 hl22 hf22 hx22 ho22 hn22 => ?_)
      have fk23 : fK1 4 S ws w21 := fk_put fk4 hS3.1 hq1 hl3 hl22 ho22 (by decide)
      refine rn_aload_n (i := 0) dX10_refuses_16 rfl rfl ?_
      refine rn_get q1 kg_SGModel_137 hl22 hx22 dX10_refuses_17 ?_
      refine rn_if_le (tgt := 27) dX10_refuses_20 (by decide) (fun h24 => (cx_le (cv_le h24) rk_1 rk_0 (by decide)).elim) (fun h24 => ?_)
      refine rn_iconst (v := (1 : Int32)) dX10_refuses_23 (by decide) ?_
      refine rn_goto (tgt := 28) dX10_refuses_24 (by decide) ?_
      refine rn_iret dX10_refuses_28 rfl rfl (rq_in ?_)
      refine rn_stk [.int (1 : Int32)] rfl ?_
      refine rn_if_ne (tgt := 49) dX10_take_24 (by decide) (fun h25 => ?_) (fun h25 => (cx_eq (cv_eq h25) rk_1 rk_0 (by decide)).elim)
      refine rn_iconst (v := (0 : Int32)) dX10_take_49 (by decide) ?_
      exact rn_iret dX10_take_50 rfl rfl (rq_in ⟨hS22, (0 : Int32), rfl, (rg_w rk_0 (by decide) (by decide)), fk23⟩)
    · have ch16 := cv_nlt h16
      have r26 : Rg (0) (1) x1_ := rf_lex ch16 r15 rk_1 (by decide)
      refine rn_iconst (v := (1 : Int32)) dX10_in_10 (by decide) ?_
      refine rn_goto (tgt := 15) dX10_in_11 (by decide) ?_
      refine rn_iret dX10_in_15 rfl rfl (rq_in ?_)
      refine rn_stk [.int (1 : Int32), .ref o0_] rfl ?_
      refine rn_if_ne (tgt := 19) dX10_take_12 (by decide) (fun h27 => ?_) (fun h27 => (cx_eq (cv_eq h27) rk_1 rk_0 (by decide)).elim)
      refine rn_iconst (v := (0 : Int32)) dX10_take_19 (by decide) ?_
      refine rn_iconst (v := (1 : Int32)) dX10_take_20 (by decide) ?_
      refine rn_inV (d' := 0) (z' := 0) [.int (0 : Int32), .int (1 : Int32)] kl_SGModel_171 dX10_take_21 q1 hl3 rfl rfl rfl (Nat.le_of_ble_eq_true rfl) (Nat.le_of_ble_eq_true rfl) (Nat.le_of_ble_eq_true rfl) (Nat.le_of_ble_eq_true rfl) ?_
      refine rn_lv [(0, .ref o0_), (1, .int (0 : Int32)), (2, .int (1 : Int32))] rfl ?_
      refine rn_aload_n (i := 0) dX10_refuses_0 rfl rfl ?_
      refine rn_get q1 kg_SGModel_137 hl3 hx3 dX10_refuses_1 ?_
      refine rn_if_ne (tgt := 16) dX10_refuses_4 (by decide) (fun h28 => (cx_ne (cv_ne h28) rk_0 rk_0 (by decide)).elim) (fun h28 => ?_)
      refine rn_iload_n (i := 1) dX10_refuses_7 rfl rfl ?_
      refine rn_if_eq (tgt := 16) dX10_refuses_8 (by decide) (fun h29 => ?_) (fun h29 => (cx_ne (cv_ne h29) rk_0 rk_0 (by decide)).elim)
      refine rn_aload_n (i := 0) dX10_refuses_16 rfl rfl ?_
      refine rn_get q1 kg_SGModel_137 hl3 hx3 dX10_refuses_17 ?_
      refine rn_if_le (tgt := 27) dX10_refuses_20 (by decide) (fun h30 => ?_) (fun h30 => (cx_lt (cv_nle h30) rk_0 rk_0 (by decide)).elim)
      refine rn_iconst (v := (0 : Int32)) dX10_refuses_27 (by decide) ?_
      refine rn_iret dX10_refuses_28 rfl rfl (rq_in ?_)
      refine rn_stk [.int (0 : Int32)] rfl ?_
      refine rn_if_ne (tgt := 49) dX10_take_24 (by decide) (fun h31 => (cx_ne (cv_ne h31) rk_0 rk_0 (by decide)).elim) (fun h31 => ?_)
      refine rn_aload_n (i := 0) dX10_take_27 rfl rfl ?_
      refine rn_aload_n (i := 0) dX10_take_28 rfl rfl ?_
      obtain ⟨o32, hx32, m32⟩ := fs_r hf3 34 rfl
      refine rn_get q1 kg_SGModel_89 hl3 hx32 dX10_take_29 ?_
      refine rn_iload_n (i := 1) dX10_take_32 rfl rfl ?_
      obtain ⟨q33, f33, hq33, hl33, hf33⟩ := ts_ia hS3.1 m32 hk_65
      refine rs_iald q33 hl33 hf33 rfl r26 (by decide) (by decide) dX10_take_33 (fun v34 ev34 rv34 => ?_)
      refine rn_if_ne (tgt := 41) dX10_take_34 (by decide) (fun h35 => ?_) (fun h35 => ?_)
      · have ch35 := cv_ne h35
        have r36 : Rg (1) (1500) v34 := rf_nel ch35 rv34 rk_0 (by decide) (by decide)
        refine rn_iconst (v := (0 : Int32)) dX10_take_41 (by decide) ?_
        refine rn_iconst (v := (2 : Int32)) dX10_take_42 (by decide) ?_
        refine rn_inV (d' := 0) (z' := 0) [.int (0 : Int32), .int (2 : Int32)] kl_SGModel_171 dX10_take_43 q1 hl3 rfl rfl rfl (Nat.le_of_ble_eq_true rfl) (Nat.le_of_ble_eq_true rfl) (Nat.le_of_ble_eq_true rfl) (Nat.le_of_ble_eq_true rfl) ?_
        refine rn_lv [(0, .ref o0_), (1, .int (0 : Int32)), (2, .int (2 : Int32))] rfl ?_
        refine rn_aload_n (i := 0) dX10_refuses_0 rfl rfl ?_
        refine rn_get q1 kg_SGModel_137 hl3 hx3 dX10_refuses_1 ?_
        refine rn_if_ne (tgt := 16) dX10_refuses_4 (by decide) (fun h37 => (cx_ne (cv_ne h37) rk_0 rk_0 (by decide)).elim) (fun h37 => ?_)
        refine rn_iload_n (i := 1) dX10_refuses_7 rfl rfl ?_
        refine rn_if_eq (tgt := 16) dX10_refuses_8 (by decide) (fun h38 => ?_) (fun h38 => (cx_ne (cv_ne h38) rk_0 rk_0 (by decide)).elim)
        refine rn_aload_n (i := 0) dX10_refuses_16 rfl rfl ?_
        refine rn_get q1 kg_SGModel_137 hl3 hx3 dX10_refuses_17 ?_
        refine rn_if_le (tgt := 27) dX10_refuses_20 (by decide) (fun h39 => ?_) (fun h39 => (cx_lt (cv_nle h39) rk_0 rk_0 (by decide)).elim)
        refine rn_iconst (v := (0 : Int32)) dX10_refuses_27 (by decide) ?_
        refine rn_iret dX10_refuses_28 rfl rfl (rq_in ?_)
        refine rn_stk [.int (0 : Int32)] rfl ?_
        refine rn_if_eq (tgt := 51) dX10_take_46 (by decide) (fun h40 => ?_) (fun h40 => (cx_ne (cv_ne h40) rk_0 rk_0 (by decide)).elim)
        refine rn_aload_n (i := 0) dX10_take_51 rfl rfl ?_
        refine rn_aload_n (i := 0) dX10_take_52 rfl rfl ?_
        refine rn_get q1 kg_SGModel_89 hl3 hx32 dX10_take_53 ?_
        refine rn_iload_n (i := 1) dX10_take_56 rfl rfl ?_
        refine rs_iald q33 hl33 hf33 rfl r26 (by decide) (by decide) dX10_take_57 (fun v41 ev41 rv41 => ?_)
        refine rs_put q1 (kp_SGModel_168 _) hS3 hq1 hl3 hf3 hk_30 rfl rfl (tv_i (rg_w rv41 (by decide) (by decide))) rfl rfl dX10_take_58 (fun w42 fs43 hS43 hl43 hf43 hx43 ho43 hn43 => ?_)
        have fk44 : fK1 4 S ws w42 := fk_put fk4 hS3.1 hq1 hl3 hl43 ho43 (by decide)
        refine rn_aload_n (i := 0) dX10_take_61 rfl rfl ?_
        refine rn_sipush (v := (8800 : Int32)) dX10_take_62 (by decide) ?_
        refine rn_sipush (v := (2200 : Int32)) dX10_take_65 (by decide) ?_
        refine rn_iload_n (i := 1) dX10_take_68 rfl rfl ?_
        refine rs_mulD (0) (2200) rk_2200 r26 dX10_take_69 (by decide) (fun v45 ev45 rv45 => ?_)
        refine rs_addD (8800) (11000) rk_8800 rv45 dX10_take_70 (by decide) (fun v46 ev46 rv46 => ?_)
        refine rn_iconst (v := (0 : Int32)) dX10_take_71 (by decide) ?_
        refine rn_aload_n (i := 0) dX10_take_72 rfl rfl ?_
        refine rn_get q1 kg_SGModel_168 hl43 hx43 dX10_take_73 ?_
        refine rn_callV (a := 0) (b := 0) [.int v46, .int (0 : Int32), .int v41] kl_SGModel_235 dX10_take_76 q1 hl43 rfl (t_X10_move G S w42 hS43.1 o0_ m0_ v46 (0 : Int32) v41 ⟨by have := rv41.1; have := rv41.2; have := rk_0.1; have := rk_0.2; have := rv46.1; have := rv46.2; have := rv45.1; have := rv45.2; have := r26.1; have := r26.2; have := rk_2200.1; have := rk_2200.2; have := rk_8800.1; have := rk_8800.2; omega, by have := rv41.1; have := rv41.2; have := rk_0.1; have := rk_0.2; have := rv46.1; have := rv46.2; have := rv45.1; have := rv45.2; have := r26.1; have := r26.2; have := rk_2200.1; have := rk_2200.2; have := rk_8800.1; have := rk_8800.2; omega, by have := rv41.1; have := rv41.2; have := rk_0.1; have := rk_0.2; have := rv46.1; have := rv46.2; have := rv45.1; have := rv45.2; have := r26.1; have := r26.2; have := rk_2200.1; have := rk_2200.2; have := rk_8800.1; have := rk_8800.2; omega, by have := rv41.1; have := rv41.2; have := rk_0.1; have := rk_0.2; have := rv46.1; have := rv46.2; have := rv45.1; have := rv45.2; have := r26.1; have := r26.2; have := rk_2200.1; have := rk_2200.2; have := rk_8800.1; have := rk_8800.2; omega⟩) rfl rfl (Nat.le_of_ble_eq_true rfl) (Nat.le_of_ble_eq_true rfl) (Nat.le_of_ble_eq_true rfl) (Nat.le_of_ble_eq_true rfl) (Nat.le_of_ble_eq_true rfl) (Nat.le_of_ble_eq_true rfl) (fun _ _ h => False.elim h) (fun v9 w47 h48 => ?_)
        obtain ⟨hT49, rfl, xah48⟩ := h48
        have hS49 := St.tr hS43 hT49 rfl
        have fk50 : fK1 4 S ws w47 := fk_fr fk44 hT49 rfl
        refine rn_stk [] rfl ?_
        refine rn_aload_n (i := 0) dX10_take_79 rfl rfl ?_
        refine rn_get q1 kg_SGModel_168 (hT49.fr hq1 rfl hl43) hx43 dX10_take_80 ?_
        exact rn_iret dX10_take_83 rfl rfl (rq_in ⟨hS49, v41, rfl, rv41, fk50⟩)
      · have ch35 := cv_eq h35
        have r51 : Rg (0) (0) v34 := rf_eqx ch35 rv34 rk_0 (by decide) (by decide)
        refine rn_iconst (v := (1 : Int32)) dX10_take_37 (by decide) ?_
        refine rn_goto (tgt := 42) dX10_take_38 (by decide) ?_
        refine rn_iconst (v := (2 : Int32)) dX10_take_42 (by decide) ?_
        refine rn_inV (d' := 0) (z' := 0) [.int (1 : Int32), .int (2 : Int32)] kl_SGModel_171 dX10_take_43 q1 hl3 rfl rfl rfl (Nat.le_of_ble_eq_true rfl) (Nat.le_of_ble_eq_true rfl) (Nat.le_of_ble_eq_true rfl) (Nat.le_of_ble_eq_true rfl) ?_
        refine rn_lv [(0, .ref o0_), (1, .int (1 : Int32)), (2, .int (2 : Int32))] rfl ?_
        refine rn_aload_n (i := 0) dX10_refuses_0 rfl rfl ?_
        refine rn_get q1 kg_SGModel_137 hl3 hx3 dX10_refuses_1 ?_
        refine rn_if_ne (tgt := 16) dX10_refuses_4 (by decide) (fun h52 => (cx_ne (cv_ne h52) rk_0 rk_0 (by decide)).elim) (fun h52 => ?_)
        refine rn_iload_n (i := 1) dX10_refuses_7 rfl rfl ?_
        refine rn_if_eq (tgt := 16) dX10_refuses_8 (by decide) (fun h53 => (cx_eq (cv_eq h53) rk_1 rk_0 (by decide)).elim) (fun h53 => ?_)
        refine rn_aload_n (i := 0) dX10_refuses_11 rfl rfl ?_
        refine rn_iload_n (i := 2) dX10_refuses_12 rfl rfl ?_
        refine rs_put q1 (kp_SGModel_137 _) hS3 hq1 hl3 hf3 hk_30 rfl rfl (tv_i (rg_w rk_2 (by decide) (by decide))) rfl rfl dX10_refuses_13 (fun w54 fs55 hS55 hl55 hf55 hx55 ho55 hn55 => ?_)
        have fk56 : fK1 4 S ws w54 := fk_put fk4 hS3.1 hq1 hl3 hl55 ho55 (by decide)
        refine rn_aload_n (i := 0) dX10_refuses_16 rfl rfl ?_
        refine rn_get q1 kg_SGModel_137 hl55 hx55 dX10_refuses_17 ?_
        refine rn_if_le (tgt := 27) dX10_refuses_20 (by decide) (fun h57 => (cx_le (cv_le h57) rk_2 rk_0 (by decide)).elim) (fun h57 => ?_)
        refine rn_iconst (v := (1 : Int32)) dX10_refuses_23 (by decide) ?_
        refine rn_goto (tgt := 28) dX10_refuses_24 (by decide) ?_
        refine rn_iret dX10_refuses_28 rfl rfl (rq_in ?_)
        refine rn_stk [.int (1 : Int32)] rfl ?_
        refine rn_if_eq (tgt := 51) dX10_take_46 (by decide) (fun h58 => (cx_eq (cv_eq h58) rk_1 rk_0 (by decide)).elim) (fun h58 => ?_)
        refine rn_iconst (v := (0 : Int32)) dX10_take_49 (by decide) ?_
        exact rn_iret dX10_take_50 rfl rfl (rq_in ⟨hS55, (0 : Int32), rfl, (rg_w rk_0 (by decide) (by decide)), fk56⟩)
abbrev q_t_X10_told (G : rn_G) (S : ts_S) (ws : va_W) : rn_R → va_W → Prop := rQ (fun v w => St G S [30] ws S w ∧ (∃ x : Int32, v = some (.int x) ∧ Rg (-2147483648) (2147483647) x ∧ fK1 4 S ws w)) (fun E w => False)
set_option maxRecDepth 20000 in
set_option maxHeartbeats 4000000 in
theorem t_X10_told (G : rn_G) (S : ts_S) (ws : va_W) (hW : ts_W G S ws) (o0_ : Nat) (m0_ : (o0_, 30) ∈ S) (x1_ : Int32) (x2_ : Int32) : Rn G mX10_told 1 22 0 0 0 (lv_args 0 [.ref o0_, .int x1_, .int x2_]) [] ws (q_t_X10_told G S ws ) := by
  have hS0 : St G S [30] ws S ws := St.rf hW
  have fk0 : fK1 4 S ws ws := fun v h => h
  refine rn_lv [(0, .ref o0_), (1, .int x1_), (2, .int x2_)] rfl ?_
  refine rn_aload_n (i := 0) dX10_told_0 rfl rfl ?_
  refine rn_iconst (v := (0 : Int32)) dX10_told_1 (by decide) ?_
  obtain ⟨q1, fs1, hq1, hl1, hf1⟩ := ts_obj hS0.1 m0_ hk_30
  refine rs_put q1 (kp_SGModel_137 _) hS0 hq1 hl1 hf1 hk_30 rfl rfl (tv_i (rg_w rk_0 (by decide) (by decide))) rfl rfl dX10_told_2 (fun w2 fs3 hS3 hl3 hf3 hx3 ho3 hn3 => ?_)
  have fk4 : fK1 4 S ws w2 := fk_put fk0 hS0.1 hq1 hl1 hl3 ho3 (by decide)
  refine rn_aload_n (i := 0) dX10_told_5 rfl rfl ?_
  refine rn_iload_n (i := 1) dX10_told_6 rfl rfl ?_
  refine rn_iconst (v := (0 : Int32)) dX10_told_7 (by decide) ?_
  refine rn_aload_n (i := 0) dX10_told_8 rfl rfl ?_
  obtain ⟨x5, hx5, rx5⟩ := fs_i hf3 22 rfl
  refine rn_get q1 kg_SGModel_200 hl3 hx5 dX10_told_9 ?_
  refine rn_iconst (v := (1 : Int32)) dX10_told_12 (by decide) ?_
  refine rs_subC (-1) (15) rx5 rk_1 dX10_told_13 (by decide) (fun v6 ev6 rv6 => ?_)
  refine rn_inS (d' := 0) (z' := 0) [.int x1_, .int (0 : Int32), .int v6] kl_SGModel_179 dX10_told_14 rfl rfl (Nat.le_of_ble_eq_true rfl) (Nat.le_of_ble_eq_true rfl) (Nat.le_of_ble_eq_true rfl) (Nat.le_of_ble_eq_true rfl) ?_
  refine rn_lv [(0, .int x1_), (1, .int (0 : Int32)), (2, .int v6)] rfl ?_
  refine rn_iload_n (i := 0) dX10_in_0 rfl rfl ?_
  refine rn_iload_n (i := 1) dX10_in_1 rfl rfl ?_
  refine rn_icmp_lt (tgt := 14) dX10_in_2 (by decide) (fun h7 => ?_) (fun h7 => ?_)
  · have ch7 := cv_lt h7
    have r8 : Rg (-2147483648) (-1) x1_ := rf_ltx ch7 (rg_any x1_) rk_0 (by decide)
    refine rn_iconst (v := (0 : Int32)) dX10_in_14 (by decide) ?_
    refine rn_iret dX10_in_15 rfl rfl (rq_in ?_)
    refine rn_stk [.int (0 : Int32), .ref o0_] rfl ?_
    refine rn_if_eq (tgt := 29) dX10_told_17 (by decide) (fun h9 => ?_) (fun h9 => (cx_ne (cv_ne h9) rk_0 rk_0 (by decide)).elim)
    refine rn_iconst (v := (1 : Int32)) dX10_told_29 (by decide) ?_
    refine rn_goto (tgt := 34) dX10_told_30 (by decide) ?_
    refine rn_iconst (v := (1 : Int32)) dX10_told_34 (by decide) ?_
    refine rn_inV (d' := 0) (z' := 0) [.int (1 : Int32), .int (1 : Int32)] kl_SGModel_171 dX10_told_35 q1 hl3 rfl rfl rfl (Nat.le_of_ble_eq_true rfl) (Nat.le_of_ble_eq_true rfl) (Nat.le_of_ble_eq_true rfl) (Nat.le_of_ble_eq_true rfl) ?_
    refine rn_lv [(0, .ref o0_), (1, .int (1 : Int32)), (2, .int (1 : Int32))] rfl ?_
    refine rn_aload_n (i := 0) dX10_refuses_0 rfl rfl ?_
    refine rn_get q1 kg_SGModel_137 hl3 hx3 dX10_refuses_1 ?_
    refine rn_if_ne (tgt := 16) dX10_refuses_4 (by decide) (fun h10 => (cx_ne (cv_ne h10) rk_0 rk_0 (by decide)).elim) (fun h10 => ?_)
    refine rn_iload_n (i := 1) dX10_refuses_7 rfl rfl ?_
    refine rn_if_eq (tgt := 16) dX10_refuses_8 (by decide) (fun h11 => (cx_eq (cv_eq h11) rk_1 rk_0 (by decide)).elim) (fun h11 => ?_)
    refine rn_aload_n (i := 0) dX10_refuses_11 rfl rfl ?_
    refine rn_iload_n (i := 2) dX10_refuses_12 rfl rfl ?_
    refine rs_put q1 (kp_SGModel_137 _) hS3 hq1 hl3 hf3 hk_30 rfl rfl (tv_i (rg_w rk_1 (by decide) (by decide))) rfl rfl dX10_refuses_13 (fun w12 fs13 hS13 hl13 hf13 hx13 ho13 hn13 => ?_)
    have fk14 : fK1 4 S ws w12 := fk_put fk4 hS3.1 hq1 hl3 hl13 ho13 (by decide)
    refine rn_aload_n (i := 0) dX10_refuses_16 rfl rfl ?_
    refine rn_get q1 kg_SGModel_137 hl13 hx13 dX10_refuses_17 ?_
    refine rn_if_le (tgt := 27) dX10_refuses_20 (by decide) (fun h15 => (cx_le (cv_le h15) rk_1 rk_0 (by decide)).elim) (fun h15 => ?_)
    refine rn_iconst (v := (1 : Int32)) dX10_refuses_23 (by decide) ?_
    refine rn_goto (tgt := 28) dX10_refuses_24 (by decide) ?_
    refine rn_iret dX10_refuses_28 rfl rfl (rq_in ?_)
    refine rn_stk [.int (1 : Int32)] rfl ?_
    refine rn_if_eq (tgt := 43) dX10_told_38 (by decide) (fun h16 => (cx_eq (cv_eq h16) rk_1 rk_0 (by decide)).elim) (fun h16 => ?_)
    refine rn_iconst (v := (0 : Int32)) dX10_told_41 (by decide) ?_
    exact rn_iret dX10_told_42 rfl rfl (rq_in ⟨hS13, (0 : Int32), rfl, (rg_w rk_0 (by decide) (by decide)), fk14⟩)
  · have ch7 := cv_nlt h7
    have r17 : Rg (0) (2147483647) x1_ := rf_ley ch7 rk_0 (rg_any x1_) (by decide)
    refine rn_iload_n (i := 0) dX10_in_5 rfl rfl ?_
    refine rn_iload_n (i := 2) dX10_in_6 rfl rfl ?_
    refine rn_icmp_gt (tgt := 14) dX10_in_7 (by decide) (fun h18 => ?_) (fun h18 => ?_)
    · have ch18 := cv_lt h18
      refine rn_iconst (v := (0 : Int32)) dX10_in_14 (by decide) ?_
      refine rn_iret dX10_in_15 rfl rfl (rq_in ?_)
      refine rn_stk [.int (0 : Int32), .ref o0_] rfl ?_
      refine rn_if_eq (tgt := 29) dX10_told_17 (by decide) (fun h19 => ?_) (fun h19 => (cx_ne (cv_ne h19) rk_0 rk_0 (by decide)).elim)
      refine rn_iconst (v := (1 : Int32)) dX10_told_29 (by decide) ?_
      refine rn_goto (tgt := 34) dX10_told_30 (by decide) ?_
      refine rn_iconst (v := (1 : Int32)) dX10_told_34 (by decide) ?_
      refine rn_inV (d' := 0) (z' := 0) [.int (1 : Int32), .int (1 : Int32)] kl_SGModel_171 dX10_told_35 q1 hl3 rfl rfl rfl (Nat.le_of_ble_eq_true rfl) (Nat.le_of_ble_eq_true rfl) (Nat.le_of_ble_eq_true rfl) (Nat.le_of_ble_eq_true rfl) ?_
      refine rn_lv [(0, .ref o0_), (1, .int (1 : Int32)), (2, .int (1 : Int32))] rfl ?_
      refine rn_aload_n (i := 0) dX10_refuses_0 rfl rfl ?_
      refine rn_get q1 kg_SGModel_137 hl3 hx3 dX10_refuses_1 ?_
      refine rn_if_ne (tgt := 16) dX10_refuses_4 (by decide) (fun h20 => (cx_ne (cv_ne h20) rk_0 rk_0 (by decide)).elim) (fun h20 => ?_)
      refine rn_iload_n (i := 1) dX10_refuses_7 rfl rfl ?_
      refine rn_if_eq (tgt := 16) dX10_refuses_8 (by decide) (fun h21 => (cx_eq (cv_eq h21) rk_1 rk_0 (by decide)).elim) (fun h21 => ?_)
      refine rn_aload_n (i := 0) dX10_refuses_11 rfl rfl ?_
      refine rn_iload_n (i := 2) dX10_refuses_12 rfl rfl ?_
      refine rs_put q1 (kp_SGModel_137 _) hS3 hq1 hl3 hf3 hk_30 rfl rfl (tv_i (rg_w rk_1 (by decide) (by decide))) rfl rfl dX10_refuses_13 (fun w22 fs23 hS23 hl23 hf23 hx23 ho23 hn23 => ?_)
      have fk24 : fK1 4 S ws w22 := fk_put fk4 hS3.1 hq1 hl3 hl23 ho23 (by decide)
      refine rn_aload_n (i := 0) dX10_refuses_16 rfl rfl ?_
      refine rn_get q1 kg_SGModel_137 hl23 hx23 dX10_refuses_17 ?_
      refine rn_if_le (tgt := 27) dX10_refuses_20 (by decide) (fun h25 => (cx_le (cv_le h25) rk_1 rk_0 (by decide)).elim) (fun h25 => ?_)
      refine rn_iconst (v := (1 : Int32)) dX10_refuses_23 (by decide) ?_
      refine rn_goto (tgt := 28) dX10_refuses_24 (by decide) ?_
      refine rn_iret dX10_refuses_28 rfl rfl (rq_in ?_)
      refine rn_stk [.int (1 : Int32)] rfl ?_
      refine rn_if_eq (tgt := 43) dX10_told_38 (by decide) (fun h26 => (cx_eq (cv_eq h26) rk_1 rk_0 (by decide)).elim) (fun h26 => ?_)
      refine rn_iconst (v := (0 : Int32)) dX10_told_41 (by decide) ?_
      exact rn_iret dX10_told_42 rfl rfl (rq_in ⟨hS23, (0 : Int32), rfl, (rg_w rk_0 (by decide) (by decide)), fk24⟩)
    · have ch18 := cv_nlt h18
      have r27 : Rg (0) (15) x1_ := rf_lex ch18 r17 rv6 (by decide)
      have r28 : Rg (0) (15) v6 := rf_ley ch18 r17 rv6 (by decide)
      refine rn_iconst (v := (1 : Int32)) dX10_in_10 (by decide) ?_
      refine rn_goto (tgt := 15) dX10_in_11 (by decide) ?_
      refine rn_iret dX10_in_15 rfl rfl (rq_in ?_)
      refine rn_stk [.int (1 : Int32), .ref o0_] rfl ?_
      refine rn_if_eq (tgt := 29) dX10_told_17 (by decide) (fun h29 => (cx_eq (cv_eq h29) rk_1 rk_0 (by decide)).elim) (fun h29 => ?_)
      refine rn_iload_n (i := 2) dX10_told_20 rfl rfl ?_
      refine rn_iconst (v := (0 : Int32)) dX10_told_21 (by decide) ?_
      refine rn_iconst (v := (5 : Int32)) dX10_told_22 (by decide) ?_
      refine rn_inS (d' := 0) (z' := 0) [.int x2_, .int (0 : Int32), .int (5 : Int32)] kl_SGModel_179 dX10_told_23 rfl rfl (Nat.le_of_ble_eq_true rfl) (Nat.le_of_ble_eq_true rfl) (Nat.le_of_ble_eq_true rfl) (Nat.le_of_ble_eq_true rfl) ?_
      refine rn_lv [(0, .int x2_), (1, .int (0 : Int32)), (2, .int (5 : Int32))] rfl ?_
      refine rn_iload_n (i := 0) dX10_in_0 rfl rfl ?_
      refine rn_iload_n (i := 1) dX10_in_1 rfl rfl ?_
      refine rn_icmp_lt (tgt := 14) dX10_in_2 (by decide) (fun h30 => ?_) (fun h30 => ?_)
      · have ch30 := cv_lt h30
        have r31 : Rg (-2147483648) (-1) x2_ := rf_ltx ch30 (rg_any x2_) rk_0 (by decide)
        refine rn_iconst (v := (0 : Int32)) dX10_in_14 (by decide) ?_
        refine rn_iret dX10_in_15 rfl rfl (rq_in ?_)
        refine rn_stk [.int (0 : Int32), .ref o0_] rfl ?_
        refine rn_if_ne (tgt := 33) dX10_told_26 (by decide) (fun h32 => (cx_ne (cv_ne h32) rk_0 rk_0 (by decide)).elim) (fun h32 => ?_)
        refine rn_iconst (v := (1 : Int32)) dX10_told_29 (by decide) ?_
        refine rn_goto (tgt := 34) dX10_told_30 (by decide) ?_
        refine rn_iconst (v := (1 : Int32)) dX10_told_34 (by decide) ?_
        refine rn_inV (d' := 0) (z' := 0) [.int (1 : Int32), .int (1 : Int32)] kl_SGModel_171 dX10_told_35 q1 hl3 rfl rfl rfl (Nat.le_of_ble_eq_true rfl) (Nat.le_of_ble_eq_true rfl) (Nat.le_of_ble_eq_true rfl) (Nat.le_of_ble_eq_true rfl) ?_
        refine rn_lv [(0, .ref o0_), (1, .int (1 : Int32)), (2, .int (1 : Int32))] rfl ?_
        refine rn_aload_n (i := 0) dX10_refuses_0 rfl rfl ?_
        refine rn_get q1 kg_SGModel_137 hl3 hx3 dX10_refuses_1 ?_
        refine rn_if_ne (tgt := 16) dX10_refuses_4 (by decide) (fun h33 => (cx_ne (cv_ne h33) rk_0 rk_0 (by decide)).elim) (fun h33 => ?_)
        refine rn_iload_n (i := 1) dX10_refuses_7 rfl rfl ?_
        refine rn_if_eq (tgt := 16) dX10_refuses_8 (by decide) (fun h34 => (cx_eq (cv_eq h34) rk_1 rk_0 (by decide)).elim) (fun h34 => ?_)
        refine rn_aload_n (i := 0) dX10_refuses_11 rfl rfl ?_
        refine rn_iload_n (i := 2) dX10_refuses_12 rfl rfl ?_
        refine rs_put q1 (kp_SGModel_137 _) hS3 hq1 hl3 hf3 hk_30 rfl rfl (tv_i (rg_w rk_1 (by decide) (by decide))) rfl rfl dX10_refuses_13 (fun w35 fs36 hS36 hl36 hf36 hx36 ho36 hn36 => ?_)
        have fk37 : fK1 4 S ws w35 := fk_put fk4 hS3.1 hq1 hl3 hl36 ho36 (by decide)
        refine rn_aload_n (i := 0) dX10_refuses_16 rfl rfl ?_
        refine rn_get q1 kg_SGModel_137 hl36 hx36 dX10_refuses_17 ?_
        refine rn_if_le (tgt := 27) dX10_refuses_20 (by decide) (fun h38 => (cx_le (cv_le h38) rk_1 rk_0 (by decide)).elim) (fun h38 => ?_)
        refine rn_iconst (v := (1 : Int32)) dX10_refuses_23 (by decide) ?_
        refine rn_goto (tgt := 28) dX10_refuses_24 (by decide) ?_
        refine rn_iret dX10_refuses_28 rfl rfl (rq_in ?_)
        refine rn_stk [.int (1 : Int32)] rfl ?_
        refine rn_if_eq (tgt := 43) dX10_told_38 (by decide) (fun h39 => (cx_eq (cv_eq h39) rk_1 rk_0 (by decide)).elim) (fun h39 => ?_)
        refine rn_iconst (v := (0 : Int32)) dX10_told_41 (by decide) ?_
        exact rn_iret dX10_told_42 rfl rfl (rq_in ⟨hS36, (0 : Int32), rfl, (rg_w rk_0 (by decide) (by decide)), fk37⟩)
      · have ch30 := cv_nlt h30
        have r40 : Rg (0) (2147483647) x2_ := rf_ley ch30 rk_0 (rg_any x2_) (by decide)
        refine rn_iload_n (i := 0) dX10_in_5 rfl rfl ?_
        refine rn_iload_n (i := 2) dX10_in_6 rfl rfl ?_
        refine rn_icmp_gt (tgt := 14) dX10_in_7 (by decide) (fun h41 => ?_) (fun h41 => ?_)
        · have ch41 := cv_lt h41
          have r42 : Rg (6) (2147483647) x2_ := rf_lty ch41 rk_5 r40 (by decide)
          refine rn_iconst (v := (0 : Int32)) dX10_in_14 (by decide) ?_
          refine rn_iret dX10_in_15 rfl rfl (rq_in ?_)
          refine rn_stk [.int (0 : Int32), .ref o0_] rfl ?_
          refine rn_if_ne (tgt := 33) dX10_told_26 (by decide) (fun h43 => (cx_ne (cv_ne h43) rk_0 rk_0 (by decide)).elim) (fun h43 => ?_)
          refine rn_iconst (v := (1 : Int32)) dX10_told_29 (by decide) ?_
          refine rn_goto (tgt := 34) dX10_told_30 (by decide) ?_
          refine rn_iconst (v := (1 : Int32)) dX10_told_34 (by decide) ?_
          refine rn_inV (d' := 0) (z' := 0) [.int (1 : Int32), .int (1 : Int32)] kl_SGModel_171 dX10_told_35 q1 hl3 rfl rfl rfl (Nat.le_of_ble_eq_true rfl) (Nat.le_of_ble_eq_true rfl) (Nat.le_of_ble_eq_true rfl) (Nat.le_of_ble_eq_true rfl) ?_
          refine rn_lv [(0, .ref o0_), (1, .int (1 : Int32)), (2, .int (1 : Int32))] rfl ?_
          refine rn_aload_n (i := 0) dX10_refuses_0 rfl rfl ?_
          refine rn_get q1 kg_SGModel_137 hl3 hx3 dX10_refuses_1 ?_
          refine rn_if_ne (tgt := 16) dX10_refuses_4 (by decide) (fun h44 => (cx_ne (cv_ne h44) rk_0 rk_0 (by decide)).elim) (fun h44 => ?_)
          refine rn_iload_n (i := 1) dX10_refuses_7 rfl rfl ?_
          refine rn_if_eq (tgt := 16) dX10_refuses_8 (by decide) (fun h45 => (cx_eq (cv_eq h45) rk_1 rk_0 (by decide)).elim) (fun h45 => ?_)
          refine rn_aload_n (i := 0) dX10_refuses_11 rfl rfl ?_
          refine rn_iload_n (i := 2) dX10_refuses_12 rfl rfl ?_
          refine rs_put q1 (kp_SGModel_137 _) hS3 hq1 hl3 hf3 hk_30 rfl rfl (tv_i (rg_w rk_1 (by decide) (by decide))) rfl rfl dX10_refuses_13 (fun w46 fs47 hS47 hl47 hf47 hx47 ho47 hn47 => ?_)
          have fk48 : fK1 4 S ws w46 := fk_put fk4 hS3.1 hq1 hl3 hl47 ho47 (by decide)
          refine rn_aload_n (i := 0) dX10_refuses_16 rfl rfl ?_
          refine rn_get q1 kg_SGModel_137 hl47 hx47 dX10_refuses_17 ?_
          refine rn_if_le (tgt := 27) dX10_refuses_20 (by decide) (fun h49 => (cx_le (cv_le h49) rk_1 rk_0 (by decide)).elim) (fun h49 => ?_)
          refine rn_iconst (v := (1 : Int32)) dX10_refuses_23 (by decide) ?_
          refine rn_goto (tgt := 28) dX10_refuses_24 (by decide) ?_
          refine rn_iret dX10_refuses_28 rfl rfl (rq_in ?_)
          refine rn_stk [.int (1 : Int32)] rfl ?_
          refine rn_if_eq (tgt := 43) dX10_told_38 (by decide) (fun h50 => (cx_eq (cv_eq h50) rk_1 rk_0 (by decide)).elim) (fun h50 => ?_)
          refine rn_iconst (v := (0 : Int32)) dX10_told_41 (by decide) ?_
          exact rn_iret dX10_told_42 rfl rfl (rq_in ⟨hS47, (0 : Int32), rfl, (rg_w rk_0 (by decide) (by decide)), fk48⟩)
        · have ch41 := cv_nlt h41
          have r51 : Rg (0) (5) x2_ := rf_lex ch41 r40 rk_5 (by decide)
          refine rn_iconst (v := (1 : Int32)) dX10_in_10 (by decide) ?_
          refine rn_goto (tgt := 15) dX10_in_11 (by decide) ?_
          refine rn_iret dX10_in_15 rfl rfl (rq_in ?_)
          refine rn_stk [.int (1 : Int32), .ref o0_] rfl ?_
          refine rn_if_ne (tgt := 33) dX10_told_26 (by decide) (fun h52 => ?_) (fun h52 => (cx_eq (cv_eq h52) rk_1 rk_0 (by decide)).elim)
          refine rn_iconst (v := (0 : Int32)) dX10_told_33 (by decide) ?_
          refine rn_iconst (v := (1 : Int32)) dX10_told_34 (by decide) ?_
          refine rn_inV (d' := 0) (z' := 0) [.int (0 : Int32), .int (1 : Int32)] kl_SGModel_171 dX10_told_35 q1 hl3 rfl rfl rfl (Nat.le_of_ble_eq_true rfl) (Nat.le_of_ble_eq_true rfl) (Nat.le_of_ble_eq_true rfl) (Nat.le_of_ble_eq_true rfl) ?_
          refine rn_lv [(0, .ref o0_), (1, .int (0 : Int32)), (2, .int (1 : Int32))] rfl ?_
          refine rn_aload_n (i := 0) dX10_refuses_0 rfl rfl ?_
          refine rn_get q1 kg_SGModel_137 hl3 hx3 dX10_refuses_1 ?_
          refine rn_if_ne (tgt := 16) dX10_refuses_4 (by decide) (fun h53 => (cx_ne (cv_ne h53) rk_0 rk_0 (by decide)).elim) (fun h53 => ?_)
          refine rn_iload_n (i := 1) dX10_refuses_7 rfl rfl ?_
          refine rn_if_eq (tgt := 16) dX10_refuses_8 (by decide) (fun h54 => ?_) (fun h54 => (cx_ne (cv_ne h54) rk_0 rk_0 (by decide)).elim)
          refine rn_aload_n (i := 0) dX10_refuses_16 rfl rfl ?_
          refine rn_get q1 kg_SGModel_137 hl3 hx3 dX10_refuses_17 ?_
          refine rn_if_le (tgt := 27) dX10_refuses_20 (by decide) (fun h55 => ?_) (fun h55 => (cx_lt (cv_nle h55) rk_0 rk_0 (by decide)).elim)
          refine rn_iconst (v := (0 : Int32)) dX10_refuses_27 (by decide) ?_
          refine rn_iret dX10_refuses_28 rfl rfl (rq_in ?_)
          refine rn_stk [.int (0 : Int32)] rfl ?_
          refine rn_if_eq (tgt := 43) dX10_told_38 (by decide) (fun h56 => ?_) (fun h56 => (cx_ne (cv_ne h56) rk_0 rk_0 (by decide)).elim)
          refine rn_iload_n (i := 2) dX10_told_43 rfl rfl ?_
          by_cases h57 : x2_ = (0 : Int32)
          · refine rn_topi (0 : Int32) h57 ?_
            refine rn_tableIn (off := 36) (tgt := 80) dX10_told_44 (by decide) (by decide) (by decide) (by decide) ?_
            refine rn_aload_n (i := 0) dX10_told_80 rfl rfl ?_
            obtain ⟨o58, hx58, m58⟩ := fs_r hf3 23 rfl
            refine rn_get q1 kg_SGModel_57 hl3 hx58 dX10_told_81 ?_
            refine rn_iload_n (i := 1) dX10_told_84 rfl rfl ?_
            obtain ⟨q59, f59, hq59, hl59, hf59⟩ := ts_ia hS3.1 m58 hk_54
            refine rs_iald q59 hl59 hf59 rfl r27 (by decide) (by decide) dX10_told_85 (fun v60 ev60 rv60 => ?_)
            exact rn_iret dX10_told_86 rfl rfl (rq_in ⟨hS3, v60, rfl, rv60, fk4⟩)
          · skip
            by_cases h61 : x2_ = (1 : Int32)
            · refine rn_topi (1 : Int32) h61 ?_
              refine rn_tableIn (off := 43) (tgt := 87) dX10_told_44 (by decide) (by decide) (by decide) (by decide) ?_
              refine rn_aload_n (i := 0) dX10_told_87 rfl rfl ?_
              obtain ⟨o62, hx62, m62⟩ := fs_r hf3 24 rfl
              refine rn_get q1 kg_SGModel_60 hl3 hx62 dX10_told_88 ?_
              refine rn_iload_n (i := 1) dX10_told_91 rfl rfl ?_
              obtain ⟨q63, f63, hq63, hl63, hf63⟩ := ts_ia hS3.1 m62 hk_55
              refine rs_iald q63 hl63 hf63 rfl r27 (by decide) (by decide) dX10_told_92 (fun v64 ev64 rv64 => ?_)
              exact rn_iret dX10_told_93 rfl rfl (rq_in ⟨hS3, v64, rfl, (rg_w rv64 (by decide) (by decide)), fk4⟩)
            · skip
              by_cases h65 : x2_ = (2 : Int32)
              · refine rn_topi (2 : Int32) h65 ?_
                refine rn_tableIn (off := 50) (tgt := 94) dX10_told_44 (by decide) (by decide) (by decide) (by decide) ?_
                refine rn_aload_n (i := 0) dX10_told_94 rfl rfl ?_
                obtain ⟨o66, hx66, m66⟩ := fs_r hf3 25 rfl
                refine rn_get q1 kg_SGModel_63 hl3 hx66 dX10_told_95 ?_
                refine rn_iload_n (i := 1) dX10_told_98 rfl rfl ?_
                obtain ⟨q67, f67, hq67, hl67, hf67⟩ := ts_ia hS3.1 m66 hk_56
                refine rs_iald q67 hl67 hf67 rfl r27 (by decide) (by decide) dX10_told_99 (fun v68 ev68 rv68 => ?_)
                exact rn_iret dX10_told_100 rfl rfl (rq_in ⟨hS3, v68, rfl, rv68, fk4⟩)
              · skip
                by_cases h69 : x2_ = (3 : Int32)
                · refine rn_topi (3 : Int32) h69 ?_
                  refine rn_tableIn (off := 57) (tgt := 101) dX10_told_44 (by decide) (by decide) (by decide) (by decide) ?_
                  refine rn_aload_n (i := 0) dX10_told_101 rfl rfl ?_
                  obtain ⟨o70, hx70, m70⟩ := fs_r hf3 29 rfl
                  refine rn_get q1 kg_SGModel_77 hl3 hx70 dX10_told_102 ?_
                  refine rn_iload_n (i := 1) dX10_told_105 rfl rfl ?_
                  obtain ⟨q71, f71, hq71, hl71, hf71⟩ := ts_ia hS3.1 m70 hk_60
                  refine rs_iald q71 hl71 hf71 rfl r27 (by decide) (by decide) dX10_told_106 (fun v72 ev72 rv72 => ?_)
                  exact rn_iret dX10_told_107 rfl rfl (rq_in ⟨hS3, v72, rfl, rv72, fk4⟩)
                · skip
                  by_cases h73 : x2_ = (4 : Int32)
                  · refine rn_topi (4 : Int32) h73 ?_
                    refine rn_tableIn (off := 64) (tgt := 108) dX10_told_44 (by decide) (by decide) (by decide) (by decide) ?_
                    refine rn_aload_n (i := 0) dX10_told_108 rfl rfl ?_
                    refine rn_iload_n (i := 1) dX10_told_109 rfl rfl ?_
                    refine rn_callV (a := 0) (b := 0) [.int x1_] kl_SGModel_207 dX10_told_110 q1 hl3 rfl (t_X10_isDead G S w2 hS3.1 o0_ m0_ x1_ r27) rfl rfl (Nat.le_of_ble_eq_true rfl) (Nat.le_of_ble_eq_true rfl) (Nat.le_of_ble_eq_true rfl) (Nat.le_of_ble_eq_true rfl) (Nat.le_of_ble_eq_true rfl) (Nat.le_of_ble_eq_true rfl) (fun _ _ h => False.elim h) (fun v9 w74 h75 => ?_)
                    obtain ⟨rfl, v76, rfl, rv76⟩ := h75
                    refine rn_stk [.int v76] rfl ?_
                    refine rn_if_eq (tgt := 120) dX10_told_113 (by decide) (fun h78 => ?_) (fun h78 => ?_)
                    · have ch78 := cv_eq h78
                      have r79 : Rg (0) (0) v76 := rf_eqx ch78 rv76 rk_0 (by decide) (by decide)
                      refine rn_iconst (v := (0 : Int32)) dX10_told_120 (by decide) ?_
                      exact rn_iret dX10_told_121 rfl rfl (rq_in ⟨hS3, (0 : Int32), rfl, (rg_w rk_0 (by decide) (by decide)), fk4⟩)
                    · have ch78 := cv_ne h78
                      have r80 : Rg (1) (1) v76 := rf_nel ch78 rv76 rk_0 (by decide) (by decide)
                      refine rn_iconst (v := (1 : Int32)) dX10_told_116 (by decide) ?_
                      refine rn_goto (tgt := 121) dX10_told_117 (by decide) ?_
                      exact rn_iret dX10_told_121 rfl rfl (rq_in ⟨hS3, (1 : Int32), rfl, (rg_w rk_1 (by decide) (by decide)), fk4⟩)
                  · skip
                    have ch57 := cv_ne h57
                    rw [show (0 : Int32).toInt = 0 by decide] at ch57
                    have ch61 := cv_ne h61
                    rw [show (1 : Int32).toInt = 1 by decide] at ch61
                    have ch65 := cv_ne h65
                    rw [show (2 : Int32).toInt = 2 by decide] at ch65
                    have ch69 := cv_ne h69
                    rw [show (3 : Int32).toInt = 3 by decide] at ch69
                    have ch73 := cv_ne h73
                    rw [show (4 : Int32).toInt = 4 by decide] at ch73
                    have r9a := r51.1; have r9b := r51.2
                    refine rn_tableOut (tgt := 122) dX10_told_44 (by omega) (by decide) ?_
                    refine rn_aload_n (i := 0) dX10_told_122 rfl rfl ?_
                    obtain ⟨o81, hx81, m81⟩ := fs_r hf3 28 rfl
                    refine rn_get q1 kg_SGModel_73 hl3 hx81 dX10_told_123 ?_
                    refine rn_iload_n (i := 1) dX10_told_126 rfl rfl ?_
                    obtain ⟨q82, f82, hq82, hl82, hf82⟩ := ts_ia hS3.1 m81 hk_59
                    refine rs_zald q82 hl82 hf82 rfl r27 (by decide) (by decide) dX10_told_127 (fun v83 ev83 rv83 => ?_)
                    refine rn_if_eq (tgt := 135) dX10_told_128 (by decide) (fun h84 => ?_) (fun h84 => ?_)
                    · have ch84 := cv_eq h84
                      have r85 : Rg (0) (0) v83 := rf_eqx ch84 rv83 rk_0 (by decide) (by decide)
                      refine rn_iconst (v := (0 : Int32)) dX10_told_135 (by decide) ?_
                      exact rn_iret dX10_told_136 rfl rfl (rq_in ⟨hS3, (0 : Int32), rfl, (rg_w rk_0 (by decide) (by decide)), fk4⟩)
                    · have ch84 := cv_ne h84
                      have r86 : Rg (1) (1) v83 := rf_nel ch84 rv83 rk_0 (by decide) (by decide)
                      refine rn_iconst (v := (1 : Int32)) dX10_told_131 (by decide) ?_
                      refine rn_goto (tgt := 136) dX10_told_132 (by decide) ?_
                      exact rn_iret dX10_told_136 rfl rfl (rq_in ⟨hS3, (1 : Int32), rfl, (rg_w rk_1 (by decide) (by decide)), fk4⟩)
