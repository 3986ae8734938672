abbrev q_t_X10_come (G : rn_G) (S : ts_S) (ws : va_W) : rn_R → va_W → Prop := rQ (fun v w => St G S [30, 33, 60, 62, 63, 65, 67, 68, 69, 70, 71, 72, 73, 75, 77, 78, 79, 80, 81] ws S w ∧ (∃ x : Int32, v = some (.int x) ∧ Rg (0) (17) x ∧ fK1 4 S ws w)) (fun E w => False)
set_option maxRecDepth 20000 in
set_option maxHeartbeats 4000000 in
theorem t_X10_come (G : rn_G) (S : ts_S) (ws : va_W) (hW : ts_W G S ws) (o0_ : Nat) (m0_ : (o0_, 30) ∈ S) (x1_ : Int32) : Rn G mX10_come 8 188 0 0 0 (lv_args 0 [.ref o0_, .int x1_]) [] ws (q_t_X10_come G S ws ) := by
  have hS0 : St G S [30, 33, 60, 62, 63, 65, 67, 68, 69, 70, 71, 72, 73, 75, 77, 78, 79, 80, 81] ws S ws := St.rf hW
  have fk0 : fK1 4 S ws ws := fun v h => h
  refine rn_lv [(0, .ref o0_), (1, .int x1_)] rfl ?_
  refine rn_aload_n (i := 0) dX10_come_0 rfl rfl ?_
  refine rn_iconst (v := (0 : Int32)) dX10_come_1 (by decide) ?_
  obtain ⟨q1, fs1, hq1, hl1, hf1⟩ := ts_obj hS0.1 m0_ hk_30
  refine rs_put q1 (kp_SGModel_137 _) hS0 hq1 hl1 hf1 hk_30 rfl rfl (tv_i (rg_w rk_0 (by decide) (by decide))) rfl rfl dX10_come_2 (fun w2 fs3 hS3 hl3 hf3 hx3 ho3 hn3 => ?_)
  have fk4 : fK1 4 S ws w2 := fk_put fk0 hS0.1 hq1 hl1 hl3 ho3 (by decide)
  refine rn_aload_n (i := 0) dX10_come_5 rfl rfl ?_
  refine rn_iload_n (i := 1) dX10_come_6 rfl rfl ?_
  refine rn_iconst (v := (0 : Int32)) dX10_come_7 (by decide) ?_
  refine rn_iconst (v := (1 : Int32)) dX10_come_8 (by decide) ?_
  refine rn_inS (d' := 0) (z' := 0) [.int x1_, .int (0 : Int32), .int (1 : Int32)] kl_SGModel_179 dX10_come_9 rfl rfl (Nat.le_of_ble_eq_true rfl) (Nat.le_of_ble_eq_true rfl) (Nat.le_of_ble_eq_true rfl) (Nat.le_of_ble_eq_true rfl) ?_
  refine rn_lv [(0, .int x1_), (1, .int (0 : Int32)), (2, .int (1 : Int32))] rfl ?_
  refine rn_iload_n (i := 0) dX10_in_0 rfl rfl ?_
  refine rn_iload_n (i := 1) dX10_in_1 rfl rfl ?_
  refine rn_icmp_lt (tgt := 14) dX10_in_2 (by decide) (fun h5 => ?_) (fun h5 => ?_)
  · have ch5 := cv_lt h5
    have r6 : Rg (-2147483648) (-1) x1_ := rf_ltx ch5 (rg_any x1_) rk_0 (by decide)
    refine rn_iconst (v := (0 : Int32)) dX10_in_14 (by decide) ?_
    refine rn_iret dX10_in_15 rfl rfl (rq_in ?_)
    refine rn_stk [.int (0 : Int32), .ref o0_] rfl ?_
    refine rn_if_ne (tgt := 19) dX10_come_12 (by decide) (fun h7 => (cx_ne (cv_ne h7) rk_0 rk_0 (by decide)).elim) (fun h7 => ?_)
    refine rn_iconst (v := (1 : Int32)) dX10_come_15 (by decide) ?_
    refine rn_goto (tgt := 20) dX10_come_16 (by decide) ?_
    refine rn_iconst (v := (1 : Int32)) dX10_come_20 (by decide) ?_
    refine rn_inV (d' := 0) (z' := 0) [.int (1 : Int32), .int (1 : Int32)] kl_SGModel_171 dX10_come_21 q1 hl3 rfl rfl rfl (Nat.le_of_ble_eq_true rfl) (Nat.le_of_ble_eq_true rfl) (Nat.le_of_ble_eq_true rfl) (Nat.le_of_ble_eq_true rfl) ?_
    refine rn_lv [(0, .ref o0_), (1, .int (1 : Int32)), (2, .int (1 : Int32))] rfl ?_
    refine rn_aload_n (i := 0) dX10_refuses_0 rfl rfl ?_
    refine rn_get q1 kg_SGModel_137 hl3 hx3 dX10_refuses_1 ?_
    refine rn_if_ne (tgt := 16) dX10_refuses_4 (by decide) (fun h8 => (cx_ne (cv_ne h8) rk_0 rk_0 (by decide)).elim) (fun h8 => ?_)
    refine rn_iload_n (i := 1) dX10_refuses_7 rfl rfl ?_
    refine rn_if_eq (tgt := 16) dX10_refuses_8 (by decide) (fun h9 => (cx_eq (cv_eq h9) rk_1 rk_0 (by decide)).elim) (fun h9 => ?_)
    refine rn_aload_n (i := 0) dX10_refuses_11 rfl rfl ?_
    refine rn_iload_n (i := 2) dX10_refuses_12 rfl rfl ?_
    refine rs_put q1 (kp_SGModel_137 _) hS3 hq1 hl3 hf3 hk_30 rfl rfl (tv_i (rg_w rk_1 (by decide) (by decide))) rfl rfl dX10_refuses_13 (fun w10 fs11 hS11 hl11 hf11 hx11 ho11 hn11 => ?_)
    have fk12 : fK1 4 S ws w10 := fk_put fk4 hS3.1 hq1 hl3 hl11 ho11 (by decide)
    refine rn_aload_n (i := 0) dX10_refuses_16 rfl rfl ?_
    refine rn_get q1 kg_SGModel_137 hl11 hx11 dX10_refuses_17 ?_
    refine rn_if_le (tgt := 27) dX10_refuses_20 (by decide) (fun h13 => (cx_le (cv_le h13) rk_1 rk_0 (by decide)).elim) (fun h13 => ?_)
    refine rn_iconst (v := (1 : Int32)) dX10_refuses_23 (by decide) ?_
    refine rn_goto (tgt := 28) dX10_refuses_24 (by decide) ?_
    refine rn_iret dX10_refuses_28 rfl rfl (rq_in ?_)
    refine rn_stk [.int (1 : Int32)] rfl ?_
    refine rn_if_eq (tgt := 29) dX10_come_24 (by decide) (fun h14 => (cx_eq (cv_eq h14) rk_1 rk_0 (by decide)).elim) (fun h14 => ?_)
    refine rn_iconst (v := (0 : Int32)) dX10_come_27 (by decide) ?_
    exact rn_iret dX10_come_28 rfl rfl (rq_in ⟨hS11, (0 : Int32), rfl, (rg_w rk_0 (by decide) (by decide)), fk12⟩)
  · have ch5 := cv_nlt h5
    have r15 : Rg (0) (2147483647) x1_ := rf_ley ch5 rk_0 (rg_any x1_) (by decide)
    refine rn_iload_n (i := 0) dX10_in_5 rfl rfl ?_
    refine rn_iload_n (i := 2) dX10_in_6 rfl rfl ?_
    refine rn_icmp_gt (tgt := 14) dX10_in_7 (by decide) (fun h16 => ?_) (fun h16 => ?_)
    · have ch16 := cv_lt h16
      have r17 : Rg (2) (2147483647) x1_ := rf_lty ch16 rk_1 r15 (by decide)
      refine rn_iconst (v := (0 : Int32)) dX10_in_14 (by decide) ?_
      refine rn_iret dX10_in_15 rfl rfl (rq_in ?_)
      refine rn_stk [.int (0 : Int32), .ref o0_] rfl ?_
      refine rn_if_ne (tgt := 19) dX10_come_12 (by decide) (fun h18 => (cx_ne (cv_ne h18) rk_0 rk_0 (by decide)).elim) (fun h18 => ?_)
      refine rn_iconst (v := (1 : Int32)) dX10_come_15 (by decide) ?_
      refine rn_goto (tgt := 20) dX10_come_16 (by decide) ?_
      refine rn_iconst (v := (1 : Int32)) dX10_come_20 (by decide) ?_
      refine rn_inV (d' := 0) (z' := 0) [.int (1 : Int32), .int (1 : Int32)] kl_SGModel_171 dX10_come_21 q1 hl3 rfl rfl rfl (Nat.le_of_ble_eq_true rfl) (Nat.le_of_ble_eq_true rfl) (Nat.le_of_ble_eq_true rfl) (Nat.le_of_ble_eq_true rfl) ?_
      refine rn_lv [(0, .ref o0_), (1, .int (1 : Int32)), (2, .int (1 : Int32))] rfl ?_
      refine rn_aload_n (i := 0) dX10_refuses_0 rfl rfl ?_
      refine rn_get q1 kg_SGModel_137 hl3 hx3 dX10_refuses_1 ?_
      refine rn_if_ne (tgt := 16) dX10_refuses_4 (by decide) (fun h19 => (cx_ne (cv_ne h19) rk_0 rk_0 (by decide)).elim) (fun h19 => ?_)
      refine rn_iload_n (i := 1) dX10_refuses_7 rfl rfl ?_
      refine rn_if_eq (tgt := 16) dX10_refuses_8 (by decide) (fun h20 => (cx_eq (cv_eq h20) rk_1 rk_0 (by decide)).elim) (fun h20 => ?_)
      refine rn_aload_n (i := 0) dX10_refuses_11 rfl rfl ?_
      refine rn_iload_n (i := 2) dX10_refuses_12 rfl rfl ?_
      refine rs_put q1 (kp_SGModel_137 _) hS3 hq1 hl3 hf3 hk_30 rfl rfl (tv_i (rg_w rk_1 (by decide) (by decide))) rfl rfl dX10_refuses_13 (fun w21 fs22 hS22 hl22 hf22 hx22 ho22 hn22 => ?_)
      have fk23 : fK1 4 S ws w21 := fk_put fk4 hS3.1 hq1 hl3 hl22 ho22 (by decide)
      refine rn_aload_n (i := 0) dX10_refuses_16 rfl rfl ?_
      refine rn_get q1 kg_SGModel_137 hl22 hx22 dX10_refuses_17 ?_
      refine rn_if_le (tgt := 27) dX10_refuses_20 (by decide) (fun h24 => (cx_le (cv_le h24) rk_1 rk_0 (by decide)).elim) (fun h24 => ?_)
      refine rn_iconst (v := (1 : Int32)) dX10_refuses_23 (by decide) ?_
      refine rn_goto (tgt := 28) dX10_refuses_24 (by decide) ?_
      refine rn_iret dX10_refuses_28 rfl rfl (rq_in ?_)
      refine rn_stk [.int (1 : Int32)] rfl ?_
      refine rn_if_eq (tgt := 29) dX10_come_24 (by decide) (fun h25 => (cx_eq (cv_eq h25) rk_1 rk_0 (by decide)).elim) (fun h25 => ?_)
      refine rn_iconst (v := (0 : Int32)) dX10_come_27 (by decide) ?_
      exact rn_iret dX10_come_28 rfl rfl (rq_in ⟨hS22, (0 : Int32), rfl, (rg_w rk_0 (by decide) (by decide)), fk23⟩)
    · have ch16 := cv_nlt h16
      have r26 : Rg (0) (1) x1_ := rf_lex ch16 r15 rk_1 (by decide)
      refine rn_iconst (v := (1 : Int32)) dX10_in_10 (by decide) ?_
      refine rn_goto (tgt := 15) dX10_in_11 (by decide) ?_
      refine rn_iret dX10_in_15 rfl rfl (rq_in ?_)
      refine rn_stk [.int (1 : Int32), .ref o0_] rfl ?_
      refine rn_if_ne (tgt := 19) dX10_come_12 (by decide) (fun h27 => ?_) (fun h27 => (cx_eq (cv_eq h27) rk_1 rk_0 (by decide)).elim)
      refine rn_iconst (v := (0 : Int32)) dX10_come_19 (by decide) ?_
      refine rn_iconst (v := (1 : Int32)) dX10_come_20 (by decide) ?_
      refine rn_inV (d' := 0) (z' := 0) [.int (0 : Int32), .int (1 : Int32)] kl_SGModel_171 dX10_come_21 q1 hl3 rfl rfl rfl (Nat.le_of_ble_eq_true rfl) (Nat.le_of_ble_eq_true rfl) (Nat.le_of_ble_eq_true rfl) (Nat.le_of_ble_eq_true rfl) ?_
      refine rn_lv [(0, .ref o0_), (1, .int (0 : Int32)), (2, .int (1 : Int32))] rfl ?_
      refine rn_aload_n (i := 0) dX10_refuses_0 rfl rfl ?_
      refine rn_get q1 kg_SGModel_137 hl3 hx3 dX10_refuses_1 ?_
      refine rn_if_ne (tgt := 16) dX10_refuses_4 (by decide) (fun h28 => (cx_ne (cv_ne h28) rk_0 rk_0 (by decide)).elim) (fun h28 => ?_)
      refine rn_iload_n (i := 1) dX10_refuses_7 rfl rfl ?_
      refine rn_if_eq (tgt := 16) dX10_refuses_8 (by decide) (fun h29 => ?_) (fun h29 => (cx_ne (cv_ne h29) rk_0 rk_0 (by decide)).elim)
      refine rn_aload_n (i := 0) dX10_refuses_16 rfl rfl ?_
      refine rn_get q1 kg_SGModel_137 hl3 hx3 dX10_refuses_17 ?_
      refine rn_if_le (tgt := 27) dX10_refuses_20 (by decide) (fun h30 => ?_) (fun h30 => (cx_lt (cv_nle h30) rk_0 rk_0 (by decide)).elim)
      refine rn_iconst (v := (0 : Int32)) dX10_refuses_27 (by decide) ?_
      refine rn_iret dX10_refuses_28 rfl rfl (rq_in ?_)
      refine rn_stk [.int (0 : Int32)] rfl ?_
      refine rn_if_eq (tgt := 29) dX10_come_24 (by decide) (fun h31 => ?_) (fun h31 => (cx_ne (cv_ne h31) rk_0 rk_0 (by decide)).elim)
      refine rn_aload_n (i := 0) dX10_come_29 rfl rfl ?_
      refine rn_iconst (v := (0 : Int32)) dX10_come_30 (by decide) ?_
      refine rn_aload_n (i := 0) dX10_come_31 rfl rfl ?_
      obtain ⟨x32, hx32, rx32⟩ := fs_i hf3 3 rfl
      refine rn_get q1 kg_SGModel_168 hl3 hx32 dX10_come_32 ?_
      refine rn_callV (a := 0) (b := 0) [.int (0 : Int32), .int x32] kl_SGModel_225 dX10_come_35 q1 hl3 rfl (t_X10_isBroken_0 G S w2 hS3.1 o0_ m0_ x32) rfl rfl (Nat.le_of_ble_eq_true rfl) (Nat.le_of_ble_eq_true rfl) (Nat.le_of_ble_eq_true rfl) (Nat.le_of_ble_eq_true rfl) (Nat.le_of_ble_eq_true rfl) (Nat.le_of_ble_eq_true rfl) (fun _ _ h => False.elim h) (fun v9 w33 h34 => ?_)
      obtain ⟨rfl, v35, rfl, rv35, xah34⟩ := h34
      obtain ⟨ob37, hob37⟩ := hS3.1.2.1.2
      obtain ⟨T38, ht38⟩ : ∃ t : Int, tw (byt w2) 2 = t := ⟨_, rfl⟩
      rw [ht38] at xah34
      refine rn_stk [.int v35] rfl ?_
      refine rn_if_eq (tgt := 47) dX10_come_38 (by decide) (fun h39 => ?_) (fun h39 => ?_)
      · have ch39 := cv_eq h39
        have kh39 := xah34 h39
        have r40 : Rg (0) (0) v35 := rf_eqx ch39 rv35 rk_0 (by decide) (by decide)
        refine rn_aload_n (i := 0) dX10_come_47 rfl rfl ?_
        refine rn_iconst (v := (0 : Int32)) dX10_come_48 (by decide) ?_
        refine rn_sipush (v := (2200 : Int32)) dX10_come_49 (by decide) ?_
        refine rn_aload_n (i := 0) dX10_come_52 rfl rfl ?_
        refine rn_iconst (v := (0 : Int32)) dX10_come_53 (by decide) ?_
        refine rn_inV (d' := 1) (z' := 21) [.int (0 : Int32)] kl_SGModel_165 dX10_come_54 q1 hl3 rfl rfl rfl (Nat.le_of_ble_eq_true rfl) (Nat.le_of_ble_eq_true rfl) (Nat.le_of_ble_eq_true rfl) (Nat.le_of_ble_eq_true rfl) ?_
        refine rn_lv [(0, .ref o0_), (1, .int (0 : Int32))] rfl ?_
        refine rn_aload_n (i := 0) dX10_lengthOf_0 rfl rfl ?_
        refine rn_iload_n (i := 1) dX10_lengthOf_1 rfl rfl ?_
        refine rn_iconst (v := (2 : Int32)) dX10_lengthOf_2 (by decide) ?_
        refine rn_iadd dX10_lengthOf_3 (rn_topi (2 : Int32) (by decide) ?_)
        refine rn_callV (a := 0) (b := 0) [.int (2 : Int32)] kl_SGModel_140 dX10_lengthOf_4 q1 hl3 rfl (t_X10_two G S w2 hS3.1 o0_ m0_ (2 : Int32) (rg_w rk_2 (by decide) (by decide))) rfl rfl (Nat.le_of_ble_eq_true rfl) (Nat.le_of_ble_eq_true rfl) (Nat.le_of_ble_eq_true rfl) (Nat.le_of_ble_eq_true rfl) (Nat.le_of_ble_eq_true rfl) (Nat.le_of_ble_eq_true rfl) (fun _ _ h => False.elim h) (fun v9 w42 h43 => ?_)
        obtain ⟨rfl, v44, rfl, rv44, xah43⟩ := h43
        have ev44 : v44.toInt = T38 := (xah43 2 (by decide)).trans ht38
        have r46 : Rg (20) (2000) v44 := rg_tw ev44 kh39 rx32 (by decide)
        refine rn_stk [.int v44] rfl ?_
        refine rn_iret dX10_lengthOf_7 rfl rfl (rq_in ?_)
        refine rn_stk [.int v44, .int (2200 : Int32), .int (0 : Int32), .ref o0_] rfl ?_
        refine rn_callV (a := 0) (b := 0) [.int (0 : Int32), .int (2200 : Int32), .int v44] kl_SGModel_235 dX10_come_57 q1 hl3 rfl (t_X10_move G S w2 hS3.1 o0_ m0_ (0 : Int32) (2200 : Int32) v44 ⟨by have := r46.1; have := r46.2; have := rk_2200.1; have := rk_2200.2; have := rk_0.1; have := rk_0.2; omega, by have := r46.1; have := r46.2; have := rk_2200.1; have := rk_2200.2; have := rk_0.1; have := rk_0.2; omega, by have := r46.1; have := r46.2; have := rk_2200.1; have := rk_2200.2; have := rk_0.1; have := rk_0.2; omega, by have := r46.1; have := r46.2; have := rk_2200.1; have := rk_2200.2; have := rk_0.1; have := rk_0.2; omega⟩) rfl rfl (Nat.le_of_ble_eq_true rfl) (Nat.le_of_ble_eq_true rfl) (Nat.le_of_ble_eq_true rfl) (Nat.le_of_ble_eq_true rfl) (Nat.le_of_ble_eq_true rfl) (Nat.le_of_ble_eq_true rfl) (fun _ _ h => False.elim h) (fun v9 w47 h48 => ?_)
        obtain ⟨hT49, rfl, xah48⟩ := h48
        have hS49 := St.tr hS3 hT49 rfl
        have ht50 := bsame.keep xah48.1 ht38 (by have := r46.1; have := r46.2; have := rk_2200.1; have := rk_2200.2; have := rk_0.1; have := rk_0.2; omega)
        have fk51 : fK1 4 S ws w47 := fk_fr fk4 hT49 rfl
        have ht52 : tw (byt w47) 2202 = T38 := mv_tw xah48.2 ht38 (by decide) (by decide) (by have := r46.1; have := r46.2; have := rk_2200.1; have := rk_2200.2; have := rk_0.1; have := rk_0.2; omega) (by have := r46.1; have := r46.2; have := rk_2200.1; have := rk_2200.2; have := rk_0.1; have := rk_0.2; omega)
        refine rn_stk [] rfl ?_
        refine rn_aload_n (i := 0) dX10_come_60 rfl rfl ?_
        refine rn_iload_n (i := 1) dX10_come_61 rfl rfl ?_
        refine rn_if_ne (tgt := 75) dX10_come_62 (by decide) (fun h53 => ?_) (fun h53 => ?_)
        · have ch53 := cv_ne h53
          have r54 : Rg (1) (1) x1_ := rf_nel ch53 r26 rk_0 (by decide) (by decide)
          refine rn_aload_n (i := 0) dX10_come_75 rfl rfl ?_
          refine rn_sipush (v := (2200 : Int32)) dX10_come_76 (by decide) ?_
          refine rn_callV (a := 0) (b := 0) [.int (2200 : Int32)] kl_SGModel_359 dX10_come_79 q1 (hT49.fr hq1 rfl hl3) rfl (t_X10_comeOuter_2200 G S w47 hS49.1 o0_ m0_ (by rw [ht52]; exact gv_tw kh39 rx32 (by decide) (by decide))) rfl rfl (Nat.le_of_ble_eq_true rfl) (Nat.le_of_ble_eq_true rfl) (Nat.le_of_ble_eq_true rfl) (Nat.le_of_ble_eq_true rfl) (Nat.le_of_ble_eq_true rfl) (Nat.le_of_ble_eq_true rfl) (fun _ _ h => False.elim h) (fun v9 w55 h56 => ?_)
          obtain ⟨hT58, v57, rfl, rv57, fkh56⟩ := h56
          have hS58 := St.tr hS49 hT58 rfl
          have fk59 : fK1 4 S ws w55 := fk_tr fk51 fkh56
          refine rn_stk [.int v57, .ref o0_] rfl ?_
          obtain ⟨q60, fs60, hq60, hl60, hf60⟩ := ts_obj hS58.1 m0_ hk_30
          refine rn_callV (a := 0) (b := 0) [.int v57] kl_SGModel_353 dX10_come_82 q60 hl60 rfl (t_X10_ends G S w55 hS58.1 o0_ m0_ v57 rv57) rfl rfl (Nat.le_of_ble_eq_true rfl) (Nat.le_of_ble_eq_true rfl) (Nat.le_of_ble_eq_true rfl) (Nat.le_of_ble_eq_true rfl) (Nat.le_of_ble_eq_true rfl) (Nat.le_of_ble_eq_true rfl) (fun _ _ h => False.elim h) (fun v9 w61 h62 => ?_)
          obtain ⟨hT64, v63, rfl, rv63⟩ := h62
          have hS64 := St.tr hS58 hT64 rfl
          have fk65 : fK1 4 S ws w61 := fk_fr fk59 hT64 rfl
          refine rn_stk [.int v63] rfl ?_
          exact rn_iret dX10_come_85 rfl rfl (rq_in ⟨hS64, v63, rfl, rv63, fk65⟩)
        · have ch53 := cv_eq h53
          have r66 : Rg (0) (0) x1_ := rf_eqx ch53 r26 rk_0 (by decide) (by decide)
          refine rn_aload_n (i := 0) dX10_come_65 rfl rfl ?_
          refine rn_sipush (v := (2200 : Int32)) dX10_come_66 (by decide) ?_
          refine rn_callV (a := 0) (b := 0) [.int (2200 : Int32)] kl_SGModel_356 dX10_come_69 q1 (hT49.fr hq1 rfl hl3) rfl (t_X10_goOut_2200 G S w47 hS49.1 o0_ m0_ (by rw [ht52]; exact gv_tw kh39 rx32 (by decide) (by decide))) rfl rfl (Nat.le_of_ble_eq_true rfl) (Nat.le_of_ble_eq_true rfl) (Nat.le_of_ble_eq_true rfl) (Nat.le_of_ble_eq_true rfl) (Nat.le_of_ble_eq_true rfl) (Nat.le_of_ble_eq_true rfl) (fun _ _ h => False.elim h) (fun v9 w67 h68 => ?_)
          obtain ⟨hT70, v69, rfl, rv69, fkh68⟩ := h68
          have hS70 := St.tr hS49 hT70 rfl
          have fk71 : fK1 4 S ws w67 := fk_tr fk51 fkh68
          refine rn_stk [.int v69, .ref o0_] rfl ?_
          refine rn_goto (tgt := 82) dX10_come_72 (by decide) ?_
          obtain ⟨q72, fs72, hq72, hl72, hf72⟩ := ts_obj hS70.1 m0_ hk_30
          refine rn_callV (a := 0) (b := 0) [.int v69] kl_SGModel_353 dX10_come_82 q72 hl72 rfl (t_X10_ends G S w67 hS70.1 o0_ m0_ v69 (rg_w rv69 (by decide) (by decide))) rfl rfl (Nat.le_of_ble_eq_true rfl) (Nat.le_of_ble_eq_true rfl) (Nat.le_of_ble_eq_true rfl) (Nat.le_of_ble_eq_true rfl) (Nat.le_of_ble_eq_true rfl) (Nat.le_of_ble_eq_true rfl) (fun _ _ h => False.elim h) (fun v9 w73 h74 => ?_)
          obtain ⟨hT76, v75, rfl, rv75⟩ := h74
          have hS76 := St.tr hS70 hT76 rfl
          have fk77 : fK1 4 S ws w73 := fk_fr fk71 hT76 rfl
          refine rn_stk [.int v75] rfl ?_
          exact rn_iret dX10_come_85 rfl rfl (rq_in ⟨hS76, v75, rfl, rv75, fk77⟩)
      · have ch39 := cv_ne h39
        have r78 : Rg (1) (1) v35 := rf_nel ch39 rv35 rk_0 (by decide) (by decide)
        refine rn_aload_n (i := 0) dX10_come_41 rfl rfl ?_
        refine rn_iconst (v := (1 : Int32)) dX10_come_42 (by decide) ?_
        refine rn_callV (a := 0) (b := 0) [.int (1 : Int32)] kl_SGModel_353 dX10_come_43 q1 hl3 rfl (t_X10_ends G S w2 hS3.1 o0_ m0_ (1 : Int32) (rg_w rk_1 (by decide) (by decide))) rfl rfl (Nat.le_of_ble_eq_true rfl) (Nat.le_of_ble_eq_true rfl) (Nat.le_of_ble_eq_true rfl) (Nat.le_of_ble_eq_true rfl) (Nat.le_of_ble_eq_true rfl) (Nat.le_of_ble_eq_true rfl) (fun _ _ h => False.elim h) (fun v9 w79 h80 => ?_)
        obtain ⟨hT82, v81, rfl, rv81⟩ := h80
        have hS82 := St.tr hS3 hT82 rfl
        have ht83 := tw_eq (byt_fr hS3.1 hT82 rfl) ht38
        have fk84 : fK1 4 S ws w79 := fk_fr fk4 hT82 rfl
        refine rn_stk [.int v81] rfl ?_
        exact rn_iret dX10_come_46 rfl rfl (rq_in ⟨hS82, v81, rfl, rv81, fk84⟩)
abbrev q_t_X10_sent (G : rn_G) (S : ts_S) (ws : va_W) : rn_R → va_W → Prop := rQ (fun v w => St G S [30] ws S w ∧ (∃ x : Int32, v = some (.int x) ∧ Rg (-2147483648) (2147483647) x ∧ fK1 4 S ws w)) (fun E w => False)
set_option maxRecDepth 20000 in
set_option maxHeartbeats 4000000 in
theorem t_X10_sent (G : rn_G) (S : ts_S) (ws : va_W) (hW : ts_W G S ws) (o0_ : Nat) (m0_ : (o0_, 30) ∈ S) (x1_ : Int32) (x2_ : Int32) : Rn G mX10_sent 1 22 0 0 0 (lv_args 0 [.ref o0_, .int x1_, .int x2_]) [] ws (q_t_X10_sent G S ws ) := by
  have hS0 : St G S [30] ws S ws := St.rf hW
  have fk0 : fK1 4 S ws ws := fun v h => h
  refine rn_lv [(0, .ref o0_), (1, .int x1_), (2, .int x2_)] rfl ?_
  refine rn_aload_n (i := 0) dX10_sent_0 rfl rfl ?_
  refine rn_iconst (v := (0 : Int32)) dX10_sent_1 (by decide) ?_
  obtain ⟨q1, fs1, hq1, hl1, hf1⟩ := ts_obj hS0.1 m0_ hk_30
  refine rs_put q1 (kp_SGModel_137 _) hS0 hq1 hl1 hf1 hk_30 rfl rfl (tv_i (rg_w rk_0 (by decide) (by decide))) rfl rfl dX10_sent_2 (fun w2 fs3 hS3 hl3 hf3 hx3 ho3 hn3 => ?_)
  have fk4 : fK1 4 S ws w2 := fk_put fk0 hS0.1 hq1 hl1 hl3 ho3 (by decide)
  refine rn_aload_n (i := 0) dX10_sent_5 rfl rfl ?_
  refine rn_iload_n (i := 1) dX10_sent_6 rfl rfl ?_
  refine rn_iconst (v := (0 : Int32)) dX10_sent_7 (by decide) ?_
  refine rn_iconst (v := (1 : Int32)) dX10_sent_8 (by decide) ?_
  refine rn_inS (d' := 0) (z' := 0) [.int x1_, .int (0 : Int32), .int (1 : Int32)] kl_SGModel_179 dX10_sent_9 rfl rfl (Nat.le_of_ble_eq_true rfl) (Nat.le_of_ble_eq_true rfl) (Nat.le_of_ble_eq_true rfl) (Nat.le_of_ble_eq_true rfl) ?_
  refine rn_lv [(0, .int x1_), (1, .int (0 : Int32)), (2, .int (1 : Int32))] rfl ?_
  refine rn_iload_n (i := 0) dX10_in_0 rfl rfl ?_
  refine rn_iload_n (i := 1) dX10_in_1 rfl rfl ?_
  refine rn_icmp_lt (tgt := 14) dX10_in_2 (by decide) (fun h5 => ?_) (fun h5 => ?_)
  · have ch5 := cv_lt h5
    have r6 : Rg (-2147483648) (-1) x1_ := rf_ltx ch5 (rg_any x1_) rk_0 (by decide)
    refine rn_iconst (v := (0 : Int32)) dX10_in_14 (by decide) ?_
    refine rn_iret dX10_in_15 rfl rfl (rq_in ?_)
    refine rn_stk [.int (0 : Int32), .ref o0_] rfl ?_
    refine rn_if_ne (tgt := 19) dX10_sent_12 (by decide) (fun h7 => (cx_ne (cv_ne h7) rk_0 rk_0 (by decide)).elim) (fun h7 => ?_)
    refine rn_iconst (v := (1 : Int32)) dX10_sent_15 (by decide) ?_
    refine rn_goto (tgt := 20) dX10_sent_16 (by decide) ?_
    refine rn_iconst (v := (1 : Int32)) dX10_sent_20 (by decide) ?_
    refine rn_inV (d' := 0) (z' := 0) [.int (1 : Int32), .int (1 : Int32)] kl_SGModel_171 dX10_sent_21 q1 hl3 rfl rfl rfl (Nat.le_of_ble_eq_true rfl) (Nat.le_of_ble_eq_true rfl) (Nat.le_of_ble_eq_true rfl) (Nat.le_of_ble_eq_true rfl) ?_
    refine rn_lv [(0, .ref o0_), (1, .int (1 : Int32)), (2, .int (1 : Int32))] rfl ?_
    refine rn_aload_n (i := 0) dX10_refuses_0 rfl rfl ?_
    refine rn_get q1 kg_SGModel_137 hl3 hx3 dX10_refuses_1 ?_
    refine rn_if_ne (tgt := 16) dX10_refuses_4 (by decide) (fun h8 => (cx_ne (cv_ne h8) rk_0 rk_0 (by decide)).elim) (fun h8 => ?_)
    refine rn_iload_n (i := 1) dX10_refuses_7 rfl rfl ?_
    refine rn_if_eq (tgt := 16) dX10_refuses_8 (by decide) (fun h9 => (cx_eq (cv_eq h9) rk_1 rk_0 (by decide)).elim) (fun h9 => ?_)
    refine rn_aload_n (i := 0) dX10_refuses_11 rfl rfl ?_
    refine rn_iload_n (i := 2) dX10_refuses_12 rfl rfl ?_
    refine rs_put q1 (kp_SGModel_137 _) hS3 hq1 hl3 hf3 hk_30 rfl rfl (tv_i (rg_w rk_1 (by decide) (by decide))) rfl rfl dX10_refuses_13 (fun w10 fs11 hS11 hl11 hf11 hx11 ho11 hn11 => ?_)
    have fk12 : fK1 4 S ws w10 := fk_put fk4 hS3.1 hq1 hl3 hl11 ho11 (by decide)
    refine rn_aload_n (i := 0) dX10_refuses_16 rfl rfl ?_
    refine rn_get q1 kg_SGModel_137 hl11 hx11 dX10_refuses_17 ?_
    refine rn_if_le (tgt := 27) dX10_refuses_20 (by decide) (fun h13 => (cx_le (cv_le h13) rk_1 rk_0 (by decide)).elim) (fun h13 => ?_)
    refine rn_iconst (v := (1 : Int32)) dX10_refuses_23 (by decide) ?_
    refine rn_goto (tgt := 28) dX10_refuses_24 (by decide) ?_
    refine rn_iret dX10_refuses_28 rfl rfl (rq_in ?_)
    refine rn_stk [.int (1 : Int32)] rfl ?_
    refine rn_if_eq (tgt := 29) dX10_sent_24 (by decide) (fun h14 => (cx_eq (cv_eq h14) rk_1 rk_0 (by decide)).elim) (fun h14 => ?_)
    refine rn_iconst (v := (0 : Int32)) dX10_sent_27 (by decide) ?_
    exact rn_iret dX10_sent_28 rfl rfl (rq_in ⟨hS11, (0 : Int32), rfl, (rg_w rk_0 (by decide) (by decide)), fk12⟩)
  · have ch5 := cv_nlt h5
    have r15 : Rg (0) (2147483647) x1_ := rf_ley ch5 rk_0 (rg_any x1_) (by decide)
    refine rn_iload_n (i := 0) dX10_in_5 rfl rfl ?_
    refine rn_iload_n (i := 2) dX10_in_6 rfl rfl ?_
    refine rn_icmp_gt (tgt := 14) dX10_in_7 (by decide) (fun h16 => ?_) (fun h16 => ?_)
    · have ch16 := cv_lt h16
      have r17 : Rg (2) (2147483647) x1_ := rf_lty ch16 rk_1 r15 (by decide)
      refine rn_iconst (v := (0 : Int32)) dX10_in_14 (by decide) ?_
      refine rn_iret dX10_in_15 rfl rfl (rq_in ?_)
      refine rn_stk [.int (0 : Int32), .ref o0_] rfl ?_
      refine rn_if_ne (tgt := 19) dX10_sent_12 (by decide) (fun h18 => (cx_ne (cv_ne h18) rk_0 rk_0 (by decide)).elim) (fun h18 => ?_)
      refine rn_iconst (v := (1 : Int32)) dX10_sent_15 (by decide) ?_
      refine rn_goto (tgt := 20) dX10_sent_16 (by decide) ?_
      refine rn_iconst (v := (1 : Int32)) dX10_sent_20 (by decide) ?_
      refine rn_inV (d' := 0) (z' := 0) [.int (1 : Int32), .int (1 : Int32)] kl_SGModel_171 dX10_sent_21 q1 hl3 rfl rfl rfl (Nat.le_of_ble_eq_true rfl) (Nat.le_of_ble_eq_true rfl) (Nat.le_of_ble_eq_true rfl) (Nat.le_of_ble_eq_true rfl) ?_
      refine rn_lv [(0, .ref o0_), (1, .int (1 : Int32)), (2, .int (1 : Int32))] rfl ?_
      refine rn_aload_n (i := 0) dX10_refuses_0 rfl rfl ?_
      refine rn_get q1 kg_SGModel_137 hl3 hx3 dX10_refuses_1 ?_
      refine rn_if_ne (tgt := 16) dX10_refuses_4 (by decide) (fun h19 => (cx_ne (cv_ne h19) rk_0 rk_0 (by decide)).elim) (fun h19 => ?_)
      refine rn_iload_n (i := 1) dX10_refuses_7 rfl rfl ?_
      refine rn_if_eq (tgt := 16) dX10_refuses_8 (by decide) (fun h20 => (cx_eq (cv_eq h20) rk_1 rk_0 (by decide)).elim) (fun h20 => ?_)
      refine rn_aload_n (i := 0) dX10_refuses_11 rfl rfl ?_
      refine rn_iload_n (i := 2) dX10_refuses_12 rfl rfl ?_
      refine rs_put q1 (kp_SGModel_137 _) hS3 hq1 hl3 hf3 hk_30 rfl rfl (tv_i (rg_w rk_1 (by decide) (by decide))) rfl rfl dX10_refuses_13 (fun w21 fs22 hS22 hl22 hf22 hx22 ho22 hn22 => ?_)
      have fk23 : fK1 4 S ws w21 := fk_put fk4 hS3.1 hq1 hl3 hl22 ho22 (by decide)
      refine rn_aload_n (i := 0) dX10_refuses_16 rfl rfl ?_
      refine rn_get q1 kg_SGModel_137 hl22 hx22 dX10_refuses_17 ?_
      refine rn_if_le (tgt := 27) dX10_refuses_20 (by decide) (fun h24 => (cx_le (cv_le h24) rk_1 rk_0 (by decide)).elim) (fun h24 => ?_)
      refine rn_iconst (v := (1 : Int32)) dX10_refuses_23 (by decide) ?_
      refine rn_goto (tgt := 28) dX10_refuses_24 (by decide) ?_
      refine rn_iret dX10_refuses_28 rfl rfl (rq_in ?_)
      refine rn_stk [.int (1 : Int32)] rfl ?_
      refine rn_if_eq (tgt := 29) dX10_sent_24 (by decide) (fun h25 => (cx_eq (cv_eq h25) rk_1 rk_0 (by decide)).elim) (fun h25 => ?_)
      refine rn_iconst (v := (0 : Int32)) dX10_sent_27 (by decide) ?_
      exact rn_iret dX10_sent_28 rfl rfl (rq_in ⟨hS22, (0 : Int32), rfl, (rg_w rk_0 (by decide) (by decide)), fk23⟩)
    · have ch16 := cv_nlt h16
      have r26 : Rg (0) (1) x1_ := rf_lex ch16 r15 rk_1 (by decide)
      refine rn_iconst (v := (1 : Int32)) dX10_in_10 (by decide) ?_
      refine rn_goto (tgt := 15) dX10_in_11 (by decide) ?_
      refine rn_iret dX10_in_15 rfl rfl (rq_in ?_)
      refine rn_stk [.int (1 : Int32), .ref o0_] rfl ?_
      refine rn_if_ne (tgt := 19) dX10_sent_12 (by decide) (fun h27 => ?_) (fun h27 => (cx_eq (cv_eq h27) rk_1 rk_0 (by decide)).elim)
      refine rn_iconst (v := (0 : Int32)) dX10_sent_19 (by decide) ?_
      refine rn_iconst (v := (1 : Int32)) dX10_sent_20 (by decide) ?_
      refine rn_inV (d' := 0) (z' := 0) [.int (0 : Int32), .int (1 : Int32)] kl_SGModel_171 dX10_sent_21 q1 hl3 rfl rfl rfl (Nat.le_of_ble_eq_true rfl) (Nat.le_of_ble_eq_true rfl) (Nat.le_of_ble_eq_true rfl) (Nat.le_of_ble_eq_true rfl) ?_
      refine rn_lv [(0, .ref o0_), (1, .int (0 : Int32)), (2, .int (1 : Int32))] rfl ?_
      refine rn_aload_n (i := 0) dX10_refuses_0 rfl rfl ?_
      refine rn_get q1 kg_SGModel_137 hl3 hx3 dX10_refuses_1 ?_
      refine rn_if_ne (tgt := 16) dX10_refuses_4 (by decide) (fun h28 => (cx_ne (cv_ne h28) rk_0 rk_0 (by decide)).elim) (fun h28 => ?_)
      refine rn_iload_n (i := 1) dX10_refuses_7 rfl rfl ?_
      refine rn_if_eq (tgt := 16) dX10_refuses_8 (by decide) (fun h29 => ?_) (fun h29 => (cx_ne (cv_ne h29) rk_0 rk_0 (by decide)).elim)
      refine rn_aload_n (i := 0) dX10_refuses_16 rfl rfl ?_
      refine rn_get q1 kg_SGModel_137 hl3 hx3 dX10_refuses_17 ?_
      refine rn_if_le (tgt := 27) dX10_refuses_20 (by decide) (fun h30 => ?_) (fun h30 => (cx_lt (cv_nle h30) rk_0 rk_0 (by decide)).elim)
      refine rn_iconst (v := (0 : Int32)) dX10_refuses_27 (by decide) ?_
      refine rn_iret dX10_refuses_28 rfl rfl (rq_in ?_)
      refine rn_stk [.int (0 : Int32)] rfl ?_
      refine rn_if_eq (tgt := 29) dX10_sent_24 (by decide) (fun h31 => ?_) (fun h31 => (cx_ne (cv_ne h31) rk_0 rk_0 (by decide)).elim)
      refine rn_aload_n (i := 0) dX10_sent_29 rfl rfl ?_
      obtain ⟨o32, hx32, m32⟩ := fs_r hf3 34 rfl
      refine rn_get q1 kg_SGModel_89 hl3 hx32 dX10_sent_30 ?_
      refine rn_iload_n (i := 1) dX10_sent_33 rfl rfl ?_
      obtain ⟨q33, f33, hq33, hl33, hf33⟩ := ts_ia hS3.1 m32 hk_65
      refine rs_iald q33 hl33 hf33 rfl r26 (by decide) (by decide) dX10_sent_34 (fun v34 ev34 rv34 => ?_)
      refine rn_istore_n dX10_sent_35 rfl (by decide) [(0, .ref o0_), (1, .int x1_), (2, .int x2_), (3, .int v34)] rfl ?_
      refine rn_iload_n (i := 2) dX10_sent_36 rfl rfl ?_
      refine rn_iconst (v := (-1 : Int32)) dX10_sent_37 (by decide) ?_
      refine rn_icmp_ne (tgt := 43) dX10_sent_38 (by decide) (fun h35 => ?_) (fun h35 => ?_)
      · have ch35 := cv_ne h35
        refine rn_iload_n (i := 2) dX10_sent_43 rfl rfl ?_
        refine rn_bipush (v := (-2 : Int32)) dX10_sent_44 (by decide) ?_
        refine rn_icmp_ne (tgt := 62) dX10_sent_46 (by decide) (fun h36 => ?_) (fun h36 => ?_)
        · have ch36 := cv_ne h36
          refine rn_aload_n (i := 0) dX10_sent_62 rfl rfl ?_
          refine rn_iload_n (i := 2) dX10_sent_63 rfl rfl ?_
          refine rn_iconst (v := (0 : Int32)) dX10_sent_64 (by decide) ?_
          refine rn_iload_n (i := 3) dX10_sent_65 rfl rfl ?_
          refine rn_iconst (v := (1 : Int32)) dX10_sent_66 (by decide) ?_
          refine rs_subC (-1) (1499) rv34 rk_1 dX10_sent_67 (by decide) (fun v37 ev37 rv37 => ?_)
          refine rn_inS (d' := 0) (z' := 0) [.int x2_, .int (0 : Int32), .int v37] kl_SGModel_179 dX10_sent_68 rfl rfl (Nat.le_of_ble_eq_true rfl) (Nat.le_of_ble_eq_true rfl) (Nat.le_of_ble_eq_true rfl) (Nat.le_of_ble_eq_true rfl) ?_
          refine rn_lv [(0, .int x2_), (1, .int (0 : Int32)), (2, .int v37)] rfl ?_
          refine rn_iload_n (i := 0) dX10_in_0 rfl rfl ?_
          refine rn_iload_n (i := 1) dX10_in_1 rfl rfl ?_
          refine rn_icmp_lt (tgt := 14) dX10_in_2 (by decide) (fun h38 => ?_) (fun h38 => ?_)
          · have ch38 := cv_lt h38
            have r39 : Rg (-2147483648) (-1) x2_ := rf_ltx ch38 (rg_any x2_) rk_0 (by decide)
            refine rn_iconst (v := (0 : Int32)) dX10_in_14 (by decide) ?_
            refine rn_iret dX10_in_15 rfl rfl (rq_in ?_)
            refine rn_stk [.int (0 : Int32), .ref o0_] rfl ?_
            refine rn_if_ne (tgt := 78) dX10_sent_71 (by decide) (fun h40 => (cx_ne (cv_ne h40) rk_0 rk_0 (by decide)).elim) (fun h40 => ?_)
            refine rn_iconst (v := (1 : Int32)) dX10_sent_74 (by decide) ?_
            refine rn_goto (tgt := 79) dX10_sent_75 (by decide) ?_
            refine rn_iconst (v := (1 : Int32)) dX10_sent_79 (by decide) ?_
            refine rn_inV (d' := 0) (z' := 0) [.int (1 : Int32), .int (1 : Int32)] kl_SGModel_171 dX10_sent_80 q1 hl3 rfl rfl rfl (Nat.le_of_ble_eq_true rfl) (Nat.le_of_ble_eq_true rfl) (Nat.le_of_ble_eq_true rfl) (Nat.le_of_ble_eq_true rfl) ?_
            refine rn_lv [(0, .ref o0_), (1, .int (1 : Int32)), (2, .int (1 : Int32))] rfl ?_
            refine rn_aload_n (i := 0) dX10_refuses_0 rfl rfl ?_
            refine rn_get q1 kg_SGModel_137 hl3 hx3 dX10_refuses_1 ?_
            refine rn_if_ne (tgt := 16) dX10_refuses_4 (by decide) (fun h41 => (cx_ne (cv_ne h41) rk_0 rk_0 (by decide)).elim) (fun h41 => ?_)
            refine rn_iload_n (i := 1) dX10_refuses_7 rfl rfl ?_
            refine rn_if_eq (tgt := 16) dX10_refuses_8 (by decide) (fun h42 => (cx_eq (cv_eq h42) rk_1 rk_0 (by decide)).elim) (fun h42 => ?_)
            refine rn_aload_n (i := 0) dX10_refuses_11 rfl rfl ?_
            refine rn_iload_n (i := 2) dX10_refuses_12 rfl rfl ?_
            refine rs_put q1 (kp_SGModel_137 _) hS3 hq1 hl3 hf3 hk_30 rfl rfl (tv_i (rg_w rk_1 (by decide) (by decide))) rfl rfl dX10_refuses_13 (fun w43 fs44 hS44 hl44 hf44 hx44 ho44 hn44 => ?_)
            have fk45 : fK1 4 S ws w43 := fk_put fk4 hS3.1 hq1 hl3 hl44 ho44 (by decide)
            refine rn_aload_n (i := 0) dX10_refuses_16 rfl rfl ?_
            refine rn_get q1 kg_SGModel_137 hl44 hx44 dX10_refuses_17 ?_
            refine rn_if_le (tgt := 27) dX10_refuses_20 (by decide) (fun h46 => (cx_le (cv_le h46) rk_1 rk_0 (by decide)).elim) (fun h46 => ?_)
            refine rn_iconst (v := (1 : Int32)) dX10_refuses_23 (by decide) ?_
            refine rn_goto (tgt := 28) dX10_refuses_24 (by decide) ?_
            refine rn_iret dX10_refuses_28 rfl rfl (rq_in ?_)
            refine rn_stk [.int (1 : Int32)] rfl ?_
            refine rn_if_eq (tgt := 90) dX10_sent_83 (by decide) (fun h47 => (cx_eq (cv_eq h47) rk_1 rk_0 (by decide)).elim) (fun h47 => ?_)
            refine rn_iconst (v := (0 : Int32)) dX10_sent_86 (by decide) ?_
            refine rn_goto (tgt := 106) dX10_sent_87 (by decide) ?_
            exact rn_iret dX10_sent_106 rfl rfl (rq_in ⟨hS44, (0 : Int32), rfl, (rg_w rk_0 (by decide) (by decide)), fk45⟩)
          · have ch38 := cv_nlt h38
            have r48 : Rg (0) (2147483647) x2_ := rf_ley ch38 rk_0 (rg_any x2_) (by decide)
            refine rn_iload_n (i := 0) dX10_in_5 rfl rfl ?_
            refine rn_iload_n (i := 2) dX10_in_6 rfl rfl ?_
            refine rn_icmp_gt (tgt := 14) dX10_in_7 (by decide) (fun h49 => ?_) (fun h49 => ?_)
            · have ch49 := cv_lt h49
              refine rn_iconst (v := (0 : Int32)) dX10_in_14 (by decide) ?_
              refine rn_iret dX10_in_15 rfl rfl (rq_in ?_)
              refine rn_stk [.int (0 : Int32), .ref o0_] rfl ?_
              refine rn_if_ne (tgt := 78) dX10_sent_71 (by decide) (fun h50 => (cx_ne (cv_ne h50) rk_0 rk_0 (by decide)).elim) (fun h50 => ?_)
              refine rn_iconst (v := (1 : Int32)) dX10_sent_74 (by decide) ?_
              refine rn_goto (tgt := 79) dX10_sent_75 (by decide) ?_
              refine rn_iconst (v := (1 : Int32)) dX10_sent_79 (by decide) ?_
              refine rn_inV (d' := 0) (z' := 0) [.int (1 : Int32), .int (1 : Int32)] kl_SGModel_171 dX10_sent_80 q1 hl3 rfl rfl rfl (Nat.le_of_ble_eq_true rfl) (Nat.le_of_ble_eq_true rfl) (Nat.le_of_ble_eq_true rfl) (Nat.le_of_ble_eq_true rfl) ?_
              refine rn_lv [(0, .ref o0_), (1, .int (1 : Int32)), (2, .int (1 : Int32))] rfl ?_
              refine rn_aload_n (i := 0) dX10_refuses_0 rfl rfl ?_
              refine rn_get q1 kg_SGModel_137 hl3 hx3 dX10_refuses_1 ?_
              refine rn_if_ne (tgt := 16) dX10_refuses_4 (by decide) (fun h51 => (cx_ne (cv_ne h51) rk_0 rk_0 (by decide)).elim) (fun h51 => ?_)
              refine rn_iload_n (i := 1) dX10_refuses_7 rfl rfl ?_
              refine rn_if_eq (tgt := 16) dX10_refuses_8 (by decide) (fun h52 => (cx_eq (cv_eq h52) rk_1 rk_0 (by decide)).elim) (fun h52 => ?_)
              refine rn_aload_n (i := 0) dX10_refuses_11 rfl rfl ?_
              refine rn_iload_n (i := 2) dX10_refuses_12 rfl rfl ?_
              refine rs_put q1 (kp_SGModel_137 _) hS3 hq1 hl3 hf3 hk_30 rfl rfl (tv_i (rg_w rk_1 (by decide) (by decide))) rfl rfl dX10_refuses_13 (fun w53 fs54 hS54 hl54 hf54 hx54 ho54 hn54 => ?_)
              have fk55 : fK1 4 S ws w53 := fk_put fk4 hS3.1 hq1 hl3 hl54 ho54 (by decide)
              refine rn_aload_n (i := 0) dX10_refuses_16 rfl rfl ?_
              refine rn_get q1 kg_SGModel_137 hl54 hx54 dX10_refuses_17 ?_
              refine rn_if_le (tgt := 27) dX10_refuses_20 (by decide) (fun h56 => (cx_le (cv_le h56) rk_1 rk_0 (by decide)).elim) (fun h56 => ?_)
              refine rn_iconst (v := (1 : Int32)) dX10_refuses_23 (by decide) ?_
              refine rn_goto (tgt := 28) dX10_refuses_24 (by decide) ?_
              refine rn_iret dX10_refuses_28 rfl rfl (rq_in ?_)
              refine rn_stk [.int (1 : Int32)] rfl ?_
              refine rn_if_eq (tgt := 90) dX10_sent_83 (by decide) (fun h57 => (cx_eq (cv_eq h57) rk_1 rk_0 (by decide)).elim) (fun h57 => ?_)
              refine rn_iconst (v := (0 : Int32)) dX10_sent_86 (by decide) ?_
              refine rn_goto (tgt := 106) dX10_sent_87 (by decide) ?_
              exact rn_iret dX10_sent_106 rfl rfl (rq_in ⟨hS54, (0 : Int32), rfl, (rg_w rk_0 (by decide) (by decide)), fk55⟩)
            · have ch49 := cv_nlt h49
              have r58 : Rg (0) (1499) x2_ := rf_lex ch49 r48 rv37 (by decide)
              have r59 : Rg (0) (1499) v37 := rf_ley ch49 r48 rv37 (by decide)
              refine rn_iconst (v := (1 : Int32)) dX10_in_10 (by decide) ?_
              refine rn_goto (tgt := 15) dX10_in_11 (by decide) ?_
              refine rn_iret dX10_in_15 rfl rfl (rq_in ?_)
              refine rn_stk [.int (1 : Int32), .ref o0_] rfl ?_
              refine rn_if_ne (tgt := 78) dX10_sent_71 (by decide) (fun h60 => ?_) (fun h60 => (cx_eq (cv_eq h60) rk_1 rk_0 (by decide)).elim)
              refine rn_iconst (v := (0 : Int32)) dX10_sent_78 (by decide) ?_
              refine rn_iconst (v := (1 : Int32)) dX10_sent_79 (by decide) ?_
              refine rn_inV (d' := 0) (z' := 0) [.int (0 : Int32), .int (1 : Int32)] kl_SGModel_171 dX10_sent_80 q1 hl3 rfl rfl rfl (Nat.le_of_ble_eq_true rfl) (Nat.le_of_ble_eq_true rfl) (Nat.le_of_ble_eq_true rfl) (Nat.le_of_ble_eq_true rfl) ?_
              refine rn_lv [(0, .ref o0_), (1, .int (0 : Int32)), (2, .int (1 : Int32))] rfl ?_
              refine rn_aload_n (i := 0) dX10_refuses_0 rfl rfl ?_
              refine rn_get q1 kg_SGModel_137 hl3 hx3 dX10_refuses_1 ?_
              refine rn_if_ne (tgt := 16) dX10_refuses_4 (by decide) (fun h61 => (cx_ne (cv_ne h61) rk_0 rk_0 (by decide)).elim) (fun h61 => ?_)
              refine rn_iload_n (i := 1) dX10_refuses_7 rfl rfl ?_
              refine rn_if_eq (tgt := 16) dX10_refuses_8 (by decide) (fun h62 => ?_) (fun h62 => (cx_ne (cv_ne h62) rk_0 rk_0 (by decide)).elim)
              refine rn_aload_n (i := 0) dX10_refuses_16 rfl rfl ?_
              refine rn_get q1 kg_SGModel_137 hl3 hx3 dX10_refuses_17 ?_
              refine rn_if_le (tgt := 27) dX10_refuses_20 (by decide) (fun h63 => ?_) (fun h63 => (cx_lt (cv_nle h63) rk_0 rk_0 (by decide)).elim)
              refine rn_iconst (v := (0 : Int32)) dX10_refuses_27 (by decide) ?_
              refine rn_iret dX10_refuses_28 rfl rfl (rq_in ?_)
              refine rn_stk [.int (0 : Int32)] rfl ?_
              refine rn_if_eq (tgt := 90) dX10_sent_83 (by decide) (fun h64 => ?_) (fun h64 => (cx_ne (cv_ne h64) rk_0 rk_0 (by decide)).elim)
              refine rn_aload_n (i := 0) dX10_sent_90 rfl rfl ?_
              obtain ⟨o65, hx65, m65⟩ := fs_r hf3 2 rfl
              refine rn_get q1 kg_SGModel_7 hl3 hx65 dX10_sent_91 ?_
              refine rn_sipush (v := (8800 : Int32)) dX10_sent_94 (by decide) ?_
              refine rn_sipush (v := (2200 : Int32)) dX10_sent_97 (by decide) ?_
              refine rn_iload_n (i := 1) dX10_sent_100 rfl rfl ?_
              refine rs_mulD (0) (2200) rk_2200 r26 dX10_sent_101 (by decide) (fun v66 ev66 rv66 => ?_)
              refine rs_addD (8800) (11000) rk_8800 rv66 dX10_sent_102 (by decide) (fun v67 ev67 rv67 => ?_)
              refine rn_iload_n (i := 2) dX10_sent_103 rfl rfl ?_
              refine rs_addR (8800) (12499) rv67 r58 dX10_sent_104 (by decide) (fun v68 ev68 rv68 => ?_)
              obtain ⟨q69, f69, hq69, hl69, hf69⟩ := ts_ia hS3.1 m65 hk_33
              refine rs_iald q69 hl69 hf69 rfl rv68 (by decide) (by decide) dX10_sent_105 (fun v70 ev70 rv70 => ?_)
              exact rn_iret dX10_sent_106 rfl rfl (rq_in ⟨hS3, v70, rfl, (rg_w rv70 (by decide) (by decide)), fk4⟩)
        · have ch36 := cv_eq h36
          have r71 : Rg (-2) (-2) x2_ := rf_eqx ch36 (rg_any x2_) rk_m2 (by decide) (by decide)
          refine rn_iload_n (i := 3) dX10_sent_49 rfl rfl ?_
          refine rn_if_ne (tgt := 57) dX10_sent_50 (by decide) (fun h72 => ?_) (fun h72 => ?_)
          · have ch72 := cv_ne h72
            have r73 : Rg (1) (1500) v34 := rf_nel ch72 rv34 rk_0 (by decide) (by decide)
            refine rn_aload_n (i := 0) dX10_sent_57 rfl rfl ?_
            obtain ⟨x74, hx74, rx74⟩ := fs_i hf3 35 rfl
            refine rn_get q1 kg_SGModel_92 hl3 hx74 dX10_sent_58 ?_
            exact rn_iret dX10_sent_61 rfl rfl (rq_in ⟨hS3, x74, rfl, rx74, fk4⟩)
          · have ch72 := cv_eq h72
            have r75 : Rg (0) (0) v34 := rf_eqx ch72 rv34 rk_0 (by decide) (by decide)
            refine rn_iconst (v := (-1 : Int32)) dX10_sent_53 (by decide) ?_
            refine rn_goto (tgt := 61) dX10_sent_54 (by decide) ?_
            exact rn_iret dX10_sent_61 rfl rfl (rq_in ⟨hS3, (-1 : Int32), rfl, (rg_w rk_m1 (by decide) (by decide)), fk4⟩)
      · have ch35 := cv_eq h35
        have r76 : Rg (-1) (-1) x2_ := rf_eqx ch35 (rg_any x2_) rk_m1 (by decide) (by decide)
        refine rn_iload_n (i := 3) dX10_sent_41 rfl rfl ?_
        exact rn_iret dX10_sent_42 rfl rfl (rq_in ⟨hS3, v34, rfl, (rg_w rv34 (by decide) (by decide)), fk4⟩)
