abbrev q_t_X10_sealNamed (G : rn_G) (S : ts_S) (ws : va_W) : rn_R → va_W → Prop := rQ (fun v w => ws = w ∧ (∃ x : Int32, v = some (.int x) ∧ Rg (-1) (15) x)) (fun E w => False)
set_option maxRecDepth 20000 in
set_option maxHeartbeats 4000000 in
theorem t_X10_sealNamed (G : rn_G) (S : ts_S) (ws : va_W) (hW : ts_W G S ws) (o0_ : Nat) (m0_ : (o0_, 30) ∈ S) (x1_ : Int32) : Rn G mX10_sealNamed 0 0 0 0 0 (lv_args 0 [.ref o0_, .int x1_]) [] ws (q_t_X10_sealNamed G S ws ) := by
  refine rn_lv [(0, .ref o0_), (1, .int x1_)] rfl ?_
  refine rn_iconst (v := (0 : Int32)) dX10_sealNamed_0 (by decide) ?_
  refine rn_istore_n dX10_sealNamed_1 rfl (by decide) [(0, .ref o0_), (1, .int x1_), (2, .int (0 : Int32))] rfl ?_
  have LP2 : ∀ (n : Nat) (x1 : Int32), Rg (0) (16) x1 → (16 - x1.toInt).toNat = n → Rn G mX10_sealNamed 0 0 0 0 2 [(0, .ref o0_), (1, .int x1_), (2, .int x1)] [] ws (q_t_X10_sealNamed G S ws ) := by
    intro n
    induction n using Nat.strongRecOn with
    | _ n ih =>
      intro x1 r4 hm5
      refine rn_iload_n (i := 2) dX10_sealNamed_2 rfl rfl ?_
      refine rn_aload_n (i := 0) dX10_sealNamed_3 rfl rfl ?_
      obtain ⟨q6, fs6, hq6, hl6, hf6⟩ := ts_obj hW m0_ hk_30
      obtain ⟨x7, hx7, rx7⟩ := fs_i hf6 22 rfl
      refine rn_get q6 kg_SGModel_200 hl6 hx7 dX10_sealNamed_4 ?_
      refine rn_icmp_ge (tgt := 38) dX10_sealNamed_7 (by decide) (fun h8 => ?_) (fun h8 => ?_)
      · have ch8 := cv_le h8
        refine rn_iconst (v := (-1 : Int32)) dX10_sealNamed_38 (by decide) ?_
        exact rn_iret dX10_sealNamed_39 rfl rfl (rq_in ⟨rfl, (-1 : Int32), rfl, (rg_w rk_m1 (by decide) (by decide))⟩)
      · have ch8 := cv_nle h8
        have r9 : Rg (0) (15) x1 := rf_ltx ch8 r4 rx7 (by decide)
        have r10 : Rg (1) (16) x7 := rf_lty ch8 r4 rx7 (by decide)
        refine rn_aload_n (i := 0) dX10_sealNamed_10 rfl rfl ?_
        obtain ⟨o11, hx11, m11⟩ := fs_r hf6 23 rfl
        refine rn_get q6 kg_SGModel_57 hl6 hx11 dX10_sealNamed_11 ?_
        refine rn_iload_n (i := 2) dX10_sealNamed_14 rfl rfl ?_
        obtain ⟨q12, f12, hq12, hl12, hf12⟩ := ts_ia hW m11 hk_54
        refine rs_iald q12 hl12 hf12 rfl r9 (by decide) (by decide) dX10_sealNamed_15 (fun v13 ev13 rv13 => ?_)
        refine rn_iconst (v := (1 : Int32)) dX10_sealNamed_16 (by decide) ?_
        refine rn_icmp_ne (tgt := 32) dX10_sealNamed_17 (by decide) (fun h14 => ?_) (fun h14 => ?_)
        · have ch14 := cv_ne h14
          refine rs_iinc (1) (16) dX10_sealNamed_32 rfl (by decide) r9 rk_1 (by decide) (fun v15 => [(0, .ref o0_), (1, .int x1_), (2, .int v15)]) (fun _ => rfl) (fun v15 ev15 rv15 => ?_)
          refine rn_goto (tgt := 2) dX10_sealNamed_35 (by decide) ?_
          refine rn_lv [(0, .ref o0_), (1, .int x1_), (2, .int v15)] rfl ?_
          exact ih _ (lp_inc hm5 ev15 rv15 (by decide)) v15 (rg_w rv15 (by decide) (by decide)) rfl
        · have ch14 := cv_eq h14
          have r16 : Rg (1) (1) v13 := rf_eqx ch14 rv13 rk_1 (by decide) (by decide)
          refine rn_aload_n (i := 0) dX10_sealNamed_20 rfl rfl ?_
          obtain ⟨o17, hx17, m17⟩ := fs_r hf6 25 rfl
          refine rn_get q6 kg_SGModel_63 hl6 hx17 dX10_sealNamed_21 ?_
          refine rn_iload_n (i := 2) dX10_sealNamed_24 rfl rfl ?_
          obtain ⟨q18, f18, hq18, hl18, hf18⟩ := ts_ia hW m17 hk_56
          refine rs_iald q18 hl18 hf18 rfl r9 (by decide) (by decide) dX10_sealNamed_25 (fun v19 ev19 rv19 => ?_)
          refine rn_iload_n (i := 1) dX10_sealNamed_26 rfl rfl ?_
          refine rn_icmp_ne (tgt := 32) dX10_sealNamed_27 (by decide) (fun h20 => ?_) (fun h20 => ?_)
          · have ch20 := cv_ne h20
            refine rs_iinc (1) (16) dX10_sealNamed_32 rfl (by decide) r9 rk_1 (by decide) (fun v21 => [(0, .ref o0_), (1, .int x1_), (2, .int v21)]) (fun _ => rfl) (fun v21 ev21 rv21 => ?_)
            refine rn_goto (tgt := 2) dX10_sealNamed_35 (by decide) ?_
            refine rn_lv [(0, .ref o0_), (1, .int x1_), (2, .int v21)] rfl ?_
            exact ih _ (lp_inc hm5 ev21 rv21 (by decide)) v21 (rg_w rv21 (by decide) (by decide)) rfl
          · have ch20 := cv_eq h20
            refine rn_iload_n (i := 2) dX10_sealNamed_30 rfl rfl ?_
            exact rn_iret dX10_sealNamed_31 rfl rfl (rq_in ⟨rfl, x1, rfl, (rg_w r9 (by decide) (by decide))⟩)
  exact LP2 _ (0 : Int32) (rg_w rk_0 (by decide) (by decide)) rfl
abbrev q_t_X10_seal (G : rn_G) (S : ts_S) (ws : va_W) : rn_R → va_W → Prop := rQ (fun v w => St G S [30, 54, 55, 56, 57, 58, 59, 60, 61, 62, 63] ws S w ∧ (∃ x : Int32, v = some (.int x) ∧ Rg (0) (15) x ∧ fK1 4 S ws w)) (fun E w => False)
set_option maxRecDepth 20000 in
set_option maxHeartbeats 4000000 in
theorem t_X10_seal (G : rn_G) (S : ts_S) (ws : va_W) (hW : ts_W G S ws) (o0_ : Nat) (m0_ : (o0_, 30) ∈ S) (x1_ : Int32) (x2_ : Int32) (x3_ : Int32) (y4_ : Int64) (y5_ : Int64) (x6_ : Int32) (r6_ : Rg (0) (1) x6_) (x7_ : Int32) : Rn G mX10_seal 1 22 0 0 0 (lv_args 0 [.ref o0_, .int x1_, .int x2_, .int x3_, .long y4_, .long y5_, .int x6_, .int x7_]) [] ws (q_t_X10_seal G S ws ) := by
  have hS0 : St G S [30, 54, 55, 56, 57, 58, 59, 60, 61, 62, 63] ws S ws := St.rf hW
  have fk0 : fK1 4 S ws ws := fun v h => h
  refine rn_lv [(0, .ref o0_), (1, .int x1_), (2, .int x2_), (3, .int x3_), (4, .long y4_), (6, .long y5_), (8, .int x6_), (9, .int x7_)] rfl ?_
  refine rn_aload_n (i := 0) dX10_seal_0 rfl rfl ?_
  refine rn_iconst (v := (0 : Int32)) dX10_seal_1 (by decide) ?_
  obtain ⟨q1, fs1, hq1, hl1, hf1⟩ := ts_obj hS0.1 m0_ hk_30
  refine rs_put q1 (kp_SGModel_137 _) hS0 hq1 hl1 hf1 hk_30 rfl rfl (tv_i (rg_w rk_0 (by decide) (by decide))) rfl rfl dX10_seal_2 (fun w2 fs3 hS3 hl3 hf3 hx3 ho3 hn3 => ?_)
  have fk4 : fK1 4 S ws w2 := fk_put fk0 hS0.1 hq1 hl1 hl3 ho3 (by decide)
  refine rn_aload_n (i := 0) dX10_seal_5 rfl rfl ?_
  refine rn_iload_n (i := 2) dX10_seal_6 rfl rfl ?_
  refine rn_iconst (v := (0 : Int32)) dX10_seal_7 (by decide) ?_
  refine rn_iconst (v := (3 : Int32)) dX10_seal_8 (by decide) ?_
  refine rn_inS (d' := 0) (z' := 0) [.int x2_, .int (0 : Int32), .int (3 : Int32)] kl_SGModel_179 dX10_seal_9 rfl rfl (Nat.le_of_ble_eq_true rfl) (Nat.le_of_ble_eq_true rfl) (Nat.le_of_ble_eq_true rfl) (Nat.le_of_ble_eq_true rfl) ?_
  refine rn_lv [(0, .int x2_), (1, .int (0 : Int32)), (2, .int (3 : Int32))] rfl ?_
  refine rn_iload_n (i := 0) dX10_in_0 rfl rfl ?_
  refine rn_iload_n (i := 1) dX10_in_1 rfl rfl ?_
  refine rn_icmp_lt (tgt := 14) dX10_in_2 (by decide) (fun h5 => ?_) (fun h5 => ?_)
  · have ch5 := cv_lt h5
    have r6 : Rg (-2147483648) (-1) x2_ := rf_ltx ch5 (rg_any x2_) rk_0 (by decide)
    refine rn_iconst (v := (0 : Int32)) dX10_in_14 (by decide) ?_
    refine rn_iret dX10_in_15 rfl rfl (rq_in ?_)
    refine rn_stk [.int (0 : Int32), .ref o0_] rfl ?_
    refine rn_if_ne (tgt := 19) dX10_seal_12 (by decide) (fun h7 => (cx_ne (cv_ne h7) rk_0 rk_0 (by decide)).elim) (fun h7 => ?_)
    refine rn_iconst (v := (1 : Int32)) dX10_seal_15 (by decide) ?_
    refine rn_goto (tgt := 20) dX10_seal_16 (by decide) ?_
    refine rn_iconst (v := (1 : Int32)) dX10_seal_20 (by decide) ?_
    refine rn_inV (d' := 0) (z' := 0) [.int (1 : Int32), .int (1 : Int32)] kl_SGModel_171 dX10_seal_21 q1 hl3 rfl rfl rfl (Nat.le_of_ble_eq_true rfl) (Nat.le_of_ble_eq_true rfl) (Nat.le_of_ble_eq_true rfl) (Nat.le_of_ble_eq_true rfl) ?_
    refine rn_lv [(0, .ref o0_), (1, .int (1 : Int32)), (2, .int (1 : Int32))] rfl ?_
    refine rn_aload_n (i := 0) dX10_refuses_0 rfl rfl ?_
    refine rn_get q1 kg_SGModel_137 hl3 hx3 dX10_refuses_1 ?_
    refine rn_if_ne (tgt := 16) dX10_refuses_4 (by decide) (fun h8 => (cx_ne (cv_ne h8) rk_0 rk_0 (by decide)).elim) (fun h8 => ?_)
    refine rn_iload_n (i := 1) dX10_refuses_7 rfl rfl ?_
    refine rn_if_eq (tgt := 16) dX10_refuses_8 (by decide) (fun h9 => (cx_eq (cv_eq h9) rk_1 rk_0 (by decide)).elim) (fun h9 => ?_)
    refine rn_aload_n (i := 0) dX10_refuses_11 rfl rfl ?_
    refine rn_iload_n (i := 2) dX10_refuses_12 rfl rfl ?_
    refine rs_put q1 (kp_SGModel_137 _) hS3 hq1 hl3 hf3 hk_30 rfl rfl (tv_i (rg_w rk_1 (by decide) (by decide))) rfl rfl dX10_refuses_13 (fun w10 fs11 hS11 hl11 hf11 hx11 ho11 hn11 => ?_)
    have fk12 : fK1 4 S ws w10 := fk_put fk4 hS3.1 hq1 hl3 hl11 ho11 (by decide)
    refine rn_aload_n (i := 0) dX10_refuses_16 rfl rfl ?_
    refine rn_get q1 kg_SGModel_137 hl11 hx11 dX10_refuses_17 ?_
    refine rn_if_le (tgt := 27) dX10_refuses_20 (by decide) (fun h13 => (cx_le (cv_le h13) rk_1 rk_0 (by decide)).elim) (fun h13 => ?_)
    refine rn_iconst (v := (1 : Int32)) dX10_refuses_23 (by decide) ?_
    refine rn_goto (tgt := 28) dX10_refuses_24 (by decide) ?_
    refine rn_iret dX10_refuses_28 rfl rfl (rq_in ?_)
    refine rn_stk [.int (1 : Int32)] rfl ?_
    refine rn_if_ne (tgt := 67) dX10_seal_24 (by decide) (fun h14 => ?_) (fun h14 => (cx_eq (cv_eq h14) rk_1 rk_0 (by decide)).elim)
    refine rn_iconst (v := (0 : Int32)) dX10_seal_67 (by decide) ?_
    exact rn_iret dX10_seal_68 rfl rfl (rq_in ⟨hS11, (0 : Int32), rfl, (rg_w rk_0 (by decide) (by decide)), fk12⟩)
  · have ch5 := cv_nlt h5
    have r15 : Rg (0) (2147483647) x2_ := rf_ley ch5 rk_0 (rg_any x2_) (by decide)
    refine rn_iload_n (i := 0) dX10_in_5 rfl rfl ?_
    refine rn_iload_n (i := 2) dX10_in_6 rfl rfl ?_
    refine rn_icmp_gt (tgt := 14) dX10_in_7 (by decide) (fun h16 => ?_) (fun h16 => ?_)
    · have ch16 := cv_lt h16
      have r17 : Rg (4) (2147483647) x2_ := rf_lty ch16 rk_3 r15 (by decide)
      refine rn_iconst (v := (0 : Int32)) dX10_in_14 (by decide) ?_
      refine rn_iret dX10_in_15 rfl rfl (rq_in ?_)
      refine rn_stk [.int (0 : Int32), .ref o0_] rfl ?_
      refine rn_if_ne (tgt := 19) dX10_seal_12 (by decide) (fun h18 => (cx_ne (cv_ne h18) rk_0 rk_0 (by decide)).elim) (fun h18 => ?_)
      refine rn_iconst (v := (1 : Int32)) dX10_seal_15 (by decide) ?_
      refine rn_goto (tgt := 20) dX10_seal_16 (by decide) ?_
      refine rn_iconst (v := (1 : Int32)) dX10_seal_20 (by decide) ?_
      refine rn_inV (d' := 0) (z' := 0) [.int (1 : Int32), .int (1 : Int32)] kl_SGModel_171 dX10_seal_21 q1 hl3 rfl rfl rfl (Nat.le_of_ble_eq_true rfl) (Nat.le_of_ble_eq_true rfl) (Nat.le_of_ble_eq_true rfl) (Nat.le_of_ble_eq_true rfl) ?_
      refine rn_lv [(0, .ref o0_), (1, .int (1 : Int32)), (2, .int (1 : Int32))] rfl ?_
      refine rn_aload_n (i := 0) dX10_refuses_0 rfl rfl ?_
      refine rn_get q1 kg_SGModel_137 hl3 hx3 dX10_refuses_1 ?_
      refine rn_if_ne (tgt := 16) dX10_refuses_4 (by decide) (fun h19 => (cx_ne (cv_ne h19) rk_0 rk_0 (by decide)).elim) (fun h19 => ?_)
      refine rn_iload_n (i := 1) dX10_refuses_7 rfl rfl ?_
      refine rn_if_eq (tgt := 16) dX10_refuses_8 (by decide) (fun h20 => (cx_eq (cv_eq h20) rk_1 rk_0 (by decide)).elim) (fun h20 => ?_)
      refine rn_aload_n (i := 0) dX10_refuses_11 rfl rfl ?_
      refine rn_iload_n (i := 2) dX10_refuses_12 rfl rfl ?_
      refine rs_put q1 (kp_SGModel_137 _) hS3 hq1 hl3 hf3 hk_30 rfl rfl (tv_i (rg_w rk_1 (by decide) (by decide))) rfl rfl dX10_refuses_13 (fun w21 fs22 hS22 hl22 hf22 hx22 ho22 hn22 => ?_)
      have fk23 : fK1 4 S ws w21 := fk_put fk4 hS3.1 hq1 hl3 hl22 ho22 (by decide)
      refine rn_aload_n (i := 0) dX10_refuses_16 rfl rfl ?_
      refine rn_get q1 kg_SGModel_137 hl22 hx22 dX10_refuses_17 ?_
      refine rn_if_le (tgt := 27) dX10_refuses_20 (by decide) (fun h24 => (cx_le (cv_le h24) rk_1 rk_0 (by decide)).elim) (fun h24 => ?_)
      refine rn_iconst (v := (1 : Int32)) dX10_refuses_23 (by decide) ?_
      refine rn_goto (tgt := 28) dX10_refuses_24 (by decide) ?_
      refine rn_iret dX10_refuses_28 rfl rfl (rq_in ?_)
      refine rn_stk [.int (1 : Int32)] rfl ?_
      refine rn_if_ne (tgt := 67) dX10_seal_24 (by decide) (fun h25 => ?_) (fun h25 => (cx_eq (cv_eq h25) rk_1 rk_0 (by decide)).elim)
      refine rn_iconst (v := (0 : Int32)) dX10_seal_67 (by decide) ?_
      exact rn_iret dX10_seal_68 rfl rfl (rq_in ⟨hS22, (0 : Int32), rfl, (rg_w rk_0 (by decide) (by decide)), fk23⟩)
    · have ch16 := cv_nlt h16
      have r26 : Rg (0) (3) x2_ := rf_lex ch16 r15 rk_3 (by decide)
      refine rn_iconst (v := (1 : Int32)) dX10_in_10 (by decide) ?_
      refine rn_goto (tgt := 15) dX10_in_11 (by decide) ?_
      refine rn_iret dX10_in_15 rfl rfl (rq_in ?_)
      refine rn_stk [.int (1 : Int32), .ref o0_] rfl ?_
      refine rn_if_ne (tgt := 19) dX10_seal_12 (by decide) (fun h27 => ?_) (fun h27 => (cx_eq (cv_eq h27) rk_1 rk_0 (by decide)).elim)
      refine rn_iconst (v := (0 : Int32)) dX10_seal_19 (by decide) ?_
      refine rn_iconst (v := (1 : Int32)) dX10_seal_20 (by decide) ?_
      refine rn_inV (d' := 0) (z' := 0) [.int (0 : Int32), .int (1 : Int32)] kl_SGModel_171 dX10_seal_21 q1 hl3 rfl rfl rfl (Nat.le_of_ble_eq_true rfl) (Nat.le_of_ble_eq_true rfl) (Nat.le_of_ble_eq_true rfl) (Nat.le_of_ble_eq_true rfl) ?_
      refine rn_lv [(0, .ref o0_), (1, .int (0 : Int32)), (2, .int (1 : Int32))] rfl ?_
      refine rn_aload_n (i := 0) dX10_refuses_0 rfl rfl ?_
      refine rn_get q1 kg_SGModel_137 hl3 hx3 dX10_refuses_1 ?_
      refine rn_if_ne (tgt := 16) dX10_refuses_4 (by decide) (fun h28 => (cx_ne (cv_ne h28) rk_0 rk_0 (by decide)).elim) (fun h28 => ?_)
      refine rn_iload_n (i := 1) dX10_refuses_7 rfl rfl ?_
      refine rn_if_eq (tgt := 16) dX10_refuses_8 (by decide) (fun h29 => ?_) (fun h29 => (cx_ne (cv_ne h29) rk_0 rk_0 (by decide)).elim)
      refine rn_aload_n (i := 0) dX10_refuses_16 rfl rfl ?_
      refine rn_get q1 kg_SGModel_137 hl3 hx3 dX10_refuses_17 ?_
      refine rn_if_le (tgt := 27) dX10_refuses_20 (by decide) (fun h30 => ?_) (fun h30 => (cx_lt (cv_nle h30) rk_0 rk_0 (by decide)).elim)
      refine rn_iconst (v := (0 : Int32)) dX10_refuses_27 (by decide) ?_
      refine rn_iret dX10_refuses_28 rfl rfl (rq_in ?_)
      refine rn_stk [.int (0 : Int32)] rfl ?_
      refine rn_if_ne (tgt := 67) dX10_seal_24 (by decide) (fun h31 => (cx_ne (cv_ne h31) rk_0 rk_0 (by decide)).elim) (fun h31 => ?_)
      refine rn_aload_n (i := 0) dX10_seal_27 rfl rfl ?_
      refine rn_iload_n (i := 1) dX10_seal_28 rfl rfl ?_
      refine rn_iconst (v := (0 : Int32)) dX10_seal_29 (by decide) ?_
      refine rn_iconst (v := (1 : Int32)) dX10_seal_30 (by decide) ?_
      refine rn_inS (d' := 0) (z' := 0) [.int x1_, .int (0 : Int32), .int (1 : Int32)] kl_SGModel_179 dX10_seal_31 rfl rfl (Nat.le_of_ble_eq_true rfl) (Nat.le_of_ble_eq_true rfl) (Nat.le_of_ble_eq_true rfl) (Nat.le_of_ble_eq_true rfl) ?_
      refine rn_lv [(0, .int x1_), (1, .int (0 : Int32)), (2, .int (1 : Int32))] rfl ?_
      refine rn_iload_n (i := 0) dX10_in_0 rfl rfl ?_
      refine rn_iload_n (i := 1) dX10_in_1 rfl rfl ?_
      refine rn_icmp_lt (tgt := 14) dX10_in_2 (by decide) (fun h32 => ?_) (fun h32 => ?_)
      · have ch32 := cv_lt h32
        have r33 : Rg (-2147483648) (-1) x1_ := rf_ltx ch32 (rg_any x1_) rk_0 (by decide)
        refine rn_iconst (v := (0 : Int32)) dX10_in_14 (by decide) ?_
        refine rn_iret dX10_in_15 rfl rfl (rq_in ?_)
        refine rn_stk [.int (0 : Int32), .ref o0_] rfl ?_
        refine rn_if_eq (tgt := 55) dX10_seal_34 (by decide) (fun h34 => ?_) (fun h34 => (cx_ne (cv_ne h34) rk_0 rk_0 (by decide)).elim)
        refine rn_iconst (v := (1 : Int32)) dX10_seal_55 (by decide) ?_
        refine rn_goto (tgt := 60) dX10_seal_56 (by decide) ?_
        refine rn_iconst (v := (2 : Int32)) dX10_seal_60 (by decide) ?_
        refine rn_inV (d' := 0) (z' := 0) [.int (1 : Int32), .int (2 : Int32)] kl_SGModel_171 dX10_seal_61 q1 hl3 rfl rfl rfl (Nat.le_of_ble_eq_true rfl) (Nat.le_of_ble_eq_true rfl) (Nat.le_of_ble_eq_true rfl) (Nat.le_of_ble_eq_true rfl) ?_
        refine rn_lv [(0, .ref o0_), (1, .int (1 : Int32)), (2, .int (2 : Int32))] rfl ?_
        refine rn_aload_n (i := 0) dX10_refuses_0 rfl rfl ?_
        refine rn_get q1 kg_SGModel_137 hl3 hx3 dX10_refuses_1 ?_
        refine rn_if_ne (tgt := 16) dX10_refuses_4 (by decide) (fun h35 => (cx_ne (cv_ne h35) rk_0 rk_0 (by decide)).elim) (fun h35 => ?_)
        refine rn_iload_n (i := 1) dX10_refuses_7 rfl rfl ?_
        refine rn_if_eq (tgt := 16) dX10_refuses_8 (by decide) (fun h36 => (cx_eq (cv_eq h36) rk_1 rk_0 (by decide)).elim) (fun h36 => ?_)
        refine rn_aload_n (i := 0) dX10_refuses_11 rfl rfl ?_
        refine rn_iload_n (i := 2) dX10_refuses_12 rfl rfl ?_
        refine rs_put q1 (kp_SGModel_137 _) hS3 hq1 hl3 hf3 hk_30 rfl rfl (tv_i (rg_w rk_2 (by decide) (by decide))) rfl rfl dX10_refuses_13 (fun w37 fs38 hS38 hl38 hf38 hx38 ho38 hn38 => ?_)
        have fk39 : fK1 4 S ws w37 := fk_put fk4 hS3.1 hq1 hl3 hl38 ho38 (by decide)
        refine rn_aload_n (i := 0) dX10_refuses_16 rfl rfl ?_
        refine rn_get q1 kg_SGModel_137 hl38 hx38 dX10_refuses_17 ?_
        refine rn_if_le (tgt := 27) dX10_refuses_20 (by decide) (fun h40 => (cx_le (cv_le h40) rk_2 rk_0 (by decide)).elim) (fun h40 => ?_)
        refine rn_iconst (v := (1 : Int32)) dX10_refuses_23 (by decide) ?_
        refine rn_goto (tgt := 28) dX10_refuses_24 (by decide) ?_
        refine rn_iret dX10_refuses_28 rfl rfl (rq_in ?_)
        refine rn_stk [.int (1 : Int32)] rfl ?_
        refine rn_if_eq (tgt := 69) dX10_seal_64 (by decide) (fun h41 => (cx_eq (cv_eq h41) rk_1 rk_0 (by decide)).elim) (fun h41 => ?_)
        refine rn_iconst (v := (0 : Int32)) dX10_seal_67 (by decide) ?_
        exact rn_iret dX10_seal_68 rfl rfl (rq_in ⟨hS38, (0 : Int32), rfl, (rg_w rk_0 (by decide) (by decide)), fk39⟩)
      · have ch32 := cv_nlt h32
        have r42 : Rg (0) (2147483647) x1_ := rf_ley ch32 rk_0 (rg_any x1_) (by decide)
        refine rn_iload_n (i := 0) dX10_in_5 rfl rfl ?_
        refine rn_iload_n (i := 2) dX10_in_6 rfl rfl ?_
        refine rn_icmp_gt (tgt := 14) dX10_in_7 (by decide) (fun h43 => ?_) (fun h43 => ?_)
        · have ch43 := cv_lt h43
          have r44 : Rg (2) (2147483647) x1_ := rf_lty ch43 rk_1 r42 (by decide)
          refine rn_iconst (v := (0 : Int32)) dX10_in_14 (by decide) ?_
          refine rn_iret dX10_in_15 rfl rfl (rq_in ?_)
          refine rn_stk [.int (0 : Int32), .ref o0_] rfl ?_
          refine rn_if_eq (tgt := 55) dX10_seal_34 (by decide) (fun h45 => ?_) (fun h45 => (cx_ne (cv_ne h45) rk_0 rk_0 (by decide)).elim)
          refine rn_iconst (v := (1 : Int32)) dX10_seal_55 (by decide) ?_
          refine rn_goto (tgt := 60) dX10_seal_56 (by decide) ?_
          refine rn_iconst (v := (2 : Int32)) dX10_seal_60 (by decide) ?_
          refine rn_inV (d' := 0) (z' := 0) [.int (1 : Int32), .int (2 : Int32)] kl_SGModel_171 dX10_seal_61 q1 hl3 rfl rfl rfl (Nat.le_of_ble_eq_true rfl) (Nat.le_of_ble_eq_true rfl) (Nat.le_of_ble_eq_true rfl) (Nat.le_of_ble_eq_true rfl) ?_
          refine rn_lv [(0, .ref o0_), (1, .int (1 : Int32)), (2, .int (2 : Int32))] rfl ?_
          refine rn_aload_n (i := 0) dX10_refuses_0 rfl rfl ?_
          refine rn_get q1 kg_SGModel_137 hl3 hx3 dX10_refuses_1 ?_
          refine rn_if_ne (tgt := 16) dX10_refuses_4 (by decide) (fun h46 => (cx_ne (cv_ne h46) rk_0 rk_0 (by decide)).elim) (fun h46 => ?_)
          refine rn_iload_n (i := 1) dX10_refuses_7 rfl rfl ?_
          refine rn_if_eq (tgt := 16) dX10_refuses_8 (by decide) (fun h47 => (cx_eq (cv_eq h47) rk_1 rk_0 (by decide)).elim) (fun h47 => ?_)
          refine rn_aload_n (i := 0) dX10_refuses_11 rfl rfl ?_
          refine rn_iload_n (i := 2) dX10_refuses_12 rfl rfl ?_
          refine rs_put q1 (kp_SGModel_137 _) hS3 hq1 hl3 hf3 hk_30 rfl rfl (tv_i (rg_w rk_2 (by decide) (by decide))) rfl rfl dX10_refuses_13 (fun w48 fs49 hS49 hl49 hf49 hx49 ho49 hn49 => ?_)
          have fk50 : fK1 4 S ws w48 := fk_put fk4 hS3.1 hq1 hl3 hl49 ho49 (by decide)
          refine rn_aload_n (i := 0) dX10_refuses_16 rfl rfl ?_
          refine rn_get q1 kg_SGModel_137 hl49 hx49 dX10_refuses_17 ?_
          refine rn_if_le (tgt := 27) dX10_refuses_20 (by decide) (fun h51 => (cx_le (cv_le h51) rk_2 rk_0 (by decide)).elim) (fun h51 => ?_)
          refine rn_iconst (v := (1 : Int32)) dX10_refuses_23 (by decide) ?_
          refine rn_goto (tgt := 28) dX10_refuses_24 (by decide) ?_
          refine rn_iret dX10_refuses_28 rfl rfl (rq_in ?_)
          refine rn_stk [.int (1 : Int32)] rfl ?_
          refine rn_if_eq (tgt := 69) dX10_seal_64 (by decide) (fun h52 => (cx_eq (cv_eq h52) rk_1 rk_0 (by decide)).elim) (fun h52 => ?_)
          refine rn_iconst (v := (0 : Int32)) dX10_seal_67 (by decide) ?_
          exact rn_iret dX10_seal_68 rfl rfl (rq_in ⟨hS49, (0 : Int32), rfl, (rg_w rk_0 (by decide) (by decide)), fk50⟩)
        · have ch43 := cv_nlt h43
          have r53 : Rg (0) (1) x1_ := rf_lex ch43 r42 rk_1 (by decide)
          refine rn_iconst (v := (1 : Int32)) dX10_in_10 (by decide) ?_
          refine rn_goto (tgt := 15) dX10_in_11 (by decide) ?_
          refine rn_iret dX10_in_15 rfl rfl (rq_in ?_)
          refine rn_stk [.int (1 : Int32), .ref o0_] rfl ?_
          refine rn_if_eq (tgt := 55) dX10_seal_34 (by decide) (fun h54 => (cx_eq (cv_eq h54) rk_1 rk_0 (by decide)).elim) (fun h54 => ?_)
          refine rn_iload_n (i := 3) dX10_seal_37 rfl rfl ?_
          refine rn_sipush (v := (256 : Int32)) dX10_seal_38 (by decide) ?_
          refine rn_icmp_lt (tgt := 55) dX10_seal_41 (by decide) (fun h55 => ?_) (fun h55 => ?_)
          · have ch55 := cv_lt h55
            have r56 : Rg (-2147483648) (255) x3_ := rf_ltx ch55 (rg_any x3_) rk_256 (by decide)
            refine rn_iconst (v := (1 : Int32)) dX10_seal_55 (by decide) ?_
            refine rn_goto (tgt := 60) dX10_seal_56 (by decide) ?_
            refine rn_iconst (v := (2 : Int32)) dX10_seal_60 (by decide) ?_
            refine rn_inV (d' := 0) (z' := 0) [.int (1 : Int32), .int (2 : Int32)] kl_SGModel_171 dX10_seal_61 q1 hl3 rfl rfl rfl (Nat.le_of_ble_eq_true rfl) (Nat.le_of_ble_eq_true rfl) (Nat.le_of_ble_eq_true rfl) (Nat.le_of_ble_eq_true rfl) ?_
            refine rn_lv [(0, .ref o0_), (1, .int (1 : Int32)), (2, .int (2 : Int32))] rfl ?_
            refine rn_aload_n (i := 0) dX10_refuses_0 rfl rfl ?_
            refine rn_get q1 kg_SGModel_137 hl3 hx3 dX10_refuses_1 ?_
            refine rn_if_ne (tgt := 16) dX10_refuses_4 (by decide) (fun h57 => (cx_ne (cv_ne h57) rk_0 rk_0 (by decide)).elim) (fun h57 => ?_)
            refine rn_iload_n (i := 1) dX10_refuses_7 rfl rfl ?_
            refine rn_if_eq (tgt := 16) dX10_refuses_8 (by decide) (fun h58 => (cx_eq (cv_eq h58) rk_1 rk_0 (by decide)).elim) (fun h58 => ?_)
            refine rn_aload_n (i := 0) dX10_refuses_11 rfl rfl ?_
            refine rn_iload_n (i := 2) dX10_refuses_12 rfl rfl ?_
            refine rs_put q1 (kp_SGModel_137 _) hS3 hq1 hl3 hf3 hk_30 rfl rfl (tv_i (rg_w rk_2 (by decide) (by decide))) rfl rfl dX10_refuses_13 (fun w59 fs60 hS60 hl60 hf60 hx60 ho60 hn60 => ?_)
            have fk61 : fK1 4 S ws w59 := fk_put fk4 hS3.1 hq1 hl3 hl60 ho60 (by decide)
            refine rn_aload_n (i := 0) dX10_refuses_16 rfl rfl ?_
            refine rn_get q1 kg_SGModel_137 hl60 hx60 dX10_refuses_17 ?_
            refine rn_if_le (tgt := 27) dX10_refuses_20 (by decide) (fun h62 => (cx_le (cv_le h62) rk_2 rk_0 (by decide)).elim) (fun h62 => ?_)
            refine rn_iconst (v := (1 : Int32)) dX10_refuses_23 (by decide) ?_
            refine rn_goto (tgt := 28) dX10_refuses_24 (by decide) ?_
            refine rn_iret dX10_refuses_28 rfl rfl (rq_in ?_)
            refine rn_stk [.int (1 : Int32)] rfl ?_
            refine rn_if_eq (tgt := 69) dX10_seal_64 (by decide) (fun h63 => (cx_eq (cv_eq h63) rk_1 rk_0 (by decide)).elim) (fun h63 => ?_)
            refine rn_iconst (v := (0 : Int32)) dX10_seal_67 (by decide) ?_
            exact rn_iret dX10_seal_68 rfl rfl (rq_in ⟨hS60, (0 : Int32), rfl, (rg_w rk_0 (by decide) (by decide)), fk61⟩)
          · have ch55 := cv_nlt h55
            have r64 : Rg (256) (2147483647) x3_ := rf_ley ch55 rk_256 (rg_any x3_) (by decide)
            refine rn_iload dX10_seal_44 rfl ?_
            refine rn_iconst (v := (1 : Int32)) dX10_seal_46 (by decide) ?_
            refine rn_ldc (v := (1000000 : Int32)) wd_1334 dX10_seal_47 ?_
            refine rn_inS (d' := 0) (z' := 0) [.int x7_, .int (1 : Int32), .int (1000000 : Int32)] kl_SGModel_179 dX10_seal_49 rfl rfl (Nat.le_of_ble_eq_true rfl) (Nat.le_of_ble_eq_true rfl) (Nat.le_of_ble_eq_true rfl) (Nat.le_of_ble_eq_true rfl) ?_
            refine rn_lv [(0, .int x7_), (1, .int (1 : Int32)), (2, .int (1000000 : Int32))] rfl ?_
            refine rn_iload_n (i := 0) dX10_in_0 rfl rfl ?_
            refine rn_iload_n (i := 1) dX10_in_1 rfl rfl ?_
            refine rn_icmp_lt (tgt := 14) dX10_in_2 (by decide) (fun h65 => ?_) (fun h65 => ?_)
            · have ch65 := cv_lt h65
              have r66 : Rg (-2147483648) (0) x7_ := rf_ltx ch65 (rg_any x7_) rk_1 (by decide)
              refine rn_iconst (v := (0 : Int32)) dX10_in_14 (by decide) ?_
              refine rn_iret dX10_in_15 rfl rfl (rq_in ?_)
              refine rn_stk [.int (0 : Int32), .ref o0_] rfl ?_
              refine rn_if_ne (tgt := 59) dX10_seal_52 (by decide) (fun h67 => (cx_ne (cv_ne h67) rk_0 rk_0 (by decide)).elim) (fun h67 => ?_)
              refine rn_iconst (v := (1 : Int32)) dX10_seal_55 (by decide) ?_
              refine rn_goto (tgt := 60) dX10_seal_56 (by decide) ?_
              refine rn_iconst (v := (2 : Int32)) dX10_seal_60 (by decide) ?_
              refine rn_inV (d' := 0) (z' := 0) [.int (1 : Int32), .int (2 : Int32)] kl_SGModel_171 dX10_seal_61 q1 hl3 rfl rfl rfl (Nat.le_of_ble_eq_true rfl) (Nat.le_of_ble_eq_true rfl) (Nat.le_of_ble_eq_true rfl) (Nat.le_of_ble_eq_true rfl) ?_
              refine rn_lv [(0, .ref o0_), (1, .int (1 : Int32)), (2, .int (2 : Int32))] rfl ?_
              refine rn_aload_n (i := 0) dX10_refuses_0 rfl rfl ?_
              refine rn_get q1 kg_SGModel_137 hl3 hx3 dX10_refuses_1 ?_
              refine rn_if_ne (tgt := 16) dX10_refuses_4 (by decide) (fun h68 => (cx_ne (cv_ne h68) rk_0 rk_0 (by decide)).elim) (fun h68 => ?_)
              refine rn_iload_n (i := 1) dX10_refuses_7 rfl rfl ?_
              refine rn_if_eq (tgt := 16) dX10_refuses_8 (by decide) (fun h69 => (cx_eq (cv_eq h69) rk_1 rk_0 (by decide)).elim) (fun h69 => ?_)
              refine rn_aload_n (i := 0) dX10_refuses_11 rfl rfl ?_
              refine rn_iload_n (i := 2) dX10_refuses_12 rfl rfl ?_
              refine rs_put q1 (kp_SGModel_137 _) hS3 hq1 hl3 hf3 hk_30 rfl rfl (tv_i (rg_w rk_2 (by decide) (by decide))) rfl rfl dX10_refuses_13 (fun w70 fs71 hS71 hl71 hf71 hx71 ho71 hn71 => ?_)
              have fk72 : fK1 4 S ws w70 := fk_put fk4 hS3.1 hq1 hl3 hl71 ho71 (by decide)
              refine rn_aload_n (i := 0) dX10_refuses_16 rfl rfl ?_
              refine rn_get q1 kg_SGModel_137 hl71 hx71 dX10_refuses_17 ?_
              refine rn_if_le (tgt := 27) dX10_refuses_20 (by decide) (fun h73 => (cx_le (cv_le h73) rk_2 rk_0 (by decide)).elim) (fun h73 => ?_)
              refine rn_iconst (v := (1 : Int32)) dX10_refuses_23 (by decide) ?_
              refine rn_goto (tgt := 28) dX10_refuses_24 (by decide) ?_
              refine rn_iret dX10_refuses_28 rfl rfl (rq_in ?_)
              refine rn_stk [.int (1 : Int32)] rfl ?_
              refine rn_if_eq (tgt := 69) dX10_seal_64 (by decide) (fun h74 => (cx_eq (cv_eq h74) rk_1 rk_0 (by decide)).elim) (fun h74 => ?_)
              refine rn_iconst (v := (0 : Int32)) dX10_seal_67 (by decide) ?_
              exact rn_iret dX10_seal_68 rfl rfl (rq_in ⟨hS71, (0 : Int32), rfl, (rg_w rk_0 (by decide) (by decide)), fk72⟩)
            · have ch65 := cv_nlt h65
              have r75 : Rg (1) (2147483647) x7_ := rf_ley ch65 rk_1 (rg_any x7_) (by decide)
              refine rn_iload_n (i := 0) dX10_in_5 rfl rfl ?_
              refine rn_iload_n (i := 2) dX10_in_6 rfl rfl ?_
              refine rn_icmp_gt (tgt := 14) dX10_in_7 (by decide) (fun h76 => ?_) (fun h76 => ?_)
              · have ch76 := cv_lt h76
                have r77 : Rg (1000001) (2147483647) x7_ := rf_lty ch76 rk_1000000 r75 (by decide)
                refine rn_iconst (v := (0 : Int32)) dX10_in_14 (by decide) ?_
                refine rn_iret dX10_in_15 rfl rfl (rq_in ?_)
                refine rn_stk [.int (0 : Int32), .ref o0_] rfl ?_
                refine rn_if_ne (tgt := 59) dX10_seal_52 (by decide) (fun h78 => (cx_ne (cv_ne h78) rk_0 rk_0 (by decide)).elim) (fun h78 => ?_)
                refine rn_iconst (v := (1 : Int32)) dX10_seal_55 (by decide) ?_
                refine rn_goto (tgt := 60) dX10_seal_56 (by decide) ?_
                refine rn_iconst (v := (2 : Int32)) dX10_seal_60 (by decide) ?_
                refine rn_inV (d' := 0) (z' := 0) [.int (1 : Int32), .int (2 : Int32)] kl_SGModel_171 dX10_seal_61 q1 hl3 rfl rfl rfl (Nat.le_of_ble_eq_true rfl) (Nat.le_of_ble_eq_true rfl) (Nat.le_of_ble_eq_true rfl) (Nat.le_of_ble_eq_true rfl) ?_
                refine rn_lv [(0, .ref o0_), (1, .int (1 : Int32)), (2, .int (2 : Int32))] rfl ?_
                refine rn_aload_n (i := 0) dX10_refuses_0 rfl rfl ?_
                refine rn_get q1 kg_SGModel_137 hl3 hx3 dX10_refuses_1 ?_
                refine rn_if_ne (tgt := 16) dX10_refuses_4 (by decide) (fun h79 => (cx_ne (cv_ne h79) rk_0 rk_0 (by decide)).elim) (fun h79 => ?_)
                refine rn_iload_n (i := 1) dX10_refuses_7 rfl rfl ?_
                refine rn_if_eq (tgt := 16) dX10_refuses_8 (by decide) (fun h80 => (cx_eq (cv_eq h80) rk_1 rk_0 (by decide)).elim) (fun h80 => ?_)
                refine rn_aload_n (i := 0) dX10_refuses_11 rfl rfl ?_
                refine rn_iload_n (i := 2) dX10_refuses_12 rfl rfl ?_
                refine rs_put q1 (kp_SGModel_137 _) hS3 hq1 hl3 hf3 hk_30 rfl rfl (tv_i (rg_w rk_2 (by decide) (by decide))) rfl rfl dX10_refuses_13 (fun w81 fs82 hS82 hl82 hf82 hx82 ho82 hn82 => ?_)
                have fk83 : fK1 4 S ws w81 := fk_put fk4 hS3.1 hq1 hl3 hl82 ho82 (by decide)
                refine rn_aload_n (i := 0) dX10_refuses_16 rfl rfl ?_
                refine rn_get q1 kg_SGModel_137 hl82 hx82 dX10_refuses_17 ?_
                refine rn_if_le (tgt := 27) dX10_refuses_20 (by decide) (fun h84 => (cx_le (cv_le h84) rk_2 rk_0 (by decide)).elim) (fun h84 => ?_)
                refine rn_iconst (v := (1 : Int32)) dX10_refuses_23 (by decide) ?_
                refine rn_goto (tgt := 28) dX10_refuses_24 (by decide) ?_
                refine rn_iret dX10_refuses_28 rfl rfl (rq_in ?_)
                refine rn_stk [.int (1 : Int32)] rfl ?_
                refine rn_if_eq (tgt := 69) dX10_seal_64 (by decide) (fun h85 => (cx_eq (cv_eq h85) rk_1 rk_0 (by decide)).elim) (fun h85 => ?_)
                refine rn_iconst (v := (0 : Int32)) dX10_seal_67 (by decide) ?_
                exact rn_iret dX10_seal_68 rfl rfl (rq_in ⟨hS82, (0 : Int32), rfl, (rg_w rk_0 (by decide) (by decide)), fk83⟩)
              · have ch76 := cv_nlt h76
                have r86 : Rg (1) (1000000) x7_ := rf_lex ch76 r75 rk_1000000 (by decide)
                refine rn_iconst (v := (1 : Int32)) dX10_in_10 (by decide) ?_
                refine rn_goto (tgt := 15) dX10_in_11 (by decide) ?_
                refine rn_iret dX10_in_15 rfl rfl (rq_in ?_)
                refine rn_stk [.int (1 : Int32), .ref o0_] rfl ?_
                refine rn_if_ne (tgt := 59) dX10_seal_52 (by decide) (fun h87 => ?_) (fun h87 => (cx_eq (cv_eq h87) rk_1 rk_0 (by decide)).elim)
                refine rn_iconst (v := (0 : Int32)) dX10_seal_59 (by decide) ?_
                refine rn_iconst (v := (2 : Int32)) dX10_seal_60 (by decide) ?_
                refine rn_inV (d' := 0) (z' := 0) [.int (0 : Int32), .int (2 : Int32)] kl_SGModel_171 dX10_seal_61 q1 hl3 rfl rfl rfl (Nat.le_of_ble_eq_true rfl) (Nat.le_of_ble_eq_true rfl) (Nat.le_of_ble_eq_true rfl) (Nat.le_of_ble_eq_true rfl) ?_
                refine rn_lv [(0, .ref o0_), (1, .int (0 : Int32)), (2, .int (2 : Int32))] rfl ?_
                refine rn_aload_n (i := 0) dX10_refuses_0 rfl rfl ?_
                refine rn_get q1 kg_SGModel_137 hl3 hx3 dX10_refuses_1 ?_
                refine rn_if_ne (tgt := 16) dX10_refuses_4 (by decide) (fun h88 => (cx_ne (cv_ne h88) rk_0 rk_0 (by decide)).elim) (fun h88 => ?_)
                refine rn_iload_n (i := 1) dX10_refuses_7 rfl rfl ?_
                refine rn_if_eq (tgt := 16) dX10_refuses_8 (by decide) (fun h89 => ?_) (fun h89 => (cx_ne (cv_ne h89) rk_0 rk_0 (by decide)).elim)
                refine rn_aload_n (i := 0) dX10_refuses_16 rfl rfl ?_
                refine rn_get q1 kg_SGModel_137 hl3 hx3 dX10_refuses_17 ?_
                refine rn_if_le (tgt := 27) dX10_refuses_20 (by decide) (fun h90 => ?_) (fun h90 => (cx_lt (cv_nle h90) rk_0 rk_0 (by decide)).elim)
                refine rn_iconst (v := (0 : Int32)) dX10_refuses_27 (by decide) ?_
                refine rn_iret dX10_refuses_28 rfl rfl (rq_in ?_)
                refine rn_stk [.int (0 : Int32)] rfl ?_
                refine rn_if_eq (tgt := 69) dX10_seal_64 (by decide) (fun h91 => ?_) (fun h91 => (cx_ne (cv_ne h91) rk_0 rk_0 (by decide)).elim)
                refine rn_aload_n (i := 0) dX10_seal_69 rfl rfl ?_
                refine rn_aload_n (i := 0) dX10_seal_70 rfl rfl ?_
                obtain ⟨x92, hx92, rx92⟩ := fs_i hf3 22 rfl
                refine rn_get q1 kg_SGModel_200 hl3 hx92 dX10_seal_71 ?_
                refine rn_bipush (v := (16 : Int32)) dX10_seal_74 (by decide) ?_
                refine rn_icmp_eq (tgt := 92) dX10_seal_76 (by decide) (fun h93 => ?_) (fun h93 => ?_)
                · have ch93 := cv_eq h93
                  have r94 : Rg (16) (16) x92 := rf_eqx ch93 rx92 rk_16 (by decide) (by decide)
                  refine rn_iconst (v := (1 : Int32)) dX10_seal_92 (by decide) ?_
                  refine rn_goto (tgt := 97) dX10_seal_93 (by decide) ?_
                  refine rn_iconst (v := (3 : Int32)) dX10_seal_97 (by decide) ?_
                  refine rn_inV (d' := 0) (z' := 0) [.int (1 : Int32), .int (3 : Int32)] kl_SGModel_171 dX10_seal_98 q1 hl3 rfl rfl rfl (Nat.le_of_ble_eq_true rfl) (Nat.le_of_ble_eq_true rfl) (Nat.le_of_ble_eq_true rfl) (Nat.le_of_ble_eq_true rfl) ?_
                  refine rn_lv [(0, .ref o0_), (1, .int (1 : Int32)), (2, .int (3 : Int32))] rfl ?_
                  refine rn_aload_n (i := 0) dX10_refuses_0 rfl rfl ?_
                  refine rn_get q1 kg_SGModel_137 hl3 hx3 dX10_refuses_1 ?_
                  refine rn_if_ne (tgt := 16) dX10_refuses_4 (by decide) (fun h95 => (cx_ne (cv_ne h95) rk_0 rk_0 (by decide)).elim) (fun h95 => ?_)
                  refine rn_iload_n (i := 1) dX10_refuses_7 rfl rfl ?_
                  refine rn_if_eq (tgt := 16) dX10_refuses_8 (by decide) (fun h96 => (cx_eq (cv_eq h96) rk_1 rk_0 (by decide)).elim) (fun h96 => ?_)
                  refine rn_aload_n (i := 0) dX10_refuses_11 rfl rfl ?_
                  refine rn_iload_n (i := 2) dX10_refuses_12 rfl rfl ?_
                  refine rs_put q1 (kp_SGModel_137 _) hS3 hq1 hl3 hf3 hk_30 rfl rfl (tv_i (rg_w rk_3 (by decide) (by decide))) rfl rfl dX10_refuses_13 (fun w97 fs98 hS98 hl98 hf98 hx98 ho98 hn98 => ?_)
                  have fk99 : fK1 4 S ws w97 := fk_put fk4 hS3.1 hq1 hl3 hl98 ho98 (by decide)
                  refine rn_aload_n (i := 0) dX10_refuses_16 rfl rfl ?_
                  refine rn_get q1 kg_SGModel_137 hl98 hx98 dX10_refuses_17 ?_
                  refine rn_if_le (tgt := 27) dX10_refuses_20 (by decide) (fun h100 => (cx_le (cv_le h100) rk_3 rk_0 (by decide)).elim) (fun h100 => ?_)
                  refine rn_iconst (v := (1 : Int32)) dX10_refuses_23 (by decide) ?_
                  refine rn_goto (tgt := 28) dX10_refuses_24 (by decide) ?_
                  refine rn_iret dX10_refuses_28 rfl rfl (rq_in ?_)
                  refine rn_stk [.int (1 : Int32)] rfl ?_
                  refine rn_if_eq (tgt := 106) dX10_seal_101 (by decide) (fun h101 => (cx_eq (cv_eq h101) rk_1 rk_0 (by decide)).elim) (fun h101 => ?_)
                  refine rn_iconst (v := (0 : Int32)) dX10_seal_104 (by decide) ?_
                  exact rn_iret dX10_seal_105 rfl rfl (rq_in ⟨hS98, (0 : Int32), rfl, (rg_w rk_0 (by decide) (by decide)), fk99⟩)
                · have ch93 := cv_ne h93
                  have r102 : Rg (0) (15) x92 := rf_neh ch93 rx92 rk_16 (by decide) (by decide)
                  refine rn_iload_n (i := 1) dX10_seal_79 rfl rfl ?_
                  refine rn_iconst (v := (1 : Int32)) dX10_seal_80 (by decide) ?_
                  refine rn_icmp_ne (tgt := 96) dX10_seal_81 (by decide) (fun h103 => ?_) (fun h103 => ?_)
                  · have ch103 := cv_ne h103
                    have r104 : Rg (0) (0) x1_ := rf_neh ch103 r53 rk_1 (by decide) (by decide)
                    refine rn_iconst (v := (0 : Int32)) dX10_seal_96 (by decide) ?_
                    refine rn_iconst (v := (3 : Int32)) dX10_seal_97 (by decide) ?_
                    refine rn_inV (d' := 0) (z' := 0) [.int (0 : Int32), .int (3 : Int32)] kl_SGModel_171 dX10_seal_98 q1 hl3 rfl rfl rfl (Nat.le_of_ble_eq_true rfl) (Nat.le_of_ble_eq_true rfl) (Nat.le_of_ble_eq_true rfl) (Nat.le_of_ble_eq_true rfl) ?_
                    refine rn_lv [(0, .ref o0_), (1, .int (0 : Int32)), (2, .int (3 : Int32))] rfl ?_
                    refine rn_aload_n (i := 0) dX10_refuses_0 rfl rfl ?_
                    refine rn_get q1 kg_SGModel_137 hl3 hx3 dX10_refuses_1 ?_
                    refine rn_if_ne (tgt := 16) dX10_refuses_4 (by decide) (fun h105 => (cx_ne (cv_ne h105) rk_0 rk_0 (by decide)).elim) (fun h105 => ?_)
                    refine rn_iload_n (i := 1) dX10_refuses_7 rfl rfl ?_
                    refine rn_if_eq (tgt := 16) dX10_refuses_8 (by decide) (fun h106 => ?_) (fun h106 => (cx_ne (cv_ne h106) rk_0 rk_0 (by decide)).elim)
                    refine rn_aload_n (i := 0) dX10_refuses_16 rfl rfl ?_
                    refine rn_get q1 kg_SGModel_137 hl3 hx3 dX10_refuses_17 ?_
                    refine rn_if_le (tgt := 27) dX10_refuses_20 (by decide) (fun h107 => ?_) (fun h107 => (cx_lt (cv_nle h107) rk_0 rk_0 (by decide)).elim)
                    refine rn_iconst (v := (0 : Int32)) dX10_refuses_27 (by decide) ?_
                    refine rn_iret dX10_refuses_28 rfl rfl (rq_in ?_)
                    refine rn_stk [.int (0 : Int32)] rfl ?_
                    refine rn_if_eq (tgt := 106) dX10_seal_101 (by decide) (fun h108 => ?_) (fun h108 => (cx_ne (cv_ne h108) rk_0 rk_0 (by decide)).elim)
                    refine rn_aload_n (i := 0) dX10_seal_106 rfl rfl ?_
                    refine rn_get q1 kg_SGModel_200 hl3 hx92 dX10_seal_107 ?_
                    refine rn_istore dX10_seal_110 (by decide) [(0, .ref o0_), (1, .int x1_), (2, .int x2_), (3, .int x3_), (4, .long y4_), (6, .long y5_), (8, .int x6_), (9, .int x7_), (10, .int x92)] rfl ?_
                    refine rn_aload_n (i := 0) dX10_seal_112 rfl rfl ?_
                    obtain ⟨o109, hx109, m109⟩ := fs_r hf3 23 rfl
                    refine rn_get q1 kg_SGModel_57 hl3 hx109 dX10_seal_113 ?_
                    refine rn_iload dX10_seal_116 rfl ?_
                    refine rn_iload_n (i := 1) dX10_seal_118 rfl rfl ?_
                    obtain ⟨q110, f110, hq110, hl110, hf110⟩ := ts_ia hS3.1 m109 hk_54
                    refine rs_iast q110 hS3 hq110 hl110 hf110 hk_54 rfl rfl r102 (by decide) (by decide) (rg_w r104 (by decide) (by decide)) dX10_seal_119 (fun w111 f112 hS112 hl112 hf112 hu112 hn112 => ?_)
                    have fk113 : fK1 4 S ws w111 := fk_ne fk4 hn112 hq110 rfl
                    refine rn_aload_n (i := 0) dX10_seal_120 rfl rfl ?_
                    obtain ⟨o114, hx114, m114⟩ := fs_r hf3 24 rfl
                    refine rn_get q1 kg_SGModel_60 ((hn112 _ (ts_ne hq110 hq1 rfl)).trans hl3) hx114 dX10_seal_121 ?_
                    refine rn_iload dX10_seal_124 rfl ?_
                    refine rn_iload_n (i := 2) dX10_seal_126 rfl rfl ?_
                    obtain ⟨q115, f115, hq115, hl115, hf115⟩ := ts_ia hS112.1 m114 hk_55
                    refine rs_iast q115 hS112 hq115 hl115 hf115 hk_55 rfl rfl r102 (by decide) (by decide) r26 dX10_seal_127 (fun w116 f117 hS117 hl117 hf117 hu117 hn117 => ?_)
                    have fk118 : fK1 4 S ws w116 := fk_ne fk113 hn117 hq115 rfl
                    refine rn_aload_n (i := 0) dX10_seal_128 rfl rfl ?_
                    obtain ⟨o119, hx119, m119⟩ := fs_r hf3 25 rfl
                    refine rn_get q1 kg_SGModel_63 ((hn117 _ (ts_ne hq115 hq1 rfl)).trans ((hn112 _ (ts_ne hq110 hq1 rfl)).trans hl3)) hx119 dX10_seal_129 ?_
                    refine rn_iload dX10_seal_132 rfl ?_
                    refine rn_iload_n (i := 3) dX10_seal_134 rfl rfl ?_
                    obtain ⟨q120, f120, hq120, hl120, hf120⟩ := ts_ia hS117.1 m119 hk_56
                    refine rs_iast q120 hS117 hq120 hl120 hf120 hk_56 rfl rfl r102 (by decide) (by decide) (rg_w r64 (by decide) (by decide)) dX10_seal_135 (fun w121 f122 hS122 hl122 hf122 hu122 hn122 => ?_)
                    have fk123 : fK1 4 S ws w121 := fk_ne fk118 hn122 hq120 rfl
                    refine rn_aload_n (i := 0) dX10_seal_136 rfl rfl ?_
                    obtain ⟨o124, hx124, m124⟩ := fs_r hf3 26 rfl
                    refine rn_get q1 kg_SGModel_66 ((hn122 _ (ts_ne hq120 hq1 rfl)).trans ((hn117 _ (ts_ne hq115 hq1 rfl)).trans ((hn112 _ (ts_ne hq110 hq1 rfl)).trans hl3))) hx124 dX10_seal_137 ?_
                    refine rn_iload dX10_seal_140 rfl ?_
                    refine rn_lload dX10_seal_142 rfl ?_
                    obtain ⟨q125, f125, hq125, hl125⟩ := ts_la hS122.1 m124 hk_57
                    refine rs_last q125 hS122 hq125 hl125 hk_57 rfl rfl r102 (by decide) (by decide) dX10_seal_144 (fun w126 f127 hS127 hl127 hu127 hn127 => ?_)
                    have fk128 : fK1 4 S ws w126 := fk_ne fk123 hn127 hq125 rfl
                    refine rn_aload_n (i := 0) dX10_seal_145 rfl rfl ?_
                    obtain ⟨o129, hx129, m129⟩ := fs_r hf3 27 rfl
                    refine rn_get q1 kg_SGModel_70 ((hn127 _ (ts_ne hq125 hq1 rfl)).trans ((hn122 _ (ts_ne hq120 hq1 rfl)).trans ((hn117 _ (ts_ne hq115 hq1 rfl)).trans ((hn112 _ (ts_ne hq110 hq1 rfl)).trans hl3)))) hx129 dX10_seal_146 ?_
                    refine rn_iload dX10_seal_149 rfl ?_
                    refine rn_lload dX10_seal_151 rfl ?_
                    obtain ⟨q130, f130, hq130, hl130⟩ := ts_la hS127.1 m129 hk_58
                    refine rs_last q130 hS127 hq130 hl130 hk_58 rfl rfl r102 (by decide) (by decide) dX10_seal_153 (fun w131 f132 hS132 hl132 hu132 hn132 => ?_)
                    have fk133 : fK1 4 S ws w131 := fk_ne fk128 hn132 hq130 rfl
                    refine rn_aload_n (i := 0) dX10_seal_154 rfl rfl ?_
                    obtain ⟨o134, hx134, m134⟩ := fs_r hf3 28 rfl
                    refine rn_get q1 kg_SGModel_73 ((hn132 _ (ts_ne hq130 hq1 rfl)).trans ((hn127 _ (ts_ne hq125 hq1 rfl)).trans ((hn122 _ (ts_ne hq120 hq1 rfl)).trans ((hn117 _ (ts_ne hq115 hq1 rfl)).trans ((hn112 _ (ts_ne hq110 hq1 rfl)).trans hl3))))) hx134 dX10_seal_155 ?_
                    refine rn_iload dX10_seal_158 rfl ?_
                    refine rn_iload dX10_seal_160 rfl ?_
                    obtain ⟨q135, f135, hq135, hl135, hf135⟩ := ts_ia hS132.1 m134 hk_59
                    refine rs_zast q135 hS132 hq135 hl135 hf135 hk_59 rfl rfl r102 (by decide) (by decide) (by decide) (by decide) dX10_seal_162 (fun w136 f137 hS137 hl137 hf137 hu137 hn137 => ?_)
                    have fk138 : fK1 4 S ws w136 := fk_ne fk133 hn137 hq135 rfl
                    refine rn_aload_n (i := 0) dX10_seal_163 rfl rfl ?_
                    obtain ⟨o139, hx139, m139⟩ := fs_r hf3 29 rfl
                    refine rn_get q1 kg_SGModel_77 ((hn137 _ (ts_ne hq135 hq1 rfl)).trans ((hn132 _ (ts_ne hq130 hq1 rfl)).trans ((hn127 _ (ts_ne hq125 hq1 rfl)).trans ((hn122 _ (ts_ne hq120 hq1 rfl)).trans ((hn117 _ (ts_ne hq115 hq1 rfl)).trans ((hn112 _ (ts_ne hq110 hq1 rfl)).trans hl3)))))) hx139 dX10_seal_164 ?_
                    refine rn_iload dX10_seal_167 rfl ?_
                    refine rn_iload dX10_seal_169 rfl ?_
                    obtain ⟨q140, f140, hq140, hl140, hf140⟩ := ts_ia hS137.1 m139 hk_60
                    refine rs_iast q140 hS137 hq140 hl140 hf140 hk_60 rfl rfl r102 (by decide) (by decide) (rg_w r86 (by decide) (by decide)) dX10_seal_171 (fun w141 f142 hS142 hl142 hf142 hu142 hn142 => ?_)
                    have fk143 : fK1 4 S ws w141 := fk_ne fk138 hn142 hq140 rfl
                    refine rn_aload_n (i := 0) dX10_seal_172 rfl rfl ?_
                    obtain ⟨o144, hx144, m144⟩ := fs_r hf3 30 rfl
                    refine rn_get q1 kg_SGModel_80 ((hn142 _ (ts_ne hq140 hq1 rfl)).trans ((hn137 _ (ts_ne hq135 hq1 rfl)).trans ((hn132 _ (ts_ne hq130 hq1 rfl)).trans ((hn127 _ (ts_ne hq125 hq1 rfl)).trans ((hn122 _ (ts_ne hq120 hq1 rfl)).trans ((hn117 _ (ts_ne hq115 hq1 rfl)).trans ((hn112 _ (ts_ne hq110 hq1 rfl)).trans hl3))))))) hx144 dX10_seal_173 ?_
                    refine rn_iload dX10_seal_176 rfl ?_
                    refine rn_iconst (v := (0 : Int32)) dX10_seal_178 (by decide) ?_
                    obtain ⟨q145, f145, hq145, hl145, hf145⟩ := ts_ia hS142.1 m144 hk_61
                    refine rs_zast q145 hS142 hq145 hl145 hf145 hk_61 rfl rfl r102 (by decide) (by decide) (by decide) (by decide) dX10_seal_179 (fun w146 f147 hS147 hl147 hf147 hu147 hn147 => ?_)
                    have fk148 : fK1 4 S ws w146 := fk_ne fk143 hn147 hq145 rfl
                    have hl149 := ((hn147 _ (ts_ne hq145 hq1 rfl)).trans ((hn142 _ (ts_ne hq140 hq1 rfl)).trans ((hn137 _ (ts_ne hq135 hq1 rfl)).trans ((hn132 _ (ts_ne hq130 hq1 rfl)).trans ((hn127 _ (ts_ne hq125 hq1 rfl)).trans ((hn122 _ (ts_ne hq120 hq1 rfl)).trans ((hn117 _ (ts_ne hq115 hq1 rfl)).trans ((hn112 _ (ts_ne hq110 hq1 rfl)).trans hl3))))))))
                    refine rn_aload_n (i := 0) dX10_seal_180 rfl rfl ?_
                    obtain ⟨o150, hx150, m150⟩ := fs_r hf3 31 rfl
                    refine rn_get q1 kg_SGModel_83 hl149 hx150 dX10_seal_181 ?_
                    refine rn_iload dX10_seal_184 rfl ?_
                    refine rn_lconst (v := (0 : Int64)) dX10_seal_186 (by decide) ?_
                    obtain ⟨q151, f151, hq151, hl151⟩ := ts_la hS147.1 m150 hk_62
                    refine rs_last q151 hS147 hq151 hl151 hk_62 rfl rfl r102 (by decide) (by decide) dX10_seal_187 (fun w152 f153 hS153 hl153 hu153 hn153 => ?_)
                    have fk154 : fK1 4 S ws w152 := fk_ne fk148 hn153 hq151 rfl
                    have hl155 := ((hn153 _ (ts_ne hq151 hq110 rfl)).trans ((hn147 _ (ts_ne hq145 hq110 rfl)).trans ((hn142 _ (ts_ne hq140 hq110 rfl)).trans ((hn137 _ (ts_ne hq135 hq110 rfl)).trans ((hn132 _ (ts_ne hq130 hq110 rfl)).trans ((hn127 _ (ts_ne hq125 hq110 rfl)).trans ((hn122 _ (ts_ne hq120 hq110 rfl)).trans ((hn117 _ (ts_ne hq115 hq110 rfl)).trans hl112))))))))
                    refine rn_aload_n (i := 0) dX10_seal_188 rfl rfl ?_
                    obtain ⟨o156, hx156, m156⟩ := fs_r hf3 32 rfl
                    refine rn_get q1 kg_SGModel_86 ((hn153 _ (ts_ne hq151 hq1 rfl)).trans hl149) hx156 dX10_seal_189 ?_
                    refine rn_iload dX10_seal_192 rfl ?_
                    refine rn_lconst (v := (0 : Int64)) dX10_seal_194 (by decide) ?_
                    obtain ⟨q157, f157, hq157, hl157⟩ := ts_la hS153.1 m156 hk_63
                    refine rs_last q157 hS153 hq157 hl157 hk_63 rfl rfl r102 (by decide) (by decide) dX10_seal_195 (fun w158 f159 hS159 hl159 hu159 hn159 => ?_)
                    have fk160 : fK1 4 S ws w158 := fk_ne fk154 hn159 hq157 rfl
                    have hl161 := ((hn159 _ (ts_ne hq157 hq115 rfl)).trans ((hn153 _ (ts_ne hq151 hq115 rfl)).trans ((hn147 _ (ts_ne hq145 hq115 rfl)).trans ((hn142 _ (ts_ne hq140 hq115 rfl)).trans ((hn137 _ (ts_ne hq135 hq115 rfl)).trans ((hn132 _ (ts_ne hq130 hq115 rfl)).trans ((hn127 _ (ts_ne hq125 hq115 rfl)).trans ((hn122 _ (ts_ne hq120 hq115 rfl)).trans hl117))))))))
                    refine rn_aload_n (i := 0) dX10_seal_196 rfl rfl ?_
                    refine rn_dup dX10_seal_197 rfl ?_
                    refine rn_get q1 kg_SGModel_200 ((hn159 _ (ts_ne hq157 hq1 rfl)).trans ((hn153 _ (ts_ne hq151 hq1 rfl)).trans hl149)) hx92 dX10_seal_198 ?_
                    refine rn_iconst (v := (1 : Int32)) dX10_seal_201 (by decide) ?_
                    refine rs_addC (1) (16) r102 rk_1 dX10_seal_202 (by decide) (fun v162 ev162 rv162 => ?_)
                    refine rs_put q1 (kp_SGModel_200 _) hS159 hq1 ((hn159 _ (ts_ne hq157 hq1 rfl)).trans ((hn153 _ (ts_ne hq151 hq1 rfl)).trans hl149)) hf3 hk_30 rfl rfl (tv_i (rg_w rv162 (by decide) (by decide))) rfl rfl dX10_seal_203 (fun w163 fs164 hS164 hl164 hf164 hx164 ho164 hn164 => ?_)
                    have fk165 : fK1 4 S ws w163 := fk_put fk160 hS159.1 hq1 ((hn159 _ (ts_ne hq157 hq1 rfl)).trans ((hn153 _ (ts_ne hq151 hq1 rfl)).trans hl149)) hl164 ho164 (by decide)
                    have hl166 := ((hn164 _ (ts_ne hq1 hq120 rfl)).trans ((hn159 _ (ts_ne hq157 hq120 rfl)).trans ((hn153 _ (ts_ne hq151 hq120 rfl)).trans ((hn147 _ (ts_ne hq145 hq120 rfl)).trans ((hn142 _ (ts_ne hq140 hq120 rfl)).trans ((hn137 _ (ts_ne hq135 hq120 rfl)).trans ((hn132 _ (ts_ne hq130 hq120 rfl)).trans ((hn127 _ (ts_ne hq125 hq120 rfl)).trans hl122))))))))
                    refine rn_iload dX10_seal_206 rfl ?_
                    exact rn_iret dX10_seal_208 rfl rfl (rq_in ⟨hS164, x92, rfl, r102, fk165⟩)
                  · have ch103 := cv_eq h103
                    have r167 : Rg (1) (1) x1_ := rf_eqx ch103 r53 rk_1 (by decide) (by decide)
                    refine rn_aload_n (i := 0) dX10_seal_84 rfl rfl ?_
                    refine rn_iload_n (i := 3) dX10_seal_85 rfl rfl ?_
                    refine rn_callV (a := 0) (b := 0) [.int x3_] kl_SGModel_204 dX10_seal_86 q1 hl3 rfl (t_X10_sealNamed G S w2 hS3.1 o0_ m0_ x3_) rfl rfl (Nat.le_of_ble_eq_true rfl) (Nat.le_of_ble_eq_true rfl) (Nat.le_of_ble_eq_true rfl) (Nat.le_of_ble_eq_true rfl) (Nat.le_of_ble_eq_true rfl) (Nat.le_of_ble_eq_true rfl) (fun _ _ h => False.elim h) (fun v9 w168 h169 => ?_)
                    obtain ⟨rfl, v170, rfl, rv170⟩ := h169
                    refine rn_stk [.int v170, .ref o0_] rfl ?_
                    refine rn_if_lt (tgt := 96) dX10_seal_89 (by decide) (fun h172 => ?_) (fun h172 => ?_)
                    · have ch172 := cv_lt h172
                      have r173 : Rg (-1) (-1) v170 := rf_ltx ch172 rv170 rk_0 (by decide)
                      refine rn_iconst (v := (0 : Int32)) dX10_seal_96 (by decide) ?_
                      refine rn_iconst (v := (3 : Int32)) dX10_seal_97 (by decide) ?_
                      refine rn_inV (d' := 0) (z' := 0) [.int (0 : Int32), .int (3 : Int32)] kl_SGModel_171 dX10_seal_98 q1 hl3 rfl rfl rfl (Nat.le_of_ble_eq_true rfl) (Nat.le_of_ble_eq_true rfl) (Nat.le_of_ble_eq_true rfl) (Nat.le_of_ble_eq_true rfl) ?_
                      refine rn_lv [(0, .ref o0_), (1, .int (0 : Int32)), (2, .int (3 : Int32))] rfl ?_
                      refine rn_aload_n (i := 0) dX10_refuses_0 rfl rfl ?_
                      refine rn_get q1 kg_SGModel_137 hl3 hx3 dX10_refuses_1 ?_
                      refine rn_if_ne (tgt := 16) dX10_refuses_4 (by decide) (fun h174 => (cx_ne (cv_ne h174) rk_0 rk_0 (by decide)).elim) (fun h174 => ?_)
                      refine rn_iload_n (i := 1) dX10_refuses_7 rfl rfl ?_
                      refine rn_if_eq (tgt := 16) dX10_refuses_8 (by decide) (fun h175 => ?_) (fun h175 => (cx_ne (cv_ne h175) rk_0 rk_0 (by decide)).elim)
                      refine rn_aload_n (i := 0) dX10_refuses_16 rfl rfl ?_
                      refine rn_get q1 kg_SGModel_137 hl3 hx3 dX10_refuses_17 ?_
                      refine rn_if_le (tgt := 27) dX10_refuses_20 (by decide) (fun h176 => ?_) (fun h176 => (cx_lt (cv_nle h176) rk_0 rk_0 (by decide)).elim)
                      refine rn_iconst (v := (0 : Int32)) dX10_refuses_27 (by decide) ?_
                      refine rn_iret dX10_refuses_28 rfl rfl (rq_in ?_)
                      refine rn_stk [.int (0 : Int32)] rfl ?_
                      refine rn_if_eq (tgt := 106) dX10_seal_101 (by decide) (fun h177 => ?_) (fun h177 => (cx_ne (cv_ne h177) rk_0 rk_0 (by decide)).elim)
                      refine rn_aload_n (i := 0) dX10_seal_106 rfl rfl ?_
                      refine rn_get q1 kg_SGModel_200 hl3 hx92 dX10_seal_107 ?_
                      refine rn_istore dX10_seal_110 (by decide) [(0, .ref o0_), (1, .int x1_), (2, .int x2_), (3, .int x3_), (4, .long y4_), (6, .long y5_), (8, .int x6_), (9, .int x7_), (10, .int x92)] rfl ?_
                      refine rn_aload_n (i := 0) dX10_seal_112 rfl rfl ?_
                      obtain ⟨o178, hx178, m178⟩ := fs_r hf3 23 rfl
                      refine rn_get q1 kg_SGModel_57 hl3 hx178 dX10_seal_113 ?_
                      refine rn_iload dX10_seal_116 rfl ?_
                      refine rn_iload_n (i := 1) dX10_seal_118 rfl rfl ?_
                      obtain ⟨q179, f179, hq179, hl179, hf179⟩ := ts_ia hS3.1 m178 hk_54
                      refine rs_iast q179 hS3 hq179 hl179 hf179 hk_54 rfl rfl r102 (by decide) (by decide) (rg_w r167 (by decide) (by decide)) dX10_seal_119 (fun w180 f181 hS181 hl181 hf181 hu181 hn181 => ?_)
                      have fk182 : fK1 4 S ws w180 := fk_ne fk4 hn181 hq179 rfl
                      refine rn_aload_n (i := 0) dX10_seal_120 rfl rfl ?_
                      obtain ⟨o183, hx183, m183⟩ := fs_r hf3 24 rfl
                      refine rn_get q1 kg_SGModel_60 ((hn181 _ (ts_ne hq179 hq1 rfl)).trans hl3) hx183 dX10_seal_121 ?_
                      refine rn_iload dX10_seal_124 rfl ?_
                      refine rn_iload_n (i := 2) dX10_seal_126 rfl rfl ?_
                      obtain ⟨q184, f184, hq184, hl184, hf184⟩ := ts_ia hS181.1 m183 hk_55
                      refine rs_iast q184 hS181 hq184 hl184 hf184 hk_55 rfl rfl r102 (by decide) (by decide) r26 dX10_seal_127 (fun w185 f186 hS186 hl186 hf186 hu186 hn186 => ?_)
                      have fk187 : fK1 4 S ws w185 := fk_ne fk182 hn186 hq184 rfl
                      refine rn_aload_n (i := 0) dX10_seal_128 rfl rfl ?_
                      obtain ⟨o188, hx188, m188⟩ := fs_r hf3 25 rfl
                      refine rn_get q1 kg_SGModel_63 ((hn186 _ (ts_ne hq184 hq1 rfl)).trans ((hn181 _ (ts_ne hq179 hq1 rfl)).trans hl3)) hx188 dX10_seal_129 ?_
                      refine rn_iload dX10_seal_132 rfl ?_
                      refine rn_iload_n (i := 3) dX10_seal_134 rfl rfl ?_
                      obtain ⟨q189, f189, hq189, hl189, hf189⟩ := ts_ia hS186.1 m188 hk_56
                      refine rs_iast q189 hS186 hq189 hl189 hf189 hk_56 rfl rfl r102 (by decide) (by decide) (rg_w r64 (by decide) (by decide)) dX10_seal_135 (fun w190 f191 hS191 hl191 hf191 hu191 hn191 => ?_)
                      have fk192 : fK1 4 S ws w190 := fk_ne fk187 hn191 hq189 rfl
                      refine rn_aload_n (i := 0) dX10_seal_136 rfl rfl ?_
                      obtain ⟨o193, hx193, m193⟩ := fs_r hf3 26 rfl
                      refine rn_get q1 kg_SGModel_66 ((hn191 _ (ts_ne hq189 hq1 rfl)).trans ((hn186 _ (ts_ne hq184 hq1 rfl)).trans ((hn181 _ (ts_ne hq179 hq1 rfl)).trans hl3))) hx193 dX10_seal_137 ?_
                      refine rn_iload dX10_seal_140 rfl ?_
                      refine rn_lload dX10_seal_142 rfl ?_
                      obtain ⟨q194, f194, hq194, hl194⟩ := ts_la hS191.1 m193 hk_57
                      refine rs_last q194 hS191 hq194 hl194 hk_57 rfl rfl r102 (by decide) (by decide) dX10_seal_144 (fun w195 f196 hS196 hl196 hu196 hn196 => ?_)
                      have fk197 : fK1 4 S ws w195 := fk_ne fk192 hn196 hq194 rfl
                      refine rn_aload_n (i := 0) dX10_seal_145 rfl rfl ?_
                      obtain ⟨o198, hx198, m198⟩ := fs_r hf3 27 rfl
                      refine rn_get q1 kg_SGModel_70 ((hn196 _ (ts_ne hq194 hq1 rfl)).trans ((hn191 _ (ts_ne hq189 hq1 rfl)).trans ((hn186 _ (ts_ne hq184 hq1 rfl)).trans ((hn181 _ (ts_ne hq179 hq1 rfl)).trans hl3)))) hx198 dX10_seal_146 ?_
                      refine rn_iload dX10_seal_149 rfl ?_
                      refine rn_lload dX10_seal_151 rfl ?_
                      obtain ⟨q199, f199, hq199, hl199⟩ := ts_la hS196.1 m198 hk_58
                      refine rs_last q199 hS196 hq199 hl199 hk_58 rfl rfl r102 (by decide) (by decide) dX10_seal_153 (fun w200 f201 hS201 hl201 hu201 hn201 => ?_)
                      have fk202 : fK1 4 S ws w200 := fk_ne fk197 hn201 hq199 rfl
                      refine rn_aload_n (i := 0) dX10_seal_154 rfl rfl ?_
                      obtain ⟨o203, hx203, m203⟩ := fs_r hf3 28 rfl
                      refine rn_get q1 kg_SGModel_73 ((hn201 _ (ts_ne hq199 hq1 rfl)).trans ((hn196 _ (ts_ne hq194 hq1 rfl)).trans ((hn191 _ (ts_ne hq189 hq1 rfl)).trans ((hn186 _ (ts_ne hq184 hq1 rfl)).trans ((hn181 _ (ts_ne hq179 hq1 rfl)).trans hl3))))) hx203 dX10_seal_155 ?_
                      refine rn_iload dX10_seal_158 rfl ?_
                      refine rn_iload dX10_seal_160 rfl ?_
                      obtain ⟨q204, f204, hq204, hl204, hf204⟩ := ts_ia hS201.1 m203 hk_59
                      refine rs_zast q204 hS201 hq204 hl204 hf204 hk_59 rfl rfl r102 (by decide) (by decide) (by decide) (by decide) dX10_seal_162 (fun w205 f206 hS206 hl206 hf206 hu206 hn206 => ?_)
                      have fk207 : fK1 4 S ws w205 := fk_ne fk202 hn206 hq204 rfl
                      refine rn_aload_n (i := 0) dX10_seal_163 rfl rfl ?_
                      obtain ⟨o208, hx208, m208⟩ := fs_r hf3 29 rfl
                      refine rn_get q1 kg_SGModel_77 ((hn206 _ (ts_ne hq204 hq1 rfl)).trans ((hn201 _ (ts_ne hq199 hq1 rfl)).trans ((hn196 _ (ts_ne hq194 hq1 rfl)).trans ((hn191 _ (ts_ne hq189 hq1 rfl)).trans ((hn186 _ (ts_ne hq184 hq1 rfl)).trans ((hn181 _ (ts_ne hq179 hq1 rfl)).trans hl3)))))) hx208 dX10_seal_164 ?_
                      refine rn_iload dX10_seal_167 rfl ?_
                      refine rn_iload dX10_seal_169 rfl ?_
                      obtain ⟨q209, f209, hq209, hl209, hf209⟩ := ts_ia hS206.1 m208 hk_60
                      refine rs_iast q209 hS206 hq209 hl209 hf209 hk_60 rfl rfl r102 (by decide) (by decide) (rg_w r86 (by decide) (by decide)) dX10_seal_171 (fun w210 f211 hS211 hl211 hf211 hu211 hn211 => ?_)
                      have fk212 : fK1 4 S ws w210 := fk_ne fk207 hn211 hq209 rfl
                      refine rn_aload_n (i := 0) dX10_seal_172 rfl rfl ?_
                      obtain ⟨o213, hx213, m213⟩ := fs_r hf3 30 rfl
                      refine rn_get q1 kg_SGModel_80 ((hn211 _ (ts_ne hq209 hq1 rfl)).trans ((hn206 _ (ts_ne hq204 hq1 rfl)).trans ((hn201 _ (ts_ne hq199 hq1 rfl)).trans ((hn196 _ (ts_ne hq194 hq1 rfl)).trans ((hn191 _ (ts_ne hq189 hq1 rfl)).trans ((hn186 _ (ts_ne hq184 hq1 rfl)).trans ((hn181 _ (ts_ne hq179 hq1 rfl)).trans hl3))))))) hx213 dX10_seal_173 ?_
                      refine rn_iload dX10_seal_176 rfl ?_
                      refine rn_iconst (v := (0 : Int32)) dX10_seal_178 (by decide) ?_
                      obtain ⟨q214, f214, hq214, hl214, hf214⟩ := ts_ia hS211.1 m213 hk_61
                      refine rs_zast q214 hS211 hq214 hl214 hf214 hk_61 rfl rfl r102 (by decide) (by decide) (by decide) (by decide) dX10_seal_179 (fun w215 f216 hS216 hl216 hf216 hu216 hn216 => ?_)
                      have fk217 : fK1 4 S ws w215 := fk_ne fk212 hn216 hq214 rfl
                      have hl218 := ((hn216 _ (ts_ne hq214 hq1 rfl)).trans ((hn211 _ (ts_ne hq209 hq1 rfl)).trans ((hn206 _ (ts_ne hq204 hq1 rfl)).trans ((hn201 _ (ts_ne hq199 hq1 rfl)).trans ((hn196 _ (ts_ne hq194 hq1 rfl)).trans ((hn191 _ (ts_ne hq189 hq1 rfl)).trans ((hn186 _ (ts_ne hq184 hq1 rfl)).trans ((hn181 _ (ts_ne hq179 hq1 rfl)).trans hl3))))))))
                      refine rn_aload_n (i := 0) dX10_seal_180 rfl rfl ?_
                      obtain ⟨o219, hx219, m219⟩ := fs_r hf3 31 rfl
                      refine rn_get q1 kg_SGModel_83 hl218 hx219 dX10_seal_181 ?_
                      refine rn_iload dX10_seal_184 rfl ?_
                      refine rn_lconst (v := (0 : Int64)) dX10_seal_186 (by decide) ?_
                      obtain ⟨q220, f220, hq220, hl220⟩ := ts_la hS216.1 m219 hk_62
                      refine rs_last q220 hS216 hq220 hl220 hk_62 rfl rfl r102 (by decide) (by decide) dX10_seal_187 (fun w221 f222 hS222 hl222 hu222 hn222 => ?_)
                      have fk223 : fK1 4 S ws w221 := fk_ne fk217 hn222 hq220 rfl
                      have hl224 := ((hn222 _ (ts_ne hq220 hq179 rfl)).trans ((hn216 _ (ts_ne hq214 hq179 rfl)).trans ((hn211 _ (ts_ne hq209 hq179 rfl)).trans ((hn206 _ (ts_ne hq204 hq179 rfl)).trans ((hn201 _ (ts_ne hq199 hq179 rfl)).trans ((hn196 _ (ts_ne hq194 hq179 rfl)).trans ((hn191 _ (ts_ne hq189 hq179 rfl)).trans ((hn186 _ (ts_ne hq184 hq179 rfl)).trans hl181))))))))
                      refine rn_aload_n (i := 0) dX10_seal_188 rfl rfl ?_
                      obtain ⟨o225, hx225, m225⟩ := fs_r hf3 32 rfl
                      refine rn_get q1 kg_SGModel_86 ((hn222 _ (ts_ne hq220 hq1 rfl)).trans hl218) hx225 dX10_seal_189 ?_
                      refine rn_iload dX10_seal_192 rfl ?_
                      refine rn_lconst (v := (0 : Int64)) dX10_seal_194 (by decide) ?_
                      obtain ⟨q226, f226, hq226, hl226⟩ := ts_la hS222.1 m225 hk_63
                      refine rs_last q226 hS222 hq226 hl226 hk_63 rfl rfl r102 (by decide) (by decide) dX10_seal_195 (fun w227 f228 hS228 hl228 hu228 hn228 => ?_)
                      have fk229 : fK1 4 S ws w227 := fk_ne fk223 hn228 hq226 rfl
                      have hl230 := ((hn228 _ (ts_ne hq226 hq184 rfl)).trans ((hn222 _ (ts_ne hq220 hq184 rfl)).trans ((hn216 _ (ts_ne hq214 hq184 rfl)).trans ((hn211 _ (ts_ne hq209 hq184 rfl)).trans ((hn206 _ (ts_ne hq204 hq184 rfl)).trans ((hn201 _ (ts_ne hq199 hq184 rfl)).trans ((hn196 _ (ts_ne hq194 hq184 rfl)).trans ((hn191 _ (ts_ne hq189 hq184 rfl)).trans hl186))))))))
                      refine rn_aload_n (i := 0) dX10_seal_196 rfl rfl ?_
                      refine rn_dup dX10_seal_197 rfl ?_
                      refine rn_get q1 kg_SGModel_200 ((hn228 _ (ts_ne hq226 hq1 rfl)).trans ((hn222 _ (ts_ne hq220 hq1 rfl)).trans hl218)) hx92 dX10_seal_198 ?_
                      refine rn_iconst (v := (1 : Int32)) dX10_seal_201 (by decide) ?_
                      refine rs_addC (1) (16) r102 rk_1 dX10_seal_202 (by decide) (fun v231 ev231 rv231 => ?_)
                      refine rs_put q1 (kp_SGModel_200 _) hS228 hq1 ((hn228 _ (ts_ne hq226 hq1 rfl)).trans ((hn222 _ (ts_ne hq220 hq1 rfl)).trans hl218)) hf3 hk_30 rfl rfl (tv_i (rg_w rv231 (by decide) (by decide))) rfl rfl dX10_seal_203 (fun w232 fs233 hS233 hl233 hf233 hx233 ho233 hn233 => ?_)
                      have fk234 : fK1 4 S ws w232 := fk_put fk229 hS228.1 hq1 ((hn228 _ (ts_ne hq226 hq1 rfl)).trans ((hn222 _ (ts_ne hq220 hq1 rfl)).trans hl218)) hl233 ho233 (by decide)
                      have hl235 := ((hn233 _ (ts_ne hq1 hq189 rfl)).trans ((hn228 _ (ts_ne hq226 hq189 rfl)).trans ((hn222 _ (ts_ne hq220 hq189 rfl)).trans ((hn216 _ (ts_ne hq214 hq189 rfl)).trans ((hn211 _ (ts_ne hq209 hq189 rfl)).trans ((hn206 _ (ts_ne hq204 hq189 rfl)).trans ((hn201 _ (ts_ne hq199 hq189 rfl)).trans ((hn196 _ (ts_ne hq194 hq189 rfl)).trans hl191))))))))
                      refine rn_iload dX10_seal_206 rfl ?_
                      exact rn_iret dX10_seal_208 rfl rfl (rq_in ⟨hS233, x92, rfl, r102, fk234⟩)
                    · have ch172 := cv_nlt h172
                      have r236 : Rg (0) (15) v170 := rf_ley ch172 rk_0 rv170 (by decide)
                      refine rn_iconst (v := (1 : Int32)) dX10_seal_92 (by decide) ?_
                      refine rn_goto (tgt := 97) dX10_seal_93 (by decide) ?_
                      refine rn_iconst (v := (3 : Int32)) dX10_seal_97 (by decide) ?_
                      refine rn_inV (d' := 0) (z' := 0) [.int (1 : Int32), .int (3 : Int32)] kl_SGModel_171 dX10_seal_98 q1 hl3 rfl rfl rfl (Nat.le_of_ble_eq_true rfl) (Nat.le_of_ble_eq_true rfl) (Nat.le_of_ble_eq_true rfl) (Nat.le_of_ble_eq_true rfl) ?_
                      refine rn_lv [(0, .ref o0_), (1, .int (1 : Int32)), (2, .int (3 : Int32))] rfl ?_
                      refine rn_aload_n (i := 0) dX10_refuses_0 rfl rfl ?_
                      refine rn_get q1 kg_SGModel_137 hl3 hx3 dX10_refuses_1 ?_
                      refine rn_if_ne (tgt := 16) dX10_refuses_4 (by decide) (fun h237 => (cx_ne (cv_ne h237) rk_0 rk_0 (by decide)).elim) (fun h237 => ?_)
                      refine rn_iload_n (i := 1) dX10_refuses_7 rfl rfl ?_
                      refine rn_if_eq (tgt := 16) dX10_refuses_8 (by decide) (fun h238 => (cx_eq (cv_eq h238) rk_1 rk_0 (by decide)).elim) (fun h238 => ?_)
                      refine rn_aload_n (i := 0) dX10_refuses_11 rfl rfl ?_
                      refine rn_iload_n (i := 2) dX10_refuses_12 rfl rfl ?_
                      refine rs_put q1 (kp_SGModel_137 _) hS3 hq1 hl3 hf3 hk_30 rfl rfl (tv_i (rg_w rk_3 (by decide) (by decide))) rfl rfl dX10_refuses_13 (fun w239 fs240 hS240 hl240 hf240 hx240 ho240 hn240 => ?_)
                      have fk241 : fK1 4 S ws w239 := fk_put fk4 hS3.1 hq1 hl3 hl240 ho240 (by decide)
                      refine rn_aload_n (i := 0) dX10_refuses_16 rfl rfl ?_
                      refine rn_get q1 kg_SGModel_137 hl240 hx240 dX10_refuses_17 ?_
                      refine rn_if_le (tgt := 27) dX10_refuses_20 (by decide) (fun h242 => (cx_le (cv_le h242) rk_3 rk_0 (by decide)).elim) (fun h242 => ?_)
                      refine rn_iconst (v := (1 : Int32)) dX10_refuses_23 (by decide) ?_
                      refine rn_goto (tgt := 28) dX10_refuses_24 (by decide) ?_
                      refine rn_iret dX10_refuses_28 rfl rfl (rq_in ?_)
                      refine rn_stk [.int (1 : Int32)] rfl ?_
                      refine rn_if_eq (tgt := 106) dX10_seal_101 (by decide) (fun h243 => (cx_eq (cv_eq h243) rk_1 rk_0 (by decide)).elim) (fun h243 => ?_)
                      refine rn_iconst (v := (0 : Int32)) dX10_seal_104 (by decide) ?_
                      exact rn_iret dX10_seal_105 rfl rfl (rq_in ⟨hS240, (0 : Int32), rfl, (rg_w rk_0 (by decide) (by decide)), fk241⟩)
