abbrev q_t_X10_sealNamed (G : rn_G) (S : ts_S) (ws : va_W) : rn_R → va_W → Prop := rQ (fun v w => ws = w ∧ (∃ x : Int32, v = some (.int x) ∧ Rg (-1) (15) x)) (fun E w => False)
set_option maxRecDepth 20000 in
set_option maxHeartbeats 4000000 in
theorem t_X10_sealNamed (G : rn_G) (S : ts_S) (ws : va_W) (hW : ts_W G S ws) (o0_ : Nat) (m0_ : (o0_, 30) ∈ S) (x1_ : Int32) : Rn G mX10_sealNamed 0 0 0 0 0 (lv_args 0 [.ref o0_, .int x1_]) [] ws (q_t_X10_sealNamed G S ws ) := by
  refine rn_lv [(0, .ref o0_), (1, .int x1_)] rfl ?_
  refine rn_iconst (v := (0 : Int32)) dX10_sealNamed_0 (by decide) ?_
  refine rn_istore_n dX10_sealNamed_1 rfl (by decide) [(0, .ref o0_), (1, .int x1_), (2, .int (0 : Int32))] rfl ?_
  have LP2 : ∀ (n : Nat) (x1 : Int32), Rg (0) (16) x1 → (16 - x1.toInt).toNat = n → Rn G mX10_sealNamed 0 0 0 0 2 [(0, .ref o0_), (1, .int x1_), (2, .int x1)] [] ws (q_t_X10_sealNamed G S ws ) := by
    intro n
    induction n using Nat.strongRecOn with
    | _ n ih =>
      intro x1 r4 hm5
      refine rn_iload_n (i := 2) dX10_sealNamed_2 rfl rfl ?_
      refine rn_aload_n (i := 0) dX10_sealNamed_3 rfl rfl ?_
      obtain ⟨q6, fs6, hq6, hl6, hf6⟩ := ts_obj hW m0_ hk_30
      obtain ⟨x7, hx7, rx7⟩ := fs_i hf6 22 rfl
      refine rn_get q6 kg_SGModel_200 hl6 hx7 dX10_sealNamed_4 ?_
      refine rn_icmp_ge (tgt := 38) dX10_sealNamed_7 (by decide) (fun h8 => ?_) (fun h8 => ?_)
      · have ch8 := cv_le h8
        refine rn_iconst (v := (-1 : Int32)) dX10_sealNamed_38 (by decide) ?_
        exact rn_iret dX10_sealNamed_39 rfl rfl (rq_in ⟨rfl, (-1 : Int32), rfl, (rg_w rk_m1 (by decide) (by decide))⟩)
      · have ch8 := cv_nle h8
        have r9 : Rg (0) (15) x1 := rf_ltx ch8 r4 rx7 (by decide)
        have r10 : Rg (1) (16) x7 := rf_lty ch8 r4 rx7 (by decide)
        refine rn_aload_n (i := 0) dX10_sealNamed_10 rfl rfl ?_
        obtain ⟨o11, hx11, m11⟩ := fs_r hf6 23 rfl
        refine rn_get q6 kg_SGModel_57 hl6 hx11 dX10_sealNamed_11 ?_
        refine rn_iload_n (i := 2) dX10_sealNamed_14 rfl rfl ?_
        obtain ⟨q12, f12, hq12, hl12, hf12⟩ := ts_ia hW m11 hk_54
        refine rs_iald q12 hl12 hf12 rfl r9 (by decide) (by decide) dX10_sealNamed_15 (fun v13 ev13 rv13 => ?_)
        refine rn_iconst (v := (1 : Int32)) dX10_sealNamed_16 (by decide) ?_
        refine rn_icmp_ne (tgt := 32) dX10_sealNamed_17 (by decide) (fun h14 => ?_) (fun h14 => ?_)
        · have ch14 := cv_ne h14
          refine rs_iinc (1) (16) dX10_sealNamed_32 rfl (by decide) r9 rk_1 (by decide) (fun v15 => [(0, .ref o0_), (1, .int x1_), (2, .int v15)]) (fun _ => rfl) (fun v15 ev15 rv15 => ?_)
          refine rn_goto (tgt := 2) dX10_sealNamed_35 (by decide) ?_
          refine rn_lv [(0, .ref o0_), (1, .int x1_), (2, .int v15)] rfl ?_
          exact ih _ (lp_inc hm5 ev15 rv15 (by decide)) v15 (rg_w rv15 (by decide) (by decide)) rfl
        · have ch14 := cv_eq h14
          have r16 : Rg (1) (1) v13 := rf_eqx ch14 rv13 rk_1 (by decide) (by decide)
          refine rn_aload_n (i := 0) dX10_sealNamed_20 rfl rfl ?_
          obtain ⟨o17, hx17, m17⟩ := fs_r hf6 25 rfl
          refine rn_get q6 kg_SGModel_63 hl6 hx17 dX10_sealNamed_21 ?_
          refine rn_iload_n (i := 2) dX10_sealNamed_24 rfl rfl ?_
          obtain ⟨q18, f18, hq18, hl18, hf18⟩ := ts_ia hW m17 hk_56
          refine rs_iald q18 hl18 hf18 rfl r9 (by decide) (by decide) dX10_sealNamed_25 (fun v19 ev19 rv19 => ?_)
          refine rn_iload_n (i := 1) dX10_sealNamed_26 rfl rfl ?_
          refine rn_icmp_ne (tgt := 32) dX10_sealNamed_27 (by decide) (fun h20 => ?_) (fun h20 => ?_)
          · have ch20 := cv_ne h20
            refine rs_iinc (1) (16) dX10_sealNamed_32 rfl (by decide) r9 rk_1 (by decide) (fun v21 => [(0, .ref o0_), (1, .int x1_), (2, .int v21)]) (fun _ => rfl) (fun v21 ev21 rv21 => ?_)
            refine rn_goto (tgt := 2) dX10_sealNamed_35 (by decide) ?_
            refine rn_lv [(0, .ref o0_), (1, .int x1_), (2, .int v21)] rfl ?_
            exact ih _ (lp_inc hm5 ev21 rv21 (by decide)) v21 (rg_w rv21 (by decide) (by decide)) rfl
          · have ch20 := cv_eq h20
            refine rn_iload_n (i := 2) dX10_sealNamed_30 rfl rfl ?_
            exact rn_iret dX10_sealNamed_31 rfl rfl (rq_in ⟨rfl, x1, rfl, (rg_w r9 (by decide) (by decide))⟩)
  exact LP2 _ (0 : Int32) (rg_w rk_0 (by decide) (by decide)) rfl
abbrev q_t_X10_seal (G : rn_G) (S : ts_S) (ws : va_W) : rn_R → va_W → Prop := rQ (fun v w => St G S [30, 54, 55, 56, 57, 58, 59, 60, 61, 62, 63] ws S w ∧ (∃ x : Int32, v = some (.int x) ∧ Rg (0) (15) x)) (fun E w => False)
set_option maxRecDepth 20000 in
set_option maxHeartbeats 4000000 in
theorem t_X10_seal (G : rn_G) (S : ts_S) (ws : va_W) (hW : ts_W G S ws) (o0_ : Nat) (m0_ : (o0_, 30) ∈ S) (x1_ : Int32) (x2_ : Int32) (x3_ : Int32) (y4_ : Int64) (y5_ : Int64) (x6_ : Int32) (r6_ : Rg (0) (1) x6_) (x7_ : Int32) : Rn G mX10_seal 1 22 0 0 0 (lv_args 0 [.ref o0_, .int x1_, .int x2_, .int x3_, .long y4_, .long y5_, .int x6_, .int x7_]) [] ws (q_t_X10_seal G S ws ) := by
  have hS0 : St G S [30, 54, 55, 56, 57, 58, 59, 60, 61, 62, 63] ws S ws := St.rf hW
  refine rn_lv [(0, .ref o0_), (1, .int x1_), (2, .int x2_), (3, .int x3_), (4, .long y4_), (6, .long y5_), (8, .int x6_), (9, .int x7_)] rfl ?_
  refine rn_aload_n (i := 0) dX10_seal_0 rfl rfl ?_
  refine rn_iconst (v := (0 : Int32)) dX10_seal_1 (by decide) ?_
  obtain ⟨q1, fs1, hq1, hl1, hf1⟩ := ts_obj hS0.1 m0_ hk_30
  refine rs_put q1 (kp_SGModel_137 _) hS0 hq1 hl1 hf1 hk_30 rfl rfl (tv_i (rg_w rk_0 (by decide) (by decide))) rfl rfl dX10_seal_2 (fun w2 fs3 hS3 hl3 hf3 hx3 ho3 hn3 => ?_)
  refine rn_aload_n (i := 0) dX10_seal_5 rfl rfl ?_
  refine rn_iload_n (i := 2) dX10_seal_6 rfl rfl ?_
  refine rn_iconst (v := (0 : Int32)) dX10_seal_7 (by decide) ?_
  refine rn_iconst (v := (3 : Int32)) dX10_seal_8 (by decide) ?_
  refine rn_inS (d' := 0) (z' := 0) [.int x2_, .int (0 : Int32), .int (3 : Int32)] kl_SGModel_179 dX10_seal_9 rfl rfl (Nat.le_of_ble_eq_true rfl) (Nat.le_of_ble_eq_true rfl) (Nat.le_of_ble_eq_true rfl) (Nat.le_of_ble_eq_true rfl) ?_
  refine rn_lv [(0, .int x2_), (1, .int (0 : Int32)), (2, .int (3 : Int32))] rfl ?_
  refine rn_iload_n (i := 0) dX10_in_0 rfl rfl ?_
  refine rn_iload_n (i := 1) dX10_in_1 rfl rfl ?_
  refine rn_icmp_lt (tgt := 14) dX10_in_2 (by decide) (fun h4 => ?_) (fun h4 => ?_)
  · have ch4 := cv_lt h4
    have r5 : Rg (-2147483648) (-1) x2_ := rf_ltx ch4 (rg_any x2_) rk_0 (by decide)
    refine rn_iconst (v := (0 : Int32)) dX10_in_14 (by decide) ?_
    refine rn_iret dX10_in_15 rfl rfl (rq_in ?_)
    refine rn_stk [.int (0 : Int32), .ref o0_] rfl ?_
    refine rn_if_ne (tgt := 19) dX10_seal_12 (by decide) (fun h6 => (cx_ne (cv_ne h6) rk_0 rk_0 (by decide)).elim) (fun h6 => ?_)
    refine rn_iconst (v := (1 : Int32)) dX10_seal_15 (by decide) ?_
    refine rn_goto (tgt := 20) dX10_seal_16 (by decide) ?_
    refine rn_iconst (v := (1 : Int32)) dX10_seal_20 (by decide) ?_
    refine rn_inV (d' := 0) (z' := 0) [.int (1 : Int32), .int (1 : Int32)] kl_SGModel_171 dX10_seal_21 q1 hl3 rfl rfl rfl (Nat.le_of_ble_eq_true rfl) (Nat.le_of_ble_eq_true rfl) (Nat.le_of_ble_eq_true rfl) (Nat.le_of_ble_eq_true rfl) ?_
    refine rn_lv [(0, .ref o0_), (1, .int (1 : Int32)), (2, .int (1 : Int32))] rfl ?_
    refine rn_aload_n (i := 0) dX10_refuses_0 rfl rfl ?_
    refine rn_get q1 kg_SGModel_137 hl3 hx3 dX10_refuses_1 ?_
    refine rn_if_ne (tgt := 16) dX10_refuses_4 (by decide) (fun h7 => (cx_ne (cv_ne h7) rk_0 rk_0 (by decide)).elim) (fun h7 => ?_)
    refine rn_iload_n (i := 1) dX10_refuses_7 rfl rfl ?_
    refine rn_if_eq (tgt := 16) dX10_refuses_8 (by decide) (fun h8 => (cx_eq (cv_eq h8) rk_1 rk_0 (by decide)).elim) (fun h8 => ?_)
    refine rn_aload_n (i := 0) dX10_refuses_11 rfl rfl ?_
    refine rn_iload_n (i := 2) dX10_refuses_12 rfl rfl ?_
    refine rs_put q1 (kp_SGModel_137 _) hS3 hq1 hl3 hf3 hk_30 rfl rfl (tv_i (rg_w rk_1 (by decide) (by decide))) rfl rfl dX10_refuses_13 (fun w9 fs10 hS10 hl10 hf10 hx10 ho10 hn10 => ?_)
    refine rn_aload_n (i := 0) dX10_refuses_16 rfl rfl ?_
    refine rn_get q1 kg_SGModel_137 hl10 hx10 dX10_refuses_17 ?_
    refine rn_if_le (tgt := 27) dX10_refuses_20 (by decide) (fun h11 => (cx_le (cv_le h11) rk_1 rk_0 (by decide)).elim) (fun h11 => ?_)
    refine rn_iconst (v := (1 : Int32)) dX10_refuses_23 (by decide) ?_
    refine rn_goto (tgt := 28) dX10_refuses_24 (by decide) ?_
    refine rn_iret dX10_refuses_28 rfl rfl (rq_in ?_)
    refine rn_stk [.int (1 : Int32)] rfl ?_
    refine rn_if_ne (tgt := 67) dX10_seal_24 (by decide) (fun h12 => ?_) (fun h12 => (cx_eq (cv_eq h12) rk_1 rk_0 (by decide)).elim)
    refine rn_iconst (v := (0 : Int32)) dX10_seal_67 (by decide) ?_
    exact rn_iret dX10_seal_68 rfl rfl (rq_in ⟨hS10, (0 : Int32), rfl, (rg_w rk_0 (by decide) (by decide))⟩)
  · have ch4 := cv_nlt h4
    have r13 : Rg (0) (2147483647) x2_ := rf_ley ch4 rk_0 (rg_any x2_) (by decide)
    refine rn_iload_n (i := 0) dX10_in_5 rfl rfl ?_
    refine rn_iload_n (i := 2) dX10_in_6 rfl rfl ?_
    refine rn_icmp_gt (tgt := 14) dX10_in_7 (by decide) (fun h14 => ?_) (fun h14 => ?_)
    · have ch14 := cv_lt h14
      have r15 : Rg (4) (2147483647) x2_ := rf_lty ch14 rk_3 r13 (by decide)
      refine rn_iconst (v := (0 : Int32)) dX10_in_14 (by decide) ?_
      refine rn_iret dX10_in_15 rfl rfl (rq_in ?_)
      refine rn_stk [.int (0 : Int32), .ref o0_] rfl ?_
      refine rn_if_ne (tgt := 19) dX10_seal_12 (by decide) (fun h16 => (cx_ne (cv_ne h16) rk_0 rk_0 (by decide)).elim) (fun h16 => ?_)
      refine rn_iconst (v := (1 : Int32)) dX10_seal_15 (by decide) ?_
      refine rn_goto (tgt := 20) dX10_seal_16 (by decide) ?_
      refine rn_iconst (v := (1 : Int32)) dX10_seal_20 (by decide) ?_
      refine rn_inV (d' := 0) (z' := 0) [.int (1 : Int32), .int (1 : Int32)] kl_SGModel_171 dX10_seal_21 q1 hl3 rfl rfl rfl (Nat.le_of_ble_eq_true rfl) (Nat.le_of_ble_eq_true rfl) (Nat.le_of_ble_eq_true rfl) (Nat.le_of_ble_eq_true rfl) ?_
      refine rn_lv [(0, .ref o0_), (1, .int (1 : Int32)), (2, .int (1 : Int32))] rfl ?_
      refine rn_aload_n (i := 0) dX10_refuses_0 rfl rfl ?_
      refine rn_get q1 kg_SGModel_137 hl3 hx3 dX10_refuses_1 ?_
      refine rn_if_ne (tgt := 16) dX10_refuses_4 (by decide) (fun h17 => (cx_ne (cv_ne h17) rk_0 rk_0 (by decide)).elim) (fun h17 => ?_)
      refine rn_iload_n (i := 1) dX10_refuses_7 rfl rfl ?_
      refine rn_if_eq (tgt := 16) dX10_refuses_8 (by decide) (fun h18 => (cx_eq (cv_eq h18) rk_1 rk_0 (by decide)).elim) (fun h18 => ?_)
      refine rn_aload_n (i := 0) dX10_refuses_11 rfl rfl ?_
      refine rn_iload_n (i := 2) dX10_refuses_12 rfl rfl ?_
      refine rs_put q1 (kp_SGModel_137 _) hS3 hq1 hl3 hf3 hk_30 rfl rfl (tv_i (rg_w rk_1 (by decide) (by decide))) rfl rfl dX10_refuses_13 (fun w19 fs20 hS20 hl20 hf20 hx20 ho20 hn20 => ?_)
      refine rn_aload_n (i := 0) dX10_refuses_16 rfl rfl ?_
      refine rn_get q1 kg_SGModel_137 hl20 hx20 dX10_refuses_17 ?_
      refine rn_if_le (tgt := 27) dX10_refuses_20 (by decide) (fun h21 => (cx_le (cv_le h21) rk_1 rk_0 (by decide)).elim) (fun h21 => ?_)
      refine rn_iconst (v := (1 : Int32)) dX10_refuses_23 (by decide) ?_
      refine rn_goto (tgt := 28) dX10_refuses_24 (by decide) ?_
      refine rn_iret dX10_refuses_28 rfl rfl (rq_in ?_)
      refine rn_stk [.int (1 : Int32)] rfl ?_
      refine rn_if_ne (tgt := 67) dX10_seal_24 (by decide) (fun h22 => ?_) (fun h22 => (cx_eq (cv_eq h22) rk_1 rk_0 (by decide)).elim)
      refine rn_iconst (v := (0 : Int32)) dX10_seal_67 (by decide) ?_
      exact rn_iret dX10_seal_68 rfl rfl (rq_in ⟨hS20, (0 : Int32), rfl, (rg_w rk_0 (by decide) (by decide))⟩)
    · have ch14 := cv_nlt h14
      have r23 : Rg (0) (3) x2_ := rf_lex ch14 r13 rk_3 (by decide)
      refine rn_iconst (v := (1 : Int32)) dX10_in_10 (by decide) ?_
      refine rn_goto (tgt := 15) dX10_in_11 (by decide) ?_
      refine rn_iret dX10_in_15 rfl rfl (rq_in ?_)
      refine rn_stk [.int (1 : Int32), .ref o0_] rfl ?_
      refine rn_if_ne (tgt := 19) dX10_seal_12 (by decide) (fun h24 => ?_) (fun h24 => (cx_eq (cv_eq h24) rk_1 rk_0 (by decide)).elim)
      refine rn_iconst (v := (0 : Int32)) dX10_seal_19 (by decide) ?_
      refine rn_iconst (v := (1 : Int32)) dX10_seal_20 (by decide) ?_
      refine rn_inV (d' := 0) (z' := 0) [.int (0 : Int32), .int (1 : Int32)] kl_SGModel_171 dX10_seal_21 q1 hl3 rfl rfl rfl (Nat.le_of_ble_eq_true rfl) (Nat.le_of_ble_eq_true rfl) (Nat.le_of_ble_eq_true rfl) (Nat.le_of_ble_eq_true rfl) ?_
      refine rn_lv [(0, .ref o0_), (1, .int (0 : Int32)), (2, .int (1 : Int32))] rfl ?_
      refine rn_aload_n (i := 0) dX10_refuses_0 rfl rfl ?_
      refine rn_get q1 kg_SGModel_137 hl3 hx3 dX10_refuses_1 ?_
      refine rn_if_ne (tgt := 16) dX10_refuses_4 (by decide) (fun h25 => (cx_ne (cv_ne h25) rk_0 rk_0 (by decide)).elim) (fun h25 => ?_)
      refine rn_iload_n (i := 1) dX10_refuses_7 rfl rfl ?_
      refine rn_if_eq (tgt := 16) dX10_refuses_8 (by decide) (fun h26 => ?_) (fun h26 => (cx_ne (cv_ne h26) rk_0 rk_0 (by decide)).elim)
      refine rn_aload_n (i := 0) dX10_refuses_16 rfl rfl ?_
      refine rn_get q1 kg_SGModel_137 hl3 hx3 dX10_refuses_17 ?_
      refine rn_if_le (tgt := 27) dX10_refuses_20 (by decide) (fun h27 => ?_) (fun h27 => (cx_lt (cv_nle h27) rk_0 rk_0 (by decide)).elim)
      refine rn_iconst (v := (0 : Int32)) dX10_refuses_27 (by decide) ?_
      refine rn_iret dX10_refuses_28 rfl rfl (rq_in ?_)
      refine rn_stk [.int (0 : Int32)] rfl ?_
      refine rn_if_ne (tgt := 67) dX10_seal_24 (by decide) (fun h28 => (cx_ne (cv_ne h28) rk_0 rk_0 (by decide)).elim) (fun h28 => ?_)
      refine rn_aload_n (i := 0) dX10_seal_27 rfl rfl ?_
      refine rn_iload_n (i := 1) dX10_seal_28 rfl rfl ?_
      refine rn_iconst (v := (0 : Int32)) dX10_seal_29 (by decide) ?_
      refine rn_iconst (v := (1 : Int32)) dX10_seal_30 (by decide) ?_
      refine rn_inS (d' := 0) (z' := 0) [.int x1_, .int (0 : Int32), .int (1 : Int32)] kl_SGModel_179 dX10_seal_31 rfl rfl (Nat.le_of_ble_eq_true rfl) (Nat.le_of_ble_eq_true rfl) (Nat.le_of_ble_eq_true rfl) (Nat.le_of_ble_eq_true rfl) ?_
      refine rn_lv [(0, .int x1_), (1, .int (0 : Int32)), (2, .int (1 : Int32))] rfl ?_
      refine rn_iload_n (i := 0) dX10_in_0 rfl rfl ?_
      refine rn_iload_n (i := 1) dX10_in_1 rfl rfl ?_
      refine rn_icmp_lt (tgt := 14) dX10_in_2 (by decide) (fun h29 => ?_) (fun h29 => ?_)
      · have ch29 := cv_lt h29
        have r30 : Rg (-2147483648) (-1) x1_ := rf_ltx ch29 (rg_any x1_) rk_0 (by decide)
        refine rn_iconst (v := (0 : Int32)) dX10_in_14 (by decide) ?_
        refine rn_iret dX10_in_15 rfl rfl (rq_in ?_)
        refine rn_stk [.int (0 : Int32), .ref o0_] rfl ?_
        refine rn_if_eq (tgt := 55) dX10_seal_34 (by decide) (fun h31 => ?_) (fun h31 => (cx_ne (cv_ne h31) rk_0 rk_0 (by decide)).elim)
        refine rn_iconst (v := (1 : Int32)) dX10_seal_55 (by decide) ?_
        refine rn_goto (tgt := 60) dX10_seal_56 (by decide) ?_
        refine rn_iconst (v := (2 : Int32)) dX10_seal_60 (by decide) ?_
        refine rn_inV (d' := 0) (z' := 0) [.int (1 : Int32), .int (2 : Int32)] kl_SGModel_171 dX10_seal_61 q1 hl3 rfl rfl rfl (Nat.le_of_ble_eq_true rfl) (Nat.le_of_ble_eq_true rfl) (Nat.le_of_ble_eq_true rfl) (Nat.le_of_ble_eq_true rfl) ?_
        refine rn_lv [(0, .ref o0_), (1, .int (1 : Int32)), (2, .int (2 : Int32))] rfl ?_
        refine rn_aload_n (i := 0) dX10_refuses_0 rfl rfl ?_
        refine rn_get q1 kg_SGModel_137 hl3 hx3 dX10_refuses_1 ?_
        refine rn_if_ne (tgt := 16) dX10_refuses_4 (by decide) (fun h32 => (cx_ne (cv_ne h32) rk_0 rk_0 (by decide)).elim) (fun h32 => ?_)
        refine rn_iload_n (i := 1) dX10_refuses_7 rfl rfl ?_
        refine rn_if_eq (tgt := 16) dX10_refuses_8 (by decide) (fun h33 => (cx_eq (cv_eq h33) rk_1 rk_0 (by decide)).elim) (fun h33 => ?_)
        refine rn_aload_n (i := 0) dX10_refuses_11 rfl rfl ?_
        refine rn_iload_n (i := 2) dX10_refuses_12 rfl rfl ?_
        refine rs_put q1 (kp_SGModel_137 _) hS3 hq1 hl3 hf3 hk_30 rfl rfl (tv_i (rg_w rk_2 (by decide) (by decide))) rfl rfl dX10_refuses_13 (fun w34 fs35 hS35 hl35 hf35 hx35 ho35 hn35 => ?_)
        refine rn_aload_n (i := 0) dX10_refuses_16 rfl rfl ?_
        refine rn_get q1 kg_SGModel_137 hl35 hx35 dX10_refuses_17 ?_
        refine rn_if_le (tgt := 27) dX10_refuses_20 (by decide) (fun h36 => (cx_le (cv_le h36) rk_2 rk_0 (by decide)).elim) (fun h36 => ?_)
        refine rn_iconst (v := (1 : Int32)) dX10_refuses_23 (by decide) ?_
        refine rn_goto (tgt := 28) dX10_refuses_24 (by decide) ?_
        refine rn_iret dX10_refuses_28 rfl rfl (rq_in ?_)
        refine rn_stk [.int (1 : Int32)] rfl ?_
        refine rn_if_eq (tgt := 69) dX10_seal_64 (by decide) (fun h37 => (cx_eq (cv_eq h37) rk_1 rk_0 (by decide)).elim) (fun h37 => ?_)
        refine rn_iconst (v := (0 : Int32)) dX10_seal_67 (by decide) ?_
        exact rn_iret dX10_seal_68 rfl rfl (rq_in ⟨hS35, (0 : Int32), rfl, (rg_w rk_0 (by decide) (by decide))⟩)
      · have ch29 := cv_nlt h29
        have r38 : Rg (0) (2147483647) x1_ := rf_ley ch29 rk_0 (rg_any x1_) (by decide)
        refine rn_iload_n (i := 0) dX10_in_5 rfl rfl ?_
        refine rn_iload_n (i := 2) dX10_in_6 rfl rfl ?_
        refine rn_icmp_gt (tgt := 14) dX10_in_7 (by decide) (fun h39 => ?_) (fun h39 => ?_)
        · have ch39 := cv_lt h39
          have r40 : Rg (2) (2147483647) x1_ := rf_lty ch39 rk_1 r38 (by decide)
          refine rn_iconst (v := (0 : Int32)) dX10_in_14 (by decide) ?_
          refine rn_iret dX10_in_15 rfl rfl (rq_in ?_)
          refine rn_stk [.int (0 : Int32), .ref o0_] rfl ?_
          refine rn_if_eq (tgt := 55) dX10_seal_34 (by decide) (fun h41 => ?_) (fun h41 => (cx_ne (cv_ne h41) rk_0 rk_0 (by decide)).elim)
          refine rn_iconst (v := (1 : Int32)) dX10_seal_55 (by decide) ?_
          refine rn_goto (tgt := 60) dX10_seal_56 (by decide) ?_
          refine rn_iconst (v := (2 : Int32)) dX10_seal_60 (by decide) ?_
          refine rn_inV (d' := 0) (z' := 0) [.int (1 : Int32), .int (2 : Int32)] kl_SGModel_171 dX10_seal_61 q1 hl3 rfl rfl rfl (Nat.le_of_ble_eq_true rfl) (Nat.le_of_ble_eq_true rfl) (Nat.le_of_ble_eq_true rfl) (Nat.le_of_ble_eq_true rfl) ?_
          refine rn_lv [(0, .ref o0_), (1, .int (1 : Int32)), (2, .int (2 : Int32))] rfl ?_
          refine rn_aload_n (i := 0) dX10_refuses_0 rfl rfl ?_
          refine rn_get q1 kg_SGModel_137 hl3 hx3 dX10_refuses_1 ?_
          refine rn_if_ne (tgt := 16) dX10_refuses_4 (by decide) (fun h42 => (cx_ne (cv_ne h42) rk_0 rk_0 (by decide)).elim) (fun h42 => ?_)
          refine rn_iload_n (i := 1) dX10_refuses_7 rfl rfl ?_
          refine rn_if_eq (tgt := 16) dX10_refuses_8 (by decide) (fun h43 => (cx_eq (cv_eq h43) rk_1 rk_0 (by decide)).elim) (fun h43 => ?_)
          refine rn_aload_n (i := 0) dX10_refuses_11 rfl rfl ?_
          refine rn_iload_n (i := 2) dX10_refuses_12 rfl rfl ?_
          refine rs_put q1 (kp_SGModel_137 _) hS3 hq1 hl3 hf3 hk_30 rfl rfl (tv_i (rg_w rk_2 (by decide) (by decide))) rfl rfl dX10_refuses_13 (fun w44 fs45 hS45 hl45 hf45 hx45 ho45 hn45 => ?_)
          refine rn_aload_n (i := 0) dX10_refuses_16 rfl rfl ?_
          refine rn_get q1 kg_SGModel_137 hl45 hx45 dX10_refuses_17 ?_
          refine rn_if_le (tgt := 27) dX10_refuses_20 (by decide) (fun h46 => (cx_le (cv_le h46) rk_2 rk_0 (by decide)).elim) (fun h46 => ?_)
          refine rn_iconst (v := (1 : Int32)) dX10_refuses_23 (by decide) ?_
          refine rn_goto (tgt := 28) dX10_refuses_24 (by decide) ?_
          refine rn_iret dX10_refuses_28 rfl rfl (rq_in ?_)
          refine rn_stk [.int (1 : Int32)] rfl ?_
          refine rn_if_eq (tgt := 69) dX10_seal_64 (by decide) (fun h47 => (cx_eq (cv_eq h47) rk_1 rk_0 (by decide)).elim) (fun h47 => ?_)
          refine rn_iconst (v := (0 : Int32)) dX10_seal_67 (by decide) ?_
          exact rn_iret dX10_seal_68 rfl rfl (rq_in ⟨hS45, (0 : Int32), rfl, (rg_w rk_0 (by decide) (by decide))⟩)
        · have ch39 := cv_nlt h39
          have r48 : Rg (0) (1) x1_ := rf_lex ch39 r38 rk_1 (by decide)
          refine rn_iconst (v := (1 : Int32)) dX10_in_10 (by decide) ?_
          refine rn_goto (tgt := 15) dX10_in_11 (by decide) ?_
          refine rn_iret dX10_in_15 rfl rfl (rq_in ?_)
          refine rn_stk [.int (1 : Int32), .ref o0_] rfl ?_
          refine rn_if_eq (tgt := 55) dX10_seal_34 (by decide) (fun h49 => (cx_eq (cv_eq h49) rk_1 rk_0 (by decide)).elim) (fun h49 => ?_)
          refine rn_iload_n (i := 3) dX10_seal_37 rfl rfl ?_
          refine rn_sipush (v := (256 : Int32)) dX10_seal_38 (by decide) ?_
          refine rn_icmp_lt (tgt := 55) dX10_seal_41 (by decide) (fun h50 => ?_) (fun h50 => ?_)
          · have ch50 := cv_lt h50
            have r51 : Rg (-2147483648) (255) x3_ := rf_ltx ch50 (rg_any x3_) rk_256 (by decide)
            refine rn_iconst (v := (1 : Int32)) dX10_seal_55 (by decide) ?_
            refine rn_goto (tgt := 60) dX10_seal_56 (by decide) ?_
            refine rn_iconst (v := (2 : Int32)) dX10_seal_60 (by decide) ?_
            refine rn_inV (d' := 0) (z' := 0) [.int (1 : Int32), .int (2 : Int32)] kl_SGModel_171 dX10_seal_61 q1 hl3 rfl rfl rfl (Nat.le_of_ble_eq_true rfl) (Nat.le_of_ble_eq_true rfl) (Nat.le_of_ble_eq_true rfl) (Nat.le_of_ble_eq_true rfl) ?_
            refine rn_lv [(0, .ref o0_), (1, .int (1 : Int32)), (2, .int (2 : Int32))] rfl ?_
            refine rn_aload_n (i := 0) dX10_refuses_0 rfl rfl ?_
            refine rn_get q1 kg_SGModel_137 hl3 hx3 dX10_refuses_1 ?_
            refine rn_if_ne (tgt := 16) dX10_refuses_4 (by decide) (fun h52 => (cx_ne (cv_ne h52) rk_0 rk_0 (by decide)).elim) (fun h52 => ?_)
            refine rn_iload_n (i := 1) dX10_refuses_7 rfl rfl ?_
            refine rn_if_eq (tgt := 16) dX10_refuses_8 (by decide) (fun h53 => (cx_eq (cv_eq h53) rk_1 rk_0 (by decide)).elim) (fun h53 => ?_)
            refine rn_aload_n (i := 0) dX10_refuses_11 rfl rfl ?_
            refine rn_iload_n (i := 2) dX10_refuses_12 rfl rfl ?_
            refine rs_put q1 (kp_SGModel_137 _) hS3 hq1 hl3 hf3 hk_30 rfl rfl (tv_i (rg_w rk_2 (by decide) (by decide))) rfl rfl dX10_refuses_13 (fun w54 fs55 hS55 hl55 hf55 hx55 ho55 hn55 => ?_)
            refine rn_aload_n (i := 0) dX10_refuses_16 rfl rfl ?_
            refine rn_get q1 kg_SGModel_137 hl55 hx55 dX10_refuses_17 ?_
            refine rn_if_le (tgt := 27) dX10_refuses_20 (by decide) (fun h56 => (cx_le (cv_le h56) rk_2 rk_0 (by decide)).elim) (fun h56 => ?_)
            refine rn_iconst (v := (1 : Int32)) dX10_refuses_23 (by decide) ?_
            refine rn_goto (tgt := 28) dX10_refuses_24 (by decide) ?_
            refine rn_iret dX10_refuses_28 rfl rfl (rq_in ?_)
            refine rn_stk [.int (1 : Int32)] rfl ?_
            refine rn_if_eq (tgt := 69) dX10_seal_64 (by decide) (fun h57 => (cx_eq (cv_eq h57) rk_1 rk_0 (by decide)).elim) (fun h57 => ?_)
            refine rn_iconst (v := (0 : Int32)) dX10_seal_67 (by decide) ?_
            exact rn_iret dX10_seal_68 rfl rfl (rq_in ⟨hS55, (0 : Int32), rfl, (rg_w rk_0 (by decide) (by decide))⟩)
          · have ch50 := cv_nlt h50
            have r58 : Rg (256) (2147483647) x3_ := rf_ley ch50 rk_256 (rg_any x3_) (by decide)
            refine rn_iload dX10_seal_44 rfl ?_
            refine rn_iconst (v := (1 : Int32)) dX10_seal_46 (by decide) ?_
            refine rn_ldc (v := (1000000 : Int32)) wd_1338 dX10_seal_47 ?_
            refine rn_inS (d' := 0) (z' := 0) [.int x7_, .int (1 : Int32), .int (1000000 : Int32)] kl_SGModel_179 dX10_seal_49 rfl rfl (Nat.le_of_ble_eq_true rfl) (Nat.le_of_ble_eq_true rfl) (Nat.le_of_ble_eq_true rfl) (Nat.le_of_ble_eq_true rfl) ?_
            refine rn_lv [(0, .int x7_), (1, .int (1 : Int32)), (2, .int (1000000 : Int32))] rfl ?_
            refine rn_iload_n (i := 0) dX10_in_0 rfl rfl ?_
            refine rn_iload_n (i := 1) dX10_in_1 rfl rfl ?_
            refine rn_icmp_lt (tgt := 14) dX10_in_2 (by decide) (fun h59 => ?_) (fun h59 => ?_)
            · have ch59 := cv_lt h59
              have r60 : Rg (-2147483648) (0) x7_ := rf_ltx ch59 (rg_any x7_) rk_1 (by decide)
              refine rn_iconst (v := (0 : Int32)) dX10_in_14 (by decide) ?_
              refine rn_iret dX10_in_15 rfl rfl (rq_in ?_)
              refine rn_stk [.int (0 : Int32), .ref o0_] rfl ?_
              refine rn_if_ne (tgt := 59) dX10_seal_52 (by decide) (fun h61 => (cx_ne (cv_ne h61) rk_0 rk_0 (by decide)).elim) (fun h61 => ?_)
              refine rn_iconst (v := (1 : Int32)) dX10_seal_55 (by decide) ?_
              refine rn_goto (tgt := 60) dX10_seal_56 (by decide) ?_
              refine rn_iconst (v := (2 : Int32)) dX10_seal_60 (by decide) ?_
              refine rn_inV (d' := 0) (z' := 0) [.int (1 : Int32), .int (2 : Int32)] kl_SGModel_171 dX10_seal_61 q1 hl3 rfl rfl rfl (Nat.le_of_ble_eq_true rfl) (Nat.le_of_ble_eq_true rfl) (Nat.le_of_ble_eq_true rfl) (Nat.le_of_ble_eq_true rfl) ?_
              refine rn_lv [(0, .ref o0_), (1, .int (1 : Int32)), (2, .int (2 : Int32))] rfl ?_
              refine rn_aload_n (i := 0) dX10_refuses_0 rfl rfl ?_
              refine rn_get q1 kg_SGModel_137 hl3 hx3 dX10_refuses_1 ?_
              refine rn_if_ne (tgt := 16) dX10_refuses_4 (by decide) (fun h62 => (cx_ne (cv_ne h62) rk_0 rk_0 (by decide)).elim) (fun h62 => ?_)
              refine rn_iload_n (i := 1) dX10_refuses_7 rfl rfl ?_
              refine rn_if_eq (tgt := 16) dX10_refuses_8 (by decide) (fun h63 => (cx_eq (cv_eq h63) rk_1 rk_0 (by decide)).elim) (fun h63 => ?_)
              refine rn_aload_n (i := 0) dX10_refuses_11 rfl rfl ?_
              refine rn_iload_n (i := 2) dX10_refuses_12 rfl rfl ?_
              refine rs_put q1 (kp_SGModel_137 _) hS3 hq1 hl3 hf3 hk_30 rfl rfl (tv_i (rg_w rk_2 (by decide) (by decide))) rfl rfl dX10_refuses_13 (fun w64 fs65 hS65 hl65 hf65 hx65 ho65 hn65 => ?_)
              refine rn_aload_n (i := 0) dX10_refuses_16 rfl rfl ?_
              refine rn_get q1 kg_SGModel_137 hl65 hx65 dX10_refuses_17 ?_
              refine rn_if_le (tgt := 27) dX10_refuses_20 (by decide) (fun h66 => (cx_le (cv_le h66) rk_2 rk_0 (by decide)).elim) (fun h66 => ?_)
              refine rn_iconst (v := (1 : Int32)) dX10_refuses_23 (by decide) ?_
              refine rn_goto (tgt := 28) dX10_refuses_24 (by decide) ?_
              refine rn_iret dX10_refuses_28 rfl rfl (rq_in ?_)
              refine rn_stk [.int (1 : Int32)] rfl ?_
              refine rn_if_eq (tgt := 69) dX10_seal_64 (by decide) (fun h67 => (cx_eq (cv_eq h67) rk_1 rk_0 (by decide)).elim) (fun h67 => ?_)
              refine rn_iconst (v := (0 : Int32)) dX10_seal_67 (by decide) ?_
              exact rn_iret dX10_seal_68 rfl rfl (rq_in ⟨hS65, (0 : Int32), rfl, (rg_w rk_0 (by decide) (by decide))⟩)
            · have ch59 := cv_nlt h59
              have r68 : Rg (1) (2147483647) x7_ := rf_ley ch59 rk_1 (rg_any x7_) (by decide)
              refine rn_iload_n (i := 0) dX10_in_5 rfl rfl ?_
              refine rn_iload_n (i := 2) dX10_in_6 rfl rfl ?_
              refine rn_icmp_gt (tgt := 14) dX10_in_7 (by decide) (fun h69 => ?_) (fun h69 => ?_)
              · have ch69 := cv_lt h69
                have r70 : Rg (1000001) (2147483647) x7_ := rf_lty ch69 rk_1000000 r68 (by decide)
                refine rn_iconst (v := (0 : Int32)) dX10_in_14 (by decide) ?_
                refine rn_iret dX10_in_15 rfl rfl (rq_in ?_)
                refine rn_stk [.int (0 : Int32), .ref o0_] rfl ?_
                refine rn_if_ne (tgt := 59) dX10_seal_52 (by decide) (fun h71 => (cx_ne (cv_ne h71) rk_0 rk_0 (by decide)).elim) (fun h71 => ?_)
                refine rn_iconst (v := (1 : Int32)) dX10_seal_55 (by decide) ?_
                refine rn_goto (tgt := 60) dX10_seal_56 (by decide) ?_
                refine rn_iconst (v := (2 : Int32)) dX10_seal_60 (by decide) ?_
                refine rn_inV (d' := 0) (z' := 0) [.int (1 : Int32), .int (2 : Int32)] kl_SGModel_171 dX10_seal_61 q1 hl3 rfl rfl rfl (Nat.le_of_ble_eq_true rfl) (Nat.le_of_ble_eq_true rfl) (Nat.le_of_ble_eq_true rfl) (Nat.le_of_ble_eq_true rfl) ?_
                refine rn_lv [(0, .ref o0_), (1, .int (1 : Int32)), (2, .int (2 : Int32))] rfl ?_
                refine rn_aload_n (i := 0) dX10_refuses_0 rfl rfl ?_
                refine rn_get q1 kg_SGModel_137 hl3 hx3 dX10_refuses_1 ?_
                refine rn_if_ne (tgt := 16) dX10_refuses_4 (by decide) (fun h72 => (cx_ne (cv_ne h72) rk_0 rk_0 (by decide)).elim) (fun h72 => ?_)
                refine rn_iload_n (i := 1) dX10_refuses_7 rfl rfl ?_
                refine rn_if_eq (tgt := 16) dX10_refuses_8 (by decide) (fun h73 => (cx_eq (cv_eq h73) rk_1 rk_0 (by decide)).elim) (fun h73 => ?_)
                refine rn_aload_n (i := 0) dX10_refuses_11 rfl rfl ?_
                refine rn_iload_n (i := 2) dX10_refuses_12 rfl rfl ?_
                refine rs_put q1 (kp_SGModel_137 _) hS3 hq1 hl3 hf3 hk_30 rfl rfl (tv_i (rg_w rk_2 (by decide) (by decide))) rfl rfl dX10_refuses_13 (fun w74 fs75 hS75 hl75 hf75 hx75 ho75 hn75 => ?_)
                refine rn_aload_n (i := 0) dX10_refuses_16 rfl rfl ?_
                refine rn_get q1 kg_SGModel_137 hl75 hx75 dX10_refuses_17 ?_
                refine rn_if_le (tgt := 27) dX10_refuses_20 (by decide) (fun h76 => (cx_le (cv_le h76) rk_2 rk_0 (by decide)).elim) (fun h76 => ?_)
                refine rn_iconst (v := (1 : Int32)) dX10_refuses_23 (by decide) ?_
                refine rn_goto (tgt := 28) dX10_refuses_24 (by decide) ?_
                refine rn_iret dX10_refuses_28 rfl rfl (rq_in ?_)
                refine rn_stk [.int (1 : Int32)] rfl ?_
                refine rn_if_eq (tgt := 69) dX10_seal_64 (by decide) (fun h77 => (cx_eq (cv_eq h77) rk_1 rk_0 (by decide)).elim) (fun h77 => ?_)
                refine rn_iconst (v := (0 : Int32)) dX10_seal_67 (by decide) ?_
                exact rn_iret dX10_seal_68 rfl rfl (rq_in ⟨hS75, (0 : Int32), rfl, (rg_w rk_0 (by decide) (by decide))⟩)
              · have ch69 := cv_nlt h69
                have r78 : Rg (1) (1000000) x7_ := rf_lex ch69 r68 rk_1000000 (by decide)
                refine rn_iconst (v := (1 : Int32)) dX10_in_10 (by decide) ?_
                refine rn_goto (tgt := 15) dX10_in_11 (by decide) ?_
                refine rn_iret dX10_in_15 rfl rfl (rq_in ?_)
                refine rn_stk [.int (1 : Int32), .ref o0_] rfl ?_
                refine rn_if_ne (tgt := 59) dX10_seal_52 (by decide) (fun h79 => ?_) (fun h79 => (cx_eq (cv_eq h79) rk_1 rk_0 (by decide)).elim)
                refine rn_iconst (v := (0 : Int32)) dX10_seal_59 (by decide) ?_
                refine rn_iconst (v := (2 : Int32)) dX10_seal_60 (by decide) ?_
                refine rn_inV (d' := 0) (z' := 0) [.int (0 : Int32), .int (2 : Int32)] kl_SGModel_171 dX10_seal_61 q1 hl3 rfl rfl rfl (Nat.le_of_ble_eq_true rfl) (Nat.le_of_ble_eq_true rfl) (Nat.le_of_ble_eq_true rfl) (Nat.le_of_ble_eq_true rfl) ?_
                refine rn_lv [(0, .ref o0_), (1, .int (0 : Int32)), (2, .int (2 : Int32))] rfl ?_
                refine rn_aload_n (i := 0) dX10_refuses_0 rfl rfl ?_
                refine rn_get q1 kg_SGModel_137 hl3 hx3 dX10_refuses_1 ?_
                refine rn_if_ne (tgt := 16) dX10_refuses_4 (by decide) (fun h80 => (cx_ne (cv_ne h80) rk_0 rk_0 (by decide)).elim) (fun h80 => ?_)
                refine rn_iload_n (i := 1) dX10_refuses_7 rfl rfl ?_
                refine rn_if_eq (tgt := 16) dX10_refuses_8 (by decide) (fun h81 => ?_) (fun h81 => (cx_ne (cv_ne h81) rk_0 rk_0 (by decide)).elim)
                refine rn_aload_n (i := 0) dX10_refuses_16 rfl rfl ?_
                refine rn_get q1 kg_SGModel_137 hl3 hx3 dX10_refuses_17 ?_
                refine rn_if_le (tgt := 27) dX10_refuses_20 (by decide) (fun h82 => ?_) (fun h82 => (cx_lt (cv_nle h82) rk_0 rk_0 (by decide)).elim)
                refine rn_iconst (v := (0 : Int32)) dX10_refuses_27 (by decide) ?_
                refine rn_iret dX10_refuses_28 rfl rfl (rq_in ?_)
                refine rn_stk [.int (0 : Int32)] rfl ?_
                refine rn_if_eq (tgt := 69) dX10_seal_64 (by decide) (fun h83 => ?_) (fun h83 => (cx_ne (cv_ne h83) rk_0 rk_0 (by decide)).elim)
                refine rn_aload_n (i := 0) dX10_seal_69 rfl rfl ?_
                refine rn_aload_n (i := 0) dX10_seal_70 rfl rfl ?_
                obtain ⟨x84, hx84, rx84⟩ := fs_i hf3 22 rfl
                refine rn_get q1 kg_SGModel_200 hl3 hx84 dX10_seal_71 ?_
                refine rn_bipush (v := (16 : Int32)) dX10_seal_74 (by decide) ?_
                refine rn_icmp_eq (tgt := 92) dX10_seal_76 (by decide) (fun h85 => ?_) (fun h85 => ?_)
                · have ch85 := cv_eq h85
                  have r86 : Rg (16) (16) x84 := rf_eqx ch85 rx84 rk_16 (by decide) (by decide)
                  refine rn_iconst (v := (1 : Int32)) dX10_seal_92 (by decide) ?_
                  refine rn_goto (tgt := 97) dX10_seal_93 (by decide) ?_
                  refine rn_iconst (v := (3 : Int32)) dX10_seal_97 (by decide) ?_
                  refine rn_inV (d' := 0) (z' := 0) [.int (1 : Int32), .int (3 : Int32)] kl_SGModel_171 dX10_seal_98 q1 hl3 rfl rfl rfl (Nat.le_of_ble_eq_true rfl) (Nat.le_of_ble_eq_true rfl) (Nat.le_of_ble_eq_true rfl) (Nat.le_of_ble_eq_true rfl) ?_
                  refine rn_lv [(0, .ref o0_), (1, .int (1 : Int32)), (2, .int (3 : Int32))] rfl ?_
                  refine rn_aload_n (i := 0) dX10_refuses_0 rfl rfl ?_
                  refine rn_get q1 kg_SGModel_137 hl3 hx3 dX10_refuses_1 ?_
                  refine rn_if_ne (tgt := 16) dX10_refuses_4 (by decide) (fun h87 => (cx_ne (cv_ne h87) rk_0 rk_0 (by decide)).elim) (fun h87 => ?_)
                  refine rn_iload_n (i := 1) dX10_refuses_7 rfl rfl ?_
                  refine rn_if_eq (tgt := 16) dX10_refuses_8 (by decide) (fun h88 => (cx_eq (cv_eq h88) rk_1 rk_0 (by decide)).elim) (fun h88 => ?_)
                  refine rn_aload_n (i := 0) dX10_refuses_11 rfl rfl ?_
                  refine rn_iload_n (i := 2) dX10_refuses_12 rfl rfl ?_
                  refine rs_put q1 (kp_SGModel_137 _) hS3 hq1 hl3 hf3 hk_30 rfl rfl (tv_i (rg_w rk_3 (by decide) (by decide))) rfl rfl dX10_refuses_13 (fun w89 fs90 hS90 hl90 hf90 hx90 ho90 hn90 => ?_)
                  refine rn_aload_n (i := 0) dX10_refuses_16 rfl rfl ?_
                  refine rn_get q1 kg_SGModel_137 hl90 hx90 dX10_refuses_17 ?_
                  refine rn_if_le (tgt := 27) dX10_refuses_20 (by decide) (fun h91 => (cx_le (cv_le h91) rk_3 rk_0 (by decide)).elim) (fun h91 => ?_)
                  refine rn_iconst (v := (1 : Int32)) dX10_refuses_23 (by decide) ?_
                  refine rn_goto (tgt := 28) dX10_refuses_24 (by decide) ?_
                  refine rn_iret dX10_refuses_28 rfl rfl (rq_in ?_)
                  refine rn_stk [.int (1 : Int32)] rfl ?_
                  refine rn_if_eq (tgt := 106) dX10_seal_101 (by decide) (fun h92 => (cx_eq (cv_eq h92) rk_1 rk_0 (by decide)).elim) (fun h92 => ?_)
                  refine rn_iconst (v := (0 : Int32)) dX10_seal_104 (by decide) ?_
                  exact rn_iret dX10_seal_105 rfl rfl (rq_in ⟨hS90, (0 : Int32), rfl, (rg_w rk_0 (by decide) (by decide))⟩)
                · have ch85 := cv_ne h85
                  have r93 : Rg (0) (15) x84 := rf_neh ch85 rx84 rk_16 (by decide) (by decide)
                  refine rn_iload_n (i := 1) dX10_seal_79 rfl rfl ?_
                  refine rn_iconst (v := (1 : Int32)) dX10_seal_80 (by decide) ?_
                  refine rn_icmp_ne (tgt := 96) dX10_seal_81 (by decide) (fun h94 => ?_) (fun h94 => ?_)
                  · have ch94 := cv_ne h94
                    have r95 : Rg (0) (0) x1_ := rf_neh ch94 r48 rk_1 (by decide) (by decide)
                    refine rn_iconst (v := (0 : Int32)) dX10_seal_96 (by decide) ?_
                    refine rn_iconst (v := (3 : Int32)) dX10_seal_97 (by decide) ?_
                    refine rn_inV (d' := 0) (z' := 0) [.int (0 : Int32), .int (3 : Int32)] kl_SGModel_171 dX10_seal_98 q1 hl3 rfl rfl rfl (Nat.le_of_ble_eq_true rfl) (Nat.le_of_ble_eq_true rfl) (Nat.le_of_ble_eq_true rfl) (Nat.le_of_ble_eq_true rfl) ?_
                    refine rn_lv [(0, .ref o0_), (1, .int (0 : Int32)), (2, .int (3 : Int32))] rfl ?_
                    refine rn_aload_n (i := 0) dX10_refuses_0 rfl rfl ?_
                    refine rn_get q1 kg_SGModel_137 hl3 hx3 dX10_refuses_1 ?_
                    refine rn_if_ne (tgt := 16) dX10_refuses_4 (by decide) (fun h96 => (cx_ne (cv_ne h96) rk_0 rk_0 (by decide)).elim) (fun h96 => ?_)
                    refine rn_iload_n (i := 1) dX10_refuses_7 rfl rfl ?_
                    refine rn_if_eq (tgt := 16) dX10_refuses_8 (by decide) (fun h97 => ?_) (fun h97 => (cx_ne (cv_ne h97) rk_0 rk_0 (by decide)).elim)
                    refine rn_aload_n (i := 0) dX10_refuses_16 rfl rfl ?_
                    refine rn_get q1 kg_SGModel_137 hl3 hx3 dX10_refuses_17 ?_
                    refine rn_if_le (tgt := 27) dX10_refuses_20 (by decide) (fun h98 => ?_) (fun h98 => (cx_lt (cv_nle h98) rk_0 rk_0 (by decide)).elim)
                    refine rn_iconst (v := (0 : Int32)) dX10_refuses_27 (by decide) ?_
                    refine rn_iret dX10_refuses_28 rfl rfl (rq_in ?_)
                    refine rn_stk [.int (0 : Int32)] rfl ?_
                    refine rn_if_eq (tgt := 106) dX10_seal_101 (by decide) (fun h99 => ?_) (fun h99 => (cx_ne (cv_ne h99) rk_0 rk_0 (by decide)).elim)
                    refine rn_aload_n (i := 0) dX10_seal_106 rfl rfl ?_
                    refine rn_get q1 kg_SGModel_200 hl3 hx84 dX10_seal_107 ?_
                    refine rn_istore dX10_seal_110 (by decide) [(0, .ref o0_), (1, .int x1_), (2, .int x2_), (3, .int x3_), (4, .long y4_), (6, .long y5_), (8, .int x6_), (9, .int x7_), (10, .int x84)] rfl ?_
                    refine rn_aload_n (i := 0) dX10_seal_112 rfl rfl ?_
                    obtain ⟨o100, hx100, m100⟩ := fs_r hf3 23 rfl
                    refine rn_get q1 kg_SGModel_57 hl3 hx100 dX10_seal_113 ?_
                    refine rn_iload dX10_seal_116 rfl ?_
                    refine rn_iload_n (i := 1) dX10_seal_118 rfl rfl ?_
                    obtain ⟨q101, f101, hq101, hl101, hf101⟩ := ts_ia hS3.1 m100 hk_54
                    refine rs_iast q101 hS3 hq101 hl101 hf101 hk_54 rfl rfl r93 (by decide) (by decide) (rg_w r95 (by decide) (by decide)) dX10_seal_119 (fun w102 f103 hS103 hl103 hf103 hu103 hn103 => ?_)
                    refine rn_aload_n (i := 0) dX10_seal_120 rfl rfl ?_
                    obtain ⟨o104, hx104, m104⟩ := fs_r hf3 24 rfl
                    refine rn_get q1 kg_SGModel_60 ((hn103 _ (ts_ne hq101 hq1 rfl)).trans hl3) hx104 dX10_seal_121 ?_
                    refine rn_iload dX10_seal_124 rfl ?_
                    refine rn_iload_n (i := 2) dX10_seal_126 rfl rfl ?_
                    obtain ⟨q105, f105, hq105, hl105, hf105⟩ := ts_ia hS103.1 m104 hk_55
                    refine rs_iast q105 hS103 hq105 hl105 hf105 hk_55 rfl rfl r93 (by decide) (by decide) r23 dX10_seal_127 (fun w106 f107 hS107 hl107 hf107 hu107 hn107 => ?_)
                    refine rn_aload_n (i := 0) dX10_seal_128 rfl rfl ?_
                    obtain ⟨o108, hx108, m108⟩ := fs_r hf3 25 rfl
                    refine rn_get q1 kg_SGModel_63 ((hn107 _ (ts_ne hq105 hq1 rfl)).trans ((hn103 _ (ts_ne hq101 hq1 rfl)).trans hl3)) hx108 dX10_seal_129 ?_
                    refine rn_iload dX10_seal_132 rfl ?_
                    refine rn_iload_n (i := 3) dX10_seal_134 rfl rfl ?_
                    obtain ⟨q109, f109, hq109, hl109, hf109⟩ := ts_ia hS107.1 m108 hk_56
                    refine rs_iast q109 hS107 hq109 hl109 hf109 hk_56 rfl rfl r93 (by decide) (by decide) (rg_w r58 (by decide) (by decide)) dX10_seal_135 (fun w110 f111 hS111 hl111 hf111 hu111 hn111 => ?_)
                    refine rn_aload_n (i := 0) dX10_seal_136 rfl rfl ?_
                    obtain ⟨o112, hx112, m112⟩ := fs_r hf3 26 rfl
                    refine rn_get q1 kg_SGModel_66 ((hn111 _ (ts_ne hq109 hq1 rfl)).trans ((hn107 _ (ts_ne hq105 hq1 rfl)).trans ((hn103 _ (ts_ne hq101 hq1 rfl)).trans hl3))) hx112 dX10_seal_137 ?_
                    refine rn_iload dX10_seal_140 rfl ?_
                    refine rn_lload dX10_seal_142 rfl ?_
                    obtain ⟨q113, f113, hq113, hl113⟩ := ts_la hS111.1 m112 hk_57
                    refine rs_last q113 hS111 hq113 hl113 hk_57 rfl rfl r93 (by decide) (by decide) dX10_seal_144 (fun w114 f115 hS115 hl115 hu115 hn115 => ?_)
                    refine rn_aload_n (i := 0) dX10_seal_145 rfl rfl ?_
                    obtain ⟨o116, hx116, m116⟩ := fs_r hf3 27 rfl
                    refine rn_get q1 kg_SGModel_70 ((hn115 _ (ts_ne hq113 hq1 rfl)).trans ((hn111 _ (ts_ne hq109 hq1 rfl)).trans ((hn107 _ (ts_ne hq105 hq1 rfl)).trans ((hn103 _ (ts_ne hq101 hq1 rfl)).trans hl3)))) hx116 dX10_seal_146 ?_
                    refine rn_iload dX10_seal_149 rfl ?_
                    refine rn_lload dX10_seal_151 rfl ?_
                    obtain ⟨q117, f117, hq117, hl117⟩ := ts_la hS115.1 m116 hk_58
                    refine rs_last q117 hS115 hq117 hl117 hk_58 rfl rfl r93 (by decide) (by decide) dX10_seal_153 (fun w118 f119 hS119 hl119 hu119 hn119 => ?_)
                    refine rn_aload_n (i := 0) dX10_seal_154 rfl rfl ?_
                    obtain ⟨o120, hx120, m120⟩ := fs_r hf3 28 rfl
                    refine rn_get q1 kg_SGModel_73 ((hn119 _ (ts_ne hq117 hq1 rfl)).trans ((hn115 _ (ts_ne hq113 hq1 rfl)).trans ((hn111 _ (ts_ne hq109 hq1 rfl)).trans ((hn107 _ (ts_ne hq105 hq1 rfl)).trans ((hn103 _ (ts_ne hq101 hq1 rfl)).trans hl3))))) hx120 dX10_seal_155 ?_
                    refine rn_iload dX10_seal_158 rfl ?_
                    refine rn_iload dX10_seal_160 rfl ?_
                    obtain ⟨q121, f121, hq121, hl121, hf121⟩ := ts_ia hS119.1 m120 hk_59
                    refine rs_zast q121 hS119 hq121 hl121 hf121 hk_59 rfl rfl r93 (by decide) (by decide) (by decide) (by decide) dX10_seal_162 (fun w122 f123 hS123 hl123 hf123 hu123 hn123 => ?_)
                    refine rn_aload_n (i := 0) dX10_seal_163 rfl rfl ?_
                    obtain ⟨o124, hx124, m124⟩ := fs_r hf3 29 rfl
                    refine rn_get q1 kg_SGModel_77 ((hn123 _ (ts_ne hq121 hq1 rfl)).trans ((hn119 _ (ts_ne hq117 hq1 rfl)).trans ((hn115 _ (ts_ne hq113 hq1 rfl)).trans ((hn111 _ (ts_ne hq109 hq1 rfl)).trans ((hn107 _ (ts_ne hq105 hq1 rfl)).trans ((hn103 _ (ts_ne hq101 hq1 rfl)).trans hl3)))))) hx124 dX10_seal_164 ?_
                    refine rn_iload dX10_seal_167 rfl ?_
                    refine rn_iload dX10_seal_169 rfl ?_
                    obtain ⟨q125, f125, hq125, hl125, hf125⟩ := ts_ia hS123.1 m124 hk_60
                    refine rs_iast q125 hS123 hq125 hl125 hf125 hk_60 rfl rfl r93 (by decide) (by decide) (rg_w r78 (by decide) (by decide)) dX10_seal_171 (fun w126 f127 hS127 hl127 hf127 hu127 hn127 => ?_)
                    refine rn_aload_n (i := 0) dX10_seal_172 rfl rfl ?_
                    obtain ⟨o128, hx128, m128⟩ := fs_r hf3 30 rfl
                    refine rn_get q1 kg_SGModel_80 ((hn127 _ (ts_ne hq125 hq1 rfl)).trans ((hn123 _ (ts_ne hq121 hq1 rfl)).trans ((hn119 _ (ts_ne hq117 hq1 rfl)).trans ((hn115 _ (ts_ne hq113 hq1 rfl)).trans ((hn111 _ (ts_ne hq109 hq1 rfl)).trans ((hn107 _ (ts_ne hq105 hq1 rfl)).trans ((hn103 _ (ts_ne hq101 hq1 rfl)).trans hl3))))))) hx128 dX10_seal_173 ?_
                    refine rn_iload dX10_seal_176 rfl ?_
                    refine rn_iconst (v := (0 : Int32)) dX10_seal_178 (by decide) ?_
                    obtain ⟨q129, f129, hq129, hl129, hf129⟩ := ts_ia hS127.1 m128 hk_61
                    refine rs_zast q129 hS127 hq129 hl129 hf129 hk_61 rfl rfl r93 (by decide) (by decide) (by decide) (by decide) dX10_seal_179 (fun w130 f131 hS131 hl131 hf131 hu131 hn131 => ?_)
                    have hl132 := ((hn131 _ (ts_ne hq129 hq1 rfl)).trans ((hn127 _ (ts_ne hq125 hq1 rfl)).trans ((hn123 _ (ts_ne hq121 hq1 rfl)).trans ((hn119 _ (ts_ne hq117 hq1 rfl)).trans ((hn115 _ (ts_ne hq113 hq1 rfl)).trans ((hn111 _ (ts_ne hq109 hq1 rfl)).trans ((hn107 _ (ts_ne hq105 hq1 rfl)).trans ((hn103 _ (ts_ne hq101 hq1 rfl)).trans hl3))))))))
                    refine rn_aload_n (i := 0) dX10_seal_180 rfl rfl ?_
                    obtain ⟨o133, hx133, m133⟩ := fs_r hf3 31 rfl
                    refine rn_get q1 kg_SGModel_83 hl132 hx133 dX10_seal_181 ?_
                    refine rn_iload dX10_seal_184 rfl ?_
                    refine rn_lconst (v := (0 : Int64)) dX10_seal_186 (by decide) ?_
                    obtain ⟨q134, f134, hq134, hl134⟩ := ts_la hS131.1 m133 hk_62
                    refine rs_last q134 hS131 hq134 hl134 hk_62 rfl rfl r93 (by decide) (by decide) dX10_seal_187 (fun w135 f136 hS136 hl136 hu136 hn136 => ?_)
                    have hl137 := ((hn136 _ (ts_ne hq134 hq101 rfl)).trans ((hn131 _ (ts_ne hq129 hq101 rfl)).trans ((hn127 _ (ts_ne hq125 hq101 rfl)).trans ((hn123 _ (ts_ne hq121 hq101 rfl)).trans ((hn119 _ (ts_ne hq117 hq101 rfl)).trans ((hn115 _ (ts_ne hq113 hq101 rfl)).trans ((hn111 _ (ts_ne hq109 hq101 rfl)).trans ((hn107 _ (ts_ne hq105 hq101 rfl)).trans hl103))))))))
                    refine rn_aload_n (i := 0) dX10_seal_188 rfl rfl ?_
                    obtain ⟨o138, hx138, m138⟩ := fs_r hf3 32 rfl
                    refine rn_get q1 kg_SGModel_86 ((hn136 _ (ts_ne hq134 hq1 rfl)).trans hl132) hx138 dX10_seal_189 ?_
                    refine rn_iload dX10_seal_192 rfl ?_
                    refine rn_lconst (v := (0 : Int64)) dX10_seal_194 (by decide) ?_
                    obtain ⟨q139, f139, hq139, hl139⟩ := ts_la hS136.1 m138 hk_63
                    refine rs_last q139 hS136 hq139 hl139 hk_63 rfl rfl r93 (by decide) (by decide) dX10_seal_195 (fun w140 f141 hS141 hl141 hu141 hn141 => ?_)
                    have hl142 := ((hn141 _ (ts_ne hq139 hq105 rfl)).trans ((hn136 _ (ts_ne hq134 hq105 rfl)).trans ((hn131 _ (ts_ne hq129 hq105 rfl)).trans ((hn127 _ (ts_ne hq125 hq105 rfl)).trans ((hn123 _ (ts_ne hq121 hq105 rfl)).trans ((hn119 _ (ts_ne hq117 hq105 rfl)).trans ((hn115 _ (ts_ne hq113 hq105 rfl)).trans ((hn111 _ (ts_ne hq109 hq105 rfl)).trans hl107))))))))
                    refine rn_aload_n (i := 0) dX10_seal_196 rfl rfl ?_
                    refine rn_dup dX10_seal_197 rfl ?_
                    refine rn_get q1 kg_SGModel_200 ((hn141 _ (ts_ne hq139 hq1 rfl)).trans ((hn136 _ (ts_ne hq134 hq1 rfl)).trans hl132)) hx84 dX10_seal_198 ?_
                    refine rn_iconst (v := (1 : Int32)) dX10_seal_201 (by decide) ?_
                    refine rs_addC (1) (16) r93 rk_1 dX10_seal_202 (by decide) (fun v143 ev143 rv143 => ?_)
                    refine rs_put q1 (kp_SGModel_200 _) hS141 hq1 ((hn141 _ (ts_ne hq139 hq1 rfl)).trans ((hn136 _ (ts_ne hq134 hq1 rfl)).trans hl132)) hf3 hk_30 rfl rfl (tv_i (rg_w rv143 (by decide) (by decide))) rfl rfl dX10_seal_203 (fun w144 fs145 hS145 hl145 hf145 hx145 ho145 hn145 => ?_)
                    have hl146 := ((hn145 _ (ts_ne hq1 hq109 rfl)).trans ((hn141 _ (ts_ne hq139 hq109 rfl)).trans ((hn136 _ (ts_ne hq134 hq109 rfl)).trans ((hn131 _ (ts_ne hq129 hq109 rfl)).trans ((hn127 _ (ts_ne hq125 hq109 rfl)).trans ((hn123 _ (ts_ne hq121 hq109 rfl)).trans ((hn119 _ (ts_ne hq117 hq109 rfl)).trans ((hn115 _ (ts_ne hq113 hq109 rfl)).trans hl111))))))))
                    refine rn_iload dX10_seal_206 rfl ?_
                    exact rn_iret dX10_seal_208 rfl rfl (rq_in ⟨hS145, x84, rfl, r93⟩)
                  · have ch94 := cv_eq h94
                    have r147 : Rg (1) (1) x1_ := rf_eqx ch94 r48 rk_1 (by decide) (by decide)
                    refine rn_aload_n (i := 0) dX10_seal_84 rfl rfl ?_
                    refine rn_iload_n (i := 3) dX10_seal_85 rfl rfl ?_
                    refine rn_callV (a := 0) (b := 0) [.int x3_] kl_SGModel_204 dX10_seal_86 q1 hl3 rfl (t_X10_sealNamed G S w2 hS3.1 o0_ m0_ x3_) rfl rfl (Nat.le_of_ble_eq_true rfl) (Nat.le_of_ble_eq_true rfl) (Nat.le_of_ble_eq_true rfl) (Nat.le_of_ble_eq_true rfl) (Nat.le_of_ble_eq_true rfl) (Nat.le_of_ble_eq_true rfl) (fun _ _ h => False.elim h) (fun v9 w148 h149 => ?_)
                    obtain ⟨rfl, v150, rfl, rv150⟩ := h149
                    refine rn_stk [.int v150, .ref o0_] rfl ?_
                    refine rn_if_lt (tgt := 96) dX10_seal_89 (by decide) (fun h152 => ?_) (fun h152 => ?_)
                    · have ch152 := cv_lt h152
                      have r153 : Rg (-1) (-1) v150 := rf_ltx ch152 rv150 rk_0 (by decide)
                      refine rn_iconst (v := (0 : Int32)) dX10_seal_96 (by decide) ?_
                      refine rn_iconst (v := (3 : Int32)) dX10_seal_97 (by decide) ?_
                      refine rn_inV (d' := 0) (z' := 0) [.int (0 : Int32), .int (3 : Int32)] kl_SGModel_171 dX10_seal_98 q1 hl3 rfl rfl rfl (Nat.le_of_ble_eq_true rfl) (Nat.le_of_ble_eq_true rfl) (Nat.le_of_ble_eq_true rfl) (Nat.le_of_ble_eq_true rfl) ?_
                      refine rn_lv [(0, .ref o0_), (1, .int (0 : Int32)), (2, .int (3 : Int32))] rfl ?_
                      refine rn_aload_n (i := 0) dX10_refuses_0 rfl rfl ?_
                      refine rn_get q1 kg_SGModel_137 hl3 hx3 dX10_refuses_1 ?_
                      refine rn_if_ne (tgt := 16) dX10_refuses_4 (by decide) (fun h154 => (cx_ne (cv_ne h154) rk_0 rk_0 (by decide)).elim) (fun h154 => ?_)
                      refine rn_iload_n (i := 1) dX10_refuses_7 rfl rfl ?_
                      refine rn_if_eq (tgt := 16) dX10_refuses_8 (by decide) (fun h155 => ?_) (fun h155 => (cx_ne (cv_ne h155) rk_0 rk_0 (by decide)).elim)
                      refine rn_aload_n (i := 0) dX10_refuses_16 rfl rfl ?_
                      refine rn_get q1 kg_SGModel_137 hl3 hx3 dX10_refuses_17 ?_
                      refine rn_if_le (tgt := 27) dX10_refuses_20 (by decide) (fun h156 => ?_) (fun h156 => (cx_lt (cv_nle h156) rk_0 rk_0 (by decide)).elim)
                      refine rn_iconst (v := (0 : Int32)) dX10_refuses_27 (by decide) ?_
                      refine rn_iret dX10_refuses_28 rfl rfl (rq_in ?_)
                      refine rn_stk [.int (0 : Int32)] rfl ?_
                      refine rn_if_eq (tgt := 106) dX10_seal_101 (by decide) (fun h157 => ?_) (fun h157 => (cx_ne (cv_ne h157) rk_0 rk_0 (by decide)).elim)
                      refine rn_aload_n (i := 0) dX10_seal_106 rfl rfl ?_
                      refine rn_get q1 kg_SGModel_200 hl3 hx84 dX10_seal_107 ?_
                      refine rn_istore dX10_seal_110 (by decide) [(0, .ref o0_), (1, .int x1_), (2, .int x2_), (3, .int x3_), (4, .long y4_), (6, .long y5_), (8, .int x6_), (9, .int x7_), (10, .int x84)] rfl ?_
                      refine rn_aload_n (i := 0) dX10_seal_112 rfl rfl ?_
                      obtain ⟨o158, hx158, m158⟩ := fs_r hf3 23 rfl
                      refine rn_get q1 kg_SGModel_57 hl3 hx158 dX10_seal_113 ?_
                      refine rn_iload dX10_seal_116 rfl ?_
                      refine rn_iload_n (i := 1) dX10_seal_118 rfl rfl ?_
                      obtain ⟨q159, f159, hq159, hl159, hf159⟩ := ts_ia hS3.1 m158 hk_54
                      refine rs_iast q159 hS3 hq159 hl159 hf159 hk_54 rfl rfl r93 (by decide) (by decide) (rg_w r147 (by decide) (by decide)) dX10_seal_119 (fun w160 f161 hS161 hl161 hf161 hu161 hn161 => ?_)
                      refine rn_aload_n (i := 0) dX10_seal_120 rfl rfl ?_
                      obtain ⟨o162, hx162, m162⟩ := fs_r hf3 24 rfl
                      refine rn_get q1 kg_SGModel_60 ((hn161 _ (ts_ne hq159 hq1 rfl)).trans hl3) hx162 dX10_seal_121 ?_
                      refine rn_iload dX10_seal_124 rfl ?_
                      refine rn_iload_n (i := 2) dX10_seal_126 rfl rfl ?_
                      obtain ⟨q163, f163, hq163, hl163, hf163⟩ := ts_ia hS161.1 m162 hk_55
                      refine rs_iast q163 hS161 hq163 hl163 hf163 hk_55 rfl rfl r93 (by decide) (by decide) r23 dX10_seal_127 (fun w164 f165 hS165 hl165 hf165 hu165 hn165 => ?_)
                      refine rn_aload_n (i := 0) dX10_seal_128 rfl rfl ?_
                      obtain ⟨o166, hx166, m166⟩ := fs_r hf3 25 rfl
                      refine rn_get q1 kg_SGModel_63 ((hn165 _ (ts_ne hq163 hq1 rfl)).trans ((hn161 _ (ts_ne hq159 hq1 rfl)).trans hl3)) hx166 dX10_seal_129 ?_
                      refine rn_iload dX10_seal_132 rfl ?_
                      refine rn_iload_n (i := 3) dX10_seal_134 rfl rfl ?_
                      obtain ⟨q167, f167, hq167, hl167, hf167⟩ := ts_ia hS165.1 m166 hk_56
                      refine rs_iast q167 hS165 hq167 hl167 hf167 hk_56 rfl rfl r93 (by decide) (by decide) (rg_w r58 (by decide) (by decide)) dX10_seal_135 (fun w168 f169 hS169 hl169 hf169 hu169 hn169 => ?_)
                      refine rn_aload_n (i := 0) dX10_seal_136 rfl rfl ?_
                      obtain ⟨o170, hx170, m170⟩ := fs_r hf3 26 rfl
                      refine rn_get q1 kg_SGModel_66 ((hn169 _ (ts_ne hq167 hq1 rfl)).trans ((hn165 _ (ts_ne hq163 hq1 rfl)).trans ((hn161 _ (ts_ne hq159 hq1 rfl)).trans hl3))) hx170 dX10_seal_137 ?_
                      refine rn_iload dX10_seal_140 rfl ?_
                      refine rn_lload dX10_seal_142 rfl ?_
                      obtain ⟨q171, f171, hq171, hl171⟩ := ts_la hS169.1 m170 hk_57
                      refine rs_last q171 hS169 hq171 hl171 hk_57 rfl rfl r93 (by decide) (by decide) dX10_seal_144 (fun w172 f173 hS173 hl173 hu173 hn173 => ?_)
                      refine rn_aload_n (i := 0) dX10_seal_145 rfl rfl ?_
                      obtain ⟨o174, hx174, m174⟩ := fs_r hf3 27 rfl
                      refine rn_get q1 kg_SGModel_70 ((hn173 _ (ts_ne hq171 hq1 rfl)).trans ((hn169 _ (ts_ne hq167 hq1 rfl)).trans ((hn165 _ (ts_ne hq163 hq1 rfl)).trans ((hn161 _ (ts_ne hq159 hq1 rfl)).trans hl3)))) hx174 dX10_seal_146 ?_
                      refine rn_iload dX10_seal_149 rfl ?_
                      refine rn_lload dX10_seal_151 rfl ?_
                      obtain ⟨q175, f175, hq175, hl175⟩ := ts_la hS173.1 m174 hk_58
                      refine rs_last q175 hS173 hq175 hl175 hk_58 rfl rfl r93 (by decide) (by decide) dX10_seal_153 (fun w176 f177 hS177 hl177 hu177 hn177 => ?_)
                      refine rn_aload_n (i := 0) dX10_seal_154 rfl rfl ?_
                      obtain ⟨o178, hx178, m178⟩ := fs_r hf3 28 rfl
                      refine rn_get q1 kg_SGModel_73 ((hn177 _ (ts_ne hq175 hq1 rfl)).trans ((hn173 _ (ts_ne hq171 hq1 rfl)).trans ((hn169 _ (ts_ne hq167 hq1 rfl)).trans ((hn165 _ (ts_ne hq163 hq1 rfl)).trans ((hn161 _ (ts_ne hq159 hq1 rfl)).trans hl3))))) hx178 dX10_seal_155 ?_
                      refine rn_iload dX10_seal_158 rfl ?_
                      refine rn_iload dX10_seal_160 rfl ?_
                      obtain ⟨q179, f179, hq179, hl179, hf179⟩ := ts_ia hS177.1 m178 hk_59
                      refine rs_zast q179 hS177 hq179 hl179 hf179 hk_59 rfl rfl r93 (by decide) (by decide) (by decide) (by decide) dX10_seal_162 (fun w180 f181 hS181 hl181 hf181 hu181 hn181 => ?_)
                      refine rn_aload_n (i := 0) dX10_seal_163 rfl rfl ?_
                      obtain ⟨o182, hx182, m182⟩ := fs_r hf3 29 rfl
                      refine rn_get q1 kg_SGModel_77 ((hn181 _ (ts_ne hq179 hq1 rfl)).trans ((hn177 _ (ts_ne hq175 hq1 rfl)).trans ((hn173 _ (ts_ne hq171 hq1 rfl)).trans ((hn169 _ (ts_ne hq167 hq1 rfl)).trans ((hn165 _ (ts_ne hq163 hq1 rfl)).trans ((hn161 _ (ts_ne hq159 hq1 rfl)).trans hl3)))))) hx182 dX10_seal_164 ?_
                      refine rn_iload dX10_seal_167 rfl ?_
                      refine rn_iload dX10_seal_169 rfl ?_
                      obtain ⟨q183, f183, hq183, hl183, hf183⟩ := ts_ia hS181.1 m182 hk_60
                      refine rs_iast q183 hS181 hq183 hl183 hf183 hk_60 rfl rfl r93 (by decide) (by decide) (rg_w r78 (by decide) (by decide)) dX10_seal_171 (fun w184 f185 hS185 hl185 hf185 hu185 hn185 => ?_)
                      refine rn_aload_n (i := 0) dX10_seal_172 rfl rfl ?_
                      obtain ⟨o186, hx186, m186⟩ := fs_r hf3 30 rfl
                      refine rn_get q1 kg_SGModel_80 ((hn185 _ (ts_ne hq183 hq1 rfl)).trans ((hn181 _ (ts_ne hq179 hq1 rfl)).trans ((hn177 _ (ts_ne hq175 hq1 rfl)).trans ((hn173 _ (ts_ne hq171 hq1 rfl)).trans ((hn169 _ (ts_ne hq167 hq1 rfl)).trans ((hn165 _ (ts_ne hq163 hq1 rfl)).trans ((hn161 _ (ts_ne hq159 hq1 rfl)).trans hl3))))))) hx186 dX10_seal_173 ?_
                      refine rn_iload dX10_seal_176 rfl ?_
                      refine rn_iconst (v := (0 : Int32)) dX10_seal_178 (by decide) ?_
                      obtain ⟨q187, f187, hq187, hl187, hf187⟩ := ts_ia hS185.1 m186 hk_61
                      refine rs_zast q187 hS185 hq187 hl187 hf187 hk_61 rfl rfl r93 (by decide) (by decide) (by decide) (by decide) dX10_seal_179 (fun w188 f189 hS189 hl189 hf189 hu189 hn189 => ?_)
                      have hl190 := ((hn189 _ (ts_ne hq187 hq1 rfl)).trans ((hn185 _ (ts_ne hq183 hq1 rfl)).trans ((hn181 _ (ts_ne hq179 hq1 rfl)).trans ((hn177 _ (ts_ne hq175 hq1 rfl)).trans ((hn173 _ (ts_ne hq171 hq1 rfl)).trans ((hn169 _ (ts_ne hq167 hq1 rfl)).trans ((hn165 _ (ts_ne hq163 hq1 rfl)).trans ((hn161 _ (ts_ne hq159 hq1 rfl)).trans hl3))))))))
                      refine rn_aload_n (i := 0) dX10_seal_180 rfl rfl ?_
                      obtain ⟨o191, hx191, m191⟩ := fs_r hf3 31 rfl
                      refine rn_get q1 kg_SGModel_83 hl190 hx191 dX10_seal_181 ?_
                      refine rn_iload dX10_seal_184 rfl ?_
                      refine rn_lconst (v := (0 : Int64)) dX10_seal_186 (by decide) ?_
                      obtain ⟨q192, f192, hq192, hl192⟩ := ts_la hS189.1 m191 hk_62
                      refine rs_last q192 hS189 hq192 hl192 hk_62 rfl rfl r93 (by decide) (by decide) dX10_seal_187 (fun w193 f194 hS194 hl194 hu194 hn194 => ?_)
                      have hl195 := ((hn194 _ (ts_ne hq192 hq159 rfl)).trans ((hn189 _ (ts_ne hq187 hq159 rfl)).trans ((hn185 _ (ts_ne hq183 hq159 rfl)).trans ((hn181 _ (ts_ne hq179 hq159 rfl)).trans ((hn177 _ (ts_ne hq175 hq159 rfl)).trans ((hn173 _ (ts_ne hq171 hq159 rfl)).trans ((hn169 _ (ts_ne hq167 hq159 rfl)).trans ((hn165 _ (ts_ne hq163 hq159 rfl)).trans hl161))))))))
                      refine rn_aload_n (i := 0) dX10_seal_188 rfl rfl ?_
                      obtain ⟨o196, hx196, m196⟩ := fs_r hf3 32 rfl
                      refine rn_get q1 kg_SGModel_86 ((hn194 _ (ts_ne hq192 hq1 rfl)).trans hl190) hx196 dX10_seal_189 ?_
                      refine rn_iload dX10_seal_192 rfl ?_
                      refine rn_lconst (v := (0 : Int64)) dX10_seal_194 (by decide) ?_
                      obtain ⟨q197, f197, hq197, hl197⟩ := ts_la hS194.1 m196 hk_63
                      refine rs_last q197 hS194 hq197 hl197 hk_63 rfl rfl r93 (by decide) (by decide) dX10_seal_195 (fun w198 f199 hS199 hl199 hu199 hn199 => ?_)
                      have hl200 := ((hn199 _ (ts_ne hq197 hq163 rfl)).trans ((hn194 _ (ts_ne hq192 hq163 rfl)).trans ((hn189 _ (ts_ne hq187 hq163 rfl)).trans ((hn185 _ (ts_ne hq183 hq163 rfl)).trans ((hn181 _ (ts_ne hq179 hq163 rfl)).trans ((hn177 _ (ts_ne hq175 hq163 rfl)).trans ((hn173 _ (ts_ne hq171 hq163 rfl)).trans ((hn169 _ (ts_ne hq167 hq163 rfl)).trans hl165))))))))
                      refine rn_aload_n (i := 0) dX10_seal_196 rfl rfl ?_
                      refine rn_dup dX10_seal_197 rfl ?_
                      refine rn_get q1 kg_SGModel_200 ((hn199 _ (ts_ne hq197 hq1 rfl)).trans ((hn194 _ (ts_ne hq192 hq1 rfl)).trans hl190)) hx84 dX10_seal_198 ?_
                      refine rn_iconst (v := (1 : Int32)) dX10_seal_201 (by decide) ?_
                      refine rs_addC (1) (16) r93 rk_1 dX10_seal_202 (by decide) (fun v201 ev201 rv201 => ?_)
                      refine rs_put q1 (kp_SGModel_200 _) hS199 hq1 ((hn199 _ (ts_ne hq197 hq1 rfl)).trans ((hn194 _ (ts_ne hq192 hq1 rfl)).trans hl190)) hf3 hk_30 rfl rfl (tv_i (rg_w rv201 (by decide) (by decide))) rfl rfl dX10_seal_203 (fun w202 fs203 hS203 hl203 hf203 hx203 ho203 hn203 => ?_)
                      have hl204 := ((hn203 _ (ts_ne hq1 hq167 rfl)).trans ((hn199 _ (ts_ne hq197 hq167 rfl)).trans ((hn194 _ (ts_ne hq192 hq167 rfl)).trans ((hn189 _ (ts_ne hq187 hq167 rfl)).trans ((hn185 _ (ts_ne hq183 hq167 rfl)).trans ((hn181 _ (ts_ne hq179 hq167 rfl)).trans ((hn177 _ (ts_ne hq175 hq167 rfl)).trans ((hn173 _ (ts_ne hq171 hq167 rfl)).trans hl169))))))))
                      refine rn_iload dX10_seal_206 rfl ?_
                      exact rn_iret dX10_seal_208 rfl rfl (rq_in ⟨hS203, x84, rfl, r93⟩)
                    · have ch152 := cv_nlt h152
                      have r205 : Rg (0) (15) v150 := rf_ley ch152 rk_0 rv150 (by decide)
                      refine rn_iconst (v := (1 : Int32)) dX10_seal_92 (by decide) ?_
                      refine rn_goto (tgt := 97) dX10_seal_93 (by decide) ?_
                      refine rn_iconst (v := (3 : Int32)) dX10_seal_97 (by decide) ?_
                      refine rn_inV (d' := 0) (z' := 0) [.int (1 : Int32), .int (3 : Int32)] kl_SGModel_171 dX10_seal_98 q1 hl3 rfl rfl rfl (Nat.le_of_ble_eq_true rfl) (Nat.le_of_ble_eq_true rfl) (Nat.le_of_ble_eq_true rfl) (Nat.le_of_ble_eq_true rfl) ?_
                      refine rn_lv [(0, .ref o0_), (1, .int (1 : Int32)), (2, .int (3 : Int32))] rfl ?_
                      refine rn_aload_n (i := 0) dX10_refuses_0 rfl rfl ?_
                      refine rn_get q1 kg_SGModel_137 hl3 hx3 dX10_refuses_1 ?_
                      refine rn_if_ne (tgt := 16) dX10_refuses_4 (by decide) (fun h206 => (cx_ne (cv_ne h206) rk_0 rk_0 (by decide)).elim) (fun h206 => ?_)
                      refine rn_iload_n (i := 1) dX10_refuses_7 rfl rfl ?_
                      refine rn_if_eq (tgt := 16) dX10_refuses_8 (by decide) (fun h207 => (cx_eq (cv_eq h207) rk_1 rk_0 (by decide)).elim) (fun h207 => ?_)
                      refine rn_aload_n (i := 0) dX10_refuses_11 rfl rfl ?_
                      refine rn_iload_n (i := 2) dX10_refuses_12 rfl rfl ?_
                      refine rs_put q1 (kp_SGModel_137 _) hS3 hq1 hl3 hf3 hk_30 rfl rfl (tv_i (rg_w rk_3 (by decide) (by decide))) rfl rfl dX10_refuses_13 (fun w208 fs209 hS209 hl209 hf209 hx209 ho209 hn209 => ?_)
                      refine rn_aload_n (i := 0) dX10_refuses_16 rfl rfl ?_
                      refine rn_get q1 kg_SGModel_137 hl209 hx209 dX10_refuses_17 ?_
                      refine rn_if_le (tgt := 27) dX10_refuses_20 (by decide) (fun h210 => (cx_le (cv_le h210) rk_3 rk_0 (by decide)).elim) (fun h210 => ?_)
                      refine rn_iconst (v := (1 : Int32)) dX10_refuses_23 (by decide) ?_
                      refine rn_goto (tgt := 28) dX10_refuses_24 (by decide) ?_
                      refine rn_iret dX10_refuses_28 rfl rfl (rq_in ?_)
                      refine rn_stk [.int (1 : Int32)] rfl ?_
                      refine rn_if_eq (tgt := 106) dX10_seal_101 (by decide) (fun h211 => (cx_eq (cv_eq h211) rk_1 rk_0 (by decide)).elim) (fun h211 => ?_)
                      refine rn_iconst (v := (0 : Int32)) dX10_seal_104 (by decide) ?_
                      exact rn_iret dX10_seal_105 rfl rfl (rq_in ⟨hS209, (0 : Int32), rfl, (rg_w rk_0 (by decide) (by decide))⟩)
