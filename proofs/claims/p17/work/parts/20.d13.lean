abbrev q_t_X9_latestUsable (G : rn_G) (S : ts_S) (ws : va_W) : rn_R → va_W → Prop := rQ (fun v w => ws = w ∧ ((v = some .null) ∨ (∃ o : Nat, v = some (.ref o) ∧ (o, 8) ∈ S))) (fun E w => False)
set_option maxRecDepth 20000 in
set_option maxHeartbeats 4000000 in
theorem t_X9_latestUsable (G : rn_G) (S : ts_S) (ws : va_W) (hW : ts_W G S ws) (o0_ : Nat) (m0_ : (o0_, 9) ∈ S) (x1_ : Int32) : Rn G mX9_latestUsable 2 41 0 0 0 (lv_args 0 [.ref o0_, .int x1_]) [] ws (q_t_X9_latestUsable G S ws ) := by
  refine rn_lv [(0, .ref o0_), (1, .int x1_)] rfl ?_
  refine rn_aload_n (i := 0) dX9_latestUsable_0 rfl rfl ?_
  obtain ⟨q1, fs1, hq1, hl1, hf1⟩ := ts_obj hW m0_ hk_9
  obtain ⟨x2, hx2, rx2⟩ := fs_i hf1 11 rfl
  refine rn_get q1 kg_SG_178 hl1 hx2 dX9_latestUsable_1 ?_
  refine rn_bipush (v := (16 : Int32)) dX9_latestUsable_4 (by decide) ?_
  refine rn_mmin kl_SG_336 dX9_latestUsable_6 (Nat.le_of_ble_eq_true rfl) (Nat.le_of_ble_eq_true rfl) (Nat.le_of_ble_eq_true rfl) (rn_tn (0) (16) (rg_min rx2 rk_16 (by decide)) (fun v3 rv3 => ?_))
  refine rn_iconst (v := (1 : Int32)) dX9_latestUsable_9 (by decide) ?_
  refine rs_subC (-1) (15) rv3 rk_1 dX9_latestUsable_10 (by decide) (fun v4 ev4 rv4 => ?_)
  refine rn_istore_n dX9_latestUsable_11 rfl (by decide) [(0, .ref o0_), (1, .int x1_), (2, .int v4)] rfl ?_
  have LP6 : ∀ (n : Nat) (x5 : Int32), Rg (-1) (15) x5 → (x5.toInt - (-1)).toNat = n → Rn G mX9_latestUsable 2 41 0 0 12 [(0, .ref o0_), (1, .int x1_), (2, .int x5)] [] ws (q_t_X9_latestUsable G S ws ) := by
    intro n
    induction n using Nat.strongRecOn with
    | _ n ih =>
      intro x5 r8 hm9
      refine rn_iload_n (i := 2) dX9_latestUsable_12 rfl rfl ?_
      refine rn_if_lt (tgt := 43) dX9_latestUsable_13 (by decide) (fun h10 => ?_) (fun h10 => ?_)
      · have ch10 := cv_lt h10
        have r11 : Rg (-1) (-1) x5 := rf_ltx ch10 r8 rk_0 (by decide)
        refine rn_null dX9_latestUsable_43 ?_
        exact rn_aretN dX9_latestUsable_44 rfl (rq_in ⟨rfl, Or.inl rfl⟩)
      · have ch10 := cv_nlt h10
        have r12 : Rg (0) (15) x5 := rf_ley ch10 rk_0 r8 (by decide)
        refine rn_aload_n (i := 0) dX9_latestUsable_16 rfl rfl ?_
        obtain ⟨o13, hx13, m13⟩ := fs_r hf1 10 rfl
        refine rn_get q1 kg_SG_52 hl1 hx13 dX9_latestUsable_17 ?_
        refine rn_iload_n (i := 2) dX9_latestUsable_20 rfl rfl ?_
        obtain ⟨q14, f14, hq14, hl14, hf14⟩ := ts_ra hW m13 hk_19
        refine rs_aald q14 hl14 hf14 rfl r12 (by decide) (by decide) dX9_latestUsable_21 ?_ (fun o15 mo15 => ?_)
        · refine rn_astore_nN dX9_latestUsable_22 rfl (by decide) [(0, .ref o0_), (1, .int x1_), (2, .int x5), (3, .null)] rfl ?_
          refine rn_aload_nN (i := 3) dX9_latestUsable_23 rfl rfl ?_
          refine rn_ifnullN (tgt := 37) dX9_latestUsable_24 (by decide) ?_
          refine rs_iinc (-1) (14) dX9_latestUsable_37 rfl (by decide) r12 rk_m1 (by decide) (fun v16 => [(0, .ref o0_), (1, .int x1_), (2, .int v16), (3, .null)]) (fun _ => rfl) (fun v16 ev16 rv16 => ?_)
          refine rn_goto (tgt := 12) dX9_latestUsable_40 (by decide) ?_
          refine rn_lv [(0, .ref o0_), (1, .int x1_), (2, .int v16)] rfl ?_
          exact ih _ (lp_dec hm9 ev16 rv16 (by decide)) v16 (rg_w rv16 (by decide) (by decide)) rfl
        · refine rn_astore_n dX9_latestUsable_22 rfl (by decide) [(0, .ref o0_), (1, .int x1_), (2, .int x5), (3, .ref o15)] rfl ?_
          refine rn_aload_n (i := 3) dX9_latestUsable_23 rfl rfl ?_
          refine rn_ifnull dX9_latestUsable_24 ?_
          refine rn_aload_n (i := 3) dX9_latestUsable_27 rfl rfl ?_
          refine rn_iload_n (i := 1) dX9_latestUsable_28 rfl rfl ?_
          obtain ⟨q17, fs17, hq17, hl17, hf17⟩ := ts_obj hW mo15 hk_8
          refine rn_callV (a := 0) (b := 0) [.int x1_] kl_SG_341 dX9_latestUsable_29 q17 hl17 rfl (t_X8_canClose G S ws hW o15 mo15 x1_) rfl rfl (Nat.le_of_ble_eq_true rfl) (Nat.le_of_ble_eq_true rfl) (Nat.le_of_ble_eq_true rfl) (Nat.le_of_ble_eq_true rfl) (Nat.le_of_ble_eq_true rfl) (Nat.le_of_ble_eq_true rfl) (fun _ _ h => False.elim h) (fun v9 w18 h19 => ?_)
          obtain ⟨rfl, v20, rfl, rv20⟩ := h19
          refine rn_stk [.int v20] rfl ?_
          refine rn_if_eq (tgt := 37) dX9_latestUsable_32 (by decide) (fun h22 => ?_) (fun h22 => ?_)
          · have ch22 := cv_eq h22
            have r23 : Rg (0) (0) v20 := rf_eqx ch22 rv20 rk_0 (by decide) (by decide)
            refine rs_iinc (-1) (14) dX9_latestUsable_37 rfl (by decide) r12 rk_m1 (by decide) (fun v24 => [(0, .ref o0_), (1, .int x1_), (2, .int v24), (3, .ref o15)]) (fun _ => rfl) (fun v24 ev24 rv24 => ?_)
            refine rn_goto (tgt := 12) dX9_latestUsable_40 (by decide) ?_
            refine rn_lv [(0, .ref o0_), (1, .int x1_), (2, .int v24)] rfl ?_
            exact ih _ (lp_dec hm9 ev24 rv24 (by decide)) v24 (rg_w rv24 (by decide) (by decide)) rfl
          · have ch22 := cv_ne h22
            have r25 : Rg (1) (1) v20 := rf_nel ch22 rv20 rk_0 (by decide) (by decide)
            refine rn_aload_n (i := 3) dX9_latestUsable_35 rfl rfl ?_
            exact rn_aret dX9_latestUsable_36 rfl (rq_in ⟨rfl, Or.inr ⟨o15, rfl, mo15⟩⟩)
  exact LP6 _ v4 rv4 rfl
abbrev q_t_X9_peerOf (G : rn_G) (S : ts_S) (ws : va_W) : rn_R → va_W → Prop := rQ (fun v w => ws = w ∧ (∃ x : Int32, v = some (.int x) ∧ Rg (-2147483648) (2147483647) x)) (fun E w => False)
set_option maxRecDepth 20000 in
set_option maxHeartbeats 4000000 in
theorem t_X9_peerOf (G : rn_G) (S : ts_S) (ws : va_W) (hW : ts_W G S ws) (o0_ : Nat) (m0_ : (o0_, 9) ∈ S) (x1_ : Int32) : Rn G mX9_peerOf 1 20 0 0 0 (lv_args 0 [.ref o0_, .int x1_]) [] ws (q_t_X9_peerOf G S ws ) := by
  refine rn_lv [(0, .ref o0_), (1, .int x1_)] rfl ?_
  refine rn_iload_n (i := 1) dX9_peerOf_0 rfl rfl ?_
  refine rn_inS (d' := 0) (z' := 0) [.int x1_] kl_SG_155 dX9_peerOf_1 rfl rfl (Nat.le_of_ble_eq_true rfl) (Nat.le_of_ble_eq_true rfl) (Nat.le_of_ble_eq_true rfl) (Nat.le_of_ble_eq_true rfl) ?_
  refine rn_lv [(0, .int x1_)] rfl ?_
  refine rn_iload_n (i := 0) dX9_isTunnel_0 rfl rfl ?_
  refine rn_if_lt (tgt := 13) dX9_isTunnel_1 (by decide) (fun h1 => ?_) (fun h1 => ?_)
  · have ch1 := cv_lt h1
    have r2 : Rg (-2147483648) (-1) x1_ := rf_ltx ch1 (rg_any x1_) rk_0 (by decide)
    refine rn_iconst (v := (0 : Int32)) dX9_isTunnel_13 (by decide) ?_
    refine rn_iret dX9_isTunnel_14 rfl rfl (rq_in ?_)
    refine rn_stk [.int (0 : Int32)] rfl ?_
    refine rn_if_eq (tgt := 16) dX9_peerOf_4 (by decide) (fun h3 => ?_) (fun h3 => (cx_ne (cv_ne h3) rk_0 rk_0 (by decide)).elim)
    refine rn_iconst (v := (0 : Int32)) dX9_peerOf_16 (by decide) ?_
    exact rn_iret dX9_peerOf_17 rfl rfl (rq_in ⟨rfl, (0 : Int32), rfl, (rg_w rk_0 (by decide) (by decide))⟩)
  · have ch1 := cv_nlt h1
    have r4 : Rg (0) (2147483647) x1_ := rf_ley ch1 rk_0 (rg_any x1_) (by decide)
    refine rn_iload_n (i := 0) dX9_isTunnel_4 rfl rfl ?_
    refine rn_iconst (v := (4 : Int32)) dX9_isTunnel_5 (by decide) ?_
    refine rn_icmp_ge (tgt := 13) dX9_isTunnel_6 (by decide) (fun h5 => ?_) (fun h5 => ?_)
    · have ch5 := cv_le h5
      have r6 : Rg (4) (2147483647) x1_ := rf_ley ch5 rk_4 r4 (by decide)
      refine rn_iconst (v := (0 : Int32)) dX9_isTunnel_13 (by decide) ?_
      refine rn_iret dX9_isTunnel_14 rfl rfl (rq_in ?_)
      refine rn_stk [.int (0 : Int32)] rfl ?_
      refine rn_if_eq (tgt := 16) dX9_peerOf_4 (by decide) (fun h7 => ?_) (fun h7 => (cx_ne (cv_ne h7) rk_0 rk_0 (by decide)).elim)
      refine rn_iconst (v := (0 : Int32)) dX9_peerOf_16 (by decide) ?_
      exact rn_iret dX9_peerOf_17 rfl rfl (rq_in ⟨rfl, (0 : Int32), rfl, (rg_w rk_0 (by decide) (by decide))⟩)
    · have ch5 := cv_nle h5
      have r8 : Rg (0) (3) x1_ := rf_ltx ch5 r4 rk_4 (by decide)
      refine rn_iconst (v := (1 : Int32)) dX9_isTunnel_9 (by decide) ?_
      refine rn_goto (tgt := 14) dX9_isTunnel_10 (by decide) ?_
      refine rn_iret dX9_isTunnel_14 rfl rfl (rq_in ?_)
      refine rn_stk [.int (1 : Int32)] rfl ?_
      refine rn_if_eq (tgt := 16) dX9_peerOf_4 (by decide) (fun h9 => (cx_eq (cv_eq h9) rk_1 rk_0 (by decide)).elim) (fun h9 => ?_)
      refine rn_aload_n (i := 0) dX9_peerOf_7 rfl rfl ?_
      obtain ⟨q10, fs10, hq10, hl10, hf10⟩ := ts_obj hW m0_ hk_9
      obtain ⟨o11, hx11, m11⟩ := fs_r hf10 9 rfl
      refine rn_get q10 kg_SG_46 hl10 hx11 dX9_peerOf_8 ?_
      refine rn_iload_n (i := 1) dX9_peerOf_11 rfl rfl ?_
      obtain ⟨q12, f12, hq12, hl12, hf12⟩ := ts_ia hW m11 hk_18
      refine rs_iald q12 hl12 hf12 rfl r8 (by decide) (by decide) dX9_peerOf_12 (fun v13 ev13 rv13 => ?_)
      refine rn_goto (tgt := 17) dX9_peerOf_13 (by decide) ?_
      exact rn_iret dX9_peerOf_17 rfl rfl (rq_in ⟨rfl, v13, rfl, rv13⟩)
abbrev q_t_X9_send (G : rn_G) (S : ts_S) (ws : va_W) : rn_R → va_W → Prop := rQ (fun v w => St G S [4, 9, 11] ws S w ∧ (v = none)) (fun E w => False)
set_option maxRecDepth 20000 in
set_option maxHeartbeats 4000000 in
theorem t_X9_send (G : rn_G) (S : ts_S) (ws : va_W) (hW : ts_W G S ws) (o0_ : Nat) (m0_ : (o0_, 9) ∈ S) (o1_ : Nat) (m1_ : (o1_, 4) ∈ S) (x2_ : Int32) : Rn G mX9_send 3 107 0 0 0 (lv_args 0 [.ref o0_, .ref o1_, .int x2_]) [] ws (q_t_X9_send G S ws ) := by
  have hS0 : St G S [4, 9, 11] ws S ws := St.rf hW
  refine rn_lv [(0, .ref o0_), (1, .ref o1_), (2, .int x2_)] rfl ?_
  refine rn_aload_n (i := 0) dX9_send_0 rfl rfl ?_
  refine rn_iload_n (i := 2) dX9_send_1 rfl rfl ?_
  obtain ⟨q1, fs1, hq1, hl1, hf1⟩ := ts_obj hS0.1 m0_ hk_9
  refine rs_put q1 (kp_SG_28 _) hS0 hq1 hl1 hf1 hk_9 rfl rfl (tv_i (rg_any x2_)) rfl rfl dX9_send_2 (fun w2 fs3 hS3 hl3 hf3 hx3 ho3 hn3 => ?_)
  refine rn_aload_n (i := 1) dX9_send_5 rfl rfl ?_
  obtain ⟨q4, fs4, hq4, hl4, hf4⟩ := ts_obj hS3.1 m1_ hk_4
  refine rn_callV (a := 0) (b := 0) [] kl_SG_76 dX9_send_6 q4 hl4 rfl (t_X4_size G S w2 hS3.1 o1_ m1_) rfl rfl (Nat.le_of_ble_eq_true rfl) (Nat.le_of_ble_eq_true rfl) (Nat.le_of_ble_eq_true rfl) (Nat.le_of_ble_eq_true rfl) (Nat.le_of_ble_eq_true rfl) (Nat.le_of_ble_eq_true rfl) (fun _ _ h => False.elim h) (fun v9 w5 h6 => ?_)
  obtain ⟨rfl, v7, rfl, rv7⟩ := h6
  refine rn_stk [.int v7] rfl ?_
  refine rn_sipush (v := (1500 : Int32)) dX9_send_9 (by decide) ?_
  refine rn_icmp_gt (tgt := 32) dX9_send_12 (by decide) (fun h9 => ?_) (fun h9 => ?_)
  · have ch9 := cv_lt h9
    have r10 : Rg (1501) (2040) v7 := rf_lty ch9 rk_1500 rv7 (by decide)
    refine rn_aload_n (i := 0) dX9_send_32 rfl rfl ?_
    obtain ⟨o11, hx11, m11⟩ := fs_r hf3 4 rfl
    refine rn_get q1 kg_SG_22 hl3 hx11 dX9_send_33 ?_
    refine rn_aload_n (i := 1) dX9_send_36 rfl rfl ?_
    refine rn_iconst (v := (0 : Int32)) dX9_send_37 (by decide) ?_
    refine rn_sipush (v := (1480 : Int32)) dX9_send_38 (by decide) ?_
    obtain ⟨q12, fs12, hq12, hl12, hf12⟩ := ts_obj hS3.1 m11 hk_4
    refine rn_callV (a := 0) (b := 0) [.ref o1_, .int (0 : Int32), .int (1480 : Int32)] kl_SG_412 dX9_send_41 q12 hl12 rfl (t_X4_becomePart G S w2 hS3.1 o11 m11 o1_ m1_ (0 : Int32) (1480 : Int32)) rfl rfl (Nat.le_of_ble_eq_true rfl) (Nat.le_of_ble_eq_true rfl) (Nat.le_of_ble_eq_true rfl) (Nat.le_of_ble_eq_true rfl) (Nat.le_of_ble_eq_true rfl) (Nat.le_of_ble_eq_true rfl) (fun _ _ h => False.elim h) (fun v9 w13 h14 => ?_)
    obtain ⟨hT15, rfl⟩ := h14
    have hS15 := St.tr hS3 hT15 rfl
    refine rn_stk [] rfl ?_
    refine rn_aload_n (i := 0) dX9_send_44 rfl rfl ?_
    refine rn_get q1 kg_SG_22 (hT15.fr hq1 rfl hl3) hx11 dX9_send_45 ?_
    obtain ⟨q16, fs16, hq16, hl16, hf16⟩ := ts_obj hS15.1 m11 hk_4
    refine rn_callV (a := 0) (b := 0) [] kl_SG_416 dX9_send_48 q16 hl16 rfl (t_X4_setMore G S w13 hS15.1 o11 m11) rfl rfl (Nat.le_of_ble_eq_true rfl) (Nat.le_of_ble_eq_true rfl) (Nat.le_of_ble_eq_true rfl) (Nat.le_of_ble_eq_true rfl) (Nat.le_of_ble_eq_true rfl) (Nat.le_of_ble_eq_true rfl) (fun _ _ h => False.elim h) (fun v9 w17 h18 => ?_)
    obtain ⟨hT19, rfl⟩ := h18
    have hS19 := St.tr hS15 hT19 rfl
    refine rn_stk [] rfl ?_
    refine rn_aload_n (i := 0) dX9_send_51 rfl rfl ?_
    refine rn_get q1 kg_SG_22 (hT19.fr hq1 rfl (hT15.fr hq1 rfl hl3)) hx11 dX9_send_52 ?_
    refine rn_callV (a := 0) (b := 0) [] kl_SG_128 dX9_send_55 q16 (hT19.fr hq16 rfl hl16) rfl (t_X4_mendSum G S w17 hS19.1 o11 m11) rfl rfl (Nat.le_of_ble_eq_true rfl) (Nat.le_of_ble_eq_true rfl) (Nat.le_of_ble_eq_true rfl) (Nat.le_of_ble_eq_true rfl) (Nat.le_of_ble_eq_true rfl) (Nat.le_of_ble_eq_true rfl) (fun _ _ h => False.elim h) (fun v9 w20 h21 => ?_)
    obtain ⟨hT23, v22, rfl, rv22⟩ := h21
    have hS23 := St.tr hS19 hT23 rfl
    refine rn_stk [.int v22] rfl ?_
    refine rn_pop dX9_send_58 rfl ?_
    refine rn_aload_n (i := 0) dX9_send_59 rfl rfl ?_
    obtain ⟨o24, hx24, m24⟩ := fs_r hf3 5 rfl
    refine rn_get q1 kg_SG_25 (hT23.fr hq1 rfl (hT19.fr hq1 rfl (hT15.fr hq1 rfl hl3))) hx24 dX9_send_60 ?_
    refine rn_aload_n (i := 1) dX9_send_63 rfl rfl ?_
    refine rn_sipush (v := (1480 : Int32)) dX9_send_64 (by decide) ?_
    refine rn_aload_n (i := 1) dX9_send_67 rfl rfl ?_
    obtain ⟨q25, fs25, hq25, hl25, hf25⟩ := ts_obj hS23.1 m1_ hk_4
    refine rn_callV (a := 0) (b := 0) [] kl_SG_76 dX9_send_68 q25 hl25 rfl (t_X4_size G S w20 hS23.1 o1_ m1_) rfl rfl (Nat.le_of_ble_eq_true rfl) (Nat.le_of_ble_eq_true rfl) (Nat.le_of_ble_eq_true rfl) (Nat.le_of_ble_eq_true rfl) (Nat.le_of_ble_eq_true rfl) (Nat.le_of_ble_eq_true rfl) (fun _ _ h => False.elim h) (fun v9 w26 h27 => ?_)
    obtain ⟨rfl, v28, rfl, rv28⟩ := h27
    refine rn_stk [.int v28, .int (1480 : Int32), .ref o1_, .ref o24] rfl ?_
    refine rn_bipush (v := (20 : Int32)) dX9_send_71 (by decide) ?_
    refine rs_subC (-20) (2020) rv28 rk_20 dX9_send_73 (by decide) (fun v30 ev30 rv30 => ?_)
    refine rn_sipush (v := (1480 : Int32)) dX9_send_74 (by decide) ?_
    refine rs_subC (-1500) (540) rv30 rk_1480 dX9_send_77 (by decide) (fun v31 ev31 rv31 => ?_)
    obtain ⟨q32, fs32, hq32, hl32, hf32⟩ := ts_obj hS23.1 m24 hk_4
    refine rn_callV (a := 0) (b := 0) [.ref o1_, .int (1480 : Int32), .int v31] kl_SG_412 dX9_send_78 q32 hl32 rfl (t_X4_becomePart G S w20 hS23.1 o24 m24 o1_ m1_ (1480 : Int32) v31) rfl rfl (Nat.le_of_ble_eq_true rfl) (Nat.le_of_ble_eq_true rfl) (Nat.le_of_ble_eq_true rfl) (Nat.le_of_ble_eq_true rfl) (Nat.le_of_ble_eq_true rfl) (Nat.le_of_ble_eq_true rfl) (fun _ _ h => False.elim h) (fun v9 w33 h34 => ?_)
    obtain ⟨hT35, rfl⟩ := h34
    have hS35 := St.tr hS23 hT35 rfl
    refine rn_stk [] rfl ?_
    refine rn_aload_n (i := 0) dX9_send_81 rfl rfl ?_
    refine rn_get q1 kg_SG_25 (hT35.fr hq1 rfl (hT23.fr hq1 rfl (hT19.fr hq1 rfl (hT15.fr hq1 rfl hl3)))) hx24 dX9_send_82 ?_
    refine rn_sipush (v := (185 : Int32)) dX9_send_85 (by decide) ?_
    obtain ⟨q36, fs36, hq36, hl36, hf36⟩ := ts_obj hS35.1 m24 hk_4
    refine rn_callV (a := 0) (b := 0) [.int (185 : Int32)] kl_SG_419 dX9_send_88 q36 hl36 rfl (t_X4_moveOffset G S w33 hS35.1 o24 m24 (185 : Int32)) rfl rfl (Nat.le_of_ble_eq_true rfl) (Nat.le_of_ble_eq_true rfl) (Nat.le_of_ble_eq_true rfl) (Nat.le_of_ble_eq_true rfl) (Nat.le_of_ble_eq_true rfl) (Nat.le_of_ble_eq_true rfl) (fun _ _ h => False.elim h) (fun v9 w37 h38 => ?_)
    obtain ⟨hT39, rfl⟩ := h38
    have hS39 := St.tr hS35 hT39 rfl
    refine rn_stk [] rfl ?_
    refine rn_aload_n (i := 0) dX9_send_91 rfl rfl ?_
    refine rn_get q1 kg_SG_25 (hT39.fr hq1 rfl (hT35.fr hq1 rfl (hT23.fr hq1 rfl (hT19.fr hq1 rfl (hT15.fr hq1 rfl hl3))))) hx24 dX9_send_92 ?_
    refine rn_callV (a := 0) (b := 0) [] kl_SG_128 dX9_send_95 q36 (hT39.fr hq36 rfl hl36) rfl (t_X4_mendSum G S w37 hS39.1 o24 m24) rfl rfl (Nat.le_of_ble_eq_true rfl) (Nat.le_of_ble_eq_true rfl) (Nat.le_of_ble_eq_true rfl) (Nat.le_of_ble_eq_true rfl) (Nat.le_of_ble_eq_true rfl) (Nat.le_of_ble_eq_true rfl) (fun _ _ h => False.elim h) (fun v9 w40 h41 => ?_)
    obtain ⟨hT43, v42, rfl, rv42⟩ := h41
    have hS43 := St.tr hS39 hT43 rfl
    refine rn_stk [.int v42] rfl ?_
    refine rn_pop dX9_send_98 rfl ?_
    exact rn_vret dX9_send_99 rfl (rq_in ⟨hS43, rfl⟩)
  · have ch9 := cv_nlt h9
    have r44 : Rg (0) (1500) v7 := rf_lex ch9 rv7 rk_1500 (by decide)
    refine rn_aload_n (i := 0) dX9_send_15 rfl rfl ?_
    obtain ⟨o45, hx45, m45⟩ := fs_r hf3 4 rfl
    refine rn_get q1 kg_SG_22 hl3 hx45 dX9_send_16 ?_
    refine rn_aload_n (i := 1) dX9_send_19 rfl rfl ?_
    obtain ⟨q46, fs46, hq46, hl46, hf46⟩ := ts_obj hS3.1 m45 hk_4
    refine rn_callV (a := 0) (b := 0) [.ref o1_] kl_SG_214 dX9_send_20 q46 hl46 rfl (t_X4_copy G S w2 hS3.1 o45 m45 o1_ m1_) rfl rfl (Nat.le_of_ble_eq_true rfl) (Nat.le_of_ble_eq_true rfl) (Nat.le_of_ble_eq_true rfl) (Nat.le_of_ble_eq_true rfl) (Nat.le_of_ble_eq_true rfl) (Nat.le_of_ble_eq_true rfl) (fun _ _ h => False.elim h) (fun v9 w47 h48 => ?_)
    obtain ⟨hT49, rfl⟩ := h48
    have hS49 := St.tr hS3 hT49 rfl
    refine rn_stk [] rfl ?_
    refine rn_aload_n (i := 0) dX9_send_23 rfl rfl ?_
    obtain ⟨o50, hx50, m50⟩ := fs_r hf3 5 rfl
    refine rn_get q1 kg_SG_25 (hT49.fr hq1 rfl hl3) hx50 dX9_send_24 ?_
    refine rn_iconst (v := (0 : Int32)) dX9_send_27 (by decide) ?_
    obtain ⟨q51, fs51, hq51, hl51, hf51⟩ := ts_obj hS49.1 m50 hk_4
    refine rn_callV (a := 0) (b := 0) [.int (0 : Int32)] kl_SG_87 dX9_send_28 q51 hl51 rfl (t_X4_resize G S w47 hS49.1 o50 m50 (0 : Int32)) rfl rfl (Nat.le_of_ble_eq_true rfl) (Nat.le_of_ble_eq_true rfl) (Nat.le_of_ble_eq_true rfl) (Nat.le_of_ble_eq_true rfl) (Nat.le_of_ble_eq_true rfl) (Nat.le_of_ble_eq_true rfl) (fun _ _ h => False.elim h) (fun v9 w52 h53 => ?_)
    obtain ⟨hT54, rfl⟩ := h53
    have hS54 := St.tr hS49 hT54 rfl
    refine rn_stk [] rfl ?_
    exact rn_vret dX9_send_31 rfl (rq_in ⟨hS54, rfl⟩)
abbrev q_t_X9_sealInto (G : rn_G) (S : ts_S) (ws : va_W) : rn_R → va_W → Prop := rQ (fun v w => St G S [4, 8, 9, 11] ws S w ∧ (∃ x : Int32, v = some (.int x) ∧ Rg (0) (6) x)) (fun E w => False)
set_option maxRecDepth 20000 in
set_option maxHeartbeats 4000000 in
theorem t_X9_sealInto (G : rn_G) (S : ts_S) (ws : va_W) (hW : ts_W G S ws) (o0_ : Nat) (m0_ : (o0_, 9) ∈ S) (x1_ : Int32) : Rn G mX9_sealInto 4 129 0 0 0 (lv_args 0 [.ref o0_, .int x1_]) [] ws (q_t_X9_sealInto G S ws ) := by
  have hS0 : St G S [4, 8, 9, 11] ws S ws := St.rf hW
  refine rn_lv [(0, .ref o0_), (1, .int x1_)] rfl ?_
  refine rn_aload_n (i := 0) dX9_sealInto_0 rfl rfl ?_
  refine rn_iload_n (i := 1) dX9_sealInto_1 rfl rfl ?_
  obtain ⟨q1, fs1, hq1, hl1, hf1⟩ := ts_obj hS0.1 m0_ hk_9
  refine rn_callV (a := 0) (b := 0) [.int x1_] kl_SG_309 dX9_sealInto_2 q1 hl1 rfl (t_X9_latestUsable G S ws hS0.1 o0_ m0_ x1_) rfl rfl (Nat.le_of_ble_eq_true rfl) (Nat.le_of_ble_eq_true rfl) (Nat.le_of_ble_eq_true rfl) (Nat.le_of_ble_eq_true rfl) (Nat.le_of_ble_eq_true rfl) (Nat.le_of_ble_eq_true rfl) (fun _ _ h => False.elim h) (fun v9 w2 h3 => ?_)
  obtain ⟨rfl, (rfl | ⟨o4, rfl, mo4⟩)⟩ := h3
  · refine rn_stk [.null] rfl ?_
    refine rn_astore_nN dX9_sealInto_5 rfl (by decide) [(0, .ref o0_), (1, .int x1_), (2, .null)] rfl ?_
    refine rn_aload_nN (i := 2) dX9_sealInto_6 rfl rfl ?_
    refine rn_ifnonnullN dX9_sealInto_7 ?_
    refine rn_iconst (v := (5 : Int32)) dX9_sealInto_10 (by decide) ?_
    exact rn_iret dX9_sealInto_11 rfl rfl (rq_in ⟨hS0, (5 : Int32), rfl, (rg_w rk_5 (by decide) (by decide))⟩)
  · refine rn_stk [.ref o4] rfl ?_
    refine rn_astore_n dX9_sealInto_5 rfl (by decide) [(0, .ref o0_), (1, .int x1_), (2, .ref o4)] rfl ?_
    refine rn_aload_n (i := 2) dX9_sealInto_6 rfl rfl ?_
    refine rn_ifnonnull (tgt := 12) dX9_sealInto_7 (by decide) ?_
    refine rn_aload_n (i := 0) dX9_sealInto_12 rfl rfl ?_
    obtain ⟨o6, hx6, m6⟩ := fs_r hf1 3 rfl
    refine rn_get q1 kg_SG_19 hl1 hx6 dX9_sealInto_13 ?_
    refine rn_aload_n (i := 2) dX9_sealInto_16 rfl rfl ?_
    refine rn_aload_n (i := 0) dX9_sealInto_17 rfl rfl ?_
    obtain ⟨o7, hx7, m7⟩ := fs_r hf1 2 rfl
    refine rn_get q1 kg_SG_16 hl1 hx7 dX9_sealInto_18 ?_
    obtain ⟨q8, fs8, hq8, hl8, hf8⟩ := ts_obj hS0.1 mo4 hk_8
    refine rn_callV (a := 0) (b := 0) [.ref o7] kl_SG_312 dX9_sealInto_21 q8 hl8 rfl (t_X8_sealedSize G S ws hS0.1 o4 mo4 o7 m7) rfl rfl (Nat.le_of_ble_eq_true rfl) (Nat.le_of_ble_eq_true rfl) (Nat.le_of_ble_eq_true rfl) (Nat.le_of_ble_eq_true rfl) (Nat.le_of_ble_eq_true rfl) (Nat.le_of_ble_eq_true rfl) (fun _ _ h => False.elim h) (fun v9 w9 h10 => ?_)
    obtain ⟨rfl, v11, rfl, rv11⟩ := h10
    refine rn_stk [.int v11, .ref o6] rfl ?_
    obtain ⟨q13, fs13, hq13, hl13, hf13⟩ := ts_obj hS0.1 m6 hk_4
    refine rn_callV (a := 0) (b := 0) [.int v11] kl_SG_87 dX9_sealInto_24 q13 hl13 rfl (t_X4_resize G S ws hS0.1 o6 m6 v11) rfl rfl (Nat.le_of_ble_eq_true rfl) (Nat.le_of_ble_eq_true rfl) (Nat.le_of_ble_eq_true rfl) (Nat.le_of_ble_eq_true rfl) (Nat.le_of_ble_eq_true rfl) (Nat.le_of_ble_eq_true rfl) (fun _ _ h => False.elim h) (fun v9 w14 h15 => ?_)
    obtain ⟨hT16, rfl⟩ := h15
    have hS16 := St.tr hS0 hT16 rfl
    refine rn_stk [] rfl ?_
    refine rn_aload_n (i := 0) dX9_sealInto_27 rfl rfl ?_
    refine rn_get q1 kg_SG_19 (hT16.fr hq1 rfl hl1) hx6 dX9_sealInto_28 ?_
    refine rn_aload_n (i := 0) dX9_sealInto_31 rfl rfl ?_
    obtain ⟨x17, hx17, rx17⟩ := fs_i hf1 0 rfl
    refine rn_get q1 kg_SG_73 (hT16.fr hq1 rfl hl1) hx17 dX9_sealInto_32 ?_
    refine rn_aload_n (i := 0) dX9_sealInto_35 rfl rfl ?_
    refine rn_iload_n (i := 1) dX9_sealInto_36 rfl rfl ?_
    refine rn_callV (a := 0) (b := 0) [.int x1_] kl_SG_316 dX9_sealInto_37 q1 (hT16.fr hq1 rfl hl1) rfl (t_X9_peerOf G S w14 hS16.1 o0_ m0_ x1_) rfl rfl (Nat.le_of_ble_eq_true rfl) (Nat.le_of_ble_eq_true rfl) (Nat.le_of_ble_eq_true rfl) (Nat.le_of_ble_eq_true rfl) (Nat.le_of_ble_eq_true rfl) (Nat.le_of_ble_eq_true rfl) (fun _ _ h => False.elim h) (fun v9 w18 h19 => ?_)
    obtain ⟨rfl, v20, rfl, rv20⟩ := h19
    refine rn_stk [.int v20, .int x17, .ref o6] rfl ?_
    refine rn_bipush (v := (50 : Int32)) dX9_sealInto_40 (by decide) ?_
    refine rn_bipush (v := (64 : Int32)) dX9_sealInto_42 (by decide) ?_
    obtain ⟨q22, fs22, hq22, hl22, hf22⟩ := ts_obj hS16.1 m6 hk_4
    refine rn_callV (a := 0) (b := 0) [.int x17, .int v20, .int (50 : Int32), .int (64 : Int32)] kl_SG_124 dX9_sealInto_44 q22 hl22 rfl (t_X4_writeHead G S w14 hS16.1 o6 m6 x17 v20 (50 : Int32) (64 : Int32)) rfl rfl (Nat.le_of_ble_eq_true rfl) (Nat.le_of_ble_eq_true rfl) (Nat.le_of_ble_eq_true rfl) (Nat.le_of_ble_eq_true rfl) (Nat.le_of_ble_eq_true rfl) (Nat.le_of_ble_eq_true rfl) (fun _ _ h => False.elim h) (fun v9 w23 h24 => ?_)
    obtain ⟨hT25, rfl⟩ := h24
    have hS25 := St.tr hS16 hT25 rfl
    refine rn_stk [] rfl ?_
    refine rn_aload_n (i := 0) dX9_sealInto_47 rfl rfl ?_
    refine rn_get q1 kg_SG_19 (hT25.fr hq1 rfl (hT16.fr hq1 rfl hl1)) hx6 dX9_sealInto_48 ?_
    refine rn_aload_n (i := 0) dX9_sealInto_51 rfl rfl ?_
    refine rn_get q1 kg_SG_16 (hT25.fr hq1 rfl (hT16.fr hq1 rfl hl1)) hx7 dX9_sealInto_52 ?_
    refine rn_aload_n (i := 0) dX9_sealInto_55 rfl rfl ?_
    obtain ⟨x26, hx26, rx26⟩ := fs_i hf1 12 rfl
    refine rn_get q1 kg_SG_275 (hT25.fr hq1 rfl (hT16.fr hq1 rfl hl1)) hx26 dX9_sealInto_56 ?_
    refine rn_callV (a := 0) (b := 0) [.ref o7, .int x26] kl_SG_319 dX9_sealInto_59 q22 (hT25.fr hq22 rfl hl22) rfl (t_X4_takeOver G S w23 hS25.1 o6 m6 o7 m7 x26) rfl rfl (Nat.le_of_ble_eq_true rfl) (Nat.le_of_ble_eq_true rfl) (Nat.le_of_ble_eq_true rfl) (Nat.le_of_ble_eq_true rfl) (Nat.le_of_ble_eq_true rfl) (Nat.le_of_ble_eq_true rfl) (fun _ _ h => False.elim h) (fun v9 w27 h28 => ?_)
    obtain ⟨hT29, rfl⟩ := h28
    have hS29 := St.tr hS25 hT29 rfl
    refine rn_stk [] rfl ?_
    refine rn_aload_n (i := 0) dX9_sealInto_62 rfl rfl ?_
    refine rn_get q1 kg_SG_19 (hT29.fr hq1 rfl (hT25.fr hq1 rfl (hT16.fr hq1 rfl hl1))) hx6 dX9_sealInto_63 ?_
    refine rn_callV (a := 0) (b := 0) [] kl_SG_323 dX9_sealInto_66 q22 (hT29.fr hq22 rfl (hT25.fr hq22 rfl hl22)) rfl (t_X4_isTooMuch G S w27 hS29.1 o6 m6) rfl rfl (Nat.le_of_ble_eq_true rfl) (Nat.le_of_ble_eq_true rfl) (Nat.le_of_ble_eq_true rfl) (Nat.le_of_ble_eq_true rfl) (Nat.le_of_ble_eq_true rfl) (Nat.le_of_ble_eq_true rfl) (fun _ _ h => False.elim h) (fun v9 w30 h31 => ?_)
    obtain ⟨rfl, v32, rfl, rv32⟩ := h31
    refine rn_stk [.int v32] rfl ?_
    refine rn_if_eq (tgt := 75) dX9_sealInto_69 (by decide) (fun h34 => ?_) (fun h34 => ?_)
    · have ch34 := cv_eq h34
      have r35 : Rg (0) (0) v32 := rf_eqx ch34 rv32 rk_0 (by decide) (by decide)
      refine rn_aload_n (i := 0) dX9_sealInto_75 rfl rfl ?_
      refine rn_get q1 kg_SG_16 (hT29.fr hq1 rfl (hT25.fr hq1 rfl (hT16.fr hq1 rfl hl1))) hx7 dX9_sealInto_76 ?_
      obtain ⟨q36, fs36, hq36, hl36, hf36⟩ := ts_obj hS29.1 m7 hk_4
      refine rn_callV (a := 0) (b := 0) [] kl_SG_326 dX9_sealInto_79 q36 hl36 rfl (t_X4_loseHop G S w27 hS29.1 o7 m7) rfl rfl (Nat.le_of_ble_eq_true rfl) (Nat.le_of_ble_eq_true rfl) (Nat.le_of_ble_eq_true rfl) (Nat.le_of_ble_eq_true rfl) (Nat.le_of_ble_eq_true rfl) (Nat.le_of_ble_eq_true rfl) (fun _ _ h => False.elim h) (fun v9 w37 h38 => ?_)
      obtain ⟨hT39, rfl⟩ := h38
      have hS39 := St.tr hS29 hT39 rfl
      refine rn_stk [] rfl ?_
      refine rn_aload_n (i := 2) dX9_sealInto_82 rfl rfl ?_
      refine rn_aload_n (i := 0) dX9_sealInto_83 rfl rfl ?_
      refine rn_get q1 kg_SG_16 (hT39.fr hq1 rfl (hT29.fr hq1 rfl (hT25.fr hq1 rfl (hT16.fr hq1 rfl hl1)))) hx7 dX9_sealInto_84 ?_
      refine rn_aload_n (i := 0) dX9_sealInto_87 rfl rfl ?_
      refine rn_get q1 kg_SG_19 (hT39.fr hq1 rfl (hT29.fr hq1 rfl (hT25.fr hq1 rfl (hT16.fr hq1 rfl hl1)))) hx6 dX9_sealInto_88 ?_
      refine rn_callV (a := 0) (b := 0) [.ref o7, .ref o6] kl_SG_329 dX9_sealInto_91 q8 (hT39.fr hq8 rfl (hT29.fr hq8 rfl (hT25.fr hq8 rfl (hT16.fr hq8 rfl hl8)))) rfl (t_X8_close G S w37 hS39.1 o4 mo4 o7 m7 o6 m6) rfl rfl (Nat.le_of_ble_eq_true rfl) (Nat.le_of_ble_eq_true rfl) (Nat.le_of_ble_eq_true rfl) (Nat.le_of_ble_eq_true rfl) (Nat.le_of_ble_eq_true rfl) (Nat.le_of_ble_eq_true rfl) (fun _ _ h => False.elim h) (fun v9 w40 h41 => ?_)
      obtain ⟨hT42, rfl⟩ := h41
      have hS42 := St.tr hS39 hT42 rfl
      refine rn_stk [] rfl ?_
      refine rn_aload_n (i := 0) dX9_sealInto_94 rfl rfl ?_
      refine rn_get q1 kg_SG_19 (hT42.fr hq1 rfl (hT39.fr hq1 rfl (hT29.fr hq1 rfl (hT25.fr hq1 rfl (hT16.fr hq1 rfl hl1))))) hx6 dX9_sealInto_95 ?_
      refine rn_callV (a := 0) (b := 0) [] kl_SG_128 dX9_sealInto_98 q22 (hT42.fr hq22 rfl (hT39.fr hq22 rfl (hT29.fr hq22 rfl (hT25.fr hq22 rfl hl22)))) rfl (t_X4_mendSum G S w40 hS42.1 o6 m6) rfl rfl (Nat.le_of_ble_eq_true rfl) (Nat.le_of_ble_eq_true rfl) (Nat.le_of_ble_eq_true rfl) (Nat.le_of_ble_eq_true rfl) (Nat.le_of_ble_eq_true rfl) (Nat.le_of_ble_eq_true rfl) (fun _ _ h => False.elim h) (fun v9 w43 h44 => ?_)
      obtain ⟨hT46, v45, rfl, rv45⟩ := h44
      have hS46 := St.tr hS42 hT46 rfl
      refine rn_stk [.int v45] rfl ?_
      refine rn_pop dX9_sealInto_101 rfl ?_
      refine rn_aload_n (i := 0) dX9_sealInto_102 rfl rfl ?_
      refine rn_dup dX9_sealInto_103 rfl ?_
      refine rn_get q1 kg_SG_275 (hT46.fr hq1 rfl (hT42.fr hq1 rfl (hT39.fr hq1 rfl (hT29.fr hq1 rfl (hT25.fr hq1 rfl (hT16.fr hq1 rfl hl1)))))) hx26 dX9_sealInto_104 ?_
      refine rn_iconst (v := (1 : Int32)) dX9_sealInto_107 (by decide) ?_
      refine rn_iadd dX9_sealInto_108 (rn_nmA (fun v47 rv47 => ?_))
      refine rs_put q1 (kp_SG_275 _) hS46 hq1 (hT46.fr hq1 rfl (hT42.fr hq1 rfl (hT39.fr hq1 rfl (hT29.fr hq1 rfl (hT25.fr hq1 rfl (hT16.fr hq1 rfl hl1)))))) hf1 hk_9 rfl rfl (tv_i rv47) rfl rfl dX9_sealInto_109 (fun w48 fs49 hS49 hl49 hf49 hx49 ho49 hn49 => ?_)
      refine rn_aload_n (i := 0) dX9_sealInto_112 rfl rfl ?_
      refine rn_aload_n (i := 0) dX9_sealInto_113 rfl rfl ?_
      refine rn_get q1 kg_SG_19 hl49 ((ho49 3 (by decide)).trans hx6) dX9_sealInto_114 ?_
      refine rn_iconst (v := (1 : Int32)) dX9_sealInto_117 (by decide) ?_
      refine rn_callV (a := 0) (b := 0) [.ref o6, .int (1 : Int32)] kl_SG_333 dX9_sealInto_118 q1 hl49 rfl (t_X9_send G S w48 hS49.1 o0_ m0_ o6 m6 (1 : Int32)) rfl rfl (Nat.le_of_ble_eq_true rfl) (Nat.le_of_ble_eq_true rfl) (Nat.le_of_ble_eq_true rfl) (Nat.le_of_ble_eq_true rfl) (Nat.le_of_ble_eq_true rfl) (Nat.le_of_ble_eq_true rfl) (fun _ _ h => False.elim h) (fun v9 w50 h51 => ?_)
      obtain ⟨hT52, rfl⟩ := h51
      have hS52 := St.tr hS49 hT52 rfl
      refine rn_stk [] rfl ?_
      refine rn_iconst (v := (0 : Int32)) dX9_sealInto_121 (by decide) ?_
      exact rn_iret dX9_sealInto_122 rfl rfl (rq_in ⟨hS52, (0 : Int32), rfl, (rg_w rk_0 (by decide) (by decide))⟩)
    · have ch34 := cv_ne h34
      have r53 : Rg (1) (1) v32 := rf_nel ch34 rv32 rk_0 (by decide) (by decide)
      refine rn_bipush (v := (6 : Int32)) dX9_sealInto_72 (by decide) ?_
      exact rn_iret dX9_sealInto_74 rfl rfl (rq_in ⟨hS29, (6 : Int32), rfl, (rg_w rk_6 (by decide) (by decide))⟩)
abbrev q_t_X9_passOn (G : rn_G) (S : ts_S) (ws : va_W) : rn_R → va_W → Prop := rQ (fun v w => St G S [4, 9, 11] ws S w ∧ (∃ x : Int32, v = some (.int x) ∧ Rg (0) (6) x)) (fun E w => False)
set_option maxRecDepth 20000 in
set_option maxHeartbeats 4000000 in
theorem t_X9_passOn (G : rn_G) (S : ts_S) (ws : va_W) (hW : ts_W G S ws) (o0_ : Nat) (m0_ : (o0_, 9) ∈ S) (o1_ : Nat) (m1_ : (o1_, 4) ∈ S) (x2_ : Int32) : Rn G mX9_passOn 4 129 0 0 0 (lv_args 0 [.ref o0_, .ref o1_, .int x2_]) [] ws (q_t_X9_passOn G S ws ) := by
  have hS0 : St G S [4, 9, 11] ws S ws := St.rf hW
  refine rn_lv [(0, .ref o0_), (1, .ref o1_), (2, .int x2_)] rfl ?_
  refine rn_aload_n (i := 1) dX9_passOn_0 rfl rfl ?_
  obtain ⟨q1, fs1, hq1, hl1, hf1⟩ := ts_obj hS0.1 m1_ hk_4
  refine rn_callV (a := 0) (b := 0) [] kl_SG_323 dX9_passOn_1 q1 hl1 rfl (t_X4_isTooMuch G S ws hS0.1 o1_ m1_) rfl rfl (Nat.le_of_ble_eq_true rfl) (Nat.le_of_ble_eq_true rfl) (Nat.le_of_ble_eq_true rfl) (Nat.le_of_ble_eq_true rfl) (Nat.le_of_ble_eq_true rfl) (Nat.le_of_ble_eq_true rfl) (fun _ _ h => False.elim h) (fun v9 w2 h3 => ?_)
  obtain ⟨rfl, v4, rfl, rv4⟩ := h3
  refine rn_stk [.int v4] rfl ?_
  refine rn_if_eq (tgt := 10) dX9_passOn_4 (by decide) (fun h6 => ?_) (fun h6 => ?_)
  · have ch6 := cv_eq h6
    have r7 : Rg (0) (0) v4 := rf_eqx ch6 rv4 rk_0 (by decide) (by decide)
    refine rn_aload_n (i := 1) dX9_passOn_10 rfl rfl ?_
    refine rn_callV (a := 0) (b := 0) [] kl_SG_326 dX9_passOn_11 q1 hl1 rfl (t_X4_loseHop G S ws hS0.1 o1_ m1_) rfl rfl (Nat.le_of_ble_eq_true rfl) (Nat.le_of_ble_eq_true rfl) (Nat.le_of_ble_eq_true rfl) (Nat.le_of_ble_eq_true rfl) (Nat.le_of_ble_eq_true rfl) (Nat.le_of_ble_eq_true rfl) (fun _ _ h => False.elim h) (fun v9 w8 h9 => ?_)
    obtain ⟨hT10, rfl⟩ := h9
    have hS10 := St.tr hS0 hT10 rfl
    refine rn_stk [] rfl ?_
    refine rn_aload_n (i := 0) dX9_passOn_14 rfl rfl ?_
    refine rn_aload_n (i := 1) dX9_passOn_15 rfl rfl ?_
    refine rn_iload_n (i := 2) dX9_passOn_16 rfl rfl ?_
    obtain ⟨q11, fs11, hq11, hl11, hf11⟩ := ts_obj hS10.1 m0_ hk_9
    refine rn_callV (a := 0) (b := 0) [.ref o1_, .int x2_] kl_SG_333 dX9_passOn_17 q11 hl11 rfl (t_X9_send G S w8 hS10.1 o0_ m0_ o1_ m1_ x2_) rfl rfl (Nat.le_of_ble_eq_true rfl) (Nat.le_of_ble_eq_true rfl) (Nat.le_of_ble_eq_true rfl) (Nat.le_of_ble_eq_true rfl) (Nat.le_of_ble_eq_true rfl) (Nat.le_of_ble_eq_true rfl) (fun _ _ h => False.elim h) (fun v9 w12 h13 => ?_)
    obtain ⟨hT14, rfl⟩ := h13
    have hS14 := St.tr hS10 hT14 rfl
    refine rn_stk [] rfl ?_
    refine rn_iconst (v := (0 : Int32)) dX9_passOn_20 (by decide) ?_
    exact rn_iret dX9_passOn_21 rfl rfl (rq_in ⟨hS14, (0 : Int32), rfl, (rg_w rk_0 (by decide) (by decide))⟩)
  · have ch6 := cv_ne h6
    have r15 : Rg (1) (1) v4 := rf_nel ch6 rv4 rk_0 (by decide) (by decide)
    refine rn_bipush (v := (6 : Int32)) dX9_passOn_7 (by decide) ?_
    exact rn_iret dX9_passOn_9 rfl rfl (rq_in ⟨hS0, (6 : Int32), rfl, (rg_w rk_6 (by decide) (by decide))⟩)
abbrev q_t_X9_throughInner (G : rn_G) (S : ts_S) (ws : va_W) : rn_R → va_W → Prop := rQ (fun v w => St G S [4, 8, 9, 11] ws S w ∧ (∃ x : Int32, v = some (.int x) ∧ Rg (0) (6) x)) (fun E w => False)
set_option maxRecDepth 20000 in
set_option maxHeartbeats 4000000 in
theorem t_X9_throughInner (G : rn_G) (S : ts_S) (ws : va_W) (hW : ts_W G S ws) (o0_ : Nat) (m0_ : (o0_, 9) ∈ S) : Rn G mX9_throughInner 5 151 0 0 0 (lv_args 0 [.ref o0_]) [] ws (q_t_X9_throughInner G S ws ) := by
  have hS0 : St G S [4, 8, 9, 11] ws S ws := St.rf hW
  refine rn_lv [(0, .ref o0_)] rfl ?_
  refine rn_aload_n (i := 0) dX9_throughInner_0 rfl rfl ?_
  obtain ⟨q1, fs1, hq1, hl1, hf1⟩ := ts_obj hS0.1 m0_ hk_9
  obtain ⟨o2, hx2, m2⟩ := fs_r hf1 2 rfl
  refine rn_get q1 kg_SG_16 hl1 hx2 dX9_throughInner_1 ?_
  obtain ⟨q3, fs3, hq3, hl3, hf3⟩ := ts_obj hS0.1 m2 hk_4
  refine rn_callV (a := 0) (b := 0) [] kl_SG_226 dX9_throughInner_4 q3 hl3 rfl (t_X4_isBroken G S ws hS0.1 o2 m2) rfl rfl (Nat.le_of_ble_eq_true rfl) (Nat.le_of_ble_eq_true rfl) (Nat.le_of_ble_eq_true rfl) (Nat.le_of_ble_eq_true rfl) (Nat.le_of_ble_eq_true rfl) (Nat.le_of_ble_eq_true rfl) (fun _ _ h => False.elim h) (fun v9 w4 h5 => ?_)
  obtain ⟨rfl, v6, rfl, rv6⟩ := h5
  refine rn_stk [.int v6] rfl ?_
  refine rn_if_eq (tgt := 12) dX9_throughInner_7 (by decide) (fun h8 => ?_) (fun h8 => ?_)
  · have ch8 := cv_eq h8
    have r9 : Rg (0) (0) v6 := rf_eqx ch8 rv6 rk_0 (by decide) (by decide)
    refine rn_aload_n (i := 0) dX9_throughInner_12 rfl rfl ?_
    refine rn_get q1 kg_SG_16 hl1 hx2 dX9_throughInner_13 ?_
    refine rn_callV (a := 0) (b := 0) [] kl_SG_229 dX9_throughInner_16 q3 hl3 rfl (t_X4_cutToLength G S ws hS0.1 o2 m2) rfl rfl (Nat.le_of_ble_eq_true rfl) (Nat.le_of_ble_eq_true rfl) (Nat.le_of_ble_eq_true rfl) (Nat.le_of_ble_eq_true rfl) (Nat.le_of_ble_eq_true rfl) (Nat.le_of_ble_eq_true rfl) (fun _ _ h => False.elim h) (fun v9 w10 h11 => ?_)
    obtain ⟨hT12, rfl⟩ := h11
    have hS12 := St.tr hS0 hT12 rfl
    refine rn_stk [] rfl ?_
    refine rn_aload_n (i := 0) dX9_throughInner_19 rfl rfl ?_
    refine rn_get q1 kg_SG_16 (hT12.fr hq1 rfl hl1) hx2 dX9_throughInner_20 ?_
    obtain ⟨q13, fs13, hq13, hl13, hf13⟩ := ts_obj hS12.1 m2 hk_4
    refine rn_callV (a := 0) (b := 0) [] kl_SG_293 dX9_throughInner_23 q13 hl13 rfl (t_X4_hops G S w10 hS12.1 o2 m2) rfl rfl (Nat.le_of_ble_eq_true rfl) (Nat.le_of_ble_eq_true rfl) (Nat.le_of_ble_eq_true rfl) (Nat.le_of_ble_eq_true rfl) (Nat.le_of_ble_eq_true rfl) (Nat.le_of_ble_eq_true rfl) (fun _ _ h => False.elim h) (fun v9 w14 h15 => ?_)
    obtain ⟨rfl, v16, rfl, rv16⟩ := h15
    refine rn_stk [.int v16] rfl ?_
    refine rn_iconst (v := (1 : Int32)) dX9_throughInner_26 (by decide) ?_
    refine rn_icmp_gt (tgt := 32) dX9_throughInner_27 (by decide) (fun h18 => ?_) (fun h18 => ?_)
    · have ch18 := cv_lt h18
      have r19 : Rg (2) (255) v16 := rf_lty ch18 rk_1 rv16 (by decide)
      refine rn_aload_n (i := 0) dX9_throughInner_32 rfl rfl ?_
      obtain ⟨o20, hx20, m20⟩ := fs_r hf1 7 rfl
      refine rn_get q1 kg_SG_35 (hT12.fr hq1 rfl hl1) hx20 dX9_throughInner_33 ?_
      refine rn_aload_n (i := 0) dX9_throughInner_36 rfl rfl ?_
      refine rn_get q1 kg_SG_16 (hT12.fr hq1 rfl hl1) hx2 dX9_throughInner_37 ?_
      refine rn_callV (a := 0) (b := 0) [] kl_SG_296 dX9_throughInner_40 q13 hl13 rfl (t_X4_to G S w10 hS12.1 o2 m2) rfl rfl (Nat.le_of_ble_eq_true rfl) (Nat.le_of_ble_eq_true rfl) (Nat.le_of_ble_eq_true rfl) (Nat.le_of_ble_eq_true rfl) (Nat.le_of_ble_eq_true rfl) (Nat.le_of_ble_eq_true rfl) (fun _ _ h => False.elim h) (fun v9 w21 h22 => ?_)
      obtain ⟨rfl, v23, rfl, rv23⟩ := h22
      refine rn_stk [.int v23, .ref o20] rfl ?_
      obtain ⟨q25, fs25, hq25, hl25, hf25⟩ := ts_obj hS12.1 m20 hk_7
      refine rn_callV (a := 0) (b := 0) [.int v23] kl_SG_236 dX9_throughInner_43 q25 hl25 rfl (t_X7_portOf G S w10 hS12.1 o20 m20 v23) rfl rfl (Nat.le_of_ble_eq_true rfl) (Nat.le_of_ble_eq_true rfl) (Nat.le_of_ble_eq_true rfl) (Nat.le_of_ble_eq_true rfl) (Nat.le_of_ble_eq_true rfl) (Nat.le_of_ble_eq_true rfl) (fun _ _ h => False.elim h) (fun v9 w26 h27 => ?_)
      obtain ⟨rfl, v28, rfl, rv28, xah27⟩ := h27
      refine rn_stk [.int v28] rfl ?_
      refine rn_iconst (v := (1 : Int32)) dX9_throughInner_46 (by decide) ?_
      refine rn_icmp_eq (tgt := 52) dX9_throughInner_47 (by decide) (fun h30 => ?_) (fun h30 => ?_)
      · have ch30 := cv_eq h30
        have r31 : Rg (1) (1) v28 := rf_eqx ch30 rv28 rk_1 (by decide) (by decide)
        refine rn_aload_n (i := 0) dX9_throughInner_52 rfl rfl ?_
        obtain ⟨o32, hx32, m32⟩ := fs_r hf1 8 rfl
        refine rn_get q1 kg_SG_42 (hT12.fr hq1 rfl hl1) hx32 dX9_throughInner_53 ?_
        refine rn_iconst (v := (0 : Int32)) dX9_throughInner_56 (by decide) ?_
        refine rn_aload_n (i := 0) dX9_throughInner_57 rfl rfl ?_
        refine rn_get q1 kg_SG_16 (hT12.fr hq1 rfl hl1) hx2 dX9_throughInner_58 ?_
        obtain ⟨q33, fs33, hq33, hl33, hf33⟩ := ts_obj hS12.1 m32 hk_5
        refine rn_callV (a := 0) (b := 0) [.int (0 : Int32), .ref o2] kl_SG_299 dX9_throughInner_61 q33 hl33 rfl (t_X5_doneWith G S w10 hS12.1 o32 m32 (0 : Int32) o2 m2) rfl rfl (Nat.le_of_ble_eq_true rfl) (Nat.le_of_ble_eq_true rfl) (Nat.le_of_ble_eq_true rfl) (Nat.le_of_ble_eq_true rfl) (Nat.le_of_ble_eq_true rfl) (Nat.le_of_ble_eq_true rfl) (fun _ _ h => False.elim h) (fun v9 w34 h35 => ?_)
        obtain ⟨rfl, v36, rfl, rv36⟩ := h35
        refine rn_stk [.int v36] rfl ?_
        refine rn_istore_n dX9_throughInner_64 rfl (by decide) [(0, .ref o0_), (1, .int v36)] rfl ?_
        refine rn_iload_n (i := 1) dX9_throughInner_65 rfl rfl ?_
        refine rn_bipush (v := (-2 : Int32)) dX9_throughInner_66 (by decide) ?_
        refine rn_icmp_ne (tgt := 73) dX9_throughInner_68 (by decide) (fun h38 => ?_) (fun h38 => ?_)
        · have ch38 := cv_ne h38
          refine rn_iload_n (i := 1) dX9_throughInner_73 rfl rfl ?_
          refine rn_iconst (v := (-1 : Int32)) dX9_throughInner_74 (by decide) ?_
          refine rn_icmp_ne (tgt := 90) dX9_throughInner_75 (by decide) (fun h39 => ?_) (fun h39 => ?_)
          · have ch39 := cv_ne h39
            refine rn_aload_n (i := 0) dX9_throughInner_90 rfl rfl ?_
            refine rn_iload_n (i := 1) dX9_throughInner_91 rfl rfl ?_
            refine rn_callV (a := 0) (b := 0) [.int v36] kl_SG_306 dX9_throughInner_92 q1 (hT12.fr hq1 rfl hl1) rfl (t_X9_sealInto G S w10 hS12.1 o0_ m0_ v36) rfl rfl (Nat.le_of_ble_eq_true rfl) (Nat.le_of_ble_eq_true rfl) (Nat.le_of_ble_eq_true rfl) (Nat.le_of_ble_eq_true rfl) (Nat.le_of_ble_eq_true rfl) (Nat.le_of_ble_eq_true rfl) (fun _ _ h => False.elim h) (fun v9 w40 h41 => ?_)
            obtain ⟨hT43, v42, rfl, rv42⟩ := h41
            have hS43 := St.tr hS12 hT43 rfl
            refine rn_stk [.int v42] rfl ?_
            exact rn_iret dX9_throughInner_95 rfl rfl (rq_in ⟨hS43, v42, rfl, rv42⟩)
          · have ch39 := cv_eq h39
            have r44 : Rg (-1) (-1) v36 := rf_eqx ch39 rv36 rk_m1 (by decide) (by decide)
            refine rn_aload_n (i := 0) dX9_throughInner_78 rfl rfl ?_
            refine rn_aload_n (i := 0) dX9_throughInner_79 rfl rfl ?_
            refine rn_get q1 kg_SG_16 (hT12.fr hq1 rfl hl1) hx2 dX9_throughInner_80 ?_
            refine rn_iconst (v := (1 : Int32)) dX9_throughInner_83 (by decide) ?_
            refine rn_callV (a := 0) (b := 0) [.ref o2, .int (1 : Int32)] kl_SG_302 dX9_throughInner_84 q1 (hT12.fr hq1 rfl hl1) rfl (t_X9_passOn G S w10 hS12.1 o0_ m0_ o2 m2 (1 : Int32)) rfl rfl (Nat.le_of_ble_eq_true rfl) (Nat.le_of_ble_eq_true rfl) (Nat.le_of_ble_eq_true rfl) (Nat.le_of_ble_eq_true rfl) (Nat.le_of_ble_eq_true rfl) (Nat.le_of_ble_eq_true rfl) (fun _ _ h => False.elim h) (fun v9 w45 h46 => ?_)
            obtain ⟨hT48, v47, rfl, rv47⟩ := h46
            have hS48 := St.tr hS12 hT48 rfl
            refine rn_stk [.int v47] rfl ?_
            refine rn_goto (tgt := 95) dX9_throughInner_87 (by decide) ?_
            exact rn_iret dX9_throughInner_95 rfl rfl (rq_in ⟨hS48, v47, rfl, rv47⟩)
        · have ch38 := cv_eq h38
          have r49 : Rg (-2) (-2) v36 := rf_eqx ch38 rv36 rk_m2 (by decide) (by decide)
          refine rn_iconst (v := (4 : Int32)) dX9_throughInner_71 (by decide) ?_
          exact rn_iret dX9_throughInner_72 rfl rfl (rq_in ⟨hS12, (4 : Int32), rfl, (rg_w rk_4 (by decide) (by decide))⟩)
      · have ch30 := cv_ne h30
        refine rn_iconst (v := (3 : Int32)) dX9_throughInner_50 (by decide) ?_
        exact rn_iret dX9_throughInner_51 rfl rfl (rq_in ⟨hS12, (3 : Int32), rfl, (rg_w rk_3 (by decide) (by decide))⟩)
    · have ch18 := cv_nlt h18
      have r50 : Rg (0) (1) v16 := rf_lex ch18 rv16 rk_1 (by decide)
      refine rn_iconst (v := (2 : Int32)) dX9_throughInner_30 (by decide) ?_
      exact rn_iret dX9_throughInner_31 rfl rfl (rq_in ⟨hS12, (2 : Int32), rfl, (rg_w rk_2 (by decide) (by decide))⟩)
  · have ch8 := cv_ne h8
    have r51 : Rg (1) (1) v6 := rf_nel ch8 rv6 rk_0 (by decide) (by decide)
    refine rn_iconst (v := (1 : Int32)) dX9_throughInner_10 (by decide) ?_
    exact rn_iret dX9_throughInner_11 rfl rfl (rq_in ⟨hS0, (1 : Int32), rfl, (rg_w rk_1 (by decide) (by decide))⟩)
