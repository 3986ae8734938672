abbrev q_t_X8_end (G : rn_G) (S : ts_S) (ws : va_W) : rn_R → va_W → Prop := rQ (fun v w => St G S [8] ws S w ∧ (v = none)) (fun E w => False)
set_option maxRecDepth 20000 in
set_option maxHeartbeats 4000000 in
theorem t_X8_end (G : rn_G) (S : ts_S) (ws : va_W) (hW : ts_W G S ws) (o0_ : Nat) (m0_ : (o0_, 8) ∈ S) : Rn G mX8_end 0 0 0 0 0 (lv_args 0 [.ref o0_]) [] ws (q_t_X8_end G S ws ) := by
  have hS0 : St G S [8] ws S ws := St.rf hW
  refine rn_lv [(0, .ref o0_)] rfl ?_
  refine rn_aload_n (i := 0) dX8_end_0 rfl rfl ?_
  refine rn_iconst (v := (1 : Int32)) dX8_end_1 (by decide) ?_
  obtain ⟨q1, fs1, hq1, hl1, hf1⟩ := ts_obj hS0.1 m0_ hk_8
  refine rs_put q1 (kp_SG_Seal_41 _) hS0 hq1 hl1 hf1 hk_8 rfl rfl (tv_i (rg_w rk_1 (by decide) (by decide))) rfl rfl dX8_end_2 (fun w2 fs3 hS3 hl3 hf3 hx3 ho3 hn3 => ?_)
  exact rn_vret dX8_end_5 rfl (rq_in ⟨hS3, rfl⟩)
abbrev q_t_X8_lastNumber (G : rn_G) (S : ts_S) (ws : va_W) : rn_R → va_W → Prop := rQ (fun v w => ws = w ∧ (∃ x : Int64, v = some (.long x))) (fun E w => False)
set_option maxRecDepth 20000 in
set_option maxHeartbeats 4000000 in
theorem t_X8_lastNumber (G : rn_G) (S : ts_S) (ws : va_W) (hW : ts_W G S ws) (o0_ : Nat) (m0_ : (o0_, 8) ∈ S) : Rn G mX8_lastNumber 0 0 0 0 0 (lv_args 0 [.ref o0_]) [] ws (q_t_X8_lastNumber G S ws ) := by
  refine rn_lv [(0, .ref o0_)] rfl ?_
  refine rn_aload_n (i := 0) dX8_lastNumber_0 rfl rfl ?_
  obtain ⟨q1, fs1, hq1, hl1, hf1⟩ := ts_obj hW m0_ hk_8
  obtain ⟨x2, hx2, rx2⟩ := fs_i hf1 5 rfl
  refine rn_get q1 kg_SG_Seal_28 hl1 hx2 dX8_lastNumber_1 ?_
  refine rn_if_eq (tgt := 13) dX8_lastNumber_4 (by decide) (fun h3 => ?_) (fun h3 => ?_)
  · have ch3 := cv_eq h3
    have r4 : Rg (0) (0) x2 := rf_eqx ch3 rx2 rk_0 (by decide) (by decide)
    refine rn_ldc2 (v := (4294967295 : Int64)) wd_624 dX8_lastNumber_13 ?_
    exact rn_lret dX8_lastNumber_16 rfl (rq_in ⟨rfl, (4294967295 : Int64), rfl⟩)
  · have ch3 := cv_ne h3
    have r5 : Rg (1) (1) x2 := rf_nel ch3 rx2 rk_0 (by decide) (by decide)
    refine rn_ldc2 (v := (9223372036854775807 : Int64)) wd_623 dX8_lastNumber_7 ?_
    refine rn_goto (tgt := 16) dX8_lastNumber_10 (by decide) ?_
    exact rn_lret dX8_lastNumber_16 rfl (rq_in ⟨rfl, (9223372036854775807 : Int64), rfl⟩)
abbrev q_t_X8_countFrom (G : rn_G) (S : ts_S) (ws : va_W) : rn_R → va_W → Prop := rQ (fun v w => St G S [8] ws S w ∧ (v = none)) (fun E w => False)
set_option maxRecDepth 20000 in
set_option maxHeartbeats 4000000 in
theorem t_X8_countFrom (G : rn_G) (S : ts_S) (ws : va_W) (hW : ts_W G S ws) (o0_ : Nat) (m0_ : (o0_, 8) ∈ S) (y1_ : Int64) : Rn G mX8_countFrom 0 0 0 0 0 (lv_args 0 [.ref o0_, .long y1_]) [] ws (q_t_X8_countFrom G S ws ) := by
  have hS0 : St G S [8] ws S ws := St.rf hW
  refine rn_lv [(0, .ref o0_), (1, .long y1_)] rfl ?_
  refine rn_aload_n (i := 0) dX8_countFrom_0 rfl rfl ?_
  refine rn_lload_n (i := 1) dX8_countFrom_1 rfl rfl ?_
  obtain ⟨q1, fs1, hq1, hl1, hf1⟩ := ts_obj hS0.1 m0_ hk_8
  refine rs_put q1 (kp_SG_Seal_35 _) hS0 hq1 hl1 hf1 hk_8 rfl rfl tv_l rfl rfl dX8_countFrom_2 (fun w2 fs3 hS3 hl3 hf3 hx3 ho3 hn3 => ?_)
  refine rn_aload_n (i := 0) dX8_countFrom_5 rfl rfl ?_
  refine rn_aload_n (i := 0) dX8_countFrom_6 rfl rfl ?_
  obtain ⟨x4, hx4, rx4⟩ := fs_i hf3 0 rfl
  refine rn_get q1 kg_SG_Seal_11 hl3 hx4 dX8_countFrom_7 ?_
  refine rn_iconst (v := (1 : Int32)) dX8_countFrom_10 (by decide) ?_
  refine rn_icmp_ne (tgt := 24) dX8_countFrom_11 (by decide) (fun h5 => ?_) (fun h5 => ?_)
  · have ch5 := cv_ne h5
    refine rn_lconst (v := (0 : Int64)) dX8_countFrom_24 (by decide) ?_
    refine rs_put q1 (kp_SG_Seal_38 _) hS3 hq1 hl3 hf3 hk_8 rfl rfl tv_l rfl rfl dX8_countFrom_25 (fun w6 fs7 hS7 hl7 hf7 hx7 ho7 hn7 => ?_)
    exact rn_vret dX8_countFrom_28 rfl (rq_in ⟨hS7, rfl⟩)
  · have ch5 := cv_eq h5
    have r8 : Rg (1) (1) x4 := rf_eqx ch5 rx4 rk_1 (by decide) (by decide)
    refine rn_lload_n (i := 1) dX8_countFrom_14 rfl rfl ?_
    refine rn_lconst (v := (0 : Int64)) dX8_countFrom_15 (by decide) ?_
    refine rn_lcmp dX8_countFrom_16 (rn_tn (-1) 1 (rg_lcmp _ _) (fun v9 rv9 => ?_))
    refine rn_if_eq (tgt := 24) dX8_countFrom_17 (by decide) (fun h10 => ?_) (fun h10 => ?_)
    · have ch10 := cv_eq h10
      have r11 : Rg (0) (0) v9 := rf_eqx ch10 rv9 rk_0 (by decide) (by decide)
      refine rn_lconst (v := (0 : Int64)) dX8_countFrom_24 (by decide) ?_
      refine rs_put q1 (kp_SG_Seal_38 _) hS3 hq1 hl3 hf3 hk_8 rfl rfl tv_l rfl rfl dX8_countFrom_25 (fun w12 fs13 hS13 hl13 hf13 hx13 ho13 hn13 => ?_)
      exact rn_vret dX8_countFrom_28 rfl (rq_in ⟨hS13, rfl⟩)
    · have ch10 := cv_ne h10
      refine rn_lconst (v := (1 : Int64)) dX8_countFrom_20 (by decide) ?_
      refine rn_goto (tgt := 25) dX8_countFrom_21 (by decide) ?_
      refine rs_put q1 (kp_SG_Seal_38 _) hS3 hq1 hl3 hf3 hk_8 rfl rfl tv_l rfl rfl dX8_countFrom_25 (fun w14 fs15 hS15 hl15 hf15 hx15 ho15 hn15 => ?_)
      exact rn_vret dX8_countFrom_28 rfl (rq_in ⟨hS15, rfl⟩)
abbrev q_t_X8_canClose (G : rn_G) (S : ts_S) (ws : va_W) : rn_R → va_W → Prop := rQ (fun v w => ws = w ∧ (∃ x : Int32, v = some (.int x) ∧ Rg (0) (1) x)) (fun E w => False)
set_option maxRecDepth 20000 in
set_option maxHeartbeats 4000000 in
theorem t_X8_canClose (G : rn_G) (S : ts_S) (ws : va_W) (hW : ts_W G S ws) (o0_ : Nat) (m0_ : (o0_, 8) ∈ S) (x1_ : Int32) : Rn G mX8_canClose 1 20 0 0 0 (lv_args 0 [.ref o0_, .int x1_]) [] ws (q_t_X8_canClose G S ws ) := by
  refine rn_lv [(0, .ref o0_), (1, .int x1_)] rfl ?_
  refine rn_aload_n (i := 0) dX8_canClose_0 rfl rfl ?_
  obtain ⟨q1, fs1, hq1, hl1, hf1⟩ := ts_obj hW m0_ hk_8
  obtain ⟨x2, hx2, rx2⟩ := fs_i hf1 0 rfl
  refine rn_get q1 kg_SG_Seal_11 hl1 hx2 dX8_canClose_1 ?_
  refine rn_if_ne (tgt := 38) dX8_canClose_4 (by decide) (fun h3 => ?_) (fun h3 => ?_)
  · have ch3 := cv_ne h3
    refine rn_iconst (v := (0 : Int32)) dX8_canClose_38 (by decide) ?_
    exact rn_iret dX8_canClose_39 rfl rfl (rq_in ⟨rfl, (0 : Int32), rfl, (rg_w rk_0 (by decide) (by decide))⟩)
  · have ch3 := cv_eq h3
    have r4 : Rg (0) (0) x2 := rf_eqx ch3 rx2 rk_0 (by decide) (by decide)
    refine rn_aload_n (i := 0) dX8_canClose_7 rfl rfl ?_
    obtain ⟨x5, hx5, rx5⟩ := fs_i hf1 1 rfl
    refine rn_get q1 kg_SG_Seal_15 hl1 hx5 dX8_canClose_8 ?_
    refine rn_iload_n (i := 1) dX8_canClose_11 rfl rfl ?_
    refine rn_icmp_ne (tgt := 38) dX8_canClose_12 (by decide) (fun h6 => ?_) (fun h6 => ?_)
    · have ch6 := cv_ne h6
      refine rn_iconst (v := (0 : Int32)) dX8_canClose_38 (by decide) ?_
      exact rn_iret dX8_canClose_39 rfl rfl (rq_in ⟨rfl, (0 : Int32), rfl, (rg_w rk_0 (by decide) (by decide))⟩)
    · have ch6 := cv_eq h6
      refine rn_aload_n (i := 0) dX8_canClose_15 rfl rfl ?_
      refine rn_callV (a := 0) (b := 0) [] kl_SG_Seal_48 dX8_canClose_16 q1 hl1 rfl (t_X8_isDead G S ws hW o0_ m0_) rfl rfl (Nat.le_of_ble_eq_true rfl) (Nat.le_of_ble_eq_true rfl) (Nat.le_of_ble_eq_true rfl) (Nat.le_of_ble_eq_true rfl) (Nat.le_of_ble_eq_true rfl) (Nat.le_of_ble_eq_true rfl) (fun _ _ h => False.elim h) (fun v9 w7 h8 => ?_)
      obtain ⟨rfl, v9, rfl, rv9⟩ := h8
      refine rn_stk [.int v9] rfl ?_
      refine rn_if_ne (tgt := 38) dX8_canClose_19 (by decide) (fun h11 => ?_) (fun h11 => ?_)
      · have ch11 := cv_ne h11
        have r12 : Rg (1) (1) v9 := rf_nel ch11 rv9 rk_0 (by decide) (by decide)
        refine rn_iconst (v := (0 : Int32)) dX8_canClose_38 (by decide) ?_
        exact rn_iret dX8_canClose_39 rfl rfl (rq_in ⟨rfl, (0 : Int32), rfl, (rg_w rk_0 (by decide) (by decide))⟩)
      · have ch11 := cv_eq h11
        have r13 : Rg (0) (0) v9 := rf_eqx ch11 rv9 rk_0 (by decide) (by decide)
        refine rn_aload_n (i := 0) dX8_canClose_22 rfl rfl ?_
        obtain ⟨y14, hx14⟩ := fs_l hf1 8 rfl
        refine rn_get q1 kg_SG_Seal_35 hl1 hx14 dX8_canClose_23 ?_
        refine rn_aload_n (i := 0) dX8_canClose_26 rfl rfl ?_
        refine rn_callV (a := 0) (b := 0) [] kl_SG_Seal_52 dX8_canClose_27 q1 hl1 rfl (t_X8_lastNumber G S ws hW o0_ m0_) rfl rfl (Nat.le_of_ble_eq_true rfl) (Nat.le_of_ble_eq_true rfl) (Nat.le_of_ble_eq_true rfl) (Nat.le_of_ble_eq_true rfl) (Nat.le_of_ble_eq_true rfl) (Nat.le_of_ble_eq_true rfl) (fun _ _ h => False.elim h) (fun v9 w15 h16 => ?_)
        obtain ⟨rfl, l17, rfl⟩ := h16
        refine rn_stk [.long l17, .long y14] rfl ?_
        refine rn_lcmp dX8_canClose_30 (rn_tn (-1) 1 (rg_lcmp _ _) (fun v19 rv19 => ?_))
        refine rn_if_ge (tgt := 38) dX8_canClose_31 (by decide) (fun h20 => ?_) (fun h20 => ?_)
        · have ch20 := cv_le h20
          have r21 : Rg (0) (1) v19 := rf_ley ch20 rk_0 rv19 (by decide)
          refine rn_iconst (v := (0 : Int32)) dX8_canClose_38 (by decide) ?_
          exact rn_iret dX8_canClose_39 rfl rfl (rq_in ⟨rfl, (0 : Int32), rfl, (rg_w rk_0 (by decide) (by decide))⟩)
        · have ch20 := cv_nle h20
          have r22 : Rg (-1) (-1) v19 := rf_ltx ch20 rv19 rk_0 (by decide)
          refine rn_iconst (v := (1 : Int32)) dX8_canClose_34 (by decide) ?_
          refine rn_goto (tgt := 39) dX8_canClose_35 (by decide) ?_
          exact rn_iret dX8_canClose_39 rfl rfl (rq_in ⟨rfl, (1 : Int32), rfl, (rg_w rk_1 (by decide) (by decide))⟩)
abbrev q_t_X8_fillFor (G : rn_G) (S : ts_S) (ws : va_W) : rn_R → va_W → Prop := rQ (fun v w => ws = w ∧ (∃ x : Int32, v = some (.int x) ∧ Rg (0) (3) x)) (fun E w => False)
set_option maxRecDepth 20000 in
set_option maxHeartbeats 4000000 in
theorem t_X8_fillFor (G : rn_G) (S : ts_S) (ws : va_W) (hW : ts_W G S ws) (o0_ : Nat) (m0_ : (o0_, 4) ∈ S) : Rn G mX8_fillFor 1 20 0 0 0 (lv_args 0 [.ref o0_]) [] ws (q_t_X8_fillFor G S ws ) := by
  refine rn_lv [(0, .ref o0_)] rfl ?_
  refine rn_aload_n (i := 0) dX8_fillFor_0 rfl rfl ?_
  obtain ⟨q1, fs1, hq1, hl1, hf1⟩ := ts_obj hW m0_ hk_4
  refine rn_callV (a := 0) (b := 0) [] kl_SG_Seal_56 dX8_fillFor_1 q1 hl1 rfl (t_X4_size G S ws hW o0_ m0_) rfl rfl (Nat.le_of_ble_eq_true rfl) (Nat.le_of_ble_eq_true rfl) (Nat.le_of_ble_eq_true rfl) (Nat.le_of_ble_eq_true rfl) (Nat.le_of_ble_eq_true rfl) (Nat.le_of_ble_eq_true rfl) (fun _ _ h => False.elim h) (fun v9 w2 h3 => ?_)
  obtain ⟨rfl, v4, rfl, rv4⟩ := h3
  refine rn_stk [.int v4] rfl ?_
  refine rn_iconst (v := (2 : Int32)) dX8_fillFor_4 (by decide) ?_
  refine rs_addC (2) (2042) rv4 rk_2 dX8_fillFor_5 (by decide) (fun v6 ev6 rv6 => ?_)
  refine rn_ineg dX8_fillFor_6 (rn_nmA (fun v7 rv7 => ?_))
  refine rn_iconst (v := (3 : Int32)) dX8_fillFor_7 (by decide) ?_
  refine rn_iand dX8_fillFor_8 (rn_tn 0 (3) (rg_andr rk_3 (by decide)) (fun v8 rv8 => ?_))
  exact rn_iret dX8_fillFor_9 rfl rfl (rq_in ⟨rfl, v8, rfl, rv8⟩)
abbrev q_t_X8_sealedSize (G : rn_G) (S : ts_S) (ws : va_W) : rn_R → va_W → Prop := rQ (fun v w => ws = w ∧ (∃ x : Int32, v = some (.int x) ∧ Rg (38) (2081) x)) (fun E w => False)
set_option maxRecDepth 20000 in
set_option maxHeartbeats 4000000 in
theorem t_X8_sealedSize (G : rn_G) (S : ts_S) (ws : va_W) (hW : ts_W G S ws) (o0_ : Nat) (m0_ : (o0_, 8) ∈ S) (o1_ : Nat) (m1_ : (o1_, 4) ∈ S) : Rn G mX8_sealedSize 2 40 0 0 0 (lv_args 0 [.ref o0_, .ref o1_]) [] ws (q_t_X8_sealedSize G S ws ) := by
  refine rn_lv [(0, .ref o0_), (1, .ref o1_)] rfl ?_
  refine rn_bipush (v := (36 : Int32)) dX8_sealedSize_0 (by decide) ?_
  refine rn_aload_n (i := 1) dX8_sealedSize_2 rfl rfl ?_
  obtain ⟨q1, fs1, hq1, hl1, hf1⟩ := ts_obj hW m1_ hk_4
  refine rn_callV (a := 0) (b := 0) [] kl_SG_Seal_56 dX8_sealedSize_3 q1 hl1 rfl (t_X4_size G S ws hW o1_ m1_) rfl rfl (Nat.le_of_ble_eq_true rfl) (Nat.le_of_ble_eq_true rfl) (Nat.le_of_ble_eq_true rfl) (Nat.le_of_ble_eq_true rfl) (Nat.le_of_ble_eq_true rfl) (Nat.le_of_ble_eq_true rfl) (fun _ _ h => False.elim h) (fun v9 w2 h3 => ?_)
  obtain ⟨rfl, v4, rfl, rv4⟩ := h3
  refine rn_stk [.int v4, .int (36 : Int32)] rfl ?_
  refine rs_addD (36) (2076) rk_36 rv4 dX8_sealedSize_6 (by decide) (fun v6 ev6 rv6 => ?_)
  refine rn_aload_n (i := 1) dX8_sealedSize_7 rfl rfl ?_
  refine rn_callS (a := 0) (b := 0) [.ref o1_] kl_SG_Seal_62 dX8_sealedSize_8 (t_X8_fillFor G S ws hW o1_ m1_) rfl rfl (Nat.le_of_ble_eq_true rfl) (Nat.le_of_ble_eq_true rfl) (Nat.le_of_ble_eq_true rfl) (Nat.le_of_ble_eq_true rfl) (Nat.le_of_ble_eq_true rfl) (Nat.le_of_ble_eq_true rfl) (fun _ _ h => False.elim h) (fun v9 w7 h8 => ?_)
  obtain ⟨rfl, v9, rfl, rv9⟩ := h8
  refine rn_stk [.int v9, .int v6] rfl ?_
  refine rs_addR (36) (2079) rv6 rv9 dX8_sealedSize_11 (by decide) (fun v11 ev11 rv11 => ?_)
  refine rn_iconst (v := (2 : Int32)) dX8_sealedSize_12 (by decide) ?_
  refine rs_addC (38) (2081) rv11 rk_2 dX8_sealedSize_13 (by decide) (fun v12 ev12 rv12 => ?_)
  exact rn_iret dX8_sealedSize_14 rfl rfl (rq_in ⟨rfl, v12, rfl, rv12⟩)
abbrev q_t_X8_stream (G : rn_G) (S : ts_S) (ws : va_W) : rn_R → va_W → Prop := rQ (fun v w => St G S [11] ws S w ∧ (v = none)) (fun E w => False)
set_option maxRecDepth 20000 in
set_option maxHeartbeats 4000000 in
theorem t_X8_stream (G : rn_G) (S : ts_S) (ws : va_W) (hW : ts_W G S ws) (o0_ : Nat) (m0_ : (o0_, 8) ∈ S) (o1_ : Nat) (m1_ : (o1_, 4) ∈ S) (x2_ : Int32) (x3_ : Int32) (y4_ : Int64) : Rn G mX8_stream 1 22 0 0 0 (lv_args 0 [.ref o0_, .ref o1_, .int x2_, .int x3_, .long y4_]) [] ws (q_t_X8_stream G S ws ) := by
  have hS0 : St G S [11] ws S ws := St.rf hW
  refine rn_lv [(0, .ref o0_), (1, .ref o1_), (2, .int x2_), (3, .int x3_), (4, .long y4_)] rfl ?_
  refine rn_aload_n (i := 0) dX8_stream_0 rfl rfl ?_
  obtain ⟨q1, fs1, hq1, hl1, hf1⟩ := ts_obj hS0.1 m0_ hk_8
  obtain ⟨y2, hx2⟩ := fs_l hf1 3 rfl
  refine rn_get q1 kg_SG_Seal_21 hl1 hx2 dX8_stream_1 ?_
  refine rn_lload dX8_stream_4 rfl ?_
  refine rn_ldc2 (v := (-7046029254386353131 : Int64)) wd_795 dX8_stream_6 ?_
  refine rn_lmul dX8_stream_9 (rn_nmL (fun l3 => ?_))
  refine rn_lxor dX8_stream_10 (rn_nmL (fun l4 => ?_))
  refine rn_lstore dX8_stream_11 (by decide) [(0, .ref o0_), (1, .ref o1_), (2, .int x2_), (3, .int x3_), (4, .long y4_), (6, .long l4)] rfl ?_
  refine rn_iload_n (i := 2) dX8_stream_13 rfl rfl ?_
  refine rn_istore dX8_stream_14 (by decide) [(0, .ref o0_), (1, .ref o1_), (2, .int x2_), (3, .int x3_), (4, .long y4_), (6, .long l4), (8, .int x2_)] rfl ?_
  have LP7 : ∀ (n : Nat) (w8 : va_W) (y5 : Int64) (x6 : Int32), St G S [11] ws S w8 → Rg (-2147483648) (2147483647) x6 → (2147483647 - x6.toInt).toNat = n → Rn G mX8_stream 1 22 0 0 16 [(0, .ref o0_), (1, .ref o1_), (2, .int x2_), (3, .int x3_), (4, .long y4_), (6, .long y5), (8, .int x6)] [] w8 (q_t_X8_stream G S ws ) := by
    intro n
    induction n using Nat.strongRecOn with
    | _ n ih =>
      intro w8 y5 x6 hT9 r10 hm11
      refine rn_iload dX8_stream_16 rfl ?_
      refine rn_iload_n (i := 3) dX8_stream_18 rfl rfl ?_
      refine rn_icmp_ge (tgt := 59) dX8_stream_19 (by decide) (fun h12 => ?_) (fun h12 => ?_)
      · have ch12 := cv_le h12
        have hS13 := St.tr hS0 hT9 rfl
        exact rn_vret dX8_stream_59 rfl (rq_in ⟨hS13, rfl⟩)
      · have ch12 := cv_nle h12
        have r14 : Rg (-2147483648) (2147483646) x6 := rf_ltx ch12 r10 (rg_any x3_) (by decide)
        have r15 : Rg (-2147483647) (2147483647) x3_ := rf_lty ch12 r10 (rg_any x3_) (by decide)
        refine rn_lload dX8_stream_22 rfl ?_
        refine rn_ldc2 (v := (6364136223846793005 : Int64)) wd_796 dX8_stream_24 ?_
        refine rn_lmul dX8_stream_27 (rn_nmL (fun l16 => ?_))
        refine rn_ldc2 (v := (1442695040888963407 : Int64)) wd_797 dX8_stream_28 ?_
        refine rn_ladd dX8_stream_31 (rn_nmL (fun l17 => ?_))
        refine rn_lstore dX8_stream_32 (by decide) [(0, .ref o0_), (1, .ref o1_), (2, .int x2_), (3, .int x3_), (4, .long y4_), (6, .long l17), (8, .int x6)] rfl ?_
        refine rn_aload_n (i := 1) dX8_stream_34 rfl rfl ?_
        refine rn_iload dX8_stream_35 rfl ?_
        refine rn_aload_n (i := 1) dX8_stream_37 rfl rfl ?_
        refine rn_iload dX8_stream_38 rfl ?_
        obtain ⟨q18, fs18, hq18, hl18, hf18⟩ := ts_obj hT9.1 m1_ hk_4
        refine rn_callV (a := 0) (b := 0) [.int x6] kl_SG_Seal_95 dX8_stream_40 q18 hl18 rfl (t_X4_byteAt G S w8 hT9.1 o1_ m1_ x6) rfl rfl (Nat.le_of_ble_eq_true rfl) (Nat.le_of_ble_eq_true rfl) (Nat.le_of_ble_eq_true rfl) (Nat.le_of_ble_eq_true rfl) (Nat.le_of_ble_eq_true rfl) (Nat.le_of_ble_eq_true rfl) (fun _ _ h => False.elim h) (fun v9 w19 h20 => ?_)
        obtain ⟨rfl, v21, rfl, rv21⟩ := h20
        refine rn_stk [.int v21, .int x6, .ref o1_] rfl ?_
        refine rn_lload dX8_stream_43 rfl ?_
        refine rn_bipush (v := (56 : Int32)) dX8_stream_45 (by decide) ?_
        refine rn_lushr dX8_stream_47 rfl ?_
        refine rn_l2i dX8_stream_48 rfl (rn_tn 0 255 (rg_u56 l17) (fun v23 rv23 => ?_))
        refine rn_ixor dX8_stream_49 (rn_tn 0 (255) (rg_xor 8 256 rfl rv21 rv23 (by decide)) (fun v24 rv24 => ?_))
        refine rn_callV (a := 0) (b := 0) [.int x6, .int v24] kl_SG_Seal_74 dX8_stream_50 q18 hl18 rfl (t_X4_setByte G S w8 hT9.1 o1_ m1_ x6 v24) rfl rfl (Nat.le_of_ble_eq_true rfl) (Nat.le_of_ble_eq_true rfl) (Nat.le_of_ble_eq_true rfl) (Nat.le_of_ble_eq_true rfl) (Nat.le_of_ble_eq_true rfl) (Nat.le_of_ble_eq_true rfl) (fun _ _ h => False.elim h) (fun v9 w25 h26 => ?_)
        obtain ⟨hT27, rfl⟩ := h26
        have hS27 := St.tr hT9 hT27 rfl
        refine rn_stk [] rfl ?_
        refine rs_iinc (-2147483647) (2147483647) dX8_stream_53 rfl (by decide) r14 rk_1 (by decide) (fun v28 => [(0, .ref o0_), (1, .ref o1_), (2, .int x2_), (3, .int x3_), (4, .long y4_), (6, .long l17), (8, .int v28)]) (fun _ => rfl) (fun v28 ev28 rv28 => ?_)
        refine rn_goto (tgt := 16) dX8_stream_56 (by decide) ?_
        refine rn_lv [(0, .ref o0_), (1, .ref o1_), (2, .int x2_), (3, .int x3_), (4, .long y4_), (6, .long l17), (8, .int v28)] rfl ?_
        exact ih _ (lp_inc hm11 ev28 rv28 (by decide)) w25 l17 v28 hS27 (rg_w rv28 (by decide) (by decide)) rfl
  exact LP7 _ ws l4 x2_ (St.rf hS0.1) (rg_any x2_) rfl
abbrev q_t_X8_stampByte (G : rn_G) (S : ts_S) (ws : va_W) : rn_R → va_W → Prop := rQ (fun v w => ws = w ∧ (∃ x : Int64, v = some (.long x))) (fun E w => False)
set_option maxRecDepth 20000 in
set_option maxHeartbeats 4000000 in
theorem t_X8_stampByte (G : rn_G) (S : ts_S) (ws : va_W) (hW : ts_W G S ws) (y0_ : Int64) (x1_ : Int32) : Rn G mX8_stampByte 0 0 0 0 0 (lv_args 0 [.long y0_, .int x1_]) [] ws (q_t_X8_stampByte G S ws ) := by
  refine rn_lv [(0, .long y0_), (2, .int x1_)] rfl ?_
  refine rn_lload_n (i := 0) dX8_stampByte_0 rfl rfl ?_
  refine rn_iload_n (i := 2) dX8_stampByte_1 rfl rfl ?_
  refine rn_i2l dX8_stampByte_2 rfl (rn_nmL (fun l1 => ?_))
  refine rn_lxor dX8_stampByte_3 (rn_nmL (fun l2 => ?_))
  refine rn_ldc2 (v := (1099511628211 : Int64)) wd_806 dX8_stampByte_4 ?_
  refine rn_lmul dX8_stampByte_7 (rn_nmL (fun l3 => ?_))
  exact rn_lret dX8_stampByte_8 rfl (rq_in ⟨rfl, l3, rfl⟩)
abbrev q_t_X8_stamp (G : rn_G) (S : ts_S) (ws : va_W) : rn_R → va_W → Prop := rQ (fun v w => ws = w ∧ (∃ x : Int64, v = some (.long x))) (fun E w => False)
set_option maxRecDepth 20000 in
set_option maxHeartbeats 4000000 in
theorem t_X8_stamp (G : rn_G) (S : ts_S) (ws : va_W) (hW : ts_W G S ws) (o0_ : Nat) (m0_ : (o0_, 8) ∈ S) (o1_ : Nat) (m1_ : (o1_, 4) ∈ S) (x2_ : Int32) (y3_ : Int64) : Rn G mX8_stamp 1 22 0 0 0 (lv_args 0 [.ref o0_, .ref o1_, .int x2_, .long y3_]) [] ws (q_t_X8_stamp G S ws ) := by
  refine rn_lv [(0, .ref o0_), (1, .ref o1_), (2, .int x2_), (3, .long y3_)] rfl ?_
  refine rn_aload_n (i := 0) dX8_stamp_0 rfl rfl ?_
  obtain ⟨q1, fs1, hq1, hl1, hf1⟩ := ts_obj hW m0_ hk_8
  obtain ⟨y2, hx2⟩ := fs_l hf1 4 rfl
  refine rn_get q1 kg_SG_Seal_25 hl1 hx2 dX8_stamp_1 ?_
  refine rn_lstore dX8_stamp_4 (by decide) [(0, .ref o0_), (1, .ref o1_), (2, .int x2_), (3, .long y3_), (5, .long y2)] rfl ?_
  refine rn_bipush (v := (20 : Int32)) dX8_stamp_6 (by decide) ?_
  refine rn_istore dX8_stamp_8 (by decide) [(0, .ref o0_), (1, .ref o1_), (2, .int x2_), (3, .long y3_), (5, .long y2), (7, .int (20 : Int32))] rfl ?_
  have LP5 : ∀ (n : Nat) (y3 : Int64) (x4 : Int32), Rg (20) (2147483647) x4 → (2147483647 - x4.toInt).toNat = n → Rn G mX8_stamp 1 22 0 0 10 [(0, .ref o0_), (1, .ref o1_), (2, .int x2_), (3, .long y3_), (5, .long y3), (7, .int x4)] [] ws (q_t_X8_stamp G S ws ) := by
    intro n
    induction n using Nat.strongRecOn with
    | _ n ih =>
      intro y3 x4 r7 hm8
      refine rn_iload dX8_stamp_10 rfl ?_
      refine rn_iload_n (i := 2) dX8_stamp_12 rfl rfl ?_
      refine rn_icmp_ge (tgt := 35) dX8_stamp_13 (by decide) (fun h9 => ?_) (fun h9 => ?_)
      · have ch9 := cv_le h9
        refine rn_aload_n (i := 0) dX8_stamp_35 rfl rfl ?_
        obtain ⟨x10, hx10, rx10⟩ := fs_i hf1 5 rfl
        refine rn_get q1 kg_SG_Seal_28 hl1 hx10 dX8_stamp_36 ?_
        refine rn_if_eq (tgt := 75) dX8_stamp_39 (by decide) (fun h11 => ?_) (fun h11 => ?_)
        · have ch11 := cv_eq h11
          have r12 : Rg (0) (0) x10 := rf_eqx ch11 rx10 rk_0 (by decide) (by decide)
          refine rn_lload dX8_stamp_75 rfl ?_
          refine rn_lload dX8_stamp_77 rfl ?_
          refine rn_bipush (v := (32 : Int32)) dX8_stamp_79 (by decide) ?_
          refine rn_lushr dX8_stamp_81 rfl (rn_nmL (fun l13 => ?_))
          refine rn_lxor dX8_stamp_82 (rn_nmL (fun l14 => ?_))
          exact rn_lret dX8_stamp_83 rfl (rq_in ⟨rfl, l14, rfl⟩)
        · have ch11 := cv_ne h11
          have r15 : Rg (1) (1) x10 := rf_nel ch11 rx10 rk_0 (by decide) (by decide)
          refine rn_bipush (v := (56 : Int32)) dX8_stamp_42 (by decide) ?_
          refine rn_istore dX8_stamp_44 (by decide) [(0, .ref o0_), (1, .ref o1_), (2, .int x2_), (3, .long y3_), (5, .long y3), (7, .int (56 : Int32))] rfl ?_
          have LP18 : ∀ (n : Nat) (y16 : Int64) (x17 : Int32), Rg (24) (56) x17 → (x17.toInt - (24)).toNat = n → Rn G mX8_stamp 1 22 0 0 46 [(0, .ref o0_), (1, .ref o1_), (2, .int x2_), (3, .long y3_), (5, .long y16), (7, .int x17)] [] ws (q_t_X8_stamp G S ws ) := by
            intro n
            induction n using Nat.strongRecOn with
            | _ n ih =>
              intro y16 x17 r20 hm21
              refine rn_iload dX8_stamp_46 rfl ?_
              refine rn_bipush (v := (32 : Int32)) dX8_stamp_48 (by decide) ?_
              refine rn_icmp_lt (tgt := 75) dX8_stamp_50 (by decide) (fun h22 => ?_) (fun h22 => ?_)
              · have ch22 := cv_lt h22
                have r23 : Rg (24) (31) x17 := rf_ltx ch22 r20 rk_32 (by decide)
                refine rn_lload dX8_stamp_75 rfl ?_
                refine rn_lload dX8_stamp_77 rfl ?_
                refine rn_bipush (v := (32 : Int32)) dX8_stamp_79 (by decide) ?_
                refine rn_lushr dX8_stamp_81 rfl (rn_nmL (fun l24 => ?_))
                refine rn_lxor dX8_stamp_82 (rn_nmL (fun l25 => ?_))
                exact rn_lret dX8_stamp_83 rfl (rq_in ⟨rfl, l25, rfl⟩)
              · have ch22 := cv_nlt h22
                have r26 : Rg (32) (56) x17 := rf_ley ch22 rk_32 r20 (by decide)
                refine rn_lload dX8_stamp_53 rfl ?_
                refine rn_lload_n (i := 3) dX8_stamp_55 rfl rfl ?_
                refine rn_iload dX8_stamp_56 rfl ?_
                refine rn_lushr dX8_stamp_58 rfl (rn_nmL (fun l27 => ?_))
                refine rn_l2i dX8_stamp_59 rfl (rn_nmA (fun v28 rv28 => ?_))
                refine rn_sipush (v := (255 : Int32)) dX8_stamp_60 (by decide) ?_
                refine rn_iand dX8_stamp_63 (rn_tn 0 (255) (rg_andr rk_255 (by decide)) (fun v29 rv29 => ?_))
                refine rn_callS (a := 0) (b := 0) [.long y16, .int v29] kl_SG_Seal_99 dX8_stamp_64 (t_X8_stampByte G S ws hW y16 v29) rfl rfl (Nat.le_of_ble_eq_true rfl) (Nat.le_of_ble_eq_true rfl) (Nat.le_of_ble_eq_true rfl) (Nat.le_of_ble_eq_true rfl) (Nat.le_of_ble_eq_true rfl) (Nat.le_of_ble_eq_true rfl) (fun _ _ h => False.elim h) (fun v9 w30 h31 => ?_)
                obtain ⟨rfl, l32, rfl⟩ := h31
                refine rn_stk [.long l32] rfl ?_
                refine rn_lstore dX8_stamp_67 (by decide) [(0, .ref o0_), (1, .ref o1_), (2, .int x2_), (3, .long y3_), (5, .long l32), (7, .int x17)] rfl ?_
                refine rs_iinc (24) (48) dX8_stamp_69 rfl (by decide) r26 rk_m8 (by decide) (fun v34 => [(0, .ref o0_), (1, .ref o1_), (2, .int x2_), (3, .long y3_), (5, .long l32), (7, .int v34)]) (fun _ => rfl) (fun v34 ev34 rv34 => ?_)
                refine rn_goto (tgt := 46) dX8_stamp_72 (by decide) ?_
                refine rn_lv [(0, .ref o0_), (1, .ref o1_), (2, .int x2_), (3, .long y3_), (5, .long l32), (7, .int v34)] rfl ?_
                exact ih _ (lp_dec hm21 ev34 rv34 (by decide)) l32 v34 (rg_w rv34 (by decide) (by decide)) rfl
          exact LP18 _ y3 (56 : Int32) (rg_w rk_56 (by decide) (by decide)) rfl
      · have ch9 := cv_nle h9
        have r35 : Rg (20) (2147483646) x4 := rf_ltx ch9 r7 (rg_any x2_) (by decide)
        have r36 : Rg (21) (2147483647) x2_ := rf_lty ch9 r7 (rg_any x2_) (by decide)
        refine rn_lload dX8_stamp_16 rfl ?_
        refine rn_aload_n (i := 1) dX8_stamp_18 rfl rfl ?_
        refine rn_iload dX8_stamp_19 rfl ?_
        obtain ⟨q37, fs37, hq37, hl37, hf37⟩ := ts_obj hW m1_ hk_4
        refine rn_callV (a := 0) (b := 0) [.int x4] kl_SG_Seal_95 dX8_stamp_21 q37 hl37 rfl (t_X4_byteAt G S ws hW o1_ m1_ x4) rfl rfl (Nat.le_of_ble_eq_true rfl) (Nat.le_of_ble_eq_true rfl) (Nat.le_of_ble_eq_true rfl) (Nat.le_of_ble_eq_true rfl) (Nat.le_of_ble_eq_true rfl) (Nat.le_of_ble_eq_true rfl) (fun _ _ h => False.elim h) (fun v9 w38 h39 => ?_)
        obtain ⟨rfl, v40, rfl, rv40⟩ := h39
        refine rn_stk [.int v40, .long y3] rfl ?_
        refine rn_callS (a := 0) (b := 0) [.long y3, .int v40] kl_SG_Seal_99 dX8_stamp_24 (t_X8_stampByte G S ws hW y3 v40) rfl rfl (Nat.le_of_ble_eq_true rfl) (Nat.le_of_ble_eq_true rfl) (Nat.le_of_ble_eq_true rfl) (Nat.le_of_ble_eq_true rfl) (Nat.le_of_ble_eq_true rfl) (Nat.le_of_ble_eq_true rfl) (fun _ _ h => False.elim h) (fun v9 w42 h43 => ?_)
        obtain ⟨rfl, l44, rfl⟩ := h43
        refine rn_stk [.long l44] rfl ?_
        refine rn_lstore dX8_stamp_27 (by decide) [(0, .ref o0_), (1, .ref o1_), (2, .int x2_), (3, .long y3_), (5, .long l44), (7, .int x4)] rfl ?_
        refine rs_iinc (21) (2147483647) dX8_stamp_29 rfl (by decide) r35 rk_1 (by decide) (fun v46 => [(0, .ref o0_), (1, .ref o1_), (2, .int x2_), (3, .long y3_), (5, .long l44), (7, .int v46)]) (fun _ => rfl) (fun v46 ev46 rv46 => ?_)
        refine rn_goto (tgt := 10) dX8_stamp_32 (by decide) ?_
        refine rn_lv [(0, .ref o0_), (1, .ref o1_), (2, .int x2_), (3, .long y3_), (5, .long l44), (7, .int v46)] rfl ?_
        exact ih _ (lp_inc hm8 ev46 rv46 (by decide)) l44 v46 (rg_w rv46 (by decide) (by decide)) rfl
  exact LP5 _ y2 (20 : Int32) (rg_w rk_20 (by decide) (by decide)) rfl
abbrev q_t_X8_close (G : rn_G) (S : ts_S) (ws : va_W) : rn_R → va_W → Prop := rQ (fun v w => St G S [8, 11] ws S w ∧ (v = none)) (fun E w => False)
set_option maxRecDepth 20000 in
set_option maxHeartbeats 4000000 in
theorem t_X8_close (G : rn_G) (S : ts_S) (ws : va_W) (hW : ts_W G S ws) (o0_ : Nat) (m0_ : (o0_, 8) ∈ S) (o1_ : Nat) (m1_ : (o1_, 4) ∈ S) (o2_ : Nat) (m2_ : (o2_, 4) ∈ S) : Rn G mX8_close 3 84 0 0 0 (lv_args 0 [.ref o0_, .ref o1_, .ref o2_]) [] ws (q_t_X8_close G S ws ) := by
  have hS0 : St G S [8, 11] ws S ws := St.rf hW
  refine rn_lv [(0, .ref o0_), (1, .ref o1_), (2, .ref o2_)] rfl ?_
  refine rn_aload_n (i := 0) dX8_close_0 rfl rfl ?_
  refine rn_dup dX8_close_1 rfl ?_
  obtain ⟨q1, fs1, hq1, hl1, hf1⟩ := ts_obj hS0.1 m0_ hk_8
  obtain ⟨y2, hx2⟩ := fs_l hf1 8 rfl
  refine rn_get q1 kg_SG_Seal_35 hl1 hx2 dX8_close_2 ?_
  refine rn_lconst (v := (1 : Int64)) dX8_close_5 (by decide) ?_
  refine rn_ladd dX8_close_6 (rn_nmL (fun l3 => ?_))
  refine rs_put q1 (kp_SG_Seal_35 _) hS0 hq1 hl1 hf1 hk_8 rfl rfl tv_l rfl rfl dX8_close_7 (fun w4 fs5 hS5 hl5 hf5 hx5 ho5 hn5 => ?_)
  refine rn_aload_n (i := 0) dX8_close_10 rfl rfl ?_
  refine rn_dup dX8_close_11 rfl ?_
  obtain ⟨x6, hx6, rx6⟩ := fs_i hf5 6 rfl
  refine rn_get q1 kg_SG_Seal_32 hl5 hx6 dX8_close_12 ?_
  refine rn_iconst (v := (1 : Int32)) dX8_close_15 (by decide) ?_
  refine rn_isub dX8_close_16 (rn_nmA (fun v7 rv7 => ?_))
  refine rs_put q1 (kp_SG_Seal_32 _) hS5 hq1 hl5 hf5 hk_8 rfl rfl (tv_i rv7) rfl rfl dX8_close_17 (fun w8 fs9 hS9 hl9 hf9 hx9 ho9 hn9 => ?_)
  refine rn_aload_n (i := 1) dX8_close_20 rfl rfl ?_
  refine rn_callS (a := 0) (b := 0) [.ref o1_] kl_SG_Seal_62 dX8_close_21 (t_X8_fillFor G S w8 hS9.1 o1_ m1_) rfl rfl (Nat.le_of_ble_eq_true rfl) (Nat.le_of_ble_eq_true rfl) (Nat.le_of_ble_eq_true rfl) (Nat.le_of_ble_eq_true rfl) (Nat.le_of_ble_eq_true rfl) (Nat.le_of_ble_eq_true rfl) (fun _ _ h => False.elim h) (fun v9 w10 h11 => ?_)
  obtain ⟨rfl, v12, rfl, rv12⟩ := h11
  refine rn_stk [.int v12] rfl ?_
  refine rn_istore_n dX8_close_24 rfl (by decide) [(0, .ref o0_), (1, .ref o1_), (2, .ref o2_), (3, .int v12)] rfl ?_
  refine rn_bipush (v := (28 : Int32)) dX8_close_25 (by decide) ?_
  refine rn_aload_n (i := 1) dX8_close_27 rfl rfl ?_
  obtain ⟨q14, fs14, hq14, hl14, hf14⟩ := ts_obj hS9.1 m1_ hk_4
  refine rn_callV (a := 0) (b := 0) [] kl_SG_Seal_56 dX8_close_28 q14 hl14 rfl (t_X4_size G S w8 hS9.1 o1_ m1_) rfl rfl (Nat.le_of_ble_eq_true rfl) (Nat.le_of_ble_eq_true rfl) (Nat.le_of_ble_eq_true rfl) (Nat.le_of_ble_eq_true rfl) (Nat.le_of_ble_eq_true rfl) (Nat.le_of_ble_eq_true rfl) (fun _ _ h => False.elim h) (fun v9 w15 h16 => ?_)
  obtain ⟨rfl, v17, rfl, rv17⟩ := h16
  refine rn_stk [.int v17, .int (28 : Int32)] rfl ?_
  refine rs_addD (28) (2068) rk_28 rv17 dX8_close_31 (by decide) (fun v19 ev19 rv19 => ?_)
  refine rn_iload_n (i := 3) dX8_close_32 rfl rfl ?_
  refine rs_addR (28) (2071) rv19 rv12 dX8_close_33 (by decide) (fun v20 ev20 rv20 => ?_)
  refine rn_istore dX8_close_34 (by decide) [(0, .ref o0_), (1, .ref o1_), (2, .ref o2_), (3, .int v12), (4, .int v20)] rfl ?_
  refine rn_aload_n (i := 2) dX8_close_36 rfl rfl ?_
  refine rn_bipush (v := (20 : Int32)) dX8_close_37 (by decide) ?_
  refine rn_aload_n (i := 0) dX8_close_39 rfl rfl ?_
  obtain ⟨x21, hx21, rx21⟩ := fs_i hf9 2 rfl
  refine rn_get q1 kg_SG_Seal_18 hl9 hx21 dX8_close_40 ?_
  obtain ⟨q22, fs22, hq22, hl22, hf22⟩ := ts_obj hS9.1 m2_ hk_4
  refine rn_callV (a := 0) (b := 0) [.int (20 : Int32), .int x21] kl_SG_Seal_66 dX8_close_43 q22 hl22 rfl (t_X4_setWord G S w8 hS9.1 o2_ m2_ (20 : Int32) x21) rfl rfl (Nat.le_of_ble_eq_true rfl) (Nat.le_of_ble_eq_true rfl) (Nat.le_of_ble_eq_true rfl) (Nat.le_of_ble_eq_true rfl) (Nat.le_of_ble_eq_true rfl) (Nat.le_of_ble_eq_true rfl) (fun _ _ h => False.elim h) (fun v9 w23 h24 => ?_)
  obtain ⟨hT25, rfl⟩ := h24
  have hS25 := St.tr hS9 hT25 rfl
  refine rn_stk [] rfl ?_
  refine rn_aload_n (i := 2) dX8_close_46 rfl rfl ?_
  refine rn_bipush (v := (24 : Int32)) dX8_close_47 (by decide) ?_
  refine rn_aload_n (i := 0) dX8_close_49 rfl rfl ?_
  refine rn_get q1 kg_SG_Seal_35 (hT25.fr hq1 rfl hl9) ((ho9 8 (by decide)).trans hx5) dX8_close_50 ?_
  refine rn_l2i dX8_close_53 rfl (rn_nmA (fun v26 rv26 => ?_))
  refine rn_callV (a := 0) (b := 0) [.int (24 : Int32), .int v26] kl_SG_Seal_66 dX8_close_54 q22 (hT25.fr hq22 rfl hl22) rfl (t_X4_setWord G S w23 hS25.1 o2_ m2_ (24 : Int32) v26) rfl rfl (Nat.le_of_ble_eq_true rfl) (Nat.le_of_ble_eq_true rfl) (Nat.le_of_ble_eq_true rfl) (Nat.le_of_ble_eq_true rfl) (Nat.le_of_ble_eq_true rfl) (Nat.le_of_ble_eq_true rfl) (fun _ _ h => False.elim h) (fun v9 w27 h28 => ?_)
  obtain ⟨hT29, rfl⟩ := h28
  have hS29 := St.tr hS25 hT29 rfl
  refine rn_stk [] rfl ?_
  refine rn_aload_n (i := 2) dX8_close_57 rfl rfl ?_
  refine rn_aload_n (i := 1) dX8_close_58 rfl rfl ?_
  refine rn_iconst (v := (0 : Int32)) dX8_close_59 (by decide) ?_
  refine rn_bipush (v := (28 : Int32)) dX8_close_60 (by decide) ?_
  refine rn_aload_n (i := 1) dX8_close_62 rfl rfl ?_
  refine rn_callV (a := 0) (b := 0) [] kl_SG_Seal_56 dX8_close_63 q14 (hT29.fr hq14 rfl (hT25.fr hq14 rfl hl14)) rfl (t_X4_size G S w27 hS29.1 o1_ m1_) rfl rfl (Nat.le_of_ble_eq_true rfl) (Nat.le_of_ble_eq_true rfl) (Nat.le_of_ble_eq_true rfl) (Nat.le_of_ble_eq_true rfl) (Nat.le_of_ble_eq_true rfl) (Nat.le_of_ble_eq_true rfl) (fun _ _ h => False.elim h) (fun v9 w30 h31 => ?_)
  obtain ⟨rfl, v32, rfl, rv32⟩ := h31
  refine rn_stk [.int v32, .int (28 : Int32), .int (0 : Int32), .ref o1_, .ref o2_] rfl ?_
  refine rn_callV (a := 0) (b := 0) [.ref o1_, .int (0 : Int32), .int (28 : Int32), .int v32] kl_SG_Seal_70 dX8_close_66 q22 (hT29.fr hq22 rfl (hT25.fr hq22 rfl hl22)) rfl (t_X4_copyBytes G S w27 hS29.1 o2_ m2_ o1_ m1_ (0 : Int32) (28 : Int32) v32) rfl rfl (Nat.le_of_ble_eq_true rfl) (Nat.le_of_ble_eq_true rfl) (Nat.le_of_ble_eq_true rfl) (Nat.le_of_ble_eq_true rfl) (Nat.le_of_ble_eq_true rfl) (Nat.le_of_ble_eq_true rfl) (fun _ _ h => False.elim h) (fun v9 w34 h35 => ?_)
  obtain ⟨hT36, rfl⟩ := h35
  have hS36 := St.tr hS29 hT36 rfl
  refine rn_stk [] rfl ?_
  refine rn_iconst (v := (0 : Int32)) dX8_close_69 (by decide) ?_
  refine rn_istore dX8_close_70 (by decide) [(0, .ref o0_), (1, .ref o1_), (2, .ref o2_), (3, .int v12), (4, .int v20), (5, .int (0 : Int32))] rfl ?_
  have LP38 : ∀ (n : Nat) (w39 : va_W) (x37 : Int32), St G S [11] w34 S w39 → Rg (0) (3) x37 → (3 - x37.toInt).toNat = n → Rn G mX8_close 3 84 0 0 72 [(0, .ref o0_), (1, .ref o1_), (2, .ref o2_), (3, .int v12), (4, .int v20), (5, .int x37)] [] w39 (q_t_X8_close G S ws ) := by
    intro n
    induction n using Nat.strongRecOn with
    | _ n ih =>
      intro w39 x37 hT40 r41 hm42
      refine rn_iload dX8_close_72 rfl ?_
      refine rn_iload_n (i := 3) dX8_close_74 rfl rfl ?_
      refine rn_icmp_ge (tgt := 102) dX8_close_75 (by decide) (fun h43 => ?_) (fun h43 => ?_)
      · have ch43 := cv_le h43
        have hS44 := St.tr hS36 hT40 rfl
        refine rn_aload_n (i := 2) dX8_close_102 rfl rfl ?_
        refine rn_iload dX8_close_103 rfl ?_
        refine rn_iload_n (i := 3) dX8_close_105 rfl rfl ?_
        refine rn_callV (a := 0) (b := 0) [.int v20, .int v12] kl_SG_Seal_74 dX8_close_106 q22 (hT40.fr hq22 rfl (hT36.fr hq22 rfl (hT29.fr hq22 rfl (hT25.fr hq22 rfl hl22)))) rfl (t_X4_setByte G S w39 hS44.1 o2_ m2_ v20 v12) rfl rfl (Nat.le_of_ble_eq_true rfl) (Nat.le_of_ble_eq_true rfl) (Nat.le_of_ble_eq_true rfl) (Nat.le_of_ble_eq_true rfl) (Nat.le_of_ble_eq_true rfl) (Nat.le_of_ble_eq_true rfl) (fun _ _ h => False.elim h) (fun v9 w45 h46 => ?_)
        obtain ⟨hT47, rfl⟩ := h46
        have hS47 := St.tr hS44 hT47 rfl
        refine rn_stk [] rfl ?_
        refine rn_aload_n (i := 2) dX8_close_109 rfl rfl ?_
        refine rn_iload dX8_close_110 rfl ?_
        refine rn_iconst (v := (1 : Int32)) dX8_close_112 (by decide) ?_
        refine rs_addC (29) (2072) rv20 rk_1 dX8_close_113 (by decide) (fun v48 ev48 rv48 => ?_)
        refine rn_iconst (v := (4 : Int32)) dX8_close_114 (by decide) ?_
        refine rn_callV (a := 0) (b := 0) [.int v48, .int (4 : Int32)] kl_SG_Seal_74 dX8_close_115 q22 (hT47.fr hq22 rfl (hT40.fr hq22 rfl (hT36.fr hq22 rfl (hT29.fr hq22 rfl (hT25.fr hq22 rfl hl22))))) rfl (t_X4_setByte G S w45 hS47.1 o2_ m2_ v48 (4 : Int32)) rfl rfl (Nat.le_of_ble_eq_true rfl) (Nat.le_of_ble_eq_true rfl) (Nat.le_of_ble_eq_true rfl) (Nat.le_of_ble_eq_true rfl) (Nat.le_of_ble_eq_true rfl) (Nat.le_of_ble_eq_true rfl) (fun _ _ h => False.elim h) (fun v9 w49 h50 => ?_)
        obtain ⟨hT51, rfl⟩ := h50
        have hS51 := St.tr hS47 hT51 rfl
        refine rn_stk [] rfl ?_
        refine rn_aload_n (i := 0) dX8_close_118 rfl rfl ?_
        refine rn_aload_n (i := 2) dX8_close_119 rfl rfl ?_
        refine rn_bipush (v := (28 : Int32)) dX8_close_120 (by decide) ?_
        refine rn_iload dX8_close_122 rfl ?_
        refine rn_iconst (v := (2 : Int32)) dX8_close_124 (by decide) ?_
        refine rs_addC (30) (2073) rv20 rk_2 dX8_close_125 (by decide) (fun v52 ev52 rv52 => ?_)
        refine rn_aload_n (i := 0) dX8_close_126 rfl rfl ?_
        refine rn_get q1 kg_SG_Seal_35 (hT51.fr hq1 rfl (hT47.fr hq1 rfl (hT40.fr hq1 rfl (hT36.fr hq1 rfl (hT29.fr hq1 rfl (hT25.fr hq1 rfl hl9)))))) ((ho9 8 (by decide)).trans hx5) dX8_close_127 ?_
        refine rn_callV (a := 0) (b := 0) [.ref o2_, .int (28 : Int32), .int v52, .long l3] kl_SG_Seal_77 dX8_close_130 q1 (hT51.fr hq1 rfl (hT47.fr hq1 rfl (hT40.fr hq1 rfl (hT36.fr hq1 rfl (hT29.fr hq1 rfl (hT25.fr hq1 rfl hl9)))))) rfl (t_X8_stream G S w49 hS51.1 o0_ m0_ o2_ m2_ (28 : Int32) v52 l3) rfl rfl (Nat.le_of_ble_eq_true rfl) (Nat.le_of_ble_eq_true rfl) (Nat.le_of_ble_eq_true rfl) (Nat.le_of_ble_eq_true rfl) (Nat.le_of_ble_eq_true rfl) (Nat.le_of_ble_eq_true rfl) (fun _ _ h => False.elim h) (fun v9 w53 h54 => ?_)
        obtain ⟨hT55, rfl⟩ := h54
        have hS55 := St.tr hS51 hT55 rfl
        refine rn_stk [] rfl ?_
        refine rn_aload_n (i := 2) dX8_close_133 rfl rfl ?_
        refine rn_iload dX8_close_134 rfl ?_
        refine rn_iconst (v := (2 : Int32)) dX8_close_136 (by decide) ?_
        refine rs_addC (30) (2073) rv20 rk_2 dX8_close_137 (by decide) (fun v56 ev56 rv56 => ?_)
        refine rn_aload_n (i := 0) dX8_close_138 rfl rfl ?_
        refine rn_aload_n (i := 2) dX8_close_139 rfl rfl ?_
        refine rn_iload dX8_close_140 rfl ?_
        refine rn_iconst (v := (2 : Int32)) dX8_close_142 (by decide) ?_
        refine rs_addC (30) (2073) rv20 rk_2 dX8_close_143 (by decide) (fun v57 ev57 rv57 => ?_)
        refine rn_aload_n (i := 0) dX8_close_144 rfl rfl ?_
        refine rn_get q1 kg_SG_Seal_35 (hT55.fr hq1 rfl (hT51.fr hq1 rfl (hT47.fr hq1 rfl (hT40.fr hq1 rfl (hT36.fr hq1 rfl (hT29.fr hq1 rfl (hT25.fr hq1 rfl hl9))))))) ((ho9 8 (by decide)).trans hx5) dX8_close_145 ?_
        refine rn_callV (a := 0) (b := 0) [.ref o2_, .int v57, .long l3] kl_SG_Seal_81 dX8_close_148 q1 (hT55.fr hq1 rfl (hT51.fr hq1 rfl (hT47.fr hq1 rfl (hT40.fr hq1 rfl (hT36.fr hq1 rfl (hT29.fr hq1 rfl (hT25.fr hq1 rfl hl9))))))) rfl (t_X8_stamp G S w53 hS55.1 o0_ m0_ o2_ m2_ v57 l3) rfl rfl (Nat.le_of_ble_eq_true rfl) (Nat.le_of_ble_eq_true rfl) (Nat.le_of_ble_eq_true rfl) (Nat.le_of_ble_eq_true rfl) (Nat.le_of_ble_eq_true rfl) (Nat.le_of_ble_eq_true rfl) (fun _ _ h => False.elim h) (fun v9 w58 h59 => ?_)
        obtain ⟨rfl, l60, rfl⟩ := h59
        refine rn_stk [.long l60, .int v56, .ref o2_] rfl ?_
        refine rn_callV (a := 0) (b := 0) [.int v56, .long l60] kl_SG_Seal_85 dX8_close_151 q22 (hT55.fr hq22 rfl (hT51.fr hq22 rfl (hT47.fr hq22 rfl (hT40.fr hq22 rfl (hT36.fr hq22 rfl (hT29.fr hq22 rfl (hT25.fr hq22 rfl hl22))))))) rfl (t_X4_setLong G S w53 hS55.1 o2_ m2_ v56 l60) rfl rfl (Nat.le_of_ble_eq_true rfl) (Nat.le_of_ble_eq_true rfl) (Nat.le_of_ble_eq_true rfl) (Nat.le_of_ble_eq_true rfl) (Nat.le_of_ble_eq_true rfl) (Nat.le_of_ble_eq_true rfl) (fun _ _ h => False.elim h) (fun v9 w62 h63 => ?_)
        obtain ⟨hT64, rfl⟩ := h63
        have hS64 := St.tr hS55 hT64 rfl
        refine rn_stk [] rfl ?_
        exact rn_vret dX8_close_154 rfl (rq_in ⟨hS64, rfl⟩)
      · have ch43 := cv_nle h43
        have r65 : Rg (0) (2) x37 := rf_ltx ch43 r41 rv12 (by decide)
        have r66 : Rg (1) (3) v12 := rf_lty ch43 r41 rv12 (by decide)
        refine rn_aload_n (i := 2) dX8_close_78 rfl rfl ?_
        refine rn_bipush (v := (28 : Int32)) dX8_close_79 (by decide) ?_
        refine rn_aload_n (i := 1) dX8_close_81 rfl rfl ?_
        refine rn_callV (a := 0) (b := 0) [] kl_SG_Seal_56 dX8_close_82 q14 (hT40.fr hq14 rfl (hT36.fr hq14 rfl (hT29.fr hq14 rfl (hT25.fr hq14 rfl hl14)))) rfl (t_X4_size G S w39 hT40.1 o1_ m1_) rfl rfl (Nat.le_of_ble_eq_true rfl) (Nat.le_of_ble_eq_true rfl) (Nat.le_of_ble_eq_true rfl) (Nat.le_of_ble_eq_true rfl) (Nat.le_of_ble_eq_true rfl) (Nat.le_of_ble_eq_true rfl) (fun _ _ h => False.elim h) (fun v9 w67 h68 => ?_)
        obtain ⟨rfl, v69, rfl, rv69⟩ := h68
        refine rn_stk [.int v69, .int (28 : Int32), .ref o2_] rfl ?_
        refine rs_addD (28) (2068) rk_28 rv69 dX8_close_85 (by decide) (fun v71 ev71 rv71 => ?_)
        refine rn_iload dX8_close_86 rfl ?_
        refine rs_addR (28) (2070) rv71 r65 dX8_close_88 (by decide) (fun v72 ev72 rv72 => ?_)
        refine rn_iload dX8_close_89 rfl ?_
        refine rn_iconst (v := (1 : Int32)) dX8_close_91 (by decide) ?_
        refine rs_addC (1) (3) r65 rk_1 dX8_close_92 (by decide) (fun v73 ev73 rv73 => ?_)
        refine rn_callV (a := 0) (b := 0) [.int v72, .int v73] kl_SG_Seal_74 dX8_close_93 q22 (hT40.fr hq22 rfl (hT36.fr hq22 rfl (hT29.fr hq22 rfl (hT25.fr hq22 rfl hl22)))) rfl (t_X4_setByte G S w39 hT40.1 o2_ m2_ v72 v73) rfl rfl (Nat.le_of_ble_eq_true rfl) (Nat.le_of_ble_eq_true rfl) (Nat.le_of_ble_eq_true rfl) (Nat.le_of_ble_eq_true rfl) (Nat.le_of_ble_eq_true rfl) (Nat.le_of_ble_eq_true rfl) (fun _ _ h => False.elim h) (fun v9 w74 h75 => ?_)
        obtain ⟨hT76, rfl⟩ := h75
        have hS76 := St.tr hT40 hT76 rfl
        refine rn_stk [] rfl ?_
        refine rs_iinc (1) (3) dX8_close_96 rfl (by decide) r65 rk_1 (by decide) (fun v77 => [(0, .ref o0_), (1, .ref o1_), (2, .ref o2_), (3, .int v12), (4, .int v20), (5, .int v77)]) (fun _ => rfl) (fun v77 ev77 rv77 => ?_)
        refine rn_goto (tgt := 72) dX8_close_99 (by decide) ?_
        refine rn_lv [(0, .ref o0_), (1, .ref o1_), (2, .ref o2_), (3, .int v12), (4, .int v20), (5, .int v77)] rfl ?_
        exact ih _ (lp_inc hm42 ev77 rv77 (by decide)) w74 v77 hS76 (rg_w rv77 (by decide) (by decide)) rfl
  exact LP38 _ w34 (0 : Int32) (St.rf hS36.1) (rg_w rk_0 (by decide) (by decide)) rfl
