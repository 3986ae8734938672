abbrev q_t_X9_letIn (G : rn_G) (S : ts_S) (ws : va_W) : rn_R → va_W → Prop := rQ (fun v w => St G S [2, 4, 9, 11, 14] ws S w ∧ (∃ x : Int32, v = some (.int x) ∧ Rg (0) (16) x)) (fun E w => False)
set_option maxRecDepth 20000 in
set_option maxHeartbeats 4000000 in
theorem t_X9_letIn (G : rn_G) (S : ts_S) (ws : va_W) (hW : ts_W G S ws) (o0_ : Nat) (m0_ : (o0_, 9) ∈ S) (o1_ : Nat) (m1_ : (o1_, 4) ∈ S) (x2_ : Int32) (x3_ : Int32) (x4_ : Int32) : Rn G mX9_letIn 5 151 0 0 0 (lv_args 0 [.ref o0_, .ref o1_, .int x2_, .int x3_, .int x4_]) [] ws (q_t_X9_letIn G S ws ) := by
  have hS0 : St G S [2, 4, 9, 11, 14] ws S ws := St.rf hW
  refine rn_lv [(0, .ref o0_), (1, .ref o1_), (2, .int x2_), (3, .int x3_), (4, .int x4_)] rfl ?_
  refine rn_aload_n (i := 0) dX9_letIn_0 rfl rfl ?_
  obtain ⟨q1, fs1, hq1, hl1, hf1⟩ := ts_obj hS0.1 m0_ hk_9
  obtain ⟨o2, hx2, m2⟩ := fs_r hf1 8 rfl
  refine rn_get q1 kg_SG_42 hl1 hx2 dX9_letIn_1 ?_
  refine rn_iconst (v := (1 : Int32)) dX9_letIn_4 (by decide) ?_
  refine rn_aload_n (i := 1) dX9_letIn_5 rfl rfl ?_
  obtain ⟨q3, fs3, hq3, hl3, hf3⟩ := ts_obj hS0.1 m2 hk_5
  refine rn_callV (a := 0) (b := 0) [.int (1 : Int32), .ref o1_] kl_SG_299 dX9_letIn_6 q3 hl3 rfl (t_X5_doneWith G S ws hS0.1 o2 m2 (1 : Int32) o1_ m1_) rfl rfl (Nat.le_of_ble_eq_true rfl) (Nat.le_of_ble_eq_true rfl) (Nat.le_of_ble_eq_true rfl) (Nat.le_of_ble_eq_true rfl) (Nat.le_of_ble_eq_true rfl) (Nat.le_of_ble_eq_true rfl) (fun _ _ h => False.elim h) (fun v9 w4 h5 => ?_)
  obtain ⟨rfl, v6, rfl, rv6⟩ := h5
  refine rn_stk [.int v6] rfl ?_
  refine rn_iload_n (i := 2) dX9_letIn_9 rfl rfl ?_
  refine rn_icmp_eq (tgt := 29) dX9_letIn_10 (by decide) (fun h8 => ?_) (fun h8 => ?_)
  · have ch8 := cv_eq h8
    refine rn_aload_n (i := 1) dX9_letIn_29 rfl rfl ?_
    obtain ⟨q9, fs9, hq9, hl9, hf9⟩ := ts_obj hS0.1 m1_ hk_4
    refine rn_callV (a := 0) (b := 0) [] kl_SG_293 dX9_letIn_30 q9 hl9 rfl (t_X4_hops G S ws hS0.1 o1_ m1_) rfl rfl (Nat.le_of_ble_eq_true rfl) (Nat.le_of_ble_eq_true rfl) (Nat.le_of_ble_eq_true rfl) (Nat.le_of_ble_eq_true rfl) (Nat.le_of_ble_eq_true rfl) (Nat.le_of_ble_eq_true rfl) (fun _ _ h => False.elim h) (fun v9 w10 h11 => ?_)
    obtain ⟨rfl, v12, rfl, rv12⟩ := h11
    refine rn_stk [.int v12] rfl ?_
    refine rn_iconst (v := (1 : Int32)) dX9_letIn_33 (by decide) ?_
    refine rn_icmp_gt (tgt := 39) dX9_letIn_34 (by decide) (fun h14 => ?_) (fun h14 => ?_)
    · have ch14 := cv_lt h14
      have r15 : Rg (2) (255) v12 := rf_lty ch14 rk_1 rv12 (by decide)
      refine rn_aload_n (i := 0) dX9_letIn_39 rfl rfl ?_
      obtain ⟨o16, hx16, m16⟩ := fs_r hf1 7 rfl
      refine rn_get q1 kg_SG_35 hl1 hx16 dX9_letIn_40 ?_
      refine rn_aload_n (i := 1) dX9_letIn_43 rfl rfl ?_
      refine rn_callV (a := 0) (b := 0) [] kl_SG_296 dX9_letIn_44 q9 hl9 rfl (t_X4_to G S ws hS0.1 o1_ m1_) rfl rfl (Nat.le_of_ble_eq_true rfl) (Nat.le_of_ble_eq_true rfl) (Nat.le_of_ble_eq_true rfl) (Nat.le_of_ble_eq_true rfl) (Nat.le_of_ble_eq_true rfl) (Nat.le_of_ble_eq_true rfl) (fun _ _ h => False.elim h) (fun v9 w17 h18 => ?_)
      obtain ⟨rfl, v19, rfl, rv19⟩ := h18
      refine rn_stk [.int v19, .ref o16] rfl ?_
      obtain ⟨q21, fs21, hq21, hl21, hf21⟩ := ts_obj hS0.1 m16 hk_7
      refine rn_callV (a := 0) (b := 0) [.int v19] kl_SG_236 dX9_letIn_47 q21 hl21 rfl (t_X7_portOf G S ws hS0.1 o16 m16 v19) rfl rfl (Nat.le_of_ble_eq_true rfl) (Nat.le_of_ble_eq_true rfl) (Nat.le_of_ble_eq_true rfl) (Nat.le_of_ble_eq_true rfl) (Nat.le_of_ble_eq_true rfl) (Nat.le_of_ble_eq_true rfl) (fun _ _ h => False.elim h) (fun v9 w22 h23 => ?_)
      obtain ⟨rfl, v24, rfl, rv24, xah23⟩ := h23
      refine rn_stk [.int v24] rfl ?_
      refine rn_if_eq (tgt := 55) dX9_letIn_50 (by decide) (fun h26 => ?_) (fun h26 => ?_)
      · have ch26 := cv_eq h26
        have r27 : Rg (0) (0) v24 := rf_eqx ch26 rv24 rk_0 (by decide) (by decide)
        refine rn_aload_n (i := 0) dX9_letIn_55 rfl rfl ?_
        refine rn_aload_n (i := 1) dX9_letIn_56 rfl rfl ?_
        refine rn_iconst (v := (0 : Int32)) dX9_letIn_57 (by decide) ?_
        refine rn_callV (a := 0) (b := 0) [.ref o1_, .int (0 : Int32)] kl_SG_302 dX9_letIn_58 q1 hl1 rfl (t_X9_passOn G S ws hS0.1 o0_ m0_ o1_ m1_ (0 : Int32)) rfl rfl (Nat.le_of_ble_eq_true rfl) (Nat.le_of_ble_eq_true rfl) (Nat.le_of_ble_eq_true rfl) (Nat.le_of_ble_eq_true rfl) (Nat.le_of_ble_eq_true rfl) (Nat.le_of_ble_eq_true rfl) (fun _ _ h => False.elim h) (fun v9 w28 h29 => ?_)
        obtain ⟨hT31, v30, rfl, rv30⟩ := h29
        have hS31 := St.tr hS0 hT31 rfl
        refine rn_stk [.int v30] rfl ?_
        exact rn_iret dX9_letIn_61 rfl rfl (rq_in ⟨hS31, v30, rfl, (rg_w rv30 (by decide) (by decide))⟩)
      · have ch26 := cv_ne h26
        refine rn_iconst (v := (3 : Int32)) dX9_letIn_53 (by decide) ?_
        exact rn_iret dX9_letIn_54 rfl rfl (rq_in ⟨hS0, (3 : Int32), rfl, (rg_w rk_3 (by decide) (by decide))⟩)
    · have ch14 := cv_nlt h14
      have r32 : Rg (0) (1) v12 := rf_lex ch14 rv12 rk_1 (by decide)
      refine rn_iconst (v := (2 : Int32)) dX9_letIn_37 (by decide) ?_
      exact rn_iret dX9_letIn_38 rfl rfl (rq_in ⟨hS0, (2 : Int32), rfl, (rg_w rk_2 (by decide) (by decide))⟩)
  · have ch8 := cv_ne h8
    refine rn_aload_n (i := 0) dX9_letIn_13 rfl rfl ?_
    obtain ⟨o33, hx33, m33⟩ := fs_r hf1 14 rfl
    refine rn_get q1 kg_SG_66 hl1 hx33 dX9_letIn_14 ?_
    refine rn_bipush (v := (16 : Int32)) dX9_letIn_17 (by decide) ?_
    refine rn_aload_n (i := 1) dX9_letIn_19 rfl rfl ?_
    refine rn_iload_n (i := 3) dX9_letIn_20 rfl rfl ?_
    refine rn_iload dX9_letIn_21 rfl ?_
    obtain ⟨q34, fs34, hq34, hl34, hf34⟩ := ts_obj hS0.1 m33 hk_2
    refine rn_callV (a := 0) (b := 0) [.int (16 : Int32), .ref o1_, .int x3_, .int x4_] kl_SG_374 dX9_letIn_23 q34 hl34 rfl (t_X2_note G S ws hS0.1 o33 m33 (16 : Int32) o1_ m1_ x3_ x4_) rfl rfl (Nat.le_of_ble_eq_true rfl) (Nat.le_of_ble_eq_true rfl) (Nat.le_of_ble_eq_true rfl) (Nat.le_of_ble_eq_true rfl) (Nat.le_of_ble_eq_true rfl) (Nat.le_of_ble_eq_true rfl) (fun _ _ h => False.elim h) (fun v9 w35 h36 => ?_)
    obtain ⟨hT37, rfl⟩ := h36
    have hS37 := St.tr hS0 hT37 rfl
    refine rn_stk [] rfl ?_
    refine rn_bipush (v := (16 : Int32)) dX9_letIn_26 (by decide) ?_
    exact rn_iret dX9_letIn_28 rfl rfl (rq_in ⟨hS37, (16 : Int32), rfl, (rg_w rk_16 (by decide) (by decide))⟩)
abbrev q_t_X9_uncover (G : rn_G) (S : ts_S) (ws : va_W) : rn_R → va_W → Prop := rQ (fun v w => St G S [4] ws S w ∧ (∃ x : Int32, v = some (.int x) ∧ Rg (0) (15) x)) (fun E w => False)
set_option maxRecDepth 20000 in
set_option maxHeartbeats 4000000 in
theorem t_X9_uncover (G : rn_G) (S : ts_S) (ws : va_W) (hW : ts_W G S ws) (o0_ : Nat) (m0_ : (o0_, 4) ∈ S) : Rn G mX9_uncover 3 63 0 0 0 (lv_args 0 [.ref o0_]) [] ws (q_t_X9_uncover G S ws ) := by
  have hS0 : St G S [4] ws S ws := St.rf hW
  refine rn_lv [(0, .ref o0_)] rfl ?_
  refine rn_aload_n (i := 0) dX9_uncover_0 rfl rfl ?_
  refine rn_aload_n (i := 0) dX9_uncover_1 rfl rfl ?_
  obtain ⟨q1, fs1, hq1, hl1, hf1⟩ := ts_obj hS0.1 m0_ hk_4
  refine rn_callV (a := 0) (b := 0) [] kl_SG_76 dX9_uncover_2 q1 hl1 rfl (t_X4_size G S ws hS0.1 o0_ m0_) rfl rfl (Nat.le_of_ble_eq_true rfl) (Nat.le_of_ble_eq_true rfl) (Nat.le_of_ble_eq_true rfl) (Nat.le_of_ble_eq_true rfl) (Nat.le_of_ble_eq_true rfl) (Nat.le_of_ble_eq_true rfl) (fun _ _ h => False.elim h) (fun v9 w2 h3 => ?_)
  obtain ⟨rfl, v4, rfl, rv4⟩ := h3
  refine rn_stk [.int v4, .ref o0_] rfl ?_
  refine rn_iconst (v := (1 : Int32)) dX9_uncover_5 (by decide) ?_
  refine rs_subC (-1) (2039) rv4 rk_1 dX9_uncover_6 (by decide) (fun v6 ev6 rv6 => ?_)
  refine rn_callV (a := 0) (b := 0) [.int v6] kl_SG_119 dX9_uncover_7 q1 hl1 rfl (t_X4_byteAt G S ws hS0.1 o0_ m0_ v6) rfl rfl (Nat.le_of_ble_eq_true rfl) (Nat.le_of_ble_eq_true rfl) (Nat.le_of_ble_eq_true rfl) (Nat.le_of_ble_eq_true rfl) (Nat.le_of_ble_eq_true rfl) (Nat.le_of_ble_eq_true rfl) (fun _ _ h => False.elim h) (fun v9 w7 h8 => ?_)
  obtain ⟨rfl, v9, rfl, rv9⟩ := h8
  refine rn_stk [.int v9] rfl ?_
  refine rn_istore_n dX9_uncover_10 rfl (by decide) [(0, .ref o0_), (1, .int v9)] rfl ?_
  refine rn_aload_n (i := 0) dX9_uncover_11 rfl rfl ?_
  refine rn_aload_n (i := 0) dX9_uncover_12 rfl rfl ?_
  refine rn_callV (a := 0) (b := 0) [] kl_SG_76 dX9_uncover_13 q1 hl1 rfl (t_X4_size G S ws hS0.1 o0_ m0_) rfl rfl (Nat.le_of_ble_eq_true rfl) (Nat.le_of_ble_eq_true rfl) (Nat.le_of_ble_eq_true rfl) (Nat.le_of_ble_eq_true rfl) (Nat.le_of_ble_eq_true rfl) (Nat.le_of_ble_eq_true rfl) (fun _ _ h => False.elim h) (fun v9 w11 h12 => ?_)
  obtain ⟨rfl, v13, rfl, rv13⟩ := h12
  refine rn_stk [.int v13, .ref o0_] rfl ?_
  refine rn_iconst (v := (2 : Int32)) dX9_uncover_16 (by decide) ?_
  refine rs_subC (-2) (2038) rv13 rk_2 dX9_uncover_17 (by decide) (fun v15 ev15 rv15 => ?_)
  refine rn_callV (a := 0) (b := 0) [.int v15] kl_SG_119 dX9_uncover_18 q1 hl1 rfl (t_X4_byteAt G S ws hS0.1 o0_ m0_ v15) rfl rfl (Nat.le_of_ble_eq_true rfl) (Nat.le_of_ble_eq_true rfl) (Nat.le_of_ble_eq_true rfl) (Nat.le_of_ble_eq_true rfl) (Nat.le_of_ble_eq_true rfl) (Nat.le_of_ble_eq_true rfl) (fun _ _ h => False.elim h) (fun v9 w16 h17 => ?_)
  obtain ⟨rfl, v18, rfl, rv18⟩ := h17
  refine rn_stk [.int v18] rfl ?_
  refine rn_istore_n dX9_uncover_21 rfl (by decide) [(0, .ref o0_), (1, .int v9), (2, .int v18)] rfl ?_
  refine rn_aload_n (i := 0) dX9_uncover_22 rfl rfl ?_
  refine rn_callV (a := 0) (b := 0) [] kl_SG_76 dX9_uncover_23 q1 hl1 rfl (t_X4_size G S ws hS0.1 o0_ m0_) rfl rfl (Nat.le_of_ble_eq_true rfl) (Nat.le_of_ble_eq_true rfl) (Nat.le_of_ble_eq_true rfl) (Nat.le_of_ble_eq_true rfl) (Nat.le_of_ble_eq_true rfl) (Nat.le_of_ble_eq_true rfl) (fun _ _ h => False.elim h) (fun v9 w20 h21 => ?_)
  obtain ⟨rfl, v22, rfl, rv22⟩ := h21
  refine rn_stk [.int v22] rfl ?_
  refine rn_iconst (v := (2 : Int32)) dX9_uncover_26 (by decide) ?_
  refine rs_subC (-2) (2038) rv22 rk_2 dX9_uncover_27 (by decide) (fun v24 ev24 rv24 => ?_)
  refine rn_iload_n (i := 2) dX9_uncover_28 rfl rfl ?_
  refine rs_subR (-257) (2038) rv24 rv18 dX9_uncover_29 (by decide) (fun v25 ev25 rv25 => ?_)
  refine rn_istore_n dX9_uncover_30 rfl (by decide) [(0, .ref o0_), (1, .int v9), (2, .int v18), (3, .int v25)] rfl ?_
  refine rn_iload_n (i := 3) dX9_uncover_31 rfl rfl ?_
  refine rn_if_lt (tgt := 44) dX9_uncover_32 (by decide) (fun h26 => ?_) (fun h26 => ?_)
  · have ch26 := cv_lt h26
    have r27 : Rg (-257) (-1) v25 := rf_ltx ch26 rv25 rk_0 (by decide)
    refine rn_bipush (v := (13 : Int32)) dX9_uncover_44 (by decide) ?_
    exact rn_iret dX9_uncover_46 rfl rfl (rq_in ⟨hS0, (13 : Int32), rfl, (rg_w rk_13 (by decide) (by decide))⟩)
  · have ch26 := cv_nlt h26
    have r28 : Rg (0) (2038) v25 := rf_ley ch26 rk_0 rv25 (by decide)
    refine rn_aload_n (i := 0) dX9_uncover_35 rfl rfl ?_
    refine rn_iload_n (i := 3) dX9_uncover_36 rfl rfl ?_
    refine rn_iload_n (i := 2) dX9_uncover_37 rfl rfl ?_
    refine rn_callV (a := 0) (b := 0) [.int v25, .int v18] kl_SG_405 dX9_uncover_38 q1 hl1 rfl (t_X4_countsUp G S ws hS0.1 o0_ m0_ v25 v18) rfl rfl (Nat.le_of_ble_eq_true rfl) (Nat.le_of_ble_eq_true rfl) (Nat.le_of_ble_eq_true rfl) (Nat.le_of_ble_eq_true rfl) (Nat.le_of_ble_eq_true rfl) (Nat.le_of_ble_eq_true rfl) (fun _ _ h => False.elim h) (fun v9 w29 h30 => ?_)
    obtain ⟨rfl, v31, rfl, rv31⟩ := h30
    refine rn_stk [.int v31] rfl ?_
    refine rn_if_ne (tgt := 47) dX9_uncover_41 (by decide) (fun h33 => ?_) (fun h33 => ?_)
    · have ch33 := cv_ne h33
      have r34 : Rg (1) (1) v31 := rf_nel ch33 rv31 rk_0 (by decide) (by decide)
      refine rn_iload_n (i := 1) dX9_uncover_47 rfl rfl ?_
      refine rn_iconst (v := (4 : Int32)) dX9_uncover_48 (by decide) ?_
      refine rn_icmp_eq (tgt := 66) dX9_uncover_49 (by decide) (fun h35 => ?_) (fun h35 => ?_)
      · have ch35 := cv_eq h35
        have r36 : Rg (4) (4) v9 := rf_eqx ch35 rv9 rk_4 (by decide) (by decide)
        refine rn_aload_n (i := 0) dX9_uncover_66 rfl rfl ?_
        refine rn_iload_n (i := 3) dX9_uncover_67 rfl rfl ?_
        refine rn_callV (a := 0) (b := 0) [.int v25] kl_SG_87 dX9_uncover_68 q1 hl1 rfl (t_X4_resize G S ws hS0.1 o0_ m0_ v25) rfl rfl (Nat.le_of_ble_eq_true rfl) (Nat.le_of_ble_eq_true rfl) (Nat.le_of_ble_eq_true rfl) (Nat.le_of_ble_eq_true rfl) (Nat.le_of_ble_eq_true rfl) (Nat.le_of_ble_eq_true rfl) (fun _ _ h => False.elim h) (fun v9 w37 h38 => ?_)
        obtain ⟨hT39, rfl⟩ := h38
        have hS39 := St.tr hS0 hT39 rfl
        refine rn_stk [] rfl ?_
        refine rn_aload_n (i := 0) dX9_uncover_71 rfl rfl ?_
        obtain ⟨q40, fs40, hq40, hl40, hf40⟩ := ts_obj hS39.1 m0_ hk_4
        refine rn_callV (a := 0) (b := 0) [] kl_SG_226 dX9_uncover_72 q40 hl40 rfl (t_X4_isBroken G S w37 hS39.1 o0_ m0_) rfl rfl (Nat.le_of_ble_eq_true rfl) (Nat.le_of_ble_eq_true rfl) (Nat.le_of_ble_eq_true rfl) (Nat.le_of_ble_eq_true rfl) (Nat.le_of_ble_eq_true rfl) (Nat.le_of_ble_eq_true rfl) (fun _ _ h => False.elim h) (fun v9 w41 h42 => ?_)
        obtain ⟨rfl, v43, rfl, rv43⟩ := h42
        refine rn_stk [.int v43] rfl ?_
        refine rn_if_ne (tgt := 86) dX9_uncover_75 (by decide) (fun h45 => ?_) (fun h45 => ?_)
        · have ch45 := cv_ne h45
          have r46 : Rg (1) (1) v43 := rf_nel ch45 rv43 rk_0 (by decide) (by decide)
          refine rn_bipush (v := (15 : Int32)) dX9_uncover_86 (by decide) ?_
          refine rn_goto (tgt := 92) dX9_uncover_88 (by decide) ?_
          exact rn_iret dX9_uncover_92 rfl rfl (rq_in ⟨hS39, (15 : Int32), rfl, (rg_w rk_15 (by decide) (by decide))⟩)
        · have ch45 := cv_eq h45
          have r47 : Rg (0) (0) v43 := rf_eqx ch45 rv43 rk_0 (by decide) (by decide)
          refine rn_aload_n (i := 0) dX9_uncover_78 rfl rfl ?_
          refine rn_callV (a := 0) (b := 0) [] kl_SG_409 dX9_uncover_79 q40 hl40 rfl (t_X4_length G S w37 hS39.1 o0_ m0_) rfl rfl (Nat.le_of_ble_eq_true rfl) (Nat.le_of_ble_eq_true rfl) (Nat.le_of_ble_eq_true rfl) (Nat.le_of_ble_eq_true rfl) (Nat.le_of_ble_eq_true rfl) (Nat.le_of_ble_eq_true rfl) (fun _ _ h => False.elim h) (fun v9 w48 h49 => ?_)
          obtain ⟨rfl, v50, rfl, rv50⟩ := h49
          refine rn_stk [.int v50] rfl ?_
          refine rn_iload_n (i := 3) dX9_uncover_82 rfl rfl ?_
          refine rn_icmp_eq (tgt := 91) dX9_uncover_83 (by decide) (fun h52 => ?_) (fun h52 => ?_)
          · have ch52 := cv_eq h52
            have r53 : Rg (0) (2038) v50 := rf_eqx ch52 rv50 r28 (by decide) (by decide)
            refine rn_iconst (v := (0 : Int32)) dX9_uncover_91 (by decide) ?_
            exact rn_iret dX9_uncover_92 rfl rfl (rq_in ⟨hS39, (0 : Int32), rfl, (rg_w rk_0 (by decide) (by decide))⟩)
          · have ch52 := cv_ne h52
            refine rn_bipush (v := (15 : Int32)) dX9_uncover_86 (by decide) ?_
            refine rn_goto (tgt := 92) dX9_uncover_88 (by decide) ?_
            exact rn_iret dX9_uncover_92 rfl rfl (rq_in ⟨hS39, (15 : Int32), rfl, (rg_w rk_15 (by decide) (by decide))⟩)
      · have ch35 := cv_ne h35
        refine rn_iload_n (i := 1) dX9_uncover_52 rfl rfl ?_
        refine rn_bipush (v := (59 : Int32)) dX9_uncover_53 (by decide) ?_
        refine rn_icmp_ne (tgt := 63) dX9_uncover_55 (by decide) (fun h54 => ?_) (fun h54 => ?_)
        · have ch54 := cv_ne h54
          refine rn_bipush (v := (13 : Int32)) dX9_uncover_63 (by decide) ?_
          exact rn_iret dX9_uncover_65 rfl rfl (rq_in ⟨hS0, (13 : Int32), rfl, (rg_w rk_13 (by decide) (by decide))⟩)
        · have ch54 := cv_eq h54
          have r55 : Rg (59) (59) v9 := rf_eqx ch54 rv9 rk_59 (by decide) (by decide)
          refine rn_bipush (v := (14 : Int32)) dX9_uncover_58 (by decide) ?_
          refine rn_goto (tgt := 65) dX9_uncover_60 (by decide) ?_
          exact rn_iret dX9_uncover_65 rfl rfl (rq_in ⟨hS0, (14 : Int32), rfl, (rg_w rk_14 (by decide) (by decide))⟩)
    · have ch33 := cv_eq h33
      have r56 : Rg (0) (0) v31 := rf_eqx ch33 rv31 rk_0 (by decide) (by decide)
      refine rn_bipush (v := (13 : Int32)) dX9_uncover_44 (by decide) ?_
      exact rn_iret dX9_uncover_46 rfl rfl (rq_in ⟨hS0, (13 : Int32), rfl, (rg_w rk_13 (by decide) (by decide))⟩)
abbrev q_t_X9_unseal (G : rn_G) (S : ts_S) (ws : va_W) : rn_R → va_W → Prop := rQ (fun v w => St G S [4, 8, 11] ws S w ∧ (∃ x : Int32, v = some (.int x) ∧ Rg (0) (15) x)) (fun E w => False)
set_option maxRecDepth 20000 in
set_option maxHeartbeats 4000000 in
theorem t_X9_unseal (G : rn_G) (S : ts_S) (ws : va_W) (hW : ts_W G S ws) (o0_ : Nat) (m0_ : (o0_, 9) ∈ S) (u1_ : Value) (m1_ : u1_ = .null ∨ ∃ o : Nat, u1_ = .ref o ∧ (o, 8) ∈ S) (x2_ : Int32) : Rn G mX9_unseal 4 109 0 0 0 (lv_args 0 [.ref o0_, u1_, .int x2_]) [] ws (q_t_X9_unseal G S ws ) := by
  have hS0 : St G S [4, 8, 11] ws S ws := St.rf hW
  rcases m1_ with rfl | ⟨o1_, rfl, m1_⟩
  · refine rn_lv [(0, .ref o0_), (1, .null), (2, .int x2_)] rfl ?_
    refine rn_aload_nN (i := 1) dX9_unseal_0 rfl rfl ?_
    refine rn_ifnullN (tgt := 29) dX9_unseal_1 (by decide) ?_
    refine rn_bipush (v := (9 : Int32)) dX9_unseal_29 (by decide) ?_
    exact rn_iret dX9_unseal_31 rfl rfl (rq_in ⟨hS0, (9 : Int32), rfl, (rg_w rk_9 (by decide) (by decide))⟩)
  · refine rn_lv [(0, .ref o0_), (1, .ref o1_), (2, .int x2_)] rfl ?_
    refine rn_aload_n (i := 1) dX9_unseal_0 rfl rfl ?_
    refine rn_ifnull dX9_unseal_1 ?_
    refine rn_aload_n (i := 1) dX9_unseal_4 rfl rfl ?_
    obtain ⟨q1, fs1, hq1, hl1, hf1⟩ := ts_obj hS0.1 m1_ hk_8
    refine rn_callV (a := 0) (b := 0) [] kl_SG_193 dX9_unseal_5 q1 hl1 rfl (t_X8_isDead G S ws hS0.1 o1_ m1_) rfl rfl (Nat.le_of_ble_eq_true rfl) (Nat.le_of_ble_eq_true rfl) (Nat.le_of_ble_eq_true rfl) (Nat.le_of_ble_eq_true rfl) (Nat.le_of_ble_eq_true rfl) (Nat.le_of_ble_eq_true rfl) (fun _ _ h => False.elim h) (fun v9 w2 h3 => ?_)
    obtain ⟨rfl, v4, rfl, rv4⟩ := h3
    refine rn_stk [.int v4] rfl ?_
    refine rn_if_ne (tgt := 29) dX9_unseal_8 (by decide) (fun h6 => ?_) (fun h6 => ?_)
    · have ch6 := cv_ne h6
      have r7 : Rg (1) (1) v4 := rf_nel ch6 rv4 rk_0 (by decide) (by decide)
      refine rn_bipush (v := (9 : Int32)) dX9_unseal_29 (by decide) ?_
      exact rn_iret dX9_unseal_31 rfl rfl (rq_in ⟨hS0, (9 : Int32), rfl, (rg_w rk_9 (by decide) (by decide))⟩)
    · have ch6 := cv_eq h6
      have r8 : Rg (0) (0) v4 := rf_eqx ch6 rv4 rk_0 (by decide) (by decide)
      refine rn_aload_n (i := 0) dX9_unseal_11 rfl rfl ?_
      obtain ⟨q9, fs9, hq9, hl9, hf9⟩ := ts_obj hS0.1 m0_ hk_9
      obtain ⟨o10, hx10, m10⟩ := fs_r hf9 2 rfl
      refine rn_get q9 kg_SG_16 hl9 hx10 dX9_unseal_12 ?_
      obtain ⟨q11, fs11, hq11, hl11, hf11⟩ := ts_obj hS0.1 m10 hk_4
      refine rn_callV (a := 0) (b := 0) [] kl_SG_378 dX9_unseal_15 q11 hl11 rfl (t_X4_from G S ws hS0.1 o10 m10) rfl rfl (Nat.le_of_ble_eq_true rfl) (Nat.le_of_ble_eq_true rfl) (Nat.le_of_ble_eq_true rfl) (Nat.le_of_ble_eq_true rfl) (Nat.le_of_ble_eq_true rfl) (Nat.le_of_ble_eq_true rfl) (fun _ _ h => False.elim h) (fun v9 w12 h13 => ?_)
      obtain ⟨rfl, v14, rfl, rv14⟩ := h13
      refine rn_stk [.int v14] rfl ?_
      refine rn_aload_n (i := 0) dX9_unseal_18 rfl rfl ?_
      refine rn_aload_n (i := 1) dX9_unseal_19 rfl rfl ?_
      refine rn_callV (a := 0) (b := 0) [] kl_SG_248 dX9_unseal_20 q1 hl1 rfl (t_X8_tunnel G S ws hS0.1 o1_ m1_) rfl rfl (Nat.le_of_ble_eq_true rfl) (Nat.le_of_ble_eq_true rfl) (Nat.le_of_ble_eq_true rfl) (Nat.le_of_ble_eq_true rfl) (Nat.le_of_ble_eq_true rfl) (Nat.le_of_ble_eq_true rfl) (fun _ _ h => False.elim h) (fun v9 w16 h17 => ?_)
      obtain ⟨rfl, v18, rfl, rv18⟩ := h17
      refine rn_stk [.int v18, .ref o0_, .int v14] rfl ?_
      refine rn_callV (a := 0) (b := 0) [.int v18] kl_SG_316 dX9_unseal_23 q9 hl9 rfl (t_X9_peerOf G S ws hS0.1 o0_ m0_ v18) rfl rfl (Nat.le_of_ble_eq_true rfl) (Nat.le_of_ble_eq_true rfl) (Nat.le_of_ble_eq_true rfl) (Nat.le_of_ble_eq_true rfl) (Nat.le_of_ble_eq_true rfl) (Nat.le_of_ble_eq_true rfl) (fun _ _ h => False.elim h) (fun v9 w20 h21 => ?_)
      obtain ⟨rfl, v22, rfl, rv22⟩ := h21
      refine rn_stk [.int v22, .int v14] rfl ?_
      refine rn_icmp_eq (tgt := 32) dX9_unseal_26 (by decide) (fun h24 => ?_) (fun h24 => ?_)
      · have ch24 := cv_eq h24
        refine rn_aload_n (i := 1) dX9_unseal_32 rfl rfl ?_
        refine rn_iload_n (i := 2) dX9_unseal_33 rfl rfl ?_
        refine rn_callV (a := 0) (b := 0) [.int x2_] kl_SG_381 dX9_unseal_34 q1 hl1 rfl (t_X8_wholeNumber G S ws hS0.1 o1_ m1_ x2_) rfl rfl (Nat.le_of_ble_eq_true rfl) (Nat.le_of_ble_eq_true rfl) (Nat.le_of_ble_eq_true rfl) (Nat.le_of_ble_eq_true rfl) (Nat.le_of_ble_eq_true rfl) (Nat.le_of_ble_eq_true rfl) (fun _ _ h => False.elim h) (fun v9 w25 h26 => ?_)
        obtain ⟨rfl, l27, rfl⟩ := h26
        refine rn_stk [.long l27] rfl ?_
        refine rn_lstore_n dX9_unseal_37 rfl (by decide) [(0, .ref o0_), (1, .ref o1_), (2, .int x2_), (3, .long l27)] rfl ?_
        refine rn_aload_n (i := 1) dX9_unseal_38 rfl rfl ?_
        refine rn_lload_n (i := 3) dX9_unseal_39 rfl rfl ?_
        refine rn_callV (a := 0) (b := 0) [.long l27] kl_SG_385 dX9_unseal_40 q1 hl1 rfl (t_X8_isOld G S ws hS0.1 o1_ m1_ l27) rfl rfl (Nat.le_of_ble_eq_true rfl) (Nat.le_of_ble_eq_true rfl) (Nat.le_of_ble_eq_true rfl) (Nat.le_of_ble_eq_true rfl) (Nat.le_of_ble_eq_true rfl) (Nat.le_of_ble_eq_true rfl) (fun _ _ h => False.elim h) (fun v9 w29 h30 => ?_)
        obtain ⟨rfl, v31, rfl, rv31⟩ := h30
        refine rn_stk [.int v31] rfl ?_
        refine rn_if_eq (tgt := 49) dX9_unseal_43 (by decide) (fun h33 => ?_) (fun h33 => ?_)
        · have ch33 := cv_eq h33
          have r34 : Rg (0) (0) v31 := rf_eqx ch33 rv31 rk_0 (by decide) (by decide)
          refine rn_aload_n (i := 1) dX9_unseal_49 rfl rfl ?_
          refine rn_lload_n (i := 3) dX9_unseal_50 rfl rfl ?_
          refine rn_callV (a := 0) (b := 0) [.long l27] kl_SG_389 dX9_unseal_51 q1 hl1 rfl (t_X8_wasSeen G S ws hS0.1 o1_ m1_ l27) rfl rfl (Nat.le_of_ble_eq_true rfl) (Nat.le_of_ble_eq_true rfl) (Nat.le_of_ble_eq_true rfl) (Nat.le_of_ble_eq_true rfl) (Nat.le_of_ble_eq_true rfl) (Nat.le_of_ble_eq_true rfl) (fun _ _ h => False.elim h) (fun v9 w35 h36 => ?_)
          obtain ⟨rfl, v37, rfl, rv37⟩ := h36
          refine rn_stk [.int v37] rfl ?_
          refine rn_if_eq (tgt := 60) dX9_unseal_54 (by decide) (fun h39 => ?_) (fun h39 => ?_)
          · have ch39 := cv_eq h39
            have r40 : Rg (0) (0) v37 := rf_eqx ch39 rv37 rk_0 (by decide) (by decide)
            refine rn_aload_n (i := 1) dX9_unseal_60 rfl rfl ?_
            refine rn_aload_n (i := 0) dX9_unseal_61 rfl rfl ?_
            refine rn_get q9 kg_SG_16 hl9 hx10 dX9_unseal_62 ?_
            refine rn_lload_n (i := 3) dX9_unseal_65 rfl rfl ?_
            refine rn_callV (a := 0) (b := 0) [.ref o10, .long l27] kl_SG_392 dX9_unseal_66 q1 hl1 rfl (t_X8_fitsStamp G S ws hS0.1 o1_ m1_ o10 m10 l27) rfl rfl (Nat.le_of_ble_eq_true rfl) (Nat.le_of_ble_eq_true rfl) (Nat.le_of_ble_eq_true rfl) (Nat.le_of_ble_eq_true rfl) (Nat.le_of_ble_eq_true rfl) (Nat.le_of_ble_eq_true rfl) (fun _ _ h => False.elim h) (fun v9 w41 h42 => ?_)
            obtain ⟨rfl, v43, rfl, rv43⟩ := h42
            refine rn_stk [.int v43] rfl ?_
            refine rn_if_ne (tgt := 75) dX9_unseal_69 (by decide) (fun h45 => ?_) (fun h45 => ?_)
            · have ch45 := cv_ne h45
              have r46 : Rg (1) (1) v43 := rf_nel ch45 rv43 rk_0 (by decide) (by decide)
              refine rn_aload_n (i := 1) dX9_unseal_75 rfl rfl ?_
              refine rn_lload_n (i := 3) dX9_unseal_76 rfl rfl ?_
              refine rn_callV (a := 0) (b := 0) [.long l27] kl_SG_396 dX9_unseal_77 q1 hl1 rfl (t_X8_accept G S ws hS0.1 o1_ m1_ l27) rfl rfl (Nat.le_of_ble_eq_true rfl) (Nat.le_of_ble_eq_true rfl) (Nat.le_of_ble_eq_true rfl) (Nat.le_of_ble_eq_true rfl) (Nat.le_of_ble_eq_true rfl) (Nat.le_of_ble_eq_true rfl) (fun _ _ h => False.elim h) (fun v9 w47 h48 => ?_)
              obtain ⟨hT49, rfl⟩ := h48
              have hS49 := St.tr hS0 hT49 rfl
              refine rn_stk [] rfl ?_
              refine rn_aload_n (i := 1) dX9_unseal_80 rfl rfl ?_
              refine rn_aload_n (i := 0) dX9_unseal_81 rfl rfl ?_
              refine rn_get q9 kg_SG_16 (hT49.fr hq9 rfl hl9) hx10 dX9_unseal_82 ?_
              refine rn_aload_n (i := 0) dX9_unseal_85 rfl rfl ?_
              obtain ⟨o50, hx50, m50⟩ := fs_r hf9 3 rfl
              refine rn_get q9 kg_SG_19 (hT49.fr hq9 rfl hl9) hx50 dX9_unseal_86 ?_
              refine rn_lload_n (i := 3) dX9_unseal_89 rfl rfl ?_
              obtain ⟨q51, fs51, hq51, hl51, hf51⟩ := ts_obj hS49.1 m1_ hk_8
              refine rn_callV (a := 0) (b := 0) [.ref o10, .ref o50, .long l27] kl_SG_398 dX9_unseal_90 q51 hl51 rfl (t_X8_open G S w47 hS49.1 o1_ m1_ o10 m10 o50 m50 l27) rfl rfl (Nat.le_of_ble_eq_true rfl) (Nat.le_of_ble_eq_true rfl) (Nat.le_of_ble_eq_true rfl) (Nat.le_of_ble_eq_true rfl) (Nat.le_of_ble_eq_true rfl) (Nat.le_of_ble_eq_true rfl) (fun _ _ h => False.elim h) (fun v9 w52 h53 => ?_)
              obtain ⟨hT54, rfl⟩ := h53
              have hS54 := St.tr hS49 hT54 rfl
              refine rn_stk [] rfl ?_
              refine rn_aload_n (i := 0) dX9_unseal_93 rfl rfl ?_
              refine rn_get q9 kg_SG_19 (hT54.fr hq9 rfl (hT49.fr hq9 rfl hl9)) hx50 dX9_unseal_94 ?_
              refine rn_callS (a := 0) (b := 0) [.ref o50] kl_SG_402 dX9_unseal_97 (t_X9_uncover G S w52 hS54.1 o50 m50) rfl rfl (Nat.le_of_ble_eq_true rfl) (Nat.le_of_ble_eq_true rfl) (Nat.le_of_ble_eq_true rfl) (Nat.le_of_ble_eq_true rfl) (Nat.le_of_ble_eq_true rfl) (Nat.le_of_ble_eq_true rfl) (fun _ _ h => False.elim h) (fun v9 w55 h56 => ?_)
              obtain ⟨hT58, v57, rfl, rv57⟩ := h56
              have hS58 := St.tr hS54 hT58 rfl
              refine rn_stk [.int v57] rfl ?_
              exact rn_iret dX9_unseal_100 rfl rfl (rq_in ⟨hS58, v57, rfl, rv57⟩)
            · have ch45 := cv_eq h45
              have r59 : Rg (0) (0) v43 := rf_eqx ch45 rv43 rk_0 (by decide) (by decide)
              refine rn_bipush (v := (12 : Int32)) dX9_unseal_72 (by decide) ?_
              exact rn_iret dX9_unseal_74 rfl rfl (rq_in ⟨hS0, (12 : Int32), rfl, (rg_w rk_12 (by decide) (by decide))⟩)
          · have ch39 := cv_ne h39
            have r60 : Rg (1) (1) v37 := rf_nel ch39 rv37 rk_0 (by decide) (by decide)
            refine rn_bipush (v := (11 : Int32)) dX9_unseal_57 (by decide) ?_
            exact rn_iret dX9_unseal_59 rfl rfl (rq_in ⟨hS0, (11 : Int32), rfl, (rg_w rk_11 (by decide) (by decide))⟩)
        · have ch33 := cv_ne h33
          have r61 : Rg (1) (1) v31 := rf_nel ch33 rv31 rk_0 (by decide) (by decide)
          refine rn_bipush (v := (10 : Int32)) dX9_unseal_46 (by decide) ?_
          exact rn_iret dX9_unseal_48 rfl rfl (rq_in ⟨hS0, (10 : Int32), rfl, (rg_w rk_10 (by decide) (by decide))⟩)
      · have ch24 := cv_ne h24
        refine rn_bipush (v := (9 : Int32)) dX9_unseal_29 (by decide) ?_
        exact rn_iret dX9_unseal_31 rfl rfl (rq_in ⟨hS0, (9 : Int32), rfl, (rg_w rk_9 (by decide) (by decide))⟩)
abbrev q_t_X9_throughOuter (G : rn_G) (S : ts_S) (ws : va_W) : rn_R → va_W → Prop := rQ (fun v w => ∃ S' : ts_S, St G S [0, 1, 2, 4, 8, 9, 11, 12, 13, 14] ws S' w ∧ (∃ x : Int32, v = some (.int x) ∧ Rg (0) (17) x)) (fun E w => False)
set_option maxRecDepth 20000 in
set_option maxHeartbeats 4000000 in
theorem t_X9_throughOuter (G : rn_G) (S : ts_S) (ws : va_W) (hW : ts_W G S ws) (o0_ : Nat) (m0_ : (o0_, 9) ∈ S) : Rn G mX9_throughOuter 6 175 5 4030 0 (lv_args 0 [.ref o0_]) [] ws (q_t_X9_throughOuter G S ws ) := by
  have hS0 : St G S [0, 1, 2, 4, 8, 9, 11, 12, 13, 14] ws S ws := St.rf hW
  refine rn_lv [(0, .ref o0_)] rfl ?_
  refine rn_aload_n (i := 0) dX9_throughOuter_0 rfl rfl ?_
  obtain ⟨q1, fs1, hq1, hl1, hf1⟩ := ts_obj hS0.1 m0_ hk_9
  obtain ⟨o2, hx2, m2⟩ := fs_r hf1 2 rfl
  refine rn_get q1 kg_SG_16 hl1 hx2 dX9_throughOuter_1 ?_
  obtain ⟨q3, fs3, hq3, hl3, hf3⟩ := ts_obj hS0.1 m2 hk_4
  refine rn_callV (a := 5) (b := 4030) [] kl_SG_226 dX9_throughOuter_4 q3 hl3 rfl (t_X4_isBroken G S ws hS0.1 o2 m2) rfl rfl (Nat.le_of_ble_eq_true rfl) (Nat.le_of_ble_eq_true rfl) (Nat.le_of_ble_eq_true rfl) (Nat.le_of_ble_eq_true rfl) (Nat.le_of_ble_eq_true rfl) (Nat.le_of_ble_eq_true rfl) (fun _ _ h => False.elim h) (fun v9 w4 h5 => ?_)
  obtain ⟨rfl, v6, rfl, rv6⟩ := h5
  refine rn_stk [.int v6] rfl ?_
  refine rn_if_eq (tgt := 12) dX9_throughOuter_7 (by decide) (fun h8 => ?_) (fun h8 => ?_)
  · have ch8 := cv_eq h8
    have r9 : Rg (0) (0) v6 := rf_eqx ch8 rv6 rk_0 (by decide) (by decide)
    refine rn_aload_n (i := 0) dX9_throughOuter_12 rfl rfl ?_
    refine rn_get q1 kg_SG_16 hl1 hx2 dX9_throughOuter_13 ?_
    refine rn_callV (a := 5) (b := 4030) [] kl_SG_229 dX9_throughOuter_16 q3 hl3 rfl (t_X4_cutToLength G S ws hS0.1 o2 m2) rfl rfl (Nat.le_of_ble_eq_true rfl) (Nat.le_of_ble_eq_true rfl) (Nat.le_of_ble_eq_true rfl) (Nat.le_of_ble_eq_true rfl) (Nat.le_of_ble_eq_true rfl) (Nat.le_of_ble_eq_true rfl) (fun _ _ h => False.elim h) (fun v9 w10 h11 => ?_)
    obtain ⟨hT12, rfl⟩ := h11
    have hS12 := St.tr hS0 hT12 rfl
    refine rn_stk [] rfl ?_
    refine rn_aload_n (i := 0) dX9_throughOuter_19 rfl rfl ?_
    refine rn_get q1 kg_SG_16 (hT12.fr hq1 rfl hl1) hx2 dX9_throughOuter_20 ?_
    obtain ⟨q13, fs13, hq13, hl13, hf13⟩ := ts_obj hS12.1 m2 hk_4
    refine rn_callV (a := 5) (b := 4030) [] kl_SG_344 dX9_throughOuter_23 q13 hl13 rfl (t_X4_kind G S w10 hS12.1 o2 m2) rfl rfl (Nat.le_of_ble_eq_true rfl) (Nat.le_of_ble_eq_true rfl) (Nat.le_of_ble_eq_true rfl) (Nat.le_of_ble_eq_true rfl) (Nat.le_of_ble_eq_true rfl) (Nat.le_of_ble_eq_true rfl) (fun _ _ h => False.elim h) (fun v9 w14 h15 => ?_)
    obtain ⟨rfl, v16, rfl, rv16⟩ := h15
    refine rn_stk [.int v16] rfl ?_
    refine rn_bipush (v := (50 : Int32)) dX9_throughOuter_26 (by decide) ?_
    refine rn_icmp_ne (tgt := 45) dX9_throughOuter_28 (by decide) (fun h18 => ?_) (fun h18 => ?_)
    · have ch18 := cv_ne h18
      refine rn_aload_n (i := 0) dX9_throughOuter_45 rfl rfl ?_
      refine rn_aload_n (i := 0) dX9_throughOuter_46 rfl rfl ?_
      refine rn_get q1 kg_SG_16 (hT12.fr hq1 rfl hl1) hx2 dX9_throughOuter_47 ?_
      refine rn_iconst (v := (-1 : Int32)) dX9_throughOuter_50 (by decide) ?_
      refine rn_iconst (v := (0 : Int32)) dX9_throughOuter_51 (by decide) ?_
      refine rn_iconst (v := (0 : Int32)) dX9_throughOuter_52 (by decide) ?_
      refine rn_callV (a := 5) (b := 4030) [.ref o2, .int (-1 : Int32), .int (0 : Int32), .int (0 : Int32)] kl_SG_347 dX9_throughOuter_53 q1 (hT12.fr hq1 rfl hl1) rfl (t_X9_letIn G S w10 hS12.1 o0_ m0_ o2 m2 (-1 : Int32) (0 : Int32) (0 : Int32)) rfl rfl (Nat.le_of_ble_eq_true rfl) (Nat.le_of_ble_eq_true rfl) (Nat.le_of_ble_eq_true rfl) (Nat.le_of_ble_eq_true rfl) (Nat.le_of_ble_eq_true rfl) (Nat.le_of_ble_eq_true rfl) (fun _ _ h => False.elim h) (fun v9 w19 h20 => ?_)
      obtain ⟨hT22, v21, rfl, rv21⟩ := h20
      have hS22 := St.tr hS12 hT22 rfl
      refine rn_stk [.int v21] rfl ?_
      exact rn_iret dX9_throughOuter_56 rfl rfl (rq_in ⟨S, hS22, v21, rfl, (rg_w rv21 (by decide) (by decide))⟩)
    · have ch18 := cv_eq h18
      have r23 : Rg (50) (50) v16 := rf_eqx ch18 rv16 rk_50 (by decide) (by decide)
      refine rn_aload_n (i := 0) dX9_throughOuter_31 rfl rfl ?_
      refine rn_get q1 kg_SG_16 (hT12.fr hq1 rfl hl1) hx2 dX9_throughOuter_32 ?_
      refine rn_callV (a := 5) (b := 4030) [] kl_SG_296 dX9_throughOuter_35 q13 hl13 rfl (t_X4_to G S w10 hS12.1 o2 m2) rfl rfl (Nat.le_of_ble_eq_true rfl) (Nat.le_of_ble_eq_true rfl) (Nat.le_of_ble_eq_true rfl) (Nat.le_of_ble_eq_true rfl) (Nat.le_of_ble_eq_true rfl) (Nat.le_of_ble_eq_true rfl) (fun _ _ h => False.elim h) (fun v9 w24 h25 => ?_)
      obtain ⟨rfl, v26, rfl, rv26⟩ := h25
      refine rn_stk [.int v26] rfl ?_
      refine rn_aload_n (i := 0) dX9_throughOuter_38 rfl rfl ?_
      obtain ⟨x28, hx28, rx28⟩ := fs_i hf1 0 rfl
      refine rn_get q1 kg_SG_73 (hT12.fr hq1 rfl hl1) hx28 dX9_throughOuter_39 ?_
      refine rn_icmp_eq (tgt := 57) dX9_throughOuter_42 (by decide) (fun h29 => ?_) (fun h29 => ?_)
      · have ch29 := cv_eq h29
        refine rn_aload_n (i := 0) dX9_throughOuter_57 rfl rfl ?_
        refine rn_get q1 kg_SG_16 (hT12.fr hq1 rfl hl1) hx2 dX9_throughOuter_58 ?_
        refine rn_callV (a := 5) (b := 4030) [] kl_SG_351 dX9_throughOuter_61 q13 hl13 rfl (t_X4_isPart G S w10 hS12.1 o2 m2) rfl rfl (Nat.le_of_ble_eq_true rfl) (Nat.le_of_ble_eq_true rfl) (Nat.le_of_ble_eq_true rfl) (Nat.le_of_ble_eq_true rfl) (Nat.le_of_ble_eq_true rfl) (Nat.le_of_ble_eq_true rfl) (fun _ _ h => False.elim h) (fun v9 w30 h31 => ?_)
        obtain ⟨rfl, v32, rfl, rv32⟩ := h31
        refine rn_stk [.int v32] rfl ?_
        refine rn_if_eq (tgt := 101) dX9_throughOuter_64 (by decide) (fun h34 => ?_) (fun h34 => ?_)
        · have ch34 := cv_eq h34
          have r35 : Rg (0) (0) v32 := rf_eqx ch34 rv32 rk_0 (by decide) (by decide)
          refine rn_aload_n (i := 0) dX9_throughOuter_101 rfl rfl ?_
          refine rn_get q1 kg_SG_16 (hT12.fr hq1 rfl hl1) hx2 dX9_throughOuter_102 ?_
          refine rn_callS (a := 5) (b := 4030) [.ref o2] kl_SG_361 dX9_throughOuter_105 (t_X8_hasShape G S w10 hS12.1 o2 m2) rfl rfl (Nat.le_of_ble_eq_true rfl) (Nat.le_of_ble_eq_true rfl) (Nat.le_of_ble_eq_true rfl) (Nat.le_of_ble_eq_true rfl) (Nat.le_of_ble_eq_true rfl) (Nat.le_of_ble_eq_true rfl) (fun _ _ h => False.elim h) (fun v9 w36 h37 => ?_)
          obtain ⟨rfl, v38, rfl, rv38⟩ := h37
          refine rn_stk [.int v38] rfl ?_
          refine rn_if_ne (tgt := 114) dX9_throughOuter_108 (by decide) (fun h40 => ?_) (fun h40 => ?_)
          · have ch40 := cv_ne h40
            have r41 : Rg (1) (1) v38 := rf_nel ch40 rv38 rk_0 (by decide) (by decide)
            refine rn_aload_n (i := 0) dX9_throughOuter_114 rfl rfl ?_
            refine rn_get q1 kg_SG_16 (hT12.fr hq1 rfl hl1) hx2 dX9_throughOuter_115 ?_
            refine rn_callS (a := 5) (b := 4030) [.ref o2] kl_SG_364 dX9_throughOuter_118 (t_X8_nameIn G S w10 hS12.1 o2 m2) rfl rfl (Nat.le_of_ble_eq_true rfl) (Nat.le_of_ble_eq_true rfl) (Nat.le_of_ble_eq_true rfl) (Nat.le_of_ble_eq_true rfl) (Nat.le_of_ble_eq_true rfl) (Nat.le_of_ble_eq_true rfl) (fun _ _ h => False.elim h) (fun v9 w42 h43 => ?_)
            obtain ⟨rfl, v44, rfl, rv44⟩ := h43
            refine rn_stk [.int v44] rfl ?_
            refine rn_istore_n dX9_throughOuter_121 rfl (by decide) [(0, .ref o0_), (1, .int v44)] rfl ?_
            refine rn_aload_n (i := 0) dX9_throughOuter_122 rfl rfl ?_
            refine rn_get q1 kg_SG_16 (hT12.fr hq1 rfl hl1) hx2 dX9_throughOuter_123 ?_
            refine rn_callS (a := 5) (b := 4030) [.ref o2] kl_SG_367 dX9_throughOuter_126 (t_X8_lowNumberIn G S w10 hS12.1 o2 m2) rfl rfl (Nat.le_of_ble_eq_true rfl) (Nat.le_of_ble_eq_true rfl) (Nat.le_of_ble_eq_true rfl) (Nat.le_of_ble_eq_true rfl) (Nat.le_of_ble_eq_true rfl) (Nat.le_of_ble_eq_true rfl) (fun _ _ h => False.elim h) (fun v9 w46 h47 => ?_)
            obtain ⟨rfl, v48, rfl, rv48⟩ := h47
            refine rn_stk [.int v48] rfl ?_
            refine rn_istore_n dX9_throughOuter_129 rfl (by decide) [(0, .ref o0_), (1, .int v44), (2, .int v48)] rfl ?_
            refine rn_aload_n (i := 0) dX9_throughOuter_130 rfl rfl ?_
            refine rn_iload_n (i := 1) dX9_throughOuter_131 rfl rfl ?_
            refine rn_callV (a := 5) (b := 4030) [.int v44] kl_SG_181 dX9_throughOuter_132 q1 (hT12.fr hq1 rfl hl1) rfl (t_X9_sealNamed G S w10 hS12.1 o0_ m0_ v44) rfl rfl (Nat.le_of_ble_eq_true rfl) (Nat.le_of_ble_eq_true rfl) (Nat.le_of_ble_eq_true rfl) (Nat.le_of_ble_eq_true rfl) (Nat.le_of_ble_eq_true rfl) (Nat.le_of_ble_eq_true rfl) (fun _ _ h => False.elim h) (fun v9 w50 h51 => ?_)
            obtain ⟨rfl, (rfl | ⟨o52, rfl, mo52⟩)⟩ := h51
            · refine rn_stk [.null] rfl ?_
              refine rn_astore_nN dX9_throughOuter_135 rfl (by decide) [(0, .ref o0_), (1, .int v44), (2, .int v48), (3, .null)] rfl ?_
              refine rn_aload_n (i := 0) dX9_throughOuter_136 rfl rfl ?_
              refine rn_aload_nN (i := 3) dX9_throughOuter_137 rfl rfl ?_
              refine rn_iload_n (i := 2) dX9_throughOuter_138 rfl rfl ?_
              refine rn_callV (a := 5) (b := 4030) [.null, .int v48] kl_SG_370 dX9_throughOuter_139 q1 (hT12.fr hq1 rfl hl1) rfl (t_X9_unseal G S w10 hS12.1 o0_ m0_ .null (Or.inl rfl) v48) rfl rfl (Nat.le_of_ble_eq_true rfl) (Nat.le_of_ble_eq_true rfl) (Nat.le_of_ble_eq_true rfl) (Nat.le_of_ble_eq_true rfl) (Nat.le_of_ble_eq_true rfl) (Nat.le_of_ble_eq_true rfl) (fun _ _ h => False.elim h) (fun v9 w54 h55 => ?_)
              obtain ⟨hT57, v56, rfl, rv56⟩ := h55
              have hS57 := St.tr hS12 hT57 rfl
              refine rn_stk [.int v56] rfl ?_
              refine rn_istore dX9_throughOuter_142 (by decide) [(0, .ref o0_), (1, .int v44), (2, .int v48), (3, .null), (4, .int v56)] rfl ?_
              refine rn_iload dX9_throughOuter_144 rfl ?_
              refine rn_bipush (v := (9 : Int32)) dX9_throughOuter_146 (by decide) ?_
              refine rn_icmp_lt (tgt := 173) dX9_throughOuter_148 (by decide) (fun h58 => ?_) (fun h58 => ?_)
              · have ch58 := cv_lt h58
                have r59 : Rg (0) (8) v56 := rf_ltx ch58 rv56 rk_9 (by decide)
                refine rn_aload_nN (i := 3) dX9_throughOuter_173 rfl rfl ?_
                refine rn_ifnullN (tgt := 182) dX9_throughOuter_174 (by decide) ?_
                refine rn_iload dX9_throughOuter_182 rfl ?_
                refine rn_goto (tgt := 201) dX9_throughOuter_184 (by decide) ?_
                exact rn_iret dX9_throughOuter_201 rfl rfl (rq_in ⟨S, hS57, v56, rfl, (rg_w r59 (by decide) (by decide))⟩)
              · have ch58 := cv_nlt h58
                have r60 : Rg (9) (15) v56 := rf_ley ch58 rk_9 rv56 (by decide)
                refine rn_iload dX9_throughOuter_151 rfl ?_
                refine rn_bipush (v := (12 : Int32)) dX9_throughOuter_153 (by decide) ?_
                refine rn_icmp_gt (tgt := 173) dX9_throughOuter_155 (by decide) (fun h61 => ?_) (fun h61 => ?_)
                · have ch61 := cv_lt h61
                  have r62 : Rg (13) (15) v56 := rf_lty ch61 rk_12 r60 (by decide)
                  refine rn_aload_nN (i := 3) dX9_throughOuter_173 rfl rfl ?_
                  refine rn_ifnullN (tgt := 182) dX9_throughOuter_174 (by decide) ?_
                  refine rn_iload dX9_throughOuter_182 rfl ?_
                  refine rn_goto (tgt := 201) dX9_throughOuter_184 (by decide) ?_
                  exact rn_iret dX9_throughOuter_201 rfl rfl (rq_in ⟨S, hS57, v56, rfl, (rg_w r62 (by decide) (by decide))⟩)
                · have ch61 := cv_nlt h61
                  have r63 : Rg (9) (12) v56 := rf_lex ch61 r60 rk_12 (by decide)
                  refine rn_aload_n (i := 0) dX9_throughOuter_158 rfl rfl ?_
                  obtain ⟨o64, hx64, m64⟩ := fs_r hf1 14 rfl
                  refine rn_get q1 kg_SG_66 (hT57.fr hq1 rfl (hT12.fr hq1 rfl hl1)) hx64 dX9_throughOuter_159 ?_
                  refine rn_iload dX9_throughOuter_162 rfl ?_
                  refine rn_aload_n (i := 0) dX9_throughOuter_164 rfl rfl ?_
                  refine rn_get q1 kg_SG_16 (hT57.fr hq1 rfl (hT12.fr hq1 rfl hl1)) hx2 dX9_throughOuter_165 ?_
                  refine rn_iload_n (i := 1) dX9_throughOuter_168 rfl rfl ?_
                  refine rn_iload_n (i := 2) dX9_throughOuter_169 rfl rfl ?_
                  obtain ⟨q65, fs65, hq65, hl65, hf65⟩ := ts_obj hS57.1 m64 hk_2
                  refine rn_callV (a := 5) (b := 4030) [.int v56, .ref o2, .int v44, .int v48] kl_SG_374 dX9_throughOuter_170 q65 hl65 rfl (t_X2_note G S w54 hS57.1 o64 m64 v56 o2 m2 v44 v48) rfl rfl (Nat.le_of_ble_eq_true rfl) (Nat.le_of_ble_eq_true rfl) (Nat.le_of_ble_eq_true rfl) (Nat.le_of_ble_eq_true rfl) (Nat.le_of_ble_eq_true rfl) (Nat.le_of_ble_eq_true rfl) (fun _ _ h => False.elim h) (fun v9 w66 h67 => ?_)
                  obtain ⟨hT68, rfl⟩ := h67
                  have hS68 := St.tr hS57 hT68 rfl
                  refine rn_stk [] rfl ?_
                  refine rn_aload_nN (i := 3) dX9_throughOuter_173 rfl rfl ?_
                  refine rn_ifnullN (tgt := 182) dX9_throughOuter_174 (by decide) ?_
                  refine rn_iload dX9_throughOuter_182 rfl ?_
                  refine rn_goto (tgt := 201) dX9_throughOuter_184 (by decide) ?_
                  exact rn_iret dX9_throughOuter_201 rfl rfl (rq_in ⟨S, hS68, v56, rfl, (rg_w r63 (by decide) (by decide))⟩)
            · refine rn_stk [.ref o52] rfl ?_
              refine rn_astore_n dX9_throughOuter_135 rfl (by decide) [(0, .ref o0_), (1, .int v44), (2, .int v48), (3, .ref o52)] rfl ?_
              refine rn_aload_n (i := 0) dX9_throughOuter_136 rfl rfl ?_
              refine rn_aload_n (i := 3) dX9_throughOuter_137 rfl rfl ?_
              refine rn_iload_n (i := 2) dX9_throughOuter_138 rfl rfl ?_
              refine rn_callV (a := 5) (b := 4030) [.ref o52, .int v48] kl_SG_370 dX9_throughOuter_139 q1 (hT12.fr hq1 rfl hl1) rfl (t_X9_unseal G S w10 hS12.1 o0_ m0_ (.ref o52) (Or.inr ⟨o52, rfl, mo52⟩) v48) rfl rfl (Nat.le_of_ble_eq_true rfl) (Nat.le_of_ble_eq_true rfl) (Nat.le_of_ble_eq_true rfl) (Nat.le_of_ble_eq_true rfl) (Nat.le_of_ble_eq_true rfl) (Nat.le_of_ble_eq_true rfl) (fun _ _ h => False.elim h) (fun v9 w69 h70 => ?_)
              obtain ⟨hT72, v71, rfl, rv71⟩ := h70
              have hS72 := St.tr hS12 hT72 rfl
              refine rn_stk [.int v71] rfl ?_
              refine rn_istore dX9_throughOuter_142 (by decide) [(0, .ref o0_), (1, .int v44), (2, .int v48), (3, .ref o52), (4, .int v71)] rfl ?_
              refine rn_iload dX9_throughOuter_144 rfl ?_
              refine rn_bipush (v := (9 : Int32)) dX9_throughOuter_146 (by decide) ?_
              refine rn_icmp_lt (tgt := 173) dX9_throughOuter_148 (by decide) (fun h73 => ?_) (fun h73 => ?_)
              · have ch73 := cv_lt h73
                have r74 : Rg (0) (8) v71 := rf_ltx ch73 rv71 rk_9 (by decide)
                refine rn_aload_n (i := 3) dX9_throughOuter_173 rfl rfl ?_
                refine rn_ifnull dX9_throughOuter_174 ?_
                refine rn_iload dX9_throughOuter_177 rfl ?_
                refine rn_if_eq (tgt := 187) dX9_throughOuter_179 (by decide) (fun h75 => ?_) (fun h75 => ?_)
                · have ch75 := cv_eq h75
                  have r76 : Rg (0) (0) v71 := rf_eqx ch75 r74 rk_0 (by decide) (by decide)
                  refine rn_aload_n (i := 0) dX9_throughOuter_187 rfl rfl ?_
                  refine rn_aload_n (i := 0) dX9_throughOuter_188 rfl rfl ?_
                  obtain ⟨o77, hx77, m77⟩ := fs_r hf1 3 rfl
                  refine rn_get q1 kg_SG_19 (hT72.fr hq1 rfl (hT12.fr hq1 rfl hl1)) hx77 dX9_throughOuter_189 ?_
                  refine rn_aload_n (i := 3) dX9_throughOuter_192 rfl rfl ?_
                  obtain ⟨q78, fs78, hq78, hl78, hf78⟩ := ts_obj hS72.1 mo52 hk_8
                  refine rn_callV (a := 5) (b := 4030) [] kl_SG_248 dX9_throughOuter_193 q78 hl78 rfl (t_X8_tunnel G S w69 hS72.1 o52 mo52) rfl rfl (Nat.le_of_ble_eq_true rfl) (Nat.le_of_ble_eq_true rfl) (Nat.le_of_ble_eq_true rfl) (Nat.le_of_ble_eq_true rfl) (Nat.le_of_ble_eq_true rfl) (Nat.le_of_ble_eq_true rfl) (fun _ _ h => False.elim h) (fun v9 w79 h80 => ?_)
                  obtain ⟨rfl, v81, rfl, rv81⟩ := h80
                  refine rn_stk [.int v81, .ref o77, .ref o0_] rfl ?_
                  refine rn_iload_n (i := 1) dX9_throughOuter_196 rfl rfl ?_
                  refine rn_iload_n (i := 2) dX9_throughOuter_197 rfl rfl ?_
                  refine rn_callV (a := 5) (b := 4030) [.ref o77, .int v81, .int v44, .int v48] kl_SG_347 dX9_throughOuter_198 q1 (hT72.fr hq1 rfl (hT12.fr hq1 rfl hl1)) rfl (t_X9_letIn G S w69 hS72.1 o0_ m0_ o77 m77 v81 v44 v48) rfl rfl (Nat.le_of_ble_eq_true rfl) (Nat.le_of_ble_eq_true rfl) (Nat.le_of_ble_eq_true rfl) (Nat.le_of_ble_eq_true rfl) (Nat.le_of_ble_eq_true rfl) (Nat.le_of_ble_eq_true rfl) (fun _ _ h => False.elim h) (fun v9 w83 h84 => ?_)
                  obtain ⟨hT86, v85, rfl, rv85⟩ := h84
                  have hS86 := St.tr hS72 hT86 rfl
                  refine rn_stk [.int v85] rfl ?_
                  exact rn_iret dX9_throughOuter_201 rfl rfl (rq_in ⟨S, hS86, v85, rfl, (rg_w rv85 (by decide) (by decide))⟩)
                · have ch75 := cv_ne h75
                  have r87 : Rg (1) (8) v71 := rf_nel ch75 r74 rk_0 (by decide) (by decide)
                  refine rn_iload dX9_throughOuter_182 rfl ?_
                  refine rn_goto (tgt := 201) dX9_throughOuter_184 (by decide) ?_
                  exact rn_iret dX9_throughOuter_201 rfl rfl (rq_in ⟨S, hS72, v71, rfl, (rg_w r87 (by decide) (by decide))⟩)
              · have ch73 := cv_nlt h73
                have r88 : Rg (9) (15) v71 := rf_ley ch73 rk_9 rv71 (by decide)
                refine rn_iload dX9_throughOuter_151 rfl ?_
                refine rn_bipush (v := (12 : Int32)) dX9_throughOuter_153 (by decide) ?_
                refine rn_icmp_gt (tgt := 173) dX9_throughOuter_155 (by decide) (fun h89 => ?_) (fun h89 => ?_)
                · have ch89 := cv_lt h89
                  have r90 : Rg (13) (15) v71 := rf_lty ch89 rk_12 r88 (by decide)
                  refine rn_aload_n (i := 3) dX9_throughOuter_173 rfl rfl ?_
                  refine rn_ifnull dX9_throughOuter_174 ?_
                  refine rn_iload dX9_throughOuter_177 rfl ?_
                  refine rn_if_eq (tgt := 187) dX9_throughOuter_179 (by decide) (fun h91 => (cx_eq (cv_eq h91) r90 rk_0 (by decide)).elim) (fun h91 => ?_)
                  have ch91 := cv_ne h91
                  refine rn_iload dX9_throughOuter_182 rfl ?_
                  refine rn_goto (tgt := 201) dX9_throughOuter_184 (by decide) ?_
                  exact rn_iret dX9_throughOuter_201 rfl rfl (rq_in ⟨S, hS72, v71, rfl, (rg_w r90 (by decide) (by decide))⟩)
                · have ch89 := cv_nlt h89
                  have r92 : Rg (9) (12) v71 := rf_lex ch89 r88 rk_12 (by decide)
                  refine rn_aload_n (i := 0) dX9_throughOuter_158 rfl rfl ?_
                  obtain ⟨o93, hx93, m93⟩ := fs_r hf1 14 rfl
                  refine rn_get q1 kg_SG_66 (hT72.fr hq1 rfl (hT12.fr hq1 rfl hl1)) hx93 dX9_throughOuter_159 ?_
                  refine rn_iload dX9_throughOuter_162 rfl ?_
                  refine rn_aload_n (i := 0) dX9_throughOuter_164 rfl rfl ?_
                  refine rn_get q1 kg_SG_16 (hT72.fr hq1 rfl (hT12.fr hq1 rfl hl1)) hx2 dX9_throughOuter_165 ?_
                  refine rn_iload_n (i := 1) dX9_throughOuter_168 rfl rfl ?_
                  refine rn_iload_n (i := 2) dX9_throughOuter_169 rfl rfl ?_
                  obtain ⟨q94, fs94, hq94, hl94, hf94⟩ := ts_obj hS72.1 m93 hk_2
                  refine rn_callV (a := 5) (b := 4030) [.int v71, .ref o2, .int v44, .int v48] kl_SG_374 dX9_throughOuter_170 q94 hl94 rfl (t_X2_note G S w69 hS72.1 o93 m93 v71 o2 m2 v44 v48) rfl rfl (Nat.le_of_ble_eq_true rfl) (Nat.le_of_ble_eq_true rfl) (Nat.le_of_ble_eq_true rfl) (Nat.le_of_ble_eq_true rfl) (Nat.le_of_ble_eq_true rfl) (Nat.le_of_ble_eq_true rfl) (fun _ _ h => False.elim h) (fun v9 w95 h96 => ?_)
                  obtain ⟨hT97, rfl⟩ := h96
                  have hS97 := St.tr hS72 hT97 rfl
                  refine rn_stk [] rfl ?_
                  refine rn_aload_n (i := 3) dX9_throughOuter_173 rfl rfl ?_
                  refine rn_ifnull dX9_throughOuter_174 ?_
                  refine rn_iload dX9_throughOuter_177 rfl ?_
                  refine rn_if_eq (tgt := 187) dX9_throughOuter_179 (by decide) (fun h98 => (cx_eq (cv_eq h98) r92 rk_0 (by decide)).elim) (fun h98 => ?_)
                  have ch98 := cv_ne h98
                  refine rn_iload dX9_throughOuter_182 rfl ?_
                  refine rn_goto (tgt := 201) dX9_throughOuter_184 (by decide) ?_
                  exact rn_iret dX9_throughOuter_201 rfl rfl (rq_in ⟨S, hS97, v71, rfl, (rg_w r92 (by decide) (by decide))⟩)
          · have ch40 := cv_eq h40
            have r99 : Rg (0) (0) v38 := rf_eqx ch40 rv38 rk_0 (by decide) (by decide)
            refine rn_bipush (v := (8 : Int32)) dX9_throughOuter_111 (by decide) ?_
            exact rn_iret dX9_throughOuter_113 rfl rfl (rq_in ⟨S, hS12, (8 : Int32), rfl, (rg_w rk_8 (by decide) (by decide))⟩)
        · have ch34 := cv_ne h34
          have r100 : Rg (1) (1) v32 := rf_nel ch34 rv32 rk_0 (by decide) (by decide)
          refine rn_aload_n (i := 0) dX9_throughOuter_67 rfl rfl ?_
          obtain ⟨o101, hx101, m101⟩ := fs_r hf1 13 rfl
          refine rn_get q1 kg_SG_59 (hT12.fr hq1 rfl hl1) hx101 dX9_throughOuter_68 ?_
          refine rn_aload_n (i := 0) dX9_throughOuter_71 rfl rfl ?_
          refine rn_get q1 kg_SG_16 (hT12.fr hq1 rfl hl1) hx2 dX9_throughOuter_72 ?_
          obtain ⟨q102, fs102, hq102, hl102, hf102⟩ := ts_obj hS12.1 m101 hk_1
          refine rn_callV (a := 0) (b := 0) [.ref o2] kl_SG_354 dX9_throughOuter_75 q102 hl102 rfl (t_X1_accept G S w10 hS12.1 o101 m101 o2 m2) rfl rfl (Nat.le_of_ble_eq_true rfl) (Nat.le_of_ble_eq_true rfl) (Nat.le_of_ble_eq_true rfl) (Nat.le_of_ble_eq_true rfl) (Nat.le_of_ble_eq_true rfl) (Nat.le_of_ble_eq_true rfl) (fun _ _ h => False.elim h) (fun v9 w103 h104 => ?_)
          obtain ⟨S106, hT106, v105, rfl, rv105⟩ := h104
          have hS106 := St.tr hS12 hT106 rfl
          refine rn_stk [.int v105] rfl ?_
          refine rn_if_ne (tgt := 84) dX9_throughOuter_78 (by decide) (fun h107 => ?_) (fun h107 => ?_)
          · have ch107 := cv_ne h107
            have r108 : Rg (1) (1) v105 := rf_nel ch107 rv105 rk_0 (by decide) (by decide)
            refine rn_aload_n (i := 0) dX9_throughOuter_84 rfl rfl ?_
            refine rn_get q1 kg_SG_59 (hT106.fr hq1 rfl (hT12.fr hq1 rfl hl1)) hx101 dX9_throughOuter_85 ?_
            refine rn_aload_n (i := 0) dX9_throughOuter_88 rfl rfl ?_
            refine rn_get q1 kg_SG_16 (hT106.fr hq1 rfl (hT12.fr hq1 rfl hl1)) hx2 dX9_throughOuter_89 ?_
            obtain ⟨q109, fs109, hq109, hl109, hf109⟩ := ts_obj hS106.1 (hT106.mem m101) hk_1
            refine rn_callV (a := 0) (b := 0) [.ref o2] kl_SG_358 dX9_throughOuter_92 q109 hl109 rfl (t_X1_giveWhole G S106 w103 hS106.1 o101 (hT106.mem m101) o2 (hT106.mem m2)) rfl rfl (Nat.le_of_ble_eq_true rfl) (Nat.le_of_ble_eq_true rfl) (Nat.le_of_ble_eq_true rfl) (Nat.le_of_ble_eq_true rfl) (Nat.le_of_ble_eq_true rfl) (Nat.le_of_ble_eq_true rfl) (fun _ _ h => False.elim h) (fun v9 w110 h111 => ?_)
            obtain ⟨hT113, v112, rfl, rv112⟩ := h111
            have hS113 := St.tr hS106 hT113 rfl
            refine rn_stk [.int v112] rfl ?_
            refine rn_if_ne (tgt := 101) dX9_throughOuter_95 (by decide) (fun h114 => ?_) (fun h114 => ?_)
            · have ch114 := cv_ne h114
              have r115 : Rg (1) (1) v112 := rf_nel ch114 rv112 rk_0 (by decide) (by decide)
              refine rn_aload_n (i := 0) dX9_throughOuter_101 rfl rfl ?_
              refine rn_get q1 kg_SG_16 (hT113.fr (hT106.pos hq1) rfl (hT106.fr hq1 rfl (hT12.fr hq1 rfl hl1))) hx2 dX9_throughOuter_102 ?_
              refine rn_callS (a := 0) (b := 0) [.ref o2] kl_SG_361 dX9_throughOuter_105 (t_X8_hasShape G S106 w110 hS113.1 o2 (hT106.mem m2)) rfl rfl (Nat.le_of_ble_eq_true rfl) (Nat.le_of_ble_eq_true rfl) (Nat.le_of_ble_eq_true rfl) (Nat.le_of_ble_eq_true rfl) (Nat.le_of_ble_eq_true rfl) (Nat.le_of_ble_eq_true rfl) (fun _ _ h => False.elim h) (fun v9 w116 h117 => ?_)
              obtain ⟨rfl, v118, rfl, rv118⟩ := h117
              refine rn_stk [.int v118] rfl ?_
              refine rn_if_ne (tgt := 114) dX9_throughOuter_108 (by decide) (fun h120 => ?_) (fun h120 => ?_)
              · have ch120 := cv_ne h120
                have r121 : Rg (1) (1) v118 := rf_nel ch120 rv118 rk_0 (by decide) (by decide)
                refine rn_aload_n (i := 0) dX9_throughOuter_114 rfl rfl ?_
                refine rn_get q1 kg_SG_16 (hT113.fr (hT106.pos hq1) rfl (hT106.fr hq1 rfl (hT12.fr hq1 rfl hl1))) hx2 dX9_throughOuter_115 ?_
                refine rn_callS (a := 0) (b := 0) [.ref o2] kl_SG_364 dX9_throughOuter_118 (t_X8_nameIn G S106 w110 hS113.1 o2 (hT106.mem m2)) rfl rfl (Nat.le_of_ble_eq_true rfl) (Nat.le_of_ble_eq_true rfl) (Nat.le_of_ble_eq_true rfl) (Nat.le_of_ble_eq_true rfl) (Nat.le_of_ble_eq_true rfl) (Nat.le_of_ble_eq_true rfl) (fun _ _ h => False.elim h) (fun v9 w122 h123 => ?_)
                obtain ⟨rfl, v124, rfl, rv124⟩ := h123
                refine rn_stk [.int v124] rfl ?_
                refine rn_istore_n dX9_throughOuter_121 rfl (by decide) [(0, .ref o0_), (1, .int v124)] rfl ?_
                refine rn_aload_n (i := 0) dX9_throughOuter_122 rfl rfl ?_
                refine rn_get q1 kg_SG_16 (hT113.fr (hT106.pos hq1) rfl (hT106.fr hq1 rfl (hT12.fr hq1 rfl hl1))) hx2 dX9_throughOuter_123 ?_
                refine rn_callS (a := 0) (b := 0) [.ref o2] kl_SG_367 dX9_throughOuter_126 (t_X8_lowNumberIn G S106 w110 hS113.1 o2 (hT106.mem m2)) rfl rfl (Nat.le_of_ble_eq_true rfl) (Nat.le_of_ble_eq_true rfl) (Nat.le_of_ble_eq_true rfl) (Nat.le_of_ble_eq_true rfl) (Nat.le_of_ble_eq_true rfl) (Nat.le_of_ble_eq_true rfl) (fun _ _ h => False.elim h) (fun v9 w126 h127 => ?_)
                obtain ⟨rfl, v128, rfl, rv128⟩ := h127
                refine rn_stk [.int v128] rfl ?_
                refine rn_istore_n dX9_throughOuter_129 rfl (by decide) [(0, .ref o0_), (1, .int v124), (2, .int v128)] rfl ?_
                refine rn_aload_n (i := 0) dX9_throughOuter_130 rfl rfl ?_
                refine rn_iload_n (i := 1) dX9_throughOuter_131 rfl rfl ?_
                refine rn_callV (a := 0) (b := 0) [.int v124] kl_SG_181 dX9_throughOuter_132 q1 (hT113.fr (hT106.pos hq1) rfl (hT106.fr hq1 rfl (hT12.fr hq1 rfl hl1))) rfl (t_X9_sealNamed G S106 w110 hS113.1 o0_ (hT106.mem m0_) v124) rfl rfl (Nat.le_of_ble_eq_true rfl) (Nat.le_of_ble_eq_true rfl) (Nat.le_of_ble_eq_true rfl) (Nat.le_of_ble_eq_true rfl) (Nat.le_of_ble_eq_true rfl) (Nat.le_of_ble_eq_true rfl) (fun _ _ h => False.elim h) (fun v9 w130 h131 => ?_)
                obtain ⟨rfl, (rfl | ⟨o132, rfl, mo132⟩)⟩ := h131
                · refine rn_stk [.null] rfl ?_
                  refine rn_astore_nN dX9_throughOuter_135 rfl (by decide) [(0, .ref o0_), (1, .int v124), (2, .int v128), (3, .null)] rfl ?_
                  refine rn_aload_n (i := 0) dX9_throughOuter_136 rfl rfl ?_
                  refine rn_aload_nN (i := 3) dX9_throughOuter_137 rfl rfl ?_
                  refine rn_iload_n (i := 2) dX9_throughOuter_138 rfl rfl ?_
                  refine rn_callV (a := 0) (b := 0) [.null, .int v128] kl_SG_370 dX9_throughOuter_139 q1 (hT113.fr (hT106.pos hq1) rfl (hT106.fr hq1 rfl (hT12.fr hq1 rfl hl1))) rfl (t_X9_unseal G S106 w110 hS113.1 o0_ (hT106.mem m0_) .null (Or.inl rfl) v128) rfl rfl (Nat.le_of_ble_eq_true rfl) (Nat.le_of_ble_eq_true rfl) (Nat.le_of_ble_eq_true rfl) (Nat.le_of_ble_eq_true rfl) (Nat.le_of_ble_eq_true rfl) (Nat.le_of_ble_eq_true rfl) (fun _ _ h => False.elim h) (fun v9 w134 h135 => ?_)
                  obtain ⟨hT137, v136, rfl, rv136⟩ := h135
                  have hS137 := St.tr hS113 hT137 rfl
                  refine rn_stk [.int v136] rfl ?_
                  refine rn_istore dX9_throughOuter_142 (by decide) [(0, .ref o0_), (1, .int v124), (2, .int v128), (3, .null), (4, .int v136)] rfl ?_
                  refine rn_iload dX9_throughOuter_144 rfl ?_
                  refine rn_bipush (v := (9 : Int32)) dX9_throughOuter_146 (by decide) ?_
                  refine rn_icmp_lt (tgt := 173) dX9_throughOuter_148 (by decide) (fun h138 => ?_) (fun h138 => ?_)
                  · have ch138 := cv_lt h138
                    have r139 : Rg (0) (8) v136 := rf_ltx ch138 rv136 rk_9 (by decide)
                    refine rn_aload_nN (i := 3) dX9_throughOuter_173 rfl rfl ?_
                    refine rn_ifnullN (tgt := 182) dX9_throughOuter_174 (by decide) ?_
                    refine rn_iload dX9_throughOuter_182 rfl ?_
                    refine rn_goto (tgt := 201) dX9_throughOuter_184 (by decide) ?_
                    exact rn_iret dX9_throughOuter_201 rfl rfl (rq_in ⟨S106, hS137, v136, rfl, (rg_w r139 (by decide) (by decide))⟩)
                  · have ch138 := cv_nlt h138
                    have r140 : Rg (9) (15) v136 := rf_ley ch138 rk_9 rv136 (by decide)
                    refine rn_iload dX9_throughOuter_151 rfl ?_
                    refine rn_bipush (v := (12 : Int32)) dX9_throughOuter_153 (by decide) ?_
                    refine rn_icmp_gt (tgt := 173) dX9_throughOuter_155 (by decide) (fun h141 => ?_) (fun h141 => ?_)
                    · have ch141 := cv_lt h141
                      have r142 : Rg (13) (15) v136 := rf_lty ch141 rk_12 r140 (by decide)
                      refine rn_aload_nN (i := 3) dX9_throughOuter_173 rfl rfl ?_
                      refine rn_ifnullN (tgt := 182) dX9_throughOuter_174 (by decide) ?_
                      refine rn_iload dX9_throughOuter_182 rfl ?_
                      refine rn_goto (tgt := 201) dX9_throughOuter_184 (by decide) ?_
                      exact rn_iret dX9_throughOuter_201 rfl rfl (rq_in ⟨S106, hS137, v136, rfl, (rg_w r142 (by decide) (by decide))⟩)
                    · have ch141 := cv_nlt h141
                      have r143 : Rg (9) (12) v136 := rf_lex ch141 r140 rk_12 (by decide)
                      refine rn_aload_n (i := 0) dX9_throughOuter_158 rfl rfl ?_
                      obtain ⟨o144, hx144, m144⟩ := fs_r (ts_fs.mono (fun p hp => hT106.mem hp) hf1) 14 rfl
                      refine rn_get q1 kg_SG_66 (hT137.fr (hT106.pos hq1) rfl (hT113.fr (hT106.pos hq1) rfl (hT106.fr hq1 rfl (hT12.fr hq1 rfl hl1)))) hx144 dX9_throughOuter_159 ?_
                      refine rn_iload dX9_throughOuter_162 rfl ?_
                      refine rn_aload_n (i := 0) dX9_throughOuter_164 rfl rfl ?_
                      refine rn_get q1 kg_SG_16 (hT137.fr (hT106.pos hq1) rfl (hT113.fr (hT106.pos hq1) rfl (hT106.fr hq1 rfl (hT12.fr hq1 rfl hl1)))) hx2 dX9_throughOuter_165 ?_
                      refine rn_iload_n (i := 1) dX9_throughOuter_168 rfl rfl ?_
                      refine rn_iload_n (i := 2) dX9_throughOuter_169 rfl rfl ?_
                      obtain ⟨q145, fs145, hq145, hl145, hf145⟩ := ts_obj hS137.1 m144 hk_2
                      refine rn_callV (a := 0) (b := 0) [.int v136, .ref o2, .int v124, .int v128] kl_SG_374 dX9_throughOuter_170 q145 hl145 rfl (t_X2_note G S106 w134 hS137.1 o144 m144 v136 o2 (hT106.mem m2) v124 v128) rfl rfl (Nat.le_of_ble_eq_true rfl) (Nat.le_of_ble_eq_true rfl) (Nat.le_of_ble_eq_true rfl) (Nat.le_of_ble_eq_true rfl) (Nat.le_of_ble_eq_true rfl) (Nat.le_of_ble_eq_true rfl) (fun _ _ h => False.elim h) (fun v9 w146 h147 => ?_)
                      obtain ⟨hT148, rfl⟩ := h147
                      have hS148 := St.tr hS137 hT148 rfl
                      refine rn_stk [] rfl ?_
                      refine rn_aload_nN (i := 3) dX9_throughOuter_173 rfl rfl ?_
                      refine rn_ifnullN (tgt := 182) dX9_throughOuter_174 (by decide) ?_
                      refine rn_iload dX9_throughOuter_182 rfl ?_
                      refine rn_goto (tgt := 201) dX9_throughOuter_184 (by decide) ?_
                      exact rn_iret dX9_throughOuter_201 rfl rfl (rq_in ⟨S106, hS148, v136, rfl, (rg_w r143 (by decide) (by decide))⟩)
                · refine rn_stk [.ref o132] rfl ?_
                  refine rn_astore_n dX9_throughOuter_135 rfl (by decide) [(0, .ref o0_), (1, .int v124), (2, .int v128), (3, .ref o132)] rfl ?_
                  refine rn_aload_n (i := 0) dX9_throughOuter_136 rfl rfl ?_
                  refine rn_aload_n (i := 3) dX9_throughOuter_137 rfl rfl ?_
                  refine rn_iload_n (i := 2) dX9_throughOuter_138 rfl rfl ?_
                  refine rn_callV (a := 0) (b := 0) [.ref o132, .int v128] kl_SG_370 dX9_throughOuter_139 q1 (hT113.fr (hT106.pos hq1) rfl (hT106.fr hq1 rfl (hT12.fr hq1 rfl hl1))) rfl (t_X9_unseal G S106 w110 hS113.1 o0_ (hT106.mem m0_) (.ref o132) (Or.inr ⟨o132, rfl, mo132⟩) v128) rfl rfl (Nat.le_of_ble_eq_true rfl) (Nat.le_of_ble_eq_true rfl) (Nat.le_of_ble_eq_true rfl) (Nat.le_of_ble_eq_true rfl) (Nat.le_of_ble_eq_true rfl) (Nat.le_of_ble_eq_true rfl) (fun _ _ h => False.elim h) (fun v9 w149 h150 => ?_)
                  obtain ⟨hT152, v151, rfl, rv151⟩ := h150
                  have hS152 := St.tr hS113 hT152 rfl
                  refine rn_stk [.int v151] rfl ?_
                  refine rn_istore dX9_throughOuter_142 (by decide) [(0, .ref o0_), (1, .int v124), (2, .int v128), (3, .ref o132), (4, .int v151)] rfl ?_
                  refine rn_iload dX9_throughOuter_144 rfl ?_
                  refine rn_bipush (v := (9 : Int32)) dX9_throughOuter_146 (by decide) ?_
                  refine rn_icmp_lt (tgt := 173) dX9_throughOuter_148 (by decide) (fun h153 => ?_) (fun h153 => ?_)
                  · have ch153 := cv_lt h153
                    have r154 : Rg (0) (8) v151 := rf_ltx ch153 rv151 rk_9 (by decide)
                    refine rn_aload_n (i := 3) dX9_throughOuter_173 rfl rfl ?_
                    refine rn_ifnull dX9_throughOuter_174 ?_
                    refine rn_iload dX9_throughOuter_177 rfl ?_
                    refine rn_if_eq (tgt := 187) dX9_throughOuter_179 (by decide) (fun h155 => ?_) (fun h155 => ?_)
                    · have ch155 := cv_eq h155
                      have r156 : Rg (0) (0) v151 := rf_eqx ch155 r154 rk_0 (by decide) (by decide)
                      refine rn_aload_n (i := 0) dX9_throughOuter_187 rfl rfl ?_
                      refine rn_aload_n (i := 0) dX9_throughOuter_188 rfl rfl ?_
                      obtain ⟨o157, hx157, m157⟩ := fs_r (ts_fs.mono (fun p hp => hT106.mem hp) hf1) 3 rfl
                      refine rn_get q1 kg_SG_19 (hT152.fr (hT106.pos hq1) rfl (hT113.fr (hT106.pos hq1) rfl (hT106.fr hq1 rfl (hT12.fr hq1 rfl hl1)))) hx157 dX9_throughOuter_189 ?_
                      refine rn_aload_n (i := 3) dX9_throughOuter_192 rfl rfl ?_
                      obtain ⟨q158, fs158, hq158, hl158, hf158⟩ := ts_obj hS152.1 mo132 hk_8
                      refine rn_callV (a := 0) (b := 0) [] kl_SG_248 dX9_throughOuter_193 q158 hl158 rfl (t_X8_tunnel G S106 w149 hS152.1 o132 mo132) rfl rfl (Nat.le_of_ble_eq_true rfl) (Nat.le_of_ble_eq_true rfl) (Nat.le_of_ble_eq_true rfl) (Nat.le_of_ble_eq_true rfl) (Nat.le_of_ble_eq_true rfl) (Nat.le_of_ble_eq_true rfl) (fun _ _ h => False.elim h) (fun v9 w159 h160 => ?_)
                      obtain ⟨rfl, v161, rfl, rv161⟩ := h160
                      refine rn_stk [.int v161, .ref o157, .ref o0_] rfl ?_
                      refine rn_iload_n (i := 1) dX9_throughOuter_196 rfl rfl ?_
                      refine rn_iload_n (i := 2) dX9_throughOuter_197 rfl rfl ?_
                      refine rn_callV (a := 0) (b := 0) [.ref o157, .int v161, .int v124, .int v128] kl_SG_347 dX9_throughOuter_198 q1 (hT152.fr (hT106.pos hq1) rfl (hT113.fr (hT106.pos hq1) rfl (hT106.fr hq1 rfl (hT12.fr hq1 rfl hl1)))) rfl (t_X9_letIn G S106 w149 hS152.1 o0_ (hT106.mem m0_) o157 m157 v161 v124 v128) rfl rfl (Nat.le_of_ble_eq_true rfl) (Nat.le_of_ble_eq_true rfl) (Nat.le_of_ble_eq_true rfl) (Nat.le_of_ble_eq_true rfl) (Nat.le_of_ble_eq_true rfl) (Nat.le_of_ble_eq_true rfl) (fun _ _ h => False.elim h) (fun v9 w163 h164 => ?_)
                      obtain ⟨hT166, v165, rfl, rv165⟩ := h164
                      have hS166 := St.tr hS152 hT166 rfl
                      refine rn_stk [.int v165] rfl ?_
                      exact rn_iret dX9_throughOuter_201 rfl rfl (rq_in ⟨S106, hS166, v165, rfl, (rg_w rv165 (by decide) (by decide))⟩)
                    · have ch155 := cv_ne h155
                      have r167 : Rg (1) (8) v151 := rf_nel ch155 r154 rk_0 (by decide) (by decide)
                      refine rn_iload dX9_throughOuter_182 rfl ?_
                      refine rn_goto (tgt := 201) dX9_throughOuter_184 (by decide) ?_
                      exact rn_iret dX9_throughOuter_201 rfl rfl (rq_in ⟨S106, hS152, v151, rfl, (rg_w r167 (by decide) (by decide))⟩)
                  · have ch153 := cv_nlt h153
                    have r168 : Rg (9) (15) v151 := rf_ley ch153 rk_9 rv151 (by decide)
                    refine rn_iload dX9_throughOuter_151 rfl ?_
                    refine rn_bipush (v := (12 : Int32)) dX9_throughOuter_153 (by decide) ?_
                    refine rn_icmp_gt (tgt := 173) dX9_throughOuter_155 (by decide) (fun h169 => ?_) (fun h169 => ?_)
                    · have ch169 := cv_lt h169
                      have r170 : Rg (13) (15) v151 := rf_lty ch169 rk_12 r168 (by decide)
                      refine rn_aload_n (i := 3) dX9_throughOuter_173 rfl rfl ?_
                      refine rn_ifnull dX9_throughOuter_174 ?_
                      refine rn_iload dX9_throughOuter_177 rfl ?_
                      refine rn_if_eq (tgt := 187) dX9_throughOuter_179 (by decide) (fun h171 => (cx_eq (cv_eq h171) r170 rk_0 (by decide)).elim) (fun h171 => ?_)
                      have ch171 := cv_ne h171
                      refine rn_iload dX9_throughOuter_182 rfl ?_
                      refine rn_goto (tgt := 201) dX9_throughOuter_184 (by decide) ?_
                      exact rn_iret dX9_throughOuter_201 rfl rfl (rq_in ⟨S106, hS152, v151, rfl, (rg_w r170 (by decide) (by decide))⟩)
                    · have ch169 := cv_nlt h169
                      have r172 : Rg (9) (12) v151 := rf_lex ch169 r168 rk_12 (by decide)
                      refine rn_aload_n (i := 0) dX9_throughOuter_158 rfl rfl ?_
                      obtain ⟨o173, hx173, m173⟩ := fs_r (ts_fs.mono (fun p hp => hT106.mem hp) hf1) 14 rfl
                      refine rn_get q1 kg_SG_66 (hT152.fr (hT106.pos hq1) rfl (hT113.fr (hT106.pos hq1) rfl (hT106.fr hq1 rfl (hT12.fr hq1 rfl hl1)))) hx173 dX9_throughOuter_159 ?_
                      refine rn_iload dX9_throughOuter_162 rfl ?_
                      refine rn_aload_n (i := 0) dX9_throughOuter_164 rfl rfl ?_
                      refine rn_get q1 kg_SG_16 (hT152.fr (hT106.pos hq1) rfl (hT113.fr (hT106.pos hq1) rfl (hT106.fr hq1 rfl (hT12.fr hq1 rfl hl1)))) hx2 dX9_throughOuter_165 ?_
                      refine rn_iload_n (i := 1) dX9_throughOuter_168 rfl rfl ?_
                      refine rn_iload_n (i := 2) dX9_throughOuter_169 rfl rfl ?_
                      obtain ⟨q174, fs174, hq174, hl174, hf174⟩ := ts_obj hS152.1 m173 hk_2
                      refine rn_callV (a := 0) (b := 0) [.int v151, .ref o2, .int v124, .int v128] kl_SG_374 dX9_throughOuter_170 q174 hl174 rfl (t_X2_note G S106 w149 hS152.1 o173 m173 v151 o2 (hT106.mem m2) v124 v128) rfl rfl (Nat.le_of_ble_eq_true rfl) (Nat.le_of_ble_eq_true rfl) (Nat.le_of_ble_eq_true rfl) (Nat.le_of_ble_eq_true rfl) (Nat.le_of_ble_eq_true rfl) (Nat.le_of_ble_eq_true rfl) (fun _ _ h => False.elim h) (fun v9 w175 h176 => ?_)
                      obtain ⟨hT177, rfl⟩ := h176
                      have hS177 := St.tr hS152 hT177 rfl
                      refine rn_stk [] rfl ?_
                      refine rn_aload_n (i := 3) dX9_throughOuter_173 rfl rfl ?_
                      refine rn_ifnull dX9_throughOuter_174 ?_
                      refine rn_iload dX9_throughOuter_177 rfl ?_
                      refine rn_if_eq (tgt := 187) dX9_throughOuter_179 (by decide) (fun h178 => (cx_eq (cv_eq h178) r172 rk_0 (by decide)).elim) (fun h178 => ?_)
                      have ch178 := cv_ne h178
                      refine rn_iload dX9_throughOuter_182 rfl ?_
                      refine rn_goto (tgt := 201) dX9_throughOuter_184 (by decide) ?_
                      exact rn_iret dX9_throughOuter_201 rfl rfl (rq_in ⟨S106, hS177, v151, rfl, (rg_w r172 (by decide) (by decide))⟩)
              · have ch120 := cv_eq h120
                have r179 : Rg (0) (0) v118 := rf_eqx ch120 rv118 rk_0 (by decide) (by decide)
                refine rn_bipush (v := (8 : Int32)) dX9_throughOuter_111 (by decide) ?_
                exact rn_iret dX9_throughOuter_113 rfl rfl (rq_in ⟨S106, hS113, (8 : Int32), rfl, (rg_w rk_8 (by decide) (by decide))⟩)
            · have ch114 := cv_eq h114
              have r180 : Rg (0) (0) v112 := rf_eqx ch114 rv112 rk_0 (by decide) (by decide)
              refine rn_bipush (v := (7 : Int32)) dX9_throughOuter_98 (by decide) ?_
              exact rn_iret dX9_throughOuter_100 rfl rfl (rq_in ⟨S106, hS113, (7 : Int32), rfl, (rg_w rk_7 (by decide) (by decide))⟩)
          · have ch107 := cv_eq h107
            have r181 : Rg (0) (0) v105 := rf_eqx ch107 rv105 rk_0 (by decide) (by decide)
            refine rn_bipush (v := (17 : Int32)) dX9_throughOuter_81 (by decide) ?_
            exact rn_iret dX9_throughOuter_83 rfl rfl (rq_in ⟨S106, hS106, (17 : Int32), rfl, (rg_w rk_17 (by decide) (by decide))⟩)
      · have ch29 := cv_ne h29
        refine rn_aload_n (i := 0) dX9_throughOuter_45 rfl rfl ?_
        refine rn_aload_n (i := 0) dX9_throughOuter_46 rfl rfl ?_
        refine rn_get q1 kg_SG_16 (hT12.fr hq1 rfl hl1) hx2 dX9_throughOuter_47 ?_
        refine rn_iconst (v := (-1 : Int32)) dX9_throughOuter_50 (by decide) ?_
        refine rn_iconst (v := (0 : Int32)) dX9_throughOuter_51 (by decide) ?_
        refine rn_iconst (v := (0 : Int32)) dX9_throughOuter_52 (by decide) ?_
        refine rn_callV (a := 5) (b := 4030) [.ref o2, .int (-1 : Int32), .int (0 : Int32), .int (0 : Int32)] kl_SG_347 dX9_throughOuter_53 q1 (hT12.fr hq1 rfl hl1) rfl (t_X9_letIn G S w10 hS12.1 o0_ m0_ o2 m2 (-1 : Int32) (0 : Int32) (0 : Int32)) rfl rfl (Nat.le_of_ble_eq_true rfl) (Nat.le_of_ble_eq_true rfl) (Nat.le_of_ble_eq_true rfl) (Nat.le_of_ble_eq_true rfl) (Nat.le_of_ble_eq_true rfl) (Nat.le_of_ble_eq_true rfl) (fun _ _ h => False.elim h) (fun v9 w182 h183 => ?_)
        obtain ⟨hT185, v184, rfl, rv184⟩ := h183
        have hS185 := St.tr hS12 hT185 rfl
        refine rn_stk [.int v184] rfl ?_
        exact rn_iret dX9_throughOuter_56 rfl rfl (rq_in ⟨S, hS185, v184, rfl, (rg_w rv184 (by decide) (by decide))⟩)
  · have ch8 := cv_ne h8
    have r186 : Rg (1) (1) v6 := rf_nel ch8 rv6 rk_0 (by decide) (by decide)
    refine rn_iconst (v := (1 : Int32)) dX9_throughOuter_10 (by decide) ?_
    exact rn_iret dX9_throughOuter_11 rfl rfl (rq_in ⟨S, hS0, (1 : Int32), rfl, (rg_w rk_1 (by decide) (by decide))⟩)
