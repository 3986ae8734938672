abbrev q_t_X4_copy (G : rn_G) (S : ts_S) (ws : va_W) : rn_R → va_W → Prop := rQ (fun v w => St G S [4, 11] ws S w ∧ (v = none)) (fun E w => False)
set_option maxRecDepth 20000 in
set_option maxHeartbeats 4000000 in
theorem t_X4_copy (G : rn_G) (S : ts_S) (ws : va_W) (hW : ts_W G S ws) (o0_ : Nat) (m0_ : (o0_, 4) ∈ S) (o1_ : Nat) (m1_ : (o1_, 4) ∈ S) : Rn G mX4_copy 2 84 0 0 0 (lv_args 0 [.ref o0_, .ref o1_]) [] ws (q_t_X4_copy G S ws ) := by
  have hS0 : St G S [4, 11] ws S ws := St.rf hW
  refine rn_lv [(0, .ref o0_), (1, .ref o1_)] rfl ?_
  refine rn_aload_n (i := 0) dX4_copy_0 rfl rfl ?_
  refine rn_aload_n (i := 1) dX4_copy_1 rfl rfl ?_
  obtain ⟨q1, fs1, hq1, hl1, hf1⟩ := ts_obj hS0.1 m1_ hk_4
  obtain ⟨x2, hx2, rx2⟩ := fs_i hf1 1 rfl
  refine rn_get q1 kg_SG_Packet_15 hl1 hx2 dX4_copy_2 ?_
  obtain ⟨q3, fs3, hq3, hl3, hf3⟩ := ts_obj hS0.1 m0_ hk_4
  refine rn_callV (a := 0) (b := 0) [.int x2] kl_SG_Packet_38 dX4_copy_5 q3 hl3 rfl (t_X4_resize G S ws hS0.1 o0_ m0_ x2) rfl rfl (Nat.le_of_ble_eq_true rfl) (Nat.le_of_ble_eq_true rfl) (Nat.le_of_ble_eq_true rfl) (Nat.le_of_ble_eq_true rfl) (Nat.le_of_ble_eq_true rfl) (Nat.le_of_ble_eq_true rfl) (fun _ _ h => False.elim h) (fun v9 w4 h5 => ?_)
  obtain ⟨hT6, rfl⟩ := h5
  have hS6 := St.tr hS0 hT6 rfl
  refine rn_stk [] rfl ?_
  refine rn_aload_n (i := 0) dX4_copy_8 rfl rfl ?_
  refine rn_aload_n (i := 1) dX4_copy_9 rfl rfl ?_
  refine rn_iconst (v := (0 : Int32)) dX4_copy_10 (by decide) ?_
  refine rn_iconst (v := (0 : Int32)) dX4_copy_11 (by decide) ?_
  refine rn_aload_n (i := 1) dX4_copy_12 rfl rfl ?_
  obtain ⟨q7, fs7, hq7, hl7, hf7⟩ := ts_obj hS6.1 m1_ hk_4
  obtain ⟨x8, hx8, rx8⟩ := fs_i hf7 1 rfl
  refine rn_get q7 kg_SG_Packet_15 hl7 hx8 dX4_copy_13 ?_
  obtain ⟨q9, fs9, hq9, hl9, hf9⟩ := ts_obj hS6.1 m0_ hk_4
  refine rn_callV (a := 0) (b := 0) [.ref o1_, .int (0 : Int32), .int (0 : Int32), .int x8] kl_SG_Packet_42 dX4_copy_16 q9 hl9 rfl (t_X4_copyBytes G S w4 hS6.1 o0_ m0_ o1_ m1_ (0 : Int32) (0 : Int32) x8) rfl rfl (Nat.le_of_ble_eq_true rfl) (Nat.le_of_ble_eq_true rfl) (Nat.le_of_ble_eq_true rfl) (Nat.le_of_ble_eq_true rfl) (Nat.le_of_ble_eq_true rfl) (Nat.le_of_ble_eq_true rfl) (fun _ _ h => False.elim h) (fun v9 w10 h11 => ?_)
  obtain ⟨hT12, rfl⟩ := h11
  have hS12 := St.tr hS6 hT12 rfl
  refine rn_stk [] rfl ?_
  exact rn_vret dX4_copy_19 rfl (rq_in ⟨hS12, rfl⟩)
abbrev q_t_X4_length (G : rn_G) (S : ts_S) (ws : va_W) : rn_R → va_W → Prop := rQ (fun v w => ws = w ∧ (∃ x : Int32, v = some (.int x) ∧ Rg (-2147483648) (2147483647) x)) (fun E w => False)
set_option maxRecDepth 20000 in
set_option maxHeartbeats 4000000 in
theorem t_X4_length (G : rn_G) (S : ts_S) (ws : va_W) (hW : ts_W G S ws) (o0_ : Nat) (m0_ : (o0_, 4) ∈ S) : Rn G mX4_length 1 21 0 0 0 (lv_args 0 [.ref o0_]) [] ws (q_t_X4_length G S ws ) := by
  refine rn_lv [(0, .ref o0_)] rfl ?_
  refine rn_aload_n (i := 0) dX4_length_0 rfl rfl ?_
  refine rn_iconst (v := (2 : Int32)) dX4_length_1 (by decide) ?_
  obtain ⟨q1, fs1, hq1, hl1, hf1⟩ := ts_obj hW m0_ hk_4
  refine rn_callV (a := 0) (b := 0) [.int (2 : Int32)] kl_SG_Packet_52 dX4_length_2 q1 hl1 rfl (t_X4_pairAt G S ws hW o0_ m0_ (2 : Int32)) rfl rfl (Nat.le_of_ble_eq_true rfl) (Nat.le_of_ble_eq_true rfl) (Nat.le_of_ble_eq_true rfl) (Nat.le_of_ble_eq_true rfl) (Nat.le_of_ble_eq_true rfl) (Nat.le_of_ble_eq_true rfl) (fun _ _ h => False.elim h) (fun v9 w2 h3 => ?_)
  obtain ⟨rfl, v4, rfl, rv4⟩ := h3
  refine rn_stk [.int v4] rfl ?_
  exact rn_iret dX4_length_5 rfl rfl (rq_in ⟨rfl, v4, rfl, rv4⟩)
abbrev q_t_X4_hops (G : rn_G) (S : ts_S) (ws : va_W) : rn_R → va_W → Prop := rQ (fun v w => ws = w ∧ (∃ x : Int32, v = some (.int x) ∧ Rg (0) (255) x)) (fun E w => False)
set_option maxRecDepth 20000 in
set_option maxHeartbeats 4000000 in
theorem t_X4_hops (G : rn_G) (S : ts_S) (ws : va_W) (hW : ts_W G S ws) (o0_ : Nat) (m0_ : (o0_, 4) ∈ S) : Rn G mX4_hops 1 21 0 0 0 (lv_args 0 [.ref o0_]) [] ws (q_t_X4_hops G S ws ) := by
  refine rn_lv [(0, .ref o0_)] rfl ?_
  refine rn_aload_n (i := 0) dX4_hops_0 rfl rfl ?_
  refine rn_bipush (v := (8 : Int32)) dX4_hops_1 (by decide) ?_
  obtain ⟨q1, fs1, hq1, hl1, hf1⟩ := ts_obj hW m0_ hk_4
  refine rn_callV (a := 0) (b := 0) [.int (8 : Int32)] kl_SG_Packet_55 dX4_hops_3 q1 hl1 rfl (t_X4_byteAt G S ws hW o0_ m0_ (8 : Int32)) rfl rfl (Nat.le_of_ble_eq_true rfl) (Nat.le_of_ble_eq_true rfl) (Nat.le_of_ble_eq_true rfl) (Nat.le_of_ble_eq_true rfl) (Nat.le_of_ble_eq_true rfl) (Nat.le_of_ble_eq_true rfl) (fun _ _ h => False.elim h) (fun v9 w2 h3 => ?_)
  obtain ⟨rfl, v4, rfl, rv4⟩ := h3
  refine rn_stk [.int v4] rfl ?_
  exact rn_iret dX4_hops_6 rfl rfl (rq_in ⟨rfl, v4, rfl, rv4⟩)
abbrev q_t_X4_kind (G : rn_G) (S : ts_S) (ws : va_W) : rn_R → va_W → Prop := rQ (fun v w => ws = w ∧ (∃ x : Int32, v = some (.int x) ∧ Rg (0) (255) x)) (fun E w => False)
set_option maxRecDepth 20000 in
set_option maxHeartbeats 4000000 in
theorem t_X4_kind (G : rn_G) (S : ts_S) (ws : va_W) (hW : ts_W G S ws) (o0_ : Nat) (m0_ : (o0_, 4) ∈ S) : Rn G mX4_kind 1 21 0 0 0 (lv_args 0 [.ref o0_]) [] ws (q_t_X4_kind G S ws ) := by
  refine rn_lv [(0, .ref o0_)] rfl ?_
  refine rn_aload_n (i := 0) dX4_kind_0 rfl rfl ?_
  refine rn_bipush (v := (9 : Int32)) dX4_kind_1 (by decide) ?_
  obtain ⟨q1, fs1, hq1, hl1, hf1⟩ := ts_obj hW m0_ hk_4
  refine rn_callV (a := 0) (b := 0) [.int (9 : Int32)] kl_SG_Packet_55 dX4_kind_3 q1 hl1 rfl (t_X4_byteAt G S ws hW o0_ m0_ (9 : Int32)) rfl rfl (Nat.le_of_ble_eq_true rfl) (Nat.le_of_ble_eq_true rfl) (Nat.le_of_ble_eq_true rfl) (Nat.le_of_ble_eq_true rfl) (Nat.le_of_ble_eq_true rfl) (Nat.le_of_ble_eq_true rfl) (fun _ _ h => False.elim h) (fun v9 w2 h3 => ?_)
  obtain ⟨rfl, v4, rfl, rv4⟩ := h3
  refine rn_stk [.int v4] rfl ?_
  exact rn_iret dX4_kind_6 rfl rfl (rq_in ⟨rfl, v4, rfl, rv4⟩)
abbrev q_t_X4_isPart (G : rn_G) (S : ts_S) (ws : va_W) : rn_R → va_W → Prop := rQ (fun v w => ws = w ∧ (∃ x : Int32, v = some (.int x) ∧ Rg (0) (1) x)) (fun E w => False)
set_option maxRecDepth 20000 in
set_option maxHeartbeats 4000000 in
theorem t_X4_isPart (G : rn_G) (S : ts_S) (ws : va_W) (hW : ts_W G S ws) (o0_ : Nat) (m0_ : (o0_, 4) ∈ S) : Rn G mX4_isPart 1 21 0 0 0 (lv_args 0 [.ref o0_]) [] ws (q_t_X4_isPart G S ws ) := by
  refine rn_lv [(0, .ref o0_)] rfl ?_
  refine rn_aload_n (i := 0) dX4_isPart_0 rfl rfl ?_
  refine rn_bipush (v := (6 : Int32)) dX4_isPart_1 (by decide) ?_
  obtain ⟨q1, fs1, hq1, hl1, hf1⟩ := ts_obj hW m0_ hk_4
  refine rn_callV (a := 0) (b := 0) [.int (6 : Int32)] kl_SG_Packet_52 dX4_isPart_3 q1 hl1 rfl (t_X4_pairAt G S ws hW o0_ m0_ (6 : Int32)) rfl rfl (Nat.le_of_ble_eq_true rfl) (Nat.le_of_ble_eq_true rfl) (Nat.le_of_ble_eq_true rfl) (Nat.le_of_ble_eq_true rfl) (Nat.le_of_ble_eq_true rfl) (Nat.le_of_ble_eq_true rfl) (fun _ _ h => False.elim h) (fun v9 w2 h3 => ?_)
  obtain ⟨rfl, v4, rfl, rv4⟩ := h3
  refine rn_stk [.int v4] rfl ?_
  refine rn_sipush (v := (16383 : Int32)) dX4_isPart_6 (by decide) ?_
  refine rn_iand dX4_isPart_9 (rn_tn 0 (16383) (rg_andr rk_16383 (by decide)) (fun v6 rv6 => ?_))
  refine rn_if_eq (tgt := 17) dX4_isPart_10 (by decide) (fun h7 => ?_) (fun h7 => ?_)
  · have ch7 := cv_eq h7
    have r8 : Rg (0) (0) v6 := rf_eqx ch7 rv6 rk_0 (by decide) (by decide)
    refine rn_iconst (v := (0 : Int32)) dX4_isPart_17 (by decide) ?_
    exact rn_iret dX4_isPart_18 rfl rfl (rq_in ⟨rfl, (0 : Int32), rfl, (rg_w rk_0 (by decide) (by decide))⟩)
  · have ch7 := cv_ne h7
    have r9 : Rg (1) (16383) v6 := rf_nel ch7 rv6 rk_0 (by decide) (by decide)
    refine rn_iconst (v := (1 : Int32)) dX4_isPart_13 (by decide) ?_
    refine rn_goto (tgt := 18) dX4_isPart_14 (by decide) ?_
    exact rn_iret dX4_isPart_18 rfl rfl (rq_in ⟨rfl, (1 : Int32), rfl, (rg_w rk_1 (by decide) (by decide))⟩)
abbrev q_t_X4_isTooMuch (G : rn_G) (S : ts_S) (ws : va_W) : rn_R → va_W → Prop := rQ (fun v w => ws = w ∧ (∃ x : Int32, v = some (.int x) ∧ Rg (0) (1) x)) (fun E w => False)
set_option maxRecDepth 20000 in
set_option maxHeartbeats 4000000 in
theorem t_X4_isTooMuch (G : rn_G) (S : ts_S) (ws : va_W) (hW : ts_W G S ws) (o0_ : Nat) (m0_ : (o0_, 4) ∈ S) : Rn G mX4_isTooMuch 1 21 0 0 0 (lv_args 0 [.ref o0_]) [] ws (q_t_X4_isTooMuch G S ws ) := by
  refine rn_lv [(0, .ref o0_)] rfl ?_
  refine rn_aload_n (i := 0) dX4_isTooMuch_0 rfl rfl ?_
  obtain ⟨q1, fs1, hq1, hl1, hf1⟩ := ts_obj hW m0_ hk_4
  obtain ⟨x2, hx2, rx2⟩ := fs_i hf1 1 rfl
  refine rn_get q1 kg_SG_Packet_15 hl1 hx2 dX4_isTooMuch_1 ?_
  refine rn_sipush (v := (1500 : Int32)) dX4_isTooMuch_4 (by decide) ?_
  refine rn_icmp_le (tgt := 27) dX4_isTooMuch_7 (by decide) (fun h3 => ?_) (fun h3 => ?_)
  · have ch3 := cv_le h3
    have r4 : Rg (0) (1500) x2 := rf_lex ch3 rx2 rk_1500 (by decide)
    refine rn_iconst (v := (0 : Int32)) dX4_isTooMuch_27 (by decide) ?_
    exact rn_iret dX4_isTooMuch_28 rfl rfl (rq_in ⟨rfl, (0 : Int32), rfl, (rg_w rk_0 (by decide) (by decide))⟩)
  · have ch3 := cv_nle h3
    have r5 : Rg (1501) (2040) x2 := rf_lty ch3 rk_1500 rx2 (by decide)
    refine rn_aload_n (i := 0) dX4_isTooMuch_10 rfl rfl ?_
    refine rn_bipush (v := (6 : Int32)) dX4_isTooMuch_11 (by decide) ?_
    refine rn_callV (a := 0) (b := 0) [.int (6 : Int32)] kl_SG_Packet_52 dX4_isTooMuch_13 q1 hl1 rfl (t_X4_pairAt G S ws hW o0_ m0_ (6 : Int32)) rfl rfl (Nat.le_of_ble_eq_true rfl) (Nat.le_of_ble_eq_true rfl) (Nat.le_of_ble_eq_true rfl) (Nat.le_of_ble_eq_true rfl) (Nat.le_of_ble_eq_true rfl) (Nat.le_of_ble_eq_true rfl) (fun _ _ h => False.elim h) (fun v9 w6 h7 => ?_)
    obtain ⟨rfl, v8, rfl, rv8⟩ := h7
    refine rn_stk [.int v8] rfl ?_
    refine rn_sipush (v := (16384 : Int32)) dX4_isTooMuch_16 (by decide) ?_
    refine rn_iand dX4_isTooMuch_19 (rn_tn 0 (16384) (rg_andr rk_16384 (by decide)) (fun v10 rv10 => ?_))
    refine rn_if_eq (tgt := 27) dX4_isTooMuch_20 (by decide) (fun h11 => ?_) (fun h11 => ?_)
    · have ch11 := cv_eq h11
      have r12 : Rg (0) (0) v10 := rf_eqx ch11 rv10 rk_0 (by decide) (by decide)
      refine rn_iconst (v := (0 : Int32)) dX4_isTooMuch_27 (by decide) ?_
      exact rn_iret dX4_isTooMuch_28 rfl rfl (rq_in ⟨rfl, (0 : Int32), rfl, (rg_w rk_0 (by decide) (by decide))⟩)
    · have ch11 := cv_ne h11
      have r13 : Rg (1) (16384) v10 := rf_nel ch11 rv10 rk_0 (by decide) (by decide)
      refine rn_iconst (v := (1 : Int32)) dX4_isTooMuch_23 (by decide) ?_
      refine rn_goto (tgt := 28) dX4_isTooMuch_24 (by decide) ?_
      exact rn_iret dX4_isTooMuch_28 rfl rfl (rq_in ⟨rfl, (1 : Int32), rfl, (rg_w rk_1 (by decide) (by decide))⟩)
abbrev q_t_X4_door (G : rn_G) (S : ts_S) (ws : va_W) : rn_R → va_W → Prop := rQ (fun v w => ws = w ∧ (∃ x : Int32, v = some (.int x) ∧ Rg (-2147483648) (2147483647) x)) (fun E w => False)
set_option maxRecDepth 20000 in
set_option maxHeartbeats 4000000 in
theorem t_X4_door (G : rn_G) (S : ts_S) (ws : va_W) (hW : ts_W G S ws) (o0_ : Nat) (m0_ : (o0_, 4) ∈ S) : Rn G mX4_door 2 41 0 0 0 (lv_args 0 [.ref o0_]) [] ws (q_t_X4_door G S ws ) := by
  refine rn_lv [(0, .ref o0_)] rfl ?_
  refine rn_aload_n (i := 0) dX4_door_0 rfl rfl ?_
  obtain ⟨q1, fs1, hq1, hl1, hf1⟩ := ts_obj hW m0_ hk_4
  refine rn_callV (a := 0) (b := 0) [] kl_SG_Packet_58 dX4_door_1 q1 hl1 rfl (t_X4_kind G S ws hW o0_ m0_) rfl rfl (Nat.le_of_ble_eq_true rfl) (Nat.le_of_ble_eq_true rfl) (Nat.le_of_ble_eq_true rfl) (Nat.le_of_ble_eq_true rfl) (Nat.le_of_ble_eq_true rfl) (Nat.le_of_ble_eq_true rfl) (fun _ _ h => False.elim h) (fun v9 w2 h3 => ?_)
  obtain ⟨rfl, v4, rfl, rv4⟩ := h3
  refine rn_stk [.int v4] rfl ?_
  refine rn_bipush (v := (6 : Int32)) dX4_door_4 (by decide) ?_
  refine rn_icmp_eq (tgt := 18) dX4_door_6 (by decide) (fun h6 => ?_) (fun h6 => ?_)
  · have ch6 := cv_eq h6
    have r7 : Rg (6) (6) v4 := rf_eqx ch6 rv4 rk_6 (by decide) (by decide)
    refine rn_iconst (v := (1 : Int32)) dX4_door_18 (by decide) ?_
    refine rn_goto (tgt := 23) dX4_door_19 (by decide) ?_
    refine rn_istore_n dX4_door_23 rfl (by decide) [(0, .ref o0_), (1, .int (1 : Int32))] rfl ?_
    refine rn_iload_n (i := 1) dX4_door_24 rfl rfl ?_
    refine rn_if_eq (tgt := 53) dX4_door_25 (by decide) (fun h8 => (cx_eq (cv_eq h8) rk_1 rk_0 (by decide)).elim) (fun h8 => ?_)
    refine rn_aload_n (i := 0) dX4_door_28 rfl rfl ?_
    refine rn_callV (a := 0) (b := 0) [] kl_SG_Packet_62 dX4_door_29 q1 hl1 rfl (t_X4_isPart G S ws hW o0_ m0_) rfl rfl (Nat.le_of_ble_eq_true rfl) (Nat.le_of_ble_eq_true rfl) (Nat.le_of_ble_eq_true rfl) (Nat.le_of_ble_eq_true rfl) (Nat.le_of_ble_eq_true rfl) (Nat.le_of_ble_eq_true rfl) (fun _ _ h => False.elim h) (fun v9 w9 h10 => ?_)
    obtain ⟨rfl, v11, rfl, rv11⟩ := h10
    refine rn_stk [.int v11] rfl ?_
    refine rn_if_ne (tgt := 53) dX4_door_32 (by decide) (fun h13 => ?_) (fun h13 => ?_)
    · have ch13 := cv_ne h13
      have r14 : Rg (1) (1) v11 := rf_nel ch13 rv11 rk_0 (by decide) (by decide)
      refine rn_iconst (v := (-1 : Int32)) dX4_door_53 (by decide) ?_
      exact rn_iret dX4_door_54 rfl rfl (rq_in ⟨rfl, (-1 : Int32), rfl, (rg_w rk_m1 (by decide) (by decide))⟩)
    · have ch13 := cv_eq h13
      have r15 : Rg (0) (0) v11 := rf_eqx ch13 rv11 rk_0 (by decide) (by decide)
      refine rn_aload_n (i := 0) dX4_door_35 rfl rfl ?_
      obtain ⟨x16, hx16, rx16⟩ := fs_i hf1 1 rfl
      refine rn_get q1 kg_SG_Packet_15 hl1 hx16 dX4_door_36 ?_
      refine rn_bipush (v := (24 : Int32)) dX4_door_39 (by decide) ?_
      refine rn_icmp_lt (tgt := 53) dX4_door_41 (by decide) (fun h17 => ?_) (fun h17 => ?_)
      · have ch17 := cv_lt h17
        have r18 : Rg (0) (23) x16 := rf_ltx ch17 rx16 rk_24 (by decide)
        refine rn_iconst (v := (-1 : Int32)) dX4_door_53 (by decide) ?_
        exact rn_iret dX4_door_54 rfl rfl (rq_in ⟨rfl, (-1 : Int32), rfl, (rg_w rk_m1 (by decide) (by decide))⟩)
      · have ch17 := cv_nlt h17
        have r19 : Rg (24) (2040) x16 := rf_ley ch17 rk_24 rx16 (by decide)
        refine rn_aload_n (i := 0) dX4_door_44 rfl rfl ?_
        refine rn_bipush (v := (22 : Int32)) dX4_door_45 (by decide) ?_
        refine rn_callV (a := 0) (b := 0) [.int (22 : Int32)] kl_SG_Packet_52 dX4_door_47 q1 hl1 rfl (t_X4_pairAt G S ws hW o0_ m0_ (22 : Int32)) rfl rfl (Nat.le_of_ble_eq_true rfl) (Nat.le_of_ble_eq_true rfl) (Nat.le_of_ble_eq_true rfl) (Nat.le_of_ble_eq_true rfl) (Nat.le_of_ble_eq_true rfl) (Nat.le_of_ble_eq_true rfl) (fun _ _ h => False.elim h) (fun v9 w20 h21 => ?_)
        obtain ⟨rfl, v22, rfl, rv22⟩ := h21
        refine rn_stk [.int v22] rfl ?_
        refine rn_goto (tgt := 54) dX4_door_50 (by decide) ?_
        exact rn_iret dX4_door_54 rfl rfl (rq_in ⟨rfl, v22, rfl, rv22⟩)
  · have ch6 := cv_ne h6
    refine rn_aload_n (i := 0) dX4_door_9 rfl rfl ?_
    refine rn_callV (a := 0) (b := 0) [] kl_SG_Packet_58 dX4_door_10 q1 hl1 rfl (t_X4_kind G S ws hW o0_ m0_) rfl rfl (Nat.le_of_ble_eq_true rfl) (Nat.le_of_ble_eq_true rfl) (Nat.le_of_ble_eq_true rfl) (Nat.le_of_ble_eq_true rfl) (Nat.le_of_ble_eq_true rfl) (Nat.le_of_ble_eq_true rfl) (fun _ _ h => False.elim h) (fun v9 w24 h25 => ?_)
    obtain ⟨rfl, v26, rfl, rv26⟩ := h25
    refine rn_stk [.int v26] rfl ?_
    refine rn_bipush (v := (17 : Int32)) dX4_door_13 (by decide) ?_
    refine rn_icmp_ne (tgt := 22) dX4_door_15 (by decide) (fun h28 => ?_) (fun h28 => ?_)
    · have ch28 := cv_ne h28
      refine rn_iconst (v := (0 : Int32)) dX4_door_22 (by decide) ?_
      refine rn_istore_n dX4_door_23 rfl (by decide) [(0, .ref o0_), (1, .int (0 : Int32))] rfl ?_
      refine rn_iload_n (i := 1) dX4_door_24 rfl rfl ?_
      refine rn_if_eq (tgt := 53) dX4_door_25 (by decide) (fun h29 => ?_) (fun h29 => (cx_ne (cv_ne h29) rk_0 rk_0 (by decide)).elim)
      refine rn_iconst (v := (-1 : Int32)) dX4_door_53 (by decide) ?_
      exact rn_iret dX4_door_54 rfl rfl (rq_in ⟨rfl, (-1 : Int32), rfl, (rg_w rk_m1 (by decide) (by decide))⟩)
    · have ch28 := cv_eq h28
      have r30 : Rg (17) (17) v26 := rf_eqx ch28 rv26 rk_17 (by decide) (by decide)
      refine rn_iconst (v := (1 : Int32)) dX4_door_18 (by decide) ?_
      refine rn_goto (tgt := 23) dX4_door_19 (by decide) ?_
      refine rn_istore_n dX4_door_23 rfl (by decide) [(0, .ref o0_), (1, .int (1 : Int32))] rfl ?_
      refine rn_iload_n (i := 1) dX4_door_24 rfl rfl ?_
      refine rn_if_eq (tgt := 53) dX4_door_25 (by decide) (fun h31 => (cx_eq (cv_eq h31) rk_1 rk_0 (by decide)).elim) (fun h31 => ?_)
      refine rn_aload_n (i := 0) dX4_door_28 rfl rfl ?_
      refine rn_callV (a := 0) (b := 0) [] kl_SG_Packet_62 dX4_door_29 q1 hl1 rfl (t_X4_isPart G S ws hW o0_ m0_) rfl rfl (Nat.le_of_ble_eq_true rfl) (Nat.le_of_ble_eq_true rfl) (Nat.le_of_ble_eq_true rfl) (Nat.le_of_ble_eq_true rfl) (Nat.le_of_ble_eq_true rfl) (Nat.le_of_ble_eq_true rfl) (fun _ _ h => False.elim h) (fun v9 w32 h33 => ?_)
      obtain ⟨rfl, v34, rfl, rv34⟩ := h33
      refine rn_stk [.int v34] rfl ?_
      refine rn_if_ne (tgt := 53) dX4_door_32 (by decide) (fun h36 => ?_) (fun h36 => ?_)
      · have ch36 := cv_ne h36
        have r37 : Rg (1) (1) v34 := rf_nel ch36 rv34 rk_0 (by decide) (by decide)
        refine rn_iconst (v := (-1 : Int32)) dX4_door_53 (by decide) ?_
        exact rn_iret dX4_door_54 rfl rfl (rq_in ⟨rfl, (-1 : Int32), rfl, (rg_w rk_m1 (by decide) (by decide))⟩)
      · have ch36 := cv_eq h36
        have r38 : Rg (0) (0) v34 := rf_eqx ch36 rv34 rk_0 (by decide) (by decide)
        refine rn_aload_n (i := 0) dX4_door_35 rfl rfl ?_
        obtain ⟨x39, hx39, rx39⟩ := fs_i hf1 1 rfl
        refine rn_get q1 kg_SG_Packet_15 hl1 hx39 dX4_door_36 ?_
        refine rn_bipush (v := (24 : Int32)) dX4_door_39 (by decide) ?_
        refine rn_icmp_lt (tgt := 53) dX4_door_41 (by decide) (fun h40 => ?_) (fun h40 => ?_)
        · have ch40 := cv_lt h40
          have r41 : Rg (0) (23) x39 := rf_ltx ch40 rx39 rk_24 (by decide)
          refine rn_iconst (v := (-1 : Int32)) dX4_door_53 (by decide) ?_
          exact rn_iret dX4_door_54 rfl rfl (rq_in ⟨rfl, (-1 : Int32), rfl, (rg_w rk_m1 (by decide) (by decide))⟩)
        · have ch40 := cv_nlt h40
          have r42 : Rg (24) (2040) x39 := rf_ley ch40 rk_24 rx39 (by decide)
          refine rn_aload_n (i := 0) dX4_door_44 rfl rfl ?_
          refine rn_bipush (v := (22 : Int32)) dX4_door_45 (by decide) ?_
          refine rn_callV (a := 0) (b := 0) [.int (22 : Int32)] kl_SG_Packet_52 dX4_door_47 q1 hl1 rfl (t_X4_pairAt G S ws hW o0_ m0_ (22 : Int32)) rfl rfl (Nat.le_of_ble_eq_true rfl) (Nat.le_of_ble_eq_true rfl) (Nat.le_of_ble_eq_true rfl) (Nat.le_of_ble_eq_true rfl) (Nat.le_of_ble_eq_true rfl) (Nat.le_of_ble_eq_true rfl) (fun _ _ h => False.elim h) (fun v9 w43 h44 => ?_)
          obtain ⟨rfl, v45, rfl, rv45⟩ := h44
          refine rn_stk [.int v45] rfl ?_
          refine rn_goto (tgt := 54) dX4_door_50 (by decide) ?_
          exact rn_iret dX4_door_54 rfl rfl (rq_in ⟨rfl, v45, rfl, rv45⟩)
abbrev q_t_X4_addHead (G : rn_G) (S : ts_S) (ws : va_W) : rn_R → va_W → Prop := rQ (fun v w => ws = w ∧ (∃ x : Int32, v = some (.int x) ∧ Rg (-2147483648) (2147483647) x)) (fun E w => False)
set_option maxRecDepth 20000 in
set_option maxHeartbeats 4000000 in
theorem t_X4_addHead (G : rn_G) (S : ts_S) (ws : va_W) (hW : ts_W G S ws) (o0_ : Nat) (m0_ : (o0_, 4) ∈ S) : Rn G mX4_addHead 1 21 0 0 0 (lv_args 0 [.ref o0_]) [] ws (q_t_X4_addHead G S ws ) := by
  refine rn_lv [(0, .ref o0_)] rfl ?_
  refine rn_iconst (v := (0 : Int32)) dX4_addHead_0 (by decide) ?_
  refine rn_istore_n dX4_addHead_1 rfl (by decide) [(0, .ref o0_), (1, .int (0 : Int32))] rfl ?_
  refine rn_iconst (v := (0 : Int32)) dX4_addHead_2 (by decide) ?_
  refine rn_istore_n dX4_addHead_3 rfl (by decide) [(0, .ref o0_), (1, .int (0 : Int32)), (2, .int (0 : Int32))] rfl ?_
  have LP3 : ∀ (n : Nat) (x1 : Int32) (x2 : Int32), Rg (-2147483648) (2147483647) x1 → Rg (0) (23) x2 → (23 - x2.toInt).toNat = n → Rn G mX4_addHead 1 21 0 0 4 [(0, .ref o0_), (1, .int x1), (2, .int x2)] [] ws (q_t_X4_addHead G S ws ) := by
    intro n
    induction n using Nat.strongRecOn with
    | _ n ih =>
      intro x1 x2 r5 r6 hm7
      refine rn_iload_n (i := 2) dX4_addHead_4 rfl rfl ?_
      refine rn_bipush (v := (20 : Int32)) dX4_addHead_5 (by decide) ?_
      refine rn_icmp_ge (tgt := 24) dX4_addHead_7 (by decide) (fun h8 => ?_) (fun h8 => ?_)
      · have ch8 := cv_le h8
        have r9 : Rg (20) (23) x2 := rf_ley ch8 rk_20 r6 (by decide)
        refine rn_iload_n (i := 1) dX4_addHead_24 rfl rfl ?_
        refine rn_ldc (v := (65535 : Int32)) wd_416 dX4_addHead_25 ?_
        refine rn_iand dX4_addHead_27 (rn_tn 0 (65535) (rg_andr rk_65535 (by decide)) (fun v10 rv10 => ?_))
        refine rn_iload_n (i := 1) dX4_addHead_28 rfl rfl ?_
        refine rn_bipush (v := (16 : Int32)) dX4_addHead_29 (by decide) ?_
        refine rn_iushr dX4_addHead_31 rfl (rn_nmA (fun v11 rv11 => ?_))
        refine rn_iadd dX4_addHead_32 (rn_nmA (fun v12 rv12 => ?_))
        refine rn_istore_n dX4_addHead_33 rfl (by decide) [(0, .ref o0_), (1, .int v12), (2, .int x2)] rfl ?_
        refine rn_iload_n (i := 1) dX4_addHead_34 rfl rfl ?_
        refine rn_ldc (v := (65535 : Int32)) wd_416 dX4_addHead_35 ?_
        refine rn_iand dX4_addHead_37 (rn_tn 0 (65535) (rg_andr rk_65535 (by decide)) (fun v13 rv13 => ?_))
        refine rn_iload_n (i := 1) dX4_addHead_38 rfl rfl ?_
        refine rn_bipush (v := (16 : Int32)) dX4_addHead_39 (by decide) ?_
        refine rn_iushr dX4_addHead_41 rfl (rn_nmA (fun v14 rv14 => ?_))
        refine rn_iadd dX4_addHead_42 (rn_nmA (fun v15 rv15 => ?_))
        exact rn_iret dX4_addHead_43 rfl rfl (rq_in ⟨rfl, v15, rfl, rv15⟩)
      · have ch8 := cv_nle h8
        have r16 : Rg (0) (19) x2 := rf_ltx ch8 r6 rk_20 (by decide)
        refine rn_iload_n (i := 1) dX4_addHead_10 rfl rfl ?_
        refine rn_aload_n (i := 0) dX4_addHead_11 rfl rfl ?_
        refine rn_iload_n (i := 2) dX4_addHead_12 rfl rfl ?_
        obtain ⟨q17, fs17, hq17, hl17, hf17⟩ := ts_obj hW m0_ hk_4
        refine rn_callV (a := 0) (b := 0) [.int x2] kl_SG_Packet_52 dX4_addHead_13 q17 hl17 rfl (t_X4_pairAt G S ws hW o0_ m0_ x2) rfl rfl (Nat.le_of_ble_eq_true rfl) (Nat.le_of_ble_eq_true rfl) (Nat.le_of_ble_eq_true rfl) (Nat.le_of_ble_eq_true rfl) (Nat.le_of_ble_eq_true rfl) (Nat.le_of_ble_eq_true rfl) (fun _ _ h => False.elim h) (fun v9 w18 h19 => ?_)
        obtain ⟨rfl, v20, rfl, rv20⟩ := h19
        refine rn_stk [.int v20, .int x1] rfl ?_
        refine rn_iadd dX4_addHead_16 (rn_nmA (fun v22 rv22 => ?_))
        refine rn_istore_n dX4_addHead_17 rfl (by decide) [(0, .ref o0_), (1, .int v22), (2, .int x2)] rfl ?_
        refine rs_iinc (2) (21) dX4_addHead_18 rfl (by decide) r16 rk_2 (by decide) (fun v23 => [(0, .ref o0_), (1, .int v22), (2, .int v23)]) (fun _ => rfl) (fun v23 ev23 rv23 => ?_)
        refine rn_goto (tgt := 4) dX4_addHead_21 (by decide) ?_
        refine rn_lv [(0, .ref o0_), (1, .int v22), (2, .int v23)] rfl ?_
        exact ih _ (lp_inc hm7 ev23 rv23 (by decide)) v22 v23 rv22 (rg_w rv23 (by decide) (by decide)) rfl
  exact LP3 _ (0 : Int32) (0 : Int32) (rg_w rk_0 (by decide) (by decide)) (rg_w rk_0 (by decide) (by decide)) rfl
abbrev q_t_X4_isBroken (G : rn_G) (S : ts_S) (ws : va_W) : rn_R → va_W → Prop := rQ (fun v w => ws = w ∧ (∃ x : Int32, v = some (.int x) ∧ Rg (0) (1) x)) (fun E w => False)
set_option maxRecDepth 20000 in
set_option maxHeartbeats 4000000 in
theorem t_X4_isBroken (G : rn_G) (S : ts_S) (ws : va_W) (hW : ts_W G S ws) (o0_ : Nat) (m0_ : (o0_, 4) ∈ S) : Rn G mX4_isBroken 2 43 0 0 0 (lv_args 0 [.ref o0_]) [] ws (q_t_X4_isBroken G S ws ) := by
  refine rn_lv [(0, .ref o0_)] rfl ?_
  refine rn_aload_n (i := 0) dX4_isBroken_0 rfl rfl ?_
  obtain ⟨q1, fs1, hq1, hl1, hf1⟩ := ts_obj hW m0_ hk_4
  obtain ⟨x2, hx2, rx2⟩ := fs_i hf1 1 rfl
  refine rn_get q1 kg_SG_Packet_15 hl1 hx2 dX4_isBroken_1 ?_
  refine rn_bipush (v := (20 : Int32)) dX4_isBroken_4 (by decide) ?_
  refine rn_icmp_lt (tgt := 19) dX4_isBroken_6 (by decide) (fun h3 => ?_) (fun h3 => ?_)
  · have ch3 := cv_lt h3
    have r4 : Rg (0) (19) x2 := rf_ltx ch3 rx2 rk_20 (by decide)
    refine rn_iconst (v := (1 : Int32)) dX4_isBroken_19 (by decide) ?_
    exact rn_iret dX4_isBroken_20 rfl rfl (rq_in ⟨rfl, (1 : Int32), rfl, (rg_w rk_1 (by decide) (by decide))⟩)
  · have ch3 := cv_nlt h3
    have r5 : Rg (20) (2040) x2 := rf_ley ch3 rk_20 rx2 (by decide)
    refine rn_aload_n (i := 0) dX4_isBroken_9 rfl rfl ?_
    refine rn_iconst (v := (0 : Int32)) dX4_isBroken_10 (by decide) ?_
    refine rn_callV (a := 0) (b := 0) [.int (0 : Int32)] kl_SG_Packet_55 dX4_isBroken_11 q1 hl1 rfl (t_X4_byteAt G S ws hW o0_ m0_ (0 : Int32)) rfl rfl (Nat.le_of_ble_eq_true rfl) (Nat.le_of_ble_eq_true rfl) (Nat.le_of_ble_eq_true rfl) (Nat.le_of_ble_eq_true rfl) (Nat.le_of_ble_eq_true rfl) (Nat.le_of_ble_eq_true rfl) (fun _ _ h => False.elim h) (fun v9 w6 h7 => ?_)
    obtain ⟨rfl, v8, rfl, rv8⟩ := h7
    refine rn_stk [.int v8] rfl ?_
    refine rn_bipush (v := (69 : Int32)) dX4_isBroken_14 (by decide) ?_
    refine rn_icmp_eq (tgt := 21) dX4_isBroken_16 (by decide) (fun h10 => ?_) (fun h10 => ?_)
    · have ch10 := cv_eq h10
      have r11 : Rg (69) (69) v8 := rf_eqx ch10 rv8 rk_69 (by decide) (by decide)
      refine rn_aload_n (i := 0) dX4_isBroken_21 rfl rfl ?_
      refine rn_callV (a := 0) (b := 0) [] kl_SG_Packet_66 dX4_isBroken_22 q1 hl1 rfl (t_X4_length G S ws hW o0_ m0_) rfl rfl (Nat.le_of_ble_eq_true rfl) (Nat.le_of_ble_eq_true rfl) (Nat.le_of_ble_eq_true rfl) (Nat.le_of_ble_eq_true rfl) (Nat.le_of_ble_eq_true rfl) (Nat.le_of_ble_eq_true rfl) (fun _ _ h => False.elim h) (fun v9 w12 h13 => ?_)
      obtain ⟨rfl, v14, rfl, rv14⟩ := h13
      refine rn_stk [.int v14] rfl ?_
      refine rn_bipush (v := (20 : Int32)) dX4_isBroken_25 (by decide) ?_
      refine rn_icmp_lt (tgt := 50) dX4_isBroken_27 (by decide) (fun h16 => ?_) (fun h16 => ?_)
      · have ch16 := cv_lt h16
        have r17 : Rg (-2147483648) (19) v14 := rf_ltx ch16 rv14 rk_20 (by decide)
        refine rn_iconst (v := (1 : Int32)) dX4_isBroken_50 (by decide) ?_
        refine rn_goto (tgt := 55) dX4_isBroken_51 (by decide) ?_
        exact rn_iret dX4_isBroken_55 rfl rfl (rq_in ⟨rfl, (1 : Int32), rfl, (rg_w rk_1 (by decide) (by decide))⟩)
      · have ch16 := cv_nlt h16
        have r18 : Rg (20) (2147483647) v14 := rf_ley ch16 rk_20 rv14 (by decide)
        refine rn_aload_n (i := 0) dX4_isBroken_30 rfl rfl ?_
        refine rn_callV (a := 0) (b := 0) [] kl_SG_Packet_66 dX4_isBroken_31 q1 hl1 rfl (t_X4_length G S ws hW o0_ m0_) rfl rfl (Nat.le_of_ble_eq_true rfl) (Nat.le_of_ble_eq_true rfl) (Nat.le_of_ble_eq_true rfl) (Nat.le_of_ble_eq_true rfl) (Nat.le_of_ble_eq_true rfl) (Nat.le_of_ble_eq_true rfl) (fun _ _ h => False.elim h) (fun v9 w19 h20 => ?_)
        obtain ⟨rfl, v21, rfl, rv21⟩ := h20
        refine rn_stk [.int v21] rfl ?_
        refine rn_aload_n (i := 0) dX4_isBroken_34 rfl rfl ?_
        refine rn_get q1 kg_SG_Packet_15 hl1 hx2 dX4_isBroken_35 ?_
        refine rn_icmp_gt (tgt := 50) dX4_isBroken_38 (by decide) (fun h23 => ?_) (fun h23 => ?_)
        · have ch23 := cv_lt h23
          have r24 : Rg (21) (2147483647) v21 := rf_lty ch23 r5 rv21 (by decide)
          refine rn_iconst (v := (1 : Int32)) dX4_isBroken_50 (by decide) ?_
          refine rn_goto (tgt := 55) dX4_isBroken_51 (by decide) ?_
          exact rn_iret dX4_isBroken_55 rfl rfl (rq_in ⟨rfl, (1 : Int32), rfl, (rg_w rk_1 (by decide) (by decide))⟩)
        · have ch23 := cv_nlt h23
          have r25 : Rg (-2147483648) (2040) v21 := rf_lex ch23 rv21 r5 (by decide)
          refine rn_aload_n (i := 0) dX4_isBroken_41 rfl rfl ?_
          refine rn_callV (a := 0) (b := 0) [] kl_SG_Packet_69 dX4_isBroken_42 q1 hl1 rfl (t_X4_addHead G S ws hW o0_ m0_) rfl rfl (Nat.le_of_ble_eq_true rfl) (Nat.le_of_ble_eq_true rfl) (Nat.le_of_ble_eq_true rfl) (Nat.le_of_ble_eq_true rfl) (Nat.le_of_ble_eq_true rfl) (Nat.le_of_ble_eq_true rfl) (fun _ _ h => False.elim h) (fun v9 w26 h27 => ?_)
          obtain ⟨rfl, v28, rfl, rv28⟩ := h27
          refine rn_stk [.int v28] rfl ?_
          refine rn_ldc (v := (65535 : Int32)) wd_416 dX4_isBroken_45 ?_
          refine rn_icmp_eq (tgt := 54) dX4_isBroken_47 (by decide) (fun h30 => ?_) (fun h30 => ?_)
          · have ch30 := cv_eq h30
            have r31 : Rg (65535) (65535) v28 := rf_eqx ch30 rv28 rk_65535 (by decide) (by decide)
            refine rn_iconst (v := (0 : Int32)) dX4_isBroken_54 (by decide) ?_
            exact rn_iret dX4_isBroken_55 rfl rfl (rq_in ⟨rfl, (0 : Int32), rfl, (rg_w rk_0 (by decide) (by decide))⟩)
          · have ch30 := cv_ne h30
            refine rn_iconst (v := (1 : Int32)) dX4_isBroken_50 (by decide) ?_
            refine rn_goto (tgt := 55) dX4_isBroken_51 (by decide) ?_
            exact rn_iret dX4_isBroken_55 rfl rfl (rq_in ⟨rfl, (1 : Int32), rfl, (rg_w rk_1 (by decide) (by decide))⟩)
    · have ch10 := cv_ne h10
      refine rn_iconst (v := (1 : Int32)) dX4_isBroken_19 (by decide) ?_
      exact rn_iret dX4_isBroken_20 rfl rfl (rq_in ⟨rfl, (1 : Int32), rfl, (rg_w rk_1 (by decide) (by decide))⟩)
abbrev q_t_X4_cutToLength (G : rn_G) (S : ts_S) (ws : va_W) : rn_R → va_W → Prop := rQ (fun v w => St G S [4] ws S w ∧ (v = none)) (fun E w => False)
set_option maxRecDepth 20000 in
set_option maxHeartbeats 4000000 in
theorem t_X4_cutToLength (G : rn_G) (S : ts_S) (ws : va_W) (hW : ts_W G S ws) (o0_ : Nat) (m0_ : (o0_, 4) ∈ S) : Rn G mX4_cutToLength 2 42 0 0 0 (lv_args 0 [.ref o0_]) [] ws (q_t_X4_cutToLength G S ws ) := by
  have hS0 : St G S [4] ws S ws := St.rf hW
  refine rn_lv [(0, .ref o0_)] rfl ?_
  refine rn_aload_n (i := 0) dX4_cutToLength_0 rfl rfl ?_
  refine rn_aload_n (i := 0) dX4_cutToLength_1 rfl rfl ?_
  obtain ⟨q1, fs1, hq1, hl1, hf1⟩ := ts_obj hS0.1 m0_ hk_4
  refine rn_callV (a := 0) (b := 0) [] kl_SG_Packet_66 dX4_cutToLength_2 q1 hl1 rfl (t_X4_length G S ws hS0.1 o0_ m0_) rfl rfl (Nat.le_of_ble_eq_true rfl) (Nat.le_of_ble_eq_true rfl) (Nat.le_of_ble_eq_true rfl) (Nat.le_of_ble_eq_true rfl) (Nat.le_of_ble_eq_true rfl) (Nat.le_of_ble_eq_true rfl) (fun _ _ h => False.elim h) (fun v9 w2 h3 => ?_)
  obtain ⟨rfl, v4, rfl, rv4⟩ := h3
  refine rn_stk [.int v4, .ref o0_] rfl ?_
  refine rn_aload_n (i := 0) dX4_cutToLength_5 rfl rfl ?_
  obtain ⟨x6, hx6, rx6⟩ := fs_i hf1 1 rfl
  refine rn_get q1 kg_SG_Packet_15 hl1 hx6 dX4_cutToLength_6 ?_
  refine rn_mmin kl_SG_Packet_19 dX4_cutToLength_9 (Nat.le_of_ble_eq_true rfl) (Nat.le_of_ble_eq_true rfl) (Nat.le_of_ble_eq_true rfl) (rn_tn (-2147483648) (2040) (rg_min rv4 rx6 (by decide)) (fun v7 rv7 => ?_))
  refine rn_callV (a := 0) (b := 0) [.int v7] kl_SG_Packet_38 dX4_cutToLength_12 q1 hl1 rfl (t_X4_resize G S ws hS0.1 o0_ m0_ v7) rfl rfl (Nat.le_of_ble_eq_true rfl) (Nat.le_of_ble_eq_true rfl) (Nat.le_of_ble_eq_true rfl) (Nat.le_of_ble_eq_true rfl) (Nat.le_of_ble_eq_true rfl) (Nat.le_of_ble_eq_true rfl) (fun _ _ h => False.elim h) (fun v9 w8 h9 => ?_)
  obtain ⟨hT10, rfl⟩ := h9
  have hS10 := St.tr hS0 hT10 rfl
  refine rn_stk [] rfl ?_
  exact rn_vret dX4_cutToLength_15 rfl (rq_in ⟨hS10, rfl⟩)
abbrev q_t_X4_mendSum (G : rn_G) (S : ts_S) (ws : va_W) : rn_R → va_W → Prop := rQ (fun v w => St G S [11] ws S w ∧ (∃ x : Int32, v = some (.int x) ∧ Rg (-2147483648) (2147483647) x)) (fun E w => False)
set_option maxRecDepth 20000 in
set_option maxHeartbeats 4000000 in
theorem t_X4_mendSum (G : rn_G) (S : ts_S) (ws : va_W) (hW : ts_W G S ws) (o0_ : Nat) (m0_ : (o0_, 4) ∈ S) : Rn G mX4_mendSum 2 43 0 0 0 (lv_args 0 [.ref o0_]) [] ws (q_t_X4_mendSum G S ws ) := by
  have hS0 : St G S [11] ws S ws := St.rf hW
  refine rn_lv [(0, .ref o0_)] rfl ?_
  refine rn_aload_n (i := 0) dX4_mendSum_0 rfl rfl ?_
  refine rn_bipush (v := (10 : Int32)) dX4_mendSum_1 (by decide) ?_
  refine rn_iconst (v := (0 : Int32)) dX4_mendSum_3 (by decide) ?_
  obtain ⟨q1, fs1, hq1, hl1, hf1⟩ := ts_obj hS0.1 m0_ hk_4
  refine rn_callV (a := 0) (b := 0) [.int (10 : Int32), .int (0 : Int32)] kl_SG_Packet_31 dX4_mendSum_4 q1 hl1 rfl (t_X4_setPair G S ws hS0.1 o0_ m0_ (10 : Int32) (0 : Int32)) rfl rfl (Nat.le_of_ble_eq_true rfl) (Nat.le_of_ble_eq_true rfl) (Nat.le_of_ble_eq_true rfl) (Nat.le_of_ble_eq_true rfl) (Nat.le_of_ble_eq_true rfl) (Nat.le_of_ble_eq_true rfl) (fun _ _ h => False.elim h) (fun v9 w2 h3 => ?_)
  obtain ⟨hT4, rfl⟩ := h3
  have hS4 := St.tr hS0 hT4 rfl
  refine rn_stk [] rfl ?_
  refine rn_ldc (v := (65535 : Int32)) wd_416 dX4_mendSum_7 ?_
  refine rn_aload_n (i := 0) dX4_mendSum_9 rfl rfl ?_
  refine rn_callV (a := 0) (b := 0) [] kl_SG_Packet_69 dX4_mendSum_10 q1 (hT4.fr hq1 rfl hl1) rfl (t_X4_addHead G S w2 hS4.1 o0_ m0_) rfl rfl (Nat.le_of_ble_eq_true rfl) (Nat.le_of_ble_eq_true rfl) (Nat.le_of_ble_eq_true rfl) (Nat.le_of_ble_eq_true rfl) (Nat.le_of_ble_eq_true rfl) (Nat.le_of_ble_eq_true rfl) (fun _ _ h => False.elim h) (fun v9 w5 h6 => ?_)
  obtain ⟨rfl, v7, rfl, rv7⟩ := h6
  refine rn_stk [.int v7, .int (65535 : Int32)] rfl ?_
  refine rn_isub dX4_mendSum_13 (rn_nmA (fun v9 rv9 => ?_))
  refine rn_istore_n dX4_mendSum_14 rfl (by decide) [(0, .ref o0_), (1, .int v9)] rfl ?_
  refine rn_aload_n (i := 0) dX4_mendSum_15 rfl rfl ?_
  refine rn_bipush (v := (10 : Int32)) dX4_mendSum_16 (by decide) ?_
  refine rn_iload_n (i := 1) dX4_mendSum_18 rfl rfl ?_
  refine rn_callV (a := 0) (b := 0) [.int (10 : Int32), .int v9] kl_SG_Packet_31 dX4_mendSum_19 q1 (hT4.fr hq1 rfl hl1) rfl (t_X4_setPair G S w2 hS4.1 o0_ m0_ (10 : Int32) v9) rfl rfl (Nat.le_of_ble_eq_true rfl) (Nat.le_of_ble_eq_true rfl) (Nat.le_of_ble_eq_true rfl) (Nat.le_of_ble_eq_true rfl) (Nat.le_of_ble_eq_true rfl) (Nat.le_of_ble_eq_true rfl) (fun _ _ h => False.elim h) (fun v9 w10 h11 => ?_)
  obtain ⟨hT12, rfl⟩ := h11
  have hS12 := St.tr hS4 hT12 rfl
  refine rn_stk [] rfl ?_
  refine rn_iload_n (i := 1) dX4_mendSum_22 rfl rfl ?_
  exact rn_iret dX4_mendSum_23 rfl rfl (rq_in ⟨hS12, v9, rfl, rv9⟩)
abbrev q_t_X4_loseHop (G : rn_G) (S : ts_S) (ws : va_W) : rn_R → va_W → Prop := rQ (fun v w => St G S [11] ws S w ∧ (v = none)) (fun E w => False)
set_option maxRecDepth 20000 in
set_option maxHeartbeats 4000000 in
theorem t_X4_loseHop (G : rn_G) (S : ts_S) (ws : va_W) (hW : ts_W G S ws) (o0_ : Nat) (m0_ : (o0_, 4) ∈ S) : Rn G mX4_loseHop 3 64 0 0 0 (lv_args 0 [.ref o0_]) [] ws (q_t_X4_loseHop G S ws ) := by
  have hS0 : St G S [11] ws S ws := St.rf hW
  refine rn_lv [(0, .ref o0_)] rfl ?_
  refine rn_aload_n (i := 0) dX4_loseHop_0 rfl rfl ?_
  refine rn_bipush (v := (8 : Int32)) dX4_loseHop_1 (by decide) ?_
  refine rn_aload_n (i := 0) dX4_loseHop_3 rfl rfl ?_
  obtain ⟨q1, fs1, hq1, hl1, hf1⟩ := ts_obj hS0.1 m0_ hk_4
  refine rn_callV (a := 0) (b := 0) [] kl_SG_Packet_73 dX4_loseHop_4 q1 hl1 rfl (t_X4_hops G S ws hS0.1 o0_ m0_) rfl rfl (Nat.le_of_ble_eq_true rfl) (Nat.le_of_ble_eq_true rfl) (Nat.le_of_ble_eq_true rfl) (Nat.le_of_ble_eq_true rfl) (Nat.le_of_ble_eq_true rfl) (Nat.le_of_ble_eq_true rfl) (fun _ _ h => False.elim h) (fun v9 w2 h3 => ?_)
  obtain ⟨rfl, v4, rfl, rv4⟩ := h3
  refine rn_stk [.int v4, .int (8 : Int32), .ref o0_] rfl ?_
  refine rn_iconst (v := (1 : Int32)) dX4_loseHop_7 (by decide) ?_
  refine rs_subC (-1) (254) rv4 rk_1 dX4_loseHop_8 (by decide) (fun v6 ev6 rv6 => ?_)
  refine rn_callV (a := 0) (b := 0) [.int (8 : Int32), .int v6] kl_SG_Packet_76 dX4_loseHop_9 q1 hl1 rfl (t_X4_setByte G S ws hS0.1 o0_ m0_ (8 : Int32) v6) rfl rfl (Nat.le_of_ble_eq_true rfl) (Nat.le_of_ble_eq_true rfl) (Nat.le_of_ble_eq_true rfl) (Nat.le_of_ble_eq_true rfl) (Nat.le_of_ble_eq_true rfl) (Nat.le_of_ble_eq_true rfl) (fun _ _ h => False.elim h) (fun v9 w7 h8 => ?_)
  obtain ⟨hT9, rfl⟩ := h8
  have hS9 := St.tr hS0 hT9 rfl
  refine rn_stk [] rfl ?_
  refine rn_aload_n (i := 0) dX4_loseHop_12 rfl rfl ?_
  refine rn_callV (a := 0) (b := 0) [] kl_SG_Packet_79 dX4_loseHop_13 q1 (hT9.fr hq1 rfl hl1) rfl (t_X4_mendSum G S w7 hS9.1 o0_ m0_) rfl rfl (Nat.le_of_ble_eq_true rfl) (Nat.le_of_ble_eq_true rfl) (Nat.le_of_ble_eq_true rfl) (Nat.le_of_ble_eq_true rfl) (Nat.le_of_ble_eq_true rfl) (Nat.le_of_ble_eq_true rfl) (fun _ _ h => False.elim h) (fun v9 w10 h11 => ?_)
  obtain ⟨hT13, v12, rfl, rv12⟩ := h11
  have hS13 := St.tr hS9 hT13 rfl
  refine rn_stk [.int v12] rfl ?_
  refine rn_pop dX4_loseHop_16 rfl ?_
  exact rn_vret dX4_loseHop_17 rfl (rq_in ⟨hS13, rfl⟩)
abbrev q_t_X4_writeHead (G : rn_G) (S : ts_S) (ws : va_W) : rn_R → va_W → Prop := rQ (fun v w => St G S [11] ws S w ∧ (v = none)) (fun E w => False)
set_option maxRecDepth 20000 in
set_option maxHeartbeats 4000000 in
theorem t_X4_writeHead (G : rn_G) (S : ts_S) (ws : va_W) (hW : ts_W G S ws) (o0_ : Nat) (m0_ : (o0_, 4) ∈ S) (x1_ : Int32) (x2_ : Int32) (x3_ : Int32) (x4_ : Int32) : Rn G mX4_writeHead 2 44 0 0 0 (lv_args 0 [.ref o0_, .int x1_, .int x2_, .int x3_, .int x4_]) [] ws (q_t_X4_writeHead G S ws ) := by
  have hS0 : St G S [11] ws S ws := St.rf hW
  refine rn_lv [(0, .ref o0_), (1, .int x1_), (2, .int x2_), (3, .int x3_), (4, .int x4_)] rfl ?_
  refine rn_aload_n (i := 0) dX4_writeHead_0 rfl rfl ?_
  refine rn_iconst (v := (0 : Int32)) dX4_writeHead_1 (by decide) ?_
  refine rn_sipush (v := (17664 : Int32)) dX4_writeHead_2 (by decide) ?_
  obtain ⟨q1, fs1, hq1, hl1, hf1⟩ := ts_obj hS0.1 m0_ hk_4
  refine rn_callV (a := 0) (b := 0) [.int (0 : Int32), .int (17664 : Int32)] kl_SG_Packet_31 dX4_writeHead_5 q1 hl1 rfl (t_X4_setPair G S ws hS0.1 o0_ m0_ (0 : Int32) (17664 : Int32)) rfl rfl (Nat.le_of_ble_eq_true rfl) (Nat.le_of_ble_eq_true rfl) (Nat.le_of_ble_eq_true rfl) (Nat.le_of_ble_eq_true rfl) (Nat.le_of_ble_eq_true rfl) (Nat.le_of_ble_eq_true rfl) (fun _ _ h => False.elim h) (fun v9 w2 h3 => ?_)
  obtain ⟨hT4, rfl⟩ := h3
  have hS4 := St.tr hS0 hT4 rfl
  refine rn_stk [] rfl ?_
  refine rn_aload_n (i := 0) dX4_writeHead_8 rfl rfl ?_
  refine rn_iconst (v := (2 : Int32)) dX4_writeHead_9 (by decide) ?_
  refine rn_aload_n (i := 0) dX4_writeHead_10 rfl rfl ?_
  obtain ⟨x5, hx5, rx5⟩ := fs_i hf1 1 rfl
  refine rn_get q1 kg_SG_Packet_15 (hT4.fr hq1 rfl hl1) hx5 dX4_writeHead_11 ?_
  refine rn_callV (a := 0) (b := 0) [.int (2 : Int32), .int x5] kl_SG_Packet_31 dX4_writeHead_14 q1 (hT4.fr hq1 rfl hl1) rfl (t_X4_setPair G S w2 hS4.1 o0_ m0_ (2 : Int32) x5) rfl rfl (Nat.le_of_ble_eq_true rfl) (Nat.le_of_ble_eq_true rfl) (Nat.le_of_ble_eq_true rfl) (Nat.le_of_ble_eq_true rfl) (Nat.le_of_ble_eq_true rfl) (Nat.le_of_ble_eq_true rfl) (fun _ _ h => False.elim h) (fun v9 w6 h7 => ?_)
  obtain ⟨hT8, rfl⟩ := h7
  have hS8 := St.tr hS4 hT8 rfl
  refine rn_stk [] rfl ?_
  refine rn_aload_n (i := 0) dX4_writeHead_17 rfl rfl ?_
  refine rn_iconst (v := (4 : Int32)) dX4_writeHead_18 (by decide) ?_
  refine rn_iconst (v := (0 : Int32)) dX4_writeHead_19 (by decide) ?_
  refine rn_callV (a := 0) (b := 0) [.int (4 : Int32), .int (0 : Int32)] kl_SG_Packet_31 dX4_writeHead_20 q1 (hT8.fr hq1 rfl (hT4.fr hq1 rfl hl1)) rfl (t_X4_setPair G S w6 hS8.1 o0_ m0_ (4 : Int32) (0 : Int32)) rfl rfl (Nat.le_of_ble_eq_true rfl) (Nat.le_of_ble_eq_true rfl) (Nat.le_of_ble_eq_true rfl) (Nat.le_of_ble_eq_true rfl) (Nat.le_of_ble_eq_true rfl) (Nat.le_of_ble_eq_true rfl) (fun _ _ h => False.elim h) (fun v9 w9 h10 => ?_)
  obtain ⟨hT11, rfl⟩ := h10
  have hS11 := St.tr hS8 hT11 rfl
  refine rn_stk [] rfl ?_
  refine rn_aload_n (i := 0) dX4_writeHead_23 rfl rfl ?_
  refine rn_bipush (v := (6 : Int32)) dX4_writeHead_24 (by decide) ?_
  refine rn_iconst (v := (0 : Int32)) dX4_writeHead_26 (by decide) ?_
  refine rn_callV (a := 0) (b := 0) [.int (6 : Int32), .int (0 : Int32)] kl_SG_Packet_31 dX4_writeHead_27 q1 (hT11.fr hq1 rfl (hT8.fr hq1 rfl (hT4.fr hq1 rfl hl1))) rfl (t_X4_setPair G S w9 hS11.1 o0_ m0_ (6 : Int32) (0 : Int32)) rfl rfl (Nat.le_of_ble_eq_true rfl) (Nat.le_of_ble_eq_true rfl) (Nat.le_of_ble_eq_true rfl) (Nat.le_of_ble_eq_true rfl) (Nat.le_of_ble_eq_true rfl) (Nat.le_of_ble_eq_true rfl) (fun _ _ h => False.elim h) (fun v9 w12 h13 => ?_)
  obtain ⟨hT14, rfl⟩ := h13
  have hS14 := St.tr hS11 hT14 rfl
  refine rn_stk [] rfl ?_
  refine rn_aload_n (i := 0) dX4_writeHead_30 rfl rfl ?_
  refine rn_bipush (v := (8 : Int32)) dX4_writeHead_31 (by decide) ?_
  refine rn_iload dX4_writeHead_33 rfl ?_
  refine rn_callV (a := 0) (b := 0) [.int (8 : Int32), .int x4_] kl_SG_Packet_76 dX4_writeHead_35 q1 (hT14.fr hq1 rfl (hT11.fr hq1 rfl (hT8.fr hq1 rfl (hT4.fr hq1 rfl hl1)))) rfl (t_X4_setByte G S w12 hS14.1 o0_ m0_ (8 : Int32) x4_) rfl rfl (Nat.le_of_ble_eq_true rfl) (Nat.le_of_ble_eq_true rfl) (Nat.le_of_ble_eq_true rfl) (Nat.le_of_ble_eq_true rfl) (Nat.le_of_ble_eq_true rfl) (Nat.le_of_ble_eq_true rfl) (fun _ _ h => False.elim h) (fun v9 w15 h16 => ?_)
  obtain ⟨hT17, rfl⟩ := h16
  have hS17 := St.tr hS14 hT17 rfl
  refine rn_stk [] rfl ?_
  refine rn_aload_n (i := 0) dX4_writeHead_38 rfl rfl ?_
  refine rn_bipush (v := (9 : Int32)) dX4_writeHead_39 (by decide) ?_
  refine rn_iload_n (i := 3) dX4_writeHead_41 rfl rfl ?_
  refine rn_callV (a := 0) (b := 0) [.int (9 : Int32), .int x3_] kl_SG_Packet_76 dX4_writeHead_42 q1 (hT17.fr hq1 rfl (hT14.fr hq1 rfl (hT11.fr hq1 rfl (hT8.fr hq1 rfl (hT4.fr hq1 rfl hl1))))) rfl (t_X4_setByte G S w15 hS17.1 o0_ m0_ (9 : Int32) x3_) rfl rfl (Nat.le_of_ble_eq_true rfl) (Nat.le_of_ble_eq_true rfl) (Nat.le_of_ble_eq_true rfl) (Nat.le_of_ble_eq_true rfl) (Nat.le_of_ble_eq_true rfl) (Nat.le_of_ble_eq_true rfl) (fun _ _ h => False.elim h) (fun v9 w18 h19 => ?_)
  obtain ⟨hT20, rfl⟩ := h19
  have hS20 := St.tr hS17 hT20 rfl
  refine rn_stk [] rfl ?_
  refine rn_aload_n (i := 0) dX4_writeHead_45 rfl rfl ?_
  refine rn_bipush (v := (12 : Int32)) dX4_writeHead_46 (by decide) ?_
  refine rn_iload_n (i := 1) dX4_writeHead_48 rfl rfl ?_
  refine rn_callV (a := 0) (b := 0) [.int (12 : Int32), .int x1_] kl_SG_Packet_35 dX4_writeHead_49 q1 (hT20.fr hq1 rfl (hT17.fr hq1 rfl (hT14.fr hq1 rfl (hT11.fr hq1 rfl (hT8.fr hq1 rfl (hT4.fr hq1 rfl hl1)))))) rfl (t_X4_setWord G S w18 hS20.1 o0_ m0_ (12 : Int32) x1_) rfl rfl (Nat.le_of_ble_eq_true rfl) (Nat.le_of_ble_eq_true rfl) (Nat.le_of_ble_eq_true rfl) (Nat.le_of_ble_eq_true rfl) (Nat.le_of_ble_eq_true rfl) (Nat.le_of_ble_eq_true rfl) (fun _ _ h => False.elim h) (fun v9 w21 h22 => ?_)
  obtain ⟨hT23, rfl⟩ := h22
  have hS23 := St.tr hS20 hT23 rfl
  refine rn_stk [] rfl ?_
  refine rn_aload_n (i := 0) dX4_writeHead_52 rfl rfl ?_
  refine rn_bipush (v := (16 : Int32)) dX4_writeHead_53 (by decide) ?_
  refine rn_iload_n (i := 2) dX4_writeHead_55 rfl rfl ?_
  refine rn_callV (a := 0) (b := 0) [.int (16 : Int32), .int x2_] kl_SG_Packet_35 dX4_writeHead_56 q1 (hT23.fr hq1 rfl (hT20.fr hq1 rfl (hT17.fr hq1 rfl (hT14.fr hq1 rfl (hT11.fr hq1 rfl (hT8.fr hq1 rfl (hT4.fr hq1 rfl hl1))))))) rfl (t_X4_setWord G S w21 hS23.1 o0_ m0_ (16 : Int32) x2_) rfl rfl (Nat.le_of_ble_eq_true rfl) (Nat.le_of_ble_eq_true rfl) (Nat.le_of_ble_eq_true rfl) (Nat.le_of_ble_eq_true rfl) (Nat.le_of_ble_eq_true rfl) (Nat.le_of_ble_eq_true rfl) (fun _ _ h => False.elim h) (fun v9 w24 h25 => ?_)
  obtain ⟨hT26, rfl⟩ := h25
  have hS26 := St.tr hS23 hT26 rfl
  refine rn_stk [] rfl ?_
  exact rn_vret dX4_writeHead_59 rfl (rq_in ⟨hS26, rfl⟩)
