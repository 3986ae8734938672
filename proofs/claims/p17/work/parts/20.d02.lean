abbrev q_t_X0_isWhole (G : rn_G) (S : ts_S) (ws : va_W) : rn_R → va_W → Prop := rQ (fun v w => ws = w ∧ (∃ x : Int32, v = some (.int x) ∧ Rg (0) (1) x)) (fun E w => False)
set_option maxRecDepth 20000 in
set_option maxHeartbeats 4000000 in
theorem t_X0_isWhole (G : rn_G) (S : ts_S) (ws : va_W) (hW : ts_W G S ws) (o0_ : Nat) (m0_ : (o0_, 0) ∈ S) : Rn G mX0_isWhole 0 0 0 0 0 (lv_args 0 [.ref o0_]) [] ws (q_t_X0_isWhole G S ws ) := by
  refine rn_lv [(0, .ref o0_)] rfl ?_
  refine rn_aload_n (i := 0) dX0_isWhole_0 rfl rfl ?_
  obtain ⟨q1, fs1, hq1, hl1, hf1⟩ := ts_obj hW m0_ hk_0
  obtain ⟨x2, hx2, rx2⟩ := fs_i hf1 4 rfl
  refine rn_get q1 kg_SG_Heap_44 hl1 hx2 dX0_isWhole_1 ?_
  refine rn_aload_n (i := 0) dX0_isWhole_4 rfl rfl ?_
  obtain ⟨x3, hx3, rx3⟩ := fs_i hf1 6 rfl
  refine rn_get q1 kg_SG_Heap_50 hl1 hx3 dX0_isWhole_5 ?_
  refine rn_icmp_ne (tgt := 15) dX0_isWhole_8 (by decide) (fun h4 => ?_) (fun h4 => ?_)
  · have ch4 := cv_ne h4
    refine rn_iconst (v := (0 : Int32)) dX0_isWhole_15 (by decide) ?_
    exact rn_iret dX0_isWhole_16 rfl rfl (rq_in ⟨rfl, (0 : Int32), rfl, (rg_w rk_0 (by decide) (by decide))⟩)
  · have ch4 := cv_eq h4
    refine rn_iconst (v := (1 : Int32)) dX0_isWhole_11 (by decide) ?_
    refine rn_goto (tgt := 16) dX0_isWhole_12 (by decide) ?_
    exact rn_iret dX0_isWhole_16 rfl rfl (rq_in ⟨rfl, (1 : Int32), rfl, (rg_w rk_1 (by decide) (by decide))⟩)
abbrev q_t_X4_setPair (G : rn_G) (S : ts_S) (ws : va_W) : rn_R → va_W → Prop := rQ (fun v w => St G S [11] ws S w ∧ (v = none)) (fun E w => False)
set_option maxRecDepth 20000 in
set_option maxHeartbeats 4000000 in
theorem t_X4_setPair (G : rn_G) (S : ts_S) (ws : va_W) (hW : ts_W G S ws) (o0_ : Nat) (m0_ : (o0_, 4) ∈ S) (x1_ : Int32) (x2_ : Int32) : Rn G mX4_setPair 0 0 0 0 0 (lv_args 0 [.ref o0_, .int x1_, .int x2_]) [] ws (q_t_X4_setPair G S ws ) := by
  have hS0 : St G S [11] ws S ws := St.rf hW
  refine rn_lv [(0, .ref o0_), (1, .int x1_), (2, .int x2_)] rfl ?_
  refine rn_iload_n (i := 1) dX4_setPair_0 rfl rfl ?_
  refine rn_if_lt (tgt := 35) dX4_setPair_1 (by decide) (fun h1 => ?_) (fun h1 => ?_)
  · have ch1 := cv_lt h1
    have r2 : Rg (-2147483648) (-1) x1_ := rf_ltx ch1 (rg_any x1_) rk_0 (by decide)
    exact rn_vret dX4_setPair_35 rfl (rq_in ⟨hS0, rfl⟩)
  · have ch1 := cv_nlt h1
    have r3 : Rg (0) (2147483647) x1_ := rf_ley ch1 rk_0 (rg_any x1_) (by decide)
    refine rn_iload_n (i := 1) dX4_setPair_4 rfl rfl ?_
    refine rn_aload_n (i := 0) dX4_setPair_5 rfl rfl ?_
    obtain ⟨q4, fs4, hq4, hl4, hf4⟩ := ts_obj hS0.1 m0_ hk_4
    obtain ⟨x5, hx5, rx5⟩ := fs_i hf4 1 rfl
    refine rn_get q4 kg_SG_Packet_15 hl4 hx5 dX4_setPair_6 ?_
    refine rn_iconst (v := (1 : Int32)) dX4_setPair_9 (by decide) ?_
    refine rs_subC (-1) (2039) rx5 rk_1 dX4_setPair_10 (by decide) (fun v6 ev6 rv6 => ?_)
    refine rn_icmp_ge (tgt := 35) dX4_setPair_11 (by decide) (fun h7 => ?_) (fun h7 => ?_)
    · have ch7 := cv_le h7
      exact rn_vret dX4_setPair_35 rfl (rq_in ⟨hS0, rfl⟩)
    · have ch7 := cv_nle h7
      have r8 : Rg (0) (2038) x1_ := rf_ltx ch7 r3 rv6 (by decide)
      have r9 : Rg (1) (2039) v6 := rf_lty ch7 r3 rv6 (by decide)
      refine rn_aload_n (i := 0) dX4_setPair_14 rfl rfl ?_
      obtain ⟨o10, hx10, m10⟩ := fs_r hf4 0 rfl
      refine rn_get q4 kg_SG_Packet_11 hl4 hx10 dX4_setPair_15 ?_
      refine rn_iload_n (i := 1) dX4_setPair_18 rfl rfl ?_
      refine rn_iload_n (i := 2) dX4_setPair_19 rfl rfl ?_
      refine rn_bipush (v := (8 : Int32)) dX4_setPair_20 (by decide) ?_
      refine rn_iushr dX4_setPair_22 rfl (rn_nmA (fun v11 rv11 => ?_))
      refine rn_i2b dX4_setPair_23 rfl (rn_nmA (fun v12 rv12 => ?_))
      obtain ⟨q13, f13, hq13, hl13, hf13⟩ := ts_ia hS0.1 m10 hk_11
      refine rs_bast q13 hS0 hq13 hl13 hf13 hk_11 rfl rfl r8 (by decide) (by decide) (by decide) (by decide) dX4_setPair_24 (fun w14 f15 hS15 hl15 hf15 hu15 hn15 => ?_)
      refine rn_aload_n (i := 0) dX4_setPair_25 rfl rfl ?_
      refine rn_get q4 kg_SG_Packet_11 ((hn15 _ (ts_ne hq13 hq4 rfl)).trans hl4) hx10 dX4_setPair_26 ?_
      refine rn_iload_n (i := 1) dX4_setPair_29 rfl rfl ?_
      refine rn_iconst (v := (1 : Int32)) dX4_setPair_30 (by decide) ?_
      refine rs_addC (1) (2039) r8 rk_1 dX4_setPair_31 (by decide) (fun v16 ev16 rv16 => ?_)
      refine rn_iload_n (i := 2) dX4_setPair_32 rfl rfl ?_
      refine rn_i2b dX4_setPair_33 rfl (rn_nmA (fun v17 rv17 => ?_))
      refine rs_bast q13 hS15 hq13 hl15 hf15 hk_11 rfl rfl rv16 (by decide) (by decide) (by decide) (by decide) dX4_setPair_34 (fun w18 f19 hS19 hl19 hf19 hu19 hn19 => ?_)
      exact rn_vret dX4_setPair_35 rfl (rq_in ⟨hS19, rfl⟩)
abbrev q_t_X4_becomePart (G : rn_G) (S : ts_S) (ws : va_W) : rn_R → va_W → Prop := rQ (fun v w => St G S [4, 11] ws S w ∧ (v = none)) (fun E w => False)
set_option maxRecDepth 20000 in
set_option maxHeartbeats 4000000 in
theorem t_X4_becomePart (G : rn_G) (S : ts_S) (ws : va_W) (hW : ts_W G S ws) (o0_ : Nat) (m0_ : (o0_, 4) ∈ S) (o1_ : Nat) (m1_ : (o1_, 4) ∈ S) (x2_ : Int32) (x3_ : Int32) : Rn G mX4_becomePart 2 84 0 0 0 (lv_args 0 [.ref o0_, .ref o1_, .int x2_, .int x3_]) [] ws (q_t_X4_becomePart G S ws ) := by
  have hS0 : St G S [4, 11] ws S ws := St.rf hW
  refine rn_lv [(0, .ref o0_), (1, .ref o1_), (2, .int x2_), (3, .int x3_)] rfl ?_
  refine rn_aload_n (i := 0) dX4_becomePart_0 rfl rfl ?_
  refine rn_bipush (v := (20 : Int32)) dX4_becomePart_1 (by decide) ?_
  refine rn_iload_n (i := 3) dX4_becomePart_3 rfl rfl ?_
  refine rn_iadd dX4_becomePart_4 (rn_nmA (fun v1 rv1 => ?_))
  obtain ⟨q2, fs2, hq2, hl2, hf2⟩ := ts_obj hS0.1 m0_ hk_4
  refine rn_callV (a := 0) (b := 0) [.int v1] kl_SG_Packet_38 dX4_becomePart_5 q2 hl2 rfl (t_X4_resize G S ws hS0.1 o0_ m0_ v1) rfl rfl (Nat.le_of_ble_eq_true rfl) (Nat.le_of_ble_eq_true rfl) (Nat.le_of_ble_eq_true rfl) (Nat.le_of_ble_eq_true rfl) (Nat.le_of_ble_eq_true rfl) (Nat.le_of_ble_eq_true rfl) (fun _ _ h => False.elim h) (fun v9 w3 h4 => ?_)
  obtain ⟨hT5, rfl⟩ := h4
  have hS5 := St.tr hS0 hT5 rfl
  refine rn_stk [] rfl ?_
  refine rn_aload_n (i := 0) dX4_becomePart_8 rfl rfl ?_
  refine rn_aload_n (i := 1) dX4_becomePart_9 rfl rfl ?_
  refine rn_iconst (v := (0 : Int32)) dX4_becomePart_10 (by decide) ?_
  refine rn_iconst (v := (0 : Int32)) dX4_becomePart_11 (by decide) ?_
  refine rn_bipush (v := (20 : Int32)) dX4_becomePart_12 (by decide) ?_
  obtain ⟨q6, fs6, hq6, hl6, hf6⟩ := ts_obj hS5.1 m0_ hk_4
  refine rn_callV (a := 0) (b := 0) [.ref o1_, .int (0 : Int32), .int (0 : Int32), .int (20 : Int32)] kl_SG_Packet_42 dX4_becomePart_14 q6 hl6 rfl (t_X4_copyBytes G S w3 hS5.1 o0_ m0_ o1_ m1_ (0 : Int32) (0 : Int32) (20 : Int32)) rfl rfl (Nat.le_of_ble_eq_true rfl) (Nat.le_of_ble_eq_true rfl) (Nat.le_of_ble_eq_true rfl) (Nat.le_of_ble_eq_true rfl) (Nat.le_of_ble_eq_true rfl) (Nat.le_of_ble_eq_true rfl) (fun _ _ h => False.elim h) (fun v9 w7 h8 => ?_)
  obtain ⟨hT9, rfl⟩ := h8
  have hS9 := St.tr hS5 hT9 rfl
  refine rn_stk [] rfl ?_
  refine rn_aload_n (i := 0) dX4_becomePart_17 rfl rfl ?_
  refine rn_aload_n (i := 1) dX4_becomePart_18 rfl rfl ?_
  refine rn_bipush (v := (20 : Int32)) dX4_becomePart_19 (by decide) ?_
  refine rn_iload_n (i := 2) dX4_becomePart_21 rfl rfl ?_
  refine rn_iadd dX4_becomePart_22 (rn_nmA (fun v10 rv10 => ?_))
  refine rn_bipush (v := (20 : Int32)) dX4_becomePart_23 (by decide) ?_
  refine rn_iload_n (i := 3) dX4_becomePart_25 rfl rfl ?_
  refine rn_callV (a := 0) (b := 0) [.ref o1_, .int v10, .int (20 : Int32), .int x3_] kl_SG_Packet_42 dX4_becomePart_26 q6 (hT9.fr hq6 rfl hl6) rfl (t_X4_copyBytes G S w7 hS9.1 o0_ m0_ o1_ m1_ v10 (20 : Int32) x3_) rfl rfl (Nat.le_of_ble_eq_true rfl) (Nat.le_of_ble_eq_true rfl) (Nat.le_of_ble_eq_true rfl) (Nat.le_of_ble_eq_true rfl) (Nat.le_of_ble_eq_true rfl) (Nat.le_of_ble_eq_true rfl) (fun _ _ h => False.elim h) (fun v9 w11 h12 => ?_)
  obtain ⟨hT13, rfl⟩ := h12
  have hS13 := St.tr hS9 hT13 rfl
  refine rn_stk [] rfl ?_
  refine rn_aload_n (i := 0) dX4_becomePart_29 rfl rfl ?_
  refine rn_iconst (v := (2 : Int32)) dX4_becomePart_30 (by decide) ?_
  refine rn_aload_n (i := 0) dX4_becomePart_31 rfl rfl ?_
  obtain ⟨x14, hx14, rx14⟩ := fs_i hf6 1 rfl
  refine rn_get q6 kg_SG_Packet_15 (hT13.fr hq6 rfl (hT9.fr hq6 rfl hl6)) hx14 dX4_becomePart_32 ?_
  refine rn_callV (a := 0) (b := 0) [.int (2 : Int32), .int x14] kl_SG_Packet_31 dX4_becomePart_35 q6 (hT13.fr hq6 rfl (hT9.fr hq6 rfl hl6)) rfl (t_X4_setPair G S w11 hS13.1 o0_ m0_ (2 : Int32) x14) rfl rfl (Nat.le_of_ble_eq_true rfl) (Nat.le_of_ble_eq_true rfl) (Nat.le_of_ble_eq_true rfl) (Nat.le_of_ble_eq_true rfl) (Nat.le_of_ble_eq_true rfl) (Nat.le_of_ble_eq_true rfl) (fun _ _ h => False.elim h) (fun v9 w15 h16 => ?_)
  obtain ⟨hT17, rfl⟩ := h16
  have hS17 := St.tr hS13 hT17 rfl
  refine rn_stk [] rfl ?_
  exact rn_vret dX4_becomePart_38 rfl (rq_in ⟨hS17, rfl⟩)
abbrev q_t_X4_unsetMore (G : rn_G) (S : ts_S) (ws : va_W) : rn_R → va_W → Prop := rQ (fun v w => St G S [11] ws S w ∧ (v = none)) (fun E w => False)
set_option maxRecDepth 20000 in
set_option maxHeartbeats 4000000 in
theorem t_X4_unsetMore (G : rn_G) (S : ts_S) (ws : va_W) (hW : ts_W G S ws) (o0_ : Nat) (m0_ : (o0_, 4) ∈ S) : Rn G mX4_unsetMore 1 22 0 0 0 (lv_args 0 [.ref o0_]) [] ws (q_t_X4_unsetMore G S ws ) := by
  have hS0 : St G S [11] ws S ws := St.rf hW
  refine rn_lv [(0, .ref o0_)] rfl ?_
  refine rn_aload_n (i := 0) dX4_unsetMore_0 rfl rfl ?_
  refine rn_bipush (v := (6 : Int32)) dX4_unsetMore_1 (by decide) ?_
  refine rn_aload_n (i := 0) dX4_unsetMore_3 rfl rfl ?_
  refine rn_bipush (v := (6 : Int32)) dX4_unsetMore_4 (by decide) ?_
  obtain ⟨q1, fs1, hq1, hl1, hf1⟩ := ts_obj hS0.1 m0_ hk_4
  refine rn_callV (a := 0) (b := 0) [.int (6 : Int32)] kl_SG_Packet_52 dX4_unsetMore_6 q1 hl1 rfl (t_X4_pairAt G S ws hS0.1 o0_ m0_ (6 : Int32)) rfl rfl (Nat.le_of_ble_eq_true rfl) (Nat.le_of_ble_eq_true rfl) (Nat.le_of_ble_eq_true rfl) (Nat.le_of_ble_eq_true rfl) (Nat.le_of_ble_eq_true rfl) (Nat.le_of_ble_eq_true rfl) (fun _ _ h => False.elim h) (fun v9 w2 h3 => ?_)
  obtain ⟨rfl, v4, rfl, rv4⟩ := h3
  refine rn_stk [.int v4, .int (6 : Int32), .ref o0_] rfl ?_
  refine rn_sipush (v := (-8193 : Int32)) dX4_unsetMore_9 (by decide) ?_
  refine rn_iand dX4_unsetMore_12 (rn_nmA (fun v6 rv6 => ?_))
  refine rn_callV (a := 0) (b := 0) [.int (6 : Int32), .int v6] kl_SG_Packet_31 dX4_unsetMore_13 q1 hl1 rfl (t_X4_setPair G S ws hS0.1 o0_ m0_ (6 : Int32) v6) rfl rfl (Nat.le_of_ble_eq_true rfl) (Nat.le_of_ble_eq_true rfl) (Nat.le_of_ble_eq_true rfl) (Nat.le_of_ble_eq_true rfl) (Nat.le_of_ble_eq_true rfl) (Nat.le_of_ble_eq_true rfl) (fun _ _ h => False.elim h) (fun v9 w7 h8 => ?_)
  obtain ⟨hT9, rfl⟩ := h8
  have hS9 := St.tr hS0 hT9 rfl
  refine rn_stk [] rfl ?_
  exact rn_vret dX4_unsetMore_16 rfl (rq_in ⟨hS9, rfl⟩)
abbrev q_t_X0_writeWhole (G : rn_G) (S : ts_S) (ws : va_W) : rn_R → va_W → Prop := rQ (fun v w => St G S [4, 11] ws S w ∧ (v = none)) (fun E w => False)
set_option maxRecDepth 20000 in
set_option maxHeartbeats 4000000 in
theorem t_X0_writeWhole (G : rn_G) (S : ts_S) (ws : va_W) (hW : ts_W G S ws) (o0_ : Nat) (m0_ : (o0_, 0) ∈ S) (o1_ : Nat) (m1_ : (o1_, 4) ∈ S) : Rn G mX0_writeWhole 3 107 0 0 0 (lv_args 0 [.ref o0_, .ref o1_]) [] ws (q_t_X0_writeWhole G S ws ) := by
  have hS0 : St G S [4, 11] ws S ws := St.rf hW
  refine rn_lv [(0, .ref o0_), (1, .ref o1_)] rfl ?_
  refine rn_aload_n (i := 1) dX0_writeWhole_0 rfl rfl ?_
  refine rn_aload_n (i := 0) dX0_writeWhole_1 rfl rfl ?_
  obtain ⟨q1, fs1, hq1, hl1, hf1⟩ := ts_obj hS0.1 m0_ hk_0
  obtain ⟨o2, hx2, m2⟩ := fs_r hf1 0 rfl
  refine rn_get q1 kg_SG_Heap_12 hl1 hx2 dX0_writeWhole_2 ?_
  refine rn_iconst (v := (0 : Int32)) dX0_writeWhole_5 (by decide) ?_
  refine rn_aload_n (i := 0) dX0_writeWhole_6 rfl rfl ?_
  obtain ⟨x3, hx3, rx3⟩ := fs_i hf1 6 rfl
  refine rn_get q1 kg_SG_Heap_50 hl1 hx3 dX0_writeWhole_7 ?_
  obtain ⟨q4, fs4, hq4, hl4, hf4⟩ := ts_obj hS0.1 m1_ hk_4
  refine rn_callV (a := 0) (b := 0) [.ref o2, .int (0 : Int32), .int x3] kl_SG_Heap_82 dX0_writeWhole_10 q4 hl4 rfl (t_X4_becomePart G S ws hS0.1 o1_ m1_ o2 m2 (0 : Int32) x3) rfl rfl (Nat.le_of_ble_eq_true rfl) (Nat.le_of_ble_eq_true rfl) (Nat.le_of_ble_eq_true rfl) (Nat.le_of_ble_eq_true rfl) (Nat.le_of_ble_eq_true rfl) (Nat.le_of_ble_eq_true rfl) (fun _ _ h => False.elim h) (fun v9 w5 h6 => ?_)
  obtain ⟨hT7, rfl⟩ := h6
  have hS7 := St.tr hS0 hT7 rfl
  refine rn_stk [] rfl ?_
  refine rn_aload_n (i := 1) dX0_writeWhole_13 rfl rfl ?_
  obtain ⟨q8, fs8, hq8, hl8, hf8⟩ := ts_obj hS7.1 m1_ hk_4
  refine rn_callV (a := 0) (b := 0) [] kl_SG_Heap_86 dX0_writeWhole_14 q8 hl8 rfl (t_X4_unsetMore G S w5 hS7.1 o1_ m1_) rfl rfl (Nat.le_of_ble_eq_true rfl) (Nat.le_of_ble_eq_true rfl) (Nat.le_of_ble_eq_true rfl) (Nat.le_of_ble_eq_true rfl) (Nat.le_of_ble_eq_true rfl) (Nat.le_of_ble_eq_true rfl) (fun _ _ h => False.elim h) (fun v9 w9 h10 => ?_)
  obtain ⟨hT11, rfl⟩ := h10
  have hS11 := St.tr hS7 hT11 rfl
  refine rn_stk [] rfl ?_
  exact rn_vret dX0_writeWhole_17 rfl (rq_in ⟨hS11, rfl⟩)
abbrev q_t_X1_size (G : rn_G) (S : ts_S) (ws : va_W) : rn_R → va_W → Prop := rQ (fun v w => ws = w ∧ (∃ x : Int32, v = some (.int x) ∧ Rg (0) (4) x)) (fun E w => False)
set_option maxRecDepth 20000 in
set_option maxHeartbeats 4000000 in
theorem t_X1_size (G : rn_G) (S : ts_S) (ws : va_W) (hW : ts_W G S ws) (o0_ : Nat) (m0_ : (o0_, 1) ∈ S) : Rn G mX1_size 0 0 0 0 0 (lv_args 0 [.ref o0_]) [] ws (q_t_X1_size G S ws ) := by
  refine rn_lv [(0, .ref o0_)] rfl ?_
  refine rn_aload_n (i := 0) dX1_size_0 rfl rfl ?_
  obtain ⟨q1, fs1, hq1, hl1, hf1⟩ := ts_obj hW m0_ hk_1
  obtain ⟨x2, hx2, rx2⟩ := fs_i hf1 1 rfl
  refine rn_get q1 kg_SG_Heaps_17 hl1 hx2 dX1_size_1 ?_
  exact rn_iret dX1_size_4 rfl rfl (rq_in ⟨rfl, x2, rfl, rx2⟩)
abbrev q_t_X1_empty (G : rn_G) (S : ts_S) (ws : va_W) : rn_R → va_W → Prop := rQ (fun v w => St G S [1] ws S w ∧ (v = none)) (fun E w => False)
set_option maxRecDepth 20000 in
set_option maxHeartbeats 4000000 in
theorem t_X1_empty (G : rn_G) (S : ts_S) (ws : va_W) (hW : ts_W G S ws) (o0_ : Nat) (m0_ : (o0_, 1) ∈ S) : Rn G mX1_empty 0 0 0 0 0 (lv_args 0 [.ref o0_]) [] ws (q_t_X1_empty G S ws ) := by
  have hS0 : St G S [1] ws S ws := St.rf hW
  refine rn_lv [(0, .ref o0_)] rfl ?_
  refine rn_aload_n (i := 0) dX1_empty_0 rfl rfl ?_
  refine rn_iconst (v := (0 : Int32)) dX1_empty_1 (by decide) ?_
  obtain ⟨q1, fs1, hq1, hl1, hf1⟩ := ts_obj hS0.1 m0_ hk_1
  refine rs_put q1 (kp_SG_Heaps_17 _) hS0 hq1 hl1 hf1 hk_1 rfl rfl (tv_i (rg_w rk_0 (by decide) (by decide))) rfl rfl dX1_empty_2 (fun w2 fs3 hS3 hl3 hf3 hx3 ho3 hn3 => ?_)
  exact rn_vret dX1_empty_5 rfl (rq_in ⟨hS3, rfl⟩)
abbrev q_t_X1_drop (G : rn_G) (S : ts_S) (ws : va_W) : rn_R → va_W → Prop := rQ (fun v w => St G S [1, 13] ws S w ∧ (v = none)) (fun E w => False)
set_option maxRecDepth 20000 in
set_option maxHeartbeats 4000000 in
theorem t_X1_drop (G : rn_G) (S : ts_S) (ws : va_W) (hW : ts_W G S ws) (o0_ : Nat) (m0_ : (o0_, 1) ∈ S) (x1_ : Int32) : Rn G mX1_drop 1 21 0 0 0 (lv_args 0 [.ref o0_, .int x1_]) [] ws (q_t_X1_drop G S ws ) := by
  have hS0 : St G S [1, 13] ws S ws := St.rf hW
  refine rn_lv [(0, .ref o0_), (1, .int x1_)] rfl ?_
  refine rn_aload_n (i := 0) dX1_drop_0 rfl rfl ?_
  refine rn_iload_n (i := 1) dX1_drop_1 rfl rfl ?_
  obtain ⟨q1, fs1, hq1, hl1, hf1⟩ := ts_obj hS0.1 m0_ hk_1
  refine rn_inV (d' := 0) (z' := 0) [.int x1_] kl_SG_Heaps_39 dX1_drop_2 q1 hl1 rfl rfl rfl (Nat.le_of_ble_eq_true rfl) (Nat.le_of_ble_eq_true rfl) (Nat.le_of_ble_eq_true rfl) (Nat.le_of_ble_eq_true rfl) ?_
  refine rn_lv [(0, .ref o0_), (1, .int x1_)] rfl ?_
  refine rn_iload_n (i := 1) dX1_heapAt_0 rfl rfl ?_
  refine rn_if_lt (tgt := 26) dX1_heapAt_1 (by decide) (fun h2 => ?_) (fun h2 => ?_)
  · have ch2 := cv_lt h2
    have r3 : Rg (-2147483648) (-1) x1_ := rf_ltx ch2 (rg_any x1_) rk_0 (by decide)
    refine rn_null dX1_heapAt_26 ?_
    refine rn_aretN dX1_heapAt_27 rfl (rq_in ?_)
    refine rn_stk [.null] rfl ?_
    refine rn_astore_nN dX1_drop_5 rfl (by decide) [(0, .ref o0_), (1, .int x1_), (2, .null)] rfl ?_
    refine rn_aload_nN (i := 2) dX1_drop_6 rfl rfl ?_
    refine rn_ifnonnullN dX1_drop_7 ?_
    exact rn_vret dX1_drop_10 rfl (rq_in ⟨hS0, rfl⟩)
  · have ch2 := cv_nlt h2
    have r4 : Rg (0) (2147483647) x1_ := rf_ley ch2 rk_0 (rg_any x1_) (by decide)
    refine rn_iload_n (i := 1) dX1_heapAt_4 rfl rfl ?_
    refine rn_aload_n (i := 0) dX1_heapAt_5 rfl rfl ?_
    obtain ⟨x5, hx5, rx5⟩ := fs_i hf1 1 rfl
    refine rn_get q1 kg_SG_Heaps_17 hl1 hx5 dX1_heapAt_6 ?_
    refine rn_icmp_ge (tgt := 26) dX1_heapAt_9 (by decide) (fun h6 => ?_) (fun h6 => ?_)
    · have ch6 := cv_le h6
      refine rn_null dX1_heapAt_26 ?_
      refine rn_aretN dX1_heapAt_27 rfl (rq_in ?_)
      refine rn_stk [.null] rfl ?_
      refine rn_astore_nN dX1_drop_5 rfl (by decide) [(0, .ref o0_), (1, .int x1_), (2, .null)] rfl ?_
      refine rn_aload_nN (i := 2) dX1_drop_6 rfl rfl ?_
      refine rn_ifnonnullN dX1_drop_7 ?_
      exact rn_vret dX1_drop_10 rfl (rq_in ⟨hS0, rfl⟩)
    · have ch6 := cv_nle h6
      have r7 : Rg (0) (3) x1_ := rf_ltx ch6 r4 rx5 (by decide)
      have r8 : Rg (1) (4) x5 := rf_lty ch6 r4 rx5 (by decide)
      refine rn_iload_n (i := 1) dX1_heapAt_12 rfl rfl ?_
      refine rn_iconst (v := (4 : Int32)) dX1_heapAt_13 (by decide) ?_
      refine rn_icmp_ge (tgt := 26) dX1_heapAt_14 (by decide) (fun h9 => (cx_le (cv_le h9) rk_4 r7 (by decide)).elim) (fun h9 => ?_)
      have ch9 := cv_nle h9
      refine rn_aload_n (i := 0) dX1_heapAt_17 rfl rfl ?_
      obtain ⟨o10, hx10, m10⟩ := fs_r hf1 0 rfl
      refine rn_get q1 kg_SG_Heaps_13 hl1 hx10 dX1_heapAt_18 ?_
      refine rn_iload_n (i := 1) dX1_heapAt_21 rfl rfl ?_
      obtain ⟨q11, f11, hq11, hl11, hf11⟩ := ts_ra hS0.1 m10 hk_13
      refine rs_aald q11 hl11 hf11 rfl r7 (by decide) (by decide) dX1_heapAt_22 ?_ (fun o12 mo12 => ?_)
      · refine rn_goto (tgt := 27) dX1_heapAt_23 (by decide) ?_
        refine rn_aretN dX1_heapAt_27 rfl (rq_in ?_)
        refine rn_stk [.null] rfl ?_
        refine rn_astore_nN dX1_drop_5 rfl (by decide) [(0, .ref o0_), (1, .int x1_), (2, .null)] rfl ?_
        refine rn_aload_nN (i := 2) dX1_drop_6 rfl rfl ?_
        refine rn_ifnonnullN dX1_drop_7 ?_
        exact rn_vret dX1_drop_10 rfl (rq_in ⟨hS0, rfl⟩)
      · refine rn_goto (tgt := 27) dX1_heapAt_23 (by decide) ?_
        refine rn_aret dX1_heapAt_27 rfl (rq_in ?_)
        refine rn_stk [.ref o12] rfl ?_
        refine rn_astore_n dX1_drop_5 rfl (by decide) [(0, .ref o0_), (1, .int x1_), (2, .ref o12)] rfl ?_
        refine rn_aload_n (i := 2) dX1_drop_6 rfl rfl ?_
        refine rn_ifnonnull (tgt := 11) dX1_drop_7 (by decide) ?_
        refine rn_iload_n (i := 1) dX1_drop_11 rfl rfl ?_
        refine rn_istore_n dX1_drop_12 rfl (by decide) [(0, .ref o0_), (1, .int x1_), (2, .ref o12), (3, .int x1_)] rfl ?_
        have LP14 : ∀ (n : Nat) (w15 : va_W) (x13 : Int32), St G S [13] ws S w15 → Rg (0) (3) x13 → (3 - x13.toInt).toNat = n → Rn G mX1_drop 1 21 0 0 13 [(0, .ref o0_), (1, .int x1_), (2, .ref o12), (3, .int x13)] [] w15 (q_t_X1_drop G S ws ) := by
          intro n
          induction n using Nat.strongRecOn with
          | _ n ih =>
            intro w15 x13 hT16 r17 hm18
            refine rn_iload_n (i := 3) dX1_drop_13 rfl rfl ?_
            refine rn_aload_n (i := 0) dX1_drop_14 rfl rfl ?_
            refine rn_get q1 kg_SG_Heaps_17 (hT16.fr hq1 rfl hl1) hx5 dX1_drop_15 ?_
            refine rn_iconst (v := (1 : Int32)) dX1_drop_18 (by decide) ?_
            refine rs_subC (0) (3) r8 rk_1 dX1_drop_19 (by decide) (fun v19 ev19 rv19 => ?_)
            refine rn_icmp_ge (tgt := 48) dX1_drop_20 (by decide) (fun h20 => ?_) (fun h20 => ?_)
            · have ch20 := cv_le h20
              have hS21 := St.tr hS0 hT16 rfl
              refine rn_aload_n (i := 0) dX1_drop_48 rfl rfl ?_
              refine rn_dup dX1_drop_49 rfl ?_
              refine rn_get q1 kg_SG_Heaps_17 (hT16.fr hq1 rfl hl1) hx5 dX1_drop_50 ?_
              refine rn_iconst (v := (1 : Int32)) dX1_drop_53 (by decide) ?_
              refine rs_subC (0) (3) r8 rk_1 dX1_drop_54 (by decide) (fun v22 ev22 rv22 => ?_)
              refine rs_put q1 (kp_SG_Heaps_17 _) hS21 hq1 (hT16.fr hq1 rfl hl1) hf1 hk_1 rfl rfl (tv_i (rg_w rv22 (by decide) (by decide))) rfl rfl dX1_drop_55 (fun w23 fs24 hS24 hl24 hf24 hx24 ho24 hn24 => ?_)
              refine rn_aload_n (i := 0) dX1_drop_58 rfl rfl ?_
              refine rn_get q1 kg_SG_Heaps_17 hl24 hx24 dX1_drop_59 ?_
              refine rn_if_lt (tgt := 83) dX1_drop_62 (by decide) (fun h25 => (cx_lt (cv_lt h25) rv22 rk_0 (by decide)).elim) (fun h25 => ?_)
              have ch25 := cv_nlt h25
              refine rn_aload_n (i := 0) dX1_drop_65 rfl rfl ?_
              refine rn_get q1 kg_SG_Heaps_17 hl24 hx24 dX1_drop_66 ?_
              refine rn_iconst (v := (4 : Int32)) dX1_drop_69 (by decide) ?_
              refine rn_icmp_ge (tgt := 83) dX1_drop_70 (by decide) (fun h26 => (cx_le (cv_le h26) rk_4 rv22 (by decide)).elim) (fun h26 => ?_)
              have ch26 := cv_nle h26
              refine rn_aload_n (i := 0) dX1_drop_73 rfl rfl ?_
              refine rn_get q1 kg_SG_Heaps_13 hl24 ((ho24 0 (by decide)).trans hx10) dX1_drop_74 ?_
              refine rn_aload_n (i := 0) dX1_drop_77 rfl rfl ?_
              refine rn_get q1 kg_SG_Heaps_17 hl24 hx24 dX1_drop_78 ?_
              refine rn_aload_n (i := 2) dX1_drop_81 rfl rfl ?_
              obtain ⟨q27, f27, hq27, hl27, hf27⟩ := ts_ra hS24.1 m10 hk_13
              obtain ⟨q30, fs30, hq30, hl30, hf30⟩ := ts_obj hS24.1 mo12 hk_0
              refine rs_aast q27 hS24 hq27 hl27 hf27 hk_13 rfl rfl mo12 hl30 rfl rv22 (by decide) (by decide) dX1_drop_82 (fun w28 f29 hS29 hl29 hf29 hu29 hn29 => ?_)
              exact rn_vret dX1_drop_83 rfl (rq_in ⟨hS29, rfl⟩)
            · have ch20 := cv_nle h20
              have r31 : Rg (0) (2) x13 := rf_ltx ch20 r17 rv19 (by decide)
              have r32 : Rg (1) (3) v19 := rf_lty ch20 r17 rv19 (by decide)
              refine rn_iload_n (i := 3) dX1_drop_23 rfl rfl ?_
              refine rn_iconst (v := (3 : Int32)) dX1_drop_24 (by decide) ?_
              refine rn_icmp_ge (tgt := 48) dX1_drop_25 (by decide) (fun h33 => (cx_le (cv_le h33) rk_3 r31 (by decide)).elim) (fun h33 => ?_)
              have ch33 := cv_nle h33
              refine rn_aload_n (i := 0) dX1_drop_28 rfl rfl ?_
              refine rn_get q1 kg_SG_Heaps_13 (hT16.fr hq1 rfl hl1) hx10 dX1_drop_29 ?_
              refine rn_iload_n (i := 3) dX1_drop_32 rfl rfl ?_
              refine rn_aload_n (i := 0) dX1_drop_33 rfl rfl ?_
              refine rn_get q1 kg_SG_Heaps_13 (hT16.fr hq1 rfl hl1) hx10 dX1_drop_34 ?_
              refine rn_iload_n (i := 3) dX1_drop_37 rfl rfl ?_
              refine rn_iconst (v := (1 : Int32)) dX1_drop_38 (by decide) ?_
              refine rs_addC (1) (3) r31 rk_1 dX1_drop_39 (by decide) (fun v34 ev34 rv34 => ?_)
              obtain ⟨q35, f35, hq35, hl35, hf35⟩ := ts_ra hT16.1 m10 hk_13
              refine rs_aald q35 hl35 hf35 rfl rv34 (by decide) (by decide) dX1_drop_40 ?_ (fun o36 mo36 => ?_)
              · refine rs_aastN q35 hT16 hq35 hl35 hf35 hk_13 rfl rfl r31 (by decide) (by decide) dX1_drop_41 (fun w37 f38 hS38 hl38 hf38 hu38 hn38 => ?_)
                refine rs_iinc (1) (3) dX1_drop_42 rfl (by decide) r31 rk_1 (by decide) (fun v39 => [(0, .ref o0_), (1, .int x1_), (2, .ref o12), (3, .int v39)]) (fun _ => rfl) (fun v39 ev39 rv39 => ?_)
                refine rn_goto (tgt := 13) dX1_drop_45 (by decide) ?_
                refine rn_lv [(0, .ref o0_), (1, .int x1_), (2, .ref o12), (3, .int v39)] rfl ?_
                exact ih _ (lp_inc hm18 ev39 rv39 (by decide)) w37 v39 hS38 (rg_w rv39 (by decide) (by decide)) rfl
              · obtain ⟨q42, fs42, hq42, hl42, hf42⟩ := ts_obj hT16.1 mo36 hk_0
                refine rs_aast q35 hT16 hq35 hl35 hf35 hk_13 rfl rfl mo36 hl42 rfl r31 (by decide) (by decide) dX1_drop_41 (fun w40 f41 hS41 hl41 hf41 hu41 hn41 => ?_)
                refine rs_iinc (1) (3) dX1_drop_42 rfl (by decide) r31 rk_1 (by decide) (fun v43 => [(0, .ref o0_), (1, .int x1_), (2, .ref o12), (3, .int v43)]) (fun _ => rfl) (fun v43 ev43 rv43 => ?_)
                refine rn_goto (tgt := 13) dX1_drop_45 (by decide) ?_
                refine rn_lv [(0, .ref o0_), (1, .int x1_), (2, .ref o12), (3, .int v43)] rfl ?_
                exact ih _ (lp_inc hm18 ev43 rv43 (by decide)) w40 v43 hS41 (rg_w rv43 (by decide) (by decide)) rfl
        exact LP14 _ ws x1_ (St.rf hS0.1) r7 rfl
abbrev q_t_X1_hearTick (G : rn_G) (S : ts_S) (ws : va_W) : rn_R → va_W → Prop := rQ (fun v w => St G S [0, 1, 13] ws S w ∧ (∃ x : Int32, v = some (.int x) ∧ Rg (-2147483648) (2147483647) x)) (fun E w => False)
set_option maxRecDepth 20000 in
set_option maxHeartbeats 4000000 in
theorem t_X1_hearTick (G : rn_G) (S : ts_S) (ws : va_W) (hW : ts_W G S ws) (o0_ : Nat) (m0_ : (o0_, 1) ∈ S) : Rn G mX1_hearTick 2 44 0 0 0 (lv_args 0 [.ref o0_]) [] ws (q_t_X1_hearTick G S ws ) := by
  have hS0 : St G S [0, 1, 13] ws S ws := St.rf hW
  refine rn_lv [(0, .ref o0_)] rfl ?_
  refine rn_iconst (v := (0 : Int32)) dX1_hearTick_0 (by decide) ?_
  refine rn_istore_n dX1_hearTick_1 rfl (by decide) [(0, .ref o0_), (1, .int (0 : Int32))] rfl ?_
  refine rn_aload_n (i := 0) dX1_hearTick_2 rfl rfl ?_
  obtain ⟨q1, fs1, hq1, hl1, hf1⟩ := ts_obj hS0.1 m0_ hk_1
  obtain ⟨x2, hx2, rx2⟩ := fs_i hf1 1 rfl
  refine rn_get q1 kg_SG_Heaps_17 hl1 hx2 dX1_hearTick_3 ?_
  refine rn_iconst (v := (4 : Int32)) dX1_hearTick_6 (by decide) ?_
  refine rn_mmin kl_SG_Heaps_21 dX1_hearTick_7 (Nat.le_of_ble_eq_true rfl) (Nat.le_of_ble_eq_true rfl) (Nat.le_of_ble_eq_true rfl) (rn_tn (0) (4) (rg_min rx2 rk_4 (by decide)) (fun v3 rv3 => ?_))
  refine rn_iconst (v := (1 : Int32)) dX1_hearTick_10 (by decide) ?_
  refine rs_subC (-1) (3) rv3 rk_1 dX1_hearTick_11 (by decide) (fun v4 ev4 rv4 => ?_)
  refine rn_istore_n dX1_hearTick_12 rfl (by decide) [(0, .ref o0_), (1, .int (0 : Int32)), (2, .int v4)] rfl ?_
  have LP7 : ∀ (n : Nat) (w8 : va_W) (x5 : Int32) (x6 : Int32), St G S [0, 1, 13] ws S w8 → Rg (-2147483648) (2147483647) x5 → Rg (-1) (3) x6 → (x6.toInt - (-1)).toNat = n → Rn G mX1_hearTick 2 44 0 0 13 [(0, .ref o0_), (1, .int x5), (2, .int x6)] [] w8 (q_t_X1_hearTick G S ws ) := by
    intro n
    induction n using Nat.strongRecOn with
    | _ n ih =>
      intro w8 x5 x6 hT9 r10 r11 hm12
      refine rn_iload_n (i := 2) dX1_hearTick_13 rfl rfl ?_
      refine rn_if_lt (tgt := 49) dX1_hearTick_14 (by decide) (fun h13 => ?_) (fun h13 => ?_)
      · have ch13 := cv_lt h13
        have r14 : Rg (-1) (-1) x6 := rf_ltx ch13 r11 rk_0 (by decide)
        have hS15 := St.tr hS0 hT9 rfl
        refine rn_iload_n (i := 1) dX1_hearTick_49 rfl rfl ?_
        exact rn_iret dX1_hearTick_50 rfl rfl (rq_in ⟨hS15, x5, rfl, r10⟩)
      · have ch13 := cv_nlt h13
        have r16 : Rg (0) (3) x6 := rf_ley ch13 rk_0 r11 (by decide)
        refine rn_aload_n (i := 0) dX1_hearTick_17 rfl rfl ?_
        obtain ⟨q17, fs17, hq17, hl17, hf17⟩ := ts_obj hT9.1 m0_ hk_1
        obtain ⟨o18, hx18, m18⟩ := fs_r hf17 0 rfl
        refine rn_get q17 kg_SG_Heaps_13 hl17 hx18 dX1_hearTick_18 ?_
        refine rn_iload_n (i := 2) dX1_hearTick_21 rfl rfl ?_
        obtain ⟨q19, f19, hq19, hl19, hf19⟩ := ts_ra hT9.1 m18 hk_13
        refine rs_aald q19 hl19 hf19 rfl r16 (by decide) (by decide) dX1_hearTick_22 ?_ (fun o20 mo20 => ?_)
        · refine rn_astore_nN dX1_hearTick_23 rfl (by decide) [(0, .ref o0_), (1, .int x5), (2, .int x6), (3, .null)] rfl ?_
          refine rn_aload_nN (i := 3) dX1_hearTick_24 rfl rfl ?_
          refine rn_ifnullN (tgt := 43) dX1_hearTick_25 (by decide) ?_
          refine rs_iinc (-1) (2) dX1_hearTick_43 rfl (by decide) r16 rk_m1 (by decide) (fun v21 => [(0, .ref o0_), (1, .int x5), (2, .int v21), (3, .null)]) (fun _ => rfl) (fun v21 ev21 rv21 => ?_)
          refine rn_goto (tgt := 13) dX1_hearTick_46 (by decide) ?_
          refine rn_lv [(0, .ref o0_), (1, .int x5), (2, .int v21)] rfl ?_
          exact ih _ (lp_dec hm12 ev21 rv21 (by decide)) w8 x5 v21 hT9 r10 (rg_w rv21 (by decide) (by decide)) rfl
        · refine rn_astore_n dX1_hearTick_23 rfl (by decide) [(0, .ref o0_), (1, .int x5), (2, .int x6), (3, .ref o20)] rfl ?_
          refine rn_aload_n (i := 3) dX1_hearTick_24 rfl rfl ?_
          refine rn_ifnull dX1_hearTick_25 ?_
          refine rn_aload_n (i := 3) dX1_hearTick_28 rfl rfl ?_
          obtain ⟨q22, fs22, hq22, hl22, hf22⟩ := ts_obj hT9.1 mo20 hk_0
          refine rn_callV (a := 0) (b := 0) [] kl_SG_Heaps_27 dX1_hearTick_29 q22 hl22 rfl (t_X0_isOver G S w8 hT9.1 o20 mo20) rfl rfl (Nat.le_of_ble_eq_true rfl) (Nat.le_of_ble_eq_true rfl) (Nat.le_of_ble_eq_true rfl) (Nat.le_of_ble_eq_true rfl) (Nat.le_of_ble_eq_true rfl) (Nat.le_of_ble_eq_true rfl) (fun _ _ h => False.elim h) (fun v9 w23 h24 => ?_)
          obtain ⟨hT26, v25, rfl, rv25⟩ := h24
          have hS26 := St.tr hT9 hT26 rfl
          refine rn_stk [.int v25] rfl ?_
          refine rn_if_eq (tgt := 43) dX1_hearTick_32 (by decide) (fun h27 => ?_) (fun h27 => ?_)
          · have ch27 := cv_eq h27
            have r28 : Rg (0) (0) v25 := rf_eqx ch27 rv25 rk_0 (by decide) (by decide)
            refine rs_iinc (-1) (2) dX1_hearTick_43 rfl (by decide) r16 rk_m1 (by decide) (fun v29 => [(0, .ref o0_), (1, .int x5), (2, .int v29), (3, .ref o20)]) (fun _ => rfl) (fun v29 ev29 rv29 => ?_)
            refine rn_goto (tgt := 13) dX1_hearTick_46 (by decide) ?_
            refine rn_lv [(0, .ref o0_), (1, .int x5), (2, .int v29)] rfl ?_
            exact ih _ (lp_dec hm12 ev29 rv29 (by decide)) w23 x5 v29 hS26 r10 (rg_w rv29 (by decide) (by decide)) rfl
          · have ch27 := cv_ne h27
            have r30 : Rg (1) (1) v25 := rf_nel ch27 rv25 rk_0 (by decide) (by decide)
            refine rn_aload_n (i := 0) dX1_hearTick_35 rfl rfl ?_
            refine rn_iload_n (i := 2) dX1_hearTick_36 rfl rfl ?_
            refine rn_callV (a := 0) (b := 0) [.int x6] kl_SG_Heaps_31 dX1_hearTick_37 q17 (hT26.fr hq17 rfl hl17) rfl (t_X1_drop G S w23 hS26.1 o0_ m0_ x6) rfl rfl (Nat.le_of_ble_eq_true rfl) (Nat.le_of_ble_eq_true rfl) (Nat.le_of_ble_eq_true rfl) (Nat.le_of_ble_eq_true rfl) (Nat.le_of_ble_eq_true rfl) (Nat.le_of_ble_eq_true rfl) (fun _ _ h => False.elim h) (fun v9 w31 h32 => ?_)
            obtain ⟨hT33, rfl⟩ := h32
            have hS33 := St.tr hS26 hT33 rfl
            refine rn_stk [] rfl ?_
            refine rn_iinc (v := x5 + Int32.ofInt (1)) dX1_hearTick_40 rfl rfl (by decide) [(0, .ref o0_), (1, .int (x5 + Int32.ofInt (1))), (2, .int x6), (3, .ref o20)] rfl ?_
            refine rs_iinc (-1) (2) dX1_hearTick_43 rfl (by decide) r16 rk_m1 (by decide) (fun v34 => [(0, .ref o0_), (1, .int (x5 + Int32.ofInt (1))), (2, .int v34), (3, .ref o20)]) (fun _ => rfl) (fun v34 ev34 rv34 => ?_)
            refine rn_goto (tgt := 13) dX1_hearTick_46 (by decide) ?_
            refine rn_lv [(0, .ref o0_), (1, .int (x5 + Int32.ofInt (1))), (2, .int v34)] rfl ?_
            exact ih _ (lp_dec hm12 ev34 rv34 (by decide)) w31 (x5 + Int32.ofInt (1)) v34 hS33 (rg_any (x5 + Int32.ofInt (1))) (rg_w rv34 (by decide) (by decide)) rfl
  exact LP7 _ ws (0 : Int32) v4 (St.rf hS0.1) (rg_w rk_0 (by decide) (by decide)) rv4 rfl
abbrev q_t_X1_placeOf (G : rn_G) (S : ts_S) (ws : va_W) : rn_R → va_W → Prop := rQ (fun v w => ws = w ∧ (∃ x : Int32, v = some (.int x) ∧ Rg (-1) (3) x)) (fun E w => False)
set_option maxRecDepth 20000 in
set_option maxHeartbeats 4000000 in
theorem t_X1_placeOf (G : rn_G) (S : ts_S) (ws : va_W) (hW : ts_W G S ws) (o0_ : Nat) (m0_ : (o0_, 1) ∈ S) (o1_ : Nat) (m1_ : (o1_, 4) ∈ S) : Rn G mX1_placeOf 3 63 0 0 0 (lv_args 0 [.ref o0_, .ref o1_]) [] ws (q_t_X1_placeOf G S ws ) := by
  refine rn_lv [(0, .ref o0_), (1, .ref o1_)] rfl ?_
  refine rn_iconst (v := (0 : Int32)) dX1_placeOf_0 (by decide) ?_
  refine rn_istore_n dX1_placeOf_1 rfl (by decide) [(0, .ref o0_), (1, .ref o1_), (2, .int (0 : Int32))] rfl ?_
  have LP2 : ∀ (n : Nat) (x1 : Int32), Rg (0) (4) x1 → (4 - x1.toInt).toNat = n → Rn G mX1_placeOf 3 63 0 0 2 [(0, .ref o0_), (1, .ref o1_), (2, .int x1)] [] ws (q_t_X1_placeOf G S ws ) := by
    intro n
    induction n using Nat.strongRecOn with
    | _ n ih =>
      intro x1 r4 hm5
      refine rn_iload_n (i := 2) dX1_placeOf_2 rfl rfl ?_
      refine rn_aload_n (i := 0) dX1_placeOf_3 rfl rfl ?_
      obtain ⟨q6, fs6, hq6, hl6, hf6⟩ := ts_obj hW m0_ hk_1
      obtain ⟨x7, hx7, rx7⟩ := fs_i hf6 1 rfl
      refine rn_get q6 kg_SG_Heaps_17 hl6 hx7 dX1_placeOf_4 ?_
      refine rn_icmp_ge (tgt := 42) dX1_placeOf_7 (by decide) (fun h8 => ?_) (fun h8 => ?_)
      · have ch8 := cv_le h8
        refine rn_iconst (v := (-1 : Int32)) dX1_placeOf_42 (by decide) ?_
        exact rn_iret dX1_placeOf_43 rfl rfl (rq_in ⟨rfl, (-1 : Int32), rfl, (rg_w rk_m1 (by decide) (by decide))⟩)
      · have ch8 := cv_nle h8
        have r9 : Rg (0) (3) x1 := rf_ltx ch8 r4 rx7 (by decide)
        have r10 : Rg (1) (4) x7 := rf_lty ch8 r4 rx7 (by decide)
        refine rn_iload_n (i := 2) dX1_placeOf_10 rfl rfl ?_
        refine rn_iconst (v := (4 : Int32)) dX1_placeOf_11 (by decide) ?_
        refine rn_icmp_ge (tgt := 42) dX1_placeOf_12 (by decide) (fun h11 => (cx_le (cv_le h11) rk_4 r9 (by decide)).elim) (fun h11 => ?_)
        have ch11 := cv_nle h11
        refine rn_aload_n (i := 0) dX1_placeOf_15 rfl rfl ?_
        obtain ⟨o12, hx12, m12⟩ := fs_r hf6 0 rfl
        refine rn_get q6 kg_SG_Heaps_13 hl6 hx12 dX1_placeOf_16 ?_
        refine rn_iload_n (i := 2) dX1_placeOf_19 rfl rfl ?_
        obtain ⟨q13, f13, hq13, hl13, hf13⟩ := ts_ra hW m12 hk_13
        refine rs_aald q13 hl13 hf13 rfl r9 (by decide) (by decide) dX1_placeOf_20 ?_ (fun o14 mo14 => ?_)
        · refine rn_astore_nN dX1_placeOf_21 rfl (by decide) [(0, .ref o0_), (1, .ref o1_), (2, .int x1), (3, .null)] rfl ?_
          refine rn_aload_nN (i := 3) dX1_placeOf_22 rfl rfl ?_
          refine rn_ifnullN (tgt := 36) dX1_placeOf_23 (by decide) ?_
          refine rs_iinc (1) (4) dX1_placeOf_36 rfl (by decide) r9 rk_1 (by decide) (fun v15 => [(0, .ref o0_), (1, .ref o1_), (2, .int v15), (3, .null)]) (fun _ => rfl) (fun v15 ev15 rv15 => ?_)
          refine rn_goto (tgt := 2) dX1_placeOf_39 (by decide) ?_
          refine rn_lv [(0, .ref o0_), (1, .ref o1_), (2, .int v15)] rfl ?_
          exact ih _ (lp_inc hm5 ev15 rv15 (by decide)) v15 (rg_w rv15 (by decide) (by decide)) rfl
        · refine rn_astore_n dX1_placeOf_21 rfl (by decide) [(0, .ref o0_), (1, .ref o1_), (2, .int x1), (3, .ref o14)] rfl ?_
          refine rn_aload_n (i := 3) dX1_placeOf_22 rfl rfl ?_
          refine rn_ifnull dX1_placeOf_23 ?_
          refine rn_aload_n (i := 3) dX1_placeOf_26 rfl rfl ?_
          refine rn_aload_n (i := 1) dX1_placeOf_27 rfl rfl ?_
          obtain ⟨q16, fs16, hq16, hl16, hf16⟩ := ts_obj hW mo14 hk_0
          refine rn_callV (a := 0) (b := 0) [.ref o1_] kl_SG_Heaps_64 dX1_placeOf_28 q16 hl16 rfl (t_X0_isOf G S ws hW o14 mo14 o1_ m1_) rfl rfl (Nat.le_of_ble_eq_true rfl) (Nat.le_of_ble_eq_true rfl) (Nat.le_of_ble_eq_true rfl) (Nat.le_of_ble_eq_true rfl) (Nat.le_of_ble_eq_true rfl) (Nat.le_of_ble_eq_true rfl) (fun _ _ h => False.elim h) (fun v9 w17 h18 => ?_)
          obtain ⟨rfl, v19, rfl, rv19⟩ := h18
          refine rn_stk [.int v19] rfl ?_
          refine rn_if_eq (tgt := 36) dX1_placeOf_31 (by decide) (fun h21 => ?_) (fun h21 => ?_)
          · have ch21 := cv_eq h21
            have r22 : Rg (0) (0) v19 := rf_eqx ch21 rv19 rk_0 (by decide) (by decide)
            refine rs_iinc (1) (4) dX1_placeOf_36 rfl (by decide) r9 rk_1 (by decide) (fun v23 => [(0, .ref o0_), (1, .ref o1_), (2, .int v23), (3, .ref o14)]) (fun _ => rfl) (fun v23 ev23 rv23 => ?_)
            refine rn_goto (tgt := 2) dX1_placeOf_39 (by decide) ?_
            refine rn_lv [(0, .ref o0_), (1, .ref o1_), (2, .int v23)] rfl ?_
            exact ih _ (lp_inc hm5 ev23 rv23 (by decide)) v23 (rg_w rv23 (by decide) (by decide)) rfl
          · have ch21 := cv_ne h21
            have r24 : Rg (1) (1) v19 := rf_nel ch21 rv19 rk_0 (by decide) (by decide)
            refine rn_iload_n (i := 2) dX1_placeOf_34 rfl rfl ?_
            exact rn_iret dX1_placeOf_35 rfl rfl (rq_in ⟨rfl, x1, rfl, (rg_w r9 (by decide) (by decide))⟩)
  exact LP2 _ (0 : Int32) (rg_w rk_0 (by decide) (by decide)) rfl
set_option maxRecDepth 20000 in
theorem n_X4_init (G : rn_G) (pre : va_W) (q : Nat) : Rn G mX4_init 1 20 1 2040 0 (lv_args 0 [.ref q]) [] (pre ++ [(q, .inr (4, fs0_4))]) (rQ (fun v w => v = none ∧ ∃ p0 : Nat, w = pre ++ [(q, .inr (4, [.ref p0, .int 0])), (p0, .inl (rn_k G 0, 2040, .inl (fun _ => 0)))]) (fun _ _ => False)) := by
  refine rn_lv [(0, .ref q)] rfl ?_
  refine rn_aload_n (i := 0) dX4_init_0 rfl rfl ?_
  refine rn_objInit wd_34 wd_27 wd_28 dX4_init_1 (Nat.le_of_ble_eq_true rfl) (Nat.le_of_ble_eq_true rfl) (Nat.le_of_ble_eq_true rfl) ?_
  refine rn_aload_n (i := 0) dX4_init_4 rfl rfl ?_
  refine rn_sipush (v := (2040 : Int32)) dX4_init_5 (by decide) ?_
  refine rn_newa (a := 0) (b := 0) (t0 := 0) (N' := 2040) (av := (2040, .inl (fun _ => 0))) (ty := .byte) (Nat.le_of_ble_eq_true rfl) (Nat.le_of_ble_eq_true rfl) rfl rfl (by intro C9 h; cases h) wd_42 (fun _ => rfl) (by decide) (by decide) (by decide) dX4_init_8 (fun p0 => ?_)
  refine rn_world (pre ++ [(q, .inr (4, fs0_4)), (p0, .inl (rn_k G 0, 2040, .inl (fun _ => 0)))]) (List.append_assoc _ _ _) ?_
  refine rn_put pre.length kp_SG_Packet_11 (la_mid rfl) (Nat.le_of_ble_eq_true (n := 1) rfl) rfl rfl dX4_init_10 ?_
  refine rn_world (pre ++ [(q, .inr (4, [.ref p0, .int 0])), (p0, .inl (rn_k G 0, 2040, .inl (fun _ => 0)))]) (set_mid rfl) ?_
  exact rn_vret dX4_init_13 rfl (rq_in ⟨rfl, p0, rfl⟩)
set_option maxRecDepth 20000 in
theorem n_X0_init (G : rn_G) (pre : va_W) (q : Nat) : Rn G mX0_init 2 40 4 4022 0 (lv_args 0 [.ref q]) [] (pre ++ [(q, .inr (0, fs0_0))]) (rQ (fun v w => v = none ∧ ∃ p p0 p1 : Nat, w = pre ++ [(q, .inr (0, [.ref p, .ref p1, .int 0, .int 0, .int 0, .int 0, .int 0, .int 0])), (p, .inr (4, [.ref p0, .int 0])), (p0, .inl (rn_k G 0, 2040, .inl (fun _ => 0))), (p1, .inl (rn_k G 0, 1980, .inl (fun _ => 0)))]) (fun _ _ => False)) := by
  refine rn_lv [(0, .ref q)] rfl ?_
  refine rn_aload_n (i := 0) dX0_init_0 rfl rfl ?_
  refine rn_objInit wd_874 wd_27 wd_28 dX0_init_1 (Nat.le_of_ble_eq_true rfl) (Nat.le_of_ble_eq_true rfl) (Nat.le_of_ble_eq_true rfl) ?_
  refine rn_aload_n (i := 0) dX0_init_4 rfl rfl ?_
  refine rn_new (a := 2) (b := 4020) kn_SG_Heap_9 (Nat.le_of_ble_eq_true rfl) (Nat.le_of_ble_eq_true rfl) dX0_init_5 (fun p => ?_)
  refine rn_dup dX0_init_8 rfl ?_
  refine rn_callIN (a := 1) (b := 1980) [] kl_SG_Heap_11 dX0_init_9 (n_X4_init G (pre ++ [(q, .inr (0, fs0_0))]) p) rq_no rfl rfl (Nat.le_of_ble_eq_true rfl) (Nat.le_of_ble_eq_true rfl) (Nat.le_of_ble_eq_true rfl) (Nat.le_of_ble_eq_true rfl) (Nat.le_of_ble_eq_true rfl) (Nat.le_of_ble_eq_true rfl) (fun v9 w h => ?_)
  obtain ⟨rfl, p0, hw⟩ := h
  refine rn_stk [.ref p, .ref q] rfl ?_
  refine rn_world (pre ++ [(q, .inr (0, fs0_0)), (p, .inr (4, [.ref p0, .int 0])), (p0, .inl (rn_k G 0, 2040, .inl (fun _ => 0)))]) (hw.trans (List.append_assoc _ _ _)) ?_
  refine rn_put pre.length kp_SG_Heap_12 (la_mid rfl) (Nat.le_of_ble_eq_true (n := 1) rfl) rfl rfl dX0_init_12 ?_
  refine rn_world (pre ++ [(q, .inr (0, [.ref p, .null, .int 0, .int 0, .int 0, .int 0, .int 0, .int 0])), (p, .inr (4, [.ref p0, .int 0])), (p0, .inl (rn_k G 0, 2040, .inl (fun _ => 0)))]) (set_mid rfl) ?_
  refine rn_aload_n (i := 0) dX0_init_15 rfl rfl ?_
  refine rn_sipush (v := (1980 : Int32)) dX0_init_16 (by decide) ?_
  refine rn_newa (a := 0) (b := 0) (t0 := 0) (N' := 1980) (av := (1980, .inl (fun _ => 0))) (ty := .byte) (Nat.le_of_ble_eq_true rfl) (Nat.le_of_ble_eq_true rfl) rfl rfl (by intro C9 h; cases h) wd_42 (fun _ => rfl) (by decide) (by decide) (by decide) dX0_init_19 (fun p1 => ?_)
  refine rn_world (pre ++ [(q, .inr (0, [.ref p, .null, .int 0, .int 0, .int 0, .int 0, .int 0, .int 0])), (p, .inr (4, [.ref p0, .int 0])), (p0, .inl (rn_k G 0, 2040, .inl (fun _ => 0))), (p1, .inl (rn_k G 0, 1980, .inl (fun _ => 0)))]) (List.append_assoc _ _ _) ?_
  refine rn_put pre.length kp_SG_Heap_18 (la_mid rfl) (Nat.le_of_ble_eq_true (n := 2) rfl) rfl rfl dX0_init_21 ?_
  refine rn_world (pre ++ [(q, .inr (0, [.ref p, .ref p1, .int 0, .int 0, .int 0, .int 0, .int 0, .int 0])), (p, .inr (4, [.ref p0, .int 0])), (p0, .inl (rn_k G 0, 2040, .inl (fun _ => 0))), (p1, .inl (rn_k G 0, 1980, .inl (fun _ => 0)))]) (set_mid rfl) ?_
  exact rn_vret dX0_init_24 rfl (rq_in ⟨rfl, p, p0, p1, rfl⟩)
