abbrev q_t_X4_takeOver (G : rn_G) (S : ts_S) (ws : va_W) : rn_R → va_W → Prop := rQ (fun v w => St G S [11] ws S w ∧ (v = none)) (fun E w => False)
set_option maxRecDepth 20000 in
set_option maxHeartbeats 4000000 in
theorem t_X4_takeOver (G : rn_G) (S : ts_S) (ws : va_W) (hW : ts_W G S ws) (o0_ : Nat) (m0_ : (o0_, 4) ∈ S) (o1_ : Nat) (m1_ : (o1_, 4) ∈ S) (x2_ : Int32) : Rn G mX4_takeOver 1 22 0 0 0 (lv_args 0 [.ref o0_, .ref o1_, .int x2_]) [] ws (q_t_X4_takeOver G S ws ) := by
  have hS0 : St G S [11] ws S ws := St.rf hW
  refine rn_lv [(0, .ref o0_), (1, .ref o1_), (2, .int x2_)] rfl ?_
  refine rn_aload_n (i := 0) dX4_takeOver_0 rfl rfl ?_
  refine rn_iconst (v := (1 : Int32)) dX4_takeOver_1 (by decide) ?_
  refine rn_aload_n (i := 1) dX4_takeOver_2 rfl rfl ?_
  refine rn_iconst (v := (1 : Int32)) dX4_takeOver_3 (by decide) ?_
  obtain ⟨q1, fs1, hq1, hl1, hf1⟩ := ts_obj hS0.1 m1_ hk_4
  refine rn_callV (a := 0) (b := 0) [.int (1 : Int32)] kl_SG_Packet_55 dX4_takeOver_4 q1 hl1 rfl (t_X4_byteAt G S ws hS0.1 o1_ m1_ (1 : Int32)) rfl rfl (Nat.le_of_ble_eq_true rfl) (Nat.le_of_ble_eq_true rfl) (Nat.le_of_ble_eq_true rfl) (Nat.le_of_ble_eq_true rfl) (Nat.le_of_ble_eq_true rfl) (Nat.le_of_ble_eq_true rfl) (fun _ _ h => False.elim h) (fun v9 w2 h3 => ?_)
  obtain ⟨rfl, v4, rfl, rv4⟩ := h3
  refine rn_stk [.int v4, .int (1 : Int32), .ref o0_] rfl ?_
  obtain ⟨q6, fs6, hq6, hl6, hf6⟩ := ts_obj hS0.1 m0_ hk_4
  refine rn_callV (a := 0) (b := 0) [.int (1 : Int32), .int v4] kl_SG_Packet_76 dX4_takeOver_7 q6 hl6 rfl (t_X4_setByte G S ws hS0.1 o0_ m0_ (1 : Int32) v4) rfl rfl (Nat.le_of_ble_eq_true rfl) (Nat.le_of_ble_eq_true rfl) (Nat.le_of_ble_eq_true rfl) (Nat.le_of_ble_eq_true rfl) (Nat.le_of_ble_eq_true rfl) (Nat.le_of_ble_eq_true rfl) (fun _ _ h => False.elim h) (fun v9 w7 h8 => ?_)
  obtain ⟨hT9, rfl⟩ := h8
  have hS9 := St.tr hS0 hT9 rfl
  refine rn_stk [] rfl ?_
  refine rn_aload_n (i := 0) dX4_takeOver_10 rfl rfl ?_
  refine rn_iconst (v := (4 : Int32)) dX4_takeOver_11 (by decide) ?_
  refine rn_iload_n (i := 2) dX4_takeOver_12 rfl rfl ?_
  refine rn_callV (a := 0) (b := 0) [.int (4 : Int32), .int x2_] kl_SG_Packet_31 dX4_takeOver_13 q6 (hT9.fr hq6 rfl hl6) rfl (t_X4_setPair G S w7 hS9.1 o0_ m0_ (4 : Int32) x2_) rfl rfl (Nat.le_of_ble_eq_true rfl) (Nat.le_of_ble_eq_true rfl) (Nat.le_of_ble_eq_true rfl) (Nat.le_of_ble_eq_true rfl) (Nat.le_of_ble_eq_true rfl) (Nat.le_of_ble_eq_true rfl) (fun _ _ h => False.elim h) (fun v9 w10 h11 => ?_)
  obtain ⟨hT12, rfl⟩ := h11
  have hS12 := St.tr hS9 hT12 rfl
  refine rn_stk [] rfl ?_
  refine rn_aload_n (i := 0) dX4_takeOver_16 rfl rfl ?_
  refine rn_bipush (v := (6 : Int32)) dX4_takeOver_17 (by decide) ?_
  refine rn_aload_n (i := 1) dX4_takeOver_19 rfl rfl ?_
  refine rn_bipush (v := (6 : Int32)) dX4_takeOver_20 (by decide) ?_
  refine rn_callV (a := 0) (b := 0) [.int (6 : Int32)] kl_SG_Packet_52 dX4_takeOver_22 q1 (hT12.fr hq1 rfl (hT9.fr hq1 rfl hl1)) rfl (t_X4_pairAt G S w10 hS12.1 o1_ m1_ (6 : Int32)) rfl rfl (Nat.le_of_ble_eq_true rfl) (Nat.le_of_ble_eq_true rfl) (Nat.le_of_ble_eq_true rfl) (Nat.le_of_ble_eq_true rfl) (Nat.le_of_ble_eq_true rfl) (Nat.le_of_ble_eq_true rfl) (fun _ _ h => False.elim h) (fun v9 w13 h14 => ?_)
  obtain ⟨rfl, v15, rfl, rv15⟩ := h14
  refine rn_stk [.int v15, .int (6 : Int32), .ref o0_] rfl ?_
  refine rn_sipush (v := (16384 : Int32)) dX4_takeOver_25 (by decide) ?_
  refine rn_iand dX4_takeOver_28 (rn_tn 0 (16384) (rg_andr rk_16384 (by decide)) (fun v17 rv17 => ?_))
  refine rn_callV (a := 0) (b := 0) [.int (6 : Int32), .int v17] kl_SG_Packet_31 dX4_takeOver_29 q6 (hT12.fr hq6 rfl (hT9.fr hq6 rfl hl6)) rfl (t_X4_setPair G S w10 hS12.1 o0_ m0_ (6 : Int32) v17) rfl rfl (Nat.le_of_ble_eq_true rfl) (Nat.le_of_ble_eq_true rfl) (Nat.le_of_ble_eq_true rfl) (Nat.le_of_ble_eq_true rfl) (Nat.le_of_ble_eq_true rfl) (Nat.le_of_ble_eq_true rfl) (fun _ _ h => False.elim h) (fun v9 w18 h19 => ?_)
  obtain ⟨hT20, rfl⟩ := h19
  have hS20 := St.tr hS12 hT20 rfl
  refine rn_stk [] rfl ?_
  exact rn_vret dX4_takeOver_32 rfl (rq_in ⟨hS20, rfl⟩)
abbrev q_t_X4_setMore (G : rn_G) (S : ts_S) (ws : va_W) : rn_R → va_W → Prop := rQ (fun v w => St G S [11] ws S w ∧ (v = none)) (fun E w => False)
set_option maxRecDepth 20000 in
set_option maxHeartbeats 4000000 in
theorem t_X4_setMore (G : rn_G) (S : ts_S) (ws : va_W) (hW : ts_W G S ws) (o0_ : Nat) (m0_ : (o0_, 4) ∈ S) : Rn G mX4_setMore 1 22 0 0 0 (lv_args 0 [.ref o0_]) [] ws (q_t_X4_setMore G S ws ) := by
  have hS0 : St G S [11] ws S ws := St.rf hW
  refine rn_lv [(0, .ref o0_)] rfl ?_
  refine rn_aload_n (i := 0) dX4_setMore_0 rfl rfl ?_
  refine rn_bipush (v := (6 : Int32)) dX4_setMore_1 (by decide) ?_
  refine rn_aload_n (i := 0) dX4_setMore_3 rfl rfl ?_
  refine rn_bipush (v := (6 : Int32)) dX4_setMore_4 (by decide) ?_
  obtain ⟨q1, fs1, hq1, hl1, hf1⟩ := ts_obj hS0.1 m0_ hk_4
  refine rn_callV (a := 0) (b := 0) [.int (6 : Int32)] kl_SG_Packet_52 dX4_setMore_6 q1 hl1 rfl (t_X4_pairAt G S ws hS0.1 o0_ m0_ (6 : Int32)) rfl rfl (Nat.le_of_ble_eq_true rfl) (Nat.le_of_ble_eq_true rfl) (Nat.le_of_ble_eq_true rfl) (Nat.le_of_ble_eq_true rfl) (Nat.le_of_ble_eq_true rfl) (Nat.le_of_ble_eq_true rfl) (fun _ _ h => False.elim h) (fun v9 w2 h3 => ?_)
  obtain ⟨rfl, v4, rfl, rv4⟩ := h3
  refine rn_stk [.int v4, .int (6 : Int32), .ref o0_] rfl ?_
  refine rn_sipush (v := (8192 : Int32)) dX4_setMore_9 (by decide) ?_
  refine rn_ior dX4_setMore_12 (rn_nmA (fun v6 rv6 => ?_))
  refine rn_callV (a := 0) (b := 0) [.int (6 : Int32), .int v6] kl_SG_Packet_31 dX4_setMore_13 q1 hl1 rfl (t_X4_setPair G S ws hS0.1 o0_ m0_ (6 : Int32) v6) rfl rfl (Nat.le_of_ble_eq_true rfl) (Nat.le_of_ble_eq_true rfl) (Nat.le_of_ble_eq_true rfl) (Nat.le_of_ble_eq_true rfl) (Nat.le_of_ble_eq_true rfl) (Nat.le_of_ble_eq_true rfl) (fun _ _ h => False.elim h) (fun v9 w7 h8 => ?_)
  obtain ⟨hT9, rfl⟩ := h8
  have hS9 := St.tr hS0 hT9 rfl
  refine rn_stk [] rfl ?_
  exact rn_vret dX4_setMore_16 rfl (rq_in ⟨hS9, rfl⟩)
abbrev q_t_X4_moveOffset (G : rn_G) (S : ts_S) (ws : va_W) : rn_R → va_W → Prop := rQ (fun v w => St G S [11] ws S w ∧ (v = none)) (fun E w => False)
set_option maxRecDepth 20000 in
set_option maxHeartbeats 4000000 in
theorem t_X4_moveOffset (G : rn_G) (S : ts_S) (ws : va_W) (hW : ts_W G S ws) (o0_ : Nat) (m0_ : (o0_, 4) ∈ S) (x1_ : Int32) : Rn G mX4_moveOffset 1 22 0 0 0 (lv_args 0 [.ref o0_, .int x1_]) [] ws (q_t_X4_moveOffset G S ws ) := by
  have hS0 : St G S [11] ws S ws := St.rf hW
  refine rn_lv [(0, .ref o0_), (1, .int x1_)] rfl ?_
  refine rn_aload_n (i := 0) dX4_moveOffset_0 rfl rfl ?_
  refine rn_bipush (v := (6 : Int32)) dX4_moveOffset_1 (by decide) ?_
  obtain ⟨q1, fs1, hq1, hl1, hf1⟩ := ts_obj hS0.1 m0_ hk_4
  refine rn_callV (a := 0) (b := 0) [.int (6 : Int32)] kl_SG_Packet_52 dX4_moveOffset_3 q1 hl1 rfl (t_X4_pairAt G S ws hS0.1 o0_ m0_ (6 : Int32)) rfl rfl (Nat.le_of_ble_eq_true rfl) (Nat.le_of_ble_eq_true rfl) (Nat.le_of_ble_eq_true rfl) (Nat.le_of_ble_eq_true rfl) (Nat.le_of_ble_eq_true rfl) (Nat.le_of_ble_eq_true rfl) (fun _ _ h => False.elim h) (fun v9 w2 h3 => ?_)
  obtain ⟨rfl, v4, rfl, rv4⟩ := h3
  refine rn_stk [.int v4] rfl ?_
  refine rn_istore_n dX4_moveOffset_6 rfl (by decide) [(0, .ref o0_), (1, .int x1_), (2, .int v4)] rfl ?_
  refine rn_aload_n (i := 0) dX4_moveOffset_7 rfl rfl ?_
  refine rn_bipush (v := (6 : Int32)) dX4_moveOffset_8 (by decide) ?_
  refine rn_iload_n (i := 2) dX4_moveOffset_10 rfl rfl ?_
  refine rn_sipush (v := (-8192 : Int32)) dX4_moveOffset_11 (by decide) ?_
  refine rn_iand dX4_moveOffset_14 (rn_nmA (fun v6 rv6 => ?_))
  refine rn_iload_n (i := 2) dX4_moveOffset_15 rfl rfl ?_
  refine rn_iload_n (i := 1) dX4_moveOffset_16 rfl rfl ?_
  refine rn_iadd dX4_moveOffset_17 (rn_nmA (fun v7 rv7 => ?_))
  refine rn_sipush (v := (8191 : Int32)) dX4_moveOffset_18 (by decide) ?_
  refine rn_iand dX4_moveOffset_21 (rn_tn 0 (8191) (rg_andr rk_8191 (by decide)) (fun v8 rv8 => ?_))
  refine rn_ior dX4_moveOffset_22 (rn_nmA (fun v9 rv9 => ?_))
  refine rn_callV (a := 0) (b := 0) [.int (6 : Int32), .int v9] kl_SG_Packet_31 dX4_moveOffset_23 q1 hl1 rfl (t_X4_setPair G S ws hS0.1 o0_ m0_ (6 : Int32) v9) rfl rfl (Nat.le_of_ble_eq_true rfl) (Nat.le_of_ble_eq_true rfl) (Nat.le_of_ble_eq_true rfl) (Nat.le_of_ble_eq_true rfl) (Nat.le_of_ble_eq_true rfl) (Nat.le_of_ble_eq_true rfl) (fun _ _ h => False.elim h) (fun v9 w10 h11 => ?_)
  obtain ⟨hT12, rfl⟩ := h11
  have hS12 := St.tr hS0 hT12 rfl
  refine rn_stk [] rfl ?_
  exact rn_vret dX4_moveOffset_26 rfl (rq_in ⟨hS12, rfl⟩)
abbrev q_t_X4_countsUp (G : rn_G) (S : ts_S) (ws : va_W) : rn_R → va_W → Prop := rQ (fun v w => ws = w ∧ (∃ x : Int32, v = some (.int x) ∧ Rg (0) (1) x)) (fun E w => False)
set_option maxRecDepth 20000 in
set_option maxHeartbeats 4000000 in
theorem t_X4_countsUp (G : rn_G) (S : ts_S) (ws : va_W) (hW : ts_W G S ws) (o0_ : Nat) (m0_ : (o0_, 4) ∈ S) (x1_ : Int32) (x2_ : Int32) : Rn G mX4_countsUp 1 21 0 0 0 (lv_args 0 [.ref o0_, .int x1_, .int x2_]) [] ws (q_t_X4_countsUp G S ws ) := by
  refine rn_lv [(0, .ref o0_), (1, .int x1_), (2, .int x2_)] rfl ?_
  refine rn_iconst (v := (0 : Int32)) dX4_countsUp_0 (by decide) ?_
  refine rn_istore_n dX4_countsUp_1 rfl (by decide) [(0, .ref o0_), (1, .int x1_), (2, .int x2_), (3, .int (0 : Int32))] rfl ?_
  have LP2 : ∀ (n : Nat) (x1 : Int32), Rg (0) (255) x1 → (255 - x1.toInt).toNat = n → Rn G mX4_countsUp 1 21 0 0 2 [(0, .ref o0_), (1, .int x1_), (2, .int x2_), (3, .int x1)] [] ws (q_t_X4_countsUp G S ws ) := by
    intro n
    induction n using Nat.strongRecOn with
    | _ n ih =>
      intro x1 r4 hm5
      refine rn_iload_n (i := 3) dX4_countsUp_2 rfl rfl ?_
      refine rn_iload_n (i := 2) dX4_countsUp_3 rfl rfl ?_
      refine rn_icmp_ge (tgt := 28) dX4_countsUp_4 (by decide) (fun h6 => ?_) (fun h6 => ?_)
      · have ch6 := cv_le h6
        have r7 : Rg (-2147483648) (255) x2_ := rf_lex ch6 (rg_any x2_) r4 (by decide)
        refine rn_iconst (v := (1 : Int32)) dX4_countsUp_28 (by decide) ?_
        exact rn_iret dX4_countsUp_29 rfl rfl (rq_in ⟨rfl, (1 : Int32), rfl, (rg_w rk_1 (by decide) (by decide))⟩)
      · have ch6 := cv_nle h6
        have r8 : Rg (1) (2147483647) x2_ := rf_lty ch6 r4 (rg_any x2_) (by decide)
        refine rn_aload_n (i := 0) dX4_countsUp_7 rfl rfl ?_
        refine rn_iload_n (i := 1) dX4_countsUp_8 rfl rfl ?_
        refine rn_iload_n (i := 3) dX4_countsUp_9 rfl rfl ?_
        refine rn_iadd dX4_countsUp_10 (rn_nmA (fun v9 rv9 => ?_))
        obtain ⟨q10, fs10, hq10, hl10, hf10⟩ := ts_obj hW m0_ hk_4
        refine rn_callV (a := 0) (b := 0) [.int v9] kl_SG_Packet_55 dX4_countsUp_11 q10 hl10 rfl (t_X4_byteAt G S ws hW o0_ m0_ v9) rfl rfl (Nat.le_of_ble_eq_true rfl) (Nat.le_of_ble_eq_true rfl) (Nat.le_of_ble_eq_true rfl) (Nat.le_of_ble_eq_true rfl) (Nat.le_of_ble_eq_true rfl) (Nat.le_of_ble_eq_true rfl) (fun _ _ h => False.elim h) (fun v9 w11 h12 => ?_)
        obtain ⟨rfl, v13, rfl, rv13⟩ := h12
        refine rn_stk [.int v13] rfl ?_
        refine rn_iload_n (i := 3) dX4_countsUp_14 rfl rfl ?_
        refine rn_iconst (v := (1 : Int32)) dX4_countsUp_15 (by decide) ?_
        refine rs_addC (1) (256) r4 rk_1 dX4_countsUp_16 (by decide) (fun v15 ev15 rv15 => ?_)
        refine rn_icmp_eq (tgt := 22) dX4_countsUp_17 (by decide) (fun h16 => ?_) (fun h16 => ?_)
        · have ch16 := cv_eq h16
          have r17 : Rg (1) (255) v13 := rf_eqx ch16 rv13 rv15 (by decide) (by decide)
          have r18 : Rg (1) (255) v15 := rf_eqy ch16 rv13 rv15 (by decide) (by decide)
          have r19 : Rg (0) (254) x1 := rf_bk ev15 r18 r4 (by decide) (by decide)
          refine rs_iinc (1) (255) dX4_countsUp_22 rfl (by decide) r19 rk_1 (by decide) (fun v20 => [(0, .ref o0_), (1, .int x1_), (2, .int x2_), (3, .int v20)]) (fun _ => rfl) (fun v20 ev20 rv20 => ?_)
          refine rn_goto (tgt := 2) dX4_countsUp_25 (by decide) ?_
          refine rn_lv [(0, .ref o0_), (1, .int x1_), (2, .int x2_), (3, .int v20)] rfl ?_
          exact ih _ (lp_inc hm5 ev20 rv20 (by decide)) v20 (rg_w rv20 (by decide) (by decide)) rfl
        · have ch16 := cv_ne h16
          refine rn_iconst (v := (0 : Int32)) dX4_countsUp_20 (by decide) ?_
          exact rn_iret dX4_countsUp_21 rfl rfl (rq_in ⟨rfl, (0 : Int32), rfl, (rg_w rk_0 (by decide) (by decide))⟩)
  exact LP2 _ (0 : Int32) (rg_w rk_0 (by decide) (by decide)) rfl
abbrev q_t_X5_isFull (G : rn_G) (S : ts_S) (ws : va_W) : rn_R → va_W → Prop := rQ (fun v w => ws = w ∧ (∃ x : Int32, v = some (.int x) ∧ Rg (0) (1) x)) (fun E w => False)
set_option maxRecDepth 20000 in
set_option maxHeartbeats 4000000 in
theorem t_X5_isFull (G : rn_G) (S : ts_S) (ws : va_W) (hW : ts_W G S ws) (o0_ : Nat) (m0_ : (o0_, 5) ∈ S) : Rn G mX5_isFull 0 0 0 0 0 (lv_args 0 [.ref o0_]) [] ws (q_t_X5_isFull G S ws ) := by
  refine rn_lv [(0, .ref o0_)] rfl ?_
  refine rn_aload_n (i := 0) dX5_isFull_0 rfl rfl ?_
  obtain ⟨q1, fs1, hq1, hl1, hf1⟩ := ts_obj hW m0_ hk_5
  obtain ⟨x2, hx2, rx2⟩ := fs_i hf1 1 rfl
  refine rn_get q1 kg_SG_Policies_22 hl1 hx2 dX5_isFull_1 ?_
  refine rn_bipush (v := (24 : Int32)) dX5_isFull_4 (by decide) ?_
  refine rn_icmp_lt (tgt := 13) dX5_isFull_6 (by decide) (fun h3 => ?_) (fun h3 => ?_)
  · have ch3 := cv_lt h3
    have r4 : Rg (0) (23) x2 := rf_ltx ch3 rx2 rk_24 (by decide)
    refine rn_iconst (v := (0 : Int32)) dX5_isFull_13 (by decide) ?_
    exact rn_iret dX5_isFull_14 rfl rfl (rq_in ⟨rfl, (0 : Int32), rfl, (rg_w rk_0 (by decide) (by decide))⟩)
  · have ch3 := cv_nlt h3
    have r5 : Rg (24) (24) x2 := rf_ley ch3 rk_24 rx2 (by decide)
    refine rn_iconst (v := (1 : Int32)) dX5_isFull_9 (by decide) ?_
    refine rn_goto (tgt := 14) dX5_isFull_10 (by decide) ?_
    exact rn_iret dX5_isFull_14 rfl rfl (rq_in ⟨rfl, (1 : Int32), rfl, (rg_w rk_1 (by decide) (by decide))⟩)
abbrev q_t_X5_nextMeans (G : rn_G) (S : ts_S) (ws : va_W) : rn_R → va_W → Prop := rQ (fun v w => St G S [5] ws S w ∧ (v = none)) (fun E w => False)
set_option maxRecDepth 20000 in
set_option maxHeartbeats 4000000 in
theorem t_X5_nextMeans (G : rn_G) (S : ts_S) (ws : va_W) (hW : ts_W G S ws) (o0_ : Nat) (m0_ : (o0_, 5) ∈ S) (x1_ : Int32) (x2_ : Int32) (x3_ : Int32) : Rn G mX5_nextMeans 0 0 0 0 0 (lv_args 0 [.ref o0_, .int x1_, .int x2_, .int x3_]) [] ws (q_t_X5_nextMeans G S ws ) := by
  have hS0 : St G S [5] ws S ws := St.rf hW
  refine rn_lv [(0, .ref o0_), (1, .int x1_), (2, .int x2_), (3, .int x3_)] rfl ?_
  refine rn_aload_n (i := 0) dX5_nextMeans_0 rfl rfl ?_
  refine rn_iload_n (i := 1) dX5_nextMeans_1 rfl rfl ?_
  obtain ⟨q1, fs1, hq1, hl1, hf1⟩ := ts_obj hS0.1 m0_ hk_5
  refine rs_put q1 (kp_SG_Policies_25 _) hS0 hq1 hl1 hf1 hk_5 rfl rfl (tv_i (rg_any x1_)) rfl rfl dX5_nextMeans_2 (fun w2 fs3 hS3 hl3 hf3 hx3 ho3 hn3 => ?_)
  refine rn_aload_n (i := 0) dX5_nextMeans_5 rfl rfl ?_
  refine rn_iload_n (i := 2) dX5_nextMeans_6 rfl rfl ?_
  refine rs_put q1 (kp_SG_Policies_28 _) hS3 hq1 hl3 hf3 hk_5 rfl rfl (tv_i (rg_any x2_)) rfl rfl dX5_nextMeans_7 (fun w4 fs5 hS5 hl5 hf5 hx5 ho5 hn5 => ?_)
  refine rn_aload_n (i := 0) dX5_nextMeans_10 rfl rfl ?_
  refine rn_iload_n (i := 3) dX5_nextMeans_11 rfl rfl ?_
  refine rs_put q1 (kp_SG_Policies_18 _) hS5 hq1 hl5 hf5 hk_5 rfl rfl (tv_i (rg_any x3_)) rfl rfl dX5_nextMeans_12 (fun w6 fs7 hS7 hl7 hf7 hx7 ho7 hn7 => ?_)
  exact rn_vret dX5_nextMeans_15 rfl (rq_in ⟨hS7, rfl⟩)
set_option maxRecDepth 20000 in
theorem n_X6_init (G : rn_G) (pre : va_W) (q : Nat) (x0 : Int32) (o1 : Nat) (o2 : Nat) (x3 : Int32) (x4 : Int32) (x5 : Int32) (x6 : Int32) : Rn G mX6_init 1 20 0 0 0 (lv_args 0 [.ref q, .int x0, .ref o1, .ref o2, .int x3, .int x4, .int x5, .int x6]) [] (pre ++ [(q, .inr (6, fs0_6))]) (rQ (fun v w => v = none ∧ w = pre ++ [(q, .inr (6, [.int x0, .ref o1, .ref o2, .int x3, .int x4, .int x5, .int x6]))]) (fun _ _ => False)) := by
  refine rn_lv [(0, .ref q), (1, .int x0), (2, .ref o1), (3, .ref o2), (4, .int x3), (5, .int x4), (6, .int x5), (7, .int x6)] rfl ?_
  refine rn_aload_n (i := 0) dX6_init_0 rfl rfl ?_
  refine rn_objInit wd_511 wd_27 wd_28 dX6_init_1 (Nat.le_of_ble_eq_true rfl) (Nat.le_of_ble_eq_true rfl) (Nat.le_of_ble_eq_true rfl) ?_
  refine rn_aload_n (i := 0) dX6_init_4 rfl rfl ?_
  refine rn_iload_n (i := 1) dX6_init_5 rfl rfl ?_
  refine rn_put pre.length kp_SG_Policy_9 (la_mid rfl) (Nat.le_of_ble_eq_true (n := 1) rfl) rfl rfl dX6_init_6 ?_
  refine rn_world (pre ++ [(q, .inr (6, [.int x0, .null, .null, .int 0, .int 0, .int 0, .int 0]))]) (set_mid rfl) ?_
  refine rn_aload_n (i := 0) dX6_init_9 rfl rfl ?_
  refine rn_aload_n (i := 2) dX6_init_10 rfl rfl ?_
  refine rn_put pre.length kp_SG_Policy_15 (la_mid rfl) (Nat.le_of_ble_eq_true (n := 2) rfl) rfl rfl dX6_init_11 ?_
  refine rn_world (pre ++ [(q, .inr (6, [.int x0, .ref o1, .null, .int 0, .int 0, .int 0, .int 0]))]) (set_mid rfl) ?_
  refine rn_aload_n (i := 0) dX6_init_14 rfl rfl ?_
  refine rn_aload_n (i := 3) dX6_init_15 rfl rfl ?_
  refine rn_put pre.length kp_SG_Policy_19 (la_mid rfl) (Nat.le_of_ble_eq_true (n := 3) rfl) rfl rfl dX6_init_16 ?_
  refine rn_world (pre ++ [(q, .inr (6, [.int x0, .ref o1, .ref o2, .int 0, .int 0, .int 0, .int 0]))]) (set_mid rfl) ?_
  refine rn_aload_n (i := 0) dX6_init_19 rfl rfl ?_
  refine rn_iload dX6_init_20 rfl ?_
  refine rn_put pre.length kp_SG_Policy_22 (la_mid rfl) (Nat.le_of_ble_eq_true (n := 4) rfl) rfl rfl dX6_init_22 ?_
  refine rn_world (pre ++ [(q, .inr (6, [.int x0, .ref o1, .ref o2, .int x3, .int 0, .int 0, .int 0]))]) (set_mid rfl) ?_
  refine rn_aload_n (i := 0) dX6_init_25 rfl rfl ?_
  refine rn_iload dX6_init_26 rfl ?_
  refine rn_put pre.length kp_SG_Policy_25 (la_mid rfl) (Nat.le_of_ble_eq_true (n := 5) rfl) rfl rfl dX6_init_28 ?_
  refine rn_world (pre ++ [(q, .inr (6, [.int x0, .ref o1, .ref o2, .int x3, .int x4, .int 0, .int 0]))]) (set_mid rfl) ?_
  refine rn_aload_n (i := 0) dX6_init_31 rfl rfl ?_
  refine rn_iload dX6_init_32 rfl ?_
  refine rn_put pre.length kp_SG_Policy_28 (la_mid rfl) (Nat.le_of_ble_eq_true (n := 6) rfl) rfl rfl dX6_init_34 ?_
  refine rn_world (pre ++ [(q, .inr (6, [.int x0, .ref o1, .ref o2, .int x3, .int x4, .int x5, .int 0]))]) (set_mid rfl) ?_
  refine rn_aload_n (i := 0) dX6_init_37 rfl rfl ?_
  refine rn_iload dX6_init_38 rfl ?_
  refine rn_put pre.length kp_SG_Policy_31 (la_mid rfl) (Nat.le_of_ble_eq_true (n := 7) rfl) rfl rfl dX6_init_40 ?_
  refine rn_world (pre ++ [(q, .inr (6, [.int x0, .ref o1, .ref o2, .int x3, .int x4, .int x5, .int x6]))]) (set_mid rfl) ?_
  exact rn_vret dX6_init_43 rfl (rq_in ⟨rfl, rfl⟩)
abbrev q_t_X5_append (G : rn_G) (S : ts_S) (ws : va_W) : rn_R → va_W → Prop := rQ (fun v w => ∃ S' : ts_S, St G S [5, 15] ws S' w ∧ (∃ x : Int32, v = some (.int x) ∧ Rg (0) (24) x)) (fun E w => False)
set_option maxRecDepth 20000 in
set_option maxHeartbeats 4000000 in
theorem t_X5_append (G : rn_G) (S : ts_S) (ws : va_W) (hW : ts_W G S ws) (o0_ : Nat) (m0_ : (o0_, 5) ∈ S) (x1_ : Int32) (o2_ : Nat) (m2_ : (o2_, 3) ∈ S) (o3_ : Nat) (m3_ : (o3_, 3) ∈ S) (x4_ : Int32) : Rn G mX5_append 2 47 1 7 0 (lv_args 0 [.ref o0_, .int x1_, .ref o2_, .ref o3_, .int x4_]) [] ws (q_t_X5_append G S ws ) := by
  have hS0 : St G S [5, 15] ws S ws := St.rf hW
  refine rn_lv [(0, .ref o0_), (1, .int x1_), (2, .ref o2_), (3, .ref o3_), (4, .int x4_)] rfl ?_
  refine rn_aload_n (i := 0) dX5_append_0 rfl rfl ?_
  obtain ⟨q1, fs1, hq1, hl1, hf1⟩ := ts_obj hS0.1 m0_ hk_5
  obtain ⟨x2, hx2, rx2⟩ := fs_i hf1 1 rfl
  refine rn_get q1 kg_SG_Policies_22 hl1 hx2 dX5_append_1 ?_
  refine rn_if_lt (tgt := 59) dX5_append_4 (by decide) (fun h3 => (cx_lt (cv_lt h3) rx2 rk_0 (by decide)).elim) (fun h3 => ?_)
  have ch3 := cv_nlt h3
  refine rn_aload_n (i := 0) dX5_append_7 rfl rfl ?_
  refine rn_get q1 kg_SG_Policies_22 hl1 hx2 dX5_append_8 ?_
  refine rn_bipush (v := (24 : Int32)) dX5_append_11 (by decide) ?_
  refine rn_icmp_ge (tgt := 59) dX5_append_13 (by decide) (fun h4 => ?_) (fun h4 => ?_)
  · have ch4 := cv_le h4
    have r5 : Rg (24) (24) x2 := rf_ley ch4 rk_24 rx2 (by decide)
    refine rn_aload_n (i := 0) dX5_append_59 rfl rfl ?_
    refine rn_iconst (v := (0 : Int32)) dX5_append_60 (by decide) ?_
    refine rn_iconst (v := (0 : Int32)) dX5_append_61 (by decide) ?_
    refine rn_ldc (v := (65535 : Int32)) wd_70 dX5_append_62 ?_
    refine rn_callV (a := 1) (b := 7) [.int (0 : Int32), .int (0 : Int32), .int (65535 : Int32)] kl_SG_Policies_34 dX5_append_64 q1 hl1 rfl (t_X5_nextMeans G S ws hS0.1 o0_ m0_ (0 : Int32) (0 : Int32) (65535 : Int32)) rfl rfl (Nat.le_of_ble_eq_true rfl) (Nat.le_of_ble_eq_true rfl) (Nat.le_of_ble_eq_true rfl) (Nat.le_of_ble_eq_true rfl) (Nat.le_of_ble_eq_true rfl) (Nat.le_of_ble_eq_true rfl) (fun _ _ h => False.elim h) (fun v9 w6 h7 => ?_)
    obtain ⟨hT8, rfl⟩ := h7
    have hS8 := St.tr hS0 hT8 rfl
    refine rn_stk [] rfl ?_
    refine rn_aload_n (i := 0) dX5_append_67 rfl rfl ?_
    obtain ⟨q9, fs9, hq9, hl9, hf9⟩ := ts_obj hS8.1 m0_ hk_5
    obtain ⟨x10, hx10, rx10⟩ := fs_i hf9 1 rfl
    refine rn_get q9 kg_SG_Policies_22 hl9 hx10 dX5_append_68 ?_
    exact rn_iret dX5_append_71 rfl rfl (rq_in ⟨S, hS8, x10, rfl, rx10⟩)
  · have ch4 := cv_nle h4
    have r11 : Rg (0) (23) x2 := rf_ltx ch4 rx2 rk_24 (by decide)
    refine rn_aload_n (i := 0) dX5_append_16 rfl rfl ?_
    obtain ⟨o12, hx12, m12⟩ := fs_r hf1 0 rfl
    refine rn_get q1 kg_SG_Policies_13 hl1 hx12 dX5_append_17 ?_
    refine rn_aload_n (i := 0) dX5_append_20 rfl rfl ?_
    refine rn_get q1 kg_SG_Policies_22 hl1 hx2 dX5_append_21 ?_
    refine rn_new (a := 0) (b := 0) kn_SG_Policies_11 (Nat.le_of_ble_eq_true rfl) (Nat.le_of_ble_eq_true rfl) dX5_append_24 (fun q13 => ?_)
    refine rn_dup dX5_append_27 rfl ?_
    refine rn_iload_n (i := 1) dX5_append_28 rfl rfl ?_
    refine rn_aload_n (i := 2) dX5_append_29 rfl rfl ?_
    refine rn_aload_n (i := 3) dX5_append_30 rfl rfl ?_
    refine rn_iload dX5_append_31 rfl ?_
    refine rn_aload_n (i := 0) dX5_append_33 rfl rfl ?_
    obtain ⟨x14, hx14, rx14⟩ := fs_i hf1 2 rfl
    refine rn_get q1 kg_SG_Policies_25 (la_old hl1) hx14 dX5_append_34 ?_
    refine rn_aload_n (i := 0) dX5_append_37 rfl rfl ?_
    obtain ⟨x15, hx15, rx15⟩ := fs_i hf1 3 rfl
    refine rn_get q1 kg_SG_Policies_28 (la_old hl1) hx15 dX5_append_38 ?_
    refine rn_aload_n (i := 0) dX5_append_41 rfl rfl ?_
    obtain ⟨x16, hx16, rx16⟩ := fs_i hf1 4 rfl
    refine rn_get q1 kg_SG_Policies_18 (la_old hl1) hx16 dX5_append_42 ?_
    refine rn_callI (a := 0) (b := 0) [.int x1_, .ref o2_, .ref o3_, .int x4_, .int x14, .int x15, .int x16] kl_SG_Policies_31 dX5_append_45 (n_X6_init G ws q13 x1_ o2_ o3_ x4_ x14 x15 x16) rq_no rfl rfl (Nat.le_of_ble_eq_true rfl) (Nat.le_of_ble_eq_true rfl) (Nat.le_of_ble_eq_true rfl) (Nat.le_of_ble_eq_true rfl) (Nat.le_of_ble_eq_true rfl) (Nat.le_of_ble_eq_true rfl) (fun v9 w17 h18 => ?_)
    obtain ⟨rfl, hw19⟩ := h18
    obtain ⟨S19, hT19, m19⟩ : ∃ S9, St G S [] ws S9 w17 ∧ (q13, 6) ∈ S9 := by rw [hw19]; exact ⟨_, St.app (St.rf hS0.1) rfl (by rw [hk_6]; exact Or.inl ⟨rfl, _, rfl, (ts_fs_cons (tv_i (rg_any x1_)) (ts_fs_cons (tv_r (List.mem_append_left _ m2_)) (ts_fs_cons (tv_r (List.mem_append_left _ m3_)) (ts_fs_cons (tv_i (rg_any x4_)) (ts_fs_cons (tv_i rx14) (ts_fs_cons (tv_i rx15) (ts_fs_cons (tv_i rx16) ts_fs_nil)))))))⟩), List.mem_append_right _ (List.mem_singleton.mpr rfl)⟩
    have hS19 := St.tr hS0 hT19 rfl
    refine rn_stk [.ref q13, .int x2, .ref o12] rfl ?_
    obtain ⟨q20, f20, hq20, hl20, hf20⟩ := ts_ra hS19.1 (hT19.mem m12) hk_15
    obtain ⟨q23, fs23, hq23, hl23, hf23⟩ := ts_obj hS19.1 m19 hk_6
    refine rs_aast q20 hS19 hq20 hl20 hf20 hk_15 rfl rfl m19 hl23 rfl r11 (by decide) (by decide) dX5_append_48 (fun w21 f22 hS22 hl22 hf22 hu22 hn22 => ?_)
    refine rn_aload_n (i := 0) dX5_append_49 rfl rfl ?_
    refine rn_dup dX5_append_50 rfl ?_
    refine rn_get q1 kg_SG_Policies_22 ((hn22 _ (ts_ne hq20 (hT19.pos hq1) rfl)).trans (hT19.fr hq1 rfl hl1)) hx2 dX5_append_51 ?_
    refine rn_iconst (v := (1 : Int32)) dX5_append_54 (by decide) ?_
    refine rs_addC (1) (24) r11 rk_1 dX5_append_55 (by decide) (fun v24 ev24 rv24 => ?_)
    refine rs_put q1 (kp_SG_Policies_22 _) hS22 (hT19.pos hq1) ((hn22 _ (ts_ne hq20 (hT19.pos hq1) rfl)).trans (hT19.fr hq1 rfl hl1)) (ts_fs.mono (fun p hp => hT19.mem hp) hf1) hk_5 rfl rfl (tv_i (rg_w rv24 (by decide) (by decide))) rfl rfl dX5_append_56 (fun w25 fs26 hS26 hl26 hf26 hx26 ho26 hn26 => ?_)
    refine rn_aload_n (i := 0) dX5_append_59 rfl rfl ?_
    refine rn_iconst (v := (0 : Int32)) dX5_append_60 (by decide) ?_
    refine rn_iconst (v := (0 : Int32)) dX5_append_61 (by decide) ?_
    refine rn_ldc (v := (65535 : Int32)) wd_70 dX5_append_62 ?_
    refine rn_callV (a := 0) (b := 0) [.int (0 : Int32), .int (0 : Int32), .int (65535 : Int32)] kl_SG_Policies_34 dX5_append_64 q1 hl26 rfl (t_X5_nextMeans G S19 w25 hS26.1 o0_ (hT19.mem m0_) (0 : Int32) (0 : Int32) (65535 : Int32)) rfl rfl (Nat.le_of_ble_eq_true rfl) (Nat.le_of_ble_eq_true rfl) (Nat.le_of_ble_eq_true rfl) (Nat.le_of_ble_eq_true rfl) (Nat.le_of_ble_eq_true rfl) (Nat.le_of_ble_eq_true rfl) (fun _ _ h => False.elim h) (fun v9 w27 h28 => ?_)
    obtain ⟨hT29, rfl⟩ := h28
    have hS29 := St.tr hS26 hT29 rfl
    refine rn_stk [] rfl ?_
    refine rn_aload_n (i := 0) dX5_append_67 rfl rfl ?_
    obtain ⟨q30, fs30, hq30, hl30, hf30⟩ := ts_obj hS29.1 (hT19.mem m0_) hk_5
    obtain ⟨x31, hx31, rx31⟩ := fs_i hf30 1 rfl
    refine rn_get q30 kg_SG_Policies_22 hl30 hx31 dX5_append_68 ?_
    exact rn_iret dX5_append_71 rfl rfl (rq_in ⟨S19, hS29, x31, rfl, rx31⟩)
abbrev q_t_X5_empty (G : rn_G) (S : ts_S) (ws : va_W) : rn_R → va_W → Prop := rQ (fun v w => St G S [5] ws S w ∧ (v = none)) (fun E w => False)
set_option maxRecDepth 20000 in
set_option maxHeartbeats 4000000 in
theorem t_X5_empty (G : rn_G) (S : ts_S) (ws : va_W) (hW : ts_W G S ws) (o0_ : Nat) (m0_ : (o0_, 5) ∈ S) : Rn G mX5_empty 1 23 0 0 0 (lv_args 0 [.ref o0_]) [] ws (q_t_X5_empty G S ws ) := by
  have hS0 : St G S [5] ws S ws := St.rf hW
  refine rn_lv [(0, .ref o0_)] rfl ?_
  refine rn_aload_n (i := 0) dX5_empty_0 rfl rfl ?_
  refine rn_iconst (v := (0 : Int32)) dX5_empty_1 (by decide) ?_
  obtain ⟨q1, fs1, hq1, hl1, hf1⟩ := ts_obj hS0.1 m0_ hk_5
  refine rs_put q1 (kp_SG_Policies_22 _) hS0 hq1 hl1 hf1 hk_5 rfl rfl (tv_i (rg_w rk_0 (by decide) (by decide))) rfl rfl dX5_empty_2 (fun w2 fs3 hS3 hl3 hf3 hx3 ho3 hn3 => ?_)
  refine rn_aload_n (i := 0) dX5_empty_5 rfl rfl ?_
  refine rn_iconst (v := (0 : Int32)) dX5_empty_6 (by decide) ?_
  refine rn_iconst (v := (0 : Int32)) dX5_empty_7 (by decide) ?_
  refine rn_ldc (v := (65535 : Int32)) wd_70 dX5_empty_8 ?_
  refine rn_callV (a := 0) (b := 0) [.int (0 : Int32), .int (0 : Int32), .int (65535 : Int32)] kl_SG_Policies_34 dX5_empty_10 q1 hl3 rfl (t_X5_nextMeans G S w2 hS3.1 o0_ m0_ (0 : Int32) (0 : Int32) (65535 : Int32)) rfl rfl (Nat.le_of_ble_eq_true rfl) (Nat.le_of_ble_eq_true rfl) (Nat.le_of_ble_eq_true rfl) (Nat.le_of_ble_eq_true rfl) (Nat.le_of_ble_eq_true rfl) (Nat.le_of_ble_eq_true rfl) (fun _ _ h => False.elim h) (fun v9 w4 h5 => ?_)
  obtain ⟨hT6, rfl⟩ := h5
  have hS6 := St.tr hS3 hT6 rfl
  refine rn_stk [] rfl ?_
  exact rn_vret dX5_empty_13 rfl (rq_in ⟨hS6, rfl⟩)
abbrev q_t_X6_meansDoor (G : rn_G) (S : ts_S) (ws : va_W) : rn_R → va_W → Prop := rQ (fun v w => ws = w ∧ (∃ x : Int32, v = some (.int x) ∧ Rg (0) (1) x)) (fun E w => False)
set_option maxRecDepth 20000 in
set_option maxHeartbeats 4000000 in
theorem t_X6_meansDoor (G : rn_G) (S : ts_S) (ws : va_W) (hW : ts_W G S ws) (o0_ : Nat) (m0_ : (o0_, 6) ∈ S) (x1_ : Int32) : Rn G mX6_meansDoor 0 0 0 0 0 (lv_args 0 [.ref o0_, .int x1_]) [] ws (q_t_X6_meansDoor G S ws ) := by
  refine rn_lv [(0, .ref o0_), (1, .int x1_)] rfl ?_
  refine rn_aload_n (i := 0) dX6_meansDoor_0 rfl rfl ?_
  obtain ⟨q1, fs1, hq1, hl1, hf1⟩ := ts_obj hW m0_ hk_6
  obtain ⟨x2, hx2, rx2⟩ := fs_i hf1 5 rfl
  refine rn_get q1 kg_SG_Policy_28 hl1 hx2 dX6_meansDoor_1 ?_
  refine rn_if_ne (tgt := 20) dX6_meansDoor_4 (by decide) (fun h3 => ?_) (fun h3 => ?_)
  · have ch3 := cv_ne h3
    refine rn_iconst (v := (0 : Int32)) dX6_meansDoor_20 (by decide) ?_
    refine rn_istore_n dX6_meansDoor_21 rfl (by decide) [(0, .ref o0_), (1, .int x1_), (2, .int (0 : Int32))] rfl ?_
    refine rn_iload_n (i := 2) dX6_meansDoor_22 rfl rfl ?_
    refine rn_if_ne (tgt := 47) dX6_meansDoor_23 (by decide) (fun h4 => (cx_ne (cv_ne h4) rk_0 rk_0 (by decide)).elim) (fun h4 => ?_)
    refine rn_iload_n (i := 1) dX6_meansDoor_26 rfl rfl ?_
    refine rn_iconst (v := (-1 : Int32)) dX6_meansDoor_27 (by decide) ?_
    refine rn_icmp_eq (tgt := 51) dX6_meansDoor_28 (by decide) (fun h5 => ?_) (fun h5 => ?_)
    · have ch5 := cv_eq h5
      have r6 : Rg (-1) (-1) x1_ := rf_eqx ch5 (rg_any x1_) rk_m1 (by decide) (by decide)
      refine rn_iconst (v := (0 : Int32)) dX6_meansDoor_51 (by decide) ?_
      exact rn_iret dX6_meansDoor_52 rfl rfl (rq_in ⟨rfl, (0 : Int32), rfl, (rg_w rk_0 (by decide) (by decide))⟩)
    · have ch5 := cv_ne h5
      refine rn_iload_n (i := 1) dX6_meansDoor_31 rfl rfl ?_
      refine rn_aload_n (i := 0) dX6_meansDoor_32 rfl rfl ?_
      refine rn_get q1 kg_SG_Policy_28 hl1 hx2 dX6_meansDoor_33 ?_
      refine rn_icmp_lt (tgt := 51) dX6_meansDoor_36 (by decide) (fun h7 => ?_) (fun h7 => ?_)
      · have ch7 := cv_lt h7
        have r8 : Rg (-2147483648) (2147483646) x1_ := rf_ltx ch7 (rg_any x1_) rx2 (by decide)
        have r9 : Rg (-2147483647) (2147483647) x2 := rf_lty ch7 (rg_any x1_) rx2 (by decide)
        refine rn_iconst (v := (0 : Int32)) dX6_meansDoor_51 (by decide) ?_
        exact rn_iret dX6_meansDoor_52 rfl rfl (rq_in ⟨rfl, (0 : Int32), rfl, (rg_w rk_0 (by decide) (by decide))⟩)
      · have ch7 := cv_nlt h7
        refine rn_iload_n (i := 1) dX6_meansDoor_39 rfl rfl ?_
        refine rn_aload_n (i := 0) dX6_meansDoor_40 rfl rfl ?_
        obtain ⟨x10, hx10, rx10⟩ := fs_i hf1 6 rfl
        refine rn_get q1 kg_SG_Policy_31 hl1 hx10 dX6_meansDoor_41 ?_
        refine rn_icmp_gt (tgt := 51) dX6_meansDoor_44 (by decide) (fun h11 => ?_) (fun h11 => ?_)
        · have ch11 := cv_lt h11
          have r12 : Rg (-2147483648) (2147483646) x10 := rf_ltx ch11 rx10 (rg_any x1_) (by decide)
          have r13 : Rg (-2147483647) (2147483647) x1_ := rf_lty ch11 rx10 (rg_any x1_) (by decide)
          refine rn_iconst (v := (0 : Int32)) dX6_meansDoor_51 (by decide) ?_
          exact rn_iret dX6_meansDoor_52 rfl rfl (rq_in ⟨rfl, (0 : Int32), rfl, (rg_w rk_0 (by decide) (by decide))⟩)
        · have ch11 := cv_nlt h11
          refine rn_iconst (v := (1 : Int32)) dX6_meansDoor_47 (by decide) ?_
          refine rn_goto (tgt := 52) dX6_meansDoor_48 (by decide) ?_
          exact rn_iret dX6_meansDoor_52 rfl rfl (rq_in ⟨rfl, (1 : Int32), rfl, (rg_w rk_1 (by decide) (by decide))⟩)
  · have ch3 := cv_eq h3
    have r14 : Rg (0) (0) x2 := rf_eqx ch3 rx2 rk_0 (by decide) (by decide)
    refine rn_aload_n (i := 0) dX6_meansDoor_7 rfl rfl ?_
    obtain ⟨x15, hx15, rx15⟩ := fs_i hf1 6 rfl
    refine rn_get q1 kg_SG_Policy_31 hl1 hx15 dX6_meansDoor_8 ?_
    refine rn_ldc (v := (65535 : Int32)) wd_718 dX6_meansDoor_11 ?_
    refine rn_icmp_ne (tgt := 20) dX6_meansDoor_13 (by decide) (fun h16 => ?_) (fun h16 => ?_)
    · have ch16 := cv_ne h16
      refine rn_iconst (v := (0 : Int32)) dX6_meansDoor_20 (by decide) ?_
      refine rn_istore_n dX6_meansDoor_21 rfl (by decide) [(0, .ref o0_), (1, .int x1_), (2, .int (0 : Int32))] rfl ?_
      refine rn_iload_n (i := 2) dX6_meansDoor_22 rfl rfl ?_
      refine rn_if_ne (tgt := 47) dX6_meansDoor_23 (by decide) (fun h17 => (cx_ne (cv_ne h17) rk_0 rk_0 (by decide)).elim) (fun h17 => ?_)
      refine rn_iload_n (i := 1) dX6_meansDoor_26 rfl rfl ?_
      refine rn_iconst (v := (-1 : Int32)) dX6_meansDoor_27 (by decide) ?_
      refine rn_icmp_eq (tgt := 51) dX6_meansDoor_28 (by decide) (fun h18 => ?_) (fun h18 => ?_)
      · have ch18 := cv_eq h18
        have r19 : Rg (-1) (-1) x1_ := rf_eqx ch18 (rg_any x1_) rk_m1 (by decide) (by decide)
        refine rn_iconst (v := (0 : Int32)) dX6_meansDoor_51 (by decide) ?_
        exact rn_iret dX6_meansDoor_52 rfl rfl (rq_in ⟨rfl, (0 : Int32), rfl, (rg_w rk_0 (by decide) (by decide))⟩)
      · have ch18 := cv_ne h18
        refine rn_iload_n (i := 1) dX6_meansDoor_31 rfl rfl ?_
        refine rn_aload_n (i := 0) dX6_meansDoor_32 rfl rfl ?_
        refine rn_get q1 kg_SG_Policy_28 hl1 hx2 dX6_meansDoor_33 ?_
        refine rn_icmp_lt (tgt := 51) dX6_meansDoor_36 (by decide) (fun h20 => ?_) (fun h20 => ?_)
        · have ch20 := cv_lt h20
          have r21 : Rg (-2147483648) (-1) x1_ := rf_ltx ch20 (rg_any x1_) r14 (by decide)
          refine rn_iconst (v := (0 : Int32)) dX6_meansDoor_51 (by decide) ?_
          exact rn_iret dX6_meansDoor_52 rfl rfl (rq_in ⟨rfl, (0 : Int32), rfl, (rg_w rk_0 (by decide) (by decide))⟩)
        · have ch20 := cv_nlt h20
          have r22 : Rg (0) (2147483647) x1_ := rf_ley ch20 r14 (rg_any x1_) (by decide)
          refine rn_iload_n (i := 1) dX6_meansDoor_39 rfl rfl ?_
          refine rn_aload_n (i := 0) dX6_meansDoor_40 rfl rfl ?_
          refine rn_get q1 kg_SG_Policy_31 hl1 hx15 dX6_meansDoor_41 ?_
          refine rn_icmp_gt (tgt := 51) dX6_meansDoor_44 (by decide) (fun h23 => ?_) (fun h23 => ?_)
          · have ch23 := cv_lt h23
            have r24 : Rg (-2147483648) (2147483646) x15 := rf_ltx ch23 rx15 r22 (by decide)
            refine rn_iconst (v := (0 : Int32)) dX6_meansDoor_51 (by decide) ?_
            exact rn_iret dX6_meansDoor_52 rfl rfl (rq_in ⟨rfl, (0 : Int32), rfl, (rg_w rk_0 (by decide) (by decide))⟩)
          · have ch23 := cv_nlt h23
            have r25 : Rg (0) (2147483647) x15 := rf_ley ch23 r22 rx15 (by decide)
            refine rn_iconst (v := (1 : Int32)) dX6_meansDoor_47 (by decide) ?_
            refine rn_goto (tgt := 52) dX6_meansDoor_48 (by decide) ?_
            exact rn_iret dX6_meansDoor_52 rfl rfl (rq_in ⟨rfl, (1 : Int32), rfl, (rg_w rk_1 (by decide) (by decide))⟩)
    · have ch16 := cv_eq h16
      have r26 : Rg (65535) (65535) x15 := rf_eqx ch16 rx15 rk_65535 (by decide) (by decide)
      refine rn_iconst (v := (1 : Int32)) dX6_meansDoor_16 (by decide) ?_
      refine rn_goto (tgt := 21) dX6_meansDoor_17 (by decide) ?_
      refine rn_istore_n dX6_meansDoor_21 rfl (by decide) [(0, .ref o0_), (1, .int x1_), (2, .int (1 : Int32))] rfl ?_
      refine rn_iload_n (i := 2) dX6_meansDoor_22 rfl rfl ?_
      refine rn_if_ne (tgt := 47) dX6_meansDoor_23 (by decide) (fun h27 => ?_) (fun h27 => (cx_eq (cv_eq h27) rk_1 rk_0 (by decide)).elim)
      refine rn_iconst (v := (1 : Int32)) dX6_meansDoor_47 (by decide) ?_
      refine rn_goto (tgt := 52) dX6_meansDoor_48 (by decide) ?_
      exact rn_iret dX6_meansDoor_52 rfl rfl (rq_in ⟨rfl, (1 : Int32), rfl, (rg_w rk_1 (by decide) (by decide))⟩)
abbrev q_t_X6_means (G : rn_G) (S : ts_S) (ws : va_W) : rn_R → va_W → Prop := rQ (fun v w => ws = w ∧ (∃ x : Int32, v = some (.int x) ∧ Rg (0) (1) x)) (fun E w => False)
set_option maxRecDepth 20000 in
set_option maxHeartbeats 4000000 in
theorem t_X6_means (G : rn_G) (S : ts_S) (ws : va_W) (hW : ts_W G S ws) (o0_ : Nat) (m0_ : (o0_, 6) ∈ S) (x1_ : Int32) (x2_ : Int32) (x3_ : Int32) (x4_ : Int32) (x5_ : Int32) : Rn G mX6_means 1 22 0 0 0 (lv_args 0 [.ref o0_, .int x1_, .int x2_, .int x3_, .int x4_, .int x5_]) [] ws (q_t_X6_means G S ws ) := by
  refine rn_lv [(0, .ref o0_), (1, .int x1_), (2, .int x2_), (3, .int x3_), (4, .int x4_), (5, .int x5_)] rfl ?_
  refine rn_aload_n (i := 0) dX6_means_0 rfl rfl ?_
  obtain ⟨q1, fs1, hq1, hl1, hf1⟩ := ts_obj hW m0_ hk_6
  obtain ⟨x2, hx2, rx2⟩ := fs_i hf1 0 rfl
  refine rn_get q1 kg_SG_Policy_9 hl1 hx2 dX6_means_1 ?_
  refine rn_iload_n (i := 1) dX6_means_4 rfl rfl ?_
  refine rn_icmp_ne (tgt := 59) dX6_means_5 (by decide) (fun h3 => ?_) (fun h3 => ?_)
  · have ch3 := cv_ne h3
    refine rn_iconst (v := (0 : Int32)) dX6_means_59 (by decide) ?_
    exact rn_iret dX6_means_60 rfl rfl (rq_in ⟨rfl, (0 : Int32), rfl, (rg_w rk_0 (by decide) (by decide))⟩)
  · have ch3 := cv_eq h3
    refine rn_aload_n (i := 0) dX6_means_8 rfl rfl ?_
    obtain ⟨o4, hx4, m4⟩ := fs_r hf1 1 rfl
    refine rn_get q1 kg_SG_Policy_15 hl1 hx4 dX6_means_9 ?_
    refine rn_iload_n (i := 2) dX6_means_12 rfl rfl ?_
    obtain ⟨q5, fs5, hq5, hl5, hf5⟩ := ts_obj hW m4 hk_3
    refine rn_callV (a := 0) (b := 0) [.int x2_] kl_SG_Policy_34 dX6_means_13 q5 hl5 rfl (t_X3_has G S ws hW o4 m4 x2_) rfl rfl (Nat.le_of_ble_eq_true rfl) (Nat.le_of_ble_eq_true rfl) (Nat.le_of_ble_eq_true rfl) (Nat.le_of_ble_eq_true rfl) (Nat.le_of_ble_eq_true rfl) (Nat.le_of_ble_eq_true rfl) (fun _ _ h => False.elim h) (fun v9 w6 h7 => ?_)
    obtain ⟨rfl, v8, rfl, rv8⟩ := h7
    refine rn_stk [.int v8] rfl ?_
    refine rn_if_eq (tgt := 59) dX6_means_16 (by decide) (fun h10 => ?_) (fun h10 => ?_)
    · have ch10 := cv_eq h10
      have r11 : Rg (0) (0) v8 := rf_eqx ch10 rv8 rk_0 (by decide) (by decide)
      refine rn_iconst (v := (0 : Int32)) dX6_means_59 (by decide) ?_
      exact rn_iret dX6_means_60 rfl rfl (rq_in ⟨rfl, (0 : Int32), rfl, (rg_w rk_0 (by decide) (by decide))⟩)
    · have ch10 := cv_ne h10
      have r12 : Rg (1) (1) v8 := rf_nel ch10 rv8 rk_0 (by decide) (by decide)
      refine rn_aload_n (i := 0) dX6_means_19 rfl rfl ?_
      obtain ⟨o13, hx13, m13⟩ := fs_r hf1 2 rfl
      refine rn_get q1 kg_SG_Policy_19 hl1 hx13 dX6_means_20 ?_
      refine rn_iload_n (i := 3) dX6_means_23 rfl rfl ?_
      obtain ⟨q14, fs14, hq14, hl14, hf14⟩ := ts_obj hW m13 hk_3
      refine rn_callV (a := 0) (b := 0) [.int x3_] kl_SG_Policy_34 dX6_means_24 q14 hl14 rfl (t_X3_has G S ws hW o13 m13 x3_) rfl rfl (Nat.le_of_ble_eq_true rfl) (Nat.le_of_ble_eq_true rfl) (Nat.le_of_ble_eq_true rfl) (Nat.le_of_ble_eq_true rfl) (Nat.le_of_ble_eq_true rfl) (Nat.le_of_ble_eq_true rfl) (fun _ _ h => False.elim h) (fun v9 w15 h16 => ?_)
      obtain ⟨rfl, v17, rfl, rv17⟩ := h16
      refine rn_stk [.int v17] rfl ?_
      refine rn_if_eq (tgt := 59) dX6_means_27 (by decide) (fun h19 => ?_) (fun h19 => ?_)
      · have ch19 := cv_eq h19
        have r20 : Rg (0) (0) v17 := rf_eqx ch19 rv17 rk_0 (by decide) (by decide)
        refine rn_iconst (v := (0 : Int32)) dX6_means_59 (by decide) ?_
        exact rn_iret dX6_means_60 rfl rfl (rq_in ⟨rfl, (0 : Int32), rfl, (rg_w rk_0 (by decide) (by decide))⟩)
      · have ch19 := cv_ne h19
        have r21 : Rg (1) (1) v17 := rf_nel ch19 rv17 rk_0 (by decide) (by decide)
        refine rn_aload_n (i := 0) dX6_means_30 rfl rfl ?_
        obtain ⟨x22, hx22, rx22⟩ := fs_i hf1 4 rfl
        refine rn_get q1 kg_SG_Policy_25 hl1 hx22 dX6_means_31 ?_
        refine rn_if_eq (tgt := 46) dX6_means_34 (by decide) (fun h23 => ?_) (fun h23 => ?_)
        · have ch23 := cv_eq h23
          have r24 : Rg (0) (0) x22 := rf_eqx ch23 rx22 rk_0 (by decide) (by decide)
          refine rn_aload_n (i := 0) dX6_means_46 rfl rfl ?_
          refine rn_iload dX6_means_47 rfl ?_
          refine rn_callV (a := 0) (b := 0) [.int x5_] kl_SG_Policy_40 dX6_means_49 q1 hl1 rfl (t_X6_meansDoor G S ws hW o0_ m0_ x5_) rfl rfl (Nat.le_of_ble_eq_true rfl) (Nat.le_of_ble_eq_true rfl) (Nat.le_of_ble_eq_true rfl) (Nat.le_of_ble_eq_true rfl) (Nat.le_of_ble_eq_true rfl) (Nat.le_of_ble_eq_true rfl) (fun _ _ h => False.elim h) (fun v9 w25 h26 => ?_)
          obtain ⟨rfl, v27, rfl, rv27⟩ := h26
          refine rn_stk [.int v27] rfl ?_
          refine rn_if_eq (tgt := 59) dX6_means_52 (by decide) (fun h29 => ?_) (fun h29 => ?_)
          · have ch29 := cv_eq h29
            have r30 : Rg (0) (0) v27 := rf_eqx ch29 rv27 rk_0 (by decide) (by decide)
            refine rn_iconst (v := (0 : Int32)) dX6_means_59 (by decide) ?_
            exact rn_iret dX6_means_60 rfl rfl (rq_in ⟨rfl, (0 : Int32), rfl, (rg_w rk_0 (by decide) (by decide))⟩)
          · have ch29 := cv_ne h29
            have r31 : Rg (1) (1) v27 := rf_nel ch29 rv27 rk_0 (by decide) (by decide)
            refine rn_iconst (v := (1 : Int32)) dX6_means_55 (by decide) ?_
            refine rn_goto (tgt := 60) dX6_means_56 (by decide) ?_
            exact rn_iret dX6_means_60 rfl rfl (rq_in ⟨rfl, (1 : Int32), rfl, (rg_w rk_1 (by decide) (by decide))⟩)
        · have ch23 := cv_ne h23
          refine rn_aload_n (i := 0) dX6_means_37 rfl rfl ?_
          refine rn_get q1 kg_SG_Policy_25 hl1 hx22 dX6_means_38 ?_
          refine rn_iload dX6_means_41 rfl ?_
          refine rn_icmp_ne (tgt := 59) dX6_means_43 (by decide) (fun h32 => ?_) (fun h32 => ?_)
          · have ch32 := cv_ne h32
            refine rn_iconst (v := (0 : Int32)) dX6_means_59 (by decide) ?_
            exact rn_iret dX6_means_60 rfl rfl (rq_in ⟨rfl, (0 : Int32), rfl, (rg_w rk_0 (by decide) (by decide))⟩)
          · have ch32 := cv_eq h32
            refine rn_aload_n (i := 0) dX6_means_46 rfl rfl ?_
            refine rn_iload dX6_means_47 rfl ?_
            refine rn_callV (a := 0) (b := 0) [.int x5_] kl_SG_Policy_40 dX6_means_49 q1 hl1 rfl (t_X6_meansDoor G S ws hW o0_ m0_ x5_) rfl rfl (Nat.le_of_ble_eq_true rfl) (Nat.le_of_ble_eq_true rfl) (Nat.le_of_ble_eq_true rfl) (Nat.le_of_ble_eq_true rfl) (Nat.le_of_ble_eq_true rfl) (Nat.le_of_ble_eq_true rfl) (fun _ _ h => False.elim h) (fun v9 w33 h34 => ?_)
            obtain ⟨rfl, v35, rfl, rv35⟩ := h34
            refine rn_stk [.int v35] rfl ?_
            refine rn_if_eq (tgt := 59) dX6_means_52 (by decide) (fun h37 => ?_) (fun h37 => ?_)
            · have ch37 := cv_eq h37
              have r38 : Rg (0) (0) v35 := rf_eqx ch37 rv35 rk_0 (by decide) (by decide)
              refine rn_iconst (v := (0 : Int32)) dX6_means_59 (by decide) ?_
              exact rn_iret dX6_means_60 rfl rfl (rq_in ⟨rfl, (0 : Int32), rfl, (rg_w rk_0 (by decide) (by decide))⟩)
            · have ch37 := cv_ne h37
              have r39 : Rg (1) (1) v35 := rf_nel ch37 rv35 rk_0 (by decide) (by decide)
              refine rn_iconst (v := (1 : Int32)) dX6_means_55 (by decide) ?_
              refine rn_goto (tgt := 60) dX6_means_56 (by decide) ?_
              exact rn_iret dX6_means_60 rfl rfl (rq_in ⟨rfl, (1 : Int32), rfl, (rg_w rk_1 (by decide) (by decide))⟩)
