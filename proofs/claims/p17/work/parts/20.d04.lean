abbrev q_t_X1_giveWhole (G : rn_G) (S : ts_S) (ws : va_W) : rn_R → va_W → Prop := rQ (fun v w => St G S [1, 4, 11, 13] ws S w ∧ (∃ x : Int32, v = some (.int x) ∧ Rg (0) (1) x)) (fun E w => False)
set_option maxRecDepth 20000 in
set_option maxHeartbeats 4000000 in
theorem t_X1_giveWhole (G : rn_G) (S : ts_S) (ws : va_W) (hW : ts_W G S ws) (o0_ : Nat) (m0_ : (o0_, 1) ∈ S) (o1_ : Nat) (m1_ : (o1_, 4) ∈ S) : Rn G mX1_giveWhole 4 128 0 0 0 (lv_args 0 [.ref o0_, .ref o1_]) [] ws (q_t_X1_giveWhole G S ws ) := by
  have hS0 : St G S [1, 4, 11, 13] ws S ws := St.rf hW
  refine rn_lv [(0, .ref o0_), (1, .ref o1_)] rfl ?_
  refine rn_aload_n (i := 0) dX1_giveWhole_0 rfl rfl ?_
  refine rn_aload_n (i := 1) dX1_giveWhole_1 rfl rfl ?_
  obtain ⟨q1, fs1, hq1, hl1, hf1⟩ := ts_obj hS0.1 m0_ hk_1
  refine rn_callV (a := 0) (b := 0) [.ref o1_] kl_SG_Heaps_35 dX1_giveWhole_2 q1 hl1 rfl (t_X1_placeOf G S ws hS0.1 o0_ m0_ o1_ m1_) rfl rfl (Nat.le_of_ble_eq_true rfl) (Nat.le_of_ble_eq_true rfl) (Nat.le_of_ble_eq_true rfl) (Nat.le_of_ble_eq_true rfl) (Nat.le_of_ble_eq_true rfl) (Nat.le_of_ble_eq_true rfl) (fun _ _ h => False.elim h) (fun v9 w2 h3 => ?_)
  obtain ⟨rfl, v4, rfl, rv4⟩ := h3
  refine rn_stk [.int v4] rfl ?_
  refine rn_istore_n dX1_giveWhole_5 rfl (by decide) [(0, .ref o0_), (1, .ref o1_), (2, .int v4)] rfl ?_
  refine rn_aload_n (i := 0) dX1_giveWhole_6 rfl rfl ?_
  refine rn_iload_n (i := 2) dX1_giveWhole_7 rfl rfl ?_
  refine rn_inV (d' := 0) (z' := 0) [.int v4] kl_SG_Heaps_39 dX1_giveWhole_8 q1 hl1 rfl rfl rfl (Nat.le_of_ble_eq_true rfl) (Nat.le_of_ble_eq_true rfl) (Nat.le_of_ble_eq_true rfl) (Nat.le_of_ble_eq_true rfl) ?_
  refine rn_lv [(0, .ref o0_), (1, .int v4)] rfl ?_
  refine rn_iload_n (i := 1) dX1_heapAt_0 rfl rfl ?_
  refine rn_if_lt (tgt := 26) dX1_heapAt_1 (by decide) (fun h6 => ?_) (fun h6 => ?_)
  · have ch6 := cv_lt h6
    have r7 : Rg (-1) (-1) v4 := rf_ltx ch6 rv4 rk_0 (by decide)
    refine rn_null dX1_heapAt_26 ?_
    refine rn_aretN dX1_heapAt_27 rfl (rq_in ?_)
    refine rn_stk [.null] rfl ?_
    refine rn_astore_nN dX1_giveWhole_11 rfl (by decide) [(0, .ref o0_), (1, .ref o1_), (2, .int v4), (3, .null)] rfl ?_
    refine rn_aload_nN (i := 3) dX1_giveWhole_12 rfl rfl ?_
    refine rn_ifnullN (tgt := 23) dX1_giveWhole_13 (by decide) ?_
    refine rn_iconst (v := (0 : Int32)) dX1_giveWhole_23 (by decide) ?_
    exact rn_iret dX1_giveWhole_24 rfl rfl (rq_in ⟨hS0, (0 : Int32), rfl, (rg_w rk_0 (by decide) (by decide))⟩)
  · have ch6 := cv_nlt h6
    have r8 : Rg (0) (3) v4 := rf_ley ch6 rk_0 rv4 (by decide)
    refine rn_iload_n (i := 1) dX1_heapAt_4 rfl rfl ?_
    refine rn_aload_n (i := 0) dX1_heapAt_5 rfl rfl ?_
    obtain ⟨x9, hx9, rx9⟩ := fs_i hf1 1 rfl
    refine rn_get q1 kg_SG_Heaps_17 hl1 hx9 dX1_heapAt_6 ?_
    refine rn_icmp_ge (tgt := 26) dX1_heapAt_9 (by decide) (fun h10 => ?_) (fun h10 => ?_)
    · have ch10 := cv_le h10
      have r11 : Rg (0) (3) x9 := rf_lex ch10 rx9 r8 (by decide)
      refine rn_null dX1_heapAt_26 ?_
      refine rn_aretN dX1_heapAt_27 rfl (rq_in ?_)
      refine rn_stk [.null] rfl ?_
      refine rn_astore_nN dX1_giveWhole_11 rfl (by decide) [(0, .ref o0_), (1, .ref o1_), (2, .int v4), (3, .null)] rfl ?_
      refine rn_aload_nN (i := 3) dX1_giveWhole_12 rfl rfl ?_
      refine rn_ifnullN (tgt := 23) dX1_giveWhole_13 (by decide) ?_
      refine rn_iconst (v := (0 : Int32)) dX1_giveWhole_23 (by decide) ?_
      exact rn_iret dX1_giveWhole_24 rfl rfl (rq_in ⟨hS0, (0 : Int32), rfl, (rg_w rk_0 (by decide) (by decide))⟩)
    · have ch10 := cv_nle h10
      have r12 : Rg (1) (4) x9 := rf_lty ch10 r8 rx9 (by decide)
      refine rn_iload_n (i := 1) dX1_heapAt_12 rfl rfl ?_
      refine rn_iconst (v := (4 : Int32)) dX1_heapAt_13 (by decide) ?_
      refine rn_icmp_ge (tgt := 26) dX1_heapAt_14 (by decide) (fun h13 => (cx_le (cv_le h13) rk_4 r8 (by decide)).elim) (fun h13 => ?_)
      have ch13 := cv_nle h13
      refine rn_aload_n (i := 0) dX1_heapAt_17 rfl rfl ?_
      obtain ⟨o14, hx14, m14⟩ := fs_r hf1 0 rfl
      refine rn_get q1 kg_SG_Heaps_13 hl1 hx14 dX1_heapAt_18 ?_
      refine rn_iload_n (i := 1) dX1_heapAt_21 rfl rfl ?_
      obtain ⟨q15, f15, hq15, hl15, hf15⟩ := ts_ra hS0.1 m14 hk_13
      refine rs_aald q15 hl15 hf15 rfl r8 (by decide) (by decide) dX1_heapAt_22 ?_ (fun o16 mo16 => ?_)
      · refine rn_goto (tgt := 27) dX1_heapAt_23 (by decide) ?_
        refine rn_aretN dX1_heapAt_27 rfl (rq_in ?_)
        refine rn_stk [.null] rfl ?_
        refine rn_astore_nN dX1_giveWhole_11 rfl (by decide) [(0, .ref o0_), (1, .ref o1_), (2, .int v4), (3, .null)] rfl ?_
        refine rn_aload_nN (i := 3) dX1_giveWhole_12 rfl rfl ?_
        refine rn_ifnullN (tgt := 23) dX1_giveWhole_13 (by decide) ?_
        refine rn_iconst (v := (0 : Int32)) dX1_giveWhole_23 (by decide) ?_
        exact rn_iret dX1_giveWhole_24 rfl rfl (rq_in ⟨hS0, (0 : Int32), rfl, (rg_w rk_0 (by decide) (by decide))⟩)
      · refine rn_goto (tgt := 27) dX1_heapAt_23 (by decide) ?_
        refine rn_aret dX1_heapAt_27 rfl (rq_in ?_)
        refine rn_stk [.ref o16] rfl ?_
        refine rn_astore_n dX1_giveWhole_11 rfl (by decide) [(0, .ref o0_), (1, .ref o1_), (2, .int v4), (3, .ref o16)] rfl ?_
        refine rn_aload_n (i := 3) dX1_giveWhole_12 rfl rfl ?_
        refine rn_ifnull dX1_giveWhole_13 ?_
        refine rn_aload_n (i := 3) dX1_giveWhole_16 rfl rfl ?_
        obtain ⟨q17, fs17, hq17, hl17, hf17⟩ := ts_obj hS0.1 mo16 hk_0
        refine rn_callV (a := 0) (b := 0) [] kl_SG_Heaps_58 dX1_giveWhole_17 q17 hl17 rfl (t_X0_isWhole G S ws hS0.1 o16 mo16) rfl rfl (Nat.le_of_ble_eq_true rfl) (Nat.le_of_ble_eq_true rfl) (Nat.le_of_ble_eq_true rfl) (Nat.le_of_ble_eq_true rfl) (Nat.le_of_ble_eq_true rfl) (Nat.le_of_ble_eq_true rfl) (fun _ _ h => False.elim h) (fun v9 w18 h19 => ?_)
        obtain ⟨rfl, v20, rfl, rv20⟩ := h19
        refine rn_stk [.int v20] rfl ?_
        refine rn_if_ne (tgt := 25) dX1_giveWhole_20 (by decide) (fun h22 => ?_) (fun h22 => ?_)
        · have ch22 := cv_ne h22
          have r23 : Rg (1) (1) v20 := rf_nel ch22 rv20 rk_0 (by decide) (by decide)
          refine rn_aload_n (i := 3) dX1_giveWhole_25 rfl rfl ?_
          refine rn_aload_n (i := 1) dX1_giveWhole_26 rfl rfl ?_
          refine rn_callV (a := 0) (b := 0) [.ref o1_] kl_SG_Heaps_61 dX1_giveWhole_27 q17 hl17 rfl (t_X0_writeWhole G S ws hS0.1 o16 mo16 o1_ m1_) rfl rfl (Nat.le_of_ble_eq_true rfl) (Nat.le_of_ble_eq_true rfl) (Nat.le_of_ble_eq_true rfl) (Nat.le_of_ble_eq_true rfl) (Nat.le_of_ble_eq_true rfl) (Nat.le_of_ble_eq_true rfl) (fun _ _ h => False.elim h) (fun v9 w24 h25 => ?_)
          obtain ⟨hT26, rfl⟩ := h25
          have hS26 := St.tr hS0 hT26 rfl
          refine rn_stk [] rfl ?_
          refine rn_aload_n (i := 0) dX1_giveWhole_30 rfl rfl ?_
          refine rn_iload_n (i := 2) dX1_giveWhole_31 rfl rfl ?_
          refine rn_callV (a := 0) (b := 0) [.int v4] kl_SG_Heaps_31 dX1_giveWhole_32 q1 (hT26.fr hq1 rfl hl1) rfl (t_X1_drop G S w24 hS26.1 o0_ m0_ v4) rfl rfl (Nat.le_of_ble_eq_true rfl) (Nat.le_of_ble_eq_true rfl) (Nat.le_of_ble_eq_true rfl) (Nat.le_of_ble_eq_true rfl) (Nat.le_of_ble_eq_true rfl) (Nat.le_of_ble_eq_true rfl) (fun _ _ h => False.elim h) (fun v9 w27 h28 => ?_)
          obtain ⟨hT29, rfl⟩ := h28
          have hS29 := St.tr hS26 hT29 rfl
          refine rn_stk [] rfl ?_
          refine rn_iconst (v := (1 : Int32)) dX1_giveWhole_35 (by decide) ?_
          exact rn_iret dX1_giveWhole_36 rfl rfl (rq_in ⟨hS29, (1 : Int32), rfl, (rg_w rk_1 (by decide) (by decide))⟩)
        · have ch22 := cv_eq h22
          have r30 : Rg (0) (0) v20 := rf_eqx ch22 rv20 rk_0 (by decide) (by decide)
          refine rn_iconst (v := (0 : Int32)) dX1_giveWhole_23 (by decide) ?_
          exact rn_iret dX1_giveWhole_24 rfl rfl (rq_in ⟨hS0, (0 : Int32), rfl, (rg_w rk_0 (by decide) (by decide))⟩)
abbrev q_t_X2_size (G : rn_G) (S : ts_S) (ws : va_W) : rn_R → va_W → Prop := rQ (fun v w => ws = w ∧ (∃ x : Int32, v = some (.int x) ∧ Rg (0) (16) x)) (fun E w => False)
set_option maxRecDepth 20000 in
set_option maxHeartbeats 4000000 in
theorem t_X2_size (G : rn_G) (S : ts_S) (ws : va_W) (hW : ts_W G S ws) (o0_ : Nat) (m0_ : (o0_, 2) ∈ S) : Rn G mX2_size 0 0 0 0 0 (lv_args 0 [.ref o0_]) [] ws (q_t_X2_size G S ws ) := by
  refine rn_lv [(0, .ref o0_)] rfl ?_
  refine rn_aload_n (i := 0) dX2_size_0 rfl rfl ?_
  obtain ⟨q1, fs1, hq1, hl1, hf1⟩ := ts_obj hW m0_ hk_2
  obtain ⟨x2, hx2, rx2⟩ := fs_i hf1 1 rfl
  refine rn_get q1 kg_SG_Log_13 hl1 hx2 dX2_size_1 ?_
  exact rn_iret dX2_size_4 rfl rfl (rq_in ⟨rfl, x2, rfl, rx2⟩)
abbrev q_t_X2_empty (G : rn_G) (S : ts_S) (ws : va_W) : rn_R → va_W → Prop := rQ (fun v w => St G S [2] ws S w ∧ (v = none)) (fun E w => False)
set_option maxRecDepth 20000 in
set_option maxHeartbeats 4000000 in
theorem t_X2_empty (G : rn_G) (S : ts_S) (ws : va_W) (hW : ts_W G S ws) (o0_ : Nat) (m0_ : (o0_, 2) ∈ S) : Rn G mX2_empty 0 0 0 0 0 (lv_args 0 [.ref o0_]) [] ws (q_t_X2_empty G S ws ) := by
  have hS0 : St G S [2] ws S ws := St.rf hW
  refine rn_lv [(0, .ref o0_)] rfl ?_
  refine rn_aload_n (i := 0) dX2_empty_0 rfl rfl ?_
  refine rn_iconst (v := (0 : Int32)) dX2_empty_1 (by decide) ?_
  obtain ⟨q1, fs1, hq1, hl1, hf1⟩ := ts_obj hS0.1 m0_ hk_2
  refine rs_put q1 (kp_SG_Log_13 _) hS0 hq1 hl1 hf1 hk_2 rfl rfl (tv_i (rg_w rk_0 (by decide) (by decide))) rfl rfl dX2_empty_2 (fun w2 fs3 hS3 hl3 hf3 hx3 ho3 hn3 => ?_)
  exact rn_vret dX2_empty_5 rfl (rq_in ⟨hS3, rfl⟩)
abbrev q_t_X2_cell (G : rn_G) (S : ts_S) (ws : va_W) : rn_R → va_W → Prop := rQ (fun v w => ws = w ∧ (∃ x : Int32, v = some (.int x) ∧ Rg (-2147483648) (2147483647) x)) (fun E w => False)
set_option maxRecDepth 20000 in
set_option maxHeartbeats 4000000 in
theorem t_X2_cell (G : rn_G) (S : ts_S) (ws : va_W) (hW : ts_W G S ws) (o0_ : Nat) (m0_ : (o0_, 2) ∈ S) (x1_ : Int32) (x2_ : Int32) : Rn G mX2_cell 0 0 0 0 0 (lv_args 0 [.ref o0_, .int x1_, .int x2_]) [] ws (q_t_X2_cell G S ws ) := by
  refine rn_lv [(0, .ref o0_), (1, .int x1_), (2, .int x2_)] rfl ?_
  refine rn_iload_n (i := 1) dX2_cell_0 rfl rfl ?_
  refine rn_if_lt (tgt := 31) dX2_cell_1 (by decide) (fun h1 => ?_) (fun h1 => ?_)
  · have ch1 := cv_lt h1
    have r2 : Rg (-2147483648) (-1) x1_ := rf_ltx ch1 (rg_any x1_) rk_0 (by decide)
    refine rn_iconst (v := (0 : Int32)) dX2_cell_31 (by decide) ?_
    refine rn_istore_n dX2_cell_32 rfl (by decide) [(0, .ref o0_), (1, .int x1_), (2, .int x2_), (3, .int (0 : Int32))] rfl ?_
    refine rn_iload_n (i := 3) dX2_cell_33 rfl rfl ?_
    refine rn_if_eq (tgt := 50) dX2_cell_34 (by decide) (fun h3 => ?_) (fun h3 => (cx_ne (cv_ne h3) rk_0 rk_0 (by decide)).elim)
    refine rn_iconst (v := (0 : Int32)) dX2_cell_50 (by decide) ?_
    exact rn_iret dX2_cell_51 rfl rfl (rq_in ⟨rfl, (0 : Int32), rfl, (rg_w rk_0 (by decide) (by decide))⟩)
  · have ch1 := cv_nlt h1
    have r4 : Rg (0) (2147483647) x1_ := rf_ley ch1 rk_0 (rg_any x1_) (by decide)
    refine rn_iload_n (i := 1) dX2_cell_4 rfl rfl ?_
    refine rn_aload_n (i := 0) dX2_cell_5 rfl rfl ?_
    obtain ⟨q5, fs5, hq5, hl5, hf5⟩ := ts_obj hW m0_ hk_2
    obtain ⟨x6, hx6, rx6⟩ := fs_i hf5 1 rfl
    refine rn_get q5 kg_SG_Log_13 hl5 hx6 dX2_cell_6 ?_
    refine rn_icmp_ge (tgt := 31) dX2_cell_9 (by decide) (fun h7 => ?_) (fun h7 => ?_)
    · have ch7 := cv_le h7
      refine rn_iconst (v := (0 : Int32)) dX2_cell_31 (by decide) ?_
      refine rn_istore_n dX2_cell_32 rfl (by decide) [(0, .ref o0_), (1, .int x1_), (2, .int x2_), (3, .int (0 : Int32))] rfl ?_
      refine rn_iload_n (i := 3) dX2_cell_33 rfl rfl ?_
      refine rn_if_eq (tgt := 50) dX2_cell_34 (by decide) (fun h8 => ?_) (fun h8 => (cx_ne (cv_ne h8) rk_0 rk_0 (by decide)).elim)
      refine rn_iconst (v := (0 : Int32)) dX2_cell_50 (by decide) ?_
      exact rn_iret dX2_cell_51 rfl rfl (rq_in ⟨rfl, (0 : Int32), rfl, (rg_w rk_0 (by decide) (by decide))⟩)
    · have ch7 := cv_nle h7
      have r9 : Rg (0) (15) x1_ := rf_ltx ch7 r4 rx6 (by decide)
      have r10 : Rg (1) (16) x6 := rf_lty ch7 r4 rx6 (by decide)
      refine rn_iload_n (i := 1) dX2_cell_12 rfl rfl ?_
      refine rn_bipush (v := (16 : Int32)) dX2_cell_13 (by decide) ?_
      refine rn_icmp_ge (tgt := 31) dX2_cell_15 (by decide) (fun h11 => (cx_le (cv_le h11) rk_16 r9 (by decide)).elim) (fun h11 => ?_)
      have ch11 := cv_nle h11
      refine rn_iload_n (i := 2) dX2_cell_18 rfl rfl ?_
      refine rn_if_lt (tgt := 31) dX2_cell_19 (by decide) (fun h12 => ?_) (fun h12 => ?_)
      · have ch12 := cv_lt h12
        have r13 : Rg (-2147483648) (-1) x2_ := rf_ltx ch12 (rg_any x2_) rk_0 (by decide)
        refine rn_iconst (v := (0 : Int32)) dX2_cell_31 (by decide) ?_
        refine rn_istore_n dX2_cell_32 rfl (by decide) [(0, .ref o0_), (1, .int x1_), (2, .int x2_), (3, .int (0 : Int32))] rfl ?_
        refine rn_iload_n (i := 3) dX2_cell_33 rfl rfl ?_
        refine rn_if_eq (tgt := 50) dX2_cell_34 (by decide) (fun h14 => ?_) (fun h14 => (cx_ne (cv_ne h14) rk_0 rk_0 (by decide)).elim)
        refine rn_iconst (v := (0 : Int32)) dX2_cell_50 (by decide) ?_
        exact rn_iret dX2_cell_51 rfl rfl (rq_in ⟨rfl, (0 : Int32), rfl, (rg_w rk_0 (by decide) (by decide))⟩)
      · have ch12 := cv_nlt h12
        have r15 : Rg (0) (2147483647) x2_ := rf_ley ch12 rk_0 (rg_any x2_) (by decide)
        refine rn_iload_n (i := 2) dX2_cell_22 rfl rfl ?_
        refine rn_iconst (v := (5 : Int32)) dX2_cell_23 (by decide) ?_
        refine rn_icmp_ge (tgt := 31) dX2_cell_24 (by decide) (fun h16 => ?_) (fun h16 => ?_)
        · have ch16 := cv_le h16
          have r17 : Rg (5) (2147483647) x2_ := rf_ley ch16 rk_5 r15 (by decide)
          refine rn_iconst (v := (0 : Int32)) dX2_cell_31 (by decide) ?_
          refine rn_istore_n dX2_cell_32 rfl (by decide) [(0, .ref o0_), (1, .int x1_), (2, .int x2_), (3, .int (0 : Int32))] rfl ?_
          refine rn_iload_n (i := 3) dX2_cell_33 rfl rfl ?_
          refine rn_if_eq (tgt := 50) dX2_cell_34 (by decide) (fun h18 => ?_) (fun h18 => (cx_ne (cv_ne h18) rk_0 rk_0 (by decide)).elim)
          refine rn_iconst (v := (0 : Int32)) dX2_cell_50 (by decide) ?_
          exact rn_iret dX2_cell_51 rfl rfl (rq_in ⟨rfl, (0 : Int32), rfl, (rg_w rk_0 (by decide) (by decide))⟩)
        · have ch16 := cv_nle h16
          have r19 : Rg (0) (4) x2_ := rf_ltx ch16 r15 rk_5 (by decide)
          refine rn_iconst (v := (1 : Int32)) dX2_cell_27 (by decide) ?_
          refine rn_goto (tgt := 32) dX2_cell_28 (by decide) ?_
          refine rn_istore_n dX2_cell_32 rfl (by decide) [(0, .ref o0_), (1, .int x1_), (2, .int x2_), (3, .int (1 : Int32))] rfl ?_
          refine rn_iload_n (i := 3) dX2_cell_33 rfl rfl ?_
          refine rn_if_eq (tgt := 50) dX2_cell_34 (by decide) (fun h20 => (cx_eq (cv_eq h20) rk_1 rk_0 (by decide)).elim) (fun h20 => ?_)
          refine rn_aload_n (i := 0) dX2_cell_37 rfl rfl ?_
          obtain ⟨o21, hx21, m21⟩ := fs_r hf5 0 rfl
          refine rn_get q5 kg_SG_Log_9 hl5 hx21 dX2_cell_38 ?_
          refine rn_iload_n (i := 1) dX2_cell_41 rfl rfl ?_
          refine rn_iconst (v := (5 : Int32)) dX2_cell_42 (by decide) ?_
          refine rs_mulC (0) (75) r9 rk_5 dX2_cell_43 (by decide) (fun v22 ev22 rv22 => ?_)
          refine rn_iload_n (i := 2) dX2_cell_44 rfl rfl ?_
          refine rs_addR (0) (79) rv22 r19 dX2_cell_45 (by decide) (fun v23 ev23 rv23 => ?_)
          obtain ⟨q24, f24, hq24, hl24, hf24⟩ := ts_ia hW m21 hk_14
          refine rs_iald q24 hl24 hf24 rfl rv23 (by decide) (by decide) dX2_cell_46 (fun v25 ev25 rv25 => ?_)
          refine rn_goto (tgt := 51) dX2_cell_47 (by decide) ?_
          exact rn_iret dX2_cell_51 rfl rfl (rq_in ⟨rfl, v25, rfl, rv25⟩)
abbrev q_t_X4_to (G : rn_G) (S : ts_S) (ws : va_W) : rn_R → va_W → Prop := rQ (fun v w => ws = w ∧ (∃ x : Int32, v = some (.int x) ∧ Rg (-2147483648) (2147483647) x)) (fun E w => False)
set_option maxRecDepth 20000 in
set_option maxHeartbeats 4000000 in
theorem t_X4_to (G : rn_G) (S : ts_S) (ws : va_W) (hW : ts_W G S ws) (o0_ : Nat) (m0_ : (o0_, 4) ∈ S) : Rn G mX4_to 1 22 0 0 0 (lv_args 0 [.ref o0_]) [] ws (q_t_X4_to G S ws ) := by
  refine rn_lv [(0, .ref o0_)] rfl ?_
  refine rn_aload_n (i := 0) dX4_to_0 rfl rfl ?_
  refine rn_bipush (v := (16 : Int32)) dX4_to_1 (by decide) ?_
  obtain ⟨q1, fs1, hq1, hl1, hf1⟩ := ts_obj hW m0_ hk_4
  refine rn_callV (a := 0) (b := 0) [.int (16 : Int32)] kl_SG_Packet_25 dX4_to_3 q1 hl1 rfl (t_X4_wordAt G S ws hW o0_ m0_ (16 : Int32)) rfl rfl (Nat.le_of_ble_eq_true rfl) (Nat.le_of_ble_eq_true rfl) (Nat.le_of_ble_eq_true rfl) (Nat.le_of_ble_eq_true rfl) (Nat.le_of_ble_eq_true rfl) (Nat.le_of_ble_eq_true rfl) (fun _ _ h => False.elim h) (fun v9 w2 h3 => ?_)
  obtain ⟨rfl, v4, rfl, rv4⟩ := h3
  refine rn_stk [.int v4] rfl ?_
  exact rn_iret dX4_to_6 rfl rfl (rq_in ⟨rfl, v4, rfl, rv4⟩)
abbrev q_t_X2_note (G : rn_G) (S : ts_S) (ws : va_W) : rn_R → va_W → Prop := rQ (fun v w => St G S [2, 14] ws S w ∧ (v = none)) (fun E w => False)
set_option maxRecDepth 20000 in
set_option maxHeartbeats 4000000 in
theorem t_X2_note (G : rn_G) (S : ts_S) (ws : va_W) (hW : ts_W G S ws) (o0_ : Nat) (m0_ : (o0_, 2) ∈ S) (x1_ : Int32) (o2_ : Nat) (m2_ : (o2_, 4) ∈ S) (x3_ : Int32) (x4_ : Int32) : Rn G mX2_note 2 42 0 0 0 (lv_args 0 [.ref o0_, .int x1_, .ref o2_, .int x3_, .int x4_]) [] ws (q_t_X2_note G S ws ) := by
  have hS0 : St G S [2, 14] ws S ws := St.rf hW
  refine rn_lv [(0, .ref o0_), (1, .int x1_), (2, .ref o2_), (3, .int x3_), (4, .int x4_)] rfl ?_
  refine rn_bipush (v := (79 : Int32)) dX2_note_0 (by decide) ?_
  refine rn_istore dX2_note_2 (by decide) [(0, .ref o0_), (1, .int x1_), (2, .ref o2_), (3, .int x3_), (4, .int x4_), (5, .int (79 : Int32))] rfl ?_
  have LP2 : ∀ (n : Nat) (w3 : va_W) (x1 : Int32), St G S [14] ws S w3 → Rg (4) (79) x1 → (x1.toInt - (4)).toNat = n → Rn G mX2_note 2 42 0 0 4 [(0, .ref o0_), (1, .int x1_), (2, .ref o2_), (3, .int x3_), (4, .int x4_), (5, .int x1)] [] w3 (q_t_X2_note G S ws ) := by
    intro n
    induction n using Nat.strongRecOn with
    | _ n ih =>
      intro w3 x1 hT4 r5 hm6
      refine rn_iload dX2_note_4 rfl ?_
      refine rn_iconst (v := (5 : Int32)) dX2_note_6 (by decide) ?_
      refine rn_icmp_lt (tgt := 32) dX2_note_7 (by decide) (fun h7 => ?_) (fun h7 => ?_)
      · have ch7 := cv_lt h7
        have r8 : Rg (4) (4) x1 := rf_ltx ch7 r5 rk_5 (by decide)
        have hS9 := St.tr hS0 hT4 rfl
        refine rn_aload_n (i := 0) dX2_note_32 rfl rfl ?_
        obtain ⟨q10, fs10, hq10, hl10, hf10⟩ := ts_obj hS9.1 m0_ hk_2
        obtain ⟨o11, hx11, m11⟩ := fs_r hf10 0 rfl
        refine rn_get q10 kg_SG_Log_9 hl10 hx11 dX2_note_33 ?_
        refine rn_iconst (v := (0 : Int32)) dX2_note_36 (by decide) ?_
        refine rn_iload_n (i := 1) dX2_note_37 rfl rfl ?_
        obtain ⟨q12, f12, hq12, hl12, hf12⟩ := ts_ia hS9.1 m11 hk_14
        refine rs_iast q12 hS9 hq12 hl12 hf12 hk_14 rfl rfl rk_0 (by decide) (by decide) (rg_any x1_) dX2_note_38 (fun w13 f14 hS14 hl14 hf14 hu14 hn14 => ?_)
        refine rn_aload_n (i := 0) dX2_note_39 rfl rfl ?_
        refine rn_get q10 kg_SG_Log_9 ((hn14 _ (ts_ne hq12 hq10 rfl)).trans hl10) hx11 dX2_note_40 ?_
        refine rn_iconst (v := (1 : Int32)) dX2_note_43 (by decide) ?_
        refine rn_aload_n (i := 2) dX2_note_44 rfl rfl ?_
        obtain ⟨q15, fs15, hq15, hl15, hf15⟩ := ts_obj hS14.1 m2_ hk_4
        refine rn_callV (a := 0) (b := 0) [] kl_SG_Log_17 dX2_note_45 q15 hl15 rfl (t_X4_from G S w13 hS14.1 o2_ m2_) rfl rfl (Nat.le_of_ble_eq_true rfl) (Nat.le_of_ble_eq_true rfl) (Nat.le_of_ble_eq_true rfl) (Nat.le_of_ble_eq_true rfl) (Nat.le_of_ble_eq_true rfl) (Nat.le_of_ble_eq_true rfl) (fun _ _ h => False.elim h) (fun v9 w16 h17 => ?_)
        obtain ⟨rfl, v18, rfl, rv18⟩ := h17
        refine rn_stk [.int v18, .int (1 : Int32), .ref o11] rfl ?_
        refine rs_iast q12 hS14 hq12 hl14 hf14 hk_14 rfl rfl rk_1 (by decide) (by decide) rv18 dX2_note_48 (fun w20 f21 hS21 hl21 hf21 hu21 hn21 => ?_)
        refine rn_aload_n (i := 0) dX2_note_49 rfl rfl ?_
        refine rn_get q10 kg_SG_Log_9 ((hn21 _ (ts_ne hq12 hq10 rfl)).trans ((hn14 _ (ts_ne hq12 hq10 rfl)).trans hl10)) hx11 dX2_note_50 ?_
        refine rn_iconst (v := (2 : Int32)) dX2_note_53 (by decide) ?_
        refine rn_aload_n (i := 2) dX2_note_54 rfl rfl ?_
        refine rn_callV (a := 0) (b := 0) [] kl_SG_Log_23 dX2_note_55 q15 ((hn21 _ (ts_ne hq12 hq15 rfl)).trans hl15) rfl (t_X4_to G S w20 hS21.1 o2_ m2_) rfl rfl (Nat.le_of_ble_eq_true rfl) (Nat.le_of_ble_eq_true rfl) (Nat.le_of_ble_eq_true rfl) (Nat.le_of_ble_eq_true rfl) (Nat.le_of_ble_eq_true rfl) (Nat.le_of_ble_eq_true rfl) (fun _ _ h => False.elim h) (fun v9 w22 h23 => ?_)
        obtain ⟨rfl, v24, rfl, rv24⟩ := h23
        refine rn_stk [.int v24, .int (2 : Int32), .ref o11] rfl ?_
        refine rs_iast q12 hS21 hq12 hl21 hf21 hk_14 rfl rfl rk_2 (by decide) (by decide) rv24 dX2_note_58 (fun w26 f27 hS27 hl27 hf27 hu27 hn27 => ?_)
        refine rn_aload_n (i := 0) dX2_note_59 rfl rfl ?_
        refine rn_get q10 kg_SG_Log_9 ((hn27 _ (ts_ne hq12 hq10 rfl)).trans ((hn21 _ (ts_ne hq12 hq10 rfl)).trans ((hn14 _ (ts_ne hq12 hq10 rfl)).trans hl10))) hx11 dX2_note_60 ?_
        refine rn_iconst (v := (3 : Int32)) dX2_note_63 (by decide) ?_
        refine rn_iload_n (i := 3) dX2_note_64 rfl rfl ?_
        refine rs_iast q12 hS27 hq12 hl27 hf27 hk_14 rfl rfl rk_3 (by decide) (by decide) (rg_any x3_) dX2_note_65 (fun w28 f29 hS29 hl29 hf29 hu29 hn29 => ?_)
        refine rn_aload_n (i := 0) dX2_note_66 rfl rfl ?_
        refine rn_get q10 kg_SG_Log_9 ((hn29 _ (ts_ne hq12 hq10 rfl)).trans ((hn27 _ (ts_ne hq12 hq10 rfl)).trans ((hn21 _ (ts_ne hq12 hq10 rfl)).trans ((hn14 _ (ts_ne hq12 hq10 rfl)).trans hl10)))) hx11 dX2_note_67 ?_
        refine rn_iconst (v := (4 : Int32)) dX2_note_70 (by decide) ?_
        refine rn_iload dX2_note_71 rfl ?_
        refine rs_iast q12 hS29 hq12 hl29 hf29 hk_14 rfl rfl rk_4 (by decide) (by decide) (rg_any x4_) dX2_note_73 (fun w30 f31 hS31 hl31 hf31 hu31 hn31 => ?_)
        refine rn_aload_n (i := 0) dX2_note_74 rfl rfl ?_
        refine rn_aload_n (i := 0) dX2_note_75 rfl rfl ?_
        obtain ⟨x32, hx32, rx32⟩ := fs_i hf10 1 rfl
        refine rn_get q10 kg_SG_Log_13 ((hn31 _ (ts_ne hq12 hq10 rfl)).trans ((hn29 _ (ts_ne hq12 hq10 rfl)).trans ((hn27 _ (ts_ne hq12 hq10 rfl)).trans ((hn21 _ (ts_ne hq12 hq10 rfl)).trans ((hn14 _ (ts_ne hq12 hq10 rfl)).trans hl10))))) hx32 dX2_note_76 ?_
        refine rn_iconst (v := (1 : Int32)) dX2_note_79 (by decide) ?_
        refine rs_addC (1) (17) rx32 rk_1 dX2_note_80 (by decide) (fun v33 ev33 rv33 => ?_)
        refine rn_bipush (v := (16 : Int32)) dX2_note_81 (by decide) ?_
        refine rn_mmin kl_SG_Log_26 dX2_note_83 (Nat.le_of_ble_eq_true rfl) (Nat.le_of_ble_eq_true rfl) (Nat.le_of_ble_eq_true rfl) (rn_tn (1) (16) (rg_min rv33 rk_16 (by decide)) (fun v34 rv34 => ?_))
        refine rs_put q10 (kp_SG_Log_13 _) hS31 hq10 ((hn31 _ (ts_ne hq12 hq10 rfl)).trans ((hn29 _ (ts_ne hq12 hq10 rfl)).trans ((hn27 _ (ts_ne hq12 hq10 rfl)).trans ((hn21 _ (ts_ne hq12 hq10 rfl)).trans ((hn14 _ (ts_ne hq12 hq10 rfl)).trans hl10))))) hf10 hk_2 rfl rfl (tv_i (rg_w rv34 (by decide) (by decide))) rfl rfl dX2_note_86 (fun w35 fs36 hS36 hl36 hf36 hx36 ho36 hn36 => ?_)
        exact rn_vret dX2_note_89 rfl (rq_in ⟨hS36, rfl⟩)
      · have ch7 := cv_nlt h7
        have r37 : Rg (5) (79) x1 := rf_ley ch7 rk_5 r5 (by decide)
        refine rn_aload_n (i := 0) dX2_note_10 rfl rfl ?_
        obtain ⟨q38, fs38, hq38, hl38, hf38⟩ := ts_obj hT4.1 m0_ hk_2
        obtain ⟨o39, hx39, m39⟩ := fs_r hf38 0 rfl
        refine rn_get q38 kg_SG_Log_9 hl38 hx39 dX2_note_11 ?_
        refine rn_iload dX2_note_14 rfl ?_
        refine rn_aload_n (i := 0) dX2_note_16 rfl rfl ?_
        refine rn_get q38 kg_SG_Log_9 hl38 hx39 dX2_note_17 ?_
        refine rn_iload dX2_note_20 rfl ?_
        refine rn_iconst (v := (5 : Int32)) dX2_note_22 (by decide) ?_
        refine rs_subC (0) (74) r37 rk_5 dX2_note_23 (by decide) (fun v40 ev40 rv40 => ?_)
        obtain ⟨q41, f41, hq41, hl41, hf41⟩ := ts_ia hT4.1 m39 hk_14
        refine rs_iald q41 hl41 hf41 rfl rv40 (by decide) (by decide) dX2_note_24 (fun v42 ev42 rv42 => ?_)
        refine rs_iast q41 hT4 hq41 hl41 hf41 hk_14 rfl rfl r37 (by decide) (by decide) rv42 dX2_note_25 (fun w43 f44 hS44 hl44 hf44 hu44 hn44 => ?_)
        refine rs_iinc (4) (78) dX2_note_26 rfl (by decide) r37 rk_m1 (by decide) (fun v45 => [(0, .ref o0_), (1, .int x1_), (2, .ref o2_), (3, .int x3_), (4, .int x4_), (5, .int v45)]) (fun _ => rfl) (fun v45 ev45 rv45 => ?_)
        refine rn_goto (tgt := 4) dX2_note_29 (by decide) ?_
        refine rn_lv [(0, .ref o0_), (1, .int x1_), (2, .ref o2_), (3, .int x3_), (4, .int x4_), (5, .int v45)] rfl ?_
        exact ih _ (lp_dec hm6 ev45 rv45 (by decide)) w43 v45 hS44 (rg_w rv45 (by decide) (by decide)) rfl
  exact LP2 _ ws (79 : Int32) (St.rf hS0.1) (rg_w rk_79 (by decide) (by decide)) rfl
abbrev q_t_X3_width (G : rn_G) (S : ts_S) (ws : va_W) : rn_R → va_W → Prop := rQ (fun v w => ws = w ∧ (∃ x : Int32, v = some (.int x) ∧ Rg (-2147483648) (2147483647) x)) (fun E w => False)
set_option maxRecDepth 20000 in
set_option maxHeartbeats 4000000 in
theorem t_X3_width (G : rn_G) (S : ts_S) (ws : va_W) (hW : ts_W G S ws) (o0_ : Nat) (m0_ : (o0_, 3) ∈ S) : Rn G mX3_width 0 0 0 0 0 (lv_args 0 [.ref o0_]) [] ws (q_t_X3_width G S ws ) := by
  refine rn_lv [(0, .ref o0_)] rfl ?_
  refine rn_aload_n (i := 0) dX3_width_0 rfl rfl ?_
  obtain ⟨q1, fs1, hq1, hl1, hf1⟩ := ts_obj hW m0_ hk_3
  obtain ⟨x2, hx2, rx2⟩ := fs_i hf1 1 rfl
  refine rn_get q1 kg_SG_Net_13 hl1 hx2 dX3_width_1 ?_
  exact rn_iret dX3_width_4 rfl rfl (rq_in ⟨rfl, x2, rfl, rx2⟩)
abbrev q_t_X3_has (G : rn_G) (S : ts_S) (ws : va_W) : rn_R → va_W → Prop := rQ (fun v w => ws = w ∧ (∃ x : Int32, v = some (.int x) ∧ Rg (0) (1) x)) (fun E w => False)
set_option maxRecDepth 20000 in
set_option maxHeartbeats 4000000 in
theorem t_X3_has (G : rn_G) (S : ts_S) (ws : va_W) (hW : ts_W G S ws) (o0_ : Nat) (m0_ : (o0_, 3) ∈ S) (x1_ : Int32) : Rn G mX3_has 0 0 0 0 0 (lv_args 0 [.ref o0_, .int x1_]) [] ws (q_t_X3_has G S ws ) := by
  refine rn_lv [(0, .ref o0_), (1, .int x1_)] rfl ?_
  refine rn_aload_n (i := 0) dX3_has_0 rfl rfl ?_
  obtain ⟨q1, fs1, hq1, hl1, hf1⟩ := ts_obj hW m0_ hk_3
  obtain ⟨x2, hx2, rx2⟩ := fs_i hf1 1 rfl
  refine rn_get q1 kg_SG_Net_13 hl1 hx2 dX3_has_1 ?_
  refine rn_if_eq (tgt := 24) dX3_has_4 (by decide) (fun h3 => ?_) (fun h3 => ?_)
  · have ch3 := cv_eq h3
    have r4 : Rg (0) (0) x2 := rf_eqx ch3 rx2 rk_0 (by decide) (by decide)
    refine rn_iconst (v := (1 : Int32)) dX3_has_24 (by decide) ?_
    refine rn_goto (tgt := 29) dX3_has_25 (by decide) ?_
    exact rn_iret dX3_has_29 rfl rfl (rq_in ⟨rfl, (1 : Int32), rfl, (rg_w rk_1 (by decide) (by decide))⟩)
  · have ch3 := cv_ne h3
    refine rn_aload_n (i := 0) dX3_has_7 rfl rfl ?_
    obtain ⟨x5, hx5, rx5⟩ := fs_i hf1 0 rfl
    refine rn_get q1 kg_SG_Net_7 hl1 hx5 dX3_has_8 ?_
    refine rn_iload_n (i := 1) dX3_has_11 rfl rfl ?_
    refine rn_ixor dX3_has_12 (rn_nmA (fun v6 rv6 => ?_))
    refine rn_bipush (v := (32 : Int32)) dX3_has_13 (by decide) ?_
    refine rn_aload_n (i := 0) dX3_has_15 rfl rfl ?_
    refine rn_get q1 kg_SG_Net_13 hl1 hx2 dX3_has_16 ?_
    refine rn_isub dX3_has_19 (rn_nmA (fun v7 rv7 => ?_))
    refine rn_iushr dX3_has_20 rfl (rn_nmA (fun v8 rv8 => ?_))
    refine rn_if_ne (tgt := 28) dX3_has_21 (by decide) (fun h9 => ?_) (fun h9 => ?_)
    · have ch9 := cv_ne h9
      refine rn_iconst (v := (0 : Int32)) dX3_has_28 (by decide) ?_
      exact rn_iret dX3_has_29 rfl rfl (rq_in ⟨rfl, (0 : Int32), rfl, (rg_w rk_0 (by decide) (by decide))⟩)
    · have ch9 := cv_eq h9
      have r10 : Rg (0) (0) v8 := rf_eqx ch9 rv8 rk_0 (by decide) (by decide)
      refine rn_iconst (v := (1 : Int32)) dX3_has_24 (by decide) ?_
      refine rn_goto (tgt := 29) dX3_has_25 (by decide) ?_
      exact rn_iret dX3_has_29 rfl rfl (rq_in ⟨rfl, (1 : Int32), rfl, (rg_w rk_1 (by decide) (by decide))⟩)
abbrev q_t_X4_byteAt (G : rn_G) (S : ts_S) (ws : va_W) : rn_R → va_W → Prop := rQ (fun v w => ws = w ∧ (∃ x : Int32, v = some (.int x) ∧ Rg (0) (255) x)) (fun E w => False)
set_option maxRecDepth 20000 in
set_option maxHeartbeats 4000000 in
theorem t_X4_byteAt (G : rn_G) (S : ts_S) (ws : va_W) (hW : ts_W G S ws) (o0_ : Nat) (m0_ : (o0_, 4) ∈ S) (x1_ : Int32) : Rn G mX4_byteAt 0 0 0 0 0 (lv_args 0 [.ref o0_, .int x1_]) [] ws (q_t_X4_byteAt G S ws ) := by
  refine rn_lv [(0, .ref o0_), (1, .int x1_)] rfl ?_
  refine rn_iload_n (i := 1) dX4_byteAt_0 rfl rfl ?_
  refine rn_if_lt (tgt := 25) dX4_byteAt_1 (by decide) (fun h1 => ?_) (fun h1 => ?_)
  · have ch1 := cv_lt h1
    have r2 : Rg (-2147483648) (-1) x1_ := rf_ltx ch1 (rg_any x1_) rk_0 (by decide)
    refine rn_iconst (v := (0 : Int32)) dX4_byteAt_25 (by decide) ?_
    exact rn_iret dX4_byteAt_26 rfl rfl (rq_in ⟨rfl, (0 : Int32), rfl, (rg_w rk_0 (by decide) (by decide))⟩)
  · have ch1 := cv_nlt h1
    have r3 : Rg (0) (2147483647) x1_ := rf_ley ch1 rk_0 (rg_any x1_) (by decide)
    refine rn_iload_n (i := 1) dX4_byteAt_4 rfl rfl ?_
    refine rn_aload_n (i := 0) dX4_byteAt_5 rfl rfl ?_
    obtain ⟨q4, fs4, hq4, hl4, hf4⟩ := ts_obj hW m0_ hk_4
    obtain ⟨x5, hx5, rx5⟩ := fs_i hf4 1 rfl
    refine rn_get q4 kg_SG_Packet_15 hl4 hx5 dX4_byteAt_6 ?_
    refine rn_icmp_ge (tgt := 25) dX4_byteAt_9 (by decide) (fun h6 => ?_) (fun h6 => ?_)
    · have ch6 := cv_le h6
      refine rn_iconst (v := (0 : Int32)) dX4_byteAt_25 (by decide) ?_
      exact rn_iret dX4_byteAt_26 rfl rfl (rq_in ⟨rfl, (0 : Int32), rfl, (rg_w rk_0 (by decide) (by decide))⟩)
    · have ch6 := cv_nle h6
      have r7 : Rg (0) (2039) x1_ := rf_ltx ch6 r3 rx5 (by decide)
      have r8 : Rg (1) (2040) x5 := rf_lty ch6 r3 rx5 (by decide)
      refine rn_aload_n (i := 0) dX4_byteAt_12 rfl rfl ?_
      obtain ⟨o9, hx9, m9⟩ := fs_r hf4 0 rfl
      refine rn_get q4 kg_SG_Packet_11 hl4 hx9 dX4_byteAt_13 ?_
      refine rn_iload_n (i := 1) dX4_byteAt_16 rfl rfl ?_
      obtain ⟨q10, f10, hq10, hl10, hf10⟩ := ts_ia hW m9 hk_11
      refine rs_bald q10 hl10 hf10 rfl r7 (by decide) (by decide) dX4_byteAt_17 (fun v11 ev11 rv11 => ?_)
      refine rn_sipush (v := (255 : Int32)) dX4_byteAt_18 (by decide) ?_
      refine rn_iand dX4_byteAt_21 (rn_tn 0 (255) (rg_andr rk_255 (by decide)) (fun v12 rv12 => ?_))
      refine rn_goto (tgt := 26) dX4_byteAt_22 (by decide) ?_
      exact rn_iret dX4_byteAt_26 rfl rfl (rq_in ⟨rfl, v12, rfl, rv12⟩)
abbrev q_t_X4_longAt (G : rn_G) (S : ts_S) (ws : va_W) : rn_R → va_W → Prop := rQ (fun v w => ws = w ∧ (∃ x : Int64, v = some (.long x))) (fun E w => False)
set_option maxRecDepth 20000 in
set_option maxHeartbeats 4000000 in
theorem t_X4_longAt (G : rn_G) (S : ts_S) (ws : va_W) (hW : ts_W G S ws) (o0_ : Nat) (m0_ : (o0_, 4) ∈ S) (x1_ : Int32) : Rn G mX4_longAt 1 22 0 0 0 (lv_args 0 [.ref o0_, .int x1_]) [] ws (q_t_X4_longAt G S ws ) := by
  refine rn_lv [(0, .ref o0_), (1, .int x1_)] rfl ?_
  refine rn_aload_n (i := 0) dX4_longAt_0 rfl rfl ?_
  refine rn_iload_n (i := 1) dX4_longAt_1 rfl rfl ?_
  obtain ⟨q1, fs1, hq1, hl1, hf1⟩ := ts_obj hW m0_ hk_4
  refine rn_callV (a := 0) (b := 0) [.int x1_] kl_SG_Packet_25 dX4_longAt_2 q1 hl1 rfl (t_X4_wordAt G S ws hW o0_ m0_ x1_) rfl rfl (Nat.le_of_ble_eq_true rfl) (Nat.le_of_ble_eq_true rfl) (Nat.le_of_ble_eq_true rfl) (Nat.le_of_ble_eq_true rfl) (Nat.le_of_ble_eq_true rfl) (Nat.le_of_ble_eq_true rfl) (fun _ _ h => False.elim h) (fun v9 w2 h3 => ?_)
  obtain ⟨rfl, v4, rfl, rv4⟩ := h3
  refine rn_stk [.int v4] rfl ?_
  refine rn_i2l dX4_longAt_5 rfl (rn_nmL (fun l6 => ?_))
  refine rn_bipush (v := (32 : Int32)) dX4_longAt_6 (by decide) ?_
  refine rn_lshl dX4_longAt_8 rfl (rn_nmL (fun l7 => ?_))
  refine rn_aload_n (i := 0) dX4_longAt_9 rfl rfl ?_
  refine rn_iload_n (i := 1) dX4_longAt_10 rfl rfl ?_
  refine rn_iconst (v := (4 : Int32)) dX4_longAt_11 (by decide) ?_
  refine rn_iadd dX4_longAt_12 (rn_nmA (fun v8 rv8 => ?_))
  refine rn_callV (a := 0) (b := 0) [.int v8] kl_SG_Packet_25 dX4_longAt_13 q1 hl1 rfl (t_X4_wordAt G S ws hW o0_ m0_ v8) rfl rfl (Nat.le_of_ble_eq_true rfl) (Nat.le_of_ble_eq_true rfl) (Nat.le_of_ble_eq_true rfl) (Nat.le_of_ble_eq_true rfl) (Nat.le_of_ble_eq_true rfl) (Nat.le_of_ble_eq_true rfl) (fun _ _ h => False.elim h) (fun v9 w9 h10 => ?_)
  obtain ⟨rfl, v11, rfl, rv11⟩ := h10
  refine rn_stk [.int v11, .long l7] rfl ?_
  refine rn_i2l dX4_longAt_16 rfl (rn_nmL (fun l13 => ?_))
  refine rn_ldc2 (v := (4294967295 : Int64)) wd_978 dX4_longAt_17 ?_
  refine rn_land dX4_longAt_20 (rn_nmL (fun l14 => ?_))
  refine rn_lor dX4_longAt_21 (rn_nmL (fun l15 => ?_))
  exact rn_lret dX4_longAt_22 rfl (rq_in ⟨rfl, l15, rfl⟩)
abbrev q_t_X4_setByte (G : rn_G) (S : ts_S) (ws : va_W) : rn_R → va_W → Prop := rQ (fun v w => St G S [11] ws S w ∧ (v = none)) (fun E w => False)
set_option maxRecDepth 20000 in
set_option maxHeartbeats 4000000 in
theorem t_X4_setByte (G : rn_G) (S : ts_S) (ws : va_W) (hW : ts_W G S ws) (o0_ : Nat) (m0_ : (o0_, 4) ∈ S) (x1_ : Int32) (x2_ : Int32) : Rn G mX4_setByte 0 0 0 0 0 (lv_args 0 [.ref o0_, .int x1_, .int x2_]) [] ws (q_t_X4_setByte G S ws ) := by
  have hS0 : St G S [11] ws S ws := St.rf hW
  refine rn_lv [(0, .ref o0_), (1, .int x1_), (2, .int x2_)] rfl ?_
  refine rn_iload_n (i := 1) dX4_setByte_0 rfl rfl ?_
  refine rn_if_lt (tgt := 20) dX4_setByte_1 (by decide) (fun h1 => ?_) (fun h1 => ?_)
  · have ch1 := cv_lt h1
    have r2 : Rg (-2147483648) (-1) x1_ := rf_ltx ch1 (rg_any x1_) rk_0 (by decide)
    exact rn_vret dX4_setByte_20 rfl (rq_in ⟨hS0, rfl⟩)
  · have ch1 := cv_nlt h1
    have r3 : Rg (0) (2147483647) x1_ := rf_ley ch1 rk_0 (rg_any x1_) (by decide)
    refine rn_iload_n (i := 1) dX4_setByte_4 rfl rfl ?_
    refine rn_aload_n (i := 0) dX4_setByte_5 rfl rfl ?_
    obtain ⟨q4, fs4, hq4, hl4, hf4⟩ := ts_obj hS0.1 m0_ hk_4
    obtain ⟨x5, hx5, rx5⟩ := fs_i hf4 1 rfl
    refine rn_get q4 kg_SG_Packet_15 hl4 hx5 dX4_setByte_6 ?_
    refine rn_icmp_ge (tgt := 20) dX4_setByte_9 (by decide) (fun h6 => ?_) (fun h6 => ?_)
    · have ch6 := cv_le h6
      exact rn_vret dX4_setByte_20 rfl (rq_in ⟨hS0, rfl⟩)
    · have ch6 := cv_nle h6
      have r7 : Rg (0) (2039) x1_ := rf_ltx ch6 r3 rx5 (by decide)
      have r8 : Rg (1) (2040) x5 := rf_lty ch6 r3 rx5 (by decide)
      refine rn_aload_n (i := 0) dX4_setByte_12 rfl rfl ?_
      obtain ⟨o9, hx9, m9⟩ := fs_r hf4 0 rfl
      refine rn_get q4 kg_SG_Packet_11 hl4 hx9 dX4_setByte_13 ?_
      refine rn_iload_n (i := 1) dX4_setByte_16 rfl rfl ?_
      refine rn_iload_n (i := 2) dX4_setByte_17 rfl rfl ?_
      refine rn_i2b dX4_setByte_18 rfl (rn_nmA (fun v10 rv10 => ?_))
      obtain ⟨q11, f11, hq11, hl11, hf11⟩ := ts_ia hS0.1 m9 hk_11
      refine rs_bast q11 hS0 hq11 hl11 hf11 hk_11 rfl rfl r7 (by decide) (by decide) (by decide) (by decide) dX4_setByte_19 (fun w12 f13 hS13 hl13 hf13 hu13 hn13 => ?_)
      exact rn_vret dX4_setByte_20 rfl (rq_in ⟨hS13, rfl⟩)
abbrev q_t_X4_setWord (G : rn_G) (S : ts_S) (ws : va_W) : rn_R → va_W → Prop := rQ (fun v w => St G S [11] ws S w ∧ (v = none)) (fun E w => False)
set_option maxRecDepth 20000 in
set_option maxHeartbeats 4000000 in
theorem t_X4_setWord (G : rn_G) (S : ts_S) (ws : va_W) (hW : ts_W G S ws) (o0_ : Nat) (m0_ : (o0_, 4) ∈ S) (x1_ : Int32) (x2_ : Int32) : Rn G mX4_setWord 1 22 0 0 0 (lv_args 0 [.ref o0_, .int x1_, .int x2_]) [] ws (q_t_X4_setWord G S ws ) := by
  have hS0 : St G S [11] ws S ws := St.rf hW
  refine rn_lv [(0, .ref o0_), (1, .int x1_), (2, .int x2_)] rfl ?_
  refine rn_aload_n (i := 0) dX4_setWord_0 rfl rfl ?_
  refine rn_iload_n (i := 1) dX4_setWord_1 rfl rfl ?_
  refine rn_iload_n (i := 2) dX4_setWord_2 rfl rfl ?_
  refine rn_bipush (v := (16 : Int32)) dX4_setWord_3 (by decide) ?_
  refine rn_iushr dX4_setWord_5 rfl (rn_nmA (fun v1 rv1 => ?_))
  obtain ⟨q2, fs2, hq2, hl2, hf2⟩ := ts_obj hS0.1 m0_ hk_4
  refine rn_callV (a := 0) (b := 0) [.int x1_, .int v1] kl_SG_Packet_31 dX4_setWord_6 q2 hl2 rfl (t_X4_setPair G S ws hS0.1 o0_ m0_ x1_ v1) rfl rfl (Nat.le_of_ble_eq_true rfl) (Nat.le_of_ble_eq_true rfl) (Nat.le_of_ble_eq_true rfl) (Nat.le_of_ble_eq_true rfl) (Nat.le_of_ble_eq_true rfl) (Nat.le_of_ble_eq_true rfl) (fun _ _ h => False.elim h) (fun v9 w3 h4 => ?_)
  obtain ⟨hT5, rfl⟩ := h4
  have hS5 := St.tr hS0 hT5 rfl
  refine rn_stk [] rfl ?_
  refine rn_aload_n (i := 0) dX4_setWord_9 rfl rfl ?_
  refine rn_iload_n (i := 1) dX4_setWord_10 rfl rfl ?_
  refine rn_iconst (v := (2 : Int32)) dX4_setWord_11 (by decide) ?_
  refine rn_iadd dX4_setWord_12 (rn_nmA (fun v6 rv6 => ?_))
  refine rn_iload_n (i := 2) dX4_setWord_13 rfl rfl ?_
  refine rn_callV (a := 0) (b := 0) [.int v6, .int x2_] kl_SG_Packet_31 dX4_setWord_14 q2 (hT5.fr hq2 rfl hl2) rfl (t_X4_setPair G S w3 hS5.1 o0_ m0_ v6 x2_) rfl rfl (Nat.le_of_ble_eq_true rfl) (Nat.le_of_ble_eq_true rfl) (Nat.le_of_ble_eq_true rfl) (Nat.le_of_ble_eq_true rfl) (Nat.le_of_ble_eq_true rfl) (Nat.le_of_ble_eq_true rfl) (fun _ _ h => False.elim h) (fun v9 w7 h8 => ?_)
  obtain ⟨hT9, rfl⟩ := h8
  have hS9 := St.tr hS5 hT9 rfl
  refine rn_stk [] rfl ?_
  exact rn_vret dX4_setWord_17 rfl (rq_in ⟨hS9, rfl⟩)
abbrev q_t_X4_setLong (G : rn_G) (S : ts_S) (ws : va_W) : rn_R → va_W → Prop := rQ (fun v w => St G S [11] ws S w ∧ (v = none)) (fun E w => False)
set_option maxRecDepth 20000 in
set_option maxHeartbeats 4000000 in
theorem t_X4_setLong (G : rn_G) (S : ts_S) (ws : va_W) (hW : ts_W G S ws) (o0_ : Nat) (m0_ : (o0_, 4) ∈ S) (x1_ : Int32) (y2_ : Int64) : Rn G mX4_setLong 2 44 0 0 0 (lv_args 0 [.ref o0_, .int x1_, .long y2_]) [] ws (q_t_X4_setLong G S ws ) := by
  have hS0 : St G S [11] ws S ws := St.rf hW
  refine rn_lv [(0, .ref o0_), (1, .int x1_), (2, .long y2_)] rfl ?_
  refine rn_aload_n (i := 0) dX4_setLong_0 rfl rfl ?_
  refine rn_iload_n (i := 1) dX4_setLong_1 rfl rfl ?_
  refine rn_lload_n (i := 2) dX4_setLong_2 rfl rfl ?_
  refine rn_bipush (v := (32 : Int32)) dX4_setLong_3 (by decide) ?_
  refine rn_lushr dX4_setLong_5 rfl (rn_nmL (fun l1 => ?_))
  refine rn_l2i dX4_setLong_6 rfl (rn_nmA (fun v2 rv2 => ?_))
  obtain ⟨q3, fs3, hq3, hl3, hf3⟩ := ts_obj hS0.1 m0_ hk_4
  refine rn_callV (a := 0) (b := 0) [.int x1_, .int v2] kl_SG_Packet_35 dX4_setLong_7 q3 hl3 rfl (t_X4_setWord G S ws hS0.1 o0_ m0_ x1_ v2) rfl rfl (Nat.le_of_ble_eq_true rfl) (Nat.le_of_ble_eq_true rfl) (Nat.le_of_ble_eq_true rfl) (Nat.le_of_ble_eq_true rfl) (Nat.le_of_ble_eq_true rfl) (Nat.le_of_ble_eq_true rfl) (fun _ _ h => False.elim h) (fun v9 w4 h5 => ?_)
  obtain ⟨hT6, rfl⟩ := h5
  have hS6 := St.tr hS0 hT6 rfl
  refine rn_stk [] rfl ?_
  refine rn_aload_n (i := 0) dX4_setLong_10 rfl rfl ?_
  refine rn_iload_n (i := 1) dX4_setLong_11 rfl rfl ?_
  refine rn_iconst (v := (4 : Int32)) dX4_setLong_12 (by decide) ?_
  refine rn_iadd dX4_setLong_13 (rn_nmA (fun v7 rv7 => ?_))
  refine rn_lload_n (i := 2) dX4_setLong_14 rfl rfl ?_
  refine rn_l2i dX4_setLong_15 rfl (rn_nmA (fun v8 rv8 => ?_))
  refine rn_callV (a := 0) (b := 0) [.int v7, .int v8] kl_SG_Packet_35 dX4_setLong_16 q3 (hT6.fr hq3 rfl hl3) rfl (t_X4_setWord G S w4 hS6.1 o0_ m0_ v7 v8) rfl rfl (Nat.le_of_ble_eq_true rfl) (Nat.le_of_ble_eq_true rfl) (Nat.le_of_ble_eq_true rfl) (Nat.le_of_ble_eq_true rfl) (Nat.le_of_ble_eq_true rfl) (Nat.le_of_ble_eq_true rfl) (fun _ _ h => False.elim h) (fun v9 w9 h10 => ?_)
  obtain ⟨hT11, rfl⟩ := h10
  have hS11 := St.tr hS6 hT11 rfl
  refine rn_stk [] rfl ?_
  exact rn_vret dX4_setLong_19 rfl (rq_in ⟨hS11, rfl⟩)
