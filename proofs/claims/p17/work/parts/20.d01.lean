abbrev q_t_X0_hasByteOf (G : rn_G) (S : ts_S) (ws : va_W) : rn_R → va_W → Prop := rQ (fun v w => ws = w ∧ (∃ x : Int32, v = some (.int x) ∧ Rg (0) (1) x)) (fun E w => False)
set_option maxRecDepth 20000 in
set_option maxHeartbeats 4000000 in
theorem t_X0_hasByteOf (G : rn_G) (S : ts_S) (ws : va_W) (hW : ts_W G S ws) (o0_ : Nat) (m0_ : (o0_, 0) ∈ S) (x1_ : Int32) (x2_ : Int32) : Rn G mX0_hasByteOf 0 0 0 0 0 (lv_args 0 [.ref o0_, .int x1_, .int x2_]) [] ws (q_t_X0_hasByteOf G S ws ) := by
  refine rn_lv [(0, .ref o0_), (1, .int x1_), (2, .int x2_)] rfl ?_
  refine rn_iload_n (i := 1) dX0_hasByteOf_0 rfl rfl ?_
  refine rn_istore_n dX0_hasByteOf_1 rfl (by decide) [(0, .ref o0_), (1, .int x1_), (2, .int x2_), (3, .int x1_)] rfl ?_
  have LP2 : ∀ (n : Nat) (x1 : Int32), Rg (-2147483648) (2147483647) x1 → (2147483647 - x1.toInt).toNat = n → Rn G mX0_hasByteOf 0 0 0 0 2 [(0, .ref o0_), (1, .int x1_), (2, .int x2_), (3, .int x1)] [] ws (q_t_X0_hasByteOf G S ws ) := by
    intro n
    induction n using Nat.strongRecOn with
    | _ n ih =>
      intro x1 r4 hm5
      refine rn_iload_n (i := 3) dX0_hasByteOf_2 rfl rfl ?_
      refine rn_iload_n (i := 2) dX0_hasByteOf_3 rfl rfl ?_
      refine rn_icmp_ge (tgt := 35) dX0_hasByteOf_4 (by decide) (fun h6 => ?_) (fun h6 => ?_)
      · have ch6 := cv_le h6
        refine rn_iconst (v := (0 : Int32)) dX0_hasByteOf_35 (by decide) ?_
        exact rn_iret dX0_hasByteOf_36 rfl rfl (rq_in ⟨rfl, (0 : Int32), rfl, (rg_w rk_0 (by decide) (by decide))⟩)
      · have ch6 := cv_nle h6
        have r7 : Rg (-2147483648) (2147483646) x1 := rf_ltx ch6 r4 (rg_any x2_) (by decide)
        have r8 : Rg (-2147483647) (2147483647) x2_ := rf_lty ch6 r4 (rg_any x2_) (by decide)
        refine rn_iload_n (i := 3) dX0_hasByteOf_7 rfl rfl ?_
        refine rn_sipush (v := (1980 : Int32)) dX0_hasByteOf_8 (by decide) ?_
        refine rn_icmp_ge (tgt := 35) dX0_hasByteOf_11 (by decide) (fun h9 => ?_) (fun h9 => ?_)
        · have ch9 := cv_le h9
          have r10 : Rg (1980) (2147483646) x1 := rf_ley ch9 rk_1980 r7 (by decide)
          refine rn_iconst (v := (0 : Int32)) dX0_hasByteOf_35 (by decide) ?_
          exact rn_iret dX0_hasByteOf_36 rfl rfl (rq_in ⟨rfl, (0 : Int32), rfl, (rg_w rk_0 (by decide) (by decide))⟩)
        · have ch9 := cv_nle h9
          have r11 : Rg (-2147483648) (1979) x1 := rf_ltx ch9 r7 rk_1980 (by decide)
          refine rn_iload_n (i := 3) dX0_hasByteOf_14 rfl rfl ?_
          refine rn_if_lt (tgt := 29) dX0_hasByteOf_15 (by decide) (fun h12 => ?_) (fun h12 => ?_)
          · have ch12 := cv_lt h12
            have r13 : Rg (-2147483648) (-1) x1 := rf_ltx ch12 r11 rk_0 (by decide)
            refine rs_iinc (-2147483647) (0) dX0_hasByteOf_29 rfl (by decide) r13 rk_1 (by decide) (fun v14 => [(0, .ref o0_), (1, .int x1_), (2, .int x2_), (3, .int v14)]) (fun _ => rfl) (fun v14 ev14 rv14 => ?_)
            refine rn_goto (tgt := 2) dX0_hasByteOf_32 (by decide) ?_
            refine rn_lv [(0, .ref o0_), (1, .int x1_), (2, .int x2_), (3, .int v14)] rfl ?_
            exact ih _ (lp_inc hm5 ev14 rv14 (by decide)) v14 (rg_w rv14 (by decide) (by decide)) rfl
          · have ch12 := cv_nlt h12
            have r15 : Rg (0) (1979) x1 := rf_ley ch12 rk_0 r11 (by decide)
            refine rn_aload_n (i := 0) dX0_hasByteOf_18 rfl rfl ?_
            obtain ⟨q16, fs16, hq16, hl16, hf16⟩ := ts_obj hW m0_ hk_0
            obtain ⟨o17, hx17, m17⟩ := fs_r hf16 1 rfl
            refine rn_get q16 kg_SG_Heap_18 hl16 hx17 dX0_hasByteOf_19 ?_
            refine rn_iload_n (i := 3) dX0_hasByteOf_22 rfl rfl ?_
            obtain ⟨q18, f18, hq18, hl18, hf18⟩ := ts_ia hW m17 hk_12
            refine rs_bald q18 hl18 hf18 rfl r15 (by decide) (by decide) dX0_hasByteOf_23 (fun v19 ev19 rv19 => ?_)
            refine rn_if_eq (tgt := 29) dX0_hasByteOf_24 (by decide) (fun h20 => ?_) (fun h20 => ?_)
            · have ch20 := cv_eq h20
              have r21 : Rg (0) (0) v19 := rf_eqx ch20 rv19 rk_0 (by decide) (by decide)
              refine rs_iinc (1) (1980) dX0_hasByteOf_29 rfl (by decide) r15 rk_1 (by decide) (fun v22 => [(0, .ref o0_), (1, .int x1_), (2, .int x2_), (3, .int v22)]) (fun _ => rfl) (fun v22 ev22 rv22 => ?_)
              refine rn_goto (tgt := 2) dX0_hasByteOf_32 (by decide) ?_
              refine rn_lv [(0, .ref o0_), (1, .int x1_), (2, .int x2_), (3, .int v22)] rfl ?_
              exact ih _ (lp_inc hm5 ev22 rv22 (by decide)) v22 (rg_w rv22 (by decide) (by decide)) rfl
            · have ch20 := cv_ne h20
              refine rn_iconst (v := (1 : Int32)) dX0_hasByteOf_27 (by decide) ?_
              exact rn_iret dX0_hasByteOf_28 rfl rfl (rq_in ⟨rfl, (1 : Int32), rfl, (rg_w rk_1 (by decide) (by decide))⟩)
  exact LP2 _ x1_ (rg_any x1_) rfl
abbrev q_t_X0_refuses (G : rn_G) (S : ts_S) (ws : va_W) : rn_R → va_W → Prop := rQ (fun v w => ws = w ∧ (∃ x : Int32, v = some (.int x) ∧ Rg (0) (1) x)) (fun E w => False)
set_option maxRecDepth 20000 in
set_option maxHeartbeats 4000000 in
theorem t_X0_refuses (G : rn_G) (S : ts_S) (ws : va_W) (hW : ts_W G S ws) (o0_ : Nat) (m0_ : (o0_, 0) ∈ S) (o1_ : Nat) (m1_ : (o1_, 4) ∈ S) : Rn G mX0_refuses 2 41 0 0 0 (lv_args 0 [.ref o0_, .ref o1_]) [] ws (q_t_X0_refuses G S ws ) := by
  refine rn_lv [(0, .ref o0_), (1, .ref o1_)] rfl ?_
  refine rn_aload_n (i := 1) dX0_refuses_0 rfl rfl ?_
  obtain ⟨q1, fs1, hq1, hl1, hf1⟩ := ts_obj hW m1_ hk_4
  refine rn_callV (a := 0) (b := 0) [] kl_SG_Heap_63 dX0_refuses_1 q1 hl1 rfl (t_X4_end G S ws hW o1_ m1_) rfl rfl (Nat.le_of_ble_eq_true rfl) (Nat.le_of_ble_eq_true rfl) (Nat.le_of_ble_eq_true rfl) (Nat.le_of_ble_eq_true rfl) (Nat.le_of_ble_eq_true rfl) (Nat.le_of_ble_eq_true rfl) (fun _ _ h => False.elim h) (fun v9 w2 h3 => ?_)
  obtain ⟨rfl, v4, rfl, rv4⟩ := h3
  refine rn_stk [.int v4] rfl ?_
  refine rn_istore_n dX0_refuses_4 rfl (by decide) [(0, .ref o0_), (1, .ref o1_), (2, .int v4)] rfl ?_
  refine rn_aload_n (i := 0) dX0_refuses_5 rfl rfl ?_
  obtain ⟨q6, fs6, hq6, hl6, hf6⟩ := ts_obj hW m0_ hk_0
  obtain ⟨x7, hx7, rx7⟩ := fs_i hf6 6 rfl
  refine rn_get q6 kg_SG_Heap_50 hl6 hx7 dX0_refuses_6 ?_
  refine rn_iconst (v := (-1 : Int32)) dX0_refuses_9 (by decide) ?_
  refine rn_icmp_eq (tgt := 30) dX0_refuses_10 (by decide) (fun h8 => ?_) (fun h8 => ?_)
  · have ch8 := cv_eq h8
    have r9 : Rg (-1) (-1) x7 := rf_eqx ch8 rx7 rk_m1 (by decide) (by decide)
    refine rn_aload_n (i := 1) dX0_refuses_30 rfl rfl ?_
    refine rn_callV (a := 0) (b := 0) [] kl_SG_Heap_59 dX0_refuses_31 q1 hl1 rfl (t_X4_hasMore G S ws hW o1_ m1_) rfl rfl (Nat.le_of_ble_eq_true rfl) (Nat.le_of_ble_eq_true rfl) (Nat.le_of_ble_eq_true rfl) (Nat.le_of_ble_eq_true rfl) (Nat.le_of_ble_eq_true rfl) (Nat.le_of_ble_eq_true rfl) (fun _ _ h => False.elim h) (fun v9 w10 h11 => ?_)
    obtain ⟨rfl, v12, rfl, rv12⟩ := h11
    refine rn_stk [.int v12] rfl ?_
    refine rn_if_ne (tgt := 45) dX0_refuses_34 (by decide) (fun h14 => ?_) (fun h14 => ?_)
    · have ch14 := cv_ne h14
      have r15 : Rg (1) (1) v12 := rf_nel ch14 rv12 rk_0 (by decide) (by decide)
      refine rn_aload_n (i := 0) dX0_refuses_45 rfl rfl ?_
      refine rn_aload_n (i := 1) dX0_refuses_46 rfl rfl ?_
      refine rn_callV (a := 0) (b := 0) [] kl_SG_Heap_65 dX0_refuses_47 q1 hl1 rfl (t_X4_start G S ws hW o1_ m1_) rfl rfl (Nat.le_of_ble_eq_true rfl) (Nat.le_of_ble_eq_true rfl) (Nat.le_of_ble_eq_true rfl) (Nat.le_of_ble_eq_true rfl) (Nat.le_of_ble_eq_true rfl) (Nat.le_of_ble_eq_true rfl) (fun _ _ h => False.elim h) (fun v9 w16 h17 => ?_)
      obtain ⟨rfl, v18, rfl, rv18⟩ := h17
      refine rn_stk [.int v18, .ref o0_] rfl ?_
      refine rn_iload_n (i := 2) dX0_refuses_50 rfl rfl ?_
      refine rn_callV (a := 0) (b := 0) [.int v18, .int v4] kl_SG_Heap_68 dX0_refuses_51 q6 hl6 rfl (t_X0_hasByteOf G S ws hW o0_ m0_ v18 v4) rfl rfl (Nat.le_of_ble_eq_true rfl) (Nat.le_of_ble_eq_true rfl) (Nat.le_of_ble_eq_true rfl) (Nat.le_of_ble_eq_true rfl) (Nat.le_of_ble_eq_true rfl) (Nat.le_of_ble_eq_true rfl) (fun _ _ h => False.elim h) (fun v9 w20 h21 => ?_)
      obtain ⟨rfl, v22, rfl, rv22⟩ := h21
      refine rn_stk [.int v22] rfl ?_
      refine rn_if_eq (tgt := 61) dX0_refuses_54 (by decide) (fun h24 => ?_) (fun h24 => ?_)
      · have ch24 := cv_eq h24
        have r25 : Rg (0) (0) v22 := rf_eqx ch24 rv22 rk_0 (by decide) (by decide)
        refine rn_iconst (v := (0 : Int32)) dX0_refuses_61 (by decide) ?_
        exact rn_iret dX0_refuses_62 rfl rfl (rq_in ⟨rfl, (0 : Int32), rfl, (rg_w rk_0 (by decide) (by decide))⟩)
      · have ch24 := cv_ne h24
        have r26 : Rg (1) (1) v22 := rf_nel ch24 rv22 rk_0 (by decide) (by decide)
        refine rn_iconst (v := (1 : Int32)) dX0_refuses_57 (by decide) ?_
        refine rn_goto (tgt := 62) dX0_refuses_58 (by decide) ?_
        exact rn_iret dX0_refuses_62 rfl rfl (rq_in ⟨rfl, (1 : Int32), rfl, (rg_w rk_1 (by decide) (by decide))⟩)
    · have ch14 := cv_eq h14
      have r27 : Rg (0) (0) v12 := rf_eqx ch14 rv12 rk_0 (by decide) (by decide)
      refine rn_aload_n (i := 0) dX0_refuses_37 rfl rfl ?_
      obtain ⟨x28, hx28, rx28⟩ := fs_i hf6 5 rfl
      refine rn_get q6 kg_SG_Heap_47 hl6 hx28 dX0_refuses_38 ?_
      refine rn_iload_n (i := 2) dX0_refuses_41 rfl rfl ?_
      refine rn_icmp_gt (tgt := 57) dX0_refuses_42 (by decide) (fun h29 => ?_) (fun h29 => ?_)
      · have ch29 := cv_lt h29
        have r30 : Rg (-19) (2147483647) x28 := rf_lty ch29 rv4 rx28 (by decide)
        refine rn_iconst (v := (1 : Int32)) dX0_refuses_57 (by decide) ?_
        refine rn_goto (tgt := 62) dX0_refuses_58 (by decide) ?_
        exact rn_iret dX0_refuses_62 rfl rfl (rq_in ⟨rfl, (1 : Int32), rfl, (rg_w rk_1 (by decide) (by decide))⟩)
      · have ch29 := cv_nlt h29
        have r31 : Rg (-2147483648) (67548) x28 := rf_lex ch29 rx28 rv4 (by decide)
        refine rn_aload_n (i := 0) dX0_refuses_45 rfl rfl ?_
        refine rn_aload_n (i := 1) dX0_refuses_46 rfl rfl ?_
        refine rn_callV (a := 0) (b := 0) [] kl_SG_Heap_65 dX0_refuses_47 q1 hl1 rfl (t_X4_start G S ws hW o1_ m1_) rfl rfl (Nat.le_of_ble_eq_true rfl) (Nat.le_of_ble_eq_true rfl) (Nat.le_of_ble_eq_true rfl) (Nat.le_of_ble_eq_true rfl) (Nat.le_of_ble_eq_true rfl) (Nat.le_of_ble_eq_true rfl) (fun _ _ h => False.elim h) (fun v9 w32 h33 => ?_)
        obtain ⟨rfl, v34, rfl, rv34⟩ := h33
        refine rn_stk [.int v34, .ref o0_] rfl ?_
        refine rn_iload_n (i := 2) dX0_refuses_50 rfl rfl ?_
        refine rn_callV (a := 0) (b := 0) [.int v34, .int v4] kl_SG_Heap_68 dX0_refuses_51 q6 hl6 rfl (t_X0_hasByteOf G S ws hW o0_ m0_ v34 v4) rfl rfl (Nat.le_of_ble_eq_true rfl) (Nat.le_of_ble_eq_true rfl) (Nat.le_of_ble_eq_true rfl) (Nat.le_of_ble_eq_true rfl) (Nat.le_of_ble_eq_true rfl) (Nat.le_of_ble_eq_true rfl) (fun _ _ h => False.elim h) (fun v9 w36 h37 => ?_)
        obtain ⟨rfl, v38, rfl, rv38⟩ := h37
        refine rn_stk [.int v38] rfl ?_
        refine rn_if_eq (tgt := 61) dX0_refuses_54 (by decide) (fun h40 => ?_) (fun h40 => ?_)
        · have ch40 := cv_eq h40
          have r41 : Rg (0) (0) v38 := rf_eqx ch40 rv38 rk_0 (by decide) (by decide)
          refine rn_iconst (v := (0 : Int32)) dX0_refuses_61 (by decide) ?_
          exact rn_iret dX0_refuses_62 rfl rfl (rq_in ⟨rfl, (0 : Int32), rfl, (rg_w rk_0 (by decide) (by decide))⟩)
        · have ch40 := cv_ne h40
          have r42 : Rg (1) (1) v38 := rf_nel ch40 rv38 rk_0 (by decide) (by decide)
          refine rn_iconst (v := (1 : Int32)) dX0_refuses_57 (by decide) ?_
          refine rn_goto (tgt := 62) dX0_refuses_58 (by decide) ?_
          exact rn_iret dX0_refuses_62 rfl rfl (rq_in ⟨rfl, (1 : Int32), rfl, (rg_w rk_1 (by decide) (by decide))⟩)
  · have ch8 := cv_ne h8
    refine rn_iload_n (i := 2) dX0_refuses_13 rfl rfl ?_
    refine rn_aload_n (i := 0) dX0_refuses_14 rfl rfl ?_
    refine rn_get q6 kg_SG_Heap_50 hl6 hx7 dX0_refuses_15 ?_
    refine rn_icmp_gt (tgt := 28) dX0_refuses_18 (by decide) (fun h43 => ?_) (fun h43 => ?_)
    · have ch43 := cv_lt h43
      have r44 : Rg (-2147483648) (67547) x7 := rf_ltx ch43 rx7 rv4 (by decide)
      refine rn_iconst (v := (1 : Int32)) dX0_refuses_28 (by decide) ?_
      exact rn_iret dX0_refuses_29 rfl rfl (rq_in ⟨rfl, (1 : Int32), rfl, (rg_w rk_1 (by decide) (by decide))⟩)
    · have ch43 := cv_nlt h43
      have r45 : Rg (-20) (2147483647) x7 := rf_ley ch43 rv4 rx7 (by decide)
      refine rn_aload_n (i := 1) dX0_refuses_21 rfl rfl ?_
      refine rn_callV (a := 0) (b := 0) [] kl_SG_Heap_59 dX0_refuses_22 q1 hl1 rfl (t_X4_hasMore G S ws hW o1_ m1_) rfl rfl (Nat.le_of_ble_eq_true rfl) (Nat.le_of_ble_eq_true rfl) (Nat.le_of_ble_eq_true rfl) (Nat.le_of_ble_eq_true rfl) (Nat.le_of_ble_eq_true rfl) (Nat.le_of_ble_eq_true rfl) (fun _ _ h => False.elim h) (fun v9 w46 h47 => ?_)
      obtain ⟨rfl, v48, rfl, rv48⟩ := h47
      refine rn_stk [.int v48] rfl ?_
      refine rn_if_ne (tgt := 30) dX0_refuses_25 (by decide) (fun h50 => ?_) (fun h50 => ?_)
      · have ch50 := cv_ne h50
        have r51 : Rg (1) (1) v48 := rf_nel ch50 rv48 rk_0 (by decide) (by decide)
        refine rn_aload_n (i := 1) dX0_refuses_30 rfl rfl ?_
        refine rn_callV (a := 0) (b := 0) [] kl_SG_Heap_59 dX0_refuses_31 q1 hl1 rfl (t_X4_hasMore G S ws hW o1_ m1_) rfl rfl (Nat.le_of_ble_eq_true rfl) (Nat.le_of_ble_eq_true rfl) (Nat.le_of_ble_eq_true rfl) (Nat.le_of_ble_eq_true rfl) (Nat.le_of_ble_eq_true rfl) (Nat.le_of_ble_eq_true rfl) (fun _ _ h => False.elim h) (fun v9 w52 h53 => ?_)
        obtain ⟨rfl, v54, rfl, rv54⟩ := h53
        refine rn_stk [.int v54] rfl ?_
        refine rn_if_ne (tgt := 45) dX0_refuses_34 (by decide) (fun h56 => ?_) (fun h56 => ?_)
        · have ch56 := cv_ne h56
          have r57 : Rg (1) (1) v54 := rf_nel ch56 rv54 rk_0 (by decide) (by decide)
          refine rn_aload_n (i := 0) dX0_refuses_45 rfl rfl ?_
          refine rn_aload_n (i := 1) dX0_refuses_46 rfl rfl ?_
          refine rn_callV (a := 0) (b := 0) [] kl_SG_Heap_65 dX0_refuses_47 q1 hl1 rfl (t_X4_start G S ws hW o1_ m1_) rfl rfl (Nat.le_of_ble_eq_true rfl) (Nat.le_of_ble_eq_true rfl) (Nat.le_of_ble_eq_true rfl) (Nat.le_of_ble_eq_true rfl) (Nat.le_of_ble_eq_true rfl) (Nat.le_of_ble_eq_true rfl) (fun _ _ h => False.elim h) (fun v9 w58 h59 => ?_)
          obtain ⟨rfl, v60, rfl, rv60⟩ := h59
          refine rn_stk [.int v60, .ref o0_] rfl ?_
          refine rn_iload_n (i := 2) dX0_refuses_50 rfl rfl ?_
          refine rn_callV (a := 0) (b := 0) [.int v60, .int v4] kl_SG_Heap_68 dX0_refuses_51 q6 hl6 rfl (t_X0_hasByteOf G S ws hW o0_ m0_ v60 v4) rfl rfl (Nat.le_of_ble_eq_true rfl) (Nat.le_of_ble_eq_true rfl) (Nat.le_of_ble_eq_true rfl) (Nat.le_of_ble_eq_true rfl) (Nat.le_of_ble_eq_true rfl) (Nat.le_of_ble_eq_true rfl) (fun _ _ h => False.elim h) (fun v9 w62 h63 => ?_)
          obtain ⟨rfl, v64, rfl, rv64⟩ := h63
          refine rn_stk [.int v64] rfl ?_
          refine rn_if_eq (tgt := 61) dX0_refuses_54 (by decide) (fun h66 => ?_) (fun h66 => ?_)
          · have ch66 := cv_eq h66
            have r67 : Rg (0) (0) v64 := rf_eqx ch66 rv64 rk_0 (by decide) (by decide)
            refine rn_iconst (v := (0 : Int32)) dX0_refuses_61 (by decide) ?_
            exact rn_iret dX0_refuses_62 rfl rfl (rq_in ⟨rfl, (0 : Int32), rfl, (rg_w rk_0 (by decide) (by decide))⟩)
          · have ch66 := cv_ne h66
            have r68 : Rg (1) (1) v64 := rf_nel ch66 rv64 rk_0 (by decide) (by decide)
            refine rn_iconst (v := (1 : Int32)) dX0_refuses_57 (by decide) ?_
            refine rn_goto (tgt := 62) dX0_refuses_58 (by decide) ?_
            exact rn_iret dX0_refuses_62 rfl rfl (rq_in ⟨rfl, (1 : Int32), rfl, (rg_w rk_1 (by decide) (by decide))⟩)
        · have ch56 := cv_eq h56
          have r69 : Rg (0) (0) v54 := rf_eqx ch56 rv54 rk_0 (by decide) (by decide)
          refine rn_aload_n (i := 0) dX0_refuses_37 rfl rfl ?_
          obtain ⟨x70, hx70, rx70⟩ := fs_i hf6 5 rfl
          refine rn_get q6 kg_SG_Heap_47 hl6 hx70 dX0_refuses_38 ?_
          refine rn_iload_n (i := 2) dX0_refuses_41 rfl rfl ?_
          refine rn_icmp_gt (tgt := 57) dX0_refuses_42 (by decide) (fun h71 => ?_) (fun h71 => ?_)
          · have ch71 := cv_lt h71
            have r72 : Rg (-19) (2147483647) x70 := rf_lty ch71 rv4 rx70 (by decide)
            refine rn_iconst (v := (1 : Int32)) dX0_refuses_57 (by decide) ?_
            refine rn_goto (tgt := 62) dX0_refuses_58 (by decide) ?_
            exact rn_iret dX0_refuses_62 rfl rfl (rq_in ⟨rfl, (1 : Int32), rfl, (rg_w rk_1 (by decide) (by decide))⟩)
          · have ch71 := cv_nlt h71
            have r73 : Rg (-2147483648) (67548) x70 := rf_lex ch71 rx70 rv4 (by decide)
            refine rn_aload_n (i := 0) dX0_refuses_45 rfl rfl ?_
            refine rn_aload_n (i := 1) dX0_refuses_46 rfl rfl ?_
            refine rn_callV (a := 0) (b := 0) [] kl_SG_Heap_65 dX0_refuses_47 q1 hl1 rfl (t_X4_start G S ws hW o1_ m1_) rfl rfl (Nat.le_of_ble_eq_true rfl) (Nat.le_of_ble_eq_true rfl) (Nat.le_of_ble_eq_true rfl) (Nat.le_of_ble_eq_true rfl) (Nat.le_of_ble_eq_true rfl) (Nat.le_of_ble_eq_true rfl) (fun _ _ h => False.elim h) (fun v9 w74 h75 => ?_)
            obtain ⟨rfl, v76, rfl, rv76⟩ := h75
            refine rn_stk [.int v76, .ref o0_] rfl ?_
            refine rn_iload_n (i := 2) dX0_refuses_50 rfl rfl ?_
            refine rn_callV (a := 0) (b := 0) [.int v76, .int v4] kl_SG_Heap_68 dX0_refuses_51 q6 hl6 rfl (t_X0_hasByteOf G S ws hW o0_ m0_ v76 v4) rfl rfl (Nat.le_of_ble_eq_true rfl) (Nat.le_of_ble_eq_true rfl) (Nat.le_of_ble_eq_true rfl) (Nat.le_of_ble_eq_true rfl) (Nat.le_of_ble_eq_true rfl) (Nat.le_of_ble_eq_true rfl) (fun _ _ h => False.elim h) (fun v9 w78 h79 => ?_)
            obtain ⟨rfl, v80, rfl, rv80⟩ := h79
            refine rn_stk [.int v80] rfl ?_
            refine rn_if_eq (tgt := 61) dX0_refuses_54 (by decide) (fun h82 => ?_) (fun h82 => ?_)
            · have ch82 := cv_eq h82
              have r83 : Rg (0) (0) v80 := rf_eqx ch82 rv80 rk_0 (by decide) (by decide)
              refine rn_iconst (v := (0 : Int32)) dX0_refuses_61 (by decide) ?_
              exact rn_iret dX0_refuses_62 rfl rfl (rq_in ⟨rfl, (0 : Int32), rfl, (rg_w rk_0 (by decide) (by decide))⟩)
            · have ch82 := cv_ne h82
              have r84 : Rg (1) (1) v80 := rf_nel ch82 rv80 rk_0 (by decide) (by decide)
              refine rn_iconst (v := (1 : Int32)) dX0_refuses_57 (by decide) ?_
              refine rn_goto (tgt := 62) dX0_refuses_58 (by decide) ?_
              exact rn_iret dX0_refuses_62 rfl rfl (rq_in ⟨rfl, (1 : Int32), rfl, (rg_w rk_1 (by decide) (by decide))⟩)
      · have ch50 := cv_eq h50
        have r85 : Rg (0) (0) v48 := rf_eqx ch50 rv48 rk_0 (by decide) (by decide)
        refine rn_iconst (v := (1 : Int32)) dX0_refuses_28 (by decide) ?_
        exact rn_iret dX0_refuses_29 rfl rfl (rq_in ⟨rfl, (1 : Int32), rfl, (rg_w rk_1 (by decide) (by decide))⟩)
abbrev q_t_X4_copyBytes (G : rn_G) (S : ts_S) (ws : va_W) : rn_R → va_W → Prop := rQ (fun v w => St G S [11] ws S w ∧ (v = none)) (fun E w => False)
set_option maxRecDepth 20000 in
set_option maxHeartbeats 4000000 in
theorem t_X4_copyBytes (G : rn_G) (S : ts_S) (ws : va_W) (hW : ts_W G S ws) (o0_ : Nat) (m0_ : (o0_, 4) ∈ S) (o1_ : Nat) (m1_ : (o1_, 4) ∈ S) (x2_ : Int32) (x3_ : Int32) (x4_ : Int32) : Rn G mX4_copyBytes 1 60 0 0 0 (lv_args 0 [.ref o0_, .ref o1_, .int x2_, .int x3_, .int x4_]) [] ws (q_t_X4_copyBytes G S ws ) := by
  have hS0 : St G S [11] ws S ws := St.rf hW
  refine rn_lv [(0, .ref o0_), (1, .ref o1_), (2, .int x2_), (3, .int x3_), (4, .int x4_)] rfl ?_
  refine rn_iload dX4_copyBytes_0 rfl ?_
  refine rn_if_le (tgt := 50) dX4_copyBytes_2 (by decide) (fun h1 => ?_) (fun h1 => ?_)
  · have ch1 := cv_le h1
    have r2 : Rg (-2147483648) (0) x4_ := rf_lex ch1 (rg_any x4_) rk_0 (by decide)
    exact rn_vret dX4_copyBytes_50 rfl (rq_in ⟨hS0, rfl⟩)
  · have ch1 := cv_nle h1
    have r3 : Rg (1) (2147483647) x4_ := rf_lty ch1 rk_0 (rg_any x4_) (by decide)
    refine rn_iload_n (i := 2) dX4_copyBytes_5 rfl rfl ?_
    refine rn_if_lt (tgt := 50) dX4_copyBytes_6 (by decide) (fun h4 => ?_) (fun h4 => ?_)
    · have ch4 := cv_lt h4
      have r5 : Rg (-2147483648) (-1) x2_ := rf_ltx ch4 (rg_any x2_) rk_0 (by decide)
      exact rn_vret dX4_copyBytes_50 rfl (rq_in ⟨hS0, rfl⟩)
    · have ch4 := cv_nlt h4
      have r6 : Rg (0) (2147483647) x2_ := rf_ley ch4 rk_0 (rg_any x2_) (by decide)
      refine rn_iload_n (i := 3) dX4_copyBytes_9 rfl rfl ?_
      refine rn_if_lt (tgt := 50) dX4_copyBytes_10 (by decide) (fun h7 => ?_) (fun h7 => ?_)
      · have ch7 := cv_lt h7
        have r8 : Rg (-2147483648) (-1) x3_ := rf_ltx ch7 (rg_any x3_) rk_0 (by decide)
        exact rn_vret dX4_copyBytes_50 rfl (rq_in ⟨hS0, rfl⟩)
      · have ch7 := cv_nlt h7
        have r9 : Rg (0) (2147483647) x3_ := rf_ley ch7 rk_0 (rg_any x3_) (by decide)
        refine rn_iload_n (i := 2) dX4_copyBytes_13 rfl rfl ?_
        refine rn_aload_n (i := 1) dX4_copyBytes_14 rfl rfl ?_
        obtain ⟨q10, fs10, hq10, hl10, hf10⟩ := ts_obj hS0.1 m1_ hk_4
        obtain ⟨x11, hx11, rx11⟩ := fs_i hf10 1 rfl
        refine rn_get q10 kg_SG_Packet_15 hl10 hx11 dX4_copyBytes_15 ?_
        refine rn_iload dX4_copyBytes_18 rfl ?_
        refine rs_subR (-2147483647) (2039) rx11 r3 dX4_copyBytes_20 (by decide) (fun v12 ev12 rv12 => ?_)
        refine rn_icmp_gt (tgt := 50) dX4_copyBytes_21 (by decide) (fun h13 => ?_) (fun h13 => ?_)
        · have ch13 := cv_lt h13
          exact rn_vret dX4_copyBytes_50 rfl (rq_in ⟨hS0, rfl⟩)
        · have ch13 := cv_nlt h13
          have r14 : Rg (0) (2039) x2_ := rf_lex ch13 r6 rv12 (by decide)
          have r15 : Rg (0) (2039) v12 := rf_ley ch13 r6 rv12 (by decide)
          refine rn_iload_n (i := 3) dX4_copyBytes_24 rfl rfl ?_
          refine rn_aload_n (i := 0) dX4_copyBytes_25 rfl rfl ?_
          obtain ⟨q16, fs16, hq16, hl16, hf16⟩ := ts_obj hS0.1 m0_ hk_4
          obtain ⟨x17, hx17, rx17⟩ := fs_i hf16 1 rfl
          refine rn_get q16 kg_SG_Packet_15 hl16 hx17 dX4_copyBytes_26 ?_
          refine rn_iload dX4_copyBytes_29 rfl ?_
          refine rs_subR (-2147483647) (2039) rx17 r3 dX4_copyBytes_31 (by decide) (fun v18 ev18 rv18 => ?_)
          refine rn_icmp_gt (tgt := 50) dX4_copyBytes_32 (by decide) (fun h19 => ?_) (fun h19 => ?_)
          · have ch19 := cv_lt h19
            exact rn_vret dX4_copyBytes_50 rfl (rq_in ⟨hS0, rfl⟩)
          · have ch19 := cv_nlt h19
            have r20 : Rg (0) (2039) x3_ := rf_lex ch19 r9 rv18 (by decide)
            have r21 : Rg (0) (2039) v18 := rf_ley ch19 r9 rv18 (by decide)
            refine rn_aload_n (i := 1) dX4_copyBytes_35 rfl rfl ?_
            obtain ⟨o22, hx22, m22⟩ := fs_r hf10 0 rfl
            refine rn_get q10 kg_SG_Packet_11 hl10 hx22 dX4_copyBytes_36 ?_
            refine rn_iload_n (i := 2) dX4_copyBytes_39 rfl rfl ?_
            refine rn_aload_n (i := 0) dX4_copyBytes_40 rfl rfl ?_
            obtain ⟨o23, hx23, m23⟩ := fs_r hf16 0 rfl
            refine rn_get q16 kg_SG_Packet_11 hl16 hx23 dX4_copyBytes_41 ?_
            refine rn_iload_n (i := 3) dX4_copyBytes_44 rfl rfl ?_
            refine rn_iload dX4_copyBytes_45 rfl ?_
            obtain ⟨q24, f24, hq24, hl24, hf24⟩ := ts_ia hS0.1 m22 hk_11
            obtain ⟨q25, f25, hq25, hl25, hf25⟩ := ts_ia hS0.1 m23 hk_11
            refine rs_acpy q24 q25 ac_SG_Packet_46 hS0 hl24 hf24 hq25 hl25 hf25 hk_11 rfl (by have := r3.1; have := r3.2; have := r14.1; have := r14.2; have := r20.1; have := r20.2; have := rx11.1; have := rx11.2; have := r15.1; have := r15.2; have := rx17.1; have := rx17.2; have := r21.1; have := r21.2; have := rk_0.1; have := rk_0.2; omega) (by have := r3.1; have := r3.2; have := r14.1; have := r14.2; have := r20.1; have := r20.2; have := rx11.1; have := rx11.2; have := r15.1; have := r15.2; have := rx17.1; have := rx17.2; have := r21.1; have := r21.2; have := rk_0.1; have := rk_0.2; omega) (by have := r3.1; have := r3.2; have := r14.1; have := r14.2; have := r20.1; have := r20.2; have := rx11.1; have := rx11.2; have := r15.1; have := r15.2; have := rx17.1; have := rx17.2; have := r21.1; have := r21.2; have := rk_0.1; have := rk_0.2; omega) (by have := r3.1; have := r3.2; have := r14.1; have := r14.2; have := r20.1; have := r20.2; have := rx11.1; have := rx11.2; have := r15.1; have := r15.2; have := rx17.1; have := rx17.2; have := r21.1; have := r21.2; have := rk_0.1; have := rk_0.2; omega) (by have := r3.1; have := r3.2; have := r14.1; have := r14.2; have := r20.1; have := r20.2; have := rx11.1; have := rx11.2; have := r15.1; have := r15.2; have := rx17.1; have := rx17.2; have := r21.1; have := r21.2; have := rk_0.1; have := rk_0.2; omega) (Nat.le_of_ble_eq_true rfl) (Nat.le_of_ble_eq_true rfl) (Nat.le_of_ble_eq_true rfl) dX4_copyBytes_47 (fun w26 hS27 hn27 => ?_)
            exact rn_vret dX4_copyBytes_50 rfl (rq_in ⟨hS27, rfl⟩)
abbrev q_t_X0_lay (G : rn_G) (S : ts_S) (ws : va_W) : rn_R → va_W → Prop := rQ (fun v w => St G S [0, 11, 12] ws S w ∧ (v = none)) (fun E w => False)
set_option maxRecDepth 20000 in
set_option maxHeartbeats 4000000 in
theorem t_X0_lay (G : rn_G) (S : ts_S) (ws : va_W) (hW : ts_W G S ws) (o0_ : Nat) (m0_ : (o0_, 0) ∈ S) (o1_ : Nat) (m1_ : (o1_, 4) ∈ S) : Rn G mX0_lay 2 84 0 0 0 (lv_args 0 [.ref o0_, .ref o1_]) [] ws (q_t_X0_lay G S ws ) := by
  have hS0 : St G S [0, 11, 12] ws S ws := St.rf hW
  refine rn_lv [(0, .ref o0_), (1, .ref o1_)] rfl ?_
  refine rn_aload_n (i := 1) dX0_lay_0 rfl rfl ?_
  obtain ⟨q1, fs1, hq1, hl1, hf1⟩ := ts_obj hS0.1 m1_ hk_4
  refine rn_callV (a := 0) (b := 0) [] kl_SG_Heap_65 dX0_lay_1 q1 hl1 rfl (t_X4_start G S ws hS0.1 o1_ m1_) rfl rfl (Nat.le_of_ble_eq_true rfl) (Nat.le_of_ble_eq_true rfl) (Nat.le_of_ble_eq_true rfl) (Nat.le_of_ble_eq_true rfl) (Nat.le_of_ble_eq_true rfl) (Nat.le_of_ble_eq_true rfl) (fun _ _ h => False.elim h) (fun v9 w2 h3 => ?_)
  obtain ⟨rfl, v4, rfl, rv4⟩ := h3
  refine rn_stk [.int v4] rfl ?_
  refine rn_istore_n dX0_lay_4 rfl (by decide) [(0, .ref o0_), (1, .ref o1_), (2, .int v4)] rfl ?_
  refine rn_aload_n (i := 1) dX0_lay_5 rfl rfl ?_
  refine rn_callV (a := 0) (b := 0) [] kl_SG_Heap_63 dX0_lay_6 q1 hl1 rfl (t_X4_end G S ws hS0.1 o1_ m1_) rfl rfl (Nat.le_of_ble_eq_true rfl) (Nat.le_of_ble_eq_true rfl) (Nat.le_of_ble_eq_true rfl) (Nat.le_of_ble_eq_true rfl) (Nat.le_of_ble_eq_true rfl) (Nat.le_of_ble_eq_true rfl) (fun _ _ h => False.elim h) (fun v9 w6 h7 => ?_)
  obtain ⟨rfl, v8, rfl, rv8⟩ := h7
  refine rn_stk [.int v8] rfl ?_
  refine rn_istore_n dX0_lay_9 rfl (by decide) [(0, .ref o0_), (1, .ref o1_), (2, .int v4), (3, .int v8)] rfl ?_
  refine rn_aload_n (i := 0) dX0_lay_10 rfl rfl ?_
  obtain ⟨q10, fs10, hq10, hl10, hf10⟩ := ts_obj hS0.1 m0_ hk_0
  obtain ⟨o11, hx11, m11⟩ := fs_r hf10 0 rfl
  refine rn_get q10 kg_SG_Heap_12 hl10 hx11 dX0_lay_11 ?_
  refine rn_aload_n (i := 1) dX0_lay_14 rfl rfl ?_
  refine rn_bipush (v := (20 : Int32)) dX0_lay_15 (by decide) ?_
  refine rn_bipush (v := (20 : Int32)) dX0_lay_17 (by decide) ?_
  refine rn_iload_n (i := 2) dX0_lay_19 rfl rfl ?_
  refine rs_addD (20) (65548) rk_20 rv4 dX0_lay_20 (by decide) (fun v12 ev12 rv12 => ?_)
  refine rn_iload_n (i := 3) dX0_lay_21 rfl rfl ?_
  refine rn_iload_n (i := 2) dX0_lay_22 rfl rfl ?_
  refine rs_subR (-65548) (67548) rv8 rv4 dX0_lay_23 (by decide) (fun v13 ev13 rv13 => ?_)
  obtain ⟨q14, fs14, hq14, hl14, hf14⟩ := ts_obj hS0.1 m11 hk_4
  refine rn_callV (a := 0) (b := 0) [.ref o1_, .int (20 : Int32), .int v12, .int v13] kl_SG_Heap_72 dX0_lay_24 q14 hl14 rfl (t_X4_copyBytes G S ws hS0.1 o11 m11 o1_ m1_ (20 : Int32) v12 v13) rfl rfl (Nat.le_of_ble_eq_true rfl) (Nat.le_of_ble_eq_true rfl) (Nat.le_of_ble_eq_true rfl) (Nat.le_of_ble_eq_true rfl) (Nat.le_of_ble_eq_true rfl) (Nat.le_of_ble_eq_true rfl) (fun _ _ h => False.elim h) (fun v9 w15 h16 => ?_)
  obtain ⟨hT17, rfl⟩ := h16
  have hS17 := St.tr hS0 hT17 rfl
  refine rn_stk [] rfl ?_
  refine rn_iload_n (i := 2) dX0_lay_27 rfl rfl ?_
  refine rn_if_ne (tgt := 43) dX0_lay_28 (by decide) (fun h18 => ?_) (fun h18 => ?_)
  · have ch18 := cv_ne h18
    have r19 : Rg (1) (65528) v4 := rf_nel ch18 rv4 rk_0 (by decide) (by decide)
    refine rn_iload_n (i := 2) dX0_lay_43 rfl rfl ?_
    refine rn_istore dX0_lay_44 (by decide) [(0, .ref o0_), (1, .ref o1_), (2, .int v4), (3, .int v8), (4, .int v4)] rfl ?_
    have LP21 : ∀ (n : Nat) (w22 : va_W) (x20 : Int32), St G S [12] w15 S w22 → Rg (0) (65528) x20 → (65528 - x20.toInt).toNat = n → Rn G mX0_lay 2 84 0 0 46 [(0, .ref o0_), (1, .ref o1_), (2, .int v4), (3, .int v8), (4, .int x20)] [] w22 (q_t_X0_lay G S ws ) := by
      intro n
      induction n using Nat.strongRecOn with
      | _ n ih =>
        intro w22 x20 hT23 r24 hm25
        refine rn_iload dX0_lay_46 rfl ?_
        refine rn_iload_n (i := 3) dX0_lay_48 rfl rfl ?_
        refine rn_icmp_ge (tgt := 79) dX0_lay_49 (by decide) (fun h26 => ?_) (fun h26 => ?_)
        · have ch26 := cv_le h26
          have r27 : Rg (-20) (65528) v8 := rf_lex ch26 rv8 r24 (by decide)
          have hS28 := St.tr hS17 hT23 rfl
          refine rn_aload_n (i := 0) dX0_lay_79 rfl rfl ?_
          refine rn_dup dX0_lay_80 rfl ?_
          obtain ⟨x29, hx29, rx29⟩ := fs_i hf10 4 rfl
          refine rn_get q10 kg_SG_Heap_44 (hT23.fr hq10 rfl (hT17.fr hq10 rfl hl10)) hx29 dX0_lay_81 ?_
          refine rn_iload_n (i := 3) dX0_lay_84 rfl rfl ?_
          refine rn_iload_n (i := 2) dX0_lay_85 rfl rfl ?_
          refine rs_subR (-65548) (65527) r27 r19 dX0_lay_86 (by decide) (fun v30 ev30 rv30 => ?_)
          refine rn_iadd dX0_lay_87 (rn_nmA (fun v31 rv31 => ?_))
          refine rs_put q10 (kp_SG_Heap_44 _) hS28 hq10 (hT23.fr hq10 rfl (hT17.fr hq10 rfl hl10)) hf10 hk_0 rfl rfl (tv_i rv31) rfl rfl dX0_lay_88 (fun w32 fs33 hS33 hl33 hf33 hx33 ho33 hn33 => ?_)
          refine rn_aload_n (i := 0) dX0_lay_91 rfl rfl ?_
          refine rn_aload_n (i := 0) dX0_lay_92 rfl rfl ?_
          obtain ⟨x34, hx34, rx34⟩ := fs_i hf33 5 rfl
          refine rn_get q10 kg_SG_Heap_47 hl33 hx34 dX0_lay_93 ?_
          refine rn_iload_n (i := 3) dX0_lay_96 rfl rfl ?_
          refine rn_mmax kl_SG_Heap_76 dX0_lay_97 (Nat.le_of_ble_eq_true rfl) (Nat.le_of_ble_eq_true rfl) (Nat.le_of_ble_eq_true rfl) (rn_tn (-20) (2147483647) (rg_max rx34 r27 (by decide)) (fun v35 rv35 => ?_))
          refine rs_put q10 (kp_SG_Heap_47 _) hS33 hq10 hl33 hf33 hk_0 rfl rfl (tv_i (rg_w rv35 (by decide) (by decide))) rfl rfl dX0_lay_100 (fun w36 fs37 hS37 hl37 hf37 hx37 ho37 hn37 => ?_)
          refine rn_aload_n (i := 1) dX0_lay_103 rfl rfl ?_
          refine rn_callV (a := 0) (b := 0) [] kl_SG_Heap_59 dX0_lay_104 q1 ((hn37 _ (ts_ne hq10 hq1 rfl)).trans ((hn33 _ (ts_ne hq10 hq1 rfl)).trans (hT23.fr hq1 rfl (hT17.fr hq1 rfl hl1)))) rfl (t_X4_hasMore G S w36 hS37.1 o1_ m1_) rfl rfl (Nat.le_of_ble_eq_true rfl) (Nat.le_of_ble_eq_true rfl) (Nat.le_of_ble_eq_true rfl) (Nat.le_of_ble_eq_true rfl) (Nat.le_of_ble_eq_true rfl) (Nat.le_of_ble_eq_true rfl) (fun _ _ h => False.elim h) (fun v9 w38 h39 => ?_)
          obtain ⟨rfl, v40, rfl, rv40⟩ := h39
          refine rn_stk [.int v40] rfl ?_
          refine rn_if_ne (tgt := 115) dX0_lay_107 (by decide) (fun h42 => ?_) (fun h42 => ?_)
          · have ch42 := cv_ne h42
            have r43 : Rg (1) (1) v40 := rf_nel ch42 rv40 rk_0 (by decide) (by decide)
            exact rn_vret dX0_lay_115 rfl (rq_in ⟨hS37, rfl⟩)
          · have ch42 := cv_eq h42
            have r44 : Rg (0) (0) v40 := rf_eqx ch42 rv40 rk_0 (by decide) (by decide)
            refine rn_aload_n (i := 0) dX0_lay_110 rfl rfl ?_
            refine rn_iload_n (i := 3) dX0_lay_111 rfl rfl ?_
            refine rs_put q10 (kp_SG_Heap_50 _) hS37 hq10 hl37 hf37 hk_0 rfl rfl (tv_i (rg_w r27 (by decide) (by decide))) rfl rfl dX0_lay_112 (fun w45 fs46 hS46 hl46 hf46 hx46 ho46 hn46 => ?_)
            exact rn_vret dX0_lay_115 rfl (rq_in ⟨hS46, rfl⟩)
        · have ch26 := cv_nle h26
          have r47 : Rg (1) (67548) v8 := rf_lty ch26 r24 rv8 (by decide)
          refine rn_iload dX0_lay_52 rfl ?_
          refine rn_sipush (v := (1980 : Int32)) dX0_lay_54 (by decide) ?_
          refine rn_icmp_ge (tgt := 79) dX0_lay_57 (by decide) (fun h48 => ?_) (fun h48 => ?_)
          · have ch48 := cv_le h48
            have r49 : Rg (1980) (65528) x20 := rf_ley ch48 rk_1980 r24 (by decide)
            have hS50 := St.tr hS17 hT23 rfl
            refine rn_aload_n (i := 0) dX0_lay_79 rfl rfl ?_
            refine rn_dup dX0_lay_80 rfl ?_
            obtain ⟨x51, hx51, rx51⟩ := fs_i hf10 4 rfl
            refine rn_get q10 kg_SG_Heap_44 (hT23.fr hq10 rfl (hT17.fr hq10 rfl hl10)) hx51 dX0_lay_81 ?_
            refine rn_iload_n (i := 3) dX0_lay_84 rfl rfl ?_
            refine rn_iload_n (i := 2) dX0_lay_85 rfl rfl ?_
            refine rs_subR (-65527) (67547) r47 r19 dX0_lay_86 (by decide) (fun v52 ev52 rv52 => ?_)
            refine rn_iadd dX0_lay_87 (rn_nmA (fun v53 rv53 => ?_))
            refine rs_put q10 (kp_SG_Heap_44 _) hS50 hq10 (hT23.fr hq10 rfl (hT17.fr hq10 rfl hl10)) hf10 hk_0 rfl rfl (tv_i rv53) rfl rfl dX0_lay_88 (fun w54 fs55 hS55 hl55 hf55 hx55 ho55 hn55 => ?_)
            refine rn_aload_n (i := 0) dX0_lay_91 rfl rfl ?_
            refine rn_aload_n (i := 0) dX0_lay_92 rfl rfl ?_
            obtain ⟨x56, hx56, rx56⟩ := fs_i hf55 5 rfl
            refine rn_get q10 kg_SG_Heap_47 hl55 hx56 dX0_lay_93 ?_
            refine rn_iload_n (i := 3) dX0_lay_96 rfl rfl ?_
            refine rn_mmax kl_SG_Heap_76 dX0_lay_97 (Nat.le_of_ble_eq_true rfl) (Nat.le_of_ble_eq_true rfl) (Nat.le_of_ble_eq_true rfl) (rn_tn (1) (2147483647) (rg_max rx56 r47 (by decide)) (fun v57 rv57 => ?_))
            refine rs_put q10 (kp_SG_Heap_47 _) hS55 hq10 hl55 hf55 hk_0 rfl rfl (tv_i (rg_w rv57 (by decide) (by decide))) rfl rfl dX0_lay_100 (fun w58 fs59 hS59 hl59 hf59 hx59 ho59 hn59 => ?_)
            refine rn_aload_n (i := 1) dX0_lay_103 rfl rfl ?_
            refine rn_callV (a := 0) (b := 0) [] kl_SG_Heap_59 dX0_lay_104 q1 ((hn59 _ (ts_ne hq10 hq1 rfl)).trans ((hn55 _ (ts_ne hq10 hq1 rfl)).trans (hT23.fr hq1 rfl (hT17.fr hq1 rfl hl1)))) rfl (t_X4_hasMore G S w58 hS59.1 o1_ m1_) rfl rfl (Nat.le_of_ble_eq_true rfl) (Nat.le_of_ble_eq_true rfl) (Nat.le_of_ble_eq_true rfl) (Nat.le_of_ble_eq_true rfl) (Nat.le_of_ble_eq_true rfl) (Nat.le_of_ble_eq_true rfl) (fun _ _ h => False.elim h) (fun v9 w60 h61 => ?_)
            obtain ⟨rfl, v62, rfl, rv62⟩ := h61
            refine rn_stk [.int v62] rfl ?_
            refine rn_if_ne (tgt := 115) dX0_lay_107 (by decide) (fun h64 => ?_) (fun h64 => ?_)
            · have ch64 := cv_ne h64
              have r65 : Rg (1) (1) v62 := rf_nel ch64 rv62 rk_0 (by decide) (by decide)
              exact rn_vret dX0_lay_115 rfl (rq_in ⟨hS59, rfl⟩)
            · have ch64 := cv_eq h64
              have r66 : Rg (0) (0) v62 := rf_eqx ch64 rv62 rk_0 (by decide) (by decide)
              refine rn_aload_n (i := 0) dX0_lay_110 rfl rfl ?_
              refine rn_iload_n (i := 3) dX0_lay_111 rfl rfl ?_
              refine rs_put q10 (kp_SG_Heap_50 _) hS59 hq10 hl59 hf59 hk_0 rfl rfl (tv_i (rg_w r47 (by decide) (by decide))) rfl rfl dX0_lay_112 (fun w67 fs68 hS68 hl68 hf68 hx68 ho68 hn68 => ?_)
              exact rn_vret dX0_lay_115 rfl (rq_in ⟨hS68, rfl⟩)
          · have ch48 := cv_nle h48
            have r69 : Rg (0) (1979) x20 := rf_ltx ch48 r24 rk_1980 (by decide)
            refine rn_iload dX0_lay_60 rfl ?_
            refine rn_if_lt (tgt := 73) dX0_lay_62 (by decide) (fun h70 => (cx_lt (cv_lt h70) r69 rk_0 (by decide)).elim) (fun h70 => ?_)
            have ch70 := cv_nlt h70
            refine rn_aload_n (i := 0) dX0_lay_65 rfl rfl ?_
            obtain ⟨o71, hx71, m71⟩ := fs_r hf10 1 rfl
            refine rn_get q10 kg_SG_Heap_18 (hT23.fr hq10 rfl (hT17.fr hq10 rfl hl10)) hx71 dX0_lay_66 ?_
            refine rn_iload dX0_lay_69 rfl ?_
            refine rn_iconst (v := (1 : Int32)) dX0_lay_71 (by decide) ?_
            obtain ⟨q72, f72, hq72, hl72, hf72⟩ := ts_ia hT23.1 m71 hk_12
            refine rs_bast q72 hT23 hq72 hl72 hf72 hk_12 rfl rfl r69 (by decide) (by decide) (by decide) (by decide) dX0_lay_72 (fun w73 f74 hS74 hl74 hf74 hu74 hn74 => ?_)
            refine rs_iinc (1) (1980) dX0_lay_73 rfl (by decide) r69 rk_1 (by decide) (fun v75 => [(0, .ref o0_), (1, .ref o1_), (2, .int v4), (3, .int v8), (4, .int v75)]) (fun _ => rfl) (fun v75 ev75 rv75 => ?_)
            refine rn_goto (tgt := 46) dX0_lay_76 (by decide) ?_
            refine rn_lv [(0, .ref o0_), (1, .ref o1_), (2, .int v4), (3, .int v8), (4, .int v75)] rfl ?_
            exact ih _ (lp_inc hm25 ev75 rv75 (by decide)) w73 v75 hS74 (rg_w rv75 (by decide) (by decide)) rfl
    exact LP21 _ w15 v4 (St.rf hS17.1) (rg_w r19 (by decide) (by decide)) rfl
  · have ch18 := cv_eq h18
    have r76 : Rg (0) (0) v4 := rf_eqx ch18 rv4 rk_0 (by decide) (by decide)
    refine rn_aload_n (i := 0) dX0_lay_31 rfl rfl ?_
    refine rn_get q10 kg_SG_Heap_12 (hT17.fr hq10 rfl hl10) hx11 dX0_lay_32 ?_
    refine rn_aload_n (i := 1) dX0_lay_35 rfl rfl ?_
    refine rn_iconst (v := (0 : Int32)) dX0_lay_36 (by decide) ?_
    refine rn_iconst (v := (0 : Int32)) dX0_lay_37 (by decide) ?_
    refine rn_bipush (v := (20 : Int32)) dX0_lay_38 (by decide) ?_
    refine rn_callV (a := 0) (b := 0) [.ref o1_, .int (0 : Int32), .int (0 : Int32), .int (20 : Int32)] kl_SG_Heap_72 dX0_lay_40 q14 (hT17.fr hq14 rfl hl14) rfl (t_X4_copyBytes G S w15 hS17.1 o11 m11 o1_ m1_ (0 : Int32) (0 : Int32) (20 : Int32)) rfl rfl (Nat.le_of_ble_eq_true rfl) (Nat.le_of_ble_eq_true rfl) (Nat.le_of_ble_eq_true rfl) (Nat.le_of_ble_eq_true rfl) (Nat.le_of_ble_eq_true rfl) (Nat.le_of_ble_eq_true rfl) (fun _ _ h => False.elim h) (fun v9 w77 h78 => ?_)
    obtain ⟨hT79, rfl⟩ := h78
    have hS79 := St.tr hS17 hT79 rfl
    refine rn_stk [] rfl ?_
    refine rn_iload_n (i := 2) dX0_lay_43 rfl rfl ?_
    refine rn_istore dX0_lay_44 (by decide) [(0, .ref o0_), (1, .ref o1_), (2, .int v4), (3, .int v8), (4, .int v4)] rfl ?_
    have LP81 : ∀ (n : Nat) (w82 : va_W) (x80 : Int32), St G S [12] w77 S w82 → Rg (0) (65528) x80 → (65528 - x80.toInt).toNat = n → Rn G mX0_lay 2 84 0 0 46 [(0, .ref o0_), (1, .ref o1_), (2, .int v4), (3, .int v8), (4, .int x80)] [] w82 (q_t_X0_lay G S ws ) := by
      intro n
      induction n using Nat.strongRecOn with
      | _ n ih =>
        intro w82 x80 hT83 r84 hm85
        refine rn_iload dX0_lay_46 rfl ?_
        refine rn_iload_n (i := 3) dX0_lay_48 rfl rfl ?_
        refine rn_icmp_ge (tgt := 79) dX0_lay_49 (by decide) (fun h86 => ?_) (fun h86 => ?_)
        · have ch86 := cv_le h86
          have r87 : Rg (-20) (65528) v8 := rf_lex ch86 rv8 r84 (by decide)
          have hS88 := St.tr hS79 hT83 rfl
          refine rn_aload_n (i := 0) dX0_lay_79 rfl rfl ?_
          refine rn_dup dX0_lay_80 rfl ?_
          obtain ⟨x89, hx89, rx89⟩ := fs_i hf10 4 rfl
          refine rn_get q10 kg_SG_Heap_44 (hT83.fr hq10 rfl (hT79.fr hq10 rfl (hT17.fr hq10 rfl hl10))) hx89 dX0_lay_81 ?_
          refine rn_iload_n (i := 3) dX0_lay_84 rfl rfl ?_
          refine rn_iload_n (i := 2) dX0_lay_85 rfl rfl ?_
          refine rs_subR (-20) (65528) r87 r76 dX0_lay_86 (by decide) (fun v90 ev90 rv90 => ?_)
          refine rn_iadd dX0_lay_87 (rn_nmA (fun v91 rv91 => ?_))
          refine rs_put q10 (kp_SG_Heap_44 _) hS88 hq10 (hT83.fr hq10 rfl (hT79.fr hq10 rfl (hT17.fr hq10 rfl hl10))) hf10 hk_0 rfl rfl (tv_i rv91) rfl rfl dX0_lay_88 (fun w92 fs93 hS93 hl93 hf93 hx93 ho93 hn93 => ?_)
          refine rn_aload_n (i := 0) dX0_lay_91 rfl rfl ?_
          refine rn_aload_n (i := 0) dX0_lay_92 rfl rfl ?_
          obtain ⟨x94, hx94, rx94⟩ := fs_i hf93 5 rfl
          refine rn_get q10 kg_SG_Heap_47 hl93 hx94 dX0_lay_93 ?_
          refine rn_iload_n (i := 3) dX0_lay_96 rfl rfl ?_
          refine rn_mmax kl_SG_Heap_76 dX0_lay_97 (Nat.le_of_ble_eq_true rfl) (Nat.le_of_ble_eq_true rfl) (Nat.le_of_ble_eq_true rfl) (rn_tn (-20) (2147483647) (rg_max rx94 r87 (by decide)) (fun v95 rv95 => ?_))
          refine rs_put q10 (kp_SG_Heap_47 _) hS93 hq10 hl93 hf93 hk_0 rfl rfl (tv_i (rg_w rv95 (by decide) (by decide))) rfl rfl dX0_lay_100 (fun w96 fs97 hS97 hl97 hf97 hx97 ho97 hn97 => ?_)
          refine rn_aload_n (i := 1) dX0_lay_103 rfl rfl ?_
          refine rn_callV (a := 0) (b := 0) [] kl_SG_Heap_59 dX0_lay_104 q1 ((hn97 _ (ts_ne hq10 hq1 rfl)).trans ((hn93 _ (ts_ne hq10 hq1 rfl)).trans (hT83.fr hq1 rfl (hT79.fr hq1 rfl (hT17.fr hq1 rfl hl1))))) rfl (t_X4_hasMore G S w96 hS97.1 o1_ m1_) rfl rfl (Nat.le_of_ble_eq_true rfl) (Nat.le_of_ble_eq_true rfl) (Nat.le_of_ble_eq_true rfl) (Nat.le_of_ble_eq_true rfl) (Nat.le_of_ble_eq_true rfl) (Nat.le_of_ble_eq_true rfl) (fun _ _ h => False.elim h) (fun v9 w98 h99 => ?_)
          obtain ⟨rfl, v100, rfl, rv100⟩ := h99
          refine rn_stk [.int v100] rfl ?_
          refine rn_if_ne (tgt := 115) dX0_lay_107 (by decide) (fun h102 => ?_) (fun h102 => ?_)
          · have ch102 := cv_ne h102
            have r103 : Rg (1) (1) v100 := rf_nel ch102 rv100 rk_0 (by decide) (by decide)
            exact rn_vret dX0_lay_115 rfl (rq_in ⟨hS97, rfl⟩)
          · have ch102 := cv_eq h102
            have r104 : Rg (0) (0) v100 := rf_eqx ch102 rv100 rk_0 (by decide) (by decide)
            refine rn_aload_n (i := 0) dX0_lay_110 rfl rfl ?_
            refine rn_iload_n (i := 3) dX0_lay_111 rfl rfl ?_
            refine rs_put q10 (kp_SG_Heap_50 _) hS97 hq10 hl97 hf97 hk_0 rfl rfl (tv_i (rg_w r87 (by decide) (by decide))) rfl rfl dX0_lay_112 (fun w105 fs106 hS106 hl106 hf106 hx106 ho106 hn106 => ?_)
            exact rn_vret dX0_lay_115 rfl (rq_in ⟨hS106, rfl⟩)
        · have ch86 := cv_nle h86
          have r107 : Rg (1) (67548) v8 := rf_lty ch86 r84 rv8 (by decide)
          refine rn_iload dX0_lay_52 rfl ?_
          refine rn_sipush (v := (1980 : Int32)) dX0_lay_54 (by decide) ?_
          refine rn_icmp_ge (tgt := 79) dX0_lay_57 (by decide) (fun h108 => ?_) (fun h108 => ?_)
          · have ch108 := cv_le h108
            have r109 : Rg (1980) (65528) x80 := rf_ley ch108 rk_1980 r84 (by decide)
            have hS110 := St.tr hS79 hT83 rfl
            refine rn_aload_n (i := 0) dX0_lay_79 rfl rfl ?_
            refine rn_dup dX0_lay_80 rfl ?_
            obtain ⟨x111, hx111, rx111⟩ := fs_i hf10 4 rfl
            refine rn_get q10 kg_SG_Heap_44 (hT83.fr hq10 rfl (hT79.fr hq10 rfl (hT17.fr hq10 rfl hl10))) hx111 dX0_lay_81 ?_
            refine rn_iload_n (i := 3) dX0_lay_84 rfl rfl ?_
            refine rn_iload_n (i := 2) dX0_lay_85 rfl rfl ?_
            refine rs_subR (1) (67548) r107 r76 dX0_lay_86 (by decide) (fun v112 ev112 rv112 => ?_)
            refine rn_iadd dX0_lay_87 (rn_nmA (fun v113 rv113 => ?_))
            refine rs_put q10 (kp_SG_Heap_44 _) hS110 hq10 (hT83.fr hq10 rfl (hT79.fr hq10 rfl (hT17.fr hq10 rfl hl10))) hf10 hk_0 rfl rfl (tv_i rv113) rfl rfl dX0_lay_88 (fun w114 fs115 hS115 hl115 hf115 hx115 ho115 hn115 => ?_)
            refine rn_aload_n (i := 0) dX0_lay_91 rfl rfl ?_
            refine rn_aload_n (i := 0) dX0_lay_92 rfl rfl ?_
            obtain ⟨x116, hx116, rx116⟩ := fs_i hf115 5 rfl
            refine rn_get q10 kg_SG_Heap_47 hl115 hx116 dX0_lay_93 ?_
            refine rn_iload_n (i := 3) dX0_lay_96 rfl rfl ?_
            refine rn_mmax kl_SG_Heap_76 dX0_lay_97 (Nat.le_of_ble_eq_true rfl) (Nat.le_of_ble_eq_true rfl) (Nat.le_of_ble_eq_true rfl) (rn_tn (1) (2147483647) (rg_max rx116 r107 (by decide)) (fun v117 rv117 => ?_))
            refine rs_put q10 (kp_SG_Heap_47 _) hS115 hq10 hl115 hf115 hk_0 rfl rfl (tv_i (rg_w rv117 (by decide) (by decide))) rfl rfl dX0_lay_100 (fun w118 fs119 hS119 hl119 hf119 hx119 ho119 hn119 => ?_)
            refine rn_aload_n (i := 1) dX0_lay_103 rfl rfl ?_
            refine rn_callV (a := 0) (b := 0) [] kl_SG_Heap_59 dX0_lay_104 q1 ((hn119 _ (ts_ne hq10 hq1 rfl)).trans ((hn115 _ (ts_ne hq10 hq1 rfl)).trans (hT83.fr hq1 rfl (hT79.fr hq1 rfl (hT17.fr hq1 rfl hl1))))) rfl (t_X4_hasMore G S w118 hS119.1 o1_ m1_) rfl rfl (Nat.le_of_ble_eq_true rfl) (Nat.le_of_ble_eq_true rfl) (Nat.le_of_ble_eq_true rfl) (Nat.le_of_ble_eq_true rfl) (Nat.le_of_ble_eq_true rfl) (Nat.le_of_ble_eq_true rfl) (fun _ _ h => False.elim h) (fun v9 w120 h121 => ?_)
            obtain ⟨rfl, v122, rfl, rv122⟩ := h121
            refine rn_stk [.int v122] rfl ?_
            refine rn_if_ne (tgt := 115) dX0_lay_107 (by decide) (fun h124 => ?_) (fun h124 => ?_)
            · have ch124 := cv_ne h124
              have r125 : Rg (1) (1) v122 := rf_nel ch124 rv122 rk_0 (by decide) (by decide)
              exact rn_vret dX0_lay_115 rfl (rq_in ⟨hS119, rfl⟩)
            · have ch124 := cv_eq h124
              have r126 : Rg (0) (0) v122 := rf_eqx ch124 rv122 rk_0 (by decide) (by decide)
              refine rn_aload_n (i := 0) dX0_lay_110 rfl rfl ?_
              refine rn_iload_n (i := 3) dX0_lay_111 rfl rfl ?_
              refine rs_put q10 (kp_SG_Heap_50 _) hS119 hq10 hl119 hf119 hk_0 rfl rfl (tv_i (rg_w r107 (by decide) (by decide))) rfl rfl dX0_lay_112 (fun w127 fs128 hS128 hl128 hf128 hx128 ho128 hn128 => ?_)
              exact rn_vret dX0_lay_115 rfl (rq_in ⟨hS128, rfl⟩)
          · have ch108 := cv_nle h108
            have r129 : Rg (0) (1979) x80 := rf_ltx ch108 r84 rk_1980 (by decide)
            refine rn_iload dX0_lay_60 rfl ?_
            refine rn_if_lt (tgt := 73) dX0_lay_62 (by decide) (fun h130 => (cx_lt (cv_lt h130) r129 rk_0 (by decide)).elim) (fun h130 => ?_)
            have ch130 := cv_nlt h130
            refine rn_aload_n (i := 0) dX0_lay_65 rfl rfl ?_
            obtain ⟨o131, hx131, m131⟩ := fs_r hf10 1 rfl
            refine rn_get q10 kg_SG_Heap_18 (hT83.fr hq10 rfl (hT79.fr hq10 rfl (hT17.fr hq10 rfl hl10))) hx131 dX0_lay_66 ?_
            refine rn_iload dX0_lay_69 rfl ?_
            refine rn_iconst (v := (1 : Int32)) dX0_lay_71 (by decide) ?_
            obtain ⟨q132, f132, hq132, hl132, hf132⟩ := ts_ia hT83.1 m131 hk_12
            refine rs_bast q132 hT83 hq132 hl132 hf132 hk_12 rfl rfl r129 (by decide) (by decide) (by decide) (by decide) dX0_lay_72 (fun w133 f134 hS134 hl134 hf134 hu134 hn134 => ?_)
            refine rs_iinc (1) (1980) dX0_lay_73 rfl (by decide) r129 rk_1 (by decide) (fun v135 => [(0, .ref o0_), (1, .ref o1_), (2, .int v4), (3, .int v8), (4, .int v135)]) (fun _ => rfl) (fun v135 ev135 rv135 => ?_)
            refine rn_goto (tgt := 46) dX0_lay_76 (by decide) ?_
            refine rn_lv [(0, .ref o0_), (1, .ref o1_), (2, .int v4), (3, .int v8), (4, .int v135)] rfl ?_
            exact ih _ (lp_inc hm85 ev135 rv135 (by decide)) w133 v135 hS134 (rg_w rv135 (by decide) (by decide)) rfl
    exact LP81 _ w77 v4 (St.rf hS79.1) (rg_w r76 (by decide) (by decide)) rfl
