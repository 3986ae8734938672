abbrev q_t_X10_policyOf (G : rn_G) (S : ts_S) (ws : va_W) : rn_R → va_W → Prop := rQ (fun v w => ws = w ∧ (∃ x : Int32, v = some (.int x) ∧ Rg (-1) (23) x)) (fun E w => False)
set_option maxRecDepth 20000 in
set_option maxHeartbeats 4000000 in
theorem t_X10_policyOf (G : rn_G) (S : ts_S) (ws : va_W) (hW : ts_W G S ws) (o0_ : Nat) (m0_ : (o0_, 30) ∈ S) (x1_ : Int32) (x2_ : Int32) (r2_ : Rg (0) (21970) x2_) : Rn G mX10_policyOf 5 111 0 0 0 (lv_args 0 [.ref o0_, .int x1_, .int x2_]) [] ws (q_t_X10_policyOf G S ws ) := by
  refine rn_lv [(0, .ref o0_), (1, .int x1_), (2, .int x2_)] rfl ?_
  refine rn_iconst (v := (0 : Int32)) dX10_policyOf_0 (by decide) ?_
  refine rn_istore_n dX10_policyOf_1 rfl (by decide) [(0, .ref o0_), (1, .int x1_), (2, .int x2_), (3, .int (0 : Int32))] rfl ?_
  have LP2 : ∀ (n : Nat) (x1 : Int32), Rg (0) (24) x1 → (24 - x1.toInt).toNat = n → Rn G mX10_policyOf 5 111 0 0 2 [(0, .ref o0_), (1, .int x1_), (2, .int x2_), (3, .int x1)] [] ws (q_t_X10_policyOf G S ws ) := by
    intro n
    induction n using Nat.strongRecOn with
    | _ n ih =>
      intro x1 r4 hm5
      refine rn_iload_n (i := 3) dX10_policyOf_2 rfl rfl ?_
      refine rn_aload_n (i := 0) dX10_policyOf_3 rfl rfl ?_
      obtain ⟨q6, fs6, hq6, hl6, hf6⟩ := ts_obj hW m0_ hk_30
      obtain ⟨x7, hx7, rx7⟩ := fs_i hf6 9 rfl
      refine rn_get q6 kg_SGModel_197 hl6 hx7 dX10_policyOf_4 ?_
      refine rn_icmp_ge (tgt := 37) dX10_policyOf_7 (by decide) (fun h8 => ?_) (fun h8 => ?_)
      · have ch8 := cv_le h8
        refine rn_iconst (v := (-1 : Int32)) dX10_policyOf_37 (by decide) ?_
        exact rn_iret dX10_policyOf_38 rfl rfl (rq_in ⟨rfl, (-1 : Int32), rfl, (rg_w rk_m1 (by decide) (by decide))⟩)
      · have ch8 := cv_nle h8
        have r9 : Rg (0) (23) x1 := rf_ltx ch8 r4 rx7 (by decide)
        have r10 : Rg (1) (24) x7 := rf_lty ch8 r4 rx7 (by decide)
        refine rn_aload_n (i := 0) dX10_policyOf_10 rfl rfl ?_
        obtain ⟨o11, hx11, m11⟩ := fs_r hf6 10 rfl
        refine rn_get q6 kg_SGModel_25 hl6 hx11 dX10_policyOf_11 ?_
        refine rn_iload_n (i := 3) dX10_policyOf_14 rfl rfl ?_
        obtain ⟨q12, f12, hq12, hl12, hf12⟩ := ts_ia hW m11 hk_41
        refine rs_iald q12 hl12 hf12 rfl r9 (by decide) (by decide) dX10_policyOf_15 (fun v13 ev13 rv13 => ?_)
        refine rn_iload_n (i := 1) dX10_policyOf_16 rfl rfl ?_
        refine rn_icmp_ne (tgt := 31) dX10_policyOf_17 (by decide) (fun h14 => ?_) (fun h14 => ?_)
        · have ch14 := cv_ne h14
          refine rs_iinc (1) (24) dX10_policyOf_31 rfl (by decide) r9 rk_1 (by decide) (fun v15 => [(0, .ref o0_), (1, .int x1_), (2, .int x2_), (3, .int v15)]) (fun _ => rfl) (fun v15 ev15 rv15 => ?_)
          refine rn_goto (tgt := 2) dX10_policyOf_34 (by decide) ?_
          refine rn_lv [(0, .ref o0_), (1, .int x1_), (2, .int x2_), (3, .int v15)] rfl ?_
          exact ih _ (lp_inc hm5 ev15 rv15 (by decide)) v15 (rg_w rv15 (by decide) (by decide)) rfl
        · have ch14 := cv_eq h14
          refine rn_aload_n (i := 0) dX10_policyOf_20 rfl rfl ?_
          refine rn_iload_n (i := 3) dX10_policyOf_21 rfl rfl ?_
          refine rn_iload_n (i := 2) dX10_policyOf_22 rfl rfl ?_
          refine rn_callV (a := 0) (b := 0) [.int x1, .int x2_] kl_SGModel_221 dX10_policyOf_23 q6 hl6 rfl (t_X10_means G S ws hW o0_ m0_ x1 r9 x2_ r2_) rfl rfl (Nat.le_of_ble_eq_true rfl) (Nat.le_of_ble_eq_true rfl) (Nat.le_of_ble_eq_true rfl) (Nat.le_of_ble_eq_true rfl) (Nat.le_of_ble_eq_true rfl) (Nat.le_of_ble_eq_true rfl) (fun _ _ h => False.elim h) (fun v9 w16 h17 => ?_)
          obtain ⟨rfl, v18, rfl, rv18⟩ := h17
          refine rn_stk [.int v18] rfl ?_
          refine rn_if_eq (tgt := 31) dX10_policyOf_26 (by decide) (fun h20 => ?_) (fun h20 => ?_)
          · have ch20 := cv_eq h20
            have r21 : Rg (0) (0) v18 := rf_eqx ch20 rv18 rk_0 (by decide) (by decide)
            refine rs_iinc (1) (24) dX10_policyOf_31 rfl (by decide) r9 rk_1 (by decide) (fun v22 => [(0, .ref o0_), (1, .int x1_), (2, .int x2_), (3, .int v22)]) (fun _ => rfl) (fun v22 ev22 rv22 => ?_)
            refine rn_goto (tgt := 2) dX10_policyOf_34 (by decide) ?_
            refine rn_lv [(0, .ref o0_), (1, .int x1_), (2, .int x2_), (3, .int v22)] rfl ?_
            exact ih _ (lp_inc hm5 ev22 rv22 (by decide)) v22 (rg_w rv22 (by decide) (by decide)) rfl
          · have ch20 := cv_ne h20
            have r23 : Rg (1) (1) v18 := rf_nel ch20 rv18 rk_0 (by decide) (by decide)
            refine rn_iload_n (i := 3) dX10_policyOf_29 rfl rfl ?_
            exact rn_iret dX10_policyOf_30 rfl rfl (rq_in ⟨rfl, x1, rfl, (rg_w r9 (by decide) (by decide))⟩)
  exact LP2 _ (0 : Int32) (rg_w rk_0 (by decide) (by decide)) rfl
abbrev q_t_X10_isBroken_0 (G : rn_G) (S : ts_S) (ws : va_W) (x2_ : Int32) : rn_R → va_W → Prop := rQ (fun v w => ws = w ∧ (∃ x : Int32, v = some (.int x) ∧ Rg (0) (1) x ∧ (x = 0 → 20 ≤ tw (byt ws) 2 ∧ tw (byt ws) 2 ≤ x2_.toInt))) (fun E w => False)
set_option maxRecDepth 20000 in
set_option maxHeartbeats 4000000 in
theorem t_X10_isBroken_0 (G : rn_G) (S : ts_S) (ws : va_W) (hW : ts_W G S ws) (o0_ : Nat) (m0_ : (o0_, 30) ∈ S) (x2_ : Int32) : Rn G mX10_isBroken 2 45 0 0 0 (lv_args 0 [.ref o0_, .int (0 : Int32), .int x2_]) [] ws (q_t_X10_isBroken_0 G S ws x2_) := by
  obtain ⟨ob1, hob1⟩ := hW.2.1.2
  obtain ⟨T2, ht2⟩ : ∃ t : Int, tw (byt ws) 2 = t := ⟨_, rfl⟩
  refine rn_lv [(0, .ref o0_), (1, .int (0 : Int32)), (2, .int x2_)] rfl ?_
  refine rn_iload_n (i := 2) dX10_isBroken_0 rfl rfl ?_
  refine rn_bipush (v := (20 : Int32)) dX10_isBroken_1 (by decide) ?_
  refine rn_icmp_lt (tgt := 51) dX10_isBroken_3 (by decide) (fun h3 => ?_) (fun h3 => ?_)
  · have ch3 := cv_lt h3
    have r4 : Rg (-2147483648) (19) x2_ := rf_ltx ch3 (rg_any x2_) rk_20 (by decide)
    refine rn_iconst (v := (1 : Int32)) dX10_isBroken_51 (by decide) ?_
    refine rn_goto (tgt := 56) dX10_isBroken_52 (by decide) ?_
    exact rn_iret dX10_isBroken_56 rfl rfl (rq_in ⟨rfl, (1 : Int32), rfl, (rg_w rk_1 (by decide) (by decide)), (fun h => absurd h (by decide))⟩)
  · have ch3 := cv_nlt h3
    have r5 : Rg (20) (2147483647) x2_ := rf_ley ch3 rk_20 (rg_any x2_) (by decide)
    refine rn_aload_n (i := 0) dX10_isBroken_6 rfl rfl ?_
    obtain ⟨q6, fs6, hq6, hl6, hf6⟩ := ts_obj hW m0_ hk_30
    obtain ⟨o7, hx7, m7⟩ := fs_r hf6 2 rfl
    refine rn_get q6 kg_SGModel_7 hl6 hx7 dX10_isBroken_7 ?_
    refine rn_iload_n (i := 1) dX10_isBroken_10 rfl rfl ?_
    obtain ⟨q8, f8, hq8, hl8, hf8⟩ := ts_ia hW m7 hk_33
    refine rs_iald q8 hl8 hf8 rfl rk_0 (by decide) (by decide) dX10_isBroken_11 (fun v9 ev9 rv9 => ?_)
    have hbv9 : byt ws 0 = v9 := by rw [byt_of hW hq8 hl8, ev9]; exact congrArg _ (by decide)
    refine rn_bipush (v := (69 : Int32)) dX10_isBroken_12 (by decide) ?_
    refine rn_icmp_ne (tgt := 51) dX10_isBroken_14 (by decide) (fun h10 => ?_) (fun h10 => ?_)
    · have ch10 := cv_ne h10
      refine rn_iconst (v := (1 : Int32)) dX10_isBroken_51 (by decide) ?_
      refine rn_goto (tgt := 56) dX10_isBroken_52 (by decide) ?_
      exact rn_iret dX10_isBroken_56 rfl rfl (rq_in ⟨rfl, (1 : Int32), rfl, (rg_w rk_1 (by decide) (by decide)), (fun h => absurd h (by decide))⟩)
    · have ch10 := cv_eq h10
      have r11 : Rg (69) (69) v9 := rf_eqx ch10 rv9 rk_69 (by decide) (by decide)
      refine rn_aload_n (i := 0) dX10_isBroken_17 rfl rfl ?_
      refine rn_iload_n (i := 1) dX10_isBroken_18 rfl rfl ?_
      refine rn_iconst (v := (2 : Int32)) dX10_isBroken_19 (by decide) ?_
      refine rn_iadd dX10_isBroken_20 (rn_topi (2 : Int32) (by decide) ?_)
      refine rn_callV (a := 0) (b := 0) [.int (2 : Int32)] kl_SGModel_140 dX10_isBroken_21 q6 hl6 rfl (t_X10_two G S ws hW o0_ m0_ (2 : Int32) (rg_w rk_2 (by decide) (by decide))) rfl rfl (Nat.le_of_ble_eq_true rfl) (Nat.le_of_ble_eq_true rfl) (Nat.le_of_ble_eq_true rfl) (Nat.le_of_ble_eq_true rfl) (Nat.le_of_ble_eq_true rfl) (Nat.le_of_ble_eq_true rfl) (fun _ _ h => False.elim h) (fun v9 w13 h14 => ?_)
      obtain ⟨rfl, v15, rfl, rv15, xah14⟩ := h14
      have ev15 : v15.toInt = T2 := (xah14 2 (by decide)).trans ht2
      refine rn_stk [.int v15] rfl ?_
      refine rn_bipush (v := (20 : Int32)) dX10_isBroken_24 (by decide) ?_
      refine rn_icmp_lt (tgt := 51) dX10_isBroken_26 (by decide) (fun h17 => ?_) (fun h17 => ?_)
      · have ch17 := cv_lt h17
        have r18 : Rg (0) (19) v15 := rf_ltx ch17 rv15 rk_20 (by decide)
        refine rn_iconst (v := (1 : Int32)) dX10_isBroken_51 (by decide) ?_
        refine rn_goto (tgt := 56) dX10_isBroken_52 (by decide) ?_
        exact rn_iret dX10_isBroken_56 rfl rfl (rq_in ⟨rfl, (1 : Int32), rfl, (rg_w rk_1 (by decide) (by decide)), (fun h => absurd h (by decide))⟩)
      · have ch17 := cv_nlt h17
        have r19 : Rg (20) (65535) v15 := rf_ley ch17 rk_20 rv15 (by decide)
        refine rn_aload_n (i := 0) dX10_isBroken_29 rfl rfl ?_
        refine rn_iload_n (i := 1) dX10_isBroken_30 rfl rfl ?_
        refine rn_iconst (v := (2 : Int32)) dX10_isBroken_31 (by decide) ?_
        refine rn_iadd dX10_isBroken_32 (rn_topi (2 : Int32) (by decide) ?_)
        refine rn_callV (a := 0) (b := 0) [.int (2 : Int32)] kl_SGModel_140 dX10_isBroken_33 q6 hl6 rfl (t_X10_two G S ws hW o0_ m0_ (2 : Int32) (rg_w rk_2 (by decide) (by decide))) rfl rfl (Nat.le_of_ble_eq_true rfl) (Nat.le_of_ble_eq_true rfl) (Nat.le_of_ble_eq_true rfl) (Nat.le_of_ble_eq_true rfl) (Nat.le_of_ble_eq_true rfl) (Nat.le_of_ble_eq_true rfl) (fun _ _ h => False.elim h) (fun v9 w21 h22 => ?_)
        obtain ⟨rfl, v23, rfl, rv23, xah22⟩ := h22
        have ev23 : v23.toInt = T2 := (xah22 2 (by decide)).trans ht2
        refine rn_stk [.int v23] rfl ?_
        refine rn_iload_n (i := 2) dX10_isBroken_36 rfl rfl ?_
        refine rn_icmp_gt (tgt := 51) dX10_isBroken_37 (by decide) (fun h25 => ?_) (fun h25 => ?_)
        · have ch25 := cv_lt h25
          have r26 : Rg (20) (65534) x2_ := rf_ltx ch25 r5 rv23 (by decide)
          have r27 : Rg (21) (65535) v23 := rf_lty ch25 r5 rv23 (by decide)
          refine rn_iconst (v := (1 : Int32)) dX10_isBroken_51 (by decide) ?_
          refine rn_goto (tgt := 56) dX10_isBroken_52 (by decide) ?_
          exact rn_iret dX10_isBroken_56 rfl rfl (rq_in ⟨rfl, (1 : Int32), rfl, (rg_w rk_1 (by decide) (by decide)), (fun h => absurd h (by decide))⟩)
        · have ch25 := cv_nlt h25
          refine rn_aload_n (i := 0) dX10_isBroken_40 rfl rfl ?_
          refine rn_iload_n (i := 1) dX10_isBroken_41 rfl rfl ?_
          refine rn_iconst (v := (1 : Int32)) dX10_isBroken_42 (by decide) ?_
          refine rn_callV (a := 0) (b := 0) [.int (0 : Int32), .int (1 : Int32)] kl_SGModel_151 dX10_isBroken_43 q6 hl6 rfl (t_X10_fold G S ws hW o0_ m0_ (0 : Int32) (rg_w rk_0 (by decide) (by decide)) (1 : Int32) (rg_w rk_1 (by decide) (by decide))) rfl rfl (Nat.le_of_ble_eq_true rfl) (Nat.le_of_ble_eq_true rfl) (Nat.le_of_ble_eq_true rfl) (Nat.le_of_ble_eq_true rfl) (Nat.le_of_ble_eq_true rfl) (Nat.le_of_ble_eq_true rfl) (fun _ _ h => False.elim h) (fun v9 w28 h29 => ?_)
          obtain ⟨rfl, v30, rfl, rv30⟩ := h29
          refine rn_stk [.int v30] rfl ?_
          refine rn_ldc (v := (65535 : Int32)) wd_1093 dX10_isBroken_46 ?_
          refine rn_icmp_eq (tgt := 55) dX10_isBroken_48 (by decide) (fun h32 => ?_) (fun h32 => ?_)
          · have ch32 := cv_eq h32
            have r33 : Rg (65535) (65535) v30 := rf_eqx ch32 rv30 rk_65535 (by decide) (by decide)
            refine rn_iconst (v := (0 : Int32)) dX10_isBroken_55 (by decide) ?_
            exact rn_iret dX10_isBroken_56 rfl rfl (rq_in ⟨rfl, (0 : Int32), rfl, (rg_w rk_0 (by decide) (by decide)), (fun _ => by rw [ht2]; exact ⟨by have := rk_20.1; have := rk_20.2; omega, by have := r5.1; have := r5.2; omega⟩)⟩)
          · have ch32 := cv_ne h32
            have r34 : Rg (-2147483648) (65534) v30 := rf_neh ch32 rv30 rk_65535 (by decide) (by decide)
            refine rn_iconst (v := (1 : Int32)) dX10_isBroken_51 (by decide) ?_
            refine rn_goto (tgt := 56) dX10_isBroken_52 (by decide) ?_
            exact rn_iret dX10_isBroken_56 rfl rfl (rq_in ⟨rfl, (1 : Int32), rfl, (rg_w rk_1 (by decide) (by decide)), (fun h => absurd h (by decide))⟩)
abbrev q_t_X10_meaning (G : rn_G) (S : ts_S) (ws : va_W) : rn_R → va_W → Prop := rQ (fun v w => St G S [30] ws S w ∧ (∃ x : Int32, v = some (.int x) ∧ Rg (-1) (23) x)) (fun E w => False)
set_option maxRecDepth 20000 in
set_option maxHeartbeats 4000000 in
theorem t_X10_meaning (G : rn_G) (S : ts_S) (ws : va_W) (hW : ts_W G S ws) (o0_ : Nat) (m0_ : (o0_, 30) ∈ S) (x1_ : Int32) : Rn G mX10_meaning 6 134 0 0 0 (lv_args 0 [.ref o0_, .int x1_]) [] ws (q_t_X10_meaning G S ws ) := by
  have hS0 : St G S [30] ws S ws := St.rf hW
  refine rn_lv [(0, .ref o0_), (1, .int x1_)] rfl ?_
  refine rn_aload_n (i := 0) dX10_meaning_0 rfl rfl ?_
  refine rn_iconst (v := (0 : Int32)) dX10_meaning_1 (by decide) ?_
  obtain ⟨q1, fs1, hq1, hl1, hf1⟩ := ts_obj hS0.1 m0_ hk_30
  refine rs_put q1 (kp_SGModel_137 _) hS0 hq1 hl1 hf1 hk_30 rfl rfl (tv_i (rg_w rk_0 (by decide) (by decide))) rfl rfl dX10_meaning_2 (fun w2 fs3 hS3 hl3 hf3 hx3 ho3 hn3 => ?_)
  refine rn_aload_n (i := 0) dX10_meaning_5 rfl rfl ?_
  refine rn_iload_n (i := 1) dX10_meaning_6 rfl rfl ?_
  refine rn_iconst (v := (0 : Int32)) dX10_meaning_7 (by decide) ?_
  refine rn_iconst (v := (1 : Int32)) dX10_meaning_8 (by decide) ?_
  refine rn_inS (d' := 0) (z' := 0) [.int x1_, .int (0 : Int32), .int (1 : Int32)] kl_SGModel_179 dX10_meaning_9 rfl rfl (Nat.le_of_ble_eq_true rfl) (Nat.le_of_ble_eq_true rfl) (Nat.le_of_ble_eq_true rfl) (Nat.le_of_ble_eq_true rfl) ?_
  refine rn_lv [(0, .int x1_), (1, .int (0 : Int32)), (2, .int (1 : Int32))] rfl ?_
  refine rn_iload_n (i := 0) dX10_in_0 rfl rfl ?_
  refine rn_iload_n (i := 1) dX10_in_1 rfl rfl ?_
  refine rn_icmp_lt (tgt := 14) dX10_in_2 (by decide) (fun h4 => ?_) (fun h4 => ?_)
  · have ch4 := cv_lt h4
    have r5 : Rg (-2147483648) (-1) x1_ := rf_ltx ch4 (rg_any x1_) rk_0 (by decide)
    refine rn_iconst (v := (0 : Int32)) dX10_in_14 (by decide) ?_
    refine rn_iret dX10_in_15 rfl rfl (rq_in ?_)
    refine rn_stk [.int (0 : Int32), .ref o0_] rfl ?_
    refine rn_if_ne (tgt := 19) dX10_meaning_12 (by decide) (fun h6 => (cx_ne (cv_ne h6) rk_0 rk_0 (by decide)).elim) (fun h6 => ?_)
    refine rn_iconst (v := (1 : Int32)) dX10_meaning_15 (by decide) ?_
    refine rn_goto (tgt := 20) dX10_meaning_16 (by decide) ?_
    refine rn_iconst (v := (1 : Int32)) dX10_meaning_20 (by decide) ?_
    refine rn_inV (d' := 0) (z' := 0) [.int (1 : Int32), .int (1 : Int32)] kl_SGModel_171 dX10_meaning_21 q1 hl3 rfl rfl rfl (Nat.le_of_ble_eq_true rfl) (Nat.le_of_ble_eq_true rfl) (Nat.le_of_ble_eq_true rfl) (Nat.le_of_ble_eq_true rfl) ?_
    refine rn_lv [(0, .ref o0_), (1, .int (1 : Int32)), (2, .int (1 : Int32))] rfl ?_
    refine rn_aload_n (i := 0) dX10_refuses_0 rfl rfl ?_
    refine rn_get q1 kg_SGModel_137 hl3 hx3 dX10_refuses_1 ?_
    refine rn_if_ne (tgt := 16) dX10_refuses_4 (by decide) (fun h7 => (cx_ne (cv_ne h7) rk_0 rk_0 (by decide)).elim) (fun h7 => ?_)
    refine rn_iload_n (i := 1) dX10_refuses_7 rfl rfl ?_
    refine rn_if_eq (tgt := 16) dX10_refuses_8 (by decide) (fun h8 => (cx_eq (cv_eq h8) rk_1 rk_0 (by decide)).elim) (fun h8 => ?_)
    refine rn_aload_n (i := 0) dX10_refuses_11 rfl rfl ?_
    refine rn_iload_n (i := 2) dX10_refuses_12 rfl rfl ?_
    refine rs_put q1 (kp_SGModel_137 _) hS3 hq1 hl3 hf3 hk_30 rfl rfl (tv_i (rg_w rk_1 (by decide) (by decide))) rfl rfl dX10_refuses_13 (fun w9 fs10 hS10 hl10 hf10 hx10 ho10 hn10 => ?_)
    refine rn_aload_n (i := 0) dX10_refuses_16 rfl rfl ?_
    refine rn_get q1 kg_SGModel_137 hl10 hx10 dX10_refuses_17 ?_
    refine rn_if_le (tgt := 27) dX10_refuses_20 (by decide) (fun h11 => (cx_le (cv_le h11) rk_1 rk_0 (by decide)).elim) (fun h11 => ?_)
    refine rn_iconst (v := (1 : Int32)) dX10_refuses_23 (by decide) ?_
    refine rn_goto (tgt := 28) dX10_refuses_24 (by decide) ?_
    refine rn_iret dX10_refuses_28 rfl rfl (rq_in ?_)
    refine rn_stk [.int (1 : Int32)] rfl ?_
    refine rn_if_eq (tgt := 29) dX10_meaning_24 (by decide) (fun h12 => (cx_eq (cv_eq h12) rk_1 rk_0 (by decide)).elim) (fun h12 => ?_)
    refine rn_iconst (v := (0 : Int32)) dX10_meaning_27 (by decide) ?_
    exact rn_iret dX10_meaning_28 rfl rfl (rq_in ⟨hS10, (0 : Int32), rfl, (rg_w rk_0 (by decide) (by decide))⟩)
  · have ch4 := cv_nlt h4
    have r13 : Rg (0) (2147483647) x1_ := rf_ley ch4 rk_0 (rg_any x1_) (by decide)
    refine rn_iload_n (i := 0) dX10_in_5 rfl rfl ?_
    refine rn_iload_n (i := 2) dX10_in_6 rfl rfl ?_
    refine rn_icmp_gt (tgt := 14) dX10_in_7 (by decide) (fun h14 => ?_) (fun h14 => ?_)
    · have ch14 := cv_lt h14
      have r15 : Rg (2) (2147483647) x1_ := rf_lty ch14 rk_1 r13 (by decide)
      refine rn_iconst (v := (0 : Int32)) dX10_in_14 (by decide) ?_
      refine rn_iret dX10_in_15 rfl rfl (rq_in ?_)
      refine rn_stk [.int (0 : Int32), .ref o0_] rfl ?_
      refine rn_if_ne (tgt := 19) dX10_meaning_12 (by decide) (fun h16 => (cx_ne (cv_ne h16) rk_0 rk_0 (by decide)).elim) (fun h16 => ?_)
      refine rn_iconst (v := (1 : Int32)) dX10_meaning_15 (by decide) ?_
      refine rn_goto (tgt := 20) dX10_meaning_16 (by decide) ?_
      refine rn_iconst (v := (1 : Int32)) dX10_meaning_20 (by decide) ?_
      refine rn_inV (d' := 0) (z' := 0) [.int (1 : Int32), .int (1 : Int32)] kl_SGModel_171 dX10_meaning_21 q1 hl3 rfl rfl rfl (Nat.le_of_ble_eq_true rfl) (Nat.le_of_ble_eq_true rfl) (Nat.le_of_ble_eq_true rfl) (Nat.le_of_ble_eq_true rfl) ?_
      refine rn_lv [(0, .ref o0_), (1, .int (1 : Int32)), (2, .int (1 : Int32))] rfl ?_
      refine rn_aload_n (i := 0) dX10_refuses_0 rfl rfl ?_
      refine rn_get q1 kg_SGModel_137 hl3 hx3 dX10_refuses_1 ?_
      refine rn_if_ne (tgt := 16) dX10_refuses_4 (by decide) (fun h17 => (cx_ne (cv_ne h17) rk_0 rk_0 (by decide)).elim) (fun h17 => ?_)
      refine rn_iload_n (i := 1) dX10_refuses_7 rfl rfl ?_
      refine rn_if_eq (tgt := 16) dX10_refuses_8 (by decide) (fun h18 => (cx_eq (cv_eq h18) rk_1 rk_0 (by decide)).elim) (fun h18 => ?_)
      refine rn_aload_n (i := 0) dX10_refuses_11 rfl rfl ?_
      refine rn_iload_n (i := 2) dX10_refuses_12 rfl rfl ?_
      refine rs_put q1 (kp_SGModel_137 _) hS3 hq1 hl3 hf3 hk_30 rfl rfl (tv_i (rg_w rk_1 (by decide) (by decide))) rfl rfl dX10_refuses_13 (fun w19 fs20 hS20 hl20 hf20 hx20 ho20 hn20 => ?_)
      refine rn_aload_n (i := 0) dX10_refuses_16 rfl rfl ?_
      refine rn_get q1 kg_SGModel_137 hl20 hx20 dX10_refuses_17 ?_
      refine rn_if_le (tgt := 27) dX10_refuses_20 (by decide) (fun h21 => (cx_le (cv_le h21) rk_1 rk_0 (by decide)).elim) (fun h21 => ?_)
      refine rn_iconst (v := (1 : Int32)) dX10_refuses_23 (by decide) ?_
      refine rn_goto (tgt := 28) dX10_refuses_24 (by decide) ?_
      refine rn_iret dX10_refuses_28 rfl rfl (rq_in ?_)
      refine rn_stk [.int (1 : Int32)] rfl ?_
      refine rn_if_eq (tgt := 29) dX10_meaning_24 (by decide) (fun h22 => (cx_eq (cv_eq h22) rk_1 rk_0 (by decide)).elim) (fun h22 => ?_)
      refine rn_iconst (v := (0 : Int32)) dX10_meaning_27 (by decide) ?_
      exact rn_iret dX10_meaning_28 rfl rfl (rq_in ⟨hS20, (0 : Int32), rfl, (rg_w rk_0 (by decide) (by decide))⟩)
    · have ch14 := cv_nlt h14
      have r23 : Rg (0) (1) x1_ := rf_lex ch14 r13 rk_1 (by decide)
      refine rn_iconst (v := (1 : Int32)) dX10_in_10 (by decide) ?_
      refine rn_goto (tgt := 15) dX10_in_11 (by decide) ?_
      refine rn_iret dX10_in_15 rfl rfl (rq_in ?_)
      refine rn_stk [.int (1 : Int32), .ref o0_] rfl ?_
      refine rn_if_ne (tgt := 19) dX10_meaning_12 (by decide) (fun h24 => ?_) (fun h24 => (cx_eq (cv_eq h24) rk_1 rk_0 (by decide)).elim)
      refine rn_iconst (v := (0 : Int32)) dX10_meaning_19 (by decide) ?_
      refine rn_iconst (v := (1 : Int32)) dX10_meaning_20 (by decide) ?_
      refine rn_inV (d' := 0) (z' := 0) [.int (0 : Int32), .int (1 : Int32)] kl_SGModel_171 dX10_meaning_21 q1 hl3 rfl rfl rfl (Nat.le_of_ble_eq_true rfl) (Nat.le_of_ble_eq_true rfl) (Nat.le_of_ble_eq_true rfl) (Nat.le_of_ble_eq_true rfl) ?_
      refine rn_lv [(0, .ref o0_), (1, .int (0 : Int32)), (2, .int (1 : Int32))] rfl ?_
      refine rn_aload_n (i := 0) dX10_refuses_0 rfl rfl ?_
      refine rn_get q1 kg_SGModel_137 hl3 hx3 dX10_refuses_1 ?_
      refine rn_if_ne (tgt := 16) dX10_refuses_4 (by decide) (fun h25 => (cx_ne (cv_ne h25) rk_0 rk_0 (by decide)).elim) (fun h25 => ?_)
      refine rn_iload_n (i := 1) dX10_refuses_7 rfl rfl ?_
      refine rn_if_eq (tgt := 16) dX10_refuses_8 (by decide) (fun h26 => ?_) (fun h26 => (cx_ne (cv_ne h26) rk_0 rk_0 (by decide)).elim)
      refine rn_aload_n (i := 0) dX10_refuses_16 rfl rfl ?_
      refine rn_get q1 kg_SGModel_137 hl3 hx3 dX10_refuses_17 ?_
      refine rn_if_le (tgt := 27) dX10_refuses_20 (by decide) (fun h27 => ?_) (fun h27 => (cx_lt (cv_nle h27) rk_0 rk_0 (by decide)).elim)
      refine rn_iconst (v := (0 : Int32)) dX10_refuses_27 (by decide) ?_
      refine rn_iret dX10_refuses_28 rfl rfl (rq_in ?_)
      refine rn_stk [.int (0 : Int32)] rfl ?_
      refine rn_if_eq (tgt := 29) dX10_meaning_24 (by decide) (fun h28 => ?_) (fun h28 => (cx_ne (cv_ne h28) rk_0 rk_0 (by decide)).elim)
      refine rn_aload_n (i := 0) dX10_meaning_29 rfl rfl ?_
      refine rn_iconst (v := (0 : Int32)) dX10_meaning_30 (by decide) ?_
      refine rn_aload_n (i := 0) dX10_meaning_31 rfl rfl ?_
      obtain ⟨x29, hx29, rx29⟩ := fs_i hf3 3 rfl
      refine rn_get q1 kg_SGModel_168 hl3 hx29 dX10_meaning_32 ?_
      refine rn_callV (a := 0) (b := 0) [.int (0 : Int32), .int x29] kl_SGModel_225 dX10_meaning_35 q1 hl3 rfl (t_X10_isBroken_0 G S w2 hS3.1 o0_ m0_ x29) rfl rfl (Nat.le_of_ble_eq_true rfl) (Nat.le_of_ble_eq_true rfl) (Nat.le_of_ble_eq_true rfl) (Nat.le_of_ble_eq_true rfl) (Nat.le_of_ble_eq_true rfl) (Nat.le_of_ble_eq_true rfl) (fun _ _ h => False.elim h) (fun v9 w30 h31 => ?_)
      obtain ⟨rfl, v32, rfl, rv32, xah31⟩ := h31
      refine rn_stk [.int v32] rfl ?_
      refine rn_if_eq (tgt := 45) dX10_meaning_38 (by decide) (fun h34 => ?_) (fun h34 => ?_)
      · have ch34 := cv_eq h34
        have r35 : Rg (0) (0) v32 := rf_eqx ch34 rv32 rk_0 (by decide) (by decide)
        refine rn_aload_n (i := 0) dX10_meaning_45 rfl rfl ?_
        refine rn_iload_n (i := 1) dX10_meaning_46 rfl rfl ?_
        refine rn_iconst (v := (0 : Int32)) dX10_meaning_47 (by decide) ?_
        refine rn_callV (a := 0) (b := 0) [.int x1_, .int (0 : Int32)] kl_SGModel_228 dX10_meaning_48 q1 hl3 rfl (t_X10_policyOf G S w2 hS3.1 o0_ m0_ x1_ (0 : Int32) (rg_w rk_0 (by decide) (by decide))) rfl rfl (Nat.le_of_ble_eq_true rfl) (Nat.le_of_ble_eq_true rfl) (Nat.le_of_ble_eq_true rfl) (Nat.le_of_ble_eq_true rfl) (Nat.le_of_ble_eq_true rfl) (Nat.le_of_ble_eq_true rfl) (fun _ _ h => False.elim h) (fun v9 w36 h37 => ?_)
        obtain ⟨rfl, v38, rfl, rv38⟩ := h37
        refine rn_stk [.int v38] rfl ?_
        exact rn_iret dX10_meaning_51 rfl rfl (rq_in ⟨hS3, v38, rfl, rv38⟩)
      · have ch34 := cv_ne h34
        have r40 : Rg (1) (1) v32 := rf_nel ch34 rv32 rk_0 (by decide) (by decide)
        refine rn_iconst (v := (-1 : Int32)) dX10_meaning_41 (by decide) ?_
        refine rn_goto (tgt := 51) dX10_meaning_42 (by decide) ?_
        exact rn_iret dX10_meaning_51 rfl rfl (rq_in ⟨hS3, (-1 : Int32), rfl, (rg_w rk_m1 (by decide) (by decide))⟩)
abbrev q_t_X10_routed (G : rn_G) (S : ts_S) (ws : va_W) : rn_R → va_W → Prop := rQ (fun v w => St G S [30] ws S w ∧ (∃ x : Int32, v = some (.int x) ∧ Rg (-2147483648) (2147483647) x)) (fun E w => False)
set_option maxRecDepth 20000 in
set_option maxHeartbeats 4000000 in
theorem t_X10_routed (G : rn_G) (S : ts_S) (ws : va_W) (hW : ts_W G S ws) (o0_ : Nat) (m0_ : (o0_, 30) ∈ S) (x1_ : Int32) : Rn G mX10_routed 2 45 0 0 0 (lv_args 0 [.ref o0_, .int x1_]) [] ws (q_t_X10_routed G S ws ) := by
  have hS0 : St G S [30] ws S ws := St.rf hW
  refine rn_lv [(0, .ref o0_), (1, .int x1_)] rfl ?_
  refine rn_aload_n (i := 0) dX10_routed_0 rfl rfl ?_
  refine rn_iconst (v := (0 : Int32)) dX10_routed_1 (by decide) ?_
  obtain ⟨q1, fs1, hq1, hl1, hf1⟩ := ts_obj hS0.1 m0_ hk_30
  refine rs_put q1 (kp_SGModel_137 _) hS0 hq1 hl1 hf1 hk_30 rfl rfl (tv_i (rg_w rk_0 (by decide) (by decide))) rfl rfl dX10_routed_2 (fun w2 fs3 hS3 hl3 hf3 hx3 ho3 hn3 => ?_)
  refine rn_aload_n (i := 0) dX10_routed_5 rfl rfl ?_
  refine rn_iload_n (i := 1) dX10_routed_6 rfl rfl ?_
  refine rn_callV (a := 0) (b := 0) [.int x1_] kl_SGModel_232 dX10_routed_7 q1 hl3 rfl (t_X10_routeOf G S w2 hS3.1 o0_ m0_ x1_) rfl rfl (Nat.le_of_ble_eq_true rfl) (Nat.le_of_ble_eq_true rfl) (Nat.le_of_ble_eq_true rfl) (Nat.le_of_ble_eq_true rfl) (Nat.le_of_ble_eq_true rfl) (Nat.le_of_ble_eq_true rfl) (fun _ _ h => False.elim h) (fun v9 w4 h5 => ?_)
  obtain ⟨rfl, v6, rfl, rv6⟩ := h5
  refine rn_stk [.int v6] rfl ?_
  exact rn_iret dX10_routed_10 rfl rfl (rq_in ⟨hS3, v6, rfl, rv6⟩)
abbrev q_t_X10_isTooMuch (G : rn_G) (S : ts_S) (ws : va_W) : rn_R → va_W → Prop := rQ (fun v w => ws = w ∧ (∃ x : Int32, v = some (.int x) ∧ Rg (0) (1) x)) (fun E w => False)
set_option maxRecDepth 20000 in
set_option maxHeartbeats 4000000 in
theorem t_X10_isTooMuch (G : rn_G) (S : ts_S) (ws : va_W) (hW : ts_W G S ws) (o0_ : Nat) (m0_ : (o0_, 30) ∈ S) (x1_ : Int32) (x2_ : Int32) (r2_ : Rg (0) (1) x2_) : Rn G mX10_isTooMuch 0 0 0 0 0 (lv_args 0 [.ref o0_, .int x1_, .int x2_]) [] ws (q_t_X10_isTooMuch G S ws ) := by
  refine rn_lv [(0, .ref o0_), (1, .int x1_), (2, .int x2_)] rfl ?_
  refine rn_iload_n (i := 1) dX10_isTooMuch_0 rfl rfl ?_
  refine rn_sipush (v := (1500 : Int32)) dX10_isTooMuch_1 (by decide) ?_
  refine rn_icmp_le (tgt := 15) dX10_isTooMuch_4 (by decide) (fun h1 => ?_) (fun h1 => ?_)
  · have ch1 := cv_le h1
    have r2 : Rg (-2147483648) (1500) x1_ := rf_lex ch1 (rg_any x1_) rk_1500 (by decide)
    refine rn_iconst (v := (0 : Int32)) dX10_isTooMuch_15 (by decide) ?_
    exact rn_iret dX10_isTooMuch_16 rfl rfl (rq_in ⟨rfl, (0 : Int32), rfl, (rg_w rk_0 (by decide) (by decide))⟩)
  · have ch1 := cv_nle h1
    have r3 : Rg (1501) (2147483647) x1_ := rf_lty ch1 rk_1500 (rg_any x1_) (by decide)
    refine rn_iload_n (i := 2) dX10_isTooMuch_7 rfl rfl ?_
    refine rn_if_eq (tgt := 15) dX10_isTooMuch_8 (by decide) (fun h4 => ?_) (fun h4 => ?_)
    · have ch4 := cv_eq h4
      have r5 : Rg (0) (0) x2_ := rf_eqx ch4 r2_ rk_0 (by decide) (by decide)
      refine rn_iconst (v := (0 : Int32)) dX10_isTooMuch_15 (by decide) ?_
      exact rn_iret dX10_isTooMuch_16 rfl rfl (rq_in ⟨rfl, (0 : Int32), rfl, (rg_w rk_0 (by decide) (by decide))⟩)
    · have ch4 := cv_ne h4
      have r6 : Rg (1) (1) x2_ := rf_nel ch4 r2_ rk_0 (by decide) (by decide)
      refine rn_iconst (v := (1 : Int32)) dX10_isTooMuch_11 (by decide) ?_
      refine rn_goto (tgt := 16) dX10_isTooMuch_12 (by decide) ?_
      exact rn_iret dX10_isTooMuch_16 rfl rfl (rq_in ⟨rfl, (1 : Int32), rfl, (rg_w rk_1 (by decide) (by decide))⟩)
abbrev q_t_X10_ends (G : rn_G) (S : ts_S) (ws : va_W) : rn_R → va_W → Prop := rQ (fun v w => St G S [75] ws S w ∧ (∃ x : Int32, v = some (.int x) ∧ Rg (0) (17) x)) (fun E w => False)
set_option maxRecDepth 20000 in
set_option maxHeartbeats 4000000 in
theorem t_X10_ends (G : rn_G) (S : ts_S) (ws : va_W) (hW : ts_W G S ws) (o0_ : Nat) (m0_ : (o0_, 30) ∈ S) (x1_ : Int32) (r1_ : Rg (0) (17) x1_) : Rn G mX10_ends 0 0 0 0 0 (lv_args 0 [.ref o0_, .int x1_]) [] ws (q_t_X10_ends G S ws ) := by
  have hS0 : St G S [75] ws S ws := St.rf hW
  refine rn_lv [(0, .ref o0_), (1, .int x1_)] rfl ?_
  refine rn_aload_n (i := 0) dX10_ends_0 rfl rfl ?_
  obtain ⟨q1, fs1, hq1, hl1, hf1⟩ := ts_obj hS0.1 m0_ hk_30
  obtain ⟨o2, hx2, m2⟩ := fs_r hf1 44 rfl
  refine rn_get q1 kg_SGModel_116 hl1 hx2 dX10_ends_1 ?_
  refine rn_iload_n (i := 1) dX10_ends_4 rfl rfl ?_
  refine rn_dup2_11 dX10_ends_5 rfl rfl ?_
  obtain ⟨q3, f3, hq3, hl3, hf3⟩ := ts_ia hS0.1 m2 hk_75
  refine rs_iald q3 hl3 hf3 rfl r1_ (by decide) (by decide) dX10_ends_6 (fun v4 ev4 rv4 => ?_)
  refine rn_iconst (v := (1 : Int32)) dX10_ends_7 (by decide) ?_
  refine rn_iadd dX10_ends_8 (rn_nmA (fun v5 rv5 => ?_))
  refine rs_iast q3 hS0 hq3 hl3 hf3 hk_75 rfl rfl r1_ (by decide) (by decide) rv5 dX10_ends_9 (fun w6 f7 hS7 hl7 hf7 hu7 hn7 => ?_)
  refine rn_iload_n (i := 1) dX10_ends_10 rfl rfl ?_
  exact rn_iret dX10_ends_11 rfl rfl (rq_in ⟨hS7, x1_, rfl, r1_⟩)
abbrev q_t_X10_note (G : rn_G) (S : ts_S) (ws : va_W) : rn_R → va_W → Prop := rQ (fun v w => St G S [30, 77, 78, 79, 80, 81] ws S w ∧ (∃ x : Int32, v = some (.int x) ∧ Rg (0) (17) x)) (fun E w => False)
set_option maxRecDepth 20000 in
set_option maxHeartbeats 4000000 in
theorem t_X10_note (G : rn_G) (S : ts_S) (ws : va_W) (hW : ts_W G S ws) (o0_ : Nat) (m0_ : (o0_, 30) ∈ S) (x1_ : Int32) (r1_ : Rg (0) (17) x1_) (x2_ : Int32) (r2_ : Rg (0) (21970) x2_) (x3_ : Int32) (x4_ : Int32) : Rn G mX10_note 2 42 0 0 0 (lv_args 0 [.ref o0_, .int x1_, .int x2_, .int x3_, .int x4_]) [] ws (q_t_X10_note G S ws ) := by
  have hS0 : St G S [30, 77, 78, 79, 80, 81] ws S ws := St.rf hW
  refine rn_lv [(0, .ref o0_), (1, .int x1_), (2, .int x2_), (3, .int x3_), (4, .int x4_)] rfl ?_
  refine rn_bipush (v := (15 : Int32)) dX10_note_0 (by decide) ?_
  refine rn_istore dX10_note_2 (by decide) [(0, .ref o0_), (1, .int x1_), (2, .int x2_), (3, .int x3_), (4, .int x4_), (5, .int (15 : Int32))] rfl ?_
  have LP2 : ∀ (n : Nat) (w3 : va_W) (x1 : Int32), St G S [77, 78, 79, 80, 81] ws S w3 → Rg (0) (15) x1 → (x1.toInt - (0)).toNat = n → Rn G mX10_note 2 42 0 0 4 [(0, .ref o0_), (1, .int x1_), (2, .int x2_), (3, .int x3_), (4, .int x4_), (5, .int x1)] [] w3 (q_t_X10_note G S ws ) := by
    intro n
    induction n using Nat.strongRecOn with
    | _ n ih =>
      intro w3 x1 hT4 r5 hm6
      refine rn_iload dX10_note_4 rfl ?_
      refine rn_if_le (tgt := 95) dX10_note_6 (by decide) (fun h7 => ?_) (fun h7 => ?_)
      · have ch7 := cv_le h7
        have r8 : Rg (0) (0) x1 := rf_lex ch7 r5 rk_0 (by decide)
        have hS9 := St.tr hS0 hT4 rfl
        refine rn_aload_n (i := 0) dX10_note_95 rfl rfl ?_
        obtain ⟨q10, fs10, hq10, hl10, hf10⟩ := ts_obj hS9.1 m0_ hk_30
        obtain ⟨o11, hx11, m11⟩ := fs_r hf10 46 rfl
        refine rn_get q10 kg_SGModel_119 hl10 hx11 dX10_note_96 ?_
        refine rn_iconst (v := (0 : Int32)) dX10_note_99 (by decide) ?_
        refine rn_iload_n (i := 1) dX10_note_100 rfl rfl ?_
        obtain ⟨q12, f12, hq12, hl12, hf12⟩ := ts_ia hS9.1 m11 hk_77
        refine rs_iast q12 hS9 hq12 hl12 hf12 hk_77 rfl rfl rk_0 (by decide) (by decide) (rg_w r1_ (by decide) (by decide)) dX10_note_101 (fun w13 f14 hS14 hl14 hf14 hu14 hn14 => ?_)
        refine rn_aload_n (i := 0) dX10_note_102 rfl rfl ?_
        obtain ⟨o15, hx15, m15⟩ := fs_r hf10 47 rfl
        refine rn_get q10 kg_SGModel_122 ((hn14 _ (ts_ne hq12 hq10 rfl)).trans hl10) hx15 dX10_note_103 ?_
        refine rn_iconst (v := (0 : Int32)) dX10_note_106 (by decide) ?_
        refine rn_aload_n (i := 0) dX10_note_107 rfl rfl ?_
        refine rn_iload_n (i := 2) dX10_note_108 rfl rfl ?_
        refine rn_bipush (v := (12 : Int32)) dX10_note_109 (by decide) ?_
        refine rs_addC (12) (21982) r2_ rk_12 dX10_note_111 (by decide) (fun v16 ev16 rv16 => ?_)
        refine rn_callV (a := 0) (b := 0) [.int v16] kl_SGModel_218 dX10_note_112 q10 ((hn14 _ (ts_ne hq12 hq10 rfl)).trans hl10) rfl (t_X10_four G S w13 hS14.1 o0_ m0_ v16 (rg_w rv16 (by decide) (by decide))) rfl rfl (Nat.le_of_ble_eq_true rfl) (Nat.le_of_ble_eq_true rfl) (Nat.le_of_ble_eq_true rfl) (Nat.le_of_ble_eq_true rfl) (Nat.le_of_ble_eq_true rfl) (Nat.le_of_ble_eq_true rfl) (fun _ _ h => False.elim h) (fun v9 w17 h18 => ?_)
        obtain ⟨rfl, v19, rfl, rv19⟩ := h18
        refine rn_stk [.int v19, .int (0 : Int32), .ref o15] rfl ?_
        obtain ⟨q21, f21, hq21, hl21, hf21⟩ := ts_ia hS14.1 m15 hk_78
        refine rs_iast q21 hS14 hq21 hl21 hf21 hk_78 rfl rfl rk_0 (by decide) (by decide) rv19 dX10_note_115 (fun w22 f23 hS23 hl23 hf23 hu23 hn23 => ?_)
        refine rn_aload_n (i := 0) dX10_note_116 rfl rfl ?_
        obtain ⟨o24, hx24, m24⟩ := fs_r hf10 48 rfl
        refine rn_get q10 kg_SGModel_125 ((hn23 _ (ts_ne hq21 hq10 rfl)).trans ((hn14 _ (ts_ne hq12 hq10 rfl)).trans hl10)) hx24 dX10_note_117 ?_
        refine rn_iconst (v := (0 : Int32)) dX10_note_120 (by decide) ?_
        refine rn_aload_n (i := 0) dX10_note_121 rfl rfl ?_
        refine rn_iload_n (i := 2) dX10_note_122 rfl rfl ?_
        refine rn_bipush (v := (16 : Int32)) dX10_note_123 (by decide) ?_
        refine rs_addC (16) (21986) r2_ rk_16 dX10_note_125 (by decide) (fun v25 ev25 rv25 => ?_)
        refine rn_callV (a := 0) (b := 0) [.int v25] kl_SGModel_218 dX10_note_126 q10 ((hn23 _ (ts_ne hq21 hq10 rfl)).trans ((hn14 _ (ts_ne hq12 hq10 rfl)).trans hl10)) rfl (t_X10_four G S w22 hS23.1 o0_ m0_ v25 (rg_w rv25 (by decide) (by decide))) rfl rfl (Nat.le_of_ble_eq_true rfl) (Nat.le_of_ble_eq_true rfl) (Nat.le_of_ble_eq_true rfl) (Nat.le_of_ble_eq_true rfl) (Nat.le_of_ble_eq_true rfl) (Nat.le_of_ble_eq_true rfl) (fun _ _ h => False.elim h) (fun v9 w26 h27 => ?_)
        obtain ⟨rfl, v28, rfl, rv28⟩ := h27
        refine rn_stk [.int v28, .int (0 : Int32), .ref o24] rfl ?_
        obtain ⟨q30, f30, hq30, hl30, hf30⟩ := ts_ia hS23.1 m24 hk_79
        refine rs_iast q30 hS23 hq30 hl30 hf30 hk_79 rfl rfl rk_0 (by decide) (by decide) rv28 dX10_note_129 (fun w31 f32 hS32 hl32 hf32 hu32 hn32 => ?_)
        refine rn_aload_n (i := 0) dX10_note_130 rfl rfl ?_
        obtain ⟨o33, hx33, m33⟩ := fs_r hf10 49 rfl
        refine rn_get q10 kg_SGModel_128 ((hn32 _ (ts_ne hq30 hq10 rfl)).trans ((hn23 _ (ts_ne hq21 hq10 rfl)).trans ((hn14 _ (ts_ne hq12 hq10 rfl)).trans hl10))) hx33 dX10_note_131 ?_
        refine rn_iconst (v := (0 : Int32)) dX10_note_134 (by decide) ?_
        refine rn_iload_n (i := 3) dX10_note_135 rfl rfl ?_
        obtain ⟨q34, f34, hq34, hl34, hf34⟩ := ts_ia hS32.1 m33 hk_80
        refine rs_iast q34 hS32 hq34 hl34 hf34 hk_80 rfl rfl rk_0 (by decide) (by decide) (rg_any x3_) dX10_note_136 (fun w35 f36 hS36 hl36 hf36 hu36 hn36 => ?_)
        refine rn_aload_n (i := 0) dX10_note_137 rfl rfl ?_
        obtain ⟨o37, hx37, m37⟩ := fs_r hf10 50 rfl
        refine rn_get q10 kg_SGModel_131 ((hn36 _ (ts_ne hq34 hq10 rfl)).trans ((hn32 _ (ts_ne hq30 hq10 rfl)).trans ((hn23 _ (ts_ne hq21 hq10 rfl)).trans ((hn14 _ (ts_ne hq12 hq10 rfl)).trans hl10)))) hx37 dX10_note_138 ?_
        refine rn_iconst (v := (0 : Int32)) dX10_note_141 (by decide) ?_
        refine rn_iload dX10_note_142 rfl ?_
        obtain ⟨q38, f38, hq38, hl38, hf38⟩ := ts_ia hS36.1 m37 hk_81
        refine rs_iast q38 hS36 hq38 hl38 hf38 hk_81 rfl rfl rk_0 (by decide) (by decide) (rg_any x4_) dX10_note_144 (fun w39 f40 hS40 hl40 hf40 hu40 hn40 => ?_)
        refine rn_aload_n (i := 0) dX10_note_145 rfl rfl ?_
        refine rn_aload_n (i := 0) dX10_note_146 rfl rfl ?_
        obtain ⟨x41, hx41, rx41⟩ := fs_i hf10 51 rfl
        refine rn_get q10 kg_SGModel_243 ((hn40 _ (ts_ne hq38 hq10 rfl)).trans ((hn36 _ (ts_ne hq34 hq10 rfl)).trans ((hn32 _ (ts_ne hq30 hq10 rfl)).trans ((hn23 _ (ts_ne hq21 hq10 rfl)).trans ((hn14 _ (ts_ne hq12 hq10 rfl)).trans hl10))))) hx41 dX10_note_147 ?_
        refine rn_bipush (v := (16 : Int32)) dX10_note_150 (by decide) ?_
        refine rn_icmp_ge (tgt := 164) dX10_note_152 (by decide) (fun h42 => ?_) (fun h42 => ?_)
        · have ch42 := cv_le h42
          have r43 : Rg (16) (16) x41 := rf_ley ch42 rk_16 rx41 (by decide)
          refine rn_bipush (v := (16 : Int32)) dX10_note_164 (by decide) ?_
          refine rs_put q10 (kp_SGModel_243 _) hS40 hq10 ((hn40 _ (ts_ne hq38 hq10 rfl)).trans ((hn36 _ (ts_ne hq34 hq10 rfl)).trans ((hn32 _ (ts_ne hq30 hq10 rfl)).trans ((hn23 _ (ts_ne hq21 hq10 rfl)).trans ((hn14 _ (ts_ne hq12 hq10 rfl)).trans hl10))))) hf10 hk_30 rfl rfl (tv_i (rg_w rk_16 (by decide) (by decide))) rfl rfl dX10_note_166 (fun w44 fs45 hS45 hl45 hf45 hx45 ho45 hn45 => ?_)
          refine rn_iload_n (i := 1) dX10_note_169 rfl rfl ?_
          exact rn_iret dX10_note_170 rfl rfl (rq_in ⟨hS45, x1_, rfl, r1_⟩)
        · have ch42 := cv_nle h42
          have r46 : Rg (0) (15) x41 := rf_ltx ch42 rx41 rk_16 (by decide)
          refine rn_aload_n (i := 0) dX10_note_155 rfl rfl ?_
          refine rn_get q10 kg_SGModel_243 ((hn40 _ (ts_ne hq38 hq10 rfl)).trans ((hn36 _ (ts_ne hq34 hq10 rfl)).trans ((hn32 _ (ts_ne hq30 hq10 rfl)).trans ((hn23 _ (ts_ne hq21 hq10 rfl)).trans ((hn14 _ (ts_ne hq12 hq10 rfl)).trans hl10))))) hx41 dX10_note_156 ?_
          refine rn_iconst (v := (1 : Int32)) dX10_note_159 (by decide) ?_
          refine rs_addC (1) (16) r46 rk_1 dX10_note_160 (by decide) (fun v47 ev47 rv47 => ?_)
          refine rn_goto (tgt := 166) dX10_note_161 (by decide) ?_
          refine rs_put q10 (kp_SGModel_243 _) hS40 hq10 ((hn40 _ (ts_ne hq38 hq10 rfl)).trans ((hn36 _ (ts_ne hq34 hq10 rfl)).trans ((hn32 _ (ts_ne hq30 hq10 rfl)).trans ((hn23 _ (ts_ne hq21 hq10 rfl)).trans ((hn14 _ (ts_ne hq12 hq10 rfl)).trans hl10))))) hf10 hk_30 rfl rfl (tv_i (rg_w rv47 (by decide) (by decide))) rfl rfl dX10_note_166 (fun w48 fs49 hS49 hl49 hf49 hx49 ho49 hn49 => ?_)
          refine rn_iload_n (i := 1) dX10_note_169 rfl rfl ?_
          exact rn_iret dX10_note_170 rfl rfl (rq_in ⟨hS49, x1_, rfl, r1_⟩)
      · have ch7 := cv_nle h7
        have r50 : Rg (1) (15) x1 := rf_lty ch7 rk_0 r5 (by decide)
        refine rn_aload_n (i := 0) dX10_note_9 rfl rfl ?_
        obtain ⟨q51, fs51, hq51, hl51, hf51⟩ := ts_obj hT4.1 m0_ hk_30
        obtain ⟨o52, hx52, m52⟩ := fs_r hf51 46 rfl
        refine rn_get q51 kg_SGModel_119 hl51 hx52 dX10_note_10 ?_
        refine rn_iload dX10_note_13 rfl ?_
        refine rn_aload_n (i := 0) dX10_note_15 rfl rfl ?_
        refine rn_get q51 kg_SGModel_119 hl51 hx52 dX10_note_16 ?_
        refine rn_iload dX10_note_19 rfl ?_
        refine rn_iconst (v := (1 : Int32)) dX10_note_21 (by decide) ?_
        refine rs_subC (0) (14) r50 rk_1 dX10_note_22 (by decide) (fun v53 ev53 rv53 => ?_)
        obtain ⟨q54, f54, hq54, hl54, hf54⟩ := ts_ia hT4.1 m52 hk_77
        refine rs_iald q54 hl54 hf54 rfl rv53 (by decide) (by decide) dX10_note_23 (fun v55 ev55 rv55 => ?_)
        refine rs_iast q54 hT4 hq54 hl54 hf54 hk_77 rfl rfl r50 (by decide) (by decide) rv55 dX10_note_24 (fun w56 f57 hS57 hl57 hf57 hu57 hn57 => ?_)
        refine rn_aload_n (i := 0) dX10_note_25 rfl rfl ?_
        obtain ⟨o58, hx58, m58⟩ := fs_r hf51 47 rfl
        refine rn_get q51 kg_SGModel_122 ((hn57 _ (ts_ne hq54 hq51 rfl)).trans hl51) hx58 dX10_note_26 ?_
        refine rn_iload dX10_note_29 rfl ?_
        refine rn_aload_n (i := 0) dX10_note_31 rfl rfl ?_
        refine rn_get q51 kg_SGModel_122 ((hn57 _ (ts_ne hq54 hq51 rfl)).trans hl51) hx58 dX10_note_32 ?_
        refine rn_iload dX10_note_35 rfl ?_
        refine rn_iconst (v := (1 : Int32)) dX10_note_37 (by decide) ?_
        refine rs_subC (0) (14) r50 rk_1 dX10_note_38 (by decide) (fun v59 ev59 rv59 => ?_)
        obtain ⟨q60, f60, hq60, hl60, hf60⟩ := ts_ia hS57.1 m58 hk_78
        refine rs_iald q60 hl60 hf60 rfl rv59 (by decide) (by decide) dX10_note_39 (fun v61 ev61 rv61 => ?_)
        refine rs_iast q60 hS57 hq60 hl60 hf60 hk_78 rfl rfl r50 (by decide) (by decide) rv61 dX10_note_40 (fun w62 f63 hS63 hl63 hf63 hu63 hn63 => ?_)
        refine rn_aload_n (i := 0) dX10_note_41 rfl rfl ?_
        obtain ⟨o64, hx64, m64⟩ := fs_r hf51 48 rfl
        refine rn_get q51 kg_SGModel_125 ((hn63 _ (ts_ne hq60 hq51 rfl)).trans ((hn57 _ (ts_ne hq54 hq51 rfl)).trans hl51)) hx64 dX10_note_42 ?_
        refine rn_iload dX10_note_45 rfl ?_
        refine rn_aload_n (i := 0) dX10_note_47 rfl rfl ?_
        refine rn_get q51 kg_SGModel_125 ((hn63 _ (ts_ne hq60 hq51 rfl)).trans ((hn57 _ (ts_ne hq54 hq51 rfl)).trans hl51)) hx64 dX10_note_48 ?_
        refine rn_iload dX10_note_51 rfl ?_
        refine rn_iconst (v := (1 : Int32)) dX10_note_53 (by decide) ?_
        refine rs_subC (0) (14) r50 rk_1 dX10_note_54 (by decide) (fun v65 ev65 rv65 => ?_)
        obtain ⟨q66, f66, hq66, hl66, hf66⟩ := ts_ia hS63.1 m64 hk_79
        refine rs_iald q66 hl66 hf66 rfl rv65 (by decide) (by decide) dX10_note_55 (fun v67 ev67 rv67 => ?_)
        refine rs_iast q66 hS63 hq66 hl66 hf66 hk_79 rfl rfl r50 (by decide) (by decide) rv67 dX10_note_56 (fun w68 f69 hS69 hl69 hf69 hu69 hn69 => ?_)
        refine rn_aload_n (i := 0) dX10_note_57 rfl rfl ?_
        obtain ⟨o70, hx70, m70⟩ := fs_r hf51 49 rfl
        refine rn_get q51 kg_SGModel_128 ((hn69 _ (ts_ne hq66 hq51 rfl)).trans ((hn63 _ (ts_ne hq60 hq51 rfl)).trans ((hn57 _ (ts_ne hq54 hq51 rfl)).trans hl51))) hx70 dX10_note_58 ?_
        refine rn_iload dX10_note_61 rfl ?_
        refine rn_aload_n (i := 0) dX10_note_63 rfl rfl ?_
        refine rn_get q51 kg_SGModel_128 ((hn69 _ (ts_ne hq66 hq51 rfl)).trans ((hn63 _ (ts_ne hq60 hq51 rfl)).trans ((hn57 _ (ts_ne hq54 hq51 rfl)).trans hl51))) hx70 dX10_note_64 ?_
        refine rn_iload dX10_note_67 rfl ?_
        refine rn_iconst (v := (1 : Int32)) dX10_note_69 (by decide) ?_
        refine rs_subC (0) (14) r50 rk_1 dX10_note_70 (by decide) (fun v71 ev71 rv71 => ?_)
        obtain ⟨q72, f72, hq72, hl72, hf72⟩ := ts_ia hS69.1 m70 hk_80
        refine rs_iald q72 hl72 hf72 rfl rv71 (by decide) (by decide) dX10_note_71 (fun v73 ev73 rv73 => ?_)
        refine rs_iast q72 hS69 hq72 hl72 hf72 hk_80 rfl rfl r50 (by decide) (by decide) rv73 dX10_note_72 (fun w74 f75 hS75 hl75 hf75 hu75 hn75 => ?_)
        refine rn_aload_n (i := 0) dX10_note_73 rfl rfl ?_
        obtain ⟨o76, hx76, m76⟩ := fs_r hf51 50 rfl
        refine rn_get q51 kg_SGModel_131 ((hn75 _ (ts_ne hq72 hq51 rfl)).trans ((hn69 _ (ts_ne hq66 hq51 rfl)).trans ((hn63 _ (ts_ne hq60 hq51 rfl)).trans ((hn57 _ (ts_ne hq54 hq51 rfl)).trans hl51)))) hx76 dX10_note_74 ?_
        refine rn_iload dX10_note_77 rfl ?_
        refine rn_aload_n (i := 0) dX10_note_79 rfl rfl ?_
        refine rn_get q51 kg_SGModel_131 ((hn75 _ (ts_ne hq72 hq51 rfl)).trans ((hn69 _ (ts_ne hq66 hq51 rfl)).trans ((hn63 _ (ts_ne hq60 hq51 rfl)).trans ((hn57 _ (ts_ne hq54 hq51 rfl)).trans hl51)))) hx76 dX10_note_80 ?_
        refine rn_iload dX10_note_83 rfl ?_
        refine rn_iconst (v := (1 : Int32)) dX10_note_85 (by decide) ?_
        refine rs_subC (0) (14) r50 rk_1 dX10_note_86 (by decide) (fun v77 ev77 rv77 => ?_)
        obtain ⟨q78, f78, hq78, hl78, hf78⟩ := ts_ia hS75.1 m76 hk_81
        refine rs_iald q78 hl78 hf78 rfl rv77 (by decide) (by decide) dX10_note_87 (fun v79 ev79 rv79 => ?_)
        refine rs_iast q78 hS75 hq78 hl78 hf78 hk_81 rfl rfl r50 (by decide) (by decide) rv79 dX10_note_88 (fun w80 f81 hS81 hl81 hf81 hu81 hn81 => ?_)
        refine rs_iinc (0) (14) dX10_note_89 rfl (by decide) r50 rk_m1 (by decide) (fun v82 => [(0, .ref o0_), (1, .int x1_), (2, .int x2_), (3, .int x3_), (4, .int x4_), (5, .int v82)]) (fun _ => rfl) (fun v82 ev82 rv82 => ?_)
        refine rn_goto (tgt := 4) dX10_note_92 (by decide) ?_
        refine rn_lv [(0, .ref o0_), (1, .int x1_), (2, .int x2_), (3, .int x3_), (4, .int x4_), (5, .int v82)] rfl ?_
        exact ih _ (lp_dec hm6 ev82 rv82 (by decide)) w80 v82 hS81 (rg_w rv82 (by decide) (by decide)) rfl
  exact LP2 _ ws (15 : Int32) (St.rf hS0.1) (rg_w rk_15 (by decide) (by decide)) rfl
