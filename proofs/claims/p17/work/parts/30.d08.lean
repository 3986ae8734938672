abbrev q_t_X10_policyOf (G : rn_G) (S : ts_S) (ws : va_W) : rn_R → va_W → Prop := rQ (fun v w => ws = w ∧ (∃ x : Int32, v = some (.int x) ∧ Rg (-1) (23) x)) (fun E w => False)
set_option maxRecDepth 20000 in
set_option maxHeartbeats 4000000 in
theorem t_X10_policyOf (G : rn_G) (S : ts_S) (ws : va_W) (hW : ts_W G S ws) (o0_ : Nat) (m0_ : (o0_, 30) ∈ S) (x1_ : Int32) (x2_ : Int32) (r2_ : Rg (0) (21970) x2_) : Rn G mX10_policyOf 5 111 0 0 0 (lv_args 0 [.ref o0_, .int x1_, .int x2_]) [] ws (q_t_X10_policyOf G S ws ) := by
  refine rn_lv [(0, .ref o0_), (1, .int x1_), (2, .int x2_)] rfl ?_
  refine rn_iconst (v := (0 : Int32)) dX10_policyOf_0 (by decide) ?_
  refine rn_istore_n dX10_policyOf_1 rfl (by decide) [(0, .ref o0_), (1, .int x1_), (2, .int x2_), (3, .int (0 : Int32))] rfl ?_
  have LP2 : ∀ (n : Nat) (x1 : Int32), Rg (0) (24) x1 → (24 - x1.toInt).toNat = n → Rn G mX10_policyOf 5 111 0 0 2 [(0, .ref o0_), (1, .int x1_), (2, .int x2_), (3, .int x1)] [] ws (q_t_X10_policyOf G S ws ) := by
    intro n
    induction n using Nat.strongRecOn with
    | _ n ih =>
      intro x1 r4 hm5
      refine rn_iload_n (i := 3) dX10_policyOf_2 rfl rfl ?_
      refine rn_aload_n (i := 0) dX10_policyOf_3 rfl rfl ?_
      obtain ⟨q6, fs6, hq6, hl6, hf6⟩ := ts_obj hW m0_ hk_30
      obtain ⟨x7, hx7, rx7⟩ := fs_i hf6 9 rfl
      refine rn_get q6 kg_SGModel_197 hl6 hx7 dX10_policyOf_4 ?_
      refine rn_icmp_ge (tgt := 37) dX10_policyOf_7 (by decide) (fun h8 => ?_) (fun h8 => ?_)
      · have ch8 := cv_le h8
        refine rn_iconst (v := (-1 : Int32)) dX10_policyOf_37 (by decide) ?_
        exact rn_iret dX10_policyOf_38 rfl rfl (rq_in ⟨rfl, (-1 : Int32), rfl, (rg_w rk_m1 (by decide) (by decide))⟩)
      · have ch8 := cv_nle h8
        have r9 : Rg (0) (23) x1 := rf_ltx ch8 r4 rx7 (by decide)
        have r10 : Rg (1) (24) x7 := rf_lty ch8 r4 rx7 (by decide)
        refine rn_aload_n (i := 0) dX10_policyOf_10 rfl rfl ?_
        obtain ⟨o11, hx11, m11⟩ := fs_r hf6 10 rfl
        refine rn_get q6 kg_SGModel_25 hl6 hx11 dX10_policyOf_11 ?_
        refine rn_iload_n (i := 3) dX10_policyOf_14 rfl rfl ?_
        obtain ⟨q12, f12, hq12, hl12, hf12⟩ := ts_ia hW m11 hk_41
        refine rs_iald q12 hl12 hf12 rfl r9 (by decide) (by decide) dX10_policyOf_15 (fun v13 ev13 rv13 => ?_)
        refine rn_iload_n (i := 1) dX10_policyOf_16 rfl rfl ?_
        refine rn_icmp_ne (tgt := 31) dX10_policyOf_17 (by decide) (fun h14 => ?_) (fun h14 => ?_)
        · have ch14 := cv_ne h14
          refine rs_iinc (1) (24) dX10_policyOf_31 rfl (by decide) r9 rk_1 (by decide) (fun v15 => [(0, .ref o0_), (1, .int x1_), (2, .int x2_), (3, .int v15)]) (fun _ => rfl) (fun v15 ev15 rv15 => ?_)
          refine rn_goto (tgt := 2) dX10_policyOf_34 (by decide) ?_
          refine rn_lv [(0, .ref o0_), (1, .int x1_), (2, .int x2_), (3, .int v15)] rfl ?_
          exact ih _ (lp_inc hm5 ev15 rv15 (by decide)) v15 (rg_w rv15 (by decide) (by decide)) rfl
        · have ch14 := cv_eq h14
          refine rn_aload_n (i := 0) dX10_policyOf_20 rfl rfl ?_
          refine rn_iload_n (i := 3) dX10_policyOf_21 rfl rfl ?_
          refine rn_iload_n (i := 2) dX10_policyOf_22 rfl rfl ?_
          refine rn_callV (a := 0) (b := 0) [.int x1, .int x2_] kl_SGModel_221 dX10_policyOf_23 q6 hl6 rfl (t_X10_means G S ws hW o0_ m0_ x1 r9 x2_ r2_) rfl rfl (Nat.le_of_ble_eq_true rfl) (Nat.le_of_ble_eq_true rfl) (Nat.le_of_ble_eq_true rfl) (Nat.le_of_ble_eq_true rfl) (Nat.le_of_ble_eq_true rfl) (Nat.le_of_ble_eq_true rfl) (fun _ _ h => False.elim h) (fun v9 w16 h17 => ?_)
          obtain ⟨rfl, v18, rfl, rv18⟩ := h17
          refine rn_stk [.int v18] rfl ?_
          refine rn_if_eq (tgt := 31) dX10_policyOf_26 (by decide) (fun h20 => ?_) (fun h20 => ?_)
          · have ch20 := cv_eq h20
            have r21 : Rg (0) (0) v18 := rf_eqx ch20 rv18 rk_0 (by decide) (by decide)
            refine rs_iinc (1) (24) dX10_policyOf_31 rfl (by decide) r9 rk_1 (by decide) (fun v22 => [(0, .ref o0_), (1, .int x1_), (2, .int x2_), (3, .int v22)]) (fun _ => rfl) (fun v22 ev22 rv22 => ?_)
            refine rn_goto (tgt := 2) dX10_policyOf_34 (by decide) ?_
            refine rn_lv [(0, .ref o0_), (1, .int x1_), (2, .int x2_), (3, .int v22)] rfl ?_
            exact ih _ (lp_inc hm5 ev22 rv22 (by decide)) v22 (rg_w rv22 (by decide) (by decide)) rfl
          · have ch20 := cv_ne h20
            have r23 : Rg (1) (1) v18 := rf_nel ch20 rv18 rk_0 (by decide) (by decide)
            refine rn_iload_n (i := 3) dX10_policyOf_29 rfl rfl ?_
            exact rn_iret dX10_policyOf_30 rfl rfl (rq_in ⟨rfl, x1, rfl, (rg_w r9 (by decide) (by decide))⟩)
  exact LP2 _ (0 : Int32) (rg_w rk_0 (by decide) (by decide)) rfl
abbrev q_t_X10_isBroken_0 (G : rn_G) (S : ts_S) (ws : va_W) (x2_ : Int32) : rn_R → va_W → Prop := rQ (fun v w => ws = w ∧ (∃ x : Int32, v = some (.int x) ∧ Rg (0) (1) x ∧ (x = 0 → 20 ≤ tw (byt ws) 2 ∧ tw (byt ws) 2 ≤ x2_.toInt))) (fun E w => False)
set_option maxRecDepth 20000 in
set_option maxHeartbeats 4000000 in
theorem t_X10_isBroken_0 (G : rn_G) (S : ts_S) (ws : va_W) (hW : ts_W G S ws) (o0_ : Nat) (m0_ : (o0_, 30) ∈ S) (x2_ : Int32) : Rn G mX10_isBroken 2 45 0 0 0 (lv_args 0 [.ref o0_, .int (0 : Int32), .int x2_]) [] ws (q_t_X10_isBroken_0 G S ws x2_) := by
  obtain ⟨ob1, hob1⟩ := hW.2.1.2
  obtain ⟨T2, ht2⟩ : ∃ t : Int, tw (byt ws) 2 = t := ⟨_, rfl⟩
  refine rn_lv [(0, .ref o0_), (1, .int (0 : Int32)), (2, .int x2_)] rfl ?_
  refine rn_iload_n (i := 2) dX10_isBroken_0 rfl rfl ?_
  refine rn_bipush (v := (20 : Int32)) dX10_isBroken_1 (by decide) ?_
  refine rn_icmp_lt (tgt := 51) dX10_isBroken_3 (by decide) (fun h3 => ?_) (fun h3 => ?_)
  · have ch3 := cv_lt h3
    have r4 : Rg (-2147483648) (19) x2_ := rf_ltx ch3 (rg_any x2_) rk_20 (by decide)
    refine rn_iconst (v := (1 : Int32)) dX10_isBroken_51 (by decide) ?_
    refine rn_goto (tgt := 56) dX10_isBroken_52 (by decide) ?_
    exact rn_iret dX10_isBroken_56 rfl rfl (rq_in ⟨rfl, (1 : Int32), rfl, (rg_w rk_1 (by decide) (by decide)), (fun h => absurd h (by decide))⟩)
  · have ch3 := cv_nlt h3
    have r5 : Rg (20) (2147483647) x2_ := rf_ley ch3 rk_20 (rg_any x2_) (by decide)
    refine rn_aload_n (i := 0) dX10_isBroken_6 rfl rfl ?_
    obtain ⟨q6, fs6, hq6, hl6, hf6⟩ := ts_obj hW m0_ hk_30
    obtain ⟨o7, hx7, m7⟩ := fs_r hf6 2 rfl
    refine rn_get q6 kg_SGModel_7 hl6 hx7 dX10_isBroken_7 ?_
    refine rn_iload_n (i := 1) dX10_isBroken_10 rfl rfl ?_
    obtain ⟨q8, f8, hq8, hl8, hf8⟩ := ts_ia hW m7 hk_33
    refine rs_iald q8 hl8 hf8 rfl rk_0 (by decide) (by decide) dX10_isBroken_11 (fun v9 ev9 rv9 => ?_)
    have hbv9 : byt ws 0 = v9 := by rw [byt_of hW hq8 hl8, ev9]; exact congrArg _ (by decide)
    refine rn_bipush (v := (69 : Int32)) dX10_isBroken_12 (by decide) ?_
    refine rn_icmp_ne (tgt := 51) dX10_isBroken_14 (by decide) (fun h10 => ?_) (fun h10 => ?_)
    · have ch10 := cv_ne h10
      refine rn_iconst (v := (1 : Int32)) dX10_isBroken_51 (by decide) ?_
      refine rn_goto (tgt := 56) dX10_isBroken_52 (by decide) ?_
      exact rn_iret dX10_isBroken_56 rfl rfl (rq_in ⟨rfl, (1 : Int32), rfl, (rg_w rk_1 (by decide) (by decide)), (fun h => absurd h (by decide))⟩)
    · have ch10 := cv_eq h10
      have r11 : Rg (69) (69) v9 := rf_eqx ch10 rv9 rk_69 (by decide) (by decide)
      refine rn_aload_n (i := 0) dX10_isBroken_17 rfl rfl ?_
      refine rn_iload_n (i := 1) dX10_isBroken_18 rfl rfl ?_
      refine rn_iconst (v := (2 : Int32)) dX10_isBroken_19 (by decide) ?_
      refine rn_iadd dX10_isBroken_20 (rn_topi (2 : Int32) (by decide) ?_)
      refine rn_callV (a := 0) (b := 0) [.int (2 : Int32)] kl_SGModel_140 dX10_isBroken_21 q6 hl6 rfl (t_X10_two G S ws hW o0_ m0_ (2 : Int32) (rg_w rk_2 (by decide) (by decide))) rfl rfl (Nat.le_of_ble_eq_true rfl) (Nat.le_of_ble_eq_true rfl) (Nat.le_of_ble_eq_true rfl) (Nat.le_of_ble_eq_true rfl) (Nat.le_of_ble_eq_true rfl) (Nat.le_of_ble_eq_true rfl) (fun _ _ h => False.elim h) (fun v9 w13 h14 => ?_)
      obtain ⟨rfl, v15, rfl, rv15, xah14⟩ := h14
      have ev15 : v15.toInt = T2 := (xah14 2 (by decide)).trans ht2
      refine rn_stk [.int v15] rfl ?_
      refine rn_bipush (v := (20 : Int32)) dX10_isBroken_24 (by decide) ?_
      refine rn_icmp_lt (tgt := 51) dX10_isBroken_26 (by decide) (fun h17 => ?_) (fun h17 => ?_)
      · have ch17 := cv_lt h17
        have r18 : Rg (0) (19) v15 := rf_ltx ch17 rv15 rk_20 (by decide)
        refine rn_iconst (v := (1 : Int32)) dX10_isBroken_51 (by decide) ?_
        refine rn_goto (tgt := 56) dX10_isBroken_52 (by decide) ?_
        exact rn_iret dX10_isBroken_56 rfl rfl (rq_in ⟨rfl, (1 : Int32), rfl, (rg_w rk_1 (by decide) (by decide)), (fun h => absurd h (by decide))⟩)
      · have ch17 := cv_nlt h17
        have r19 : Rg (20) (65535) v15 := rf_ley ch17 rk_20 rv15 (by decide)
        refine rn_aload_n (i := 0) dX10_isBroken_29 rfl rfl ?_
        refine rn_iload_n (i := 1) dX10_isBroken_30 rfl rfl ?_
        refine rn_iconst (v := (2 : Int32)) dX10_isBroken_31 (by decide) ?_
        refine rn_iadd dX10_isBroken_32 (rn_topi (2 : Int32) (by decide) ?_)
        refine rn_callV (a := 0) (b := 0) [.int (2 : Int32)] kl_SGModel_140 dX10_isBroken_33 q6 hl6 rfl (t_X10_two G S ws hW o0_ m0_ (2 : Int32) (rg_w rk_2 (by decide) (by decide))) rfl rfl (Nat.le_of_ble_eq_true rfl) (Nat.le_of_ble_eq_true rfl) (Nat.le_of_ble_eq_true rfl) (Nat.le_of_ble_eq_true rfl) (Nat.le_of_ble_eq_true rfl) (Nat.le_of_ble_eq_true rfl) (fun _ _ h => False.elim h) (fun v9 w21 h22 => ?_)
        obtain ⟨rfl, v23, rfl, rv23, xah22⟩ := h22
        have ev23 : v23.toInt = T2 := (xah22 2 (by decide)).trans ht2
        refine rn_stk [.int v23] rfl ?_
        refine rn_iload_n (i := 2) dX10_isBroken_36 rfl rfl ?_
        refine rn_icmp_gt (tgt := 51) dX10_isBroken_37 (by decide) (fun h25 => ?_) (fun h25 => ?_)
        · have ch25 := cv_lt h25
          have r26 : Rg (20) (65534) x2_ := rf_ltx ch25 r5 rv23 (by decide)
          have r27 : Rg (21) (65535) v23 := rf_lty ch25 r5 rv23 (by decide)
          refine rn_iconst (v := (1 : Int32)) dX10_isBroken_51 (by decide) ?_
          refine rn_goto (tgt := 56) dX10_isBroken_52 (by decide) ?_
          exact rn_iret dX10_isBroken_56 rfl rfl (rq_in ⟨rfl, (1 : Int32), rfl, (rg_w rk_1 (by decide) (by decide)), (fun h => absurd h (by decide))⟩)
        · have ch25 := cv_nlt h25
          refine rn_aload_n (i := 0) dX10_isBroken_40 rfl rfl ?_
          refine rn_iload_n (i := 1) dX10_isBroken_41 rfl rfl ?_
          refine rn_iconst (v := (1 : Int32)) dX10_isBroken_42 (by decide) ?_
          refine rn_callV (a := 0) (b := 0) [.int (0 : Int32), .int (1 : Int32)] kl_SGModel_151 dX10_isBroken_43 q6 hl6 rfl (t_X10_fold G S ws hW o0_ m0_ (0 : Int32) (rg_w rk_0 (by decide) (by decide)) (1 : Int32) (rg_w rk_1 (by decide) (by decide))) rfl rfl (Nat.le_of_ble_eq_true rfl) (Nat.le_of_ble_eq_true rfl) (Nat.le_of_ble_eq_true rfl) (Nat.le_of_ble_eq_true rfl) (Nat.le_of_ble_eq_true rfl) (Nat.le_of_ble_eq_true rfl) (fun _ _ h => False.elim h) (fun v9 w28 h29 => ?_)
          obtain ⟨rfl, v30, rfl, rv30⟩ := h29
          refine rn_stk [.int v30] rfl ?_
          refine rn_ldc (v := (65535 : Int32)) wd_1093 dX10_isBroken_46 ?_
          refine rn_icmp_eq (tgt := 55) dX10_isBroken_48 (by decide) (fun h32 => ?_) (fun h32 => ?_)
          · have ch32 := cv_eq h32
            have r33 : Rg (65535) (65535) v30 := rf_eqx ch32 rv30 rk_65535 (by decide) (by decide)
            refine rn_iconst (v := (0 : Int32)) dX10_isBroken_55 (by decide) ?_
            exact rn_iret dX10_isBroken_56 rfl rfl (rq_in ⟨rfl, (0 : Int32), rfl, (rg_w rk_0 (by decide) (by decide)), (fun _ => by rw [ht2]; exact ⟨by have := rk_20.1; have := rk_20.2; omega, by have := r5.1; have := r5.2; omega⟩)⟩)
          · have ch32 := cv_ne h32
            have r34 : Rg (-2147483648) (65534) v30 := rf_neh ch32 rv30 rk_65535 (by decide) (by decide)
            refine rn_iconst (v := (1 : Int32)) dX10_isBroken_51 (by decide) ?_
            refine rn_goto (tgt := 56) dX10_isBroken_52 (by decide) ?_
            exact rn_iret dX10_isBroken_56 rfl rfl (rq_in ⟨rfl, (1 : Int32), rfl, (rg_w rk_1 (by decide) (by decide)), (fun h => absurd h (by decide))⟩)
abbrev q_t_X10_meaning (G : rn_G) (S : ts_S) (ws : va_W) : rn_R → va_W → Prop := rQ (fun v w => St G S [30] ws S w ∧ (∃ x : Int32, v = some (.int x) ∧ Rg (-1) (23) x ∧ fK1 4 S ws w)) (fun E w => False)
set_option maxRecDepth 20000 in
set_option maxHeartbeats 4000000 in
theorem t_X10_meaning (G : rn_G) (S : ts_S) (ws : va_W) (hW : ts_W G S ws) (o0_ : Nat) (m0_ : (o0_, 30) ∈ S) (x1_ : Int32) : Rn G mX10_meaning 6 134 0 0 0 (lv_args 0 [.ref o0_, .int x1_]) [] ws (q_t_X10_meaning G S ws ) := by
  have hS0 : St G S [30] ws S ws := St.rf hW
  have fk0 : fK1 4 S ws ws := fun v h => h
  refine rn_lv [(0, .ref o0_), (1, .int x1_)] rfl ?_
  refine rn_aload_n (i := 0) dX10_meaning_0 rfl rfl ?_
  refine rn_iconst (v := (0 : Int32)) dX10_meaning_1 (by decide) ?_
  obtain ⟨q1, fs1, hq1, hl1, hf1⟩ := ts_obj hS0.1 m0_ hk_30
  refine rs_put q1 (kp_SGModel_137 _) hS0 hq1 hl1 hf1 hk_30 rfl rfl (tv_i (rg_w rk_0 (by decide) (by decide))) rfl rfl dX10_meaning_2 (fun w2 fs3 hS3 hl3 hf3 hx3 ho3 hn3 => ?_)
  have fk4 : fK1 4 S ws w2 := fk_put fk0 hS0.1 hq1 hl1 hl3 ho3 (by decide)
  refine rn_aload_n (i := 0) dX10_meaning_5 rfl rfl ?_
  refine rn_iload_n (i := 1) dX10_meaning_6 rfl rfl ?_
  refine rn_iconst (v := (0 : Int32)) dX10_meaning_7 (by decide) ?_
  refine rn_iconst (v := (1 : Int32)) dX10_meaning_8 (by decide) ?_
  refine rn_inS (d' := 0) (z' := 0) [.int x1_, .int (0 : Int32), .int (1 : Int32)] kl_SGModel_179 dX10_meaning_9 rfl rfl (Nat.le_of_ble_eq_true rfl) (Nat.le_of_ble_eq_true rfl) (Nat.le_of_ble_eq_true rfl) (Nat.le_of_ble_eq_true rfl) ?_
  refine rn_lv [(0, .int x1_), (1, .int (0 : Int32)), (2, .int (1 : Int32))] rfl ?_
  refine rn_iload_n (i := 0) dX10_in_0 rfl rfl ?_
  refine rn_iload_n (i := 1) dX10_in_1 rfl rfl ?_
  refine rn_icmp_lt (tgt := 14) dX10_in_2 (by decide) (fun h5 => ?_) (fun h5 => ?_)
  · have ch5 := cv_lt h5
    have r6 : Rg (-2147483648) (-1) x1_ := rf_ltx ch5 (rg_any x1_) rk_0 (by decide)
    refine rn_iconst (v := (0 : Int32)) dX10_in_14 (by decide) ?_
    refine rn_iret dX10_in_15 rfl rfl (rq_in ?_)
    refine rn_stk [.int (0 : Int32), .ref o0_] rfl ?_
    refine rn_if_ne (tgt := 19) dX10_meaning_12 (by decide) (fun h7 => (cx_ne (cv_ne h7) rk_0 rk_0 (by decide)).elim) (fun h7 => ?_)
    refine rn_iconst (v := (1 : Int32)) dX10_meaning_15 (by decide) ?_
    refine rn_goto (tgt := 20) dX10_meaning_16 (by decide) ?_
    refine rn_iconst (v := (1 : Int32)) dX10_meaning_20 (by decide) ?_
    refine rn_inV (d' := 0) (z' := 0) [.int (1 : Int32), .int (1 : Int32)] kl_SGModel_171 dX10_meaning_21 q1 hl3 rfl rfl rfl (Nat.le_of_ble_eq_true rfl) (Nat.le_of_ble_eq_true rfl) (Nat.le_of_ble_eq_true rfl) (Nat.le_of_ble_eq_true rfl) ?_
    refine rn_lv [(0, .ref o0_), (1, .int (1 : Int32)), (2, .int (1 : Int32))] rfl ?_
    refine rn_aload_n (i := 0) dX10_refuses_0 rfl rfl ?_
    refine rn_get q1 kg_SGModel_137 hl3 hx3 dX10_refuses_1 ?_
    refine rn_if_ne (tgt := 16) dX10_refuses_4 (by decide) (fun h8 => (cx_ne (cv_ne h8) rk_0 rk_0 (by decide)).elim) (fun h8 => ?_)
    refine rn_iload_n (i := 1) dX10_refuses_7 rfl rfl ?_
    refine rn_if_eq (tgt := 16) dX10_refuses_8 (by decide) (fun h9 => (cx_eq (cv_eq h9) rk_1 rk_0 (by decide)).elim) (fun h9 => ?_)
    refine rn_aload_n (i := 0) dX10_refuses_11 rfl rfl ?_
    refine rn_iload_n (i := 2) dX10_refuses_12 rfl rfl ?_
    refine rs_put q1 (kp_SGModel_137 _) hS3 hq1 hl3 hf3 hk_30 rfl rfl (tv_i (rg_w rk_1 (by decide) (by decide))) rfl rfl dX10_refuses_13 (fun w10 fs11 hS11 hl11 hf11 hx11 ho11 hn11 => ?_)
    have fk12 : fK1 4 S ws w10 := fk_put fk4 hS3.1 hq1 hl3 hl11 ho11 (by decide)
    refine rn_aload_n (i := 0) dX10_refuses_16 rfl rfl ?_
    refine rn_get q1 kg_SGModel_137 hl11 hx11 dX10_refuses_17 ?_
    refine rn_if_le (tgt := 27) dX10_refuses_20 (by decide) (fun h13 => (cx_le (cv_le h13) rk_1 rk_0 (by decide)).elim) (fun h13 => ?_)
    refine rn_iconst (v := (1 : Int32)) dX10_refuses_23 (by decide) ?_
    refine rn_goto (tgt := 28) dX10_refuses_24 (by decide) ?_
    refine rn_iret dX10_refuses_28 rfl rfl (rq_in ?_)
    refine rn_stk [.int (1 : Int32)] rfl ?_
    refine rn_if_eq (tgt := 29) dX10_meaning_24 (by decide) (fun h14 => (cx_eq (cv_eq h14) rk_1 rk_0 (by decide)).elim) (fun h14 => ?_)
    refine rn_iconst (v := (0 : Int32)) dX10_meaning_27 (by decide) ?_
    exact rn_iret dX10_meaning_28 rfl rfl (rq_in ⟨hS11, (0 : Int32), rfl, (rg_w rk_0 (by decide) (by decide)), fk12⟩)
  · have ch5 := cv_nlt h5
    have r15 : Rg (0) (2147483647) x1_ := rf_ley ch5 rk_0 (rg_any x1_) (by decide)
    refine rn_iload_n (i := 0) dX10_in_5 rfl rfl ?_
    refine rn_iload_n (i := 2) dX10_in_6 rfl rfl ?_
    refine rn_icmp_gt (tgt := 14) dX10_in_7 (by decide) (fun h16 => ?_) (fun h16 => ?_)
    · have ch16 := cv_lt h16
      have r17 : Rg (2) (2147483647) x1_ := rf_lty ch16 rk_1 r15 (by decide)
      refine rn_iconst (v := (0 : Int32)) dX10_in_14 (by decide) ?_
      refine rn_iret dX10_in_15 rfl rfl (rq_in ?_)
      refine rn_stk [.int (0 : Int32), .ref o0_] rfl ?_
      refine rn_if_ne (tgt := 19) dX10_meaning_12 (by decide) (fun h18 => (cx_ne (cv_ne h18) rk_0 rk_0 (by decide)).elim) (fun h18 => ?_)
      refine rn_iconst (v := (1 : Int32)) dX10_meaning_15 (by decide) ?_
      refine rn_goto (tgt := 20) dX10_meaning_16 (by decide) ?_
      refine rn_iconst (v := (1 : Int32)) dX10_meaning_20 (by decide) ?_
      refine rn_inV (d' := 0) (z' := 0) [.int (1 : Int32), .int (1 : Int32)] kl_SGModel_171 dX10_meaning_21 q1 hl3 rfl rfl rfl (Nat.le_of_ble_eq_true rfl) (Nat.le_of_ble_eq_true rfl) (Nat.le_of_ble_eq_true rfl) (Nat.le_of_ble_eq_true rfl) ?_
      refine rn_lv [(0, .ref o0_), (1, .int (1 : Int32)), (2, .int (1 : Int32))] rfl ?_
      refine rn_aload_n (i := 0) dX10_refuses_0 rfl rfl ?_
      refine rn_get q1 kg_SGModel_137 hl3 hx3 dX10_refuses_1 ?_
      refine rn_if_ne (tgt := 16) dX10_refuses_4 (by decide) (fun h19 => (cx_ne (cv_ne h19) rk_0 rk_0 (by decide)).elim) (fun h19 => ?_)
      refine rn_iload_n (i := 1) dX10_refuses_7 rfl rfl ?_
      refine rn_if_eq (tgt := 16) dX10_refuses_8 (by decide) (fun h20 => (cx_eq (cv_eq h20) rk_1 rk_0 (by decide)).elim) (fun h20 => ?_)
      refine rn_aload_n (i := 0) dX10_refuses_11 rfl rfl ?_
      refine rn_iload_n (i := 2) dX10_refuses_12 rfl rfl ?_
      refine rs_put q1 (kp_SGModel_137 _) hS3 hq1 hl3 hf3 hk_30 rfl rfl (tv_i (rg_w rk_1 (by decide) (by decide))) rfl rfl dX10_refuses_13 (fun w21 fs22 hS22 hl22 hf22 hx22 ho22 hn22 => ?_)
      have fk23 : fK1 4 S ws w21 := fk_put fk4 hS3.1 hq1 hl3 hl22 ho22 (by decide)
      refine rn_aload_n (i := 0) dX10_refuses_16 rfl rfl ?_
      refine rn_get q1 kg_SGModel_137 hl22 hx22 dX10_refuses_17 ?_
      refine rn_if_le (tgt := 27) dX10_refuses_20 (by decide) (fun h24 => (cx_le (cv_le h24) rk_1 rk_0 (by decide)).elim) (fun h24 => ?_)
      refine rn_iconst (v := (1 : Int32)) dX10_refuses_23 (by decide) ?_
      refine rn_goto (tgt := 28) dX10_refuses_24 (by decide) ?_
      refine rn_iret dX10_refuses_28 rfl rfl (rq_in ?_)
      refine rn_stk [.int (1 : Int32)] rfl ?_
      refine rn_if_eq (tgt := 29) dX10_meaning_24 (by decide) (fun h25 => (cx_eq (cv_eq h25) rk_1 rk_0 (by decide)).elim) (fun h25 => ?_)
      refine rn_iconst (v := (0 : Int32)) dX10_meaning_27 (by decide) ?_
      exact rn_iret dX10_meaning_28 rfl rfl (rq_in ⟨hS22, (0 : Int32), rfl, (rg_w rk_0 (by decide) (by decide)), fk23⟩)
    · have ch16 := cv_nlt h16
      have r26 : Rg (0) (1) x1_ := rf_lex ch16 r15 rk_1 (by decide)
      refine rn_iconst (v := (1 : Int32)) dX10_in_10 (by decide) ?_
      refine rn_goto (tgt := 15) dX10_in_11 (by decide) ?_
      refine rn_iret dX10_in_15 rfl rfl (rq_in ?_)
      refine rn_stk [.int (1 : Int32), .ref o0_] rfl ?_
      refine rn_if_ne (tgt := 19) dX10_meaning_12 (by decide) (fun h27 => ?_) (fun h27 => (cx_eq (cv_eq h27) rk_1 rk_0 (by decide)).elim)
      refine rn_iconst (v := (0 : Int32)) dX10_meaning_19 (by decide) ?_
      refine rn_iconst (v := (1 : Int32)) dX10_meaning_20 (by decide) ?_
      refine rn_inV (d' := 0) (z' := 0) [.int (0 : Int32), .int (1 : Int32)] kl_SGModel_171 dX10_meaning_21 q1 hl3 rfl rfl rfl (Nat.le_of_ble_eq_true rfl) (Nat.le_of_ble_eq_true rfl) (Nat.le_of_ble_eq_true rfl) (Nat.le_of_ble_eq_true rfl) ?_
      refine rn_lv [(0, .ref o0_), (1, .int (0 : Int32)), (2, .int (1 : Int32))] rfl ?_
      refine rn_aload_n (i := 0) dX10_refuses_0 rfl rfl ?_
      refine rn_get q1 kg_SGModel_137 hl3 hx3 dX10_refuses_1 ?_
      refine rn_if_ne (tgt := 16) dX10_refuses_4 (by decide) (fun h28 => (cx_ne (cv_ne h28) rk_0 rk_0 (by decide)).elim) (fun h28 => ?_)
      refine rn_iload_n (i := 1) dX10_refuses_7 rfl rfl ?_
      refine rn_if_eq (tgt := 16) dX10_refuses_8 (by decide) (fun h29 => ?_) (fun h29 => (cx_ne (cv_ne h29) rk_0 rk_0 (by decide)).elim)
      refine rn_aload_n (i := 0) dX10_refuses_16 rfl rfl ?_
      refine rn_get q1 kg_SGModel_137 hl3 hx3 dX10_refuses_17 ?_
      refine rn_if_le (tgt := 27) dX10_refuses_20 (by decide) (fun h30 => ?_) (fun h30 => (cx_lt (cv_nle h30) rk_0 rk_0 (by decide)).elim)
      refine rn_iconst (v := (0 : Int32)) dX10_refuses_27 (by decide) ?_
      refine rn_iret dX10_refuses_28 rfl rfl (rq_in ?_)
      refine rn_stk [.int (0 : Int32)] rfl ?_
      refine rn_if_eq (tgt := 29) dX10_meaning_24 (by decide) (fun h31 => ?_) (fun h31 => (cx_ne (cv_ne h31) rk_0 rk_0 (by decide)).elim)
      refine rn_aload_n (i := 0) dX10_meaning_29 rfl rfl ?_
      refine rn_iconst (v := (0 : Int32)) dX10_meaning_30 (by decide) ?_
      refine rn_aload_n (i := 0) dX10_meaning_31 rfl rfl ?_
      obtain ⟨x32, hx32, rx32⟩ := fs_i hf3 3 rfl
      refine rn_get q1 kg_SGModel_168 hl3 hx32 dX10_meaning_32 ?_
      refine rn_callV (a := 0) (b := 0) [.int (0 : Int32), .int x32] kl_SGModel_225 dX10_meaning_35 q1 hl3 rfl (t_X10_isBroken_0 G S w2 hS3.1 o0_ m0_ x32) rfl rfl (Nat.le_of_ble_eq_true rfl) (Nat.le_of_ble_eq_true rfl) (Nat.le_of_ble_eq_true rfl) (Nat.le_of_ble_eq_true rfl) (Nat.le_of_ble_eq_true rfl) (Nat.le_of_ble_eq_true rfl) (fun _ _ h => False.elim h) (fun v9 w33 h34 => ?_)
      obtain ⟨rfl, v35, rfl, rv35, xah34⟩ := h34
      refine rn_stk [.int v35] rfl ?_
      refine rn_if_eq (tgt := 45) dX10_meaning_38 (by decide) (fun h37 => ?_) (fun h37 => ?_)
      · have ch37 := cv_eq h37
        have r38 : Rg (0) (0) v35 := rf_eqx ch37 rv35 rk_0 (by decide) (by decide)
        refine rn_aload_n (i := 0) dX10_meaning_45 rfl rfl ?_
        refine rn_iload_n (i := 1) dX10_meaning_46 rfl rfl ?_
        refine rn_iconst (v := (0 : Int32)) dX10_meaning_47 (by decide) ?_
        refine rn_callV (a := 0) (b := 0) [.int x1_, .int (0 : Int32)] kl_SGModel_228 dX10_meaning_48 q1 hl3 rfl (t_X10_policyOf G S w2 hS3.1 o0_ m0_ x1_ (0 : Int32) (rg_w rk_0 (by decide) (by decide))) rfl rfl (Nat.le_of_ble_eq_true rfl) (Nat.le_of_ble_eq_true rfl) (Nat.le_of_ble_eq_true rfl) (Nat.le_of_ble_eq_true rfl) (Nat.le_of_ble_eq_true rfl) (Nat.le_of_ble_eq_true rfl) (fun _ _ h => False.elim h) (fun v9 w39 h40 => ?_)
        obtain ⟨rfl, v41, rfl, rv41⟩ := h40
        refine rn_stk [.int v41] rfl ?_
        exact rn_iret dX10_meaning_51 rfl rfl (rq_in ⟨hS3, v41, rfl, rv41, fk4⟩)
      · have ch37 := cv_ne h37
        have r43 : Rg (1) (1) v35 := rf_nel ch37 rv35 rk_0 (by decide) (by decide)
        refine rn_iconst (v := (-1 : Int32)) dX10_meaning_41 (by decide) ?_
        refine rn_goto (tgt := 51) dX10_meaning_42 (by decide) ?_
        exact rn_iret dX10_meaning_51 rfl rfl (rq_in ⟨hS3, (-1 : Int32), rfl, (rg_w rk_m1 (by decide) (by decide)), fk4⟩)
abbrev q_t_X10_routed (G : rn_G) (S : ts_S) (ws : va_W) (x1_ : Int32) : rn_R → va_W → Prop := rQ (fun v w => St G S [30] ws S w ∧ (∃ x : Int32, v = some (.int x) ∧ Rg (-2147483648) (2147483647) x ∧ (∀ (n : Nat) (net w9 p : Nat → Int32), TM S ws n net w9 p → (∀ k : Nat, k < n → 0 ≤ (w9 k).toInt) → ∃ x0 : Int32, rtR x1_ net w9 p n x0 x) ∧ fK1 4 S ws w)) (fun E w => False)
set_option maxRecDepth 20000 in
set_option maxHeartbeats 4000000 in
theorem t_X10_routed (G : rn_G) (S : ts_S) (ws : va_W) (hW : ts_W G S ws) (o0_ : Nat) (m0_ : (o0_, 30) ∈ S) (x1_ : Int32) : Rn G mX10_routed 2 45 0 0 0 (lv_args 0 [.ref o0_, .int x1_]) [] ws (q_t_X10_routed G S ws x1_) := by
  have hS0 : St G S [30] ws S ws := St.rf hW
  have fk0 : fK1 4 S ws ws := fun v h => h
  refine rn_lv [(0, .ref o0_), (1, .int x1_)] rfl ?_
  refine rn_aload_n (i := 0) dX10_routed_0 rfl rfl ?_
  refine rn_iconst (v := (0 : Int32)) dX10_routed_1 (by decide) ?_
  obtain ⟨q1, fs1, hq1, hl1, hf1⟩ := ts_obj hS0.1 m0_ hk_30
  refine rs_put q1 (kp_SGModel_137 _) hS0 hq1 hl1 hf1 hk_30 rfl rfl (tv_i (rg_w rk_0 (by decide) (by decide))) rfl rfl dX10_routed_2 (fun w2 fs3 hS3 hl3 hf3 hx3 ho3 hn3 => ?_)
  have fk4 : fK1 4 S ws w2 := fk_put fk0 hS0.1 hq1 hl1 hl3 ho3 (by decide)
  refine rn_aload_n (i := 0) dX10_routed_5 rfl rfl ?_
  refine rn_iload_n (i := 1) dX10_routed_6 rfl rfl ?_
  refine rn_callV (a := 0) (b := 0) [.int x1_] kl_SGModel_232 dX10_routed_7 q1 hl3 rfl (t_X10_routeOf G S w2 hS3.1 o0_ m0_ x1_) rfl rfl (Nat.le_of_ble_eq_true rfl) (Nat.le_of_ble_eq_true rfl) (Nat.le_of_ble_eq_true rfl) (Nat.le_of_ble_eq_true rfl) (Nat.le_of_ble_eq_true rfl) (Nat.le_of_ble_eq_true rfl) (fun _ _ h => False.elim h) (fun v9 w5 h6 => ?_)
  obtain ⟨rfl, v7, rfl, rv7, xah6⟩ := h6
  refine rn_stk [.int v7] rfl ?_
  exact rn_iret dX10_routed_10 rfl rfl (rq_in ⟨hS3, v7, rfl, rv7, (fun n net w9 p hT hp => xah6 n net w9 p (hT.fk hS3 rfl fk4) hp), fk4⟩)
abbrev q_t_X10_isTooMuch (G : rn_G) (S : ts_S) (ws : va_W) : rn_R → va_W → Prop := rQ (fun v w => ws = w ∧ (∃ x : Int32, v = some (.int x) ∧ Rg (0) (1) x)) (fun E w => False)
set_option maxRecDepth 20000 in
set_option maxHeartbeats 4000000 in
theorem t_X10_isTooMuch (G : rn_G) (S : ts_S) (ws : va_W) (hW : ts_W G S ws) (o0_ : Nat) (m0_ : (o0_, 30) ∈ S) (x1_ : Int32) (x2_ : Int32) (r2_ : Rg (0) (1) x2_) : Rn G mX10_isTooMuch 0 0 0 0 0 (lv_args 0 [.ref o0_, .int x1_, .int x2_]) [] ws (q_t_X10_isTooMuch G S ws ) := by
  refine rn_lv [(0, .ref o0_), (1, .int x1_), (2, .int x2_)] rfl ?_
  refine rn_iload_n (i := 1) dX10_isTooMuch_0 rfl rfl ?_
  refine rn_sipush (v := (1500 : Int32)) dX10_isTooMuch_1 (by decide) ?_
  refine rn_icmp_le (tgt := 15) dX10_isTooMuch_4 (by decide) (fun h1 => ?_) (fun h1 => ?_)
  · have ch1 := cv_le h1
    have r2 : Rg (-2147483648) (1500) x1_ := rf_lex ch1 (rg_any x1_) rk_1500 (by decide)
    refine rn_iconst (v := (0 : Int32)) dX10_isTooMuch_15 (by decide) ?_
    exact rn_iret dX10_isTooMuch_16 rfl rfl (rq_in ⟨rfl, (0 : Int32), rfl, (rg_w rk_0 (by decide) (by decide))⟩)
  · have ch1 := cv_nle h1
    have r3 : Rg (1501) (2147483647) x1_ := rf_lty ch1 rk_1500 (rg_any x1_) (by decide)
    refine rn_iload_n (i := 2) dX10_isTooMuch_7 rfl rfl ?_
    refine rn_if_eq (tgt := 15) dX10_isTooMuch_8 (by decide) (fun h4 => ?_) (fun h4 => ?_)
    · have ch4 := cv_eq h4
      have r5 : Rg (0) (0) x2_ := rf_eqx ch4 r2_ rk_0 (by decide) (by decide)
      refine rn_iconst (v := (0 : Int32)) dX10_isTooMuch_15 (by decide) ?_
      exact rn_iret dX10_isTooMuch_16 rfl rfl (rq_in ⟨rfl, (0 : Int32), rfl, (rg_w rk_0 (by decide) (by decide))⟩)
    · have ch4 := cv_ne h4
      have r6 : Rg (1) (1) x2_ := rf_nel ch4 r2_ rk_0 (by decide) (by decide)
      refine rn_iconst (v := (1 : Int32)) dX10_isTooMuch_11 (by decide) ?_
      refine rn_goto (tgt := 16) dX10_isTooMuch_12 (by decide) ?_
      exact rn_iret dX10_isTooMuch_16 rfl rfl (rq_in ⟨rfl, (1 : Int32), rfl, (rg_w rk_1 (by decide) (by decide))⟩)
abbrev q_t_X10_ends (G : rn_G) (S : ts_S) (ws : va_W) : rn_R → va_W → Prop := rQ (fun v w => St G S [75] ws S w ∧ (∃ x : Int32, v = some (.int x) ∧ Rg (0) (17) x)) (fun E w => False)
set_option maxRecDepth 20000 in
set_option maxHeartbeats 4000000 in
theorem t_X10_ends (G : rn_G) (S : ts_S) (ws : va_W) (hW : ts_W G S ws) (o0_ : Nat) (m0_ : (o0_, 30) ∈ S) (x1_ : Int32) (r1_ : Rg (0) (17) x1_) : Rn G mX10_ends 0 0 0 0 0 (lv_args 0 [.ref o0_, .int x1_]) [] ws (q_t_X10_ends G S ws ) := by
  have hS0 : St G S [75] ws S ws := St.rf hW
  refine rn_lv [(0, .ref o0_), (1, .int x1_)] rfl ?_
  refine rn_aload_n (i := 0) dX10_ends_0 rfl rfl ?_
  obtain ⟨q1, fs1, hq1, hl1, hf1⟩ := ts_obj hS0.1 m0_ hk_30
  obtain ⟨o2, hx2, m2⟩ := fs_r hf1 44 rfl
  refine rn_get q1 kg_SGModel_116 hl1 hx2 dX10_ends_1 ?_
  refine rn_iload_n (i := 1) dX10_ends_4 rfl rfl ?_
  refine rn_dup2_11 dX10_ends_5 rfl rfl ?_
  obtain ⟨q3, f3, hq3, hl3, hf3⟩ := ts_ia hS0.1 m2 hk_75
  refine rs_iald q3 hl3 hf3 rfl r1_ (by decide) (by decide) dX10_ends_6 (fun v4 ev4 rv4 => ?_)
  refine rn_iconst (v := (1 : Int32)) dX10_ends_7 (by decide) ?_
  refine rn_iadd dX10_ends_8 (rn_nmA (fun v5 rv5 => ?_))
  refine rs_iast q3 hS0 hq3 hl3 hf3 hk_75 rfl rfl r1_ (by decide) (by decide) rv5 dX10_ends_9 (fun w6 f7 hS7 hl7 hf7 hu7 hn7 => ?_)
  refine rn_iload_n (i := 1) dX10_ends_10 rfl rfl ?_
  exact rn_iret dX10_ends_11 rfl rfl (rq_in ⟨hS7, x1_, rfl, r1_⟩)
abbrev q_t_X10_note (G : rn_G) (S : ts_S) (ws : va_W) : rn_R → va_W → Prop := rQ (fun v w => St G S [30, 77, 78, 79, 80, 81] ws S w ∧ (∃ x : Int32, v = some (.int x) ∧ Rg (0) (17) x ∧ fK1 4 S ws w)) (fun E w => False)
set_option maxRecDepth 20000 in
set_option maxHeartbeats 4000000 in
theorem t_X10_note (G : rn_G) (S : ts_S) (ws : va_W) (hW : ts_W G S ws) (o0_ : Nat) (m0_ : (o0_, 30) ∈ S) (x1_ : Int32) (r1_ : Rg (0) (17) x1_) (x2_ : Int32) (r2_ : Rg (0) (21970) x2_) (x3_ : Int32) (x4_ : Int32) : Rn G mX10_note 2 42 0 0 0 (lv_args 0 [.ref o0_, .int x1_, .int x2_, .int x3_, .int x4_]) [] ws (q_t_X10_note G S ws ) := by
  have hS0 : St G S [30, 77, 78, 79, 80, 81] ws S ws := St.rf hW
  have fk0 : fK1 4 S ws ws := fun v h => h
  refine rn_lv [(0, .ref o0_), (1, .int x1_), (2, .int x2_), (3, .int x3_), (4, .int x4_)] rfl ?_
  refine rn_bipush (v := (15 : Int32)) dX10_note_0 (by decide) ?_
  refine rn_istore dX10_note_2 (by decide) [(0, .ref o0_), (1, .int x1_), (2, .int x2_), (3, .int x3_), (4, .int x4_), (5, .int (15 : Int32))] rfl ?_
  have LP2 : ∀ (n : Nat) (w3 : va_W) (x1 : Int32), St G S [77, 78, 79, 80, 81] ws S w3 → Rg (0) (15) x1 → (x1.toInt - (0)).toNat = n → Rn G mX10_note 2 42 0 0 4 [(0, .ref o0_), (1, .int x1_), (2, .int x2_), (3, .int x3_), (4, .int x4_), (5, .int x1)] [] w3 (q_t_X10_note G S ws ) := by
    intro n
    induction n using Nat.strongRecOn with
    | _ n ih =>
      intro w3 x1 hT4 r5 hm6
      have fk7 : fK1 4 S ws w3 := fk_fr fk0 hT4 rfl
      refine rn_iload dX10_note_4 rfl ?_
      refine rn_if_le (tgt := 95) dX10_note_6 (by decide) (fun h8 => ?_) (fun h8 => ?_)
      · have ch8 := cv_le h8
        have r9 : Rg (0) (0) x1 := rf_lex ch8 r5 rk_0 (by decide)
        have hS10 := St.tr hS0 hT4 rfl
        refine rn_aload_n (i := 0) dX10_note_95 rfl rfl ?_
        obtain ⟨q11, fs11, hq11, hl11, hf11⟩ := ts_obj hS10.1 m0_ hk_30
        obtain ⟨o12, hx12, m12⟩ := fs_r hf11 46 rfl
        refine rn_get q11 kg_SGModel_119 hl11 hx12 dX10_note_96 ?_
        refine rn_iconst (v := (0 : Int32)) dX10_note_99 (by decide) ?_
        refine rn_iload_n (i := 1) dX10_note_100 rfl rfl ?_
        obtain ⟨q13, f13, hq13, hl13, hf13⟩ := ts_ia hS10.1 m12 hk_77
        refine rs_iast q13 hS10 hq13 hl13 hf13 hk_77 rfl rfl rk_0 (by decide) (by decide) (rg_w r1_ (by decide) (by decide)) dX10_note_101 (fun w14 f15 hS15 hl15 hf15 hu15 hn15 => ?_)
        have fk16 : fK1 4 S ws w14 := fk_ne fk7 hn15 hq13 rfl
        refine rn_aload_n (i := 0) dX10_note_102 rfl rfl ?_
        obtain ⟨o17, hx17, m17⟩ := fs_r hf11 47 rfl
        refine rn_get q11 kg_SGModel_122 ((hn15 _ (ts_ne hq13 hq11 rfl)).trans hl11) hx17 dX10_note_103 ?_
        refine rn_iconst (v := (0 : Int32)) dX10_note_106 (by decide) ?_
        refine rn_aload_n (i := 0) dX10_note_107 rfl rfl ?_
        refine rn_iload_n (i := 2) dX10_note_108 rfl rfl ?_
        refine rn_bipush (v := (12 : Int32)) dX10_note_109 (by decide) ?_
        refine rs_addC (12) (21982) r2_ rk_12 dX10_note_111 (by decide) (fun v18 ev18 rv18 => ?_)
        refine rn_callV (a := 0) (b := 0) [.int v18] kl_SGModel_218 dX10_note_112 q11 ((hn15 _ (ts_ne hq13 hq11 rfl)).trans hl11) rfl (t_X10_four G S w14 hS15.1 o0_ m0_ v18 (rg_w rv18 (by decide) (by decide))) rfl rfl (Nat.le_of_ble_eq_true rfl) (Nat.le_of_ble_eq_true rfl) (Nat.le_of_ble_eq_true rfl) (Nat.le_of_ble_eq_true rfl) (Nat.le_of_ble_eq_true rfl) (Nat.le_of_ble_eq_true rfl) (fun _ _ h => False.elim h) (fun v9 w19 h20 => ?_)
        obtain ⟨rfl, v21, rfl, rv21⟩ := h20
        refine rn_stk [.int v21, .int (0 : Int32), .ref o17] rfl ?_
        obtain ⟨q23, f23, hq23, hl23, hf23⟩ := ts_ia hS15.1 m17 hk_78
        refine rs_iast q23 hS15 hq23 hl23 hf23 hk_78 rfl rfl rk_0 (by decide) (by decide) rv21 dX10_note_115 (fun w24 f25 hS25 hl25 hf25 hu25 hn25 => ?_)
        have fk26 : fK1 4 S ws w24 := fk_ne fk16 hn25 hq23 rfl
        refine rn_aload_n (i := 0) dX10_note_116 rfl rfl ?_
        obtain ⟨o27, hx27, m27⟩ := fs_r hf11 48 rfl
        refine rn_get q11 kg_SGModel_125 ((hn25 _ (ts_ne hq23 hq11 rfl)).trans ((hn15 _ (ts_ne hq13 hq11 rfl)).trans hl11)) hx27 dX10_note_117 ?_
        refine rn_iconst (v := (0 : Int32)) dX10_note_120 (by decide) ?_
        refine rn_aload_n (i := 0) dX10_note_121 rfl rfl ?_
        refine rn_iload_n (i := 2) dX10_note_122 rfl rfl ?_
        refine rn_bipush (v := (16 : Int32)) dX10_note_123 (by decide) ?_
        refine rs_addC (16) (21986) r2_ rk_16 dX10_note_125 (by decide) (fun v28 ev28 rv28 => ?_)
        refine rn_callV (a := 0) (b := 0) [.int v28] kl_SGModel_218 dX10_note_126 q11 ((hn25 _ (ts_ne hq23 hq11 rfl)).trans ((hn15 _ (ts_ne hq13 hq11 rfl)).trans hl11)) rfl (t_X10_four G S w24 hS25.1 o0_ m0_ v28 (rg_w rv28 (by decide) (by decide))) rfl rfl (Nat.le_of_ble_eq_true rfl) (Nat.le_of_ble_eq_true rfl) (Nat.le_of_ble_eq_true rfl) (Nat.le_of_ble_eq_true rfl) (Nat.le_of_ble_eq_true rfl) (Nat.le_of_ble_eq_true rfl) (fun _ _ h => False.elim h) (fun v9 w29 h30 => ?_)
        obtain ⟨rfl, v31, rfl, rv31⟩ := h30
        refine rn_stk [.int v31, .int (0 : Int32), .ref o27] rfl ?_
        obtain ⟨q33, f33, hq33, hl33, hf33⟩ := ts_ia hS25.1 m27 hk_79
        refine rs_iast q33 hS25 hq33 hl33 hf33 hk_79 rfl rfl rk_0 (by decide) (by decide) rv31 dX10_note_129 (fun w34 f35 hS35 hl35 hf35 hu35 hn35 => ?_)
        have fk36 : fK1 4 S ws w34 := fk_ne fk26 hn35 hq33 rfl
        refine rn_aload_n (i := 0) dX10_note_130 rfl rfl ?_
        obtain ⟨o37, hx37, m37⟩ := fs_r hf11 49 rfl
        refine rn_get q11 kg_SGModel_128 ((hn35 _ (ts_ne hq33 hq11 rfl)).trans ((hn25 _ (ts_ne hq23 hq11 rfl)).trans ((hn15 _ (ts_ne hq13 hq11 rfl)).trans hl11))) hx37 dX10_note_131 ?_
        refine rn_iconst (v := (0 : Int32)) dX10_note_134 (by decide) ?_
        refine rn_iload_n (i := 3) dX10_note_135 rfl rfl ?_
        obtain ⟨q38, f38, hq38, hl38, hf38⟩ := ts_ia hS35.1 m37 hk_80
        refine rs_iast q38 hS35 hq38 hl38 hf38 hk_80 rfl rfl rk_0 (by decide) (by decide) (rg_any x3_) dX10_note_136 (fun w39 f40 hS40 hl40 hf40 hu40 hn40 => ?_)
        have fk41 : fK1 4 S ws w39 := fk_ne fk36 hn40 hq38 rfl
        refine rn_aload_n (i := 0) dX10_note_137 rfl rfl ?_
        obtain ⟨o42, hx42, m42⟩ := fs_r hf11 50 rfl
        refine rn_get q11 kg_SGModel_131 ((hn40 _ (ts_ne hq38 hq11 rfl)).trans ((hn35 _ (ts_ne hq33 hq11 rfl)).trans ((hn25 _ (ts_ne hq23 hq11 rfl)).trans ((hn15 _ (ts_ne hq13 hq11 rfl)).trans hl11)))) hx42 dX10_note_138 ?_
        refine rn_iconst (v := (0 : Int32)) dX10_note_141 (by decide) ?_
        refine rn_iload dX10_note_142 rfl ?_
        obtain ⟨q43, f43, hq43, hl43, hf43⟩ := ts_ia hS40.1 m42 hk_81
        refine rs_iast q43 hS40 hq43 hl43 hf43 hk_81 rfl rfl rk_0 (by decide) (by decide) (rg_any x4_) dX10_note_144 (fun w44 f45 hS45 hl45 hf45 hu45 hn45 => ?_)
        have fk46 : fK1 4 S ws w44 := fk_ne fk41 hn45 hq43 rfl
        refine rn_aload_n (i := 0) dX10_note_145 rfl rfl ?_
        refine rn_aload_n (i := 0) dX10_note_146 rfl rfl ?_
        obtain ⟨x47, hx47, rx47⟩ := fs_i hf11 51 rfl
        refine rn_get q11 kg_SGModel_243 ((hn45 _ (ts_ne hq43 hq11 rfl)).trans ((hn40 _ (ts_ne hq38 hq11 rfl)).trans ((hn35 _ (ts_ne hq33 hq11 rfl)).trans ((hn25 _ (ts_ne hq23 hq11 rfl)).trans ((hn15 _ (ts_ne hq13 hq11 rfl)).trans hl11))))) hx47 dX10_note_147 ?_
        refine rn_bipush (v := (16 : Int32)) dX10_note_150 (by decide) ?_
        refine rn_icmp_ge (tgt := 164) dX10_note_152 (by decide) (fun h48 => ?_) (fun h48 => ?_)
        · have ch48 := cv_le h48
          have r49 : Rg (16) (16) x47 := rf_ley ch48 rk_16 rx47 (by decide)
          refine rn_bipush (v := (16 : Int32)) dX10_note_164 (by decide) ?_
          refine rs_put q11 (kp_SGModel_243 _) hS45 hq11 ((hn45 _ (ts_ne hq43 hq11 rfl)).trans ((hn40 _ (ts_ne hq38 hq11 rfl)).trans ((hn35 _ (ts_ne hq33 hq11 rfl)).trans ((hn25 _ (ts_ne hq23 hq11 rfl)).trans ((hn15 _ (ts_ne hq13 hq11 rfl)).trans hl11))))) hf11 hk_30 rfl rfl (tv_i (rg_w rk_16 (by decide) (by decide))) rfl rfl dX10_note_166 (fun w50 fs51 hS51 hl51 hf51 hx51 ho51 hn51 => ?_)
          have fk52 : fK1 4 S ws w50 := fk_put fk46 hS45.1 hq11 ((hn45 _ (ts_ne hq43 hq11 rfl)).trans ((hn40 _ (ts_ne hq38 hq11 rfl)).trans ((hn35 _ (ts_ne hq33 hq11 rfl)).trans ((hn25 _ (ts_ne hq23 hq11 rfl)).trans ((hn15 _ (ts_ne hq13 hq11 rfl)).trans hl11))))) hl51 ho51 (by decide)
          refine rn_iload_n (i := 1) dX10_note_169 rfl rfl ?_
          exact rn_iret dX10_note_170 rfl rfl (rq_in ⟨hS51, x1_, rfl, r1_, fk52⟩)
        · have ch48 := cv_nle h48
          have r53 : Rg (0) (15) x47 := rf_ltx ch48 rx47 rk_16 (by decide)
          refine rn_aload_n (i := 0) dX10_note_155 rfl rfl ?_
          refine rn_get q11 kg_SGModel_243 ((hn45 _ (ts_ne hq43 hq11 rfl)).trans ((hn40 _ (ts_ne hq38 hq11 rfl)).trans ((hn35 _ (ts_ne hq33 hq11 rfl)).trans ((hn25 _ (ts_ne hq23 hq11 rfl)).trans ((hn15 _ (ts_ne hq13 hq11 rfl)).trans hl11))))) hx47 dX10_note_156 ?_
          refine rn_iconst (v := (1 : Int32)) dX10_note_159 (by decide) ?_
          refine rs_addC (1) (16) r53 rk_1 dX10_note_160 (by decide) (fun v54 ev54 rv54 => ?_)
          refine rn_goto (tgt := 166) dX10_note_161 (by decide) ?_
          refine rs_put q11 (kp_SGModel_243 _) hS45 hq11 ((hn45 _ (ts_ne hq43 hq11 rfl)).trans ((hn40 _ (ts_ne hq38 hq11 rfl)).trans ((hn35 _ (ts_ne hq33 hq11 rfl)).trans ((hn25 _ (ts_ne hq23 hq11 rfl)).trans ((hn15 _ (ts_ne hq13 hq11 rfl)).trans hl11))))) hf11 hk_30 rfl rfl (tv_i (rg_w rv54 (by decide) (by decide))) rfl rfl dX10_note_166 (fun w55 fs56 hS56 hl56 hf56 hx56 ho56 hn56 => ?_)
          have fk57 : fK1 4 S ws w55 := fk_put fk46 hS45.1 hq11 ((hn45 _ (ts_ne hq43 hq11 rfl)).trans ((hn40 _ (ts_ne hq38 hq11 rfl)).trans ((hn35 _ (ts_ne hq33 hq11 rfl)).trans ((hn25 _ (ts_ne hq23 hq11 rfl)).trans ((hn15 _ (ts_ne hq13 hq11 rfl)).trans hl11))))) hl56 ho56 (by decide)
          refine rn_iload_n (i := 1) dX10_note_169 rfl rfl ?_
          exact rn_iret dX10_note_170 rfl rfl (rq_in ⟨hS56, x1_, rfl, r1_, fk57⟩)
      · have ch8 := cv_nle h8
        have r58 : Rg (1) (15) x1 := rf_lty ch8 rk_0 r5 (by decide)
        refine rn_aload_n (i := 0) dX10_note_9 rfl rfl ?_
        obtain ⟨q59, fs59, hq59, hl59, hf59⟩ := ts_obj hT4.1 m0_ hk_30
        obtain ⟨o60, hx60, m60⟩ := fs_r hf59 46 rfl
        refine rn_get q59 kg_SGModel_119 hl59 hx60 dX10_note_10 ?_
        refine rn_iload dX10_note_13 rfl ?_
        refine rn_aload_n (i := 0) dX10_note_15 rfl rfl ?_
        refine rn_get q59 kg_SGModel_119 hl59 hx60 dX10_note_16 ?_
        refine rn_iload dX10_note_19 rfl ?_
        refine rn_iconst (v := (1 : Int32)) dX10_note_21 (by decide) ?_
        refine rs_subC (0) (14) r58 rk_1 dX10_note_22 (by decide) (fun v61 ev61 rv61 => ?_)
        obtain ⟨q62, f62, hq62, hl62, hf62⟩ := ts_ia hT4.1 m60 hk_77
        refine rs_iald q62 hl62 hf62 rfl rv61 (by decide) (by decide) dX10_note_23 (fun v63 ev63 rv63 => ?_)
        refine rs_iast q62 hT4 hq62 hl62 hf62 hk_77 rfl rfl r58 (by decide) (by decide) rv63 dX10_note_24 (fun w64 f65 hS65 hl65 hf65 hu65 hn65 => ?_)
        have fk66 : fK1 4 S ws w64 := fk_ne fk7 hn65 hq62 rfl
        refine rn_aload_n (i := 0) dX10_note_25 rfl rfl ?_
        obtain ⟨o67, hx67, m67⟩ := fs_r hf59 47 rfl
        refine rn_get q59 kg_SGModel_122 ((hn65 _ (ts_ne hq62 hq59 rfl)).trans hl59) hx67 dX10_note_26 ?_
        refine rn_iload dX10_note_29 rfl ?_
        refine rn_aload_n (i := 0) dX10_note_31 rfl rfl ?_
        refine rn_get q59 kg_SGModel_122 ((hn65 _ (ts_ne hq62 hq59 rfl)).trans hl59) hx67 dX10_note_32 ?_
        refine rn_iload dX10_note_35 rfl ?_
        refine rn_iconst (v := (1 : Int32)) dX10_note_37 (by decide) ?_
        refine rs_subC (0) (14) r58 rk_1 dX10_note_38 (by decide) (fun v68 ev68 rv68 => ?_)
        obtain ⟨q69, f69, hq69, hl69, hf69⟩ := ts_ia hS65.1 m67 hk_78
        refine rs_iald q69 hl69 hf69 rfl rv68 (by decide) (by decide) dX10_note_39 (fun v70 ev70 rv70 => ?_)
        refine rs_iast q69 hS65 hq69 hl69 hf69 hk_78 rfl rfl r58 (by decide) (by decide) rv70 dX10_note_40 (fun w71 f72 hS72 hl72 hf72 hu72 hn72 => ?_)
        have fk73 : fK1 4 S ws w71 := fk_ne fk66 hn72 hq69 rfl
        refine rn_aload_n (i := 0) dX10_note_41 rfl rfl ?_
        obtain ⟨o74, hx74, m74⟩ := fs_r hf59 48 rfl
        refine rn_get q59 kg_SGModel_125 ((hn72 _ (ts_ne hq69 hq59 rfl)).trans ((hn65 _ (ts_ne hq62 hq59 rfl)).trans hl59)) hx74 dX10_note_42 ?_
        refine rn_iload dX10_note_45 rfl ?_
        refine rn_aload_n (i := 0) dX10_note_47 rfl rfl ?_
        refine rn_get q59 kg_SGModel_125 ((hn72 _ (ts_ne hq69 hq59 rfl)).trans ((hn65 _ (ts_ne hq62 hq59 rfl)).trans hl59)) hx74 dX10_note_48 ?_
        refine rn_iload dX10_note_51 rfl ?_
        refine rn_iconst (v := (1 : Int32)) dX10_note_53 (by decide) ?_
        refine rs_subC (0) (14) r58 rk_1 dX10_note_54 (by decide) (fun v75 ev75 rv75 => ?_)
        obtain ⟨q76, f76, hq76, hl76, hf76⟩ := ts_ia hS72.1 m74 hk_79
        refine rs_iald q76 hl76 hf76 rfl rv75 (by decide) (by decide) dX10_note_55 (fun v77 ev77 rv77 => ?_)
        refine rs_iast q76 hS72 hq76 hl76 hf76 hk_79 rfl rfl r58 (by decide) (by decide) rv77 dX10_note_56 (fun w78 f79 hS79 hl79 hf79 hu79 hn79 => ?_)
        have fk80 : fK1 4 S ws w78 := fk_ne fk73 hn79 hq76 rfl
        refine rn_aload_n (i := 0) dX10_note_57 rfl rfl ?_
        obtain ⟨o81, hx81, m81⟩ := fs_r hf59 49 rfl
        refine rn_get q59 kg_SGModel_128 ((hn79 _ (ts_ne hq76 hq59 rfl)).trans ((hn72 _ (ts_ne hq69 hq59 rfl)).trans ((hn65 _ (ts_ne hq62 hq59 rfl)).trans hl59))) hx81 dX10_note_58 ?_
        refine rn_iload dX10_note_61 rfl ?_
        refine rn_aload_n (i := 0) dX10_note_63 rfl rfl ?_
        refine rn_get q59 kg_SGModel_128 ((hn79 _ (ts_ne hq76 hq59 rfl)).trans ((hn72 _ (ts_ne hq69 hq59 rfl)).trans ((hn65 _ (ts_ne hq62 hq59 rfl)).trans hl59))) hx81 dX10_note_64 ?_
        refine rn_iload dX10_note_67 rfl ?_
        refine rn_iconst (v := (1 : Int32)) dX10_note_69 (by decide) ?_
        refine rs_subC (0) (14) r58 rk_1 dX10_note_70 (by decide) (fun v82 ev82 rv82 => ?_)
        obtain ⟨q83, f83, hq83, hl83, hf83⟩ := ts_ia hS79.1 m81 hk_80
        refine rs_iald q83 hl83 hf83 rfl rv82 (by decide) (by decide) dX10_note_71 (fun v84 ev84 rv84 => ?_)
        refine rs_iast q83 hS79 hq83 hl83 hf83 hk_80 rfl rfl r58 (by decide) (by decide) rv84 dX10_note_72 (fun w85 f86 hS86 hl86 hf86 hu86 hn86 => ?_)
        have fk87 : fK1 4 S ws w85 := fk_ne fk80 hn86 hq83 rfl
        refine rn_aload_n (i := 0) dX10_note_73 rfl rfl ?_
        obtain ⟨o88, hx88, m88⟩ := fs_r hf59 50 rfl
        refine rn_get q59 kg_SGModel_131 ((hn86 _ (ts_ne hq83 hq59 rfl)).trans ((hn79 _ (ts_ne hq76 hq59 rfl)).trans ((hn72 _ (ts_ne hq69 hq59 rfl)).trans ((hn65 _ (ts_ne hq62 hq59 rfl)).trans hl59)))) hx88 dX10_note_74 ?_
        refine rn_iload dX10_note_77 rfl ?_
        refine rn_aload_n (i := 0) dX10_note_79 rfl rfl ?_
        refine rn_get q59 kg_SGModel_131 ((hn86 _ (ts_ne hq83 hq59 rfl)).trans ((hn79 _ (ts_ne hq76 hq59 rfl)).trans ((hn72 _ (ts_ne hq69 hq59 rfl)).trans ((hn65 _ (ts_ne hq62 hq59 rfl)).trans hl59)))) hx88 dX10_note_80 ?_
        refine rn_iload dX10_note_83 rfl ?_
        refine rn_iconst (v := (1 : Int32)) dX10_note_85 (by decide) ?_
        refine rs_subC (0) (14) r58 rk_1 dX10_note_86 (by decide) (fun v89 ev89 rv89 => ?_)
        obtain ⟨q90, f90, hq90, hl90, hf90⟩ := ts_ia hS86.1 m88 hk_81
        refine rs_iald q90 hl90 hf90 rfl rv89 (by decide) (by decide) dX10_note_87 (fun v91 ev91 rv91 => ?_)
        refine rs_iast q90 hS86 hq90 hl90 hf90 hk_81 rfl rfl r58 (by decide) (by decide) rv91 dX10_note_88 (fun w92 f93 hS93 hl93 hf93 hu93 hn93 => ?_)
        have fk94 : fK1 4 S ws w92 := fk_ne fk87 hn93 hq90 rfl
        refine rs_iinc (0) (14) dX10_note_89 rfl (by decide) r58 rk_m1 (by decide) (fun v95 => [(0, .ref o0_), (1, .int x1_), (2, .int x2_), (3, .int x3_), (4, .int x4_), (5, .int v95)]) (fun _ => rfl) (fun v95 ev95 rv95 => ?_)
        refine rn_goto (tgt := 4) dX10_note_92 (by decide) ?_
        refine rn_lv [(0, .ref o0_), (1, .int x1_), (2, .int x2_), (3, .int x3_), (4, .int x4_), (5, .int v95)] rfl ?_
        exact ih _ (lp_dec hm6 ev95 rv95 (by decide)) w92 v95 hS93 (rg_w rv95 (by decide) (by decide)) rfl
  exact LP2 _ ws (15 : Int32) (St.rf hS0.1) (rg_w rk_15 (by decide) (by decide)) rfl
