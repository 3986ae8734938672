abbrev q_t_X10_isBroken_6600 (G : rn_G) (S : ts_S) (ws : va_W) (x2_ : Int32) : rn_R → va_W → Prop := rQ (fun v w => ws = w ∧ (∃ x : Int32, v = some (.int x) ∧ Rg (0) (1) x ∧ (x = 0 → 20 ≤ tw (byt ws) 6602 ∧ tw (byt ws) 6602 ≤ x2_.toInt))) (fun E w => False)
set_option maxRecDepth 20000 in
set_option maxHeartbeats 4000000 in
theorem t_X10_isBroken_6600 (G : rn_G) (S : ts_S) (ws : va_W) (hW : ts_W G S ws) (o0_ : Nat) (m0_ : (o0_, 30) ∈ S) (x2_ : Int32) : Rn G mX10_isBroken 2 45 0 0 0 (lv_args 0 [.ref o0_, .int (6600 : Int32), .int x2_]) [] ws (q_t_X10_isBroken_6600 G S ws x2_) := by
  obtain ⟨ob1, hob1⟩ := hW.2.1.2
  obtain ⟨T2, ht2⟩ : ∃ t : Int, tw (byt ws) 6602 = t := ⟨_, rfl⟩
  refine rn_lv [(0, .ref o0_), (1, .int (6600 : Int32)), (2, .int x2_)] rfl ?_
  refine rn_iload_n (i := 2) dX10_isBroken_0 rfl rfl ?_
  refine rn_bipush (v := (20 : Int32)) dX10_isBroken_1 (by decide) ?_
  refine rn_icmp_lt (tgt := 51) dX10_isBroken_3 (by decide) (fun h3 => ?_) (fun h3 => ?_)
  · have ch3 := cv_lt h3
    have r4 : Rg (-2147483648) (19) x2_ := rf_ltx ch3 (rg_any x2_) rk_20 (by decide)
    refine rn_iconst (v := (1 : Int32)) dX10_isBroken_51 (by decide) ?_
    refine rn_goto (tgt := 56) dX10_isBroken_52 (by decide) ?_
    exact rn_iret dX10_isBroken_56 rfl rfl (rq_in ⟨rfl, (1 : Int32), rfl, (rg_w rk_1 (by decide) (by decide)), (fun h => absurd h (by decide))⟩)
  · have ch3 := cv_nlt h3
    have r5 : Rg (20) (2147483647) x2_ := rf_ley ch3 rk_20 (rg_any x2_) (by decide)
    refine rn_aload_n (i := 0) dX10_isBroken_6 rfl rfl ?_
    obtain ⟨q6, fs6, hq6, hl6, hf6⟩ := ts_obj hW m0_ hk_30
    obtain ⟨o7, hx7, m7⟩ := fs_r hf6 2 rfl
    refine rn_get q6 kg_SGModel_7 hl6 hx7 dX10_isBroken_7 ?_
    refine rn_iload_n (i := 1) dX10_isBroken_10 rfl rfl ?_
    obtain ⟨q8, f8, hq8, hl8, hf8⟩ := ts_ia hW m7 hk_33
    refine rs_iald q8 hl8 hf8 rfl rk_6600 (by decide) (by decide) dX10_isBroken_11 (fun v9 ev9 rv9 => ?_)
    have hbv9 : byt ws 6600 = v9 := by rw [byt_of hW hq8 hl8, ev9]; exact congrArg _ (by decide)
    refine rn_bipush (v := (69 : Int32)) dX10_isBroken_12 (by decide) ?_
    refine rn_icmp_ne (tgt := 51) dX10_isBroken_14 (by decide) (fun h10 => ?_) (fun h10 => ?_)
    · have ch10 := cv_ne h10
      refine rn_iconst (v := (1 : Int32)) dX10_isBroken_51 (by decide) ?_
      refine rn_goto (tgt := 56) dX10_isBroken_52 (by decide) ?_
      exact rn_iret dX10_isBroken_56 rfl rfl (rq_in ⟨rfl, (1 : Int32), rfl, (rg_w rk_1 (by decide) (by decide)), (fun h => absurd h (by decide))⟩)
    · have ch10 := cv_eq h10
      have r11 : Rg (69) (69) v9 := rf_eqx ch10 rv9 rk_69 (by decide) (by decide)
      refine rn_aload_n (i := 0) dX10_isBroken_17 rfl rfl ?_
      refine rn_iload_n (i := 1) dX10_isBroken_18 rfl rfl ?_
      refine rn_iconst (v := (2 : Int32)) dX10_isBroken_19 (by decide) ?_
      refine rn_iadd dX10_isBroken_20 (rn_topi (6602 : Int32) (by decide) ?_)
      refine rn_callV (a := 0) (b := 0) [.int (6602 : Int32)] kl_SGModel_140 dX10_isBroken_21 q6 hl6 rfl (t_X10_two G S ws hW o0_ m0_ (6602 : Int32) (rg_w rk_6602 (by decide) (by decide))) rfl rfl (Nat.le_of_ble_eq_true rfl) (Nat.le_of_ble_eq_true rfl) (Nat.le_of_ble_eq_true rfl) (Nat.le_of_ble_eq_true rfl) (Nat.le_of_ble_eq_true rfl) (Nat.le_of_ble_eq_true rfl) (fun _ _ h => False.elim h) (fun v9 w13 h14 => ?_)
      obtain ⟨rfl, v15, rfl, rv15, xah14⟩ := h14
      have ev15 : v15.toInt = T2 := (xah14 6602 (by decide)).trans ht2
      refine rn_stk [.int v15] rfl ?_
      refine rn_bipush (v := (20 : Int32)) dX10_isBroken_24 (by decide) ?_
      refine rn_icmp_lt (tgt := 51) dX10_isBroken_26 (by decide) (fun h17 => ?_) (fun h17 => ?_)
      · have ch17 := cv_lt h17
        have r18 : Rg (0) (19) v15 := rf_ltx ch17 rv15 rk_20 (by decide)
        refine rn_iconst (v := (1 : Int32)) dX10_isBroken_51 (by decide) ?_
        refine rn_goto (tgt := 56) dX10_isBroken_52 (by decide) ?_
        exact rn_iret dX10_isBroken_56 rfl rfl (rq_in ⟨rfl, (1 : Int32), rfl, (rg_w rk_1 (by decide) (by decide)), (fun h => absurd h (by decide))⟩)
      · have ch17 := cv_nlt h17
        have r19 : Rg (20) (65535) v15 := rf_ley ch17 rk_20 rv15 (by decide)
        refine rn_aload_n (i := 0) dX10_isBroken_29 rfl rfl ?_
        refine rn_iload_n (i := 1) dX10_isBroken_30 rfl rfl ?_
        refine rn_iconst (v := (2 : Int32)) dX10_isBroken_31 (by decide) ?_
        refine rn_iadd dX10_isBroken_32 (rn_topi (6602 : Int32) (by decide) ?_)
        refine rn_callV (a := 0) (b := 0) [.int (6602 : Int32)] kl_SGModel_140 dX10_isBroken_33 q6 hl6 rfl (t_X10_two G S ws hW o0_ m0_ (6602 : Int32) (rg_w rk_6602 (by decide) (by decide))) rfl rfl (Nat.le_of_ble_eq_true rfl) (Nat.le_of_ble_eq_true rfl) (Nat.le_of_ble_eq_true rfl) (Nat.le_of_ble_eq_true rfl) (Nat.le_of_ble_eq_true rfl) (Nat.le_of_ble_eq_true rfl) (fun _ _ h => False.elim h) (fun v9 w21 h22 => ?_)
        obtain ⟨rfl, v23, rfl, rv23, xah22⟩ := h22
        have ev23 : v23.toInt = T2 := (xah22 6602 (by decide)).trans ht2
        refine rn_stk [.int v23] rfl ?_
        refine rn_iload_n (i := 2) dX10_isBroken_36 rfl rfl ?_
        refine rn_icmp_gt (tgt := 51) dX10_isBroken_37 (by decide) (fun h25 => ?_) (fun h25 => ?_)
        · have ch25 := cv_lt h25
          have r26 : Rg (20) (65534) x2_ := rf_ltx ch25 r5 rv23 (by decide)
          have r27 : Rg (21) (65535) v23 := rf_lty ch25 r5 rv23 (by decide)
          refine rn_iconst (v := (1 : Int32)) dX10_isBroken_51 (by decide) ?_
          refine rn_goto (tgt := 56) dX10_isBroken_52 (by decide) ?_
          exact rn_iret dX10_isBroken_56 rfl rfl (rq_in ⟨rfl, (1 : Int32), rfl, (rg_w rk_1 (by decide) (by decide)), (fun h => absurd h (by decide))⟩)
        · have ch25 := cv_nlt h25
          refine rn_aload_n (i := 0) dX10_isBroken_40 rfl rfl ?_
          refine rn_iload_n (i := 1) dX10_isBroken_41 rfl rfl ?_
          refine rn_iconst (v := (1 : Int32)) dX10_isBroken_42 (by decide) ?_
          refine rn_callV (a := 0) (b := 0) [.int (6600 : Int32), .int (1 : Int32)] kl_SGModel_151 dX10_isBroken_43 q6 hl6 rfl (t_X10_fold G S ws hW o0_ m0_ (6600 : Int32) (rg_w rk_6600 (by decide) (by decide)) (1 : Int32) (rg_w rk_1 (by decide) (by decide))) rfl rfl (Nat.le_of_ble_eq_true rfl) (Nat.le_of_ble_eq_true rfl) (Nat.le_of_ble_eq_true rfl) (Nat.le_of_ble_eq_true rfl) (Nat.le_of_ble_eq_true rfl) (Nat.le_of_ble_eq_true rfl) (fun _ _ h => False.elim h) (fun v9 w28 h29 => ?_)
          obtain ⟨rfl, v30, rfl, rv30⟩ := h29
          refine rn_stk [.int v30] rfl ?_
          refine rn_ldc (v := (65535 : Int32)) wd_1093 dX10_isBroken_46 ?_
          refine rn_icmp_eq (tgt := 55) dX10_isBroken_48 (by decide) (fun h32 => ?_) (fun h32 => ?_)
          · have ch32 := cv_eq h32
            have r33 : Rg (65535) (65535) v30 := rf_eqx ch32 rv30 rk_65535 (by decide) (by decide)
            refine rn_iconst (v := (0 : Int32)) dX10_isBroken_55 (by decide) ?_
            exact rn_iret dX10_isBroken_56 rfl rfl (rq_in ⟨rfl, (0 : Int32), rfl, (rg_w rk_0 (by decide) (by decide)), (fun _ => by rw [ht2]; exact ⟨by have := rk_20.1; have := rk_20.2; omega, by have := r5.1; have := r5.2; omega⟩)⟩)
          · have ch32 := cv_ne h32
            have r34 : Rg (-2147483648) (65534) v30 := rf_neh ch32 rv30 rk_65535 (by decide) (by decide)
            refine rn_iconst (v := (1 : Int32)) dX10_isBroken_51 (by decide) ?_
            refine rn_goto (tgt := 56) dX10_isBroken_52 (by decide) ?_
            exact rn_iret dX10_isBroken_56 rfl rfl (rq_in ⟨rfl, (1 : Int32), rfl, (rg_w rk_1 (by decide) (by decide)), (fun h => absurd h (by decide))⟩)
abbrev q_t_X10_hop_6600 (G : rn_G) (S : ts_S) (ws : va_W) : rn_R → va_W → Prop := rQ (fun v w => St G S [33] ws S w ∧ (v = none ∧ (bsame (6608) (6612) ws w))) (fun E w => False)
set_option maxRecDepth 20000 in
set_option maxHeartbeats 4000000 in
theorem t_X10_hop_6600 (G : rn_G) (S : ts_S) (ws : va_W) (hW : ts_W G S ws) (o0_ : Nat) (m0_ : (o0_, 30) ∈ S) (hh_ : 1 ≤ (byt ws 6608).toInt) : Rn G mX10_hop 3 66 0 0 0 (lv_args 0 [.ref o0_, .int (6600 : Int32)]) [] ws (q_t_X10_hop_6600 G S ws ) := by
  have hS0 : St G S [33] ws S ws := St.rf hW
  obtain ⟨ob1, hob1⟩ := hS0.1.2.1.2
  have bs0 : bsame (6608) (6612) ws ws := bs_rf
  refine rn_lv [(0, .ref o0_), (1, .int (6600 : Int32))] rfl ?_
  refine rn_aload_n (i := 0) dX10_hop_0 rfl rfl ?_
  obtain ⟨q2, fs2, hq2, hl2, hf2⟩ := ts_obj hS0.1 m0_ hk_30
  obtain ⟨o3, hx3, m3⟩ := fs_r hf2 2 rfl
  refine rn_get q2 kg_SGModel_7 hl2 hx3 dX10_hop_1 ?_
  refine rn_iload_n (i := 1) dX10_hop_4 rfl rfl ?_
  refine rn_bipush (v := (8 : Int32)) dX10_hop_5 (by decide) ?_
  refine rn_iadd dX10_hop_7 (rn_topi (6608 : Int32) (by decide) ?_)
  refine rn_dup2_11 dX10_hop_8 rfl rfl ?_
  obtain ⟨q5, f5, hq5, hl5, hf5⟩ := ts_ia hS0.1 m3 hk_33
  refine rs_iald q5 hl5 hf5 rfl rk_6608 (by decide) (by decide) dX10_hop_9 (fun v6 ev6 rv6 => ?_)
  have hbv6 : byt ws 6608 = v6 := by rw [byt_of hS0.1 hq5 hl5, ev6]; exact congrArg _ (by decide)
  rw [hbv6] at hh_
  have r7 : Rg (1) (255) v6 := ⟨hh_, rv6.2⟩
  refine rn_iconst (v := (1 : Int32)) dX10_hop_10 (by decide) ?_
  refine rs_subC (0) (254) r7 rk_1 dX10_hop_11 (by decide) (fun v8 ev8 rv8 => ?_)
  refine rs_iast q5 hS0 hq5 hl5 hf5 hk_33 rfl rfl rk_6608 (by decide) (by decide) (rg_w rv8 (by decide) (by decide)) dX10_hop_12 (fun w9 f10 hS10 hl10 hf10 hu10 hn10 => ?_)
  have bs11 := bs_st bs0 hS0.1 hS10.1 hq5 hl5 hl10 hu10 (by have := rk_6608.1; have := rk_6608.2; omega) (by constructor <;> (have := rk_6608.1; have := rk_6608.2; omega))
  refine rn_aload_n (i := 0) dX10_hop_13 rfl rfl ?_
  refine rn_iload_n (i := 1) dX10_hop_14 rfl rfl ?_
  refine rn_callV (a := 0) (b := 0) [.int (6600 : Int32)] kl_SGModel_184 dX10_hop_15 q2 ((hn10 _ (ts_ne hq5 hq2 rfl)).trans hl2) rfl (t_X10_setSum G S w9 hS10.1 o0_ m0_ (6600 : Int32) (rg_w rk_6600 (by decide) (by decide))) rfl rfl (Nat.le_of_ble_eq_true rfl) (Nat.le_of_ble_eq_true rfl) (Nat.le_of_ble_eq_true rfl) (Nat.le_of_ble_eq_true rfl) (Nat.le_of_ble_eq_true rfl) (Nat.le_of_ble_eq_true rfl) (fun _ _ h => False.elim h) (fun v9 w12 h13 => ?_)
  obtain ⟨hT14, rfl, xah13⟩ := h13
  have hS14 := St.tr hS10 hT14 rfl
  have bs15 := bs_tr bs11 xah13 (by have := rk_6600.1; have := rk_6600.2; omega) (by have := rk_6600.1; have := rk_6600.2; omega)
  refine rn_stk [] rfl ?_
  exact rn_vret dX10_hop_18 rfl (rq_in ⟨hS14, rfl, bs15⟩)
abbrev q_t_X10_send_6600 (G : rn_G) (S : ts_S) (ws : va_W) : rn_R → va_W → Prop := rQ (fun v w => St G S [30, 33, 65] ws S w ∧ (∃ x : Int32, v = some (.int x) ∧ Rg (0) (0) x ∧ fK1 4 S ws w)) (fun E w => False)
set_option maxRecDepth 20000 in
set_option maxHeartbeats 4000000 in
theorem t_X10_send_6600 (G : rn_G) (S : ts_S) (ws : va_W) (hW : ts_W G S ws) (o0_ : Nat) (m0_ : (o0_, 30) ∈ S) (x2_ : Int32) (hw6602_ : 0 ≤ tw (byt ws) 6602 ∧ tw (byt ws) 6602 ≤ 2047) : Rn G mX10_send 3 66 0 0 0 (lv_args 0 [.ref o0_, .int (6600 : Int32), .int x2_]) [] ws (q_t_X10_send_6600 G S ws ) := by
  have hS0 : St G S [30, 33, 65] ws S ws := St.rf hW
  have fk0 : fK1 4 S ws ws := fun v h => h
  obtain ⟨ob1, hob1⟩ := hS0.1.2.1.2
  obtain ⟨T2, ht2⟩ : ∃ t : Int, tw (byt ws) 6602 = t := ⟨_, rfl⟩
  rw [ht2] at hw6602_
  refine rn_lv [(0, .ref o0_), (1, .int (6600 : Int32)), (2, .int x2_)] rfl ?_
  refine rn_aload_n (i := 0) dX10_send_0 rfl rfl ?_
  refine rn_iload_n (i := 1) dX10_send_1 rfl rfl ?_
  obtain ⟨q3, fs3, hq3, hl3, hf3⟩ := ts_obj hS0.1 m0_ hk_30
  refine rn_inV (d' := 1) (z' := 21) [.int (6600 : Int32)] kl_SGModel_165 dX10_send_2 q3 hl3 rfl rfl rfl (Nat.le_of_ble_eq_true rfl) (Nat.le_of_ble_eq_true rfl) (Nat.le_of_ble_eq_true rfl) (Nat.le_of_ble_eq_true rfl) ?_
  refine rn_lv [(0, .ref o0_), (1, .int (6600 : Int32))] rfl ?_
  refine rn_aload_n (i := 0) dX10_lengthOf_0 rfl rfl ?_
  refine rn_iload_n (i := 1) dX10_lengthOf_1 rfl rfl ?_
  refine rn_iconst (v := (2 : Int32)) dX10_lengthOf_2 (by decide) ?_
  refine rn_iadd dX10_lengthOf_3 (rn_topi (6602 : Int32) (by decide) ?_)
  refine rn_callV (a := 0) (b := 0) [.int (6602 : Int32)] kl_SGModel_140 dX10_lengthOf_4 q3 hl3 rfl (t_X10_two G S ws hS0.1 o0_ m0_ (6602 : Int32) (rg_w rk_6602 (by decide) (by decide))) rfl rfl (Nat.le_of_ble_eq_true rfl) (Nat.le_of_ble_eq_true rfl) (Nat.le_of_ble_eq_true rfl) (Nat.le_of_ble_eq_true rfl) (Nat.le_of_ble_eq_true rfl) (Nat.le_of_ble_eq_true rfl) (fun _ _ h => False.elim h) (fun v9 w5 h6 => ?_)
  obtain ⟨rfl, v7, rfl, rv7, xah6⟩ := h6
  have ev7 : v7.toInt = T2 := (xah6 6602 (by decide)).trans ht2
  have r9 : Rg (0) (2047) v7 := ⟨by have := rv7.1; have := rv7.2; omega, by have := rv7.1; have := rv7.2; omega⟩
  refine rn_stk [.int v7] rfl ?_
  refine rn_iret dX10_lengthOf_7 rfl rfl (rq_in ?_)
  refine rn_stk [.int v7] rfl ?_
  refine rn_istore_n dX10_send_5 rfl (by decide) [(0, .ref o0_), (1, .int (6600 : Int32)), (2, .int x2_), (3, .int v7)] rfl ?_
  refine rn_aload_n (i := 0) dX10_send_6 rfl rfl ?_
  refine rn_iload_n (i := 2) dX10_send_7 rfl rfl ?_
  refine rs_put q3 (kp_SGModel_92 _) hS0 hq3 hl3 hf3 hk_30 rfl rfl (tv_i (rg_any x2_)) rfl rfl dX10_send_8 (fun w10 fs11 hS11 hl11 hf11 hx11 ho11 hn11 => ?_)
  have fk12 : fK1 4 S ws w10 := fk_put fk0 hS0.1 hq3 hl3 hl11 ho11 (by decide)
  have ht13 := tw_eq (byt_ne hn11 (ts_ne hq3 hob1 rfl)) ht2
  refine rn_aload_n (i := 0) dX10_send_11 rfl rfl ?_
  obtain ⟨o14, hx14, m14⟩ := fs_r hf11 34 rfl
  refine rn_get q3 kg_SGModel_89 hl11 hx14 dX10_send_12 ?_
  refine rn_iconst (v := (1 : Int32)) dX10_send_15 (by decide) ?_
  refine rn_iconst (v := (0 : Int32)) dX10_send_16 (by decide) ?_
  obtain ⟨q15, f15, hq15, hl15, hf15⟩ := ts_ia hS11.1 m14 hk_65
  refine rs_iast q15 hS11 hq15 hl15 hf15 hk_65 rfl rfl rk_1 (by decide) (by decide) (rg_w rk_0 (by decide) (by decide)) dX10_send_17 (fun w16 f17 hS17 hl17 hf17 hu17 hn17 => ?_)
  have fk18 : fK1 4 S ws w16 := fk_ne fk12 hn17 hq15 rfl
  have ht19 := tw_eq (byt_ne hn17 (ts_ne hq15 hob1 rfl)) ht13
  refine rn_iload_n (i := 3) dX10_send_18 rfl rfl ?_
  refine rn_sipush (v := (1500 : Int32)) dX10_send_19 (by decide) ?_
  refine rn_icmp_gt (tgt := 43) dX10_send_22 (by decide) (fun h20 => ?_) (fun h20 => ?_)
  · have ch20 := cv_lt h20
    have r21 : Rg (1501) (2047) v7 := rf_lty ch20 rk_1500 r9 (by decide)
    refine rn_aload_n (i := 0) dX10_send_43 rfl rfl ?_
    refine rn_iload_n (i := 1) dX10_send_44 rfl rfl ?_
    refine rn_callV (a := 0) (b := 0) [.int (6600 : Int32)] kl_SGModel_155 dX10_send_45 q3 ((hn17 _ (ts_ne hq15 hq3 rfl)).trans hl11) rfl (t_X10_hasMore G S w16 hS17.1 o0_ m0_ (6600 : Int32) (rg_w rk_6600 (by decide) (by decide))) rfl rfl (Nat.le_of_ble_eq_true rfl) (Nat.le_of_ble_eq_true rfl) (Nat.le_of_ble_eq_true rfl) (Nat.le_of_ble_eq_true rfl) (Nat.le_of_ble_eq_true rfl) (Nat.le_of_ble_eq_true rfl) (fun _ _ h => False.elim h) (fun v9 w22 h23 => ?_)
    obtain ⟨rfl, v24, rfl, rv24⟩ := h23
    refine rn_stk [.int v24] rfl ?_
    refine rn_istore dX10_send_48 (by decide) [(0, .ref o0_), (1, .int (6600 : Int32)), (2, .int x2_), (3, .int v7), (4, .int v24)] rfl ?_
    refine rn_aload_n (i := 0) dX10_send_50 rfl rfl ?_
    refine rn_iload_n (i := 1) dX10_send_51 rfl rfl ?_
    refine rn_inV (d' := 1) (z' := 21) [.int (6600 : Int32)] kl_SGModel_159 dX10_send_52 q3 ((hn17 _ (ts_ne hq15 hq3 rfl)).trans hl11) rfl rfl rfl (Nat.le_of_ble_eq_true rfl) (Nat.le_of_ble_eq_true rfl) (Nat.le_of_ble_eq_true rfl) (Nat.le_of_ble_eq_true rfl) ?_
    refine rn_lv [(0, .ref o0_), (1, .int (6600 : Int32))] rfl ?_
    refine rn_aload_n (i := 0) dX10_offsetOf_0 rfl rfl ?_
    refine rn_iload_n (i := 1) dX10_offsetOf_1 rfl rfl ?_
    refine rn_bipush (v := (6 : Int32)) dX10_offsetOf_2 (by decide) ?_
    refine rn_iadd dX10_offsetOf_4 (rn_topi (6606 : Int32) (by decide) ?_)
    refine rn_callV (a := 0) (b := 0) [.int (6606 : Int32)] kl_SGModel_140 dX10_offsetOf_5 q3 ((hn17 _ (ts_ne hq15 hq3 rfl)).trans hl11) rfl (t_X10_two G S w16 hS17.1 o0_ m0_ (6606 : Int32) (rg_w rk_6606 (by decide) (by decide))) rfl rfl (Nat.le_of_ble_eq_true rfl) (Nat.le_of_ble_eq_true rfl) (Nat.le_of_ble_eq_true rfl) (Nat.le_of_ble_eq_true rfl) (Nat.le_of_ble_eq_true rfl) (Nat.le_of_ble_eq_true rfl) (fun _ _ h => False.elim h) (fun v9 w27 h28 => ?_)
    obtain ⟨rfl, v29, rfl, rv29, xah28⟩ := h28
    obtain ⟨T31, ht31⟩ : ∃ t : Int, tw (byt w16) 6606 = t := ⟨_, rfl⟩
    have ev29 : v29.toInt = T31 := (xah28 6606 (by decide)).trans ht31
    refine rn_stk [.int v29] rfl ?_
    refine rn_sipush (v := (8191 : Int32)) dX10_offsetOf_8 (by decide) ?_
    refine rn_iand dX10_offsetOf_11 (rn_nmE (rg_mask (hi := 8191) 13 8192 rfl rv29 rk_8191 (by decide)) (fun v32 ev32 rv32 => ?_))
    have fv32 : v32.toInt = T31 % 8192 := ev32.trans (congrArg (fun z => z % ((8192 : Nat) : Int)) ev29)
    refine rn_iret dX10_offsetOf_12 rfl rfl (rq_in ?_)
    refine rn_stk [.int v32] rfl ?_
    refine rn_istore dX10_send_55 (by decide) [(0, .ref o0_), (1, .int (6600 : Int32)), (2, .int x2_), (3, .int v7), (4, .int v24), (5, .int v32)] rfl ?_
    refine rn_aload_n (i := 0) dX10_send_57 rfl rfl ?_
    refine rn_iload_n (i := 1) dX10_send_58 rfl rfl ?_
    refine rn_sipush (v := (8800 : Int32)) dX10_send_59 (by decide) ?_
    refine rn_sipush (v := (1500 : Int32)) dX10_send_62 (by decide) ?_
    refine rn_callV (a := 0) (b := 0) [.int (6600 : Int32), .int (8800 : Int32), .int (1500 : Int32)] kl_SGModel_235 dX10_send_65 q3 ((hn17 _ (ts_ne hq15 hq3 rfl)).trans hl11) rfl (t_X10_move G S w16 hS17.1 o0_ m0_ (6600 : Int32) (8800 : Int32) (1500 : Int32) ⟨by have := rk_1500.1; have := rk_1500.2; have := rk_8800.1; have := rk_8800.2; have := rk_6600.1; have := rk_6600.2; omega, by have := rk_1500.1; have := rk_1500.2; have := rk_8800.1; have := rk_8800.2; have := rk_6600.1; have := rk_6600.2; omega, by have := rk_1500.1; have := rk_1500.2; have := rk_8800.1; have := rk_8800.2; have := rk_6600.1; have := rk_6600.2; omega, by have := rk_1500.1; have := rk_1500.2; have := rk_8800.1; have := rk_8800.2; have := rk_6600.1; have := rk_6600.2; omega⟩) rfl rfl (Nat.le_of_ble_eq_true rfl) (Nat.le_of_ble_eq_true rfl) (Nat.le_of_ble_eq_true rfl) (Nat.le_of_ble_eq_true rfl) (Nat.le_of_ble_eq_true rfl) (Nat.le_of_ble_eq_true rfl) (fun _ _ h => False.elim h) (fun v9 w33 h34 => ?_)
    obtain ⟨hT35, rfl, xah34⟩ := h34
    have hS35 := St.tr hS17 hT35 rfl
    have ht36 := bsame.keep xah34.1 ht19 (by have := rk_1500.1; have := rk_1500.2; have := rk_8800.1; have := rk_8800.2; have := rk_6600.1; have := rk_6600.2; omega)
    have ht37 := bsame.keep xah34.1 ht31 (by have := rk_1500.1; have := rk_1500.2; have := rk_8800.1; have := rk_8800.2; have := rk_6600.1; have := rk_6600.2; omega)
    have fk38 : fK1 4 S ws w33 := fk_fr fk18 hT35 rfl
    refine rn_stk [] rfl ?_
    refine rn_aload_n (i := 0) dX10_send_68 rfl rfl ?_
    refine rn_sipush (v := (8802 : Int32)) dX10_send_69 (by decide) ?_
    refine rn_sipush (v := (1500 : Int32)) dX10_send_72 (by decide) ?_
    refine rn_callV (a := 0) (b := 0) [.int (8802 : Int32), .int (1500 : Int32)] kl_SGModel_144 dX10_send_75 q3 (hT35.fr hq3 rfl ((hn17 _ (ts_ne hq15 hq3 rfl)).trans hl11)) rfl (t_X10_putTwo G S w33 hS35.1 o0_ m0_ (8802 : Int32) (rg_w rk_8802 (by decide) (by decide)) (1500 : Int32)) rfl rfl (Nat.le_of_ble_eq_true rfl) (Nat.le_of_ble_eq_true rfl) (Nat.le_of_ble_eq_true rfl) (Nat.le_of_ble_eq_true rfl) (Nat.le_of_ble_eq_true rfl) (Nat.le_of_ble_eq_true rfl) (fun _ _ h => False.elim h) (fun v9 w39 h40 => ?_)
    obtain ⟨hT41, rfl, xah40⟩ := h40
    have hS41 := St.tr hS35 hT41 rfl
    have ht42 := bsame.keep xah40.1 ht36 (by have := rk_1500.1; have := rk_1500.2; have := rk_8802.1; have := rk_8802.2; omega)
    have ht43 := bsame.keep xah40.1 ht37 (by have := rk_1500.1; have := rk_1500.2; have := rk_8802.1; have := rk_8802.2; omega)
    have fk44 : fK1 4 S ws w39 := fk_fr fk38 hT41 rfl
    have ht45 : tw (byt w39) 8802 = (1500 : Int32).toInt := xah40.2 8802 (by decide) (by have := rk_1500.1; omega) (by have := rk_1500.2; omega)
    refine rn_stk [] rfl ?_
    refine rn_aload_n (i := 0) dX10_send_78 rfl rfl ?_
    refine rn_sipush (v := (8800 : Int32)) dX10_send_79 (by decide) ?_
    refine rn_iconst (v := (1 : Int32)) dX10_send_82 (by decide) ?_
    refine rn_iload dX10_send_83 rfl ?_
    refine rn_callV (a := 0) (b := 0) [.int (8800 : Int32), .int (1 : Int32), .int v32] kl_SGModel_239 dX10_send_85 q3 (hT41.fr hq3 rfl (hT35.fr hq3 rfl ((hn17 _ (ts_ne hq15 hq3 rfl)).trans hl11))) rfl (t_X10_setOffset G S w39 hS41.1 o0_ m0_ (8800 : Int32) (rg_w rk_8800 (by decide) (by decide)) (1 : Int32) (rg_w rk_1 (by decide) (by decide)) v32) rfl rfl (Nat.le_of_ble_eq_true rfl) (Nat.le_of_ble_eq_true rfl) (Nat.le_of_ble_eq_true rfl) (Nat.le_of_ble_eq_true rfl) (Nat.le_of_ble_eq_true rfl) (Nat.le_of_ble_eq_true rfl) (fun _ _ h => False.elim h) (fun v9 w46 h47 => ?_)
    obtain ⟨hT48, rfl, xah47⟩ := h47
    have hS48 := St.tr hS41 hT48 rfl
    have ht49 := bsame.keep xah47 ht42 (by have := rv32.1; have := rv32.2; have := rk_8191.1; have := rk_8191.2; have := rv29.1; have := rv29.2; have := rk_1.1; have := rk_1.2; have := rk_8800.1; have := rk_8800.2; omega)
    have ht50 := bsame.keep xah47 ht43 (by have := rv32.1; have := rv32.2; have := rk_8191.1; have := rk_8191.2; have := rv29.1; have := rv29.2; have := rk_1.1; have := rk_1.2; have := rk_8800.1; have := rk_8800.2; omega)
    have ht51 := bsame.keep xah47 ht45 (by have := rv32.1; have := rv32.2; have := rk_8191.1; have := rk_8191.2; have := rv29.1; have := rv29.2; have := rk_1.1; have := rk_1.2; have := rk_8800.1; have := rk_8800.2; omega)
    have fk52 : fK1 4 S ws w46 := fk_fr fk44 hT48 rfl
    refine rn_stk [] rfl ?_
    refine rn_aload_n (i := 0) dX10_send_88 rfl rfl ?_
    refine rn_sipush (v := (8800 : Int32)) dX10_send_89 (by decide) ?_
    refine rn_callV (a := 0) (b := 0) [.int (8800 : Int32)] kl_SGModel_184 dX10_send_92 q3 (hT48.fr hq3 rfl (hT41.fr hq3 rfl (hT35.fr hq3 rfl ((hn17 _ (ts_ne hq15 hq3 rfl)).trans hl11)))) rfl (t_X10_setSum G S w46 hS48.1 o0_ m0_ (8800 : Int32) (rg_w rk_8800 (by decide) (by decide))) rfl rfl (Nat.le_of_ble_eq_true rfl) (Nat.le_of_ble_eq_true rfl) (Nat.le_of_ble_eq_true rfl) (Nat.le_of_ble_eq_true rfl) (Nat.le_of_ble_eq_true rfl) (Nat.le_of_ble_eq_true rfl) (fun _ _ h => False.elim h) (fun v9 w53 h54 => ?_)
    obtain ⟨hT55, rfl, xah54⟩ := h54
    have hS55 := St.tr hS48 hT55 rfl
    have ht56 := bsame.keep xah54 ht49 (by have := rk_8800.1; have := rk_8800.2; omega)
    have ht57 := bsame.keep xah54 ht50 (by have := rk_8800.1; have := rk_8800.2; omega)
    have ht58 := bsame.keep xah54 ht51 (by have := rk_8800.1; have := rk_8800.2; omega)
    have fk59 : fK1 4 S ws w53 := fk_fr fk52 hT55 rfl
    refine rn_stk [] rfl ?_
    refine rn_aload_n (i := 0) dX10_send_95 rfl rfl ?_
    refine rn_get q3 kg_SGModel_89 (hT55.fr hq3 rfl (hT48.fr hq3 rfl (hT41.fr hq3 rfl (hT35.fr hq3 rfl ((hn17 _ (ts_ne hq15 hq3 rfl)).trans hl11))))) hx14 dX10_send_96 ?_
    refine rn_iconst (v := (0 : Int32)) dX10_send_99 (by decide) ?_
    refine rn_sipush (v := (1500 : Int32)) dX10_send_100 (by decide) ?_
    refine rs_iast q15 hS55 hq15 (hT55.fr hq15 rfl (hT48.fr hq15 rfl (hT41.fr hq15 rfl (hT35.fr hq15 rfl hl17)))) hf17 hk_65 rfl rfl rk_0 (by decide) (by decide) (rg_w rk_1500 (by decide) (by decide)) dX10_send_103 (fun w60 f61 hS61 hl61 hf61 hu61 hn61 => ?_)
    have fk62 : fK1 4 S ws w60 := fk_ne fk59 hn61 hq15 rfl
    have ht63 := tw_eq (byt_ne hn61 (ts_ne hq15 hob1 rfl)) ht56
    have ht64 := tw_eq (byt_ne hn61 (ts_ne hq15 hob1 rfl)) ht57
    have ht65 := tw_eq (byt_ne hn61 (ts_ne hq15 hob1 rfl)) ht58
    refine rn_sipush (v := (11000 : Int32)) dX10_send_104 (by decide) ?_
    refine rn_istore dX10_send_107 (by decide) [(0, .ref o0_), (1, .int (6600 : Int32)), (2, .int x2_), (3, .int v7), (4, .int v24), (5, .int v32), (6, .int (11000 : Int32))] rfl ?_
    refine rn_aload_n (i := 0) dX10_send_109 rfl rfl ?_
    refine rn_iload_n (i := 1) dX10_send_110 rfl rfl ?_
    refine rn_iload dX10_send_111 rfl ?_
    refine rn_bipush (v := (20 : Int32)) dX10_send_113 (by decide) ?_
    refine rn_callV (a := 0) (b := 0) [.int (6600 : Int32), .int (11000 : Int32), .int (20 : Int32)] kl_SGModel_235 dX10_send_115 q3 ((hn61 _ (ts_ne hq15 hq3 rfl)).trans (hT55.fr hq3 rfl (hT48.fr hq3 rfl (hT41.fr hq3 rfl (hT35.fr hq3 rfl ((hn17 _ (ts_ne hq15 hq3 rfl)).trans hl11)))))) rfl (t_X10_move G S w60 hS61.1 o0_ m0_ (6600 : Int32) (11000 : Int32) (20 : Int32) ⟨by have := rk_20.1; have := rk_20.2; have := rk_11000.1; have := rk_11000.2; have := rk_6600.1; have := rk_6600.2; omega, by have := rk_20.1; have := rk_20.2; have := rk_11000.1; have := rk_11000.2; have := rk_6600.1; have := rk_6600.2; omega, by have := rk_20.1; have := rk_20.2; have := rk_11000.1; have := rk_11000.2; have := rk_6600.1; have := rk_6600.2; omega, by have := rk_20.1; have := rk_20.2; have := rk_11000.1; have := rk_11000.2; have := rk_6600.1; have := rk_6600.2; omega⟩) rfl rfl (Nat.le_of_ble_eq_true rfl) (Nat.le_of_ble_eq_true rfl) (Nat.le_of_ble_eq_true rfl) (Nat.le_of_ble_eq_true rfl) (Nat.le_of_ble_eq_true rfl) (Nat.le_of_ble_eq_true rfl) (fun _ _ h => False.elim h) (fun v9 w66 h67 => ?_)
    obtain ⟨hT68, rfl, xah67⟩ := h67
    have hS68 := St.tr hS61 hT68 rfl
    have ht69 := bsame.keep xah67.1 ht63 (by have := rk_20.1; have := rk_20.2; have := rk_11000.1; have := rk_11000.2; have := rk_6600.1; have := rk_6600.2; omega)
    have ht70 := bsame.keep xah67.1 ht64 (by have := rk_20.1; have := rk_20.2; have := rk_11000.1; have := rk_11000.2; have := rk_6600.1; have := rk_6600.2; omega)
    have ht71 := bsame.keep xah67.1 ht65 (by have := rk_20.1; have := rk_20.2; have := rk_11000.1; have := rk_11000.2; have := rk_6600.1; have := rk_6600.2; omega)
    have fk72 : fK1 4 S ws w66 := fk_fr fk62 hT68 rfl
    refine rn_stk [] rfl ?_
    refine rn_aload_n (i := 0) dX10_send_118 rfl rfl ?_
    refine rn_iload_n (i := 1) dX10_send_119 rfl rfl ?_
    refine rn_sipush (v := (1500 : Int32)) dX10_send_120 (by decide) ?_
    refine rn_iadd dX10_send_123 (rn_topi (8100 : Int32) (by decide) ?_)
    refine rn_iload dX10_send_124 rfl ?_
    refine rn_bipush (v := (20 : Int32)) dX10_send_126 (by decide) ?_
    refine rn_iadd dX10_send_128 (rn_topi (11020 : Int32) (by decide) ?_)
    refine rn_iload_n (i := 3) dX10_send_129 rfl rfl ?_
    refine rn_sipush (v := (1500 : Int32)) dX10_send_130 (by decide) ?_
    refine rs_subC (1) (547) r21 rk_1500 dX10_send_133 (by decide) (fun v75 ev75 rv75 => ?_)
    refine rn_callV (a := 0) (b := 0) [.int (8100 : Int32), .int (11020 : Int32), .int v75] kl_SGModel_235 dX10_send_134 q3 (hT68.fr hq3 rfl ((hn61 _ (ts_ne hq15 hq3 rfl)).trans (hT55.fr hq3 rfl (hT48.fr hq3 rfl (hT41.fr hq3 rfl (hT35.fr hq3 rfl ((hn17 _ (ts_ne hq15 hq3 rfl)).trans hl11))))))) rfl (t_X10_move G S w66 hS68.1 o0_ m0_ (8100 : Int32) (11020 : Int32) v75 ⟨by have := rv75.1; have := rv75.2; have := rk_1500.1; have := rk_1500.2; have := r21.1; have := r21.2; have := rk_11020.1; have := rk_11020.2; have := rk_8100.1; have := rk_8100.2; omega, by have := rv75.1; have := rv75.2; have := rk_1500.1; have := rk_1500.2; have := r21.1; have := r21.2; have := rk_11020.1; have := rk_11020.2; have := rk_8100.1; have := rk_8100.2; omega, by have := rv75.1; have := rv75.2; have := rk_1500.1; have := rk_1500.2; have := r21.1; have := r21.2; have := rk_11020.1; have := rk_11020.2; have := rk_8100.1; have := rk_8100.2; omega, by have := rv75.1; have := rv75.2; have := rk_1500.1; have := rk_1500.2; have := r21.1; have := r21.2; have := rk_11020.1; have := rk_11020.2; have := rk_8100.1; have := rk_8100.2; omega⟩) rfl rfl (Nat.le_of_ble_eq_true rfl) (Nat.le_of_ble_eq_true rfl) (Nat.le_of_ble_eq_true rfl) (Nat.le_of_ble_eq_true rfl) (Nat.le_of_ble_eq_true rfl) (Nat.le_of_ble_eq_true rfl) (fun _ _ h => False.elim h) (fun v9 w76 h77 => ?_)
    obtain ⟨hT78, rfl, xah77⟩ := h77
    have hS78 := St.tr hS68 hT78 rfl
    have ht79 := bsame.keep xah77.1 ht69 (by have := rv75.1; have := rv75.2; have := rk_1500.1; have := rk_1500.2; have := r21.1; have := r21.2; have := rk_11020.1; have := rk_11020.2; have := rk_8100.1; have := rk_8100.2; omega)
    have ht80 := bsame.keep xah77.1 ht70 (by have := rv75.1; have := rv75.2; have := rk_1500.1; have := rk_1500.2; have := r21.1; have := r21.2; have := rk_11020.1; have := rk_11020.2; have := rk_8100.1; have := rk_8100.2; omega)
    have ht81 := bsame.keep xah77.1 ht71 (by have := rv75.1; have := rv75.2; have := rk_1500.1; have := rk_1500.2; have := r21.1; have := r21.2; have := rk_11020.1; have := rk_11020.2; have := rk_8100.1; have := rk_8100.2; omega)
    have fk82 : fK1 4 S ws w76 := fk_fr fk72 hT78 rfl
    refine rn_stk [] rfl ?_
    refine rn_aload_n (i := 0) dX10_send_137 rfl rfl ?_
    refine rn_iload dX10_send_138 rfl ?_
    refine rn_iconst (v := (2 : Int32)) dX10_send_140 (by decide) ?_
    refine rn_iadd dX10_send_141 (rn_topi (11002 : Int32) (by decide) ?_)
    refine rn_iload_n (i := 3) dX10_send_142 rfl rfl ?_
    refine rn_sipush (v := (1480 : Int32)) dX10_send_143 (by decide) ?_
    refine rs_subC (21) (567) r21 rk_1480 dX10_send_146 (by decide) (fun v84 ev84 rv84 => ?_)
    refine rn_callV (a := 0) (b := 0) [.int (11002 : Int32), .int v84] kl_SGModel_144 dX10_send_147 q3 (hT78.fr hq3 rfl (hT68.fr hq3 rfl ((hn61 _ (ts_ne hq15 hq3 rfl)).trans (hT55.fr hq3 rfl (hT48.fr hq3 rfl (hT41.fr hq3 rfl (hT35.fr hq3 rfl ((hn17 _ (ts_ne hq15 hq3 rfl)).trans hl11)))))))) rfl (t_X10_putTwo G S w76 hS78.1 o0_ m0_ (11002 : Int32) (rg_w rk_11002 (by decide) (by decide)) v84) rfl rfl (Nat.le_of_ble_eq_true rfl) (Nat.le_of_ble_eq_true rfl) (Nat.le_of_ble_eq_true rfl) (Nat.le_of_ble_eq_true rfl) (Nat.le_of_ble_eq_true rfl) (Nat.le_of_ble_eq_true rfl) (fun _ _ h => False.elim h) (fun v9 w85 h86 => ?_)
    obtain ⟨hT87, rfl, xah86⟩ := h86
    have hS87 := St.tr hS78 hT87 rfl
    have ht88 := bsame.keep xah86.1 ht79 (by have := rv84.1; have := rv84.2; have := rk_1480.1; have := rk_1480.2; have := r21.1; have := r21.2; have := rk_11002.1; have := rk_11002.2; omega)
    have ht89 := bsame.keep xah86.1 ht80 (by have := rv84.1; have := rv84.2; have := rk_1480.1; have := rk_1480.2; have := r21.1; have := r21.2; have := rk_11002.1; have := rk_11002.2; omega)
    have ht90 := bsame.keep xah86.1 ht81 (by have := rv84.1; have := rv84.2; have := rk_1480.1; have := rk_1480.2; have := r21.1; have := r21.2; have := rk_11002.1; have := rk_11002.2; omega)
    have fk91 : fK1 4 S ws w85 := fk_fr fk82 hT87 rfl
    have ht92 : tw (byt w85) 11002 = v84.toInt := xah86.2 11002 (by decide) (by have := rv84.1; omega) (by have := rv84.2; omega)
    refine rn_stk [] rfl ?_
    refine rn_aload_n (i := 0) dX10_send_150 rfl rfl ?_
    refine rn_iload dX10_send_151 rfl ?_
    refine rn_iload dX10_send_153 rfl ?_
    refine rn_iload dX10_send_155 rfl ?_
    refine rn_sipush (v := (185 : Int32)) dX10_send_157 (by decide) ?_
    refine rs_addC (185) (8376) rv32 rk_185 dX10_send_160 (by decide) (fun v93 ev93 rv93 => ?_)
    refine rn_callV (a := 0) (b := 0) [.int (11000 : Int32), .int v24, .int v93] kl_SGModel_239 dX10_send_161 q3 (hT87.fr hq3 rfl (hT78.fr hq3 rfl (hT68.fr hq3 rfl ((hn61 _ (ts_ne hq15 hq3 rfl)).trans (hT55.fr hq3 rfl (hT48.fr hq3 rfl (hT41.fr hq3 rfl (hT35.fr hq3 rfl ((hn17 _ (ts_ne hq15 hq3 rfl)).trans hl11))))))))) rfl (t_X10_setOffset G S w85 hS87.1 o0_ m0_ (11000 : Int32) (rg_w rk_11000 (by decide) (by decide)) v24 rv24 v93) rfl rfl (Nat.le_of_ble_eq_true rfl) (Nat.le_of_ble_eq_true rfl) (Nat.le_of_ble_eq_true rfl) (Nat.le_of_ble_eq_true rfl) (Nat.le_of_ble_eq_true rfl) (Nat.le_of_ble_eq_true rfl) (fun _ _ h => False.elim h) (fun v9 w94 h95 => ?_)
    obtain ⟨hT96, rfl, xah95⟩ := h95
    have hS96 := St.tr hS87 hT96 rfl
    have ht97 := bsame.keep xah95 ht88 (by have := rv93.1; have := rv93.2; have := rk_185.1; have := rk_185.2; have := rv32.1; have := rv32.2; have := rk_8191.1; have := rk_8191.2; have := rv29.1; have := rv29.2; have := rv24.1; have := rv24.2; have := rk_11000.1; have := rk_11000.2; omega)
    have ht98 := bsame.keep xah95 ht89 (by have := rv93.1; have := rv93.2; have := rk_185.1; have := rk_185.2; have := rv32.1; have := rv32.2; have := rk_8191.1; have := rk_8191.2; have := rv29.1; have := rv29.2; have := rv24.1; have := rv24.2; have := rk_11000.1; have := rk_11000.2; omega)
    have ht99 := bsame.keep xah95 ht90 (by have := rv93.1; have := rv93.2; have := rk_185.1; have := rk_185.2; have := rv32.1; have := rv32.2; have := rk_8191.1; have := rk_8191.2; have := rv29.1; have := rv29.2; have := rv24.1; have := rv24.2; have := rk_11000.1; have := rk_11000.2; omega)
    have ht100 := bsame.keep xah95 ht92 (by have := rv93.1; have := rv93.2; have := rk_185.1; have := rk_185.2; have := rv32.1; have := rv32.2; have := rk_8191.1; have := rk_8191.2; have := rv29.1; have := rv29.2; have := rv24.1; have := rv24.2; have := rk_11000.1; have := rk_11000.2; omega)
    have fk101 : fK1 4 S ws w94 := fk_fr fk91 hT96 rfl
    refine rn_stk [] rfl ?_
    refine rn_aload_n (i := 0) dX10_send_164 rfl rfl ?_
    refine rn_iload dX10_send_165 rfl ?_
    refine rn_callV (a := 0) (b := 0) [.int (11000 : Int32)] kl_SGModel_184 dX10_send_167 q3 (hT96.fr hq3 rfl (hT87.fr hq3 rfl (hT78.fr hq3 rfl (hT68.fr hq3 rfl ((hn61 _ (ts_ne hq15 hq3 rfl)).trans (hT55.fr hq3 rfl (hT48.fr hq3 rfl (hT41.fr hq3 rfl (hT35.fr hq3 rfl ((hn17 _ (ts_ne hq15 hq3 rfl)).trans hl11)))))))))) rfl (t_X10_setSum G S w94 hS96.1 o0_ m0_ (11000 : Int32) (rg_w rk_11000 (by decide) (by decide))) rfl rfl (Nat.le_of_ble_eq_true rfl) (Nat.le_of_ble_eq_true rfl) (Nat.le_of_ble_eq_true rfl) (Nat.le_of_ble_eq_true rfl) (Nat.le_of_ble_eq_true rfl) (Nat.le_of_ble_eq_true rfl) (fun _ _ h => False.elim h) (fun v9 w102 h103 => ?_)
    obtain ⟨hT104, rfl, xah103⟩ := h103
    have hS104 := St.tr hS96 hT104 rfl
    have ht105 := bsame.keep xah103 ht97 (by have := rk_11000.1; have := rk_11000.2; omega)
    have ht106 := bsame.keep xah103 ht98 (by have := rk_11000.1; have := rk_11000.2; omega)
    have ht107 := bsame.keep xah103 ht99 (by have := rk_11000.1; have := rk_11000.2; omega)
    have ht108 := bsame.keep xah103 ht100 (by have := rk_11000.1; have := rk_11000.2; omega)
    have fk109 : fK1 4 S ws w102 := fk_fr fk101 hT104 rfl
    refine rn_stk [] rfl ?_
    refine rn_aload_n (i := 0) dX10_send_170 rfl rfl ?_
    refine rn_get q3 kg_SGModel_89 (hT104.fr hq3 rfl (hT96.fr hq3 rfl (hT87.fr hq3 rfl (hT78.fr hq3 rfl (hT68.fr hq3 rfl ((hn61 _ (ts_ne hq15 hq3 rfl)).trans (hT55.fr hq3 rfl (hT48.fr hq3 rfl (hT41.fr hq3 rfl (hT35.fr hq3 rfl ((hn17 _ (ts_ne hq15 hq3 rfl)).trans hl11))))))))))) hx14 dX10_send_171 ?_
    refine rn_iconst (v := (1 : Int32)) dX10_send_174 (by decide) ?_
    refine rn_iload_n (i := 3) dX10_send_175 rfl rfl ?_
    refine rn_sipush (v := (1480 : Int32)) dX10_send_176 (by decide) ?_
    refine rs_subC (21) (567) r21 rk_1480 dX10_send_179 (by decide) (fun v110 ev110 rv110 => ?_)
    refine rs_iast q15 hS104 hq15 (hT104.fr hq15 rfl (hT96.fr hq15 rfl (hT87.fr hq15 rfl (hT78.fr hq15 rfl (hT68.fr hq15 rfl hl61))))) hf61 hk_65 rfl rfl rk_1 (by decide) (by decide) (rg_w rv110 (by decide) (by decide)) dX10_send_180 (fun w111 f112 hS112 hl112 hf112 hu112 hn112 => ?_)
    have fk113 : fK1 4 S ws w111 := fk_ne fk109 hn112 hq15 rfl
    have ht114 := tw_eq (byt_ne hn112 (ts_ne hq15 hob1 rfl)) ht105
    have ht115 := tw_eq (byt_ne hn112 (ts_ne hq15 hob1 rfl)) ht106
    have ht116 := tw_eq (byt_ne hn112 (ts_ne hq15 hob1 rfl)) ht107
    have ht117 := tw_eq (byt_ne hn112 (ts_ne hq15 hob1 rfl)) ht108
    refine rn_iconst (v := (0 : Int32)) dX10_send_181 (by decide) ?_
    exact rn_iret dX10_send_182 rfl rfl (rq_in ⟨hS112, (0 : Int32), rfl, rk_0, fk113⟩)
  · have ch20 := cv_nlt h20
    have r118 : Rg (0) (1500) v7 := rf_lex ch20 r9 rk_1500 (by decide)
    refine rn_aload_n (i := 0) dX10_send_25 rfl rfl ?_
    refine rn_iload_n (i := 1) dX10_send_26 rfl rfl ?_
    refine rn_sipush (v := (8800 : Int32)) dX10_send_27 (by decide) ?_
    refine rn_iload_n (i := 3) dX10_send_30 rfl rfl ?_
    refine rn_callV (a := 0) (b := 0) [.int (6600 : Int32), .int (8800 : Int32), .int v7] kl_SGModel_235 dX10_send_31 q3 ((hn17 _ (ts_ne hq15 hq3 rfl)).trans hl11) rfl (t_X10_move G S w16 hS17.1 o0_ m0_ (6600 : Int32) (8800 : Int32) v7 ⟨by have := r118.1; have := r118.2; have := rk_8800.1; have := rk_8800.2; have := rk_6600.1; have := rk_6600.2; omega, by have := r118.1; have := r118.2; have := rk_8800.1; have := rk_8800.2; have := rk_6600.1; have := rk_6600.2; omega, by have := r118.1; have := r118.2; have := rk_8800.1; have := rk_8800.2; have := rk_6600.1; have := rk_6600.2; omega, by have := r118.1; have := r118.2; have := rk_8800.1; have := rk_8800.2; have := rk_6600.1; have := rk_6600.2; omega⟩) rfl rfl (Nat.le_of_ble_eq_true rfl) (Nat.le_of_ble_eq_true rfl) (Nat.le_of_ble_eq_true rfl) (Nat.le_of_ble_eq_true rfl) (Nat.le_of_ble_eq_true rfl) (Nat.le_of_ble_eq_true rfl) (fun _ _ h => False.elim h) (fun v9 w119 h120 => ?_)
    obtain ⟨hT121, rfl, xah120⟩ := h120
    have hS121 := St.tr hS17 hT121 rfl
    have ht122 := bsame.keep xah120.1 ht19 (by have := r118.1; have := r118.2; have := rk_8800.1; have := rk_8800.2; have := rk_6600.1; have := rk_6600.2; omega)
    have fk123 : fK1 4 S ws w119 := fk_fr fk18 hT121 rfl
    refine rn_stk [] rfl ?_
    refine rn_aload_n (i := 0) dX10_send_34 rfl rfl ?_
    refine rn_get q3 kg_SGModel_89 (hT121.fr hq3 rfl ((hn17 _ (ts_ne hq15 hq3 rfl)).trans hl11)) hx14 dX10_send_35 ?_
    refine rn_iconst (v := (0 : Int32)) dX10_send_38 (by decide) ?_
    refine rn_iload_n (i := 3) dX10_send_39 rfl rfl ?_
    refine rs_iast q15 hS121 hq15 (hT121.fr hq15 rfl hl17) hf17 hk_65 rfl rfl rk_0 (by decide) (by decide) r118 dX10_send_40 (fun w124 f125 hS125 hl125 hf125 hu125 hn125 => ?_)
    have fk126 : fK1 4 S ws w124 := fk_ne fk123 hn125 hq15 rfl
    have ht127 := tw_eq (byt_ne hn125 (ts_ne hq15 hob1 rfl)) ht122
    refine rn_iconst (v := (0 : Int32)) dX10_send_41 (by decide) ?_
    exact rn_iret dX10_send_42 rfl rfl (rq_in ⟨hS125, (0 : Int32), rfl, rk_0, fk126⟩)
abbrev q_t_X10_goIn_6600 (G : rn_G) (S : ts_S) (ws : va_W) : rn_R → va_W → Prop := rQ (fun v w => St G S [30, 33, 65] ws S w ∧ (∃ x : Int32, v = some (.int x) ∧ Rg (0) (6) x ∧ fK1 4 S ws w)) (fun E w => False)
set_option maxRecDepth 20000 in
set_option maxHeartbeats 4000000 in
theorem t_X10_goIn_6600 (G : rn_G) (S : ts_S) (ws : va_W) (hW : ts_W G S ws) (o0_ : Nat) (m0_ : (o0_, 30) ∈ S) (hw6602_ : 0 ≤ tw (byt ws) 6602 ∧ tw (byt ws) 6602 ≤ 2047) : Rn G mX10_goIn 4 92 0 0 0 (lv_args 0 [.ref o0_, .int (6600 : Int32)]) [] ws (q_t_X10_goIn_6600 G S ws ) := by
  have hS0 : St G S [30, 33, 65] ws S ws := St.rf hW
  have fk0 : fK1 4 S ws ws := fun v h => h
  obtain ⟨ob1, hob1⟩ := hS0.1.2.1.2
  obtain ⟨T2, ht2⟩ : ∃ t : Int, tw (byt ws) 6602 = t := ⟨_, rfl⟩
  rw [ht2] at hw6602_
  refine rn_lv [(0, .ref o0_), (1, .int (6600 : Int32))] rfl ?_
  refine rn_aload_n (i := 0) dX10_goIn_0 rfl rfl ?_
  obtain ⟨q3, fs3, hq3, hl3, hf3⟩ := ts_obj hS0.1 m0_ hk_30
  obtain ⟨o4, hx4, m4⟩ := fs_r hf3 2 rfl
  refine rn_get q3 kg_SGModel_7 hl3 hx4 dX10_goIn_1 ?_
  refine rn_iload_n (i := 1) dX10_goIn_4 rfl rfl ?_
  refine rn_bipush (v := (8 : Int32)) dX10_goIn_5 (by decide) ?_
  refine rn_iadd dX10_goIn_7 (rn_topi (6608 : Int32) (by decide) ?_)
  obtain ⟨q6, f6, hq6, hl6, hf6⟩ := ts_ia hS0.1 m4 hk_33
  refine rs_iald q6 hl6 hf6 rfl rk_6608 (by decide) (by decide) dX10_goIn_8 (fun v7 ev7 rv7 => ?_)
  have hbv7 : byt ws 6608 = v7 := by rw [byt_of hS0.1 hq6 hl6, ev7]; exact congrArg _ (by decide)
  refine rn_iconst (v := (2 : Int32)) dX10_goIn_9 (by decide) ?_
  refine rn_icmp_ge (tgt := 15) dX10_goIn_10 (by decide) (fun h8 => ?_) (fun h8 => ?_)
  · have ch8 := cv_le h8
    have r9 : Rg (2) (255) v7 := rf_ley ch8 rk_2 rv7 (by decide)
    refine rn_aload_n (i := 0) dX10_goIn_15 rfl rfl ?_
    refine rn_aload_n (i := 0) dX10_goIn_16 rfl rfl ?_
    refine rn_iload_n (i := 1) dX10_goIn_17 rfl rfl ?_
    refine rn_bipush (v := (16 : Int32)) dX10_goIn_18 (by decide) ?_
    refine rn_iadd dX10_goIn_20 (rn_topi (6616 : Int32) (by decide) ?_)
    refine rn_callV (a := 0) (b := 0) [.int (6616 : Int32)] kl_SGModel_218 dX10_goIn_21 q3 hl3 rfl (t_X10_four G S ws hS0.1 o0_ m0_ (6616 : Int32) (rg_w rk_6616 (by decide) (by decide))) rfl rfl (Nat.le_of_ble_eq_true rfl) (Nat.le_of_ble_eq_true rfl) (Nat.le_of_ble_eq_true rfl) (Nat.le_of_ble_eq_true rfl) (Nat.le_of_ble_eq_true rfl) (Nat.le_of_ble_eq_true rfl) (fun _ _ h => False.elim h) (fun v9 w11 h12 => ?_)
    obtain ⟨rfl, v13, rfl, rv13⟩ := h12
    refine rn_stk [.int v13, .ref o0_] rfl ?_
    refine rn_callV (a := 0) (b := 0) [.int v13] kl_SGModel_232 dX10_goIn_24 q3 hl3 rfl (t_X10_routeOf G S ws hS0.1 o0_ m0_ v13) rfl rfl (Nat.le_of_ble_eq_true rfl) (Nat.le_of_ble_eq_true rfl) (Nat.le_of_ble_eq_true rfl) (Nat.le_of_ble_eq_true rfl) (Nat.le_of_ble_eq_true rfl) (Nat.le_of_ble_eq_true rfl) (fun _ _ h => False.elim h) (fun v9 w15 h16 => ?_)
    obtain ⟨rfl, v17, rfl, rv17, xah16⟩ := h16
    refine rn_stk [.int v17] rfl ?_
    refine rn_if_eq (tgt := 32) dX10_goIn_27 (by decide) (fun h19 => ?_) (fun h19 => ?_)
    · have ch19 := cv_eq h19
      have r20 : Rg (0) (0) v17 := rf_eqx ch19 rv17 rk_0 (by decide) (by decide)
      refine rn_aload_n (i := 0) dX10_goIn_32 rfl rfl ?_
      refine rn_aload_n (i := 0) dX10_goIn_33 rfl rfl ?_
      refine rn_iload_n (i := 1) dX10_goIn_34 rfl rfl ?_
      refine rn_inV (d' := 1) (z' := 21) [.int (6600 : Int32)] kl_SGModel_165 dX10_goIn_35 q3 hl3 rfl rfl rfl (Nat.le_of_ble_eq_true rfl) (Nat.le_of_ble_eq_true rfl) (Nat.le_of_ble_eq_true rfl) (Nat.le_of_ble_eq_true rfl) ?_
      refine rn_lv [(0, .ref o0_), (1, .int (6600 : Int32))] rfl ?_
      refine rn_aload_n (i := 0) dX10_lengthOf_0 rfl rfl ?_
      refine rn_iload_n (i := 1) dX10_lengthOf_1 rfl rfl ?_
      refine rn_iconst (v := (2 : Int32)) dX10_lengthOf_2 (by decide) ?_
      refine rn_iadd dX10_lengthOf_3 (rn_topi (6602 : Int32) (by decide) ?_)
      refine rn_callV (a := 0) (b := 0) [.int (6602 : Int32)] kl_SGModel_140 dX10_lengthOf_4 q3 hl3 rfl (t_X10_two G S ws hS0.1 o0_ m0_ (6602 : Int32) (rg_w rk_6602 (by decide) (by decide))) rfl rfl (Nat.le_of_ble_eq_true rfl) (Nat.le_of_ble_eq_true rfl) (Nat.le_of_ble_eq_true rfl) (Nat.le_of_ble_eq_true rfl) (Nat.le_of_ble_eq_true rfl) (Nat.le_of_ble_eq_true rfl) (fun _ _ h => False.elim h) (fun v9 w22 h23 => ?_)
      obtain ⟨rfl, v24, rfl, rv24, xah23⟩ := h23
      have ev24 : v24.toInt = T2 := (xah23 6602 (by decide)).trans ht2
      have r26 : Rg (0) (2047) v24 := ⟨by have := rv24.1; have := rv24.2; omega, by have := rv24.1; have := rv24.2; omega⟩
      refine rn_stk [.int v24] rfl ?_
      refine rn_iret dX10_lengthOf_7 rfl rfl (rq_in ?_)
      refine rn_stk [.int v24, .ref o0_] rfl ?_
      refine rn_aload_n (i := 0) dX10_goIn_38 rfl rfl ?_
      refine rn_iload_n (i := 1) dX10_goIn_39 rfl rfl ?_
      refine rn_callV (a := 0) (b := 0) [.int (6600 : Int32)] kl_SGModel_270 dX10_goIn_40 q3 hl3 rfl (t_X10_hasDont G S ws hS0.1 o0_ m0_ (6600 : Int32) (rg_w rk_6600 (by decide) (by decide))) rfl rfl (Nat.le_of_ble_eq_true rfl) (Nat.le_of_ble_eq_true rfl) (Nat.le_of_ble_eq_true rfl) (Nat.le_of_ble_eq_true rfl) (Nat.le_of_ble_eq_true rfl) (Nat.le_of_ble_eq_true rfl) (fun _ _ h => False.elim h) (fun v9 w27 h28 => ?_)
      obtain ⟨rfl, v29, rfl, rv29⟩ := h28
      refine rn_stk [.int v29, .int v24, .ref o0_] rfl ?_
      refine rn_callV (a := 0) (b := 0) [.int v24, .int v29] kl_SGModel_275 dX10_goIn_43 q3 hl3 rfl (t_X10_isTooMuch G S ws hS0.1 o0_ m0_ v24 v29 rv29) rfl rfl (Nat.le_of_ble_eq_true rfl) (Nat.le_of_ble_eq_true rfl) (Nat.le_of_ble_eq_true rfl) (Nat.le_of_ble_eq_true rfl) (Nat.le_of_ble_eq_true rfl) (Nat.le_of_ble_eq_true rfl) (fun _ _ h => False.elim h) (fun v9 w31 h32 => ?_)
      obtain ⟨rfl, v33, rfl, rv33⟩ := h32
      refine rn_stk [.int v33] rfl ?_
      refine rn_if_eq (tgt := 52) dX10_goIn_46 (by decide) (fun h35 => ?_) (fun h35 => ?_)
      · have ch35 := cv_eq h35
        have r36 : Rg (0) (0) v33 := rf_eqx ch35 rv33 rk_0 (by decide) (by decide)
        refine rn_aload_n (i := 0) dX10_goIn_52 rfl rfl ?_
        refine rn_iload_n (i := 1) dX10_goIn_53 rfl rfl ?_
        refine rn_callV (a := 0) (b := 0) [.int (6600 : Int32)] kl_SGModel_279 dX10_goIn_54 q3 hl3 rfl (t_X10_hop_6600 G S ws hS0.1 o0_ m0_ (by rw [hbv7]; have := r9.1; have := r9.2; omega)) rfl rfl (Nat.le_of_ble_eq_true rfl) (Nat.le_of_ble_eq_true rfl) (Nat.le_of_ble_eq_true rfl) (Nat.le_of_ble_eq_true rfl) (Nat.le_of_ble_eq_true rfl) (Nat.le_of_ble_eq_true rfl) (fun _ _ h => False.elim h) (fun v9 w37 h38 => ?_)
        obtain ⟨hT39, rfl, xah38⟩ := h38
        have hS39 := St.tr hS0 hT39 rfl
        have ht40 := bsame.keep xah38 ht2 (by have := rk_6600.1; have := rk_6600.2; omega)
        have fk41 : fK1 4 S ws w37 := fk_fr fk0 hT39 rfl
        refine rn_stk [] rfl ?_
        refine rn_aload_n (i := 0) dX10_goIn_57 rfl rfl ?_
        refine rn_iload_n (i := 1) dX10_goIn_58 rfl rfl ?_
        refine rn_iconst (v := (0 : Int32)) dX10_goIn_59 (by decide) ?_
        refine rn_callV (a := 0) (b := 0) [.int (6600 : Int32), .int (0 : Int32)] kl_SGModel_282 dX10_goIn_60 q3 (hT39.fr hq3 rfl hl3) rfl (t_X10_send_6600 G S w37 hS39.1 o0_ m0_ (0 : Int32) (by rw [ht40]; exact ⟨by omega, by omega⟩)) rfl rfl (Nat.le_of_ble_eq_true rfl) (Nat.le_of_ble_eq_true rfl) (Nat.le_of_ble_eq_true rfl) (Nat.le_of_ble_eq_true rfl) (Nat.le_of_ble_eq_true rfl) (Nat.le_of_ble_eq_true rfl) (fun _ _ h => False.elim h) (fun v9 w42 h43 => ?_)
        obtain ⟨hT45, v44, rfl, rv44, fkh43⟩ := h43
        have hS45 := St.tr hS39 hT45 rfl
        have fk46 : fK1 4 S ws w42 := fk_tr fk41 fkh43
        refine rn_stk [.int v44] rfl ?_
        exact rn_iret dX10_goIn_63 rfl rfl (rq_in ⟨hS45, v44, rfl, (rg_w rv44 (by decide) (by decide)), fk46⟩)
      · have ch35 := cv_ne h35
        have r47 : Rg (1) (1) v33 := rf_nel ch35 rv33 rk_0 (by decide) (by decide)
        refine rn_bipush (v := (6 : Int32)) dX10_goIn_49 (by decide) ?_
        exact rn_iret dX10_goIn_51 rfl rfl (rq_in ⟨hS0, (6 : Int32), rfl, (rg_w rk_6 (by decide) (by decide)), fk0⟩)
    · have ch19 := cv_ne h19
      refine rn_iconst (v := (3 : Int32)) dX10_goIn_30 (by decide) ?_
      exact rn_iret dX10_goIn_31 rfl rfl (rq_in ⟨hS0, (3 : Int32), rfl, (rg_w rk_3 (by decide) (by decide)), fk0⟩)
  · have ch8 := cv_nle h8
    have r48 : Rg (0) (1) v7 := rf_ltx ch8 rv7 rk_2 (by decide)
    refine rn_iconst (v := (2 : Int32)) dX10_goIn_13 (by decide) ?_
    exact rn_iret dX10_goIn_14 rfl rfl (rq_in ⟨hS0, (2 : Int32), rfl, (rg_w rk_2 (by decide) (by decide)), fk0⟩)
abbrev q_t_X10_open_2200 (G : rn_G) (S : ts_S) (ws : va_W) : rn_R → va_W → Prop := rQ (fun v w => St G S [30, 33, 60, 62, 63, 65, 77, 78, 79, 80, 81] ws S w ∧ (∃ x : Int32, v = some (.int x) ∧ Rg (0) (17) x ∧ fK1 4 S ws w)) (fun E w => False)
set_option maxRecDepth 20000 in
set_option maxHeartbeats 4000000 in
theorem t_X10_open_2200 (G : rn_G) (S : ts_S) (ws : va_W) (hW : ts_W G S ws) (o0_ : Nat) (m0_ : (o0_, 30) ∈ S) (hw2202_ : 19 ≤ tw (byt ws) 2202 ∧ tw (byt ws) 2202 ≤ 2047) : Rn G mX10_open 6 134 0 0 0 (lv_args 0 [.ref o0_, .int (2200 : Int32)]) [] ws (q_t_X10_open_2200 G S ws ) := by
  have hS0 : St G S [30, 33, 60, 62, 63, 65, 77, 78, 79, 80, 81] ws S ws := St.rf hW
  have fk0 : fK1 4 S ws ws := fun v h => h
  obtain ⟨ob1, hob1⟩ := hS0.1.2.1.2
  obtain ⟨T2, ht2⟩ : ∃ t : Int, tw (byt ws) 2202 = t := ⟨_, rfl⟩
  rw [ht2] at hw2202_
  refine rn_lv [(0, .ref o0_), (1, .int (2200 : Int32))] rfl ?_
  refine rn_aload_n (i := 0) dX10_open_0 rfl rfl ?_
  refine rn_iload_n (i := 1) dX10_open_1 rfl rfl ?_
  obtain ⟨q3, fs3, hq3, hl3, hf3⟩ := ts_obj hS0.1 m0_ hk_30
  refine rn_inV (d' := 1) (z' := 21) [.int (2200 : Int32)] kl_SGModel_165 dX10_open_2 q3 hl3 rfl rfl rfl (Nat.le_of_ble_eq_true rfl) (Nat.le_of_ble_eq_true rfl) (Nat.le_of_ble_eq_true rfl) (Nat.le_of_ble_eq_true rfl) ?_
  refine rn_lv [(0, .ref o0_), (1, .int (2200 : Int32))] rfl ?_
  refine rn_aload_n (i := 0) dX10_lengthOf_0 rfl rfl ?_
  refine rn_iload_n (i := 1) dX10_lengthOf_1 rfl rfl ?_
  refine rn_iconst (v := (2 : Int32)) dX10_lengthOf_2 (by decide) ?_
  refine rn_iadd dX10_lengthOf_3 (rn_topi (2202 : Int32) (by decide) ?_)
  refine rn_callV (a := 0) (b := 0) [.int (2202 : Int32)] kl_SGModel_140 dX10_lengthOf_4 q3 hl3 rfl (t_X10_two G S ws hS0.1 o0_ m0_ (2202 : Int32) (rg_w rk_2202 (by decide) (by decide))) rfl rfl (Nat.le_of_ble_eq_true rfl) (Nat.le_of_ble_eq_true rfl) (Nat.le_of_ble_eq_true rfl) (Nat.le_of_ble_eq_true rfl) (Nat.le_of_ble_eq_true rfl) (Nat.le_of_ble_eq_true rfl) (fun _ _ h => False.elim h) (fun v9 w5 h6 => ?_)
  obtain ⟨rfl, v7, rfl, rv7, xah6⟩ := h6
  have ev7 : v7.toInt = T2 := (xah6 2202 (by decide)).trans ht2
  have r9 : Rg (19) (2047) v7 := ⟨by have := rv7.1; have := rv7.2; omega, by have := rv7.1; have := rv7.2; omega⟩
  refine rn_stk [.int v7] rfl ?_
  refine rn_iret dX10_lengthOf_7 rfl rfl (rq_in ?_)
  refine rn_stk [.int v7] rfl ?_
  refine rn_bipush (v := (20 : Int32)) dX10_open_5 (by decide) ?_
  refine rs_subC (-1) (2027) r9 rk_20 dX10_open_7 (by decide) (fun v10 ev10 rv10 => ?_)
  refine rn_istore_n dX10_open_8 rfl (by decide) [(0, .ref o0_), (1, .int (2200 : Int32)), (2, .int v10)] rfl ?_
  refine rn_iload_n (i := 2) dX10_open_9 rfl rfl ?_
  refine rn_bipush (v := (20 : Int32)) dX10_open_10 (by decide) ?_
  refine rn_icmp_lt (tgt := 21) dX10_open_12 (by decide) (fun h11 => ?_) (fun h11 => ?_)
  · have ch11 := cv_lt h11
    have r12 : Rg (-1) (19) v10 := rf_ltx ch11 rv10 rk_20 (by decide)
    refine rn_bipush (v := (8 : Int32)) dX10_open_21 (by decide) ?_
    exact rn_iret dX10_open_23 rfl rfl (rq_in ⟨hS0, (8 : Int32), rfl, (rg_w rk_8 (by decide) (by decide)), fk0⟩)
  · have ch11 := cv_nlt h11
    have r13 : Rg (20) (2027) v10 := rf_ley ch11 rk_20 rv10 (by decide)
    refine rn_iload_n (i := 2) dX10_open_15 rfl rfl ?_
    refine rn_iconst (v := (4 : Int32)) dX10_open_16 (by decide) ?_
    refine rs_remC (3) r13 rk_4 dX10_open_17 (by decide) (fun v14 ev14 rv14 => ?_)
    refine rn_if_eq (tgt := 24) dX10_open_18 (by decide) (fun h15 => ?_) (fun h15 => ?_)
    · have ch15 := cv_eq h15
      have r16 : Rg (0) (0) v14 := rf_eqx ch15 rv14 rk_0 (by decide) (by decide)
      refine rn_aload_n (i := 0) dX10_open_24 rfl rfl ?_
      refine rn_aload_n (i := 0) dX10_open_25 rfl rfl ?_
      refine rn_iload_n (i := 1) dX10_open_26 rfl rfl ?_
      refine rn_bipush (v := (20 : Int32)) dX10_open_27 (by decide) ?_
      refine rn_iadd dX10_open_29 (rn_topi (2220 : Int32) (by decide) ?_)
      refine rn_callV (a := 0) (b := 0) [.int (2220 : Int32)] kl_SGModel_218 dX10_open_30 q3 hl3 rfl (t_X10_four G S ws hS0.1 o0_ m0_ (2220 : Int32) (rg_w rk_2220 (by decide) (by decide))) rfl rfl (Nat.le_of_ble_eq_true rfl) (Nat.le_of_ble_eq_true rfl) (Nat.le_of_ble_eq_true rfl) (Nat.le_of_ble_eq_true rfl) (Nat.le_of_ble_eq_true rfl) (Nat.le_of_ble_eq_true rfl) (fun _ _ h => False.elim h) (fun v9 w18 h19 => ?_)
      obtain ⟨rfl, v20, rfl, rv20⟩ := h19
      refine rn_stk [.int v20, .ref o0_] rfl ?_
      refine rs_put q3 (kp_SGModel_317 _) hS0 hq3 hl3 hf3 hk_30 rfl rfl (tv_i rv20) rfl rfl dX10_open_33 (fun w22 fs23 hS23 hl23 hf23 hx23 ho23 hn23 => ?_)
      have fk24 : fK1 4 S ws w22 := fk_put fk0 hS0.1 hq3 hl3 hl23 ho23 (by decide)
      have ht25 := tw_eq (byt_ne hn23 (ts_ne hq3 hob1 rfl)) ht2
      refine rn_aload_n (i := 0) dX10_open_36 rfl rfl ?_
      refine rn_aload_n (i := 0) dX10_open_37 rfl rfl ?_
      refine rn_iload_n (i := 1) dX10_open_38 rfl rfl ?_
      refine rn_bipush (v := (24 : Int32)) dX10_open_39 (by decide) ?_
      refine rn_iadd dX10_open_41 (rn_topi (2224 : Int32) (by decide) ?_)
      refine rn_callV (a := 0) (b := 0) [.int (2224 : Int32)] kl_SGModel_218 dX10_open_42 q3 hl23 rfl (t_X10_four G S w22 hS23.1 o0_ m0_ (2224 : Int32) (rg_w rk_2224 (by decide) (by decide))) rfl rfl (Nat.le_of_ble_eq_true rfl) (Nat.le_of_ble_eq_true rfl) (Nat.le_of_ble_eq_true rfl) (Nat.le_of_ble_eq_true rfl) (Nat.le_of_ble_eq_true rfl) (Nat.le_of_ble_eq_true rfl) (fun _ _ h => False.elim h) (fun v9 w27 h28 => ?_)
      obtain ⟨rfl, v29, rfl, rv29⟩ := h28
      refine rn_stk [.int v29, .ref o0_] rfl ?_
      refine rs_put q3 (kp_SGModel_320 _) hS23 hq3 hl23 hf23 hk_30 rfl rfl (tv_i rv29) rfl rfl dX10_open_45 (fun w31 fs32 hS32 hl32 hf32 hx32 ho32 hn32 => ?_)
      have fk33 : fK1 4 S ws w31 := fk_put fk24 hS23.1 hq3 hl23 hl32 ho32 (by decide)
      have ht34 := tw_eq (byt_ne hn32 (ts_ne hq3 hob1 rfl)) ht25
      refine rn_aload_n (i := 0) dX10_open_48 rfl rfl ?_
      refine rn_aload_n (i := 0) dX10_open_49 rfl rfl ?_
      refine rn_get q3 kg_SGModel_317 hl32 ((ho32 52 (by decide)).trans hx23) dX10_open_50 ?_
      refine rn_callV (a := 0) (b := 0) [.int v20] kl_SGModel_204 dX10_open_53 q3 hl32 rfl (t_X10_sealNamed G S w31 hS32.1 o0_ m0_ v20) rfl rfl (Nat.le_of_ble_eq_true rfl) (Nat.le_of_ble_eq_true rfl) (Nat.le_of_ble_eq_true rfl) (Nat.le_of_ble_eq_true rfl) (Nat.le_of_ble_eq_true rfl) (Nat.le_of_ble_eq_true rfl) (fun _ _ h => False.elim h) (fun v9 w35 h36 => ?_)
      obtain ⟨rfl, v37, rfl, rv37⟩ := h36
      refine rn_stk [.int v37] rfl ?_
      refine rn_istore_n dX10_open_56 rfl (by decide) [(0, .ref o0_), (1, .int (2200 : Int32)), (2, .int v10), (3, .int v37)] rfl ?_
      refine rn_iload_n (i := 3) dX10_open_57 rfl rfl ?_
      refine rn_if_lt (tgt := 91) dX10_open_58 (by decide) (fun h39 => ?_) (fun h39 => ?_)
      · have ch39 := cv_lt h39
        have r40 : Rg (-1) (-1) v37 := rf_ltx ch39 rv37 rk_0 (by decide)
        refine rn_aload_n (i := 0) dX10_open_91 rfl rfl ?_
        refine rn_bipush (v := (9 : Int32)) dX10_open_92 (by decide) ?_
        refine rn_iload_n (i := 1) dX10_open_94 rfl rfl ?_
        refine rn_aload_n (i := 0) dX10_open_95 rfl rfl ?_
        refine rn_get q3 kg_SGModel_317 hl32 ((ho32 52 (by decide)).trans hx23) dX10_open_96 ?_
        refine rn_aload_n (i := 0) dX10_open_99 rfl rfl ?_
        refine rn_get q3 kg_SGModel_320 hl32 hx32 dX10_open_100 ?_
        refine rn_callV (a := 0) (b := 0) [.int (9 : Int32), .int (2200 : Int32), .int v20, .int v29] kl_SGModel_323 dX10_open_103 q3 hl32 rfl (t_X10_note G S w31 hS32.1 o0_ m0_ (9 : Int32) (rg_w rk_9 (by decide) (by decide)) (2200 : Int32) (rg_w rk_2200 (by decide) (by decide)) v20 v29) rfl rfl (Nat.le_of_ble_eq_true rfl) (Nat.le_of_ble_eq_true rfl) (Nat.le_of_ble_eq_true rfl) (Nat.le_of_ble_eq_true rfl) (Nat.le_of_ble_eq_true rfl) (Nat.le_of_ble_eq_true rfl) (fun _ _ h => False.elim h) (fun v9 w41 h42 => ?_)
        obtain ⟨hT44, v43, rfl, rv43, fkh42⟩ := h42
        have hS44 := St.tr hS32 hT44 rfl
        have ht45 := tw_eq (byt_fr hS32.1 hT44 rfl) ht34
        have fk46 : fK1 4 S ws w41 := fk_tr fk33 fkh42
        refine rn_stk [.int v43] rfl ?_
        exact rn_iret dX10_open_106 rfl rfl (rq_in ⟨hS44, v43, rfl, rv43, fk46⟩)
      · have ch39 := cv_nlt h39
        have r47 : Rg (0) (15) v37 := rf_ley ch39 rk_0 rv37 (by decide)
        refine rn_aload_n (i := 0) dX10_open_61 rfl rfl ?_
        refine rn_iload_n (i := 3) dX10_open_62 rfl rfl ?_
        refine rn_callV (a := 0) (b := 0) [.int v37] kl_SGModel_207 dX10_open_63 q3 hl32 rfl (t_X10_isDead G S w31 hS32.1 o0_ m0_ v37 r47) rfl rfl (Nat.le_of_ble_eq_true rfl) (Nat.le_of_ble_eq_true rfl) (Nat.le_of_ble_eq_true rfl) (Nat.le_of_ble_eq_true rfl) (Nat.le_of_ble_eq_true rfl) (Nat.le_of_ble_eq_true rfl) (fun _ _ h => False.elim h) (fun v9 w48 h49 => ?_)
        obtain ⟨rfl, v50, rfl, rv50⟩ := h49
        refine rn_stk [.int v50] rfl ?_
        refine rn_if_ne (tgt := 91) dX10_open_66 (by decide) (fun h52 => ?_) (fun h52 => ?_)
        · have ch52 := cv_ne h52
          have r53 : Rg (1) (1) v50 := rf_nel ch52 rv50 rk_0 (by decide) (by decide)
          refine rn_aload_n (i := 0) dX10_open_91 rfl rfl ?_
          refine rn_bipush (v := (9 : Int32)) dX10_open_92 (by decide) ?_
          refine rn_iload_n (i := 1) dX10_open_94 rfl rfl ?_
          refine rn_aload_n (i := 0) dX10_open_95 rfl rfl ?_
          refine rn_get q3 kg_SGModel_317 hl32 ((ho32 52 (by decide)).trans hx23) dX10_open_96 ?_
          refine rn_aload_n (i := 0) dX10_open_99 rfl rfl ?_
          refine rn_get q3 kg_SGModel_320 hl32 hx32 dX10_open_100 ?_
          refine rn_callV (a := 0) (b := 0) [.int (9 : Int32), .int (2200 : Int32), .int v20, .int v29] kl_SGModel_323 dX10_open_103 q3 hl32 rfl (t_X10_note G S w31 hS32.1 o0_ m0_ (9 : Int32) (rg_w rk_9 (by decide) (by decide)) (2200 : Int32) (rg_w rk_2200 (by decide) (by decide)) v20 v29) rfl rfl (Nat.le_of_ble_eq_true rfl) (Nat.le_of_ble_eq_true rfl) (Nat.le_of_ble_eq_true rfl) (Nat.le_of_ble_eq_true rfl) (Nat.le_of_ble_eq_true rfl) (Nat.le_of_ble_eq_true rfl) (fun _ _ h => False.elim h) (fun v9 w54 h55 => ?_)
          obtain ⟨hT57, v56, rfl, rv56, fkh55⟩ := h55
          have hS57 := St.tr hS32 hT57 rfl
          have ht58 := tw_eq (byt_fr hS32.1 hT57 rfl) ht34
          have fk59 : fK1 4 S ws w54 := fk_tr fk33 fkh55
          refine rn_stk [.int v56] rfl ?_
          exact rn_iret dX10_open_106 rfl rfl (rq_in ⟨hS57, v56, rfl, rv56, fk59⟩)
        · have ch52 := cv_eq h52
          have r60 : Rg (0) (0) v50 := rf_eqx ch52 rv50 rk_0 (by decide) (by decide)
          refine rn_aload_n (i := 0) dX10_open_69 rfl rfl ?_
          refine rn_iload_n (i := 1) dX10_open_70 rfl rfl ?_
          refine rn_bipush (v := (12 : Int32)) dX10_open_71 (by decide) ?_
          refine rn_iadd dX10_open_73 (rn_topi (2212 : Int32) (by decide) ?_)
          refine rn_callV (a := 0) (b := 0) [.int (2212 : Int32)] kl_SGModel_218 dX10_open_74 q3 hl32 rfl (t_X10_four G S w31 hS32.1 o0_ m0_ (2212 : Int32) (rg_w rk_2212 (by decide) (by decide))) rfl rfl (Nat.le_of_ble_eq_true rfl) (Nat.le_of_ble_eq_true rfl) (Nat.le_of_ble_eq_true rfl) (Nat.le_of_ble_eq_true rfl) (Nat.le_of_ble_eq_true rfl) (Nat.le_of_ble_eq_true rfl) (fun _ _ h => False.elim h) (fun v9 w62 h63 => ?_)
          obtain ⟨rfl, v64, rfl, rv64⟩ := h63
          refine rn_stk [.int v64] rfl ?_
          refine rn_aload_n (i := 0) dX10_open_77 rfl rfl ?_
          obtain ⟨o66, hx66, m66⟩ := fs_r hf32 8 rfl
          refine rn_get q3 kg_SGModel_22 hl32 hx66 dX10_open_78 ?_
          refine rn_aload_n (i := 0) dX10_open_81 rfl rfl ?_
          obtain ⟨o67, hx67, m67⟩ := fs_r hf32 24 rfl
          refine rn_get q3 kg_SGModel_60 hl32 hx67 dX10_open_82 ?_
          refine rn_iload_n (i := 3) dX10_open_85 rfl rfl ?_
          obtain ⟨q68, f68, hq68, hl68, hf68⟩ := ts_ia hS32.1 m67 hk_55
          refine rs_iald q68 hl68 hf68 rfl r47 (by decide) (by decide) dX10_open_86 (fun v69 ev69 rv69 => ?_)
          obtain ⟨q70, f70, hq70, hl70, hf70⟩ := ts_ia hS32.1 m66 hk_39
          refine rs_iald q70 hl70 hf70 rfl rv69 (by decide) (by decide) dX10_open_87 (fun v71 ev71 rv71 => ?_)
          refine rn_icmp_eq (tgt := 107) dX10_open_88 (by decide) (fun h72 => ?_) (fun h72 => ?_)
          · have ch72 := cv_eq h72
            refine rn_aload_n (i := 0) dX10_open_107 rfl rfl ?_
            refine rn_iload_n (i := 3) dX10_open_108 rfl rfl ?_
            refine rn_aload_n (i := 0) dX10_open_109 rfl rfl ?_
            refine rn_get q3 kg_SGModel_320 hl32 hx32 dX10_open_110 ?_
            refine rn_i2l dX10_open_113 rfl (rn_nmL (fun l73 => ?_))
            refine rn_ldc2 (v := (4294967295 : Int64)) wd_1351 dX10_open_114 ?_
            refine rn_land dX10_open_117 (rn_nmL (fun l74 => ?_))
            refine rn_callV (a := 0) (b := 0) [.int v37, .long l74] kl_SGModel_327 dX10_open_118 q3 hl32 rfl (t_X10_numberOf G S w31 hS32.1 o0_ m0_ v37 r47 l74) rfl rfl (Nat.le_of_ble_eq_true rfl) (Nat.le_of_ble_eq_true rfl) (Nat.le_of_ble_eq_true rfl) (Nat.le_of_ble_eq_true rfl) (Nat.le_of_ble_eq_true rfl) (Nat.le_of_ble_eq_true rfl) (fun _ _ h => False.elim h) (fun v9 w75 h76 => ?_)
            obtain ⟨rfl, l77, rfl⟩ := h76
            refine rn_stk [.long l77] rfl ?_
            refine rn_lstore dX10_open_121 (by decide) [(0, .ref o0_), (1, .int (2200 : Int32)), (2, .int v10), (3, .int v37), (4, .long l77)] rfl ?_
            refine rn_aload_n (i := 0) dX10_open_123 rfl rfl ?_
            refine rn_iload_n (i := 3) dX10_open_124 rfl rfl ?_
            refine rn_lload dX10_open_125 rfl ?_
            refine rn_callV (a := 0) (b := 0) [.int v37, .long l77] kl_SGModel_331 dX10_open_127 q3 hl32 rfl (t_X10_isOld G S w31 hS32.1 o0_ m0_ v37 r47 l77) rfl rfl (Nat.le_of_ble_eq_true rfl) (Nat.le_of_ble_eq_true rfl) (Nat.le_of_ble_eq_true rfl) (Nat.le_of_ble_eq_true rfl) (Nat.le_of_ble_eq_true rfl) (Nat.le_of_ble_eq_true rfl) (fun _ _ h => False.elim h) (fun v9 w79 h80 => ?_)
            obtain ⟨rfl, v81, rfl, rv81⟩ := h80
            refine rn_stk [.int v81] rfl ?_
            refine rn_if_eq (tgt := 149) dX10_open_130 (by decide) (fun h83 => ?_) (fun h83 => ?_)
            · have ch83 := cv_eq h83
              have r84 : Rg (0) (0) v81 := rf_eqx ch83 rv81 rk_0 (by decide) (by decide)
              refine rn_aload_n (i := 0) dX10_open_149 rfl rfl ?_
              refine rn_iload_n (i := 3) dX10_open_150 rfl rfl ?_
              refine rn_lload dX10_open_151 rfl ?_
              refine rn_callV (a := 0) (b := 0) [.int v37, .long l77] kl_SGModel_335 dX10_open_153 q3 hl32 rfl (t_X10_wasSeen G S w31 hS32.1 o0_ m0_ v37 r47 l77) rfl rfl (Nat.le_of_ble_eq_true rfl) (Nat.le_of_ble_eq_true rfl) (Nat.le_of_ble_eq_true rfl) (Nat.le_of_ble_eq_true rfl) (Nat.le_of_ble_eq_true rfl) (Nat.le_of_ble_eq_true rfl) (fun _ _ h => False.elim h) (fun v9 w85 h86 => ?_)
              obtain ⟨rfl, v87, rfl, rv87⟩ := h86
              refine rn_stk [.int v87] rfl ?_
              refine rn_if_eq (tgt := 175) dX10_open_156 (by decide) (fun h89 => ?_) (fun h89 => ?_)
              · have ch89 := cv_eq h89
                have r90 : Rg (0) (0) v87 := rf_eqx ch89 rv87 rk_0 (by decide) (by decide)
                refine rn_aload_n (i := 0) dX10_open_175 rfl rfl ?_
                refine rn_iload_n (i := 1) dX10_open_176 rfl rfl ?_
                refine rn_iload_n (i := 2) dX10_open_177 rfl rfl ?_
                refine rs_addD (2220) (4227) rk_2200 r13 dX10_open_178 (by decide) (fun v91 ev91 rv91 => ?_)
                refine rn_bipush (v := (12 : Int32)) dX10_open_179 (by decide) ?_
                refine rs_addC (2232) (4239) rv91 rk_12 dX10_open_181 (by decide) (fun v92 ev92 rv92 => ?_)
                refine rn_callV (a := 0) (b := 0) [.int v92] kl_SGModel_218 dX10_open_182 q3 hl32 rfl (t_X10_four G S w31 hS32.1 o0_ m0_ v92 (rg_w rv92 (by decide) (by decide))) rfl rfl (Nat.le_of_ble_eq_true rfl) (Nat.le_of_ble_eq_true rfl) (Nat.le_of_ble_eq_true rfl) (Nat.le_of_ble_eq_true rfl) (Nat.le_of_ble_eq_true rfl) (Nat.le_of_ble_eq_true rfl) (fun _ _ h => False.elim h) (fun v9 w93 h94 => ?_)
                obtain ⟨rfl, v95, rfl, rv95⟩ := h94
                refine rn_stk [.int v95] rfl ?_
                refine rn_i2l dX10_open_185 rfl (rn_nmL (fun l97 => ?_))
                refine rn_bipush (v := (32 : Int32)) dX10_open_186 (by decide) ?_
                refine rn_lshl dX10_open_188 rfl (rn_nmL (fun l98 => ?_))
                refine rn_aload_n (i := 0) dX10_open_189 rfl rfl ?_
                refine rn_iload_n (i := 1) dX10_open_190 rfl rfl ?_
                refine rn_iload_n (i := 2) dX10_open_191 rfl rfl ?_
                refine rs_addD (2220) (4227) rk_2200 r13 dX10_open_192 (by decide) (fun v99 ev99 rv99 => ?_)
                refine rn_bipush (v := (16 : Int32)) dX10_open_193 (by decide) ?_
                refine rs_addC (2236) (4243) rv99 rk_16 dX10_open_195 (by decide) (fun v100 ev100 rv100 => ?_)
                refine rn_callV (a := 0) (b := 0) [.int v100] kl_SGModel_218 dX10_open_196 q3 hl32 rfl (t_X10_four G S w31 hS32.1 o0_ m0_ v100 (rg_w rv100 (by decide) (by decide))) rfl rfl (Nat.le_of_ble_eq_true rfl) (Nat.le_of_ble_eq_true rfl) (Nat.le_of_ble_eq_true rfl) (Nat.le_of_ble_eq_true rfl) (Nat.le_of_ble_eq_true rfl) (Nat.le_of_ble_eq_true rfl) (fun _ _ h => False.elim h) (fun v9 w101 h102 => ?_)
                obtain ⟨rfl, v103, rfl, rv103⟩ := h102
                refine rn_stk [.int v103, .long l98] rfl ?_
                refine rn_i2l dX10_open_199 rfl (rn_nmL (fun l105 => ?_))
                refine rn_ldc2 (v := (4294967295 : Int64)) wd_1351 dX10_open_200 ?_
                refine rn_land dX10_open_203 (rn_nmL (fun l106 => ?_))
                refine rn_lor dX10_open_204 (rn_nmL (fun l107 => ?_))
                refine rn_lstore dX10_open_205 (by decide) [(0, .ref o0_), (1, .int (2200 : Int32)), (2, .int v10), (3, .int v37), (4, .long l77), (6, .long l107)] rfl ?_
                refine rn_lload dX10_open_207 rfl ?_
                refine rn_aload_n (i := 0) dX10_open_209 rfl rfl ?_
                refine rn_iload_n (i := 1) dX10_open_210 rfl rfl ?_
                refine rn_bipush (v := (20 : Int32)) dX10_open_211 (by decide) ?_
                refine rn_iadd dX10_open_213 (rn_topi (2220 : Int32) (by decide) ?_)
                refine rn_iload_n (i := 2) dX10_open_214 rfl rfl ?_
                refine rn_bipush (v := (8 : Int32)) dX10_open_215 (by decide) ?_
                refine rs_subC (12) (2019) r13 rk_8 dX10_open_217 (by decide) (fun v109 ev109 rv109 => ?_)
                refine rn_iload_n (i := 3) dX10_open_218 rfl rfl ?_
                refine rn_lload dX10_open_219 rfl ?_
                refine rn_callV (a := 0) (b := 0) [.int (2220 : Int32), .int v109, .int v37, .long l77] kl_SGModel_263 dX10_open_221 q3 hl32 rfl (t_X10_stampOf G S w31 hS32.1 o0_ m0_ (2220 : Int32) (rg_w rk_2220 (by decide) (by decide)) v109 (rg_w rv109 (by decide) (by decide)) v37 r47 l77) rfl rfl (Nat.le_of_ble_eq_true rfl) (Nat.le_of_ble_eq_true rfl) (Nat.le_of_ble_eq_true rfl) (Nat.le_of_ble_eq_true rfl) (Nat.le_of_ble_eq_true rfl) (Nat.le_of_ble_eq_true rfl) (fun _ _ h => False.elim h) (fun v9 w110 h111 => ?_)
                obtain ⟨rfl, l112, rfl⟩ := h111
                refine rn_stk [.long l112, .long l107] rfl ?_
                refine rn_lcmp dX10_open_224 (rn_tn (-1) 1 (rg_lcmp _ _) (fun v114 rv114 => ?_))
                refine rn_if_eq (tgt := 244) dX10_open_225 (by decide) (fun h115 => ?_) (fun h115 => ?_)
                · have ch115 := cv_eq h115
                  have r116 : Rg (0) (0) v114 := rf_eqx ch115 rv114 rk_0 (by decide) (by decide)
                  refine rn_aload_n (i := 0) dX10_open_244 rfl rfl ?_
                  refine rn_iload_n (i := 3) dX10_open_245 rfl rfl ?_
                  refine rn_lload dX10_open_246 rfl ?_
                  refine rn_callV (a := 0) (b := 0) [.int v37, .long l77] kl_SGModel_338 dX10_open_248 q3 hl32 rfl (t_X10_see G S w31 hS32.1 o0_ m0_ v37 r47 l77) rfl rfl (Nat.le_of_ble_eq_true rfl) (Nat.le_of_ble_eq_true rfl) (Nat.le_of_ble_eq_true rfl) (Nat.le_of_ble_eq_true rfl) (Nat.le_of_ble_eq_true rfl) (Nat.le_of_ble_eq_true rfl) (fun _ _ h => False.elim h) (fun v9 w117 h118 => ?_)
                  obtain ⟨hT119, rfl⟩ := h118
                  have hS119 := St.tr hS32 hT119 rfl
                  have ht120 := tw_eq (byt_fr hS32.1 hT119 rfl) ht34
                  have fk121 : fK1 4 S ws w117 := fk_fr fk33 hT119 rfl
                  refine rn_stk [] rfl ?_
                  refine rn_iload_n (i := 2) dX10_open_251 rfl rfl ?_
                  refine rn_bipush (v := (16 : Int32)) dX10_open_252 (by decide) ?_
                  refine rs_subC (4) (2011) r13 rk_16 dX10_open_254 (by decide) (fun v122 ev122 rv122 => ?_)
                  refine rn_istore dX10_open_255 (by decide) [(0, .ref o0_), (1, .int (2200 : Int32)), (2, .int v10), (3, .int v37), (4, .long l77), (6, .long l107), (8, .int v122)] rfl ?_
                  refine rn_aload_n (i := 0) dX10_open_257 rfl rfl ?_
                  refine rn_iload_n (i := 1) dX10_open_258 rfl rfl ?_
                  refine rn_bipush (v := (28 : Int32)) dX10_open_259 (by decide) ?_
                  refine rn_iadd dX10_open_261 (rn_topi (2228 : Int32) (by decide) ?_)
                  refine rn_sipush (v := (6600 : Int32)) dX10_open_262 (by decide) ?_
                  refine rn_iload dX10_open_265 rfl ?_
                  refine rn_callV (a := 0) (b := 0) [.int (2228 : Int32), .int (6600 : Int32), .int v122] kl_SGModel_235 dX10_open_267 q3 (hT119.fr hq3 rfl hl32) rfl (t_X10_move G S w117 hS119.1 o0_ m0_ (2228 : Int32) (6600 : Int32) v122 ⟨by have := rv122.1; have := rv122.2; have := rk_16.1; have := rk_16.2; have := r13.1; have := r13.2; have := rk_20.1; have := rk_20.2; have := r9.1; have := r9.2; have := rk_6600.1; have := rk_6600.2; have := rk_2228.1; have := rk_2228.2; omega, by have := rv122.1; have := rv122.2; have := rk_16.1; have := rk_16.2; have := r13.1; have := r13.2; have := rk_20.1; have := rk_20.2; have := r9.1; have := r9.2; have := rk_6600.1; have := rk_6600.2; have := rk_2228.1; have := rk_2228.2; omega, by have := rv122.1; have := rv122.2; have := rk_16.1; have := rk_16.2; have := r13.1; have := r13.2; have := rk_20.1; have := rk_20.2; have := r9.1; have := r9.2; have := rk_6600.1; have := rk_6600.2; have := rk_2228.1; have := rk_2228.2; omega, by have := rv122.1; have := rv122.2; have := rk_16.1; have := rk_16.2; have := r13.1; have := r13.2; have := rk_20.1; have := rk_20.2; have := r9.1; have := r9.2; have := rk_6600.1; have := rk_6600.2; have := rk_2228.1; have := rk_2228.2; omega⟩) rfl rfl (Nat.le_of_ble_eq_true rfl) (Nat.le_of_ble_eq_true rfl) (Nat.le_of_ble_eq_true rfl) (Nat.le_of_ble_eq_true rfl) (Nat.le_of_ble_eq_true rfl) (Nat.le_of_ble_eq_true rfl) (fun _ _ h => False.elim h) (fun v9 w124 h125 => ?_)
                  obtain ⟨hT126, rfl, xah125⟩ := h125
                  have hS126 := St.tr hS119 hT126 rfl
                  have ht127 := bsame.keep xah125.1 ht120 (by have := rv122.1; have := rv122.2; have := rk_16.1; have := rk_16.2; have := r13.1; have := r13.2; have := rk_20.1; have := rk_20.2; have := r9.1; have := r9.2; have := rk_6600.1; have := rk_6600.2; have := rk_2228.1; have := rk_2228.2; omega)
                  have fk128 : fK1 4 S ws w124 := fk_fr fk121 hT126 rfl
                  refine rn_stk [] rfl ?_
                  refine rn_aload_n (i := 0) dX10_open_270 rfl rfl ?_
                  refine rn_sipush (v := (6600 : Int32)) dX10_open_271 (by decide) ?_
                  refine rn_iload dX10_open_274 rfl ?_
                  refine rn_iload_n (i := 3) dX10_open_276 rfl rfl ?_
                  refine rn_lload dX10_open_277 rfl ?_
                  refine rn_callV (a := 0) (b := 0) [.int (6600 : Int32), .int v122, .int v37, .long l77] kl_SGModel_259 dX10_open_279 q3 (hT126.fr hq3 rfl (hT119.fr hq3 rfl hl32)) rfl (t_X10_stream G S w124 hS126.1 o0_ m0_ (6600 : Int32) (rg_w rk_6600 (by decide) (by decide)) v122 (rg_w rv122 (by decide) (by decide)) v37 r47 l77) rfl rfl (Nat.le_of_ble_eq_true rfl) (Nat.le_of_ble_eq_true rfl) (Nat.le_of_ble_eq_true rfl) (Nat.le_of_ble_eq_true rfl) (Nat.le_of_ble_eq_true rfl) (Nat.le_of_ble_eq_true rfl) (fun _ _ h => False.elim h) (fun v9 w129 h130 => ?_)
                  obtain ⟨hT131, rfl⟩ := h130
                  have hS131 := St.tr hS126 hT131 rfl
                  have fk132 : fK1 4 S ws w129 := fk_fr fk128 hT131 rfl
                  refine rn_stk [] rfl ?_
                  refine rn_aload_n (i := 0) dX10_open_282 rfl rfl ?_
                  obtain ⟨o133, hx133, m133⟩ := fs_r hf32 2 rfl
                  refine rn_get q3 kg_SGModel_7 (hT131.fr hq3 rfl (hT126.fr hq3 rfl (hT119.fr hq3 rfl hl32))) hx133 dX10_open_283 ?_
                  refine rn_sipush (v := (6600 : Int32)) dX10_open_286 (by decide) ?_
                  refine rn_iload dX10_open_289 rfl ?_
                  refine rs_addD (6604) (8611) rk_6600 rv122 dX10_open_291 (by decide) (fun v134 ev134 rv134 => ?_)
                  refine rn_iconst (v := (2 : Int32)) dX10_open_292 (by decide) ?_
                  refine rs_subC (6602) (8609) rv134 rk_2 dX10_open_293 (by decide) (fun v135 ev135 rv135 => ?_)
                  obtain ⟨q136, f136, hq136, hl136, hf136⟩ := ts_ia hS131.1 m133 hk_33
                  refine rs_iald q136 hl136 hf136 rfl rv135 (by decide) (by decide) dX10_open_294 (fun v137 ev137 rv137 => ?_)
                  refine rn_istore dX10_open_295 (by decide) [(0, .ref o0_), (1, .int (2200 : Int32)), (2, .int v10), (3, .int v37), (4, .long l77), (6, .long l107), (8, .int v122), (9, .int v137)] rfl ?_
                  refine rn_aload_n (i := 0) dX10_open_297 rfl rfl ?_
                  refine rn_sipush (v := (6600 : Int32)) dX10_open_298 (by decide) ?_
                  refine rn_iload dX10_open_301 rfl ?_
                  refine rn_iload dX10_open_303 rfl ?_
                  refine rn_callV (a := 0) (b := 0) [.int (6600 : Int32), .int v122, .int v137] kl_SGModel_341 dX10_open_305 q3 (hT131.fr hq3 rfl (hT126.fr hq3 rfl (hT119.fr hq3 rfl hl32))) rfl (t_X10_isFilled G S w129 hS131.1 o0_ m0_ (6600 : Int32) rk_6600 v122 (rg_w rv122 (by decide) (by decide)) v137 rv137) rfl rfl (Nat.le_of_ble_eq_true rfl) (Nat.le_of_ble_eq_true rfl) (Nat.le_of_ble_eq_true rfl) (Nat.le_of_ble_eq_true rfl) (Nat.le_of_ble_eq_true rfl) (Nat.le_of_ble_eq_true rfl) (fun _ _ h => False.elim h) (fun v9 w138 h139 => ?_)
                  obtain ⟨rfl, v140, rfl, rv140⟩ := h139
                  refine rn_stk [.int v140] rfl ?_
                  refine rn_if_ne (tgt := 314) dX10_open_308 (by decide) (fun h142 => ?_) (fun h142 => ?_)
                  · have ch142 := cv_ne h142
                    have r143 : Rg (1) (1) v140 := rf_nel ch142 rv140 rk_0 (by decide) (by decide)
                    refine rn_aload_n (i := 0) dX10_open_314 rfl rfl ?_
                    refine rn_get q3 kg_SGModel_7 (hT131.fr hq3 rfl (hT126.fr hq3 rfl (hT119.fr hq3 rfl hl32))) hx133 dX10_open_315 ?_
                    refine rn_sipush (v := (6600 : Int32)) dX10_open_318 (by decide) ?_
                    refine rn_iload dX10_open_321 rfl ?_
                    refine rs_addD (6604) (8611) rk_6600 rv122 dX10_open_323 (by decide) (fun v144 ev144 rv144 => ?_)
                    refine rn_iconst (v := (1 : Int32)) dX10_open_324 (by decide) ?_
                    refine rs_subC (6603) (8610) rv144 rk_1 dX10_open_325 (by decide) (fun v145 ev145 rv145 => ?_)
                    refine rs_iald q136 hl136 hf136 rfl rv145 (by decide) (by decide) dX10_open_326 (fun v146 ev146 rv146 => ?_)
                    refine rn_istore dX10_open_327 (by decide) [(0, .ref o0_), (1, .int (2200 : Int32)), (2, .int v10), (3, .int v37), (4, .long l77), (6, .long l107), (8, .int v122), (9, .int v137), (10, .int v146)] rfl ?_
                    refine rn_iload dX10_open_329 rfl ?_
                    refine rn_iconst (v := (4 : Int32)) dX10_open_331 (by decide) ?_
                    refine rn_icmp_eq (tgt := 350) dX10_open_332 (by decide) (fun h147 => ?_) (fun h147 => ?_)
                    · have ch147 := cv_eq h147
                      have r148 : Rg (4) (4) v146 := rf_eqx ch147 rv146 rk_4 (by decide) (by decide)
                      refine rn_iload dX10_open_350 rfl ?_
                      refine rn_iconst (v := (2 : Int32)) dX10_open_352 (by decide) ?_
                      refine rs_subC (2) (2009) rv122 rk_2 dX10_open_353 (by decide) (fun v149 ev149 rv149 => ?_)
                      refine rn_iload dX10_open_354 rfl ?_
                      refine rs_subR (-253) (2009) rv149 rv137 dX10_open_356 (by decide) (fun v150 ev150 rv150 => ?_)
                      refine rn_istore dX10_open_357 (by decide) [(0, .ref o0_), (1, .int (2200 : Int32)), (2, .int v10), (3, .int v37), (4, .long l77), (6, .long l107), (8, .int v122), (9, .int v137), (10, .int v146), (11, .int v150)] rfl ?_
                      refine rn_aload_n (i := 0) dX10_open_359 rfl rfl ?_
                      refine rn_sipush (v := (6600 : Int32)) dX10_open_360 (by decide) ?_
                      refine rn_iload dX10_open_363 rfl ?_
                      refine rn_callV (a := 0) (b := 0) [.int (6600 : Int32), .int v150] kl_SGModel_225 dX10_open_365 q3 (hT131.fr hq3 rfl (hT126.fr hq3 rfl (hT119.fr hq3 rfl hl32))) rfl (t_X10_isBroken_6600 G S w129 hS131.1 o0_ m0_ v150) rfl rfl (Nat.le_of_ble_eq_true rfl) (Nat.le_of_ble_eq_true rfl) (Nat.le_of_ble_eq_true rfl) (Nat.le_of_ble_eq_true rfl) (Nat.le_of_ble_eq_true rfl) (Nat.le_of_ble_eq_true rfl) (fun _ _ h => False.elim h) (fun v9 w151 h152 => ?_)
                      obtain ⟨rfl, v153, rfl, rv153, xah152⟩ := h152
                      obtain ⟨T155, ht155⟩ : ∃ t : Int, tw (byt w129) 6602 = t := ⟨_, rfl⟩
                      rw [ht155] at xah152
                      refine rn_stk [.int v153] rfl ?_
                      refine rn_if_ne (tgt := 383) dX10_open_368 (by decide) (fun h156 => ?_) (fun h156 => ?_)
                      · have ch156 := cv_ne h156
                        have r157 : Rg (1) (1) v153 := rf_nel ch156 rv153 rk_0 (by decide) (by decide)
                        refine rn_bipush (v := (15 : Int32)) dX10_open_383 (by decide) ?_
                        exact rn_iret dX10_open_385 rfl rfl (rq_in ⟨hS131, (15 : Int32), rfl, (rg_w rk_15 (by decide) (by decide)), fk132⟩)
                      · have ch156 := cv_eq h156
                        have kh156 := xah152 h156
                        have r158 : Rg (0) (0) v153 := rf_eqx ch156 rv153 rk_0 (by decide) (by decide)
                        refine rn_aload_n (i := 0) dX10_open_371 rfl rfl ?_
                        refine rn_sipush (v := (6600 : Int32)) dX10_open_372 (by decide) ?_
                        refine rn_inV (d' := 1) (z' := 21) [.int (6600 : Int32)] kl_SGModel_165 dX10_open_375 q3 (hT131.fr hq3 rfl (hT126.fr hq3 rfl (hT119.fr hq3 rfl hl32))) rfl rfl rfl (Nat.le_of_ble_eq_true rfl) (Nat.le_of_ble_eq_true rfl) (Nat.le_of_ble_eq_true rfl) (Nat.le_of_ble_eq_true rfl) ?_
                        refine rn_lv [(0, .ref o0_), (1, .int (6600 : Int32))] rfl ?_
                        refine rn_aload_n (i := 0) dX10_lengthOf_0 rfl rfl ?_
                        refine rn_iload_n (i := 1) dX10_lengthOf_1 rfl rfl ?_
                        refine rn_iconst (v := (2 : Int32)) dX10_lengthOf_2 (by decide) ?_
                        refine rn_iadd dX10_lengthOf_3 (rn_topi (6602 : Int32) (by decide) ?_)
                        refine rn_callV (a := 0) (b := 0) [.int (6602 : Int32)] kl_SGModel_140 dX10_lengthOf_4 q3 (hT131.fr hq3 rfl (hT126.fr hq3 rfl (hT119.fr hq3 rfl hl32))) rfl (t_X10_two G S w129 hS131.1 o0_ m0_ (6602 : Int32) (rg_w rk_6602 (by decide) (by decide))) rfl rfl (Nat.le_of_ble_eq_true rfl) (Nat.le_of_ble_eq_true rfl) (Nat.le_of_ble_eq_true rfl) (Nat.le_of_ble_eq_true rfl) (Nat.le_of_ble_eq_true rfl) (Nat.le_of_ble_eq_true rfl) (fun _ _ h => False.elim h) (fun v9 w160 h161 => ?_)
                        obtain ⟨rfl, v162, rfl, rv162, xah161⟩ := h161
                        have ev162 : v162.toInt = T155 := (xah161 6602 (by decide)).trans ht155
                        have r164 : Rg (20) (2009) v162 := rg_tw ev162 kh156 rv150 (by decide)
                        refine rn_stk [.int v162] rfl ?_
                        refine rn_iret dX10_lengthOf_7 rfl rfl (rq_in ?_)
                        refine rn_stk [.int v162] rfl ?_
                        refine rn_iload dX10_open_378 rfl ?_
                        refine rn_icmp_eq (tgt := 386) dX10_open_380 (by decide) (fun h165 => ?_) (fun h165 => ?_)
                        · have ch165 := cv_eq h165
                          have r166 : Rg (20) (2009) v150 := rf_eqy ch165 r164 rv150 (by decide) (by decide)
                          refine rn_aload_n (i := 0) dX10_open_386 rfl rfl ?_
                          refine rn_iconst (v := (1 : Int32)) dX10_open_387 (by decide) ?_
                          refine rn_sipush (v := (6600 : Int32)) dX10_open_388 (by decide) ?_
                          refine rn_callV (a := 0) (b := 0) [.int (1 : Int32), .int (6600 : Int32)] kl_SGModel_228 dX10_open_391 q3 (hT131.fr hq3 rfl (hT126.fr hq3 rfl (hT119.fr hq3 rfl hl32))) rfl (t_X10_policyOf G S w129 hS131.1 o0_ m0_ (1 : Int32) (6600 : Int32) (rg_w rk_6600 (by decide) (by decide))) rfl rfl (Nat.le_of_ble_eq_true rfl) (Nat.le_of_ble_eq_true rfl) (Nat.le_of_ble_eq_true rfl) (Nat.le_of_ble_eq_true rfl) (Nat.le_of_ble_eq_true rfl) (Nat.le_of_ble_eq_true rfl) (fun _ _ h => False.elim h) (fun v9 w167 h168 => ?_)
                          obtain ⟨rfl, v169, rfl, rv169⟩ := h168
                          refine rn_stk [.int v169] rfl ?_
                          refine rn_istore dX10_open_394 (by decide) [(0, .ref o0_), (1, .int (2200 : Int32)), (2, .int v10), (3, .int v37), (4, .long l77), (6, .long l107), (8, .int v122), (9, .int v137), (10, .int v146), (11, .int v150), (12, .int v169)] rfl ?_
                          refine rn_iload dX10_open_396 rfl ?_
                          refine rn_if_lt (tgt := 417) dX10_open_398 (by decide) (fun h171 => ?_) (fun h171 => ?_)
                          · have ch171 := cv_lt h171
                            have r172 : Rg (-1) (-1) v169 := rf_ltx ch171 rv169 rk_0 (by decide)
                            refine rn_aload_n (i := 0) dX10_open_417 rfl rfl ?_
                            refine rn_bipush (v := (16 : Int32)) dX10_open_418 (by decide) ?_
                            refine rn_sipush (v := (6600 : Int32)) dX10_open_420 (by decide) ?_
                            refine rn_aload_n (i := 0) dX10_open_423 rfl rfl ?_
                            refine rn_get q3 kg_SGModel_317 (hT131.fr hq3 rfl (hT126.fr hq3 rfl (hT119.fr hq3 rfl hl32))) ((ho32 52 (by decide)).trans hx23) dX10_open_424 ?_
                            refine rn_aload_n (i := 0) dX10_open_427 rfl rfl ?_
                            refine rn_get q3 kg_SGModel_320 (hT131.fr hq3 rfl (hT126.fr hq3 rfl (hT119.fr hq3 rfl hl32))) hx32 dX10_open_428 ?_
                            refine rn_callV (a := 0) (b := 0) [.int (16 : Int32), .int (6600 : Int32), .int v20, .int v29] kl_SGModel_323 dX10_open_431 q3 (hT131.fr hq3 rfl (hT126.fr hq3 rfl (hT119.fr hq3 rfl hl32))) rfl (t_X10_note G S w129 hS131.1 o0_ m0_ (16 : Int32) (rg_w rk_16 (by decide) (by decide)) (6600 : Int32) (rg_w rk_6600 (by decide) (by decide)) v20 v29) rfl rfl (Nat.le_of_ble_eq_true rfl) (Nat.le_of_ble_eq_true rfl) (Nat.le_of_ble_eq_true rfl) (Nat.le_of_ble_eq_true rfl) (Nat.le_of_ble_eq_true rfl) (Nat.le_of_ble_eq_true rfl) (fun _ _ h => False.elim h) (fun v9 w173 h174 => ?_)
                            obtain ⟨hT176, v175, rfl, rv175, fkh174⟩ := h174
                            have hS176 := St.tr hS131 hT176 rfl
                            have ht177 := tw_eq (byt_fr hS131.1 hT176 rfl) ht155
                            have fk178 : fK1 4 S ws w173 := fk_tr fk132 fkh174
                            refine rn_stk [.int v175] rfl ?_
                            exact rn_iret dX10_open_434 rfl rfl (rq_in ⟨hS176, v175, rfl, rv175, fk178⟩)
                          · have ch171 := cv_nlt h171
                            have r179 : Rg (0) (23) v169 := rf_ley ch171 rk_0 rv169 (by decide)
                            refine rn_aload_n (i := 0) dX10_open_401 rfl rfl ?_
                            obtain ⟨o180, hx180, m180⟩ := fs_r hf32 18 rfl
                            refine rn_get q3 kg_SGModel_49 (hT131.fr hq3 rfl (hT126.fr hq3 rfl (hT119.fr hq3 rfl hl32))) hx180 dX10_open_402 ?_
                            refine rn_iload dX10_open_405 rfl ?_
                            obtain ⟨q181, f181, hq181, hl181, hf181⟩ := ts_ia hS131.1 m180 hk_49
                            refine rs_iald q181 hl181 hf181 rfl r179 (by decide) (by decide) dX10_open_407 (fun v182 ev182 rv182 => ?_)
                            refine rn_aload_n (i := 0) dX10_open_408 rfl rfl ?_
                            refine rn_get q3 kg_SGModel_60 (hT131.fr hq3 rfl (hT126.fr hq3 rfl (hT119.fr hq3 rfl hl32))) hx67 dX10_open_409 ?_
                            refine rn_iload_n (i := 3) dX10_open_412 rfl rfl ?_
                            refine rs_iald q68 (hT131.fr hq68 rfl (hT126.fr hq68 rfl (hT119.fr hq68 rfl hl68))) hf68 rfl r47 (by decide) (by decide) dX10_open_413 (fun v183 ev183 rv183 => ?_)
                            refine rn_icmp_eq (tgt := 435) dX10_open_414 (by decide) (fun h184 => ?_) (fun h184 => ?_)
                            · have ch184 := cv_eq h184
                              have r185 : Rg (0) (3) v182 := rf_eqx ch184 rv182 rv183 (by decide) (by decide)
                              refine rn_aload_n (i := 0) dX10_open_435 rfl rfl ?_
                              refine rn_sipush (v := (6600 : Int32)) dX10_open_436 (by decide) ?_
                              refine rn_callV (a := 0) (b := 0) [.int (6600 : Int32)] kl_SGModel_344 dX10_open_439 q3 (hT131.fr hq3 rfl (hT126.fr hq3 rfl (hT119.fr hq3 rfl hl32))) rfl (t_X10_goIn_6600 G S w129 hS131.1 o0_ m0_ (by rw [ht155]; exact gv_tw kh156 r166 (by decide) (by decide))) rfl rfl (Nat.le_of_ble_eq_true rfl) (Nat.le_of_ble_eq_true rfl) (Nat.le_of_ble_eq_true rfl) (Nat.le_of_ble_eq_true rfl) (Nat.le_of_ble_eq_true rfl) (Nat.le_of_ble_eq_true rfl) (fun _ _ h => False.elim h) (fun v9 w186 h187 => ?_)
                              obtain ⟨hT189, v188, rfl, rv188, fkh187⟩ := h187
                              have hS189 := St.tr hS131 hT189 rfl
                              have fk190 : fK1 4 S ws w186 := fk_tr fk132 fkh187
                              refine rn_stk [.int v188] rfl ?_
                              exact rn_iret dX10_open_442 rfl rfl (rq_in ⟨hS189, v188, rfl, (rg_w rv188 (by decide) (by decide)), fk190⟩)
                            · have ch184 := cv_ne h184
                              refine rn_aload_n (i := 0) dX10_open_417 rfl rfl ?_
                              refine rn_bipush (v := (16 : Int32)) dX10_open_418 (by decide) ?_
                              refine rn_sipush (v := (6600 : Int32)) dX10_open_420 (by decide) ?_
                              refine rn_aload_n (i := 0) dX10_open_423 rfl rfl ?_
                              refine rn_get q3 kg_SGModel_317 (hT131.fr hq3 rfl (hT126.fr hq3 rfl (hT119.fr hq3 rfl hl32))) ((ho32 52 (by decide)).trans hx23) dX10_open_424 ?_
                              refine rn_aload_n (i := 0) dX10_open_427 rfl rfl ?_
                              refine rn_get q3 kg_SGModel_320 (hT131.fr hq3 rfl (hT126.fr hq3 rfl (hT119.fr hq3 rfl hl32))) hx32 dX10_open_428 ?_
                              refine rn_callV (a := 0) (b := 0) [.int (16 : Int32), .int (6600 : Int32), .int v20, .int v29] kl_SGModel_323 dX10_open_431 q3 (hT131.fr hq3 rfl (hT126.fr hq3 rfl (hT119.fr hq3 rfl hl32))) rfl (t_X10_note G S w129 hS131.1 o0_ m0_ (16 : Int32) (rg_w rk_16 (by decide) (by decide)) (6600 : Int32) (rg_w rk_6600 (by decide) (by decide)) v20 v29) rfl rfl (Nat.le_of_ble_eq_true rfl) (Nat.le_of_ble_eq_true rfl) (Nat.le_of_ble_eq_true rfl) (Nat.le_of_ble_eq_true rfl) (Nat.le_of_ble_eq_true rfl) (Nat.le_of_ble_eq_true rfl) (fun _ _ h => False.elim h) (fun v9 w191 h192 => ?_)
                              obtain ⟨hT194, v193, rfl, rv193, fkh192⟩ := h192
                              have hS194 := St.tr hS131 hT194 rfl
                              have ht195 := tw_eq (byt_fr hS131.1 hT194 rfl) ht155
                              have fk196 : fK1 4 S ws w191 := fk_tr fk132 fkh192
                              refine rn_stk [.int v193] rfl ?_
                              exact rn_iret dX10_open_434 rfl rfl (rq_in ⟨hS194, v193, rfl, rv193, fk196⟩)
                        · have ch165 := cv_ne h165
                          refine rn_bipush (v := (15 : Int32)) dX10_open_383 (by decide) ?_
                          exact rn_iret dX10_open_385 rfl rfl (rq_in ⟨hS131, (15 : Int32), rfl, (rg_w rk_15 (by decide) (by decide)), fk132⟩)
                    · have ch147 := cv_ne h147
                      refine rn_iload dX10_open_335 rfl ?_
                      refine rn_bipush (v := (59 : Int32)) dX10_open_337 (by decide) ?_
                      refine rn_icmp_ne (tgt := 347) dX10_open_339 (by decide) (fun h197 => ?_) (fun h197 => ?_)
                      · have ch197 := cv_ne h197
                        refine rn_bipush (v := (13 : Int32)) dX10_open_347 (by decide) ?_
                        exact rn_iret dX10_open_349 rfl rfl (rq_in ⟨hS131, (13 : Int32), rfl, (rg_w rk_13 (by decide) (by decide)), fk132⟩)
                      · have ch197 := cv_eq h197
                        have r198 : Rg (59) (59) v146 := rf_eqx ch197 rv146 rk_59 (by decide) (by decide)
                        refine rn_bipush (v := (14 : Int32)) dX10_open_342 (by decide) ?_
                        refine rn_goto (tgt := 349) dX10_open_344 (by decide) ?_
                        exact rn_iret dX10_open_349 rfl rfl (rq_in ⟨hS131, (14 : Int32), rfl, (rg_w rk_14 (by decide) (by decide)), fk132⟩)
                  · have ch142 := cv_eq h142
                    have r199 : Rg (0) (0) v140 := rf_eqx ch142 rv140 rk_0 (by decide) (by decide)
                    refine rn_bipush (v := (13 : Int32)) dX10_open_311 (by decide) ?_
                    exact rn_iret dX10_open_313 rfl rfl (rq_in ⟨hS131, (13 : Int32), rfl, (rg_w rk_13 (by decide) (by decide)), fk132⟩)
                · have ch115 := cv_ne h115
                  refine rn_aload_n (i := 0) dX10_open_228 rfl rfl ?_
                  refine rn_bipush (v := (12 : Int32)) dX10_open_229 (by decide) ?_
                  refine rn_iload_n (i := 1) dX10_open_231 rfl rfl ?_
                  refine rn_aload_n (i := 0) dX10_open_232 rfl rfl ?_
                  refine rn_get q3 kg_SGModel_317 hl32 ((ho32 52 (by decide)).trans hx23) dX10_open_233 ?_
                  refine rn_aload_n (i := 0) dX10_open_236 rfl rfl ?_
                  refine rn_get q3 kg_SGModel_320 hl32 hx32 dX10_open_237 ?_
                  refine rn_callV (a := 0) (b := 0) [.int (12 : Int32), .int (2200 : Int32), .int v20, .int v29] kl_SGModel_323 dX10_open_240 q3 hl32 rfl (t_X10_note G S w31 hS32.1 o0_ m0_ (12 : Int32) (rg_w rk_12 (by decide) (by decide)) (2200 : Int32) (rg_w rk_2200 (by decide) (by decide)) v20 v29) rfl rfl (Nat.le_of_ble_eq_true rfl) (Nat.le_of_ble_eq_true rfl) (Nat.le_of_ble_eq_true rfl) (Nat.le_of_ble_eq_true rfl) (Nat.le_of_ble_eq_true rfl) (Nat.le_of_ble_eq_true rfl) (fun _ _ h => False.elim h) (fun v9 w200 h201 => ?_)
                  obtain ⟨hT203, v202, rfl, rv202, fkh201⟩ := h201
                  have hS203 := St.tr hS32 hT203 rfl
                  have ht204 := tw_eq (byt_fr hS32.1 hT203 rfl) ht34
                  have fk205 : fK1 4 S ws w200 := fk_tr fk33 fkh201
                  refine rn_stk [.int v202] rfl ?_
                  exact rn_iret dX10_open_243 rfl rfl (rq_in ⟨hS203, v202, rfl, rv202, fk205⟩)
              · have ch89 := cv_ne h89
                have r206 : Rg (1) (1) v87 := rf_nel ch89 rv87 rk_0 (by decide) (by decide)
                refine rn_aload_n (i := 0) dX10_open_159 rfl rfl ?_
                refine rn_bipush (v := (11 : Int32)) dX10_open_160 (by decide) ?_
                refine rn_iload_n (i := 1) dX10_open_162 rfl rfl ?_
                refine rn_aload_n (i := 0) dX10_open_163 rfl rfl ?_
                refine rn_get q3 kg_SGModel_317 hl32 ((ho32 52 (by decide)).trans hx23) dX10_open_164 ?_
                refine rn_aload_n (i := 0) dX10_open_167 rfl rfl ?_
                refine rn_get q3 kg_SGModel_320 hl32 hx32 dX10_open_168 ?_
                refine rn_callV (a := 0) (b := 0) [.int (11 : Int32), .int (2200 : Int32), .int v20, .int v29] kl_SGModel_323 dX10_open_171 q3 hl32 rfl (t_X10_note G S w31 hS32.1 o0_ m0_ (11 : Int32) (rg_w rk_11 (by decide) (by decide)) (2200 : Int32) (rg_w rk_2200 (by decide) (by decide)) v20 v29) rfl rfl (Nat.le_of_ble_eq_true rfl) (Nat.le_of_ble_eq_true rfl) (Nat.le_of_ble_eq_true rfl) (Nat.le_of_ble_eq_true rfl) (Nat.le_of_ble_eq_true rfl) (Nat.le_of_ble_eq_true rfl) (fun _ _ h => False.elim h) (fun v9 w207 h208 => ?_)
                obtain ⟨hT210, v209, rfl, rv209, fkh208⟩ := h208
                have hS210 := St.tr hS32 hT210 rfl
                have ht211 := tw_eq (byt_fr hS32.1 hT210 rfl) ht34
                have fk212 : fK1 4 S ws w207 := fk_tr fk33 fkh208
                refine rn_stk [.int v209] rfl ?_
                exact rn_iret dX10_open_174 rfl rfl (rq_in ⟨hS210, v209, rfl, rv209, fk212⟩)
            · have ch83 := cv_ne h83
              have r213 : Rg (1) (1) v81 := rf_nel ch83 rv81 rk_0 (by decide) (by decide)
              refine rn_aload_n (i := 0) dX10_open_133 rfl rfl ?_
              refine rn_bipush (v := (10 : Int32)) dX10_open_134 (by decide) ?_
              refine rn_iload_n (i := 1) dX10_open_136 rfl rfl ?_
              refine rn_aload_n (i := 0) dX10_open_137 rfl rfl ?_
              refine rn_get q3 kg_SGModel_317 hl32 ((ho32 52 (by decide)).trans hx23) dX10_open_138 ?_
              refine rn_aload_n (i := 0) dX10_open_141 rfl rfl ?_
              refine rn_get q3 kg_SGModel_320 hl32 hx32 dX10_open_142 ?_
              refine rn_callV (a := 0) (b := 0) [.int (10 : Int32), .int (2200 : Int32), .int v20, .int v29] kl_SGModel_323 dX10_open_145 q3 hl32 rfl (t_X10_note G S w31 hS32.1 o0_ m0_ (10 : Int32) (rg_w rk_10 (by decide) (by decide)) (2200 : Int32) (rg_w rk_2200 (by decide) (by decide)) v20 v29) rfl rfl (Nat.le_of_ble_eq_true rfl) (Nat.le_of_ble_eq_true rfl) (Nat.le_of_ble_eq_true rfl) (Nat.le_of_ble_eq_true rfl) (Nat.le_of_ble_eq_true rfl) (Nat.le_of_ble_eq_true rfl) (fun _ _ h => False.elim h) (fun v9 w214 h215 => ?_)
              obtain ⟨hT217, v216, rfl, rv216, fkh215⟩ := h215
              have hS217 := St.tr hS32 hT217 rfl
              have ht218 := tw_eq (byt_fr hS32.1 hT217 rfl) ht34
              have fk219 : fK1 4 S ws w214 := fk_tr fk33 fkh215
              refine rn_stk [.int v216] rfl ?_
              exact rn_iret dX10_open_148 rfl rfl (rq_in ⟨hS217, v216, rfl, rv216, fk219⟩)
          · have ch72 := cv_ne h72
            refine rn_aload_n (i := 0) dX10_open_91 rfl rfl ?_
            refine rn_bipush (v := (9 : Int32)) dX10_open_92 (by decide) ?_
            refine rn_iload_n (i := 1) dX10_open_94 rfl rfl ?_
            refine rn_aload_n (i := 0) dX10_open_95 rfl rfl ?_
            refine rn_get q3 kg_SGModel_317 hl32 ((ho32 52 (by decide)).trans hx23) dX10_open_96 ?_
            refine rn_aload_n (i := 0) dX10_open_99 rfl rfl ?_
            refine rn_get q3 kg_SGModel_320 hl32 hx32 dX10_open_100 ?_
            refine rn_callV (a := 0) (b := 0) [.int (9 : Int32), .int (2200 : Int32), .int v20, .int v29] kl_SGModel_323 dX10_open_103 q3 hl32 rfl (t_X10_note G S w31 hS32.1 o0_ m0_ (9 : Int32) (rg_w rk_9 (by decide) (by decide)) (2200 : Int32) (rg_w rk_2200 (by decide) (by decide)) v20 v29) rfl rfl (Nat.le_of_ble_eq_true rfl) (Nat.le_of_ble_eq_true rfl) (Nat.le_of_ble_eq_true rfl) (Nat.le_of_ble_eq_true rfl) (Nat.le_of_ble_eq_true rfl) (Nat.le_of_ble_eq_true rfl) (fun _ _ h => False.elim h) (fun v9 w220 h221 => ?_)
            obtain ⟨hT223, v222, rfl, rv222, fkh221⟩ := h221
            have hS223 := St.tr hS32 hT223 rfl
            have ht224 := tw_eq (byt_fr hS32.1 hT223 rfl) ht34
            have fk225 : fK1 4 S ws w220 := fk_tr fk33 fkh221
            refine rn_stk [.int v222] rfl ?_
            exact rn_iret dX10_open_106 rfl rfl (rq_in ⟨hS223, v222, rfl, rv222, fk225⟩)
    · have ch15 := cv_ne h15
      have r226 : Rg (1) (3) v14 := rf_nel ch15 rv14 rk_0 (by decide) (by decide)
      refine rn_bipush (v := (8 : Int32)) dX10_open_21 (by decide) ?_
      exact rn_iret dX10_open_23 rfl rfl (rq_in ⟨hS0, (8 : Int32), rfl, (rg_w rk_8 (by decide) (by decide)), fk0⟩)
