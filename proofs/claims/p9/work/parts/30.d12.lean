abbrev q_t_X10_isBroken_6600 (G : rn_G) (S : ts_S) (ws : va_W) (x2_ : Int32) : rn_R → va_W → Prop := rQ (fun v w => ws = w ∧ (∃ x : Int32, v = some (.int x) ∧ Rg (0) (1) x ∧ (x = 0 → 20 ≤ tw (byt ws) 6602 ∧ tw (byt ws) 6602 ≤ x2_.toInt))) (fun E w => False)
set_option maxRecDepth 20000 in
set_option maxHeartbeats 4000000 in
theorem t_X10_isBroken_6600 (G : rn_G) (S : ts_S) (ws : va_W) (hW : ts_W G S ws) (o0_ : Nat) (m0_ : (o0_, 30) ∈ S) (x2_ : Int32) : Rn G mX10_isBroken 2 45 0 0 0 (lv_args 0 [.ref o0_, .int (6600 : Int32), .int x2_]) [] ws (q_t_X10_isBroken_6600 G S ws x2_) := by
  obtain ⟨ob1, hob1⟩ := hW.2.1.2
  obtain ⟨T2, ht2⟩ : ∃ t : Int, tw (byt ws) 6602 = t := ⟨_, rfl⟩
  refine rn_lv [(0, .ref o0_), (1, .int (6600 : Int32)), (2, .int x2_)] rfl ?_
  refine rn_iload_n (i := 2) dX10_isBroken_0 rfl rfl ?_
  refine rn_bipush (v := (20 : Int32)) dX10_isBroken_1 (by decide) ?_
  refine rn_icmp_lt (tgt := 51) dX10_isBroken_3 (by decide) (fun h3 => ?_) (fun h3 => ?_)
  · have ch3 := cv_lt h3
    have r4 : Rg (-2147483648) (19) x2_ := rf_ltx ch3 (rg_any x2_) rk_20 (by decide)
    refine rn_iconst (v := (1 : Int32)) dX10_isBroken_51 (by decide) ?_
    refine rn_goto (tgt := 56) dX10_isBroken_52 (by decide) ?_
    exact rn_iret dX10_isBroken_56 rfl rfl (rq_in ⟨rfl, (1 : Int32), rfl, (rg_w rk_1 (by decide) (by decide)), (fun h => absurd h (by decide))⟩)
  · have ch3 := cv_nlt h3
    have r5 : Rg (20) (2147483647) x2_ := rf_ley ch3 rk_20 (rg_any x2_) (by decide)
    refine rn_aload_n (i := 0) dX10_isBroken_6 rfl rfl ?_
    obtain ⟨q6, fs6, hq6, hl6, hf6⟩ := ts_obj hW m0_ hk_30
    obtain ⟨o7, hx7, m7⟩ := fs_r hf6 2 rfl
    refine rn_get q6 kg_SGModel_7 hl6 hx7 dX10_isBroken_7 ?_
    refine rn_iload_n (i := 1) dX10_isBroken_10 rfl rfl ?_
    obtain ⟨q8, f8, hq8, hl8, hf8⟩ := ts_ia hW m7 hk_33
    refine rs_iald q8 hl8 hf8 rfl rk_6600 (by decide) (by decide) dX10_isBroken_11 (fun v9 ev9 rv9 => ?_)
    have hbv9 : byt ws 6600 = v9 := by rw [byt_of hW hq8 hl8, ev9]; exact congrArg _ (by decide)
    refine rn_bipush (v := (69 : Int32)) dX10_isBroken_12 (by decide) ?_
    refine rn_icmp_ne (tgt := 51) dX10_isBroken_14 (by decide) (fun h10 => ?_) (fun h10 => ?_)
    · have ch10 := cv_ne h10
      refine rn_iconst (v := (1 : Int32)) dX10_isBroken_51 (by decide) ?_
      refine rn_goto (tgt := 56) dX10_isBroken_52 (by decide) ?_
      exact rn_iret dX10_isBroken_56 rfl rfl (rq_in ⟨rfl, (1 : Int32), rfl, (rg_w rk_1 (by decide) (by decide)), (fun h => absurd h (by decide))⟩)
    · have ch10 := cv_eq h10
      have r11 : Rg (69) (69) v9 := rf_eqx ch10 rv9 rk_69 (by decide) (by decide)
      refine rn_aload_n (i := 0) dX10_isBroken_17 rfl rfl ?_
      refine rn_iload_n (i := 1) dX10_isBroken_18 rfl rfl ?_
      refine rn_iconst (v := (2 : Int32)) dX10_isBroken_19 (by decide) ?_
      refine rn_iadd dX10_isBroken_20 (rn_topi (6602 : Int32) (by decide) ?_)
      refine rn_callV (a := 0) (b := 0) [.int (6602 : Int32)] kl_SGModel_140 dX10_isBroken_21 q6 hl6 rfl (t_X10_two G S ws hW o0_ m0_ (6602 : Int32) (rg_w rk_6602 (by decide) (by decide))) rfl rfl (Nat.le_of_ble_eq_true rfl) (Nat.le_of_ble_eq_true rfl) (Nat.le_of_ble_eq_true rfl) (Nat.le_of_ble_eq_true rfl) (Nat.le_of_ble_eq_true rfl) (Nat.le_of_ble_eq_true rfl) (fun _ _ h => False.elim h) (fun v9 w13 h14 => ?_)
      obtain ⟨rfl, v15, rfl, rv15, xah14⟩ := h14
      have ev15 : v15.toInt = T2 := (xah14 6602 (by decide)).trans ht2
      refine rn_stk [.int v15] rfl ?_
      refine rn_bipush (v := (20 : Int32)) dX10_isBroken_24 (by decide) ?_
      refine rn_icmp_lt (tgt := 51) dX10_isBroken_26 (by decide) (fun h17 => ?_) (fun h17 => ?_)
      · have ch17 := cv_lt h17
        have r18 : Rg (0) (19) v15 := rf_ltx ch17 rv15 rk_20 (by decide)
        refine rn_iconst (v := (1 : Int32)) dX10_isBroken_51 (by decide) ?_
        refine rn_goto (tgt := 56) dX10_isBroken_52 (by decide) ?_
        exact rn_iret dX10_isBroken_56 rfl rfl (rq_in ⟨rfl, (1 : Int32), rfl, (rg_w rk_1 (by decide) (by decide)), (fun h => absurd h (by decide))⟩)
      · have ch17 := cv_nlt h17
        have r19 : Rg (20) (65535) v15 := rf_ley ch17 rk_20 rv15 (by decide)
        refine rn_aload_n (i := 0) dX10_isBroken_29 rfl rfl ?_
        refine rn_iload_n (i := 1) dX10_isBroken_30 rfl rfl ?_
        refine rn_iconst (v := (2 : Int32)) dX10_isBroken_31 (by decide) ?_
        refine rn_iadd dX10_isBroken_32 (rn_topi (6602 : Int32) (by decide) ?_)
        refine rn_callV (a := 0) (b := 0) [.int (6602 : Int32)] kl_SGModel_140 dX10_isBroken_33 q6 hl6 rfl (t_X10_two G S ws hW o0_ m0_ (6602 : Int32) (rg_w rk_6602 (by decide) (by decide))) rfl rfl (Nat.le_of_ble_eq_true rfl) (Nat.le_of_ble_eq_true rfl) (Nat.le_of_ble_eq_true rfl) (Nat.le_of_ble_eq_true rfl) (Nat.le_of_ble_eq_true rfl) (Nat.le_of_ble_eq_true rfl) (fun _ _ h => False.elim h) (fun v9 w21 h22 => ?_)
        obtain ⟨rfl, v23, rfl, rv23, xah22⟩ := h22
        have ev23 : v23.toInt = T2 := (xah22 6602 (by decide)).trans ht2
        refine rn_stk [.int v23] rfl ?_
        refine rn_iload_n (i := 2) dX10_isBroken_36 rfl rfl ?_
        refine rn_icmp_gt (tgt := 51) dX10_isBroken_37 (by decide) (fun h25 => ?_) (fun h25 => ?_)
        · have ch25 := cv_lt h25
          have r26 : Rg (20) (65534) x2_ := rf_ltx ch25 r5 rv23 (by decide)
          have r27 : Rg (21) (65535) v23 := rf_lty ch25 r5 rv23 (by decide)
          refine rn_iconst (v := (1 : Int32)) dX10_isBroken_51 (by decide) ?_
          refine rn_goto (tgt := 56) dX10_isBroken_52 (by decide) ?_
          exact rn_iret dX10_isBroken_56 rfl rfl (rq_in ⟨rfl, (1 : Int32), rfl, (rg_w rk_1 (by decide) (by decide)), (fun h => absurd h (by decide))⟩)
        · have ch25 := cv_nlt h25
          refine rn_aload_n (i := 0) dX10_isBroken_40 rfl rfl ?_
          refine rn_iload_n (i := 1) dX10_isBroken_41 rfl rfl ?_
          refine rn_iconst (v := (1 : Int32)) dX10_isBroken_42 (by decide) ?_
          refine rn_callV (a := 0) (b := 0) [.int (6600 : Int32), .int (1 : Int32)] kl_SGModel_151 dX10_isBroken_43 q6 hl6 rfl (t_X10_fold G S ws hW o0_ m0_ (6600 : Int32) (rg_w rk_6600 (by decide) (by decide)) (1 : Int32) (rg_w rk_1 (by decide) (by decide))) rfl rfl (Nat.le_of_ble_eq_true rfl) (Nat.le_of_ble_eq_true rfl) (Nat.le_of_ble_eq_true rfl) (Nat.le_of_ble_eq_true rfl) (Nat.le_of_ble_eq_true rfl) (Nat.le_of_ble_eq_true rfl) (fun _ _ h => False.elim h) (fun v9 w28 h29 => ?_)
          obtain ⟨rfl, v30, rfl, rv30⟩ := h29
          refine rn_stk [.int v30] rfl ?_
          refine rn_ldc (v := (65535 : Int32)) wd_1093 dX10_isBroken_46 ?_
          refine rn_icmp_eq (tgt := 55) dX10_isBroken_48 (by decide) (fun h32 => ?_) (fun h32 => ?_)
          · have ch32 := cv_eq h32
            have r33 : Rg (65535) (65535) v30 := rf_eqx ch32 rv30 rk_65535 (by decide) (by decide)
            refine rn_iconst (v := (0 : Int32)) dX10_isBroken_55 (by decide) ?_
            exact rn_iret dX10_isBroken_56 rfl rfl (rq_in ⟨rfl, (0 : Int32), rfl, (rg_w rk_0 (by decide) (by decide)), (fun _ => by rw [ht2]; exact ⟨by have := rk_20.1; have := rk_20.2; omega, by have := r5.1; have := r5.2; omega⟩)⟩)
          · have ch32 := cv_ne h32
            have r34 : Rg (-2147483648) (65534) v30 := rf_neh ch32 rv30 rk_65535 (by decide) (by decide)
            refine rn_iconst (v := (1 : Int32)) dX10_isBroken_51 (by decide) ?_
            refine rn_goto (tgt := 56) dX10_isBroken_52 (by decide) ?_
            exact rn_iret dX10_isBroken_56 rfl rfl (rq_in ⟨rfl, (1 : Int32), rfl, (rg_w rk_1 (by decide) (by decide)), (fun h => absurd h (by decide))⟩)
abbrev q_t_X10_hop_6600 (G : rn_G) (S : ts_S) (ws : va_W) : rn_R → va_W → Prop := rQ (fun v w => St G S [33] ws S w ∧ (v = none ∧ (bsame (6608) (6612) ws w))) (fun E w => False)
set_option maxRecDepth 20000 in
set_option maxHeartbeats 4000000 in
theorem t_X10_hop_6600 (G : rn_G) (S : ts_S) (ws : va_W) (hW : ts_W G S ws) (o0_ : Nat) (m0_ : (o0_, 30) ∈ S) (hh_ : 1 ≤ (byt ws 6608).toInt) : Rn G mX10_hop 3 66 0 0 0 (lv_args 0 [.ref o0_, .int (6600 : Int32)]) [] ws (q_t_X10_hop_6600 G S ws ) := by
  have hS0 : St G S [33] ws S ws := St.rf hW
  obtain ⟨ob1, hob1⟩ := hS0.1.2.1.2
  have bs0 : bsame (6608) (6612) ws ws := bs_rf
  refine rn_lv [(0, .ref o0_), (1, .int (6600 : Int32))] rfl ?_
  refine rn_aload_n (i := 0) dX10_hop_0 rfl rfl ?_
  obtain ⟨q2, fs2, hq2, hl2, hf2⟩ := ts_obj hS0.1 m0_ hk_30
  obtain ⟨o3, hx3, m3⟩ := fs_r hf2 2 rfl
  refine rn_get q2 kg_SGModel_7 hl2 hx3 dX10_hop_1 ?_
  refine rn_iload_n (i := 1) dX10_hop_4 rfl rfl ?_
  refine rn_bipush (v := (8 : Int32)) dX10_hop_5 (by decide) ?_
  refine rn_iadd dX10_hop_7 (rn_topi (6608 : Int32) (by decide) ?_)
  refine rn_dup2_11 dX10_hop_8 rfl rfl ?_
  obtain ⟨q5, f5, hq5, hl5, hf5⟩ := ts_ia hS0.1 m3 hk_33
  refine rs_iald q5 hl5 hf5 rfl rk_6608 (by decide) (by decide) dX10_hop_9 (fun v6 ev6 rv6 => ?_)
  have hbv6 : byt ws 6608 = v6 := by rw [byt_of hS0.1 hq5 hl5, ev6]; exact congrArg _ (by decide)
  rw [hbv6] at hh_
  have r7 : Rg (1) (255) v6 := ⟨hh_, rv6.2⟩
  refine rn_iconst (v := (1 : Int32)) dX10_hop_10 (by decide) ?_
  refine rs_subC (0) (254) r7 rk_1 dX10_hop_11 (by decide) (fun v8 ev8 rv8 => ?_)
  refine rs_iast q5 hS0 hq5 hl5 hf5 hk_33 rfl rfl rk_6608 (by decide) (by decide) (rg_w rv8 (by decide) (by decide)) dX10_hop_12 (fun w9 f10 hS10 hl10 hf10 hu10 hn10 => ?_)
  have bs11 := bs_st bs0 hS0.1 hS10.1 hq5 hl5 hl10 hu10 (by have := rk_6608.1; have := rk_6608.2; omega) (by constructor <;> (have := rk_6608.1; have := rk_6608.2; omega))
  refine rn_aload_n (i := 0) dX10_hop_13 rfl rfl ?_
  refine rn_iload_n (i := 1) dX10_hop_14 rfl rfl ?_
  refine rn_callV (a := 0) (b := 0) [.int (6600 : Int32)] kl_SGModel_184 dX10_hop_15 q2 ((hn10 _ (ts_ne hq5 hq2 rfl)).trans hl2) rfl (t_X10_setSum G S w9 hS10.1 o0_ m0_ (6600 : Int32) (rg_w rk_6600 (by decide) (by decide))) rfl rfl (Nat.le_of_ble_eq_true rfl) (Nat.le_of_ble_eq_true rfl) (Nat.le_of_ble_eq_true rfl) (Nat.le_of_ble_eq_true rfl) (Nat.le_of_ble_eq_true rfl) (Nat.le_of_ble_eq_true rfl) (fun _ _ h => False.elim h) (fun v9 w12 h13 => ?_)
  obtain ⟨hT14, rfl, xah13⟩ := h13
  have hS14 := St.tr hS10 hT14 rfl
  have bs15 := bs_tr bs11 xah13 (by have := rk_6600.1; have := rk_6600.2; omega) (by have := rk_6600.1; have := rk_6600.2; omega)
  refine rn_stk [] rfl ?_
  exact rn_vret dX10_hop_18 rfl (rq_in ⟨hS14, rfl, bs15⟩)
abbrev q_t_X10_send_6600 (G : rn_G) (S : ts_S) (ws : va_W) : rn_R → va_W → Prop := rQ (fun v w => St G S [30, 33, 65] ws S w ∧ (∃ x : Int32, v = some (.int x) ∧ Rg (0) (0) x)) (fun E w => False)
set_option maxRecDepth 20000 in
set_option maxHeartbeats 4000000 in
theorem t_X10_send_6600 (G : rn_G) (S : ts_S) (ws : va_W) (hW : ts_W G S ws) (o0_ : Nat) (m0_ : (o0_, 30) ∈ S) (x2_ : Int32) (hw6602_ : 0 ≤ tw (byt ws) 6602 ∧ tw (byt ws) 6602 ≤ 2047) : Rn G mX10_send 3 66 0 0 0 (lv_args 0 [.ref o0_, .int (6600 : Int32), .int x2_]) [] ws (q_t_X10_send_6600 G S ws ) := by
  have hS0 : St G S [30, 33, 65] ws S ws := St.rf hW
  obtain ⟨ob1, hob1⟩ := hS0.1.2.1.2
  obtain ⟨T2, ht2⟩ : ∃ t : Int, tw (byt ws) 6602 = t := ⟨_, rfl⟩
  rw [ht2] at hw6602_
  refine rn_lv [(0, .ref o0_), (1, .int (6600 : Int32)), (2, .int x2_)] rfl ?_
  refine rn_aload_n (i := 0) dX10_send_0 rfl rfl ?_
  refine rn_iload_n (i := 1) dX10_send_1 rfl rfl ?_
  obtain ⟨q3, fs3, hq3, hl3, hf3⟩ := ts_obj hS0.1 m0_ hk_30
  refine rn_inV (d' := 1) (z' := 21) [.int (6600 : Int32)] kl_SGModel_165 dX10_send_2 q3 hl3 rfl rfl rfl (Nat.le_of_ble_eq_true rfl) (Nat.le_of_ble_eq_true rfl) (Nat.le_of_ble_eq_true rfl) (Nat.le_of_ble_eq_true rfl) ?_
  refine rn_lv [(0, .ref o0_), (1, .int (6600 : Int32))] rfl ?_
  refine rn_aload_n (i := 0) dX10_lengthOf_0 rfl rfl ?_
  refine rn_iload_n (i := 1) dX10_lengthOf_1 rfl rfl ?_
  refine rn_iconst (v := (2 : Int32)) dX10_lengthOf_2 (by decide) ?_
  refine rn_iadd dX10_lengthOf_3 (rn_topi (6602 : Int32) (by decide) ?_)
  refine rn_callV (a := 0) (b := 0) [.int (6602 : Int32)] kl_SGModel_140 dX10_lengthOf_4 q3 hl3 rfl (t_X10_two G S ws hS0.1 o0_ m0_ (6602 : Int32) (rg_w rk_6602 (by decide) (by decide))) rfl rfl (Nat.le_of_ble_eq_true rfl) (Nat.le_of_ble_eq_true rfl) (Nat.le_of_ble_eq_true rfl) (Nat.le_of_ble_eq_true rfl) (Nat.le_of_ble_eq_true rfl) (Nat.le_of_ble_eq_true rfl) (fun _ _ h => False.elim h) (fun v9 w5 h6 => ?_)
  obtain ⟨rfl, v7, rfl, rv7, xah6⟩ := h6
  have ev7 : v7.toInt = T2 := (xah6 6602 (by decide)).trans ht2
  have r9 : Rg (0) (2047) v7 := ⟨by have := rv7.1; have := rv7.2; omega, by have := rv7.1; have := rv7.2; omega⟩
  refine rn_stk [.int v7] rfl ?_
  refine rn_iret dX10_lengthOf_7 rfl rfl (rq_in ?_)
  refine rn_stk [.int v7] rfl ?_
  refine rn_istore_n dX10_send_5 rfl (by decide) [(0, .ref o0_), (1, .int (6600 : Int32)), (2, .int x2_), (3, .int v7)] rfl ?_
  refine rn_aload_n (i := 0) dX10_send_6 rfl rfl ?_
  refine rn_iload_n (i := 2) dX10_send_7 rfl rfl ?_
  refine rs_put q3 (kp_SGModel_92 _) hS0 hq3 hl3 hf3 hk_30 rfl rfl (tv_i (rg_any x2_)) rfl rfl dX10_send_8 (fun w10 fs11 hS11 hl11 hf11 hx11 ho11 hn11 => ?_)
  have ht12 := tw_eq (byt_ne hn11 (ts_ne hq3 hob1 rfl)) ht2
  refine rn_aload_n (i := 0) dX10_send_11 rfl rfl ?_
  obtain ⟨o13, hx13, m13⟩ := fs_r hf11 34 rfl
  refine rn_get q3 kg_SGModel_89 hl11 hx13 dX10_send_12 ?_
  refine rn_iconst (v := (1 : Int32)) dX10_send_15 (by decide) ?_
  refine rn_iconst (v := (0 : Int32)) dX10_send_16 (by decide) ?_
  obtain ⟨q14, f14, hq14, hl14, hf14⟩ := ts_ia hS11.1 m13 hk_65
  refine rs_iast q14 hS11 hq14 hl14 hf14 hk_65 rfl rfl rk_1 (by decide) (by decide) (rg_w rk_0 (by decide) (by decide)) dX10_send_17 (fun w15 f16 hS16 hl16 hf16 hu16 hn16 => ?_)
  have ht17 := tw_eq (byt_ne hn16 (ts_ne hq14 hob1 rfl)) ht12
  refine rn_iload_n (i := 3) dX10_send_18 rfl rfl ?_
  refine rn_sipush (v := (1500 : Int32)) dX10_send_19 (by decide) ?_
  refine rn_icmp_gt (tgt := 43) dX10_send_22 (by decide) (fun h18 => ?_) (fun h18 => ?_)
  · have ch18 := cv_lt h18
    have r19 : Rg (1501) (2047) v7 := rf_lty ch18 rk_1500 r9 (by decide)
    refine rn_aload_n (i := 0) dX10_send_43 rfl rfl ?_
    refine rn_iload_n (i := 1) dX10_send_44 rfl rfl ?_
    refine rn_callV (a := 0) (b := 0) [.int (6600 : Int32)] kl_SGModel_155 dX10_send_45 q3 ((hn16 _ (ts_ne hq14 hq3 rfl)).trans hl11) rfl (t_X10_hasMore G S w15 hS16.1 o0_ m0_ (6600 : Int32) (rg_w rk_6600 (by decide) (by decide))) rfl rfl (Nat.le_of_ble_eq_true rfl) (Nat.le_of_ble_eq_true rfl) (Nat.le_of_ble_eq_true rfl) (Nat.le_of_ble_eq_true rfl) (Nat.le_of_ble_eq_true rfl) (Nat.le_of_ble_eq_true rfl) (fun _ _ h => False.elim h) (fun v9 w20 h21 => ?_)
    obtain ⟨rfl, v22, rfl, rv22⟩ := h21
    refine rn_stk [.int v22] rfl ?_
    refine rn_istore dX10_send_48 (by decide) [(0, .ref o0_), (1, .int (6600 : Int32)), (2, .int x2_), (3, .int v7), (4, .int v22)] rfl ?_
    refine rn_aload_n (i := 0) dX10_send_50 rfl rfl ?_
    refine rn_iload_n (i := 1) dX10_send_51 rfl rfl ?_
    refine rn_inV (d' := 1) (z' := 21) [.int (6600 : Int32)] kl_SGModel_159 dX10_send_52 q3 ((hn16 _ (ts_ne hq14 hq3 rfl)).trans hl11) rfl rfl rfl (Nat.le_of_ble_eq_true rfl) (Nat.le_of_ble_eq_true rfl) (Nat.le_of_ble_eq_true rfl) (Nat.le_of_ble_eq_true rfl) ?_
    refine rn_lv [(0, .ref o0_), (1, .int (6600 : Int32))] rfl ?_
    refine rn_aload_n (i := 0) dX10_offsetOf_0 rfl rfl ?_
    refine rn_iload_n (i := 1) dX10_offsetOf_1 rfl rfl ?_
    refine rn_bipush (v := (6 : Int32)) dX10_offsetOf_2 (by decide) ?_
    refine rn_iadd dX10_offsetOf_4 (rn_topi (6606 : Int32) (by decide) ?_)
    refine rn_callV (a := 0) (b := 0) [.int (6606 : Int32)] kl_SGModel_140 dX10_offsetOf_5 q3 ((hn16 _ (ts_ne hq14 hq3 rfl)).trans hl11) rfl (t_X10_two G S w15 hS16.1 o0_ m0_ (6606 : Int32) (rg_w rk_6606 (by decide) (by decide))) rfl rfl (Nat.le_of_ble_eq_true rfl) (Nat.le_of_ble_eq_true rfl) (Nat.le_of_ble_eq_true rfl) (Nat.le_of_ble_eq_true rfl) (Nat.le_of_ble_eq_true rfl) (Nat.le_of_ble_eq_true rfl) (fun _ _ h => False.elim h) (fun v9 w25 h26 => ?_)
    obtain ⟨rfl, v27, rfl, rv27, xah26⟩ := h26
    obtain ⟨T29, ht29⟩ : ∃ t : Int, tw (byt w15) 6606 = t := ⟨_, rfl⟩
    have ev27 : v27.toInt = T29 := (xah26 6606 (by decide)).trans ht29
    refine rn_stk [.int v27] rfl ?_
    refine rn_sipush (v := (8191 : Int32)) dX10_offsetOf_8 (by decide) ?_
    refine rn_iand dX10_offsetOf_11 (rn_nmE (rg_mask (hi := 8191) 13 8192 rfl rv27 rk_8191 (by decide)) (fun v30 ev30 rv30 => ?_))
    have fv30 : v30.toInt = T29 % 8192 := ev30.trans (congrArg (fun z => z % ((8192 : Nat) : Int)) ev27)
    refine rn_iret dX10_offsetOf_12 rfl rfl (rq_in ?_)
    refine rn_stk [.int v30] rfl ?_
    refine rn_istore dX10_send_55 (by decide) [(0, .ref o0_), (1, .int (6600 : Int32)), (2, .int x2_), (3, .int v7), (4, .int v22), (5, .int v30)] rfl ?_
    refine rn_aload_n (i := 0) dX10_send_57 rfl rfl ?_
    refine rn_iload_n (i := 1) dX10_send_58 rfl rfl ?_
    refine rn_sipush (v := (8800 : Int32)) dX10_send_59 (by decide) ?_
    refine rn_sipush (v := (1500 : Int32)) dX10_send_62 (by decide) ?_
    refine rn_callV (a := 0) (b := 0) [.int (6600 : Int32), .int (8800 : Int32), .int (1500 : Int32)] kl_SGModel_235 dX10_send_65 q3 ((hn16 _ (ts_ne hq14 hq3 rfl)).trans hl11) rfl (t_X10_move G S w15 hS16.1 o0_ m0_ (6600 : Int32) (8800 : Int32) (1500 : Int32) ⟨by have := rk_1500.1; have := rk_1500.2; have := rk_8800.1; have := rk_8800.2; have := rk_6600.1; have := rk_6600.2; omega, by have := rk_1500.1; have := rk_1500.2; have := rk_8800.1; have := rk_8800.2; have := rk_6600.1; have := rk_6600.2; omega, by have := rk_1500.1; have := rk_1500.2; have := rk_8800.1; have := rk_8800.2; have := rk_6600.1; have := rk_6600.2; omega, by have := rk_1500.1; have := rk_1500.2; have := rk_8800.1; have := rk_8800.2; have := rk_6600.1; have := rk_6600.2; omega⟩) rfl rfl (Nat.le_of_ble_eq_true rfl) (Nat.le_of_ble_eq_true rfl) (Nat.le_of_ble_eq_true rfl) (Nat.le_of_ble_eq_true rfl) (Nat.le_of_ble_eq_true rfl) (Nat.le_of_ble_eq_true rfl) (fun _ _ h => False.elim h) (fun v9 w31 h32 => ?_)
    obtain ⟨hT33, rfl, xah32⟩ := h32
    have hS33 := St.tr hS16 hT33 rfl
    have ht34 := bsame.keep xah32.1 ht17 (by have := rk_1500.1; have := rk_1500.2; have := rk_8800.1; have := rk_8800.2; have := rk_6600.1; have := rk_6600.2; omega)
    have ht35 := bsame.keep xah32.1 ht29 (by have := rk_1500.1; have := rk_1500.2; have := rk_8800.1; have := rk_8800.2; have := rk_6600.1; have := rk_6600.2; omega)
    refine rn_stk [] rfl ?_
    refine rn_aload_n (i := 0) dX10_send_68 rfl rfl ?_
    refine rn_sipush (v := (8802 : Int32)) dX10_send_69 (by decide) ?_
    refine rn_sipush (v := (1500 : Int32)) dX10_send_72 (by decide) ?_
    refine rn_callV (a := 0) (b := 0) [.int (8802 : Int32), .int (1500 : Int32)] kl_SGModel_144 dX10_send_75 q3 (hT33.fr hq3 rfl ((hn16 _ (ts_ne hq14 hq3 rfl)).trans hl11)) rfl (t_X10_putTwo G S w31 hS33.1 o0_ m0_ (8802 : Int32) (rg_w rk_8802 (by decide) (by decide)) (1500 : Int32)) rfl rfl (Nat.le_of_ble_eq_true rfl) (Nat.le_of_ble_eq_true rfl) (Nat.le_of_ble_eq_true rfl) (Nat.le_of_ble_eq_true rfl) (Nat.le_of_ble_eq_true rfl) (Nat.le_of_ble_eq_true rfl) (fun _ _ h => False.elim h) (fun v9 w36 h37 => ?_)
    obtain ⟨hT38, rfl, xah37⟩ := h37
    have hS38 := St.tr hS33 hT38 rfl
    have ht39 := bsame.keep xah37.1 ht34 (by have := rk_1500.1; have := rk_1500.2; have := rk_8802.1; have := rk_8802.2; omega)
    have ht40 := bsame.keep xah37.1 ht35 (by have := rk_1500.1; have := rk_1500.2; have := rk_8802.1; have := rk_8802.2; omega)
    have ht41 : tw (byt w36) 8802 = (1500 : Int32).toInt := xah37.2 8802 (by decide) (by have := rk_1500.1; omega) (by have := rk_1500.2; omega)
    refine rn_stk [] rfl ?_
    refine rn_aload_n (i := 0) dX10_send_78 rfl rfl ?_
    refine rn_sipush (v := (8800 : Int32)) dX10_send_79 (by decide) ?_
    refine rn_iconst (v := (1 : Int32)) dX10_send_82 (by decide) ?_
    refine rn_iload dX10_send_83 rfl ?_
    refine rn_callV (a := 0) (b := 0) [.int (8800 : Int32), .int (1 : Int32), .int v30] kl_SGModel_239 dX10_send_85 q3 (hT38.fr hq3 rfl (hT33.fr hq3 rfl ((hn16 _ (ts_ne hq14 hq3 rfl)).trans hl11))) rfl (t_X10_setOffset G S w36 hS38.1 o0_ m0_ (8800 : Int32) (rg_w rk_8800 (by decide) (by decide)) (1 : Int32) (rg_w rk_1 (by decide) (by decide)) v30) rfl rfl (Nat.le_of_ble_eq_true rfl) (Nat.le_of_ble_eq_true rfl) (Nat.le_of_ble_eq_true rfl) (Nat.le_of_ble_eq_true rfl) (Nat.le_of_ble_eq_true rfl) (Nat.le_of_ble_eq_true rfl) (fun _ _ h => False.elim h) (fun v9 w42 h43 => ?_)
    obtain ⟨hT44, rfl, xah43⟩ := h43
    have hS44 := St.tr hS38 hT44 rfl
    have ht45 := bsame.keep xah43 ht39 (by have := rv30.1; have := rv30.2; have := rk_8191.1; have := rk_8191.2; have := rv27.1; have := rv27.2; have := rk_1.1; have := rk_1.2; have := rk_8800.1; have := rk_8800.2; omega)
    have ht46 := bsame.keep xah43 ht40 (by have := rv30.1; have := rv30.2; have := rk_8191.1; have := rk_8191.2; have := rv27.1; have := rv27.2; have := rk_1.1; have := rk_1.2; have := rk_8800.1; have := rk_8800.2; omega)
    have ht47 := bsame.keep xah43 ht41 (by have := rv30.1; have := rv30.2; have := rk_8191.1; have := rk_8191.2; have := rv27.1; have := rv27.2; have := rk_1.1; have := rk_1.2; have := rk_8800.1; have := rk_8800.2; omega)
    refine rn_stk [] rfl ?_
    refine rn_aload_n (i := 0) dX10_send_88 rfl rfl ?_
    refine rn_sipush (v := (8800 : Int32)) dX10_send_89 (by decide) ?_
    refine rn_callV (a := 0) (b := 0) [.int (8800 : Int32)] kl_SGModel_184 dX10_send_92 q3 (hT44.fr hq3 rfl (hT38.fr hq3 rfl (hT33.fr hq3 rfl ((hn16 _ (ts_ne hq14 hq3 rfl)).trans hl11)))) rfl (t_X10_setSum G S w42 hS44.1 o0_ m0_ (8800 : Int32) (rg_w rk_8800 (by decide) (by decide))) rfl rfl (Nat.le_of_ble_eq_true rfl) (Nat.le_of_ble_eq_true rfl) (Nat.le_of_ble_eq_true rfl) (Nat.le_of_ble_eq_true rfl) (Nat.le_of_ble_eq_true rfl) (Nat.le_of_ble_eq_true rfl) (fun _ _ h => False.elim h) (fun v9 w48 h49 => ?_)
    obtain ⟨hT50, rfl, xah49⟩ := h49
    have hS50 := St.tr hS44 hT50 rfl
    have ht51 := bsame.keep xah49 ht45 (by have := rk_8800.1; have := rk_8800.2; omega)
    have ht52 := bsame.keep xah49 ht46 (by have := rk_8800.1; have := rk_8800.2; omega)
    have ht53 := bsame.keep xah49 ht47 (by have := rk_8800.1; have := rk_8800.2; omega)
    refine rn_stk [] rfl ?_
    refine rn_aload_n (i := 0) dX10_send_95 rfl rfl ?_
    refine rn_get q3 kg_SGModel_89 (hT50.fr hq3 rfl (hT44.fr hq3 rfl (hT38.fr hq3 rfl (hT33.fr hq3 rfl ((hn16 _ (ts_ne hq14 hq3 rfl)).trans hl11))))) hx13 dX10_send_96 ?_
    refine rn_iconst (v := (0 : Int32)) dX10_send_99 (by decide) ?_
    refine rn_sipush (v := (1500 : Int32)) dX10_send_100 (by decide) ?_
    refine rs_iast q14 hS50 hq14 (hT50.fr hq14 rfl (hT44.fr hq14 rfl (hT38.fr hq14 rfl (hT33.fr hq14 rfl hl16)))) hf16 hk_65 rfl rfl rk_0 (by decide) (by decide) (rg_w rk_1500 (by decide) (by decide)) dX10_send_103 (fun w54 f55 hS55 hl55 hf55 hu55 hn55 => ?_)
    have ht56 := tw_eq (byt_ne hn55 (ts_ne hq14 hob1 rfl)) ht51
    have ht57 := tw_eq (byt_ne hn55 (ts_ne hq14 hob1 rfl)) ht52
    have ht58 := tw_eq (byt_ne hn55 (ts_ne hq14 hob1 rfl)) ht53
    refine rn_sipush (v := (11000 : Int32)) dX10_send_104 (by decide) ?_
    refine rn_istore dX10_send_107 (by decide) [(0, .ref o0_), (1, .int (6600 : Int32)), (2, .int x2_), (3, .int v7), (4, .int v22), (5, .int v30), (6, .int (11000 : Int32))] rfl ?_
    refine rn_aload_n (i := 0) dX10_send_109 rfl rfl ?_
    refine rn_iload_n (i := 1) dX10_send_110 rfl rfl ?_
    refine rn_iload dX10_send_111 rfl ?_
    refine rn_bipush (v := (20 : Int32)) dX10_send_113 (by decide) ?_
    refine rn_callV (a := 0) (b := 0) [.int (6600 : Int32), .int (11000 : Int32), .int (20 : Int32)] kl_SGModel_235 dX10_send_115 q3 ((hn55 _ (ts_ne hq14 hq3 rfl)).trans (hT50.fr hq3 rfl (hT44.fr hq3 rfl (hT38.fr hq3 rfl (hT33.fr hq3 rfl ((hn16 _ (ts_ne hq14 hq3 rfl)).trans hl11)))))) rfl (t_X10_move G S w54 hS55.1 o0_ m0_ (6600 : Int32) (11000 : Int32) (20 : Int32) ⟨by have := rk_20.1; have := rk_20.2; have := rk_11000.1; have := rk_11000.2; have := rk_6600.1; have := rk_6600.2; omega, by have := rk_20.1; have := rk_20.2; have := rk_11000.1; have := rk_11000.2; have := rk_6600.1; have := rk_6600.2; omega, by have := rk_20.1; have := rk_20.2; have := rk_11000.1; have := rk_11000.2; have := rk_6600.1; have := rk_6600.2; omega, by have := rk_20.1; have := rk_20.2; have := rk_11000.1; have := rk_11000.2; have := rk_6600.1; have := rk_6600.2; omega⟩) rfl rfl (Nat.le_of_ble_eq_true rfl) (Nat.le_of_ble_eq_true rfl) (Nat.le_of_ble_eq_true rfl) (Nat.le_of_ble_eq_true rfl) (Nat.le_of_ble_eq_true rfl) (Nat.le_of_ble_eq_true rfl) (fun _ _ h => False.elim h) (fun v9 w59 h60 => ?_)
    obtain ⟨hT61, rfl, xah60⟩ := h60
    have hS61 := St.tr hS55 hT61 rfl
    have ht62 := bsame.keep xah60.1 ht56 (by have := rk_20.1; have := rk_20.2; have := rk_11000.1; have := rk_11000.2; have := rk_6600.1; have := rk_6600.2; omega)
    have ht63 := bsame.keep xah60.1 ht57 (by have := rk_20.1; have := rk_20.2; have := rk_11000.1; have := rk_11000.2; have := rk_6600.1; have := rk_6600.2; omega)
    have ht64 := bsame.keep xah60.1 ht58 (by have := rk_20.1; have := rk_20.2; have := rk_11000.1; have := rk_11000.2; have := rk_6600.1; have := rk_6600.2; omega)
    refine rn_stk [] rfl ?_
    refine rn_aload_n (i := 0) dX10_send_118 rfl rfl ?_
    refine rn_iload_n (i := 1) dX10_send_119 rfl rfl ?_
    refine rn_sipush (v := (1500 : Int32)) dX10_send_120 (by decide) ?_
    refine rn_iadd dX10_send_123 (rn_topi (8100 : Int32) (by decide) ?_)
    refine rn_iload dX10_send_124 rfl ?_
    refine rn_bipush (v := (20 : Int32)) dX10_send_126 (by decide) ?_
    refine rn_iadd dX10_send_128 (rn_topi (11020 : Int32) (by decide) ?_)
    refine rn_iload_n (i := 3) dX10_send_129 rfl rfl ?_
    refine rn_sipush (v := (1500 : Int32)) dX10_send_130 (by decide) ?_
    refine rs_subC (1) (547) r19 rk_1500 dX10_send_133 (by decide) (fun v67 ev67 rv67 => ?_)
    refine rn_callV (a := 0) (b := 0) [.int (8100 : Int32), .int (11020 : Int32), .int v67] kl_SGModel_235 dX10_send_134 q3 (hT61.fr hq3 rfl ((hn55 _ (ts_ne hq14 hq3 rfl)).trans (hT50.fr hq3 rfl (hT44.fr hq3 rfl (hT38.fr hq3 rfl (hT33.fr hq3 rfl ((hn16 _ (ts_ne hq14 hq3 rfl)).trans hl11))))))) rfl (t_X10_move G S w59 hS61.1 o0_ m0_ (8100 : Int32) (11020 : Int32) v67 ⟨by have := rv67.1; have := rv67.2; have := rk_1500.1; have := rk_1500.2; have := r19.1; have := r19.2; have := rk_11020.1; have := rk_11020.2; have := rk_8100.1; have := rk_8100.2; omega, by have := rv67.1; have := rv67.2; have := rk_1500.1; have := rk_1500.2; have := r19.1; have := r19.2; have := rk_11020.1; have := rk_11020.2; have := rk_8100.1; have := rk_8100.2; omega, by have := rv67.1; have := rv67.2; have := rk_1500.1; have := rk_1500.2; have := r19.1; have := r19.2; have := rk_11020.1; have := rk_11020.2; have := rk_8100.1; have := rk_8100.2; omega, by have := rv67.1; have := rv67.2; have := rk_1500.1; have := rk_1500.2; have := r19.1; have := r19.2; have := rk_11020.1; have := rk_11020.2; have := rk_8100.1; have := rk_8100.2; omega⟩) rfl rfl (Nat.le_of_ble_eq_true rfl) (Nat.le_of_ble_eq_true rfl) (Nat.le_of_ble_eq_true rfl) (Nat.le_of_ble_eq_true rfl) (Nat.le_of_ble_eq_true rfl) (Nat.le_of_ble_eq_true rfl) (fun _ _ h => False.elim h) (fun v9 w68 h69 => ?_)
    obtain ⟨hT70, rfl, xah69⟩ := h69
    have hS70 := St.tr hS61 hT70 rfl
    have ht71 := bsame.keep xah69.1 ht62 (by have := rv67.1; have := rv67.2; have := rk_1500.1; have := rk_1500.2; have := r19.1; have := r19.2; have := rk_11020.1; have := rk_11020.2; have := rk_8100.1; have := rk_8100.2; omega)
    have ht72 := bsame.keep xah69.1 ht63 (by have := rv67.1; have := rv67.2; have := rk_1500.1; have := rk_1500.2; have := r19.1; have := r19.2; have := rk_11020.1; have := rk_11020.2; have := rk_8100.1; have := rk_8100.2; omega)
    have ht73 := bsame.keep xah69.1 ht64 (by have := rv67.1; have := rv67.2; have := rk_1500.1; have := rk_1500.2; have := r19.1; have := r19.2; have := rk_11020.1; have := rk_11020.2; have := rk_8100.1; have := rk_8100.2; omega)
    refine rn_stk [] rfl ?_
    refine rn_aload_n (i := 0) dX10_send_137 rfl rfl ?_
    refine rn_iload dX10_send_138 rfl ?_
    refine rn_iconst (v := (2 : Int32)) dX10_send_140 (by decide) ?_
    refine rn_iadd dX10_send_141 (rn_topi (11002 : Int32) (by decide) ?_)
    refine rn_iload_n (i := 3) dX10_send_142 rfl rfl ?_
    refine rn_sipush (v := (1480 : Int32)) dX10_send_143 (by decide) ?_
    refine rs_subC (21) (567) r19 rk_1480 dX10_send_146 (by decide) (fun v75 ev75 rv75 => ?_)
    refine rn_callV (a := 0) (b := 0) [.int (11002 : Int32), .int v75] kl_SGModel_144 dX10_send_147 q3 (hT70.fr hq3 rfl (hT61.fr hq3 rfl ((hn55 _ (ts_ne hq14 hq3 rfl)).trans (hT50.fr hq3 rfl (hT44.fr hq3 rfl (hT38.fr hq3 rfl (hT33.fr hq3 rfl ((hn16 _ (ts_ne hq14 hq3 rfl)).trans hl11)))))))) rfl (t_X10_putTwo G S w68 hS70.1 o0_ m0_ (11002 : Int32) (rg_w rk_11002 (by decide) (by decide)) v75) rfl rfl (Nat.le_of_ble_eq_true rfl) (Nat.le_of_ble_eq_true rfl) (Nat.le_of_ble_eq_true rfl) (Nat.le_of_ble_eq_true rfl) (Nat.le_of_ble_eq_true rfl) (Nat.le_of_ble_eq_true rfl) (fun _ _ h => False.elim h) (fun v9 w76 h77 => ?_)
    obtain ⟨hT78, rfl, xah77⟩ := h77
    have hS78 := St.tr hS70 hT78 rfl
    have ht79 := bsame.keep xah77.1 ht71 (by have := rv75.1; have := rv75.2; have := rk_1480.1; have := rk_1480.2; have := r19.1; have := r19.2; have := rk_11002.1; have := rk_11002.2; omega)
    have ht80 := bsame.keep xah77.1 ht72 (by have := rv75.1; have := rv75.2; have := rk_1480.1; have := rk_1480.2; have := r19.1; have := r19.2; have := rk_11002.1; have := rk_11002.2; omega)
    have ht81 := bsame.keep xah77.1 ht73 (by have := rv75.1; have := rv75.2; have := rk_1480.1; have := rk_1480.2; have := r19.1; have := r19.2; have := rk_11002.1; have := rk_11002.2; omega)
    have ht82 : tw (byt w76) 11002 = v75.toInt := xah77.2 11002 (by decide) (by have := rv75.1; omega) (by have := rv75.2; omega)
    refine rn_stk [] rfl ?_
    refine rn_aload_n (i := 0) dX10_send_150 rfl rfl ?_
    refine rn_iload dX10_send_151 rfl ?_
    refine rn_iload dX10_send_153 rfl ?_
    refine rn_iload dX10_send_155 rfl ?_
    refine rn_sipush (v := (185 : Int32)) dX10_send_157 (by decide) ?_
    refine rs_addC (185) (8376) rv30 rk_185 dX10_send_160 (by decide) (fun v83 ev83 rv83 => ?_)
    refine rn_callV (a := 0) (b := 0) [.int (11000 : Int32), .int v22, .int v83] kl_SGModel_239 dX10_send_161 q3 (hT78.fr hq3 rfl (hT70.fr hq3 rfl (hT61.fr hq3 rfl ((hn55 _ (ts_ne hq14 hq3 rfl)).trans (hT50.fr hq3 rfl (hT44.fr hq3 rfl (hT38.fr hq3 rfl (hT33.fr hq3 rfl ((hn16 _ (ts_ne hq14 hq3 rfl)).trans hl11))))))))) rfl (t_X10_setOffset G S w76 hS78.1 o0_ m0_ (11000 : Int32) (rg_w rk_11000 (by decide) (by decide)) v22 rv22 v83) rfl rfl (Nat.le_of_ble_eq_true rfl) (Nat.le_of_ble_eq_true rfl) (Nat.le_of_ble_eq_true rfl) (Nat.le_of_ble_eq_true rfl) (Nat.le_of_ble_eq_true rfl) (Nat.le_of_ble_eq_true rfl) (fun _ _ h => False.elim h) (fun v9 w84 h85 => ?_)
    obtain ⟨hT86, rfl, xah85⟩ := h85
    have hS86 := St.tr hS78 hT86 rfl
    have ht87 := bsame.keep xah85 ht79 (by have := rv83.1; have := rv83.2; have := rk_185.1; have := rk_185.2; have := rv30.1; have := rv30.2; have := rk_8191.1; have := rk_8191.2; have := rv27.1; have := rv27.2; have := rv22.1; have := rv22.2; have := rk_11000.1; have := rk_11000.2; omega)
    have ht88 := bsame.keep xah85 ht80 (by have := rv83.1; have := rv83.2; have := rk_185.1; have := rk_185.2; have := rv30.1; have := rv30.2; have := rk_8191.1; have := rk_8191.2; have := rv27.1; have := rv27.2; have := rv22.1; have := rv22.2; have := rk_11000.1; have := rk_11000.2; omega)
    have ht89 := bsame.keep xah85 ht81 (by have := rv83.1; have := rv83.2; have := rk_185.1; have := rk_185.2; have := rv30.1; have := rv30.2; have := rk_8191.1; have := rk_8191.2; have := rv27.1; have := rv27.2; have := rv22.1; have := rv22.2; have := rk_11000.1; have := rk_11000.2; omega)
    have ht90 := bsame.keep xah85 ht82 (by have := rv83.1; have := rv83.2; have := rk_185.1; have := rk_185.2; have := rv30.1; have := rv30.2; have := rk_8191.1; have := rk_8191.2; have := rv27.1; have := rv27.2; have := rv22.1; have := rv22.2; have := rk_11000.1; have := rk_11000.2; omega)
    refine rn_stk [] rfl ?_
    refine rn_aload_n (i := 0) dX10_send_164 rfl rfl ?_
    refine rn_iload dX10_send_165 rfl ?_
    refine rn_callV (a := 0) (b := 0) [.int (11000 : Int32)] kl_SGModel_184 dX10_send_167 q3 (hT86.fr hq3 rfl (hT78.fr hq3 rfl (hT70.fr hq3 rfl (hT61.fr hq3 rfl ((hn55 _ (ts_ne hq14 hq3 rfl)).trans (hT50.fr hq3 rfl (hT44.fr hq3 rfl (hT38.fr hq3 rfl (hT33.fr hq3 rfl ((hn16 _ (ts_ne hq14 hq3 rfl)).trans hl11)))))))))) rfl (t_X10_setSum G S w84 hS86.1 o0_ m0_ (11000 : Int32) (rg_w rk_11000 (by decide) (by decide))) rfl rfl (Nat.le_of_ble_eq_true rfl) (Nat.le_of_ble_eq_true rfl) (Nat.le_of_ble_eq_true rfl) (Nat.le_of_ble_eq_true rfl) (Nat.le_of_ble_eq_true rfl) (Nat.le_of_ble_eq_true rfl) (fun _ _ h => False.elim h) (fun v9 w91 h92 => ?_)
    obtain ⟨hT93, rfl, xah92⟩ := h92
    have hS93 := St.tr hS86 hT93 rfl
    have ht94 := bsame.keep xah92 ht87 (by have := rk_11000.1; have := rk_11000.2; omega)
    have ht95 := bsame.keep xah92 ht88 (by have := rk_11000.1; have := rk_11000.2; omega)
    have ht96 := bsame.keep xah92 ht89 (by have := rk_11000.1; have := rk_11000.2; omega)
    have ht97 := bsame.keep xah92 ht90 (by have := rk_11000.1; have := rk_11000.2; omega)
    refine rn_stk [] rfl ?_
    refine rn_aload_n (i := 0) dX10_send_170 rfl rfl ?_
    refine rn_get q3 kg_SGModel_89 (hT93.fr hq3 rfl (hT86.fr hq3 rfl (hT78.fr hq3 rfl (hT70.fr hq3 rfl (hT61.fr hq3 rfl ((hn55 _ (ts_ne hq14 hq3 rfl)).trans (hT50.fr hq3 rfl (hT44.fr hq3 rfl (hT38.fr hq3 rfl (hT33.fr hq3 rfl ((hn16 _ (ts_ne hq14 hq3 rfl)).trans hl11))))))))))) hx13 dX10_send_171 ?_
    refine rn_iconst (v := (1 : Int32)) dX10_send_174 (by decide) ?_
    refine rn_iload_n (i := 3) dX10_send_175 rfl rfl ?_
    refine rn_sipush (v := (1480 : Int32)) dX10_send_176 (by decide) ?_
    refine rs_subC (21) (567) r19 rk_1480 dX10_send_179 (by decide) (fun v98 ev98 rv98 => ?_)
    refine rs_iast q14 hS93 hq14 (hT93.fr hq14 rfl (hT86.fr hq14 rfl (hT78.fr hq14 rfl (hT70.fr hq14 rfl (hT61.fr hq14 rfl hl55))))) hf55 hk_65 rfl rfl rk_1 (by decide) (by decide) (rg_w rv98 (by decide) (by decide)) dX10_send_180 (fun w99 f100 hS100 hl100 hf100 hu100 hn100 => ?_)
    have ht101 := tw_eq (byt_ne hn100 (ts_ne hq14 hob1 rfl)) ht94
    have ht102 := tw_eq (byt_ne hn100 (ts_ne hq14 hob1 rfl)) ht95
    have ht103 := tw_eq (byt_ne hn100 (ts_ne hq14 hob1 rfl)) ht96
    have ht104 := tw_eq (byt_ne hn100 (ts_ne hq14 hob1 rfl)) ht97
    refine rn_iconst (v := (0 : Int32)) dX10_send_181 (by decide) ?_
    exact rn_iret dX10_send_182 rfl rfl (rq_in ⟨hS100, (0 : Int32), rfl, rk_0⟩)
  · have ch18 := cv_nlt h18
    have r105 : Rg (0) (1500) v7 := rf_lex ch18 r9 rk_1500 (by decide)
    refine rn_aload_n (i := 0) dX10_send_25 rfl rfl ?_
    refine rn_iload_n (i := 1) dX10_send_26 rfl rfl ?_
    refine rn_sipush (v := (8800 : Int32)) dX10_send_27 (by decide) ?_
    refine rn_iload_n (i := 3) dX10_send_30 rfl rfl ?_
    refine rn_callV (a := 0) (b := 0) [.int (6600 : Int32), .int (8800 : Int32), .int v7] kl_SGModel_235 dX10_send_31 q3 ((hn16 _ (ts_ne hq14 hq3 rfl)).trans hl11) rfl (t_X10_move G S w15 hS16.1 o0_ m0_ (6600 : Int32) (8800 : Int32) v7 ⟨by have := r105.1; have := r105.2; have := rk_8800.1; have := rk_8800.2; have := rk_6600.1; have := rk_6600.2; omega, by have := r105.1; have := r105.2; have := rk_8800.1; have := rk_8800.2; have := rk_6600.1; have := rk_6600.2; omega, by have := r105.1; have := r105.2; have := rk_8800.1; have := rk_8800.2; have := rk_6600.1; have := rk_6600.2; omega, by have := r105.1; have := r105.2; have := rk_8800.1; have := rk_8800.2; have := rk_6600.1; have := rk_6600.2; omega⟩) rfl rfl (Nat.le_of_ble_eq_true rfl) (Nat.le_of_ble_eq_true rfl) (Nat.le_of_ble_eq_true rfl) (Nat.le_of_ble_eq_true rfl) (Nat.le_of_ble_eq_true rfl) (Nat.le_of_ble_eq_true rfl) (fun _ _ h => False.elim h) (fun v9 w106 h107 => ?_)
    obtain ⟨hT108, rfl, xah107⟩ := h107
    have hS108 := St.tr hS16 hT108 rfl
    have ht109 := bsame.keep xah107.1 ht17 (by have := r105.1; have := r105.2; have := rk_8800.1; have := rk_8800.2; have := rk_6600.1; have := rk_6600.2; omega)
    refine rn_stk [] rfl ?_
    refine rn_aload_n (i := 0) dX10_send_34 rfl rfl ?_
    refine rn_get q3 kg_SGModel_89 (hT108.fr hq3 rfl ((hn16 _ (ts_ne hq14 hq3 rfl)).trans hl11)) hx13 dX10_send_35 ?_
    refine rn_iconst (v := (0 : Int32)) dX10_send_38 (by decide) ?_
    refine rn_iload_n (i := 3) dX10_send_39 rfl rfl ?_
    refine rs_iast q14 hS108 hq14 (hT108.fr hq14 rfl hl16) hf16 hk_65 rfl rfl rk_0 (by decide) (by decide) r105 dX10_send_40 (fun w110 f111 hS111 hl111 hf111 hu111 hn111 => ?_)
    have ht112 := tw_eq (byt_ne hn111 (ts_ne hq14 hob1 rfl)) ht109
    refine rn_iconst (v := (0 : Int32)) dX10_send_41 (by decide) ?_
    exact rn_iret dX10_send_42 rfl rfl (rq_in ⟨hS111, (0 : Int32), rfl, rk_0⟩)
abbrev q_t_X10_goIn_6600 (G : rn_G) (S : ts_S) (ws : va_W) : rn_R → va_W → Prop := rQ (fun v w => St G S [30, 33, 65] ws S w ∧ (∃ x : Int32, v = some (.int x) ∧ Rg (0) (6) x)) (fun E w => False)
set_option maxRecDepth 20000 in
set_option maxHeartbeats 4000000 in
theorem t_X10_goIn_6600 (G : rn_G) (S : ts_S) (ws : va_W) (hW : ts_W G S ws) (o0_ : Nat) (m0_ : (o0_, 30) ∈ S) (hw6602_ : 0 ≤ tw (byt ws) 6602 ∧ tw (byt ws) 6602 ≤ 2047) : Rn G mX10_goIn 4 92 0 0 0 (lv_args 0 [.ref o0_, .int (6600 : Int32)]) [] ws (q_t_X10_goIn_6600 G S ws ) := by
  have hS0 : St G S [30, 33, 65] ws S ws := St.rf hW
  obtain ⟨ob1, hob1⟩ := hS0.1.2.1.2
  obtain ⟨T2, ht2⟩ : ∃ t : Int, tw (byt ws) 6602 = t := ⟨_, rfl⟩
  rw [ht2] at hw6602_
  refine rn_lv [(0, .ref o0_), (1, .int (6600 : Int32))] rfl ?_
  refine rn_aload_n (i := 0) dX10_goIn_0 rfl rfl ?_
  obtain ⟨q3, fs3, hq3, hl3, hf3⟩ := ts_obj hS0.1 m0_ hk_30
  obtain ⟨o4, hx4, m4⟩ := fs_r hf3 2 rfl
  refine rn_get q3 kg_SGModel_7 hl3 hx4 dX10_goIn_1 ?_
  refine rn_iload_n (i := 1) dX10_goIn_4 rfl rfl ?_
  refine rn_bipush (v := (8 : Int32)) dX10_goIn_5 (by decide) ?_
  refine rn_iadd dX10_goIn_7 (rn_topi (6608 : Int32) (by decide) ?_)
  obtain ⟨q6, f6, hq6, hl6, hf6⟩ := ts_ia hS0.1 m4 hk_33
  refine rs_iald q6 hl6 hf6 rfl rk_6608 (by decide) (by decide) dX10_goIn_8 (fun v7 ev7 rv7 => ?_)
  have hbv7 : byt ws 6608 = v7 := by rw [byt_of hS0.1 hq6 hl6, ev7]; exact congrArg _ (by decide)
  refine rn_iconst (v := (2 : Int32)) dX10_goIn_9 (by decide) ?_
  refine rn_icmp_ge (tgt := 15) dX10_goIn_10 (by decide) (fun h8 => ?_) (fun h8 => ?_)
  · have ch8 := cv_le h8
    have r9 : Rg (2) (255) v7 := rf_ley ch8 rk_2 rv7 (by decide)
    refine rn_aload_n (i := 0) dX10_goIn_15 rfl rfl ?_
    refine rn_aload_n (i := 0) dX10_goIn_16 rfl rfl ?_
    refine rn_iload_n (i := 1) dX10_goIn_17 rfl rfl ?_
    refine rn_bipush (v := (16 : Int32)) dX10_goIn_18 (by decide) ?_
    refine rn_iadd dX10_goIn_20 (rn_topi (6616 : Int32) (by decide) ?_)
    refine rn_callV (a := 0) (b := 0) [.int (6616 : Int32)] kl_SGModel_218 dX10_goIn_21 q3 hl3 rfl (t_X10_four G S ws hS0.1 o0_ m0_ (6616 : Int32) (rg_w rk_6616 (by decide) (by decide))) rfl rfl (Nat.le_of_ble_eq_true rfl) (Nat.le_of_ble_eq_true rfl) (Nat.le_of_ble_eq_true rfl) (Nat.le_of_ble_eq_true rfl) (Nat.le_of_ble_eq_true rfl) (Nat.le_of_ble_eq_true rfl) (fun _ _ h => False.elim h) (fun v9 w11 h12 => ?_)
    obtain ⟨rfl, v13, rfl, rv13⟩ := h12
    refine rn_stk [.int v13, .ref o0_] rfl ?_
    refine rn_callV (a := 0) (b := 0) [.int v13] kl_SGModel_232 dX10_goIn_24 q3 hl3 rfl (t_X10_routeOf G S ws hS0.1 o0_ m0_ v13) rfl rfl (Nat.le_of_ble_eq_true rfl) (Nat.le_of_ble_eq_true rfl) (Nat.le_of_ble_eq_true rfl) (Nat.le_of_ble_eq_true rfl) (Nat.le_of_ble_eq_true rfl) (Nat.le_of_ble_eq_true rfl) (fun _ _ h => False.elim h) (fun v9 w15 h16 => ?_)
    obtain ⟨rfl, v17, rfl, rv17⟩ := h16
    refine rn_stk [.int v17] rfl ?_
    refine rn_if_eq (tgt := 32) dX10_goIn_27 (by decide) (fun h19 => ?_) (fun h19 => ?_)
    · have ch19 := cv_eq h19
      have r20 : Rg (0) (0) v17 := rf_eqx ch19 rv17 rk_0 (by decide) (by decide)
      refine rn_aload_n (i := 0) dX10_goIn_32 rfl rfl ?_
      refine rn_aload_n (i := 0) dX10_goIn_33 rfl rfl ?_
      refine rn_iload_n (i := 1) dX10_goIn_34 rfl rfl ?_
      refine rn_inV (d' := 1) (z' := 21) [.int (6600 : Int32)] kl_SGModel_165 dX10_goIn_35 q3 hl3 rfl rfl rfl (Nat.le_of_ble_eq_true rfl) (Nat.le_of_ble_eq_true rfl) (Nat.le_of_ble_eq_true rfl) (Nat.le_of_ble_eq_true rfl) ?_
      refine rn_lv [(0, .ref o0_), (1, .int (6600 : Int32))] rfl ?_
      refine rn_aload_n (i := 0) dX10_lengthOf_0 rfl rfl ?_
      refine rn_iload_n (i := 1) dX10_lengthOf_1 rfl rfl ?_
      refine rn_iconst (v := (2 : Int32)) dX10_lengthOf_2 (by decide) ?_
      refine rn_iadd dX10_lengthOf_3 (rn_topi (6602 : Int32) (by decide) ?_)
      refine rn_callV (a := 0) (b := 0) [.int (6602 : Int32)] kl_SGModel_140 dX10_lengthOf_4 q3 hl3 rfl (t_X10_two G S ws hS0.1 o0_ m0_ (6602 : Int32) (rg_w rk_6602 (by decide) (by decide))) rfl rfl (Nat.le_of_ble_eq_true rfl) (Nat.le_of_ble_eq_true rfl) (Nat.le_of_ble_eq_true rfl) (Nat.le_of_ble_eq_true rfl) (Nat.le_of_ble_eq_true rfl) (Nat.le_of_ble_eq_true rfl) (fun _ _ h => False.elim h) (fun v9 w22 h23 => ?_)
      obtain ⟨rfl, v24, rfl, rv24, xah23⟩ := h23
      have ev24 : v24.toInt = T2 := (xah23 6602 (by decide)).trans ht2
      have r26 : Rg (0) (2047) v24 := ⟨by have := rv24.1; have := rv24.2; omega, by have := rv24.1; have := rv24.2; omega⟩
      refine rn_stk [.int v24] rfl ?_
      refine rn_iret dX10_lengthOf_7 rfl rfl (rq_in ?_)
      refine rn_stk [.int v24, .ref o0_] rfl ?_
      refine rn_aload_n (i := 0) dX10_goIn_38 rfl rfl ?_
      refine rn_iload_n (i := 1) dX10_goIn_39 rfl rfl ?_
      refine rn_callV (a := 0) (b := 0) [.int (6600 : Int32)] kl_SGModel_270 dX10_goIn_40 q3 hl3 rfl (t_X10_hasDont G S ws hS0.1 o0_ m0_ (6600 : Int32) (rg_w rk_6600 (by decide) (by decide))) rfl rfl (Nat.le_of_ble_eq_true rfl) (Nat.le_of_ble_eq_true rfl) (Nat.le_of_ble_eq_true rfl) (Nat.le_of_ble_eq_true rfl) (Nat.le_of_ble_eq_true rfl) (Nat.le_of_ble_eq_true rfl) (fun _ _ h => False.elim h) (fun v9 w27 h28 => ?_)
      obtain ⟨rfl, v29, rfl, rv29⟩ := h28
      refine rn_stk [.int v29, .int v24, .ref o0_] rfl ?_
      refine rn_callV (a := 0) (b := 0) [.int v24, .int v29] kl_SGModel_275 dX10_goIn_43 q3 hl3 rfl (t_X10_isTooMuch G S ws hS0.1 o0_ m0_ v24 v29 rv29) rfl rfl (Nat.le_of_ble_eq_true rfl) (Nat.le_of_ble_eq_true rfl) (Nat.le_of_ble_eq_true rfl) (Nat.le_of_ble_eq_true rfl) (Nat.le_of_ble_eq_true rfl) (Nat.le_of_ble_eq_true rfl) (fun _ _ h => False.elim h) (fun v9 w31 h32 => ?_)
      obtain ⟨rfl, v33, rfl, rv33⟩ := h32
      refine rn_stk [.int v33] rfl ?_
      refine rn_if_eq (tgt := 52) dX10_goIn_46 (by decide) (fun h35 => ?_) (fun h35 => ?_)
      · have ch35 := cv_eq h35
        have r36 : Rg (0) (0) v33 := rf_eqx ch35 rv33 rk_0 (by decide) (by decide)
        refine rn_aload_n (i := 0) dX10_goIn_52 rfl rfl ?_
        refine rn_iload_n (i := 1) dX10_goIn_53 rfl rfl ?_
        refine rn_callV (a := 0) (b := 0) [.int (6600 : Int32)] kl_SGModel_279 dX10_goIn_54 q3 hl3 rfl (t_X10_hop_6600 G S ws hS0.1 o0_ m0_ (by rw [hbv7]; have := r9.1; have := r9.2; omega)) rfl rfl (Nat.le_of_ble_eq_true rfl) (Nat.le_of_ble_eq_true rfl) (Nat.le_of_ble_eq_true rfl) (Nat.le_of_ble_eq_true rfl) (Nat.le_of_ble_eq_true rfl) (Nat.le_of_ble_eq_true rfl) (fun _ _ h => False.elim h) (fun v9 w37 h38 => ?_)
        obtain ⟨hT39, rfl, xah38⟩ := h38
        have hS39 := St.tr hS0 hT39 rfl
        have ht40 := bsame.keep xah38 ht2 (by have := rk_6600.1; have := rk_6600.2; omega)
        refine rn_stk [] rfl ?_
        refine rn_aload_n (i := 0) dX10_goIn_57 rfl rfl ?_
        refine rn_iload_n (i := 1) dX10_goIn_58 rfl rfl ?_
        refine rn_iconst (v := (0 : Int32)) dX10_goIn_59 (by decide) ?_
        refine rn_callV (a := 0) (b := 0) [.int (6600 : Int32), .int (0 : Int32)] kl_SGModel_282 dX10_goIn_60 q3 (hT39.fr hq3 rfl hl3) rfl (t_X10_send_6600 G S w37 hS39.1 o0_ m0_ (0 : Int32) (by rw [ht40]; exact ⟨by omega, by omega⟩)) rfl rfl (Nat.le_of_ble_eq_true rfl) (Nat.le_of_ble_eq_true rfl) (Nat.le_of_ble_eq_true rfl) (Nat.le_of_ble_eq_true rfl) (Nat.le_of_ble_eq_true rfl) (Nat.le_of_ble_eq_true rfl) (fun _ _ h => False.elim h) (fun v9 w41 h42 => ?_)
        obtain ⟨hT44, v43, rfl, rv43⟩ := h42
        have hS44 := St.tr hS39 hT44 rfl
        refine rn_stk [.int v43] rfl ?_
        exact rn_iret dX10_goIn_63 rfl rfl (rq_in ⟨hS44, v43, rfl, (rg_w rv43 (by decide) (by decide))⟩)
      · have ch35 := cv_ne h35
        have r45 : Rg (1) (1) v33 := rf_nel ch35 rv33 rk_0 (by decide) (by decide)
        refine rn_bipush (v := (6 : Int32)) dX10_goIn_49 (by decide) ?_
        exact rn_iret dX10_goIn_51 rfl rfl (rq_in ⟨hS0, (6 : Int32), rfl, (rg_w rk_6 (by decide) (by decide))⟩)
    · have ch19 := cv_ne h19
      refine rn_iconst (v := (3 : Int32)) dX10_goIn_30 (by decide) ?_
      exact rn_iret dX10_goIn_31 rfl rfl (rq_in ⟨hS0, (3 : Int32), rfl, (rg_w rk_3 (by decide) (by decide))⟩)
  · have ch8 := cv_nle h8
    have r46 : Rg (0) (1) v7 := rf_ltx ch8 rv7 rk_2 (by decide)
    refine rn_iconst (v := (2 : Int32)) dX10_goIn_13 (by decide) ?_
    exact rn_iret dX10_goIn_14 rfl rfl (rq_in ⟨hS0, (2 : Int32), rfl, (rg_w rk_2 (by decide) (by decide))⟩)
abbrev q_t_X10_open_2200 (G : rn_G) (S : ts_S) (ws : va_W) : rn_R → va_W → Prop := rQ (fun v w => St G S [30, 33, 60, 62, 63, 65, 77, 78, 79, 80, 81] ws S w ∧ (∃ x : Int32, v = some (.int x) ∧ Rg (0) (17) x)) (fun E w => False)
set_option maxRecDepth 20000 in
set_option maxHeartbeats 4000000 in
theorem t_X10_open_2200 (G : rn_G) (S : ts_S) (ws : va_W) (hW : ts_W G S ws) (o0_ : Nat) (m0_ : (o0_, 30) ∈ S) (hw2202_ : 19 ≤ tw (byt ws) 2202 ∧ tw (byt ws) 2202 ≤ 2047) : Rn G mX10_open 6 134 0 0 0 (lv_args 0 [.ref o0_, .int (2200 : Int32)]) [] ws (q_t_X10_open_2200 G S ws ) := by
  have hS0 : St G S [30, 33, 60, 62, 63, 65, 77, 78, 79, 80, 81] ws S ws := St.rf hW
  obtain ⟨ob1, hob1⟩ := hS0.1.2.1.2
  obtain ⟨T2, ht2⟩ : ∃ t : Int, tw (byt ws) 2202 = t := ⟨_, rfl⟩
  rw [ht2] at hw2202_
  refine rn_lv [(0, .ref o0_), (1, .int (2200 : Int32))] rfl ?_
  refine rn_aload_n (i := 0) dX10_open_0 rfl rfl ?_
  refine rn_iload_n (i := 1) dX10_open_1 rfl rfl ?_
  obtain ⟨q3, fs3, hq3, hl3, hf3⟩ := ts_obj hS0.1 m0_ hk_30
  refine rn_inV (d' := 1) (z' := 21) [.int (2200 : Int32)] kl_SGModel_165 dX10_open_2 q3 hl3 rfl rfl rfl (Nat.le_of_ble_eq_true rfl) (Nat.le_of_ble_eq_true rfl) (Nat.le_of_ble_eq_true rfl) (Nat.le_of_ble_eq_true rfl) ?_
  refine rn_lv [(0, .ref o0_), (1, .int (2200 : Int32))] rfl ?_
  refine rn_aload_n (i := 0) dX10_lengthOf_0 rfl rfl ?_
  refine rn_iload_n (i := 1) dX10_lengthOf_1 rfl rfl ?_
  refine rn_iconst (v := (2 : Int32)) dX10_lengthOf_2 (by decide) ?_
  refine rn_iadd dX10_lengthOf_3 (rn_topi (2202 : Int32) (by decide) ?_)
  refine rn_callV (a := 0) (b := 0) [.int (2202 : Int32)] kl_SGModel_140 dX10_lengthOf_4 q3 hl3 rfl (t_X10_two G S ws hS0.1 o0_ m0_ (2202 : Int32) (rg_w rk_2202 (by decide) (by decide))) rfl rfl (Nat.le_of_ble_eq_true rfl) (Nat.le_of_ble_eq_true rfl) (Nat.le_of_ble_eq_true rfl) (Nat.le_of_ble_eq_true rfl) (Nat.le_of_ble_eq_true rfl) (Nat.le_of_ble_eq_true rfl) (fun _ _ h => False.elim h) (fun v9 w5 h6 => ?_)
  obtain ⟨rfl, v7, rfl, rv7, xah6⟩ := h6
  have ev7 : v7.toInt = T2 := (xah6 2202 (by decide)).trans ht2
  have r9 : Rg (19) (2047) v7 := ⟨by have := rv7.1; have := rv7.2; omega, by have := rv7.1; have := rv7.2; omega⟩
  refine rn_stk [.int v7] rfl ?_
  refine rn_iret dX10_lengthOf_7 rfl rfl (rq_in ?_)
  refine rn_stk [.int v7] rfl ?_
  refine rn_bipush (v := (20 : Int32)) dX10_open_5 (by decide) ?_
  refine rs_subC (-1) (2027) r9 rk_20 dX10_open_7 (by decide) (fun v10 ev10 rv10 => ?_)
  refine rn_istore_n dX10_open_8 rfl (by decide) [(0, .ref o0_), (1, .int (2200 : Int32)), (2, .int v10)] rfl ?_
  refine rn_iload_n (i := 2) dX10_open_9 rfl rfl ?_
  refine rn_bipush (v := (20 : Int32)) dX10_open_10 (by decide) ?_
  refine rn_icmp_lt (tgt := 21) dX10_open_12 (by decide) (fun h11 => ?_) (fun h11 => ?_)
  · have ch11 := cv_lt h11
    have r12 : Rg (-1) (19) v10 := rf_ltx ch11 rv10 rk_20 (by decide)
    refine rn_bipush (v := (8 : Int32)) dX10_open_21 (by decide) ?_
    exact rn_iret dX10_open_23 rfl rfl (rq_in ⟨hS0, (8 : Int32), rfl, (rg_w rk_8 (by decide) (by decide))⟩)
  · have ch11 := cv_nlt h11
    have r13 : Rg (20) (2027) v10 := rf_ley ch11 rk_20 rv10 (by decide)
    refine rn_iload_n (i := 2) dX10_open_15 rfl rfl ?_
    refine rn_iconst (v := (4 : Int32)) dX10_open_16 (by decide) ?_
    refine rs_remC (3) r13 rk_4 dX10_open_17 (by decide) (fun v14 ev14 rv14 => ?_)
    refine rn_if_eq (tgt := 24) dX10_open_18 (by decide) (fun h15 => ?_) (fun h15 => ?_)
    · have ch15 := cv_eq h15
      have r16 : Rg (0) (0) v14 := rf_eqx ch15 rv14 rk_0 (by decide) (by decide)
      refine rn_aload_n (i := 0) dX10_open_24 rfl rfl ?_
      refine rn_aload_n (i := 0) dX10_open_25 rfl rfl ?_
      refine rn_iload_n (i := 1) dX10_open_26 rfl rfl ?_
      refine rn_bipush (v := (20 : Int32)) dX10_open_27 (by decide) ?_
      refine rn_iadd dX10_open_29 (rn_topi (2220 : Int32) (by decide) ?_)
      refine rn_callV (a := 0) (b := 0) [.int (2220 : Int32)] kl_SGModel_218 dX10_open_30 q3 hl3 rfl (t_X10_four G S ws hS0.1 o0_ m0_ (2220 : Int32) (rg_w rk_2220 (by decide) (by decide))) rfl rfl (Nat.le_of_ble_eq_true rfl) (Nat.le_of_ble_eq_true rfl) (Nat.le_of_ble_eq_true rfl) (Nat.le_of_ble_eq_true rfl) (Nat.le_of_ble_eq_true rfl) (Nat.le_of_ble_eq_true rfl) (fun _ _ h => False.elim h) (fun v9 w18 h19 => ?_)
      obtain ⟨rfl, v20, rfl, rv20⟩ := h19
      refine rn_stk [.int v20, .ref o0_] rfl ?_
      refine rs_put q3 (kp_SGModel_317 _) hS0 hq3 hl3 hf3 hk_30 rfl rfl (tv_i rv20) rfl rfl dX10_open_33 (fun w22 fs23 hS23 hl23 hf23 hx23 ho23 hn23 => ?_)
      have ht24 := tw_eq (byt_ne hn23 (ts_ne hq3 hob1 rfl)) ht2
      refine rn_aload_n (i := 0) dX10_open_36 rfl rfl ?_
      refine rn_aload_n (i := 0) dX10_open_37 rfl rfl ?_
      refine rn_iload_n (i := 1) dX10_open_38 rfl rfl ?_
      refine rn_bipush (v := (24 : Int32)) dX10_open_39 (by decide) ?_
      refine rn_iadd dX10_open_41 (rn_topi (2224 : Int32) (by decide) ?_)
      refine rn_callV (a := 0) (b := 0) [.int (2224 : Int32)] kl_SGModel_218 dX10_open_42 q3 hl23 rfl (t_X10_four G S w22 hS23.1 o0_ m0_ (2224 : Int32) (rg_w rk_2224 (by decide) (by decide))) rfl rfl (Nat.le_of_ble_eq_true rfl) (Nat.le_of_ble_eq_true rfl) (Nat.le_of_ble_eq_true rfl) (Nat.le_of_ble_eq_true rfl) (Nat.le_of_ble_eq_true rfl) (Nat.le_of_ble_eq_true rfl) (fun _ _ h => False.elim h) (fun v9 w26 h27 => ?_)
      obtain ⟨rfl, v28, rfl, rv28⟩ := h27
      refine rn_stk [.int v28, .ref o0_] rfl ?_
      refine rs_put q3 (kp_SGModel_320 _) hS23 hq3 hl23 hf23 hk_30 rfl rfl (tv_i rv28) rfl rfl dX10_open_45 (fun w30 fs31 hS31 hl31 hf31 hx31 ho31 hn31 => ?_)
      have ht32 := tw_eq (byt_ne hn31 (ts_ne hq3 hob1 rfl)) ht24
      refine rn_aload_n (i := 0) dX10_open_48 rfl rfl ?_
      refine rn_aload_n (i := 0) dX10_open_49 rfl rfl ?_
      refine rn_get q3 kg_SGModel_317 hl31 ((ho31 52 (by decide)).trans hx23) dX10_open_50 ?_
      refine rn_callV (a := 0) (b := 0) [.int v20] kl_SGModel_204 dX10_open_53 q3 hl31 rfl (t_X10_sealNamed G S w30 hS31.1 o0_ m0_ v20) rfl rfl (Nat.le_of_ble_eq_true rfl) (Nat.le_of_ble_eq_true rfl) (Nat.le_of_ble_eq_true rfl) (Nat.le_of_ble_eq_true rfl) (Nat.le_of_ble_eq_true rfl) (Nat.le_of_ble_eq_true rfl) (fun _ _ h => False.elim h) (fun v9 w33 h34 => ?_)
      obtain ⟨rfl, v35, rfl, rv35⟩ := h34
      refine rn_stk [.int v35] rfl ?_
      refine rn_istore_n dX10_open_56 rfl (by decide) [(0, .ref o0_), (1, .int (2200 : Int32)), (2, .int v10), (3, .int v35)] rfl ?_
      refine rn_iload_n (i := 3) dX10_open_57 rfl rfl ?_
      refine rn_if_lt (tgt := 91) dX10_open_58 (by decide) (fun h37 => ?_) (fun h37 => ?_)
      · have ch37 := cv_lt h37
        have r38 : Rg (-1) (-1) v35 := rf_ltx ch37 rv35 rk_0 (by decide)
        refine rn_aload_n (i := 0) dX10_open_91 rfl rfl ?_
        refine rn_bipush (v := (9 : Int32)) dX10_open_92 (by decide) ?_
        refine rn_iload_n (i := 1) dX10_open_94 rfl rfl ?_
        refine rn_aload_n (i := 0) dX10_open_95 rfl rfl ?_
        refine rn_get q3 kg_SGModel_317 hl31 ((ho31 52 (by decide)).trans hx23) dX10_open_96 ?_
        refine rn_aload_n (i := 0) dX10_open_99 rfl rfl ?_
        refine rn_get q3 kg_SGModel_320 hl31 hx31 dX10_open_100 ?_
        refine rn_callV (a := 0) (b := 0) [.int (9 : Int32), .int (2200 : Int32), .int v20, .int v28] kl_SGModel_323 dX10_open_103 q3 hl31 rfl (t_X10_note G S w30 hS31.1 o0_ m0_ (9 : Int32) (rg_w rk_9 (by decide) (by decide)) (2200 : Int32) (rg_w rk_2200 (by decide) (by decide)) v20 v28) rfl rfl (Nat.le_of_ble_eq_true rfl) (Nat.le_of_ble_eq_true rfl) (Nat.le_of_ble_eq_true rfl) (Nat.le_of_ble_eq_true rfl) (Nat.le_of_ble_eq_true rfl) (Nat.le_of_ble_eq_true rfl) (fun _ _ h => False.elim h) (fun v9 w39 h40 => ?_)
        obtain ⟨hT42, v41, rfl, rv41⟩ := h40
        have hS42 := St.tr hS31 hT42 rfl
        have ht43 := tw_eq (byt_fr hS31.1 hT42 rfl) ht32
        refine rn_stk [.int v41] rfl ?_
        exact rn_iret dX10_open_106 rfl rfl (rq_in ⟨hS42, v41, rfl, rv41⟩)
      · have ch37 := cv_nlt h37
        have r44 : Rg (0) (15) v35 := rf_ley ch37 rk_0 rv35 (by decide)
        refine rn_aload_n (i := 0) dX10_open_61 rfl rfl ?_
        refine rn_iload_n (i := 3) dX10_open_62 rfl rfl ?_
        refine rn_callV (a := 0) (b := 0) [.int v35] kl_SGModel_207 dX10_open_63 q3 hl31 rfl (t_X10_isDead G S w30 hS31.1 o0_ m0_ v35 r44) rfl rfl (Nat.le_of_ble_eq_true rfl) (Nat.le_of_ble_eq_true rfl) (Nat.le_of_ble_eq_true rfl) (Nat.le_of_ble_eq_true rfl) (Nat.le_of_ble_eq_true rfl) (Nat.le_of_ble_eq_true rfl) (fun _ _ h => False.elim h) (fun v9 w45 h46 => ?_)
        obtain ⟨rfl, v47, rfl, rv47⟩ := h46
        refine rn_stk [.int v47] rfl ?_
        refine rn_if_ne (tgt := 91) dX10_open_66 (by decide) (fun h49 => ?_) (fun h49 => ?_)
        · have ch49 := cv_ne h49
          have r50 : Rg (1) (1) v47 := rf_nel ch49 rv47 rk_0 (by decide) (by decide)
          refine rn_aload_n (i := 0) dX10_open_91 rfl rfl ?_
          refine rn_bipush (v := (9 : Int32)) dX10_open_92 (by decide) ?_
          refine rn_iload_n (i := 1) dX10_open_94 rfl rfl ?_
          refine rn_aload_n (i := 0) dX10_open_95 rfl rfl ?_
          refine rn_get q3 kg_SGModel_317 hl31 ((ho31 52 (by decide)).trans hx23) dX10_open_96 ?_
          refine rn_aload_n (i := 0) dX10_open_99 rfl rfl ?_
          refine rn_get q3 kg_SGModel_320 hl31 hx31 dX10_open_100 ?_
          refine rn_callV (a := 0) (b := 0) [.int (9 : Int32), .int (2200 : Int32), .int v20, .int v28] kl_SGModel_323 dX10_open_103 q3 hl31 rfl (t_X10_note G S w30 hS31.1 o0_ m0_ (9 : Int32) (rg_w rk_9 (by decide) (by decide)) (2200 : Int32) (rg_w rk_2200 (by decide) (by decide)) v20 v28) rfl rfl (Nat.le_of_ble_eq_true rfl) (Nat.le_of_ble_eq_true rfl) (Nat.le_of_ble_eq_true rfl) (Nat.le_of_ble_eq_true rfl) (Nat.le_of_ble_eq_true rfl) (Nat.le_of_ble_eq_true rfl) (fun _ _ h => False.elim h) (fun v9 w51 h52 => ?_)
          obtain ⟨hT54, v53, rfl, rv53⟩ := h52
          have hS54 := St.tr hS31 hT54 rfl
          have ht55 := tw_eq (byt_fr hS31.1 hT54 rfl) ht32
          refine rn_stk [.int v53] rfl ?_
          exact rn_iret dX10_open_106 rfl rfl (rq_in ⟨hS54, v53, rfl, rv53⟩)
        · have ch49 := cv_eq h49
          have r56 : Rg (0) (0) v47 := rf_eqx ch49 rv47 rk_0 (by decide) (by decide)
          refine rn_aload_n (i := 0) dX10_open_69 rfl rfl ?_
          refine rn_iload_n (i := 1) dX10_open_70 rfl rfl ?_
          refine rn_bipush (v := (12 : Int32)) dX10_open_71 (by decide) ?_
          refine rn_iadd dX10_open_73 (rn_topi (2212 : Int32) (by decide) ?_)
          refine rn_callV (a := 0) (b := 0) [.int (2212 : Int32)] kl_SGModel_218 dX10_open_74 q3 hl31 rfl (t_X10_four G S w30 hS31.1 o0_ m0_ (2212 : Int32) (rg_w rk_2212 (by decide) (by decide))) rfl rfl (Nat.le_of_ble_eq_true rfl) (Nat.le_of_ble_eq_true rfl) (Nat.le_of_ble_eq_true rfl) (Nat.le_of_ble_eq_true rfl) (Nat.le_of_ble_eq_true rfl) (Nat.le_of_ble_eq_true rfl) (fun _ _ h => False.elim h) (fun v9 w58 h59 => ?_)
          obtain ⟨rfl, v60, rfl, rv60⟩ := h59
          refine rn_stk [.int v60] rfl ?_
          refine rn_aload_n (i := 0) dX10_open_77 rfl rfl ?_
          obtain ⟨o62, hx62, m62⟩ := fs_r hf31 8 rfl
          refine rn_get q3 kg_SGModel_22 hl31 hx62 dX10_open_78 ?_
          refine rn_aload_n (i := 0) dX10_open_81 rfl rfl ?_
          obtain ⟨o63, hx63, m63⟩ := fs_r hf31 24 rfl
          refine rn_get q3 kg_SGModel_60 hl31 hx63 dX10_open_82 ?_
          refine rn_iload_n (i := 3) dX10_open_85 rfl rfl ?_
          obtain ⟨q64, f64, hq64, hl64, hf64⟩ := ts_ia hS31.1 m63 hk_55
          refine rs_iald q64 hl64 hf64 rfl r44 (by decide) (by decide) dX10_open_86 (fun v65 ev65 rv65 => ?_)
          obtain ⟨q66, f66, hq66, hl66, hf66⟩ := ts_ia hS31.1 m62 hk_39
          refine rs_iald q66 hl66 hf66 rfl rv65 (by decide) (by decide) dX10_open_87 (fun v67 ev67 rv67 => ?_)
          refine rn_icmp_eq (tgt := 107) dX10_open_88 (by decide) (fun h68 => ?_) (fun h68 => ?_)
          · have ch68 := cv_eq h68
            refine rn_aload_n (i := 0) dX10_open_107 rfl rfl ?_
            refine rn_iload_n (i := 3) dX10_open_108 rfl rfl ?_
            refine rn_aload_n (i := 0) dX10_open_109 rfl rfl ?_
            refine rn_get q3 kg_SGModel_320 hl31 hx31 dX10_open_110 ?_
            refine rn_i2l dX10_open_113 rfl (rn_nmL (fun l69 => ?_))
            refine rn_ldc2 (v := (4294967295 : Int64)) wd_1355 dX10_open_114 ?_
            refine rn_land dX10_open_117 (rn_nmL (fun l70 => ?_))
            refine rn_callV (a := 0) (b := 0) [.int v35, .long l70] kl_SGModel_327 dX10_open_118 q3 hl31 rfl (t_X10_numberOf G S w30 hS31.1 o0_ m0_ v35 r44 l70) rfl rfl (Nat.le_of_ble_eq_true rfl) (Nat.le_of_ble_eq_true rfl) (Nat.le_of_ble_eq_true rfl) (Nat.le_of_ble_eq_true rfl) (Nat.le_of_ble_eq_true rfl) (Nat.le_of_ble_eq_true rfl) (fun _ _ h => False.elim h) (fun v9 w71 h72 => ?_)
            obtain ⟨rfl, l73, rfl⟩ := h72
            refine rn_stk [.long l73] rfl ?_
            refine rn_lstore dX10_open_121 (by decide) [(0, .ref o0_), (1, .int (2200 : Int32)), (2, .int v10), (3, .int v35), (4, .long l73)] rfl ?_
            refine rn_aload_n (i := 0) dX10_open_123 rfl rfl ?_
            refine rn_iload_n (i := 3) dX10_open_124 rfl rfl ?_
            refine rn_lload dX10_open_125 rfl ?_
            refine rn_callV (a := 0) (b := 0) [.int v35, .long l73] kl_SGModel_331 dX10_open_127 q3 hl31 rfl (t_X10_isOld G S w30 hS31.1 o0_ m0_ v35 r44 l73) rfl rfl (Nat.le_of_ble_eq_true rfl) (Nat.le_of_ble_eq_true rfl) (Nat.le_of_ble_eq_true rfl) (Nat.le_of_ble_eq_true rfl) (Nat.le_of_ble_eq_true rfl) (Nat.le_of_ble_eq_true rfl) (fun _ _ h => False.elim h) (fun v9 w75 h76 => ?_)
            obtain ⟨rfl, v77, rfl, rv77⟩ := h76
            refine rn_stk [.int v77] rfl ?_
            refine rn_if_eq (tgt := 149) dX10_open_130 (by decide) (fun h79 => ?_) (fun h79 => ?_)
            · have ch79 := cv_eq h79
              have r80 : Rg (0) (0) v77 := rf_eqx ch79 rv77 rk_0 (by decide) (by decide)
              refine rn_aload_n (i := 0) dX10_open_149 rfl rfl ?_
              refine rn_iload_n (i := 3) dX10_open_150 rfl rfl ?_
              refine rn_lload dX10_open_151 rfl ?_
              refine rn_callV (a := 0) (b := 0) [.int v35, .long l73] kl_SGModel_335 dX10_open_153 q3 hl31 rfl (t_X10_wasSeen G S w30 hS31.1 o0_ m0_ v35 r44 l73) rfl rfl (Nat.le_of_ble_eq_true rfl) (Nat.le_of_ble_eq_true rfl) (Nat.le_of_ble_eq_true rfl) (Nat.le_of_ble_eq_true rfl) (Nat.le_of_ble_eq_true rfl) (Nat.le_of_ble_eq_true rfl) (fun _ _ h => False.elim h) (fun v9 w81 h82 => ?_)
              obtain ⟨rfl, v83, rfl, rv83⟩ := h82
              refine rn_stk [.int v83] rfl ?_
              refine rn_if_eq (tgt := 175) dX10_open_156 (by decide) (fun h85 => ?_) (fun h85 => ?_)
              · have ch85 := cv_eq h85
                have r86 : Rg (0) (0) v83 := rf_eqx ch85 rv83 rk_0 (by decide) (by decide)
                refine rn_aload_n (i := 0) dX10_open_175 rfl rfl ?_
                refine rn_iload_n (i := 1) dX10_open_176 rfl rfl ?_
                refine rn_iload_n (i := 2) dX10_open_177 rfl rfl ?_
                refine rs_addD (2220) (4227) rk_2200 r13 dX10_open_178 (by decide) (fun v87 ev87 rv87 => ?_)
                refine rn_bipush (v := (12 : Int32)) dX10_open_179 (by decide) ?_
                refine rs_addC (2232) (4239) rv87 rk_12 dX10_open_181 (by decide) (fun v88 ev88 rv88 => ?_)
                refine rn_callV (a := 0) (b := 0) [.int v88] kl_SGModel_218 dX10_open_182 q3 hl31 rfl (t_X10_four G S w30 hS31.1 o0_ m0_ v88 (rg_w rv88 (by decide) (by decide))) rfl rfl (Nat.le_of_ble_eq_true rfl) (Nat.le_of_ble_eq_true rfl) (Nat.le_of_ble_eq_true rfl) (Nat.le_of_ble_eq_true rfl) (Nat.le_of_ble_eq_true rfl) (Nat.le_of_ble_eq_true rfl) (fun _ _ h => False.elim h) (fun v9 w89 h90 => ?_)
                obtain ⟨rfl, v91, rfl, rv91⟩ := h90
                refine rn_stk [.int v91] rfl ?_
                refine rn_i2l dX10_open_185 rfl (rn_nmL (fun l93 => ?_))
                refine rn_bipush (v := (32 : Int32)) dX10_open_186 (by decide) ?_
                refine rn_lshl dX10_open_188 rfl (rn_nmL (fun l94 => ?_))
                refine rn_aload_n (i := 0) dX10_open_189 rfl rfl ?_
                refine rn_iload_n (i := 1) dX10_open_190 rfl rfl ?_
                refine rn_iload_n (i := 2) dX10_open_191 rfl rfl ?_
                refine rs_addD (2220) (4227) rk_2200 r13 dX10_open_192 (by decide) (fun v95 ev95 rv95 => ?_)
                refine rn_bipush (v := (16 : Int32)) dX10_open_193 (by decide) ?_
                refine rs_addC (2236) (4243) rv95 rk_16 dX10_open_195 (by decide) (fun v96 ev96 rv96 => ?_)
                refine rn_callV (a := 0) (b := 0) [.int v96] kl_SGModel_218 dX10_open_196 q3 hl31 rfl (t_X10_four G S w30 hS31.1 o0_ m0_ v96 (rg_w rv96 (by decide) (by decide))) rfl rfl (Nat.le_of_ble_eq_true rfl) (Nat.le_of_ble_eq_true rfl) (Nat.le_of_ble_eq_true rfl) (Nat.le_of_ble_eq_true rfl) (Nat.le_of_ble_eq_true rfl) (Nat.le_of_ble_eq_true rfl) (fun _ _ h => False.elim h) (fun v9 w97 h98 => ?_)
                obtain ⟨rfl, v99, rfl, rv99⟩ := h98
                refine rn_stk [.int v99, .long l94] rfl ?_
                refine rn_i2l dX10_open_199 rfl (rn_nmL (fun l101 => ?_))
                refine rn_ldc2 (v := (4294967295 : Int64)) wd_1355 dX10_open_200 ?_
                refine rn_land dX10_open_203 (rn_nmL (fun l102 => ?_))
                refine rn_lor dX10_open_204 (rn_nmL (fun l103 => ?_))
                refine rn_lstore dX10_open_205 (by decide) [(0, .ref o0_), (1, .int (2200 : Int32)), (2, .int v10), (3, .int v35), (4, .long l73), (6, .long l103)] rfl ?_
                refine rn_lload dX10_open_207 rfl ?_
                refine rn_aload_n (i := 0) dX10_open_209 rfl rfl ?_
                refine rn_iload_n (i := 1) dX10_open_210 rfl rfl ?_
                refine rn_bipush (v := (20 : Int32)) dX10_open_211 (by decide) ?_
                refine rn_iadd dX10_open_213 (rn_topi (2220 : Int32) (by decide) ?_)
                refine rn_iload_n (i := 2) dX10_open_214 rfl rfl ?_
                refine rn_bipush (v := (8 : Int32)) dX10_open_215 (by decide) ?_
                refine rs_subC (12) (2019) r13 rk_8 dX10_open_217 (by decide) (fun v105 ev105 rv105 => ?_)
                refine rn_iload_n (i := 3) dX10_open_218 rfl rfl ?_
                refine rn_lload dX10_open_219 rfl ?_
                refine rn_callV (a := 0) (b := 0) [.int (2220 : Int32), .int v105, .int v35, .long l73] kl_SGModel_263 dX10_open_221 q3 hl31 rfl (t_X10_stampOf G S w30 hS31.1 o0_ m0_ (2220 : Int32) (rg_w rk_2220 (by decide) (by decide)) v105 (rg_w rv105 (by decide) (by decide)) v35 r44 l73) rfl rfl (Nat.le_of_ble_eq_true rfl) (Nat.le_of_ble_eq_true rfl) (Nat.le_of_ble_eq_true rfl) (Nat.le_of_ble_eq_true rfl) (Nat.le_of_ble_eq_true rfl) (Nat.le_of_ble_eq_true rfl) (fun _ _ h => False.elim h) (fun v9 w106 h107 => ?_)
                obtain ⟨rfl, l108, rfl⟩ := h107
                refine rn_stk [.long l108, .long l103] rfl ?_
                refine rn_lcmp dX10_open_224 (rn_tn (-1) 1 (rg_lcmp _ _) (fun v110 rv110 => ?_))
                refine rn_if_eq (tgt := 244) dX10_open_225 (by decide) (fun h111 => ?_) (fun h111 => ?_)
                · have ch111 := cv_eq h111
                  have r112 : Rg (0) (0) v110 := rf_eqx ch111 rv110 rk_0 (by decide) (by decide)
                  refine rn_aload_n (i := 0) dX10_open_244 rfl rfl ?_
                  refine rn_iload_n (i := 3) dX10_open_245 rfl rfl ?_
                  refine rn_lload dX10_open_246 rfl ?_
                  refine rn_callV (a := 0) (b := 0) [.int v35, .long l73] kl_SGModel_338 dX10_open_248 q3 hl31 rfl (t_X10_see G S w30 hS31.1 o0_ m0_ v35 r44 l73) rfl rfl (Nat.le_of_ble_eq_true rfl) (Nat.le_of_ble_eq_true rfl) (Nat.le_of_ble_eq_true rfl) (Nat.le_of_ble_eq_true rfl) (Nat.le_of_ble_eq_true rfl) (Nat.le_of_ble_eq_true rfl) (fun _ _ h => False.elim h) (fun v9 w113 h114 => ?_)
                  obtain ⟨hT115, rfl⟩ := h114
                  have hS115 := St.tr hS31 hT115 rfl
                  have ht116 := tw_eq (byt_fr hS31.1 hT115 rfl) ht32
                  refine rn_stk [] rfl ?_
                  refine rn_iload_n (i := 2) dX10_open_251 rfl rfl ?_
                  refine rn_bipush (v := (16 : Int32)) dX10_open_252 (by decide) ?_
                  refine rs_subC (4) (2011) r13 rk_16 dX10_open_254 (by decide) (fun v117 ev117 rv117 => ?_)
                  refine rn_istore dX10_open_255 (by decide) [(0, .ref o0_), (1, .int (2200 : Int32)), (2, .int v10), (3, .int v35), (4, .long l73), (6, .long l103), (8, .int v117)] rfl ?_
                  refine rn_aload_n (i := 0) dX10_open_257 rfl rfl ?_
                  refine rn_iload_n (i := 1) dX10_open_258 rfl rfl ?_
                  refine rn_bipush (v := (28 : Int32)) dX10_open_259 (by decide) ?_
                  refine rn_iadd dX10_open_261 (rn_topi (2228 : Int32) (by decide) ?_)
                  refine rn_sipush (v := (6600 : Int32)) dX10_open_262 (by decide) ?_
                  refine rn_iload dX10_open_265 rfl ?_
                  refine rn_callV (a := 0) (b := 0) [.int (2228 : Int32), .int (6600 : Int32), .int v117] kl_SGModel_235 dX10_open_267 q3 (hT115.fr hq3 rfl hl31) rfl (t_X10_move G S w113 hS115.1 o0_ m0_ (2228 : Int32) (6600 : Int32) v117 ⟨by have := rv117.1; have := rv117.2; have := rk_16.1; have := rk_16.2; have := r13.1; have := r13.2; have := rk_20.1; have := rk_20.2; have := r9.1; have := r9.2; have := rk_6600.1; have := rk_6600.2; have := rk_2228.1; have := rk_2228.2; omega, by have := rv117.1; have := rv117.2; have := rk_16.1; have := rk_16.2; have := r13.1; have := r13.2; have := rk_20.1; have := rk_20.2; have := r9.1; have := r9.2; have := rk_6600.1; have := rk_6600.2; have := rk_2228.1; have := rk_2228.2; omega, by have := rv117.1; have := rv117.2; have := rk_16.1; have := rk_16.2; have := r13.1; have := r13.2; have := rk_20.1; have := rk_20.2; have := r9.1; have := r9.2; have := rk_6600.1; have := rk_6600.2; have := rk_2228.1; have := rk_2228.2; omega, by have := rv117.1; have := rv117.2; have := rk_16.1; have := rk_16.2; have := r13.1; have := r13.2; have := rk_20.1; have := rk_20.2; have := r9.1; have := r9.2; have := rk_6600.1; have := rk_6600.2; have := rk_2228.1; have := rk_2228.2; omega⟩) rfl rfl (Nat.le_of_ble_eq_true rfl) (Nat.le_of_ble_eq_true rfl) (Nat.le_of_ble_eq_true rfl) (Nat.le_of_ble_eq_true rfl) (Nat.le_of_ble_eq_true rfl) (Nat.le_of_ble_eq_true rfl) (fun _ _ h => False.elim h) (fun v9 w119 h120 => ?_)
                  obtain ⟨hT121, rfl, xah120⟩ := h120
                  have hS121 := St.tr hS115 hT121 rfl
                  have ht122 := bsame.keep xah120.1 ht116 (by have := rv117.1; have := rv117.2; have := rk_16.1; have := rk_16.2; have := r13.1; have := r13.2; have := rk_20.1; have := rk_20.2; have := r9.1; have := r9.2; have := rk_6600.1; have := rk_6600.2; have := rk_2228.1; have := rk_2228.2; omega)
                  refine rn_stk [] rfl ?_
                  refine rn_aload_n (i := 0) dX10_open_270 rfl rfl ?_
                  refine rn_sipush (v := (6600 : Int32)) dX10_open_271 (by decide) ?_
                  refine rn_iload dX10_open_274 rfl ?_
                  refine rn_iload_n (i := 3) dX10_open_276 rfl rfl ?_
                  refine rn_lload dX10_open_277 rfl ?_
                  refine rn_callV (a := 0) (b := 0) [.int (6600 : Int32), .int v117, .int v35, .long l73] kl_SGModel_259 dX10_open_279 q3 (hT121.fr hq3 rfl (hT115.fr hq3 rfl hl31)) rfl (t_X10_stream G S w119 hS121.1 o0_ m0_ (6600 : Int32) (rg_w rk_6600 (by decide) (by decide)) v117 (rg_w rv117 (by decide) (by decide)) v35 r44 l73) rfl rfl (Nat.le_of_ble_eq_true rfl) (Nat.le_of_ble_eq_true rfl) (Nat.le_of_ble_eq_true rfl) (Nat.le_of_ble_eq_true rfl) (Nat.le_of_ble_eq_true rfl) (Nat.le_of_ble_eq_true rfl) (fun _ _ h => False.elim h) (fun v9 w123 h124 => ?_)
                  obtain ⟨hT125, rfl⟩ := h124
                  have hS125 := St.tr hS121 hT125 rfl
                  refine rn_stk [] rfl ?_
                  refine rn_aload_n (i := 0) dX10_open_282 rfl rfl ?_
                  obtain ⟨o126, hx126, m126⟩ := fs_r hf31 2 rfl
                  refine rn_get q3 kg_SGModel_7 (hT125.fr hq3 rfl (hT121.fr hq3 rfl (hT115.fr hq3 rfl hl31))) hx126 dX10_open_283 ?_
                  refine rn_sipush (v := (6600 : Int32)) dX10_open_286 (by decide) ?_
                  refine rn_iload dX10_open_289 rfl ?_
                  refine rs_addD (6604) (8611) rk_6600 rv117 dX10_open_291 (by decide) (fun v127 ev127 rv127 => ?_)
                  refine rn_iconst (v := (2 : Int32)) dX10_open_292 (by decide) ?_
                  refine rs_subC (6602) (8609) rv127 rk_2 dX10_open_293 (by decide) (fun v128 ev128 rv128 => ?_)
                  obtain ⟨q129, f129, hq129, hl129, hf129⟩ := ts_ia hS125.1 m126 hk_33
                  refine rs_iald q129 hl129 hf129 rfl rv128 (by decide) (by decide) dX10_open_294 (fun v130 ev130 rv130 => ?_)
                  refine rn_istore dX10_open_295 (by decide) [(0, .ref o0_), (1, .int (2200 : Int32)), (2, .int v10), (3, .int v35), (4, .long l73), (6, .long l103), (8, .int v117), (9, .int v130)] rfl ?_
                  refine rn_aload_n (i := 0) dX10_open_297 rfl rfl ?_
                  refine rn_sipush (v := (6600 : Int32)) dX10_open_298 (by decide) ?_
                  refine rn_iload dX10_open_301 rfl ?_
                  refine rn_iload dX10_open_303 rfl ?_
                  refine rn_callV (a := 0) (b := 0) [.int (6600 : Int32), .int v117, .int v130] kl_SGModel_341 dX10_open_305 q3 (hT125.fr hq3 rfl (hT121.fr hq3 rfl (hT115.fr hq3 rfl hl31))) rfl (t_X10_isFilled G S w123 hS125.1 o0_ m0_ (6600 : Int32) rk_6600 v117 (rg_w rv117 (by decide) (by decide)) v130 rv130) rfl rfl (Nat.le_of_ble_eq_true rfl) (Nat.le_of_ble_eq_true rfl) (Nat.le_of_ble_eq_true rfl) (Nat.le_of_ble_eq_true rfl) (Nat.le_of_ble_eq_true rfl) (Nat.le_of_ble_eq_true rfl) (fun _ _ h => False.elim h) (fun v9 w131 h132 => ?_)
                  obtain ⟨rfl, v133, rfl, rv133⟩ := h132
                  refine rn_stk [.int v133] rfl ?_
                  refine rn_if_ne (tgt := 314) dX10_open_308 (by decide) (fun h135 => ?_) (fun h135 => ?_)
                  · have ch135 := cv_ne h135
                    have r136 : Rg (1) (1) v133 := rf_nel ch135 rv133 rk_0 (by decide) (by decide)
                    refine rn_aload_n (i := 0) dX10_open_314 rfl rfl ?_
                    refine rn_get q3 kg_SGModel_7 (hT125.fr hq3 rfl (hT121.fr hq3 rfl (hT115.fr hq3 rfl hl31))) hx126 dX10_open_315 ?_
                    refine rn_sipush (v := (6600 : Int32)) dX10_open_318 (by decide) ?_
                    refine rn_iload dX10_open_321 rfl ?_
                    refine rs_addD (6604) (8611) rk_6600 rv117 dX10_open_323 (by decide) (fun v137 ev137 rv137 => ?_)
                    refine rn_iconst (v := (1 : Int32)) dX10_open_324 (by decide) ?_
                    refine rs_subC (6603) (8610) rv137 rk_1 dX10_open_325 (by decide) (fun v138 ev138 rv138 => ?_)
                    refine rs_iald q129 hl129 hf129 rfl rv138 (by decide) (by decide) dX10_open_326 (fun v139 ev139 rv139 => ?_)
                    refine rn_istore dX10_open_327 (by decide) [(0, .ref o0_), (1, .int (2200 : Int32)), (2, .int v10), (3, .int v35), (4, .long l73), (6, .long l103), (8, .int v117), (9, .int v130), (10, .int v139)] rfl ?_
                    refine rn_iload dX10_open_329 rfl ?_
                    refine rn_iconst (v := (4 : Int32)) dX10_open_331 (by decide) ?_
                    refine rn_icmp_eq (tgt := 350) dX10_open_332 (by decide) (fun h140 => ?_) (fun h140 => ?_)
                    · have ch140 := cv_eq h140
                      have r141 : Rg (4) (4) v139 := rf_eqx ch140 rv139 rk_4 (by decide) (by decide)
                      refine rn_iload dX10_open_350 rfl ?_
                      refine rn_iconst (v := (2 : Int32)) dX10_open_352 (by decide) ?_
                      refine rs_subC (2) (2009) rv117 rk_2 dX10_open_353 (by decide) (fun v142 ev142 rv142 => ?_)
                      refine rn_iload dX10_open_354 rfl ?_
                      refine rs_subR (-253) (2009) rv142 rv130 dX10_open_356 (by decide) (fun v143 ev143 rv143 => ?_)
                      refine rn_istore dX10_open_357 (by decide) [(0, .ref o0_), (1, .int (2200 : Int32)), (2, .int v10), (3, .int v35), (4, .long l73), (6, .long l103), (8, .int v117), (9, .int v130), (10, .int v139), (11, .int v143)] rfl ?_
                      refine rn_aload_n (i := 0) dX10_open_359 rfl rfl ?_
                      refine rn_sipush (v := (6600 : Int32)) dX10_open_360 (by decide) ?_
                      refine rn_iload dX10_open_363 rfl ?_
                      refine rn_callV (a := 0) (b := 0) [.int (6600 : Int32), .int v143] kl_SGModel_225 dX10_open_365 q3 (hT125.fr hq3 rfl (hT121.fr hq3 rfl (hT115.fr hq3 rfl hl31))) rfl (t_X10_isBroken_6600 G S w123 hS125.1 o0_ m0_ v143) rfl rfl (Nat.le_of_ble_eq_true rfl) (Nat.le_of_ble_eq_true rfl) (Nat.le_of_ble_eq_true rfl) (Nat.le_of_ble_eq_true rfl) (Nat.le_of_ble_eq_true rfl) (Nat.le_of_ble_eq_true rfl) (fun _ _ h => False.elim h) (fun v9 w144 h145 => ?_)
                      obtain ⟨rfl, v146, rfl, rv146, xah145⟩ := h145
                      obtain ⟨T148, ht148⟩ : ∃ t : Int, tw (byt w123) 6602 = t := ⟨_, rfl⟩
                      rw [ht148] at xah145
                      refine rn_stk [.int v146] rfl ?_
                      refine rn_if_ne (tgt := 383) dX10_open_368 (by decide) (fun h149 => ?_) (fun h149 => ?_)
                      · have ch149 := cv_ne h149
                        have r150 : Rg (1) (1) v146 := rf_nel ch149 rv146 rk_0 (by decide) (by decide)
                        refine rn_bipush (v := (15 : Int32)) dX10_open_383 (by decide) ?_
                        exact rn_iret dX10_open_385 rfl rfl (rq_in ⟨hS125, (15 : Int32), rfl, (rg_w rk_15 (by decide) (by decide))⟩)
                      · have ch149 := cv_eq h149
                        have kh149 := xah145 h149
                        have r151 : Rg (0) (0) v146 := rf_eqx ch149 rv146 rk_0 (by decide) (by decide)
                        refine rn_aload_n (i := 0) dX10_open_371 rfl rfl ?_
                        refine rn_sipush (v := (6600 : Int32)) dX10_open_372 (by decide) ?_
                        refine rn_inV (d' := 1) (z' := 21) [.int (6600 : Int32)] kl_SGModel_165 dX10_open_375 q3 (hT125.fr hq3 rfl (hT121.fr hq3 rfl (hT115.fr hq3 rfl hl31))) rfl rfl rfl (Nat.le_of_ble_eq_true rfl) (Nat.le_of_ble_eq_true rfl) (Nat.le_of_ble_eq_true rfl) (Nat.le_of_ble_eq_true rfl) ?_
                        refine rn_lv [(0, .ref o0_), (1, .int (6600 : Int32))] rfl ?_
                        refine rn_aload_n (i := 0) dX10_lengthOf_0 rfl rfl ?_
                        refine rn_iload_n (i := 1) dX10_lengthOf_1 rfl rfl ?_
                        refine rn_iconst (v := (2 : Int32)) dX10_lengthOf_2 (by decide) ?_
                        refine rn_iadd dX10_lengthOf_3 (rn_topi (6602 : Int32) (by decide) ?_)
                        refine rn_callV (a := 0) (b := 0) [.int (6602 : Int32)] kl_SGModel_140 dX10_lengthOf_4 q3 (hT125.fr hq3 rfl (hT121.fr hq3 rfl (hT115.fr hq3 rfl hl31))) rfl (t_X10_two G S w123 hS125.1 o0_ m0_ (6602 : Int32) (rg_w rk_6602 (by decide) (by decide))) rfl rfl (Nat.le_of_ble_eq_true rfl) (Nat.le_of_ble_eq_true rfl) (Nat.le_of_ble_eq_true rfl) (Nat.le_of_ble_eq_true rfl) (Nat.le_of_ble_eq_true rfl) (Nat.le_of_ble_eq_true rfl) (fun _ _ h => False.elim h) (fun v9 w153 h154 => ?_)
                        obtain ⟨rfl, v155, rfl, rv155, xah154⟩ := h154
                        have ev155 : v155.toInt = T148 := (xah154 6602 (by decide)).trans ht148
                        have r157 : Rg (20) (2009) v155 := rg_tw ev155 kh149 rv143 (by decide)
                        refine rn_stk [.int v155] rfl ?_
                        refine rn_iret dX10_lengthOf_7 rfl rfl (rq_in ?_)
                        refine rn_stk [.int v155] rfl ?_
                        refine rn_iload dX10_open_378 rfl ?_
                        refine rn_icmp_eq (tgt := 386) dX10_open_380 (by decide) (fun h158 => ?_) (fun h158 => ?_)
                        · have ch158 := cv_eq h158
                          have r159 : Rg (20) (2009) v143 := rf_eqy ch158 r157 rv143 (by decide) (by decide)
                          refine rn_aload_n (i := 0) dX10_open_386 rfl rfl ?_
                          refine rn_iconst (v := (1 : Int32)) dX10_open_387 (by decide) ?_
                          refine rn_sipush (v := (6600 : Int32)) dX10_open_388 (by decide) ?_
                          refine rn_callV (a := 0) (b := 0) [.int (1 : Int32), .int (6600 : Int32)] kl_SGModel_228 dX10_open_391 q3 (hT125.fr hq3 rfl (hT121.fr hq3 rfl (hT115.fr hq3 rfl hl31))) rfl (t_X10_policyOf G S w123 hS125.1 o0_ m0_ (1 : Int32) (6600 : Int32) (rg_w rk_6600 (by decide) (by decide))) rfl rfl (Nat.le_of_ble_eq_true rfl) (Nat.le_of_ble_eq_true rfl) (Nat.le_of_ble_eq_true rfl) (Nat.le_of_ble_eq_true rfl) (Nat.le_of_ble_eq_true rfl) (Nat.le_of_ble_eq_true rfl) (fun _ _ h => False.elim h) (fun v9 w160 h161 => ?_)
                          obtain ⟨rfl, v162, rfl, rv162⟩ := h161
                          refine rn_stk [.int v162] rfl ?_
                          refine rn_istore dX10_open_394 (by decide) [(0, .ref o0_), (1, .int (2200 : Int32)), (2, .int v10), (3, .int v35), (4, .long l73), (6, .long l103), (8, .int v117), (9, .int v130), (10, .int v139), (11, .int v143), (12, .int v162)] rfl ?_
                          refine rn_iload dX10_open_396 rfl ?_
                          refine rn_if_lt (tgt := 417) dX10_open_398 (by decide) (fun h164 => ?_) (fun h164 => ?_)
                          · have ch164 := cv_lt h164
                            have r165 : Rg (-1) (-1) v162 := rf_ltx ch164 rv162 rk_0 (by decide)
                            refine rn_aload_n (i := 0) dX10_open_417 rfl rfl ?_
                            refine rn_bipush (v := (16 : Int32)) dX10_open_418 (by decide) ?_
                            refine rn_sipush (v := (6600 : Int32)) dX10_open_420 (by decide) ?_
                            refine rn_aload_n (i := 0) dX10_open_423 rfl rfl ?_
                            refine rn_get q3 kg_SGModel_317 (hT125.fr hq3 rfl (hT121.fr hq3 rfl (hT115.fr hq3 rfl hl31))) ((ho31 52 (by decide)).trans hx23) dX10_open_424 ?_
                            refine rn_aload_n (i := 0) dX10_open_427 rfl rfl ?_
                            refine rn_get q3 kg_SGModel_320 (hT125.fr hq3 rfl (hT121.fr hq3 rfl (hT115.fr hq3 rfl hl31))) hx31 dX10_open_428 ?_
                            refine rn_callV (a := 0) (b := 0) [.int (16 : Int32), .int (6600 : Int32), .int v20, .int v28] kl_SGModel_323 dX10_open_431 q3 (hT125.fr hq3 rfl (hT121.fr hq3 rfl (hT115.fr hq3 rfl hl31))) rfl (t_X10_note G S w123 hS125.1 o0_ m0_ (16 : Int32) (rg_w rk_16 (by decide) (by decide)) (6600 : Int32) (rg_w rk_6600 (by decide) (by decide)) v20 v28) rfl rfl (Nat.le_of_ble_eq_true rfl) (Nat.le_of_ble_eq_true rfl) (Nat.le_of_ble_eq_true rfl) (Nat.le_of_ble_eq_true rfl) (Nat.le_of_ble_eq_true rfl) (Nat.le_of_ble_eq_true rfl) (fun _ _ h => False.elim h) (fun v9 w166 h167 => ?_)
                            obtain ⟨hT169, v168, rfl, rv168⟩ := h167
                            have hS169 := St.tr hS125 hT169 rfl
                            have ht170 := tw_eq (byt_fr hS125.1 hT169 rfl) ht148
                            refine rn_stk [.int v168] rfl ?_
                            exact rn_iret dX10_open_434 rfl rfl (rq_in ⟨hS169, v168, rfl, rv168⟩)
                          · have ch164 := cv_nlt h164
                            have r171 : Rg (0) (23) v162 := rf_ley ch164 rk_0 rv162 (by decide)
                            refine rn_aload_n (i := 0) dX10_open_401 rfl rfl ?_
                            obtain ⟨o172, hx172, m172⟩ := fs_r hf31 18 rfl
                            refine rn_get q3 kg_SGModel_49 (hT125.fr hq3 rfl (hT121.fr hq3 rfl (hT115.fr hq3 rfl hl31))) hx172 dX10_open_402 ?_
                            refine rn_iload dX10_open_405 rfl ?_
                            obtain ⟨q173, f173, hq173, hl173, hf173⟩ := ts_ia hS125.1 m172 hk_49
                            refine rs_iald q173 hl173 hf173 rfl r171 (by decide) (by decide) dX10_open_407 (fun v174 ev174 rv174 => ?_)
                            refine rn_aload_n (i := 0) dX10_open_408 rfl rfl ?_
                            refine rn_get q3 kg_SGModel_60 (hT125.fr hq3 rfl (hT121.fr hq3 rfl (hT115.fr hq3 rfl hl31))) hx63 dX10_open_409 ?_
                            refine rn_iload_n (i := 3) dX10_open_412 rfl rfl ?_
                            refine rs_iald q64 (hT125.fr hq64 rfl (hT121.fr hq64 rfl (hT115.fr hq64 rfl hl64))) hf64 rfl r44 (by decide) (by decide) dX10_open_413 (fun v175 ev175 rv175 => ?_)
                            refine rn_icmp_eq (tgt := 435) dX10_open_414 (by decide) (fun h176 => ?_) (fun h176 => ?_)
                            · have ch176 := cv_eq h176
                              have r177 : Rg (0) (3) v174 := rf_eqx ch176 rv174 rv175 (by decide) (by decide)
                              refine rn_aload_n (i := 0) dX10_open_435 rfl rfl ?_
                              refine rn_sipush (v := (6600 : Int32)) dX10_open_436 (by decide) ?_
                              refine rn_callV (a := 0) (b := 0) [.int (6600 : Int32)] kl_SGModel_344 dX10_open_439 q3 (hT125.fr hq3 rfl (hT121.fr hq3 rfl (hT115.fr hq3 rfl hl31))) rfl (t_X10_goIn_6600 G S w123 hS125.1 o0_ m0_ (by rw [ht148]; exact gv_tw kh149 r159 (by decide) (by decide))) rfl rfl (Nat.le_of_ble_eq_true rfl) (Nat.le_of_ble_eq_true rfl) (Nat.le_of_ble_eq_true rfl) (Nat.le_of_ble_eq_true rfl) (Nat.le_of_ble_eq_true rfl) (Nat.le_of_ble_eq_true rfl) (fun _ _ h => False.elim h) (fun v9 w178 h179 => ?_)
                              obtain ⟨hT181, v180, rfl, rv180⟩ := h179
                              have hS181 := St.tr hS125 hT181 rfl
                              refine rn_stk [.int v180] rfl ?_
                              exact rn_iret dX10_open_442 rfl rfl (rq_in ⟨hS181, v180, rfl, (rg_w rv180 (by decide) (by decide))⟩)
                            · have ch176 := cv_ne h176
                              refine rn_aload_n (i := 0) dX10_open_417 rfl rfl ?_
                              refine rn_bipush (v := (16 : Int32)) dX10_open_418 (by decide) ?_
                              refine rn_sipush (v := (6600 : Int32)) dX10_open_420 (by decide) ?_
                              refine rn_aload_n (i := 0) dX10_open_423 rfl rfl ?_
                              refine rn_get q3 kg_SGModel_317 (hT125.fr hq3 rfl (hT121.fr hq3 rfl (hT115.fr hq3 rfl hl31))) ((ho31 52 (by decide)).trans hx23) dX10_open_424 ?_
                              refine rn_aload_n (i := 0) dX10_open_427 rfl rfl ?_
                              refine rn_get q3 kg_SGModel_320 (hT125.fr hq3 rfl (hT121.fr hq3 rfl (hT115.fr hq3 rfl hl31))) hx31 dX10_open_428 ?_
                              refine rn_callV (a := 0) (b := 0) [.int (16 : Int32), .int (6600 : Int32), .int v20, .int v28] kl_SGModel_323 dX10_open_431 q3 (hT125.fr hq3 rfl (hT121.fr hq3 rfl (hT115.fr hq3 rfl hl31))) rfl (t_X10_note G S w123 hS125.1 o0_ m0_ (16 : Int32) (rg_w rk_16 (by decide) (by decide)) (6600 : Int32) (rg_w rk_6600 (by decide) (by decide)) v20 v28) rfl rfl (Nat.le_of_ble_eq_true rfl) (Nat.le_of_ble_eq_true rfl) (Nat.le_of_ble_eq_true rfl) (Nat.le_of_ble_eq_true rfl) (Nat.le_of_ble_eq_true rfl) (Nat.le_of_ble_eq_true rfl) (fun _ _ h => False.elim h) (fun v9 w182 h183 => ?_)
                              obtain ⟨hT185, v184, rfl, rv184⟩ := h183
                              have hS185 := St.tr hS125 hT185 rfl
                              have ht186 := tw_eq (byt_fr hS125.1 hT185 rfl) ht148
                              refine rn_stk [.int v184] rfl ?_
                              exact rn_iret dX10_open_434 rfl rfl (rq_in ⟨hS185, v184, rfl, rv184⟩)
                        · have ch158 := cv_ne h158
                          refine rn_bipush (v := (15 : Int32)) dX10_open_383 (by decide) ?_
                          exact rn_iret dX10_open_385 rfl rfl (rq_in ⟨hS125, (15 : Int32), rfl, (rg_w rk_15 (by decide) (by decide))⟩)
                    · have ch140 := cv_ne h140
                      refine rn_iload dX10_open_335 rfl ?_
                      refine rn_bipush (v := (59 : Int32)) dX10_open_337 (by decide) ?_
                      refine rn_icmp_ne (tgt := 347) dX10_open_339 (by decide) (fun h187 => ?_) (fun h187 => ?_)
                      · have ch187 := cv_ne h187
                        refine rn_bipush (v := (13 : Int32)) dX10_open_347 (by decide) ?_
                        exact rn_iret dX10_open_349 rfl rfl (rq_in ⟨hS125, (13 : Int32), rfl, (rg_w rk_13 (by decide) (by decide))⟩)
                      · have ch187 := cv_eq h187
                        have r188 : Rg (59) (59) v139 := rf_eqx ch187 rv139 rk_59 (by decide) (by decide)
                        refine rn_bipush (v := (14 : Int32)) dX10_open_342 (by decide) ?_
                        refine rn_goto (tgt := 349) dX10_open_344 (by decide) ?_
                        exact rn_iret dX10_open_349 rfl rfl (rq_in ⟨hS125, (14 : Int32), rfl, (rg_w rk_14 (by decide) (by decide))⟩)
                  · have ch135 := cv_eq h135
                    have r189 : Rg (0) (0) v133 := rf_eqx ch135 rv133 rk_0 (by decide) (by decide)
                    refine rn_bipush (v := (13 : Int32)) dX10_open_311 (by decide) ?_
                    exact rn_iret dX10_open_313 rfl rfl (rq_in ⟨hS125, (13 : Int32), rfl, (rg_w rk_13 (by decide) (by decide))⟩)
                · have ch111 := cv_ne h111
                  refine rn_aload_n (i := 0) dX10_open_228 rfl rfl ?_
                  refine rn_bipush (v := (12 : Int32)) dX10_open_229 (by decide) ?_
                  refine rn_iload_n (i := 1) dX10_open_231 rfl rfl ?_
                  refine rn_aload_n (i := 0) dX10_open_232 rfl rfl ?_
                  refine rn_get q3 kg_SGModel_317 hl31 ((ho31 52 (by decide)).trans hx23) dX10_open_233 ?_
                  refine rn_aload_n (i := 0) dX10_open_236 rfl rfl ?_
                  refine rn_get q3 kg_SGModel_320 hl31 hx31 dX10_open_237 ?_
                  refine rn_callV (a := 0) (b := 0) [.int (12 : Int32), .int (2200 : Int32), .int v20, .int v28] kl_SGModel_323 dX10_open_240 q3 hl31 rfl (t_X10_note G S w30 hS31.1 o0_ m0_ (12 : Int32) (rg_w rk_12 (by decide) (by decide)) (2200 : Int32) (rg_w rk_2200 (by decide) (by decide)) v20 v28) rfl rfl (Nat.le_of_ble_eq_true rfl) (Nat.le_of_ble_eq_true rfl) (Nat.le_of_ble_eq_true rfl) (Nat.le_of_ble_eq_true rfl) (Nat.le_of_ble_eq_true rfl) (Nat.le_of_ble_eq_true rfl) (fun _ _ h => False.elim h) (fun v9 w190 h191 => ?_)
                  obtain ⟨hT193, v192, rfl, rv192⟩ := h191
                  have hS193 := St.tr hS31 hT193 rfl
                  have ht194 := tw_eq (byt_fr hS31.1 hT193 rfl) ht32
                  refine rn_stk [.int v192] rfl ?_
                  exact rn_iret dX10_open_243 rfl rfl (rq_in ⟨hS193, v192, rfl, rv192⟩)
              · have ch85 := cv_ne h85
                have r195 : Rg (1) (1) v83 := rf_nel ch85 rv83 rk_0 (by decide) (by decide)
                refine rn_aload_n (i := 0) dX10_open_159 rfl rfl ?_
                refine rn_bipush (v := (11 : Int32)) dX10_open_160 (by decide) ?_
                refine rn_iload_n (i := 1) dX10_open_162 rfl rfl ?_
                refine rn_aload_n (i := 0) dX10_open_163 rfl rfl ?_
                refine rn_get q3 kg_SGModel_317 hl31 ((ho31 52 (by decide)).trans hx23) dX10_open_164 ?_
                refine rn_aload_n (i := 0) dX10_open_167 rfl rfl ?_
                refine rn_get q3 kg_SGModel_320 hl31 hx31 dX10_open_168 ?_
                refine rn_callV (a := 0) (b := 0) [.int (11 : Int32), .int (2200 : Int32), .int v20, .int v28] kl_SGModel_323 dX10_open_171 q3 hl31 rfl (t_X10_note G S w30 hS31.1 o0_ m0_ (11 : Int32) (rg_w rk_11 (by decide) (by decide)) (2200 : Int32) (rg_w rk_2200 (by decide) (by decide)) v20 v28) rfl rfl (Nat.le_of_ble_eq_true rfl) (Nat.le_of_ble_eq_true rfl) (Nat.le_of_ble_eq_true rfl) (Nat.le_of_ble_eq_true rfl) (Nat.le_of_ble_eq_true rfl) (Nat.le_of_ble_eq_true rfl) (fun _ _ h => False.elim h) (fun v9 w196 h197 => ?_)
                obtain ⟨hT199, v198, rfl, rv198⟩ := h197
                have hS199 := St.tr hS31 hT199 rfl
                have ht200 := tw_eq (byt_fr hS31.1 hT199 rfl) ht32
                refine rn_stk [.int v198] rfl ?_
                exact rn_iret dX10_open_174 rfl rfl (rq_in ⟨hS199, v198, rfl, rv198⟩)
            · have ch79 := cv_ne h79
              have r201 : Rg (1) (1) v77 := rf_nel ch79 rv77 rk_0 (by decide) (by decide)
              refine rn_aload_n (i := 0) dX10_open_133 rfl rfl ?_
              refine rn_bipush (v := (10 : Int32)) dX10_open_134 (by decide) ?_
              refine rn_iload_n (i := 1) dX10_open_136 rfl rfl ?_
              refine rn_aload_n (i := 0) dX10_open_137 rfl rfl ?_
              refine rn_get q3 kg_SGModel_317 hl31 ((ho31 52 (by decide)).trans hx23) dX10_open_138 ?_
              refine rn_aload_n (i := 0) dX10_open_141 rfl rfl ?_
              refine rn_get q3 kg_SGModel_320 hl31 hx31 dX10_open_142 ?_
              refine rn_callV (a := 0) (b := 0) [.int (10 : Int32), .int (2200 : Int32), .int v20, .int v28] kl_SGModel_323 dX10_open_145 q3 hl31 rfl (t_X10_note G S w30 hS31.1 o0_ m0_ (10 : Int32) (rg_w rk_10 (by decide) (by decide)) (2200 : Int32) (rg_w rk_2200 (by decide) (by decide)) v20 v28) rfl rfl (Nat.le_of_ble_eq_true rfl) (Nat.le_of_ble_eq_true rfl) (Nat.le_of_ble_eq_true rfl) (Nat.le_of_ble_eq_true rfl) (Nat.le_of_ble_eq_true rfl) (Nat.le_of_ble_eq_true rfl) (fun _ _ h => False.elim h) (fun v9 w202 h203 => ?_)
              obtain ⟨hT205, v204, rfl, rv204⟩ := h203
              have hS205 := St.tr hS31 hT205 rfl
              have ht206 := tw_eq (byt_fr hS31.1 hT205 rfl) ht32
              refine rn_stk [.int v204] rfl ?_
              exact rn_iret dX10_open_148 rfl rfl (rq_in ⟨hS205, v204, rfl, rv204⟩)
          · have ch68 := cv_ne h68
            refine rn_aload_n (i := 0) dX10_open_91 rfl rfl ?_
            refine rn_bipush (v := (9 : Int32)) dX10_open_92 (by decide) ?_
            refine rn_iload_n (i := 1) dX10_open_94 rfl rfl ?_
            refine rn_aload_n (i := 0) dX10_open_95 rfl rfl ?_
            refine rn_get q3 kg_SGModel_317 hl31 ((ho31 52 (by decide)).trans hx23) dX10_open_96 ?_
            refine rn_aload_n (i := 0) dX10_open_99 rfl rfl ?_
            refine rn_get q3 kg_SGModel_320 hl31 hx31 dX10_open_100 ?_
            refine rn_callV (a := 0) (b := 0) [.int (9 : Int32), .int (2200 : Int32), .int v20, .int v28] kl_SGModel_323 dX10_open_103 q3 hl31 rfl (t_X10_note G S w30 hS31.1 o0_ m0_ (9 : Int32) (rg_w rk_9 (by decide) (by decide)) (2200 : Int32) (rg_w rk_2200 (by decide) (by decide)) v20 v28) rfl rfl (Nat.le_of_ble_eq_true rfl) (Nat.le_of_ble_eq_true rfl) (Nat.le_of_ble_eq_true rfl) (Nat.le_of_ble_eq_true rfl) (Nat.le_of_ble_eq_true rfl) (Nat.le_of_ble_eq_true rfl) (fun _ _ h => False.elim h) (fun v9 w207 h208 => ?_)
            obtain ⟨hT210, v209, rfl, rv209⟩ := h208
            have hS210 := St.tr hS31 hT210 rfl
            have ht211 := tw_eq (byt_fr hS31.1 hT210 rfl) ht32
            refine rn_stk [.int v209] rfl ?_
            exact rn_iret dX10_open_106 rfl rfl (rq_in ⟨hS210, v209, rfl, rv209⟩)
    · have ch15 := cv_ne h15
      have r212 : Rg (1) (3) v14 := rf_nel ch15 rv14 rk_0 (by decide) (by decide)
      refine rn_bipush (v := (8 : Int32)) dX10_open_21 (by decide) ?_
      exact rn_iret dX10_open_23 rfl rfl (rq_in ⟨hS0, (8 : Int32), rfl, (rg_w rk_8 (by decide) (by decide))⟩)
