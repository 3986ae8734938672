abbrev q_t_X4_resize (G : rn_G) (S : ts_S) (ws : va_W) : rn_R → va_W → Prop := rQ (fun v w => St G S [4] ws S w ∧ (v = none)) (fun E w => False)
set_option maxRecDepth 20000 in
set_option maxHeartbeats 4000000 in
theorem t_X4_resize (G : rn_G) (S : ts_S) (ws : va_W) (hW : ts_W G S ws) (o0_ : Nat) (m0_ : (o0_, 4) ∈ S) (x1_ : Int32) : Rn G mX4_resize 1 21 0 0 0 (lv_args 0 [.ref o0_, .int x1_]) [] ws (q_t_X4_resize G S ws ) := by
  have hS0 : St G S [4] ws S ws := St.rf hW
  refine rn_lv [(0, .ref o0_), (1, .int x1_)] rfl ?_
  refine rn_aload_n (i := 0) dX4_resize_0 rfl rfl ?_
  refine rn_iload_n (i := 1) dX4_resize_1 rfl rfl ?_
  refine rn_if_ge (tgt := 9) dX4_resize_2 (by decide) (fun h1 => ?_) (fun h1 => ?_)
  · have ch1 := cv_le h1
    have r2 : Rg (0) (2147483647) x1_ := rf_ley ch1 rk_0 (rg_any x1_) (by decide)
    refine rn_iload_n (i := 1) dX4_resize_9 rfl rfl ?_
    refine rn_sipush (v := (2040 : Int32)) dX4_resize_10 (by decide) ?_
    refine rn_mmin kl_SG_Packet_19 dX4_resize_13 (Nat.le_of_ble_eq_true rfl) (Nat.le_of_ble_eq_true rfl) (Nat.le_of_ble_eq_true rfl) (rn_tn (0) (2040) (rg_min r2 rk_2040 (by decide)) (fun v3 rv3 => ?_))
    obtain ⟨q4, fs4, hq4, hl4, hf4⟩ := ts_obj hS0.1 m0_ hk_4
    refine rs_put q4 (kp_SG_Packet_15 _) hS0 hq4 hl4 hf4 hk_4 rfl rfl (tv_i rv3) rfl rfl dX4_resize_16 (fun w5 fs6 hS6 hl6 hf6 hx6 ho6 hn6 => ?_)
    exact rn_vret dX4_resize_19 rfl (rq_in ⟨hS6, rfl⟩)
  · have ch1 := cv_nle h1
    have r7 : Rg (-2147483648) (-1) x1_ := rf_ltx ch1 (rg_any x1_) rk_0 (by decide)
    refine rn_iconst (v := (0 : Int32)) dX4_resize_5 (by decide) ?_
    refine rn_goto (tgt := 16) dX4_resize_6 (by decide) ?_
    obtain ⟨q8, fs8, hq8, hl8, hf8⟩ := ts_obj hS0.1 m0_ hk_4
    refine rs_put q8 (kp_SG_Packet_15 _) hS0 hq8 hl8 hf8 hk_4 rfl rfl (tv_i (rg_w rk_0 (by decide) (by decide))) rfl rfl dX4_resize_16 (fun w9 fs10 hS10 hl10 hf10 hx10 ho10 hn10 => ?_)
    exact rn_vret dX4_resize_19 rfl (rq_in ⟨hS10, rfl⟩)
abbrev q_t_J7_fill_031fb_12 (G : rn_G) (S : ts_S) (ws : va_W) : rn_R → va_W → Prop := rQ (fun v w => St G S [12] ws S w ∧ (v = none)) (fun E w => False)
set_option maxRecDepth 20000 in
set_option maxHeartbeats 4000000 in
theorem t_J7_fill_031fb_12 (G : rn_G) (S : ts_S) (ws : va_W) (hW : ts_W G S ws) (o0_ : Nat) (m0_ : (o0_, 12) ∈ S) (x1_ : Int32) (r1_ : Rg (-128) (127) x1_) : Rn G mJ7_fill_031fb 0 0 0 0 0 (lv_args 0 [.ref o0_, .int x1_]) [] ws (q_t_J7_fill_031fb_12 G S ws ) := by
  have hS0 : St G S [12] ws S ws := St.rf hW
  refine rn_lv [(0, .ref o0_), (1, .int x1_)] rfl ?_
  refine rn_iconst (v := (0 : Int32)) dJ7_fill_031fb_0 (by decide) ?_
  refine rn_istore_n dJ7_fill_031fb_1 rfl (by decide) [(0, .ref o0_), (1, .int x1_), (2, .int (0 : Int32))] rfl ?_
  refine rn_aload_n (i := 0) dJ7_fill_031fb_2 rfl rfl ?_
  obtain ⟨q1, f1, hq1, hl1, hf1⟩ := ts_ia hS0.1 m0_ hk_12
  refine rs_alen q1 (v := (1980 : Int32)) hl1 rfl (by decide) dJ7_fill_031fb_3 ?_
  refine rn_istore_n dJ7_fill_031fb_4 rfl (by decide) [(0, .ref o0_), (1, .int x1_), (2, .int (0 : Int32)), (3, .int (1980 : Int32))] rfl ?_
  have LP3 : ∀ (n : Nat) (w4 : va_W) (x2 : Int32), St G S [12] ws S w4 → Rg (0) (1980) x2 → (1980 - x2.toInt).toNat = n → Rn G mJ7_fill_031fb 0 0 0 0 5 [(0, .ref o0_), (1, .int x1_), (2, .int x2), (3, .int (1980 : Int32))] [] w4 (q_t_J7_fill_031fb_12 G S ws ) := by
    intro n
    induction n using Nat.strongRecOn with
    | _ n ih =>
      intro w4 x2 hT5 r6 hm7
      refine rn_iload_n (i := 2) dJ7_fill_031fb_5 rfl rfl ?_
      refine rn_iload_n (i := 3) dJ7_fill_031fb_6 rfl rfl ?_
      refine rn_icmp_ge (tgt := 20) dJ7_fill_031fb_7 (by decide) (fun h8 => ?_) (fun h8 => ?_)
      · have ch8 := cv_le h8
        have r9 : Rg (1980) (1980) x2 := rf_ley ch8 rk_1980 r6 (by decide)
        have hS10 := St.tr hS0 hT5 rfl
        exact rn_vret dJ7_fill_031fb_20 rfl (rq_in ⟨hS10, rfl⟩)
      · have ch8 := cv_nle h8
        have r11 : Rg (0) (1979) x2 := rf_ltx ch8 r6 rk_1980 (by decide)
        refine rn_aload_n (i := 0) dJ7_fill_031fb_10 rfl rfl ?_
        refine rn_iload_n (i := 2) dJ7_fill_031fb_11 rfl rfl ?_
        refine rn_iload_n (i := 1) dJ7_fill_031fb_12 rfl rfl ?_
        obtain ⟨q12, f12, hq12, hl12, hf12⟩ := ts_ia hT5.1 m0_ hk_12
        refine rs_bast q12 hT5 hq12 hl12 hf12 hk_12 rfl rfl r11 (by decide) (by decide) (by decide) (by decide) dJ7_fill_031fb_13 (fun w13 f14 hS14 hl14 hf14 hu14 hn14 => ?_)
        refine rs_iinc (1) (1980) dJ7_fill_031fb_14 rfl (by decide) r11 rk_1 (by decide) (fun v15 => [(0, .ref o0_), (1, .int x1_), (2, .int v15), (3, .int (1980 : Int32))]) (fun _ => rfl) (fun v15 ev15 rv15 => ?_)
        refine rn_goto (tgt := 5) dJ7_fill_031fb_17 (by decide) ?_
        refine rn_lv [(0, .ref o0_), (1, .int x1_), (2, .int v15), (3, .int (1980 : Int32))] rfl ?_
        exact ih _ (lp_inc hm7 ev15 rv15 (by decide)) w13 v15 hS14 (rg_w rv15 (by decide) (by decide)) rfl
  exact LP3 _ ws (0 : Int32) (St.rf hS0.1) (rg_w rk_0 (by decide) (by decide)) rfl
abbrev q_t_X4_wordAt (G : rn_G) (S : ts_S) (ws : va_W) : rn_R → va_W → Prop := rQ (fun v w => ws = w ∧ (∃ x : Int32, v = some (.int x) ∧ Rg (-2147483648) (2147483647) x)) (fun E w => False)
set_option maxRecDepth 20000 in
set_option maxHeartbeats 4000000 in
theorem t_X4_wordAt (G : rn_G) (S : ts_S) (ws : va_W) (hW : ts_W G S ws) (o0_ : Nat) (m0_ : (o0_, 4) ∈ S) (x1_ : Int32) : Rn G mX4_wordAt 0 0 0 0 0 (lv_args 0 [.ref o0_, .int x1_]) [] ws (q_t_X4_wordAt G S ws ) := by
  refine rn_lv [(0, .ref o0_), (1, .int x1_)] rfl ?_
  refine rn_iload_n (i := 1) dX4_wordAt_0 rfl rfl ?_
  refine rn_if_lt (tgt := 18) dX4_wordAt_1 (by decide) (fun h1 => ?_) (fun h1 => ?_)
  · have ch1 := cv_lt h1
    have r2 : Rg (-2147483648) (-1) x1_ := rf_ltx ch1 (rg_any x1_) rk_0 (by decide)
    refine rn_iconst (v := (0 : Int32)) dX4_wordAt_18 (by decide) ?_
    refine rn_istore_n dX4_wordAt_19 rfl (by decide) [(0, .ref o0_), (1, .int x1_), (2, .int (0 : Int32))] rfl ?_
    refine rn_iload_n (i := 2) dX4_wordAt_20 rfl rfl ?_
    refine rn_if_eq (tgt := 81) dX4_wordAt_21 (by decide) (fun h3 => ?_) (fun h3 => (cx_ne (cv_ne h3) rk_0 rk_0 (by decide)).elim)
    refine rn_iconst (v := (0 : Int32)) dX4_wordAt_81 (by decide) ?_
    exact rn_iret dX4_wordAt_82 rfl rfl (rq_in ⟨rfl, (0 : Int32), rfl, (rg_w rk_0 (by decide) (by decide))⟩)
  · have ch1 := cv_nlt h1
    have r4 : Rg (0) (2147483647) x1_ := rf_ley ch1 rk_0 (rg_any x1_) (by decide)
    refine rn_iload_n (i := 1) dX4_wordAt_4 rfl rfl ?_
    refine rn_aload_n (i := 0) dX4_wordAt_5 rfl rfl ?_
    obtain ⟨q5, fs5, hq5, hl5, hf5⟩ := ts_obj hW m0_ hk_4
    obtain ⟨x6, hx6, rx6⟩ := fs_i hf5 1 rfl
    refine rn_get q5 kg_SG_Packet_15 hl5 hx6 dX4_wordAt_6 ?_
    refine rn_iconst (v := (3 : Int32)) dX4_wordAt_9 (by decide) ?_
    refine rs_subC (-3) (2037) rx6 rk_3 dX4_wordAt_10 (by decide) (fun v7 ev7 rv7 => ?_)
    refine rn_icmp_ge (tgt := 18) dX4_wordAt_11 (by decide) (fun h8 => ?_) (fun h8 => ?_)
    · have ch8 := cv_le h8
      refine rn_iconst (v := (0 : Int32)) dX4_wordAt_18 (by decide) ?_
      refine rn_istore_n dX4_wordAt_19 rfl (by decide) [(0, .ref o0_), (1, .int x1_), (2, .int (0 : Int32))] rfl ?_
      refine rn_iload_n (i := 2) dX4_wordAt_20 rfl rfl ?_
      refine rn_if_eq (tgt := 81) dX4_wordAt_21 (by decide) (fun h9 => ?_) (fun h9 => (cx_ne (cv_ne h9) rk_0 rk_0 (by decide)).elim)
      refine rn_iconst (v := (0 : Int32)) dX4_wordAt_81 (by decide) ?_
      exact rn_iret dX4_wordAt_82 rfl rfl (rq_in ⟨rfl, (0 : Int32), rfl, (rg_w rk_0 (by decide) (by decide))⟩)
    · have ch8 := cv_nle h8
      have r10 : Rg (0) (2036) x1_ := rf_ltx ch8 r4 rv7 (by decide)
      have r11 : Rg (1) (2037) v7 := rf_lty ch8 r4 rv7 (by decide)
      refine rn_iconst (v := (1 : Int32)) dX4_wordAt_14 (by decide) ?_
      refine rn_goto (tgt := 19) dX4_wordAt_15 (by decide) ?_
      refine rn_istore_n dX4_wordAt_19 rfl (by decide) [(0, .ref o0_), (1, .int x1_), (2, .int (1 : Int32))] rfl ?_
      refine rn_iload_n (i := 2) dX4_wordAt_20 rfl rfl ?_
      refine rn_if_eq (tgt := 81) dX4_wordAt_21 (by decide) (fun h12 => (cx_eq (cv_eq h12) rk_1 rk_0 (by decide)).elim) (fun h12 => ?_)
      refine rn_aload_n (i := 0) dX4_wordAt_24 rfl rfl ?_
      obtain ⟨o13, hx13, m13⟩ := fs_r hf5 0 rfl
      refine rn_get q5 kg_SG_Packet_11 hl5 hx13 dX4_wordAt_25 ?_
      refine rn_iload_n (i := 1) dX4_wordAt_28 rfl rfl ?_
      obtain ⟨q14, f14, hq14, hl14, hf14⟩ := ts_ia hW m13 hk_11
      refine rs_bald q14 hl14 hf14 rfl r10 (by decide) (by decide) dX4_wordAt_29 (fun v15 ev15 rv15 => ?_)
      refine rn_bipush (v := (24 : Int32)) dX4_wordAt_30 (by decide) ?_
      refine rn_ishl dX4_wordAt_32 (rn_nmA (fun v16 rv16 => ?_))
      refine rn_aload_n (i := 0) dX4_wordAt_33 rfl rfl ?_
      refine rn_get q5 kg_SG_Packet_11 hl5 hx13 dX4_wordAt_34 ?_
      refine rn_iload_n (i := 1) dX4_wordAt_37 rfl rfl ?_
      refine rn_iconst (v := (1 : Int32)) dX4_wordAt_38 (by decide) ?_
      refine rs_addC (1) (2037) r10 rk_1 dX4_wordAt_39 (by decide) (fun v17 ev17 rv17 => ?_)
      refine rs_bald q14 hl14 hf14 rfl rv17 (by decide) (by decide) dX4_wordAt_40 (fun v18 ev18 rv18 => ?_)
      refine rn_sipush (v := (255 : Int32)) dX4_wordAt_41 (by decide) ?_
      refine rn_iand dX4_wordAt_44 (rn_tn 0 (255) (rg_andr rk_255 (by decide)) (fun v19 rv19 => ?_))
      refine rn_bipush (v := (16 : Int32)) dX4_wordAt_45 (by decide) ?_
      refine rn_ishl dX4_wordAt_47 (rn_nmA (fun v20 rv20 => ?_))
      refine rn_ior dX4_wordAt_48 (rn_nmA (fun v21 rv21 => ?_))
      refine rn_aload_n (i := 0) dX4_wordAt_49 rfl rfl ?_
      refine rn_get q5 kg_SG_Packet_11 hl5 hx13 dX4_wordAt_50 ?_
      refine rn_iload_n (i := 1) dX4_wordAt_53 rfl rfl ?_
      refine rn_iconst (v := (2 : Int32)) dX4_wordAt_54 (by decide) ?_
      refine rs_addC (2) (2038) r10 rk_2 dX4_wordAt_55 (by decide) (fun v22 ev22 rv22 => ?_)
      refine rs_bald q14 hl14 hf14 rfl rv22 (by decide) (by decide) dX4_wordAt_56 (fun v23 ev23 rv23 => ?_)
      refine rn_sipush (v := (255 : Int32)) dX4_wordAt_57 (by decide) ?_
      refine rn_iand dX4_wordAt_60 (rn_tn 0 (255) (rg_andr rk_255 (by decide)) (fun v24 rv24 => ?_))
      refine rn_bipush (v := (8 : Int32)) dX4_wordAt_61 (by decide) ?_
      refine rn_ishl dX4_wordAt_63 (rn_nmA (fun v25 rv25 => ?_))
      refine rn_ior dX4_wordAt_64 (rn_nmA (fun v26 rv26 => ?_))
      refine rn_aload_n (i := 0) dX4_wordAt_65 rfl rfl ?_
      refine rn_get q5 kg_SG_Packet_11 hl5 hx13 dX4_wordAt_66 ?_
      refine rn_iload_n (i := 1) dX4_wordAt_69 rfl rfl ?_
      refine rn_iconst (v := (3 : Int32)) dX4_wordAt_70 (by decide) ?_
      refine rs_addC (3) (2039) r10 rk_3 dX4_wordAt_71 (by decide) (fun v27 ev27 rv27 => ?_)
      refine rs_bald q14 hl14 hf14 rfl rv27 (by decide) (by decide) dX4_wordAt_72 (fun v28 ev28 rv28 => ?_)
      refine rn_sipush (v := (255 : Int32)) dX4_wordAt_73 (by decide) ?_
      refine rn_iand dX4_wordAt_76 (rn_tn 0 (255) (rg_andr rk_255 (by decide)) (fun v29 rv29 => ?_))
      refine rn_ior dX4_wordAt_77 (rn_nmA (fun v30 rv30 => ?_))
      refine rn_goto (tgt := 82) dX4_wordAt_78 (by decide) ?_
      exact rn_iret dX4_wordAt_82 rfl rfl (rq_in ⟨rfl, v30, rfl, rv30⟩)
abbrev q_t_X4_from (G : rn_G) (S : ts_S) (ws : va_W) : rn_R → va_W → Prop := rQ (fun v w => ws = w ∧ (∃ x : Int32, v = some (.int x) ∧ Rg (-2147483648) (2147483647) x)) (fun E w => False)
set_option maxRecDepth 20000 in
set_option maxHeartbeats 4000000 in
theorem t_X4_from (G : rn_G) (S : ts_S) (ws : va_W) (hW : ts_W G S ws) (o0_ : Nat) (m0_ : (o0_, 4) ∈ S) : Rn G mX4_from 1 22 0 0 0 (lv_args 0 [.ref o0_]) [] ws (q_t_X4_from G S ws ) := by
  refine rn_lv [(0, .ref o0_)] rfl ?_
  refine rn_aload_n (i := 0) dX4_from_0 rfl rfl ?_
  refine rn_bipush (v := (12 : Int32)) dX4_from_1 (by decide) ?_
  obtain ⟨q1, fs1, hq1, hl1, hf1⟩ := ts_obj hW m0_ hk_4
  refine rn_callV (a := 0) (b := 0) [.int (12 : Int32)] kl_SG_Packet_25 dX4_from_3 q1 hl1 rfl (t_X4_wordAt G S ws hW o0_ m0_ (12 : Int32)) rfl rfl (Nat.le_of_ble_eq_true rfl) (Nat.le_of_ble_eq_true rfl) (Nat.le_of_ble_eq_true rfl) (Nat.le_of_ble_eq_true rfl) (Nat.le_of_ble_eq_true rfl) (Nat.le_of_ble_eq_true rfl) (fun _ _ h => False.elim h) (fun v9 w2 h3 => ?_)
  obtain ⟨rfl, v4, rfl, rv4⟩ := h3
  refine rn_stk [.int v4] rfl ?_
  exact rn_iret dX4_from_6 rfl rfl (rq_in ⟨rfl, v4, rfl, rv4⟩)
abbrev q_t_X4_pairAt (G : rn_G) (S : ts_S) (ws : va_W) : rn_R → va_W → Prop := rQ (fun v w => ws = w ∧ (∃ x : Int32, v = some (.int x) ∧ Rg (-2147483648) (2147483647) x)) (fun E w => False)
set_option maxRecDepth 20000 in
set_option maxHeartbeats 4000000 in
theorem t_X4_pairAt (G : rn_G) (S : ts_S) (ws : va_W) (hW : ts_W G S ws) (o0_ : Nat) (m0_ : (o0_, 4) ∈ S) (x1_ : Int32) : Rn G mX4_pairAt 0 0 0 0 0 (lv_args 0 [.ref o0_, .int x1_]) [] ws (q_t_X4_pairAt G S ws ) := by
  refine rn_lv [(0, .ref o0_), (1, .int x1_)] rfl ?_
  refine rn_iload_n (i := 1) dX4_pairAt_0 rfl rfl ?_
  refine rn_if_lt (tgt := 43) dX4_pairAt_1 (by decide) (fun h1 => ?_) (fun h1 => ?_)
  · have ch1 := cv_lt h1
    have r2 : Rg (-2147483648) (-1) x1_ := rf_ltx ch1 (rg_any x1_) rk_0 (by decide)
    refine rn_iconst (v := (0 : Int32)) dX4_pairAt_43 (by decide) ?_
    exact rn_iret dX4_pairAt_44 rfl rfl (rq_in ⟨rfl, (0 : Int32), rfl, (rg_w rk_0 (by decide) (by decide))⟩)
  · have ch1 := cv_nlt h1
    have r3 : Rg (0) (2147483647) x1_ := rf_ley ch1 rk_0 (rg_any x1_) (by decide)
    refine rn_iload_n (i := 1) dX4_pairAt_4 rfl rfl ?_
    refine rn_aload_n (i := 0) dX4_pairAt_5 rfl rfl ?_
    obtain ⟨q4, fs4, hq4, hl4, hf4⟩ := ts_obj hW m0_ hk_4
    obtain ⟨x5, hx5, rx5⟩ := fs_i hf4 1 rfl
    refine rn_get q4 kg_SG_Packet_15 hl4 hx5 dX4_pairAt_6 ?_
    refine rn_iconst (v := (1 : Int32)) dX4_pairAt_9 (by decide) ?_
    refine rs_subC (-1) (2039) rx5 rk_1 dX4_pairAt_10 (by decide) (fun v6 ev6 rv6 => ?_)
    refine rn_icmp_ge (tgt := 43) dX4_pairAt_11 (by decide) (fun h7 => ?_) (fun h7 => ?_)
    · have ch7 := cv_le h7
      refine rn_iconst (v := (0 : Int32)) dX4_pairAt_43 (by decide) ?_
      exact rn_iret dX4_pairAt_44 rfl rfl (rq_in ⟨rfl, (0 : Int32), rfl, (rg_w rk_0 (by decide) (by decide))⟩)
    · have ch7 := cv_nle h7
      have r8 : Rg (0) (2038) x1_ := rf_ltx ch7 r3 rv6 (by decide)
      have r9 : Rg (1) (2039) v6 := rf_lty ch7 r3 rv6 (by decide)
      refine rn_aload_n (i := 0) dX4_pairAt_14 rfl rfl ?_
      obtain ⟨o10, hx10, m10⟩ := fs_r hf4 0 rfl
      refine rn_get q4 kg_SG_Packet_11 hl4 hx10 dX4_pairAt_15 ?_
      refine rn_iload_n (i := 1) dX4_pairAt_18 rfl rfl ?_
      obtain ⟨q11, f11, hq11, hl11, hf11⟩ := ts_ia hW m10 hk_11
      refine rs_bald q11 hl11 hf11 rfl r8 (by decide) (by decide) dX4_pairAt_19 (fun v12 ev12 rv12 => ?_)
      refine rn_sipush (v := (255 : Int32)) dX4_pairAt_20 (by decide) ?_
      refine rn_iand dX4_pairAt_23 (rn_tn 0 (255) (rg_andr rk_255 (by decide)) (fun v13 rv13 => ?_))
      refine rn_bipush (v := (8 : Int32)) dX4_pairAt_24 (by decide) ?_
      refine rn_ishl dX4_pairAt_26 (rn_nmA (fun v14 rv14 => ?_))
      refine rn_aload_n (i := 0) dX4_pairAt_27 rfl rfl ?_
      refine rn_get q4 kg_SG_Packet_11 hl4 hx10 dX4_pairAt_28 ?_
      refine rn_iload_n (i := 1) dX4_pairAt_31 rfl rfl ?_
      refine rn_iconst (v := (1 : Int32)) dX4_pairAt_32 (by decide) ?_
      refine rs_addC (1) (2039) r8 rk_1 dX4_pairAt_33 (by decide) (fun v15 ev15 rv15 => ?_)
      refine rs_bald q11 hl11 hf11 rfl rv15 (by decide) (by decide) dX4_pairAt_34 (fun v16 ev16 rv16 => ?_)
      refine rn_sipush (v := (255 : Int32)) dX4_pairAt_35 (by decide) ?_
      refine rn_iand dX4_pairAt_38 (rn_tn 0 (255) (rg_andr rk_255 (by decide)) (fun v17 rv17 => ?_))
      refine rn_ior dX4_pairAt_39 (rn_nmA (fun v18 rv18 => ?_))
      refine rn_goto (tgt := 44) dX4_pairAt_40 (by decide) ?_
      exact rn_iret dX4_pairAt_44 rfl rfl (rq_in ⟨rfl, v18, rfl, rv18⟩)
abbrev q_t_X4_number (G : rn_G) (S : ts_S) (ws : va_W) : rn_R → va_W → Prop := rQ (fun v w => ws = w ∧ (∃ x : Int32, v = some (.int x) ∧ Rg (-2147483648) (2147483647) x)) (fun E w => False)
set_option maxRecDepth 20000 in
set_option maxHeartbeats 4000000 in
theorem t_X4_number (G : rn_G) (S : ts_S) (ws : va_W) (hW : ts_W G S ws) (o0_ : Nat) (m0_ : (o0_, 4) ∈ S) : Rn G mX4_number 1 21 0 0 0 (lv_args 0 [.ref o0_]) [] ws (q_t_X4_number G S ws ) := by
  refine rn_lv [(0, .ref o0_)] rfl ?_
  refine rn_aload_n (i := 0) dX4_number_0 rfl rfl ?_
  refine rn_iconst (v := (4 : Int32)) dX4_number_1 (by decide) ?_
  obtain ⟨q1, fs1, hq1, hl1, hf1⟩ := ts_obj hW m0_ hk_4
  refine rn_callV (a := 0) (b := 0) [.int (4 : Int32)] kl_SG_Packet_52 dX4_number_2 q1 hl1 rfl (t_X4_pairAt G S ws hW o0_ m0_ (4 : Int32)) rfl rfl (Nat.le_of_ble_eq_true rfl) (Nat.le_of_ble_eq_true rfl) (Nat.le_of_ble_eq_true rfl) (Nat.le_of_ble_eq_true rfl) (Nat.le_of_ble_eq_true rfl) (Nat.le_of_ble_eq_true rfl) (fun _ _ h => False.elim h) (fun v9 w2 h3 => ?_)
  obtain ⟨rfl, v4, rfl, rv4⟩ := h3
  refine rn_stk [.int v4] rfl ?_
  exact rn_iret dX4_number_5 rfl rfl (rq_in ⟨rfl, v4, rfl, rv4⟩)
abbrev q_t_X0_begin (G : rn_G) (S : ts_S) (ws : va_W) : rn_R → va_W → Prop := rQ (fun v w => St G S [0, 4, 12] ws S w ∧ (v = none)) (fun E w => False)
set_option maxRecDepth 20000 in
set_option maxHeartbeats 4000000 in
theorem t_X0_begin (G : rn_G) (S : ts_S) (ws : va_W) (hW : ts_W G S ws) (o0_ : Nat) (m0_ : (o0_, 0) ∈ S) (o1_ : Nat) (m1_ : (o1_, 4) ∈ S) : Rn G mX0_begin 2 42 0 0 0 (lv_args 0 [.ref o0_, .ref o1_]) [] ws (q_t_X0_begin G S ws ) := by
  have hS0 : St G S [0, 4, 12] ws S ws := St.rf hW
  refine rn_lv [(0, .ref o0_), (1, .ref o1_)] rfl ?_
  refine rn_aload_n (i := 0) dX0_begin_0 rfl rfl ?_
  obtain ⟨q1, fs1, hq1, hl1, hf1⟩ := ts_obj hS0.1 m0_ hk_0
  obtain ⟨o2, hx2, m2⟩ := fs_r hf1 0 rfl
  refine rn_get q1 kg_SG_Heap_12 hl1 hx2 dX0_begin_1 ?_
  refine rn_sipush (v := (2000 : Int32)) dX0_begin_4 (by decide) ?_
  obtain ⟨q3, fs3, hq3, hl3, hf3⟩ := ts_obj hS0.1 m2 hk_4
  refine rn_callV (a := 0) (b := 0) [.int (2000 : Int32)] kl_SG_Heap_22 dX0_begin_7 q3 hl3 rfl (t_X4_resize G S ws hS0.1 o2 m2 (2000 : Int32)) rfl rfl (Nat.le_of_ble_eq_true rfl) (Nat.le_of_ble_eq_true rfl) (Nat.le_of_ble_eq_true rfl) (Nat.le_of_ble_eq_true rfl) (Nat.le_of_ble_eq_true rfl) (Nat.le_of_ble_eq_true rfl) (fun _ _ h => False.elim h) (fun v9 w4 h5 => ?_)
  obtain ⟨hT6, rfl⟩ := h5
  have hS6 := St.tr hS0 hT6 rfl
  refine rn_stk [] rfl ?_
  refine rn_aload_n (i := 0) dX0_begin_10 rfl rfl ?_
  obtain ⟨o7, hx7, m7⟩ := fs_r hf1 1 rfl
  refine rn_get q1 kg_SG_Heap_18 (hT6.fr hq1 rfl hl1) hx7 dX0_begin_11 ?_
  refine rn_iconst (v := (0 : Int32)) dX0_begin_14 (by decide) ?_
  refine rn_callS (a := 0) (b := 0) [.ref o7, .int (0 : Int32)] kl_SG_Heap_26 dX0_begin_15 (t_J7_fill_031fb_12 G S w4 hS6.1 o7 m7 (0 : Int32) (rg_w rk_0 (by decide) (by decide))) rfl rfl (Nat.le_of_ble_eq_true rfl) (Nat.le_of_ble_eq_true rfl) (Nat.le_of_ble_eq_true rfl) (Nat.le_of_ble_eq_true rfl) (Nat.le_of_ble_eq_true rfl) (Nat.le_of_ble_eq_true rfl) (fun _ _ h => False.elim h) (fun v9 w8 h9 => ?_)
  obtain ⟨hT10, rfl⟩ := h9
  have hS10 := St.tr hS6 hT10 rfl
  refine rn_stk [] rfl ?_
  refine rn_aload_n (i := 0) dX0_begin_18 rfl rfl ?_
  refine rn_aload_n (i := 1) dX0_begin_19 rfl rfl ?_
  obtain ⟨q11, fs11, hq11, hl11, hf11⟩ := ts_obj hS10.1 m1_ hk_4
  refine rn_callV (a := 0) (b := 0) [] kl_SG_Heap_32 dX0_begin_20 q11 hl11 rfl (t_X4_from G S w8 hS10.1 o1_ m1_) rfl rfl (Nat.le_of_ble_eq_true rfl) (Nat.le_of_ble_eq_true rfl) (Nat.le_of_ble_eq_true rfl) (Nat.le_of_ble_eq_true rfl) (Nat.le_of_ble_eq_true rfl) (Nat.le_of_ble_eq_true rfl) (fun _ _ h => False.elim h) (fun v9 w12 h13 => ?_)
  obtain ⟨rfl, v14, rfl, rv14⟩ := h13
  refine rn_stk [.int v14, .ref o0_] rfl ?_
  refine rs_put q1 (kp_SG_Heap_36 _) hS10 hq1 (hT10.fr hq1 rfl (hT6.fr hq1 rfl hl1)) hf1 hk_0 rfl rfl (tv_i rv14) rfl rfl dX0_begin_23 (fun w16 fs17 hS17 hl17 hf17 hx17 ho17 hn17 => ?_)
  refine rn_aload_n (i := 0) dX0_begin_26 rfl rfl ?_
  refine rn_aload_n (i := 1) dX0_begin_27 rfl rfl ?_
  refine rn_callV (a := 0) (b := 0) [] kl_SG_Heap_39 dX0_begin_28 q11 ((hn17 _ (ts_ne hq1 hq11 rfl)).trans hl11) rfl (t_X4_number G S w16 hS17.1 o1_ m1_) rfl rfl (Nat.le_of_ble_eq_true rfl) (Nat.le_of_ble_eq_true rfl) (Nat.le_of_ble_eq_true rfl) (Nat.le_of_ble_eq_true rfl) (Nat.le_of_ble_eq_true rfl) (Nat.le_of_ble_eq_true rfl) (fun _ _ h => False.elim h) (fun v9 w18 h19 => ?_)
  obtain ⟨rfl, v20, rfl, rv20⟩ := h19
  refine rn_stk [.int v20, .ref o0_] rfl ?_
  refine rs_put q1 (kp_SG_Heap_42 _) hS17 hq1 hl17 hf17 hk_0 rfl rfl (tv_i rv20) rfl rfl dX0_begin_31 (fun w22 fs23 hS23 hl23 hf23 hx23 ho23 hn23 => ?_)
  refine rn_aload_n (i := 0) dX0_begin_34 rfl rfl ?_
  refine rn_iconst (v := (0 : Int32)) dX0_begin_35 (by decide) ?_
  refine rs_put q1 (kp_SG_Heap_44 _) hS23 hq1 hl23 hf23 hk_0 rfl rfl (tv_i (rg_w rk_0 (by decide) (by decide))) rfl rfl dX0_begin_36 (fun w24 fs25 hS25 hl25 hf25 hx25 ho25 hn25 => ?_)
  refine rn_aload_n (i := 0) dX0_begin_39 rfl rfl ?_
  refine rn_iconst (v := (0 : Int32)) dX0_begin_40 (by decide) ?_
  refine rs_put q1 (kp_SG_Heap_47 _) hS25 hq1 hl25 hf25 hk_0 rfl rfl (tv_i (rg_w rk_0 (by decide) (by decide))) rfl rfl dX0_begin_41 (fun w26 fs27 hS27 hl27 hf27 hx27 ho27 hn27 => ?_)
  refine rn_aload_n (i := 0) dX0_begin_44 rfl rfl ?_
  refine rn_iconst (v := (-1 : Int32)) dX0_begin_45 (by decide) ?_
  refine rs_put q1 (kp_SG_Heap_50 _) hS27 hq1 hl27 hf27 hk_0 rfl rfl (tv_i (rg_w rk_m1 (by decide) (by decide))) rfl rfl dX0_begin_46 (fun w28 fs29 hS29 hl29 hf29 hx29 ho29 hn29 => ?_)
  refine rn_aload_n (i := 0) dX0_begin_49 rfl rfl ?_
  refine rn_iconst (v := (0 : Int32)) dX0_begin_50 (by decide) ?_
  refine rs_put q1 (kp_SG_Heap_53 _) hS29 hq1 hl29 hf29 hk_0 rfl rfl (tv_i (rg_w rk_0 (by decide) (by decide))) rfl rfl dX0_begin_51 (fun w30 fs31 hS31 hl31 hf31 hx31 ho31 hn31 => ?_)
  exact rn_vret dX0_begin_54 rfl (rq_in ⟨hS31, rfl⟩)
abbrev q_t_X0_isOf (G : rn_G) (S : ts_S) (ws : va_W) : rn_R → va_W → Prop := rQ (fun v w => ws = w ∧ (∃ x : Int32, v = some (.int x) ∧ Rg (0) (1) x)) (fun E w => False)
set_option maxRecDepth 20000 in
set_option maxHeartbeats 4000000 in
theorem t_X0_isOf (G : rn_G) (S : ts_S) (ws : va_W) (hW : ts_W G S ws) (o0_ : Nat) (m0_ : (o0_, 0) ∈ S) (o1_ : Nat) (m1_ : (o1_, 4) ∈ S) : Rn G mX0_isOf 2 42 0 0 0 (lv_args 0 [.ref o0_, .ref o1_]) [] ws (q_t_X0_isOf G S ws ) := by
  refine rn_lv [(0, .ref o0_), (1, .ref o1_)] rfl ?_
  refine rn_aload_n (i := 0) dX0_isOf_0 rfl rfl ?_
  obtain ⟨q1, fs1, hq1, hl1, hf1⟩ := ts_obj hW m0_ hk_0
  obtain ⟨x2, hx2, rx2⟩ := fs_i hf1 2 rfl
  refine rn_get q1 kg_SG_Heap_36 hl1 hx2 dX0_isOf_1 ?_
  refine rn_aload_n (i := 1) dX0_isOf_4 rfl rfl ?_
  obtain ⟨q3, fs3, hq3, hl3, hf3⟩ := ts_obj hW m1_ hk_4
  refine rn_callV (a := 0) (b := 0) [] kl_SG_Heap_32 dX0_isOf_5 q3 hl3 rfl (t_X4_from G S ws hW o1_ m1_) rfl rfl (Nat.le_of_ble_eq_true rfl) (Nat.le_of_ble_eq_true rfl) (Nat.le_of_ble_eq_true rfl) (Nat.le_of_ble_eq_true rfl) (Nat.le_of_ble_eq_true rfl) (Nat.le_of_ble_eq_true rfl) (fun _ _ h => False.elim h) (fun v9 w4 h5 => ?_)
  obtain ⟨rfl, v6, rfl, rv6⟩ := h5
  refine rn_stk [.int v6, .int x2] rfl ?_
  refine rn_icmp_ne (tgt := 26) dX0_isOf_8 (by decide) (fun h8 => ?_) (fun h8 => ?_)
  · have ch8 := cv_ne h8
    refine rn_iconst (v := (0 : Int32)) dX0_isOf_26 (by decide) ?_
    exact rn_iret dX0_isOf_27 rfl rfl (rq_in ⟨rfl, (0 : Int32), rfl, (rg_w rk_0 (by decide) (by decide))⟩)
  · have ch8 := cv_eq h8
    refine rn_aload_n (i := 0) dX0_isOf_11 rfl rfl ?_
    obtain ⟨x9, hx9, rx9⟩ := fs_i hf1 3 rfl
    refine rn_get q1 kg_SG_Heap_42 hl1 hx9 dX0_isOf_12 ?_
    refine rn_aload_n (i := 1) dX0_isOf_15 rfl rfl ?_
    refine rn_callV (a := 0) (b := 0) [] kl_SG_Heap_39 dX0_isOf_16 q3 hl3 rfl (t_X4_number G S ws hW o1_ m1_) rfl rfl (Nat.le_of_ble_eq_true rfl) (Nat.le_of_ble_eq_true rfl) (Nat.le_of_ble_eq_true rfl) (Nat.le_of_ble_eq_true rfl) (Nat.le_of_ble_eq_true rfl) (Nat.le_of_ble_eq_true rfl) (fun _ _ h => False.elim h) (fun v9 w10 h11 => ?_)
    obtain ⟨rfl, v12, rfl, rv12⟩ := h11
    refine rn_stk [.int v12, .int x9] rfl ?_
    refine rn_icmp_ne (tgt := 26) dX0_isOf_19 (by decide) (fun h14 => ?_) (fun h14 => ?_)
    · have ch14 := cv_ne h14
      refine rn_iconst (v := (0 : Int32)) dX0_isOf_26 (by decide) ?_
      exact rn_iret dX0_isOf_27 rfl rfl (rq_in ⟨rfl, (0 : Int32), rfl, (rg_w rk_0 (by decide) (by decide))⟩)
    · have ch14 := cv_eq h14
      refine rn_iconst (v := (1 : Int32)) dX0_isOf_22 (by decide) ?_
      refine rn_goto (tgt := 27) dX0_isOf_23 (by decide) ?_
      exact rn_iret dX0_isOf_27 rfl rfl (rq_in ⟨rfl, (1 : Int32), rfl, (rg_w rk_1 (by decide) (by decide))⟩)
abbrev q_t_X0_isOver (G : rn_G) (S : ts_S) (ws : va_W) : rn_R → va_W → Prop := rQ (fun v w => St G S [0] ws S w ∧ (∃ x : Int32, v = some (.int x) ∧ Rg (0) (1) x)) (fun E w => False)
set_option maxRecDepth 20000 in
set_option maxHeartbeats 4000000 in
theorem t_X0_isOver (G : rn_G) (S : ts_S) (ws : va_W) (hW : ts_W G S ws) (o0_ : Nat) (m0_ : (o0_, 0) ∈ S) : Rn G mX0_isOver 0 0 0 0 0 (lv_args 0 [.ref o0_]) [] ws (q_t_X0_isOver G S ws ) := by
  have hS0 : St G S [0] ws S ws := St.rf hW
  refine rn_lv [(0, .ref o0_)] rfl ?_
  refine rn_aload_n (i := 0) dX0_isOver_0 rfl rfl ?_
  refine rn_dup dX0_isOver_1 rfl ?_
  obtain ⟨q1, fs1, hq1, hl1, hf1⟩ := ts_obj hS0.1 m0_ hk_0
  obtain ⟨x2, hx2, rx2⟩ := fs_i hf1 7 rfl
  refine rn_get q1 kg_SG_Heap_53 hl1 hx2 dX0_isOver_2 ?_
  refine rn_iconst (v := (1 : Int32)) dX0_isOver_5 (by decide) ?_
  refine rn_iadd dX0_isOver_6 (rn_nmA (fun v3 rv3 => ?_))
  refine rs_put q1 (kp_SG_Heap_53 _) hS0 hq1 hl1 hf1 hk_0 rfl rfl (tv_i rv3) rfl rfl dX0_isOver_7 (fun w4 fs5 hS5 hl5 hf5 hx5 ho5 hn5 => ?_)
  refine rn_aload_n (i := 0) dX0_isOver_10 rfl rfl ?_
  refine rn_get q1 kg_SG_Heap_53 hl5 hx5 dX0_isOver_11 ?_
  refine rn_bipush (v := (8 : Int32)) dX0_isOver_14 (by decide) ?_
  refine rn_icmp_lt (tgt := 23) dX0_isOver_16 (by decide) (fun h6 => ?_) (fun h6 => ?_)
  · have ch6 := cv_lt h6
    have r7 : Rg (-2147483648) (7) v3 := rf_ltx ch6 rv3 rk_8 (by decide)
    refine rn_iconst (v := (0 : Int32)) dX0_isOver_23 (by decide) ?_
    exact rn_iret dX0_isOver_24 rfl rfl (rq_in ⟨hS5, (0 : Int32), rfl, (rg_w rk_0 (by decide) (by decide))⟩)
  · have ch6 := cv_nlt h6
    have r8 : Rg (8) (2147483647) v3 := rf_ley ch6 rk_8 rv3 (by decide)
    refine rn_iconst (v := (1 : Int32)) dX0_isOver_19 (by decide) ?_
    refine rn_goto (tgt := 24) dX0_isOver_20 (by decide) ?_
    exact rn_iret dX0_isOver_24 rfl rfl (rq_in ⟨hS5, (1 : Int32), rfl, (rg_w rk_1 (by decide) (by decide))⟩)
abbrev q_t_X4_size (G : rn_G) (S : ts_S) (ws : va_W) : rn_R → va_W → Prop := rQ (fun v w => ws = w ∧ (∃ x : Int32, v = some (.int x) ∧ Rg (0) (2040) x)) (fun E w => False)
set_option maxRecDepth 20000 in
set_option maxHeartbeats 4000000 in
theorem t_X4_size (G : rn_G) (S : ts_S) (ws : va_W) (hW : ts_W G S ws) (o0_ : Nat) (m0_ : (o0_, 4) ∈ S) : Rn G mX4_size 0 0 0 0 0 (lv_args 0 [.ref o0_]) [] ws (q_t_X4_size G S ws ) := by
  refine rn_lv [(0, .ref o0_)] rfl ?_
  refine rn_aload_n (i := 0) dX4_size_0 rfl rfl ?_
  obtain ⟨q1, fs1, hq1, hl1, hf1⟩ := ts_obj hW m0_ hk_4
  obtain ⟨x2, hx2, rx2⟩ := fs_i hf1 1 rfl
  refine rn_get q1 kg_SG_Packet_15 hl1 hx2 dX4_size_1 ?_
  exact rn_iret dX4_size_4 rfl rfl (rq_in ⟨rfl, x2, rfl, rx2⟩)
abbrev q_t_X4_hasMore (G : rn_G) (S : ts_S) (ws : va_W) : rn_R → va_W → Prop := rQ (fun v w => ws = w ∧ (∃ x : Int32, v = some (.int x) ∧ Rg (0) (1) x)) (fun E w => False)
set_option maxRecDepth 20000 in
set_option maxHeartbeats 4000000 in
theorem t_X4_hasMore (G : rn_G) (S : ts_S) (ws : va_W) (hW : ts_W G S ws) (o0_ : Nat) (m0_ : (o0_, 4) ∈ S) : Rn G mX4_hasMore 1 21 0 0 0 (lv_args 0 [.ref o0_]) [] ws (q_t_X4_hasMore G S ws ) := by
  refine rn_lv [(0, .ref o0_)] rfl ?_
  refine rn_aload_n (i := 0) dX4_hasMore_0 rfl rfl ?_
  refine rn_bipush (v := (6 : Int32)) dX4_hasMore_1 (by decide) ?_
  obtain ⟨q1, fs1, hq1, hl1, hf1⟩ := ts_obj hW m0_ hk_4
  refine rn_callV (a := 0) (b := 0) [.int (6 : Int32)] kl_SG_Packet_52 dX4_hasMore_3 q1 hl1 rfl (t_X4_pairAt G S ws hW o0_ m0_ (6 : Int32)) rfl rfl (Nat.le_of_ble_eq_true rfl) (Nat.le_of_ble_eq_true rfl) (Nat.le_of_ble_eq_true rfl) (Nat.le_of_ble_eq_true rfl) (Nat.le_of_ble_eq_true rfl) (Nat.le_of_ble_eq_true rfl) (fun _ _ h => False.elim h) (fun v9 w2 h3 => ?_)
  obtain ⟨rfl, v4, rfl, rv4⟩ := h3
  refine rn_stk [.int v4] rfl ?_
  refine rn_sipush (v := (8192 : Int32)) dX4_hasMore_6 (by decide) ?_
  refine rn_iand dX4_hasMore_9 (rn_tn 0 (8192) (rg_andr rk_8192 (by decide)) (fun v6 rv6 => ?_))
  refine rn_if_eq (tgt := 17) dX4_hasMore_10 (by decide) (fun h7 => ?_) (fun h7 => ?_)
  · have ch7 := cv_eq h7
    have r8 : Rg (0) (0) v6 := rf_eqx ch7 rv6 rk_0 (by decide) (by decide)
    refine rn_iconst (v := (0 : Int32)) dX4_hasMore_17 (by decide) ?_
    exact rn_iret dX4_hasMore_18 rfl rfl (rq_in ⟨rfl, (0 : Int32), rfl, (rg_w rk_0 (by decide) (by decide))⟩)
  · have ch7 := cv_ne h7
    have r9 : Rg (1) (8192) v6 := rf_nel ch7 rv6 rk_0 (by decide) (by decide)
    refine rn_iconst (v := (1 : Int32)) dX4_hasMore_13 (by decide) ?_
    refine rn_goto (tgt := 18) dX4_hasMore_14 (by decide) ?_
    exact rn_iret dX4_hasMore_18 rfl rfl (rq_in ⟨rfl, (1 : Int32), rfl, (rg_w rk_1 (by decide) (by decide))⟩)
abbrev q_t_X4_end (G : rn_G) (S : ts_S) (ws : va_W) : rn_R → va_W → Prop := rQ (fun v w => ws = w ∧ (∃ x : Int32, v = some (.int x) ∧ Rg (-20) (67548) x)) (fun E w => False)
set_option maxRecDepth 20000 in
set_option maxHeartbeats 4000000 in
theorem t_X4_end (G : rn_G) (S : ts_S) (ws : va_W) (hW : ts_W G S ws) (o0_ : Nat) (m0_ : (o0_, 4) ∈ S) : Rn G mX4_end 1 21 0 0 0 (lv_args 0 [.ref o0_]) [] ws (q_t_X4_end G S ws ) := by
  refine rn_lv [(0, .ref o0_)] rfl ?_
  refine rn_bipush (v := (8 : Int32)) dX4_end_0 (by decide) ?_
  refine rn_aload_n (i := 0) dX4_end_2 rfl rfl ?_
  refine rn_bipush (v := (6 : Int32)) dX4_end_3 (by decide) ?_
  obtain ⟨q1, fs1, hq1, hl1, hf1⟩ := ts_obj hW m0_ hk_4
  refine rn_callV (a := 0) (b := 0) [.int (6 : Int32)] kl_SG_Packet_52 dX4_end_5 q1 hl1 rfl (t_X4_pairAt G S ws hW o0_ m0_ (6 : Int32)) rfl rfl (Nat.le_of_ble_eq_true rfl) (Nat.le_of_ble_eq_true rfl) (Nat.le_of_ble_eq_true rfl) (Nat.le_of_ble_eq_true rfl) (Nat.le_of_ble_eq_true rfl) (Nat.le_of_ble_eq_true rfl) (fun _ _ h => False.elim h) (fun v9 w2 h3 => ?_)
  obtain ⟨rfl, v4, rfl, rv4⟩ := h3
  refine rn_stk [.int v4, .int (8 : Int32)] rfl ?_
  refine rn_sipush (v := (8191 : Int32)) dX4_end_8 (by decide) ?_
  refine rn_iand dX4_end_11 (rn_tn 0 (8191) (rg_andr rk_8191 (by decide)) (fun v6 rv6 => ?_))
  refine rs_mulD (0) (65528) rk_8 rv6 dX4_end_12 (by decide) (fun v7 ev7 rv7 => ?_)
  refine rn_aload_n (i := 0) dX4_end_13 rfl rfl ?_
  obtain ⟨x8, hx8, rx8⟩ := fs_i hf1 1 rfl
  refine rn_get q1 kg_SG_Packet_15 hl1 hx8 dX4_end_14 ?_
  refine rs_addR (0) (67568) rv7 rx8 dX4_end_17 (by decide) (fun v9 ev9 rv9 => ?_)
  refine rn_bipush (v := (20 : Int32)) dX4_end_18 (by decide) ?_
  refine rs_subC (-20) (67548) rv9 rk_20 dX4_end_20 (by decide) (fun v10 ev10 rv10 => ?_)
  exact rn_iret dX4_end_21 rfl rfl (rq_in ⟨rfl, v10, rfl, rv10⟩)
abbrev q_t_X0_isMisshapen (G : rn_G) (S : ts_S) (ws : va_W) : rn_R → va_W → Prop := rQ (fun v w => ws = w ∧ (∃ x : Int32, v = some (.int x) ∧ Rg (0) (1) x)) (fun E w => False)
set_option maxRecDepth 20000 in
set_option maxHeartbeats 4000000 in
theorem t_X0_isMisshapen (G : rn_G) (S : ts_S) (ws : va_W) (hW : ts_W G S ws) (o0_ : Nat) (m0_ : (o0_, 4) ∈ S) : Rn G mX0_isMisshapen 2 41 0 0 0 (lv_args 0 [.ref o0_]) [] ws (q_t_X0_isMisshapen G S ws ) := by
  refine rn_lv [(0, .ref o0_)] rfl ?_
  refine rn_aload_n (i := 0) dX0_isMisshapen_0 rfl rfl ?_
  obtain ⟨q1, fs1, hq1, hl1, hf1⟩ := ts_obj hW m0_ hk_4
  refine rn_callV (a := 0) (b := 0) [] kl_SG_Heap_56 dX0_isMisshapen_1 q1 hl1 rfl (t_X4_size G S ws hW o0_ m0_) rfl rfl (Nat.le_of_ble_eq_true rfl) (Nat.le_of_ble_eq_true rfl) (Nat.le_of_ble_eq_true rfl) (Nat.le_of_ble_eq_true rfl) (Nat.le_of_ble_eq_true rfl) (Nat.le_of_ble_eq_true rfl) (fun _ _ h => False.elim h) (fun v9 w2 h3 => ?_)
  obtain ⟨rfl, v4, rfl, rv4⟩ := h3
  refine rn_stk [.int v4] rfl ?_
  refine rn_bipush (v := (20 : Int32)) dX0_isMisshapen_4 (by decide) ?_
  refine rs_subC (-20) (2020) rv4 rk_20 dX0_isMisshapen_6 (by decide) (fun v6 ev6 rv6 => ?_)
  refine rn_istore_n dX0_isMisshapen_7 rfl (by decide) [(0, .ref o0_), (1, .int v6)] rfl ?_
  refine rn_aload_n (i := 0) dX0_isMisshapen_8 rfl rfl ?_
  refine rn_callV (a := 0) (b := 0) [] kl_SG_Heap_59 dX0_isMisshapen_9 q1 hl1 rfl (t_X4_hasMore G S ws hW o0_ m0_) rfl rfl (Nat.le_of_ble_eq_true rfl) (Nat.le_of_ble_eq_true rfl) (Nat.le_of_ble_eq_true rfl) (Nat.le_of_ble_eq_true rfl) (Nat.le_of_ble_eq_true rfl) (Nat.le_of_ble_eq_true rfl) (fun _ _ h => False.elim h) (fun v9 w7 h8 => ?_)
  obtain ⟨rfl, v9, rfl, rv9⟩ := h8
  refine rn_stk [.int v9] rfl ?_
  refine rn_if_eq (tgt := 26) dX0_isMisshapen_12 (by decide) (fun h11 => ?_) (fun h11 => ?_)
  · have ch11 := cv_eq h11
    have r12 : Rg (0) (0) v9 := rf_eqx ch11 rv9 rk_0 (by decide) (by decide)
    refine rn_aload_n (i := 0) dX0_isMisshapen_26 rfl rfl ?_
    refine rn_callV (a := 0) (b := 0) [] kl_SG_Heap_63 dX0_isMisshapen_27 q1 hl1 rfl (t_X4_end G S ws hW o0_ m0_) rfl rfl (Nat.le_of_ble_eq_true rfl) (Nat.le_of_ble_eq_true rfl) (Nat.le_of_ble_eq_true rfl) (Nat.le_of_ble_eq_true rfl) (Nat.le_of_ble_eq_true rfl) (Nat.le_of_ble_eq_true rfl) (fun _ _ h => False.elim h) (fun v9 w13 h14 => ?_)
    obtain ⟨rfl, v15, rfl, rv15⟩ := h14
    refine rn_stk [.int v15] rfl ?_
    refine rn_sipush (v := (1980 : Int32)) dX0_isMisshapen_30 (by decide) ?_
    refine rn_icmp_le (tgt := 40) dX0_isMisshapen_33 (by decide) (fun h17 => ?_) (fun h17 => ?_)
    · have ch17 := cv_le h17
      have r18 : Rg (-20) (1980) v15 := rf_lex ch17 rv15 rk_1980 (by decide)
      refine rn_iconst (v := (0 : Int32)) dX0_isMisshapen_40 (by decide) ?_
      exact rn_iret dX0_isMisshapen_41 rfl rfl (rq_in ⟨rfl, (0 : Int32), rfl, (rg_w rk_0 (by decide) (by decide))⟩)
    · have ch17 := cv_nle h17
      have r19 : Rg (1981) (67548) v15 := rf_lty ch17 rk_1980 rv15 (by decide)
      refine rn_iconst (v := (1 : Int32)) dX0_isMisshapen_36 (by decide) ?_
      refine rn_goto (tgt := 41) dX0_isMisshapen_37 (by decide) ?_
      exact rn_iret dX0_isMisshapen_41 rfl rfl (rq_in ⟨rfl, (1 : Int32), rfl, (rg_w rk_1 (by decide) (by decide))⟩)
  · have ch11 := cv_ne h11
    have r20 : Rg (1) (1) v9 := rf_nel ch11 rv9 rk_0 (by decide) (by decide)
    refine rn_iload_n (i := 1) dX0_isMisshapen_15 rfl rfl ?_
    refine rn_if_eq (tgt := 36) dX0_isMisshapen_16 (by decide) (fun h21 => ?_) (fun h21 => ?_)
    · have ch21 := cv_eq h21
      have r22 : Rg (0) (0) v6 := rf_eqx ch21 rv6 rk_0 (by decide) (by decide)
      refine rn_iconst (v := (1 : Int32)) dX0_isMisshapen_36 (by decide) ?_
      refine rn_goto (tgt := 41) dX0_isMisshapen_37 (by decide) ?_
      exact rn_iret dX0_isMisshapen_41 rfl rfl (rq_in ⟨rfl, (1 : Int32), rfl, (rg_w rk_1 (by decide) (by decide))⟩)
    · have ch21 := cv_ne h21
      refine rn_iload_n (i := 1) dX0_isMisshapen_19 rfl rfl ?_
      refine rn_bipush (v := (7 : Int32)) dX0_isMisshapen_20 (by decide) ?_
      refine rn_iand dX0_isMisshapen_22 (rn_tn 0 (7) (rg_andr rk_7 (by decide)) (fun v23 rv23 => ?_))
      refine rn_if_ne (tgt := 36) dX0_isMisshapen_23 (by decide) (fun h24 => ?_) (fun h24 => ?_)
      · have ch24 := cv_ne h24
        have r25 : Rg (1) (7) v23 := rf_nel ch24 rv23 rk_0 (by decide) (by decide)
        refine rn_iconst (v := (1 : Int32)) dX0_isMisshapen_36 (by decide) ?_
        refine rn_goto (tgt := 41) dX0_isMisshapen_37 (by decide) ?_
        exact rn_iret dX0_isMisshapen_41 rfl rfl (rq_in ⟨rfl, (1 : Int32), rfl, (rg_w rk_1 (by decide) (by decide))⟩)
      · have ch24 := cv_eq h24
        have r26 : Rg (0) (0) v23 := rf_eqx ch24 rv23 rk_0 (by decide) (by decide)
        refine rn_aload_n (i := 0) dX0_isMisshapen_26 rfl rfl ?_
        refine rn_callV (a := 0) (b := 0) [] kl_SG_Heap_63 dX0_isMisshapen_27 q1 hl1 rfl (t_X4_end G S ws hW o0_ m0_) rfl rfl (Nat.le_of_ble_eq_true rfl) (Nat.le_of_ble_eq_true rfl) (Nat.le_of_ble_eq_true rfl) (Nat.le_of_ble_eq_true rfl) (Nat.le_of_ble_eq_true rfl) (Nat.le_of_ble_eq_true rfl) (fun _ _ h => False.elim h) (fun v9 w27 h28 => ?_)
        obtain ⟨rfl, v29, rfl, rv29⟩ := h28
        refine rn_stk [.int v29] rfl ?_
        refine rn_sipush (v := (1980 : Int32)) dX0_isMisshapen_30 (by decide) ?_
        refine rn_icmp_le (tgt := 40) dX0_isMisshapen_33 (by decide) (fun h31 => ?_) (fun h31 => ?_)
        · have ch31 := cv_le h31
          have r32 : Rg (-20) (1980) v29 := rf_lex ch31 rv29 rk_1980 (by decide)
          refine rn_iconst (v := (0 : Int32)) dX0_isMisshapen_40 (by decide) ?_
          exact rn_iret dX0_isMisshapen_41 rfl rfl (rq_in ⟨rfl, (0 : Int32), rfl, (rg_w rk_0 (by decide) (by decide))⟩)
        · have ch31 := cv_nle h31
          have r33 : Rg (1981) (67548) v29 := rf_lty ch31 rk_1980 rv29 (by decide)
          refine rn_iconst (v := (1 : Int32)) dX0_isMisshapen_36 (by decide) ?_
          refine rn_goto (tgt := 41) dX0_isMisshapen_37 (by decide) ?_
          exact rn_iret dX0_isMisshapen_41 rfl rfl (rq_in ⟨rfl, (1 : Int32), rfl, (rg_w rk_1 (by decide) (by decide))⟩)
abbrev q_t_X4_start (G : rn_G) (S : ts_S) (ws : va_W) : rn_R → va_W → Prop := rQ (fun v w => ws = w ∧ (∃ x : Int32, v = some (.int x) ∧ Rg (0) (65528) x)) (fun E w => False)
set_option maxRecDepth 20000 in
set_option maxHeartbeats 4000000 in
theorem t_X4_start (G : rn_G) (S : ts_S) (ws : va_W) (hW : ts_W G S ws) (o0_ : Nat) (m0_ : (o0_, 4) ∈ S) : Rn G mX4_start 1 21 0 0 0 (lv_args 0 [.ref o0_]) [] ws (q_t_X4_start G S ws ) := by
  refine rn_lv [(0, .ref o0_)] rfl ?_
  refine rn_bipush (v := (8 : Int32)) dX4_start_0 (by decide) ?_
  refine rn_aload_n (i := 0) dX4_start_2 rfl rfl ?_
  refine rn_bipush (v := (6 : Int32)) dX4_start_3 (by decide) ?_
  obtain ⟨q1, fs1, hq1, hl1, hf1⟩ := ts_obj hW m0_ hk_4
  refine rn_callV (a := 0) (b := 0) [.int (6 : Int32)] kl_SG_Packet_52 dX4_start_5 q1 hl1 rfl (t_X4_pairAt G S ws hW o0_ m0_ (6 : Int32)) rfl rfl (Nat.le_of_ble_eq_true rfl) (Nat.le_of_ble_eq_true rfl) (Nat.le_of_ble_eq_true rfl) (Nat.le_of_ble_eq_true rfl) (Nat.le_of_ble_eq_true rfl) (Nat.le_of_ble_eq_true rfl) (fun _ _ h => False.elim h) (fun v9 w2 h3 => ?_)
  obtain ⟨rfl, v4, rfl, rv4⟩ := h3
  refine rn_stk [.int v4, .int (8 : Int32)] rfl ?_
  refine rn_sipush (v := (8191 : Int32)) dX4_start_8 (by decide) ?_
  refine rn_iand dX4_start_11 (rn_tn 0 (8191) (rg_andr rk_8191 (by decide)) (fun v6 rv6 => ?_))
  refine rs_mulD (0) (65528) rk_8 rv6 dX4_start_12 (by decide) (fun v7 ev7 rv7 => ?_)
  exact rn_iret dX4_start_13 rfl rfl (rq_in ⟨rfl, v7, rfl, rv7⟩)
