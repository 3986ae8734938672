abbrev q_t_X8_accept (G : rn_G) (S : ts_S) (ws : va_W) : rn_R → va_W → Prop := rQ (fun v w => St G S [8] ws S w ∧ (v = none)) (fun E w => False)
set_option maxRecDepth 20000 in
set_option maxHeartbeats 4000000 in
theorem t_X8_accept (G : rn_G) (S : ts_S) (ws : va_W) (hW : ts_W G S ws) (o0_ : Nat) (m0_ : (o0_, 8) ∈ S) (y1_ : Int64) : Rn G mX8_accept 0 0 0 0 0 (lv_args 0 [.ref o0_, .long y1_]) [] ws (q_t_X8_accept G S ws ) := by
  have hS0 : St G S [8] ws S ws := St.rf hW
  refine rn_lv [(0, .ref o0_), (1, .long y1_)] rfl ?_
  refine rn_lload_n (i := 1) dX8_accept_0 rfl rfl ?_
  refine rn_aload_n (i := 0) dX8_accept_1 rfl rfl ?_
  obtain ⟨q1, fs1, hq1, hl1, hf1⟩ := ts_obj hS0.1 m0_ hk_8
  obtain ⟨y2, hx2⟩ := fs_l hf1 8 rfl
  refine rn_get q1 kg_SG_Seal_35 hl1 hx2 dX8_accept_2 ?_
  refine rn_lsub dX8_accept_5 (rn_nmL (fun l3 => ?_))
  refine rn_lstore_n dX8_accept_6 rfl (by decide) [(0, .ref o0_), (1, .long y1_), (3, .long l3)] rfl ?_
  refine rn_lload_n (i := 3) dX8_accept_7 rfl rfl ?_
  refine rn_lconst (v := (0 : Int64)) dX8_accept_8 (by decide) ?_
  refine rn_lcmp dX8_accept_9 (rn_tn (-1) 1 (rg_lcmp _ _) (fun v4 rv4 => ?_))
  refine rn_if_le (tgt := 46) dX8_accept_10 (by decide) (fun h5 => ?_) (fun h5 => ?_)
  · have ch5 := cv_le h5
    have r6 : Rg (-1) (0) v4 := rf_lex ch5 rv4 rk_0 (by decide)
    refine rn_lload_n (i := 3) dX8_accept_46 rfl rfl ?_
    refine rn_ldc2 (v := (-64 : Int64)) wd_983 dX8_accept_47 ?_
    refine rn_lcmp dX8_accept_50 (rn_tn (-1) 1 (rg_lcmp _ _) (fun v7 rv7 => ?_))
    refine rn_if_le (tgt := 68) dX8_accept_51 (by decide) (fun h8 => ?_) (fun h8 => ?_)
    · have ch8 := cv_le h8
      have r9 : Rg (-1) (0) v7 := rf_lex ch8 rv7 rk_0 (by decide)
      refine rn_aload_n (i := 0) dX8_accept_68 rfl rfl ?_
      refine rn_dup dX8_accept_69 rfl ?_
      obtain ⟨x10, hx10, rx10⟩ := fs_i hf1 6 rfl
      refine rn_get q1 kg_SG_Seal_32 hl1 hx10 dX8_accept_70 ?_
      refine rn_iconst (v := (1 : Int32)) dX8_accept_73 (by decide) ?_
      refine rn_isub dX8_accept_74 (rn_nmA (fun v11 rv11 => ?_))
      refine rs_put q1 (kp_SG_Seal_32 _) hS0 hq1 hl1 hf1 hk_8 rfl rfl (tv_i rv11) rfl rfl dX8_accept_75 (fun w12 fs13 hS13 hl13 hf13 hx13 ho13 hn13 => ?_)
      exact rn_vret dX8_accept_78 rfl (rq_in ⟨hS13, rfl⟩)
    · have ch8 := cv_nle h8
      have r14 : Rg (1) (1) v7 := rf_lty ch8 rk_0 rv7 (by decide)
      refine rn_aload_n (i := 0) dX8_accept_54 rfl rfl ?_
      refine rn_dup dX8_accept_55 rfl ?_
      obtain ⟨y15, hx15⟩ := fs_l hf1 9 rfl
      refine rn_get q1 kg_SG_Seal_38 hl1 hx15 dX8_accept_56 ?_
      refine rn_lconst (v := (1 : Int64)) dX8_accept_59 (by decide) ?_
      refine rn_lload_n (i := 3) dX8_accept_60 rfl rfl ?_
      refine rn_lneg dX8_accept_61 (rn_nmL (fun l16 => ?_))
      refine rn_l2i dX8_accept_62 rfl (rn_nmA (fun v17 rv17 => ?_))
      refine rn_lshl dX8_accept_63 rfl (rn_nmL (fun l18 => ?_))
      refine rn_lor dX8_accept_64 (rn_nmL (fun l19 => ?_))
      refine rs_put q1 (kp_SG_Seal_38 _) hS0 hq1 hl1 hf1 hk_8 rfl rfl tv_l rfl rfl dX8_accept_65 (fun w20 fs21 hS21 hl21 hf21 hx21 ho21 hn21 => ?_)
      refine rn_aload_n (i := 0) dX8_accept_68 rfl rfl ?_
      refine rn_dup dX8_accept_69 rfl ?_
      obtain ⟨x22, hx22, rx22⟩ := fs_i hf21 6 rfl
      refine rn_get q1 kg_SG_Seal_32 hl21 hx22 dX8_accept_70 ?_
      refine rn_iconst (v := (1 : Int32)) dX8_accept_73 (by decide) ?_
      refine rn_isub dX8_accept_74 (rn_nmA (fun v23 rv23 => ?_))
      refine rs_put q1 (kp_SG_Seal_32 _) hS21 hq1 hl21 hf21 hk_8 rfl rfl (tv_i rv23) rfl rfl dX8_accept_75 (fun w24 fs25 hS25 hl25 hf25 hx25 ho25 hn25 => ?_)
      exact rn_vret dX8_accept_78 rfl (rq_in ⟨hS25, rfl⟩)
  · have ch5 := cv_nle h5
    have r26 : Rg (1) (1) v4 := rf_lty ch5 rk_0 rv4 (by decide)
    refine rn_aload_n (i := 0) dX8_accept_13 rfl rfl ?_
    refine rn_lload_n (i := 3) dX8_accept_14 rfl rfl ?_
    refine rn_ldc2 (v := (64 : Int64)) wd_969 dX8_accept_15 ?_
    refine rn_lcmp dX8_accept_18 (rn_tn (-1) 1 (rg_lcmp _ _) (fun v27 rv27 => ?_))
    refine rn_if_ge (tgt := 34) dX8_accept_19 (by decide) (fun h28 => ?_) (fun h28 => ?_)
    · have ch28 := cv_le h28
      have r29 : Rg (0) (1) v27 := rf_ley ch28 rk_0 rv27 (by decide)
      refine rn_lconst (v := (1 : Int64)) dX8_accept_34 (by decide) ?_
      refine rs_put q1 (kp_SG_Seal_38 _) hS0 hq1 hl1 hf1 hk_8 rfl rfl tv_l rfl rfl dX8_accept_35 (fun w30 fs31 hS31 hl31 hf31 hx31 ho31 hn31 => ?_)
      refine rn_aload_n (i := 0) dX8_accept_38 rfl rfl ?_
      refine rn_lload_n (i := 1) dX8_accept_39 rfl rfl ?_
      refine rs_put q1 (kp_SG_Seal_35 _) hS31 hq1 hl31 hf31 hk_8 rfl rfl tv_l rfl rfl dX8_accept_40 (fun w32 fs33 hS33 hl33 hf33 hx33 ho33 hn33 => ?_)
      refine rn_goto (tgt := 68) dX8_accept_43 (by decide) ?_
      refine rn_aload_n (i := 0) dX8_accept_68 rfl rfl ?_
      refine rn_dup dX8_accept_69 rfl ?_
      obtain ⟨x34, hx34, rx34⟩ := fs_i hf33 6 rfl
      refine rn_get q1 kg_SG_Seal_32 hl33 hx34 dX8_accept_70 ?_
      refine rn_iconst (v := (1 : Int32)) dX8_accept_73 (by decide) ?_
      refine rn_isub dX8_accept_74 (rn_nmA (fun v35 rv35 => ?_))
      refine rs_put q1 (kp_SG_Seal_32 _) hS33 hq1 hl33 hf33 hk_8 rfl rfl (tv_i rv35) rfl rfl dX8_accept_75 (fun w36 fs37 hS37 hl37 hf37 hx37 ho37 hn37 => ?_)
      exact rn_vret dX8_accept_78 rfl (rq_in ⟨hS37, rfl⟩)
    · have ch28 := cv_nle h28
      have r38 : Rg (-1) (-1) v27 := rf_ltx ch28 rv27 rk_0 (by decide)
      refine rn_aload_n (i := 0) dX8_accept_22 rfl rfl ?_
      obtain ⟨y39, hx39⟩ := fs_l hf1 9 rfl
      refine rn_get q1 kg_SG_Seal_38 hl1 hx39 dX8_accept_23 ?_
      refine rn_lload_n (i := 3) dX8_accept_26 rfl rfl ?_
      refine rn_l2i dX8_accept_27 rfl (rn_nmA (fun v40 rv40 => ?_))
      refine rn_lshl dX8_accept_28 rfl (rn_nmL (fun l41 => ?_))
      refine rn_lconst (v := (1 : Int64)) dX8_accept_29 (by decide) ?_
      refine rn_lor dX8_accept_30 (rn_nmL (fun l42 => ?_))
      refine rn_goto (tgt := 35) dX8_accept_31 (by decide) ?_
      refine rs_put q1 (kp_SG_Seal_38 _) hS0 hq1 hl1 hf1 hk_8 rfl rfl tv_l rfl rfl dX8_accept_35 (fun w43 fs44 hS44 hl44 hf44 hx44 ho44 hn44 => ?_)
      refine rn_aload_n (i := 0) dX8_accept_38 rfl rfl ?_
      refine rn_lload_n (i := 1) dX8_accept_39 rfl rfl ?_
      refine rs_put q1 (kp_SG_Seal_35 _) hS44 hq1 hl44 hf44 hk_8 rfl rfl tv_l rfl rfl dX8_accept_40 (fun w45 fs46 hS46 hl46 hf46 hx46 ho46 hn46 => ?_)
      refine rn_goto (tgt := 68) dX8_accept_43 (by decide) ?_
      refine rn_aload_n (i := 0) dX8_accept_68 rfl rfl ?_
      refine rn_dup dX8_accept_69 rfl ?_
      obtain ⟨x47, hx47, rx47⟩ := fs_i hf46 6 rfl
      refine rn_get q1 kg_SG_Seal_32 hl46 hx47 dX8_accept_70 ?_
      refine rn_iconst (v := (1 : Int32)) dX8_accept_73 (by decide) ?_
      refine rn_isub dX8_accept_74 (rn_nmA (fun v48 rv48 => ?_))
      refine rs_put q1 (kp_SG_Seal_32 _) hS46 hq1 hl46 hf46 hk_8 rfl rfl (tv_i rv48) rfl rfl dX8_accept_75 (fun w49 fs50 hS50 hl50 hf50 hx50 ho50 hn50 => ?_)
      exact rn_vret dX8_accept_78 rfl (rq_in ⟨hS50, rfl⟩)
abbrev q_t_X8_open (G : rn_G) (S : ts_S) (ws : va_W) : rn_R → va_W → Prop := rQ (fun v w => St G S [4, 11] ws S w ∧ (v = none)) (fun E w => False)
set_option maxRecDepth 20000 in
set_option maxHeartbeats 4000000 in
theorem t_X8_open (G : rn_G) (S : ts_S) (ws : va_W) (hW : ts_W G S ws) (o0_ : Nat) (m0_ : (o0_, 8) ∈ S) (o1_ : Nat) (m1_ : (o1_, 4) ∈ S) (o2_ : Nat) (m2_ : (o2_, 4) ∈ S) (y3_ : Int64) : Rn G mX8_open 2 84 0 0 0 (lv_args 0 [.ref o0_, .ref o1_, .ref o2_, .long y3_]) [] ws (q_t_X8_open G S ws ) := by
  have hS0 : St G S [4, 11] ws S ws := St.rf hW
  refine rn_lv [(0, .ref o0_), (1, .ref o1_), (2, .ref o2_), (3, .long y3_)] rfl ?_
  refine rn_aload_n (i := 1) dX8_open_0 rfl rfl ?_
  obtain ⟨q1, fs1, hq1, hl1, hf1⟩ := ts_obj hS0.1 m1_ hk_4
  refine rn_callV (a := 0) (b := 0) [] kl_SG_Seal_56 dX8_open_1 q1 hl1 rfl (t_X4_size G S ws hS0.1 o1_ m1_) rfl rfl (Nat.le_of_ble_eq_true rfl) (Nat.le_of_ble_eq_true rfl) (Nat.le_of_ble_eq_true rfl) (Nat.le_of_ble_eq_true rfl) (Nat.le_of_ble_eq_true rfl) (Nat.le_of_ble_eq_true rfl) (fun _ _ h => False.elim h) (fun v9 w2 h3 => ?_)
  obtain ⟨rfl, v4, rfl, rv4⟩ := h3
  refine rn_stk [.int v4] rfl ?_
  refine rn_bipush (v := (36 : Int32)) dX8_open_4 (by decide) ?_
  refine rs_subC (-36) (2004) rv4 rk_36 dX8_open_6 (by decide) (fun v6 ev6 rv6 => ?_)
  refine rn_istore dX8_open_7 (by decide) [(0, .ref o0_), (1, .ref o1_), (2, .ref o2_), (3, .long y3_), (5, .int v6)] rfl ?_
  refine rn_aload_n (i := 2) dX8_open_9 rfl rfl ?_
  refine rn_iload dX8_open_10 rfl ?_
  obtain ⟨q7, fs7, hq7, hl7, hf7⟩ := ts_obj hS0.1 m2_ hk_4
  refine rn_callV (a := 0) (b := 0) [.int v6] kl_SG_Seal_122 dX8_open_12 q7 hl7 rfl (t_X4_resize G S ws hS0.1 o2_ m2_ v6) rfl rfl (Nat.le_of_ble_eq_true rfl) (Nat.le_of_ble_eq_true rfl) (Nat.le_of_ble_eq_true rfl) (Nat.le_of_ble_eq_true rfl) (Nat.le_of_ble_eq_true rfl) (Nat.le_of_ble_eq_true rfl) (fun _ _ h => False.elim h) (fun v9 w8 h9 => ?_)
  obtain ⟨hT10, rfl⟩ := h9
  have hS10 := St.tr hS0 hT10 rfl
  refine rn_stk [] rfl ?_
  refine rn_aload_n (i := 2) dX8_open_15 rfl rfl ?_
  refine rn_aload_n (i := 1) dX8_open_16 rfl rfl ?_
  refine rn_bipush (v := (28 : Int32)) dX8_open_17 (by decide) ?_
  refine rn_iconst (v := (0 : Int32)) dX8_open_19 (by decide) ?_
  refine rn_iload dX8_open_20 rfl ?_
  obtain ⟨q11, fs11, hq11, hl11, hf11⟩ := ts_obj hS10.1 m2_ hk_4
  refine rn_callV (a := 0) (b := 0) [.ref o1_, .int (28 : Int32), .int (0 : Int32), .int v6] kl_SG_Seal_70 dX8_open_22 q11 hl11 rfl (t_X4_copyBytes G S w8 hS10.1 o2_ m2_ o1_ m1_ (28 : Int32) (0 : Int32) v6) rfl rfl (Nat.le_of_ble_eq_true rfl) (Nat.le_of_ble_eq_true rfl) (Nat.le_of_ble_eq_true rfl) (Nat.le_of_ble_eq_true rfl) (Nat.le_of_ble_eq_true rfl) (Nat.le_of_ble_eq_true rfl) (fun _ _ h => False.elim h) (fun v9 w12 h13 => ?_)
  obtain ⟨hT14, rfl⟩ := h13
  have hS14 := St.tr hS10 hT14 rfl
  refine rn_stk [] rfl ?_
  refine rn_aload_n (i := 0) dX8_open_25 rfl rfl ?_
  refine rn_aload_n (i := 2) dX8_open_26 rfl rfl ?_
  refine rn_iconst (v := (0 : Int32)) dX8_open_27 (by decide) ?_
  refine rn_iload dX8_open_28 rfl ?_
  refine rn_lload_n (i := 3) dX8_open_30 rfl rfl ?_
  obtain ⟨q15, fs15, hq15, hl15, hf15⟩ := ts_obj hS14.1 m0_ hk_8
  refine rn_callV (a := 0) (b := 0) [.ref o2_, .int (0 : Int32), .int v6, .long y3_] kl_SG_Seal_77 dX8_open_31 q15 hl15 rfl (t_X8_stream G S w12 hS14.1 o0_ m0_ o2_ m2_ (0 : Int32) v6 y3_) rfl rfl (Nat.le_of_ble_eq_true rfl) (Nat.le_of_ble_eq_true rfl) (Nat.le_of_ble_eq_true rfl) (Nat.le_of_ble_eq_true rfl) (Nat.le_of_ble_eq_true rfl) (Nat.le_of_ble_eq_true rfl) (fun _ _ h => False.elim h) (fun v9 w16 h17 => ?_)
  obtain ⟨hT18, rfl⟩ := h17
  have hS18 := St.tr hS14 hT18 rfl
  refine rn_stk [] rfl ?_
  exact rn_vret dX8_open_34 rfl (rq_in ⟨hS18, rfl⟩)
abbrev q_t_X9_type (G : rn_G) (S : ts_S) (ws : va_W) : rn_R → va_W → Prop := rQ (fun v w => St G S [4, 11] ws S w ∧ (∃ x : Int32, v = some (.int x) ∧ Rg (0) (2040) x)) (fun E w => St G S [4, 11] ws S w ∧ (E = "java/lang/IllegalStateException"))
set_option maxRecDepth 20000 in
set_option maxHeartbeats 4000000 in
theorem t_X9_type (G : rn_G) (S : ts_S) (ws : va_W) (hW : ts_W G S ws) (o0_ : Nat) (m0_ : (o0_, 9) ∈ S) (y1_ : Int64) : Rn G mX9_type 6 90 1 6 0 (lv_args 0 [.ref o0_, .long y1_]) [] ws (q_t_X9_type G S ws ) := by
  have hS0 : St G S [4, 11] ws S ws := St.rf hW
  refine rn_lv [(0, .ref o0_), (1, .long y1_)] rfl ?_
  refine rn_aload_n (i := 0) dX9_type_0 rfl rfl ?_
  obtain ⟨q1, fs1, hq1, hl1, hf1⟩ := ts_obj hS0.1 m0_ hk_9
  obtain ⟨o2, hx2, m2⟩ := fs_r hf1 1 rfl
  refine rn_get q1 kg_SG_10 hl1 hx2 dX9_type_1 ?_
  obtain ⟨q3, fs3, hq3, hl3, hf3⟩ := ts_obj hS0.1 m2 hk_4
  refine rn_callV (a := 1) (b := 6) [] kl_SG_76 dX9_type_4 q3 hl3 rfl (t_X4_size G S ws hS0.1 o2 m2) rfl rfl (Nat.le_of_ble_eq_true rfl) (Nat.le_of_ble_eq_true rfl) (Nat.le_of_ble_eq_true rfl) (Nat.le_of_ble_eq_true rfl) (Nat.le_of_ble_eq_true rfl) (Nat.le_of_ble_eq_true rfl) (fun _ _ h => False.elim h) (fun v9 w4 h5 => ?_)
  obtain ⟨rfl, v6, rfl, rv6⟩ := h5
  refine rn_stk [.int v6] rfl ?_
  refine rn_istore_n dX9_type_7 rfl (by decide) [(0, .ref o0_), (1, .long y1_), (3, .int v6)] rfl ?_
  refine rn_iload_n (i := 3) dX9_type_8 rfl rfl ?_
  refine rn_bipush (v := (8 : Int32)) dX9_type_9 (by decide) ?_
  refine rs_addC (8) (2048) rv6 rk_8 dX9_type_11 (by decide) (fun v8 ev8 rv8 => ?_)
  refine rn_sipush (v := (2000 : Int32)) dX9_type_12 (by decide) ?_
  refine rn_icmp_le (tgt := 28) dX9_type_15 (by decide) (fun h9 => ?_) (fun h9 => ?_)
  · have ch9 := cv_le h9
    have r10 : Rg (8) (2000) v8 := rf_lex ch9 rv8 rk_2000 (by decide)
    have r11 : Rg (0) (1992) v6 := rf_bk ev8 r10 rv6 (by decide) (by decide)
    refine rn_aload_n (i := 0) dX9_type_28 rfl rfl ?_
    refine rn_get q1 kg_SG_10 hl1 hx2 dX9_type_29 ?_
    refine rn_iload_n (i := 3) dX9_type_32 rfl rfl ?_
    refine rn_bipush (v := (8 : Int32)) dX9_type_33 (by decide) ?_
    refine rs_addC (8) (2000) r11 rk_8 dX9_type_35 (by decide) (fun v12 ev12 rv12 => ?_)
    refine rn_callV (a := 1) (b := 6) [.int v12] kl_SG_87 dX9_type_36 q3 hl3 rfl (t_X4_resize G S ws hS0.1 o2 m2 v12) rfl rfl (Nat.le_of_ble_eq_true rfl) (Nat.le_of_ble_eq_true rfl) (Nat.le_of_ble_eq_true rfl) (Nat.le_of_ble_eq_true rfl) (Nat.le_of_ble_eq_true rfl) (Nat.le_of_ble_eq_true rfl) (fun _ _ h => False.elim h) (fun v9 w13 h14 => ?_)
    obtain ⟨hT15, rfl⟩ := h14
    have hS15 := St.tr hS0 hT15 rfl
    refine rn_stk [] rfl ?_
    refine rn_aload_n (i := 0) dX9_type_39 rfl rfl ?_
    refine rn_get q1 kg_SG_10 (hT15.fr hq1 rfl hl1) hx2 dX9_type_40 ?_
    refine rn_iload_n (i := 3) dX9_type_43 rfl rfl ?_
    refine rn_lload_n (i := 1) dX9_type_44 rfl rfl ?_
    obtain ⟨q16, fs16, hq16, hl16, hf16⟩ := ts_obj hS15.1 m2 hk_4
    refine rn_callV (a := 1) (b := 6) [.int v6, .long y1_] kl_SG_91 dX9_type_45 q16 hl16 rfl (t_X4_setLong G S w13 hS15.1 o2 m2 v6 y1_) rfl rfl (Nat.le_of_ble_eq_true rfl) (Nat.le_of_ble_eq_true rfl) (Nat.le_of_ble_eq_true rfl) (Nat.le_of_ble_eq_true rfl) (Nat.le_of_ble_eq_true rfl) (Nat.le_of_ble_eq_true rfl) (fun _ _ h => False.elim h) (fun v9 w17 h18 => ?_)
    obtain ⟨hT19, rfl⟩ := h18
    have hS19 := St.tr hS15 hT19 rfl
    refine rn_stk [] rfl ?_
    refine rn_aload_n (i := 0) dX9_type_48 rfl rfl ?_
    refine rn_get q1 kg_SG_10 (hT19.fr hq1 rfl (hT15.fr hq1 rfl hl1)) hx2 dX9_type_49 ?_
    refine rn_callV (a := 1) (b := 6) [] kl_SG_76 dX9_type_52 q16 (hT19.fr hq16 rfl hl16) rfl (t_X4_size G S w17 hS19.1 o2 m2) rfl rfl (Nat.le_of_ble_eq_true rfl) (Nat.le_of_ble_eq_true rfl) (Nat.le_of_ble_eq_true rfl) (Nat.le_of_ble_eq_true rfl) (Nat.le_of_ble_eq_true rfl) (Nat.le_of_ble_eq_true rfl) (fun _ _ h => False.elim h) (fun v9 w20 h21 => ?_)
    obtain ⟨rfl, v22, rfl, rv22⟩ := h21
    refine rn_stk [.int v22] rfl ?_
    exact rn_iret dX9_type_55 rfl rfl (rq_in ⟨hS19, v22, rfl, rv22⟩)
  · have ch9 := cv_nle h9
    have r24 : Rg (2001) (2048) v8 := rf_lty ch9 rk_2000 rv8 (by decide)
    have r25 : Rg (1993) (2040) v6 := rf_bk ev8 r24 rv6 (by decide) (by decide)
    exact rn_throw kt_SG_80_82 rfl dX9_type_18 dX9_type_21 dX9_type_22 dX9_type_24 dX9_type_27 (Nat.le_of_ble_eq_true rfl) (Nat.le_of_ble_eq_true rfl) (Nat.le_of_ble_eq_true rfl) (Nat.le_of_ble_eq_true rfl) (Nat.le_of_ble_eq_true rfl) (rq_ex ⟨hS0, rfl⟩)
abbrev q_t_X9_keep (G : rn_G) (S : ts_S) (ws : va_W) : rn_R → va_W → Prop := rQ (fun v w => St G S [4] ws S w ∧ (v = none)) (fun E w => St G S [4] ws S w ∧ (E = "java/lang/IllegalArgumentException"))
set_option maxRecDepth 20000 in
set_option maxHeartbeats 4000000 in
theorem t_X9_keep (G : rn_G) (S : ts_S) (ws : va_W) (hW : ts_W G S ws) (o0_ : Nat) (m0_ : (o0_, 9) ∈ S) (x1_ : Int32) : Rn G mX9_keep 6 90 1 6 0 (lv_args 0 [.ref o0_, .int x1_]) [] ws (q_t_X9_keep G S ws ) := by
  have hS0 : St G S [4] ws S ws := St.rf hW
  refine rn_lv [(0, .ref o0_), (1, .int x1_)] rfl ?_
  refine rn_iload_n (i := 1) dX9_keep_0 rfl rfl ?_
  refine rn_if_lt (tgt := 15) dX9_keep_1 (by decide) (fun h1 => ?_) (fun h1 => ?_)
  · have ch1 := cv_lt h1
    have r2 : Rg (-2147483648) (-1) x1_ := rf_ltx ch1 (rg_any x1_) rk_0 (by decide)
    exact rn_throw kt_SG_95_97 rfl dX9_keep_15 dX9_keep_18 dX9_keep_19 dX9_keep_21 dX9_keep_24 (Nat.le_of_ble_eq_true rfl) (Nat.le_of_ble_eq_true rfl) (Nat.le_of_ble_eq_true rfl) (Nat.le_of_ble_eq_true rfl) (Nat.le_of_ble_eq_true rfl) (rq_ex ⟨hS0, rfl⟩)
  · have ch1 := cv_nlt h1
    have r3 : Rg (0) (2147483647) x1_ := rf_ley ch1 rk_0 (rg_any x1_) (by decide)
    refine rn_iload_n (i := 1) dX9_keep_4 rfl rfl ?_
    refine rn_aload_n (i := 0) dX9_keep_5 rfl rfl ?_
    obtain ⟨q4, fs4, hq4, hl4, hf4⟩ := ts_obj hS0.1 m0_ hk_9
    obtain ⟨o5, hx5, m5⟩ := fs_r hf4 1 rfl
    refine rn_get q4 kg_SG_10 hl4 hx5 dX9_keep_6 ?_
    obtain ⟨q6, fs6, hq6, hl6, hf6⟩ := ts_obj hS0.1 m5 hk_4
    refine rn_callV (a := 1) (b := 6) [] kl_SG_76 dX9_keep_9 q6 hl6 rfl (t_X4_size G S ws hS0.1 o5 m5) rfl rfl (Nat.le_of_ble_eq_true rfl) (Nat.le_of_ble_eq_true rfl) (Nat.le_of_ble_eq_true rfl) (Nat.le_of_ble_eq_true rfl) (Nat.le_of_ble_eq_true rfl) (Nat.le_of_ble_eq_true rfl) (fun _ _ h => False.elim h) (fun v9 w7 h8 => ?_)
    obtain ⟨rfl, v9, rfl, rv9⟩ := h8
    refine rn_stk [.int v9, .int x1_] rfl ?_
    refine rn_icmp_le (tgt := 25) dX9_keep_12 (by decide) (fun h11 => ?_) (fun h11 => ?_)
    · have ch11 := cv_le h11
      have r12 : Rg (0) (2040) x1_ := rf_lex ch11 r3 rv9 (by decide)
      refine rn_aload_n (i := 0) dX9_keep_25 rfl rfl ?_
      refine rn_get q4 kg_SG_10 hl4 hx5 dX9_keep_26 ?_
      refine rn_iload_n (i := 1) dX9_keep_29 rfl rfl ?_
      refine rn_callV (a := 1) (b := 6) [.int x1_] kl_SG_87 dX9_keep_30 q6 hl6 rfl (t_X4_resize G S ws hS0.1 o5 m5 x1_) rfl rfl (Nat.le_of_ble_eq_true rfl) (Nat.le_of_ble_eq_true rfl) (Nat.le_of_ble_eq_true rfl) (Nat.le_of_ble_eq_true rfl) (Nat.le_of_ble_eq_true rfl) (Nat.le_of_ble_eq_true rfl) (fun _ _ h => False.elim h) (fun v9 w13 h14 => ?_)
      obtain ⟨hT15, rfl⟩ := h14
      have hS15 := St.tr hS0 hT15 rfl
      refine rn_stk [] rfl ?_
      exact rn_vret dX9_keep_33 rfl (rq_in ⟨hS15, rfl⟩)
    · have ch11 := cv_nle h11
      have r16 : Rg (1) (2147483647) x1_ := rf_lty ch11 rv9 r3 (by decide)
      exact rn_throw kt_SG_95_97 rfl dX9_keep_15 dX9_keep_18 dX9_keep_19 dX9_keep_21 dX9_keep_24 (Nat.le_of_ble_eq_true rfl) (Nat.le_of_ble_eq_true rfl) (Nat.le_of_ble_eq_true rfl) (Nat.le_of_ble_eq_true rfl) (Nat.le_of_ble_eq_true rfl) (rq_ex ⟨hS0, rfl⟩)
abbrev q_t_X9_at (G : rn_G) (S : ts_S) (ws : va_W) : rn_R → va_W → Prop := rQ (fun v w => ws = w ∧ (∃ x : Int32, v = some (.int x) ∧ Rg (0) (255) x)) (fun E w => ws = w ∧ (E = "java/lang/IndexOutOfBoundsException"))
set_option maxRecDepth 20000 in
set_option maxHeartbeats 4000000 in
theorem t_X9_at (G : rn_G) (S : ts_S) (ws : va_W) (hW : ts_W G S ws) (o0_ : Nat) (m0_ : (o0_, 9) ∈ S) (x1_ : Int32) : Rn G mX9_at 6 90 1 6 0 (lv_args 0 [.ref o0_, .int x1_]) [] ws (q_t_X9_at G S ws ) := by
  refine rn_lv [(0, .ref o0_), (1, .int x1_)] rfl ?_
  refine rn_iload_n (i := 1) dX9_at_0 rfl rfl ?_
  refine rn_if_lt (tgt := 15) dX9_at_1 (by decide) (fun h1 => ?_) (fun h1 => ?_)
  · have ch1 := cv_lt h1
    have r2 : Rg (-2147483648) (-1) x1_ := rf_ltx ch1 (rg_any x1_) rk_0 (by decide)
    exact rn_throw kt_SG_114_116 rfl dX9_at_15 dX9_at_18 dX9_at_19 dX9_at_21 dX9_at_24 (Nat.le_of_ble_eq_true rfl) (Nat.le_of_ble_eq_true rfl) (Nat.le_of_ble_eq_true rfl) (Nat.le_of_ble_eq_true rfl) (Nat.le_of_ble_eq_true rfl) (rq_ex ⟨rfl, rfl⟩)
  · have ch1 := cv_nlt h1
    have r3 : Rg (0) (2147483647) x1_ := rf_ley ch1 rk_0 (rg_any x1_) (by decide)
    refine rn_iload_n (i := 1) dX9_at_4 rfl rfl ?_
    refine rn_aload_n (i := 0) dX9_at_5 rfl rfl ?_
    obtain ⟨q4, fs4, hq4, hl4, hf4⟩ := ts_obj hW m0_ hk_9
    obtain ⟨o5, hx5, m5⟩ := fs_r hf4 1 rfl
    refine rn_get q4 kg_SG_10 hl4 hx5 dX9_at_6 ?_
    obtain ⟨q6, fs6, hq6, hl6, hf6⟩ := ts_obj hW m5 hk_4
    refine rn_callV (a := 1) (b := 6) [] kl_SG_76 dX9_at_9 q6 hl6 rfl (t_X4_size G S ws hW o5 m5) rfl rfl (Nat.le_of_ble_eq_true rfl) (Nat.le_of_ble_eq_true rfl) (Nat.le_of_ble_eq_true rfl) (Nat.le_of_ble_eq_true rfl) (Nat.le_of_ble_eq_true rfl) (Nat.le_of_ble_eq_true rfl) (fun _ _ h => False.elim h) (fun v9 w7 h8 => ?_)
    obtain ⟨rfl, v9, rfl, rv9⟩ := h8
    refine rn_stk [.int v9, .int x1_] rfl ?_
    refine rn_icmp_lt (tgt := 25) dX9_at_12 (by decide) (fun h11 => ?_) (fun h11 => ?_)
    · have ch11 := cv_lt h11
      have r12 : Rg (0) (2039) x1_ := rf_ltx ch11 r3 rv9 (by decide)
      have r13 : Rg (1) (2040) v9 := rf_lty ch11 r3 rv9 (by decide)
      refine rn_aload_n (i := 0) dX9_at_25 rfl rfl ?_
      refine rn_get q4 kg_SG_10 hl4 hx5 dX9_at_26 ?_
      refine rn_iload_n (i := 1) dX9_at_29 rfl rfl ?_
      refine rn_callV (a := 1) (b := 6) [.int x1_] kl_SG_119 dX9_at_30 q6 hl6 rfl (t_X4_byteAt G S ws hW o5 m5 x1_) rfl rfl (Nat.le_of_ble_eq_true rfl) (Nat.le_of_ble_eq_true rfl) (Nat.le_of_ble_eq_true rfl) (Nat.le_of_ble_eq_true rfl) (Nat.le_of_ble_eq_true rfl) (Nat.le_of_ble_eq_true rfl) (fun _ _ h => False.elim h) (fun v9 w14 h15 => ?_)
      obtain ⟨rfl, v16, rfl, rv16⟩ := h15
      refine rn_stk [.int v16] rfl ?_
      exact rn_iret dX9_at_33 rfl rfl (rq_in ⟨rfl, v16, rfl, rv16⟩)
    · have ch11 := cv_nlt h11
      exact rn_throw kt_SG_114_116 rfl dX9_at_15 dX9_at_18 dX9_at_19 dX9_at_21 dX9_at_24 (Nat.le_of_ble_eq_true rfl) (Nat.le_of_ble_eq_true rfl) (Nat.le_of_ble_eq_true rfl) (Nat.le_of_ble_eq_true rfl) (Nat.le_of_ble_eq_true rfl) (rq_ex ⟨rfl, rfl⟩)
abbrev q_t_X9_poke (G : rn_G) (S : ts_S) (ws : va_W) : rn_R → va_W → Prop := rQ (fun v w => St G S [11] ws S w ∧ (∃ x : Int32, v = some (.int x) ∧ Rg (0) (255) x)) (fun E w => St G S [11] ws S w ∧ (E = "java/lang/IllegalArgumentException" ∨ E = "java/lang/IndexOutOfBoundsException"))
set_option maxRecDepth 20000 in
set_option maxHeartbeats 4000000 in
theorem t_X9_poke (G : rn_G) (S : ts_S) (ws : va_W) (hW : ts_W G S ws) (o0_ : Nat) (m0_ : (o0_, 9) ∈ S) (x1_ : Int32) (x2_ : Int32) : Rn G mX9_poke 7 111 2 12 0 (lv_args 0 [.ref o0_, .int x1_, .int x2_]) [] ws (q_t_X9_poke G S ws ) := by
  have hS0 : St G S [11] ws S ws := St.rf hW
  refine rn_lv [(0, .ref o0_), (1, .int x1_), (2, .int x2_)] rfl ?_
  refine rn_aload_n (i := 0) dX9_poke_0 rfl rfl ?_
  refine rn_iload_n (i := 1) dX9_poke_1 rfl rfl ?_
  obtain ⟨q1, fs1, hq1, hl1, hf1⟩ := ts_obj hS0.1 m0_ hk_9
  refine rn_callV (a := 1) (b := 6) [.int x1_] kl_SG_100 dX9_poke_2 q1 hl1 rfl (t_X9_at G S ws hS0.1 o0_ m0_ x1_) rfl rfl (Nat.le_of_ble_eq_true rfl) (Nat.le_of_ble_eq_true rfl) (Nat.le_of_ble_eq_true rfl) (Nat.le_of_ble_eq_true rfl) (Nat.le_of_ble_eq_true rfl) (Nat.le_of_ble_eq_true rfl) ?_ (fun v9 w2 h3 => ?_)
  · intro E w2 h3
    obtain ⟨rfl, rfl⟩ := h3
    exact rnx_out rfl (rq_ex ⟨hS0, (Or.inr rfl)⟩)
  · obtain ⟨rfl, v5, rfl, rv5⟩ := h3
    refine rn_stk [.int v5] rfl ?_
    refine rn_istore_n dX9_poke_5 rfl (by decide) [(0, .ref o0_), (1, .int x1_), (2, .int x2_), (3, .int v5)] rfl ?_
    refine rn_iload_n (i := 2) dX9_poke_6 rfl rfl ?_
    refine rn_inS (d' := 0) (z' := 0) [.int x2_] kl_SG_104 dX9_poke_7 rfl rfl (Nat.le_of_ble_eq_true rfl) (Nat.le_of_ble_eq_true rfl) (Nat.le_of_ble_eq_true rfl) (Nat.le_of_ble_eq_true rfl) ?_
    refine rn_lv [(0, .int x2_)] rfl ?_
    refine rn_iload_n (i := 0) dX9_isByte_0 rfl rfl ?_
    refine rn_if_lt (tgt := 15) dX9_isByte_1 (by decide) (fun h7 => ?_) (fun h7 => ?_)
    · have ch7 := cv_lt h7
      have r8 : Rg (-2147483648) (-1) x2_ := rf_ltx ch7 (rg_any x2_) rk_0 (by decide)
      refine rn_iconst (v := (0 : Int32)) dX9_isByte_15 (by decide) ?_
      refine rn_iret dX9_isByte_16 rfl rfl (rq_in ?_)
      refine rn_stk [.int (0 : Int32)] rfl ?_
      refine rn_if_ne (tgt := 23) dX9_poke_10 (by decide) (fun h9 => (cx_ne (cv_ne h9) rk_0 rk_0 (by decide)).elim) (fun h9 => ?_)
      exact rn_throw kt_SG_95_108 rfl dX9_poke_13 dX9_poke_16 dX9_poke_17 dX9_poke_19 dX9_poke_22 (Nat.le_of_ble_eq_true rfl) (Nat.le_of_ble_eq_true rfl) (Nat.le_of_ble_eq_true rfl) (Nat.le_of_ble_eq_true rfl) (Nat.le_of_ble_eq_true rfl) (rq_ex ⟨hS0, (Or.inl rfl)⟩)
    · have ch7 := cv_nlt h7
      have r10 : Rg (0) (2147483647) x2_ := rf_ley ch7 rk_0 (rg_any x2_) (by decide)
      refine rn_iload_n (i := 0) dX9_isByte_4 rfl rfl ?_
      refine rn_sipush (v := (255 : Int32)) dX9_isByte_5 (by decide) ?_
      refine rn_icmp_gt (tgt := 15) dX9_isByte_8 (by decide) (fun h11 => ?_) (fun h11 => ?_)
      · have ch11 := cv_lt h11
        have r12 : Rg (256) (2147483647) x2_ := rf_lty ch11 rk_255 r10 (by decide)
        refine rn_iconst (v := (0 : Int32)) dX9_isByte_15 (by decide) ?_
        refine rn_iret dX9_isByte_16 rfl rfl (rq_in ?_)
        refine rn_stk [.int (0 : Int32)] rfl ?_
        refine rn_if_ne (tgt := 23) dX9_poke_10 (by decide) (fun h13 => (cx_ne (cv_ne h13) rk_0 rk_0 (by decide)).elim) (fun h13 => ?_)
        exact rn_throw kt_SG_95_108 rfl dX9_poke_13 dX9_poke_16 dX9_poke_17 dX9_poke_19 dX9_poke_22 (Nat.le_of_ble_eq_true rfl) (Nat.le_of_ble_eq_true rfl) (Nat.le_of_ble_eq_true rfl) (Nat.le_of_ble_eq_true rfl) (Nat.le_of_ble_eq_true rfl) (rq_ex ⟨hS0, (Or.inl rfl)⟩)
      · have ch11 := cv_nlt h11
        have r14 : Rg (0) (255) x2_ := rf_lex ch11 r10 rk_255 (by decide)
        refine rn_iconst (v := (1 : Int32)) dX9_isByte_11 (by decide) ?_
        refine rn_goto (tgt := 16) dX9_isByte_12 (by decide) ?_
        refine rn_iret dX9_isByte_16 rfl rfl (rq_in ?_)
        refine rn_stk [.int (1 : Int32)] rfl ?_
        refine rn_if_ne (tgt := 23) dX9_poke_10 (by decide) (fun h15 => ?_) (fun h15 => (cx_eq (cv_eq h15) rk_1 rk_0 (by decide)).elim)
        refine rn_aload_n (i := 0) dX9_poke_23 rfl rfl ?_
        obtain ⟨o16, hx16, m16⟩ := fs_r hf1 1 rfl
        refine rn_get q1 kg_SG_10 hl1 hx16 dX9_poke_24 ?_
        refine rn_iload_n (i := 1) dX9_poke_27 rfl rfl ?_
        refine rn_iload_n (i := 2) dX9_poke_28 rfl rfl ?_
        obtain ⟨q17, fs17, hq17, hl17, hf17⟩ := ts_obj hS0.1 m16 hk_4
        refine rn_callV (a := 1) (b := 6) [.int x1_, .int x2_] kl_SG_110 dX9_poke_29 q17 hl17 rfl (t_X4_setByte G S ws hS0.1 o16 m16 x1_ x2_) rfl rfl (Nat.le_of_ble_eq_true rfl) (Nat.le_of_ble_eq_true rfl) (Nat.le_of_ble_eq_true rfl) (Nat.le_of_ble_eq_true rfl) (Nat.le_of_ble_eq_true rfl) (Nat.le_of_ble_eq_true rfl) (fun _ _ h => False.elim h) (fun v9 w18 h19 => ?_)
        obtain ⟨hT20, rfl⟩ := h19
        have hS20 := St.tr hS0 hT20 rfl
        refine rn_stk [] rfl ?_
        refine rn_iload_n (i := 3) dX9_poke_32 rfl rfl ?_
        exact rn_iret dX9_poke_33 rfl rfl (rq_in ⟨hS20, v5, rfl, rv5⟩)
abbrev q_t_X9_make (G : rn_G) (S : ts_S) (ws : va_W) : rn_R → va_W → Prop := rQ (fun v w => St G S [4, 11] ws S w ∧ (∃ x : Int32, v = some (.int x) ∧ Rg (0) (2040) x)) (fun E w => St G S [4, 11] ws S w ∧ (E = "java/lang/IllegalArgumentException"))
set_option maxRecDepth 20000 in
set_option maxHeartbeats 4000000 in
theorem t_X9_make (G : rn_G) (S : ts_S) (ws : va_W) (hW : ts_W G S ws) (o0_ : Nat) (m0_ : (o0_, 9) ∈ S) (x1_ : Int32) (x2_ : Int32) (x3_ : Int32) (x4_ : Int32) (x5_ : Int32) (x6_ : Int32) : Rn G mX9_make 6 90 1 6 0 (lv_args 0 [.ref o0_, .int x1_, .int x2_, .int x3_, .int x4_, .int x5_, .int x6_]) [] ws (q_t_X9_make G S ws ) := by
  have hS0 : St G S [4, 11] ws S ws := St.rf hW
  refine rn_lv [(0, .ref o0_), (1, .int x1_), (2, .int x2_), (3, .int x3_), (4, .int x4_), (5, .int x5_), (6, .int x6_)] rfl ?_
  refine rn_iload_n (i := 3) dX9_make_0 rfl rfl ?_
  refine rn_inS (d' := 0) (z' := 0) [.int x3_] kl_SG_104 dX9_make_1 rfl rfl (Nat.le_of_ble_eq_true rfl) (Nat.le_of_ble_eq_true rfl) (Nat.le_of_ble_eq_true rfl) (Nat.le_of_ble_eq_true rfl) ?_
  refine rn_lv [(0, .int x3_)] rfl ?_
  refine rn_iload_n (i := 0) dX9_isByte_0 rfl rfl ?_
  refine rn_if_lt (tgt := 15) dX9_isByte_1 (by decide) (fun h1 => ?_) (fun h1 => ?_)
  · have ch1 := cv_lt h1
    have r2 : Rg (-2147483648) (-1) x3_ := rf_ltx ch1 (rg_any x3_) rk_0 (by decide)
    refine rn_iconst (v := (0 : Int32)) dX9_isByte_15 (by decide) ?_
    refine rn_iret dX9_isByte_16 rfl rfl (rq_in ?_)
    refine rn_stk [.int (0 : Int32)] rfl ?_
    refine rn_if_eq (tgt := 28) dX9_make_4 (by decide) (fun h3 => ?_) (fun h3 => (cx_ne (cv_ne h3) rk_0 rk_0 (by decide)).elim)
    exact rn_throw kt_SG_95_122 rfl dX9_make_28 dX9_make_31 dX9_make_32 dX9_make_34 dX9_make_37 (Nat.le_of_ble_eq_true rfl) (Nat.le_of_ble_eq_true rfl) (Nat.le_of_ble_eq_true rfl) (Nat.le_of_ble_eq_true rfl) (Nat.le_of_ble_eq_true rfl) (rq_ex ⟨hS0, rfl⟩)
  · have ch1 := cv_nlt h1
    have r4 : Rg (0) (2147483647) x3_ := rf_ley ch1 rk_0 (rg_any x3_) (by decide)
    refine rn_iload_n (i := 0) dX9_isByte_4 rfl rfl ?_
    refine rn_sipush (v := (255 : Int32)) dX9_isByte_5 (by decide) ?_
    refine rn_icmp_gt (tgt := 15) dX9_isByte_8 (by decide) (fun h5 => ?_) (fun h5 => ?_)
    · have ch5 := cv_lt h5
      have r6 : Rg (256) (2147483647) x3_ := rf_lty ch5 rk_255 r4 (by decide)
      refine rn_iconst (v := (0 : Int32)) dX9_isByte_15 (by decide) ?_
      refine rn_iret dX9_isByte_16 rfl rfl (rq_in ?_)
      refine rn_stk [.int (0 : Int32)] rfl ?_
      refine rn_if_eq (tgt := 28) dX9_make_4 (by decide) (fun h7 => ?_) (fun h7 => (cx_ne (cv_ne h7) rk_0 rk_0 (by decide)).elim)
      exact rn_throw kt_SG_95_122 rfl dX9_make_28 dX9_make_31 dX9_make_32 dX9_make_34 dX9_make_37 (Nat.le_of_ble_eq_true rfl) (Nat.le_of_ble_eq_true rfl) (Nat.le_of_ble_eq_true rfl) (Nat.le_of_ble_eq_true rfl) (Nat.le_of_ble_eq_true rfl) (rq_ex ⟨hS0, rfl⟩)
    · have ch5 := cv_nlt h5
      have r8 : Rg (0) (255) x3_ := rf_lex ch5 r4 rk_255 (by decide)
      refine rn_iconst (v := (1 : Int32)) dX9_isByte_11 (by decide) ?_
      refine rn_goto (tgt := 16) dX9_isByte_12 (by decide) ?_
      refine rn_iret dX9_isByte_16 rfl rfl (rq_in ?_)
      refine rn_stk [.int (1 : Int32)] rfl ?_
      refine rn_if_eq (tgt := 28) dX9_make_4 (by decide) (fun h9 => (cx_eq (cv_eq h9) rk_1 rk_0 (by decide)).elim) (fun h9 => ?_)
      refine rn_iload dX9_make_7 rfl ?_
      refine rn_inS (d' := 0) (z' := 0) [.int x4_] kl_SG_104 dX9_make_9 rfl rfl (Nat.le_of_ble_eq_true rfl) (Nat.le_of_ble_eq_true rfl) (Nat.le_of_ble_eq_true rfl) (Nat.le_of_ble_eq_true rfl) ?_
      refine rn_lv [(0, .int x4_)] rfl ?_
      refine rn_iload_n (i := 0) dX9_isByte_0 rfl rfl ?_
      refine rn_if_lt (tgt := 15) dX9_isByte_1 (by decide) (fun h10 => ?_) (fun h10 => ?_)
      · have ch10 := cv_lt h10
        have r11 : Rg (-2147483648) (-1) x4_ := rf_ltx ch10 (rg_any x4_) rk_0 (by decide)
        refine rn_iconst (v := (0 : Int32)) dX9_isByte_15 (by decide) ?_
        refine rn_iret dX9_isByte_16 rfl rfl (rq_in ?_)
        refine rn_stk [.int (0 : Int32)] rfl ?_
        refine rn_if_eq (tgt := 28) dX9_make_12 (by decide) (fun h12 => ?_) (fun h12 => (cx_ne (cv_ne h12) rk_0 rk_0 (by decide)).elim)
        exact rn_throw kt_SG_95_122 rfl dX9_make_28 dX9_make_31 dX9_make_32 dX9_make_34 dX9_make_37 (Nat.le_of_ble_eq_true rfl) (Nat.le_of_ble_eq_true rfl) (Nat.le_of_ble_eq_true rfl) (Nat.le_of_ble_eq_true rfl) (Nat.le_of_ble_eq_true rfl) (rq_ex ⟨hS0, rfl⟩)
      · have ch10 := cv_nlt h10
        have r13 : Rg (0) (2147483647) x4_ := rf_ley ch10 rk_0 (rg_any x4_) (by decide)
        refine rn_iload_n (i := 0) dX9_isByte_4 rfl rfl ?_
        refine rn_sipush (v := (255 : Int32)) dX9_isByte_5 (by decide) ?_
        refine rn_icmp_gt (tgt := 15) dX9_isByte_8 (by decide) (fun h14 => ?_) (fun h14 => ?_)
        · have ch14 := cv_lt h14
          have r15 : Rg (256) (2147483647) x4_ := rf_lty ch14 rk_255 r13 (by decide)
          refine rn_iconst (v := (0 : Int32)) dX9_isByte_15 (by decide) ?_
          refine rn_iret dX9_isByte_16 rfl rfl (rq_in ?_)
          refine rn_stk [.int (0 : Int32)] rfl ?_
          refine rn_if_eq (tgt := 28) dX9_make_12 (by decide) (fun h16 => ?_) (fun h16 => (cx_ne (cv_ne h16) rk_0 rk_0 (by decide)).elim)
          exact rn_throw kt_SG_95_122 rfl dX9_make_28 dX9_make_31 dX9_make_32 dX9_make_34 dX9_make_37 (Nat.le_of_ble_eq_true rfl) (Nat.le_of_ble_eq_true rfl) (Nat.le_of_ble_eq_true rfl) (Nat.le_of_ble_eq_true rfl) (Nat.le_of_ble_eq_true rfl) (rq_ex ⟨hS0, rfl⟩)
        · have ch14 := cv_nlt h14
          have r17 : Rg (0) (255) x4_ := rf_lex ch14 r13 rk_255 (by decide)
          refine rn_iconst (v := (1 : Int32)) dX9_isByte_11 (by decide) ?_
          refine rn_goto (tgt := 16) dX9_isByte_12 (by decide) ?_
          refine rn_iret dX9_isByte_16 rfl rfl (rq_in ?_)
          refine rn_stk [.int (1 : Int32)] rfl ?_
          refine rn_if_eq (tgt := 28) dX9_make_12 (by decide) (fun h18 => (cx_eq (cv_eq h18) rk_1 rk_0 (by decide)).elim) (fun h18 => ?_)
          refine rn_iload dX9_make_15 rfl ?_
          refine rn_if_lt (tgt := 28) dX9_make_17 (by decide) (fun h19 => ?_) (fun h19 => ?_)
          · have ch19 := cv_lt h19
            have r20 : Rg (-2147483648) (-1) x5_ := rf_ltx ch19 (rg_any x5_) rk_0 (by decide)
            exact rn_throw kt_SG_95_122 rfl dX9_make_28 dX9_make_31 dX9_make_32 dX9_make_34 dX9_make_37 (Nat.le_of_ble_eq_true rfl) (Nat.le_of_ble_eq_true rfl) (Nat.le_of_ble_eq_true rfl) (Nat.le_of_ble_eq_true rfl) (Nat.le_of_ble_eq_true rfl) (rq_ex ⟨hS0, rfl⟩)
          · have ch19 := cv_nlt h19
            have r21 : Rg (0) (2147483647) x5_ := rf_ley ch19 rk_0 (rg_any x5_) (by decide)
            refine rn_iload dX9_make_20 rfl ?_
            refine rn_sipush (v := (1480 : Int32)) dX9_make_22 (by decide) ?_
            refine rn_icmp_le (tgt := 38) dX9_make_25 (by decide) (fun h22 => ?_) (fun h22 => ?_)
            · have ch22 := cv_le h22
              have r23 : Rg (0) (1480) x5_ := rf_lex ch22 r21 rk_1480 (by decide)
              refine rn_aload_n (i := 0) dX9_make_38 rfl rfl ?_
              obtain ⟨q24, fs24, hq24, hl24, hf24⟩ := ts_obj hS0.1 m0_ hk_9
              obtain ⟨o25, hx25, m25⟩ := fs_r hf24 1 rfl
              refine rn_get q24 kg_SG_10 hl24 hx25 dX9_make_39 ?_
              refine rn_bipush (v := (20 : Int32)) dX9_make_42 (by decide) ?_
              refine rn_iload dX9_make_44 rfl ?_
              refine rs_addD (20) (1500) rk_20 r23 dX9_make_46 (by decide) (fun v26 ev26 rv26 => ?_)
              obtain ⟨q27, fs27, hq27, hl27, hf27⟩ := ts_obj hS0.1 m25 hk_4
              refine rn_callV (a := 1) (b := 6) [.int v26] kl_SG_87 dX9_make_47 q27 hl27 rfl (t_X4_resize G S ws hS0.1 o25 m25 v26) rfl rfl (Nat.le_of_ble_eq_true rfl) (Nat.le_of_ble_eq_true rfl) (Nat.le_of_ble_eq_true rfl) (Nat.le_of_ble_eq_true rfl) (Nat.le_of_ble_eq_true rfl) (Nat.le_of_ble_eq_true rfl) (fun _ _ h => False.elim h) (fun v9 w28 h29 => ?_)
              obtain ⟨hT30, rfl⟩ := h29
              have hS30 := St.tr hS0 hT30 rfl
              refine rn_stk [] rfl ?_
              refine rn_aload_n (i := 0) dX9_make_50 rfl rfl ?_
              refine rn_get q24 kg_SG_10 (hT30.fr hq24 rfl hl24) hx25 dX9_make_51 ?_
              refine rn_iload_n (i := 1) dX9_make_54 rfl rfl ?_
              refine rn_iload_n (i := 2) dX9_make_55 rfl rfl ?_
              refine rn_iload_n (i := 3) dX9_make_56 rfl rfl ?_
              refine rn_iload dX9_make_57 rfl ?_
              obtain ⟨q31, fs31, hq31, hl31, hf31⟩ := ts_obj hS30.1 m25 hk_4
              refine rn_callV (a := 1) (b := 6) [.int x1_, .int x2_, .int x3_, .int x4_] kl_SG_124 dX9_make_59 q31 hl31 rfl (t_X4_writeHead G S w28 hS30.1 o25 m25 x1_ x2_ x3_ x4_) rfl rfl (Nat.le_of_ble_eq_true rfl) (Nat.le_of_ble_eq_true rfl) (Nat.le_of_ble_eq_true rfl) (Nat.le_of_ble_eq_true rfl) (Nat.le_of_ble_eq_true rfl) (Nat.le_of_ble_eq_true rfl) (fun _ _ h => False.elim h) (fun v9 w32 h33 => ?_)
              obtain ⟨hT34, rfl⟩ := h33
              have hS34 := St.tr hS30 hT34 rfl
              refine rn_stk [] rfl ?_
              refine rn_iconst (v := (0 : Int32)) dX9_make_62 (by decide) ?_
              refine rn_istore dX9_make_63 (by decide) [(0, .ref o0_), (1, .int x1_), (2, .int x2_), (3, .int x3_), (4, .int x4_), (5, .int x5_), (6, .int x6_), (7, .int (0 : Int32))] rfl ?_
              have LP36 : ∀ (n : Nat) (w37 : va_W) (x35 : Int32), St G S [11] w32 S w37 → Rg (0) (1480) x35 → (1480 - x35.toInt).toNat = n → Rn G mX9_make 6 90 1 6 65 [(0, .ref o0_), (1, .int x1_), (2, .int x2_), (3, .int x3_), (4, .int x4_), (5, .int x5_), (6, .int x6_), (7, .int x35)] [] w37 (q_t_X9_make G S ws ) := by
                intro n
                induction n using Nat.strongRecOn with
                | _ n ih =>
                  intro w37 x35 hT38 r39 hm40
                  refine rn_iload dX9_make_65 rfl ?_
                  refine rn_iload dX9_make_67 rfl ?_
                  refine rn_icmp_ge (tgt := 95) dX9_make_69 (by decide) (fun h41 => ?_) (fun h41 => ?_)
                  · have ch41 := cv_le h41
                    have hS42 := St.tr hS34 hT38 rfl
                    refine rn_aload_n (i := 0) dX9_make_95 rfl rfl ?_
                    refine rn_get q24 kg_SG_10 (hT38.fr hq24 rfl (hT34.fr hq24 rfl (hT30.fr hq24 rfl hl24))) hx25 dX9_make_96 ?_
                    refine rn_callV (a := 1) (b := 6) [] kl_SG_128 dX9_make_99 q31 (hT38.fr hq31 rfl (hT34.fr hq31 rfl hl31)) rfl (t_X4_mendSum G S w37 hS42.1 o25 m25) rfl rfl (Nat.le_of_ble_eq_true rfl) (Nat.le_of_ble_eq_true rfl) (Nat.le_of_ble_eq_true rfl) (Nat.le_of_ble_eq_true rfl) (Nat.le_of_ble_eq_true rfl) (Nat.le_of_ble_eq_true rfl) (fun _ _ h => False.elim h) (fun v9 w43 h44 => ?_)
                    obtain ⟨hT46, v45, rfl, rv45⟩ := h44
                    have hS46 := St.tr hS42 hT46 rfl
                    refine rn_stk [.int v45] rfl ?_
                    refine rn_pop dX9_make_102 rfl ?_
                    refine rn_aload_n (i := 0) dX9_make_103 rfl rfl ?_
                    refine rn_get q24 kg_SG_10 (hT46.fr hq24 rfl (hT38.fr hq24 rfl (hT34.fr hq24 rfl (hT30.fr hq24 rfl hl24)))) hx25 dX9_make_104 ?_
                    refine rn_callV (a := 1) (b := 6) [] kl_SG_76 dX9_make_107 q31 (hT46.fr hq31 rfl (hT38.fr hq31 rfl (hT34.fr hq31 rfl hl31))) rfl (t_X4_size G S w43 hS46.1 o25 m25) rfl rfl (Nat.le_of_ble_eq_true rfl) (Nat.le_of_ble_eq_true rfl) (Nat.le_of_ble_eq_true rfl) (Nat.le_of_ble_eq_true rfl) (Nat.le_of_ble_eq_true rfl) (Nat.le_of_ble_eq_true rfl) (fun _ _ h => False.elim h) (fun v9 w47 h48 => ?_)
                    obtain ⟨rfl, v49, rfl, rv49⟩ := h48
                    refine rn_stk [.int v49] rfl ?_
                    exact rn_iret dX9_make_110 rfl rfl (rq_in ⟨hS46, v49, rfl, rv49⟩)
                  · have ch41 := cv_nle h41
                    have r51 : Rg (0) (1479) x35 := rf_ltx ch41 r39 r23 (by decide)
                    have r52 : Rg (1) (1480) x5_ := rf_lty ch41 r39 r23 (by decide)
                    refine rn_aload_n (i := 0) dX9_make_72 rfl rfl ?_
                    refine rn_get q24 kg_SG_10 (hT38.fr hq24 rfl (hT34.fr hq24 rfl (hT30.fr hq24 rfl hl24))) hx25 dX9_make_73 ?_
                    refine rn_bipush (v := (20 : Int32)) dX9_make_76 (by decide) ?_
                    refine rn_iload dX9_make_78 rfl ?_
                    refine rs_addD (20) (1499) rk_20 r51 dX9_make_80 (by decide) (fun v53 ev53 rv53 => ?_)
                    refine rn_iload dX9_make_81 rfl ?_
                    refine rn_iload dX9_make_83 rfl ?_
                    refine rn_iadd dX9_make_85 (rn_nmA (fun v54 rv54 => ?_))
                    refine rn_callV (a := 1) (b := 6) [.int v53, .int v54] kl_SG_110 dX9_make_86 q31 (hT38.fr hq31 rfl (hT34.fr hq31 rfl hl31)) rfl (t_X4_setByte G S w37 hT38.1 o25 m25 v53 v54) rfl rfl (Nat.le_of_ble_eq_true rfl) (Nat.le_of_ble_eq_true rfl) (Nat.le_of_ble_eq_true rfl) (Nat.le_of_ble_eq_true rfl) (Nat.le_of_ble_eq_true rfl) (Nat.le_of_ble_eq_true rfl) (fun _ _ h => False.elim h) (fun v9 w55 h56 => ?_)
                    obtain ⟨hT57, rfl⟩ := h56
                    have hS57 := St.tr hT38 hT57 rfl
                    refine rn_stk [] rfl ?_
                    refine rs_iinc (1) (1480) dX9_make_89 rfl (by decide) r51 rk_1 (by decide) (fun v58 => [(0, .ref o0_), (1, .int x1_), (2, .int x2_), (3, .int x3_), (4, .int x4_), (5, .int x5_), (6, .int x6_), (7, .int v58)]) (fun _ => rfl) (fun v58 ev58 rv58 => ?_)
                    refine rn_goto (tgt := 65) dX9_make_92 (by decide) ?_
                    refine rn_lv [(0, .ref o0_), (1, .int x1_), (2, .int x2_), (3, .int x3_), (4, .int x4_), (5, .int x5_), (6, .int x6_), (7, .int v58)] rfl ?_
                    exact ih _ (lp_inc hm40 ev58 rv58 (by decide)) w55 v58 hS57 (rg_w rv58 (by decide) (by decide)) rfl
              exact LP36 _ w32 (0 : Int32) (St.rf hS34.1) (rg_w rk_0 (by decide) (by decide)) rfl
            · have ch22 := cv_nle h22
              have r59 : Rg (1481) (2147483647) x5_ := rf_lty ch22 rk_1480 r21 (by decide)
              exact rn_throw kt_SG_95_122 rfl dX9_make_28 dX9_make_31 dX9_make_32 dX9_make_34 dX9_make_37 (Nat.le_of_ble_eq_true rfl) (Nat.le_of_ble_eq_true rfl) (Nat.le_of_ble_eq_true rfl) (Nat.le_of_ble_eq_true rfl) (Nat.le_of_ble_eq_true rfl) (rq_ex ⟨hS0, rfl⟩)
