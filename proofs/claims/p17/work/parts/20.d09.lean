abbrev q_t_X8_hasShape (G : rn_G) (S : ts_S) (ws : va_W) : rn_R → va_W → Prop := rQ (fun v w => ws = w ∧ (∃ x : Int32, v = some (.int x) ∧ Rg (0) (1) x)) (fun E w => False)
set_option maxRecDepth 20000 in
set_option maxHeartbeats 4000000 in
theorem t_X8_hasShape (G : rn_G) (S : ts_S) (ws : va_W) (hW : ts_W G S ws) (o0_ : Nat) (m0_ : (o0_, 4) ∈ S) : Rn G mX8_hasShape 1 20 0 0 0 (lv_args 0 [.ref o0_]) [] ws (q_t_X8_hasShape G S ws ) := by
  refine rn_lv [(0, .ref o0_)] rfl ?_
  refine rn_aload_n (i := 0) dX8_hasShape_0 rfl rfl ?_
  obtain ⟨q1, fs1, hq1, hl1, hf1⟩ := ts_obj hW m0_ hk_4
  refine rn_callV (a := 0) (b := 0) [] kl_SG_Seal_56 dX8_hasShape_1 q1 hl1 rfl (t_X4_size G S ws hW o0_ m0_) rfl rfl (Nat.le_of_ble_eq_true rfl) (Nat.le_of_ble_eq_true rfl) (Nat.le_of_ble_eq_true rfl) (Nat.le_of_ble_eq_true rfl) (Nat.le_of_ble_eq_true rfl) (Nat.le_of_ble_eq_true rfl) (fun _ _ h => False.elim h) (fun v9 w2 h3 => ?_)
  obtain ⟨rfl, v4, rfl, rv4⟩ := h3
  refine rn_stk [.int v4] rfl ?_
  refine rn_bipush (v := (36 : Int32)) dX8_hasShape_4 (by decide) ?_
  refine rs_subC (-36) (2004) rv4 rk_36 dX8_hasShape_6 (by decide) (fun v6 ev6 rv6 => ?_)
  refine rn_istore_n dX8_hasShape_7 rfl (by decide) [(0, .ref o0_), (1, .int v6)] rfl ?_
  refine rn_iload_n (i := 1) dX8_hasShape_8 rfl rfl ?_
  refine rn_iconst (v := (4 : Int32)) dX8_hasShape_9 (by decide) ?_
  refine rn_icmp_lt (tgt := 23) dX8_hasShape_10 (by decide) (fun h7 => ?_) (fun h7 => ?_)
  · have ch7 := cv_lt h7
    have r8 : Rg (-36) (3) v6 := rf_ltx ch7 rv6 rk_4 (by decide)
    refine rn_iconst (v := (0 : Int32)) dX8_hasShape_23 (by decide) ?_
    exact rn_iret dX8_hasShape_24 rfl rfl (rq_in ⟨rfl, (0 : Int32), rfl, (rg_w rk_0 (by decide) (by decide))⟩)
  · have ch7 := cv_nlt h7
    have r9 : Rg (4) (2004) v6 := rf_ley ch7 rk_4 rv6 (by decide)
    refine rn_iload_n (i := 1) dX8_hasShape_13 rfl rfl ?_
    refine rn_iconst (v := (3 : Int32)) dX8_hasShape_14 (by decide) ?_
    refine rn_iand dX8_hasShape_15 (rn_nmE (rg_mask (hi := 3) 2 4 rfl r9 rk_3 (by decide)) (fun v10 ev10 rv10 => ?_))
    refine rn_if_ne (tgt := 23) dX8_hasShape_16 (by decide) (fun h11 => ?_) (fun h11 => ?_)
    · have ch11 := cv_ne h11
      have r12 : Rg (1) (3) v10 := rf_nel ch11 rv10 rk_0 (by decide) (by decide)
      refine rn_iconst (v := (0 : Int32)) dX8_hasShape_23 (by decide) ?_
      exact rn_iret dX8_hasShape_24 rfl rfl (rq_in ⟨rfl, (0 : Int32), rfl, (rg_w rk_0 (by decide) (by decide))⟩)
    · have ch11 := cv_eq h11
      have r13 : Rg (0) (0) v10 := rf_eqx ch11 rv10 rk_0 (by decide) (by decide)
      refine rn_iconst (v := (1 : Int32)) dX8_hasShape_19 (by decide) ?_
      refine rn_goto (tgt := 24) dX8_hasShape_20 (by decide) ?_
      exact rn_iret dX8_hasShape_24 rfl rfl (rq_in ⟨rfl, (1 : Int32), rfl, (rg_w rk_1 (by decide) (by decide))⟩)
abbrev q_t_X8_nameIn (G : rn_G) (S : ts_S) (ws : va_W) : rn_R → va_W → Prop := rQ (fun v w => ws = w ∧ (∃ x : Int32, v = some (.int x) ∧ Rg (-2147483648) (2147483647) x)) (fun E w => False)
set_option maxRecDepth 20000 in
set_option maxHeartbeats 4000000 in
theorem t_X8_nameIn (G : rn_G) (S : ts_S) (ws : va_W) (hW : ts_W G S ws) (o0_ : Nat) (m0_ : (o0_, 4) ∈ S) : Rn G mX8_nameIn 1 22 0 0 0 (lv_args 0 [.ref o0_]) [] ws (q_t_X8_nameIn G S ws ) := by
  refine rn_lv [(0, .ref o0_)] rfl ?_
  refine rn_aload_n (i := 0) dX8_nameIn_0 rfl rfl ?_
  refine rn_bipush (v := (20 : Int32)) dX8_nameIn_1 (by decide) ?_
  obtain ⟨q1, fs1, hq1, hl1, hf1⟩ := ts_obj hW m0_ hk_4
  refine rn_callV (a := 0) (b := 0) [.int (20 : Int32)] kl_SG_Seal_105 dX8_nameIn_3 q1 hl1 rfl (t_X4_wordAt G S ws hW o0_ m0_ (20 : Int32)) rfl rfl (Nat.le_of_ble_eq_true rfl) (Nat.le_of_ble_eq_true rfl) (Nat.le_of_ble_eq_true rfl) (Nat.le_of_ble_eq_true rfl) (Nat.le_of_ble_eq_true rfl) (Nat.le_of_ble_eq_true rfl) (fun _ _ h => False.elim h) (fun v9 w2 h3 => ?_)
  obtain ⟨rfl, v4, rfl, rv4⟩ := h3
  refine rn_stk [.int v4] rfl ?_
  exact rn_iret dX8_nameIn_6 rfl rfl (rq_in ⟨rfl, v4, rfl, rv4⟩)
abbrev q_t_X8_lowNumberIn (G : rn_G) (S : ts_S) (ws : va_W) : rn_R → va_W → Prop := rQ (fun v w => ws = w ∧ (∃ x : Int32, v = some (.int x) ∧ Rg (-2147483648) (2147483647) x)) (fun E w => False)
set_option maxRecDepth 20000 in
set_option maxHeartbeats 4000000 in
theorem t_X8_lowNumberIn (G : rn_G) (S : ts_S) (ws : va_W) (hW : ts_W G S ws) (o0_ : Nat) (m0_ : (o0_, 4) ∈ S) : Rn G mX8_lowNumberIn 1 22 0 0 0 (lv_args 0 [.ref o0_]) [] ws (q_t_X8_lowNumberIn G S ws ) := by
  refine rn_lv [(0, .ref o0_)] rfl ?_
  refine rn_aload_n (i := 0) dX8_lowNumberIn_0 rfl rfl ?_
  refine rn_bipush (v := (24 : Int32)) dX8_lowNumberIn_1 (by decide) ?_
  obtain ⟨q1, fs1, hq1, hl1, hf1⟩ := ts_obj hW m0_ hk_4
  refine rn_callV (a := 0) (b := 0) [.int (24 : Int32)] kl_SG_Seal_105 dX8_lowNumberIn_3 q1 hl1 rfl (t_X4_wordAt G S ws hW o0_ m0_ (24 : Int32)) rfl rfl (Nat.le_of_ble_eq_true rfl) (Nat.le_of_ble_eq_true rfl) (Nat.le_of_ble_eq_true rfl) (Nat.le_of_ble_eq_true rfl) (Nat.le_of_ble_eq_true rfl) (Nat.le_of_ble_eq_true rfl) (fun _ _ h => False.elim h) (fun v9 w2 h3 => ?_)
  obtain ⟨rfl, v4, rfl, rv4⟩ := h3
  refine rn_stk [.int v4] rfl ?_
  exact rn_iret dX8_lowNumberIn_6 rfl rfl (rq_in ⟨rfl, v4, rfl, rv4⟩)
abbrev q_t_X8_wholeNumber (G : rn_G) (S : ts_S) (ws : va_W) : rn_R → va_W → Prop := rQ (fun v w => ws = w ∧ (∃ x : Int64, v = some (.long x))) (fun E w => False)
set_option maxRecDepth 20000 in
set_option maxHeartbeats 4000000 in
theorem t_X8_wholeNumber (G : rn_G) (S : ts_S) (ws : va_W) (hW : ts_W G S ws) (o0_ : Nat) (m0_ : (o0_, 8) ∈ S) (x1_ : Int32) : Rn G mX8_wholeNumber 0 0 0 0 0 (lv_args 0 [.ref o0_, .int x1_]) [] ws (q_t_X8_wholeNumber G S ws ) := by
  refine rn_lv [(0, .ref o0_), (1, .int x1_)] rfl ?_
  refine rn_iload_n (i := 1) dX8_wholeNumber_0 rfl rfl ?_
  refine rn_i2l dX8_wholeNumber_1 rfl (rn_nmL (fun l1 => ?_))
  refine rn_ldc2 (v := (4294967295 : Int64)) wd_624 dX8_wholeNumber_2 ?_
  refine rn_land dX8_wholeNumber_5 (rn_nmL (fun l2 => ?_))
  refine rn_lstore_n dX8_wholeNumber_6 rfl (by decide) [(0, .ref o0_), (1, .int x1_), (2, .long l2)] rfl ?_
  refine rn_aload_n (i := 0) dX8_wholeNumber_7 rfl rfl ?_
  obtain ⟨q3, fs3, hq3, hl3, hf3⟩ := ts_obj hW m0_ hk_8
  obtain ⟨x4, hx4, rx4⟩ := fs_i hf3 5 rfl
  refine rn_get q3 kg_SG_Seal_28 hl3 hx4 dX8_wholeNumber_8 ?_
  refine rn_if_ne (tgt := 16) dX8_wholeNumber_11 (by decide) (fun h5 => ?_) (fun h5 => ?_)
  · have ch5 := cv_ne h5
    have r6 : Rg (1) (1) x4 := rf_nel ch5 rx4 rk_0 (by decide) (by decide)
    refine rn_aload_n (i := 0) dX8_wholeNumber_16 rfl rfl ?_
    obtain ⟨y7, hx7⟩ := fs_l hf3 8 rfl
    refine rn_get q3 kg_SG_Seal_35 hl3 hx7 dX8_wholeNumber_17 ?_
    refine rn_bipush (v := (32 : Int32)) dX8_wholeNumber_20 (by decide) ?_
    refine rn_lushr dX8_wholeNumber_22 rfl (rn_nmL (fun l8 => ?_))
    refine rn_lstore dX8_wholeNumber_23 (by decide) [(0, .ref o0_), (1, .int x1_), (2, .long l2), (4, .long l8)] rfl ?_
    refine rn_aload_n (i := 0) dX8_wholeNumber_25 rfl rfl ?_
    refine rn_get q3 kg_SG_Seal_35 hl3 hx7 dX8_wholeNumber_26 ?_
    refine rn_ldc2 (v := (4294967295 : Int64)) wd_624 dX8_wholeNumber_29 ?_
    refine rn_land dX8_wholeNumber_32 (rn_nmL (fun l9 => ?_))
    refine rn_ldc2 (v := (63 : Int64)) wd_958 dX8_wholeNumber_33 ?_
    refine rn_lsub dX8_wholeNumber_36 (rn_nmL (fun l10 => ?_))
    refine rn_lstore dX8_wholeNumber_37 (by decide) [(0, .ref o0_), (1, .int x1_), (2, .long l2), (4, .long l8), (6, .long l10)] rfl ?_
    refine rn_lload dX8_wholeNumber_39 rfl ?_
    refine rn_lconst (v := (0 : Int64)) dX8_wholeNumber_41 (by decide) ?_
    refine rn_lcmp dX8_wholeNumber_42 (rn_tn (-1) 1 (rg_lcmp _ _) (fun v11 rv11 => ?_))
    refine rn_if_lt (tgt := 62) dX8_wholeNumber_43 (by decide) (fun h12 => ?_) (fun h12 => ?_)
    · have ch12 := cv_lt h12
      have r13 : Rg (-1) (-1) v11 := rf_ltx ch12 rv11 rk_0 (by decide)
      refine rn_lload dX8_wholeNumber_62 rfl ?_
      refine rn_lconst (v := (0 : Int64)) dX8_wholeNumber_64 (by decide) ?_
      refine rn_lcmp dX8_wholeNumber_65 (rn_tn (-1) 1 (rg_lcmp _ _) (fun v14 rv14 => ?_))
      refine rn_if_ge (tgt := 88) dX8_wholeNumber_66 (by decide) (fun h15 => ?_) (fun h15 => ?_)
      · have ch15 := cv_le h15
        have r16 : Rg (0) (1) v14 := rf_ley ch15 rk_0 rv14 (by decide)
        refine rn_lload dX8_wholeNumber_88 rfl ?_
        refine rn_lconst (v := (0 : Int64)) dX8_wholeNumber_90 (by decide) ?_
        refine rn_lcmp dX8_wholeNumber_91 (rn_tn (-1) 1 (rg_lcmp _ _) (fun v17 rv17 => ?_))
        refine rn_if_lt (tgt := 104) dX8_wholeNumber_92 (by decide) (fun h18 => ?_) (fun h18 => ?_)
        · have ch18 := cv_lt h18
          have r19 : Rg (-1) (-1) v17 := rf_ltx ch18 rv17 rk_0 (by decide)
          refine rn_ldc2 (v := (-1 : Int64)) wd_960 dX8_wholeNumber_104 ?_
          refine rn_goto (tgt := 117) dX8_wholeNumber_107 (by decide) ?_
          exact rn_lret dX8_wholeNumber_117 rfl (rq_in ⟨rfl, (-1 : Int64), rfl⟩)
        · have ch18 := cv_nlt h18
          have r20 : Rg (0) (1) v17 := rf_ley ch18 rk_0 rv17 (by decide)
          refine rn_lload dX8_wholeNumber_95 rfl ?_
          refine rn_ldc2 (v := (2147483647 : Int64)) wd_959 dX8_wholeNumber_97 ?_
          refine rn_lcmp dX8_wholeNumber_100 (rn_tn (-1) 1 (rg_lcmp _ _) (fun v21 rv21 => ?_))
          refine rn_if_le (tgt := 110) dX8_wholeNumber_101 (by decide) (fun h22 => ?_) (fun h22 => ?_)
          · have ch22 := cv_le h22
            have r23 : Rg (-1) (0) v21 := rf_lex ch22 rv21 rk_0 (by decide)
            refine rn_lload dX8_wholeNumber_110 rfl ?_
            refine rn_bipush (v := (32 : Int32)) dX8_wholeNumber_112 (by decide) ?_
            refine rn_lshl dX8_wholeNumber_114 rfl (rn_nmL (fun l24 => ?_))
            refine rn_lload_n (i := 2) dX8_wholeNumber_115 rfl rfl ?_
            refine rn_lor dX8_wholeNumber_116 (rn_nmL (fun l25 => ?_))
            exact rn_lret dX8_wholeNumber_117 rfl (rq_in ⟨rfl, l25, rfl⟩)
          · have ch22 := cv_nle h22
            have r26 : Rg (1) (1) v21 := rf_lty ch22 rk_0 rv21 (by decide)
            refine rn_ldc2 (v := (-1 : Int64)) wd_960 dX8_wholeNumber_104 ?_
            refine rn_goto (tgt := 117) dX8_wholeNumber_107 (by decide) ?_
            exact rn_lret dX8_wholeNumber_117 rfl (rq_in ⟨rfl, (-1 : Int64), rfl⟩)
      · have ch15 := cv_nle h15
        have r27 : Rg (-1) (-1) v14 := rf_ltx ch15 rv14 rk_0 (by decide)
        refine rn_lload_n (i := 2) dX8_wholeNumber_69 rfl rfl ?_
        refine rn_lload dX8_wholeNumber_70 rfl ?_
        refine rn_ldc2 (v := (4294967295 : Int64)) wd_624 dX8_wholeNumber_72 ?_
        refine rn_ladd dX8_wholeNumber_75 (rn_nmL (fun l28 => ?_))
        refine rn_lconst (v := (1 : Int64)) dX8_wholeNumber_76 (by decide) ?_
        refine rn_ladd dX8_wholeNumber_77 (rn_nmL (fun l29 => ?_))
        refine rn_lcmp dX8_wholeNumber_78 (rn_tn (-1) 1 (rg_lcmp _ _) (fun v30 rv30 => ?_))
        refine rn_if_lt (tgt := 88) dX8_wholeNumber_79 (by decide) (fun h31 => ?_) (fun h31 => ?_)
        · have ch31 := cv_lt h31
          have r32 : Rg (-1) (-1) v30 := rf_ltx ch31 rv30 rk_0 (by decide)
          refine rn_lload dX8_wholeNumber_88 rfl ?_
          refine rn_lconst (v := (0 : Int64)) dX8_wholeNumber_90 (by decide) ?_
          refine rn_lcmp dX8_wholeNumber_91 (rn_tn (-1) 1 (rg_lcmp _ _) (fun v33 rv33 => ?_))
          refine rn_if_lt (tgt := 104) dX8_wholeNumber_92 (by decide) (fun h34 => ?_) (fun h34 => ?_)
          · have ch34 := cv_lt h34
            have r35 : Rg (-1) (-1) v33 := rf_ltx ch34 rv33 rk_0 (by decide)
            refine rn_ldc2 (v := (-1 : Int64)) wd_960 dX8_wholeNumber_104 ?_
            refine rn_goto (tgt := 117) dX8_wholeNumber_107 (by decide) ?_
            exact rn_lret dX8_wholeNumber_117 rfl (rq_in ⟨rfl, (-1 : Int64), rfl⟩)
          · have ch34 := cv_nlt h34
            have r36 : Rg (0) (1) v33 := rf_ley ch34 rk_0 rv33 (by decide)
            refine rn_lload dX8_wholeNumber_95 rfl ?_
            refine rn_ldc2 (v := (2147483647 : Int64)) wd_959 dX8_wholeNumber_97 ?_
            refine rn_lcmp dX8_wholeNumber_100 (rn_tn (-1) 1 (rg_lcmp _ _) (fun v37 rv37 => ?_))
            refine rn_if_le (tgt := 110) dX8_wholeNumber_101 (by decide) (fun h38 => ?_) (fun h38 => ?_)
            · have ch38 := cv_le h38
              have r39 : Rg (-1) (0) v37 := rf_lex ch38 rv37 rk_0 (by decide)
              refine rn_lload dX8_wholeNumber_110 rfl ?_
              refine rn_bipush (v := (32 : Int32)) dX8_wholeNumber_112 (by decide) ?_
              refine rn_lshl dX8_wholeNumber_114 rfl (rn_nmL (fun l40 => ?_))
              refine rn_lload_n (i := 2) dX8_wholeNumber_115 rfl rfl ?_
              refine rn_lor dX8_wholeNumber_116 (rn_nmL (fun l41 => ?_))
              exact rn_lret dX8_wholeNumber_117 rfl (rq_in ⟨rfl, l41, rfl⟩)
            · have ch38 := cv_nle h38
              have r42 : Rg (1) (1) v37 := rf_lty ch38 rk_0 rv37 (by decide)
              refine rn_ldc2 (v := (-1 : Int64)) wd_960 dX8_wholeNumber_104 ?_
              refine rn_goto (tgt := 117) dX8_wholeNumber_107 (by decide) ?_
              exact rn_lret dX8_wholeNumber_117 rfl (rq_in ⟨rfl, (-1 : Int64), rfl⟩)
        · have ch31 := cv_nlt h31
          have r43 : Rg (0) (1) v30 := rf_ley ch31 rk_0 rv30 (by decide)
          refine rn_lload dX8_wholeNumber_82 rfl ?_
          refine rn_lconst (v := (1 : Int64)) dX8_wholeNumber_84 (by decide) ?_
          refine rn_lsub dX8_wholeNumber_85 (rn_nmL (fun l44 => ?_))
          refine rn_lstore dX8_wholeNumber_86 (by decide) [(0, .ref o0_), (1, .int x1_), (2, .long l2), (4, .long l44), (6, .long l10)] rfl ?_
          refine rn_lload dX8_wholeNumber_88 rfl ?_
          refine rn_lconst (v := (0 : Int64)) dX8_wholeNumber_90 (by decide) ?_
          refine rn_lcmp dX8_wholeNumber_91 (rn_tn (-1) 1 (rg_lcmp _ _) (fun v45 rv45 => ?_))
          refine rn_if_lt (tgt := 104) dX8_wholeNumber_92 (by decide) (fun h46 => ?_) (fun h46 => ?_)
          · have ch46 := cv_lt h46
            have r47 : Rg (-1) (-1) v45 := rf_ltx ch46 rv45 rk_0 (by decide)
            refine rn_ldc2 (v := (-1 : Int64)) wd_960 dX8_wholeNumber_104 ?_
            refine rn_goto (tgt := 117) dX8_wholeNumber_107 (by decide) ?_
            exact rn_lret dX8_wholeNumber_117 rfl (rq_in ⟨rfl, (-1 : Int64), rfl⟩)
          · have ch46 := cv_nlt h46
            have r48 : Rg (0) (1) v45 := rf_ley ch46 rk_0 rv45 (by decide)
            refine rn_lload dX8_wholeNumber_95 rfl ?_
            refine rn_ldc2 (v := (2147483647 : Int64)) wd_959 dX8_wholeNumber_97 ?_
            refine rn_lcmp dX8_wholeNumber_100 (rn_tn (-1) 1 (rg_lcmp _ _) (fun v49 rv49 => ?_))
            refine rn_if_le (tgt := 110) dX8_wholeNumber_101 (by decide) (fun h50 => ?_) (fun h50 => ?_)
            · have ch50 := cv_le h50
              have r51 : Rg (-1) (0) v49 := rf_lex ch50 rv49 rk_0 (by decide)
              refine rn_lload dX8_wholeNumber_110 rfl ?_
              refine rn_bipush (v := (32 : Int32)) dX8_wholeNumber_112 (by decide) ?_
              refine rn_lshl dX8_wholeNumber_114 rfl (rn_nmL (fun l52 => ?_))
              refine rn_lload_n (i := 2) dX8_wholeNumber_115 rfl rfl ?_
              refine rn_lor dX8_wholeNumber_116 (rn_nmL (fun l53 => ?_))
              exact rn_lret dX8_wholeNumber_117 rfl (rq_in ⟨rfl, l53, rfl⟩)
            · have ch50 := cv_nle h50
              have r54 : Rg (1) (1) v49 := rf_lty ch50 rk_0 rv49 (by decide)
              refine rn_ldc2 (v := (-1 : Int64)) wd_960 dX8_wholeNumber_104 ?_
              refine rn_goto (tgt := 117) dX8_wholeNumber_107 (by decide) ?_
              exact rn_lret dX8_wholeNumber_117 rfl (rq_in ⟨rfl, (-1 : Int64), rfl⟩)
    · have ch12 := cv_nlt h12
      have r55 : Rg (0) (1) v11 := rf_ley ch12 rk_0 rv11 (by decide)
      refine rn_lload_n (i := 2) dX8_wholeNumber_46 rfl rfl ?_
      refine rn_lload dX8_wholeNumber_47 rfl ?_
      refine rn_lcmp dX8_wholeNumber_49 (rn_tn (-1) 1 (rg_lcmp _ _) (fun v56 rv56 => ?_))
      refine rn_if_ge (tgt := 62) dX8_wholeNumber_50 (by decide) (fun h57 => ?_) (fun h57 => ?_)
      · have ch57 := cv_le h57
        have r58 : Rg (0) (1) v56 := rf_ley ch57 rk_0 rv56 (by decide)
        refine rn_lload dX8_wholeNumber_62 rfl ?_
        refine rn_lconst (v := (0 : Int64)) dX8_wholeNumber_64 (by decide) ?_
        refine rn_lcmp dX8_wholeNumber_65 (rn_tn (-1) 1 (rg_lcmp _ _) (fun v59 rv59 => ?_))
        refine rn_if_ge (tgt := 88) dX8_wholeNumber_66 (by decide) (fun h60 => ?_) (fun h60 => ?_)
        · have ch60 := cv_le h60
          have r61 : Rg (0) (1) v59 := rf_ley ch60 rk_0 rv59 (by decide)
          refine rn_lload dX8_wholeNumber_88 rfl ?_
          refine rn_lconst (v := (0 : Int64)) dX8_wholeNumber_90 (by decide) ?_
          refine rn_lcmp dX8_wholeNumber_91 (rn_tn (-1) 1 (rg_lcmp _ _) (fun v62 rv62 => ?_))
          refine rn_if_lt (tgt := 104) dX8_wholeNumber_92 (by decide) (fun h63 => ?_) (fun h63 => ?_)
          · have ch63 := cv_lt h63
            have r64 : Rg (-1) (-1) v62 := rf_ltx ch63 rv62 rk_0 (by decide)
            refine rn_ldc2 (v := (-1 : Int64)) wd_960 dX8_wholeNumber_104 ?_
            refine rn_goto (tgt := 117) dX8_wholeNumber_107 (by decide) ?_
            exact rn_lret dX8_wholeNumber_117 rfl (rq_in ⟨rfl, (-1 : Int64), rfl⟩)
          · have ch63 := cv_nlt h63
            have r65 : Rg (0) (1) v62 := rf_ley ch63 rk_0 rv62 (by decide)
            refine rn_lload dX8_wholeNumber_95 rfl ?_
            refine rn_ldc2 (v := (2147483647 : Int64)) wd_959 dX8_wholeNumber_97 ?_
            refine rn_lcmp dX8_wholeNumber_100 (rn_tn (-1) 1 (rg_lcmp _ _) (fun v66 rv66 => ?_))
            refine rn_if_le (tgt := 110) dX8_wholeNumber_101 (by decide) (fun h67 => ?_) (fun h67 => ?_)
            · have ch67 := cv_le h67
              have r68 : Rg (-1) (0) v66 := rf_lex ch67 rv66 rk_0 (by decide)
              refine rn_lload dX8_wholeNumber_110 rfl ?_
              refine rn_bipush (v := (32 : Int32)) dX8_wholeNumber_112 (by decide) ?_
              refine rn_lshl dX8_wholeNumber_114 rfl (rn_nmL (fun l69 => ?_))
              refine rn_lload_n (i := 2) dX8_wholeNumber_115 rfl rfl ?_
              refine rn_lor dX8_wholeNumber_116 (rn_nmL (fun l70 => ?_))
              exact rn_lret dX8_wholeNumber_117 rfl (rq_in ⟨rfl, l70, rfl⟩)
            · have ch67 := cv_nle h67
              have r71 : Rg (1) (1) v66 := rf_lty ch67 rk_0 rv66 (by decide)
              refine rn_ldc2 (v := (-1 : Int64)) wd_960 dX8_wholeNumber_104 ?_
              refine rn_goto (tgt := 117) dX8_wholeNumber_107 (by decide) ?_
              exact rn_lret dX8_wholeNumber_117 rfl (rq_in ⟨rfl, (-1 : Int64), rfl⟩)
        · have ch60 := cv_nle h60
          have r72 : Rg (-1) (-1) v59 := rf_ltx ch60 rv59 rk_0 (by decide)
          refine rn_lload_n (i := 2) dX8_wholeNumber_69 rfl rfl ?_
          refine rn_lload dX8_wholeNumber_70 rfl ?_
          refine rn_ldc2 (v := (4294967295 : Int64)) wd_624 dX8_wholeNumber_72 ?_
          refine rn_ladd dX8_wholeNumber_75 (rn_nmL (fun l73 => ?_))
          refine rn_lconst (v := (1 : Int64)) dX8_wholeNumber_76 (by decide) ?_
          refine rn_ladd dX8_wholeNumber_77 (rn_nmL (fun l74 => ?_))
          refine rn_lcmp dX8_wholeNumber_78 (rn_tn (-1) 1 (rg_lcmp _ _) (fun v75 rv75 => ?_))
          refine rn_if_lt (tgt := 88) dX8_wholeNumber_79 (by decide) (fun h76 => ?_) (fun h76 => ?_)
          · have ch76 := cv_lt h76
            have r77 : Rg (-1) (-1) v75 := rf_ltx ch76 rv75 rk_0 (by decide)
            refine rn_lload dX8_wholeNumber_88 rfl ?_
            refine rn_lconst (v := (0 : Int64)) dX8_wholeNumber_90 (by decide) ?_
            refine rn_lcmp dX8_wholeNumber_91 (rn_tn (-1) 1 (rg_lcmp _ _) (fun v78 rv78 => ?_))
            refine rn_if_lt (tgt := 104) dX8_wholeNumber_92 (by decide) (fun h79 => ?_) (fun h79 => ?_)
            · have ch79 := cv_lt h79
              have r80 : Rg (-1) (-1) v78 := rf_ltx ch79 rv78 rk_0 (by decide)
              refine rn_ldc2 (v := (-1 : Int64)) wd_960 dX8_wholeNumber_104 ?_
              refine rn_goto (tgt := 117) dX8_wholeNumber_107 (by decide) ?_
              exact rn_lret dX8_wholeNumber_117 rfl (rq_in ⟨rfl, (-1 : Int64), rfl⟩)
            · have ch79 := cv_nlt h79
              have r81 : Rg (0) (1) v78 := rf_ley ch79 rk_0 rv78 (by decide)
              refine rn_lload dX8_wholeNumber_95 rfl ?_
              refine rn_ldc2 (v := (2147483647 : Int64)) wd_959 dX8_wholeNumber_97 ?_
              refine rn_lcmp dX8_wholeNumber_100 (rn_tn (-1) 1 (rg_lcmp _ _) (fun v82 rv82 => ?_))
              refine rn_if_le (tgt := 110) dX8_wholeNumber_101 (by decide) (fun h83 => ?_) (fun h83 => ?_)
              · have ch83 := cv_le h83
                have r84 : Rg (-1) (0) v82 := rf_lex ch83 rv82 rk_0 (by decide)
                refine rn_lload dX8_wholeNumber_110 rfl ?_
                refine rn_bipush (v := (32 : Int32)) dX8_wholeNumber_112 (by decide) ?_
                refine rn_lshl dX8_wholeNumber_114 rfl (rn_nmL (fun l85 => ?_))
                refine rn_lload_n (i := 2) dX8_wholeNumber_115 rfl rfl ?_
                refine rn_lor dX8_wholeNumber_116 (rn_nmL (fun l86 => ?_))
                exact rn_lret dX8_wholeNumber_117 rfl (rq_in ⟨rfl, l86, rfl⟩)
              · have ch83 := cv_nle h83
                have r87 : Rg (1) (1) v82 := rf_lty ch83 rk_0 rv82 (by decide)
                refine rn_ldc2 (v := (-1 : Int64)) wd_960 dX8_wholeNumber_104 ?_
                refine rn_goto (tgt := 117) dX8_wholeNumber_107 (by decide) ?_
                exact rn_lret dX8_wholeNumber_117 rfl (rq_in ⟨rfl, (-1 : Int64), rfl⟩)
          · have ch76 := cv_nlt h76
            have r88 : Rg (0) (1) v75 := rf_ley ch76 rk_0 rv75 (by decide)
            refine rn_lload dX8_wholeNumber_82 rfl ?_
            refine rn_lconst (v := (1 : Int64)) dX8_wholeNumber_84 (by decide) ?_
            refine rn_lsub dX8_wholeNumber_85 (rn_nmL (fun l89 => ?_))
            refine rn_lstore dX8_wholeNumber_86 (by decide) [(0, .ref o0_), (1, .int x1_), (2, .long l2), (4, .long l89), (6, .long l10)] rfl ?_
            refine rn_lload dX8_wholeNumber_88 rfl ?_
            refine rn_lconst (v := (0 : Int64)) dX8_wholeNumber_90 (by decide) ?_
            refine rn_lcmp dX8_wholeNumber_91 (rn_tn (-1) 1 (rg_lcmp _ _) (fun v90 rv90 => ?_))
            refine rn_if_lt (tgt := 104) dX8_wholeNumber_92 (by decide) (fun h91 => ?_) (fun h91 => ?_)
            · have ch91 := cv_lt h91
              have r92 : Rg (-1) (-1) v90 := rf_ltx ch91 rv90 rk_0 (by decide)
              refine rn_ldc2 (v := (-1 : Int64)) wd_960 dX8_wholeNumber_104 ?_
              refine rn_goto (tgt := 117) dX8_wholeNumber_107 (by decide) ?_
              exact rn_lret dX8_wholeNumber_117 rfl (rq_in ⟨rfl, (-1 : Int64), rfl⟩)
            · have ch91 := cv_nlt h91
              have r93 : Rg (0) (1) v90 := rf_ley ch91 rk_0 rv90 (by decide)
              refine rn_lload dX8_wholeNumber_95 rfl ?_
              refine rn_ldc2 (v := (2147483647 : Int64)) wd_959 dX8_wholeNumber_97 ?_
              refine rn_lcmp dX8_wholeNumber_100 (rn_tn (-1) 1 (rg_lcmp _ _) (fun v94 rv94 => ?_))
              refine rn_if_le (tgt := 110) dX8_wholeNumber_101 (by decide) (fun h95 => ?_) (fun h95 => ?_)
              · have ch95 := cv_le h95
                have r96 : Rg (-1) (0) v94 := rf_lex ch95 rv94 rk_0 (by decide)
                refine rn_lload dX8_wholeNumber_110 rfl ?_
                refine rn_bipush (v := (32 : Int32)) dX8_wholeNumber_112 (by decide) ?_
                refine rn_lshl dX8_wholeNumber_114 rfl (rn_nmL (fun l97 => ?_))
                refine rn_lload_n (i := 2) dX8_wholeNumber_115 rfl rfl ?_
                refine rn_lor dX8_wholeNumber_116 (rn_nmL (fun l98 => ?_))
                exact rn_lret dX8_wholeNumber_117 rfl (rq_in ⟨rfl, l98, rfl⟩)
              · have ch95 := cv_nle h95
                have r99 : Rg (1) (1) v94 := rf_lty ch95 rk_0 rv94 (by decide)
                refine rn_ldc2 (v := (-1 : Int64)) wd_960 dX8_wholeNumber_104 ?_
                refine rn_goto (tgt := 117) dX8_wholeNumber_107 (by decide) ?_
                exact rn_lret dX8_wholeNumber_117 rfl (rq_in ⟨rfl, (-1 : Int64), rfl⟩)
      · have ch57 := cv_nle h57
        have r100 : Rg (-1) (-1) v56 := rf_ltx ch57 rv56 rk_0 (by decide)
        refine rn_lload dX8_wholeNumber_53 rfl ?_
        refine rn_lconst (v := (1 : Int64)) dX8_wholeNumber_55 (by decide) ?_
        refine rn_ladd dX8_wholeNumber_56 (rn_nmL (fun l101 => ?_))
        refine rn_lstore dX8_wholeNumber_57 (by decide) [(0, .ref o0_), (1, .int x1_), (2, .long l2), (4, .long l101), (6, .long l10)] rfl ?_
        refine rn_goto (tgt := 88) dX8_wholeNumber_59 (by decide) ?_
        refine rn_lload dX8_wholeNumber_88 rfl ?_
        refine rn_lconst (v := (0 : Int64)) dX8_wholeNumber_90 (by decide) ?_
        refine rn_lcmp dX8_wholeNumber_91 (rn_tn (-1) 1 (rg_lcmp _ _) (fun v102 rv102 => ?_))
        refine rn_if_lt (tgt := 104) dX8_wholeNumber_92 (by decide) (fun h103 => ?_) (fun h103 => ?_)
        · have ch103 := cv_lt h103
          have r104 : Rg (-1) (-1) v102 := rf_ltx ch103 rv102 rk_0 (by decide)
          refine rn_ldc2 (v := (-1 : Int64)) wd_960 dX8_wholeNumber_104 ?_
          refine rn_goto (tgt := 117) dX8_wholeNumber_107 (by decide) ?_
          exact rn_lret dX8_wholeNumber_117 rfl (rq_in ⟨rfl, (-1 : Int64), rfl⟩)
        · have ch103 := cv_nlt h103
          have r105 : Rg (0) (1) v102 := rf_ley ch103 rk_0 rv102 (by decide)
          refine rn_lload dX8_wholeNumber_95 rfl ?_
          refine rn_ldc2 (v := (2147483647 : Int64)) wd_959 dX8_wholeNumber_97 ?_
          refine rn_lcmp dX8_wholeNumber_100 (rn_tn (-1) 1 (rg_lcmp _ _) (fun v106 rv106 => ?_))
          refine rn_if_le (tgt := 110) dX8_wholeNumber_101 (by decide) (fun h107 => ?_) (fun h107 => ?_)
          · have ch107 := cv_le h107
            have r108 : Rg (-1) (0) v106 := rf_lex ch107 rv106 rk_0 (by decide)
            refine rn_lload dX8_wholeNumber_110 rfl ?_
            refine rn_bipush (v := (32 : Int32)) dX8_wholeNumber_112 (by decide) ?_
            refine rn_lshl dX8_wholeNumber_114 rfl (rn_nmL (fun l109 => ?_))
            refine rn_lload_n (i := 2) dX8_wholeNumber_115 rfl rfl ?_
            refine rn_lor dX8_wholeNumber_116 (rn_nmL (fun l110 => ?_))
            exact rn_lret dX8_wholeNumber_117 rfl (rq_in ⟨rfl, l110, rfl⟩)
          · have ch107 := cv_nle h107
            have r111 : Rg (1) (1) v106 := rf_lty ch107 rk_0 rv106 (by decide)
            refine rn_ldc2 (v := (-1 : Int64)) wd_960 dX8_wholeNumber_104 ?_
            refine rn_goto (tgt := 117) dX8_wholeNumber_107 (by decide) ?_
            exact rn_lret dX8_wholeNumber_117 rfl (rq_in ⟨rfl, (-1 : Int64), rfl⟩)
  · have ch5 := cv_eq h5
    have r112 : Rg (0) (0) x4 := rf_eqx ch5 rx4 rk_0 (by decide) (by decide)
    refine rn_lload_n (i := 2) dX8_wholeNumber_14 rfl rfl ?_
    exact rn_lret dX8_wholeNumber_15 rfl (rq_in ⟨rfl, l2, rfl⟩)
abbrev q_t_X8_isOld (G : rn_G) (S : ts_S) (ws : va_W) : rn_R → va_W → Prop := rQ (fun v w => ws = w ∧ (∃ x : Int32, v = some (.int x) ∧ Rg (0) (1) x)) (fun E w => False)
set_option maxRecDepth 20000 in
set_option maxHeartbeats 4000000 in
theorem t_X8_isOld (G : rn_G) (S : ts_S) (ws : va_W) (hW : ts_W G S ws) (o0_ : Nat) (m0_ : (o0_, 8) ∈ S) (y1_ : Int64) : Rn G mX8_isOld 0 0 0 0 0 (lv_args 0 [.ref o0_, .long y1_]) [] ws (q_t_X8_isOld G S ws ) := by
  refine rn_lv [(0, .ref o0_), (1, .long y1_)] rfl ?_
  refine rn_lload_n (i := 1) dX8_isOld_0 rfl rfl ?_
  refine rn_lconst (v := (0 : Int64)) dX8_isOld_1 (by decide) ?_
  refine rn_lcmp dX8_isOld_2 (rn_tn (-1) 1 (rg_lcmp _ _) (fun v1 rv1 => ?_))
  refine rn_if_le (tgt := 19) dX8_isOld_3 (by decide) (fun h2 => ?_) (fun h2 => ?_)
  · have ch2 := cv_le h2
    have r3 : Rg (-1) (0) v1 := rf_lex ch2 rv1 rk_0 (by decide)
    refine rn_iconst (v := (1 : Int32)) dX8_isOld_19 (by decide) ?_
    refine rn_goto (tgt := 24) dX8_isOld_20 (by decide) ?_
    exact rn_iret dX8_isOld_24 rfl rfl (rq_in ⟨rfl, (1 : Int32), rfl, (rg_w rk_1 (by decide) (by decide))⟩)
  · have ch2 := cv_nle h2
    have r4 : Rg (1) (1) v1 := rf_lty ch2 rk_0 rv1 (by decide)
    refine rn_lload_n (i := 1) dX8_isOld_6 rfl rfl ?_
    refine rn_aload_n (i := 0) dX8_isOld_7 rfl rfl ?_
    obtain ⟨q5, fs5, hq5, hl5, hf5⟩ := ts_obj hW m0_ hk_8
    obtain ⟨y6, hx6⟩ := fs_l hf5 8 rfl
    refine rn_get q5 kg_SG_Seal_35 hl5 hx6 dX8_isOld_8 ?_
    refine rn_ldc2 (v := (63 : Int64)) wd_958 dX8_isOld_11 ?_
    refine rn_lsub dX8_isOld_14 (rn_nmL (fun l7 => ?_))
    refine rn_lcmp dX8_isOld_15 (rn_tn (-1) 1 (rg_lcmp _ _) (fun v8 rv8 => ?_))
    refine rn_if_ge (tgt := 23) dX8_isOld_16 (by decide) (fun h9 => ?_) (fun h9 => ?_)
    · have ch9 := cv_le h9
      have r10 : Rg (0) (1) v8 := rf_ley ch9 rk_0 rv8 (by decide)
      refine rn_iconst (v := (0 : Int32)) dX8_isOld_23 (by decide) ?_
      exact rn_iret dX8_isOld_24 rfl rfl (rq_in ⟨rfl, (0 : Int32), rfl, (rg_w rk_0 (by decide) (by decide))⟩)
    · have ch9 := cv_nle h9
      have r11 : Rg (-1) (-1) v8 := rf_ltx ch9 rv8 rk_0 (by decide)
      refine rn_iconst (v := (1 : Int32)) dX8_isOld_19 (by decide) ?_
      refine rn_goto (tgt := 24) dX8_isOld_20 (by decide) ?_
      exact rn_iret dX8_isOld_24 rfl rfl (rq_in ⟨rfl, (1 : Int32), rfl, (rg_w rk_1 (by decide) (by decide))⟩)
abbrev q_t_X8_wasSeen (G : rn_G) (S : ts_S) (ws : va_W) : rn_R → va_W → Prop := rQ (fun v w => ws = w ∧ (∃ x : Int32, v = some (.int x) ∧ Rg (0) (1) x)) (fun E w => False)
set_option maxRecDepth 20000 in
set_option maxHeartbeats 4000000 in
theorem t_X8_wasSeen (G : rn_G) (S : ts_S) (ws : va_W) (hW : ts_W G S ws) (o0_ : Nat) (m0_ : (o0_, 8) ∈ S) (y1_ : Int64) : Rn G mX8_wasSeen 0 0 0 0 0 (lv_args 0 [.ref o0_, .long y1_]) [] ws (q_t_X8_wasSeen G S ws ) := by
  refine rn_lv [(0, .ref o0_), (1, .long y1_)] rfl ?_
  refine rn_aload_n (i := 0) dX8_wasSeen_0 rfl rfl ?_
  obtain ⟨q1, fs1, hq1, hl1, hf1⟩ := ts_obj hW m0_ hk_8
  obtain ⟨y2, hx2⟩ := fs_l hf1 8 rfl
  refine rn_get q1 kg_SG_Seal_35 hl1 hx2 dX8_wasSeen_1 ?_
  refine rn_lload_n (i := 1) dX8_wasSeen_4 rfl rfl ?_
  refine rn_lsub dX8_wasSeen_5 (rn_nmL (fun l3 => ?_))
  refine rn_lstore_n dX8_wasSeen_6 rfl (by decide) [(0, .ref o0_), (1, .long y1_), (3, .long l3)] rfl ?_
  refine rn_lload_n (i := 3) dX8_wasSeen_7 rfl rfl ?_
  refine rn_lconst (v := (0 : Int64)) dX8_wasSeen_8 (by decide) ?_
  refine rn_lcmp dX8_wasSeen_9 (rn_tn (-1) 1 (rg_lcmp _ _) (fun v4 rv4 => ?_))
  refine rn_if_lt (tgt := 39) dX8_wasSeen_10 (by decide) (fun h5 => ?_) (fun h5 => ?_)
  · have ch5 := cv_lt h5
    have r6 : Rg (-1) (-1) v4 := rf_ltx ch5 rv4 rk_0 (by decide)
    refine rn_iconst (v := (0 : Int32)) dX8_wasSeen_39 (by decide) ?_
    exact rn_iret dX8_wasSeen_40 rfl rfl (rq_in ⟨rfl, (0 : Int32), rfl, (rg_w rk_0 (by decide) (by decide))⟩)
  · have ch5 := cv_nlt h5
    have r7 : Rg (0) (1) v4 := rf_ley ch5 rk_0 rv4 (by decide)
    refine rn_lload_n (i := 3) dX8_wasSeen_13 rfl rfl ?_
    refine rn_ldc2 (v := (64 : Int64)) wd_969 dX8_wasSeen_14 ?_
    refine rn_lcmp dX8_wasSeen_17 (rn_tn (-1) 1 (rg_lcmp _ _) (fun v8 rv8 => ?_))
    refine rn_if_ge (tgt := 39) dX8_wasSeen_18 (by decide) (fun h9 => ?_) (fun h9 => ?_)
    · have ch9 := cv_le h9
      have r10 : Rg (0) (1) v8 := rf_ley ch9 rk_0 rv8 (by decide)
      refine rn_iconst (v := (0 : Int32)) dX8_wasSeen_39 (by decide) ?_
      exact rn_iret dX8_wasSeen_40 rfl rfl (rq_in ⟨rfl, (0 : Int32), rfl, (rg_w rk_0 (by decide) (by decide))⟩)
    · have ch9 := cv_nle h9
      have r11 : Rg (-1) (-1) v8 := rf_ltx ch9 rv8 rk_0 (by decide)
      refine rn_aload_n (i := 0) dX8_wasSeen_21 rfl rfl ?_
      obtain ⟨y12, hx12⟩ := fs_l hf1 9 rfl
      refine rn_get q1 kg_SG_Seal_38 hl1 hx12 dX8_wasSeen_22 ?_
      refine rn_lload_n (i := 3) dX8_wasSeen_25 rfl rfl ?_
      refine rn_l2i dX8_wasSeen_26 rfl (rn_nmA (fun v13 rv13 => ?_))
      refine rn_lushr dX8_wasSeen_27 rfl (rn_nmL (fun l14 => ?_))
      refine rn_lconst (v := (1 : Int64)) dX8_wasSeen_28 (by decide) ?_
      refine rn_land dX8_wasSeen_29 (rn_nmL (fun l15 => ?_))
      refine rn_lconst (v := (0 : Int64)) dX8_wasSeen_30 (by decide) ?_
      refine rn_lcmp dX8_wasSeen_31 (rn_tn (-1) 1 (rg_lcmp _ _) (fun v16 rv16 => ?_))
      refine rn_if_eq (tgt := 39) dX8_wasSeen_32 (by decide) (fun h17 => ?_) (fun h17 => ?_)
      · have ch17 := cv_eq h17
        have r18 : Rg (0) (0) v16 := rf_eqx ch17 rv16 rk_0 (by decide) (by decide)
        refine rn_iconst (v := (0 : Int32)) dX8_wasSeen_39 (by decide) ?_
        exact rn_iret dX8_wasSeen_40 rfl rfl (rq_in ⟨rfl, (0 : Int32), rfl, (rg_w rk_0 (by decide) (by decide))⟩)
      · have ch17 := cv_ne h17
        refine rn_iconst (v := (1 : Int32)) dX8_wasSeen_35 (by decide) ?_
        refine rn_goto (tgt := 40) dX8_wasSeen_36 (by decide) ?_
        exact rn_iret dX8_wasSeen_40 rfl rfl (rq_in ⟨rfl, (1 : Int32), rfl, (rg_w rk_1 (by decide) (by decide))⟩)
abbrev q_t_X8_fitsStamp (G : rn_G) (S : ts_S) (ws : va_W) : rn_R → va_W → Prop := rQ (fun v w => ws = w ∧ (∃ x : Int32, v = some (.int x) ∧ Rg (0) (1) x)) (fun E w => False)
set_option maxRecDepth 20000 in
set_option maxHeartbeats 4000000 in
theorem t_X8_fitsStamp (G : rn_G) (S : ts_S) (ws : va_W) (hW : ts_W G S ws) (o0_ : Nat) (m0_ : (o0_, 8) ∈ S) (o1_ : Nat) (m1_ : (o1_, 4) ∈ S) (y2_ : Int64) : Rn G mX8_fitsStamp 2 49 0 0 0 (lv_args 0 [.ref o0_, .ref o1_, .long y2_]) [] ws (q_t_X8_fitsStamp G S ws ) := by
  refine rn_lv [(0, .ref o0_), (1, .ref o1_), (2, .long y2_)] rfl ?_
  refine rn_aload_n (i := 1) dX8_fitsStamp_0 rfl rfl ?_
  obtain ⟨q1, fs1, hq1, hl1, hf1⟩ := ts_obj hW m1_ hk_4
  refine rn_callV (a := 0) (b := 0) [] kl_SG_Seal_56 dX8_fitsStamp_1 q1 hl1 rfl (t_X4_size G S ws hW o1_ m1_) rfl rfl (Nat.le_of_ble_eq_true rfl) (Nat.le_of_ble_eq_true rfl) (Nat.le_of_ble_eq_true rfl) (Nat.le_of_ble_eq_true rfl) (Nat.le_of_ble_eq_true rfl) (Nat.le_of_ble_eq_true rfl) (fun _ _ h => False.elim h) (fun v9 w2 h3 => ?_)
  obtain ⟨rfl, v4, rfl, rv4⟩ := h3
  refine rn_stk [.int v4] rfl ?_
  refine rn_bipush (v := (8 : Int32)) dX8_fitsStamp_4 (by decide) ?_
  refine rs_subC (-8) (2032) rv4 rk_8 dX8_fitsStamp_6 (by decide) (fun v6 ev6 rv6 => ?_)
  refine rn_istore dX8_fitsStamp_7 (by decide) [(0, .ref o0_), (1, .ref o1_), (2, .long y2_), (4, .int v6)] rfl ?_
  refine rn_aload_n (i := 0) dX8_fitsStamp_9 rfl rfl ?_
  refine rn_aload_n (i := 1) dX8_fitsStamp_10 rfl rfl ?_
  refine rn_iload dX8_fitsStamp_11 rfl ?_
  refine rn_lload_n (i := 2) dX8_fitsStamp_13 rfl rfl ?_
  obtain ⟨q7, fs7, hq7, hl7, hf7⟩ := ts_obj hW m0_ hk_8
  refine rn_callV (a := 0) (b := 0) [.ref o1_, .int v6, .long y2_] kl_SG_Seal_81 dX8_fitsStamp_14 q7 hl7 rfl (t_X8_stamp G S ws hW o0_ m0_ o1_ m1_ v6 y2_) rfl rfl (Nat.le_of_ble_eq_true rfl) (Nat.le_of_ble_eq_true rfl) (Nat.le_of_ble_eq_true rfl) (Nat.le_of_ble_eq_true rfl) (Nat.le_of_ble_eq_true rfl) (Nat.le_of_ble_eq_true rfl) (fun _ _ h => False.elim h) (fun v9 w8 h9 => ?_)
  obtain ⟨rfl, l10, rfl⟩ := h9
  refine rn_stk [.long l10] rfl ?_
  refine rn_aload_n (i := 1) dX8_fitsStamp_17 rfl rfl ?_
  refine rn_iload dX8_fitsStamp_18 rfl ?_
  refine rn_callV (a := 0) (b := 0) [.int v6] kl_SG_Seal_116 dX8_fitsStamp_20 q1 hl1 rfl (t_X4_longAt G S ws hW o1_ m1_ v6) rfl rfl (Nat.le_of_ble_eq_true rfl) (Nat.le_of_ble_eq_true rfl) (Nat.le_of_ble_eq_true rfl) (Nat.le_of_ble_eq_true rfl) (Nat.le_of_ble_eq_true rfl) (Nat.le_of_ble_eq_true rfl) (fun _ _ h => False.elim h) (fun v9 w12 h13 => ?_)
  obtain ⟨rfl, l14, rfl⟩ := h13
  refine rn_stk [.long l14, .long l10] rfl ?_
  refine rn_lcmp dX8_fitsStamp_23 (rn_tn (-1) 1 (rg_lcmp _ _) (fun v16 rv16 => ?_))
  refine rn_if_ne (tgt := 31) dX8_fitsStamp_24 (by decide) (fun h17 => ?_) (fun h17 => ?_)
  · have ch17 := cv_ne h17
    refine rn_iconst (v := (0 : Int32)) dX8_fitsStamp_31 (by decide) ?_
    exact rn_iret dX8_fitsStamp_32 rfl rfl (rq_in ⟨rfl, (0 : Int32), rfl, (rg_w rk_0 (by decide) (by decide))⟩)
  · have ch17 := cv_eq h17
    have r18 : Rg (0) (0) v16 := rf_eqx ch17 rv16 rk_0 (by decide) (by decide)
    refine rn_iconst (v := (1 : Int32)) dX8_fitsStamp_27 (by decide) ?_
    refine rn_goto (tgt := 32) dX8_fitsStamp_28 (by decide) ?_
    exact rn_iret dX8_fitsStamp_32 rfl rfl (rq_in ⟨rfl, (1 : Int32), rfl, (rg_w rk_1 (by decide) (by decide))⟩)
