abbrev q_t_X10_comeOuter_2200 (G : rn_G) (S : ts_S) (ws : va_W) : rn_R → va_W → Prop := rQ (fun v w => St G S [30, 33, 60, 62, 63, 65, 67, 68, 69, 70, 71, 72, 73, 77, 78, 79, 80, 81] ws S w ∧ (∃ x : Int32, v = some (.int x) ∧ Rg (0) (17) x)) (fun E w => False)
set_option maxRecDepth 20000 in
set_option maxHeartbeats 4000000 in
theorem t_X10_comeOuter_2200 (G : rn_G) (S : ts_S) (ws : va_W) (hW : ts_W G S ws) (o0_ : Nat) (m0_ : (o0_, 30) ∈ S) (hw2202_ : 20 ≤ tw (byt ws) 2202 ∧ tw (byt ws) 2202 ≤ 2000) : Rn G mX10_comeOuter 7 166 0 0 0 (lv_args 0 [.ref o0_, .int (2200 : Int32)]) [] ws (q_t_X10_comeOuter_2200 G S ws ) := by
  have hS0 : St G S [30, 33, 60, 62, 63, 65, 67, 68, 69, 70, 71, 72, 73, 77, 78, 79, 80, 81] ws S ws := St.rf hW
  obtain ⟨ob1, hob1⟩ := hS0.1.2.1.2
  obtain ⟨T2, ht2⟩ : ∃ t : Int, tw (byt ws) 2202 = t := ⟨_, rfl⟩
  rw [ht2] at hw2202_
  refine rn_lv [(0, .ref o0_), (1, .int (2200 : Int32))] rfl ?_
  refine rn_aload_n (i := 0) dX10_comeOuter_0 rfl rfl ?_
  obtain ⟨q3, fs3, hq3, hl3, hf3⟩ := ts_obj hS0.1 m0_ hk_30
  obtain ⟨o4, hx4, m4⟩ := fs_r hf3 2 rfl
  refine rn_get q3 kg_SGModel_7 hl3 hx4 dX10_comeOuter_1 ?_
  refine rn_iload_n (i := 1) dX10_comeOuter_4 rfl rfl ?_
  refine rn_bipush (v := (9 : Int32)) dX10_comeOuter_5 (by decide) ?_
  refine rn_iadd dX10_comeOuter_7 (rn_topi (2209 : Int32) (by decide) ?_)
  obtain ⟨q6, f6, hq6, hl6, hf6⟩ := ts_ia hS0.1 m4 hk_33
  refine rs_iald q6 hl6 hf6 rfl rk_2209 (by decide) (by decide) dX10_comeOuter_8 (fun v7 ev7 rv7 => ?_)
  have hbv7 : byt ws 2209 = v7 := by rw [byt_of hS0.1 hq6 hl6, ev7]; exact congrArg _ (by decide)
  refine rn_bipush (v := (50 : Int32)) dX10_comeOuter_9 (by decide) ?_
  refine rn_icmp_ne (tgt := 61) dX10_comeOuter_11 (by decide) (fun h8 => ?_) (fun h8 => ?_)
  · have ch8 := cv_ne h8
    refine rn_aload_n (i := 0) dX10_comeOuter_61 rfl rfl ?_
    refine rn_iconst (v := (1 : Int32)) dX10_comeOuter_62 (by decide) ?_
    refine rn_iload_n (i := 1) dX10_comeOuter_63 rfl rfl ?_
    refine rn_callV (a := 0) (b := 0) [.int (1 : Int32), .int (2200 : Int32)] kl_SGModel_228 dX10_comeOuter_64 q3 hl3 rfl (t_X10_policyOf G S ws hS0.1 o0_ m0_ (1 : Int32) (2200 : Int32) (rg_w rk_2200 (by decide) (by decide))) rfl rfl (Nat.le_of_ble_eq_true rfl) (Nat.le_of_ble_eq_true rfl) (Nat.le_of_ble_eq_true rfl) (Nat.le_of_ble_eq_true rfl) (Nat.le_of_ble_eq_true rfl) (Nat.le_of_ble_eq_true rfl) (fun _ _ h => False.elim h) (fun v9 w9 h10 => ?_)
    obtain ⟨rfl, v11, rfl, rv11⟩ := h10
    refine rn_stk [.int v11] rfl ?_
    refine rn_istore_n dX10_comeOuter_67 rfl (by decide) [(0, .ref o0_), (1, .int (2200 : Int32)), (2, .int v11)] rfl ?_
    refine rn_iload_n (i := 2) dX10_comeOuter_68 rfl rfl ?_
    refine rn_if_lt (tgt := 82) dX10_comeOuter_69 (by decide) (fun h13 => ?_) (fun h13 => ?_)
    · have ch13 := cv_lt h13
      have r14 : Rg (-1) (-1) v11 := rf_ltx ch13 rv11 rk_0 (by decide)
      refine rn_aload_n (i := 0) dX10_comeOuter_82 rfl rfl ?_
      refine rn_bipush (v := (16 : Int32)) dX10_comeOuter_83 (by decide) ?_
      refine rn_iload_n (i := 1) dX10_comeOuter_85 rfl rfl ?_
      refine rn_iconst (v := (0 : Int32)) dX10_comeOuter_86 (by decide) ?_
      refine rn_iconst (v := (0 : Int32)) dX10_comeOuter_87 (by decide) ?_
      refine rn_callV (a := 0) (b := 0) [.int (16 : Int32), .int (2200 : Int32), .int (0 : Int32), .int (0 : Int32)] kl_SGModel_323 dX10_comeOuter_88 q3 hl3 rfl (t_X10_note G S ws hS0.1 o0_ m0_ (16 : Int32) (rg_w rk_16 (by decide) (by decide)) (2200 : Int32) (rg_w rk_2200 (by decide) (by decide)) (0 : Int32) (0 : Int32)) rfl rfl (Nat.le_of_ble_eq_true rfl) (Nat.le_of_ble_eq_true rfl) (Nat.le_of_ble_eq_true rfl) (Nat.le_of_ble_eq_true rfl) (Nat.le_of_ble_eq_true rfl) (Nat.le_of_ble_eq_true rfl) (fun _ _ h => False.elim h) (fun v9 w15 h16 => ?_)
      obtain ⟨hT18, v17, rfl, rv17⟩ := h16
      have hS18 := St.tr hS0 hT18 rfl
      have ht19 := tw_eq (byt_fr hS0.1 hT18 rfl) ht2
      have hb20 := (congrFun (byt_fr hS0.1 hT18 rfl) 2209).trans hbv7
      refine rn_stk [.int v17] rfl ?_
      exact rn_iret dX10_comeOuter_91 rfl rfl (rq_in ⟨hS18, v17, rfl, rv17⟩)
    · have ch13 := cv_nlt h13
      have r21 : Rg (0) (23) v11 := rf_ley ch13 rk_0 rv11 (by decide)
      refine rn_aload_n (i := 0) dX10_comeOuter_72 rfl rfl ?_
      obtain ⟨o22, hx22, m22⟩ := fs_r hf3 18 rfl
      refine rn_get q3 kg_SGModel_49 hl3 hx22 dX10_comeOuter_73 ?_
      refine rn_iload_n (i := 2) dX10_comeOuter_76 rfl rfl ?_
      obtain ⟨q23, f23, hq23, hl23, hf23⟩ := ts_ia hS0.1 m22 hk_49
      refine rs_iald q23 hl23 hf23 rfl r21 (by decide) (by decide) dX10_comeOuter_77 (fun v24 ev24 rv24 => ?_)
      refine rn_iconst (v := (-1 : Int32)) dX10_comeOuter_78 (by decide) ?_
      refine rn_icmp_eq (tgt := 92) dX10_comeOuter_79 (by decide) (fun h25 => ?_) (fun h25 => ?_)
      · have ch25 := cv_eq h25
        have r26 : Rg (-1) (-1) v24 := rf_eqx ch25 rv24 rk_m1 (by decide) (by decide)
        refine rn_aload_n (i := 0) dX10_comeOuter_92 rfl rfl ?_
        refine rn_iload_n (i := 1) dX10_comeOuter_93 rfl rfl ?_
        refine rn_callV (a := 0) (b := 0) [.int (2200 : Int32)] kl_SGModel_344 dX10_comeOuter_94 q3 hl3 rfl (t_X10_goIn_2200 G S ws hS0.1 o0_ m0_ (by rw [ht2]; exact ⟨by omega, by omega⟩)) rfl rfl (Nat.le_of_ble_eq_true rfl) (Nat.le_of_ble_eq_true rfl) (Nat.le_of_ble_eq_true rfl) (Nat.le_of_ble_eq_true rfl) (Nat.le_of_ble_eq_true rfl) (Nat.le_of_ble_eq_true rfl) (fun _ _ h => False.elim h) (fun v9 w27 h28 => ?_)
        obtain ⟨hT30, v29, rfl, rv29⟩ := h28
        have hS30 := St.tr hS0 hT30 rfl
        refine rn_stk [.int v29] rfl ?_
        exact rn_iret dX10_comeOuter_97 rfl rfl (rq_in ⟨hS30, v29, rfl, (rg_w rv29 (by decide) (by decide))⟩)
      · have ch25 := cv_ne h25
        refine rn_aload_n (i := 0) dX10_comeOuter_82 rfl rfl ?_
        refine rn_bipush (v := (16 : Int32)) dX10_comeOuter_83 (by decide) ?_
        refine rn_iload_n (i := 1) dX10_comeOuter_85 rfl rfl ?_
        refine rn_iconst (v := (0 : Int32)) dX10_comeOuter_86 (by decide) ?_
        refine rn_iconst (v := (0 : Int32)) dX10_comeOuter_87 (by decide) ?_
        refine rn_callV (a := 0) (b := 0) [.int (16 : Int32), .int (2200 : Int32), .int (0 : Int32), .int (0 : Int32)] kl_SGModel_323 dX10_comeOuter_88 q3 hl3 rfl (t_X10_note G S ws hS0.1 o0_ m0_ (16 : Int32) (rg_w rk_16 (by decide) (by decide)) (2200 : Int32) (rg_w rk_2200 (by decide) (by decide)) (0 : Int32) (0 : Int32)) rfl rfl (Nat.le_of_ble_eq_true rfl) (Nat.le_of_ble_eq_true rfl) (Nat.le_of_ble_eq_true rfl) (Nat.le_of_ble_eq_true rfl) (Nat.le_of_ble_eq_true rfl) (Nat.le_of_ble_eq_true rfl) (fun _ _ h => False.elim h) (fun v9 w31 h32 => ?_)
        obtain ⟨hT34, v33, rfl, rv33⟩ := h32
        have hS34 := St.tr hS0 hT34 rfl
        have ht35 := tw_eq (byt_fr hS0.1 hT34 rfl) ht2
        have hb36 := (congrFun (byt_fr hS0.1 hT34 rfl) 2209).trans hbv7
        refine rn_stk [.int v33] rfl ?_
        exact rn_iret dX10_comeOuter_91 rfl rfl (rq_in ⟨hS34, v33, rfl, rv33⟩)
  · have ch8 := cv_eq h8
    have r37 : Rg (50) (50) v7 := rf_eqx ch8 rv7 rk_50 (by decide) (by decide)
    refine rn_aload_n (i := 0) dX10_comeOuter_14 rfl rfl ?_
    refine rn_iload_n (i := 1) dX10_comeOuter_15 rfl rfl ?_
    refine rn_bipush (v := (16 : Int32)) dX10_comeOuter_16 (by decide) ?_
    refine rn_iadd dX10_comeOuter_18 (rn_topi (2216 : Int32) (by decide) ?_)
    refine rn_callV (a := 0) (b := 0) [.int (2216 : Int32)] kl_SGModel_218 dX10_comeOuter_19 q3 hl3 rfl (t_X10_four G S ws hS0.1 o0_ m0_ (2216 : Int32) (rg_w rk_2216 (by decide) (by decide))) rfl rfl (Nat.le_of_ble_eq_true rfl) (Nat.le_of_ble_eq_true rfl) (Nat.le_of_ble_eq_true rfl) (Nat.le_of_ble_eq_true rfl) (Nat.le_of_ble_eq_true rfl) (Nat.le_of_ble_eq_true rfl) (fun _ _ h => False.elim h) (fun v9 w39 h40 => ?_)
    obtain ⟨rfl, v41, rfl, rv41⟩ := h40
    refine rn_stk [.int v41] rfl ?_
    refine rn_aload_n (i := 0) dX10_comeOuter_22 rfl rfl ?_
    obtain ⟨x43, hx43, rx43⟩ := fs_i hf3 1 rfl
    refine rn_get q3 kg_SGModel_134 hl3 hx43 dX10_comeOuter_23 ?_
    refine rn_icmp_ne (tgt := 61) dX10_comeOuter_26 (by decide) (fun h44 => ?_) (fun h44 => ?_)
    · have ch44 := cv_ne h44
      refine rn_aload_n (i := 0) dX10_comeOuter_61 rfl rfl ?_
      refine rn_iconst (v := (1 : Int32)) dX10_comeOuter_62 (by decide) ?_
      refine rn_iload_n (i := 1) dX10_comeOuter_63 rfl rfl ?_
      refine rn_callV (a := 0) (b := 0) [.int (1 : Int32), .int (2200 : Int32)] kl_SGModel_228 dX10_comeOuter_64 q3 hl3 rfl (t_X10_policyOf G S ws hS0.1 o0_ m0_ (1 : Int32) (2200 : Int32) (rg_w rk_2200 (by decide) (by decide))) rfl rfl (Nat.le_of_ble_eq_true rfl) (Nat.le_of_ble_eq_true rfl) (Nat.le_of_ble_eq_true rfl) (Nat.le_of_ble_eq_true rfl) (Nat.le_of_ble_eq_true rfl) (Nat.le_of_ble_eq_true rfl) (fun _ _ h => False.elim h) (fun v9 w45 h46 => ?_)
      obtain ⟨rfl, v47, rfl, rv47⟩ := h46
      refine rn_stk [.int v47] rfl ?_
      refine rn_istore_n dX10_comeOuter_67 rfl (by decide) [(0, .ref o0_), (1, .int (2200 : Int32)), (2, .int v47)] rfl ?_
      refine rn_iload_n (i := 2) dX10_comeOuter_68 rfl rfl ?_
      refine rn_if_lt (tgt := 82) dX10_comeOuter_69 (by decide) (fun h49 => ?_) (fun h49 => ?_)
      · have ch49 := cv_lt h49
        have r50 : Rg (-1) (-1) v47 := rf_ltx ch49 rv47 rk_0 (by decide)
        refine rn_aload_n (i := 0) dX10_comeOuter_82 rfl rfl ?_
        refine rn_bipush (v := (16 : Int32)) dX10_comeOuter_83 (by decide) ?_
        refine rn_iload_n (i := 1) dX10_comeOuter_85 rfl rfl ?_
        refine rn_iconst (v := (0 : Int32)) dX10_comeOuter_86 (by decide) ?_
        refine rn_iconst (v := (0 : Int32)) dX10_comeOuter_87 (by decide) ?_
        refine rn_callV (a := 0) (b := 0) [.int (16 : Int32), .int (2200 : Int32), .int (0 : Int32), .int (0 : Int32)] kl_SGModel_323 dX10_comeOuter_88 q3 hl3 rfl (t_X10_note G S ws hS0.1 o0_ m0_ (16 : Int32) (rg_w rk_16 (by decide) (by decide)) (2200 : Int32) (rg_w rk_2200 (by decide) (by decide)) (0 : Int32) (0 : Int32)) rfl rfl (Nat.le_of_ble_eq_true rfl) (Nat.le_of_ble_eq_true rfl) (Nat.le_of_ble_eq_true rfl) (Nat.le_of_ble_eq_true rfl) (Nat.le_of_ble_eq_true rfl) (Nat.le_of_ble_eq_true rfl) (fun _ _ h => False.elim h) (fun v9 w51 h52 => ?_)
        obtain ⟨hT54, v53, rfl, rv53⟩ := h52
        have hS54 := St.tr hS0 hT54 rfl
        have ht55 := tw_eq (byt_fr hS0.1 hT54 rfl) ht2
        have hb56 := (congrFun (byt_fr hS0.1 hT54 rfl) 2209).trans hbv7
        refine rn_stk [.int v53] rfl ?_
        exact rn_iret dX10_comeOuter_91 rfl rfl (rq_in ⟨hS54, v53, rfl, rv53⟩)
      · have ch49 := cv_nlt h49
        have r57 : Rg (0) (23) v47 := rf_ley ch49 rk_0 rv47 (by decide)
        refine rn_aload_n (i := 0) dX10_comeOuter_72 rfl rfl ?_
        obtain ⟨o58, hx58, m58⟩ := fs_r hf3 18 rfl
        refine rn_get q3 kg_SGModel_49 hl3 hx58 dX10_comeOuter_73 ?_
        refine rn_iload_n (i := 2) dX10_comeOuter_76 rfl rfl ?_
        obtain ⟨q59, f59, hq59, hl59, hf59⟩ := ts_ia hS0.1 m58 hk_49
        refine rs_iald q59 hl59 hf59 rfl r57 (by decide) (by decide) dX10_comeOuter_77 (fun v60 ev60 rv60 => ?_)
        refine rn_iconst (v := (-1 : Int32)) dX10_comeOuter_78 (by decide) ?_
        refine rn_icmp_eq (tgt := 92) dX10_comeOuter_79 (by decide) (fun h61 => ?_) (fun h61 => ?_)
        · have ch61 := cv_eq h61
          have r62 : Rg (-1) (-1) v60 := rf_eqx ch61 rv60 rk_m1 (by decide) (by decide)
          refine rn_aload_n (i := 0) dX10_comeOuter_92 rfl rfl ?_
          refine rn_iload_n (i := 1) dX10_comeOuter_93 rfl rfl ?_
          refine rn_callV (a := 0) (b := 0) [.int (2200 : Int32)] kl_SGModel_344 dX10_comeOuter_94 q3 hl3 rfl (t_X10_goIn_2200 G S ws hS0.1 o0_ m0_ (by rw [ht2]; exact ⟨by omega, by omega⟩)) rfl rfl (Nat.le_of_ble_eq_true rfl) (Nat.le_of_ble_eq_true rfl) (Nat.le_of_ble_eq_true rfl) (Nat.le_of_ble_eq_true rfl) (Nat.le_of_ble_eq_true rfl) (Nat.le_of_ble_eq_true rfl) (fun _ _ h => False.elim h) (fun v9 w63 h64 => ?_)
          obtain ⟨hT66, v65, rfl, rv65⟩ := h64
          have hS66 := St.tr hS0 hT66 rfl
          refine rn_stk [.int v65] rfl ?_
          exact rn_iret dX10_comeOuter_97 rfl rfl (rq_in ⟨hS66, v65, rfl, (rg_w rv65 (by decide) (by decide))⟩)
        · have ch61 := cv_ne h61
          refine rn_aload_n (i := 0) dX10_comeOuter_82 rfl rfl ?_
          refine rn_bipush (v := (16 : Int32)) dX10_comeOuter_83 (by decide) ?_
          refine rn_iload_n (i := 1) dX10_comeOuter_85 rfl rfl ?_
          refine rn_iconst (v := (0 : Int32)) dX10_comeOuter_86 (by decide) ?_
          refine rn_iconst (v := (0 : Int32)) dX10_comeOuter_87 (by decide) ?_
          refine rn_callV (a := 0) (b := 0) [.int (16 : Int32), .int (2200 : Int32), .int (0 : Int32), .int (0 : Int32)] kl_SGModel_323 dX10_comeOuter_88 q3 hl3 rfl (t_X10_note G S ws hS0.1 o0_ m0_ (16 : Int32) (rg_w rk_16 (by decide) (by decide)) (2200 : Int32) (rg_w rk_2200 (by decide) (by decide)) (0 : Int32) (0 : Int32)) rfl rfl (Nat.le_of_ble_eq_true rfl) (Nat.le_of_ble_eq_true rfl) (Nat.le_of_ble_eq_true rfl) (Nat.le_of_ble_eq_true rfl) (Nat.le_of_ble_eq_true rfl) (Nat.le_of_ble_eq_true rfl) (fun _ _ h => False.elim h) (fun v9 w67 h68 => ?_)
          obtain ⟨hT70, v69, rfl, rv69⟩ := h68
          have hS70 := St.tr hS0 hT70 rfl
          have ht71 := tw_eq (byt_fr hS0.1 hT70 rfl) ht2
          have hb72 := (congrFun (byt_fr hS0.1 hT70 rfl) 2209).trans hbv7
          refine rn_stk [.int v69] rfl ?_
          exact rn_iret dX10_comeOuter_91 rfl rfl (rq_in ⟨hS70, v69, rfl, rv69⟩)
    · have ch44 := cv_eq h44
      refine rn_aload_n (i := 0) dX10_comeOuter_29 rfl rfl ?_
      refine rn_iload_n (i := 1) dX10_comeOuter_30 rfl rfl ?_
      refine rn_callV (a := 0) (b := 0) [.int (2200 : Int32)] kl_SGModel_162 dX10_comeOuter_31 q3 hl3 rfl (t_X10_isPart G S ws hS0.1 o0_ m0_ (2200 : Int32) (rg_w rk_2200 (by decide) (by decide))) rfl rfl (Nat.le_of_ble_eq_true rfl) (Nat.le_of_ble_eq_true rfl) (Nat.le_of_ble_eq_true rfl) (Nat.le_of_ble_eq_true rfl) (Nat.le_of_ble_eq_true rfl) (Nat.le_of_ble_eq_true rfl) (fun _ _ h => False.elim h) (fun v9 w73 h74 => ?_)
      obtain ⟨rfl, v75, rfl, rv75⟩ := h74
      refine rn_stk [.int v75] rfl ?_
      refine rn_if_eq (tgt := 45) dX10_comeOuter_34 (by decide) (fun h77 => ?_) (fun h77 => ?_)
      · have ch77 := cv_eq h77
        have r78 : Rg (0) (0) v75 := rf_eqx ch77 rv75 rk_0 (by decide) (by decide)
        refine rn_iconst (v := (0 : Int32)) dX10_comeOuter_45 (by decide) ?_
        refine rn_istore_n dX10_comeOuter_46 rfl (by decide) [(0, .ref o0_), (1, .int (2200 : Int32)), (2, .int (0 : Int32))] rfl ?_
        refine rn_iload_n (i := 2) dX10_comeOuter_47 rfl rfl ?_
        refine rn_if_le (tgt := 55) dX10_comeOuter_48 (by decide) (fun h79 => ?_) (fun h79 => (cx_lt (cv_nle h79) rk_0 rk_0 (by decide)).elim)
        refine rn_aload_n (i := 0) dX10_comeOuter_55 rfl rfl ?_
        refine rn_iload_n (i := 1) dX10_comeOuter_56 rfl rfl ?_
        refine rn_callV (a := 0) (b := 0) [.int (2200 : Int32)] kl_SGModel_350 dX10_comeOuter_57 q3 hl3 rfl (t_X10_open_2200 G S ws hS0.1 o0_ m0_ (by rw [ht2]; exact ⟨by omega, by omega⟩)) rfl rfl (Nat.le_of_ble_eq_true rfl) (Nat.le_of_ble_eq_true rfl) (Nat.le_of_ble_eq_true rfl) (Nat.le_of_ble_eq_true rfl) (Nat.le_of_ble_eq_true rfl) (Nat.le_of_ble_eq_true rfl) (fun _ _ h => False.elim h) (fun v9 w80 h81 => ?_)
        obtain ⟨hT83, v82, rfl, rv82⟩ := h81
        have hS83 := St.tr hS0 hT83 rfl
        refine rn_stk [.int v82] rfl ?_
        exact rn_iret dX10_comeOuter_60 rfl rfl (rq_in ⟨hS83, v82, rfl, rv82⟩)
      · have ch77 := cv_ne h77
        have r84 : Rg (1) (1) v75 := rf_nel ch77 rv75 rk_0 (by decide) (by decide)
        refine rn_aload_n (i := 0) dX10_comeOuter_37 rfl rfl ?_
        refine rn_iload_n (i := 1) dX10_comeOuter_38 rfl rfl ?_
        refine rn_callV (a := 0) (b := 0) [.int (2200 : Int32)] kl_SGModel_347 dX10_comeOuter_39 q3 hl3 rfl (t_X10_heap_2200 G S ws hS0.1 o0_ m0_ (by rw [ht2]; exact ⟨by omega, by omega⟩)) rfl rfl (Nat.le_of_ble_eq_true rfl) (Nat.le_of_ble_eq_true rfl) (Nat.le_of_ble_eq_true rfl) (Nat.le_of_ble_eq_true rfl) (Nat.le_of_ble_eq_true rfl) (Nat.le_of_ble_eq_true rfl) (fun _ _ h => False.elim h) (fun v9 w85 h86 => ?_)
        obtain ⟨hT88, v87, rfl, rv87, xah86⟩ := h86
        have hS88 := St.tr hS0 hT88 rfl
        obtain ⟨T89, ht89⟩ : ∃ t : Int, tw (byt w85) 2202 = t := ⟨_, rfl⟩
        rw [ht89] at xah86
        refine rn_stk [.int v87] rfl ?_
        refine rn_goto (tgt := 46) dX10_comeOuter_42 (by decide) ?_
        refine rn_istore_n dX10_comeOuter_46 rfl (by decide) [(0, .ref o0_), (1, .int (2200 : Int32)), (2, .int v87)] rfl ?_
        refine rn_iload_n (i := 2) dX10_comeOuter_47 rfl rfl ?_
        refine rn_if_le (tgt := 55) dX10_comeOuter_48 (by decide) (fun h90 => ?_) (fun h90 => ?_)
        · have ch90 := cv_le h90
          have r91 : Rg (0) (0) v87 := rf_lex ch90 rv87 rk_0 (by decide)
          have kr91 := xah86 (Int32.toInt_inj.mp (show v87.toInt = (0 : Int32).toInt by have h1 := r91.1; have h2 := r91.2; have h3 := rk_0.1; have h4 := rk_0.2; omega))
          refine rn_aload_n (i := 0) dX10_comeOuter_55 rfl rfl ?_
          refine rn_iload_n (i := 1) dX10_comeOuter_56 rfl rfl ?_
          obtain ⟨q92, fs92, hq92, hl92, hf92⟩ := ts_obj hS88.1 m0_ hk_30
          refine rn_callV (a := 0) (b := 0) [.int (2200 : Int32)] kl_SGModel_350 dX10_comeOuter_57 q92 hl92 rfl (t_X10_open_2200 G S w85 hS88.1 o0_ m0_ (by rw [ht89]; exact ⟨by omega, by omega⟩)) rfl rfl (Nat.le_of_ble_eq_true rfl) (Nat.le_of_ble_eq_true rfl) (Nat.le_of_ble_eq_true rfl) (Nat.le_of_ble_eq_true rfl) (Nat.le_of_ble_eq_true rfl) (Nat.le_of_ble_eq_true rfl) (fun _ _ h => False.elim h) (fun v9 w93 h94 => ?_)
          obtain ⟨hT96, v95, rfl, rv95⟩ := h94
          have hS96 := St.tr hS88 hT96 rfl
          refine rn_stk [.int v95] rfl ?_
          exact rn_iret dX10_comeOuter_60 rfl rfl (rq_in ⟨hS96, v95, rfl, rv95⟩)
        · have ch90 := cv_nle h90
          have r97 : Rg (1) (17) v87 := rf_lty ch90 rk_0 rv87 (by decide)
          refine rn_iload_n (i := 2) dX10_comeOuter_51 rfl rfl ?_
          refine rn_goto (tgt := 60) dX10_comeOuter_52 (by decide) ?_
          exact rn_iret dX10_comeOuter_60 rfl rfl (rq_in ⟨hS88, v87, rfl, (rg_w r97 (by decide) (by decide))⟩)
abbrev q_t_X10_sealIt_2200 (G : rn_G) (S : ts_S) (ws : va_W) (x2_ : Int32) : rn_R → va_W → Prop := rQ (fun v w => St G S [30, 33] ws S w ∧ (v = none ∧ (0 ≤ tw (byt w) 4402 ∧ tw (byt w) 4402 ≤ 2047))) (fun E w => False)
set_option maxRecDepth 20000 in
set_option maxHeartbeats 4000000 in
theorem t_X10_sealIt_2200 (G : rn_G) (S : ts_S) (ws : va_W) (hW : ts_W G S ws) (o0_ : Nat) (m0_ : (o0_, 30) ∈ S) (x2_ : Int32) (r2_ : Rg (0) (15) x2_) (y3_ : Int64) (hw2202_ : 0 ≤ tw (byt ws) 2202 ∧ tw (byt ws) 2202 ≤ 2000) : Rn G mX10_sealIt 3 67 0 0 0 (lv_args 0 [.ref o0_, .int (2200 : Int32), .int x2_, .long y3_]) [] ws (q_t_X10_sealIt_2200 G S ws x2_) := by
  have hS0 : St G S [30, 33] ws S ws := St.rf hW
  obtain ⟨ob1, hob1⟩ := hS0.1.2.1.2
  obtain ⟨T2, ht2⟩ : ∃ t : Int, tw (byt ws) 2202 = t := ⟨_, rfl⟩
  rw [ht2] at hw2202_
  refine rn_lv [(0, .ref o0_), (1, .int (2200 : Int32)), (2, .int x2_), (3, .long y3_)] rfl ?_
  refine rn_aload_n (i := 0) dX10_sealIt_0 rfl rfl ?_
  refine rn_iload_n (i := 1) dX10_sealIt_1 rfl rfl ?_
  obtain ⟨q3, fs3, hq3, hl3, hf3⟩ := ts_obj hS0.1 m0_ hk_30
  refine rn_inV (d' := 1) (z' := 21) [.int (2200 : Int32)] kl_SGModel_165 dX10_sealIt_2 q3 hl3 rfl rfl rfl (Nat.le_of_ble_eq_true rfl) (Nat.le_of_ble_eq_true rfl) (Nat.le_of_ble_eq_true rfl) (Nat.le_of_ble_eq_true rfl) ?_
  refine rn_lv [(0, .ref o0_), (1, .int (2200 : Int32))] rfl ?_
  refine rn_aload_n (i := 0) dX10_lengthOf_0 rfl rfl ?_
  refine rn_iload_n (i := 1) dX10_lengthOf_1 rfl rfl ?_
  refine rn_iconst (v := (2 : Int32)) dX10_lengthOf_2 (by decide) ?_
  refine rn_iadd dX10_lengthOf_3 (rn_topi (2202 : Int32) (by decide) ?_)
  refine rn_callV (a := 0) (b := 0) [.int (2202 : Int32)] kl_SGModel_140 dX10_lengthOf_4 q3 hl3 rfl (t_X10_two G S ws hS0.1 o0_ m0_ (2202 : Int32) (rg_w rk_2202 (by decide) (by decide))) rfl rfl (Nat.le_of_ble_eq_true rfl) (Nat.le_of_ble_eq_true rfl) (Nat.le_of_ble_eq_true rfl) (Nat.le_of_ble_eq_true rfl) (Nat.le_of_ble_eq_true rfl) (Nat.le_of_ble_eq_true rfl) (fun _ _ h => False.elim h) (fun v9 w5 h6 => ?_)
  obtain ⟨rfl, v7, rfl, rv7, xah6⟩ := h6
  have ev7 : v7.toInt = T2 := (xah6 2202 (by decide)).trans ht2
  have r9 : Rg (0) (2000) v7 := ⟨by have := rv7.1; have := rv7.2; omega, by have := rv7.1; have := rv7.2; omega⟩
  refine rn_stk [.int v7] rfl ?_
  refine rn_iret dX10_lengthOf_7 rfl rfl (rq_in ?_)
  refine rn_stk [.int v7] rfl ?_
  refine rn_istore dX10_sealIt_5 (by decide) [(0, .ref o0_), (1, .int (2200 : Int32)), (2, .int x2_), (3, .long y3_), (5, .int v7)] rfl ?_
  refine rn_iload dX10_sealIt_7 rfl ?_
  refine rn_callS (a := 0) (b := 0) [.int v7] kl_SGModel_256 dX10_sealIt_9 (t_X10_fillOf G S ws hS0.1 v7 (rg_w r9 (by decide) (by decide))) rfl rfl (Nat.le_of_ble_eq_true rfl) (Nat.le_of_ble_eq_true rfl) (Nat.le_of_ble_eq_true rfl) (Nat.le_of_ble_eq_true rfl) (Nat.le_of_ble_eq_true rfl) (Nat.le_of_ble_eq_true rfl) (fun _ _ h => False.elim h) (fun v9 w10 h11 => ?_)
  obtain ⟨rfl, v12, rfl, rv12⟩ := h11
  refine rn_stk [.int v12] rfl ?_
  refine rn_istore dX10_sealIt_12 (by decide) [(0, .ref o0_), (1, .int (2200 : Int32)), (2, .int x2_), (3, .long y3_), (5, .int v7), (6, .int v12)] rfl ?_
  refine rn_sipush (v := (4428 : Int32)) dX10_sealIt_14 (by decide) ?_
  refine rn_istore dX10_sealIt_17 (by decide) [(0, .ref o0_), (1, .int (2200 : Int32)), (2, .int x2_), (3, .long y3_), (5, .int v7), (6, .int v12), (7, .int (4428 : Int32))] rfl ?_
  refine rn_iload dX10_sealIt_19 rfl ?_
  refine rn_iload dX10_sealIt_21 rfl ?_
  refine rs_addR (0) (2003) r9 rv12 dX10_sealIt_23 (by decide) (fun v14 ev14 rv14 => ?_)
  refine rn_iconst (v := (2 : Int32)) dX10_sealIt_24 (by decide) ?_
  refine rs_addC (2) (2005) rv14 rk_2 dX10_sealIt_25 (by decide) (fun v15 ev15 rv15 => ?_)
  refine rn_istore dX10_sealIt_26 (by decide) [(0, .ref o0_), (1, .int (2200 : Int32)), (2, .int x2_), (3, .long y3_), (5, .int v7), (6, .int v12), (7, .int (4428 : Int32)), (8, .int v15)] rfl ?_
  refine rn_aload_n (i := 0) dX10_sealIt_28 rfl rfl ?_
  refine rn_iload_n (i := 1) dX10_sealIt_29 rfl rfl ?_
  refine rn_iload dX10_sealIt_30 rfl ?_
  refine rn_iload dX10_sealIt_32 rfl ?_
  refine rn_callV (a := 0) (b := 0) [.int (2200 : Int32), .int (4428 : Int32), .int v7] kl_SGModel_235 dX10_sealIt_34 q3 hl3 rfl (t_X10_move G S ws hS0.1 o0_ m0_ (2200 : Int32) (4428 : Int32) v7 ⟨by have := r9.1; have := r9.2; have := rk_4428.1; have := rk_4428.2; have := rk_2200.1; have := rk_2200.2; omega, by have := r9.1; have := r9.2; have := rk_4428.1; have := rk_4428.2; have := rk_2200.1; have := rk_2200.2; omega, by have := r9.1; have := r9.2; have := rk_4428.1; have := rk_4428.2; have := rk_2200.1; have := rk_2200.2; omega, by have := r9.1; have := r9.2; have := rk_4428.1; have := rk_4428.2; have := rk_2200.1; have := rk_2200.2; omega⟩) rfl rfl (Nat.le_of_ble_eq_true rfl) (Nat.le_of_ble_eq_true rfl) (Nat.le_of_ble_eq_true rfl) (Nat.le_of_ble_eq_true rfl) (Nat.le_of_ble_eq_true rfl) (Nat.le_of_ble_eq_true rfl) (fun _ _ h => False.elim h) (fun v9 w16 h17 => ?_)
  obtain ⟨hT18, rfl, xah17⟩ := h17
  have hS18 := St.tr hS0 hT18 rfl
  have ht19 := bsame.keep xah17.1 ht2 (by have := r9.1; have := r9.2; have := rk_4428.1; have := rk_4428.2; have := rk_2200.1; have := rk_2200.2; omega)
  refine rn_stk [] rfl ?_
  refine rn_iconst (v := (1 : Int32)) dX10_sealIt_37 (by decide) ?_
  refine rn_istore dX10_sealIt_38 (by decide) [(0, .ref o0_), (1, .int (2200 : Int32)), (2, .int x2_), (3, .long y3_), (5, .int v7), (6, .int v12), (7, .int (4428 : Int32)), (8, .int v15), (9, .int (1 : Int32))] rfl ?_
  have LP21 : ∀ (n : Nat) (w22 : va_W) (x20 : Int32), St G S [33] w16 S w22 → Rg (1) (4) x20 → (4 - x20.toInt).toNat = n → Rn G mX10_sealIt 3 67 0 0 40 [(0, .ref o0_), (1, .int (2200 : Int32)), (2, .int x2_), (3, .long y3_), (5, .int v7), (6, .int v12), (7, .int (4428 : Int32)), (8, .int v15), (9, .int x20)] [] w22 (q_t_X10_sealIt_2200 G S ws x2_) := by
    intro n
    induction n using Nat.strongRecOn with
    | _ n ih =>
      intro w22 x20 hT23 r24 hm25
      refine rn_iload dX10_sealIt_40 rfl ?_
      refine rn_iload dX10_sealIt_42 rfl ?_
      refine rn_icmp_gt (tgt := 70) dX10_sealIt_44 (by decide) (fun h26 => ?_) (fun h26 => ?_)
      · have ch26 := cv_lt h26
        have hS27 := St.tr hS18 hT23 rfl
        refine rn_aload_n (i := 0) dX10_sealIt_70 rfl rfl ?_
        obtain ⟨o28, hx28, m28⟩ := fs_r hf3 2 rfl
        refine rn_get q3 kg_SGModel_7 (hT23.fr hq3 rfl (hT18.fr hq3 rfl hl3)) hx28 dX10_sealIt_71 ?_
        refine rn_iload dX10_sealIt_74 rfl ?_
        refine rn_iload dX10_sealIt_76 rfl ?_
        refine rs_addD (4428) (6428) rk_4428 r9 dX10_sealIt_78 (by decide) (fun v29 ev29 rv29 => ?_)
        refine rn_iload dX10_sealIt_79 rfl ?_
        refine rs_addR (4428) (6431) rv29 rv12 dX10_sealIt_81 (by decide) (fun v30 ev30 rv30 => ?_)
        refine rn_iload dX10_sealIt_82 rfl ?_
        obtain ⟨q31, f31, hq31, hl31, hf31⟩ := ts_ia hS27.1 m28 hk_33
        refine rs_iast q31 hS27 hq31 hl31 hf31 hk_33 rfl rfl rv30 (by decide) (by decide) (rg_w rv12 (by decide) (by decide)) dX10_sealIt_84 (fun w32 f33 hS33 hl33 hf33 hu33 hn33 => ?_)
        refine rn_aload_n (i := 0) dX10_sealIt_85 rfl rfl ?_
        refine rn_get q3 kg_SGModel_7 ((hn33 _ (ts_ne hq31 hq3 rfl)).trans (hT23.fr hq3 rfl (hT18.fr hq3 rfl hl3))) hx28 dX10_sealIt_86 ?_
        refine rn_iload dX10_sealIt_89 rfl ?_
        refine rn_iload dX10_sealIt_91 rfl ?_
        refine rs_addD (4428) (6428) rk_4428 r9 dX10_sealIt_93 (by decide) (fun v34 ev34 rv34 => ?_)
        refine rn_iload dX10_sealIt_94 rfl ?_
        refine rs_addR (4428) (6431) rv34 rv12 dX10_sealIt_96 (by decide) (fun v35 ev35 rv35 => ?_)
        refine rn_iconst (v := (1 : Int32)) dX10_sealIt_97 (by decide) ?_
        refine rs_addC (4429) (6432) rv35 rk_1 dX10_sealIt_98 (by decide) (fun v36 ev36 rv36 => ?_)
        refine rn_iconst (v := (4 : Int32)) dX10_sealIt_99 (by decide) ?_
        refine rs_iast q31 hS33 hq31 hl33 hf33 hk_33 rfl rfl rv36 (by decide) (by decide) (rg_w rk_4 (by decide) (by decide)) dX10_sealIt_100 (fun w37 f38 hS38 hl38 hf38 hu38 hn38 => ?_)
        refine rn_aload_n (i := 0) dX10_sealIt_101 rfl rfl ?_
        refine rn_sipush (v := (4420 : Int32)) dX10_sealIt_102 (by decide) ?_
        refine rn_aload_n (i := 0) dX10_sealIt_105 rfl rfl ?_
        obtain ⟨o39, hx39, m39⟩ := fs_r hf3 25 rfl
        refine rn_get q3 kg_SGModel_63 ((hn38 _ (ts_ne hq31 hq3 rfl)).trans ((hn33 _ (ts_ne hq31 hq3 rfl)).trans (hT23.fr hq3 rfl (hT18.fr hq3 rfl hl3)))) hx39 dX10_sealIt_106 ?_
        refine rn_iload_n (i := 2) dX10_sealIt_109 rfl rfl ?_
        obtain ⟨q40, f40, hq40, hl40, hf40⟩ := ts_ia hS38.1 m39 hk_56
        refine rs_iald q40 hl40 hf40 rfl r2_ (by decide) (by decide) dX10_sealIt_110 (fun v41 ev41 rv41 => ?_)
        refine rn_callV (a := 0) (b := 0) [.int (4420 : Int32), .int v41] kl_SGModel_148 dX10_sealIt_111 q3 ((hn38 _ (ts_ne hq31 hq3 rfl)).trans ((hn33 _ (ts_ne hq31 hq3 rfl)).trans (hT23.fr hq3 rfl (hT18.fr hq3 rfl hl3)))) rfl (t_X10_putFour G S w37 hS38.1 o0_ m0_ (4420 : Int32) (rg_w rk_4420 (by decide) (by decide)) v41) rfl rfl (Nat.le_of_ble_eq_true rfl) (Nat.le_of_ble_eq_true rfl) (Nat.le_of_ble_eq_true rfl) (Nat.le_of_ble_eq_true rfl) (Nat.le_of_ble_eq_true rfl) (Nat.le_of_ble_eq_true rfl) (fun _ _ h => False.elim h) (fun v9 w42 h43 => ?_)
        obtain ⟨hT44, rfl, xah43⟩ := h43
        have hS44 := St.tr hS38 hT44 rfl
        refine rn_stk [] rfl ?_
        refine rn_aload_n (i := 0) dX10_sealIt_114 rfl rfl ?_
        refine rn_sipush (v := (4424 : Int32)) dX10_sealIt_115 (by decide) ?_
        refine rn_lload_n (i := 3) dX10_sealIt_118 rfl rfl ?_
        refine rn_l2i dX10_sealIt_119 rfl (rn_nmA (fun v45 rv45 => ?_))
        refine rn_callV (a := 0) (b := 0) [.int (4424 : Int32), .int v45] kl_SGModel_148 dX10_sealIt_120 q3 (hT44.fr hq3 rfl ((hn38 _ (ts_ne hq31 hq3 rfl)).trans ((hn33 _ (ts_ne hq31 hq3 rfl)).trans (hT23.fr hq3 rfl (hT18.fr hq3 rfl hl3))))) rfl (t_X10_putFour G S w42 hS44.1 o0_ m0_ (4424 : Int32) (rg_w rk_4424 (by decide) (by decide)) v45) rfl rfl (Nat.le_of_ble_eq_true rfl) (Nat.le_of_ble_eq_true rfl) (Nat.le_of_ble_eq_true rfl) (Nat.le_of_ble_eq_true rfl) (Nat.le_of_ble_eq_true rfl) (Nat.le_of_ble_eq_true rfl) (fun _ _ h => False.elim h) (fun v9 w46 h47 => ?_)
        obtain ⟨hT48, rfl, xah47⟩ := h47
        have hS48 := St.tr hS44 hT48 rfl
        refine rn_stk [] rfl ?_
        refine rn_aload_n (i := 0) dX10_sealIt_123 rfl rfl ?_
        refine rn_iload dX10_sealIt_124 rfl ?_
        refine rn_iload dX10_sealIt_126 rfl ?_
        refine rn_iload_n (i := 2) dX10_sealIt_128 rfl rfl ?_
        refine rn_lload_n (i := 3) dX10_sealIt_129 rfl rfl ?_
        refine rn_callV (a := 0) (b := 0) [.int (4428 : Int32), .int v15, .int x2_, .long y3_] kl_SGModel_259 dX10_sealIt_130 q3 (hT48.fr hq3 rfl (hT44.fr hq3 rfl ((hn38 _ (ts_ne hq31 hq3 rfl)).trans ((hn33 _ (ts_ne hq31 hq3 rfl)).trans (hT23.fr hq3 rfl (hT18.fr hq3 rfl hl3)))))) rfl (t_X10_stream G S w46 hS48.1 o0_ m0_ (4428 : Int32) (rg_w rk_4428 (by decide) (by decide)) v15 (rg_w rv15 (by decide) (by decide)) x2_ r2_ y3_) rfl rfl (Nat.le_of_ble_eq_true rfl) (Nat.le_of_ble_eq_true rfl) (Nat.le_of_ble_eq_true rfl) (Nat.le_of_ble_eq_true rfl) (Nat.le_of_ble_eq_true rfl) (Nat.le_of_ble_eq_true rfl) (fun _ _ h => False.elim h) (fun v9 w49 h50 => ?_)
        obtain ⟨hT51, rfl⟩ := h50
        have hS51 := St.tr hS48 hT51 rfl
        refine rn_stk [] rfl ?_
        refine rn_aload_n (i := 0) dX10_sealIt_133 rfl rfl ?_
        refine rn_iload dX10_sealIt_134 rfl ?_
        refine rn_iload dX10_sealIt_136 rfl ?_
        refine rs_addD (4430) (6433) rk_4428 rv15 dX10_sealIt_138 (by decide) (fun v52 ev52 rv52 => ?_)
        refine rn_aload_n (i := 0) dX10_sealIt_139 rfl rfl ?_
        refine rn_sipush (v := (4420 : Int32)) dX10_sealIt_140 (by decide) ?_
        refine rn_bipush (v := (8 : Int32)) dX10_sealIt_143 (by decide) ?_
        refine rn_iload dX10_sealIt_145 rfl ?_
        refine rs_addD (10) (2013) rk_8 rv15 dX10_sealIt_147 (by decide) (fun v53 ev53 rv53 => ?_)
        refine rn_iload_n (i := 2) dX10_sealIt_148 rfl rfl ?_
        refine rn_lload_n (i := 3) dX10_sealIt_149 rfl rfl ?_
        refine rn_callV (a := 0) (b := 0) [.int (4420 : Int32), .int v53, .int x2_, .long y3_] kl_SGModel_263 dX10_sealIt_150 q3 (hT51.fr hq3 rfl (hT48.fr hq3 rfl (hT44.fr hq3 rfl ((hn38 _ (ts_ne hq31 hq3 rfl)).trans ((hn33 _ (ts_ne hq31 hq3 rfl)).trans (hT23.fr hq3 rfl (hT18.fr hq3 rfl hl3))))))) rfl (t_X10_stampOf G S w49 hS51.1 o0_ m0_ (4420 : Int32) (rg_w rk_4420 (by decide) (by decide)) v53 (rg_w rv53 (by decide) (by decide)) x2_ r2_ y3_) rfl rfl (Nat.le_of_ble_eq_true rfl) (Nat.le_of_ble_eq_true rfl) (Nat.le_of_ble_eq_true rfl) (Nat.le_of_ble_eq_true rfl) (Nat.le_of_ble_eq_true rfl) (Nat.le_of_ble_eq_true rfl) (fun _ _ h => False.elim h) (fun v9 w54 h55 => ?_)
        obtain ⟨rfl, l56, rfl⟩ := h55
        refine rn_stk [.long l56, .int v52, .ref o0_] rfl ?_
        refine rn_callV (a := 0) (b := 0) [.int v52, .long l56] kl_SGModel_175 dX10_sealIt_153 q3 (hT51.fr hq3 rfl (hT48.fr hq3 rfl (hT44.fr hq3 rfl ((hn38 _ (ts_ne hq31 hq3 rfl)).trans ((hn33 _ (ts_ne hq31 hq3 rfl)).trans (hT23.fr hq3 rfl (hT18.fr hq3 rfl hl3))))))) rfl (t_X10_putEight G S w49 hS51.1 o0_ m0_ v52 (rg_w rv52 (by decide) (by decide)) l56) rfl rfl (Nat.le_of_ble_eq_true rfl) (Nat.le_of_ble_eq_true rfl) (Nat.le_of_ble_eq_true rfl) (Nat.le_of_ble_eq_true rfl) (Nat.le_of_ble_eq_true rfl) (Nat.le_of_ble_eq_true rfl) (fun _ _ h => False.elim h) (fun v9 w58 h59 => ?_)
        obtain ⟨hT60, rfl, xah59⟩ := h59
        have hS60 := St.tr hS51 hT60 rfl
        refine rn_stk [] rfl ?_
        refine rn_aload_n (i := 0) dX10_sealIt_156 rfl rfl ?_
        refine rn_get q3 kg_SGModel_7 (hT60.fr hq3 rfl (hT51.fr hq3 rfl (hT48.fr hq3 rfl (hT44.fr hq3 rfl ((hn38 _ (ts_ne hq31 hq3 rfl)).trans ((hn33 _ (ts_ne hq31 hq3 rfl)).trans (hT23.fr hq3 rfl (hT18.fr hq3 rfl hl3)))))))) hx28 dX10_sealIt_157 ?_
        refine rn_sipush (v := (4400 : Int32)) dX10_sealIt_160 (by decide) ?_
        refine rn_bipush (v := (69 : Int32)) dX10_sealIt_163 (by decide) ?_
        obtain ⟨q61, f61, hq61, hl61, hf61⟩ := ts_ia hS60.1 m28 hk_33
        refine rs_iast q61 hS60 hq61 hl61 hf61 hk_33 rfl rfl rk_4400 (by decide) (by decide) (rg_w rk_69 (by decide) (by decide)) dX10_sealIt_165 (fun w62 f63 hS63 hl63 hf63 hu63 hn63 => ?_)
        refine rn_aload_n (i := 0) dX10_sealIt_166 rfl rfl ?_
        refine rn_get q3 kg_SGModel_7 ((hn63 _ (ts_ne hq61 hq3 rfl)).trans (hT60.fr hq3 rfl (hT51.fr hq3 rfl (hT48.fr hq3 rfl (hT44.fr hq3 rfl ((hn38 _ (ts_ne hq31 hq3 rfl)).trans ((hn33 _ (ts_ne hq31 hq3 rfl)).trans (hT23.fr hq3 rfl (hT18.fr hq3 rfl hl3))))))))) hx28 dX10_sealIt_167 ?_
        refine rn_sipush (v := (4401 : Int32)) dX10_sealIt_170 (by decide) ?_
        refine rn_aload_n (i := 0) dX10_sealIt_173 rfl rfl ?_
        refine rn_get q3 kg_SGModel_7 ((hn63 _ (ts_ne hq61 hq3 rfl)).trans (hT60.fr hq3 rfl (hT51.fr hq3 rfl (hT48.fr hq3 rfl (hT44.fr hq3 rfl ((hn38 _ (ts_ne hq31 hq3 rfl)).trans ((hn33 _ (ts_ne hq31 hq3 rfl)).trans (hT23.fr hq3 rfl (hT18.fr hq3 rfl hl3))))))))) hx28 dX10_sealIt_174 ?_
        refine rn_iload_n (i := 1) dX10_sealIt_177 rfl rfl ?_
        refine rn_iconst (v := (1 : Int32)) dX10_sealIt_178 (by decide) ?_
        refine rn_iadd dX10_sealIt_179 (rn_topi (2201 : Int32) (by decide) ?_)
        refine rs_iald q61 hl63 hf63 rfl rk_2201 (by decide) (by decide) dX10_sealIt_180 (fun v65 ev65 rv65 => ?_)
        have hbv65 : byt w62 2201 = v65 := by rw [byt_of hS63.1 hq61 hl63, ev65]; exact congrArg _ (by decide)
        refine rs_iast q61 hS63 hq61 hl63 hf63 hk_33 rfl rfl rk_4401 (by decide) (by decide) rv65 dX10_sealIt_181 (fun w66 f67 hS67 hl67 hf67 hu67 hn67 => ?_)
        have hb68 := (byt_st hS63.1 hS67.1 hq61 hl63 hl67 hu67 (by have := rk_4401.1; have := rk_4401.2; omega) 2201 (by have := rk_4401.1; have := rk_4401.2; omega)).trans hbv65
        refine rn_aload_n (i := 0) dX10_sealIt_182 rfl rfl ?_
        refine rn_sipush (v := (4402 : Int32)) dX10_sealIt_183 (by decide) ?_
        refine rn_bipush (v := (36 : Int32)) dX10_sealIt_186 (by decide) ?_
        refine rn_iload dX10_sealIt_188 rfl ?_
        refine rs_addD (38) (2041) rk_36 rv15 dX10_sealIt_190 (by decide) (fun v69 ev69 rv69 => ?_)
        refine rn_callV (a := 0) (b := 0) [.int (4402 : Int32), .int v69] kl_SGModel_144 dX10_sealIt_191 q3 ((hn67 _ (ts_ne hq61 hq3 rfl)).trans ((hn63 _ (ts_ne hq61 hq3 rfl)).trans (hT60.fr hq3 rfl (hT51.fr hq3 rfl (hT48.fr hq3 rfl (hT44.fr hq3 rfl ((hn38 _ (ts_ne hq31 hq3 rfl)).trans ((hn33 _ (ts_ne hq31 hq3 rfl)).trans (hT23.fr hq3 rfl (hT18.fr hq3 rfl hl3)))))))))) rfl (t_X10_putTwo G S w66 hS67.1 o0_ m0_ (4402 : Int32) (rg_w rk_4402 (by decide) (by decide)) v69) rfl rfl (Nat.le_of_ble_eq_true rfl) (Nat.le_of_ble_eq_true rfl) (Nat.le_of_ble_eq_true rfl) (Nat.le_of_ble_eq_true rfl) (Nat.le_of_ble_eq_true rfl) (Nat.le_of_ble_eq_true rfl) (fun _ _ h => False.elim h) (fun v9 w70 h71 => ?_)
        obtain ⟨hT72, rfl, xah71⟩ := h71
        have hS72 := St.tr hS67 hT72 rfl
        have ht73 : tw (byt w70) 4402 = v69.toInt := xah71.2 4402 (by decide) (by have := rv69.1; omega) (by have := rv69.2; omega)
        refine rn_stk [] rfl ?_
        refine rn_aload_n (i := 0) dX10_sealIt_194 rfl rfl ?_
        refine rn_sipush (v := (4404 : Int32)) dX10_sealIt_195 (by decide) ?_
        refine rn_aload_n (i := 0) dX10_sealIt_198 rfl rfl ?_
        obtain ⟨x74, hx74, rx74⟩ := fs_i hf3 33 rfl
        refine rn_get q3 kg_SGModel_267 (hT72.fr hq3 rfl ((hn67 _ (ts_ne hq61 hq3 rfl)).trans ((hn63 _ (ts_ne hq61 hq3 rfl)).trans (hT60.fr hq3 rfl (hT51.fr hq3 rfl (hT48.fr hq3 rfl (hT44.fr hq3 rfl ((hn38 _ (ts_ne hq31 hq3 rfl)).trans ((hn33 _ (ts_ne hq31 hq3 rfl)).trans (hT23.fr hq3 rfl (hT18.fr hq3 rfl hl3))))))))))) hx74 dX10_sealIt_199 ?_
        refine rn_ldc (v := (65535 : Int32)) wd_1093 dX10_sealIt_202 ?_
        refine rn_iand dX10_sealIt_204 (rn_tn 0 (65535) (rg_andr rk_65535 (by decide)) (fun v75 rv75 => ?_))
        refine rn_callV (a := 0) (b := 0) [.int (4404 : Int32), .int v75] kl_SGModel_144 dX10_sealIt_205 q3 (hT72.fr hq3 rfl ((hn67 _ (ts_ne hq61 hq3 rfl)).trans ((hn63 _ (ts_ne hq61 hq3 rfl)).trans (hT60.fr hq3 rfl (hT51.fr hq3 rfl (hT48.fr hq3 rfl (hT44.fr hq3 rfl ((hn38 _ (ts_ne hq31 hq3 rfl)).trans ((hn33 _ (ts_ne hq31 hq3 rfl)).trans (hT23.fr hq3 rfl (hT18.fr hq3 rfl hl3))))))))))) rfl (t_X10_putTwo G S w70 hS72.1 o0_ m0_ (4404 : Int32) (rg_w rk_4404 (by decide) (by decide)) v75) rfl rfl (Nat.le_of_ble_eq_true rfl) (Nat.le_of_ble_eq_true rfl) (Nat.le_of_ble_eq_true rfl) (Nat.le_of_ble_eq_true rfl) (Nat.le_of_ble_eq_true rfl) (Nat.le_of_ble_eq_true rfl) (fun _ _ h => False.elim h) (fun v9 w76 h77 => ?_)
        obtain ⟨hT78, rfl, xah77⟩ := h77
        have hS78 := St.tr hS72 hT78 rfl
        have ht79 := bsame.keep xah77.1 ht73 (by have := rv75.1; have := rv75.2; have := rk_65535.1; have := rk_65535.2; have := rx74.1; have := rx74.2; have := rk_4404.1; have := rk_4404.2; omega)
        have ht80 : tw (byt w76) 4404 = v75.toInt := xah77.2 4404 (by decide) (by have := rv75.1; omega) (by have := rv75.2; omega)
        refine rn_stk [] rfl ?_
        refine rn_aload_n (i := 0) dX10_sealIt_208 rfl rfl ?_
        refine rn_sipush (v := (4406 : Int32)) dX10_sealIt_209 (by decide) ?_
        refine rn_aload_n (i := 0) dX10_sealIt_212 rfl rfl ?_
        refine rn_iload_n (i := 1) dX10_sealIt_213 rfl rfl ?_
        refine rn_callV (a := 0) (b := 0) [.int (2200 : Int32)] kl_SGModel_270 dX10_sealIt_214 q3 (hT78.fr hq3 rfl (hT72.fr hq3 rfl ((hn67 _ (ts_ne hq61 hq3 rfl)).trans ((hn63 _ (ts_ne hq61 hq3 rfl)).trans (hT60.fr hq3 rfl (hT51.fr hq3 rfl (hT48.fr hq3 rfl (hT44.fr hq3 rfl ((hn38 _ (ts_ne hq31 hq3 rfl)).trans ((hn33 _ (ts_ne hq31 hq3 rfl)).trans (hT23.fr hq3 rfl (hT18.fr hq3 rfl hl3)))))))))))) rfl (t_X10_hasDont G S w76 hS78.1 o0_ m0_ (2200 : Int32) (rg_w rk_2200 (by decide) (by decide))) rfl rfl (Nat.le_of_ble_eq_true rfl) (Nat.le_of_ble_eq_true rfl) (Nat.le_of_ble_eq_true rfl) (Nat.le_of_ble_eq_true rfl) (Nat.le_of_ble_eq_true rfl) (Nat.le_of_ble_eq_true rfl) (fun _ _ h => False.elim h) (fun v9 w81 h82 => ?_)
        obtain ⟨rfl, v83, rfl, rv83⟩ := h82
        refine rn_stk [.int v83, .int (4406 : Int32), .ref o0_] rfl ?_
        refine rn_if_eq (tgt := 226) dX10_sealIt_217 (by decide) (fun h85 => ?_) (fun h85 => ?_)
        · have ch85 := cv_eq h85
          have r86 : Rg (0) (0) v83 := rf_eqx ch85 rv83 rk_0 (by decide) (by decide)
          refine rn_iconst (v := (0 : Int32)) dX10_sealIt_226 (by decide) ?_
          refine rn_callV (a := 0) (b := 0) [.int (4406 : Int32), .int (0 : Int32)] kl_SGModel_144 dX10_sealIt_227 q3 (hT78.fr hq3 rfl (hT72.fr hq3 rfl ((hn67 _ (ts_ne hq61 hq3 rfl)).trans ((hn63 _ (ts_ne hq61 hq3 rfl)).trans (hT60.fr hq3 rfl (hT51.fr hq3 rfl (hT48.fr hq3 rfl (hT44.fr hq3 rfl ((hn38 _ (ts_ne hq31 hq3 rfl)).trans ((hn33 _ (ts_ne hq31 hq3 rfl)).trans (hT23.fr hq3 rfl (hT18.fr hq3 rfl hl3)))))))))))) rfl (t_X10_putTwo G S w76 hS78.1 o0_ m0_ (4406 : Int32) (rg_w rk_4406 (by decide) (by decide)) (0 : Int32)) rfl rfl (Nat.le_of_ble_eq_true rfl) (Nat.le_of_ble_eq_true rfl) (Nat.le_of_ble_eq_true rfl) (Nat.le_of_ble_eq_true rfl) (Nat.le_of_ble_eq_true rfl) (Nat.le_of_ble_eq_true rfl) (fun _ _ h => False.elim h) (fun v9 w87 h88 => ?_)
          obtain ⟨hT89, rfl, xah88⟩ := h88
          have hS89 := St.tr hS78 hT89 rfl
          have ht90 := bsame.keep xah88.1 ht79 (by have := rk_0.1; have := rk_0.2; have := rk_4406.1; have := rk_4406.2; omega)
          have ht91 := bsame.keep xah88.1 ht80 (by have := rk_0.1; have := rk_0.2; have := rk_4406.1; have := rk_4406.2; omega)
          have ht92 : tw (byt w87) 4406 = (0 : Int32).toInt := xah88.2 4406 (by decide) (by have := rk_0.1; omega) (by have := rk_0.2; omega)
          refine rn_stk [] rfl ?_
          refine rn_aload_n (i := 0) dX10_sealIt_230 rfl rfl ?_
          have hl93 := (hT89.fr hq3 rfl (hT78.fr hq3 rfl (hT72.fr hq3 rfl ((hn67 _ (ts_ne hq61 hq3 rfl)).trans ((hn63 _ (ts_ne hq61 hq3 rfl)).trans (hT60.fr hq3 rfl (hT51.fr hq3 rfl (hT48.fr hq3 rfl (hT44.fr hq3 rfl ((hn38 _ (ts_ne hq31 hq3 rfl)).trans ((hn33 _ (ts_ne hq31 hq3 rfl)).trans (hT23.fr hq3 rfl (hT18.fr hq3 rfl hl3)))))))))))))
          refine rn_get q3 kg_SGModel_7 hl93 hx28 dX10_sealIt_231 ?_
          refine rn_sipush (v := (4408 : Int32)) dX10_sealIt_234 (by decide) ?_
          refine rn_bipush (v := (64 : Int32)) dX10_sealIt_237 (by decide) ?_
          obtain ⟨q94, f94, hq94, hl94, hf94⟩ := ts_ia hS89.1 m28 hk_33
          refine rs_iast q94 hS89 hq94 hl94 hf94 hk_33 rfl rfl rk_4408 (by decide) (by decide) (rg_w rk_64 (by decide) (by decide)) dX10_sealIt_239 (fun w95 f96 hS96 hl96 hf96 hu96 hn96 => ?_)
          have ht97 := tw_two (byt_st hS89.1 hS96.1 hq94 hl94 hl96 hu96 (by have := rk_4408.1; have := rk_4408.2; omega) 4402 (by have := rk_4408.1; have := rk_4408.2; omega)) (byt_st hS89.1 hS96.1 hq94 hl94 hl96 hu96 (by have := rk_4408.1; have := rk_4408.2; omega) 4403 (by have := rk_4408.1; have := rk_4408.2; omega)) ht90
          have ht98 := tw_two (byt_st hS89.1 hS96.1 hq94 hl94 hl96 hu96 (by have := rk_4408.1; have := rk_4408.2; omega) 4404 (by have := rk_4408.1; have := rk_4408.2; omega)) (byt_st hS89.1 hS96.1 hq94 hl94 hl96 hu96 (by have := rk_4408.1; have := rk_4408.2; omega) 4405 (by have := rk_4408.1; have := rk_4408.2; omega)) ht91
          have ht99 := tw_two (byt_st hS89.1 hS96.1 hq94 hl94 hl96 hu96 (by have := rk_4408.1; have := rk_4408.2; omega) 4406 (by have := rk_4408.1; have := rk_4408.2; omega)) (byt_st hS89.1 hS96.1 hq94 hl94 hl96 hu96 (by have := rk_4408.1; have := rk_4408.2; omega) 4407 (by have := rk_4408.1; have := rk_4408.2; omega)) ht92
          refine rn_aload_n (i := 0) dX10_sealIt_240 rfl rfl ?_
          refine rn_get q3 kg_SGModel_7 ((hn96 _ (ts_ne hq94 hq3 rfl)).trans hl93) hx28 dX10_sealIt_241 ?_
          refine rn_sipush (v := (4409 : Int32)) dX10_sealIt_244 (by decide) ?_
          refine rn_bipush (v := (50 : Int32)) dX10_sealIt_247 (by decide) ?_
          refine rs_iast q94 hS96 hq94 hl96 hf96 hk_33 rfl rfl rk_4409 (by decide) (by decide) (rg_w rk_50 (by decide) (by decide)) dX10_sealIt_249 (fun w100 f101 hS101 hl101 hf101 hu101 hn101 => ?_)
          have ht102 := tw_two (byt_st hS96.1 hS101.1 hq94 hl96 hl101 hu101 (by have := rk_4409.1; have := rk_4409.2; omega) 4402 (by have := rk_4409.1; have := rk_4409.2; omega)) (byt_st hS96.1 hS101.1 hq94 hl96 hl101 hu101 (by have := rk_4409.1; have := rk_4409.2; omega) 4403 (by have := rk_4409.1; have := rk_4409.2; omega)) ht97
          have ht103 := tw_two (byt_st hS96.1 hS101.1 hq94 hl96 hl101 hu101 (by have := rk_4409.1; have := rk_4409.2; omega) 4404 (by have := rk_4409.1; have := rk_4409.2; omega)) (byt_st hS96.1 hS101.1 hq94 hl96 hl101 hu101 (by have := rk_4409.1; have := rk_4409.2; omega) 4405 (by have := rk_4409.1; have := rk_4409.2; omega)) ht98
          have ht104 := tw_two (byt_st hS96.1 hS101.1 hq94 hl96 hl101 hu101 (by have := rk_4409.1; have := rk_4409.2; omega) 4406 (by have := rk_4409.1; have := rk_4409.2; omega)) (byt_st hS96.1 hS101.1 hq94 hl96 hl101 hu101 (by have := rk_4409.1; have := rk_4409.2; omega) 4407 (by have := rk_4409.1; have := rk_4409.2; omega)) ht99
          refine rn_aload_n (i := 0) dX10_sealIt_250 rfl rfl ?_
          refine rn_sipush (v := (4412 : Int32)) dX10_sealIt_251 (by decide) ?_
          refine rn_aload_n (i := 0) dX10_sealIt_254 rfl rfl ?_
          obtain ⟨x105, hx105, rx105⟩ := fs_i hf3 1 rfl
          refine rn_get q3 kg_SGModel_134 ((hn101 _ (ts_ne hq94 hq3 rfl)).trans ((hn96 _ (ts_ne hq94 hq3 rfl)).trans hl93)) hx105 dX10_sealIt_255 ?_
          refine rn_callV (a := 0) (b := 0) [.int (4412 : Int32), .int x105] kl_SGModel_148 dX10_sealIt_258 q3 ((hn101 _ (ts_ne hq94 hq3 rfl)).trans ((hn96 _ (ts_ne hq94 hq3 rfl)).trans hl93)) rfl (t_X10_putFour G S w100 hS101.1 o0_ m0_ (4412 : Int32) (rg_w rk_4412 (by decide) (by decide)) x105) rfl rfl (Nat.le_of_ble_eq_true rfl) (Nat.le_of_ble_eq_true rfl) (Nat.le_of_ble_eq_true rfl) (Nat.le_of_ble_eq_true rfl) (Nat.le_of_ble_eq_true rfl) (Nat.le_of_ble_eq_true rfl) (fun _ _ h => False.elim h) (fun v9 w106 h107 => ?_)
          obtain ⟨hT108, rfl, xah107⟩ := h107
          have hS108 := St.tr hS101 hT108 rfl
          have ht109 := bsame.keep xah107 ht102 (by have := rx105.1; have := rx105.2; have := rk_4412.1; have := rk_4412.2; omega)
          have ht110 := bsame.keep xah107 ht103 (by have := rx105.1; have := rx105.2; have := rk_4412.1; have := rk_4412.2; omega)
          have ht111 := bsame.keep xah107 ht104 (by have := rx105.1; have := rx105.2; have := rk_4412.1; have := rk_4412.2; omega)
          refine rn_stk [] rfl ?_
          refine rn_aload_n (i := 0) dX10_sealIt_261 rfl rfl ?_
          have hl112 := (hT108.fr hq40 rfl ((hn101 _ (ts_ne hq94 hq40 rfl)).trans ((hn96 _ (ts_ne hq94 hq40 rfl)).trans (hT89.fr hq40 rfl (hT78.fr hq40 rfl (hT72.fr hq40 rfl ((hn67 _ (ts_ne hq61 hq40 rfl)).trans ((hn63 _ (ts_ne hq61 hq40 rfl)).trans (hT60.fr hq40 rfl (hT51.fr hq40 rfl (hT48.fr hq40 rfl (hT44.fr hq40 rfl hl40))))))))))))
          refine rn_sipush (v := (4416 : Int32)) dX10_sealIt_262 (by decide) ?_
          refine rn_aload_n (i := 0) dX10_sealIt_265 rfl rfl ?_
          obtain ⟨o113, hx113, m113⟩ := fs_r hf3 8 rfl
          refine rn_get q3 kg_SGModel_22 (hT108.fr hq3 rfl ((hn101 _ (ts_ne hq94 hq3 rfl)).trans ((hn96 _ (ts_ne hq94 hq3 rfl)).trans hl93))) hx113 dX10_sealIt_266 ?_
          refine rn_aload_n (i := 0) dX10_sealIt_269 rfl rfl ?_
          obtain ⟨o114, hx114, m114⟩ := fs_r hf3 24 rfl
          refine rn_get q3 kg_SGModel_60 (hT108.fr hq3 rfl ((hn101 _ (ts_ne hq94 hq3 rfl)).trans ((hn96 _ (ts_ne hq94 hq3 rfl)).trans hl93))) hx114 dX10_sealIt_270 ?_
          refine rn_iload_n (i := 2) dX10_sealIt_273 rfl rfl ?_
          obtain ⟨q115, f115, hq115, hl115, hf115⟩ := ts_ia hS108.1 m114 hk_55
          refine rs_iald q115 hl115 hf115 rfl r2_ (by decide) (by decide) dX10_sealIt_274 (fun v116 ev116 rv116 => ?_)
          obtain ⟨q117, f117, hq117, hl117, hf117⟩ := ts_ia hS108.1 m113 hk_39
          refine rs_iald q117 hl117 hf117 rfl rv116 (by decide) (by decide) dX10_sealIt_275 (fun v118 ev118 rv118 => ?_)
          refine rn_callV (a := 0) (b := 0) [.int (4416 : Int32), .int v118] kl_SGModel_148 dX10_sealIt_276 q3 (hT108.fr hq3 rfl ((hn101 _ (ts_ne hq94 hq3 rfl)).trans ((hn96 _ (ts_ne hq94 hq3 rfl)).trans hl93))) rfl (t_X10_putFour G S w106 hS108.1 o0_ m0_ (4416 : Int32) (rg_w rk_4416 (by decide) (by decide)) v118) rfl rfl (Nat.le_of_ble_eq_true rfl) (Nat.le_of_ble_eq_true rfl) (Nat.le_of_ble_eq_true rfl) (Nat.le_of_ble_eq_true rfl) (Nat.le_of_ble_eq_true rfl) (Nat.le_of_ble_eq_true rfl) (fun _ _ h => False.elim h) (fun v9 w119 h120 => ?_)
          obtain ⟨hT121, rfl, xah120⟩ := h120
          have hS121 := St.tr hS108 hT121 rfl
          have ht122 := bsame.keep xah120 ht109 (by have := rv118.1; have := rv118.2; have := rk_4416.1; have := rk_4416.2; omega)
          have ht123 := bsame.keep xah120 ht110 (by have := rv118.1; have := rv118.2; have := rk_4416.1; have := rk_4416.2; omega)
          have ht124 := bsame.keep xah120 ht111 (by have := rv118.1; have := rv118.2; have := rk_4416.1; have := rk_4416.2; omega)
          refine rn_stk [] rfl ?_
          refine rn_aload_n (i := 0) dX10_sealIt_279 rfl rfl ?_
          refine rn_sipush (v := (4400 : Int32)) dX10_sealIt_280 (by decide) ?_
          refine rn_callV (a := 0) (b := 0) [.int (4400 : Int32)] kl_SGModel_184 dX10_sealIt_283 q3 (hT121.fr hq3 rfl (hT108.fr hq3 rfl ((hn101 _ (ts_ne hq94 hq3 rfl)).trans ((hn96 _ (ts_ne hq94 hq3 rfl)).trans hl93)))) rfl (t_X10_setSum G S w119 hS121.1 o0_ m0_ (4400 : Int32) (rg_w rk_4400 (by decide) (by decide))) rfl rfl (Nat.le_of_ble_eq_true rfl) (Nat.le_of_ble_eq_true rfl) (Nat.le_of_ble_eq_true rfl) (Nat.le_of_ble_eq_true rfl) (Nat.le_of_ble_eq_true rfl) (Nat.le_of_ble_eq_true rfl) (fun _ _ h => False.elim h) (fun v9 w125 h126 => ?_)
          obtain ⟨hT127, rfl, xah126⟩ := h126
          have hS127 := St.tr hS121 hT127 rfl
          have ht128 := bsame.keep xah126 ht122 (by have := rk_4400.1; have := rk_4400.2; omega)
          have ht129 := bsame.keep xah126 ht123 (by have := rk_4400.1; have := rk_4400.2; omega)
          have ht130 := bsame.keep xah126 ht124 (by have := rk_4400.1; have := rk_4400.2; omega)
          refine rn_stk [] rfl ?_
          refine rn_aload_n (i := 0) dX10_sealIt_286 rfl rfl ?_
          refine rn_dup dX10_sealIt_287 rfl ?_
          refine rn_get q3 kg_SGModel_267 (hT127.fr hq3 rfl (hT121.fr hq3 rfl (hT108.fr hq3 rfl ((hn101 _ (ts_ne hq94 hq3 rfl)).trans ((hn96 _ (ts_ne hq94 hq3 rfl)).trans hl93))))) hx74 dX10_sealIt_288 ?_
          refine rn_iconst (v := (1 : Int32)) dX10_sealIt_291 (by decide) ?_
          refine rn_iadd dX10_sealIt_292 (rn_nmA (fun v131 rv131 => ?_))
          refine rs_put q3 (kp_SGModel_267 _) hS127 hq3 (hT127.fr hq3 rfl (hT121.fr hq3 rfl (hT108.fr hq3 rfl ((hn101 _ (ts_ne hq94 hq3 rfl)).trans ((hn96 _ (ts_ne hq94 hq3 rfl)).trans hl93))))) hf3 hk_30 rfl rfl (tv_i rv131) rfl rfl dX10_sealIt_293 (fun w132 fs133 hS133 hl133 hf133 hx133 ho133 hn133 => ?_)
          have ht134 := tw_eq (byt_ne hn133 (ts_ne hq3 hob1 rfl)) ht128
          have ht135 := tw_eq (byt_ne hn133 (ts_ne hq3 hob1 rfl)) ht129
          have ht136 := tw_eq (byt_ne hn133 (ts_ne hq3 hob1 rfl)) ht130
          exact rn_vret dX10_sealIt_296 rfl (rq_in ⟨hS133, rfl, (by rw [ht134]; exact ⟨by have := rv69.1; have := rv69.2; have := rv15.1; have := rv15.2; have := rk_2.1; have := rk_2.2; have := rv14.1; have := rv14.2; have := rv12.1; have := rv12.2; have := r9.1; have := r9.2; have := rk_36.1; have := rk_36.2; omega, by have := rv69.1; have := rv69.2; have := rv15.1; have := rv15.2; have := rk_2.1; have := rk_2.2; have := rv14.1; have := rv14.2; have := rv12.1; have := rv12.2; have := r9.1; have := r9.2; have := rk_36.1; have := rk_36.2; omega⟩)⟩)
        · have ch85 := cv_ne h85
          have r137 : Rg (1) (1) v83 := rf_nel ch85 rv83 rk_0 (by decide) (by decide)
          refine rn_sipush (v := (16384 : Int32)) dX10_sealIt_220 (by decide) ?_
          refine rn_goto (tgt := 227) dX10_sealIt_223 (by decide) ?_
          refine rn_callV (a := 0) (b := 0) [.int (4406 : Int32), .int (16384 : Int32)] kl_SGModel_144 dX10_sealIt_227 q3 (hT78.fr hq3 rfl (hT72.fr hq3 rfl ((hn67 _ (ts_ne hq61 hq3 rfl)).trans ((hn63 _ (ts_ne hq61 hq3 rfl)).trans (hT60.fr hq3 rfl (hT51.fr hq3 rfl (hT48.fr hq3 rfl (hT44.fr hq3 rfl ((hn38 _ (ts_ne hq31 hq3 rfl)).trans ((hn33 _ (ts_ne hq31 hq3 rfl)).trans (hT23.fr hq3 rfl (hT18.fr hq3 rfl hl3)))))))))))) rfl (t_X10_putTwo G S w76 hS78.1 o0_ m0_ (4406 : Int32) (rg_w rk_4406 (by decide) (by decide)) (16384 : Int32)) rfl rfl (Nat.le_of_ble_eq_true rfl) (Nat.le_of_ble_eq_true rfl) (Nat.le_of_ble_eq_true rfl) (Nat.le_of_ble_eq_true rfl) (Nat.le_of_ble_eq_true rfl) (Nat.le_of_ble_eq_true rfl) (fun _ _ h => False.elim h) (fun v9 w138 h139 => ?_)
          obtain ⟨hT140, rfl, xah139⟩ := h139
          have hS140 := St.tr hS78 hT140 rfl
          have ht141 := bsame.keep xah139.1 ht79 (by have := rk_16384.1; have := rk_16384.2; have := rk_4406.1; have := rk_4406.2; omega)
          have ht142 := bsame.keep xah139.1 ht80 (by have := rk_16384.1; have := rk_16384.2; have := rk_4406.1; have := rk_4406.2; omega)
          have ht143 : tw (byt w138) 4406 = (16384 : Int32).toInt := xah139.2 4406 (by decide) (by have := rk_16384.1; omega) (by have := rk_16384.2; omega)
          refine rn_stk [] rfl ?_
          refine rn_aload_n (i := 0) dX10_sealIt_230 rfl rfl ?_
          have hl144 := (hT140.fr hq3 rfl (hT78.fr hq3 rfl (hT72.fr hq3 rfl ((hn67 _ (ts_ne hq61 hq3 rfl)).trans ((hn63 _ (ts_ne hq61 hq3 rfl)).trans (hT60.fr hq3 rfl (hT51.fr hq3 rfl (hT48.fr hq3 rfl (hT44.fr hq3 rfl ((hn38 _ (ts_ne hq31 hq3 rfl)).trans ((hn33 _ (ts_ne hq31 hq3 rfl)).trans (hT23.fr hq3 rfl (hT18.fr hq3 rfl hl3)))))))))))))
          refine rn_get q3 kg_SGModel_7 hl144 hx28 dX10_sealIt_231 ?_
          refine rn_sipush (v := (4408 : Int32)) dX10_sealIt_234 (by decide) ?_
          refine rn_bipush (v := (64 : Int32)) dX10_sealIt_237 (by decide) ?_
          obtain ⟨q145, f145, hq145, hl145, hf145⟩ := ts_ia hS140.1 m28 hk_33
          refine rs_iast q145 hS140 hq145 hl145 hf145 hk_33 rfl rfl rk_4408 (by decide) (by decide) (rg_w rk_64 (by decide) (by decide)) dX10_sealIt_239 (fun w146 f147 hS147 hl147 hf147 hu147 hn147 => ?_)
          have ht148 := tw_two (byt_st hS140.1 hS147.1 hq145 hl145 hl147 hu147 (by have := rk_4408.1; have := rk_4408.2; omega) 4402 (by have := rk_4408.1; have := rk_4408.2; omega)) (byt_st hS140.1 hS147.1 hq145 hl145 hl147 hu147 (by have := rk_4408.1; have := rk_4408.2; omega) 4403 (by have := rk_4408.1; have := rk_4408.2; omega)) ht141
          have ht149 := tw_two (byt_st hS140.1 hS147.1 hq145 hl145 hl147 hu147 (by have := rk_4408.1; have := rk_4408.2; omega) 4404 (by have := rk_4408.1; have := rk_4408.2; omega)) (byt_st hS140.1 hS147.1 hq145 hl145 hl147 hu147 (by have := rk_4408.1; have := rk_4408.2; omega) 4405 (by have := rk_4408.1; have := rk_4408.2; omega)) ht142
          have ht150 := tw_two (byt_st hS140.1 hS147.1 hq145 hl145 hl147 hu147 (by have := rk_4408.1; have := rk_4408.2; omega) 4406 (by have := rk_4408.1; have := rk_4408.2; omega)) (byt_st hS140.1 hS147.1 hq145 hl145 hl147 hu147 (by have := rk_4408.1; have := rk_4408.2; omega) 4407 (by have := rk_4408.1; have := rk_4408.2; omega)) ht143
          refine rn_aload_n (i := 0) dX10_sealIt_240 rfl rfl ?_
          refine rn_get q3 kg_SGModel_7 ((hn147 _ (ts_ne hq145 hq3 rfl)).trans hl144) hx28 dX10_sealIt_241 ?_
          refine rn_sipush (v := (4409 : Int32)) dX10_sealIt_244 (by decide) ?_
          refine rn_bipush (v := (50 : Int32)) dX10_sealIt_247 (by decide) ?_
          refine rs_iast q145 hS147 hq145 hl147 hf147 hk_33 rfl rfl rk_4409 (by decide) (by decide) (rg_w rk_50 (by decide) (by decide)) dX10_sealIt_249 (fun w151 f152 hS152 hl152 hf152 hu152 hn152 => ?_)
          have ht153 := tw_two (byt_st hS147.1 hS152.1 hq145 hl147 hl152 hu152 (by have := rk_4409.1; have := rk_4409.2; omega) 4402 (by have := rk_4409.1; have := rk_4409.2; omega)) (byt_st hS147.1 hS152.1 hq145 hl147 hl152 hu152 (by have := rk_4409.1; have := rk_4409.2; omega) 4403 (by have := rk_4409.1; have := rk_4409.2; omega)) ht148
          have ht154 := tw_two (byt_st hS147.1 hS152.1 hq145 hl147 hl152 hu152 (by have := rk_4409.1; have := rk_4409.2; omega) 4404 (by have := rk_4409.1; have := rk_4409.2; omega)) (byt_st hS147.1 hS152.1 hq145 hl147 hl152 hu152 (by have := rk_4409.1; have := rk_4409.2; omega) 4405 (by have := rk_4409.1; have := rk_4409.2; omega)) ht149
          have ht155 := tw_two (byt_st hS147.1 hS152.1 hq145 hl147 hl152 hu152 (by have := rk_4409.1; have := rk_4409.2; omega) 4406 (by have := rk_4409.1; have := rk_4409.2; omega)) (byt_st hS147.1 hS152.1 hq145 hl147 hl152 hu152 (by have := rk_4409.1; have := rk_4409.2; omega) 4407 (by have := rk_4409.1; have := rk_4409.2; omega)) ht150
          refine rn_aload_n (i := 0) dX10_sealIt_250 rfl rfl ?_
          refine rn_sipush (v := (4412 : Int32)) dX10_sealIt_251 (by decide) ?_
          refine rn_aload_n (i := 0) dX10_sealIt_254 rfl rfl ?_
          obtain ⟨x156, hx156, rx156⟩ := fs_i hf3 1 rfl
          refine rn_get q3 kg_SGModel_134 ((hn152 _ (ts_ne hq145 hq3 rfl)).trans ((hn147 _ (ts_ne hq145 hq3 rfl)).trans hl144)) hx156 dX10_sealIt_255 ?_
          refine rn_callV (a := 0) (b := 0) [.int (4412 : Int32), .int x156] kl_SGModel_148 dX10_sealIt_258 q3 ((hn152 _ (ts_ne hq145 hq3 rfl)).trans ((hn147 _ (ts_ne hq145 hq3 rfl)).trans hl144)) rfl (t_X10_putFour G S w151 hS152.1 o0_ m0_ (4412 : Int32) (rg_w rk_4412 (by decide) (by decide)) x156) rfl rfl (Nat.le_of_ble_eq_true rfl) (Nat.le_of_ble_eq_true rfl) (Nat.le_of_ble_eq_true rfl) (Nat.le_of_ble_eq_true rfl) (Nat.le_of_ble_eq_true rfl) (Nat.le_of_ble_eq_true rfl) (fun _ _ h => False.elim h) (fun v9 w157 h158 => ?_)
          obtain ⟨hT159, rfl, xah158⟩ := h158
          have hS159 := St.tr hS152 hT159 rfl
          have ht160 := bsame.keep xah158 ht153 (by have := rx156.1; have := rx156.2; have := rk_4412.1; have := rk_4412.2; omega)
          have ht161 := bsame.keep xah158 ht154 (by have := rx156.1; have := rx156.2; have := rk_4412.1; have := rk_4412.2; omega)
          have ht162 := bsame.keep xah158 ht155 (by have := rx156.1; have := rx156.2; have := rk_4412.1; have := rk_4412.2; omega)
          refine rn_stk [] rfl ?_
          refine rn_aload_n (i := 0) dX10_sealIt_261 rfl rfl ?_
          have hl163 := (hT159.fr hq40 rfl ((hn152 _ (ts_ne hq145 hq40 rfl)).trans ((hn147 _ (ts_ne hq145 hq40 rfl)).trans (hT140.fr hq40 rfl (hT78.fr hq40 rfl (hT72.fr hq40 rfl ((hn67 _ (ts_ne hq61 hq40 rfl)).trans ((hn63 _ (ts_ne hq61 hq40 rfl)).trans (hT60.fr hq40 rfl (hT51.fr hq40 rfl (hT48.fr hq40 rfl (hT44.fr hq40 rfl hl40))))))))))))
          refine rn_sipush (v := (4416 : Int32)) dX10_sealIt_262 (by decide) ?_
          refine rn_aload_n (i := 0) dX10_sealIt_265 rfl rfl ?_
          obtain ⟨o164, hx164, m164⟩ := fs_r hf3 8 rfl
          refine rn_get q3 kg_SGModel_22 (hT159.fr hq3 rfl ((hn152 _ (ts_ne hq145 hq3 rfl)).trans ((hn147 _ (ts_ne hq145 hq3 rfl)).trans hl144))) hx164 dX10_sealIt_266 ?_
          refine rn_aload_n (i := 0) dX10_sealIt_269 rfl rfl ?_
          obtain ⟨o165, hx165, m165⟩ := fs_r hf3 24 rfl
          refine rn_get q3 kg_SGModel_60 (hT159.fr hq3 rfl ((hn152 _ (ts_ne hq145 hq3 rfl)).trans ((hn147 _ (ts_ne hq145 hq3 rfl)).trans hl144))) hx165 dX10_sealIt_270 ?_
          refine rn_iload_n (i := 2) dX10_sealIt_273 rfl rfl ?_
          obtain ⟨q166, f166, hq166, hl166, hf166⟩ := ts_ia hS159.1 m165 hk_55
          refine rs_iald q166 hl166 hf166 rfl r2_ (by decide) (by decide) dX10_sealIt_274 (fun v167 ev167 rv167 => ?_)
          obtain ⟨q168, f168, hq168, hl168, hf168⟩ := ts_ia hS159.1 m164 hk_39
          refine rs_iald q168 hl168 hf168 rfl rv167 (by decide) (by decide) dX10_sealIt_275 (fun v169 ev169 rv169 => ?_)
          refine rn_callV (a := 0) (b := 0) [.int (4416 : Int32), .int v169] kl_SGModel_148 dX10_sealIt_276 q3 (hT159.fr hq3 rfl ((hn152 _ (ts_ne hq145 hq3 rfl)).trans ((hn147 _ (ts_ne hq145 hq3 rfl)).trans hl144))) rfl (t_X10_putFour G S w157 hS159.1 o0_ m0_ (4416 : Int32) (rg_w rk_4416 (by decide) (by decide)) v169) rfl rfl (Nat.le_of_ble_eq_true rfl) (Nat.le_of_ble_eq_true rfl) (Nat.le_of_ble_eq_true rfl) (Nat.le_of_ble_eq_true rfl) (Nat.le_of_ble_eq_true rfl) (Nat.le_of_ble_eq_true rfl) (fun _ _ h => False.elim h) (fun v9 w170 h171 => ?_)
          obtain ⟨hT172, rfl, xah171⟩ := h171
          have hS172 := St.tr hS159 hT172 rfl
          have ht173 := bsame.keep xah171 ht160 (by have := rv169.1; have := rv169.2; have := rk_4416.1; have := rk_4416.2; omega)
          have ht174 := bsame.keep xah171 ht161 (by have := rv169.1; have := rv169.2; have := rk_4416.1; have := rk_4416.2; omega)
          have ht175 := bsame.keep xah171 ht162 (by have := rv169.1; have := rv169.2; have := rk_4416.1; have := rk_4416.2; omega)
          refine rn_stk [] rfl ?_
          refine rn_aload_n (i := 0) dX10_sealIt_279 rfl rfl ?_
          refine rn_sipush (v := (4400 : Int32)) dX10_sealIt_280 (by decide) ?_
          refine rn_callV (a := 0) (b := 0) [.int (4400 : Int32)] kl_SGModel_184 dX10_sealIt_283 q3 (hT172.fr hq3 rfl (hT159.fr hq3 rfl ((hn152 _ (ts_ne hq145 hq3 rfl)).trans ((hn147 _ (ts_ne hq145 hq3 rfl)).trans hl144)))) rfl (t_X10_setSum G S w170 hS172.1 o0_ m0_ (4400 : Int32) (rg_w rk_4400 (by decide) (by decide))) rfl rfl (Nat.le_of_ble_eq_true rfl) (Nat.le_of_ble_eq_true rfl) (Nat.le_of_ble_eq_true rfl) (Nat.le_of_ble_eq_true rfl) (Nat.le_of_ble_eq_true rfl) (Nat.le_of_ble_eq_true rfl) (fun _ _ h => False.elim h) (fun v9 w176 h177 => ?_)
          obtain ⟨hT178, rfl, xah177⟩ := h177
          have hS178 := St.tr hS172 hT178 rfl
          have ht179 := bsame.keep xah177 ht173 (by have := rk_4400.1; have := rk_4400.2; omega)
          have ht180 := bsame.keep xah177 ht174 (by have := rk_4400.1; have := rk_4400.2; omega)
          have ht181 := bsame.keep xah177 ht175 (by have := rk_4400.1; have := rk_4400.2; omega)
          refine rn_stk [] rfl ?_
          refine rn_aload_n (i := 0) dX10_sealIt_286 rfl rfl ?_
          refine rn_dup dX10_sealIt_287 rfl ?_
          refine rn_get q3 kg_SGModel_267 (hT178.fr hq3 rfl (hT172.fr hq3 rfl (hT159.fr hq3 rfl ((hn152 _ (ts_ne hq145 hq3 rfl)).trans ((hn147 _ (ts_ne hq145 hq3 rfl)).trans hl144))))) hx74 dX10_sealIt_288 ?_
          refine rn_iconst (v := (1 : Int32)) dX10_sealIt_291 (by decide) ?_
          refine rn_iadd dX10_sealIt_292 (rn_nmA (fun v182 rv182 => ?_))
          refine rs_put q3 (kp_SGModel_267 _) hS178 hq3 (hT178.fr hq3 rfl (hT172.fr hq3 rfl (hT159.fr hq3 rfl ((hn152 _ (ts_ne hq145 hq3 rfl)).trans ((hn147 _ (ts_ne hq145 hq3 rfl)).trans hl144))))) hf3 hk_30 rfl rfl (tv_i rv182) rfl rfl dX10_sealIt_293 (fun w183 fs184 hS184 hl184 hf184 hx184 ho184 hn184 => ?_)
          have ht185 := tw_eq (byt_ne hn184 (ts_ne hq3 hob1 rfl)) ht179
          have ht186 := tw_eq (byt_ne hn184 (ts_ne hq3 hob1 rfl)) ht180
          have ht187 := tw_eq (byt_ne hn184 (ts_ne hq3 hob1 rfl)) ht181
          exact rn_vret dX10_sealIt_296 rfl (rq_in ⟨hS184, rfl, (by rw [ht185]; exact ⟨by have := rv69.1; have := rv69.2; have := rv15.1; have := rv15.2; have := rk_2.1; have := rk_2.2; have := rv14.1; have := rv14.2; have := rv12.1; have := rv12.2; have := r9.1; have := r9.2; have := rk_36.1; have := rk_36.2; omega, by have := rv69.1; have := rv69.2; have := rv15.1; have := rv15.2; have := rk_2.1; have := rk_2.2; have := rv14.1; have := rv14.2; have := rv12.1; have := rv12.2; have := r9.1; have := r9.2; have := rk_36.1; have := rk_36.2; omega⟩)⟩)
      · have ch26 := cv_nlt h26
        have r188 : Rg (1) (3) x20 := rf_lex ch26 r24 rv12 (by decide)
        have r189 : Rg (1) (3) v12 := rf_ley ch26 r24 rv12 (by decide)
        refine rn_aload_n (i := 0) dX10_sealIt_47 rfl rfl ?_
        obtain ⟨o190, hx190, m190⟩ := fs_r hf3 2 rfl
        refine rn_get q3 kg_SGModel_7 (hT23.fr hq3 rfl (hT18.fr hq3 rfl hl3)) hx190 dX10_sealIt_48 ?_
        refine rn_iload dX10_sealIt_51 rfl ?_
        refine rn_iload dX10_sealIt_53 rfl ?_
        refine rs_addD (4428) (6428) rk_4428 r9 dX10_sealIt_55 (by decide) (fun v191 ev191 rv191 => ?_)
        refine rn_iload dX10_sealIt_56 rfl ?_
        refine rs_addR (4429) (6431) rv191 r188 dX10_sealIt_58 (by decide) (fun v192 ev192 rv192 => ?_)
        refine rn_iconst (v := (1 : Int32)) dX10_sealIt_59 (by decide) ?_
        refine rs_subC (4428) (6430) rv192 rk_1 dX10_sealIt_60 (by decide) (fun v193 ev193 rv193 => ?_)
        refine rn_iload dX10_sealIt_61 rfl ?_
        obtain ⟨q194, f194, hq194, hl194, hf194⟩ := ts_ia hT23.1 m190 hk_33
        refine rs_iast q194 hT23 hq194 hl194 hf194 hk_33 rfl rfl rv193 (by decide) (by decide) (rg_w r188 (by decide) (by decide)) dX10_sealIt_63 (fun w195 f196 hS196 hl196 hf196 hu196 hn196 => ?_)
        refine rs_iinc (2) (4) dX10_sealIt_64 rfl (by decide) r188 rk_1 (by decide) (fun v197 => [(0, .ref o0_), (1, .int (2200 : Int32)), (2, .int x2_), (3, .long y3_), (5, .int v7), (6, .int v12), (7, .int (4428 : Int32)), (8, .int v15), (9, .int v197)]) (fun _ => rfl) (fun v197 ev197 rv197 => ?_)
        refine rn_goto (tgt := 40) dX10_sealIt_67 (by decide) ?_
        refine rn_lv [(0, .ref o0_), (1, .int (2200 : Int32)), (2, .int x2_), (3, .long y3_), (5, .int v7), (6, .int v12), (7, .int (4428 : Int32)), (8, .int v15), (9, .int v197)] rfl ?_
        exact ih _ (lp_inc hm25 ev197 rv197 (by decide)) w195 v197 hS196 (rg_w rv197 (by decide) (by decide)) rfl
  exact LP21 _ w16 (1 : Int32) (St.rf hS18.1) (rg_w rk_1 (by decide) (by decide)) rfl
