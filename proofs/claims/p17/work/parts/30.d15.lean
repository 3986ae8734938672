abbrev q_t_X10_comeOuter_2200 (G : rn_G) (S : ts_S) (ws : va_W) : rn_R → va_W → Prop := rQ (fun v w => St G S [30, 33, 60, 62, 63, 65, 67, 68, 69, 70, 71, 72, 73, 77, 78, 79, 80, 81] ws S w ∧ (∃ x : Int32, v = some (.int x) ∧ Rg (0) (17) x ∧ fK1 4 S ws w)) (fun E w => False)
set_option maxRecDepth 20000 in
set_option maxHeartbeats 4000000 in
theorem t_X10_comeOuter_2200 (G : rn_G) (S : ts_S) (ws : va_W) (hW : ts_W G S ws) (o0_ : Nat) (m0_ : (o0_, 30) ∈ S) (hw2202_ : 20 ≤ tw (byt ws) 2202 ∧ tw (byt ws) 2202 ≤ 2000) : Rn G mX10_comeOuter 7 166 0 0 0 (lv_args 0 [.ref o0_, .int (2200 : Int32)]) [] ws (q_t_X10_comeOuter_2200 G S ws ) := by
  have hS0 : St G S [30, 33, 60, 62, 63, 65, 67, 68, 69, 70, 71, 72, 73, 77, 78, 79, 80, 81] ws S ws := St.rf hW
  have fk0 : fK1 4 S ws ws := fun v h => h
  obtain ⟨ob1, hob1⟩ := hS0.1.2.1.2
  obtain ⟨T2, ht2⟩ : ∃ t : Int, tw (byt ws) 2202 = t := ⟨_, rfl⟩
  rw [ht2] at hw2202_
  refine rn_lv [(0, .ref o0_), (1, .int (2200 : Int32))] rfl ?_
  refine rn_aload_n (i := 0) dX10_comeOuter_0 rfl rfl ?_
  obtain ⟨q3, fs3, hq3, hl3, hf3⟩ := ts_obj hS0.1 m0_ hk_30
  obtain ⟨o4, hx4, m4⟩ := fs_r hf3 2 rfl
  refine rn_get q3 kg_SGModel_7 hl3 hx4 dX10_comeOuter_1 ?_
  refine rn_iload_n (i := 1) dX10_comeOuter_4 rfl rfl ?_
  refine rn_bipush (v := (9 : Int32)) dX10_comeOuter_5 (by decide) ?_
  refine rn_iadd dX10_comeOuter_7 (rn_topi (2209 : Int32) (by decide) ?_)
  obtain ⟨q6, f6, hq6, hl6, hf6⟩ := ts_ia hS0.1 m4 hk_33
  refine rs_iald q6 hl6 hf6 rfl rk_2209 (by decide) (by decide) dX10_comeOuter_8 (fun v7 ev7 rv7 => ?_)
  have hbv7 : byt ws 2209 = v7 := by rw [byt_of hS0.1 hq6 hl6, ev7]; exact congrArg _ (by decide)
  refine rn_bipush (v := (50 : Int32)) dX10_comeOuter_9 (by decide) ?_
  refine rn_icmp_ne (tgt := 61) dX10_comeOuter_11 (by decide) (fun h8 => ?_) (fun h8 => ?_)
  · have ch8 := cv_ne h8
    refine rn_aload_n (i := 0) dX10_comeOuter_61 rfl rfl ?_
    refine rn_iconst (v := (1 : Int32)) dX10_comeOuter_62 (by decide) ?_
    refine rn_iload_n (i := 1) dX10_comeOuter_63 rfl rfl ?_
    refine rn_callV (a := 0) (b := 0) [.int (1 : Int32), .int (2200 : Int32)] kl_SGModel_228 dX10_comeOuter_64 q3 hl3 rfl (t_X10_policyOf G S ws hS0.1 o0_ m0_ (1 : Int32) (2200 : Int32) (rg_w rk_2200 (by decide) (by decide))) rfl rfl (Nat.le_of_ble_eq_true rfl) (Nat.le_of_ble_eq_true rfl) (Nat.le_of_ble_eq_true rfl) (Nat.le_of_ble_eq_true rfl) (Nat.le_of_ble_eq_true rfl) (Nat.le_of_ble_eq_true rfl) (fun _ _ h => False.elim h) (fun v9 w9 h10 => ?_)
    obtain ⟨rfl, v11, rfl, rv11⟩ := h10
    refine rn_stk [.int v11] rfl ?_
    refine rn_istore_n dX10_comeOuter_67 rfl (by decide) [(0, .ref o0_), (1, .int (2200 : Int32)), (2, .int v11)] rfl ?_
    refine rn_iload_n (i := 2) dX10_comeOuter_68 rfl rfl ?_
    refine rn_if_lt (tgt := 82) dX10_comeOuter_69 (by decide) (fun h13 => ?_) (fun h13 => ?_)
    · have ch13 := cv_lt h13
      have r14 : Rg (-1) (-1) v11 := rf_ltx ch13 rv11 rk_0 (by decide)
      refine rn_aload_n (i := 0) dX10_comeOuter_82 rfl rfl ?_
      refine rn_bipush (v := (16 : Int32)) dX10_comeOuter_83 (by decide) ?_
      refine rn_iload_n (i := 1) dX10_comeOuter_85 rfl rfl ?_
      refine rn_iconst (v := (0 : Int32)) dX10_comeOuter_86 (by decide) ?_
      refine rn_iconst (v := (0 : Int32)) dX10_comeOuter_87 (by decide) ?_
      refine rn_callV (a := 0) (b := 0) [.int (16 : Int32), .int (2200 : Int32), .int (0 : Int32), .int (0 : Int32)] kl_SGModel_323 dX10_comeOuter_88 q3 hl3 rfl (t_X10_note G S ws hS0.1 o0_ m0_ (16 : Int32) (rg_w rk_16 (by decide) (by decide)) (2200 : Int32) (rg_w rk_2200 (by decide) (by decide)) (0 : Int32) (0 : Int32)) rfl rfl (Nat.le_of_ble_eq_true rfl) (Nat.le_of_ble_eq_true rfl) (Nat.le_of_ble_eq_true rfl) (Nat.le_of_ble_eq_true rfl) (Nat.le_of_ble_eq_true rfl) (Nat.le_of_ble_eq_true rfl) (fun _ _ h => False.elim h) (fun v9 w15 h16 => ?_)
      obtain ⟨hT18, v17, rfl, rv17, fkh16⟩ := h16
      have hS18 := St.tr hS0 hT18 rfl
      have ht19 := tw_eq (byt_fr hS0.1 hT18 rfl) ht2
      have hb20 := (congrFun (byt_fr hS0.1 hT18 rfl) 2209).trans hbv7
      have fk21 : fK1 4 S ws w15 := fk_tr fk0 fkh16
      refine rn_stk [.int v17] rfl ?_
      exact rn_iret dX10_comeOuter_91 rfl rfl (rq_in ⟨hS18, v17, rfl, rv17, fk21⟩)
    · have ch13 := cv_nlt h13
      have r22 : Rg (0) (23) v11 := rf_ley ch13 rk_0 rv11 (by decide)
      refine rn_aload_n (i := 0) dX10_comeOuter_72 rfl rfl ?_
      obtain ⟨o23, hx23, m23⟩ := fs_r hf3 18 rfl
      refine rn_get q3 kg_SGModel_49 hl3 hx23 dX10_comeOuter_73 ?_
      refine rn_iload_n (i := 2) dX10_comeOuter_76 rfl rfl ?_
      obtain ⟨q24, f24, hq24, hl24, hf24⟩ := ts_ia hS0.1 m23 hk_49
      refine rs_iald q24 hl24 hf24 rfl r22 (by decide) (by decide) dX10_comeOuter_77 (fun v25 ev25 rv25 => ?_)
      refine rn_iconst (v := (-1 : Int32)) dX10_comeOuter_78 (by decide) ?_
      refine rn_icmp_eq (tgt := 92) dX10_comeOuter_79 (by decide) (fun h26 => ?_) (fun h26 => ?_)
      · have ch26 := cv_eq h26
        have r27 : Rg (-1) (-1) v25 := rf_eqx ch26 rv25 rk_m1 (by decide) (by decide)
        refine rn_aload_n (i := 0) dX10_comeOuter_92 rfl rfl ?_
        refine rn_iload_n (i := 1) dX10_comeOuter_93 rfl rfl ?_
        refine rn_callV (a := 0) (b := 0) [.int (2200 : Int32)] kl_SGModel_344 dX10_comeOuter_94 q3 hl3 rfl (t_X10_goIn_2200 G S ws hS0.1 o0_ m0_ (by rw [ht2]; exact ⟨by omega, by omega⟩)) rfl rfl (Nat.le_of_ble_eq_true rfl) (Nat.le_of_ble_eq_true rfl) (Nat.le_of_ble_eq_true rfl) (Nat.le_of_ble_eq_true rfl) (Nat.le_of_ble_eq_true rfl) (Nat.le_of_ble_eq_true rfl) (fun _ _ h => False.elim h) (fun v9 w28 h29 => ?_)
        obtain ⟨hT31, v30, rfl, rv30, fkh29⟩ := h29
        have hS31 := St.tr hS0 hT31 rfl
        have fk32 : fK1 4 S ws w28 := fk_tr fk0 fkh29
        refine rn_stk [.int v30] rfl ?_
        exact rn_iret dX10_comeOuter_97 rfl rfl (rq_in ⟨hS31, v30, rfl, (rg_w rv30 (by decide) (by decide)), fk32⟩)
      · have ch26 := cv_ne h26
        refine rn_aload_n (i := 0) dX10_comeOuter_82 rfl rfl ?_
        refine rn_bipush (v := (16 : Int32)) dX10_comeOuter_83 (by decide) ?_
        refine rn_iload_n (i := 1) dX10_comeOuter_85 rfl rfl ?_
        refine rn_iconst (v := (0 : Int32)) dX10_comeOuter_86 (by decide) ?_
        refine rn_iconst (v := (0 : Int32)) dX10_comeOuter_87 (by decide) ?_
        refine rn_callV (a := 0) (b := 0) [.int (16 : Int32), .int (2200 : Int32), .int (0 : Int32), .int (0 : Int32)] kl_SGModel_323 dX10_comeOuter_88 q3 hl3 rfl (t_X10_note G S ws hS0.1 o0_ m0_ (16 : Int32) (rg_w rk_16 (by decide) (by decide)) (2200 : Int32) (rg_w rk_2200 (by decide) (by decide)) (0 : Int32) (0 : Int32)) rfl rfl (Nat.le_of_ble_eq_true rfl) (Nat.le_of_ble_eq_true rfl) (Nat.le_of_ble_eq_true rfl) (Nat.le_of_ble_eq_true rfl) (Nat.le_of_ble_eq_true rfl) (Nat.le_of_ble_eq_true rfl) (fun _ _ h => False.elim h) (fun v9 w33 h34 => ?_)
        obtain ⟨hT36, v35, rfl, rv35, fkh34⟩ := h34
        have hS36 := St.tr hS0 hT36 rfl
        have ht37 := tw_eq (byt_fr hS0.1 hT36 rfl) ht2
        have hb38 := (congrFun (byt_fr hS0.1 hT36 rfl) 2209).trans hbv7
        have fk39 : fK1 4 S ws w33 := fk_tr fk0 fkh34
        refine rn_stk [.int v35] rfl ?_
        exact rn_iret dX10_comeOuter_91 rfl rfl (rq_in ⟨hS36, v35, rfl, rv35, fk39⟩)
  · have ch8 := cv_eq h8
    have r40 : Rg (50) (50) v7 := rf_eqx ch8 rv7 rk_50 (by decide) (by decide)
    refine rn_aload_n (i := 0) dX10_comeOuter_14 rfl rfl ?_
    refine rn_iload_n (i := 1) dX10_comeOuter_15 rfl rfl ?_
    refine rn_bipush (v := (16 : Int32)) dX10_comeOuter_16 (by decide) ?_
    refine rn_iadd dX10_comeOuter_18 (rn_topi (2216 : Int32) (by decide) ?_)
    refine rn_callV (a := 0) (b := 0) [.int (2216 : Int32)] kl_SGModel_218 dX10_comeOuter_19 q3 hl3 rfl (t_X10_four G S ws hS0.1 o0_ m0_ (2216 : Int32) (rg_w rk_2216 (by decide) (by decide))) rfl rfl (Nat.le_of_ble_eq_true rfl) (Nat.le_of_ble_eq_true rfl) (Nat.le_of_ble_eq_true rfl) (Nat.le_of_ble_eq_true rfl) (Nat.le_of_ble_eq_true rfl) (Nat.le_of_ble_eq_true rfl) (fun _ _ h => False.elim h) (fun v9 w42 h43 => ?_)
    obtain ⟨rfl, v44, rfl, rv44⟩ := h43
    refine rn_stk [.int v44] rfl ?_
    refine rn_aload_n (i := 0) dX10_comeOuter_22 rfl rfl ?_
    obtain ⟨x46, hx46, rx46⟩ := fs_i hf3 1 rfl
    refine rn_get q3 kg_SGModel_134 hl3 hx46 dX10_comeOuter_23 ?_
    refine rn_icmp_ne (tgt := 61) dX10_comeOuter_26 (by decide) (fun h47 => ?_) (fun h47 => ?_)
    · have ch47 := cv_ne h47
      refine rn_aload_n (i := 0) dX10_comeOuter_61 rfl rfl ?_
      refine rn_iconst (v := (1 : Int32)) dX10_comeOuter_62 (by decide) ?_
      refine rn_iload_n (i := 1) dX10_comeOuter_63 rfl rfl ?_
      refine rn_callV (a := 0) (b := 0) [.int (1 : Int32), .int (2200 : Int32)] kl_SGModel_228 dX10_comeOuter_64 q3 hl3 rfl (t_X10_policyOf G S ws hS0.1 o0_ m0_ (1 : Int32) (2200 : Int32) (rg_w rk_2200 (by decide) (by decide))) rfl rfl (Nat.le_of_ble_eq_true rfl) (Nat.le_of_ble_eq_true rfl) (Nat.le_of_ble_eq_true rfl) (Nat.le_of_ble_eq_true rfl) (Nat.le_of_ble_eq_true rfl) (Nat.le_of_ble_eq_true rfl) (fun _ _ h => False.elim h) (fun v9 w48 h49 => ?_)
      obtain ⟨rfl, v50, rfl, rv50⟩ := h49
      refine rn_stk [.int v50] rfl ?_
      refine rn_istore_n dX10_comeOuter_67 rfl (by decide) [(0, .ref o0_), (1, .int (2200 : Int32)), (2, .int v50)] rfl ?_
      refine rn_iload_n (i := 2) dX10_comeOuter_68 rfl rfl ?_
      refine rn_if_lt (tgt := 82) dX10_comeOuter_69 (by decide) (fun h52 => ?_) (fun h52 => ?_)
      · have ch52 := cv_lt h52
        have r53 : Rg (-1) (-1) v50 := rf_ltx ch52 rv50 rk_0 (by decide)
        refine rn_aload_n (i := 0) dX10_comeOuter_82 rfl rfl ?_
        refine rn_bipush (v := (16 : Int32)) dX10_comeOuter_83 (by decide) ?_
        refine rn_iload_n (i := 1) dX10_comeOuter_85 rfl rfl ?_
        refine rn_iconst (v := (0 : Int32)) dX10_comeOuter_86 (by decide) ?_
        refine rn_iconst (v := (0 : Int32)) dX10_comeOuter_87 (by decide) ?_
        refine rn_callV (a := 0) (b := 0) [.int (16 : Int32), .int (2200 : Int32), .int (0 : Int32), .int (0 : Int32)] kl_SGModel_323 dX10_comeOuter_88 q3 hl3 rfl (t_X10_note G S ws hS0.1 o0_ m0_ (16 : Int32) (rg_w rk_16 (by decide) (by decide)) (2200 : Int32) (rg_w rk_2200 (by decide) (by decide)) (0 : Int32) (0 : Int32)) rfl rfl (Nat.le_of_ble_eq_true rfl) (Nat.le_of_ble_eq_true rfl) (Nat.le_of_ble_eq_true rfl) (Nat.le_of_ble_eq_true rfl) (Nat.le_of_ble_eq_true rfl) (Nat.le_of_ble_eq_true rfl) (fun _ _ h => False.elim h) (fun v9 w54 h55 => ?_)
        obtain ⟨hT57, v56, rfl, rv56, fkh55⟩ := h55
        have hS57 := St.tr hS0 hT57 rfl
        have ht58 := tw_eq (byt_fr hS0.1 hT57 rfl) ht2
        have hb59 := (congrFun (byt_fr hS0.1 hT57 rfl) 2209).trans hbv7
        have fk60 : fK1 4 S ws w54 := fk_tr fk0 fkh55
        refine rn_stk [.int v56] rfl ?_
        exact rn_iret dX10_comeOuter_91 rfl rfl (rq_in ⟨hS57, v56, rfl, rv56, fk60⟩)
      · have ch52 := cv_nlt h52
        have r61 : Rg (0) (23) v50 := rf_ley ch52 rk_0 rv50 (by decide)
        refine rn_aload_n (i := 0) dX10_comeOuter_72 rfl rfl ?_
        obtain ⟨o62, hx62, m62⟩ := fs_r hf3 18 rfl
        refine rn_get q3 kg_SGModel_49 hl3 hx62 dX10_comeOuter_73 ?_
        refine rn_iload_n (i := 2) dX10_comeOuter_76 rfl rfl ?_
        obtain ⟨q63, f63, hq63, hl63, hf63⟩ := ts_ia hS0.1 m62 hk_49
        refine rs_iald q63 hl63 hf63 rfl r61 (by decide) (by decide) dX10_comeOuter_77 (fun v64 ev64 rv64 => ?_)
        refine rn_iconst (v := (-1 : Int32)) dX10_comeOuter_78 (by decide) ?_
        refine rn_icmp_eq (tgt := 92) dX10_comeOuter_79 (by decide) (fun h65 => ?_) (fun h65 => ?_)
        · have ch65 := cv_eq h65
          have r66 : Rg (-1) (-1) v64 := rf_eqx ch65 rv64 rk_m1 (by decide) (by decide)
          refine rn_aload_n (i := 0) dX10_comeOuter_92 rfl rfl ?_
          refine rn_iload_n (i := 1) dX10_comeOuter_93 rfl rfl ?_
          refine rn_callV (a := 0) (b := 0) [.int (2200 : Int32)] kl_SGModel_344 dX10_comeOuter_94 q3 hl3 rfl (t_X10_goIn_2200 G S ws hS0.1 o0_ m0_ (by rw [ht2]; exact ⟨by omega, by omega⟩)) rfl rfl (Nat.le_of_ble_eq_true rfl) (Nat.le_of_ble_eq_true rfl) (Nat.le_of_ble_eq_true rfl) (Nat.le_of_ble_eq_true rfl) (Nat.le_of_ble_eq_true rfl) (Nat.le_of_ble_eq_true rfl) (fun _ _ h => False.elim h) (fun v9 w67 h68 => ?_)
          obtain ⟨hT70, v69, rfl, rv69, fkh68⟩ := h68
          have hS70 := St.tr hS0 hT70 rfl
          have fk71 : fK1 4 S ws w67 := fk_tr fk0 fkh68
          refine rn_stk [.int v69] rfl ?_
          exact rn_iret dX10_comeOuter_97 rfl rfl (rq_in ⟨hS70, v69, rfl, (rg_w rv69 (by decide) (by decide)), fk71⟩)
        · have ch65 := cv_ne h65
          refine rn_aload_n (i := 0) dX10_comeOuter_82 rfl rfl ?_
          refine rn_bipush (v := (16 : Int32)) dX10_comeOuter_83 (by decide) ?_
          refine rn_iload_n (i := 1) dX10_comeOuter_85 rfl rfl ?_
          refine rn_iconst (v := (0 : Int32)) dX10_comeOuter_86 (by decide) ?_
          refine rn_iconst (v := (0 : Int32)) dX10_comeOuter_87 (by decide) ?_
          refine rn_callV (a := 0) (b := 0) [.int (16 : Int32), .int (2200 : Int32), .int (0 : Int32), .int (0 : Int32)] kl_SGModel_323 dX10_comeOuter_88 q3 hl3 rfl (t_X10_note G S ws hS0.1 o0_ m0_ (16 : Int32) (rg_w rk_16 (by decide) (by decide)) (2200 : Int32) (rg_w rk_2200 (by decide) (by decide)) (0 : Int32) (0 : Int32)) rfl rfl (Nat.le_of_ble_eq_true rfl) (Nat.le_of_ble_eq_true rfl) (Nat.le_of_ble_eq_true rfl) (Nat.le_of_ble_eq_true rfl) (Nat.le_of_ble_eq_true rfl) (Nat.le_of_ble_eq_true rfl) (fun _ _ h => False.elim h) (fun v9 w72 h73 => ?_)
          obtain ⟨hT75, v74, rfl, rv74, fkh73⟩ := h73
          have hS75 := St.tr hS0 hT75 rfl
          have ht76 := tw_eq (byt_fr hS0.1 hT75 rfl) ht2
          have hb77 := (congrFun (byt_fr hS0.1 hT75 rfl) 2209).trans hbv7
          have fk78 : fK1 4 S ws w72 := fk_tr fk0 fkh73
          refine rn_stk [.int v74] rfl ?_
          exact rn_iret dX10_comeOuter_91 rfl rfl (rq_in ⟨hS75, v74, rfl, rv74, fk78⟩)
    · have ch47 := cv_eq h47
      refine rn_aload_n (i := 0) dX10_comeOuter_29 rfl rfl ?_
      refine rn_iload_n (i := 1) dX10_comeOuter_30 rfl rfl ?_
      refine rn_callV (a := 0) (b := 0) [.int (2200 : Int32)] kl_SGModel_162 dX10_comeOuter_31 q3 hl3 rfl (t_X10_isPart G S ws hS0.1 o0_ m0_ (2200 : Int32) (rg_w rk_2200 (by decide) (by decide))) rfl rfl (Nat.le_of_ble_eq_true rfl) (Nat.le_of_ble_eq_true rfl) (Nat.le_of_ble_eq_true rfl) (Nat.le_of_ble_eq_true rfl) (Nat.le_of_ble_eq_true rfl) (Nat.le_of_ble_eq_true rfl) (fun _ _ h => False.elim h) (fun v9 w79 h80 => ?_)
      obtain ⟨rfl, v81, rfl, rv81⟩ := h80
      refine rn_stk [.int v81] rfl ?_
      refine rn_if_eq (tgt := 45) dX10_comeOuter_34 (by decide) (fun h83 => ?_) (fun h83 => ?_)
      · have ch83 := cv_eq h83
        have r84 : Rg (0) (0) v81 := rf_eqx ch83 rv81 rk_0 (by decide) (by decide)
        refine rn_iconst (v := (0 : Int32)) dX10_comeOuter_45 (by decide) ?_
        refine rn_istore_n dX10_comeOuter_46 rfl (by decide) [(0, .ref o0_), (1, .int (2200 : Int32)), (2, .int (0 : Int32))] rfl ?_
        refine rn_iload_n (i := 2) dX10_comeOuter_47 rfl rfl ?_
        refine rn_if_le (tgt := 55) dX10_comeOuter_48 (by decide) (fun h85 => ?_) (fun h85 => (cx_lt (cv_nle h85) rk_0 rk_0 (by decide)).elim)
        refine rn_aload_n (i := 0) dX10_comeOuter_55 rfl rfl ?_
        refine rn_iload_n (i := 1) dX10_comeOuter_56 rfl rfl ?_
        refine rn_callV (a := 0) (b := 0) [.int (2200 : Int32)] kl_SGModel_350 dX10_comeOuter_57 q3 hl3 rfl (t_X10_open_2200 G S ws hS0.1 o0_ m0_ (by rw [ht2]; exact ⟨by omega, by omega⟩)) rfl rfl (Nat.le_of_ble_eq_true rfl) (Nat.le_of_ble_eq_true rfl) (Nat.le_of_ble_eq_true rfl) (Nat.le_of_ble_eq_true rfl) (Nat.le_of_ble_eq_true rfl) (Nat.le_of_ble_eq_true rfl) (fun _ _ h => False.elim h) (fun v9 w86 h87 => ?_)
        obtain ⟨hT89, v88, rfl, rv88, fkh87⟩ := h87
        have hS89 := St.tr hS0 hT89 rfl
        have fk90 : fK1 4 S ws w86 := fk_tr fk0 fkh87
        refine rn_stk [.int v88] rfl ?_
        exact rn_iret dX10_comeOuter_60 rfl rfl (rq_in ⟨hS89, v88, rfl, rv88, fk90⟩)
      · have ch83 := cv_ne h83
        have r91 : Rg (1) (1) v81 := rf_nel ch83 rv81 rk_0 (by decide) (by decide)
        refine rn_aload_n (i := 0) dX10_comeOuter_37 rfl rfl ?_
        refine rn_iload_n (i := 1) dX10_comeOuter_38 rfl rfl ?_
        refine rn_callV (a := 0) (b := 0) [.int (2200 : Int32)] kl_SGModel_347 dX10_comeOuter_39 q3 hl3 rfl (t_X10_heap_2200 G S ws hS0.1 o0_ m0_ (by rw [ht2]; exact ⟨by omega, by omega⟩)) rfl rfl (Nat.le_of_ble_eq_true rfl) (Nat.le_of_ble_eq_true rfl) (Nat.le_of_ble_eq_true rfl) (Nat.le_of_ble_eq_true rfl) (Nat.le_of_ble_eq_true rfl) (Nat.le_of_ble_eq_true rfl) (fun _ _ h => False.elim h) (fun v9 w92 h93 => ?_)
        obtain ⟨hT95, v94, rfl, rv94, xah93, fkh93⟩ := h93
        have hS95 := St.tr hS0 hT95 rfl
        have fk96 : fK1 4 S ws w92 := fk_tr fk0 fkh93
        obtain ⟨T97, ht97⟩ : ∃ t : Int, tw (byt w92) 2202 = t := ⟨_, rfl⟩
        rw [ht97] at xah93
        refine rn_stk [.int v94] rfl ?_
        refine rn_goto (tgt := 46) dX10_comeOuter_42 (by decide) ?_
        refine rn_istore_n dX10_comeOuter_46 rfl (by decide) [(0, .ref o0_), (1, .int (2200 : Int32)), (2, .int v94)] rfl ?_
        refine rn_iload_n (i := 2) dX10_comeOuter_47 rfl rfl ?_
        refine rn_if_le (tgt := 55) dX10_comeOuter_48 (by decide) (fun h98 => ?_) (fun h98 => ?_)
        · have ch98 := cv_le h98
          have r99 : Rg (0) (0) v94 := rf_lex ch98 rv94 rk_0 (by decide)
          have kr99 := xah93 (Int32.toInt_inj.mp (show v94.toInt = (0 : Int32).toInt by have h1 := r99.1; have h2 := r99.2; have h3 := rk_0.1; have h4 := rk_0.2; omega))
          refine rn_aload_n (i := 0) dX10_comeOuter_55 rfl rfl ?_
          refine rn_iload_n (i := 1) dX10_comeOuter_56 rfl rfl ?_
          obtain ⟨q100, fs100, hq100, hl100, hf100⟩ := ts_obj hS95.1 m0_ hk_30
          refine rn_callV (a := 0) (b := 0) [.int (2200 : Int32)] kl_SGModel_350 dX10_comeOuter_57 q100 hl100 rfl (t_X10_open_2200 G S w92 hS95.1 o0_ m0_ (by rw [ht97]; exact ⟨by omega, by omega⟩)) rfl rfl (Nat.le_of_ble_eq_true rfl) (Nat.le_of_ble_eq_true rfl) (Nat.le_of_ble_eq_true rfl) (Nat.le_of_ble_eq_true rfl) (Nat.le_of_ble_eq_true rfl) (Nat.le_of_ble_eq_true rfl) (fun _ _ h => False.elim h) (fun v9 w101 h102 => ?_)
          obtain ⟨hT104, v103, rfl, rv103, fkh102⟩ := h102
          have hS104 := St.tr hS95 hT104 rfl
          have fk105 : fK1 4 S ws w101 := fk_tr fk96 fkh102
          refine rn_stk [.int v103] rfl ?_
          exact rn_iret dX10_comeOuter_60 rfl rfl (rq_in ⟨hS104, v103, rfl, rv103, fk105⟩)
        · have ch98 := cv_nle h98
          have r106 : Rg (1) (17) v94 := rf_lty ch98 rk_0 rv94 (by decide)
          refine rn_iload_n (i := 2) dX10_comeOuter_51 rfl rfl ?_
          refine rn_goto (tgt := 60) dX10_comeOuter_52 (by decide) ?_
          exact rn_iret dX10_comeOuter_60 rfl rfl (rq_in ⟨hS95, v94, rfl, (rg_w r106 (by decide) (by decide)), fk96⟩)
abbrev q_t_X10_sealIt_2200 (G : rn_G) (S : ts_S) (ws : va_W) (x2_ : Int32) : rn_R → va_W → Prop := rQ (fun v w => St G S [30, 33] ws S w ∧ (v = none ∧ (0 ≤ tw (byt w) 4402 ∧ tw (byt w) 4402 ≤ 2047) ∧ fK1 4 S ws w)) (fun E w => False)
set_option maxRecDepth 20000 in
set_option maxHeartbeats 4000000 in
theorem t_X10_sealIt_2200 (G : rn_G) (S : ts_S) (ws : va_W) (hW : ts_W G S ws) (o0_ : Nat) (m0_ : (o0_, 30) ∈ S) (x2_ : Int32) (r2_ : Rg (0) (15) x2_) (y3_ : Int64) (hw2202_ : 0 ≤ tw (byt ws) 2202 ∧ tw (byt ws) 2202 ≤ 2000) : Rn G mX10_sealIt 3 67 0 0 0 (lv_args 0 [.ref o0_, .int (2200 : Int32), .int x2_, .long y3_]) [] ws (q_t_X10_sealIt_2200 G S ws x2_) := by
  have hS0 : St G S [30, 33] ws S ws := St.rf hW
  have fk0 : fK1 4 S ws ws := fun v h => h
  obtain ⟨ob1, hob1⟩ := hS0.1.2.1.2
  obtain ⟨T2, ht2⟩ : ∃ t : Int, tw (byt ws) 2202 = t := ⟨_, rfl⟩
  rw [ht2] at hw2202_
  refine rn_lv [(0, .ref o0_), (1, .int (2200 : Int32)), (2, .int x2_), (3, .long y3_)] rfl ?_
  refine rn_aload_n (i := 0) dX10_sealIt_0 rfl rfl ?_
  refine rn_iload_n (i := 1) dX10_sealIt_1 rfl rfl ?_
  obtain ⟨q3, fs3, hq3, hl3, hf3⟩ := ts_obj hS0.1 m0_ hk_30
  refine rn_inV (d' := 1) (z' := 21) [.int (2200 : Int32)] kl_SGModel_165 dX10_sealIt_2 q3 hl3 rfl rfl rfl (Nat.le_of_ble_eq_true rfl) (Nat.le_of_ble_eq_true rfl) (Nat.le_of_ble_eq_true rfl) (Nat.le_of_ble_eq_true rfl) ?_
  refine rn_lv [(0, .ref o0_), (1, .int (2200 : Int32))] rfl ?_
  refine rn_aload_n (i := 0) dX10_lengthOf_0 rfl rfl ?_
  refine rn_iload_n (i := 1) dX10_lengthOf_1 rfl rfl ?_
  refine rn_iconst (v := (2 : Int32)) dX10_lengthOf_2 (by decide) ?_
  refine rn_iadd dX10_lengthOf_3 (rn_topi (2202 : Int32) (by decide) ?_)
  refine rn_callV (a := 0) (b := 0) [.int (2202 : Int32)] kl_SGModel_140 dX10_lengthOf_4 q3 hl3 rfl (t_X10_two G S ws hS0.1 o0_ m0_ (2202 : Int32) (rg_w rk_2202 (by decide) (by decide))) rfl rfl (Nat.le_of_ble_eq_true rfl) (Nat.le_of_ble_eq_true rfl) (Nat.le_of_ble_eq_true rfl) (Nat.le_of_ble_eq_true rfl) (Nat.le_of_ble_eq_true rfl) (Nat.le_of_ble_eq_true rfl) (fun _ _ h => False.elim h) (fun v9 w5 h6 => ?_)
  obtain ⟨rfl, v7, rfl, rv7, xah6⟩ := h6
  have ev7 : v7.toInt = T2 := (xah6 2202 (by decide)).trans ht2
  have r9 : Rg (0) (2000) v7 := ⟨by have := rv7.1; have := rv7.2; omega, by have := rv7.1; have := rv7.2; omega⟩
  refine rn_stk [.int v7] rfl ?_
  refine rn_iret dX10_lengthOf_7 rfl rfl (rq_in ?_)
  refine rn_stk [.int v7] rfl ?_
  refine rn_istore dX10_sealIt_5 (by decide) [(0, .ref o0_), (1, .int (2200 : Int32)), (2, .int x2_), (3, .long y3_), (5, .int v7)] rfl ?_
  refine rn_iload dX10_sealIt_7 rfl ?_
  refine rn_callS (a := 0) (b := 0) [.int v7] kl_SGModel_256 dX10_sealIt_9 (t_X10_fillOf G S ws hS0.1 v7 (rg_w r9 (by decide) (by decide))) rfl rfl (Nat.le_of_ble_eq_true rfl) (Nat.le_of_ble_eq_true rfl) (Nat.le_of_ble_eq_true rfl) (Nat.le_of_ble_eq_true rfl) (Nat.le_of_ble_eq_true rfl) (Nat.le_of_ble_eq_true rfl) (fun _ _ h => False.elim h) (fun v9 w10 h11 => ?_)
  obtain ⟨rfl, v12, rfl, rv12⟩ := h11
  refine rn_stk [.int v12] rfl ?_
  refine rn_istore dX10_sealIt_12 (by decide) [(0, .ref o0_), (1, .int (2200 : Int32)), (2, .int x2_), (3, .long y3_), (5, .int v7), (6, .int v12)] rfl ?_
  refine rn_sipush (v := (4428 : Int32)) dX10_sealIt_14 (by decide) ?_
  refine rn_istore dX10_sealIt_17 (by decide) [(0, .ref o0_), (1, .int (2200 : Int32)), (2, .int x2_), (3, .long y3_), (5, .int v7), (6, .int v12), (7, .int (4428 : Int32))] rfl ?_
  refine rn_iload dX10_sealIt_19 rfl ?_
  refine rn_iload dX10_sealIt_21 rfl ?_
  refine rs_addR (0) (2003) r9 rv12 dX10_sealIt_23 (by decide) (fun v14 ev14 rv14 => ?_)
  refine rn_iconst (v := (2 : Int32)) dX10_sealIt_24 (by decide) ?_
  refine rs_addC (2) (2005) rv14 rk_2 dX10_sealIt_25 (by decide) (fun v15 ev15 rv15 => ?_)
  refine rn_istore dX10_sealIt_26 (by decide) [(0, .ref o0_), (1, .int (2200 : Int32)), (2, .int x2_), (3, .long y3_), (5, .int v7), (6, .int v12), (7, .int (4428 : Int32)), (8, .int v15)] rfl ?_
  refine rn_aload_n (i := 0) dX10_sealIt_28 rfl rfl ?_
  refine rn_iload_n (i := 1) dX10_sealIt_29 rfl rfl ?_
  refine rn_iload dX10_sealIt_30 rfl ?_
  refine rn_iload dX10_sealIt_32 rfl ?_
  refine rn_callV (a := 0) (b := 0) [.int (2200 : Int32), .int (4428 : Int32), .int v7] kl_SGModel_235 dX10_sealIt_34 q3 hl3 rfl (t_X10_move G S ws hS0.1 o0_ m0_ (2200 : Int32) (4428 : Int32) v7 ⟨by have := r9.1; have := r9.2; have := rk_4428.1; have := rk_4428.2; have := rk_2200.1; have := rk_2200.2; omega, by have := r9.1; have := r9.2; have := rk_4428.1; have := rk_4428.2; have := rk_2200.1; have := rk_2200.2; omega, by have := r9.1; have := r9.2; have := rk_4428.1; have := rk_4428.2; have := rk_2200.1; have := rk_2200.2; omega, by have := r9.1; have := r9.2; have := rk_4428.1; have := rk_4428.2; have := rk_2200.1; have := rk_2200.2; omega⟩) rfl rfl (Nat.le_of_ble_eq_true rfl) (Nat.le_of_ble_eq_true rfl) (Nat.le_of_ble_eq_true rfl) (Nat.le_of_ble_eq_true rfl) (Nat.le_of_ble_eq_true rfl) (Nat.le_of_ble_eq_true rfl) (fun _ _ h => False.elim h) (fun v9 w16 h17 => ?_)
  obtain ⟨hT18, rfl, xah17⟩ := h17
  have hS18 := St.tr hS0 hT18 rfl
  have ht19 := bsame.keep xah17.1 ht2 (by have := r9.1; have := r9.2; have := rk_4428.1; have := rk_4428.2; have := rk_2200.1; have := rk_2200.2; omega)
  have fk20 : fK1 4 S ws w16 := fk_fr fk0 hT18 rfl
  refine rn_stk [] rfl ?_
  refine rn_iconst (v := (1 : Int32)) dX10_sealIt_37 (by decide) ?_
  refine rn_istore dX10_sealIt_38 (by decide) [(0, .ref o0_), (1, .int (2200 : Int32)), (2, .int x2_), (3, .long y3_), (5, .int v7), (6, .int v12), (7, .int (4428 : Int32)), (8, .int v15), (9, .int (1 : Int32))] rfl ?_
  have LP22 : ∀ (n : Nat) (w23 : va_W) (x21 : Int32), St G S [33] w16 S w23 → Rg (1) (4) x21 → (4 - x21.toInt).toNat = n → Rn G mX10_sealIt 3 67 0 0 40 [(0, .ref o0_), (1, .int (2200 : Int32)), (2, .int x2_), (3, .long y3_), (5, .int v7), (6, .int v12), (7, .int (4428 : Int32)), (8, .int v15), (9, .int x21)] [] w23 (q_t_X10_sealIt_2200 G S ws x2_) := by
    intro n
    induction n using Nat.strongRecOn with
    | _ n ih =>
      intro w23 x21 hT24 r25 hm26
      have fk27 : fK1 4 S ws w23 := fk_fr fk20 hT24 rfl
      refine rn_iload dX10_sealIt_40 rfl ?_
      refine rn_iload dX10_sealIt_42 rfl ?_
      refine rn_icmp_gt (tgt := 70) dX10_sealIt_44 (by decide) (fun h28 => ?_) (fun h28 => ?_)
      · have ch28 := cv_lt h28
        have hS29 := St.tr hS18 hT24 rfl
        refine rn_aload_n (i := 0) dX10_sealIt_70 rfl rfl ?_
        obtain ⟨o30, hx30, m30⟩ := fs_r hf3 2 rfl
        refine rn_get q3 kg_SGModel_7 (hT24.fr hq3 rfl (hT18.fr hq3 rfl hl3)) hx30 dX10_sealIt_71 ?_
        refine rn_iload dX10_sealIt_74 rfl ?_
        refine rn_iload dX10_sealIt_76 rfl ?_
        refine rs_addD (4428) (6428) rk_4428 r9 dX10_sealIt_78 (by decide) (fun v31 ev31 rv31 => ?_)
        refine rn_iload dX10_sealIt_79 rfl ?_
        refine rs_addR (4428) (6431) rv31 rv12 dX10_sealIt_81 (by decide) (fun v32 ev32 rv32 => ?_)
        refine rn_iload dX10_sealIt_82 rfl ?_
        obtain ⟨q33, f33, hq33, hl33, hf33⟩ := ts_ia hS29.1 m30 hk_33
        refine rs_iast q33 hS29 hq33 hl33 hf33 hk_33 rfl rfl rv32 (by decide) (by decide) (rg_w rv12 (by decide) (by decide)) dX10_sealIt_84 (fun w34 f35 hS35 hl35 hf35 hu35 hn35 => ?_)
        have fk36 : fK1 4 S ws w34 := fk_ne fk27 hn35 hq33 rfl
        refine rn_aload_n (i := 0) dX10_sealIt_85 rfl rfl ?_
        refine rn_get q3 kg_SGModel_7 ((hn35 _ (ts_ne hq33 hq3 rfl)).trans (hT24.fr hq3 rfl (hT18.fr hq3 rfl hl3))) hx30 dX10_sealIt_86 ?_
        refine rn_iload dX10_sealIt_89 rfl ?_
        refine rn_iload dX10_sealIt_91 rfl ?_
        refine rs_addD (4428) (6428) rk_4428 r9 dX10_sealIt_93 (by decide) (fun v37 ev37 rv37 => ?_)
        refine rn_iload dX10_sealIt_94 rfl ?_
        refine rs_addR (4428) (6431) rv37 rv12 dX10_sealIt_96 (by decide) (fun v38 ev38 rv38 => ?_)
        refine rn_iconst (v := (1 : Int32)) dX10_sealIt_97 (by decide) ?_
        refine rs_addC (4429) (6432) rv38 rk_1 dX10_sealIt_98 (by decide) (fun v39 ev39 rv39 => ?_)
        refine rn_iconst (v := (4 : Int32)) dX10_sealIt_99 (by decide) ?_
        refine rs_iast q33 hS35 hq33 hl35 hf35 hk_33 rfl rfl rv39 (by decide) (by decide) (rg_w rk_4 (by decide) (by decide)) dX10_sealIt_100 (fun w40 f41 hS41 hl41 hf41 hu41 hn41 => ?_)
        have fk42 : fK1 4 S ws w40 := fk_ne fk36 hn41 hq33 rfl
        refine rn_aload_n (i := 0) dX10_sealIt_101 rfl rfl ?_
        refine rn_sipush (v := (4420 : Int32)) dX10_sealIt_102 (by decide) ?_
        refine rn_aload_n (i := 0) dX10_sealIt_105 rfl rfl ?_
        obtain ⟨o43, hx43, m43⟩ := fs_r hf3 25 rfl
        refine rn_get q3 kg_SGModel_63 ((hn41 _ (ts_ne hq33 hq3 rfl)).trans ((hn35 _ (ts_ne hq33 hq3 rfl)).trans (hT24.fr hq3 rfl (hT18.fr hq3 rfl hl3)))) hx43 dX10_sealIt_106 ?_
        refine rn_iload_n (i := 2) dX10_sealIt_109 rfl rfl ?_
        obtain ⟨q44, f44, hq44, hl44, hf44⟩ := ts_ia hS41.1 m43 hk_56
        refine rs_iald q44 hl44 hf44 rfl r2_ (by decide) (by decide) dX10_sealIt_110 (fun v45 ev45 rv45 => ?_)
        refine rn_callV (a := 0) (b := 0) [.int (4420 : Int32), .int v45] kl_SGModel_148 dX10_sealIt_111 q3 ((hn41 _ (ts_ne hq33 hq3 rfl)).trans ((hn35 _ (ts_ne hq33 hq3 rfl)).trans (hT24.fr hq3 rfl (hT18.fr hq3 rfl hl3)))) rfl (t_X10_putFour G S w40 hS41.1 o0_ m0_ (4420 : Int32) (rg_w rk_4420 (by decide) (by decide)) v45) rfl rfl (Nat.le_of_ble_eq_true rfl) (Nat.le_of_ble_eq_true rfl) (Nat.le_of_ble_eq_true rfl) (Nat.le_of_ble_eq_true rfl) (Nat.le_of_ble_eq_true rfl) (Nat.le_of_ble_eq_true rfl) (fun _ _ h => False.elim h) (fun v9 w46 h47 => ?_)
        obtain ⟨hT48, rfl, xah47⟩ := h47
        have hS48 := St.tr hS41 hT48 rfl
        have fk49 : fK1 4 S ws w46 := fk_fr fk42 hT48 rfl
        refine rn_stk [] rfl ?_
        refine rn_aload_n (i := 0) dX10_sealIt_114 rfl rfl ?_
        refine rn_sipush (v := (4424 : Int32)) dX10_sealIt_115 (by decide) ?_
        refine rn_lload_n (i := 3) dX10_sealIt_118 rfl rfl ?_
        refine rn_l2i dX10_sealIt_119 rfl (rn_nmA (fun v50 rv50 => ?_))
        refine rn_callV (a := 0) (b := 0) [.int (4424 : Int32), .int v50] kl_SGModel_148 dX10_sealIt_120 q3 (hT48.fr hq3 rfl ((hn41 _ (ts_ne hq33 hq3 rfl)).trans ((hn35 _ (ts_ne hq33 hq3 rfl)).trans (hT24.fr hq3 rfl (hT18.fr hq3 rfl hl3))))) rfl (t_X10_putFour G S w46 hS48.1 o0_ m0_ (4424 : Int32) (rg_w rk_4424 (by decide) (by decide)) v50) rfl rfl (Nat.le_of_ble_eq_true rfl) (Nat.le_of_ble_eq_true rfl) (Nat.le_of_ble_eq_true rfl) (Nat.le_of_ble_eq_true rfl) (Nat.le_of_ble_eq_true rfl) (Nat.le_of_ble_eq_true rfl) (fun _ _ h => False.elim h) (fun v9 w51 h52 => ?_)
        obtain ⟨hT53, rfl, xah52⟩ := h52
        have hS53 := St.tr hS48 hT53 rfl
        have fk54 : fK1 4 S ws w51 := fk_fr fk49 hT53 rfl
        refine rn_stk [] rfl ?_
        refine rn_aload_n (i := 0) dX10_sealIt_123 rfl rfl ?_
        refine rn_iload dX10_sealIt_124 rfl ?_
        refine rn_iload dX10_sealIt_126 rfl ?_
        refine rn_iload_n (i := 2) dX10_sealIt_128 rfl rfl ?_
        refine rn_lload_n (i := 3) dX10_sealIt_129 rfl rfl ?_
        refine rn_callV (a := 0) (b := 0) [.int (4428 : Int32), .int v15, .int x2_, .long y3_] kl_SGModel_259 dX10_sealIt_130 q3 (hT53.fr hq3 rfl (hT48.fr hq3 rfl ((hn41 _ (ts_ne hq33 hq3 rfl)).trans ((hn35 _ (ts_ne hq33 hq3 rfl)).trans (hT24.fr hq3 rfl (hT18.fr hq3 rfl hl3)))))) rfl (t_X10_stream G S w51 hS53.1 o0_ m0_ (4428 : Int32) (rg_w rk_4428 (by decide) (by decide)) v15 (rg_w rv15 (by decide) (by decide)) x2_ r2_ y3_) rfl rfl (Nat.le_of_ble_eq_true rfl) (Nat.le_of_ble_eq_true rfl) (Nat.le_of_ble_eq_true rfl) (Nat.le_of_ble_eq_true rfl) (Nat.le_of_ble_eq_true rfl) (Nat.le_of_ble_eq_true rfl) (fun _ _ h => False.elim h) (fun v9 w55 h56 => ?_)
        obtain ⟨hT57, rfl⟩ := h56
        have hS57 := St.tr hS53 hT57 rfl
        have fk58 : fK1 4 S ws w55 := fk_fr fk54 hT57 rfl
        refine rn_stk [] rfl ?_
        refine rn_aload_n (i := 0) dX10_sealIt_133 rfl rfl ?_
        refine rn_iload dX10_sealIt_134 rfl ?_
        refine rn_iload dX10_sealIt_136 rfl ?_
        refine rs_addD (4430) (6433) rk_4428 rv15 dX10_sealIt_138 (by decide) (fun v59 ev59 rv59 => ?_)
        refine rn_aload_n (i := 0) dX10_sealIt_139 rfl rfl ?_
        refine rn_sipush (v := (4420 : Int32)) dX10_sealIt_140 (by decide) ?_
        refine rn_bipush (v := (8 : Int32)) dX10_sealIt_143 (by decide) ?_
        refine rn_iload dX10_sealIt_145 rfl ?_
        refine rs_addD (10) (2013) rk_8 rv15 dX10_sealIt_147 (by decide) (fun v60 ev60 rv60 => ?_)
        refine rn_iload_n (i := 2) dX10_sealIt_148 rfl rfl ?_
        refine rn_lload_n (i := 3) dX10_sealIt_149 rfl rfl ?_
        refine rn_callV (a := 0) (b := 0) [.int (4420 : Int32), .int v60, .int x2_, .long y3_] kl_SGModel_263 dX10_sealIt_150 q3 (hT57.fr hq3 rfl (hT53.fr hq3 rfl (hT48.fr hq3 rfl ((hn41 _ (ts_ne hq33 hq3 rfl)).trans ((hn35 _ (ts_ne hq33 hq3 rfl)).trans (hT24.fr hq3 rfl (hT18.fr hq3 rfl hl3))))))) rfl (t_X10_stampOf G S w55 hS57.1 o0_ m0_ (4420 : Int32) (rg_w rk_4420 (by decide) (by decide)) v60 (rg_w rv60 (by decide) (by decide)) x2_ r2_ y3_) rfl rfl (Nat.le_of_ble_eq_true rfl) (Nat.le_of_ble_eq_true rfl) (Nat.le_of_ble_eq_true rfl) (Nat.le_of_ble_eq_true rfl) (Nat.le_of_ble_eq_true rfl) (Nat.le_of_ble_eq_true rfl) (fun _ _ h => False.elim h) (fun v9 w61 h62 => ?_)
        obtain ⟨rfl, l63, rfl⟩ := h62
        refine rn_stk [.long l63, .int v59, .ref o0_] rfl ?_
        refine rn_callV (a := 0) (b := 0) [.int v59, .long l63] kl_SGModel_175 dX10_sealIt_153 q3 (hT57.fr hq3 rfl (hT53.fr hq3 rfl (hT48.fr hq3 rfl ((hn41 _ (ts_ne hq33 hq3 rfl)).trans ((hn35 _ (ts_ne hq33 hq3 rfl)).trans (hT24.fr hq3 rfl (hT18.fr hq3 rfl hl3))))))) rfl (t_X10_putEight G S w55 hS57.1 o0_ m0_ v59 (rg_w rv59 (by decide) (by decide)) l63) rfl rfl (Nat.le_of_ble_eq_true rfl) (Nat.le_of_ble_eq_true rfl) (Nat.le_of_ble_eq_true rfl) (Nat.le_of_ble_eq_true rfl) (Nat.le_of_ble_eq_true rfl) (Nat.le_of_ble_eq_true rfl) (fun _ _ h => False.elim h) (fun v9 w65 h66 => ?_)
        obtain ⟨hT67, rfl, xah66⟩ := h66
        have hS67 := St.tr hS57 hT67 rfl
        have fk68 : fK1 4 S ws w65 := fk_fr fk58 hT67 rfl
        refine rn_stk [] rfl ?_
        refine rn_aload_n (i := 0) dX10_sealIt_156 rfl rfl ?_
        refine rn_get q3 kg_SGModel_7 (hT67.fr hq3 rfl (hT57.fr hq3 rfl (hT53.fr hq3 rfl (hT48.fr hq3 rfl ((hn41 _ (ts_ne hq33 hq3 rfl)).trans ((hn35 _ (ts_ne hq33 hq3 rfl)).trans (hT24.fr hq3 rfl (hT18.fr hq3 rfl hl3)))))))) hx30 dX10_sealIt_157 ?_
        refine rn_sipush (v := (4400 : Int32)) dX10_sealIt_160 (by decide) ?_
        refine rn_bipush (v := (69 : Int32)) dX10_sealIt_163 (by decide) ?_
        obtain ⟨q69, f69, hq69, hl69, hf69⟩ := ts_ia hS67.1 m30 hk_33
        refine rs_iast q69 hS67 hq69 hl69 hf69 hk_33 rfl rfl rk_4400 (by decide) (by decide) (rg_w rk_69 (by decide) (by decide)) dX10_sealIt_165 (fun w70 f71 hS71 hl71 hf71 hu71 hn71 => ?_)
        have fk72 : fK1 4 S ws w70 := fk_ne fk68 hn71 hq69 rfl
        refine rn_aload_n (i := 0) dX10_sealIt_166 rfl rfl ?_
        refine rn_get q3 kg_SGModel_7 ((hn71 _ (ts_ne hq69 hq3 rfl)).trans (hT67.fr hq3 rfl (hT57.fr hq3 rfl (hT53.fr hq3 rfl (hT48.fr hq3 rfl ((hn41 _ (ts_ne hq33 hq3 rfl)).trans ((hn35 _ (ts_ne hq33 hq3 rfl)).trans (hT24.fr hq3 rfl (hT18.fr hq3 rfl hl3))))))))) hx30 dX10_sealIt_167 ?_
        refine rn_sipush (v := (4401 : Int32)) dX10_sealIt_170 (by decide) ?_
        refine rn_aload_n (i := 0) dX10_sealIt_173 rfl rfl ?_
        refine rn_get q3 kg_SGModel_7 ((hn71 _ (ts_ne hq69 hq3 rfl)).trans (hT67.fr hq3 rfl (hT57.fr hq3 rfl (hT53.fr hq3 rfl (hT48.fr hq3 rfl ((hn41 _ (ts_ne hq33 hq3 rfl)).trans ((hn35 _ (ts_ne hq33 hq3 rfl)).trans (hT24.fr hq3 rfl (hT18.fr hq3 rfl hl3))))))))) hx30 dX10_sealIt_174 ?_
        refine rn_iload_n (i := 1) dX10_sealIt_177 rfl rfl ?_
        refine rn_iconst (v := (1 : Int32)) dX10_sealIt_178 (by decide) ?_
        refine rn_iadd dX10_sealIt_179 (rn_topi (2201 : Int32) (by decide) ?_)
        refine rs_iald q69 hl71 hf71 rfl rk_2201 (by decide) (by decide) dX10_sealIt_180 (fun v74 ev74 rv74 => ?_)
        have hbv74 : byt w70 2201 = v74 := by rw [byt_of hS71.1 hq69 hl71, ev74]; exact congrArg _ (by decide)
        refine rs_iast q69 hS71 hq69 hl71 hf71 hk_33 rfl rfl rk_4401 (by decide) (by decide) rv74 dX10_sealIt_181 (fun w75 f76 hS76 hl76 hf76 hu76 hn76 => ?_)
        have fk77 : fK1 4 S ws w75 := fk_ne fk72 hn76 hq69 rfl
        have hb78 := (byt_st hS71.1 hS76.1 hq69 hl71 hl76 hu76 (by have := rk_4401.1; have := rk_4401.2; omega) 2201 (by have := rk_4401.1; have := rk_4401.2; omega)).trans hbv74
        refine rn_aload_n (i := 0) dX10_sealIt_182 rfl rfl ?_
        refine rn_sipush (v := (4402 : Int32)) dX10_sealIt_183 (by decide) ?_
        refine rn_bipush (v := (36 : Int32)) dX10_sealIt_186 (by decide) ?_
        refine rn_iload dX10_sealIt_188 rfl ?_
        refine rs_addD (38) (2041) rk_36 rv15 dX10_sealIt_190 (by decide) (fun v79 ev79 rv79 => ?_)
        refine rn_callV (a := 0) (b := 0) [.int (4402 : Int32), .int v79] kl_SGModel_144 dX10_sealIt_191 q3 ((hn76 _ (ts_ne hq69 hq3 rfl)).trans ((hn71 _ (ts_ne hq69 hq3 rfl)).trans (hT67.fr hq3 rfl (hT57.fr hq3 rfl (hT53.fr hq3 rfl (hT48.fr hq3 rfl ((hn41 _ (ts_ne hq33 hq3 rfl)).trans ((hn35 _ (ts_ne hq33 hq3 rfl)).trans (hT24.fr hq3 rfl (hT18.fr hq3 rfl hl3)))))))))) rfl (t_X10_putTwo G S w75 hS76.1 o0_ m0_ (4402 : Int32) (rg_w rk_4402 (by decide) (by decide)) v79) rfl rfl (Nat.le_of_ble_eq_true rfl) (Nat.le_of_ble_eq_true rfl) (Nat.le_of_ble_eq_true rfl) (Nat.le_of_ble_eq_true rfl) (Nat.le_of_ble_eq_true rfl) (Nat.le_of_ble_eq_true rfl) (fun _ _ h => False.elim h) (fun v9 w80 h81 => ?_)
        obtain ⟨hT82, rfl, xah81⟩ := h81
        have hS82 := St.tr hS76 hT82 rfl
        have fk83 : fK1 4 S ws w80 := fk_fr fk77 hT82 rfl
        have ht84 : tw (byt w80) 4402 = v79.toInt := xah81.2 4402 (by decide) (by have := rv79.1; omega) (by have := rv79.2; omega)
        refine rn_stk [] rfl ?_
        refine rn_aload_n (i := 0) dX10_sealIt_194 rfl rfl ?_
        refine rn_sipush (v := (4404 : Int32)) dX10_sealIt_195 (by decide) ?_
        refine rn_aload_n (i := 0) dX10_sealIt_198 rfl rfl ?_
        obtain ⟨x85, hx85, rx85⟩ := fs_i hf3 33 rfl
        refine rn_get q3 kg_SGModel_267 (hT82.fr hq3 rfl ((hn76 _ (ts_ne hq69 hq3 rfl)).trans ((hn71 _ (ts_ne hq69 hq3 rfl)).trans (hT67.fr hq3 rfl (hT57.fr hq3 rfl (hT53.fr hq3 rfl (hT48.fr hq3 rfl ((hn41 _ (ts_ne hq33 hq3 rfl)).trans ((hn35 _ (ts_ne hq33 hq3 rfl)).trans (hT24.fr hq3 rfl (hT18.fr hq3 rfl hl3))))))))))) hx85 dX10_sealIt_199 ?_
        refine rn_ldc (v := (65535 : Int32)) wd_1093 dX10_sealIt_202 ?_
        refine rn_iand dX10_sealIt_204 (rn_tn 0 (65535) (rg_andr rk_65535 (by decide)) (fun v86 rv86 => ?_))
        refine rn_callV (a := 0) (b := 0) [.int (4404 : Int32), .int v86] kl_SGModel_144 dX10_sealIt_205 q3 (hT82.fr hq3 rfl ((hn76 _ (ts_ne hq69 hq3 rfl)).trans ((hn71 _ (ts_ne hq69 hq3 rfl)).trans (hT67.fr hq3 rfl (hT57.fr hq3 rfl (hT53.fr hq3 rfl (hT48.fr hq3 rfl ((hn41 _ (ts_ne hq33 hq3 rfl)).trans ((hn35 _ (ts_ne hq33 hq3 rfl)).trans (hT24.fr hq3 rfl (hT18.fr hq3 rfl hl3))))))))))) rfl (t_X10_putTwo G S w80 hS82.1 o0_ m0_ (4404 : Int32) (rg_w rk_4404 (by decide) (by decide)) v86) rfl rfl (Nat.le_of_ble_eq_true rfl) (Nat.le_of_ble_eq_true rfl) (Nat.le_of_ble_eq_true rfl) (Nat.le_of_ble_eq_true rfl) (Nat.le_of_ble_eq_true rfl) (Nat.le_of_ble_eq_true rfl) (fun _ _ h => False.elim h) (fun v9 w87 h88 => ?_)
        obtain ⟨hT89, rfl, xah88⟩ := h88
        have hS89 := St.tr hS82 hT89 rfl
        have ht90 := bsame.keep xah88.1 ht84 (by have := rv86.1; have := rv86.2; have := rk_65535.1; have := rk_65535.2; have := rx85.1; have := rx85.2; have := rk_4404.1; have := rk_4404.2; omega)
        have fk91 : fK1 4 S ws w87 := fk_fr fk83 hT89 rfl
        have ht92 : tw (byt w87) 4404 = v86.toInt := xah88.2 4404 (by decide) (by have := rv86.1; omega) (by have := rv86.2; omega)
        refine rn_stk [] rfl ?_
        refine rn_aload_n (i := 0) dX10_sealIt_208 rfl rfl ?_
        refine rn_sipush (v := (4406 : Int32)) dX10_sealIt_209 (by decide) ?_
        refine rn_aload_n (i := 0) dX10_sealIt_212 rfl rfl ?_
        refine rn_iload_n (i := 1) dX10_sealIt_213 rfl rfl ?_
        refine rn_callV (a := 0) (b := 0) [.int (2200 : Int32)] kl_SGModel_270 dX10_sealIt_214 q3 (hT89.fr hq3 rfl (hT82.fr hq3 rfl ((hn76 _ (ts_ne hq69 hq3 rfl)).trans ((hn71 _ (ts_ne hq69 hq3 rfl)).trans (hT67.fr hq3 rfl (hT57.fr hq3 rfl (hT53.fr hq3 rfl (hT48.fr hq3 rfl ((hn41 _ (ts_ne hq33 hq3 rfl)).trans ((hn35 _ (ts_ne hq33 hq3 rfl)).trans (hT24.fr hq3 rfl (hT18.fr hq3 rfl hl3)))))))))))) rfl (t_X10_hasDont G S w87 hS89.1 o0_ m0_ (2200 : Int32) (rg_w rk_2200 (by decide) (by decide))) rfl rfl (Nat.le_of_ble_eq_true rfl) (Nat.le_of_ble_eq_true rfl) (Nat.le_of_ble_eq_true rfl) (Nat.le_of_ble_eq_true rfl) (Nat.le_of_ble_eq_true rfl) (Nat.le_of_ble_eq_true rfl) (fun _ _ h => False.elim h) (fun v9 w93 h94 => ?_)
        obtain ⟨rfl, v95, rfl, rv95⟩ := h94
        refine rn_stk [.int v95, .int (4406 : Int32), .ref o0_] rfl ?_
        refine rn_if_eq (tgt := 226) dX10_sealIt_217 (by decide) (fun h97 => ?_) (fun h97 => ?_)
        · have ch97 := cv_eq h97
          have r98 : Rg (0) (0) v95 := rf_eqx ch97 rv95 rk_0 (by decide) (by decide)
          refine rn_iconst (v := (0 : Int32)) dX10_sealIt_226 (by decide) ?_
          refine rn_callV (a := 0) (b := 0) [.int (4406 : Int32), .int (0 : Int32)] kl_SGModel_144 dX10_sealIt_227 q3 (hT89.fr hq3 rfl (hT82.fr hq3 rfl ((hn76 _ (ts_ne hq69 hq3 rfl)).trans ((hn71 _ (ts_ne hq69 hq3 rfl)).trans (hT67.fr hq3 rfl (hT57.fr hq3 rfl (hT53.fr hq3 rfl (hT48.fr hq3 rfl ((hn41 _ (ts_ne hq33 hq3 rfl)).trans ((hn35 _ (ts_ne hq33 hq3 rfl)).trans (hT24.fr hq3 rfl (hT18.fr hq3 rfl hl3)))))))))))) rfl (t_X10_putTwo G S w87 hS89.1 o0_ m0_ (4406 : Int32) (rg_w rk_4406 (by decide) (by decide)) (0 : Int32)) rfl rfl (Nat.le_of_ble_eq_true rfl) (Nat.le_of_ble_eq_true rfl) (Nat.le_of_ble_eq_true rfl) (Nat.le_of_ble_eq_true rfl) (Nat.le_of_ble_eq_true rfl) (Nat.le_of_ble_eq_true rfl) (fun _ _ h => False.elim h) (fun v9 w99 h100 => ?_)
          obtain ⟨hT101, rfl, xah100⟩ := h100
          have hS101 := St.tr hS89 hT101 rfl
          have ht102 := bsame.keep xah100.1 ht90 (by have := rk_0.1; have := rk_0.2; have := rk_4406.1; have := rk_4406.2; omega)
          have ht103 := bsame.keep xah100.1 ht92 (by have := rk_0.1; have := rk_0.2; have := rk_4406.1; have := rk_4406.2; omega)
          have fk104 : fK1 4 S ws w99 := fk_fr fk91 hT101 rfl
          have ht105 : tw (byt w99) 4406 = (0 : Int32).toInt := xah100.2 4406 (by decide) (by have := rk_0.1; omega) (by have := rk_0.2; omega)
          refine rn_stk [] rfl ?_
          refine rn_aload_n (i := 0) dX10_sealIt_230 rfl rfl ?_
          have hl106 := (hT101.fr hq3 rfl (hT89.fr hq3 rfl (hT82.fr hq3 rfl ((hn76 _ (ts_ne hq69 hq3 rfl)).trans ((hn71 _ (ts_ne hq69 hq3 rfl)).trans (hT67.fr hq3 rfl (hT57.fr hq3 rfl (hT53.fr hq3 rfl (hT48.fr hq3 rfl ((hn41 _ (ts_ne hq33 hq3 rfl)).trans ((hn35 _ (ts_ne hq33 hq3 rfl)).trans (hT24.fr hq3 rfl (hT18.fr hq3 rfl hl3)))))))))))))
          refine rn_get q3 kg_SGModel_7 hl106 hx30 dX10_sealIt_231 ?_
          refine rn_sipush (v := (4408 : Int32)) dX10_sealIt_234 (by decide) ?_
          refine rn_bipush (v := (64 : Int32)) dX10_sealIt_237 (by decide) ?_
          obtain ⟨q107, f107, hq107, hl107, hf107⟩ := ts_ia hS101.1 m30 hk_33
          refine rs_iast q107 hS101 hq107 hl107 hf107 hk_33 rfl rfl rk_4408 (by decide) (by decide) (rg_w rk_64 (by decide) (by decide)) dX10_sealIt_239 (fun w108 f109 hS109 hl109 hf109 hu109 hn109 => ?_)
          have fk110 : fK1 4 S ws w108 := fk_ne fk104 hn109 hq107 rfl
          have ht111 := tw_two (byt_st hS101.1 hS109.1 hq107 hl107 hl109 hu109 (by have := rk_4408.1; have := rk_4408.2; omega) 4402 (by have := rk_4408.1; have := rk_4408.2; omega)) (byt_st hS101.1 hS109.1 hq107 hl107 hl109 hu109 (by have := rk_4408.1; have := rk_4408.2; omega) 4403 (by have := rk_4408.1; have := rk_4408.2; omega)) ht102
          have ht112 := tw_two (byt_st hS101.1 hS109.1 hq107 hl107 hl109 hu109 (by have := rk_4408.1; have := rk_4408.2; omega) 4404 (by have := rk_4408.1; have := rk_4408.2; omega)) (byt_st hS101.1 hS109.1 hq107 hl107 hl109 hu109 (by have := rk_4408.1; have := rk_4408.2; omega) 4405 (by have := rk_4408.1; have := rk_4408.2; omega)) ht103
          have ht113 := tw_two (byt_st hS101.1 hS109.1 hq107 hl107 hl109 hu109 (by have := rk_4408.1; have := rk_4408.2; omega) 4406 (by have := rk_4408.1; have := rk_4408.2; omega)) (byt_st hS101.1 hS109.1 hq107 hl107 hl109 hu109 (by have := rk_4408.1; have := rk_4408.2; omega) 4407 (by have := rk_4408.1; have := rk_4408.2; omega)) ht105
          refine rn_aload_n (i := 0) dX10_sealIt_240 rfl rfl ?_
          refine rn_get q3 kg_SGModel_7 ((hn109 _ (ts_ne hq107 hq3 rfl)).trans hl106) hx30 dX10_sealIt_241 ?_
          refine rn_sipush (v := (4409 : Int32)) dX10_sealIt_244 (by decide) ?_
          refine rn_bipush (v := (50 : Int32)) dX10_sealIt_247 (by decide) ?_
          refine rs_iast q107 hS109 hq107 hl109 hf109 hk_33 rfl rfl rk_4409 (by decide) (by decide) (rg_w rk_50 (by decide) (by decide)) dX10_sealIt_249 (fun w114 f115 hS115 hl115 hf115 hu115 hn115 => ?_)
          have fk116 : fK1 4 S ws w114 := fk_ne fk110 hn115 hq107 rfl
          have ht117 := tw_two (byt_st hS109.1 hS115.1 hq107 hl109 hl115 hu115 (by have := rk_4409.1; have := rk_4409.2; omega) 4402 (by have := rk_4409.1; have := rk_4409.2; omega)) (byt_st hS109.1 hS115.1 hq107 hl109 hl115 hu115 (by have := rk_4409.1; have := rk_4409.2; omega) 4403 (by have := rk_4409.1; have := rk_4409.2; omega)) ht111
          have ht118 := tw_two (byt_st hS109.1 hS115.1 hq107 hl109 hl115 hu115 (by have := rk_4409.1; have := rk_4409.2; omega) 4404 (by have := rk_4409.1; have := rk_4409.2; omega)) (byt_st hS109.1 hS115.1 hq107 hl109 hl115 hu115 (by have := rk_4409.1; have := rk_4409.2; omega) 4405 (by have := rk_4409.1; have := rk_4409.2; omega)) ht112
          have ht119 := tw_two (byt_st hS109.1 hS115.1 hq107 hl109 hl115 hu115 (by have := rk_4409.1; have := rk_4409.2; omega) 4406 (by have := rk_4409.1; have := rk_4409.2; omega)) (byt_st hS109.1 hS115.1 hq107 hl109 hl115 hu115 (by have := rk_4409.1; have := rk_4409.2; omega) 4407 (by have := rk_4409.1; have := rk_4409.2; omega)) ht113
          refine rn_aload_n (i := 0) dX10_sealIt_250 rfl rfl ?_
          refine rn_sipush (v := (4412 : Int32)) dX10_sealIt_251 (by decide) ?_
          refine rn_aload_n (i := 0) dX10_sealIt_254 rfl rfl ?_
          obtain ⟨x120, hx120, rx120⟩ := fs_i hf3 1 rfl
          refine rn_get q3 kg_SGModel_134 ((hn115 _ (ts_ne hq107 hq3 rfl)).trans ((hn109 _ (ts_ne hq107 hq3 rfl)).trans hl106)) hx120 dX10_sealIt_255 ?_
          refine rn_callV (a := 0) (b := 0) [.int (4412 : Int32), .int x120] kl_SGModel_148 dX10_sealIt_258 q3 ((hn115 _ (ts_ne hq107 hq3 rfl)).trans ((hn109 _ (ts_ne hq107 hq3 rfl)).trans hl106)) rfl (t_X10_putFour G S w114 hS115.1 o0_ m0_ (4412 : Int32) (rg_w rk_4412 (by decide) (by decide)) x120) rfl rfl (Nat.le_of_ble_eq_true rfl) (Nat.le_of_ble_eq_true rfl) (Nat.le_of_ble_eq_true rfl) (Nat.le_of_ble_eq_true rfl) (Nat.le_of_ble_eq_true rfl) (Nat.le_of_ble_eq_true rfl) (fun _ _ h => False.elim h) (fun v9 w121 h122 => ?_)
          obtain ⟨hT123, rfl, xah122⟩ := h122
          have hS123 := St.tr hS115 hT123 rfl
          have ht124 := bsame.keep xah122 ht117 (by have := rx120.1; have := rx120.2; have := rk_4412.1; have := rk_4412.2; omega)
          have ht125 := bsame.keep xah122 ht118 (by have := rx120.1; have := rx120.2; have := rk_4412.1; have := rk_4412.2; omega)
          have ht126 := bsame.keep xah122 ht119 (by have := rx120.1; have := rx120.2; have := rk_4412.1; have := rk_4412.2; omega)
          have fk127 : fK1 4 S ws w121 := fk_fr fk116 hT123 rfl
          refine rn_stk [] rfl ?_
          refine rn_aload_n (i := 0) dX10_sealIt_261 rfl rfl ?_
          have hl128 := (hT123.fr hq44 rfl ((hn115 _ (ts_ne hq107 hq44 rfl)).trans ((hn109 _ (ts_ne hq107 hq44 rfl)).trans (hT101.fr hq44 rfl (hT89.fr hq44 rfl (hT82.fr hq44 rfl ((hn76 _ (ts_ne hq69 hq44 rfl)).trans ((hn71 _ (ts_ne hq69 hq44 rfl)).trans (hT67.fr hq44 rfl (hT57.fr hq44 rfl (hT53.fr hq44 rfl (hT48.fr hq44 rfl hl44))))))))))))
          refine rn_sipush (v := (4416 : Int32)) dX10_sealIt_262 (by decide) ?_
          refine rn_aload_n (i := 0) dX10_sealIt_265 rfl rfl ?_
          obtain ⟨o129, hx129, m129⟩ := fs_r hf3 8 rfl
          refine rn_get q3 kg_SGModel_22 (hT123.fr hq3 rfl ((hn115 _ (ts_ne hq107 hq3 rfl)).trans ((hn109 _ (ts_ne hq107 hq3 rfl)).trans hl106))) hx129 dX10_sealIt_266 ?_
          refine rn_aload_n (i := 0) dX10_sealIt_269 rfl rfl ?_
          obtain ⟨o130, hx130, m130⟩ := fs_r hf3 24 rfl
          refine rn_get q3 kg_SGModel_60 (hT123.fr hq3 rfl ((hn115 _ (ts_ne hq107 hq3 rfl)).trans ((hn109 _ (ts_ne hq107 hq3 rfl)).trans hl106))) hx130 dX10_sealIt_270 ?_
          refine rn_iload_n (i := 2) dX10_sealIt_273 rfl rfl ?_
          obtain ⟨q131, f131, hq131, hl131, hf131⟩ := ts_ia hS123.1 m130 hk_55
          refine rs_iald q131 hl131 hf131 rfl r2_ (by decide) (by decide) dX10_sealIt_274 (fun v132 ev132 rv132 => ?_)
          obtain ⟨q133, f133, hq133, hl133, hf133⟩ := ts_ia hS123.1 m129 hk_39
          refine rs_iald q133 hl133 hf133 rfl rv132 (by decide) (by decide) dX10_sealIt_275 (fun v134 ev134 rv134 => ?_)
          refine rn_callV (a := 0) (b := 0) [.int (4416 : Int32), .int v134] kl_SGModel_148 dX10_sealIt_276 q3 (hT123.fr hq3 rfl ((hn115 _ (ts_ne hq107 hq3 rfl)).trans ((hn109 _ (ts_ne hq107 hq3 rfl)).trans hl106))) rfl (t_X10_putFour G S w121 hS123.1 o0_ m0_ (4416 : Int32) (rg_w rk_4416 (by decide) (by decide)) v134) rfl rfl (Nat.le_of_ble_eq_true rfl) (Nat.le_of_ble_eq_true rfl) (Nat.le_of_ble_eq_true rfl) (Nat.le_of_ble_eq_true rfl) (Nat.le_of_ble_eq_true rfl) (Nat.le_of_ble_eq_true rfl) (fun _ _ h => False.elim h) (fun v9 w135 h136 => ?_)
          obtain ⟨hT137, rfl, xah136⟩ := h136
          have hS137 := St.tr hS123 hT137 rfl
          have ht138 := bsame.keep xah136 ht124 (by have := rv134.1; have := rv134.2; have := rk_4416.1; have := rk_4416.2; omega)
          have ht139 := bsame.keep xah136 ht125 (by have := rv134.1; have := rv134.2; have := rk_4416.1; have := rk_4416.2; omega)
          have ht140 := bsame.keep xah136 ht126 (by have := rv134.1; have := rv134.2; have := rk_4416.1; have := rk_4416.2; omega)
          have fk141 : fK1 4 S ws w135 := fk_fr fk127 hT137 rfl
          refine rn_stk [] rfl ?_
          refine rn_aload_n (i := 0) dX10_sealIt_279 rfl rfl ?_
          refine rn_sipush (v := (4400 : Int32)) dX10_sealIt_280 (by decide) ?_
          refine rn_callV (a := 0) (b := 0) [.int (4400 : Int32)] kl_SGModel_184 dX10_sealIt_283 q3 (hT137.fr hq3 rfl (hT123.fr hq3 rfl ((hn115 _ (ts_ne hq107 hq3 rfl)).trans ((hn109 _ (ts_ne hq107 hq3 rfl)).trans hl106)))) rfl (t_X10_setSum G S w135 hS137.1 o0_ m0_ (4400 : Int32) (rg_w rk_4400 (by decide) (by decide))) rfl rfl (Nat.le_of_ble_eq_true rfl) (Nat.le_of_ble_eq_true rfl) (Nat.le_of_ble_eq_true rfl) (Nat.le_of_ble_eq_true rfl) (Nat.le_of_ble_eq_true rfl) (Nat.le_of_ble_eq_true rfl) (fun _ _ h => False.elim h) (fun v9 w142 h143 => ?_)
          obtain ⟨hT144, rfl, xah143⟩ := h143
          have hS144 := St.tr hS137 hT144 rfl
          have ht145 := bsame.keep xah143 ht138 (by have := rk_4400.1; have := rk_4400.2; omega)
          have ht146 := bsame.keep xah143 ht139 (by have := rk_4400.1; have := rk_4400.2; omega)
          have ht147 := bsame.keep xah143 ht140 (by have := rk_4400.1; have := rk_4400.2; omega)
          have fk148 : fK1 4 S ws w142 := fk_fr fk141 hT144 rfl
          refine rn_stk [] rfl ?_
          refine rn_aload_n (i := 0) dX10_sealIt_286 rfl rfl ?_
          refine rn_dup dX10_sealIt_287 rfl ?_
          refine rn_get q3 kg_SGModel_267 (hT144.fr hq3 rfl (hT137.fr hq3 rfl (hT123.fr hq3 rfl ((hn115 _ (ts_ne hq107 hq3 rfl)).trans ((hn109 _ (ts_ne hq107 hq3 rfl)).trans hl106))))) hx85 dX10_sealIt_288 ?_
          refine rn_iconst (v := (1 : Int32)) dX10_sealIt_291 (by decide) ?_
          refine rn_iadd dX10_sealIt_292 (rn_nmA (fun v149 rv149 => ?_))
          refine rs_put q3 (kp_SGModel_267 _) hS144 hq3 (hT144.fr hq3 rfl (hT137.fr hq3 rfl (hT123.fr hq3 rfl ((hn115 _ (ts_ne hq107 hq3 rfl)).trans ((hn109 _ (ts_ne hq107 hq3 rfl)).trans hl106))))) hf3 hk_30 rfl rfl (tv_i rv149) rfl rfl dX10_sealIt_293 (fun w150 fs151 hS151 hl151 hf151 hx151 ho151 hn151 => ?_)
          have fk152 : fK1 4 S ws w150 := fk_put fk148 hS144.1 hq3 (hT144.fr hq3 rfl (hT137.fr hq3 rfl (hT123.fr hq3 rfl ((hn115 _ (ts_ne hq107 hq3 rfl)).trans ((hn109 _ (ts_ne hq107 hq3 rfl)).trans hl106))))) hl151 ho151 (by decide)
          have ht153 := tw_eq (byt_ne hn151 (ts_ne hq3 hob1 rfl)) ht145
          have ht154 := tw_eq (byt_ne hn151 (ts_ne hq3 hob1 rfl)) ht146
          have ht155 := tw_eq (byt_ne hn151 (ts_ne hq3 hob1 rfl)) ht147
          exact rn_vret dX10_sealIt_296 rfl (rq_in ⟨hS151, rfl, (by rw [ht153]; exact ⟨by have := rv79.1; have := rv79.2; have := rv15.1; have := rv15.2; have := rk_2.1; have := rk_2.2; have := rv14.1; have := rv14.2; have := rv12.1; have := rv12.2; have := r9.1; have := r9.2; have := rk_36.1; have := rk_36.2; omega, by have := rv79.1; have := rv79.2; have := rv15.1; have := rv15.2; have := rk_2.1; have := rk_2.2; have := rv14.1; have := rv14.2; have := rv12.1; have := rv12.2; have := r9.1; have := r9.2; have := rk_36.1; have := rk_36.2; omega⟩), fk152⟩)
        · have ch97 := cv_ne h97
          have r156 : Rg (1) (1) v95 := rf_nel ch97 rv95 rk_0 (by decide) (by decide)
          refine rn_sipush (v := (16384 : Int32)) dX10_sealIt_220 (by decide) ?_
          refine rn_goto (tgt := 227) dX10_sealIt_223 (by decide) ?_
          refine rn_callV (a := 0) (b := 0) [.int (4406 : Int32), .int (16384 : Int32)] kl_SGModel_144 dX10_sealIt_227 q3 (hT89.fr hq3 rfl (hT82.fr hq3 rfl ((hn76 _ (ts_ne hq69 hq3 rfl)).trans ((hn71 _ (ts_ne hq69 hq3 rfl)).trans (hT67.fr hq3 rfl (hT57.fr hq3 rfl (hT53.fr hq3 rfl (hT48.fr hq3 rfl ((hn41 _ (ts_ne hq33 hq3 rfl)).trans ((hn35 _ (ts_ne hq33 hq3 rfl)).trans (hT24.fr hq3 rfl (hT18.fr hq3 rfl hl3)))))))))))) rfl (t_X10_putTwo G S w87 hS89.1 o0_ m0_ (4406 : Int32) (rg_w rk_4406 (by decide) (by decide)) (16384 : Int32)) rfl rfl (Nat.le_of_ble_eq_true rfl) (Nat.le_of_ble_eq_true rfl) (Nat.le_of_ble_eq_true rfl) (Nat.le_of_ble_eq_true rfl) (Nat.le_of_ble_eq_true rfl) (Nat.le_of_ble_eq_true rfl) (fun _ _ h => False.elim h) (fun v9 w157 h158 => ?_)
          obtain ⟨hT159, rfl, xah158⟩ := h158
          have hS159 := St.tr hS89 hT159 rfl
          have ht160 := bsame.keep xah158.1 ht90 (by have := rk_16384.1; have := rk_16384.2; have := rk_4406.1; have := rk_4406.2; omega)
          have ht161 := bsame.keep xah158.1 ht92 (by have := rk_16384.1; have := rk_16384.2; have := rk_4406.1; have := rk_4406.2; omega)
          have fk162 : fK1 4 S ws w157 := fk_fr fk91 hT159 rfl
          have ht163 : tw (byt w157) 4406 = (16384 : Int32).toInt := xah158.2 4406 (by decide) (by have := rk_16384.1; omega) (by have := rk_16384.2; omega)
          refine rn_stk [] rfl ?_
          refine rn_aload_n (i := 0) dX10_sealIt_230 rfl rfl ?_
          have hl164 := (hT159.fr hq3 rfl (hT89.fr hq3 rfl (hT82.fr hq3 rfl ((hn76 _ (ts_ne hq69 hq3 rfl)).trans ((hn71 _ (ts_ne hq69 hq3 rfl)).trans (hT67.fr hq3 rfl (hT57.fr hq3 rfl (hT53.fr hq3 rfl (hT48.fr hq3 rfl ((hn41 _ (ts_ne hq33 hq3 rfl)).trans ((hn35 _ (ts_ne hq33 hq3 rfl)).trans (hT24.fr hq3 rfl (hT18.fr hq3 rfl hl3)))))))))))))
          refine rn_get q3 kg_SGModel_7 hl164 hx30 dX10_sealIt_231 ?_
          refine rn_sipush (v := (4408 : Int32)) dX10_sealIt_234 (by decide) ?_
          refine rn_bipush (v := (64 : Int32)) dX10_sealIt_237 (by decide) ?_
          obtain ⟨q165, f165, hq165, hl165, hf165⟩ := ts_ia hS159.1 m30 hk_33
          refine rs_iast q165 hS159 hq165 hl165 hf165 hk_33 rfl rfl rk_4408 (by decide) (by decide) (rg_w rk_64 (by decide) (by decide)) dX10_sealIt_239 (fun w166 f167 hS167 hl167 hf167 hu167 hn167 => ?_)
          have fk168 : fK1 4 S ws w166 := fk_ne fk162 hn167 hq165 rfl
          have ht169 := tw_two (byt_st hS159.1 hS167.1 hq165 hl165 hl167 hu167 (by have := rk_4408.1; have := rk_4408.2; omega) 4402 (by have := rk_4408.1; have := rk_4408.2; omega)) (byt_st hS159.1 hS167.1 hq165 hl165 hl167 hu167 (by have := rk_4408.1; have := rk_4408.2; omega) 4403 (by have := rk_4408.1; have := rk_4408.2; omega)) ht160
          have ht170 := tw_two (byt_st hS159.1 hS167.1 hq165 hl165 hl167 hu167 (by have := rk_4408.1; have := rk_4408.2; omega) 4404 (by have := rk_4408.1; have := rk_4408.2; omega)) (byt_st hS159.1 hS167.1 hq165 hl165 hl167 hu167 (by have := rk_4408.1; have := rk_4408.2; omega) 4405 (by have := rk_4408.1; have := rk_4408.2; omega)) ht161
          have ht171 := tw_two (byt_st hS159.1 hS167.1 hq165 hl165 hl167 hu167 (by have := rk_4408.1; have := rk_4408.2; omega) 4406 (by have := rk_4408.1; have := rk_4408.2; omega)) (byt_st hS159.1 hS167.1 hq165 hl165 hl167 hu167 (by have := rk_4408.1; have := rk_4408.2; omega) 4407 (by have := rk_4408.1; have := rk_4408.2; omega)) ht163
          refine rn_aload_n (i := 0) dX10_sealIt_240 rfl rfl ?_
          refine rn_get q3 kg_SGModel_7 ((hn167 _ (ts_ne hq165 hq3 rfl)).trans hl164) hx30 dX10_sealIt_241 ?_
          refine rn_sipush (v := (4409 : Int32)) dX10_sealIt_244 (by decide) ?_
          refine rn_bipush (v := (50 : Int32)) dX10_sealIt_247 (by decide) ?_
          refine rs_iast q165 hS167 hq165 hl167 hf167 hk_33 rfl rfl rk_4409 (by decide) (by decide) (rg_w rk_50 (by decide) (by decide)) dX10_sealIt_249 (fun w172 f173 hS173 hl173 hf173 hu173 hn173 => ?_)
          have fk174 : fK1 4 S ws w172 := fk_ne fk168 hn173 hq165 rfl
          have ht175 := tw_two (byt_st hS167.1 hS173.1 hq165 hl167 hl173 hu173 (by have := rk_4409.1; have := rk_4409.2; omega) 4402 (by have := rk_4409.1; have := rk_4409.2; omega)) (byt_st hS167.1 hS173.1 hq165 hl167 hl173 hu173 (by have := rk_4409.1; have := rk_4409.2; omega) 4403 (by have := rk_4409.1; have := rk_4409.2; omega)) ht169
          have ht176 := tw_two (byt_st hS167.1 hS173.1 hq165 hl167 hl173 hu173 (by have := rk_4409.1; have := rk_4409.2; omega) 4404 (by have := rk_4409.1; have := rk_4409.2; omega)) (byt_st hS167.1 hS173.1 hq165 hl167 hl173 hu173 (by have := rk_4409.1; have := rk_4409.2; omega) 4405 (by have := rk_4409.1; have := rk_4409.2; omega)) ht170
          have ht177 := tw_two (byt_st hS167.1 hS173.1 hq165 hl167 hl173 hu173 (by have := rk_4409.1; have := rk_4409.2; omega) 4406 (by have := rk_4409.1; have := rk_4409.2; omega)) (byt_st hS167.1 hS173.1 hq165 hl167 hl173 hu173 (by have := rk_4409.1; have := rk_4409.2; omega) 4407 (by have := rk_4409.1; have := rk_4409.2; omega)) ht171
          refine rn_aload_n (i := 0) dX10_sealIt_250 rfl rfl ?_
          refine rn_sipush (v := (4412 : Int32)) dX10_sealIt_251 (by decide) ?_
          refine rn_aload_n (i := 0) dX10_sealIt_254 rfl rfl ?_
          obtain ⟨x178, hx178, rx178⟩ := fs_i hf3 1 rfl
          refine rn_get q3 kg_SGModel_134 ((hn173 _ (ts_ne hq165 hq3 rfl)).trans ((hn167 _ (ts_ne hq165 hq3 rfl)).trans hl164)) hx178 dX10_sealIt_255 ?_
          refine rn_callV (a := 0) (b := 0) [.int (4412 : Int32), .int x178] kl_SGModel_148 dX10_sealIt_258 q3 ((hn173 _ (ts_ne hq165 hq3 rfl)).trans ((hn167 _ (ts_ne hq165 hq3 rfl)).trans hl164)) rfl (t_X10_putFour G S w172 hS173.1 o0_ m0_ (4412 : Int32) (rg_w rk_4412 (by decide) (by decide)) x178) rfl rfl (Nat.le_of_ble_eq_true rfl) (Nat.le_of_ble_eq_true rfl) (Nat.le_of_ble_eq_true rfl) (Nat.le_of_ble_eq_true rfl) (Nat.le_of_ble_eq_true rfl) (Nat.le_of_ble_eq_true rfl) (fun _ _ h => False.elim h) (fun v9 w179 h180 => ?_)
          obtain ⟨hT181, rfl, xah180⟩ := h180
          have hS181 := St.tr hS173 hT181 rfl
          have ht182 := bsame.keep xah180 ht175 (by have := rx178.1; have := rx178.2; have := rk_4412.1; have := rk_4412.2; omega)
          have ht183 := bsame.keep xah180 ht176 (by have := rx178.1; have := rx178.2; have := rk_4412.1; have := rk_4412.2; omega)
          have ht184 := bsame.keep xah180 ht177 (by have := rx178.1; have := rx178.2; have := rk_4412.1; have := rk_4412.2; omega)
          have fk185 : fK1 4 S ws w179 := fk_fr fk174 hT181 rfl
          refine rn_stk [] rfl ?_
          refine rn_aload_n (i := 0) dX10_sealIt_261 rfl rfl ?_
          have hl186 := (hT181.fr hq44 rfl ((hn173 _ (ts_ne hq165 hq44 rfl)).trans ((hn167 _ (ts_ne hq165 hq44 rfl)).trans (hT159.fr hq44 rfl (hT89.fr hq44 rfl (hT82.fr hq44 rfl ((hn76 _ (ts_ne hq69 hq44 rfl)).trans ((hn71 _ (ts_ne hq69 hq44 rfl)).trans (hT67.fr hq44 rfl (hT57.fr hq44 rfl (hT53.fr hq44 rfl (hT48.fr hq44 rfl hl44))))))))))))
          refine rn_sipush (v := (4416 : Int32)) dX10_sealIt_262 (by decide) ?_
          refine rn_aload_n (i := 0) dX10_sealIt_265 rfl rfl ?_
          obtain ⟨o187, hx187, m187⟩ := fs_r hf3 8 rfl
          refine rn_get q3 kg_SGModel_22 (hT181.fr hq3 rfl ((hn173 _ (ts_ne hq165 hq3 rfl)).trans ((hn167 _ (ts_ne hq165 hq3 rfl)).trans hl164))) hx187 dX10_sealIt_266 ?_
          refine rn_aload_n (i := 0) dX10_sealIt_269 rfl rfl ?_
          obtain ⟨o188, hx188, m188⟩ := fs_r hf3 24 rfl
          refine rn_get q3 kg_SGModel_60 (hT181.fr hq3 rfl ((hn173 _ (ts_ne hq165 hq3 rfl)).trans ((hn167 _ (ts_ne hq165 hq3 rfl)).trans hl164))) hx188 dX10_sealIt_270 ?_
          refine rn_iload_n (i := 2) dX10_sealIt_273 rfl rfl ?_
          obtain ⟨q189, f189, hq189, hl189, hf189⟩ := ts_ia hS181.1 m188 hk_55
          refine rs_iald q189 hl189 hf189 rfl r2_ (by decide) (by decide) dX10_sealIt_274 (fun v190 ev190 rv190 => ?_)
          obtain ⟨q191, f191, hq191, hl191, hf191⟩ := ts_ia hS181.1 m187 hk_39
          refine rs_iald q191 hl191 hf191 rfl rv190 (by decide) (by decide) dX10_sealIt_275 (fun v192 ev192 rv192 => ?_)
          refine rn_callV (a := 0) (b := 0) [.int (4416 : Int32), .int v192] kl_SGModel_148 dX10_sealIt_276 q3 (hT181.fr hq3 rfl ((hn173 _ (ts_ne hq165 hq3 rfl)).trans ((hn167 _ (ts_ne hq165 hq3 rfl)).trans hl164))) rfl (t_X10_putFour G S w179 hS181.1 o0_ m0_ (4416 : Int32) (rg_w rk_4416 (by decide) (by decide)) v192) rfl rfl (Nat.le_of_ble_eq_true rfl) (Nat.le_of_ble_eq_true rfl) (Nat.le_of_ble_eq_true rfl) (Nat.le_of_ble_eq_true rfl) (Nat.le_of_ble_eq_true rfl) (Nat.le_of_ble_eq_true rfl) (fun _ _ h => False.elim h) (fun v9 w193 h194 => ?_)
          obtain ⟨hT195, rfl, xah194⟩ := h194
          have hS195 := St.tr hS181 hT195 rfl
          have ht196 := bsame.keep xah194 ht182 (by have := rv192.1; have := rv192.2; have := rk_4416.1; have := rk_4416.2; omega)
          have ht197 := bsame.keep xah194 ht183 (by have := rv192.1; have := rv192.2; have := rk_4416.1; have := rk_4416.2; omega)
          have ht198 := bsame.keep xah194 ht184 (by have := rv192.1; have := rv192.2; have := rk_4416.1; have := rk_4416.2; omega)
          have fk199 : fK1 4 S ws w193 := fk_fr fk185 hT195 rfl
          refine rn_stk [] rfl ?_
          refine rn_aload_n (i := 0) dX10_sealIt_279 rfl rfl ?_
          refine rn_sipush (v := (4400 : Int32)) dX10_sealIt_280 (by decide) ?_
          refine rn_callV (a := 0) (b := 0) [.int (4400 : Int32)] kl_SGModel_184 dX10_sealIt_283 q3 (hT195.fr hq3 rfl (hT181.fr hq3 rfl ((hn173 _ (ts_ne hq165 hq3 rfl)).trans ((hn167 _ (ts_ne hq165 hq3 rfl)).trans hl164)))) rfl (t_X10_setSum G S w193 hS195.1 o0_ m0_ (4400 : Int32) (rg_w rk_4400 (by decide) (by decide))) rfl rfl (Nat.le_of_ble_eq_true rfl) (Nat.le_of_ble_eq_true rfl) (Nat.le_of_ble_eq_true rfl) (Nat.le_of_ble_eq_true rfl) (Nat.le_of_ble_eq_true rfl) (Nat.le_of_ble_eq_true rfl) (fun _ _ h => False.elim h) (fun v9 w200 h201 => ?_)
          obtain ⟨hT202, rfl, xah201⟩ := h201
          have hS202 := St.tr hS195 hT202 rfl
          have ht203 := bsame.keep xah201 ht196 (by have := rk_4400.1; have := rk_4400.2; omega)
          have ht204 := bsame.keep xah201 ht197 (by have := rk_4400.1; have := rk_4400.2; omega)
          have ht205 := bsame.keep xah201 ht198 (by have := rk_4400.1; have := rk_4400.2; omega)
          have fk206 : fK1 4 S ws w200 := fk_fr fk199 hT202 rfl
          refine rn_stk [] rfl ?_
          refine rn_aload_n (i := 0) dX10_sealIt_286 rfl rfl ?_
          refine rn_dup dX10_sealIt_287 rfl ?_
          refine rn_get q3 kg_SGModel_267 (hT202.fr hq3 rfl (hT195.fr hq3 rfl (hT181.fr hq3 rfl ((hn173 _ (ts_ne hq165 hq3 rfl)).trans ((hn167 _ (ts_ne hq165 hq3 rfl)).trans hl164))))) hx85 dX10_sealIt_288 ?_
          refine rn_iconst (v := (1 : Int32)) dX10_sealIt_291 (by decide) ?_
          refine rn_iadd dX10_sealIt_292 (rn_nmA (fun v207 rv207 => ?_))
          refine rs_put q3 (kp_SGModel_267 _) hS202 hq3 (hT202.fr hq3 rfl (hT195.fr hq3 rfl (hT181.fr hq3 rfl ((hn173 _ (ts_ne hq165 hq3 rfl)).trans ((hn167 _ (ts_ne hq165 hq3 rfl)).trans hl164))))) hf3 hk_30 rfl rfl (tv_i rv207) rfl rfl dX10_sealIt_293 (fun w208 fs209 hS209 hl209 hf209 hx209 ho209 hn209 => ?_)
          have fk210 : fK1 4 S ws w208 := fk_put fk206 hS202.1 hq3 (hT202.fr hq3 rfl (hT195.fr hq3 rfl (hT181.fr hq3 rfl ((hn173 _ (ts_ne hq165 hq3 rfl)).trans ((hn167 _ (ts_ne hq165 hq3 rfl)).trans hl164))))) hl209 ho209 (by decide)
          have ht211 := tw_eq (byt_ne hn209 (ts_ne hq3 hob1 rfl)) ht203
          have ht212 := tw_eq (byt_ne hn209 (ts_ne hq3 hob1 rfl)) ht204
          have ht213 := tw_eq (byt_ne hn209 (ts_ne hq3 hob1 rfl)) ht205
          exact rn_vret dX10_sealIt_296 rfl (rq_in ⟨hS209, rfl, (by rw [ht211]; exact ⟨by have := rv79.1; have := rv79.2; have := rv15.1; have := rv15.2; have := rk_2.1; have := rk_2.2; have := rv14.1; have := rv14.2; have := rv12.1; have := rv12.2; have := r9.1; have := r9.2; have := rk_36.1; have := rk_36.2; omega, by have := rv79.1; have := rv79.2; have := rv15.1; have := rv15.2; have := rk_2.1; have := rk_2.2; have := rv14.1; have := rv14.2; have := rv12.1; have := rv12.2; have := r9.1; have := r9.2; have := rk_36.1; have := rk_36.2; omega⟩), fk210⟩)
      · have ch28 := cv_nlt h28
        have r214 : Rg (1) (3) x21 := rf_lex ch28 r25 rv12 (by decide)
        have r215 : Rg (1) (3) v12 := rf_ley ch28 r25 rv12 (by decide)
        refine rn_aload_n (i := 0) dX10_sealIt_47 rfl rfl ?_
        obtain ⟨o216, hx216, m216⟩ := fs_r hf3 2 rfl
        refine rn_get q3 kg_SGModel_7 (hT24.fr hq3 rfl (hT18.fr hq3 rfl hl3)) hx216 dX10_sealIt_48 ?_
        refine rn_iload dX10_sealIt_51 rfl ?_
        refine rn_iload dX10_sealIt_53 rfl ?_
        refine rs_addD (4428) (6428) rk_4428 r9 dX10_sealIt_55 (by decide) (fun v217 ev217 rv217 => ?_)
        refine rn_iload dX10_sealIt_56 rfl ?_
        refine rs_addR (4429) (6431) rv217 r214 dX10_sealIt_58 (by decide) (fun v218 ev218 rv218 => ?_)
        refine rn_iconst (v := (1 : Int32)) dX10_sealIt_59 (by decide) ?_
        refine rs_subC (4428) (6430) rv218 rk_1 dX10_sealIt_60 (by decide) (fun v219 ev219 rv219 => ?_)
        refine rn_iload dX10_sealIt_61 rfl ?_
        obtain ⟨q220, f220, hq220, hl220, hf220⟩ := ts_ia hT24.1 m216 hk_33
        refine rs_iast q220 hT24 hq220 hl220 hf220 hk_33 rfl rfl rv219 (by decide) (by decide) (rg_w r214 (by decide) (by decide)) dX10_sealIt_63 (fun w221 f222 hS222 hl222 hf222 hu222 hn222 => ?_)
        have fk223 : fK1 4 S ws w221 := fk_ne fk27 hn222 hq220 rfl
        refine rs_iinc (2) (4) dX10_sealIt_64 rfl (by decide) r214 rk_1 (by decide) (fun v224 => [(0, .ref o0_), (1, .int (2200 : Int32)), (2, .int x2_), (3, .long y3_), (5, .int v7), (6, .int v12), (7, .int (4428 : Int32)), (8, .int v15), (9, .int v224)]) (fun _ => rfl) (fun v224 ev224 rv224 => ?_)
        refine rn_goto (tgt := 40) dX10_sealIt_67 (by decide) ?_
        refine rn_lv [(0, .ref o0_), (1, .int (2200 : Int32)), (2, .int x2_), (3, .long y3_), (5, .int v7), (6, .int v12), (7, .int (4428 : Int32)), (8, .int v15), (9, .int v224)] rfl ?_
        exact ih _ (lp_inc hm26 ev224 rv224 (by decide)) w221 v224 hS222 (rg_w rv224 (by decide) (by decide)) rfl
  exact LP22 _ w16 (1 : Int32) (St.rf hS18.1) (rg_w rk_1 (by decide) (by decide)) rfl
