abbrev q_t_X10_ended (G : rn_G) (S : ts_S) (ws : va_W) : rn_R → va_W → Prop := rQ (fun v w => St G S [30] ws S w ∧ (∃ x : Int32, v = some (.int x) ∧ Rg (-2147483648) (2147483647) x ∧ fK1 4 S ws w)) (fun E w => False)
set_option maxRecDepth 20000 in
set_option maxHeartbeats 4000000 in
theorem t_X10_ended (G : rn_G) (S : ts_S) (ws : va_W) (hW : ts_W G S ws) (o0_ : Nat) (m0_ : (o0_, 30) ∈ S) (x1_ : Int32) : Rn G mX10_ended 1 22 0 0 0 (lv_args 0 [.ref o0_, .int x1_]) [] ws (q_t_X10_ended G S ws ) := by
  have hS0 : St G S [30] ws S ws := St.rf hW
  have fk0 : fK1 4 S ws ws := fun v h => h
  refine rn_lv [(0, .ref o0_), (1, .int x1_)] rfl ?_
  refine rn_aload_n (i := 0) dX10_ended_0 rfl rfl ?_
  refine rn_iconst (v := (0 : Int32)) dX10_ended_1 (by decide) ?_
  obtain ⟨q1, fs1, hq1, hl1, hf1⟩ := ts_obj hS0.1 m0_ hk_30
  refine rs_put q1 (kp_SGModel_137 _) hS0 hq1 hl1 hf1 hk_30 rfl rfl (tv_i (rg_w rk_0 (by decide) (by decide))) rfl rfl dX10_ended_2 (fun w2 fs3 hS3 hl3 hf3 hx3 ho3 hn3 => ?_)
  have fk4 : fK1 4 S ws w2 := fk_put fk0 hS0.1 hq1 hl1 hl3 ho3 (by decide)
  refine rn_aload_n (i := 0) dX10_ended_5 rfl rfl ?_
  refine rn_iload_n (i := 1) dX10_ended_6 rfl rfl ?_
  refine rn_iconst (v := (0 : Int32)) dX10_ended_7 (by decide) ?_
  refine rn_bipush (v := (20 : Int32)) dX10_ended_8 (by decide) ?_
  refine rn_inS (d' := 0) (z' := 0) [.int x1_, .int (0 : Int32), .int (20 : Int32)] kl_SGModel_179 dX10_ended_10 rfl rfl (Nat.le_of_ble_eq_true rfl) (Nat.le_of_ble_eq_true rfl) (Nat.le_of_ble_eq_true rfl) (Nat.le_of_ble_eq_true rfl) ?_
  refine rn_lv [(0, .int x1_), (1, .int (0 : Int32)), (2, .int (20 : Int32))] rfl ?_
  refine rn_iload_n (i := 0) dX10_in_0 rfl rfl ?_
  refine rn_iload_n (i := 1) dX10_in_1 rfl rfl ?_
  refine rn_icmp_lt (tgt := 14) dX10_in_2 (by decide) (fun h5 => ?_) (fun h5 => ?_)
  · have ch5 := cv_lt h5
    have r6 : Rg (-2147483648) (-1) x1_ := rf_ltx ch5 (rg_any x1_) rk_0 (by decide)
    refine rn_iconst (v := (0 : Int32)) dX10_in_14 (by decide) ?_
    refine rn_iret dX10_in_15 rfl rfl (rq_in ?_)
    refine rn_stk [.int (0 : Int32), .ref o0_] rfl ?_
    refine rn_if_ne (tgt := 20) dX10_ended_13 (by decide) (fun h7 => (cx_ne (cv_ne h7) rk_0 rk_0 (by decide)).elim) (fun h7 => ?_)
    refine rn_iconst (v := (1 : Int32)) dX10_ended_16 (by decide) ?_
    refine rn_goto (tgt := 21) dX10_ended_17 (by decide) ?_
    refine rn_iconst (v := (1 : Int32)) dX10_ended_21 (by decide) ?_
    refine rn_inV (d' := 0) (z' := 0) [.int (1 : Int32), .int (1 : Int32)] kl_SGModel_171 dX10_ended_22 q1 hl3 rfl rfl rfl (Nat.le_of_ble_eq_true rfl) (Nat.le_of_ble_eq_true rfl) (Nat.le_of_ble_eq_true rfl) (Nat.le_of_ble_eq_true rfl) ?_
    refine rn_lv [(0, .ref o0_), (1, .int (1 : Int32)), (2, .int (1 : Int32))] rfl ?_
    refine rn_aload_n (i := 0) dX10_refuses_0 rfl rfl ?_
    refine rn_get q1 kg_SGModel_137 hl3 hx3 dX10_refuses_1 ?_
    refine rn_if_ne (tgt := 16) dX10_refuses_4 (by decide) (fun h8 => (cx_ne (cv_ne h8) rk_0 rk_0 (by decide)).elim) (fun h8 => ?_)
    refine rn_iload_n (i := 1) dX10_refuses_7 rfl rfl ?_
    refine rn_if_eq (tgt := 16) dX10_refuses_8 (by decide) (fun h9 => (cx_eq (cv_eq h9) rk_1 rk_0 (by decide)).elim) (fun h9 => ?_)
    refine rn_aload_n (i := 0) dX10_refuses_11 rfl rfl ?_
    refine rn_iload_n (i := 2) dX10_refuses_12 rfl rfl ?_
    refine rs_put q1 (kp_SGModel_137 _) hS3 hq1 hl3 hf3 hk_30 rfl rfl (tv_i (rg_w rk_1 (by decide) (by decide))) rfl rfl dX10_refuses_13 (fun w10 fs11 hS11 hl11 hf11 hx11 ho11 hn11 => ?_)
    have fk12 : fK1 4 S ws w10 := fk_put fk4 hS3.1 hq1 hl3 hl11 ho11 (by decide)
    refine rn_aload_n (i := 0) dX10_refuses_16 rfl rfl ?_
    refine rn_get q1 kg_SGModel_137 hl11 hx11 dX10_refuses_17 ?_
    refine rn_if_le (tgt := 27) dX10_refuses_20 (by decide) (fun h13 => (cx_le (cv_le h13) rk_1 rk_0 (by decide)).elim) (fun h13 => ?_)
    refine rn_iconst (v := (1 : Int32)) dX10_refuses_23 (by decide) ?_
    refine rn_goto (tgt := 28) dX10_refuses_24 (by decide) ?_
    refine rn_iret dX10_refuses_28 rfl rfl (rq_in ?_)
    refine rn_stk [.int (1 : Int32)] rfl ?_
    refine rn_if_eq (tgt := 30) dX10_ended_25 (by decide) (fun h14 => (cx_eq (cv_eq h14) rk_1 rk_0 (by decide)).elim) (fun h14 => ?_)
    refine rn_iconst (v := (0 : Int32)) dX10_ended_28 (by decide) ?_
    exact rn_iret dX10_ended_29 rfl rfl (rq_in ⟨hS11, (0 : Int32), rfl, (rg_w rk_0 (by decide) (by decide)), fk12⟩)
  · have ch5 := cv_nlt h5
    have r15 : Rg (0) (2147483647) x1_ := rf_ley ch5 rk_0 (rg_any x1_) (by decide)
    refine rn_iload_n (i := 0) dX10_in_5 rfl rfl ?_
    refine rn_iload_n (i := 2) dX10_in_6 rfl rfl ?_
    refine rn_icmp_gt (tgt := 14) dX10_in_7 (by decide) (fun h16 => ?_) (fun h16 => ?_)
    · have ch16 := cv_lt h16
      have r17 : Rg (21) (2147483647) x1_ := rf_lty ch16 rk_20 r15 (by decide)
      refine rn_iconst (v := (0 : Int32)) dX10_in_14 (by decide) ?_
      refine rn_iret dX10_in_15 rfl rfl (rq_in ?_)
      refine rn_stk [.int (0 : Int32), .ref o0_] rfl ?_
      refine rn_if_ne (tgt := 20) dX10_ended_13 (by decide) (fun h18 => (cx_ne (cv_ne h18) rk_0 rk_0 (by decide)).elim) (fun h18 => ?_)
      refine rn_iconst (v := (1 : Int32)) dX10_ended_16 (by decide) ?_
      refine rn_goto (tgt := 21) dX10_ended_17 (by decide) ?_
      refine rn_iconst (v := (1 : Int32)) dX10_ended_21 (by decide) ?_
      refine rn_inV (d' := 0) (z' := 0) [.int (1 : Int32), .int (1 : Int32)] kl_SGModel_171 dX10_ended_22 q1 hl3 rfl rfl rfl (Nat.le_of_ble_eq_true rfl) (Nat.le_of_ble_eq_true rfl) (Nat.le_of_ble_eq_true rfl) (Nat.le_of_ble_eq_true rfl) ?_
      refine rn_lv [(0, .ref o0_), (1, .int (1 : Int32)), (2, .int (1 : Int32))] rfl ?_
      refine rn_aload_n (i := 0) dX10_refuses_0 rfl rfl ?_
      refine rn_get q1 kg_SGModel_137 hl3 hx3 dX10_refuses_1 ?_
      refine rn_if_ne (tgt := 16) dX10_refuses_4 (by decide) (fun h19 => (cx_ne (cv_ne h19) rk_0 rk_0 (by decide)).elim) (fun h19 => ?_)
      refine rn_iload_n (i := 1) dX10_refuses_7 rfl rfl ?_
      refine rn_if_eq (tgt := 16) dX10_refuses_8 (by decide) (fun h20 => (cx_eq (cv_eq h20) rk_1 rk_0 (by decide)).elim) (fun h20 => ?_)
      refine rn_aload_n (i := 0) dX10_refuses_11 rfl rfl ?_
      refine rn_iload_n (i := 2) dX10_refuses_12 rfl rfl ?_
      refine rs_put q1 (kp_SGModel_137 _) hS3 hq1 hl3 hf3 hk_30 rfl rfl (tv_i (rg_w rk_1 (by decide) (by decide))) rfl rfl dX10_refuses_13 (fun w21 fs22 hS22 hl22 hf22 hx22 ho22 hn22 => ?_)
      have fk23 : fK1 4 S ws w21 := fk_put fk4 hS3.1 hq1 hl3 hl22 ho22 (by decide)
      refine rn_aload_n (i := 0) dX10_refuses_16 rfl rfl ?_
      refine rn_get q1 kg_SGModel_137 hl22 hx22 dX10_refuses_17 ?_
      refine rn_if_le (tgt := 27) dX10_refuses_20 (by decide) (fun h24 => (cx_le (cv_le h24) rk_1 rk_0 (by decide)).elim) (fun h24 => ?_)
      refine rn_iconst (v := (1 : Int32)) dX10_refuses_23 (by decide) ?_
      refine rn_goto (tgt := 28) dX10_refuses_24 (by decide) ?_
      refine rn_iret dX10_refuses_28 rfl rfl (rq_in ?_)
      refine rn_stk [.int (1 : Int32)] rfl ?_
      refine rn_if_eq (tgt := 30) dX10_ended_25 (by decide) (fun h25 => (cx_eq (cv_eq h25) rk_1 rk_0 (by decide)).elim) (fun h25 => ?_)
      refine rn_iconst (v := (0 : Int32)) dX10_ended_28 (by decide) ?_
      exact rn_iret dX10_ended_29 rfl rfl (rq_in ⟨hS22, (0 : Int32), rfl, (rg_w rk_0 (by decide) (by decide)), fk23⟩)
    · have ch16 := cv_nlt h16
      have r26 : Rg (0) (20) x1_ := rf_lex ch16 r15 rk_20 (by decide)
      refine rn_iconst (v := (1 : Int32)) dX10_in_10 (by decide) ?_
      refine rn_goto (tgt := 15) dX10_in_11 (by decide) ?_
      refine rn_iret dX10_in_15 rfl rfl (rq_in ?_)
      refine rn_stk [.int (1 : Int32), .ref o0_] rfl ?_
      refine rn_if_ne (tgt := 20) dX10_ended_13 (by decide) (fun h27 => ?_) (fun h27 => (cx_eq (cv_eq h27) rk_1 rk_0 (by decide)).elim)
      refine rn_iconst (v := (0 : Int32)) dX10_ended_20 (by decide) ?_
      refine rn_iconst (v := (1 : Int32)) dX10_ended_21 (by decide) ?_
      refine rn_inV (d' := 0) (z' := 0) [.int (0 : Int32), .int (1 : Int32)] kl_SGModel_171 dX10_ended_22 q1 hl3 rfl rfl rfl (Nat.le_of_ble_eq_true rfl) (Nat.le_of_ble_eq_true rfl) (Nat.le_of_ble_eq_true rfl) (Nat.le_of_ble_eq_true rfl) ?_
      refine rn_lv [(0, .ref o0_), (1, .int (0 : Int32)), (2, .int (1 : Int32))] rfl ?_
      refine rn_aload_n (i := 0) dX10_refuses_0 rfl rfl ?_
      refine rn_get q1 kg_SGModel_137 hl3 hx3 dX10_refuses_1 ?_
      refine rn_if_ne (tgt := 16) dX10_refuses_4 (by decide) (fun h28 => (cx_ne (cv_ne h28) rk_0 rk_0 (by decide)).elim) (fun h28 => ?_)
      refine rn_iload_n (i := 1) dX10_refuses_7 rfl rfl ?_
      refine rn_if_eq (tgt := 16) dX10_refuses_8 (by decide) (fun h29 => ?_) (fun h29 => (cx_ne (cv_ne h29) rk_0 rk_0 (by decide)).elim)
      refine rn_aload_n (i := 0) dX10_refuses_16 rfl rfl ?_
      refine rn_get q1 kg_SGModel_137 hl3 hx3 dX10_refuses_17 ?_
      refine rn_if_le (tgt := 27) dX10_refuses_20 (by decide) (fun h30 => ?_) (fun h30 => (cx_lt (cv_nle h30) rk_0 rk_0 (by decide)).elim)
      refine rn_iconst (v := (0 : Int32)) dX10_refuses_27 (by decide) ?_
      refine rn_iret dX10_refuses_28 rfl rfl (rq_in ?_)
      refine rn_stk [.int (0 : Int32)] rfl ?_
      refine rn_if_eq (tgt := 30) dX10_ended_25 (by decide) (fun h31 => ?_) (fun h31 => (cx_ne (cv_ne h31) rk_0 rk_0 (by decide)).elim)
      refine rn_iconst (v := (0 : Int32)) dX10_ended_30 (by decide) ?_
      refine rn_istore_n dX10_ended_31 rfl (by decide) [(0, .ref o0_), (1, .int x1_), (2, .int (0 : Int32))] rfl ?_
      refine rn_iconst (v := (0 : Int32)) dX10_ended_32 (by decide) ?_
      refine rn_istore_n dX10_ended_33 rfl (by decide) [(0, .ref o0_), (1, .int x1_), (2, .int (0 : Int32)), (3, .int (0 : Int32))] rfl ?_
      have LP34 : ∀ (n : Nat) (x32 : Int32) (x33 : Int32), Rg (-2147483648) (2147483647) x32 → Rg (0) (4) x33 → (4 - x33.toInt).toNat = n → Rn G mX10_ended 1 22 0 0 34 [(0, .ref o0_), (1, .int x1_), (2, .int x32), (3, .int x33)] [] w2 (q_t_X10_ended G S ws ) := by
        intro n
        induction n using Nat.strongRecOn with
        | _ n ih =>
          intro x32 x33 r36 r37 hm38
          refine rn_iload_n (i := 3) dX10_ended_34 rfl rfl ?_
          refine rn_iconst (v := (4 : Int32)) dX10_ended_35 (by decide) ?_
          refine rn_icmp_ge (tgt := 62) dX10_ended_36 (by decide) (fun h39 => ?_) (fun h39 => ?_)
          · have ch39 := cv_le h39
            have r40 : Rg (4) (4) x33 := rf_ley ch39 rk_4 r37 (by decide)
            refine rn_iload_n (i := 1) dX10_ended_62 rfl rfl ?_
            refine rn_bipush (v := (18 : Int32)) dX10_ended_63 (by decide) ?_
            refine rn_icmp_ge (tgt := 77) dX10_ended_65 (by decide) (fun h41 => ?_) (fun h41 => ?_)
            · have ch41 := cv_le h41
              have r42 : Rg (18) (20) x1_ := rf_ley ch41 rk_18 r26 (by decide)
              refine rn_iload_n (i := 1) dX10_ended_77 rfl rfl ?_
              refine rn_bipush (v := (18 : Int32)) dX10_ended_78 (by decide) ?_
              refine rn_icmp_ne (tgt := 90) dX10_ended_80 (by decide) (fun h43 => ?_) (fun h43 => ?_)
              · have ch43 := cv_ne h43
                have r44 : Rg (19) (20) x1_ := rf_nel ch43 r42 rk_18 (by decide) (by decide)
                refine rn_iload_n (i := 1) dX10_ended_90 rfl rfl ?_
                refine rn_bipush (v := (19 : Int32)) dX10_ended_91 (by decide) ?_
                refine rn_icmp_ne (tgt := 103) dX10_ended_93 (by decide) (fun h45 => ?_) (fun h45 => ?_)
                · have ch45 := cv_ne h45
                  have r46 : Rg (20) (20) x1_ := rf_nel ch45 r44 rk_19 (by decide) (by decide)
                  refine rn_iload_n (i := 2) dX10_ended_103 rfl rfl ?_
                  exact rn_iret dX10_ended_104 rfl rfl (rq_in ⟨hS3, x32, rfl, r36, fk4⟩)
                · have ch45 := cv_eq h45
                  have r47 : Rg (19) (19) x1_ := rf_eqx ch45 r44 rk_19 (by decide) (by decide)
                  refine rn_aload_n (i := 0) dX10_ended_96 rfl rfl ?_
                  obtain ⟨x48, hx48, rx48⟩ := fs_i hf3 33 rfl
                  refine rn_get q1 kg_SGModel_267 hl3 hx48 dX10_ended_97 ?_
                  refine rn_goto (tgt := 104) dX10_ended_100 (by decide) ?_
                  exact rn_iret dX10_ended_104 rfl rfl (rq_in ⟨hS3, x48, rfl, rx48, fk4⟩)
              · have ch43 := cv_eq h43
                have r49 : Rg (18) (18) x1_ := rf_eqx ch43 r42 rk_18 (by decide) (by decide)
                refine rn_aload_n (i := 0) dX10_ended_83 rfl rfl ?_
                obtain ⟨x50, hx50, rx50⟩ := fs_i hf3 22 rfl
                refine rn_get q1 kg_SGModel_200 hl3 hx50 dX10_ended_84 ?_
                refine rn_goto (tgt := 104) dX10_ended_87 (by decide) ?_
                exact rn_iret dX10_ended_104 rfl rfl (rq_in ⟨hS3, x50, rfl, (rg_w rx50 (by decide) (by decide)), fk4⟩)
            · have ch41 := cv_nle h41
              have r51 : Rg (0) (17) x1_ := rf_ltx ch41 r26 rk_18 (by decide)
              refine rn_aload_n (i := 0) dX10_ended_68 rfl rfl ?_
              obtain ⟨o52, hx52, m52⟩ := fs_r hf3 44 rfl
              refine rn_get q1 kg_SGModel_116 hl3 hx52 dX10_ended_69 ?_
              refine rn_iload_n (i := 1) dX10_ended_72 rfl rfl ?_
              obtain ⟨q53, f53, hq53, hl53, hf53⟩ := ts_ia hS3.1 m52 hk_75
              refine rs_iald q53 hl53 hf53 rfl r51 (by decide) (by decide) dX10_ended_73 (fun v54 ev54 rv54 => ?_)
              refine rn_goto (tgt := 104) dX10_ended_74 (by decide) ?_
              exact rn_iret dX10_ended_104 rfl rfl (rq_in ⟨hS3, v54, rfl, rv54, fk4⟩)
          · have ch39 := cv_nle h39
            have r55 : Rg (0) (3) x33 := rf_ltx ch39 r37 rk_4 (by decide)
            refine rn_iload_n (i := 2) dX10_ended_39 rfl rfl ?_
            refine rn_aload_n (i := 0) dX10_ended_40 rfl rfl ?_
            obtain ⟨o56, hx56, m56⟩ := fs_r hf3 36 rfl
            refine rn_get q1 kg_SGModel_95 hl3 hx56 dX10_ended_41 ?_
            refine rn_iload_n (i := 3) dX10_ended_44 rfl rfl ?_
            obtain ⟨q57, f57, hq57, hl57, hf57⟩ := ts_ia hS3.1 m56 hk_67
            refine rs_zald q57 hl57 hf57 rfl r55 (by decide) (by decide) dX10_ended_45 (fun v58 ev58 rv58 => ?_)
            refine rn_if_eq (tgt := 53) dX10_ended_46 (by decide) (fun h59 => ?_) (fun h59 => ?_)
            · have ch59 := cv_eq h59
              have r60 : Rg (0) (0) v58 := rf_eqx ch59 rv58 rk_0 (by decide) (by decide)
              refine rn_iconst (v := (0 : Int32)) dX10_ended_53 (by decide) ?_
              refine rs_addC (-2147483648) (2147483647) r36 rk_0 dX10_ended_54 (by decide) (fun v61 ev61 rv61 => ?_)
              refine rn_istore_n dX10_ended_55 rfl (by decide) [(0, .ref o0_), (1, .int x1_), (2, .int v61), (3, .int x33)] rfl ?_
              refine rs_iinc (1) (4) dX10_ended_56 rfl (by decide) r55 rk_1 (by decide) (fun v62 => [(0, .ref o0_), (1, .int x1_), (2, .int v61), (3, .int v62)]) (fun _ => rfl) (fun v62 ev62 rv62 => ?_)
              refine rn_goto (tgt := 34) dX10_ended_59 (by decide) ?_
              refine rn_lv [(0, .ref o0_), (1, .int x1_), (2, .int v61), (3, .int v62)] rfl ?_
              exact ih _ (lp_inc hm38 ev62 rv62 (by decide)) v61 v62 rv61 (rg_w rv62 (by decide) (by decide)) rfl
            · have ch59 := cv_ne h59
              have r63 : Rg (1) (1) v58 := rf_nel ch59 rv58 rk_0 (by decide) (by decide)
              refine rn_iconst (v := (1 : Int32)) dX10_ended_49 (by decide) ?_
              refine rn_goto (tgt := 54) dX10_ended_50 (by decide) ?_
              refine rn_iadd dX10_ended_54 (rn_nmA (fun v64 rv64 => ?_))
              refine rn_istore_n dX10_ended_55 rfl (by decide) [(0, .ref o0_), (1, .int x1_), (2, .int v64), (3, .int x33)] rfl ?_
              refine rs_iinc (1) (4) dX10_ended_56 rfl (by decide) r55 rk_1 (by decide) (fun v65 => [(0, .ref o0_), (1, .int x1_), (2, .int v64), (3, .int v65)]) (fun _ => rfl) (fun v65 ev65 rv65 => ?_)
              refine rn_goto (tgt := 34) dX10_ended_59 (by decide) ?_
              refine rn_lv [(0, .ref o0_), (1, .int x1_), (2, .int v64), (3, .int v65)] rfl ?_
              exact ih _ (lp_inc hm38 ev65 rv65 (by decide)) v64 v65 rv64 (rg_w rv65 (by decide) (by decide)) rfl
      exact LP34 _ (0 : Int32) (0 : Int32) (rg_w rk_0 (by decide) (by decide)) (rg_w rk_0 (by decide) (by decide)) rfl
abbrev q_t_X10_clear (G : rn_G) (S : ts_S) (ws : va_W) : rn_R → va_W → Prop := rQ (fun v w => St G S [30, 39, 65, 67, 75] ws S w ∧ (v = none ∧ (TM S w 0 (fun _ => 0) (fun _ => 0) (fun _ => 0)))) (fun E w => False)
set_option maxRecDepth 20000 in
set_option maxHeartbeats 4000000 in
theorem t_X10_clear (G : rn_G) (S : ts_S) (ws : va_W) (hW : ts_W G S ws) (o0_ : Nat) (m0_ : (o0_, 30) ∈ S) : Rn G mX10_clear 0 0 0 0 0 (lv_args 0 [.ref o0_]) [] ws (q_t_X10_clear G S ws ) := by
  have hS0 : St G S [30, 39, 65, 67, 75] ws S ws := St.rf hW
  obtain ⟨q1, fs1, hq1, hl1, hf1⟩ := ts_obj hS0.1 m0_ hk_30
  obtain ⟨o2, hx2, m2⟩ := fs_r hf1 5 rfl
  obtain ⟨o3, hx3, m3⟩ := fs_r hf1 6 rfl
  obtain ⟨o4, hx4, m4⟩ := fs_r hf1 7 rfl
  refine rn_lv [(0, .ref o0_)] rfl ?_
  refine rn_aload_n (i := 0) dX10_clear_0 rfl rfl ?_
  refine rn_iconst (v := (0 : Int32)) dX10_clear_1 (by decide) ?_
  refine rs_put q1 (kp_SGModel_137 _) hS0 hq1 hl1 hf1 hk_30 rfl rfl (tv_i (rg_w rk_0 (by decide) (by decide))) rfl rfl dX10_clear_2 (fun w5 fs6 hS6 hl6 hf6 hx6 ho6 hn6 => ?_)
  refine rn_aload_n (i := 0) dX10_clear_5 rfl rfl ?_
  refine rn_iconst (v := (0 : Int32)) dX10_clear_6 (by decide) ?_
  refine rs_put q1 (kp_SGModel_168 _) hS6 hq1 hl6 hf6 hk_30 rfl rfl (tv_i (rg_w rk_0 (by decide) (by decide))) rfl rfl dX10_clear_7 (fun w7 fs8 hS8 hl8 hf8 hx8 ho8 hn8 => ?_)
  refine rn_aload_n (i := 0) dX10_clear_10 rfl rfl ?_
  refine rn_iconst (v := (0 : Int32)) dX10_clear_11 (by decide) ?_
  refine rs_put q1 (kp_SGModel_188 _) hS8 hq1 hl8 hf8 hk_30 rfl rfl (tv_i (rg_w rk_0 (by decide) (by decide))) rfl rfl dX10_clear_12 (fun w9 fs10 hS10 hl10 hf10 hx10 ho10 hn10 => ?_)
  refine rn_aload_n (i := 0) dX10_clear_15 rfl rfl ?_
  refine rn_iconst (v := (0 : Int32)) dX10_clear_16 (by decide) ?_
  refine rs_put q1 (kp_SGModel_197 _) hS10 hq1 hl10 hf10 hk_30 rfl rfl (tv_i (rg_w rk_0 (by decide) (by decide))) rfl rfl dX10_clear_17 (fun w11 fs12 hS12 hl12 hf12 hx12 ho12 hn12 => ?_)
  refine rn_aload_n (i := 0) dX10_clear_20 rfl rfl ?_
  refine rn_iconst (v := (0 : Int32)) dX10_clear_21 (by decide) ?_
  refine rs_put q1 (kp_SGModel_200 _) hS12 hq1 hl12 hf12 hk_30 rfl rfl (tv_i (rg_w rk_0 (by decide) (by decide))) rfl rfl dX10_clear_22 (fun w13 fs14 hS14 hl14 hf14 hx14 ho14 hn14 => ?_)
  refine rn_aload_n (i := 0) dX10_clear_25 rfl rfl ?_
  refine rn_iconst (v := (0 : Int32)) dX10_clear_26 (by decide) ?_
  refine rs_put q1 (kp_SGModel_267 _) hS14 hq1 hl14 hf14 hk_30 rfl rfl (tv_i (rg_w rk_0 (by decide) (by decide))) rfl rfl dX10_clear_27 (fun w15 fs16 hS16 hl16 hf16 hx16 ho16 hn16 => ?_)
  refine rn_aload_n (i := 0) dX10_clear_30 rfl rfl ?_
  refine rn_iconst (v := (0 : Int32)) dX10_clear_31 (by decide) ?_
  refine rs_put q1 (kp_SGModel_243 _) hS16 hq1 hl16 hf16 hk_30 rfl rfl (tv_i (rg_w rk_0 (by decide) (by decide))) rfl rfl dX10_clear_32 (fun w17 fs18 hS18 hl18 hf18 hx18 ho18 hn18 => ?_)
  refine rn_aload_n (i := 0) dX10_clear_35 rfl rfl ?_
  refine rn_iconst (v := (-1 : Int32)) dX10_clear_36 (by decide) ?_
  refine rs_put q1 (kp_SGModel_92 _) hS18 hq1 hl18 hf18 hk_30 rfl rfl (tv_i (rg_w rk_m1 (by decide) (by decide))) rfl rfl dX10_clear_37 (fun w19 fs20 hS20 hl20 hf20 hx20 ho20 hn20 => ?_)
  refine rn_aload_n (i := 0) dX10_clear_40 rfl rfl ?_
  refine rn_iconst (v := (0 : Int32)) dX10_clear_41 (by decide) ?_
  refine rs_put q1 (kp_SGModel_191 _) hS20 hq1 hl20 hf20 hk_30 rfl rfl (tv_i (rg_w rk_0 (by decide) (by decide))) rfl rfl dX10_clear_42 (fun w21 fs22 hS22 hl22 hf22 hx22 ho22 hn22 => ?_)
  refine rn_aload_n (i := 0) dX10_clear_45 rfl rfl ?_
  refine rn_iconst (v := (0 : Int32)) dX10_clear_46 (by decide) ?_
  refine rs_put q1 (kp_SGModel_194 _) hS22 hq1 hl22 hf22 hk_30 rfl rfl (tv_i (rg_w rk_0 (by decide) (by decide))) rfl rfl dX10_clear_47 (fun w23 fs24 hS24 hl24 hf24 hx24 ho24 hn24 => ?_)
  refine rn_aload_n (i := 0) dX10_clear_50 rfl rfl ?_
  refine rn_ldc (v := (65535 : Int32)) wd_1093 dX10_clear_51 ?_
  refine rs_put q1 (kp_SGModel_53 _) hS24 hq1 hl24 hf24 hk_30 rfl rfl (tv_i (rg_w rk_65535 (by decide) (by decide))) rfl rfl dX10_clear_53 (fun w25 fs26 hS26 hl26 hf26 hx26 ho26 hn26 => ?_)
  refine rn_iconst (v := (0 : Int32)) dX10_clear_56 (by decide) ?_
  refine rn_istore_n dX10_clear_57 rfl (by decide) [(0, .ref o0_), (1, .int (0 : Int32))] rfl ?_
  have LP28 : ∀ (n : Nat) (w29 : va_W) (x27 : Int32), St G S [39, 67] w25 S w29 → Rg (0) (4) x27 → (4 - x27.toInt).toNat = n → Rn G mX10_clear 0 0 0 0 58 [(0, .ref o0_), (1, .int x27)] [] w29 (q_t_X10_clear G S ws ) := by
    intro n
    induction n using Nat.strongRecOn with
    | _ n ih =>
      intro w29 x27 hT30 r31 hm32
      refine rn_iload_n (i := 1) dX10_clear_58 rfl rfl ?_
      refine rn_iconst (v := (4 : Int32)) dX10_clear_59 (by decide) ?_
      refine rn_icmp_ge (tgt := 83) dX10_clear_60 (by decide) (fun h33 => ?_) (fun h33 => ?_)
      · have ch33 := cv_le h33
        have r34 : Rg (4) (4) x27 := rf_ley ch33 rk_4 r31 (by decide)
        have hS35 := St.tr hS26 hT30 rfl
        refine rn_aload_n (i := 0) dX10_clear_83 rfl rfl ?_
        obtain ⟨o36, hx36, m36⟩ := fs_r hf26 34 rfl
        refine rn_get q1 kg_SGModel_89 (hT30.fr hq1 rfl hl26) hx36 dX10_clear_84 ?_
        refine rn_iconst (v := (0 : Int32)) dX10_clear_87 (by decide) ?_
        refine rn_iconst (v := (0 : Int32)) dX10_clear_88 (by decide) ?_
        obtain ⟨q37, f37, hq37, hl37, hf37⟩ := ts_ia hS35.1 m36 hk_65
        refine rs_iast q37 hS35 hq37 hl37 hf37 hk_65 rfl rfl rk_0 (by decide) (by decide) (rg_w rk_0 (by decide) (by decide)) dX10_clear_89 (fun w38 f39 hS39 hl39 hf39 hu39 hn39 => ?_)
        refine rn_aload_n (i := 0) dX10_clear_90 rfl rfl ?_
        refine rn_get q1 kg_SGModel_89 ((hn39 _ (ts_ne hq37 hq1 rfl)).trans (hT30.fr hq1 rfl hl26)) hx36 dX10_clear_91 ?_
        refine rn_iconst (v := (1 : Int32)) dX10_clear_94 (by decide) ?_
        refine rn_iconst (v := (0 : Int32)) dX10_clear_95 (by decide) ?_
        refine rs_iast q37 hS39 hq37 hl39 hf39 hk_65 rfl rfl rk_1 (by decide) (by decide) (rg_w rk_0 (by decide) (by decide)) dX10_clear_96 (fun w40 f41 hS41 hl41 hf41 hu41 hn41 => ?_)
        refine rn_iconst (v := (0 : Int32)) dX10_clear_97 (by decide) ?_
        refine rn_istore_n dX10_clear_98 rfl (by decide) [(0, .ref o0_), (1, .int (0 : Int32))] rfl ?_
        have LP43 : ∀ (n : Nat) (w44 : va_W) (x42 : Int32), St G S [75] w40 S w44 → Rg (0) (18) x42 → (18 - x42.toInt).toNat = n → Rn G mX10_clear 0 0 0 0 99 [(0, .ref o0_), (1, .int x42)] [] w44 (q_t_X10_clear G S ws ) := by
          intro n
          induction n using Nat.strongRecOn with
          | _ n ih =>
            intro w44 x42 hT45 r46 hm47
            refine rn_iload_n (i := 1) dX10_clear_99 rfl rfl ?_
            refine rn_bipush (v := (18 : Int32)) dX10_clear_100 (by decide) ?_
            refine rn_icmp_ge (tgt := 118) dX10_clear_102 (by decide) (fun h48 => ?_) (fun h48 => ?_)
            · have ch48 := cv_le h48
              have r49 : Rg (18) (18) x42 := rf_ley ch48 rk_18 r46 (by decide)
              have hS50 := St.tr hS41 hT45 rfl
              exact rn_vret dX10_clear_118 rfl (rq_in ⟨hS50, rfl, (by obtain ⟨q36, f36, a36, b36, -⟩ := ts_ia hS50.1 m2 hk_36; obtain ⟨q37, f37, a37, b37, -⟩ := ts_ia hS50.1 m3 hk_37; obtain ⟨q38, f38, a38, b38, -⟩ := ts_ia hS50.1 m4 hk_38; exact ⟨0, f36, f37, f38, ⟨q1, o0_, fs26, hq1, (hT45.fr hq1 rfl ((hn41 _ (ts_ne hq37 hq1 rfl)).trans ((hn39 _ (ts_ne hq37 hq1 rfl)).trans (hT30.fr hq1 rfl hl26)))), ((ho26 4 (by decide)).trans ((ho24 4 (by decide)).trans ((ho22 4 (by decide)).trans ((ho20 4 (by decide)).trans ((ho18 4 (by decide)).trans ((ho16 4 (by decide)).trans ((ho14 4 (by decide)).trans ((ho12 4 (by decide)).trans hx10))))))))⟩, rfl, ⟨_, _, _, _, a36, b36⟩, ⟨_, _, _, _, a37, b37⟩, ⟨_, _, _, _, a38, b38⟩, fun k hk => absurd hk (Nat.not_lt_zero k)⟩)⟩)
            · have ch48 := cv_nle h48
              have r51 : Rg (0) (17) x42 := rf_ltx ch48 r46 rk_18 (by decide)
              refine rn_aload_n (i := 0) dX10_clear_105 rfl rfl ?_
              obtain ⟨o52, hx52, m52⟩ := fs_r hf26 44 rfl
              refine rn_get q1 kg_SGModel_116 (hT45.fr hq1 rfl ((hn41 _ (ts_ne hq37 hq1 rfl)).trans ((hn39 _ (ts_ne hq37 hq1 rfl)).trans (hT30.fr hq1 rfl hl26)))) hx52 dX10_clear_106 ?_
              refine rn_iload_n (i := 1) dX10_clear_109 rfl rfl ?_
              refine rn_iconst (v := (0 : Int32)) dX10_clear_110 (by decide) ?_
              obtain ⟨q53, f53, hq53, hl53, hf53⟩ := ts_ia hT45.1 m52 hk_75
              refine rs_iast q53 hT45 hq53 hl53 hf53 hk_75 rfl rfl r51 (by decide) (by decide) (rg_w rk_0 (by decide) (by decide)) dX10_clear_111 (fun w54 f55 hS55 hl55 hf55 hu55 hn55 => ?_)
              refine rs_iinc (1) (18) dX10_clear_112 rfl (by decide) r51 rk_1 (by decide) (fun v56 => [(0, .ref o0_), (1, .int v56)]) (fun _ => rfl) (fun v56 ev56 rv56 => ?_)
              refine rn_goto (tgt := 99) dX10_clear_115 (by decide) ?_
              refine rn_lv [(0, .ref o0_), (1, .int v56)] rfl ?_
              exact ih _ (lp_inc hm47 ev56 rv56 (by decide)) w54 v56 hS55 (rg_w rv56 (by decide) (by decide)) rfl
        exact LP43 _ w40 (0 : Int32) (St.rf hS41.1) (rg_w rk_0 (by decide) (by decide)) rfl
      · have ch33 := cv_nle h33
        have r57 : Rg (0) (3) x27 := rf_ltx ch33 r31 rk_4 (by decide)
        refine rn_aload_n (i := 0) dX10_clear_63 rfl rfl ?_
        obtain ⟨o58, hx58, m58⟩ := fs_r hf26 8 rfl
        refine rn_get q1 kg_SGModel_22 (hT30.fr hq1 rfl hl26) hx58 dX10_clear_64 ?_
        refine rn_iload_n (i := 1) dX10_clear_67 rfl rfl ?_
        refine rn_iconst (v := (0 : Int32)) dX10_clear_68 (by decide) ?_
        obtain ⟨q59, f59, hq59, hl59, hf59⟩ := ts_ia hT30.1 m58 hk_39
        refine rs_iast q59 hT30 hq59 hl59 hf59 hk_39 rfl rfl r57 (by decide) (by decide) (rg_w rk_0 (by decide) (by decide)) dX10_clear_69 (fun w60 f61 hS61 hl61 hf61 hu61 hn61 => ?_)
        refine rn_aload_n (i := 0) dX10_clear_70 rfl rfl ?_
        obtain ⟨o62, hx62, m62⟩ := fs_r hf26 36 rfl
        refine rn_get q1 kg_SGModel_95 ((hn61 _ (ts_ne hq59 hq1 rfl)).trans (hT30.fr hq1 rfl hl26)) hx62 dX10_clear_71 ?_
        refine rn_iload_n (i := 1) dX10_clear_74 rfl rfl ?_
        refine rn_iconst (v := (0 : Int32)) dX10_clear_75 (by decide) ?_
        obtain ⟨q63, f63, hq63, hl63, hf63⟩ := ts_ia hS61.1 m62 hk_67
        refine rs_zast q63 hS61 hq63 hl63 hf63 hk_67 rfl rfl r57 (by decide) (by decide) (by decide) (by decide) dX10_clear_76 (fun w64 f65 hS65 hl65 hf65 hu65 hn65 => ?_)
        refine rs_iinc (1) (4) dX10_clear_77 rfl (by decide) r57 rk_1 (by decide) (fun v66 => [(0, .ref o0_), (1, .int v66)]) (fun _ => rfl) (fun v66 ev66 rv66 => ?_)
        refine rn_goto (tgt := 58) dX10_clear_80 (by decide) ?_
        refine rn_lv [(0, .ref o0_), (1, .int v66)] rfl ?_
        exact ih _ (lp_inc hm32 ev66 rv66 (by decide)) w64 v66 hS65 (rg_w rv66 (by decide) (by decide)) rfl
  exact LP28 _ w25 (0 : Int32) (St.rf hS26.1) (rg_w rk_0 (by decide) (by decide)) rfl
