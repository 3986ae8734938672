abbrev q_t_X10_ended (G : rn_G) (S : ts_S) (ws : va_W) : rn_R → va_W → Prop := rQ (fun v w => St G S [30] ws S w ∧ (∃ x : Int32, v = some (.int x) ∧ Rg (-2147483648) (2147483647) x)) (fun E w => False)
set_option maxRecDepth 20000 in
set_option maxHeartbeats 4000000 in
theorem t_X10_ended (G : rn_G) (S : ts_S) (ws : va_W) (hW : ts_W G S ws) (o0_ : Nat) (m0_ : (o0_, 30) ∈ S) (x1_ : Int32) : Rn G mX10_ended 1 22 0 0 0 (lv_args 0 [.ref o0_, .int x1_]) [] ws (q_t_X10_ended G S ws ) := by
  have hS0 : St G S [30] ws S ws := St.rf hW
  refine rn_lv [(0, .ref o0_), (1, .int x1_)] rfl ?_
  refine rn_aload_n (i := 0) dX10_ended_0 rfl rfl ?_
  refine rn_iconst (v := (0 : Int32)) dX10_ended_1 (by decide) ?_
  obtain ⟨q1, fs1, hq1, hl1, hf1⟩ := ts_obj hS0.1 m0_ hk_30
  refine rs_put q1 (kp_SGModel_137 _) hS0 hq1 hl1 hf1 hk_30 rfl rfl (tv_i (rg_w rk_0 (by decide) (by decide))) rfl rfl dX10_ended_2 (fun w2 fs3 hS3 hl3 hf3 hx3 ho3 hn3 => ?_)
  refine rn_aload_n (i := 0) dX10_ended_5 rfl rfl ?_
  refine rn_iload_n (i := 1) dX10_ended_6 rfl rfl ?_
  refine rn_iconst (v := (0 : Int32)) dX10_ended_7 (by decide) ?_
  refine rn_bipush (v := (20 : Int32)) dX10_ended_8 (by decide) ?_
  refine rn_inS (d' := 0) (z' := 0) [.int x1_, .int (0 : Int32), .int (20 : Int32)] kl_SGModel_179 dX10_ended_10 rfl rfl (Nat.le_of_ble_eq_true rfl) (Nat.le_of_ble_eq_true rfl) (Nat.le_of_ble_eq_true rfl) (Nat.le_of_ble_eq_true rfl) ?_
  refine rn_lv [(0, .int x1_), (1, .int (0 : Int32)), (2, .int (20 : Int32))] rfl ?_
  refine rn_iload_n (i := 0) dX10_in_0 rfl rfl ?_
  refine rn_iload_n (i := 1) dX10_in_1 rfl rfl ?_
  refine rn_icmp_lt (tgt := 14) dX10_in_2 (by decide) (fun h4 => ?_) (fun h4 => ?_)
  · have ch4 := cv_lt h4
    have r5 : Rg (-2147483648) (-1) x1_ := rf_ltx ch4 (rg_any x1_) rk_0 (by decide)
    refine rn_iconst (v := (0 : Int32)) dX10_in_14 (by decide) ?_
    refine rn_iret dX10_in_15 rfl rfl (rq_in ?_)
    refine rn_stk [.int (0 : Int32), .ref o0_] rfl ?_
    refine rn_if_ne (tgt := 20) dX10_ended_13 (by decide) (fun h6 => (cx_ne (cv_ne h6) rk_0 rk_0 (by decide)).elim) (fun h6 => ?_)
    refine rn_iconst (v := (1 : Int32)) dX10_ended_16 (by decide) ?_
    refine rn_goto (tgt := 21) dX10_ended_17 (by decide) ?_
    refine rn_iconst (v := (1 : Int32)) dX10_ended_21 (by decide) ?_
    refine rn_inV (d' := 0) (z' := 0) [.int (1 : Int32), .int (1 : Int32)] kl_SGModel_171 dX10_ended_22 q1 hl3 rfl rfl rfl (Nat.le_of_ble_eq_true rfl) (Nat.le_of_ble_eq_true rfl) (Nat.le_of_ble_eq_true rfl) (Nat.le_of_ble_eq_true rfl) ?_
    refine rn_lv [(0, .ref o0_), (1, .int (1 : Int32)), (2, .int (1 : Int32))] rfl ?_
    refine rn_aload_n (i := 0) dX10_refuses_0 rfl rfl ?_
    refine rn_get q1 kg_SGModel_137 hl3 hx3 dX10_refuses_1 ?_
    refine rn_if_ne (tgt := 16) dX10_refuses_4 (by decide) (fun h7 => (cx_ne (cv_ne h7) rk_0 rk_0 (by decide)).elim) (fun h7 => ?_)
    refine rn_iload_n (i := 1) dX10_refuses_7 rfl rfl ?_
    refine rn_if_eq (tgt := 16) dX10_refuses_8 (by decide) (fun h8 => (cx_eq (cv_eq h8) rk_1 rk_0 (by decide)).elim) (fun h8 => ?_)
    refine rn_aload_n (i := 0) dX10_refuses_11 rfl rfl ?_
    refine rn_iload_n (i := 2) dX10_refuses_12 rfl rfl ?_
    refine rs_put q1 (kp_SGModel_137 _) hS3 hq1 hl3 hf3 hk_30 rfl rfl (tv_i (rg_w rk_1 (by decide) (by decide))) rfl rfl dX10_refuses_13 (fun w9 fs10 hS10 hl10 hf10 hx10 ho10 hn10 => ?_)
    refine rn_aload_n (i := 0) dX10_refuses_16 rfl rfl ?_
    refine rn_get q1 kg_SGModel_137 hl10 hx10 dX10_refuses_17 ?_
    refine rn_if_le (tgt := 27) dX10_refuses_20 (by decide) (fun h11 => (cx_le (cv_le h11) rk_1 rk_0 (by decide)).elim) (fun h11 => ?_)
    refine rn_iconst (v := (1 : Int32)) dX10_refuses_23 (by decide) ?_
    refine rn_goto (tgt := 28) dX10_refuses_24 (by decide) ?_
    refine rn_iret dX10_refuses_28 rfl rfl (rq_in ?_)
    refine rn_stk [.int (1 : Int32)] rfl ?_
    refine rn_if_eq (tgt := 30) dX10_ended_25 (by decide) (fun h12 => (cx_eq (cv_eq h12) rk_1 rk_0 (by decide)).elim) (fun h12 => ?_)
    refine rn_iconst (v := (0 : Int32)) dX10_ended_28 (by decide) ?_
    exact rn_iret dX10_ended_29 rfl rfl (rq_in ⟨hS10, (0 : Int32), rfl, (rg_w rk_0 (by decide) (by decide))⟩)
  · have ch4 := cv_nlt h4
    have r13 : Rg (0) (2147483647) x1_ := rf_ley ch4 rk_0 (rg_any x1_) (by decide)
    refine rn_iload_n (i := 0) dX10_in_5 rfl rfl ?_
    refine rn_iload_n (i := 2) dX10_in_6 rfl rfl ?_
    refine rn_icmp_gt (tgt := 14) dX10_in_7 (by decide) (fun h14 => ?_) (fun h14 => ?_)
    · have ch14 := cv_lt h14
      have r15 : Rg (21) (2147483647) x1_ := rf_lty ch14 rk_20 r13 (by decide)
      refine rn_iconst (v := (0 : Int32)) dX10_in_14 (by decide) ?_
      refine rn_iret dX10_in_15 rfl rfl (rq_in ?_)
      refine rn_stk [.int (0 : Int32), .ref o0_] rfl ?_
      refine rn_if_ne (tgt := 20) dX10_ended_13 (by decide) (fun h16 => (cx_ne (cv_ne h16) rk_0 rk_0 (by decide)).elim) (fun h16 => ?_)
      refine rn_iconst (v := (1 : Int32)) dX10_ended_16 (by decide) ?_
      refine rn_goto (tgt := 21) dX10_ended_17 (by decide) ?_
      refine rn_iconst (v := (1 : Int32)) dX10_ended_21 (by decide) ?_
      refine rn_inV (d' := 0) (z' := 0) [.int (1 : Int32), .int (1 : Int32)] kl_SGModel_171 dX10_ended_22 q1 hl3 rfl rfl rfl (Nat.le_of_ble_eq_true rfl) (Nat.le_of_ble_eq_true rfl) (Nat.le_of_ble_eq_true rfl) (Nat.le_of_ble_eq_true rfl) ?_
      refine rn_lv [(0, .ref o0_), (1, .int (1 : Int32)), (2, .int (1 : Int32))] rfl ?_
      refine rn_aload_n (i := 0) dX10_refuses_0 rfl rfl ?_
      refine rn_get q1 kg_SGModel_137 hl3 hx3 dX10_refuses_1 ?_
      refine rn_if_ne (tgt := 16) dX10_refuses_4 (by decide) (fun h17 => (cx_ne (cv_ne h17) rk_0 rk_0 (by decide)).elim) (fun h17 => ?_)
      refine rn_iload_n (i := 1) dX10_refuses_7 rfl rfl ?_
      refine rn_if_eq (tgt := 16) dX10_refuses_8 (by decide) (fun h18 => (cx_eq (cv_eq h18) rk_1 rk_0 (by decide)).elim) (fun h18 => ?_)
      refine rn_aload_n (i := 0) dX10_refuses_11 rfl rfl ?_
      refine rn_iload_n (i := 2) dX10_refuses_12 rfl rfl ?_
      refine rs_put q1 (kp_SGModel_137 _) hS3 hq1 hl3 hf3 hk_30 rfl rfl (tv_i (rg_w rk_1 (by decide) (by decide))) rfl rfl dX10_refuses_13 (fun w19 fs20 hS20 hl20 hf20 hx20 ho20 hn20 => ?_)
      refine rn_aload_n (i := 0) dX10_refuses_16 rfl rfl ?_
      refine rn_get q1 kg_SGModel_137 hl20 hx20 dX10_refuses_17 ?_
      refine rn_if_le (tgt := 27) dX10_refuses_20 (by decide) (fun h21 => (cx_le (cv_le h21) rk_1 rk_0 (by decide)).elim) (fun h21 => ?_)
      refine rn_iconst (v := (1 : Int32)) dX10_refuses_23 (by decide) ?_
      refine rn_goto (tgt := 28) dX10_refuses_24 (by decide) ?_
      refine rn_iret dX10_refuses_28 rfl rfl (rq_in ?_)
      refine rn_stk [.int (1 : Int32)] rfl ?_
      refine rn_if_eq (tgt := 30) dX10_ended_25 (by decide) (fun h22 => (cx_eq (cv_eq h22) rk_1 rk_0 (by decide)).elim) (fun h22 => ?_)
      refine rn_iconst (v := (0 : Int32)) dX10_ended_28 (by decide) ?_
      exact rn_iret dX10_ended_29 rfl rfl (rq_in ⟨hS20, (0 : Int32), rfl, (rg_w rk_0 (by decide) (by decide))⟩)
    · have ch14 := cv_nlt h14
      have r23 : Rg (0) (20) x1_ := rf_lex ch14 r13 rk_20 (by decide)
      refine rn_iconst (v := (1 : Int32)) dX10_in_10 (by decide) ?_
      refine rn_goto (tgt := 15) dX10_in_11 (by decide) ?_
      refine rn_iret dX10_in_15 rfl rfl (rq_in ?_)
      refine rn_stk [.int (1 : Int32), .ref o0_] rfl ?_
      refine rn_if_ne (tgt := 20) dX10_ended_13 (by decide) (fun h24 => ?_) (fun h24 => (cx_eq (cv_eq h24) rk_1 rk_0 (by decide)).elim)
      refine rn_iconst (v := (0 : Int32)) dX10_ended_20 (by decide) ?_
      refine rn_iconst (v := (1 : Int32)) dX10_ended_21 (by decide) ?_
      refine rn_inV (d' := 0) (z' := 0) [.int (0 : Int32), .int (1 : Int32)] kl_SGModel_171 dX10_ended_22 q1 hl3 rfl rfl rfl (Nat.le_of_ble_eq_true rfl) (Nat.le_of_ble_eq_true rfl) (Nat.le_of_ble_eq_true rfl) (Nat.le_of_ble_eq_true rfl) ?_
      refine rn_lv [(0, .ref o0_), (1, .int (0 : Int32)), (2, .int (1 : Int32))] rfl ?_
      refine rn_aload_n (i := 0) dX10_refuses_0 rfl rfl ?_
      refine rn_get q1 kg_SGModel_137 hl3 hx3 dX10_refuses_1 ?_
      refine rn_if_ne (tgt := 16) dX10_refuses_4 (by decide) (fun h25 => (cx_ne (cv_ne h25) rk_0 rk_0 (by decide)).elim) (fun h25 => ?_)
      refine rn_iload_n (i := 1) dX10_refuses_7 rfl rfl ?_
      refine rn_if_eq (tgt := 16) dX10_refuses_8 (by decide) (fun h26 => ?_) (fun h26 => (cx_ne (cv_ne h26) rk_0 rk_0 (by decide)).elim)
      refine rn_aload_n (i := 0) dX10_refuses_16 rfl rfl ?_
      refine rn_get q1 kg_SGModel_137 hl3 hx3 dX10_refuses_17 ?_
      refine rn_if_le (tgt := 27) dX10_refuses_20 (by decide) (fun h27 => ?_) (fun h27 => (cx_lt (cv_nle h27) rk_0 rk_0 (by decide)).elim)
      refine rn_iconst (v := (0 : Int32)) dX10_refuses_27 (by decide) ?_
      refine rn_iret dX10_refuses_28 rfl rfl (rq_in ?_)
      refine rn_stk [.int (0 : Int32)] rfl ?_
      refine rn_if_eq (tgt := 30) dX10_ended_25 (by decide) (fun h28 => ?_) (fun h28 => (cx_ne (cv_ne h28) rk_0 rk_0 (by decide)).elim)
      refine rn_iconst (v := (0 : Int32)) dX10_ended_30 (by decide) ?_
      refine rn_istore_n dX10_ended_31 rfl (by decide) [(0, .ref o0_), (1, .int x1_), (2, .int (0 : Int32))] rfl ?_
      refine rn_iconst (v := (0 : Int32)) dX10_ended_32 (by decide) ?_
      refine rn_istore_n dX10_ended_33 rfl (by decide) [(0, .ref o0_), (1, .int x1_), (2, .int (0 : Int32)), (3, .int (0 : Int32))] rfl ?_
      have LP31 : ∀ (n : Nat) (x29 : Int32) (x30 : Int32), Rg (-2147483648) (2147483647) x29 → Rg (0) (4) x30 → (4 - x30.toInt).toNat = n → Rn G mX10_ended 1 22 0 0 34 [(0, .ref o0_), (1, .int x1_), (2, .int x29), (3, .int x30)] [] w2 (q_t_X10_ended G S ws ) := by
        intro n
        induction n using Nat.strongRecOn with
        | _ n ih =>
          intro x29 x30 r33 r34 hm35
          refine rn_iload_n (i := 3) dX10_ended_34 rfl rfl ?_
          refine rn_iconst (v := (4 : Int32)) dX10_ended_35 (by decide) ?_
          refine rn_icmp_ge (tgt := 62) dX10_ended_36 (by decide) (fun h36 => ?_) (fun h36 => ?_)
          · have ch36 := cv_le h36
            have r37 : Rg (4) (4) x30 := rf_ley ch36 rk_4 r34 (by decide)
            refine rn_iload_n (i := 1) dX10_ended_62 rfl rfl ?_
            refine rn_bipush (v := (18 : Int32)) dX10_ended_63 (by decide) ?_
            refine rn_icmp_ge (tgt := 77) dX10_ended_65 (by decide) (fun h38 => ?_) (fun h38 => ?_)
            · have ch38 := cv_le h38
              have r39 : Rg (18) (20) x1_ := rf_ley ch38 rk_18 r23 (by decide)
              refine rn_iload_n (i := 1) dX10_ended_77 rfl rfl ?_
              refine rn_bipush (v := (18 : Int32)) dX10_ended_78 (by decide) ?_
              refine rn_icmp_ne (tgt := 90) dX10_ended_80 (by decide) (fun h40 => ?_) (fun h40 => ?_)
              · have ch40 := cv_ne h40
                have r41 : Rg (19) (20) x1_ := rf_nel ch40 r39 rk_18 (by decide) (by decide)
                refine rn_iload_n (i := 1) dX10_ended_90 rfl rfl ?_
                refine rn_bipush (v := (19 : Int32)) dX10_ended_91 (by decide) ?_
                refine rn_icmp_ne (tgt := 103) dX10_ended_93 (by decide) (fun h42 => ?_) (fun h42 => ?_)
                · have ch42 := cv_ne h42
                  have r43 : Rg (20) (20) x1_ := rf_nel ch42 r41 rk_19 (by decide) (by decide)
                  refine rn_iload_n (i := 2) dX10_ended_103 rfl rfl ?_
                  exact rn_iret dX10_ended_104 rfl rfl (rq_in ⟨hS3, x29, rfl, r33⟩)
                · have ch42 := cv_eq h42
                  have r44 : Rg (19) (19) x1_ := rf_eqx ch42 r41 rk_19 (by decide) (by decide)
                  refine rn_aload_n (i := 0) dX10_ended_96 rfl rfl ?_
                  obtain ⟨x45, hx45, rx45⟩ := fs_i hf3 33 rfl
                  refine rn_get q1 kg_SGModel_267 hl3 hx45 dX10_ended_97 ?_
                  refine rn_goto (tgt := 104) dX10_ended_100 (by decide) ?_
                  exact rn_iret dX10_ended_104 rfl rfl (rq_in ⟨hS3, x45, rfl, rx45⟩)
              · have ch40 := cv_eq h40
                have r46 : Rg (18) (18) x1_ := rf_eqx ch40 r39 rk_18 (by decide) (by decide)
                refine rn_aload_n (i := 0) dX10_ended_83 rfl rfl ?_
                obtain ⟨x47, hx47, rx47⟩ := fs_i hf3 22 rfl
                refine rn_get q1 kg_SGModel_200 hl3 hx47 dX10_ended_84 ?_
                refine rn_goto (tgt := 104) dX10_ended_87 (by decide) ?_
                exact rn_iret dX10_ended_104 rfl rfl (rq_in ⟨hS3, x47, rfl, (rg_w rx47 (by decide) (by decide))⟩)
            · have ch38 := cv_nle h38
              have r48 : Rg (0) (17) x1_ := rf_ltx ch38 r23 rk_18 (by decide)
              refine rn_aload_n (i := 0) dX10_ended_68 rfl rfl ?_
              obtain ⟨o49, hx49, m49⟩ := fs_r hf3 44 rfl
              refine rn_get q1 kg_SGModel_116 hl3 hx49 dX10_ended_69 ?_
              refine rn_iload_n (i := 1) dX10_ended_72 rfl rfl ?_
              obtain ⟨q50, f50, hq50, hl50, hf50⟩ := ts_ia hS3.1 m49 hk_75
              refine rs_iald q50 hl50 hf50 rfl r48 (by decide) (by decide) dX10_ended_73 (fun v51 ev51 rv51 => ?_)
              refine rn_goto (tgt := 104) dX10_ended_74 (by decide) ?_
              exact rn_iret dX10_ended_104 rfl rfl (rq_in ⟨hS3, v51, rfl, rv51⟩)
          · have ch36 := cv_nle h36
            have r52 : Rg (0) (3) x30 := rf_ltx ch36 r34 rk_4 (by decide)
            refine rn_iload_n (i := 2) dX10_ended_39 rfl rfl ?_
            refine rn_aload_n (i := 0) dX10_ended_40 rfl rfl ?_
            obtain ⟨o53, hx53, m53⟩ := fs_r hf3 36 rfl
            refine rn_get q1 kg_SGModel_95 hl3 hx53 dX10_ended_41 ?_
            refine rn_iload_n (i := 3) dX10_ended_44 rfl rfl ?_
            obtain ⟨q54, f54, hq54, hl54, hf54⟩ := ts_ia hS3.1 m53 hk_67
            refine rs_zald q54 hl54 hf54 rfl r52 (by decide) (by decide) dX10_ended_45 (fun v55 ev55 rv55 => ?_)
            refine rn_if_eq (tgt := 53) dX10_ended_46 (by decide) (fun h56 => ?_) (fun h56 => ?_)
            · have ch56 := cv_eq h56
              have r57 : Rg (0) (0) v55 := rf_eqx ch56 rv55 rk_0 (by decide) (by decide)
              refine rn_iconst (v := (0 : Int32)) dX10_ended_53 (by decide) ?_
              refine rs_addC (-2147483648) (2147483647) r33 rk_0 dX10_ended_54 (by decide) (fun v58 ev58 rv58 => ?_)
              refine rn_istore_n dX10_ended_55 rfl (by decide) [(0, .ref o0_), (1, .int x1_), (2, .int v58), (3, .int x30)] rfl ?_
              refine rs_iinc (1) (4) dX10_ended_56 rfl (by decide) r52 rk_1 (by decide) (fun v59 => [(0, .ref o0_), (1, .int x1_), (2, .int v58), (3, .int v59)]) (fun _ => rfl) (fun v59 ev59 rv59 => ?_)
              refine rn_goto (tgt := 34) dX10_ended_59 (by decide) ?_
              refine rn_lv [(0, .ref o0_), (1, .int x1_), (2, .int v58), (3, .int v59)] rfl ?_
              exact ih _ (lp_inc hm35 ev59 rv59 (by decide)) v58 v59 rv58 (rg_w rv59 (by decide) (by decide)) rfl
            · have ch56 := cv_ne h56
              have r60 : Rg (1) (1) v55 := rf_nel ch56 rv55 rk_0 (by decide) (by decide)
              refine rn_iconst (v := (1 : Int32)) dX10_ended_49 (by decide) ?_
              refine rn_goto (tgt := 54) dX10_ended_50 (by decide) ?_
              refine rn_iadd dX10_ended_54 (rn_nmA (fun v61 rv61 => ?_))
              refine rn_istore_n dX10_ended_55 rfl (by decide) [(0, .ref o0_), (1, .int x1_), (2, .int v61), (3, .int x30)] rfl ?_
              refine rs_iinc (1) (4) dX10_ended_56 rfl (by decide) r52 rk_1 (by decide) (fun v62 => [(0, .ref o0_), (1, .int x1_), (2, .int v61), (3, .int v62)]) (fun _ => rfl) (fun v62 ev62 rv62 => ?_)
              refine rn_goto (tgt := 34) dX10_ended_59 (by decide) ?_
              refine rn_lv [(0, .ref o0_), (1, .int x1_), (2, .int v61), (3, .int v62)] rfl ?_
              exact ih _ (lp_inc hm35 ev62 rv62 (by decide)) v61 v62 rv61 (rg_w rv62 (by decide) (by decide)) rfl
      exact LP31 _ (0 : Int32) (0 : Int32) (rg_w rk_0 (by decide) (by decide)) (rg_w rk_0 (by decide) (by decide)) rfl
abbrev q_t_X10_clear (G : rn_G) (S : ts_S) (ws : va_W) : rn_R → va_W → Prop := rQ (fun v w => St G S [30, 39, 65, 67, 75] ws S w ∧ (v = none ∧ (Zf S w 39 0))) (fun E w => False)
set_option maxRecDepth 20000 in
set_option maxHeartbeats 4000000 in
theorem t_X10_clear (G : rn_G) (S : ts_S) (ws : va_W) (hW : ts_W G S ws) (o0_ : Nat) (m0_ : (o0_, 30) ∈ S) : Rn G mX10_clear 0 0 0 0 0 (lv_args 0 [.ref o0_]) [] ws (q_t_X10_clear G S ws ) := by
  have hS0 : St G S [30, 39, 65, 67, 75] ws S ws := St.rf hW
  obtain ⟨q1, fs1, hq1, hl1, hf1⟩ := ts_obj hS0.1 m0_ hk_30
  obtain ⟨o2, hx2, m2⟩ := fs_r hf1 8 rfl
  obtain ⟨q3, f3, hq3, hl3, hf3⟩ := ts_ia hS0.1 m2 hk_39
  refine rn_lv [(0, .ref o0_)] rfl ?_
  refine rn_aload_n (i := 0) dX10_clear_0 rfl rfl ?_
  refine rn_iconst (v := (0 : Int32)) dX10_clear_1 (by decide) ?_
  refine rs_put q1 (kp_SGModel_137 _) hS0 hq1 hl1 hf1 hk_30 rfl rfl (tv_i (rg_w rk_0 (by decide) (by decide))) rfl rfl dX10_clear_2 (fun w4 fs5 hS5 hl5 hf5 hx5 ho5 hn5 => ?_)
  refine rn_aload_n (i := 0) dX10_clear_5 rfl rfl ?_
  refine rn_iconst (v := (0 : Int32)) dX10_clear_6 (by decide) ?_
  refine rs_put q1 (kp_SGModel_168 _) hS5 hq1 hl5 hf5 hk_30 rfl rfl (tv_i (rg_w rk_0 (by decide) (by decide))) rfl rfl dX10_clear_7 (fun w6 fs7 hS7 hl7 hf7 hx7 ho7 hn7 => ?_)
  refine rn_aload_n (i := 0) dX10_clear_10 rfl rfl ?_
  refine rn_iconst (v := (0 : Int32)) dX10_clear_11 (by decide) ?_
  refine rs_put q1 (kp_SGModel_188 _) hS7 hq1 hl7 hf7 hk_30 rfl rfl (tv_i (rg_w rk_0 (by decide) (by decide))) rfl rfl dX10_clear_12 (fun w8 fs9 hS9 hl9 hf9 hx9 ho9 hn9 => ?_)
  refine rn_aload_n (i := 0) dX10_clear_15 rfl rfl ?_
  refine rn_iconst (v := (0 : Int32)) dX10_clear_16 (by decide) ?_
  refine rs_put q1 (kp_SGModel_197 _) hS9 hq1 hl9 hf9 hk_30 rfl rfl (tv_i (rg_w rk_0 (by decide) (by decide))) rfl rfl dX10_clear_17 (fun w10 fs11 hS11 hl11 hf11 hx11 ho11 hn11 => ?_)
  refine rn_aload_n (i := 0) dX10_clear_20 rfl rfl ?_
  refine rn_iconst (v := (0 : Int32)) dX10_clear_21 (by decide) ?_
  refine rs_put q1 (kp_SGModel_200 _) hS11 hq1 hl11 hf11 hk_30 rfl rfl (tv_i (rg_w rk_0 (by decide) (by decide))) rfl rfl dX10_clear_22 (fun w12 fs13 hS13 hl13 hf13 hx13 ho13 hn13 => ?_)
  refine rn_aload_n (i := 0) dX10_clear_25 rfl rfl ?_
  refine rn_iconst (v := (0 : Int32)) dX10_clear_26 (by decide) ?_
  refine rs_put q1 (kp_SGModel_267 _) hS13 hq1 hl13 hf13 hk_30 rfl rfl (tv_i (rg_w rk_0 (by decide) (by decide))) rfl rfl dX10_clear_27 (fun w14 fs15 hS15 hl15 hf15 hx15 ho15 hn15 => ?_)
  refine rn_aload_n (i := 0) dX10_clear_30 rfl rfl ?_
  refine rn_iconst (v := (0 : Int32)) dX10_clear_31 (by decide) ?_
  refine rs_put q1 (kp_SGModel_243 _) hS15 hq1 hl15 hf15 hk_30 rfl rfl (tv_i (rg_w rk_0 (by decide) (by decide))) rfl rfl dX10_clear_32 (fun w16 fs17 hS17 hl17 hf17 hx17 ho17 hn17 => ?_)
  refine rn_aload_n (i := 0) dX10_clear_35 rfl rfl ?_
  refine rn_iconst (v := (-1 : Int32)) dX10_clear_36 (by decide) ?_
  refine rs_put q1 (kp_SGModel_92 _) hS17 hq1 hl17 hf17 hk_30 rfl rfl (tv_i (rg_w rk_m1 (by decide) (by decide))) rfl rfl dX10_clear_37 (fun w18 fs19 hS19 hl19 hf19 hx19 ho19 hn19 => ?_)
  refine rn_aload_n (i := 0) dX10_clear_40 rfl rfl ?_
  refine rn_iconst (v := (0 : Int32)) dX10_clear_41 (by decide) ?_
  refine rs_put q1 (kp_SGModel_191 _) hS19 hq1 hl19 hf19 hk_30 rfl rfl (tv_i (rg_w rk_0 (by decide) (by decide))) rfl rfl dX10_clear_42 (fun w20 fs21 hS21 hl21 hf21 hx21 ho21 hn21 => ?_)
  have hl22 := ((hn21 _ (ts_ne hq1 hq3 rfl)).trans ((hn19 _ (ts_ne hq1 hq3 rfl)).trans ((hn17 _ (ts_ne hq1 hq3 rfl)).trans ((hn15 _ (ts_ne hq1 hq3 rfl)).trans ((hn13 _ (ts_ne hq1 hq3 rfl)).trans ((hn11 _ (ts_ne hq1 hq3 rfl)).trans ((hn9 _ (ts_ne hq1 hq3 rfl)).trans ((hn7 _ (ts_ne hq1 hq3 rfl)).trans ((hn5 _ (ts_ne hq1 hq3 rfl)).trans hl3)))))))))
  refine rn_aload_n (i := 0) dX10_clear_45 rfl rfl ?_
  refine rn_iconst (v := (0 : Int32)) dX10_clear_46 (by decide) ?_
  refine rs_put q1 (kp_SGModel_194 _) hS21 hq1 hl21 hf21 hk_30 rfl rfl (tv_i (rg_w rk_0 (by decide) (by decide))) rfl rfl dX10_clear_47 (fun w23 fs24 hS24 hl24 hf24 hx24 ho24 hn24 => ?_)
  refine rn_aload_n (i := 0) dX10_clear_50 rfl rfl ?_
  refine rn_ldc (v := (65535 : Int32)) wd_1093 dX10_clear_51 ?_
  refine rs_put q1 (kp_SGModel_53 _) hS24 hq1 hl24 hf24 hk_30 rfl rfl (tv_i (rg_w rk_65535 (by decide) (by decide))) rfl rfl dX10_clear_53 (fun w25 fs26 hS26 hl26 hf26 hx26 ho26 hn26 => ?_)
  refine rn_iconst (v := (0 : Int32)) dX10_clear_56 (by decide) ?_
  refine rn_istore_n dX10_clear_57 rfl (by decide) [(0, .ref o0_), (1, .int (0 : Int32))] rfl ?_
  refine rn_iload_n (i := 1) dX10_clear_58 rfl rfl ?_
  refine rn_iconst (v := (4 : Int32)) dX10_clear_59 (by decide) ?_
  refine rn_icmp_ge (tgt := 83) dX10_clear_60 (by decide) (fun h27 => (cx_le (cv_le h27) rk_4 rk_0 (by decide)).elim) (fun h27 => ?_)
  refine rn_aload_n (i := 0) dX10_clear_63 rfl rfl ?_
  refine rn_get q1 kg_SGModel_22 hl26 ((ho26 8 (by decide)).trans ((ho24 8 (by decide)).trans ((ho21 8 (by decide)).trans ((ho19 8 (by decide)).trans ((ho17 8 (by decide)).trans ((ho15 8 (by decide)).trans ((ho13 8 (by decide)).trans ((ho11 8 (by decide)).trans ((ho9 8 (by decide)).trans ((ho7 8 (by decide)).trans ((ho5 8 (by decide)).trans hx2))))))))))) dX10_clear_64 ?_
  refine rn_iload_n (i := 1) dX10_clear_67 rfl rfl ?_
  refine rn_iconst (v := (0 : Int32)) dX10_clear_68 (by decide) ?_
  refine rs_iast q3 hS26 hq3 ((hn26 _ (ts_ne hq1 hq3 rfl)).trans ((hn24 _ (ts_ne hq1 hq3 rfl)).trans hl22)) hf3 hk_39 rfl rfl rk_0 (by decide) (by decide) (rg_w rk_0 (by decide) (by decide)) dX10_clear_69 (fun w28 f29 hS29 hl29 hf29 hu29 hn29 => ?_)
  refine rn_aload_n (i := 0) dX10_clear_70 rfl rfl ?_
  obtain ⟨o30, hx30, m30⟩ := fs_r hf26 36 rfl
  refine rn_get q1 kg_SGModel_95 ((hn29 _ (ts_ne hq3 hq1 rfl)).trans hl26) hx30 dX10_clear_71 ?_
  refine rn_iload_n (i := 1) dX10_clear_74 rfl rfl ?_
  refine rn_iconst (v := (0 : Int32)) dX10_clear_75 (by decide) ?_
  obtain ⟨q31, f31, hq31, hl31, hf31⟩ := ts_ia hS29.1 m30 hk_67
  refine rs_zast q31 hS29 hq31 hl31 hf31 hk_67 rfl rfl rk_0 (by decide) (by decide) (by decide) (by decide) dX10_clear_76 (fun w32 f33 hS33 hl33 hf33 hu33 hn33 => ?_)
  refine rs_iinc (1) (1) dX10_clear_77 rfl (by decide) rk_0 rk_1 (by decide) (fun v34 => [(0, .ref o0_), (1, .int v34)]) (fun _ => rfl) (fun v34 ev34 rv34 => ?_)
  refine rn_goto (tgt := 58) dX10_clear_80 (by decide) ?_
  refine rn_iload_n (i := 1) dX10_clear_58 rfl rfl ?_
  refine rn_iconst (v := (4 : Int32)) dX10_clear_59 (by decide) ?_
  refine rn_icmp_ge (tgt := 83) dX10_clear_60 (by decide) (fun h35 => (cx_le (cv_le h35) rk_4 rv34 (by decide)).elim) (fun h35 => ?_)
  have ch35 := cv_nle h35
  refine rn_aload_n (i := 0) dX10_clear_63 rfl rfl ?_
  refine rn_get q1 kg_SGModel_22 ((hn33 _ (ts_ne hq31 hq1 rfl)).trans ((hn29 _ (ts_ne hq3 hq1 rfl)).trans hl26)) ((ho26 8 (by decide)).trans ((ho24 8 (by decide)).trans ((ho21 8 (by decide)).trans ((ho19 8 (by decide)).trans ((ho17 8 (by decide)).trans ((ho15 8 (by decide)).trans ((ho13 8 (by decide)).trans ((ho11 8 (by decide)).trans ((ho9 8 (by decide)).trans ((ho7 8 (by decide)).trans ((ho5 8 (by decide)).trans hx2))))))))))) dX10_clear_64 ?_
  refine rn_iload_n (i := 1) dX10_clear_67 rfl rfl ?_
  refine rn_iconst (v := (0 : Int32)) dX10_clear_68 (by decide) ?_
  refine rs_iast q3 hS33 hq3 ((hn33 _ (ts_ne hq31 hq3 rfl)).trans hl29) hf29 hk_39 rfl rfl rv34 (by decide) (by decide) (rg_w rk_0 (by decide) (by decide)) dX10_clear_69 (fun w36 f37 hS37 hl37 hf37 hu37 hn37 => ?_)
  refine rn_aload_n (i := 0) dX10_clear_70 rfl rfl ?_
  refine rn_get q1 kg_SGModel_95 ((hn37 _ (ts_ne hq3 hq1 rfl)).trans ((hn33 _ (ts_ne hq31 hq1 rfl)).trans ((hn29 _ (ts_ne hq3 hq1 rfl)).trans hl26))) hx30 dX10_clear_71 ?_
  refine rn_iload_n (i := 1) dX10_clear_74 rfl rfl ?_
  refine rn_iconst (v := (0 : Int32)) dX10_clear_75 (by decide) ?_
  refine rs_zast q31 hS37 hq31 ((hn37 _ (ts_ne hq3 hq31 rfl)).trans hl33) hf33 hk_67 rfl rfl rv34 (by decide) (by decide) (by decide) (by decide) dX10_clear_76 (fun w38 f39 hS39 hl39 hf39 hu39 hn39 => ?_)
  refine rs_iinc (2) (2) dX10_clear_77 rfl (by decide) rv34 rk_1 (by decide) (fun v40 => [(0, .ref o0_), (1, .int v40)]) (fun _ => rfl) (fun v40 ev40 rv40 => ?_)
  refine rn_goto (tgt := 58) dX10_clear_80 (by decide) ?_
  refine rn_iload_n (i := 1) dX10_clear_58 rfl rfl ?_
  refine rn_iconst (v := (4 : Int32)) dX10_clear_59 (by decide) ?_
  refine rn_icmp_ge (tgt := 83) dX10_clear_60 (by decide) (fun h41 => (cx_le (cv_le h41) rk_4 rv40 (by decide)).elim) (fun h41 => ?_)
  have ch41 := cv_nle h41
  refine rn_aload_n (i := 0) dX10_clear_63 rfl rfl ?_
  refine rn_get q1 kg_SGModel_22 ((hn39 _ (ts_ne hq31 hq1 rfl)).trans ((hn37 _ (ts_ne hq3 hq1 rfl)).trans ((hn33 _ (ts_ne hq31 hq1 rfl)).trans ((hn29 _ (ts_ne hq3 hq1 rfl)).trans hl26)))) ((ho26 8 (by decide)).trans ((ho24 8 (by decide)).trans ((ho21 8 (by decide)).trans ((ho19 8 (by decide)).trans ((ho17 8 (by decide)).trans ((ho15 8 (by decide)).trans ((ho13 8 (by decide)).trans ((ho11 8 (by decide)).trans ((ho9 8 (by decide)).trans ((ho7 8 (by decide)).trans ((ho5 8 (by decide)).trans hx2))))))))))) dX10_clear_64 ?_
  refine rn_iload_n (i := 1) dX10_clear_67 rfl rfl ?_
  refine rn_iconst (v := (0 : Int32)) dX10_clear_68 (by decide) ?_
  refine rs_iast q3 hS39 hq3 ((hn39 _ (ts_ne hq31 hq3 rfl)).trans hl37) hf37 hk_39 rfl rfl rv40 (by decide) (by decide) (rg_w rk_0 (by decide) (by decide)) dX10_clear_69 (fun w42 f43 hS43 hl43 hf43 hu43 hn43 => ?_)
  refine rn_aload_n (i := 0) dX10_clear_70 rfl rfl ?_
  refine rn_get q1 kg_SGModel_95 ((hn43 _ (ts_ne hq3 hq1 rfl)).trans ((hn39 _ (ts_ne hq31 hq1 rfl)).trans ((hn37 _ (ts_ne hq3 hq1 rfl)).trans ((hn33 _ (ts_ne hq31 hq1 rfl)).trans ((hn29 _ (ts_ne hq3 hq1 rfl)).trans hl26))))) hx30 dX10_clear_71 ?_
  refine rn_iload_n (i := 1) dX10_clear_74 rfl rfl ?_
  refine rn_iconst (v := (0 : Int32)) dX10_clear_75 (by decide) ?_
  refine rs_zast q31 hS43 hq31 ((hn43 _ (ts_ne hq3 hq31 rfl)).trans hl39) hf39 hk_67 rfl rfl rv40 (by decide) (by decide) (by decide) (by decide) dX10_clear_76 (fun w44 f45 hS45 hl45 hf45 hu45 hn45 => ?_)
  refine rs_iinc (3) (3) dX10_clear_77 rfl (by decide) rv40 rk_1 (by decide) (fun v46 => [(0, .ref o0_), (1, .int v46)]) (fun _ => rfl) (fun v46 ev46 rv46 => ?_)
  refine rn_goto (tgt := 58) dX10_clear_80 (by decide) ?_
  refine rn_iload_n (i := 1) dX10_clear_58 rfl rfl ?_
  refine rn_iconst (v := (4 : Int32)) dX10_clear_59 (by decide) ?_
  refine rn_icmp_ge (tgt := 83) dX10_clear_60 (by decide) (fun h47 => (cx_le (cv_le h47) rk_4 rv46 (by decide)).elim) (fun h47 => ?_)
  have ch47 := cv_nle h47
  refine rn_aload_n (i := 0) dX10_clear_63 rfl rfl ?_
  refine rn_get q1 kg_SGModel_22 ((hn45 _ (ts_ne hq31 hq1 rfl)).trans ((hn43 _ (ts_ne hq3 hq1 rfl)).trans ((hn39 _ (ts_ne hq31 hq1 rfl)).trans ((hn37 _ (ts_ne hq3 hq1 rfl)).trans ((hn33 _ (ts_ne hq31 hq1 rfl)).trans ((hn29 _ (ts_ne hq3 hq1 rfl)).trans hl26)))))) ((ho26 8 (by decide)).trans ((ho24 8 (by decide)).trans ((ho21 8 (by decide)).trans ((ho19 8 (by decide)).trans ((ho17 8 (by decide)).trans ((ho15 8 (by decide)).trans ((ho13 8 (by decide)).trans ((ho11 8 (by decide)).trans ((ho9 8 (by decide)).trans ((ho7 8 (by decide)).trans ((ho5 8 (by decide)).trans hx2))))))))))) dX10_clear_64 ?_
  refine rn_iload_n (i := 1) dX10_clear_67 rfl rfl ?_
  refine rn_iconst (v := (0 : Int32)) dX10_clear_68 (by decide) ?_
  refine rs_iast q3 hS45 hq3 ((hn45 _ (ts_ne hq31 hq3 rfl)).trans hl43) hf43 hk_39 rfl rfl rv46 (by decide) (by decide) (rg_w rk_0 (by decide) (by decide)) dX10_clear_69 (fun w48 f49 hS49 hl49 hf49 hu49 hn49 => ?_)
  refine rn_aload_n (i := 0) dX10_clear_70 rfl rfl ?_
  refine rn_get q1 kg_SGModel_95 ((hn49 _ (ts_ne hq3 hq1 rfl)).trans ((hn45 _ (ts_ne hq31 hq1 rfl)).trans ((hn43 _ (ts_ne hq3 hq1 rfl)).trans ((hn39 _ (ts_ne hq31 hq1 rfl)).trans ((hn37 _ (ts_ne hq3 hq1 rfl)).trans ((hn33 _ (ts_ne hq31 hq1 rfl)).trans ((hn29 _ (ts_ne hq3 hq1 rfl)).trans hl26))))))) hx30 dX10_clear_71 ?_
  refine rn_iload_n (i := 1) dX10_clear_74 rfl rfl ?_
  refine rn_iconst (v := (0 : Int32)) dX10_clear_75 (by decide) ?_
  refine rs_zast q31 hS49 hq31 ((hn49 _ (ts_ne hq3 hq31 rfl)).trans hl45) hf45 hk_67 rfl rfl rv46 (by decide) (by decide) (by decide) (by decide) dX10_clear_76 (fun w50 f51 hS51 hl51 hf51 hu51 hn51 => ?_)
  have hl52 := ((hn51 _ (ts_ne hq31 hq1 rfl)).trans ((hn49 _ (ts_ne hq3 hq1 rfl)).trans ((hn45 _ (ts_ne hq31 hq1 rfl)).trans ((hn43 _ (ts_ne hq3 hq1 rfl)).trans ((hn39 _ (ts_ne hq31 hq1 rfl)).trans ((hn37 _ (ts_ne hq3 hq1 rfl)).trans ((hn33 _ (ts_ne hq31 hq1 rfl)).trans ((hn29 _ (ts_ne hq3 hq1 rfl)).trans hl26))))))))
  refine rs_iinc (4) (4) dX10_clear_77 rfl (by decide) rv46 rk_1 (by decide) (fun v53 => [(0, .ref o0_), (1, .int v53)]) (fun _ => rfl) (fun v53 ev53 rv53 => ?_)
  refine rn_goto (tgt := 58) dX10_clear_80 (by decide) ?_
  refine rn_iload_n (i := 1) dX10_clear_58 rfl rfl ?_
  refine rn_iconst (v := (4 : Int32)) dX10_clear_59 (by decide) ?_
  refine rn_icmp_ge (tgt := 83) dX10_clear_60 (by decide) (fun h54 => ?_) (fun h54 => (cx_lt (cv_nle h54) rv53 rk_4 (by decide)).elim)
  have ch54 := cv_le h54
  refine rn_aload_n (i := 0) dX10_clear_83 rfl rfl ?_
  obtain ⟨o55, hx55, m55⟩ := fs_r hf26 34 rfl
  refine rn_get q1 kg_SGModel_89 hl52 hx55 dX10_clear_84 ?_
  refine rn_iconst (v := (0 : Int32)) dX10_clear_87 (by decide) ?_
  refine rn_iconst (v := (0 : Int32)) dX10_clear_88 (by decide) ?_
  obtain ⟨q56, f56, hq56, hl56, hf56⟩ := ts_ia hS51.1 m55 hk_65
  refine rs_iast q56 hS51 hq56 hl56 hf56 hk_65 rfl rfl rk_0 (by decide) (by decide) (rg_w rk_0 (by decide) (by decide)) dX10_clear_89 (fun w57 f58 hS58 hl58 hf58 hu58 hn58 => ?_)
  refine rn_aload_n (i := 0) dX10_clear_90 rfl rfl ?_
  refine rn_get q1 kg_SGModel_89 ((hn58 _ (ts_ne hq56 hq1 rfl)).trans hl52) hx55 dX10_clear_91 ?_
  refine rn_iconst (v := (1 : Int32)) dX10_clear_94 (by decide) ?_
  refine rn_iconst (v := (0 : Int32)) dX10_clear_95 (by decide) ?_
  refine rs_iast q56 hS58 hq56 hl58 hf58 hk_65 rfl rfl rk_1 (by decide) (by decide) (rg_w rk_0 (by decide) (by decide)) dX10_clear_96 (fun w59 f60 hS60 hl60 hf60 hu60 hn60 => ?_)
  refine rn_iconst (v := (0 : Int32)) dX10_clear_97 (by decide) ?_
  refine rn_istore_n dX10_clear_98 rfl (by decide) [(0, .ref o0_), (1, .int (0 : Int32))] rfl ?_
  have LP62 : ∀ (n : Nat) (w63 : va_W) (x61 : Int32), St G S [75] w59 S w63 → Rg (0) (18) x61 → (18 - x61.toInt).toNat = n → Rn G mX10_clear 0 0 0 0 99 [(0, .ref o0_), (1, .int x61)] [] w63 (q_t_X10_clear G S ws ) := by
    intro n
    induction n using Nat.strongRecOn with
    | _ n ih =>
      intro w63 x61 hT64 r65 hm66
      refine rn_iload_n (i := 1) dX10_clear_99 rfl rfl ?_
      refine rn_bipush (v := (18 : Int32)) dX10_clear_100 (by decide) ?_
      refine rn_icmp_ge (tgt := 118) dX10_clear_102 (by decide) (fun h67 => ?_) (fun h67 => ?_)
      · have ch67 := cv_le h67
        have r68 : Rg (18) (18) x61 := rf_ley ch67 rk_18 r65 (by decide)
        have hS69 := St.tr hS60 hT64 rfl
        exact rn_vret dX10_clear_118 rfl (rq_in ⟨hS69, rfl, ⟨f49, ⟨q3, o2, _, _, hq3, (hT64.fr hq3 rfl ((hn60 _ (ts_ne hq56 hq3 rfl)).trans ((hn58 _ (ts_ne hq56 hq3 rfl)).trans ((hn51 _ (ts_ne hq31 hq3 rfl)).trans hl49))))⟩, fun j hj => by rw [hu49, hu43, hu37, hu29, tn6 (x := v46) (k := 3) (by have := rv46.1; have := rv46.2; omega), tn6 (x := v40) (k := 2) (by have := rv40.1; have := rv40.2; omega), tn6 (x := v34) (k := 1) (by have := rv34.1; have := rv34.2; omega), show (0 : Int32).toNatClampNeg = 0 from rfl]; unfold upd; rcases (show j = 0 ∨ j = 1 ∨ j = 2 ∨ j = 3 by omega) with rfl | rfl | rfl | rfl <;> rfl⟩⟩)
      · have ch67 := cv_nle h67
        have r70 : Rg (0) (17) x61 := rf_ltx ch67 r65 rk_18 (by decide)
        refine rn_aload_n (i := 0) dX10_clear_105 rfl rfl ?_
        obtain ⟨o71, hx71, m71⟩ := fs_r hf26 44 rfl
        refine rn_get q1 kg_SGModel_116 (hT64.fr hq1 rfl ((hn60 _ (ts_ne hq56 hq1 rfl)).trans ((hn58 _ (ts_ne hq56 hq1 rfl)).trans hl52))) hx71 dX10_clear_106 ?_
        refine rn_iload_n (i := 1) dX10_clear_109 rfl rfl ?_
        refine rn_iconst (v := (0 : Int32)) dX10_clear_110 (by decide) ?_
        obtain ⟨q72, f72, hq72, hl72, hf72⟩ := ts_ia hT64.1 m71 hk_75
        refine rs_iast q72 hT64 hq72 hl72 hf72 hk_75 rfl rfl r70 (by decide) (by decide) (rg_w rk_0 (by decide) (by decide)) dX10_clear_111 (fun w73 f74 hS74 hl74 hf74 hu74 hn74 => ?_)
        refine rs_iinc (1) (18) dX10_clear_112 rfl (by decide) r70 rk_1 (by decide) (fun v75 => [(0, .ref o0_), (1, .int v75)]) (fun _ => rfl) (fun v75 ev75 rv75 => ?_)
        refine rn_goto (tgt := 99) dX10_clear_115 (by decide) ?_
        refine rn_lv [(0, .ref o0_), (1, .int v75)] rfl ?_
        exact ih _ (lp_inc hm66 ev75 rv75 (by decide)) w73 v75 hS74 (rg_w rv75 (by decide) (by decide)) rfl
  exact LP62 _ w59 (0 : Int32) (St.rf hS60.1) (rg_w rk_0 (by decide) (by decide)) rfl
