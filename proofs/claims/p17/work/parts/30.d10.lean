abbrev q_t_X10_isFull (G : rn_G) (S : ts_S) (ws : va_W) : rn_R → va_W → Prop := rQ (fun v w => ws = w ∧ (∃ x : Int32, v = some (.int x) ∧ Rg (0) (1) x)) (fun E w => False)
set_option maxRecDepth 20000 in
set_option maxHeartbeats 4000000 in
theorem t_X10_isFull (G : rn_G) (S : ts_S) (ws : va_W) (hW : ts_W G S ws) (o0_ : Nat) (m0_ : (o0_, 30) ∈ S) (x1_ : Int32) (r1_ : Rg (0) (3) x1_) : Rn G mX10_isFull 0 0 0 0 0 (lv_args 0 [.ref o0_, .int x1_]) [] ws (q_t_X10_isFull G S ws ) := by
  refine rn_lv [(0, .ref o0_), (1, .int x1_)] rfl ?_
  refine rn_aload_n (i := 0) dX10_isFull_0 rfl rfl ?_
  obtain ⟨q1, fs1, hq1, hl1, hf1⟩ := ts_obj hW m0_ hk_30
  obtain ⟨o2, hx2, m2⟩ := fs_r hf1 39 rfl
  refine rn_get q1 kg_SGModel_104 hl1 hx2 dX10_isFull_1 ?_
  refine rn_iload_n (i := 1) dX10_isFull_4 rfl rfl ?_
  obtain ⟨q3, f3, hq3, hl3, hf3⟩ := ts_ia hW m2 hk_70
  refine rs_iald q3 hl3 hf3 rfl r1_ (by decide) (by decide) dX10_isFull_5 (fun v4 ev4 rv4 => ?_)
  refine rn_iconst (v := (-1 : Int32)) dX10_isFull_6 (by decide) ?_
  refine rn_icmp_eq (tgt := 14) dX10_isFull_7 (by decide) (fun h5 => ?_) (fun h5 => ?_)
  · have ch5 := cv_eq h5
    have r6 : Rg (-1) (-1) v4 := rf_eqx ch5 rv4 rk_m1 (by decide) (by decide)
    refine rn_iconst (v := (0 : Int32)) dX10_isFull_14 (by decide) ?_
    refine rn_istore_n dX10_isFull_15 rfl (by decide) [(0, .ref o0_), (1, .int x1_), (2, .int (0 : Int32))] rfl ?_
    refine rn_iconst (v := (0 : Int32)) dX10_isFull_16 (by decide) ?_
    refine rn_istore_n dX10_isFull_17 rfl (by decide) [(0, .ref o0_), (1, .int x1_), (2, .int (0 : Int32)), (3, .int (0 : Int32))] rfl ?_
    have LP9 : ∀ (n : Nat) (x7 : Int32) (x8 : Int32), Rg (0) (1) x7 → Rg (0) (1980) x8 → (1980 - x8.toInt).toNat = n → Rn G mX10_isFull 0 0 0 0 18 [(0, .ref o0_), (1, .int x1_), (2, .int x7), (3, .int x8)] [] ws (q_t_X10_isFull G S ws ) := by
      intro n
      induction n using Nat.strongRecOn with
      | _ n ih =>
        intro x7 x8 r11 r12 hm13
        refine rn_iload_n (i := 3) dX10_isFull_18 rfl rfl ?_
        refine rn_aload_n (i := 0) dX10_isFull_19 rfl rfl ?_
        refine rn_get q1 kg_SGModel_104 hl1 hx2 dX10_isFull_20 ?_
        refine rn_iload_n (i := 1) dX10_isFull_23 rfl rfl ?_
        refine rs_iald q3 hl3 hf3 rfl r1_ (by decide) (by decide) dX10_isFull_24 (fun v14 ev14 rv14 => ?_)
        refine rn_icmp_ge (tgt := 51) dX10_isFull_25 (by decide) (fun h15 => ?_) (fun h15 => ?_)
        · have ch15 := cv_le h15
          refine rn_iload_n (i := 2) dX10_isFull_51 rfl rfl ?_
          exact rn_iret dX10_isFull_52 rfl (nb_n r11) (rq_in ⟨rfl, x7, rfl, r11⟩)
        · have ch15 := cv_nle h15
          have r16 : Rg (0) (1979) x8 := rf_ltx ch15 r12 rv14 (by decide)
          have r17 : Rg (1) (1980) v14 := rf_lty ch15 r12 rv14 (by decide)
          refine rn_iload_n (i := 2) dX10_isFull_28 rfl rfl ?_
          refine rn_if_eq (tgt := 51) dX10_isFull_29 (by decide) (fun h18 => ?_) (fun h18 => ?_)
          · have ch18 := cv_eq h18
            have r19 : Rg (0) (0) x7 := rf_eqx ch18 r11 rk_0 (by decide) (by decide)
            refine rn_iload_n (i := 2) dX10_isFull_51 rfl rfl ?_
            exact rn_iret dX10_isFull_52 rfl (nb_n (rg_w r19 (by decide) (by decide))) (rq_in ⟨rfl, x7, rfl, (rg_w r19 (by decide) (by decide))⟩)
          · have ch18 := cv_ne h18
            have r20 : Rg (1) (1) x7 := rf_nel ch18 r11 rk_0 (by decide) (by decide)
            refine rn_aload_n (i := 0) dX10_isFull_32 rfl rfl ?_
            obtain ⟨o21, hx21, m21⟩ := fs_r hf1 42 rfl
            refine rn_get q1 kg_SGModel_113 hl1 hx21 dX10_isFull_33 ?_
            refine rn_sipush (v := (1980 : Int32)) dX10_isFull_36 (by decide) ?_
            refine rn_iload_n (i := 1) dX10_isFull_39 rfl rfl ?_
            refine rs_mulD (0) (5940) rk_1980 r1_ dX10_isFull_40 (by decide) (fun v22 ev22 rv22 => ?_)
            refine rn_iload_n (i := 3) dX10_isFull_41 rfl rfl ?_
            refine rs_addR (0) (7919) rv22 r16 dX10_isFull_42 (by decide) (fun v23 ev23 rv23 => ?_)
            obtain ⟨q24, f24, hq24, hl24, hf24⟩ := ts_ia hW m21 hk_73
            refine rs_zald q24 hl24 hf24 rfl rv23 (by decide) (by decide) dX10_isFull_43 (fun v25 ev25 rv25 => ?_)
            refine rn_istore_n dX10_isFull_44 rfl (by decide) [(0, .ref o0_), (1, .int x1_), (2, .int v25), (3, .int x8)] rfl ?_
            refine rs_iinc (1) (1980) dX10_isFull_45 rfl (by decide) r16 rk_1 (by decide) (fun v26 => [(0, .ref o0_), (1, .int x1_), (2, .int v25), (3, .int v26)]) (fun _ => rfl) (fun v26 ev26 rv26 => ?_)
            refine rn_goto (tgt := 18) dX10_isFull_48 (by decide) ?_
            refine rn_lv [(0, .ref o0_), (1, .int x1_), (2, .int v25), (3, .int v26)] rfl ?_
            exact ih _ (lp_inc hm13 ev26 rv26 (by decide)) v25 v26 rv25 (rg_w rv26 (by decide) (by decide)) rfl
    exact LP9 _ (0 : Int32) (0 : Int32) (rg_w rk_0 (by decide) (by decide)) (rg_w rk_0 (by decide) (by decide)) rfl
  · have ch5 := cv_ne h5
    have r27 : Rg (0) (1980) v4 := rf_nel ch5 rv4 rk_m1 (by decide) (by decide)
    refine rn_iconst (v := (1 : Int32)) dX10_isFull_10 (by decide) ?_
    refine rn_goto (tgt := 15) dX10_isFull_11 (by decide) ?_
    refine rn_istore_n dX10_isFull_15 rfl (by decide) [(0, .ref o0_), (1, .int x1_), (2, .int (1 : Int32))] rfl ?_
    refine rn_iconst (v := (0 : Int32)) dX10_isFull_16 (by decide) ?_
    refine rn_istore_n dX10_isFull_17 rfl (by decide) [(0, .ref o0_), (1, .int x1_), (2, .int (1 : Int32)), (3, .int (0 : Int32))] rfl ?_
    have LP30 : ∀ (n : Nat) (x28 : Int32) (x29 : Int32), Rg (0) (1) x28 → Rg (0) (1980) x29 → (1980 - x29.toInt).toNat = n → Rn G mX10_isFull 0 0 0 0 18 [(0, .ref o0_), (1, .int x1_), (2, .int x28), (3, .int x29)] [] ws (q_t_X10_isFull G S ws ) := by
      intro n
      induction n using Nat.strongRecOn with
      | _ n ih =>
        intro x28 x29 r32 r33 hm34
        refine rn_iload_n (i := 3) dX10_isFull_18 rfl rfl ?_
        refine rn_aload_n (i := 0) dX10_isFull_19 rfl rfl ?_
        refine rn_get q1 kg_SGModel_104 hl1 hx2 dX10_isFull_20 ?_
        refine rn_iload_n (i := 1) dX10_isFull_23 rfl rfl ?_
        refine rs_iald q3 hl3 hf3 rfl r1_ (by decide) (by decide) dX10_isFull_24 (fun v35 ev35 rv35 => ?_)
        refine rn_icmp_ge (tgt := 51) dX10_isFull_25 (by decide) (fun h36 => ?_) (fun h36 => ?_)
        · have ch36 := cv_le h36
          refine rn_iload_n (i := 2) dX10_isFull_51 rfl rfl ?_
          exact rn_iret dX10_isFull_52 rfl (nb_n r32) (rq_in ⟨rfl, x28, rfl, r32⟩)
        · have ch36 := cv_nle h36
          have r37 : Rg (0) (1979) x29 := rf_ltx ch36 r33 rv35 (by decide)
          have r38 : Rg (1) (1980) v35 := rf_lty ch36 r33 rv35 (by decide)
          refine rn_iload_n (i := 2) dX10_isFull_28 rfl rfl ?_
          refine rn_if_eq (tgt := 51) dX10_isFull_29 (by decide) (fun h39 => ?_) (fun h39 => ?_)
          · have ch39 := cv_eq h39
            have r40 : Rg (0) (0) x28 := rf_eqx ch39 r32 rk_0 (by decide) (by decide)
            refine rn_iload_n (i := 2) dX10_isFull_51 rfl rfl ?_
            exact rn_iret dX10_isFull_52 rfl (nb_n (rg_w r40 (by decide) (by decide))) (rq_in ⟨rfl, x28, rfl, (rg_w r40 (by decide) (by decide))⟩)
          · have ch39 := cv_ne h39
            have r41 : Rg (1) (1) x28 := rf_nel ch39 r32 rk_0 (by decide) (by decide)
            refine rn_aload_n (i := 0) dX10_isFull_32 rfl rfl ?_
            obtain ⟨o42, hx42, m42⟩ := fs_r hf1 42 rfl
            refine rn_get q1 kg_SGModel_113 hl1 hx42 dX10_isFull_33 ?_
            refine rn_sipush (v := (1980 : Int32)) dX10_isFull_36 (by decide) ?_
            refine rn_iload_n (i := 1) dX10_isFull_39 rfl rfl ?_
            refine rs_mulD (0) (5940) rk_1980 r1_ dX10_isFull_40 (by decide) (fun v43 ev43 rv43 => ?_)
            refine rn_iload_n (i := 3) dX10_isFull_41 rfl rfl ?_
            refine rs_addR (0) (7919) rv43 r37 dX10_isFull_42 (by decide) (fun v44 ev44 rv44 => ?_)
            obtain ⟨q45, f45, hq45, hl45, hf45⟩ := ts_ia hW m42 hk_73
            refine rs_zald q45 hl45 hf45 rfl rv44 (by decide) (by decide) dX10_isFull_43 (fun v46 ev46 rv46 => ?_)
            refine rn_istore_n dX10_isFull_44 rfl (by decide) [(0, .ref o0_), (1, .int x1_), (2, .int v46), (3, .int x29)] rfl ?_
            refine rs_iinc (1) (1980) dX10_isFull_45 rfl (by decide) r37 rk_1 (by decide) (fun v47 => [(0, .ref o0_), (1, .int x1_), (2, .int v46), (3, .int v47)]) (fun _ => rfl) (fun v47 ev47 rv47 => ?_)
            refine rn_goto (tgt := 18) dX10_isFull_48 (by decide) ?_
            refine rn_lv [(0, .ref o0_), (1, .int x1_), (2, .int v46), (3, .int v47)] rfl ?_
            exact ih _ (lp_inc hm34 ev47 rv47 (by decide)) v46 v47 rv46 (rg_w rv47 (by decide) (by decide)) rfl
    exact LP30 _ (1 : Int32) (0 : Int32) (rg_w rk_1 (by decide) (by decide)) (rg_w rk_0 (by decide) (by decide)) rfl
abbrev q_t_X10_tick (G : rn_G) (S : ts_S) (ws : va_W) : rn_R → va_W → Prop := rQ (fun v w => St G S [30, 67, 72] ws S w ∧ (∃ x : Int32, v = some (.int x) ∧ Rg (-2147483648) (2147483647) x ∧ fK1 4 S ws w)) (fun E w => False)
set_option maxRecDepth 20000 in
set_option maxHeartbeats 4000000 in
theorem t_X10_tick (G : rn_G) (S : ts_S) (ws : va_W) (hW : ts_W G S ws) (o0_ : Nat) (m0_ : (o0_, 30) ∈ S) : Rn G mX10_tick 0 0 0 0 0 (lv_args 0 [.ref o0_]) [] ws (q_t_X10_tick G S ws ) := by
  have hS0 : St G S [30, 67, 72] ws S ws := St.rf hW
  have fk0 : fK1 4 S ws ws := fun v h => h
  refine rn_lv [(0, .ref o0_)] rfl ?_
  refine rn_aload_n (i := 0) dX10_tick_0 rfl rfl ?_
  refine rn_iconst (v := (0 : Int32)) dX10_tick_1 (by decide) ?_
  obtain ⟨q1, fs1, hq1, hl1, hf1⟩ := ts_obj hS0.1 m0_ hk_30
  refine rs_put q1 (kp_SGModel_137 _) hS0 hq1 hl1 hf1 hk_30 rfl rfl (tv_i (rg_w rk_0 (by decide) (by decide))) rfl rfl dX10_tick_2 (fun w2 fs3 hS3 hl3 hf3 hx3 ho3 hn3 => ?_)
  have fk4 : fK1 4 S ws w2 := fk_put fk0 hS0.1 hq1 hl1 hl3 ho3 (by decide)
  refine rn_iconst (v := (0 : Int32)) dX10_tick_5 (by decide) ?_
  refine rn_istore_n dX10_tick_6 rfl (by decide) [(0, .ref o0_), (1, .int (0 : Int32))] rfl ?_
  refine rn_iconst (v := (0 : Int32)) dX10_tick_7 (by decide) ?_
  refine rn_istore_n dX10_tick_8 rfl (by decide) [(0, .ref o0_), (1, .int (0 : Int32)), (2, .int (0 : Int32))] rfl ?_
  have LP7 : ∀ (n : Nat) (w8 : va_W) (x5 : Int32) (x6 : Int32), St G S [67, 72] w2 S w8 → Rg (-2147483648) (2147483647) x5 → Rg (0) (4) x6 → (4 - x6.toInt).toNat = n → Rn G mX10_tick 0 0 0 0 9 [(0, .ref o0_), (1, .int x5), (2, .int x6)] [] w8 (q_t_X10_tick G S ws ) := by
    intro n
    induction n using Nat.strongRecOn with
    | _ n ih =>
      intro w8 x5 x6 hT9 r10 r11 hm12
      have fk13 : fK1 4 S ws w8 := fk_fr fk4 hT9 rfl
      refine rn_iload_n (i := 2) dX10_tick_9 rfl rfl ?_
      refine rn_iconst (v := (4 : Int32)) dX10_tick_10 (by decide) ?_
      refine rn_icmp_ge (tgt := 60) dX10_tick_11 (by decide) (fun h14 => ?_) (fun h14 => ?_)
      · have ch14 := cv_le h14
        have r15 : Rg (4) (4) x6 := rf_ley ch14 rk_4 r11 (by decide)
        have hS16 := St.tr hS3 hT9 rfl
        refine rn_iload_n (i := 1) dX10_tick_60 rfl rfl ?_
        exact rn_iret dX10_tick_61 rfl rfl (rq_in ⟨hS16, x5, rfl, r10, fk13⟩)
      · have ch14 := cv_nle h14
        have r17 : Rg (0) (3) x6 := rf_ltx ch14 r11 rk_4 (by decide)
        refine rn_aload_n (i := 0) dX10_tick_14 rfl rfl ?_
        obtain ⟨o18, hx18, m18⟩ := fs_r hf3 36 rfl
        refine rn_get q1 kg_SGModel_95 (hT9.fr hq1 rfl hl3) hx18 dX10_tick_15 ?_
        refine rn_iload_n (i := 2) dX10_tick_18 rfl rfl ?_
        obtain ⟨q19, f19, hq19, hl19, hf19⟩ := ts_ia hT9.1 m18 hk_67
        refine rs_zald q19 hl19 hf19 rfl r17 (by decide) (by decide) dX10_tick_19 (fun v20 ev20 rv20 => ?_)
        refine rn_if_eq (tgt := 54) dX10_tick_20 (by decide) (fun h21 => ?_) (fun h21 => ?_)
        · have ch21 := cv_eq h21
          have r22 : Rg (0) (0) v20 := rf_eqx ch21 rv20 rk_0 (by decide) (by decide)
          refine rs_iinc (1) (4) dX10_tick_54 rfl (by decide) r17 rk_1 (by decide) (fun v23 => [(0, .ref o0_), (1, .int x5), (2, .int v23)]) (fun _ => rfl) (fun v23 ev23 rv23 => ?_)
          refine rn_goto (tgt := 9) dX10_tick_57 (by decide) ?_
          refine rn_lv [(0, .ref o0_), (1, .int x5), (2, .int v23)] rfl ?_
          exact ih _ (lp_inc hm12 ev23 rv23 (by decide)) w8 x5 v23 hT9 r10 (rg_w rv23 (by decide) (by decide)) rfl
        · have ch21 := cv_ne h21
          have r24 : Rg (1) (1) v20 := rf_nel ch21 rv20 rk_0 (by decide) (by decide)
          refine rn_aload_n (i := 0) dX10_tick_23 rfl rfl ?_
          obtain ⟨o25, hx25, m25⟩ := fs_r hf3 41 rfl
          refine rn_get q1 kg_SGModel_110 (hT9.fr hq1 rfl hl3) hx25 dX10_tick_24 ?_
          refine rn_iload_n (i := 2) dX10_tick_27 rfl rfl ?_
          refine rn_dup2_11 dX10_tick_28 rfl rfl ?_
          obtain ⟨q26, f26, hq26, hl26, hf26⟩ := ts_ia hT9.1 m25 hk_72
          refine rs_iald q26 hl26 hf26 rfl r17 (by decide) (by decide) dX10_tick_29 (fun v27 ev27 rv27 => ?_)
          refine rn_iconst (v := (1 : Int32)) dX10_tick_30 (by decide) ?_
          refine rn_iadd dX10_tick_31 (rn_nmA (fun v28 rv28 => ?_))
          refine rs_iast q26 hT9 hq26 hl26 hf26 hk_72 rfl rfl r17 (by decide) (by decide) rv28 dX10_tick_32 (fun w29 f30 hS30 hl30 hf30 hu30 hn30 => ?_)
          have fk31 : fK1 4 S ws w29 := fk_ne fk13 hn30 hq26 rfl
          refine rn_aload_n (i := 0) dX10_tick_33 rfl rfl ?_
          refine rn_get q1 kg_SGModel_110 ((hn30 _ (ts_ne hq26 hq1 rfl)).trans (hT9.fr hq1 rfl hl3)) hx25 dX10_tick_34 ?_
          refine rn_iload_n (i := 2) dX10_tick_37 rfl rfl ?_
          refine rs_iald q26 hl30 hf30 rfl r17 (by decide) (by decide) dX10_tick_38 (fun v32 ev32 rv32 => ?_)
          refine rn_bipush (v := (8 : Int32)) dX10_tick_39 (by decide) ?_
          refine rn_icmp_ne (tgt := 54) dX10_tick_41 (by decide) (fun h33 => ?_) (fun h33 => ?_)
          · have ch33 := cv_ne h33
            refine rs_iinc (1) (4) dX10_tick_54 rfl (by decide) r17 rk_1 (by decide) (fun v34 => [(0, .ref o0_), (1, .int x5), (2, .int v34)]) (fun _ => rfl) (fun v34 ev34 rv34 => ?_)
            refine rn_goto (tgt := 9) dX10_tick_57 (by decide) ?_
            refine rn_lv [(0, .ref o0_), (1, .int x5), (2, .int v34)] rfl ?_
            exact ih _ (lp_inc hm12 ev34 rv34 (by decide)) w29 x5 v34 hS30 r10 (rg_w rv34 (by decide) (by decide)) rfl
          · have ch33 := cv_eq h33
            have r35 : Rg (8) (8) v32 := rf_eqx ch33 rv32 rk_8 (by decide) (by decide)
            refine rn_aload_n (i := 0) dX10_tick_44 rfl rfl ?_
            refine rn_get q1 kg_SGModel_95 ((hn30 _ (ts_ne hq26 hq1 rfl)).trans (hT9.fr hq1 rfl hl3)) hx18 dX10_tick_45 ?_
            refine rn_iload_n (i := 2) dX10_tick_48 rfl rfl ?_
            refine rn_iconst (v := (0 : Int32)) dX10_tick_49 (by decide) ?_
            refine rs_zast q19 hS30 hq19 ((hn30 _ (ts_ne hq26 hq19 rfl)).trans hl19) hf19 hk_67 rfl rfl r17 (by decide) (by decide) (by decide) (by decide) dX10_tick_50 (fun w36 f37 hS37 hl37 hf37 hu37 hn37 => ?_)
            have fk38 : fK1 4 S ws w36 := fk_ne fk31 hn37 hq19 rfl
            refine rn_iinc (v := x5 + Int32.ofInt (1)) dX10_tick_51 rfl rfl (by decide) [(0, .ref o0_), (1, .int (x5 + Int32.ofInt (1))), (2, .int x6)] rfl ?_
            refine rs_iinc (1) (4) dX10_tick_54 rfl (by decide) r17 rk_1 (by decide) (fun v39 => [(0, .ref o0_), (1, .int (x5 + Int32.ofInt (1))), (2, .int v39)]) (fun _ => rfl) (fun v39 ev39 rv39 => ?_)
            refine rn_goto (tgt := 9) dX10_tick_57 (by decide) ?_
            refine rn_lv [(0, .ref o0_), (1, .int (x5 + Int32.ofInt (1))), (2, .int v39)] rfl ?_
            exact ih _ (lp_inc hm12 ev39 rv39 (by decide)) w36 (x5 + Int32.ofInt (1)) v39 hS37 (rg_any (x5 + Int32.ofInt (1))) (rg_w rv39 (by decide) (by decide)) rfl
  exact LP7 _ w2 (0 : Int32) (0 : Int32) (St.rf hS3.1) (rg_w rk_0 (by decide) (by decide)) (rg_w rk_0 (by decide) (by decide)) rfl
abbrev q_t_X10_numberOf (G : rn_G) (S : ts_S) (ws : va_W) : rn_R → va_W → Prop := rQ (fun v w => ws = w ∧ (∃ x : Int64, v = some (.long x))) (fun E w => False)
set_option maxRecDepth 20000 in
set_option maxHeartbeats 4000000 in
theorem t_X10_numberOf (G : rn_G) (S : ts_S) (ws : va_W) (hW : ts_W G S ws) (o0_ : Nat) (m0_ : (o0_, 30) ∈ S) (x1_ : Int32) (r1_ : Rg (0) (15) x1_) (y2_ : Int64) : Rn G mX10_numberOf 0 0 0 0 0 (lv_args 0 [.ref o0_, .int x1_, .long y2_]) [] ws (q_t_X10_numberOf G S ws ) := by
  refine rn_lv [(0, .ref o0_), (1, .int x1_), (2, .long y2_)] rfl ?_
  refine rn_aload_n (i := 0) dX10_numberOf_0 rfl rfl ?_
  obtain ⟨q1, fs1, hq1, hl1, hf1⟩ := ts_obj hW m0_ hk_30
  obtain ⟨o2, hx2, m2⟩ := fs_r hf1 28 rfl
  refine rn_get q1 kg_SGModel_73 hl1 hx2 dX10_numberOf_1 ?_
  refine rn_iload_n (i := 1) dX10_numberOf_4 rfl rfl ?_
  obtain ⟨q3, f3, hq3, hl3, hf3⟩ := ts_ia hW m2 hk_59
  refine rs_zald q3 hl3 hf3 rfl r1_ (by decide) (by decide) dX10_numberOf_5 (fun v4 ev4 rv4 => ?_)
  refine rn_if_ne (tgt := 11) dX10_numberOf_6 (by decide) (fun h5 => ?_) (fun h5 => ?_)
  · have ch5 := cv_ne h5
    have r6 : Rg (1) (1) v4 := rf_nel ch5 rv4 rk_0 (by decide) (by decide)
    refine rn_aload_n (i := 0) dX10_numberOf_11 rfl rfl ?_
    obtain ⟨o7, hx7, m7⟩ := fs_r hf1 31 rfl
    refine rn_get q1 kg_SGModel_83 hl1 hx7 dX10_numberOf_12 ?_
    refine rn_iload_n (i := 1) dX10_numberOf_15 rfl rfl ?_
    obtain ⟨q8, f8, hq8, hl8⟩ := ts_la hW m7 hk_62
    refine rs_lald q8 hl8 rfl r1_ (by decide) (by decide) dX10_numberOf_16 (fun v9 ev9 => ?_)
    refine rn_ldc2 (v := (4294967295 : Int64)) wd_1351 dX10_numberOf_17 ?_
    refine rn_land dX10_numberOf_20 (rn_nmL (fun l10 => ?_))
    refine rn_lstore dX10_numberOf_21 (by decide) [(0, .ref o0_), (1, .int x1_), (2, .long y2_), (4, .long l10)] rfl ?_
    refine rn_aload_n (i := 0) dX10_numberOf_23 rfl rfl ?_
    refine rn_get q1 kg_SGModel_83 hl1 hx7 dX10_numberOf_24 ?_
    refine rn_iload_n (i := 1) dX10_numberOf_27 rfl rfl ?_
    refine rs_lald q8 hl8 rfl r1_ (by decide) (by decide) dX10_numberOf_28 (fun v11 ev11 => ?_)
    refine rn_bipush (v := (32 : Int32)) dX10_numberOf_29 (by decide) ?_
    refine rn_lushr dX10_numberOf_31 rfl (rn_nmL (fun l12 => ?_))
    refine rn_lstore dX10_numberOf_32 (by decide) [(0, .ref o0_), (1, .int x1_), (2, .long y2_), (4, .long l10), (6, .long l12)] rfl ?_
    refine rn_lload dX10_numberOf_34 rfl ?_
    refine rn_ldc2 (v := (63 : Int64)) wd_1504 dX10_numberOf_36 ?_
    refine rn_lcmp dX10_numberOf_39 (rn_tn (-1) 1 (rg_lcmp _ _) (fun v13 rv13 => ?_))
    refine rn_if_lt (tgt := 88) dX10_numberOf_40 (by decide) (fun h14 => ?_) (fun h14 => ?_)
    · have ch14 := cv_lt h14
      have r15 : Rg (-1) (-1) v13 := rf_ltx ch14 rv13 rk_0 (by decide)
      refine rn_lload_n (i := 2) dX10_numberOf_88 rfl rfl ?_
      refine rn_lload dX10_numberOf_89 rfl ?_
      refine rn_ldc2 (v := (63 : Int64)) wd_1504 dX10_numberOf_91 ?_
      refine rn_lsub dX10_numberOf_94 (rn_nmL (fun l16 => ?_))
      refine rn_ldc2 (v := (4294967296 : Int64)) wd_1507 dX10_numberOf_95 ?_
      refine rn_ladd dX10_numberOf_98 (rn_nmL (fun l17 => ?_))
      refine rn_lcmp dX10_numberOf_99 (rn_tn (-1) 1 (rg_lcmp _ _) (fun v18 rv18 => ?_))
      refine rn_if_ge (tgt := 108) dX10_numberOf_100 (by decide) (fun h19 => ?_) (fun h19 => ?_)
      · have ch19 := cv_le h19
        have r20 : Rg (0) (1) v18 := rf_ley ch19 rk_0 rv18 (by decide)
        refine rn_lload dX10_numberOf_108 rfl ?_
        refine rn_lconst (v := (1 : Int64)) dX10_numberOf_110 (by decide) ?_
        refine rn_lsub dX10_numberOf_111 (rn_nmL (fun l21 => ?_))
        refine rn_lstore dX10_numberOf_112 (by decide) [(0, .ref o0_), (1, .int x1_), (2, .long y2_), (4, .long l10), (6, .long l21)] rfl ?_
        refine rn_lload dX10_numberOf_114 rfl ?_
        refine rn_lconst (v := (0 : Int64)) dX10_numberOf_116 (by decide) ?_
        refine rn_lcmp dX10_numberOf_117 (rn_tn (-1) 1 (rg_lcmp _ _) (fun v22 rv22 => ?_))
        refine rn_if_ge (tgt := 127) dX10_numberOf_118 (by decide) (fun h23 => ?_) (fun h23 => ?_)
        · have ch23 := cv_le h23
          have r24 : Rg (0) (1) v22 := rf_ley ch23 rk_0 rv22 (by decide)
          refine rn_lload dX10_numberOf_127 rfl ?_
          refine rn_bipush (v := (32 : Int32)) dX10_numberOf_129 (by decide) ?_
          refine rn_lshl dX10_numberOf_131 rfl (rn_nmL (fun l25 => ?_))
          refine rn_lload_n (i := 2) dX10_numberOf_132 rfl rfl ?_
          refine rn_lor dX10_numberOf_133 (rn_nmL (fun l26 => ?_))
          exact rn_lret dX10_numberOf_134 rfl (rq_in ⟨rfl, l26, rfl⟩)
        · have ch23 := cv_nle h23
          have r27 : Rg (-1) (-1) v22 := rf_ltx ch23 rv22 rk_0 (by decide)
          refine rn_ldc2 (v := (-1 : Int64)) wd_1506 dX10_numberOf_121 ?_
          refine rn_goto (tgt := 134) dX10_numberOf_124 (by decide) ?_
          exact rn_lret dX10_numberOf_134 rfl (rq_in ⟨rfl, (-1 : Int64), rfl⟩)
      · have ch19 := cv_nle h19
        have r28 : Rg (-1) (-1) v18 := rf_ltx ch19 rv18 rk_0 (by decide)
        refine rn_lload dX10_numberOf_103 rfl ?_
        refine rn_goto (tgt := 112) dX10_numberOf_105 (by decide) ?_
        refine rn_lstore dX10_numberOf_112 (by decide) [(0, .ref o0_), (1, .int x1_), (2, .long y2_), (4, .long l10), (6, .long l12)] rfl ?_
        refine rn_lload dX10_numberOf_114 rfl ?_
        refine rn_lconst (v := (0 : Int64)) dX10_numberOf_116 (by decide) ?_
        refine rn_lcmp dX10_numberOf_117 (rn_tn (-1) 1 (rg_lcmp _ _) (fun v29 rv29 => ?_))
        refine rn_if_ge (tgt := 127) dX10_numberOf_118 (by decide) (fun h30 => ?_) (fun h30 => ?_)
        · have ch30 := cv_le h30
          have r31 : Rg (0) (1) v29 := rf_ley ch30 rk_0 rv29 (by decide)
          refine rn_lload dX10_numberOf_127 rfl ?_
          refine rn_bipush (v := (32 : Int32)) dX10_numberOf_129 (by decide) ?_
          refine rn_lshl dX10_numberOf_131 rfl (rn_nmL (fun l32 => ?_))
          refine rn_lload_n (i := 2) dX10_numberOf_132 rfl rfl ?_
          refine rn_lor dX10_numberOf_133 (rn_nmL (fun l33 => ?_))
          exact rn_lret dX10_numberOf_134 rfl (rq_in ⟨rfl, l33, rfl⟩)
        · have ch30 := cv_nle h30
          have r34 : Rg (-1) (-1) v29 := rf_ltx ch30 rv29 rk_0 (by decide)
          refine rn_ldc2 (v := (-1 : Int64)) wd_1506 dX10_numberOf_121 ?_
          refine rn_goto (tgt := 134) dX10_numberOf_124 (by decide) ?_
          exact rn_lret dX10_numberOf_134 rfl (rq_in ⟨rfl, (-1 : Int64), rfl⟩)
    · have ch14 := cv_nlt h14
      have r35 : Rg (0) (1) v13 := rf_ley ch14 rk_0 rv13 (by decide)
      refine rn_lload_n (i := 2) dX10_numberOf_43 rfl rfl ?_
      refine rn_lload dX10_numberOf_44 rfl ?_
      refine rn_ldc2 (v := (63 : Int64)) wd_1504 dX10_numberOf_46 ?_
      refine rn_lsub dX10_numberOf_49 (rn_nmL (fun l36 => ?_))
      refine rn_lcmp dX10_numberOf_50 (rn_tn (-1) 1 (rg_lcmp _ _) (fun v37 rv37 => ?_))
      refine rn_if_lt (tgt := 59) dX10_numberOf_51 (by decide) (fun h38 => ?_) (fun h38 => ?_)
      · have ch38 := cv_lt h38
        have r39 : Rg (-1) (-1) v37 := rf_ltx ch38 rv37 rk_0 (by decide)
        refine rn_lload dX10_numberOf_59 rfl ?_
        refine rn_lconst (v := (1 : Int64)) dX10_numberOf_61 (by decide) ?_
        refine rn_ladd dX10_numberOf_62 (rn_nmL (fun l40 => ?_))
        refine rn_lstore dX10_numberOf_63 (by decide) [(0, .ref o0_), (1, .int x1_), (2, .long y2_), (4, .long l10), (6, .long l40)] rfl ?_
        refine rn_lload dX10_numberOf_65 rfl ?_
        refine rn_ldc2 (v := (2147483648 : Int64)) wd_1505 dX10_numberOf_67 ?_
        refine rn_lcmp dX10_numberOf_70 (rn_tn (-1) 1 (rg_lcmp _ _) (fun v41 rv41 => ?_))
        refine rn_if_ne (tgt := 80) dX10_numberOf_71 (by decide) (fun h42 => ?_) (fun h42 => ?_)
        · have ch42 := cv_ne h42
          refine rn_lload dX10_numberOf_80 rfl ?_
          refine rn_bipush (v := (32 : Int32)) dX10_numberOf_82 (by decide) ?_
          refine rn_lshl dX10_numberOf_84 rfl (rn_nmL (fun l43 => ?_))
          refine rn_lload_n (i := 2) dX10_numberOf_85 rfl rfl ?_
          refine rn_lor dX10_numberOf_86 (rn_nmL (fun l44 => ?_))
          exact rn_lret dX10_numberOf_87 rfl (rq_in ⟨rfl, l44, rfl⟩)
        · have ch42 := cv_eq h42
          have r45 : Rg (0) (0) v41 := rf_eqx ch42 rv41 rk_0 (by decide) (by decide)
          refine rn_ldc2 (v := (-1 : Int64)) wd_1506 dX10_numberOf_74 ?_
          refine rn_goto (tgt := 87) dX10_numberOf_77 (by decide) ?_
          exact rn_lret dX10_numberOf_87 rfl (rq_in ⟨rfl, (-1 : Int64), rfl⟩)
      · have ch38 := cv_nlt h38
        have r46 : Rg (0) (1) v37 := rf_ley ch38 rk_0 rv37 (by decide)
        refine rn_lload dX10_numberOf_54 rfl ?_
        refine rn_goto (tgt := 63) dX10_numberOf_56 (by decide) ?_
        refine rn_lstore dX10_numberOf_63 (by decide) [(0, .ref o0_), (1, .int x1_), (2, .long y2_), (4, .long l10), (6, .long l12)] rfl ?_
        refine rn_lload dX10_numberOf_65 rfl ?_
        refine rn_ldc2 (v := (2147483648 : Int64)) wd_1505 dX10_numberOf_67 ?_
        refine rn_lcmp dX10_numberOf_70 (rn_tn (-1) 1 (rg_lcmp _ _) (fun v47 rv47 => ?_))
        refine rn_if_ne (tgt := 80) dX10_numberOf_71 (by decide) (fun h48 => ?_) (fun h48 => ?_)
        · have ch48 := cv_ne h48
          refine rn_lload dX10_numberOf_80 rfl ?_
          refine rn_bipush (v := (32 : Int32)) dX10_numberOf_82 (by decide) ?_
          refine rn_lshl dX10_numberOf_84 rfl (rn_nmL (fun l49 => ?_))
          refine rn_lload_n (i := 2) dX10_numberOf_85 rfl rfl ?_
          refine rn_lor dX10_numberOf_86 (rn_nmL (fun l50 => ?_))
          exact rn_lret dX10_numberOf_87 rfl (rq_in ⟨rfl, l50, rfl⟩)
        · have ch48 := cv_eq h48
          have r51 : Rg (0) (0) v47 := rf_eqx ch48 rv47 rk_0 (by decide) (by decide)
          refine rn_ldc2 (v := (-1 : Int64)) wd_1506 dX10_numberOf_74 ?_
          refine rn_goto (tgt := 87) dX10_numberOf_77 (by decide) ?_
          exact rn_lret dX10_numberOf_87 rfl (rq_in ⟨rfl, (-1 : Int64), rfl⟩)
  · have ch5 := cv_eq h5
    have r52 : Rg (0) (0) v4 := rf_eqx ch5 rv4 rk_0 (by decide) (by decide)
    refine rn_lload_n (i := 2) dX10_numberOf_9 rfl rfl ?_
    exact rn_lret dX10_numberOf_10 rfl (rq_in ⟨rfl, y2_, rfl⟩)
abbrev q_t_X10_isOld (G : rn_G) (S : ts_S) (ws : va_W) : rn_R → va_W → Prop := rQ (fun v w => ws = w ∧ (∃ x : Int32, v = some (.int x) ∧ Rg (0) (1) x)) (fun E w => False)
set_option maxRecDepth 20000 in
set_option maxHeartbeats 4000000 in
theorem t_X10_isOld (G : rn_G) (S : ts_S) (ws : va_W) (hW : ts_W G S ws) (o0_ : Nat) (m0_ : (o0_, 30) ∈ S) (x1_ : Int32) (r1_ : Rg (0) (15) x1_) (y2_ : Int64) : Rn G mX10_isOld 0 0 0 0 0 (lv_args 0 [.ref o0_, .int x1_, .long y2_]) [] ws (q_t_X10_isOld G S ws ) := by
  refine rn_lv [(0, .ref o0_), (1, .int x1_), (2, .long y2_)] rfl ?_
  refine rn_lload_n (i := 2) dX10_isOld_0 rfl rfl ?_
  refine rn_lconst (v := (0 : Int64)) dX10_isOld_1 (by decide) ?_
  refine rn_lcmp dX10_isOld_2 (rn_tn (-1) 1 (rg_lcmp _ _) (fun v1 rv1 => ?_))
  refine rn_if_le (tgt := 21) dX10_isOld_3 (by decide) (fun h2 => ?_) (fun h2 => ?_)
  · have ch2 := cv_le h2
    have r3 : Rg (-1) (0) v1 := rf_lex ch2 rv1 rk_0 (by decide)
    refine rn_iconst (v := (1 : Int32)) dX10_isOld_21 (by decide) ?_
    refine rn_goto (tgt := 26) dX10_isOld_22 (by decide) ?_
    exact rn_iret dX10_isOld_26 rfl rfl (rq_in ⟨rfl, (1 : Int32), rfl, (rg_w rk_1 (by decide) (by decide))⟩)
  · have ch2 := cv_nle h2
    have r4 : Rg (1) (1) v1 := rf_lty ch2 rk_0 rv1 (by decide)
    refine rn_lload_n (i := 2) dX10_isOld_6 rfl rfl ?_
    refine rn_aload_n (i := 0) dX10_isOld_7 rfl rfl ?_
    obtain ⟨q5, fs5, hq5, hl5, hf5⟩ := ts_obj hW m0_ hk_30
    obtain ⟨o6, hx6, m6⟩ := fs_r hf5 31 rfl
    refine rn_get q5 kg_SGModel_83 hl5 hx6 dX10_isOld_8 ?_
    refine rn_iload_n (i := 1) dX10_isOld_11 rfl rfl ?_
    obtain ⟨q7, f7, hq7, hl7⟩ := ts_la hW m6 hk_62
    refine rs_lald q7 hl7 rfl r1_ (by decide) (by decide) dX10_isOld_12 (fun v8 ev8 => ?_)
    refine rn_ldc2 (v := (64 : Int64)) wd_1512 dX10_isOld_13 ?_
    refine rn_lsub dX10_isOld_16 (rn_nmL (fun l9 => ?_))
    refine rn_lcmp dX10_isOld_17 (rn_tn (-1) 1 (rg_lcmp _ _) (fun v10 rv10 => ?_))
    refine rn_if_gt (tgt := 25) dX10_isOld_18 (by decide) (fun h11 => ?_) (fun h11 => ?_)
    · have ch11 := cv_lt h11
      have r12 : Rg (1) (1) v10 := rf_lty ch11 rk_0 rv10 (by decide)
      refine rn_iconst (v := (0 : Int32)) dX10_isOld_25 (by decide) ?_
      exact rn_iret dX10_isOld_26 rfl rfl (rq_in ⟨rfl, (0 : Int32), rfl, (rg_w rk_0 (by decide) (by decide))⟩)
    · have ch11 := cv_nlt h11
      have r13 : Rg (-1) (0) v10 := rf_lex ch11 rv10 rk_0 (by decide)
      refine rn_iconst (v := (1 : Int32)) dX10_isOld_21 (by decide) ?_
      refine rn_goto (tgt := 26) dX10_isOld_22 (by decide) ?_
      exact rn_iret dX10_isOld_26 rfl rfl (rq_in ⟨rfl, (1 : Int32), rfl, (rg_w rk_1 (by decide) (by decide))⟩)
abbrev q_t_X10_wasSeen (G : rn_G) (S : ts_S) (ws : va_W) : rn_R → va_W → Prop := rQ (fun v w => ws = w ∧ (∃ x : Int32, v = some (.int x) ∧ Rg (0) (1) x)) (fun E w => False)
set_option maxRecDepth 20000 in
set_option maxHeartbeats 4000000 in
theorem t_X10_wasSeen (G : rn_G) (S : ts_S) (ws : va_W) (hW : ts_W G S ws) (o0_ : Nat) (m0_ : (o0_, 30) ∈ S) (x1_ : Int32) (r1_ : Rg (0) (15) x1_) (y2_ : Int64) : Rn G mX10_wasSeen 0 0 0 0 0 (lv_args 0 [.ref o0_, .int x1_, .long y2_]) [] ws (q_t_X10_wasSeen G S ws ) := by
  refine rn_lv [(0, .ref o0_), (1, .int x1_), (2, .long y2_)] rfl ?_
  refine rn_aload_n (i := 0) dX10_wasSeen_0 rfl rfl ?_
  obtain ⟨q1, fs1, hq1, hl1, hf1⟩ := ts_obj hW m0_ hk_30
  obtain ⟨o2, hx2, m2⟩ := fs_r hf1 31 rfl
  refine rn_get q1 kg_SGModel_83 hl1 hx2 dX10_wasSeen_1 ?_
  refine rn_iload_n (i := 1) dX10_wasSeen_4 rfl rfl ?_
  obtain ⟨q3, f3, hq3, hl3⟩ := ts_la hW m2 hk_62
  refine rs_lald q3 hl3 rfl r1_ (by decide) (by decide) dX10_wasSeen_5 (fun v4 ev4 => ?_)
  refine rn_lload_n (i := 2) dX10_wasSeen_6 rfl rfl ?_
  refine rn_lsub dX10_wasSeen_7 (rn_nmL (fun l5 => ?_))
  refine rn_lstore dX10_wasSeen_8 (by decide) [(0, .ref o0_), (1, .int x1_), (2, .long y2_), (4, .long l5)] rfl ?_
  refine rn_lload dX10_wasSeen_10 rfl ?_
  refine rn_lconst (v := (0 : Int64)) dX10_wasSeen_12 (by decide) ?_
  refine rn_lcmp dX10_wasSeen_13 (rn_tn (-1) 1 (rg_lcmp _ _) (fun v6 rv6 => ?_))
  refine rn_if_lt (tgt := 38) dX10_wasSeen_14 (by decide) (fun h7 => ?_) (fun h7 => ?_)
  · have ch7 := cv_lt h7
    have r8 : Rg (-1) (-1) v6 := rf_ltx ch7 rv6 rk_0 (by decide)
    refine rn_iconst (v := (0 : Int32)) dX10_wasSeen_38 (by decide) ?_
    exact rn_iret dX10_wasSeen_39 rfl rfl (rq_in ⟨rfl, (0 : Int32), rfl, (rg_w rk_0 (by decide) (by decide))⟩)
  · have ch7 := cv_nlt h7
    have r9 : Rg (0) (1) v6 := rf_ley ch7 rk_0 rv6 (by decide)
    refine rn_aload_n (i := 0) dX10_wasSeen_17 rfl rfl ?_
    obtain ⟨o10, hx10, m10⟩ := fs_r hf1 32 rfl
    refine rn_get q1 kg_SGModel_86 hl1 hx10 dX10_wasSeen_18 ?_
    refine rn_iload_n (i := 1) dX10_wasSeen_21 rfl rfl ?_
    obtain ⟨q11, f11, hq11, hl11⟩ := ts_la hW m10 hk_63
    refine rs_lald q11 hl11 rfl r1_ (by decide) (by decide) dX10_wasSeen_22 (fun v12 ev12 => ?_)
    refine rn_lload dX10_wasSeen_23 rfl ?_
    refine rn_l2i dX10_wasSeen_25 rfl (rn_nmA (fun v13 rv13 => ?_))
    refine rn_lushr dX10_wasSeen_26 rfl (rn_nmL (fun l14 => ?_))
    refine rn_lconst (v := (1 : Int64)) dX10_wasSeen_27 (by decide) ?_
    refine rn_land dX10_wasSeen_28 (rn_nmL (fun l15 => ?_))
    refine rn_lconst (v := (1 : Int64)) dX10_wasSeen_29 (by decide) ?_
    refine rn_lcmp dX10_wasSeen_30 (rn_tn (-1) 1 (rg_lcmp _ _) (fun v16 rv16 => ?_))
    refine rn_if_ne (tgt := 38) dX10_wasSeen_31 (by decide) (fun h17 => ?_) (fun h17 => ?_)
    · have ch17 := cv_ne h17
      refine rn_iconst (v := (0 : Int32)) dX10_wasSeen_38 (by decide) ?_
      exact rn_iret dX10_wasSeen_39 rfl rfl (rq_in ⟨rfl, (0 : Int32), rfl, (rg_w rk_0 (by decide) (by decide))⟩)
    · have ch17 := cv_eq h17
      have r18 : Rg (0) (0) v16 := rf_eqx ch17 rv16 rk_0 (by decide) (by decide)
      refine rn_iconst (v := (1 : Int32)) dX10_wasSeen_34 (by decide) ?_
      refine rn_goto (tgt := 39) dX10_wasSeen_35 (by decide) ?_
      exact rn_iret dX10_wasSeen_39 rfl rfl (rq_in ⟨rfl, (1 : Int32), rfl, (rg_w rk_1 (by decide) (by decide))⟩)
abbrev q_t_X10_see (G : rn_G) (S : ts_S) (ws : va_W) : rn_R → va_W → Prop := rQ (fun v w => St G S [60, 62, 63] ws S w ∧ (v = none)) (fun E w => False)
set_option maxRecDepth 20000 in
set_option maxHeartbeats 4000000 in
theorem t_X10_see (G : rn_G) (S : ts_S) (ws : va_W) (hW : ts_W G S ws) (o0_ : Nat) (m0_ : (o0_, 30) ∈ S) (x1_ : Int32) (r1_ : Rg (0) (15) x1_) (y2_ : Int64) : Rn G mX10_see 0 0 0 0 0 (lv_args 0 [.ref o0_, .int x1_, .long y2_]) [] ws (q_t_X10_see G S ws ) := by
  have hS0 : St G S [60, 62, 63] ws S ws := St.rf hW
  refine rn_lv [(0, .ref o0_), (1, .int x1_), (2, .long y2_)] rfl ?_
  refine rn_lload_n (i := 2) dX10_see_0 rfl rfl ?_
  refine rn_aload_n (i := 0) dX10_see_1 rfl rfl ?_
  obtain ⟨q1, fs1, hq1, hl1, hf1⟩ := ts_obj hS0.1 m0_ hk_30
  obtain ⟨o2, hx2, m2⟩ := fs_r hf1 31 rfl
  refine rn_get q1 kg_SGModel_83 hl1 hx2 dX10_see_2 ?_
  refine rn_iload_n (i := 1) dX10_see_5 rfl rfl ?_
  obtain ⟨q3, f3, hq3, hl3⟩ := ts_la hS0.1 m2 hk_62
  refine rs_lald q3 hl3 rfl r1_ (by decide) (by decide) dX10_see_6 (fun v4 ev4 => ?_)
  refine rn_lsub dX10_see_7 (rn_nmL (fun l5 => ?_))
  refine rn_lstore dX10_see_8 (by decide) [(0, .ref o0_), (1, .int x1_), (2, .long y2_), (4, .long l5)] rfl ?_
  refine rn_lload dX10_see_10 rfl ?_
  refine rn_lconst (v := (0 : Int64)) dX10_see_12 (by decide) ?_
  refine rn_lcmp dX10_see_13 (rn_tn (-1) 1 (rg_lcmp _ _) (fun v6 rv6 => ?_))
  refine rn_if_le (tgt := 58) dX10_see_14 (by decide) (fun h7 => ?_) (fun h7 => ?_)
  · have ch7 := cv_le h7
    have r8 : Rg (-1) (0) v6 := rf_lex ch7 rv6 rk_0 (by decide)
    refine rn_aload_n (i := 0) dX10_see_58 rfl rfl ?_
    obtain ⟨o9, hx9, m9⟩ := fs_r hf1 32 rfl
    refine rn_get q1 kg_SGModel_86 hl1 hx9 dX10_see_59 ?_
    refine rn_iload_n (i := 1) dX10_see_62 rfl rfl ?_
    refine rn_aload_n (i := 0) dX10_see_63 rfl rfl ?_
    refine rn_get q1 kg_SGModel_86 hl1 hx9 dX10_see_64 ?_
    refine rn_iload_n (i := 1) dX10_see_67 rfl rfl ?_
    obtain ⟨q10, f10, hq10, hl10⟩ := ts_la hS0.1 m9 hk_63
    refine rs_lald q10 hl10 rfl r1_ (by decide) (by decide) dX10_see_68 (fun v11 ev11 => ?_)
    refine rn_lconst (v := (1 : Int64)) dX10_see_69 (by decide) ?_
    refine rn_lload dX10_see_70 rfl ?_
    refine rn_lneg dX10_see_72 (rn_nmL (fun l12 => ?_))
    refine rn_l2i dX10_see_73 rfl (rn_nmA (fun v13 rv13 => ?_))
    refine rn_lshl dX10_see_74 rfl (rn_nmL (fun l14 => ?_))
    refine rn_lor dX10_see_75 (rn_nmL (fun l15 => ?_))
    refine rs_last q10 hS0 hq10 hl10 hk_63 rfl rfl r1_ (by decide) (by decide) dX10_see_76 (fun w16 f17 hS17 hl17 hu17 hn17 => ?_)
    refine rn_aload_n (i := 0) dX10_see_77 rfl rfl ?_
    obtain ⟨o18, hx18, m18⟩ := fs_r hf1 29 rfl
    refine rn_get q1 kg_SGModel_77 ((hn17 _ (ts_ne hq10 hq1 rfl)).trans hl1) hx18 dX10_see_78 ?_
    refine rn_iload_n (i := 1) dX10_see_81 rfl rfl ?_
    refine rn_dup2_11 dX10_see_82 rfl rfl ?_
    obtain ⟨q19, f19, hq19, hl19, hf19⟩ := ts_ia hS17.1 m18 hk_60
    refine rs_iald q19 hl19 hf19 rfl r1_ (by decide) (by decide) dX10_see_83 (fun v20 ev20 rv20 => ?_)
    refine rn_iconst (v := (1 : Int32)) dX10_see_84 (by decide) ?_
    refine rn_isub dX10_see_85 (rn_nmA (fun v21 rv21 => ?_))
    refine rs_iast q19 hS17 hq19 hl19 hf19 hk_60 rfl rfl r1_ (by decide) (by decide) rv21 dX10_see_86 (fun w22 f23 hS23 hl23 hf23 hu23 hn23 => ?_)
    exact rn_vret dX10_see_87 rfl (rq_in ⟨hS23, rfl⟩)
  · have ch7 := cv_nle h7
    have r24 : Rg (1) (1) v6 := rf_lty ch7 rk_0 rv6 (by decide)
    refine rn_aload_n (i := 0) dX10_see_17 rfl rfl ?_
    obtain ⟨o25, hx25, m25⟩ := fs_r hf1 32 rfl
    refine rn_get q1 kg_SGModel_86 hl1 hx25 dX10_see_18 ?_
    refine rn_iload_n (i := 1) dX10_see_21 rfl rfl ?_
    refine rn_lload dX10_see_22 rfl ?_
    refine rn_ldc2 (v := (64 : Int64)) wd_1512 dX10_see_24 ?_
    refine rn_lcmp dX10_see_27 (rn_tn (-1) 1 (rg_lcmp _ _) (fun v26 rv26 => ?_))
    refine rn_if_lt (tgt := 35) dX10_see_28 (by decide) (fun h27 => ?_) (fun h27 => ?_)
    · have ch27 := cv_lt h27
      have r28 : Rg (-1) (-1) v26 := rf_ltx ch27 rv26 rk_0 (by decide)
      refine rn_aload_n (i := 0) dX10_see_35 rfl rfl ?_
      refine rn_get q1 kg_SGModel_86 hl1 hx25 dX10_see_36 ?_
      refine rn_iload_n (i := 1) dX10_see_39 rfl rfl ?_
      obtain ⟨q29, f29, hq29, hl29⟩ := ts_la hS0.1 m25 hk_63
      refine rs_lald q29 hl29 rfl r1_ (by decide) (by decide) dX10_see_40 (fun v30 ev30 => ?_)
      refine rn_lload dX10_see_41 rfl ?_
      refine rn_l2i dX10_see_43 rfl (rn_nmA (fun v31 rv31 => ?_))
      refine rn_lshl dX10_see_44 rfl (rn_nmL (fun l32 => ?_))
      refine rn_lconst (v := (1 : Int64)) dX10_see_45 (by decide) ?_
      refine rn_lor dX10_see_46 (rn_nmL (fun l33 => ?_))
      refine rs_last q29 hS0 hq29 hl29 hk_63 rfl rfl r1_ (by decide) (by decide) dX10_see_47 (fun w34 f35 hS35 hl35 hu35 hn35 => ?_)
      refine rn_aload_n (i := 0) dX10_see_48 rfl rfl ?_
      refine rn_get q1 kg_SGModel_83 ((hn35 _ (ts_ne hq29 hq1 rfl)).trans hl1) hx2 dX10_see_49 ?_
      refine rn_iload_n (i := 1) dX10_see_52 rfl rfl ?_
      refine rn_lload_n (i := 2) dX10_see_53 rfl rfl ?_
      refine rs_last q3 hS35 hq3 ((hn35 _ (ts_ne hq29 hq3 rfl)).trans hl3) hk_62 rfl rfl r1_ (by decide) (by decide) dX10_see_54 (fun w36 f37 hS37 hl37 hu37 hn37 => ?_)
      refine rn_goto (tgt := 77) dX10_see_55 (by decide) ?_
      refine rn_aload_n (i := 0) dX10_see_77 rfl rfl ?_
      obtain ⟨o38, hx38, m38⟩ := fs_r hf1 29 rfl
      refine rn_get q1 kg_SGModel_77 ((hn37 _ (ts_ne hq3 hq1 rfl)).trans ((hn35 _ (ts_ne hq29 hq1 rfl)).trans hl1)) hx38 dX10_see_78 ?_
      refine rn_iload_n (i := 1) dX10_see_81 rfl rfl ?_
      refine rn_dup2_11 dX10_see_82 rfl rfl ?_
      obtain ⟨q39, f39, hq39, hl39, hf39⟩ := ts_ia hS37.1 m38 hk_60
      refine rs_iald q39 hl39 hf39 rfl r1_ (by decide) (by decide) dX10_see_83 (fun v40 ev40 rv40 => ?_)
      refine rn_iconst (v := (1 : Int32)) dX10_see_84 (by decide) ?_
      refine rn_isub dX10_see_85 (rn_nmA (fun v41 rv41 => ?_))
      refine rs_iast q39 hS37 hq39 hl39 hf39 hk_60 rfl rfl r1_ (by decide) (by decide) rv41 dX10_see_86 (fun w42 f43 hS43 hl43 hf43 hu43 hn43 => ?_)
      exact rn_vret dX10_see_87 rfl (rq_in ⟨hS43, rfl⟩)
    · have ch27 := cv_nlt h27
      have r44 : Rg (0) (1) v26 := rf_ley ch27 rk_0 rv26 (by decide)
      refine rn_lconst (v := (0 : Int64)) dX10_see_31 (by decide) ?_
      refine rn_goto (tgt := 45) dX10_see_32 (by decide) ?_
      refine rn_lconst (v := (1 : Int64)) dX10_see_45 (by decide) ?_
      refine rn_lor dX10_see_46 (rn_nmL (fun l45 => ?_))
      obtain ⟨q46, f46, hq46, hl46⟩ := ts_la hS0.1 m25 hk_63
      refine rs_last q46 hS0 hq46 hl46 hk_63 rfl rfl r1_ (by decide) (by decide) dX10_see_47 (fun w47 f48 hS48 hl48 hu48 hn48 => ?_)
      refine rn_aload_n (i := 0) dX10_see_48 rfl rfl ?_
      refine rn_get q1 kg_SGModel_83 ((hn48 _ (ts_ne hq46 hq1 rfl)).trans hl1) hx2 dX10_see_49 ?_
      refine rn_iload_n (i := 1) dX10_see_52 rfl rfl ?_
      refine rn_lload_n (i := 2) dX10_see_53 rfl rfl ?_
      refine rs_last q3 hS48 hq3 ((hn48 _ (ts_ne hq46 hq3 rfl)).trans hl3) hk_62 rfl rfl r1_ (by decide) (by decide) dX10_see_54 (fun w49 f50 hS50 hl50 hu50 hn50 => ?_)
      refine rn_goto (tgt := 77) dX10_see_55 (by decide) ?_
      refine rn_aload_n (i := 0) dX10_see_77 rfl rfl ?_
      obtain ⟨o51, hx51, m51⟩ := fs_r hf1 29 rfl
      refine rn_get q1 kg_SGModel_77 ((hn50 _ (ts_ne hq3 hq1 rfl)).trans ((hn48 _ (ts_ne hq46 hq1 rfl)).trans hl1)) hx51 dX10_see_78 ?_
      refine rn_iload_n (i := 1) dX10_see_81 rfl rfl ?_
      refine rn_dup2_11 dX10_see_82 rfl rfl ?_
      obtain ⟨q52, f52, hq52, hl52, hf52⟩ := ts_ia hS50.1 m51 hk_60
      refine rs_iald q52 hl52 hf52 rfl r1_ (by decide) (by decide) dX10_see_83 (fun v53 ev53 rv53 => ?_)
      refine rn_iconst (v := (1 : Int32)) dX10_see_84 (by decide) ?_
      refine rn_isub dX10_see_85 (rn_nmA (fun v54 rv54 => ?_))
      refine rs_iast q52 hS50 hq52 hl52 hf52 hk_60 rfl rfl r1_ (by decide) (by decide) rv54 dX10_see_86 (fun w55 f56 hS56 hl56 hf56 hu56 hn56 => ?_)
      exact rn_vret dX10_see_87 rfl (rq_in ⟨hS56, rfl⟩)
