abbrev q_t_X10_isFilled (G : rn_G) (S : ts_S) (ws : va_W) : rn_R → va_W → Prop := rQ (fun v w => ws = w ∧ (∃ x : Int32, v = some (.int x) ∧ Rg (0) (1) x)) (fun E w => False)
set_option maxRecDepth 20000 in
set_option maxHeartbeats 4000000 in
theorem t_X10_isFilled (G : rn_G) (S : ts_S) (ws : va_W) (hW : ts_W G S ws) (o0_ : Nat) (m0_ : (o0_, 30) ∈ S) (x1_ : Int32) (r1_ : Rg (6600) (6600) x1_) (x2_ : Int32) (r2_ : Rg (4) (2047) x2_) (x3_ : Int32) (r3_ : Rg (0) (255) x3_) : Rn G mX10_isFilled 0 0 0 0 0 (lv_args 0 [.ref o0_, .int x1_, .int x2_, .int x3_]) [] ws (q_t_X10_isFilled G S ws ) := by
  refine rn_lv [(0, .ref o0_), (1, .int x1_), (2, .int x2_), (3, .int x3_)] rfl ?_
  refine rn_iload_n (i := 3) dX10_isFilled_0 rfl rfl ?_
  refine rn_iload_n (i := 2) dX10_isFilled_1 rfl rfl ?_
  refine rn_iconst (v := (2 : Int32)) dX10_isFilled_2 (by decide) ?_
  refine rs_subC (2) (2045) r2_ rk_2 dX10_isFilled_3 (by decide) (fun v1 ev1 rv1 => ?_)
  refine rn_icmp_gt (tgt := 11) dX10_isFilled_4 (by decide) (fun h2 => ?_) (fun h2 => ?_)
  · have ch2 := cv_lt h2
    have r3 : Rg (2) (254) v1 := rf_ltx ch2 rv1 r3_ (by decide)
    have r4 : Rg (3) (255) x3_ := rf_lty ch2 rv1 r3_ (by decide)
    refine rn_iconst (v := (0 : Int32)) dX10_isFilled_11 (by decide) ?_
    refine rn_istore dX10_isFilled_12 (by decide) [(0, .ref o0_), (1, .int x1_), (2, .int x2_), (3, .int x3_), (4, .int (0 : Int32))] rfl ?_
    refine rn_iconst (v := (1 : Int32)) dX10_isFilled_14 (by decide) ?_
    refine rn_istore dX10_isFilled_15 (by decide) [(0, .ref o0_), (1, .int x1_), (2, .int x2_), (3, .int x3_), (4, .int (0 : Int32)), (5, .int (1 : Int32))] rfl ?_
    have LP7 : ∀ (n : Nat) (x5 : Int32) (x6 : Int32), Rg (0) (1) x5 → Rg (1) (1480) x6 → (1480 - x6.toInt).toNat = n → Rn G mX10_isFilled 0 0 0 0 17 [(0, .ref o0_), (1, .int x1_), (2, .int x2_), (3, .int x3_), (4, .int x5), (5, .int x6)] [] ws (q_t_X10_isFilled G S ws ) := by
      intro n
      induction n using Nat.strongRecOn with
      | _ n ih =>
        intro x5 x6 r9 r10 hm11
        refine rn_iload dX10_isFilled_17 rfl ?_
        refine rn_iload_n (i := 3) dX10_isFilled_19 rfl rfl ?_
        refine rn_icmp_gt (tgt := 63) dX10_isFilled_20 (by decide) (fun h12 => ?_) (fun h12 => ?_)
        · have ch12 := cv_lt h12
          have r13 : Rg (4) (1480) x6 := rf_lty ch12 r4 r10 (by decide)
          refine rn_iload dX10_isFilled_63 rfl ?_
          exact rn_iret dX10_isFilled_65 rfl (nb_n r9) (rq_in ⟨rfl, x5, rfl, r9⟩)
        · have ch12 := cv_nlt h12
          have r14 : Rg (1) (255) x6 := rf_lex ch12 r10 r4 (by decide)
          refine rn_iload dX10_isFilled_23 rfl ?_
          refine rn_if_eq (tgt := 63) dX10_isFilled_25 (by decide) (fun h15 => ?_) (fun h15 => ?_)
          · have ch15 := cv_eq h15
            have r16 : Rg (0) (0) x5 := rf_eqx ch15 r9 rk_0 (by decide) (by decide)
            refine rn_iload dX10_isFilled_63 rfl ?_
            exact rn_iret dX10_isFilled_65 rfl (nb_n (rg_w r16 (by decide) (by decide))) (rq_in ⟨rfl, x5, rfl, (rg_w r16 (by decide) (by decide))⟩)
          · have ch15 := cv_ne h15
            have r17 : Rg (1) (1) x5 := rf_nel ch15 r9 rk_0 (by decide) (by decide)
            refine rn_aload_n (i := 0) dX10_isFilled_28 rfl rfl ?_
            obtain ⟨q18, fs18, hq18, hl18, hf18⟩ := ts_obj hW m0_ hk_30
            obtain ⟨o19, hx19, m19⟩ := fs_r hf18 2 rfl
            refine rn_get q18 kg_SGModel_7 hl18 hx19 dX10_isFilled_29 ?_
            refine rn_iload_n (i := 1) dX10_isFilled_32 rfl rfl ?_
            refine rn_iload_n (i := 2) dX10_isFilled_33 rfl rfl ?_
            refine rs_addR (6604) (8647) r1_ r2_ dX10_isFilled_34 (by decide) (fun v20 ev20 rv20 => ?_)
            refine rn_iconst (v := (2 : Int32)) dX10_isFilled_35 (by decide) ?_
            refine rs_subC (6602) (8645) rv20 rk_2 dX10_isFilled_36 (by decide) (fun v21 ev21 rv21 => ?_)
            refine rn_iload_n (i := 3) dX10_isFilled_37 rfl rfl ?_
            refine rs_subR (6347) (8642) rv21 r4 dX10_isFilled_38 (by decide) (fun v22 ev22 rv22 => ?_)
            refine rn_iload dX10_isFilled_39 rfl ?_
            refine rs_addR (6348) (8897) rv22 r14 dX10_isFilled_41 (by decide) (fun v23 ev23 rv23 => ?_)
            refine rn_iconst (v := (1 : Int32)) dX10_isFilled_42 (by decide) ?_
            refine rs_subC (6347) (8896) rv23 rk_1 dX10_isFilled_43 (by decide) (fun v24 ev24 rv24 => ?_)
            obtain ⟨q25, f25, hq25, hl25, hf25⟩ := ts_ia hW m19 hk_33
            refine rs_iald q25 hl25 hf25 rfl rv24 (by decide) (by decide) dX10_isFilled_44 (fun v26 ev26 rv26 => ?_)
            refine rn_iload dX10_isFilled_45 rfl ?_
            refine rn_icmp_ne (tgt := 54) dX10_isFilled_47 (by decide) (fun h27 => ?_) (fun h27 => ?_)
            · have ch27 := cv_ne h27
              refine rn_iconst (v := (0 : Int32)) dX10_isFilled_54 (by decide) ?_
              refine rn_istore dX10_isFilled_55 (by decide) [(0, .ref o0_), (1, .int x1_), (2, .int x2_), (3, .int x3_), (4, .int (0 : Int32)), (5, .int x6)] rfl ?_
              refine rs_iinc (2) (256) dX10_isFilled_57 rfl (by decide) r14 rk_1 (by decide) (fun v28 => [(0, .ref o0_), (1, .int x1_), (2, .int x2_), (3, .int x3_), (4, .int (0 : Int32)), (5, .int v28)]) (fun _ => rfl) (fun v28 ev28 rv28 => ?_)
              refine rn_goto (tgt := 17) dX10_isFilled_60 (by decide) ?_
              refine rn_lv [(0, .ref o0_), (1, .int x1_), (2, .int x2_), (3, .int x3_), (4, .int (0 : Int32)), (5, .int v28)] rfl ?_
              exact ih _ (lp_inc hm11 ev28 rv28 (by decide)) (0 : Int32) v28 (rg_w rk_0 (by decide) (by decide)) (rg_w rv28 (by decide) (by decide)) rfl
            · have ch27 := cv_eq h27
              have r29 : Rg (1) (255) v26 := rf_eqx ch27 rv26 r14 (by decide) (by decide)
              refine rn_iconst (v := (1 : Int32)) dX10_isFilled_50 (by decide) ?_
              refine rn_goto (tgt := 55) dX10_isFilled_51 (by decide) ?_
              refine rn_istore dX10_isFilled_55 (by decide) [(0, .ref o0_), (1, .int x1_), (2, .int x2_), (3, .int x3_), (4, .int (1 : Int32)), (5, .int x6)] rfl ?_
              refine rs_iinc (2) (256) dX10_isFilled_57 rfl (by decide) r14 rk_1 (by decide) (fun v30 => [(0, .ref o0_), (1, .int x1_), (2, .int x2_), (3, .int x3_), (4, .int (1 : Int32)), (5, .int v30)]) (fun _ => rfl) (fun v30 ev30 rv30 => ?_)
              refine rn_goto (tgt := 17) dX10_isFilled_60 (by decide) ?_
              refine rn_lv [(0, .ref o0_), (1, .int x1_), (2, .int x2_), (3, .int x3_), (4, .int (1 : Int32)), (5, .int v30)] rfl ?_
              exact ih _ (lp_inc hm11 ev30 rv30 (by decide)) (1 : Int32) v30 (rg_w rk_1 (by decide) (by decide)) (rg_w rv30 (by decide) (by decide)) rfl
    exact LP7 _ (0 : Int32) (1 : Int32) (rg_w rk_0 (by decide) (by decide)) (rg_w rk_1 (by decide) (by decide)) rfl
  · have ch2 := cv_nlt h2
    refine rn_iconst (v := (1 : Int32)) dX10_isFilled_7 (by decide) ?_
    refine rn_goto (tgt := 12) dX10_isFilled_8 (by decide) ?_
    refine rn_istore dX10_isFilled_12 (by decide) [(0, .ref o0_), (1, .int x1_), (2, .int x2_), (3, .int x3_), (4, .int (1 : Int32))] rfl ?_
    refine rn_iconst (v := (1 : Int32)) dX10_isFilled_14 (by decide) ?_
    refine rn_istore dX10_isFilled_15 (by decide) [(0, .ref o0_), (1, .int x1_), (2, .int x2_), (3, .int x3_), (4, .int (1 : Int32)), (5, .int (1 : Int32))] rfl ?_
    have LP33 : ∀ (n : Nat) (x31 : Int32) (x32 : Int32), Rg (0) (1) x31 → Rg (1) (1480) x32 → (1480 - x32.toInt).toNat = n → Rn G mX10_isFilled 0 0 0 0 17 [(0, .ref o0_), (1, .int x1_), (2, .int x2_), (3, .int x3_), (4, .int x31), (5, .int x32)] [] ws (q_t_X10_isFilled G S ws ) := by
      intro n
      induction n using Nat.strongRecOn with
      | _ n ih =>
        intro x31 x32 r35 r36 hm37
        refine rn_iload dX10_isFilled_17 rfl ?_
        refine rn_iload_n (i := 3) dX10_isFilled_19 rfl rfl ?_
        refine rn_icmp_gt (tgt := 63) dX10_isFilled_20 (by decide) (fun h38 => ?_) (fun h38 => ?_)
        · have ch38 := cv_lt h38
          refine rn_iload dX10_isFilled_63 rfl ?_
          exact rn_iret dX10_isFilled_65 rfl (nb_n r35) (rq_in ⟨rfl, x31, rfl, r35⟩)
        · have ch38 := cv_nlt h38
          have r39 : Rg (1) (255) x32 := rf_lex ch38 r36 r3_ (by decide)
          have r40 : Rg (1) (255) x3_ := rf_ley ch38 r36 r3_ (by decide)
          refine rn_iload dX10_isFilled_23 rfl ?_
          refine rn_if_eq (tgt := 63) dX10_isFilled_25 (by decide) (fun h41 => ?_) (fun h41 => ?_)
          · have ch41 := cv_eq h41
            have r42 : Rg (0) (0) x31 := rf_eqx ch41 r35 rk_0 (by decide) (by decide)
            refine rn_iload dX10_isFilled_63 rfl ?_
            exact rn_iret dX10_isFilled_65 rfl (nb_n (rg_w r42 (by decide) (by decide))) (rq_in ⟨rfl, x31, rfl, (rg_w r42 (by decide) (by decide))⟩)
          · have ch41 := cv_ne h41
            have r43 : Rg (1) (1) x31 := rf_nel ch41 r35 rk_0 (by decide) (by decide)
            refine rn_aload_n (i := 0) dX10_isFilled_28 rfl rfl ?_
            obtain ⟨q44, fs44, hq44, hl44, hf44⟩ := ts_obj hW m0_ hk_30
            obtain ⟨o45, hx45, m45⟩ := fs_r hf44 2 rfl
            refine rn_get q44 kg_SGModel_7 hl44 hx45 dX10_isFilled_29 ?_
            refine rn_iload_n (i := 1) dX10_isFilled_32 rfl rfl ?_
            refine rn_iload_n (i := 2) dX10_isFilled_33 rfl rfl ?_
            refine rs_addR (6604) (8647) r1_ r2_ dX10_isFilled_34 (by decide) (fun v46 ev46 rv46 => ?_)
            refine rn_iconst (v := (2 : Int32)) dX10_isFilled_35 (by decide) ?_
            refine rs_subC (6602) (8645) rv46 rk_2 dX10_isFilled_36 (by decide) (fun v47 ev47 rv47 => ?_)
            refine rn_iload_n (i := 3) dX10_isFilled_37 rfl rfl ?_
            refine rs_subR (6347) (8644) rv47 r40 dX10_isFilled_38 (by decide) (fun v48 ev48 rv48 => ?_)
            refine rn_iload dX10_isFilled_39 rfl ?_
            refine rs_addR (6348) (8899) rv48 r39 dX10_isFilled_41 (by decide) (fun v49 ev49 rv49 => ?_)
            refine rn_iconst (v := (1 : Int32)) dX10_isFilled_42 (by decide) ?_
            refine rs_subC (6347) (8898) rv49 rk_1 dX10_isFilled_43 (by decide) (fun v50 ev50 rv50 => ?_)
            obtain ⟨q51, f51, hq51, hl51, hf51⟩ := ts_ia hW m45 hk_33
            refine rs_iald q51 hl51 hf51 rfl rv50 (by decide) (by decide) dX10_isFilled_44 (fun v52 ev52 rv52 => ?_)
            refine rn_iload dX10_isFilled_45 rfl ?_
            refine rn_icmp_ne (tgt := 54) dX10_isFilled_47 (by decide) (fun h53 => ?_) (fun h53 => ?_)
            · have ch53 := cv_ne h53
              refine rn_iconst (v := (0 : Int32)) dX10_isFilled_54 (by decide) ?_
              refine rn_istore dX10_isFilled_55 (by decide) [(0, .ref o0_), (1, .int x1_), (2, .int x2_), (3, .int x3_), (4, .int (0 : Int32)), (5, .int x32)] rfl ?_
              refine rs_iinc (2) (256) dX10_isFilled_57 rfl (by decide) r39 rk_1 (by decide) (fun v54 => [(0, .ref o0_), (1, .int x1_), (2, .int x2_), (3, .int x3_), (4, .int (0 : Int32)), (5, .int v54)]) (fun _ => rfl) (fun v54 ev54 rv54 => ?_)
              refine rn_goto (tgt := 17) dX10_isFilled_60 (by decide) ?_
              refine rn_lv [(0, .ref o0_), (1, .int x1_), (2, .int x2_), (3, .int x3_), (4, .int (0 : Int32)), (5, .int v54)] rfl ?_
              exact ih _ (lp_inc hm37 ev54 rv54 (by decide)) (0 : Int32) v54 (rg_w rk_0 (by decide) (by decide)) (rg_w rv54 (by decide) (by decide)) rfl
            · have ch53 := cv_eq h53
              have r55 : Rg (1) (255) v52 := rf_eqx ch53 rv52 r39 (by decide) (by decide)
              refine rn_iconst (v := (1 : Int32)) dX10_isFilled_50 (by decide) ?_
              refine rn_goto (tgt := 55) dX10_isFilled_51 (by decide) ?_
              refine rn_istore dX10_isFilled_55 (by decide) [(0, .ref o0_), (1, .int x1_), (2, .int x2_), (3, .int x3_), (4, .int (1 : Int32)), (5, .int x32)] rfl ?_
              refine rs_iinc (2) (256) dX10_isFilled_57 rfl (by decide) r39 rk_1 (by decide) (fun v56 => [(0, .ref o0_), (1, .int x1_), (2, .int x2_), (3, .int x3_), (4, .int (1 : Int32)), (5, .int v56)]) (fun _ => rfl) (fun v56 ev56 rv56 => ?_)
              refine rn_goto (tgt := 17) dX10_isFilled_60 (by decide) ?_
              refine rn_lv [(0, .ref o0_), (1, .int x1_), (2, .int x2_), (3, .int x3_), (4, .int (1 : Int32)), (5, .int v56)] rfl ?_
              exact ih _ (lp_inc hm37 ev56 rv56 (by decide)) (1 : Int32) v56 (rg_w rk_1 (by decide) (by decide)) (rg_w rv56 (by decide) (by decide)) rfl
    exact LP33 _ (1 : Int32) (1 : Int32) (rg_w rk_1 (by decide) (by decide)) (rg_w rk_1 (by decide) (by decide)) rfl
abbrev q_t_X10_hop_2200 (G : rn_G) (S : ts_S) (ws : va_W) : rn_R → va_W → Prop := rQ (fun v w => St G S [33] ws S w ∧ (v = none ∧ (bsame (2208) (2212) ws w))) (fun E w => False)
set_option maxRecDepth 20000 in
set_option maxHeartbeats 4000000 in
theorem t_X10_hop_2200 (G : rn_G) (S : ts_S) (ws : va_W) (hW : ts_W G S ws) (o0_ : Nat) (m0_ : (o0_, 30) ∈ S) (hh_ : 1 ≤ (byt ws 2208).toInt) : Rn G mX10_hop 3 66 0 0 0 (lv_args 0 [.ref o0_, .int (2200 : Int32)]) [] ws (q_t_X10_hop_2200 G S ws ) := by
  have hS0 : St G S [33] ws S ws := St.rf hW
  obtain ⟨ob1, hob1⟩ := hS0.1.2.1.2
  have bs0 : bsame (2208) (2212) ws ws := bs_rf
  refine rn_lv [(0, .ref o0_), (1, .int (2200 : Int32))] rfl ?_
  refine rn_aload_n (i := 0) dX10_hop_0 rfl rfl ?_
  obtain ⟨q2, fs2, hq2, hl2, hf2⟩ := ts_obj hS0.1 m0_ hk_30
  obtain ⟨o3, hx3, m3⟩ := fs_r hf2 2 rfl
  refine rn_get q2 kg_SGModel_7 hl2 hx3 dX10_hop_1 ?_
  refine rn_iload_n (i := 1) dX10_hop_4 rfl rfl ?_
  refine rn_bipush (v := (8 : Int32)) dX10_hop_5 (by decide) ?_
  refine rn_iadd dX10_hop_7 (rn_topi (2208 : Int32) (by decide) ?_)
  refine rn_dup2_11 dX10_hop_8 rfl rfl ?_
  obtain ⟨q5, f5, hq5, hl5, hf5⟩ := ts_ia hS0.1 m3 hk_33
  refine rs_iald q5 hl5 hf5 rfl rk_2208 (by decide) (by decide) dX10_hop_9 (fun v6 ev6 rv6 => ?_)
  have hbv6 : byt ws 2208 = v6 := by rw [byt_of hS0.1 hq5 hl5, ev6]; exact congrArg _ (by decide)
  rw [hbv6] at hh_
  have r7 : Rg (1) (255) v6 := ⟨hh_, rv6.2⟩
  refine rn_iconst (v := (1 : Int32)) dX10_hop_10 (by decide) ?_
  refine rs_subC (0) (254) r7 rk_1 dX10_hop_11 (by decide) (fun v8 ev8 rv8 => ?_)
  refine rs_iast q5 hS0 hq5 hl5 hf5 hk_33 rfl rfl rk_2208 (by decide) (by decide) (rg_w rv8 (by decide) (by decide)) dX10_hop_12 (fun w9 f10 hS10 hl10 hf10 hu10 hn10 => ?_)
  have bs11 := bs_st bs0 hS0.1 hS10.1 hq5 hl5 hl10 hu10 (by have := rk_2208.1; have := rk_2208.2; omega) (by constructor <;> (have := rk_2208.1; have := rk_2208.2; omega))
  refine rn_aload_n (i := 0) dX10_hop_13 rfl rfl ?_
  refine rn_iload_n (i := 1) dX10_hop_14 rfl rfl ?_
  refine rn_callV (a := 0) (b := 0) [.int (2200 : Int32)] kl_SGModel_184 dX10_hop_15 q2 ((hn10 _ (ts_ne hq5 hq2 rfl)).trans hl2) rfl (t_X10_setSum G S w9 hS10.1 o0_ m0_ (2200 : Int32) (rg_w rk_2200 (by decide) (by decide))) rfl rfl (Nat.le_of_ble_eq_true rfl) (Nat.le_of_ble_eq_true rfl) (Nat.le_of_ble_eq_true rfl) (Nat.le_of_ble_eq_true rfl) (Nat.le_of_ble_eq_true rfl) (Nat.le_of_ble_eq_true rfl) (fun _ _ h => False.elim h) (fun v9 w12 h13 => ?_)
  obtain ⟨hT14, rfl, xah13⟩ := h13
  have hS14 := St.tr hS10 hT14 rfl
  have bs15 := bs_tr bs11 xah13 (by have := rk_2200.1; have := rk_2200.2; omega) (by have := rk_2200.1; have := rk_2200.2; omega)
  refine rn_stk [] rfl ?_
  exact rn_vret dX10_hop_18 rfl (rq_in ⟨hS14, rfl, bs15⟩)
abbrev q_t_X10_send_2200 (G : rn_G) (S : ts_S) (ws : va_W) : rn_R → va_W → Prop := rQ (fun v w => St G S [30, 33, 65] ws S w ∧ (∃ x : Int32, v = some (.int x) ∧ Rg (0) (0) x ∧ fK1 4 S ws w)) (fun E w => False)
set_option maxRecDepth 20000 in
set_option maxHeartbeats 4000000 in
theorem t_X10_send_2200 (G : rn_G) (S : ts_S) (ws : va_W) (hW : ts_W G S ws) (o0_ : Nat) (m0_ : (o0_, 30) ∈ S) (x2_ : Int32) (hw2202_ : 0 ≤ tw (byt ws) 2202 ∧ tw (byt ws) 2202 ≤ 2047) : Rn G mX10_send 3 66 0 0 0 (lv_args 0 [.ref o0_, .int (2200 : Int32), .int x2_]) [] ws (q_t_X10_send_2200 G S ws ) := by
  have hS0 : St G S [30, 33, 65] ws S ws := St.rf hW
  have fk0 : fK1 4 S ws ws := fun v h => h
  obtain ⟨ob1, hob1⟩ := hS0.1.2.1.2
  obtain ⟨T2, ht2⟩ : ∃ t : Int, tw (byt ws) 2202 = t := ⟨_, rfl⟩
  rw [ht2] at hw2202_
  refine rn_lv [(0, .ref o0_), (1, .int (2200 : Int32)), (2, .int x2_)] rfl ?_
  refine rn_aload_n (i := 0) dX10_send_0 rfl rfl ?_
  refine rn_iload_n (i := 1) dX10_send_1 rfl rfl ?_
  obtain ⟨q3, fs3, hq3, hl3, hf3⟩ := ts_obj hS0.1 m0_ hk_30
  refine rn_inV (d' := 1) (z' := 21) [.int (2200 : Int32)] kl_SGModel_165 dX10_send_2 q3 hl3 rfl rfl rfl (Nat.le_of_ble_eq_true rfl) (Nat.le_of_ble_eq_true rfl) (Nat.le_of_ble_eq_true rfl) (Nat.le_of_ble_eq_true rfl) ?_
  refine rn_lv [(0, .ref o0_), (1, .int (2200 : Int32))] rfl ?_
  refine rn_aload_n (i := 0) dX10_lengthOf_0 rfl rfl ?_
  refine rn_iload_n (i := 1) dX10_lengthOf_1 rfl rfl ?_
  refine rn_iconst (v := (2 : Int32)) dX10_lengthOf_2 (by decide) ?_
  refine rn_iadd dX10_lengthOf_3 (rn_topi (2202 : Int32) (by decide) ?_)
  refine rn_callV (a := 0) (b := 0) [.int (2202 : Int32)] kl_SGModel_140 dX10_lengthOf_4 q3 hl3 rfl (t_X10_two G S ws hS0.1 o0_ m0_ (2202 : Int32) (rg_w rk_2202 (by decide) (by decide))) rfl rfl (Nat.le_of_ble_eq_true rfl) (Nat.le_of_ble_eq_true rfl) (Nat.le_of_ble_eq_true rfl) (Nat.le_of_ble_eq_true rfl) (Nat.le_of_ble_eq_true rfl) (Nat.le_of_ble_eq_true rfl) (fun _ _ h => False.elim h) (fun v9 w5 h6 => ?_)
  obtain ⟨rfl, v7, rfl, rv7, xah6⟩ := h6
  have ev7 : v7.toInt = T2 := (xah6 2202 (by decide)).trans ht2
  have r9 : Rg (0) (2047) v7 := ⟨by have := rv7.1; have := rv7.2; omega, by have := rv7.1; have := rv7.2; omega⟩
  refine rn_stk [.int v7] rfl ?_
  refine rn_iret dX10_lengthOf_7 rfl rfl (rq_in ?_)
  refine rn_stk [.int v7] rfl ?_
  refine rn_istore_n dX10_send_5 rfl (by decide) [(0, .ref o0_), (1, .int (2200 : Int32)), (2, .int x2_), (3, .int v7)] rfl ?_
  refine rn_aload_n (i := 0) dX10_send_6 rfl rfl ?_
  refine rn_iload_n (i := 2) dX10_send_7 rfl rfl ?_
  refine rs_put q3 (kp_SGModel_92 _) hS0 hq3 hl3 hf3 hk_30 rfl rfl (tv_i (rg_any x2_)) rfl rfl dX10_send_8 (fun w10 fs11 hS11 hl11 hf11 hx11 ho11 hn11 => ?_)
  have fk12 : fK1 4 S ws w10 := fk_put fk0 hS0.1 hq3 hl3 hl11 ho11 (by decide)
  have ht13 := tw_eq (byt_ne hn11 (ts_ne hq3 hob1 rfl)) ht2
  refine rn_aload_n (i := 0) dX10_send_11 rfl rfl ?_
  obtain ⟨o14, hx14, m14⟩ := fs_r hf11 34 rfl
  refine rn_get q3 kg_SGModel_89 hl11 hx14 dX10_send_12 ?_
  refine rn_iconst (v := (1 : Int32)) dX10_send_15 (by decide) ?_
  refine rn_iconst (v := (0 : Int32)) dX10_send_16 (by decide) ?_
  obtain ⟨q15, f15, hq15, hl15, hf15⟩ := ts_ia hS11.1 m14 hk_65
  refine rs_iast q15 hS11 hq15 hl15 hf15 hk_65 rfl rfl rk_1 (by decide) (by decide) (rg_w rk_0 (by decide) (by decide)) dX10_send_17 (fun w16 f17 hS17 hl17 hf17 hu17 hn17 => ?_)
  have fk18 : fK1 4 S ws w16 := fk_ne fk12 hn17 hq15 rfl
  have ht19 := tw_eq (byt_ne hn17 (ts_ne hq15 hob1 rfl)) ht13
  refine rn_iload_n (i := 3) dX10_send_18 rfl rfl ?_
  refine rn_sipush (v := (1500 : Int32)) dX10_send_19 (by decide) ?_
  refine rn_icmp_gt (tgt := 43) dX10_send_22 (by decide) (fun h20 => ?_) (fun h20 => ?_)
  · have ch20 := cv_lt h20
    have r21 : Rg (1501) (2047) v7 := rf_lty ch20 rk_1500 r9 (by decide)
    refine rn_aload_n (i := 0) dX10_send_43 rfl rfl ?_
    refine rn_iload_n (i := 1) dX10_send_44 rfl rfl ?_
    refine rn_callV (a := 0) (b := 0) [.int (2200 : Int32)] kl_SGModel_155 dX10_send_45 q3 ((hn17 _ (ts_ne hq15 hq3 rfl)).trans hl11) rfl (t_X10_hasMore G S w16 hS17.1 o0_ m0_ (2200 : Int32) (rg_w rk_2200 (by decide) (by decide))) rfl rfl (Nat.le_of_ble_eq_true rfl) (Nat.le_of_ble_eq_true rfl) (Nat.le_of_ble_eq_true rfl) (Nat.le_of_ble_eq_true rfl) (Nat.le_of_ble_eq_true rfl) (Nat.le_of_ble_eq_true rfl) (fun _ _ h => False.elim h) (fun v9 w22 h23 => ?_)
    obtain ⟨rfl, v24, rfl, rv24⟩ := h23
    refine rn_stk [.int v24] rfl ?_
    refine rn_istore dX10_send_48 (by decide) [(0, .ref o0_), (1, .int (2200 : Int32)), (2, .int x2_), (3, .int v7), (4, .int v24)] rfl ?_
    refine rn_aload_n (i := 0) dX10_send_50 rfl rfl ?_
    refine rn_iload_n (i := 1) dX10_send_51 rfl rfl ?_
    refine rn_inV (d' := 1) (z' := 21) [.int (2200 : Int32)] kl_SGModel_159 dX10_send_52 q3 ((hn17 _ (ts_ne hq15 hq3 rfl)).trans hl11) rfl rfl rfl (Nat.le_of_ble_eq_true rfl) (Nat.le_of_ble_eq_true rfl) (Nat.le_of_ble_eq_true rfl) (Nat.le_of_ble_eq_true rfl) ?_
    refine rn_lv [(0, .ref o0_), (1, .int (2200 : Int32))] rfl ?_
    refine rn_aload_n (i := 0) dX10_offsetOf_0 rfl rfl ?_
    refine rn_iload_n (i := 1) dX10_offsetOf_1 rfl rfl ?_
    refine rn_bipush (v := (6 : Int32)) dX10_offsetOf_2 (by decide) ?_
    refine rn_iadd dX10_offsetOf_4 (rn_topi (2206 : Int32) (by decide) ?_)
    refine rn_callV (a := 0) (b := 0) [.int (2206 : Int32)] kl_SGModel_140 dX10_offsetOf_5 q3 ((hn17 _ (ts_ne hq15 hq3 rfl)).trans hl11) rfl (t_X10_two G S w16 hS17.1 o0_ m0_ (2206 : Int32) (rg_w rk_2206 (by decide) (by decide))) rfl rfl (Nat.le_of_ble_eq_true rfl) (Nat.le_of_ble_eq_true rfl) (Nat.le_of_ble_eq_true rfl) (Nat.le_of_ble_eq_true rfl) (Nat.le_of_ble_eq_true rfl) (Nat.le_of_ble_eq_true rfl) (fun _ _ h => False.elim h) (fun v9 w27 h28 => ?_)
    obtain ⟨rfl, v29, rfl, rv29, xah28⟩ := h28
    obtain ⟨T31, ht31⟩ : ∃ t : Int, tw (byt w16) 2206 = t := ⟨_, rfl⟩
    have ev29 : v29.toInt = T31 := (xah28 2206 (by decide)).trans ht31
    refine rn_stk [.int v29] rfl ?_
    refine rn_sipush (v := (8191 : Int32)) dX10_offsetOf_8 (by decide) ?_
    refine rn_iand dX10_offsetOf_11 (rn_nmE (rg_mask (hi := 8191) 13 8192 rfl rv29 rk_8191 (by decide)) (fun v32 ev32 rv32 => ?_))
    have fv32 : v32.toInt = T31 % 8192 := ev32.trans (congrArg (fun z => z % ((8192 : Nat) : Int)) ev29)
    refine rn_iret dX10_offsetOf_12 rfl rfl (rq_in ?_)
    refine rn_stk [.int v32] rfl ?_
    refine rn_istore dX10_send_55 (by decide) [(0, .ref o0_), (1, .int (2200 : Int32)), (2, .int x2_), (3, .int v7), (4, .int v24), (5, .int v32)] rfl ?_
    refine rn_aload_n (i := 0) dX10_send_57 rfl rfl ?_
    refine rn_iload_n (i := 1) dX10_send_58 rfl rfl ?_
    refine rn_sipush (v := (8800 : Int32)) dX10_send_59 (by decide) ?_
    refine rn_sipush (v := (1500 : Int32)) dX10_send_62 (by decide) ?_
    refine rn_callV (a := 0) (b := 0) [.int (2200 : Int32), .int (8800 : Int32), .int (1500 : Int32)] kl_SGModel_235 dX10_send_65 q3 ((hn17 _ (ts_ne hq15 hq3 rfl)).trans hl11) rfl (t_X10_move G S w16 hS17.1 o0_ m0_ (2200 : Int32) (8800 : Int32) (1500 : Int32) ⟨by have := rk_1500.1; have := rk_1500.2; have := rk_8800.1; have := rk_8800.2; have := rk_2200.1; have := rk_2200.2; omega, by have := rk_1500.1; have := rk_1500.2; have := rk_8800.1; have := rk_8800.2; have := rk_2200.1; have := rk_2200.2; omega, by have := rk_1500.1; have := rk_1500.2; have := rk_8800.1; have := rk_8800.2; have := rk_2200.1; have := rk_2200.2; omega, by have := rk_1500.1; have := rk_1500.2; have := rk_8800.1; have := rk_8800.2; have := rk_2200.1; have := rk_2200.2; omega⟩) rfl rfl (Nat.le_of_ble_eq_true rfl) (Nat.le_of_ble_eq_true rfl) (Nat.le_of_ble_eq_true rfl) (Nat.le_of_ble_eq_true rfl) (Nat.le_of_ble_eq_true rfl) (Nat.le_of_ble_eq_true rfl) (fun _ _ h => False.elim h) (fun v9 w33 h34 => ?_)
    obtain ⟨hT35, rfl, xah34⟩ := h34
    have hS35 := St.tr hS17 hT35 rfl
    have ht36 := bsame.keep xah34.1 ht19 (by have := rk_1500.1; have := rk_1500.2; have := rk_8800.1; have := rk_8800.2; have := rk_2200.1; have := rk_2200.2; omega)
    have ht37 := bsame.keep xah34.1 ht31 (by have := rk_1500.1; have := rk_1500.2; have := rk_8800.1; have := rk_8800.2; have := rk_2200.1; have := rk_2200.2; omega)
    have fk38 : fK1 4 S ws w33 := fk_fr fk18 hT35 rfl
    refine rn_stk [] rfl ?_
    refine rn_aload_n (i := 0) dX10_send_68 rfl rfl ?_
    refine rn_sipush (v := (8802 : Int32)) dX10_send_69 (by decide) ?_
    refine rn_sipush (v := (1500 : Int32)) dX10_send_72 (by decide) ?_
    refine rn_callV (a := 0) (b := 0) [.int (8802 : Int32), .int (1500 : Int32)] kl_SGModel_144 dX10_send_75 q3 (hT35.fr hq3 rfl ((hn17 _ (ts_ne hq15 hq3 rfl)).trans hl11)) rfl (t_X10_putTwo G S w33 hS35.1 o0_ m0_ (8802 : Int32) (rg_w rk_8802 (by decide) (by decide)) (1500 : Int32)) rfl rfl (Nat.le_of_ble_eq_true rfl) (Nat.le_of_ble_eq_true rfl) (Nat.le_of_ble_eq_true rfl) (Nat.le_of_ble_eq_true rfl) (Nat.le_of_ble_eq_true rfl) (Nat.le_of_ble_eq_true rfl) (fun _ _ h => False.elim h) (fun v9 w39 h40 => ?_)
    obtain ⟨hT41, rfl, xah40⟩ := h40
    have hS41 := St.tr hS35 hT41 rfl
    have ht42 := bsame.keep xah40.1 ht36 (by have := rk_1500.1; have := rk_1500.2; have := rk_8802.1; have := rk_8802.2; omega)
    have ht43 := bsame.keep xah40.1 ht37 (by have := rk_1500.1; have := rk_1500.2; have := rk_8802.1; have := rk_8802.2; omega)
    have fk44 : fK1 4 S ws w39 := fk_fr fk38 hT41 rfl
    have ht45 : tw (byt w39) 8802 = (1500 : Int32).toInt := xah40.2 8802 (by decide) (by have := rk_1500.1; omega) (by have := rk_1500.2; omega)
    refine rn_stk [] rfl ?_
    refine rn_aload_n (i := 0) dX10_send_78 rfl rfl ?_
    refine rn_sipush (v := (8800 : Int32)) dX10_send_79 (by decide) ?_
    refine rn_iconst (v := (1 : Int32)) dX10_send_82 (by decide) ?_
    refine rn_iload dX10_send_83 rfl ?_
    refine rn_callV (a := 0) (b := 0) [.int (8800 : Int32), .int (1 : Int32), .int v32] kl_SGModel_239 dX10_send_85 q3 (hT41.fr hq3 rfl (hT35.fr hq3 rfl ((hn17 _ (ts_ne hq15 hq3 rfl)).trans hl11))) rfl (t_X10_setOffset G S w39 hS41.1 o0_ m0_ (8800 : Int32) (rg_w rk_8800 (by decide) (by decide)) (1 : Int32) (rg_w rk_1 (by decide) (by decide)) v32) rfl rfl (Nat.le_of_ble_eq_true rfl) (Nat.le_of_ble_eq_true rfl) (Nat.le_of_ble_eq_true rfl) (Nat.le_of_ble_eq_true rfl) (Nat.le_of_ble_eq_true rfl) (Nat.le_of_ble_eq_true rfl) (fun _ _ h => False.elim h) (fun v9 w46 h47 => ?_)
    obtain ⟨hT48, rfl, xah47⟩ := h47
    have hS48 := St.tr hS41 hT48 rfl
    have ht49 := bsame.keep xah47 ht42 (by have := rv32.1; have := rv32.2; have := rk_8191.1; have := rk_8191.2; have := rv29.1; have := rv29.2; have := rk_1.1; have := rk_1.2; have := rk_8800.1; have := rk_8800.2; omega)
    have ht50 := bsame.keep xah47 ht43 (by have := rv32.1; have := rv32.2; have := rk_8191.1; have := rk_8191.2; have := rv29.1; have := rv29.2; have := rk_1.1; have := rk_1.2; have := rk_8800.1; have := rk_8800.2; omega)
    have ht51 := bsame.keep xah47 ht45 (by have := rv32.1; have := rv32.2; have := rk_8191.1; have := rk_8191.2; have := rv29.1; have := rv29.2; have := rk_1.1; have := rk_1.2; have := rk_8800.1; have := rk_8800.2; omega)
    have fk52 : fK1 4 S ws w46 := fk_fr fk44 hT48 rfl
    refine rn_stk [] rfl ?_
    refine rn_aload_n (i := 0) dX10_send_88 rfl rfl ?_
    refine rn_sipush (v := (8800 : Int32)) dX10_send_89 (by decide) ?_
    refine rn_callV (a := 0) (b := 0) [.int (8800 : Int32)] kl_SGModel_184 dX10_send_92 q3 (hT48.fr hq3 rfl (hT41.fr hq3 rfl (hT35.fr hq3 rfl ((hn17 _ (ts_ne hq15 hq3 rfl)).trans hl11)))) rfl (t_X10_setSum G S w46 hS48.1 o0_ m0_ (8800 : Int32) (rg_w rk_8800 (by decide) (by decide))) rfl rfl (Nat.le_of_ble_eq_true rfl) (Nat.le_of_ble_eq_true rfl) (Nat.le_of_ble_eq_true rfl) (Nat.le_of_ble_eq_true rfl) (Nat.le_of_ble_eq_true rfl) (Nat.le_of_ble_eq_true rfl) (fun _ _ h => False.elim h) (fun v9 w53 h54 => ?_)
    obtain ⟨hT55, rfl, xah54⟩ := h54
    have hS55 := St.tr hS48 hT55 rfl
    have ht56 := bsame.keep xah54 ht49 (by have := rk_8800.1; have := rk_8800.2; omega)
    have ht57 := bsame.keep xah54 ht50 (by have := rk_8800.1; have := rk_8800.2; omega)
    have ht58 := bsame.keep xah54 ht51 (by have := rk_8800.1; have := rk_8800.2; omega)
    have fk59 : fK1 4 S ws w53 := fk_fr fk52 hT55 rfl
    refine rn_stk [] rfl ?_
    refine rn_aload_n (i := 0) dX10_send_95 rfl rfl ?_
    refine rn_get q3 kg_SGModel_89 (hT55.fr hq3 rfl (hT48.fr hq3 rfl (hT41.fr hq3 rfl (hT35.fr hq3 rfl ((hn17 _ (ts_ne hq15 hq3 rfl)).trans hl11))))) hx14 dX10_send_96 ?_
    refine rn_iconst (v := (0 : Int32)) dX10_send_99 (by decide) ?_
    refine rn_sipush (v := (1500 : Int32)) dX10_send_100 (by decide) ?_
    refine rs_iast q15 hS55 hq15 (hT55.fr hq15 rfl (hT48.fr hq15 rfl (hT41.fr hq15 rfl (hT35.fr hq15 rfl hl17)))) hf17 hk_65 rfl rfl rk_0 (by decide) (by decide) (rg_w rk_1500 (by decide) (by decide)) dX10_send_103 (fun w60 f61 hS61 hl61 hf61 hu61 hn61 => ?_)
    have fk62 : fK1 4 S ws w60 := fk_ne fk59 hn61 hq15 rfl
    have ht63 := tw_eq (byt_ne hn61 (ts_ne hq15 hob1 rfl)) ht56
    have ht64 := tw_eq (byt_ne hn61 (ts_ne hq15 hob1 rfl)) ht57
    have ht65 := tw_eq (byt_ne hn61 (ts_ne hq15 hob1 rfl)) ht58
    refine rn_sipush (v := (11000 : Int32)) dX10_send_104 (by decide) ?_
    refine rn_istore dX10_send_107 (by decide) [(0, .ref o0_), (1, .int (2200 : Int32)), (2, .int x2_), (3, .int v7), (4, .int v24), (5, .int v32), (6, .int (11000 : Int32))] rfl ?_
    refine rn_aload_n (i := 0) dX10_send_109 rfl rfl ?_
    refine rn_iload_n (i := 1) dX10_send_110 rfl rfl ?_
    refine rn_iload dX10_send_111 rfl ?_
    refine rn_bipush (v := (20 : Int32)) dX10_send_113 (by decide) ?_
    refine rn_callV (a := 0) (b := 0) [.int (2200 : Int32), .int (11000 : Int32), .int (20 : Int32)] kl_SGModel_235 dX10_send_115 q3 ((hn61 _ (ts_ne hq15 hq3 rfl)).trans (hT55.fr hq3 rfl (hT48.fr hq3 rfl (hT41.fr hq3 rfl (hT35.fr hq3 rfl ((hn17 _ (ts_ne hq15 hq3 rfl)).trans hl11)))))) rfl (t_X10_move G S w60 hS61.1 o0_ m0_ (2200 : Int32) (11000 : Int32) (20 : Int32) ⟨by have := rk_20.1; have := rk_20.2; have := rk_11000.1; have := rk_11000.2; have := rk_2200.1; have := rk_2200.2; omega, by have := rk_20.1; have := rk_20.2; have := rk_11000.1; have := rk_11000.2; have := rk_2200.1; have := rk_2200.2; omega, by have := rk_20.1; have := rk_20.2; have := rk_11000.1; have := rk_11000.2; have := rk_2200.1; have := rk_2200.2; omega, by have := rk_20.1; have := rk_20.2; have := rk_11000.1; have := rk_11000.2; have := rk_2200.1; have := rk_2200.2; omega⟩) rfl rfl (Nat.le_of_ble_eq_true rfl) (Nat.le_of_ble_eq_true rfl) (Nat.le_of_ble_eq_true rfl) (Nat.le_of_ble_eq_true rfl) (Nat.le_of_ble_eq_true rfl) (Nat.le_of_ble_eq_true rfl) (fun _ _ h => False.elim h) (fun v9 w66 h67 => ?_)
    obtain ⟨hT68, rfl, xah67⟩ := h67
    have hS68 := St.tr hS61 hT68 rfl
    have ht69 := bsame.keep xah67.1 ht63 (by have := rk_20.1; have := rk_20.2; have := rk_11000.1; have := rk_11000.2; have := rk_2200.1; have := rk_2200.2; omega)
    have ht70 := bsame.keep xah67.1 ht64 (by have := rk_20.1; have := rk_20.2; have := rk_11000.1; have := rk_11000.2; have := rk_2200.1; have := rk_2200.2; omega)
    have ht71 := bsame.keep xah67.1 ht65 (by have := rk_20.1; have := rk_20.2; have := rk_11000.1; have := rk_11000.2; have := rk_2200.1; have := rk_2200.2; omega)
    have fk72 : fK1 4 S ws w66 := fk_fr fk62 hT68 rfl
    refine rn_stk [] rfl ?_
    refine rn_aload_n (i := 0) dX10_send_118 rfl rfl ?_
    refine rn_iload_n (i := 1) dX10_send_119 rfl rfl ?_
    refine rn_sipush (v := (1500 : Int32)) dX10_send_120 (by decide) ?_
    refine rn_iadd dX10_send_123 (rn_topi (3700 : Int32) (by decide) ?_)
    refine rn_iload dX10_send_124 rfl ?_
    refine rn_bipush (v := (20 : Int32)) dX10_send_126 (by decide) ?_
    refine rn_iadd dX10_send_128 (rn_topi (11020 : Int32) (by decide) ?_)
    refine rn_iload_n (i := 3) dX10_send_129 rfl rfl ?_
    refine rn_sipush (v := (1500 : Int32)) dX10_send_130 (by decide) ?_
    refine rs_subC (1) (547) r21 rk_1500 dX10_send_133 (by decide) (fun v75 ev75 rv75 => ?_)
    refine rn_callV (a := 0) (b := 0) [.int (3700 : Int32), .int (11020 : Int32), .int v75] kl_SGModel_235 dX10_send_134 q3 (hT68.fr hq3 rfl ((hn61 _ (ts_ne hq15 hq3 rfl)).trans (hT55.fr hq3 rfl (hT48.fr hq3 rfl (hT41.fr hq3 rfl (hT35.fr hq3 rfl ((hn17 _ (ts_ne hq15 hq3 rfl)).trans hl11))))))) rfl (t_X10_move G S w66 hS68.1 o0_ m0_ (3700 : Int32) (11020 : Int32) v75 ⟨by have := rv75.1; have := rv75.2; have := rk_1500.1; have := rk_1500.2; have := r21.1; have := r21.2; have := rk_11020.1; have := rk_11020.2; have := rk_3700.1; have := rk_3700.2; omega, by have := rv75.1; have := rv75.2; have := rk_1500.1; have := rk_1500.2; have := r21.1; have := r21.2; have := rk_11020.1; have := rk_11020.2; have := rk_3700.1; have := rk_3700.2; omega, by have := rv75.1; have := rv75.2; have := rk_1500.1; have := rk_1500.2; have := r21.1; have := r21.2; have := rk_11020.1; have := rk_11020.2; have := rk_3700.1; have := rk_3700.2; omega, by have := rv75.1; have := rv75.2; have := rk_1500.1; have := rk_1500.2; have := r21.1; have := r21.2; have := rk_11020.1; have := rk_11020.2; have := rk_3700.1; have := rk_3700.2; omega⟩) rfl rfl (Nat.le_of_ble_eq_true rfl) (Nat.le_of_ble_eq_true rfl) (Nat.le_of_ble_eq_true rfl) (Nat.le_of_ble_eq_true rfl) (Nat.le_of_ble_eq_true rfl) (Nat.le_of_ble_eq_true rfl) (fun _ _ h => False.elim h) (fun v9 w76 h77 => ?_)
    obtain ⟨hT78, rfl, xah77⟩ := h77
    have hS78 := St.tr hS68 hT78 rfl
    have ht79 := bsame.keep xah77.1 ht69 (by have := rv75.1; have := rv75.2; have := rk_1500.1; have := rk_1500.2; have := r21.1; have := r21.2; have := rk_11020.1; have := rk_11020.2; have := rk_3700.1; have := rk_3700.2; omega)
    have ht80 := bsame.keep xah77.1 ht70 (by have := rv75.1; have := rv75.2; have := rk_1500.1; have := rk_1500.2; have := r21.1; have := r21.2; have := rk_11020.1; have := rk_11020.2; have := rk_3700.1; have := rk_3700.2; omega)
    have ht81 := bsame.keep xah77.1 ht71 (by have := rv75.1; have := rv75.2; have := rk_1500.1; have := rk_1500.2; have := r21.1; have := r21.2; have := rk_11020.1; have := rk_11020.2; have := rk_3700.1; have := rk_3700.2; omega)
    have fk82 : fK1 4 S ws w76 := fk_fr fk72 hT78 rfl
    refine rn_stk [] rfl ?_
    refine rn_aload_n (i := 0) dX10_send_137 rfl rfl ?_
    refine rn_iload dX10_send_138 rfl ?_
    refine rn_iconst (v := (2 : Int32)) dX10_send_140 (by decide) ?_
    refine rn_iadd dX10_send_141 (rn_topi (11002 : Int32) (by decide) ?_)
    refine rn_iload_n (i := 3) dX10_send_142 rfl rfl ?_
    refine rn_sipush (v := (1480 : Int32)) dX10_send_143 (by decide) ?_
    refine rs_subC (21) (567) r21 rk_1480 dX10_send_146 (by decide) (fun v84 ev84 rv84 => ?_)
    refine rn_callV (a := 0) (b := 0) [.int (11002 : Int32), .int v84] kl_SGModel_144 dX10_send_147 q3 (hT78.fr hq3 rfl (hT68.fr hq3 rfl ((hn61 _ (ts_ne hq15 hq3 rfl)).trans (hT55.fr hq3 rfl (hT48.fr hq3 rfl (hT41.fr hq3 rfl (hT35.fr hq3 rfl ((hn17 _ (ts_ne hq15 hq3 rfl)).trans hl11)))))))) rfl (t_X10_putTwo G S w76 hS78.1 o0_ m0_ (11002 : Int32) (rg_w rk_11002 (by decide) (by decide)) v84) rfl rfl (Nat.le_of_ble_eq_true rfl) (Nat.le_of_ble_eq_true rfl) (Nat.le_of_ble_eq_true rfl) (Nat.le_of_ble_eq_true rfl) (Nat.le_of_ble_eq_true rfl) (Nat.le_of_ble_eq_true rfl) (fun _ _ h => False.elim h) (fun v9 w85 h86 => ?_)
    obtain ⟨hT87, rfl, xah86⟩ := h86
    have hS87 := St.tr hS78 hT87 rfl
    have ht88 := bsame.keep xah86.1 ht79 (by have := rv84.1; have := rv84.2; have := rk_1480.1; have := rk_1480.2; have := r21.1; have := r21.2; have := rk_11002.1; have := rk_11002.2; omega)
    have ht89 := bsame.keep xah86.1 ht80 (by have := rv84.1; have := rv84.2; have := rk_1480.1; have := rk_1480.2; have := r21.1; have := r21.2; have := rk_11002.1; have := rk_11002.2; omega)
    have ht90 := bsame.keep xah86.1 ht81 (by have := rv84.1; have := rv84.2; have := rk_1480.1; have := rk_1480.2; have := r21.1; have := r21.2; have := rk_11002.1; have := rk_11002.2; omega)
    have fk91 : fK1 4 S ws w85 := fk_fr fk82 hT87 rfl
    have ht92 : tw (byt w85) 11002 = v84.toInt := xah86.2 11002 (by decide) (by have := rv84.1; omega) (by have := rv84.2; omega)
    refine rn_stk [] rfl ?_
    refine rn_aload_n (i := 0) dX10_send_150 rfl rfl ?_
    refine rn_iload dX10_send_151 rfl ?_
    refine rn_iload dX10_send_153 rfl ?_
    refine rn_iload dX10_send_155 rfl ?_
    refine rn_sipush (v := (185 : Int32)) dX10_send_157 (by decide) ?_
    refine rs_addC (185) (8376) rv32 rk_185 dX10_send_160 (by decide) (fun v93 ev93 rv93 => ?_)
    refine rn_callV (a := 0) (b := 0) [.int (11000 : Int32), .int v24, .int v93] kl_SGModel_239 dX10_send_161 q3 (hT87.fr hq3 rfl (hT78.fr hq3 rfl (hT68.fr hq3 rfl ((hn61 _ (ts_ne hq15 hq3 rfl)).trans (hT55.fr hq3 rfl (hT48.fr hq3 rfl (hT41.fr hq3 rfl (hT35.fr hq3 rfl ((hn17 _ (ts_ne hq15 hq3 rfl)).trans hl11))))))))) rfl (t_X10_setOffset G S w85 hS87.1 o0_ m0_ (11000 : Int32) (rg_w rk_11000 (by decide) (by decide)) v24 rv24 v93) rfl rfl (Nat.le_of_ble_eq_true rfl) (Nat.le_of_ble_eq_true rfl) (Nat.le_of_ble_eq_true rfl) (Nat.le_of_ble_eq_true rfl) (Nat.le_of_ble_eq_true rfl) (Nat.le_of_ble_eq_true rfl) (fun _ _ h => False.elim h) (fun v9 w94 h95 => ?_)
    obtain ⟨hT96, rfl, xah95⟩ := h95
    have hS96 := St.tr hS87 hT96 rfl
    have ht97 := bsame.keep xah95 ht88 (by have := rv93.1; have := rv93.2; have := rk_185.1; have := rk_185.2; have := rv32.1; have := rv32.2; have := rk_8191.1; have := rk_8191.2; have := rv29.1; have := rv29.2; have := rv24.1; have := rv24.2; have := rk_11000.1; have := rk_11000.2; omega)
    have ht98 := bsame.keep xah95 ht89 (by have := rv93.1; have := rv93.2; have := rk_185.1; have := rk_185.2; have := rv32.1; have := rv32.2; have := rk_8191.1; have := rk_8191.2; have := rv29.1; have := rv29.2; have := rv24.1; have := rv24.2; have := rk_11000.1; have := rk_11000.2; omega)
    have ht99 := bsame.keep xah95 ht90 (by have := rv93.1; have := rv93.2; have := rk_185.1; have := rk_185.2; have := rv32.1; have := rv32.2; have := rk_8191.1; have := rk_8191.2; have := rv29.1; have := rv29.2; have := rv24.1; have := rv24.2; have := rk_11000.1; have := rk_11000.2; omega)
    have ht100 := bsame.keep xah95 ht92 (by have := rv93.1; have := rv93.2; have := rk_185.1; have := rk_185.2; have := rv32.1; have := rv32.2; have := rk_8191.1; have := rk_8191.2; have := rv29.1; have := rv29.2; have := rv24.1; have := rv24.2; have := rk_11000.1; have := rk_11000.2; omega)
    have fk101 : fK1 4 S ws w94 := fk_fr fk91 hT96 rfl
    refine rn_stk [] rfl ?_
    refine rn_aload_n (i := 0) dX10_send_164 rfl rfl ?_
    refine rn_iload dX10_send_165 rfl ?_
    refine rn_callV (a := 0) (b := 0) [.int (11000 : Int32)] kl_SGModel_184 dX10_send_167 q3 (hT96.fr hq3 rfl (hT87.fr hq3 rfl (hT78.fr hq3 rfl (hT68.fr hq3 rfl ((hn61 _ (ts_ne hq15 hq3 rfl)).trans (hT55.fr hq3 rfl (hT48.fr hq3 rfl (hT41.fr hq3 rfl (hT35.fr hq3 rfl ((hn17 _ (ts_ne hq15 hq3 rfl)).trans hl11)))))))))) rfl (t_X10_setSum G S w94 hS96.1 o0_ m0_ (11000 : Int32) (rg_w rk_11000 (by decide) (by decide))) rfl rfl (Nat.le_of_ble_eq_true rfl) (Nat.le_of_ble_eq_true rfl) (Nat.le_of_ble_eq_true rfl) (Nat.le_of_ble_eq_true rfl) (Nat.le_of_ble_eq_true rfl) (Nat.le_of_ble_eq_true rfl) (fun _ _ h => False.elim h) (fun v9 w102 h103 => ?_)
    obtain ⟨hT104, rfl, xah103⟩ := h103
    have hS104 := St.tr hS96 hT104 rfl
    have ht105 := bsame.keep xah103 ht97 (by have := rk_11000.1; have := rk_11000.2; omega)
    have ht106 := bsame.keep xah103 ht98 (by have := rk_11000.1; have := rk_11000.2; omega)
    have ht107 := bsame.keep xah103 ht99 (by have := rk_11000.1; have := rk_11000.2; omega)
    have ht108 := bsame.keep xah103 ht100 (by have := rk_11000.1; have := rk_11000.2; omega)
    have fk109 : fK1 4 S ws w102 := fk_fr fk101 hT104 rfl
    refine rn_stk [] rfl ?_
    refine rn_aload_n (i := 0) dX10_send_170 rfl rfl ?_
    refine rn_get q3 kg_SGModel_89 (hT104.fr hq3 rfl (hT96.fr hq3 rfl (hT87.fr hq3 rfl (hT78.fr hq3 rfl (hT68.fr hq3 rfl ((hn61 _ (ts_ne hq15 hq3 rfl)).trans (hT55.fr hq3 rfl (hT48.fr hq3 rfl (hT41.fr hq3 rfl (hT35.fr hq3 rfl ((hn17 _ (ts_ne hq15 hq3 rfl)).trans hl11))))))))))) hx14 dX10_send_171 ?_
    refine rn_iconst (v := (1 : Int32)) dX10_send_174 (by decide) ?_
    refine rn_iload_n (i := 3) dX10_send_175 rfl rfl ?_
    refine rn_sipush (v := (1480 : Int32)) dX10_send_176 (by decide) ?_
    refine rs_subC (21) (567) r21 rk_1480 dX10_send_179 (by decide) (fun v110 ev110 rv110 => ?_)
    refine rs_iast q15 hS104 hq15 (hT104.fr hq15 rfl (hT96.fr hq15 rfl (hT87.fr hq15 rfl (hT78.fr hq15 rfl (hT68.fr hq15 rfl hl61))))) hf61 hk_65 rfl rfl rk_1 (by decide) (by decide) (rg_w rv110 (by decide) (by decide)) dX10_send_180 (fun w111 f112 hS112 hl112 hf112 hu112 hn112 => ?_)
    have fk113 : fK1 4 S ws w111 := fk_ne fk109 hn112 hq15 rfl
    have ht114 := tw_eq (byt_ne hn112 (ts_ne hq15 hob1 rfl)) ht105
    have ht115 := tw_eq (byt_ne hn112 (ts_ne hq15 hob1 rfl)) ht106
    have ht116 := tw_eq (byt_ne hn112 (ts_ne hq15 hob1 rfl)) ht107
    have ht117 := tw_eq (byt_ne hn112 (ts_ne hq15 hob1 rfl)) ht108
    refine rn_iconst (v := (0 : Int32)) dX10_send_181 (by decide) ?_
    exact rn_iret dX10_send_182 rfl rfl (rq_in ⟨hS112, (0 : Int32), rfl, rk_0, fk113⟩)
  · have ch20 := cv_nlt h20
    have r118 : Rg (0) (1500) v7 := rf_lex ch20 r9 rk_1500 (by decide)
    refine rn_aload_n (i := 0) dX10_send_25 rfl rfl ?_
    refine rn_iload_n (i := 1) dX10_send_26 rfl rfl ?_
    refine rn_sipush (v := (8800 : Int32)) dX10_send_27 (by decide) ?_
    refine rn_iload_n (i := 3) dX10_send_30 rfl rfl ?_
    refine rn_callV (a := 0) (b := 0) [.int (2200 : Int32), .int (8800 : Int32), .int v7] kl_SGModel_235 dX10_send_31 q3 ((hn17 _ (ts_ne hq15 hq3 rfl)).trans hl11) rfl (t_X10_move G S w16 hS17.1 o0_ m0_ (2200 : Int32) (8800 : Int32) v7 ⟨by have := r118.1; have := r118.2; have := rk_8800.1; have := rk_8800.2; have := rk_2200.1; have := rk_2200.2; omega, by have := r118.1; have := r118.2; have := rk_8800.1; have := rk_8800.2; have := rk_2200.1; have := rk_2200.2; omega, by have := r118.1; have := r118.2; have := rk_8800.1; have := rk_8800.2; have := rk_2200.1; have := rk_2200.2; omega, by have := r118.1; have := r118.2; have := rk_8800.1; have := rk_8800.2; have := rk_2200.1; have := rk_2200.2; omega⟩) rfl rfl (Nat.le_of_ble_eq_true rfl) (Nat.le_of_ble_eq_true rfl) (Nat.le_of_ble_eq_true rfl) (Nat.le_of_ble_eq_true rfl) (Nat.le_of_ble_eq_true rfl) (Nat.le_of_ble_eq_true rfl) (fun _ _ h => False.elim h) (fun v9 w119 h120 => ?_)
    obtain ⟨hT121, rfl, xah120⟩ := h120
    have hS121 := St.tr hS17 hT121 rfl
    have ht122 := bsame.keep xah120.1 ht19 (by have := r118.1; have := r118.2; have := rk_8800.1; have := rk_8800.2; have := rk_2200.1; have := rk_2200.2; omega)
    have fk123 : fK1 4 S ws w119 := fk_fr fk18 hT121 rfl
    refine rn_stk [] rfl ?_
    refine rn_aload_n (i := 0) dX10_send_34 rfl rfl ?_
    refine rn_get q3 kg_SGModel_89 (hT121.fr hq3 rfl ((hn17 _ (ts_ne hq15 hq3 rfl)).trans hl11)) hx14 dX10_send_35 ?_
    refine rn_iconst (v := (0 : Int32)) dX10_send_38 (by decide) ?_
    refine rn_iload_n (i := 3) dX10_send_39 rfl rfl ?_
    refine rs_iast q15 hS121 hq15 (hT121.fr hq15 rfl hl17) hf17 hk_65 rfl rfl rk_0 (by decide) (by decide) r118 dX10_send_40 (fun w124 f125 hS125 hl125 hf125 hu125 hn125 => ?_)
    have fk126 : fK1 4 S ws w124 := fk_ne fk123 hn125 hq15 rfl
    have ht127 := tw_eq (byt_ne hn125 (ts_ne hq15 hob1 rfl)) ht122
    refine rn_iconst (v := (0 : Int32)) dX10_send_41 (by decide) ?_
    exact rn_iret dX10_send_42 rfl rfl (rq_in ⟨hS125, (0 : Int32), rfl, rk_0, fk126⟩)
abbrev q_t_X10_goIn_2200 (G : rn_G) (S : ts_S) (ws : va_W) : rn_R → va_W → Prop := rQ (fun v w => St G S [30, 33, 65] ws S w ∧ (∃ x : Int32, v = some (.int x) ∧ Rg (0) (6) x ∧ fK1 4 S ws w)) (fun E w => False)
set_option maxRecDepth 20000 in
set_option maxHeartbeats 4000000 in
theorem t_X10_goIn_2200 (G : rn_G) (S : ts_S) (ws : va_W) (hW : ts_W G S ws) (o0_ : Nat) (m0_ : (o0_, 30) ∈ S) (hw2202_ : 0 ≤ tw (byt ws) 2202 ∧ tw (byt ws) 2202 ≤ 2047) : Rn G mX10_goIn 4 92 0 0 0 (lv_args 0 [.ref o0_, .int (2200 : Int32)]) [] ws (q_t_X10_goIn_2200 G S ws ) := by
  have hS0 : St G S [30, 33, 65] ws S ws := St.rf hW
  have fk0 : fK1 4 S ws ws := fun v h => h
  obtain ⟨ob1, hob1⟩ := hS0.1.2.1.2
  obtain ⟨T2, ht2⟩ : ∃ t : Int, tw (byt ws) 2202 = t := ⟨_, rfl⟩
  rw [ht2] at hw2202_
  refine rn_lv [(0, .ref o0_), (1, .int (2200 : Int32))] rfl ?_
  refine rn_aload_n (i := 0) dX10_goIn_0 rfl rfl ?_
  obtain ⟨q3, fs3, hq3, hl3, hf3⟩ := ts_obj hS0.1 m0_ hk_30
  obtain ⟨o4, hx4, m4⟩ := fs_r hf3 2 rfl
  refine rn_get q3 kg_SGModel_7 hl3 hx4 dX10_goIn_1 ?_
  refine rn_iload_n (i := 1) dX10_goIn_4 rfl rfl ?_
  refine rn_bipush (v := (8 : Int32)) dX10_goIn_5 (by decide) ?_
  refine rn_iadd dX10_goIn_7 (rn_topi (2208 : Int32) (by decide) ?_)
  obtain ⟨q6, f6, hq6, hl6, hf6⟩ := ts_ia hS0.1 m4 hk_33
  refine rs_iald q6 hl6 hf6 rfl rk_2208 (by decide) (by decide) dX10_goIn_8 (fun v7 ev7 rv7 => ?_)
  have hbv7 : byt ws 2208 = v7 := by rw [byt_of hS0.1 hq6 hl6, ev7]; exact congrArg _ (by decide)
  refine rn_iconst (v := (2 : Int32)) dX10_goIn_9 (by decide) ?_
  refine rn_icmp_ge (tgt := 15) dX10_goIn_10 (by decide) (fun h8 => ?_) (fun h8 => ?_)
  · have ch8 := cv_le h8
    have r9 : Rg (2) (255) v7 := rf_ley ch8 rk_2 rv7 (by decide)
    refine rn_aload_n (i := 0) dX10_goIn_15 rfl rfl ?_
    refine rn_aload_n (i := 0) dX10_goIn_16 rfl rfl ?_
    refine rn_iload_n (i := 1) dX10_goIn_17 rfl rfl ?_
    refine rn_bipush (v := (16 : Int32)) dX10_goIn_18 (by decide) ?_
    refine rn_iadd dX10_goIn_20 (rn_topi (2216 : Int32) (by decide) ?_)
    refine rn_callV (a := 0) (b := 0) [.int (2216 : Int32)] kl_SGModel_218 dX10_goIn_21 q3 hl3 rfl (t_X10_four G S ws hS0.1 o0_ m0_ (2216 : Int32) (rg_w rk_2216 (by decide) (by decide))) rfl rfl (Nat.le_of_ble_eq_true rfl) (Nat.le_of_ble_eq_true rfl) (Nat.le_of_ble_eq_true rfl) (Nat.le_of_ble_eq_true rfl) (Nat.le_of_ble_eq_true rfl) (Nat.le_of_ble_eq_true rfl) (fun _ _ h => False.elim h) (fun v9 w11 h12 => ?_)
    obtain ⟨rfl, v13, rfl, rv13⟩ := h12
    refine rn_stk [.int v13, .ref o0_] rfl ?_
    refine rn_callV (a := 0) (b := 0) [.int v13] kl_SGModel_232 dX10_goIn_24 q3 hl3 rfl (t_X10_routeOf G S ws hS0.1 o0_ m0_ v13) rfl rfl (Nat.le_of_ble_eq_true rfl) (Nat.le_of_ble_eq_true rfl) (Nat.le_of_ble_eq_true rfl) (Nat.le_of_ble_eq_true rfl) (Nat.le_of_ble_eq_true rfl) (Nat.le_of_ble_eq_true rfl) (fun _ _ h => False.elim h) (fun v9 w15 h16 => ?_)
    obtain ⟨rfl, v17, rfl, rv17, xah16⟩ := h16
    refine rn_stk [.int v17] rfl ?_
    refine rn_if_eq (tgt := 32) dX10_goIn_27 (by decide) (fun h19 => ?_) (fun h19 => ?_)
    · have ch19 := cv_eq h19
      have r20 : Rg (0) (0) v17 := rf_eqx ch19 rv17 rk_0 (by decide) (by decide)
      refine rn_aload_n (i := 0) dX10_goIn_32 rfl rfl ?_
      refine rn_aload_n (i := 0) dX10_goIn_33 rfl rfl ?_
      refine rn_iload_n (i := 1) dX10_goIn_34 rfl rfl ?_
      refine rn_inV (d' := 1) (z' := 21) [.int (2200 : Int32)] kl_SGModel_165 dX10_goIn_35 q3 hl3 rfl rfl rfl (Nat.le_of_ble_eq_true rfl) (Nat.le_of_ble_eq_true rfl) (Nat.le_of_ble_eq_true rfl) (Nat.le_of_ble_eq_true rfl) ?_
      refine rn_lv [(0, .ref o0_), (1, .int (2200 : Int32))] rfl ?_
      refine rn_aload_n (i := 0) dX10_lengthOf_0 rfl rfl ?_
      refine rn_iload_n (i := 1) dX10_lengthOf_1 rfl rfl ?_
      refine rn_iconst (v := (2 : Int32)) dX10_lengthOf_2 (by decide) ?_
      refine rn_iadd dX10_lengthOf_3 (rn_topi (2202 : Int32) (by decide) ?_)
      refine rn_callV (a := 0) (b := 0) [.int (2202 : Int32)] kl_SGModel_140 dX10_lengthOf_4 q3 hl3 rfl (t_X10_two G S ws hS0.1 o0_ m0_ (2202 : Int32) (rg_w rk_2202 (by decide) (by decide))) rfl rfl (Nat.le_of_ble_eq_true rfl) (Nat.le_of_ble_eq_true rfl) (Nat.le_of_ble_eq_true rfl) (Nat.le_of_ble_eq_true rfl) (Nat.le_of_ble_eq_true rfl) (Nat.le_of_ble_eq_true rfl) (fun _ _ h => False.elim h) (fun v9 w22 h23 => ?_)
      obtain ⟨rfl, v24, rfl, rv24, xah23⟩ := h23
      have ev24 : v24.toInt = T2 := (xah23 2202 (by decide)).trans ht2
      have r26 : Rg (0) (2047) v24 := ⟨by have := rv24.1; have := rv24.2; omega, by have := rv24.1; have := rv24.2; omega⟩
      refine rn_stk [.int v24] rfl ?_
      refine rn_iret dX10_lengthOf_7 rfl rfl (rq_in ?_)
      refine rn_stk [.int v24, .ref o0_] rfl ?_
      refine rn_aload_n (i := 0) dX10_goIn_38 rfl rfl ?_
      refine rn_iload_n (i := 1) dX10_goIn_39 rfl rfl ?_
      refine rn_callV (a := 0) (b := 0) [.int (2200 : Int32)] kl_SGModel_270 dX10_goIn_40 q3 hl3 rfl (t_X10_hasDont G S ws hS0.1 o0_ m0_ (2200 : Int32) (rg_w rk_2200 (by decide) (by decide))) rfl rfl (Nat.le_of_ble_eq_true rfl) (Nat.le_of_ble_eq_true rfl) (Nat.le_of_ble_eq_true rfl) (Nat.le_of_ble_eq_true rfl) (Nat.le_of_ble_eq_true rfl) (Nat.le_of_ble_eq_true rfl) (fun _ _ h => False.elim h) (fun v9 w27 h28 => ?_)
      obtain ⟨rfl, v29, rfl, rv29⟩ := h28
      refine rn_stk [.int v29, .int v24, .ref o0_] rfl ?_
      refine rn_callV (a := 0) (b := 0) [.int v24, .int v29] kl_SGModel_275 dX10_goIn_43 q3 hl3 rfl (t_X10_isTooMuch G S ws hS0.1 o0_ m0_ v24 v29 rv29) rfl rfl (Nat.le_of_ble_eq_true rfl) (Nat.le_of_ble_eq_true rfl) (Nat.le_of_ble_eq_true rfl) (Nat.le_of_ble_eq_true rfl) (Nat.le_of_ble_eq_true rfl) (Nat.le_of_ble_eq_true rfl) (fun _ _ h => False.elim h) (fun v9 w31 h32 => ?_)
      obtain ⟨rfl, v33, rfl, rv33⟩ := h32
      refine rn_stk [.int v33] rfl ?_
      refine rn_if_eq (tgt := 52) dX10_goIn_46 (by decide) (fun h35 => ?_) (fun h35 => ?_)
      · have ch35 := cv_eq h35
        have r36 : Rg (0) (0) v33 := rf_eqx ch35 rv33 rk_0 (by decide) (by decide)
        refine rn_aload_n (i := 0) dX10_goIn_52 rfl rfl ?_
        refine rn_iload_n (i := 1) dX10_goIn_53 rfl rfl ?_
        refine rn_callV (a := 0) (b := 0) [.int (2200 : Int32)] kl_SGModel_279 dX10_goIn_54 q3 hl3 rfl (t_X10_hop_2200 G S ws hS0.1 o0_ m0_ (by rw [hbv7]; have := r9.1; have := r9.2; omega)) rfl rfl (Nat.le_of_ble_eq_true rfl) (Nat.le_of_ble_eq_true rfl) (Nat.le_of_ble_eq_true rfl) (Nat.le_of_ble_eq_true rfl) (Nat.le_of_ble_eq_true rfl) (Nat.le_of_ble_eq_true rfl) (fun _ _ h => False.elim h) (fun v9 w37 h38 => ?_)
        obtain ⟨hT39, rfl, xah38⟩ := h38
        have hS39 := St.tr hS0 hT39 rfl
        have ht40 := bsame.keep xah38 ht2 (by have := rk_2200.1; have := rk_2200.2; omega)
        have fk41 : fK1 4 S ws w37 := fk_fr fk0 hT39 rfl
        refine rn_stk [] rfl ?_
        refine rn_aload_n (i := 0) dX10_goIn_57 rfl rfl ?_
        refine rn_iload_n (i := 1) dX10_goIn_58 rfl rfl ?_
        refine rn_iconst (v := (0 : Int32)) dX10_goIn_59 (by decide) ?_
        refine rn_callV (a := 0) (b := 0) [.int (2200 : Int32), .int (0 : Int32)] kl_SGModel_282 dX10_goIn_60 q3 (hT39.fr hq3 rfl hl3) rfl (t_X10_send_2200 G S w37 hS39.1 o0_ m0_ (0 : Int32) (by rw [ht40]; exact ⟨by omega, by omega⟩)) rfl rfl (Nat.le_of_ble_eq_true rfl) (Nat.le_of_ble_eq_true rfl) (Nat.le_of_ble_eq_true rfl) (Nat.le_of_ble_eq_true rfl) (Nat.le_of_ble_eq_true rfl) (Nat.le_of_ble_eq_true rfl) (fun _ _ h => False.elim h) (fun v9 w42 h43 => ?_)
        obtain ⟨hT45, v44, rfl, rv44, fkh43⟩ := h43
        have hS45 := St.tr hS39 hT45 rfl
        have fk46 : fK1 4 S ws w42 := fk_tr fk41 fkh43
        refine rn_stk [.int v44] rfl ?_
        exact rn_iret dX10_goIn_63 rfl rfl (rq_in ⟨hS45, v44, rfl, (rg_w rv44 (by decide) (by decide)), fk46⟩)
      · have ch35 := cv_ne h35
        have r47 : Rg (1) (1) v33 := rf_nel ch35 rv33 rk_0 (by decide) (by decide)
        refine rn_bipush (v := (6 : Int32)) dX10_goIn_49 (by decide) ?_
        exact rn_iret dX10_goIn_51 rfl rfl (rq_in ⟨hS0, (6 : Int32), rfl, (rg_w rk_6 (by decide) (by decide)), fk0⟩)
    · have ch19 := cv_ne h19
      refine rn_iconst (v := (3 : Int32)) dX10_goIn_30 (by decide) ?_
      exact rn_iret dX10_goIn_31 rfl rfl (rq_in ⟨hS0, (3 : Int32), rfl, (rg_w rk_3 (by decide) (by decide)), fk0⟩)
  · have ch8 := cv_nle h8
    have r48 : Rg (0) (1) v7 := rf_ltx ch8 rv7 rk_2 (by decide)
    refine rn_iconst (v := (2 : Int32)) dX10_goIn_13 (by decide) ?_
    exact rn_iret dX10_goIn_14 rfl rfl (rq_in ⟨hS0, (2 : Int32), rfl, (rg_w rk_2 (by decide) (by decide)), fk0⟩)
