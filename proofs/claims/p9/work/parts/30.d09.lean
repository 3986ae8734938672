abbrev q_t_X10_stream (G : rn_G) (S : ts_S) (ws : va_W) : rn_R → va_W → Prop := rQ (fun v w => St G S [33] ws S w ∧ (v = none)) (fun E w => False)
set_option maxRecDepth 20000 in
set_option maxHeartbeats 4000000 in
theorem t_X10_stream (G : rn_G) (S : ts_S) (ws : va_W) (hW : ts_W G S ws) (o0_ : Nat) (m0_ : (o0_, 30) ∈ S) (x1_ : Int32) (r1_ : Rg (0) (19000) x1_) (x2_ : Int32) (r2_ : Rg (0) (2047) x2_) (x3_ : Int32) (r3_ : Rg (0) (15) x3_) (y4_ : Int64) : Rn G mX10_stream 0 0 0 0 0 (lv_args 0 [.ref o0_, .int x1_, .int x2_, .int x3_, .long y4_]) [] ws (q_t_X10_stream G S ws ) := by
  have hS0 : St G S [33] ws S ws := St.rf hW
  refine rn_lv [(0, .ref o0_), (1, .int x1_), (2, .int x2_), (3, .int x3_), (4, .long y4_)] rfl ?_
  refine rn_aload_n (i := 0) dX10_stream_0 rfl rfl ?_
  obtain ⟨q1, fs1, hq1, hl1, hf1⟩ := ts_obj hS0.1 m0_ hk_30
  obtain ⟨o2, hx2, m2⟩ := fs_r hf1 26 rfl
  refine rn_get q1 kg_SGModel_66 hl1 hx2 dX10_stream_1 ?_
  refine rn_iload_n (i := 3) dX10_stream_4 rfl rfl ?_
  obtain ⟨q3, f3, hq3, hl3⟩ := ts_la hS0.1 m2 hk_57
  refine rs_lald q3 hl3 rfl r3_ (by decide) (by decide) dX10_stream_5 (fun v4 ev4 => ?_)
  refine rn_lload dX10_stream_6 rfl ?_
  refine rn_ldc2 (v := (-7046029254386353131 : Int64)) wd_1463 dX10_stream_8 ?_
  refine rn_lmul dX10_stream_11 (rn_nmL (fun l5 => ?_))
  refine rn_lxor dX10_stream_12 (rn_nmL (fun l6 => ?_))
  refine rn_lstore dX10_stream_13 (by decide) [(0, .ref o0_), (1, .int x1_), (2, .int x2_), (3, .int x3_), (4, .long y4_), (6, .long l6)] rfl ?_
  refine rn_iconst (v := (0 : Int32)) dX10_stream_15 (by decide) ?_
  refine rn_istore dX10_stream_16 (by decide) [(0, .ref o0_), (1, .int x1_), (2, .int x2_), (3, .int x3_), (4, .long y4_), (6, .long l6), (8, .int (0 : Int32))] rfl ?_
  have LP9 : ∀ (n : Nat) (w10 : va_W) (y7 : Int64) (x8 : Int32), St G S [33] ws S w10 → Rg (0) (2047) x8 → (2047 - x8.toInt).toNat = n → Rn G mX10_stream 0 0 0 0 18 [(0, .ref o0_), (1, .int x1_), (2, .int x2_), (3, .int x3_), (4, .long y4_), (6, .long y7), (8, .int x8)] [] w10 (q_t_X10_stream G S ws ) := by
    intro n
    induction n using Nat.strongRecOn with
    | _ n ih =>
      intro w10 y7 x8 hT11 r12 hm13
      refine rn_iload dX10_stream_18 rfl ?_
      refine rn_iload_n (i := 2) dX10_stream_20 rfl rfl ?_
      refine rn_icmp_ge (tgt := 67) dX10_stream_21 (by decide) (fun h14 => ?_) (fun h14 => ?_)
      · have ch14 := cv_le h14
        have hS15 := St.tr hS0 hT11 rfl
        exact rn_vret dX10_stream_67 rfl (rq_in ⟨hS15, rfl⟩)
      · have ch14 := cv_nle h14
        have r16 : Rg (0) (2046) x8 := rf_ltx ch14 r12 r2_ (by decide)
        have r17 : Rg (1) (2047) x2_ := rf_lty ch14 r12 r2_ (by decide)
        refine rn_lload dX10_stream_24 rfl ?_
        refine rn_ldc2 (v := (6364136223846793005 : Int64)) wd_1464 dX10_stream_26 ?_
        refine rn_lmul dX10_stream_29 (rn_nmL (fun l18 => ?_))
        refine rn_ldc2 (v := (1442695040888963407 : Int64)) wd_1465 dX10_stream_30 ?_
        refine rn_ladd dX10_stream_33 (rn_nmL (fun l19 => ?_))
        refine rn_lstore dX10_stream_34 (by decide) [(0, .ref o0_), (1, .int x1_), (2, .int x2_), (3, .int x3_), (4, .long y4_), (6, .long l19), (8, .int x8)] rfl ?_
        refine rn_aload_n (i := 0) dX10_stream_36 rfl rfl ?_
        obtain ⟨o20, hx20, m20⟩ := fs_r hf1 2 rfl
        refine rn_get q1 kg_SGModel_7 (hT11.fr hq1 rfl hl1) hx20 dX10_stream_37 ?_
        refine rn_iload_n (i := 1) dX10_stream_40 rfl rfl ?_
        refine rn_iload dX10_stream_41 rfl ?_
        refine rs_addR (0) (21046) r1_ r16 dX10_stream_43 (by decide) (fun v21 ev21 rv21 => ?_)
        refine rn_aload_n (i := 0) dX10_stream_44 rfl rfl ?_
        refine rn_get q1 kg_SGModel_7 (hT11.fr hq1 rfl hl1) hx20 dX10_stream_45 ?_
        refine rn_iload_n (i := 1) dX10_stream_48 rfl rfl ?_
        refine rn_iload dX10_stream_49 rfl ?_
        refine rs_addR (0) (21046) r1_ r16 dX10_stream_51 (by decide) (fun v22 ev22 rv22 => ?_)
        obtain ⟨q23, f23, hq23, hl23, hf23⟩ := ts_ia hT11.1 m20 hk_33
        refine rs_iald q23 hl23 hf23 rfl rv22 (by decide) (by decide) dX10_stream_52 (fun v24 ev24 rv24 => ?_)
        refine rn_lload dX10_stream_53 rfl ?_
        refine rn_bipush (v := (56 : Int32)) dX10_stream_55 (by decide) ?_
        refine rn_lushr dX10_stream_57 rfl ?_
        refine rn_l2i dX10_stream_58 rfl (rn_tn 0 255 (rg_u56 l19) (fun v25 rv25 => ?_))
        refine rn_ixor dX10_stream_59 (rn_tn 0 (255) (rg_xor 8 256 rfl rv24 rv25 (by decide)) (fun v26 rv26 => ?_))
        refine rs_iast q23 hT11 hq23 hl23 hf23 hk_33 rfl rfl rv21 (by decide) (by decide) rv26 dX10_stream_60 (fun w27 f28 hS28 hl28 hf28 hu28 hn28 => ?_)
        refine rs_iinc (1) (2047) dX10_stream_61 rfl (by decide) r16 rk_1 (by decide) (fun v29 => [(0, .ref o0_), (1, .int x1_), (2, .int x2_), (3, .int x3_), (4, .long y4_), (6, .long l19), (8, .int v29)]) (fun _ => rfl) (fun v29 ev29 rv29 => ?_)
        refine rn_goto (tgt := 18) dX10_stream_64 (by decide) ?_
        refine rn_lv [(0, .ref o0_), (1, .int x1_), (2, .int x2_), (3, .int x3_), (4, .long y4_), (6, .long l19), (8, .int v29)] rfl ?_
        exact ih _ (lp_inc hm13 ev29 rv29 (by decide)) w27 l19 v29 hS28 (rg_w rv29 (by decide) (by decide)) rfl
  exact LP9 _ ws l6 (0 : Int32) (St.rf hS0.1) (rg_w rk_0 (by decide) (by decide)) rfl
abbrev q_t_X10_stampOf (G : rn_G) (S : ts_S) (ws : va_W) : rn_R → va_W → Prop := rQ (fun v w => ws = w ∧ (∃ x : Int64, v = some (.long x))) (fun E w => False)
set_option maxRecDepth 20000 in
set_option maxHeartbeats 4000000 in
theorem t_X10_stampOf (G : rn_G) (S : ts_S) (ws : va_W) (hW : ts_W G S ws) (o0_ : Nat) (m0_ : (o0_, 30) ∈ S) (x1_ : Int32) (r1_ : Rg (0) (19000) x1_) (x2_ : Int32) (r2_ : Rg (0) (2055) x2_) (x3_ : Int32) (r3_ : Rg (0) (15) x3_) (y4_ : Int64) : Rn G mX10_stampOf 0 0 0 0 0 (lv_args 0 [.ref o0_, .int x1_, .int x2_, .int x3_, .long y4_]) [] ws (q_t_X10_stampOf G S ws ) := by
  refine rn_lv [(0, .ref o0_), (1, .int x1_), (2, .int x2_), (3, .int x3_), (4, .long y4_)] rfl ?_
  refine rn_aload_n (i := 0) dX10_stampOf_0 rfl rfl ?_
  obtain ⟨q1, fs1, hq1, hl1, hf1⟩ := ts_obj hW m0_ hk_30
  obtain ⟨o2, hx2, m2⟩ := fs_r hf1 27 rfl
  refine rn_get q1 kg_SGModel_70 hl1 hx2 dX10_stampOf_1 ?_
  refine rn_iload_n (i := 3) dX10_stampOf_4 rfl rfl ?_
  obtain ⟨q3, f3, hq3, hl3⟩ := ts_la hW m2 hk_58
  refine rs_lald q3 hl3 rfl r3_ (by decide) (by decide) dX10_stampOf_5 (fun v4 ev4 => ?_)
  refine rn_lstore dX10_stampOf_6 (by decide) [(0, .ref o0_), (1, .int x1_), (2, .int x2_), (3, .int x3_), (4, .long y4_), (6, .long v4)] rfl ?_
  refine rn_iconst (v := (0 : Int32)) dX10_stampOf_8 (by decide) ?_
  refine rn_istore dX10_stampOf_9 (by decide) [(0, .ref o0_), (1, .int x1_), (2, .int x2_), (3, .int x3_), (4, .long y4_), (6, .long v4), (8, .int (0 : Int32))] rfl ?_
  have LP7 : ∀ (n : Nat) (y5 : Int64) (x6 : Int32), Rg (0) (8191) x6 → (8191 - x6.toInt).toNat = n → Rn G mX10_stampOf 0 0 0 0 11 [(0, .ref o0_), (1, .int x1_), (2, .int x2_), (3, .int x3_), (4, .long y4_), (6, .long y5), (8, .int x6)] [] ws (q_t_X10_stampOf G S ws ) := by
    intro n
    induction n using Nat.strongRecOn with
    | _ n ih =>
      intro y5 x6 r9 hm10
      refine rn_iload dX10_stampOf_11 rfl ?_
      refine rn_iload_n (i := 2) dX10_stampOf_13 rfl rfl ?_
      refine rn_icmp_ge (tgt := 42) dX10_stampOf_14 (by decide) (fun h11 => ?_) (fun h11 => ?_)
      · have ch11 := cv_le h11
        refine rn_bipush (v := (56 : Int32)) dX10_stampOf_42 (by decide) ?_
        refine rn_istore dX10_stampOf_44 (by decide) [(0, .ref o0_), (1, .int x1_), (2, .int x2_), (3, .int x3_), (4, .long y4_), (6, .long y5), (8, .int (56 : Int32))] rfl ?_
        have LP14 : ∀ (n : Nat) (y12 : Int64) (x13 : Int32), Rg (24) (56) x13 → (x13.toInt - (24)).toNat = n → Rn G mX10_stampOf 0 0 0 0 46 [(0, .ref o0_), (1, .int x1_), (2, .int x2_), (3, .int x3_), (4, .long y4_), (6, .long y12), (8, .int x13)] [] ws (q_t_X10_stampOf G S ws ) := by
          intro n
          induction n using Nat.strongRecOn with
          | _ n ih =>
            intro y12 x13 r16 hm17
            refine rn_iload dX10_stampOf_46 rfl ?_
            refine rn_bipush (v := (32 : Int32)) dX10_stampOf_48 (by decide) ?_
            refine rn_icmp_lt (tgt := 86) dX10_stampOf_50 (by decide) (fun h18 => ?_) (fun h18 => ?_)
            · have ch18 := cv_lt h18
              have r19 : Rg (24) (31) x13 := rf_ltx ch18 r16 rk_32 (by decide)
              refine rn_lload dX10_stampOf_86 rfl ?_
              refine rn_lload dX10_stampOf_88 rfl ?_
              refine rn_bipush (v := (32 : Int32)) dX10_stampOf_90 (by decide) ?_
              refine rn_lushr dX10_stampOf_92 rfl (rn_nmL (fun l20 => ?_))
              refine rn_lxor dX10_stampOf_93 (rn_nmL (fun l21 => ?_))
              exact rn_lret dX10_stampOf_94 rfl (rq_in ⟨rfl, l21, rfl⟩)
            · have ch18 := cv_nlt h18
              have r22 : Rg (32) (56) x13 := rf_ley ch18 rk_32 r16 (by decide)
              refine rn_aload_n (i := 0) dX10_stampOf_53 rfl rfl ?_
              obtain ⟨o23, hx23, m23⟩ := fs_r hf1 28 rfl
              refine rn_get q1 kg_SGModel_73 hl1 hx23 dX10_stampOf_54 ?_
              refine rn_iload_n (i := 3) dX10_stampOf_57 rfl rfl ?_
              obtain ⟨q24, f24, hq24, hl24, hf24⟩ := ts_ia hW m23 hk_59
              refine rs_zald q24 hl24 hf24 rfl r3_ (by decide) (by decide) dX10_stampOf_58 (fun v25 ev25 rv25 => ?_)
              refine rn_if_eq (tgt := 86) dX10_stampOf_59 (by decide) (fun h26 => ?_) (fun h26 => ?_)
              · have ch26 := cv_eq h26
                have r27 : Rg (0) (0) v25 := rf_eqx ch26 rv25 rk_0 (by decide) (by decide)
                refine rn_lload dX10_stampOf_86 rfl ?_
                refine rn_lload dX10_stampOf_88 rfl ?_
                refine rn_bipush (v := (32 : Int32)) dX10_stampOf_90 (by decide) ?_
                refine rn_lushr dX10_stampOf_92 rfl (rn_nmL (fun l28 => ?_))
                refine rn_lxor dX10_stampOf_93 (rn_nmL (fun l29 => ?_))
                exact rn_lret dX10_stampOf_94 rfl (rq_in ⟨rfl, l29, rfl⟩)
              · have ch26 := cv_ne h26
                have r30 : Rg (1) (1) v25 := rf_nel ch26 rv25 rk_0 (by decide) (by decide)
                refine rn_lload dX10_stampOf_62 rfl ?_
                refine rn_lload dX10_stampOf_64 rfl ?_
                refine rn_iload dX10_stampOf_66 rfl ?_
                refine rn_lushr dX10_stampOf_68 rfl (rn_nmL (fun l31 => ?_))
                refine rn_ldc2 (v := (255 : Int64)) wd_1471 dX10_stampOf_69 ?_
                refine rn_land dX10_stampOf_72 (rn_nmL (fun l32 => ?_))
                refine rn_lxor dX10_stampOf_73 (rn_nmL (fun l33 => ?_))
                refine rn_ldc2 (v := (1099511628211 : Int64)) wd_1470 dX10_stampOf_74 ?_
                refine rn_lmul dX10_stampOf_77 (rn_nmL (fun l34 => ?_))
                refine rn_lstore dX10_stampOf_78 (by decide) [(0, .ref o0_), (1, .int x1_), (2, .int x2_), (3, .int x3_), (4, .long y4_), (6, .long l34), (8, .int x13)] rfl ?_
                refine rs_iinc (24) (48) dX10_stampOf_80 rfl (by decide) r22 rk_m8 (by decide) (fun v35 => [(0, .ref o0_), (1, .int x1_), (2, .int x2_), (3, .int x3_), (4, .long y4_), (6, .long l34), (8, .int v35)]) (fun _ => rfl) (fun v35 ev35 rv35 => ?_)
                refine rn_goto (tgt := 46) dX10_stampOf_83 (by decide) ?_
                refine rn_lv [(0, .ref o0_), (1, .int x1_), (2, .int x2_), (3, .int x3_), (4, .long y4_), (6, .long l34), (8, .int v35)] rfl ?_
                exact ih _ (lp_dec hm17 ev35 rv35 (by decide)) l34 v35 (rg_w rv35 (by decide) (by decide)) rfl
        exact LP14 _ y5 (56 : Int32) (rg_w rk_56 (by decide) (by decide)) rfl
      · have ch11 := cv_nle h11
        have r36 : Rg (0) (2054) x6 := rf_ltx ch11 r9 r2_ (by decide)
        have r37 : Rg (1) (2055) x2_ := rf_lty ch11 r9 r2_ (by decide)
        refine rn_lload dX10_stampOf_17 rfl ?_
        refine rn_aload_n (i := 0) dX10_stampOf_19 rfl rfl ?_
        obtain ⟨o38, hx38, m38⟩ := fs_r hf1 2 rfl
        refine rn_get q1 kg_SGModel_7 hl1 hx38 dX10_stampOf_20 ?_
        refine rn_iload_n (i := 1) dX10_stampOf_23 rfl rfl ?_
        refine rn_iload dX10_stampOf_24 rfl ?_
        refine rs_addR (0) (21054) r1_ r36 dX10_stampOf_26 (by decide) (fun v39 ev39 rv39 => ?_)
        obtain ⟨q40, f40, hq40, hl40, hf40⟩ := ts_ia hW m38 hk_33
        refine rs_iald q40 hl40 hf40 rfl rv39 (by decide) (by decide) dX10_stampOf_27 (fun v41 ev41 rv41 => ?_)
        refine rn_i2l dX10_stampOf_28 rfl (rn_nmL (fun l42 => ?_))
        refine rn_lxor dX10_stampOf_29 (rn_nmL (fun l43 => ?_))
        refine rn_ldc2 (v := (1099511628211 : Int64)) wd_1470 dX10_stampOf_30 ?_
        refine rn_lmul dX10_stampOf_33 (rn_nmL (fun l44 => ?_))
        refine rn_lstore dX10_stampOf_34 (by decide) [(0, .ref o0_), (1, .int x1_), (2, .int x2_), (3, .int x3_), (4, .long y4_), (6, .long l44), (8, .int x6)] rfl ?_
        refine rs_iinc (1) (2055) dX10_stampOf_36 rfl (by decide) r36 rk_1 (by decide) (fun v45 => [(0, .ref o0_), (1, .int x1_), (2, .int x2_), (3, .int x3_), (4, .long y4_), (6, .long l44), (8, .int v45)]) (fun _ => rfl) (fun v45 ev45 rv45 => ?_)
        refine rn_goto (tgt := 11) dX10_stampOf_39 (by decide) ?_
        refine rn_lv [(0, .ref o0_), (1, .int x1_), (2, .int x2_), (3, .int x3_), (4, .long y4_), (6, .long l44), (8, .int v45)] rfl ?_
        exact ih _ (lp_inc hm10 ev45 rv45 (by decide)) l44 v45 (rg_w rv45 (by decide) (by decide)) rfl
  exact LP7 _ v4 (0 : Int32) (rg_w rk_0 (by decide) (by decide)) rfl
abbrev q_t_X10_fillOf (G : rn_G) (S : ts_S) (ws : va_W) : rn_R → va_W → Prop := rQ (fun v w => ws = w ∧ (∃ x : Int32, v = some (.int x) ∧ Rg (0) (3) x)) (fun E w => False)
set_option maxRecDepth 20000 in
set_option maxHeartbeats 4000000 in
theorem t_X10_fillOf (G : rn_G) (S : ts_S) (ws : va_W) (hW : ts_W G S ws) (x0_ : Int32) (r0_ : Rg (0) (3000) x0_) : Rn G mX10_fillOf 0 0 0 0 0 (lv_args 0 [.int x0_]) [] ws (q_t_X10_fillOf G S ws ) := by
  refine rn_lv [(0, .int x0_)] rfl ?_
  refine rn_iconst (v := (4 : Int32)) dX10_fillOf_0 (by decide) ?_
  refine rn_iload_n (i := 0) dX10_fillOf_1 rfl rfl ?_
  refine rn_iconst (v := (2 : Int32)) dX10_fillOf_2 (by decide) ?_
  refine rs_addC (2) (3002) r0_ rk_2 dX10_fillOf_3 (by decide) (fun v1 ev1 rv1 => ?_)
  refine rn_iconst (v := (4 : Int32)) dX10_fillOf_4 (by decide) ?_
  refine rs_remC (3) rv1 rk_4 dX10_fillOf_5 (by decide) (fun v2 ev2 rv2 => ?_)
  refine rs_subR (1) (4) rk_4 rv2 dX10_fillOf_6 (by decide) (fun v3 ev3 rv3 => ?_)
  refine rn_iconst (v := (4 : Int32)) dX10_fillOf_7 (by decide) ?_
  refine rs_remC (3) rv3 rk_4 dX10_fillOf_8 (by decide) (fun v4 ev4 rv4 => ?_)
  exact rn_iret dX10_fillOf_9 rfl rfl (rq_in ⟨rfl, v4, rfl, rv4⟩)
abbrev q_t_X10_sealFor (G : rn_G) (S : ts_S) (ws : va_W) : rn_R → va_W → Prop := rQ (fun v w => ws = w ∧ (∃ x : Int32, v = some (.int x) ∧ Rg (-1) (15) x)) (fun E w => False)
set_option maxRecDepth 20000 in
set_option maxHeartbeats 4000000 in
theorem t_X10_sealFor (G : rn_G) (S : ts_S) (ws : va_W) (hW : ts_W G S ws) (o0_ : Nat) (m0_ : (o0_, 30) ∈ S) (x1_ : Int32) : Rn G mX10_sealFor 1 21 0 0 0 (lv_args 0 [.ref o0_, .int x1_]) [] ws (q_t_X10_sealFor G S ws ) := by
  refine rn_lv [(0, .ref o0_), (1, .int x1_)] rfl ?_
  refine rn_aload_n (i := 0) dX10_sealFor_0 rfl rfl ?_
  obtain ⟨q1, fs1, hq1, hl1, hf1⟩ := ts_obj hW m0_ hk_30
  obtain ⟨x2, hx2, rx2⟩ := fs_i hf1 22 rfl
  refine rn_get q1 kg_SGModel_200 hl1 hx2 dX10_sealFor_1 ?_
  refine rn_iconst (v := (1 : Int32)) dX10_sealFor_4 (by decide) ?_
  refine rs_subC (-1) (15) rx2 rk_1 dX10_sealFor_5 (by decide) (fun v3 ev3 rv3 => ?_)
  refine rn_istore_n dX10_sealFor_6 rfl (by decide) [(0, .ref o0_), (1, .int x1_), (2, .int v3)] rfl ?_
  have LP5 : ∀ (n : Nat) (x4 : Int32), Rg (-1) (15) x4 → (x4.toInt - (-1)).toNat = n → Rn G mX10_sealFor 1 21 0 0 7 [(0, .ref o0_), (1, .int x1_), (2, .int x4)] [] ws (q_t_X10_sealFor G S ws ) := by
    intro n
    induction n using Nat.strongRecOn with
    | _ n ih =>
      intro x4 r7 hm8
      refine rn_iload_n (i := 2) dX10_sealFor_7 rfl rfl ?_
      refine rn_if_lt (tgt := 76) dX10_sealFor_8 (by decide) (fun h9 => ?_) (fun h9 => ?_)
      · have ch9 := cv_lt h9
        have r10 : Rg (-1) (-1) x4 := rf_ltx ch9 r7 rk_0 (by decide)
        refine rn_iconst (v := (-1 : Int32)) dX10_sealFor_76 (by decide) ?_
        exact rn_iret dX10_sealFor_77 rfl rfl (rq_in ⟨rfl, (-1 : Int32), rfl, (rg_w rk_m1 (by decide) (by decide))⟩)
      · have ch9 := cv_nlt h9
        have r11 : Rg (0) (15) x4 := rf_ley ch9 rk_0 r7 (by decide)
        refine rn_aload_n (i := 0) dX10_sealFor_11 rfl rfl ?_
        obtain ⟨o12, hx12, m12⟩ := fs_r hf1 28 rfl
        refine rn_get q1 kg_SGModel_73 hl1 hx12 dX10_sealFor_12 ?_
        refine rn_iload_n (i := 2) dX10_sealFor_15 rfl rfl ?_
        obtain ⟨q13, f13, hq13, hl13, hf13⟩ := ts_ia hW m12 hk_59
        refine rs_zald q13 hl13 hf13 rfl r11 (by decide) (by decide) dX10_sealFor_16 (fun v14 ev14 rv14 => ?_)
        refine rn_if_eq (tgt := 26) dX10_sealFor_17 (by decide) (fun h15 => ?_) (fun h15 => ?_)
        · have ch15 := cv_eq h15
          have r16 : Rg (0) (0) v14 := rf_eqx ch15 rv14 rk_0 (by decide) (by decide)
          refine rn_ldc2 (v := (4294967295 : Int64)) wd_1355 dX10_sealFor_26 ?_
          refine rn_lstore_n dX10_sealFor_29 rfl (by decide) [(0, .ref o0_), (1, .int x1_), (2, .int x4), (3, .long (4294967295 : Int64))] rfl ?_
          refine rn_aload_n (i := 0) dX10_sealFor_30 rfl rfl ?_
          obtain ⟨o17, hx17, m17⟩ := fs_r hf1 23 rfl
          refine rn_get q1 kg_SGModel_57 hl1 hx17 dX10_sealFor_31 ?_
          refine rn_iload_n (i := 2) dX10_sealFor_34 rfl rfl ?_
          obtain ⟨q18, f18, hq18, hl18, hf18⟩ := ts_ia hW m17 hk_54
          refine rs_iald q18 hl18 hf18 rfl r11 (by decide) (by decide) dX10_sealFor_35 (fun v19 ev19 rv19 => ?_)
          refine rn_if_ne (tgt := 70) dX10_sealFor_36 (by decide) (fun h20 => ?_) (fun h20 => ?_)
          · have ch20 := cv_ne h20
            refine rs_iinc (-1) (14) dX10_sealFor_70 rfl (by decide) r11 rk_m1 (by decide) (fun v21 => [(0, .ref o0_), (1, .int x1_), (2, .int v21), (3, .long (4294967295 : Int64))]) (fun _ => rfl) (fun v21 ev21 rv21 => ?_)
            refine rn_goto (tgt := 7) dX10_sealFor_73 (by decide) ?_
            refine rn_lv [(0, .ref o0_), (1, .int x1_), (2, .int v21)] rfl ?_
            exact ih _ (lp_dec hm8 ev21 rv21 (by decide)) v21 (rg_w rv21 (by decide) (by decide)) rfl
          · have ch20 := cv_eq h20
            have r22 : Rg (0) (0) v19 := rf_eqx ch20 rv19 rk_0 (by decide) (by decide)
            refine rn_aload_n (i := 0) dX10_sealFor_39 rfl rfl ?_
            obtain ⟨o23, hx23, m23⟩ := fs_r hf1 24 rfl
            refine rn_get q1 kg_SGModel_60 hl1 hx23 dX10_sealFor_40 ?_
            refine rn_iload_n (i := 2) dX10_sealFor_43 rfl rfl ?_
            obtain ⟨q24, f24, hq24, hl24, hf24⟩ := ts_ia hW m23 hk_55
            refine rs_iald q24 hl24 hf24 rfl r11 (by decide) (by decide) dX10_sealFor_44 (fun v25 ev25 rv25 => ?_)
            refine rn_iload_n (i := 1) dX10_sealFor_45 rfl rfl ?_
            refine rn_icmp_ne (tgt := 70) dX10_sealFor_46 (by decide) (fun h26 => ?_) (fun h26 => ?_)
            · have ch26 := cv_ne h26
              refine rs_iinc (-1) (14) dX10_sealFor_70 rfl (by decide) r11 rk_m1 (by decide) (fun v27 => [(0, .ref o0_), (1, .int x1_), (2, .int v27), (3, .long (4294967295 : Int64))]) (fun _ => rfl) (fun v27 ev27 rv27 => ?_)
              refine rn_goto (tgt := 7) dX10_sealFor_73 (by decide) ?_
              refine rn_lv [(0, .ref o0_), (1, .int x1_), (2, .int v27)] rfl ?_
              exact ih _ (lp_dec hm8 ev27 rv27 (by decide)) v27 (rg_w rv27 (by decide) (by decide)) rfl
            · have ch26 := cv_eq h26
              have r28 : Rg (0) (3) x1_ := rf_eqy ch26 rv25 (rg_any x1_) (by decide) (by decide)
              refine rn_aload_n (i := 0) dX10_sealFor_49 rfl rfl ?_
              refine rn_iload_n (i := 2) dX10_sealFor_50 rfl rfl ?_
              refine rn_callV (a := 0) (b := 0) [.int x4] kl_SGModel_207 dX10_sealFor_51 q1 hl1 rfl (t_X10_isDead G S ws hW o0_ m0_ x4 r11) rfl rfl (Nat.le_of_ble_eq_true rfl) (Nat.le_of_ble_eq_true rfl) (Nat.le_of_ble_eq_true rfl) (Nat.le_of_ble_eq_true rfl) (Nat.le_of_ble_eq_true rfl) (Nat.le_of_ble_eq_true rfl) (fun _ _ h => False.elim h) (fun v9 w29 h30 => ?_)
              obtain ⟨rfl, v31, rfl, rv31⟩ := h30
              refine rn_stk [.int v31] rfl ?_
              refine rn_if_ne (tgt := 70) dX10_sealFor_54 (by decide) (fun h33 => ?_) (fun h33 => ?_)
              · have ch33 := cv_ne h33
                have r34 : Rg (1) (1) v31 := rf_nel ch33 rv31 rk_0 (by decide) (by decide)
                refine rs_iinc (-1) (14) dX10_sealFor_70 rfl (by decide) r11 rk_m1 (by decide) (fun v35 => [(0, .ref o0_), (1, .int x1_), (2, .int v35), (3, .long (4294967295 : Int64))]) (fun _ => rfl) (fun v35 ev35 rv35 => ?_)
                refine rn_goto (tgt := 7) dX10_sealFor_73 (by decide) ?_
                refine rn_lv [(0, .ref o0_), (1, .int x1_), (2, .int v35)] rfl ?_
                exact ih _ (lp_dec hm8 ev35 rv35 (by decide)) v35 (rg_w rv35 (by decide) (by decide)) rfl
              · have ch33 := cv_eq h33
                have r36 : Rg (0) (0) v31 := rf_eqx ch33 rv31 rk_0 (by decide) (by decide)
                refine rn_aload_n (i := 0) dX10_sealFor_57 rfl rfl ?_
                obtain ⟨o37, hx37, m37⟩ := fs_r hf1 31 rfl
                refine rn_get q1 kg_SGModel_83 hl1 hx37 dX10_sealFor_58 ?_
                refine rn_iload_n (i := 2) dX10_sealFor_61 rfl rfl ?_
                obtain ⟨q38, f38, hq38, hl38⟩ := ts_la hW m37 hk_62
                refine rs_lald q38 hl38 rfl r11 (by decide) (by decide) dX10_sealFor_62 (fun v39 ev39 => ?_)
                refine rn_lload_n (i := 3) dX10_sealFor_63 rfl rfl ?_
                refine rn_lcmp dX10_sealFor_64 (rn_tn (-1) 1 (rg_lcmp _ _) (fun v40 rv40 => ?_))
                refine rn_if_eq (tgt := 70) dX10_sealFor_65 (by decide) (fun h41 => ?_) (fun h41 => ?_)
                · have ch41 := cv_eq h41
                  have r42 : Rg (0) (0) v40 := rf_eqx ch41 rv40 rk_0 (by decide) (by decide)
                  refine rs_iinc (-1) (14) dX10_sealFor_70 rfl (by decide) r11 rk_m1 (by decide) (fun v43 => [(0, .ref o0_), (1, .int x1_), (2, .int v43), (3, .long (4294967295 : Int64))]) (fun _ => rfl) (fun v43 ev43 rv43 => ?_)
                  refine rn_goto (tgt := 7) dX10_sealFor_73 (by decide) ?_
                  refine rn_lv [(0, .ref o0_), (1, .int x1_), (2, .int v43)] rfl ?_
                  exact ih _ (lp_dec hm8 ev43 rv43 (by decide)) v43 (rg_w rv43 (by decide) (by decide)) rfl
                · have ch41 := cv_ne h41
                  refine rn_iload_n (i := 2) dX10_sealFor_68 rfl rfl ?_
                  exact rn_iret dX10_sealFor_69 rfl rfl (rq_in ⟨rfl, x4, rfl, (rg_w r11 (by decide) (by decide))⟩)
        · have ch15 := cv_ne h15
          have r44 : Rg (1) (1) v14 := rf_nel ch15 rv14 rk_0 (by decide) (by decide)
          refine rn_ldc2 (v := (9223372036854775807 : Int64)) wd_1451 dX10_sealFor_20 ?_
          refine rn_goto (tgt := 29) dX10_sealFor_23 (by decide) ?_
          refine rn_lstore_n dX10_sealFor_29 rfl (by decide) [(0, .ref o0_), (1, .int x1_), (2, .int x4), (3, .long (9223372036854775807 : Int64))] rfl ?_
          refine rn_aload_n (i := 0) dX10_sealFor_30 rfl rfl ?_
          obtain ⟨o45, hx45, m45⟩ := fs_r hf1 23 rfl
          refine rn_get q1 kg_SGModel_57 hl1 hx45 dX10_sealFor_31 ?_
          refine rn_iload_n (i := 2) dX10_sealFor_34 rfl rfl ?_
          obtain ⟨q46, f46, hq46, hl46, hf46⟩ := ts_ia hW m45 hk_54
          refine rs_iald q46 hl46 hf46 rfl r11 (by decide) (by decide) dX10_sealFor_35 (fun v47 ev47 rv47 => ?_)
          refine rn_if_ne (tgt := 70) dX10_sealFor_36 (by decide) (fun h48 => ?_) (fun h48 => ?_)
          · have ch48 := cv_ne h48
            refine rs_iinc (-1) (14) dX10_sealFor_70 rfl (by decide) r11 rk_m1 (by decide) (fun v49 => [(0, .ref o0_), (1, .int x1_), (2, .int v49), (3, .long (9223372036854775807 : Int64))]) (fun _ => rfl) (fun v49 ev49 rv49 => ?_)
            refine rn_goto (tgt := 7) dX10_sealFor_73 (by decide) ?_
            refine rn_lv [(0, .ref o0_), (1, .int x1_), (2, .int v49)] rfl ?_
            exact ih _ (lp_dec hm8 ev49 rv49 (by decide)) v49 (rg_w rv49 (by decide) (by decide)) rfl
          · have ch48 := cv_eq h48
            have r50 : Rg (0) (0) v47 := rf_eqx ch48 rv47 rk_0 (by decide) (by decide)
            refine rn_aload_n (i := 0) dX10_sealFor_39 rfl rfl ?_
            obtain ⟨o51, hx51, m51⟩ := fs_r hf1 24 rfl
            refine rn_get q1 kg_SGModel_60 hl1 hx51 dX10_sealFor_40 ?_
            refine rn_iload_n (i := 2) dX10_sealFor_43 rfl rfl ?_
            obtain ⟨q52, f52, hq52, hl52, hf52⟩ := ts_ia hW m51 hk_55
            refine rs_iald q52 hl52 hf52 rfl r11 (by decide) (by decide) dX10_sealFor_44 (fun v53 ev53 rv53 => ?_)
            refine rn_iload_n (i := 1) dX10_sealFor_45 rfl rfl ?_
            refine rn_icmp_ne (tgt := 70) dX10_sealFor_46 (by decide) (fun h54 => ?_) (fun h54 => ?_)
            · have ch54 := cv_ne h54
              refine rs_iinc (-1) (14) dX10_sealFor_70 rfl (by decide) r11 rk_m1 (by decide) (fun v55 => [(0, .ref o0_), (1, .int x1_), (2, .int v55), (3, .long (9223372036854775807 : Int64))]) (fun _ => rfl) (fun v55 ev55 rv55 => ?_)
              refine rn_goto (tgt := 7) dX10_sealFor_73 (by decide) ?_
              refine rn_lv [(0, .ref o0_), (1, .int x1_), (2, .int v55)] rfl ?_
              exact ih _ (lp_dec hm8 ev55 rv55 (by decide)) v55 (rg_w rv55 (by decide) (by decide)) rfl
            · have ch54 := cv_eq h54
              have r56 : Rg (0) (3) x1_ := rf_eqy ch54 rv53 (rg_any x1_) (by decide) (by decide)
              refine rn_aload_n (i := 0) dX10_sealFor_49 rfl rfl ?_
              refine rn_iload_n (i := 2) dX10_sealFor_50 rfl rfl ?_
              refine rn_callV (a := 0) (b := 0) [.int x4] kl_SGModel_207 dX10_sealFor_51 q1 hl1 rfl (t_X10_isDead G S ws hW o0_ m0_ x4 r11) rfl rfl (Nat.le_of_ble_eq_true rfl) (Nat.le_of_ble_eq_true rfl) (Nat.le_of_ble_eq_true rfl) (Nat.le_of_ble_eq_true rfl) (Nat.le_of_ble_eq_true rfl) (Nat.le_of_ble_eq_true rfl) (fun _ _ h => False.elim h) (fun v9 w57 h58 => ?_)
              obtain ⟨rfl, v59, rfl, rv59⟩ := h58
              refine rn_stk [.int v59] rfl ?_
              refine rn_if_ne (tgt := 70) dX10_sealFor_54 (by decide) (fun h61 => ?_) (fun h61 => ?_)
              · have ch61 := cv_ne h61
                have r62 : Rg (1) (1) v59 := rf_nel ch61 rv59 rk_0 (by decide) (by decide)
                refine rs_iinc (-1) (14) dX10_sealFor_70 rfl (by decide) r11 rk_m1 (by decide) (fun v63 => [(0, .ref o0_), (1, .int x1_), (2, .int v63), (3, .long (9223372036854775807 : Int64))]) (fun _ => rfl) (fun v63 ev63 rv63 => ?_)
                refine rn_goto (tgt := 7) dX10_sealFor_73 (by decide) ?_
                refine rn_lv [(0, .ref o0_), (1, .int x1_), (2, .int v63)] rfl ?_
                exact ih _ (lp_dec hm8 ev63 rv63 (by decide)) v63 (rg_w rv63 (by decide) (by decide)) rfl
              · have ch61 := cv_eq h61
                have r64 : Rg (0) (0) v59 := rf_eqx ch61 rv59 rk_0 (by decide) (by decide)
                refine rn_aload_n (i := 0) dX10_sealFor_57 rfl rfl ?_
                obtain ⟨o65, hx65, m65⟩ := fs_r hf1 31 rfl
                refine rn_get q1 kg_SGModel_83 hl1 hx65 dX10_sealFor_58 ?_
                refine rn_iload_n (i := 2) dX10_sealFor_61 rfl rfl ?_
                obtain ⟨q66, f66, hq66, hl66⟩ := ts_la hW m65 hk_62
                refine rs_lald q66 hl66 rfl r11 (by decide) (by decide) dX10_sealFor_62 (fun v67 ev67 => ?_)
                refine rn_lload_n (i := 3) dX10_sealFor_63 rfl rfl ?_
                refine rn_lcmp dX10_sealFor_64 (rn_tn (-1) 1 (rg_lcmp _ _) (fun v68 rv68 => ?_))
                refine rn_if_eq (tgt := 70) dX10_sealFor_65 (by decide) (fun h69 => ?_) (fun h69 => ?_)
                · have ch69 := cv_eq h69
                  have r70 : Rg (0) (0) v68 := rf_eqx ch69 rv68 rk_0 (by decide) (by decide)
                  refine rs_iinc (-1) (14) dX10_sealFor_70 rfl (by decide) r11 rk_m1 (by decide) (fun v71 => [(0, .ref o0_), (1, .int x1_), (2, .int v71), (3, .long (9223372036854775807 : Int64))]) (fun _ => rfl) (fun v71 ev71 rv71 => ?_)
                  refine rn_goto (tgt := 7) dX10_sealFor_73 (by decide) ?_
                  refine rn_lv [(0, .ref o0_), (1, .int x1_), (2, .int v71)] rfl ?_
                  exact ih _ (lp_dec hm8 ev71 rv71 (by decide)) v71 (rg_w rv71 (by decide) (by decide)) rfl
                · have ch69 := cv_ne h69
                  refine rn_iload_n (i := 2) dX10_sealFor_68 rfl rfl ?_
                  exact rn_iret dX10_sealFor_69 rfl rfl (rq_in ⟨rfl, x4, rfl, (rg_w r11 (by decide) (by decide))⟩)
  exact LP5 _ v3 rv3 rfl
abbrev q_t_X10_heapOf (G : rn_G) (S : ts_S) (ws : va_W) : rn_R → va_W → Prop := rQ (fun v w => ws = w ∧ (∃ x : Int32, v = some (.int x) ∧ Rg (-1) (3) x)) (fun E w => False)
set_option maxRecDepth 20000 in
set_option maxHeartbeats 4000000 in
theorem t_X10_heapOf (G : rn_G) (S : ts_S) (ws : va_W) (hW : ts_W G S ws) (o0_ : Nat) (m0_ : (o0_, 30) ∈ S) (x1_ : Int32) (x2_ : Int32) : Rn G mX10_heapOf 0 0 0 0 0 (lv_args 0 [.ref o0_, .int x1_, .int x2_]) [] ws (q_t_X10_heapOf G S ws ) := by
  refine rn_lv [(0, .ref o0_), (1, .int x1_), (2, .int x2_)] rfl ?_
  refine rn_iconst (v := (0 : Int32)) dX10_heapOf_0 (by decide) ?_
  refine rn_istore_n dX10_heapOf_1 rfl (by decide) [(0, .ref o0_), (1, .int x1_), (2, .int x2_), (3, .int (0 : Int32))] rfl ?_
  have LP2 : ∀ (n : Nat) (x1 : Int32), Rg (0) (4) x1 → (4 - x1.toInt).toNat = n → Rn G mX10_heapOf 0 0 0 0 2 [(0, .ref o0_), (1, .int x1_), (2, .int x2_), (3, .int x1)] [] ws (q_t_X10_heapOf G S ws ) := by
    intro n
    induction n using Nat.strongRecOn with
    | _ n ih =>
      intro x1 r4 hm5
      refine rn_iload_n (i := 3) dX10_heapOf_2 rfl rfl ?_
      refine rn_iconst (v := (4 : Int32)) dX10_heapOf_3 (by decide) ?_
      refine rn_icmp_ge (tgt := 44) dX10_heapOf_4 (by decide) (fun h6 => ?_) (fun h6 => ?_)
      · have ch6 := cv_le h6
        have r7 : Rg (4) (4) x1 := rf_ley ch6 rk_4 r4 (by decide)
        refine rn_iconst (v := (-1 : Int32)) dX10_heapOf_44 (by decide) ?_
        exact rn_iret dX10_heapOf_45 rfl rfl (rq_in ⟨rfl, (-1 : Int32), rfl, (rg_w rk_m1 (by decide) (by decide))⟩)
      · have ch6 := cv_nle h6
        have r8 : Rg (0) (3) x1 := rf_ltx ch6 r4 rk_4 (by decide)
        refine rn_aload_n (i := 0) dX10_heapOf_7 rfl rfl ?_
        obtain ⟨q9, fs9, hq9, hl9, hf9⟩ := ts_obj hW m0_ hk_30
        obtain ⟨o10, hx10, m10⟩ := fs_r hf9 36 rfl
        refine rn_get q9 kg_SGModel_95 hl9 hx10 dX10_heapOf_8 ?_
        refine rn_iload_n (i := 3) dX10_heapOf_11 rfl rfl ?_
        obtain ⟨q11, f11, hq11, hl11, hf11⟩ := ts_ia hW m10 hk_67
        refine rs_zald q11 hl11 hf11 rfl r8 (by decide) (by decide) dX10_heapOf_12 (fun v12 ev12 rv12 => ?_)
        refine rn_if_eq (tgt := 38) dX10_heapOf_13 (by decide) (fun h13 => ?_) (fun h13 => ?_)
        · have ch13 := cv_eq h13
          have r14 : Rg (0) (0) v12 := rf_eqx ch13 rv12 rk_0 (by decide) (by decide)
          refine rs_iinc (1) (4) dX10_heapOf_38 rfl (by decide) r8 rk_1 (by decide) (fun v15 => [(0, .ref o0_), (1, .int x1_), (2, .int x2_), (3, .int v15)]) (fun _ => rfl) (fun v15 ev15 rv15 => ?_)
          refine rn_goto (tgt := 2) dX10_heapOf_41 (by decide) ?_
          refine rn_lv [(0, .ref o0_), (1, .int x1_), (2, .int x2_), (3, .int v15)] rfl ?_
          exact ih _ (lp_inc hm5 ev15 rv15 (by decide)) v15 (rg_w rv15 (by decide) (by decide)) rfl
        · have ch13 := cv_ne h13
          have r16 : Rg (1) (1) v12 := rf_nel ch13 rv12 rk_0 (by decide) (by decide)
          refine rn_aload_n (i := 0) dX10_heapOf_16 rfl rfl ?_
          obtain ⟨o17, hx17, m17⟩ := fs_r hf9 37 rfl
          refine rn_get q9 kg_SGModel_98 hl9 hx17 dX10_heapOf_17 ?_
          refine rn_iload_n (i := 3) dX10_heapOf_20 rfl rfl ?_
          obtain ⟨q18, f18, hq18, hl18, hf18⟩ := ts_ia hW m17 hk_68
          refine rs_iald q18 hl18 hf18 rfl r8 (by decide) (by decide) dX10_heapOf_21 (fun v19 ev19 rv19 => ?_)
          refine rn_iload_n (i := 1) dX10_heapOf_22 rfl rfl ?_
          refine rn_icmp_ne (tgt := 38) dX10_heapOf_23 (by decide) (fun h20 => ?_) (fun h20 => ?_)
          · have ch20 := cv_ne h20
            refine rs_iinc (1) (4) dX10_heapOf_38 rfl (by decide) r8 rk_1 (by decide) (fun v21 => [(0, .ref o0_), (1, .int x1_), (2, .int x2_), (3, .int v21)]) (fun _ => rfl) (fun v21 ev21 rv21 => ?_)
            refine rn_goto (tgt := 2) dX10_heapOf_41 (by decide) ?_
            refine rn_lv [(0, .ref o0_), (1, .int x1_), (2, .int x2_), (3, .int v21)] rfl ?_
            exact ih _ (lp_inc hm5 ev21 rv21 (by decide)) v21 (rg_w rv21 (by decide) (by decide)) rfl
          · have ch20 := cv_eq h20
            refine rn_aload_n (i := 0) dX10_heapOf_26 rfl rfl ?_
            obtain ⟨o22, hx22, m22⟩ := fs_r hf9 38 rfl
            refine rn_get q9 kg_SGModel_101 hl9 hx22 dX10_heapOf_27 ?_
            refine rn_iload_n (i := 3) dX10_heapOf_30 rfl rfl ?_
            obtain ⟨q23, f23, hq23, hl23, hf23⟩ := ts_ia hW m22 hk_69
            refine rs_iald q23 hl23 hf23 rfl r8 (by decide) (by decide) dX10_heapOf_31 (fun v24 ev24 rv24 => ?_)
            refine rn_iload_n (i := 2) dX10_heapOf_32 rfl rfl ?_
            refine rn_icmp_ne (tgt := 38) dX10_heapOf_33 (by decide) (fun h25 => ?_) (fun h25 => ?_)
            · have ch25 := cv_ne h25
              refine rs_iinc (1) (4) dX10_heapOf_38 rfl (by decide) r8 rk_1 (by decide) (fun v26 => [(0, .ref o0_), (1, .int x1_), (2, .int x2_), (3, .int v26)]) (fun _ => rfl) (fun v26 ev26 rv26 => ?_)
              refine rn_goto (tgt := 2) dX10_heapOf_41 (by decide) ?_
              refine rn_lv [(0, .ref o0_), (1, .int x1_), (2, .int x2_), (3, .int v26)] rfl ?_
              exact ih _ (lp_inc hm5 ev26 rv26 (by decide)) v26 (rg_w rv26 (by decide) (by decide)) rfl
            · have ch25 := cv_eq h25
              refine rn_iload_n (i := 3) dX10_heapOf_36 rfl rfl ?_
              exact rn_iret dX10_heapOf_37 rfl rfl (rq_in ⟨rfl, x1, rfl, (rg_w r8 (by decide) (by decide))⟩)
  exact LP2 _ (0 : Int32) (rg_w rk_0 (by decide) (by decide)) rfl
abbrev q_t_X10_newHeap (G : rn_G) (S : ts_S) (ws : va_W) : rn_R → va_W → Prop := rQ (fun v w => St G S [30, 67, 68, 69, 70, 71, 72, 73] ws S w ∧ (∃ x : Int32, v = some (.int x) ∧ Rg (0) (3) x)) (fun E w => False)
set_option maxRecDepth 20000 in
set_option maxHeartbeats 4000000 in
theorem t_X10_newHeap (G : rn_G) (S : ts_S) (ws : va_W) (hW : ts_W G S ws) (o0_ : Nat) (m0_ : (o0_, 30) ∈ S) (x1_ : Int32) (x2_ : Int32) : Rn G mX10_newHeap 0 0 0 0 0 (lv_args 0 [.ref o0_, .int x1_, .int x2_]) [] ws (q_t_X10_newHeap G S ws ) := by
  have hS0 : St G S [30, 67, 68, 69, 70, 71, 72, 73] ws S ws := St.rf hW
  refine rn_lv [(0, .ref o0_), (1, .int x1_), (2, .int x2_)] rfl ?_
  refine rn_iconst (v := (0 : Int32)) dX10_newHeap_0 (by decide) ?_
  refine rn_istore_n dX10_newHeap_1 rfl (by decide) [(0, .ref o0_), (1, .int x1_), (2, .int x2_), (3, .int (0 : Int32))] rfl ?_
  refine rn_iconst (v := (3 : Int32)) dX10_newHeap_2 (by decide) ?_
  refine rn_istore dX10_newHeap_3 (by decide) [(0, .ref o0_), (1, .int x1_), (2, .int x2_), (3, .int (0 : Int32)), (4, .int (3 : Int32))] rfl ?_
  have LP3 : ∀ (n : Nat) (x1 : Int32) (x2 : Int32), Rg (0) (3) x1 → Rg (-1) (3) x2 → (x2.toInt - (-1)).toNat = n → Rn G mX10_newHeap 0 0 0 0 5 [(0, .ref o0_), (1, .int x1_), (2, .int x2_), (3, .int x1), (4, .int x2)] [] ws (q_t_X10_newHeap G S ws ) := by
    intro n
    induction n using Nat.strongRecOn with
    | _ n ih =>
      intro x1 x2 r5 r6 hm7
      refine rn_iload dX10_newHeap_5 rfl ?_
      refine rn_if_lt (tgt := 33) dX10_newHeap_7 (by decide) (fun h8 => ?_) (fun h8 => ?_)
      · have ch8 := cv_lt h8
        have r9 : Rg (-1) (-1) x2 := rf_ltx ch8 r6 rk_0 (by decide)
        refine rn_aload_n (i := 0) dX10_newHeap_33 rfl rfl ?_
        obtain ⟨q10, fs10, hq10, hl10, hf10⟩ := ts_obj hS0.1 m0_ hk_30
        obtain ⟨o11, hx11, m11⟩ := fs_r hf10 36 rfl
        refine rn_get q10 kg_SGModel_95 hl10 hx11 dX10_newHeap_34 ?_
        refine rn_iload_n (i := 3) dX10_newHeap_37 rfl rfl ?_
        obtain ⟨q12, f12, hq12, hl12, hf12⟩ := ts_ia hS0.1 m11 hk_67
        refine rs_zald q12 hl12 hf12 rfl r5 (by decide) (by decide) dX10_newHeap_38 (fun v13 ev13 rv13 => ?_)
        refine rn_if_eq (tgt := 80) dX10_newHeap_39 (by decide) (fun h14 => ?_) (fun h14 => ?_)
        · have ch14 := cv_eq h14
          have r15 : Rg (0) (0) v13 := rf_eqx ch14 rv13 rk_0 (by decide) (by decide)
          refine rn_aload_n (i := 0) dX10_newHeap_80 rfl rfl ?_
          refine rn_get q10 kg_SGModel_95 hl10 hx11 dX10_newHeap_81 ?_
          refine rn_iload_n (i := 3) dX10_newHeap_84 rfl rfl ?_
          refine rn_iconst (v := (1 : Int32)) dX10_newHeap_85 (by decide) ?_
          refine rs_zast q12 hS0 hq12 hl12 hf12 hk_67 rfl rfl r5 (by decide) (by decide) (by decide) (by decide) dX10_newHeap_86 (fun w16 f17 hS17 hl17 hf17 hu17 hn17 => ?_)
          refine rn_aload_n (i := 0) dX10_newHeap_87 rfl rfl ?_
          obtain ⟨o18, hx18, m18⟩ := fs_r hf10 37 rfl
          refine rn_get q10 kg_SGModel_98 ((hn17 _ (ts_ne hq12 hq10 rfl)).trans hl10) hx18 dX10_newHeap_88 ?_
          refine rn_iload_n (i := 3) dX10_newHeap_91 rfl rfl ?_
          refine rn_iload_n (i := 1) dX10_newHeap_92 rfl rfl ?_
          obtain ⟨q19, f19, hq19, hl19, hf19⟩ := ts_ia hS17.1 m18 hk_68
          refine rs_iast q19 hS17 hq19 hl19 hf19 hk_68 rfl rfl r5 (by decide) (by decide) (rg_any x1_) dX10_newHeap_93 (fun w20 f21 hS21 hl21 hf21 hu21 hn21 => ?_)
          refine rn_aload_n (i := 0) dX10_newHeap_94 rfl rfl ?_
          obtain ⟨o22, hx22, m22⟩ := fs_r hf10 38 rfl
          refine rn_get q10 kg_SGModel_101 ((hn21 _ (ts_ne hq19 hq10 rfl)).trans ((hn17 _ (ts_ne hq12 hq10 rfl)).trans hl10)) hx22 dX10_newHeap_95 ?_
          refine rn_iload_n (i := 3) dX10_newHeap_98 rfl rfl ?_
          refine rn_iload_n (i := 2) dX10_newHeap_99 rfl rfl ?_
          obtain ⟨q23, f23, hq23, hl23, hf23⟩ := ts_ia hS21.1 m22 hk_69
          refine rs_iast q23 hS21 hq23 hl23 hf23 hk_69 rfl rfl r5 (by decide) (by decide) (rg_any x2_) dX10_newHeap_100 (fun w24 f25 hS25 hl25 hf25 hu25 hn25 => ?_)
          refine rn_aload_n (i := 0) dX10_newHeap_101 rfl rfl ?_
          obtain ⟨o26, hx26, m26⟩ := fs_r hf10 39 rfl
          refine rn_get q10 kg_SGModel_104 ((hn25 _ (ts_ne hq23 hq10 rfl)).trans ((hn21 _ (ts_ne hq19 hq10 rfl)).trans ((hn17 _ (ts_ne hq12 hq10 rfl)).trans hl10))) hx26 dX10_newHeap_102 ?_
          refine rn_iload_n (i := 3) dX10_newHeap_105 rfl rfl ?_
          refine rn_iconst (v := (-1 : Int32)) dX10_newHeap_106 (by decide) ?_
          obtain ⟨q27, f27, hq27, hl27, hf27⟩ := ts_ia hS25.1 m26 hk_70
          refine rs_iast q27 hS25 hq27 hl27 hf27 hk_70 rfl rfl r5 (by decide) (by decide) (rg_w rk_m1 (by decide) (by decide)) dX10_newHeap_107 (fun w28 f29 hS29 hl29 hf29 hu29 hn29 => ?_)
          refine rn_aload_n (i := 0) dX10_newHeap_108 rfl rfl ?_
          obtain ⟨o30, hx30, m30⟩ := fs_r hf10 40 rfl
          refine rn_get q10 kg_SGModel_107 ((hn29 _ (ts_ne hq27 hq10 rfl)).trans ((hn25 _ (ts_ne hq23 hq10 rfl)).trans ((hn21 _ (ts_ne hq19 hq10 rfl)).trans ((hn17 _ (ts_ne hq12 hq10 rfl)).trans hl10)))) hx30 dX10_newHeap_109 ?_
          refine rn_iload_n (i := 3) dX10_newHeap_112 rfl rfl ?_
          refine rn_aload_n (i := 0) dX10_newHeap_113 rfl rfl ?_
          obtain ⟨x31, hx31, rx31⟩ := fs_i hf10 43 rfl
          refine rn_get q10 kg_SGModel_292 ((hn29 _ (ts_ne hq27 hq10 rfl)).trans ((hn25 _ (ts_ne hq23 hq10 rfl)).trans ((hn21 _ (ts_ne hq19 hq10 rfl)).trans ((hn17 _ (ts_ne hq12 hq10 rfl)).trans hl10)))) hx31 dX10_newHeap_114 ?_
          obtain ⟨q32, f32, hq32, hl32, hf32⟩ := ts_ia hS29.1 m30 hk_71
          refine rs_iast q32 hS29 hq32 hl32 hf32 hk_71 rfl rfl r5 (by decide) (by decide) rx31 dX10_newHeap_117 (fun w33 f34 hS34 hl34 hf34 hu34 hn34 => ?_)
          refine rn_aload_n (i := 0) dX10_newHeap_118 rfl rfl ?_
          refine rn_dup dX10_newHeap_119 rfl ?_
          refine rn_get q10 kg_SGModel_292 ((hn34 _ (ts_ne hq32 hq10 rfl)).trans ((hn29 _ (ts_ne hq27 hq10 rfl)).trans ((hn25 _ (ts_ne hq23 hq10 rfl)).trans ((hn21 _ (ts_ne hq19 hq10 rfl)).trans ((hn17 _ (ts_ne hq12 hq10 rfl)).trans hl10))))) hx31 dX10_newHeap_120 ?_
          refine rn_iconst (v := (1 : Int32)) dX10_newHeap_123 (by decide) ?_
          refine rn_iadd dX10_newHeap_124 (rn_nmA (fun v35 rv35 => ?_))
          refine rs_put q10 (kp_SGModel_292 _) hS34 hq10 ((hn34 _ (ts_ne hq32 hq10 rfl)).trans ((hn29 _ (ts_ne hq27 hq10 rfl)).trans ((hn25 _ (ts_ne hq23 hq10 rfl)).trans ((hn21 _ (ts_ne hq19 hq10 rfl)).trans ((hn17 _ (ts_ne hq12 hq10 rfl)).trans hl10))))) hf10 hk_30 rfl rfl (tv_i rv35) rfl rfl dX10_newHeap_125 (fun w36 fs37 hS37 hl37 hf37 hx37 ho37 hn37 => ?_)
          refine rn_aload_n (i := 0) dX10_newHeap_128 rfl rfl ?_
          obtain ⟨o38, hx38, m38⟩ := fs_r hf37 41 rfl
          refine rn_get q10 kg_SGModel_110 hl37 hx38 dX10_newHeap_129 ?_
          refine rn_iload_n (i := 3) dX10_newHeap_132 rfl rfl ?_
          refine rn_iconst (v := (0 : Int32)) dX10_newHeap_133 (by decide) ?_
          obtain ⟨q39, f39, hq39, hl39, hf39⟩ := ts_ia hS37.1 m38 hk_72
          refine rs_iast q39 hS37 hq39 hl39 hf39 hk_72 rfl rfl r5 (by decide) (by decide) (rg_w rk_0 (by decide) (by decide)) dX10_newHeap_134 (fun w40 f41 hS41 hl41 hf41 hu41 hn41 => ?_)
          refine rn_iconst (v := (0 : Int32)) dX10_newHeap_135 (by decide) ?_
          refine rn_istore dX10_newHeap_136 (by decide) [(0, .ref o0_), (1, .int x1_), (2, .int x2_), (3, .int x1), (4, .int (0 : Int32))] rfl ?_
          have LP43 : ∀ (n : Nat) (w44 : va_W) (x42 : Int32), St G S [73] w40 S w44 → Rg (0) (1980) x42 → (1980 - x42.toInt).toNat = n → Rn G mX10_newHeap 0 0 0 0 138 [(0, .ref o0_), (1, .int x1_), (2, .int x2_), (3, .int x1), (4, .int x42)] [] w44 (q_t_X10_newHeap G S ws ) := by
            intro n
            induction n using Nat.strongRecOn with
            | _ n ih =>
              intro w44 x42 hT45 r46 hm47
              refine rn_iload dX10_newHeap_138 rfl ?_
              refine rn_sipush (v := (1980 : Int32)) dX10_newHeap_140 (by decide) ?_
              refine rn_icmp_ge (tgt := 166) dX10_newHeap_143 (by decide) (fun h48 => ?_) (fun h48 => ?_)
              · have ch48 := cv_le h48
                have r49 : Rg (1980) (1980) x42 := rf_ley ch48 rk_1980 r46 (by decide)
                have hS50 := St.tr hS41 hT45 rfl
                refine rn_iload_n (i := 3) dX10_newHeap_166 rfl rfl ?_
                exact rn_iret dX10_newHeap_167 rfl rfl (rq_in ⟨hS50, x1, rfl, r5⟩)
              · have ch48 := cv_nle h48
                have r51 : Rg (0) (1979) x42 := rf_ltx ch48 r46 rk_1980 (by decide)
                refine rn_aload_n (i := 0) dX10_newHeap_146 rfl rfl ?_
                obtain ⟨o52, hx52, m52⟩ := fs_r hf37 42 rfl
                refine rn_get q10 kg_SGModel_113 (hT45.fr hq10 rfl ((hn41 _ (ts_ne hq39 hq10 rfl)).trans hl37)) hx52 dX10_newHeap_147 ?_
                refine rn_sipush (v := (1980 : Int32)) dX10_newHeap_150 (by decide) ?_
                refine rn_iload_n (i := 3) dX10_newHeap_153 rfl rfl ?_
                refine rs_mulD (0) (5940) rk_1980 r5 dX10_newHeap_154 (by decide) (fun v53 ev53 rv53 => ?_)
                refine rn_iload dX10_newHeap_155 rfl ?_
                refine rs_addR (0) (7919) rv53 r51 dX10_newHeap_157 (by decide) (fun v54 ev54 rv54 => ?_)
                refine rn_iconst (v := (0 : Int32)) dX10_newHeap_158 (by decide) ?_
                obtain ⟨q55, f55, hq55, hl55, hf55⟩ := ts_ia hT45.1 m52 hk_73
                refine rs_zast q55 hT45 hq55 hl55 hf55 hk_73 rfl rfl rv54 (by decide) (by decide) (by decide) (by decide) dX10_newHeap_159 (fun w56 f57 hS57 hl57 hf57 hu57 hn57 => ?_)
                refine rs_iinc (1) (1980) dX10_newHeap_160 rfl (by decide) r51 rk_1 (by decide) (fun v58 => [(0, .ref o0_), (1, .int x1_), (2, .int x2_), (3, .int x1), (4, .int v58)]) (fun _ => rfl) (fun v58 ev58 rv58 => ?_)
                refine rn_goto (tgt := 138) dX10_newHeap_163 (by decide) ?_
                refine rn_lv [(0, .ref o0_), (1, .int x1_), (2, .int x2_), (3, .int x1), (4, .int v58)] rfl ?_
                exact ih _ (lp_inc hm47 ev58 rv58 (by decide)) w56 v58 hS57 (rg_w rv58 (by decide) (by decide)) rfl
          exact LP43 _ w40 (0 : Int32) (St.rf hS41.1) (rg_w rk_0 (by decide) (by decide)) rfl
        · have ch14 := cv_ne h14
          have r59 : Rg (1) (1) v13 := rf_nel ch14 rv13 rk_0 (by decide) (by decide)
          refine rn_iconst (v := (0 : Int32)) dX10_newHeap_42 (by decide) ?_
          refine rn_istore dX10_newHeap_43 (by decide) [(0, .ref o0_), (1, .int x1_), (2, .int x2_), (3, .int x1), (4, .int (0 : Int32))] rfl ?_
          have LP62 : ∀ (n : Nat) (x60 : Int32) (x61 : Int32), Rg (0) (3) x60 → Rg (0) (4) x61 → (4 - x61.toInt).toNat = n → Rn G mX10_newHeap 0 0 0 0 45 [(0, .ref o0_), (1, .int x1_), (2, .int x2_), (3, .int x60), (4, .int x61)] [] ws (q_t_X10_newHeap G S ws ) := by
            intro n
            induction n using Nat.strongRecOn with
            | _ n ih =>
              intro x60 x61 r64 r65 hm66
              refine rn_iload dX10_newHeap_45 rfl ?_
              refine rn_iconst (v := (4 : Int32)) dX10_newHeap_47 (by decide) ?_
              refine rn_icmp_ge (tgt := 80) dX10_newHeap_48 (by decide) (fun h67 => ?_) (fun h67 => ?_)
              · have ch67 := cv_le h67
                have r68 : Rg (4) (4) x61 := rf_ley ch67 rk_4 r65 (by decide)
                refine rn_aload_n (i := 0) dX10_newHeap_80 rfl rfl ?_
                refine rn_get q10 kg_SGModel_95 hl10 hx11 dX10_newHeap_81 ?_
                refine rn_iload_n (i := 3) dX10_newHeap_84 rfl rfl ?_
                refine rn_iconst (v := (1 : Int32)) dX10_newHeap_85 (by decide) ?_
                refine rs_zast q12 hS0 hq12 hl12 hf12 hk_67 rfl rfl r64 (by decide) (by decide) (by decide) (by decide) dX10_newHeap_86 (fun w69 f70 hS70 hl70 hf70 hu70 hn70 => ?_)
                refine rn_aload_n (i := 0) dX10_newHeap_87 rfl rfl ?_
                obtain ⟨o71, hx71, m71⟩ := fs_r hf10 37 rfl
                refine rn_get q10 kg_SGModel_98 ((hn70 _ (ts_ne hq12 hq10 rfl)).trans hl10) hx71 dX10_newHeap_88 ?_
                refine rn_iload_n (i := 3) dX10_newHeap_91 rfl rfl ?_
                refine rn_iload_n (i := 1) dX10_newHeap_92 rfl rfl ?_
                obtain ⟨q72, f72, hq72, hl72, hf72⟩ := ts_ia hS70.1 m71 hk_68
                refine rs_iast q72 hS70 hq72 hl72 hf72 hk_68 rfl rfl r64 (by decide) (by decide) (rg_any x1_) dX10_newHeap_93 (fun w73 f74 hS74 hl74 hf74 hu74 hn74 => ?_)
                refine rn_aload_n (i := 0) dX10_newHeap_94 rfl rfl ?_
                obtain ⟨o75, hx75, m75⟩ := fs_r hf10 38 rfl
                refine rn_get q10 kg_SGModel_101 ((hn74 _ (ts_ne hq72 hq10 rfl)).trans ((hn70 _ (ts_ne hq12 hq10 rfl)).trans hl10)) hx75 dX10_newHeap_95 ?_
                refine rn_iload_n (i := 3) dX10_newHeap_98 rfl rfl ?_
                refine rn_iload_n (i := 2) dX10_newHeap_99 rfl rfl ?_
                obtain ⟨q76, f76, hq76, hl76, hf76⟩ := ts_ia hS74.1 m75 hk_69
                refine rs_iast q76 hS74 hq76 hl76 hf76 hk_69 rfl rfl r64 (by decide) (by decide) (rg_any x2_) dX10_newHeap_100 (fun w77 f78 hS78 hl78 hf78 hu78 hn78 => ?_)
                refine rn_aload_n (i := 0) dX10_newHeap_101 rfl rfl ?_
                obtain ⟨o79, hx79, m79⟩ := fs_r hf10 39 rfl
                refine rn_get q10 kg_SGModel_104 ((hn78 _ (ts_ne hq76 hq10 rfl)).trans ((hn74 _ (ts_ne hq72 hq10 rfl)).trans ((hn70 _ (ts_ne hq12 hq10 rfl)).trans hl10))) hx79 dX10_newHeap_102 ?_
                refine rn_iload_n (i := 3) dX10_newHeap_105 rfl rfl ?_
                refine rn_iconst (v := (-1 : Int32)) dX10_newHeap_106 (by decide) ?_
                obtain ⟨q80, f80, hq80, hl80, hf80⟩ := ts_ia hS78.1 m79 hk_70
                refine rs_iast q80 hS78 hq80 hl80 hf80 hk_70 rfl rfl r64 (by decide) (by decide) (rg_w rk_m1 (by decide) (by decide)) dX10_newHeap_107 (fun w81 f82 hS82 hl82 hf82 hu82 hn82 => ?_)
                refine rn_aload_n (i := 0) dX10_newHeap_108 rfl rfl ?_
                obtain ⟨o83, hx83, m83⟩ := fs_r hf10 40 rfl
                refine rn_get q10 kg_SGModel_107 ((hn82 _ (ts_ne hq80 hq10 rfl)).trans ((hn78 _ (ts_ne hq76 hq10 rfl)).trans ((hn74 _ (ts_ne hq72 hq10 rfl)).trans ((hn70 _ (ts_ne hq12 hq10 rfl)).trans hl10)))) hx83 dX10_newHeap_109 ?_
                refine rn_iload_n (i := 3) dX10_newHeap_112 rfl rfl ?_
                refine rn_aload_n (i := 0) dX10_newHeap_113 rfl rfl ?_
                obtain ⟨x84, hx84, rx84⟩ := fs_i hf10 43 rfl
                refine rn_get q10 kg_SGModel_292 ((hn82 _ (ts_ne hq80 hq10 rfl)).trans ((hn78 _ (ts_ne hq76 hq10 rfl)).trans ((hn74 _ (ts_ne hq72 hq10 rfl)).trans ((hn70 _ (ts_ne hq12 hq10 rfl)).trans hl10)))) hx84 dX10_newHeap_114 ?_
                obtain ⟨q85, f85, hq85, hl85, hf85⟩ := ts_ia hS82.1 m83 hk_71
                refine rs_iast q85 hS82 hq85 hl85 hf85 hk_71 rfl rfl r64 (by decide) (by decide) rx84 dX10_newHeap_117 (fun w86 f87 hS87 hl87 hf87 hu87 hn87 => ?_)
                refine rn_aload_n (i := 0) dX10_newHeap_118 rfl rfl ?_
                refine rn_dup dX10_newHeap_119 rfl ?_
                refine rn_get q10 kg_SGModel_292 ((hn87 _ (ts_ne hq85 hq10 rfl)).trans ((hn82 _ (ts_ne hq80 hq10 rfl)).trans ((hn78 _ (ts_ne hq76 hq10 rfl)).trans ((hn74 _ (ts_ne hq72 hq10 rfl)).trans ((hn70 _ (ts_ne hq12 hq10 rfl)).trans hl10))))) hx84 dX10_newHeap_120 ?_
                refine rn_iconst (v := (1 : Int32)) dX10_newHeap_123 (by decide) ?_
                refine rn_iadd dX10_newHeap_124 (rn_nmA (fun v88 rv88 => ?_))
                refine rs_put q10 (kp_SGModel_292 _) hS87 hq10 ((hn87 _ (ts_ne hq85 hq10 rfl)).trans ((hn82 _ (ts_ne hq80 hq10 rfl)).trans ((hn78 _ (ts_ne hq76 hq10 rfl)).trans ((hn74 _ (ts_ne hq72 hq10 rfl)).trans ((hn70 _ (ts_ne hq12 hq10 rfl)).trans hl10))))) hf10 hk_30 rfl rfl (tv_i rv88) rfl rfl dX10_newHeap_125 (fun w89 fs90 hS90 hl90 hf90 hx90 ho90 hn90 => ?_)
                refine rn_aload_n (i := 0) dX10_newHeap_128 rfl rfl ?_
                obtain ⟨o91, hx91, m91⟩ := fs_r hf90 41 rfl
                refine rn_get q10 kg_SGModel_110 hl90 hx91 dX10_newHeap_129 ?_
                refine rn_iload_n (i := 3) dX10_newHeap_132 rfl rfl ?_
                refine rn_iconst (v := (0 : Int32)) dX10_newHeap_133 (by decide) ?_
                obtain ⟨q92, f92, hq92, hl92, hf92⟩ := ts_ia hS90.1 m91 hk_72
                refine rs_iast q92 hS90 hq92 hl92 hf92 hk_72 rfl rfl r64 (by decide) (by decide) (rg_w rk_0 (by decide) (by decide)) dX10_newHeap_134 (fun w93 f94 hS94 hl94 hf94 hu94 hn94 => ?_)
                refine rn_iconst (v := (0 : Int32)) dX10_newHeap_135 (by decide) ?_
                refine rn_istore dX10_newHeap_136 (by decide) [(0, .ref o0_), (1, .int x1_), (2, .int x2_), (3, .int x60), (4, .int (0 : Int32))] rfl ?_
                have LP96 : ∀ (n : Nat) (w97 : va_W) (x95 : Int32), St G S [73] w93 S w97 → Rg (0) (1980) x95 → (1980 - x95.toInt).toNat = n → Rn G mX10_newHeap 0 0 0 0 138 [(0, .ref o0_), (1, .int x1_), (2, .int x2_), (3, .int x60), (4, .int x95)] [] w97 (q_t_X10_newHeap G S ws ) := by
                  intro n
                  induction n using Nat.strongRecOn with
                  | _ n ih =>
                    intro w97 x95 hT98 r99 hm100
                    refine rn_iload dX10_newHeap_138 rfl ?_
                    refine rn_sipush (v := (1980 : Int32)) dX10_newHeap_140 (by decide) ?_
                    refine rn_icmp_ge (tgt := 166) dX10_newHeap_143 (by decide) (fun h101 => ?_) (fun h101 => ?_)
                    · have ch101 := cv_le h101
                      have r102 : Rg (1980) (1980) x95 := rf_ley ch101 rk_1980 r99 (by decide)
                      have hS103 := St.tr hS94 hT98 rfl
                      refine rn_iload_n (i := 3) dX10_newHeap_166 rfl rfl ?_
                      exact rn_iret dX10_newHeap_167 rfl rfl (rq_in ⟨hS103, x60, rfl, r64⟩)
                    · have ch101 := cv_nle h101
                      have r104 : Rg (0) (1979) x95 := rf_ltx ch101 r99 rk_1980 (by decide)
                      refine rn_aload_n (i := 0) dX10_newHeap_146 rfl rfl ?_
                      obtain ⟨o105, hx105, m105⟩ := fs_r hf90 42 rfl
                      refine rn_get q10 kg_SGModel_113 (hT98.fr hq10 rfl ((hn94 _ (ts_ne hq92 hq10 rfl)).trans hl90)) hx105 dX10_newHeap_147 ?_
                      refine rn_sipush (v := (1980 : Int32)) dX10_newHeap_150 (by decide) ?_
                      refine rn_iload_n (i := 3) dX10_newHeap_153 rfl rfl ?_
                      refine rs_mulD (0) (5940) rk_1980 r64 dX10_newHeap_154 (by decide) (fun v106 ev106 rv106 => ?_)
                      refine rn_iload dX10_newHeap_155 rfl ?_
                      refine rs_addR (0) (7919) rv106 r104 dX10_newHeap_157 (by decide) (fun v107 ev107 rv107 => ?_)
                      refine rn_iconst (v := (0 : Int32)) dX10_newHeap_158 (by decide) ?_
                      obtain ⟨q108, f108, hq108, hl108, hf108⟩ := ts_ia hT98.1 m105 hk_73
                      refine rs_zast q108 hT98 hq108 hl108 hf108 hk_73 rfl rfl rv107 (by decide) (by decide) (by decide) (by decide) dX10_newHeap_159 (fun w109 f110 hS110 hl110 hf110 hu110 hn110 => ?_)
                      refine rs_iinc (1) (1980) dX10_newHeap_160 rfl (by decide) r104 rk_1 (by decide) (fun v111 => [(0, .ref o0_), (1, .int x1_), (2, .int x2_), (3, .int x60), (4, .int v111)]) (fun _ => rfl) (fun v111 ev111 rv111 => ?_)
                      refine rn_goto (tgt := 138) dX10_newHeap_163 (by decide) ?_
                      refine rn_lv [(0, .ref o0_), (1, .int x1_), (2, .int x2_), (3, .int x60), (4, .int v111)] rfl ?_
                      exact ih _ (lp_inc hm100 ev111 rv111 (by decide)) w109 v111 hS110 (rg_w rv111 (by decide) (by decide)) rfl
                exact LP96 _ w93 (0 : Int32) (St.rf hS94.1) (rg_w rk_0 (by decide) (by decide)) rfl
              · have ch67 := cv_nle h67
                have r112 : Rg (0) (3) x61 := rf_ltx ch67 r65 rk_4 (by decide)
                refine rn_aload_n (i := 0) dX10_newHeap_51 rfl rfl ?_
                obtain ⟨o113, hx113, m113⟩ := fs_r hf10 40 rfl
                refine rn_get q10 kg_SGModel_107 hl10 hx113 dX10_newHeap_52 ?_
                refine rn_iload dX10_newHeap_55 rfl ?_
                obtain ⟨q114, f114, hq114, hl114, hf114⟩ := ts_ia hS0.1 m113 hk_71
                refine rs_iald q114 hl114 hf114 rfl r112 (by decide) (by decide) dX10_newHeap_57 (fun v115 ev115 rv115 => ?_)
                refine rn_aload_n (i := 0) dX10_newHeap_58 rfl rfl ?_
                refine rn_get q10 kg_SGModel_107 hl10 hx113 dX10_newHeap_59 ?_
                refine rn_iload_n (i := 3) dX10_newHeap_62 rfl rfl ?_
                refine rs_iald q114 hl114 hf114 rfl r64 (by decide) (by decide) dX10_newHeap_63 (fun v116 ev116 rv116 => ?_)
                refine rn_icmp_ge (tgt := 72) dX10_newHeap_64 (by decide) (fun h117 => ?_) (fun h117 => ?_)
                · have ch117 := cv_le h117
                  refine rn_iload_n (i := 3) dX10_newHeap_72 rfl rfl ?_
                  refine rn_istore_n dX10_newHeap_73 rfl (by decide) [(0, .ref o0_), (1, .int x1_), (2, .int x2_), (3, .int x60), (4, .int x61)] rfl ?_
                  refine rs_iinc (1) (4) dX10_newHeap_74 rfl (by decide) r112 rk_1 (by decide) (fun v118 => [(0, .ref o0_), (1, .int x1_), (2, .int x2_), (3, .int x60), (4, .int v118)]) (fun _ => rfl) (fun v118 ev118 rv118 => ?_)
                  refine rn_goto (tgt := 45) dX10_newHeap_77 (by decide) ?_
                  refine rn_lv [(0, .ref o0_), (1, .int x1_), (2, .int x2_), (3, .int x60), (4, .int v118)] rfl ?_
                  exact ih _ (lp_inc hm66 ev118 rv118 (by decide)) x60 v118 r64 (rg_w rv118 (by decide) (by decide)) rfl
                · have ch117 := cv_nle h117
                  have r119 : Rg (-2147483648) (2147483646) v115 := rf_ltx ch117 rv115 rv116 (by decide)
                  have r120 : Rg (-2147483647) (2147483647) v116 := rf_lty ch117 rv115 rv116 (by decide)
                  refine rn_iload dX10_newHeap_67 rfl ?_
                  refine rn_goto (tgt := 73) dX10_newHeap_69 (by decide) ?_
                  refine rn_istore_n dX10_newHeap_73 rfl (by decide) [(0, .ref o0_), (1, .int x1_), (2, .int x2_), (3, .int x61), (4, .int x61)] rfl ?_
                  refine rs_iinc (1) (4) dX10_newHeap_74 rfl (by decide) r112 rk_1 (by decide) (fun v121 => [(0, .ref o0_), (1, .int x1_), (2, .int x2_), (3, .int x61), (4, .int v121)]) (fun _ => rfl) (fun v121 ev121 rv121 => ?_)
                  refine rn_goto (tgt := 45) dX10_newHeap_77 (by decide) ?_
                  refine rn_lv [(0, .ref o0_), (1, .int x1_), (2, .int x2_), (3, .int x61), (4, .int v121)] rfl ?_
                  exact ih _ (lp_inc hm66 ev121 rv121 (by decide)) x61 v121 r112 (rg_w rv121 (by decide) (by decide)) rfl
          exact LP62 _ x1 (0 : Int32) r5 (rg_w rk_0 (by decide) (by decide)) rfl
      · have ch8 := cv_nlt h8
        have r122 : Rg (0) (3) x2 := rf_ley ch8 rk_0 r6 (by decide)
        refine rn_aload_n (i := 0) dX10_newHeap_10 rfl rfl ?_
        obtain ⟨q123, fs123, hq123, hl123, hf123⟩ := ts_obj hS0.1 m0_ hk_30
        obtain ⟨o124, hx124, m124⟩ := fs_r hf123 36 rfl
        refine rn_get q123 kg_SGModel_95 hl123 hx124 dX10_newHeap_11 ?_
        refine rn_iload dX10_newHeap_14 rfl ?_
        obtain ⟨q125, f125, hq125, hl125, hf125⟩ := ts_ia hS0.1 m124 hk_67
        refine rs_zald q125 hl125 hf125 rfl r122 (by decide) (by decide) dX10_newHeap_16 (fun v126 ev126 rv126 => ?_)
        refine rn_if_ne (tgt := 25) dX10_newHeap_17 (by decide) (fun h127 => ?_) (fun h127 => ?_)
        · have ch127 := cv_ne h127
          have r128 : Rg (1) (1) v126 := rf_nel ch127 rv126 rk_0 (by decide) (by decide)
          refine rn_iload_n (i := 3) dX10_newHeap_25 rfl rfl ?_
          refine rn_istore_n dX10_newHeap_26 rfl (by decide) [(0, .ref o0_), (1, .int x1_), (2, .int x2_), (3, .int x1), (4, .int x2)] rfl ?_
          refine rs_iinc (-1) (2) dX10_newHeap_27 rfl (by decide) r122 rk_m1 (by decide) (fun v129 => [(0, .ref o0_), (1, .int x1_), (2, .int x2_), (3, .int x1), (4, .int v129)]) (fun _ => rfl) (fun v129 ev129 rv129 => ?_)
          refine rn_goto (tgt := 5) dX10_newHeap_30 (by decide) ?_
          refine rn_lv [(0, .ref o0_), (1, .int x1_), (2, .int x2_), (3, .int x1), (4, .int v129)] rfl ?_
          exact ih _ (lp_dec hm7 ev129 rv129 (by decide)) x1 v129 r5 (rg_w rv129 (by decide) (by decide)) rfl
        · have ch127 := cv_eq h127
          have r130 : Rg (0) (0) v126 := rf_eqx ch127 rv126 rk_0 (by decide) (by decide)
          refine rn_iload dX10_newHeap_20 rfl ?_
          refine rn_goto (tgt := 26) dX10_newHeap_22 (by decide) ?_
          refine rn_istore_n dX10_newHeap_26 rfl (by decide) [(0, .ref o0_), (1, .int x1_), (2, .int x2_), (3, .int x2), (4, .int x2)] rfl ?_
          refine rs_iinc (-1) (2) dX10_newHeap_27 rfl (by decide) r122 rk_m1 (by decide) (fun v131 => [(0, .ref o0_), (1, .int x1_), (2, .int x2_), (3, .int x2), (4, .int v131)]) (fun _ => rfl) (fun v131 ev131 rv131 => ?_)
          refine rn_goto (tgt := 5) dX10_newHeap_30 (by decide) ?_
          refine rn_lv [(0, .ref o0_), (1, .int x1_), (2, .int x2_), (3, .int x2), (4, .int v131)] rfl ?_
          exact ih _ (lp_dec hm7 ev131 rv131 (by decide)) x2 v131 r122 (rg_w rv131 (by decide) (by decide)) rfl
  exact LP3 _ (0 : Int32) (3 : Int32) (rg_w rk_0 (by decide) (by decide)) (rg_w rk_3 (by decide) (by decide)) rfl
