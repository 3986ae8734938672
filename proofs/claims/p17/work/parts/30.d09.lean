abbrev q_t_X10_stream (G : rn_G) (S : ts_S) (ws : va_W) : rn_R → va_W → Prop := rQ (fun v w => St G S [33] ws S w ∧ (v = none)) (fun E w => False)
set_option maxRecDepth 20000 in
set_option maxHeartbeats 4000000 in
theorem t_X10_stream (G : rn_G) (S : ts_S) (ws : va_W) (hW : ts_W G S ws) (o0_ : Nat) (m0_ : (o0_, 30) ∈ S) (x1_ : Int32) (r1_ : Rg (0) (19000) x1_) (x2_ : Int32) (r2_ : Rg (0) (2047) x2_) (x3_ : Int32) (r3_ : Rg (0) (15) x3_) (y4_ : Int64) : Rn G mX10_stream 0 0 0 0 0 (lv_args 0 [.ref o0_, .int x1_, .int x2_, .int x3_, .long y4_]) [] ws (q_t_X10_stream G S ws ) := by
  have hS0 : St G S [33] ws S ws := St.rf hW
  refine rn_lv [(0, .ref o0_), (1, .int x1_), (2, .int x2_), (3, .int x3_), (4, .long y4_)] rfl ?_
  refine rn_aload_n (i := 0) dX10_stream_0 rfl rfl ?_
  obtain ⟨q1, fs1, hq1, hl1, hf1⟩ := ts_obj hS0.1 m0_ hk_30
  obtain ⟨o2, hx2, m2⟩ := fs_r hf1 26 rfl
  refine rn_get q1 kg_SGModel_66 hl1 hx2 dX10_stream_1 ?_
  refine rn_iload_n (i := 3) dX10_stream_4 rfl rfl ?_
  obtain ⟨q3, f3, hq3, hl3⟩ := ts_la hS0.1 m2 hk_57
  refine rs_lald q3 hl3 rfl r3_ (by decide) (by decide) dX10_stream_5 (fun v4 ev4 => ?_)
  refine rn_lload dX10_stream_6 rfl ?_
  refine rn_ldc2 (v := (-7046029254386353131 : Int64)) wd_1459 dX10_stream_8 ?_
  refine rn_lmul dX10_stream_11 (rn_nmL (fun l5 => ?_))
  refine rn_lxor dX10_stream_12 (rn_nmL (fun l6 => ?_))
  refine rn_lstore dX10_stream_13 (by decide) [(0, .ref o0_), (1, .int x1_), (2, .int x2_), (3, .int x3_), (4, .long y4_), (6, .long l6)] rfl ?_
  refine rn_iconst (v := (0 : Int32)) dX10_stream_15 (by decide) ?_
  refine rn_istore dX10_stream_16 (by decide) [(0, .ref o0_), (1, .int x1_), (2, .int x2_), (3, .int x3_), (4, .long y4_), (6, .long l6), (8, .int (0 : Int32))] rfl ?_
  have LP9 : ∀ (n : Nat) (w10 : va_W) (y7 : Int64) (x8 : Int32), St G S [33] ws S w10 → Rg (0) (2047) x8 → (2047 - x8.toInt).toNat = n → Rn G mX10_stream 0 0 0 0 18 [(0, .ref o0_), (1, .int x1_), (2, .int x2_), (3, .int x3_), (4, .long y4_), (6, .long y7), (8, .int x8)] [] w10 (q_t_X10_stream G S ws ) := by
    intro n
    induction n using Nat.strongRecOn with
    | _ n ih =>
      intro w10 y7 x8 hT11 r12 hm13
      refine rn_iload dX10_stream_18 rfl ?_
      refine rn_iload_n (i := 2) dX10_stream_20 rfl rfl ?_
      refine rn_icmp_ge (tgt := 67) dX10_stream_21 (by decide) (fun h14 => ?_) (fun h14 => ?_)
      · have ch14 := cv_le h14
        have hS15 := St.tr hS0 hT11 rfl
        exact rn_vret dX10_stream_67 rfl (rq_in ⟨hS15, rfl⟩)
      · have ch14 := cv_nle h14
        have r16 : Rg (0) (2046) x8 := rf_ltx ch14 r12 r2_ (by decide)
        have r17 : Rg (1) (2047) x2_ := rf_lty ch14 r12 r2_ (by decide)
        refine rn_lload dX10_stream_24 rfl ?_
        refine rn_ldc2 (v := (6364136223846793005 : Int64)) wd_1460 dX10_stream_26 ?_
        refine rn_lmul dX10_stream_29 (rn_nmL (fun l18 => ?_))
        refine rn_ldc2 (v := (1442695040888963407 : Int64)) wd_1461 dX10_stream_30 ?_
        refine rn_ladd dX10_stream_33 (rn_nmL (fun l19 => ?_))
        refine rn_lstore dX10_stream_34 (by decide) [(0, .ref o0_), (1, .int x1_), (2, .int x2_), (3, .int x3_), (4, .long y4_), (6, .long l19), (8, .int x8)] rfl ?_
        refine rn_aload_n (i := 0) dX10_stream_36 rfl rfl ?_
        obtain ⟨o20, hx20, m20⟩ := fs_r hf1 2 rfl
        refine rn_get q1 kg_SGModel_7 (hT11.fr hq1 rfl hl1) hx20 dX10_stream_37 ?_
        refine rn_iload_n (i := 1) dX10_stream_40 rfl rfl ?_
        refine rn_iload dX10_stream_41 rfl ?_
        refine rs_addR (0) (21046) r1_ r16 dX10_stream_43 (by decide) (fun v21 ev21 rv21 => ?_)
        refine rn_aload_n (i := 0) dX10_stream_44 rfl rfl ?_
        refine rn_get q1 kg_SGModel_7 (hT11.fr hq1 rfl hl1) hx20 dX10_stream_45 ?_
        refine rn_iload_n (i := 1) dX10_stream_48 rfl rfl ?_
        refine rn_iload dX10_stream_49 rfl ?_
        refine rs_addR (0) (21046) r1_ r16 dX10_stream_51 (by decide) (fun v22 ev22 rv22 => ?_)
        obtain ⟨q23, f23, hq23, hl23, hf23⟩ := ts_ia hT11.1 m20 hk_33
        refine rs_iald q23 hl23 hf23 rfl rv22 (by decide) (by decide) dX10_stream_52 (fun v24 ev24 rv24 => ?_)
        refine rn_lload dX10_stream_53 rfl ?_
        refine rn_bipush (v := (56 : Int32)) dX10_stream_55 (by decide) ?_
        refine rn_lushr dX10_stream_57 rfl ?_
        refine rn_l2i dX10_stream_58 rfl (rn_tn 0 255 (rg_u56 l19) (fun v25 rv25 => ?_))
        refine rn_ixor dX10_stream_59 (rn_tn 0 (255) (rg_xor 8 256 rfl rv24 rv25 (by decide)) (fun v26 rv26 => ?_))
        refine rs_iast q23 hT11 hq23 hl23 hf23 hk_33 rfl rfl rv21 (by decide) (by decide) rv26 dX10_stream_60 (fun w27 f28 hS28 hl28 hf28 hu28 hn28 => ?_)
        refine rs_iinc (1) (2047) dX10_stream_61 rfl (by decide) r16 rk_1 (by decide) (fun v29 => [(0, .ref o0_), (1, .int x1_), (2, .int x2_), (3, .int x3_), (4, .long y4_), (6, .long l19), (8, .int v29)]) (fun _ => rfl) (fun v29 ev29 rv29 => ?_)
        refine rn_goto (tgt := 18) dX10_stream_64 (by decide) ?_
        refine rn_lv [(0, .ref o0_), (1, .int x1_), (2, .int x2_), (3, .int x3_), (4, .long y4_), (6, .long l19), (8, .int v29)] rfl ?_
        exact ih _ (lp_inc hm13 ev29 rv29 (by decide)) w27 l19 v29 hS28 (rg_w rv29 (by decide) (by decide)) rfl
  exact LP9 _ ws l6 (0 : Int32) (St.rf hS0.1) (rg_w rk_0 (by decide) (by decide)) rfl
abbrev q_t_X10_stampOf (G : rn_G) (S : ts_S) (ws : va_W) : rn_R → va_W → Prop := rQ (fun v w => ws = w ∧ (∃ x : Int64, v = some (.long x))) (fun E w => False)
set_option maxRecDepth 20000 in
set_option maxHeartbeats 4000000 in
theorem t_X10_stampOf (G : rn_G) (S : ts_S) (ws : va_W) (hW : ts_W G S ws) (o0_ : Nat) (m0_ : (o0_, 30) ∈ S) (x1_ : Int32) (r1_ : Rg (0) (19000) x1_) (x2_ : Int32) (r2_ : Rg (0) (2055) x2_) (x3_ : Int32) (r3_ : Rg (0) (15) x3_) (y4_ : Int64) : Rn G mX10_stampOf 0 0 0 0 0 (lv_args 0 [.ref o0_, .int x1_, .int x2_, .int x3_, .long y4_]) [] ws (q_t_X10_stampOf G S ws ) := by
  refine rn_lv [(0, .ref o0_), (1, .int x1_), (2, .int x2_), (3, .int x3_), (4, .long y4_)] rfl ?_
  refine rn_aload_n (i := 0) dX10_stampOf_0 rfl rfl ?_
  obtain ⟨q1, fs1, hq1, hl1, hf1⟩ := ts_obj hW m0_ hk_30
  obtain ⟨o2, hx2, m2⟩ := fs_r hf1 27 rfl
  refine rn_get q1 kg_SGModel_70 hl1 hx2 dX10_stampOf_1 ?_
  refine rn_iload_n (i := 3) dX10_stampOf_4 rfl rfl ?_
  obtain ⟨q3, f3, hq3, hl3⟩ := ts_la hW m2 hk_58
  refine rs_lald q3 hl3 rfl r3_ (by decide) (by decide) dX10_stampOf_5 (fun v4 ev4 => ?_)
  refine rn_lstore dX10_stampOf_6 (by decide) [(0, .ref o0_), (1, .int x1_), (2, .int x2_), (3, .int x3_), (4, .long y4_), (6, .long v4)] rfl ?_
  refine rn_iconst (v := (0 : Int32)) dX10_stampOf_8 (by decide) ?_
  refine rn_istore dX10_stampOf_9 (by decide) [(0, .ref o0_), (1, .int x1_), (2, .int x2_), (3, .int x3_), (4, .long y4_), (6, .long v4), (8, .int (0 : Int32))] rfl ?_
  have LP7 : ∀ (n : Nat) (y5 : Int64) (x6 : Int32), Rg (0) (8191) x6 → (8191 - x6.toInt).toNat = n → Rn G mX10_stampOf 0 0 0 0 11 [(0, .ref o0_), (1, .int x1_), (2, .int x2_), (3, .int x3_), (4, .long y4_), (6, .long y5), (8, .int x6)] [] ws (q_t_X10_stampOf G S ws ) := by
    intro n
    induction n using Nat.strongRecOn with
    | _ n ih =>
      intro y5 x6 r9 hm10
      refine rn_iload dX10_stampOf_11 rfl ?_
      refine rn_iload_n (i := 2) dX10_stampOf_13 rfl rfl ?_
      refine rn_icmp_ge (tgt := 42) dX10_stampOf_14 (by decide) (fun h11 => ?_) (fun h11 => ?_)
      · have ch11 := cv_le h11
        refine rn_bipush (v := (56 : Int32)) dX10_stampOf_42 (by decide) ?_
        refine rn_istore dX10_stampOf_44 (by decide) [(0, .ref o0_), (1, .int x1_), (2, .int x2_), (3, .int x3_), (4, .long y4_), (6, .long y5), (8, .int (56 : Int32))] rfl ?_
        have LP14 : ∀ (n : Nat) (y12 : Int64) (x13 : Int32), Rg (24) (56) x13 → (x13.toInt - (24)).toNat = n → Rn G mX10_stampOf 0 0 0 0 46 [(0, .ref o0_), (1, .int x1_), (2, .int x2_), (3, .int x3_), (4, .long y4_), (6, .long y12), (8, .int x13)] [] ws (q_t_X10_stampOf G S ws ) := by
          intro n
          induction n using Nat.strongRecOn with
          | _ n ih =>
            intro y12 x13 r16 hm17
            refine rn_iload dX10_stampOf_46 rfl ?_
            refine rn_bipush (v := (32 : Int32)) dX10_stampOf_48 (by decide) ?_
            refine rn_icmp_lt (tgt := 86) dX10_stampOf_50 (by decide) (fun h18 => ?_) (fun h18 => ?_)
            · have ch18 := cv_lt h18
              have r19 : Rg (24) (31) x13 := rf_ltx ch18 r16 rk_32 (by decide)
              refine rn_lload dX10_stampOf_86 rfl ?_
              refine rn_lload dX10_stampOf_88 rfl ?_
              refine rn_bipush (v := (32 : Int32)) dX10_stampOf_90 (by decide) ?_
              refine rn_lushr dX10_stampOf_92 rfl (rn_nmL (fun l20 => ?_))
              refine rn_lxor dX10_stampOf_93 (rn_nmL (fun l21 => ?_))
              exact rn_lret dX10_stampOf_94 rfl (rq_in ⟨rfl, l21, rfl⟩)
            · have ch18 := cv_nlt h18
              have r22 : Rg (32) (56) x13 := rf_ley ch18 rk_32 r16 (by decide)
              refine rn_aload_n (i := 0) dX10_stampOf_53 rfl rfl ?_
              obtain ⟨o23, hx23, m23⟩ := fs_r hf1 28 rfl
              refine rn_get q1 kg_SGModel_73 hl1 hx23 dX10_stampOf_54 ?_
              refine rn_iload_n (i := 3) dX10_stampOf_57 rfl rfl ?_
              obtain ⟨q24, f24, hq24, hl24, hf24⟩ := ts_ia hW m23 hk_59
              refine rs_zald q24 hl24 hf24 rfl r3_ (by decide) (by decide) dX10_stampOf_58 (fun v25 ev25 rv25 => ?_)
              refine rn_if_eq (tgt := 86) dX10_stampOf_59 (by decide) (fun h26 => ?_) (fun h26 => ?_)
              · have ch26 := cv_eq h26
                have r27 : Rg (0) (0) v25 := rf_eqx ch26 rv25 rk_0 (by decide) (by decide)
                refine rn_lload dX10_stampOf_86 rfl ?_
                refine rn_lload dX10_stampOf_88 rfl ?_
                refine rn_bipush (v := (32 : Int32)) dX10_stampOf_90 (by decide) ?_
                refine rn_lushr dX10_stampOf_92 rfl (rn_nmL (fun l28 => ?_))
                refine rn_lxor dX10_stampOf_93 (rn_nmL (fun l29 => ?_))
                exact rn_lret dX10_stampOf_94 rfl (rq_in ⟨rfl, l29, rfl⟩)
              · have ch26 := cv_ne h26
                have r30 : Rg (1) (1) v25 := rf_nel ch26 rv25 rk_0 (by decide) (by decide)
                refine rn_lload dX10_stampOf_62 rfl ?_
                refine rn_lload dX10_stampOf_64 rfl ?_
                refine rn_iload dX10_stampOf_66 rfl ?_
                refine rn_lushr dX10_stampOf_68 rfl (rn_nmL (fun l31 => ?_))
                refine rn_ldc2 (v := (255 : Int64)) wd_1467 dX10_stampOf_69 ?_
                refine rn_land dX10_stampOf_72 (rn_nmL (fun l32 => ?_))
                refine rn_lxor dX10_stampOf_73 (rn_nmL (fun l33 => ?_))
                refine rn_ldc2 (v := (1099511628211 : Int64)) wd_1466 dX10_stampOf_74 ?_
                refine rn_lmul dX10_stampOf_77 (rn_nmL (fun l34 => ?_))
                refine rn_lstore dX10_stampOf_78 (by decide) [(0, .ref o0_), (1, .int x1_), (2, .int x2_), (3, .int x3_), (4, .long y4_), (6, .long l34), (8, .int x13)] rfl ?_
                refine rs_iinc (24) (48) dX10_stampOf_80 rfl (by decide) r22 rk_m8 (by decide) (fun v35 => [(0, .ref o0_), (1, .int x1_), (2, .int x2_), (3, .int x3_), (4, .long y4_), (6, .long l34), (8, .int v35)]) (fun _ => rfl) (fun v35 ev35 rv35 => ?_)
                refine rn_goto (tgt := 46) dX10_stampOf_83 (by decide) ?_
                refine rn_lv [(0, .ref o0_), (1, .int x1_), (2, .int x2_), (3, .int x3_), (4, .long y4_), (6, .long l34), (8, .int v35)] rfl ?_
                exact ih _ (lp_dec hm17 ev35 rv35 (by decide)) l34 v35 (rg_w rv35 (by decide) (by decide)) rfl
        exact LP14 _ y5 (56 : Int32) (rg_w rk_56 (by decide) (by decide)) rfl
      · have ch11 := cv_nle h11
        have r36 : Rg (0) (2054) x6 := rf_ltx ch11 r9 r2_ (by decide)
        have r37 : Rg (1) (2055) x2_ := rf_lty ch11 r9 r2_ (by decide)
        refine rn_lload dX10_stampOf_17 rfl ?_
        refine rn_aload_n (i := 0) dX10_stampOf_19 rfl rfl ?_
        obtain ⟨o38, hx38, m38⟩ := fs_r hf1 2 rfl
        refine rn_get q1 kg_SGModel_7 hl1 hx38 dX10_stampOf_20 ?_
        refine rn_iload_n (i := 1) dX10_stampOf_23 rfl rfl ?_
        refine rn_iload dX10_stampOf_24 rfl ?_
        refine rs_addR (0) (21054) r1_ r36 dX10_stampOf_26 (by decide) (fun v39 ev39 rv39 => ?_)
        obtain ⟨q40, f40, hq40, hl40, hf40⟩ := ts_ia hW m38 hk_33
        refine rs_iald q40 hl40 hf40 rfl rv39 (by decide) (by decide) dX10_stampOf_27 (fun v41 ev41 rv41 => ?_)
        refine rn_i2l dX10_stampOf_28 rfl (rn_nmL (fun l42 => ?_))
        refine rn_lxor dX10_stampOf_29 (rn_nmL (fun l43 => ?_))
        refine rn_ldc2 (v := (1099511628211 : Int64)) wd_1466 dX10_stampOf_30 ?_
        refine rn_lmul dX10_stampOf_33 (rn_nmL (fun l44 => ?_))
        refine rn_lstore dX10_stampOf_34 (by decide) [(0, .ref o0_), (1, .int x1_), (2, .int x2_), (3, .int x3_), (4, .long y4_), (6, .long l44), (8, .int x6)] rfl ?_
        refine rs_iinc (1) (2055) dX10_stampOf_36 rfl (by decide) r36 rk_1 (by decide) (fun v45 => [(0, .ref o0_), (1, .int x1_), (2, .int x2_), (3, .int x3_), (4, .long y4_), (6, .long l44), (8, .int v45)]) (fun _ => rfl) (fun v45 ev45 rv45 => ?_)
        refine rn_goto (tgt := 11) dX10_stampOf_39 (by decide) ?_
        refine rn_lv [(0, .ref o0_), (1, .int x1_), (2, .int x2_), (3, .int x3_), (4, .long y4_), (6, .long l44), (8, .int v45)] rfl ?_
        exact ih _ (lp_inc hm10 ev45 rv45 (by decide)) l44 v45 (rg_w rv45 (by decide) (by decide)) rfl
  exact LP7 _ v4 (0 : Int32) (rg_w rk_0 (by decide) (by decide)) rfl
abbrev q_t_X10_fillOf (G : rn_G) (S : ts_S) (ws : va_W) : rn_R → va_W → Prop := rQ (fun v w => ws = w ∧ (∃ x : Int32, v = some (.int x) ∧ Rg (0) (3) x)) (fun E w => False)
set_option maxRecDepth 20000 in
set_option maxHeartbeats 4000000 in
theorem t_X10_fillOf (G : rn_G) (S : ts_S) (ws : va_W) (hW : ts_W G S ws) (x0_ : Int32) (r0_ : Rg (0) (3000) x0_) : Rn G mX10_fillOf 0 0 0 0 0 (lv_args 0 [.int x0_]) [] ws (q_t_X10_fillOf G S ws ) := by
  refine rn_lv [(0, .int x0_)] rfl ?_
  refine rn_iconst (v := (4 : Int32)) dX10_fillOf_0 (by decide) ?_
  refine rn_iload_n (i := 0) dX10_fillOf_1 rfl rfl ?_
  refine rn_iconst (v := (2 : Int32)) dX10_fillOf_2 (by decide) ?_
  refine rs_addC (2) (3002) r0_ rk_2 dX10_fillOf_3 (by decide) (fun v1 ev1 rv1 => ?_)
  refine rn_iconst (v := (4 : Int32)) dX10_fillOf_4 (by decide) ?_
  refine rs_remC (3) rv1 rk_4 dX10_fillOf_5 (by decide) (fun v2 ev2 rv2 => ?_)
  refine rs_subR (1) (4) rk_4 rv2 dX10_fillOf_6 (by decide) (fun v3 ev3 rv3 => ?_)
  refine rn_iconst (v := (4 : Int32)) dX10_fillOf_7 (by decide) ?_
  refine rs_remC (3) rv3 rk_4 dX10_fillOf_8 (by decide) (fun v4 ev4 rv4 => ?_)
  exact rn_iret dX10_fillOf_9 rfl rfl (rq_in ⟨rfl, v4, rfl, rv4⟩)
abbrev q_t_X10_sealFor (G : rn_G) (S : ts_S) (ws : va_W) : rn_R → va_W → Prop := rQ (fun v w => ws = w ∧ (∃ x : Int32, v = some (.int x) ∧ Rg (-1) (15) x)) (fun E w => False)
set_option maxRecDepth 20000 in
set_option maxHeartbeats 4000000 in
theorem t_X10_sealFor (G : rn_G) (S : ts_S) (ws : va_W) (hW : ts_W G S ws) (o0_ : Nat) (m0_ : (o0_, 30) ∈ S) (x1_ : Int32) : Rn G mX10_sealFor 1 21 0 0 0 (lv_args 0 [.ref o0_, .int x1_]) [] ws (q_t_X10_sealFor G S ws ) := by
  refine rn_lv [(0, .ref o0_), (1, .int x1_)] rfl ?_
  refine rn_aload_n (i := 0) dX10_sealFor_0 rfl rfl ?_
  obtain ⟨q1, fs1, hq1, hl1, hf1⟩ := ts_obj hW m0_ hk_30
  obtain ⟨x2, hx2, rx2⟩ := fs_i hf1 22 rfl
  refine rn_get q1 kg_SGModel_200 hl1 hx2 dX10_sealFor_1 ?_
  refine rn_iconst (v := (1 : Int32)) dX10_sealFor_4 (by decide) ?_
  refine rs_subC (-1) (15) rx2 rk_1 dX10_sealFor_5 (by decide) (fun v3 ev3 rv3 => ?_)
  refine rn_istore_n dX10_sealFor_6 rfl (by decide) [(0, .ref o0_), (1, .int x1_), (2, .int v3)] rfl ?_
  have LP5 : ∀ (n : Nat) (x4 : Int32), Rg (-1) (15) x4 → (x4.toInt - (-1)).toNat = n → Rn G mX10_sealFor 1 21 0 0 7 [(0, .ref o0_), (1, .int x1_), (2, .int x4)] [] ws (q_t_X10_sealFor G S ws ) := by
    intro n
    induction n using Nat.strongRecOn with
    | _ n ih =>
      intro x4 r7 hm8
      refine rn_iload_n (i := 2) dX10_sealFor_7 rfl rfl ?_
      refine rn_if_lt (tgt := 76) dX10_sealFor_8 (by decide) (fun h9 => ?_) (fun h9 => ?_)
      · have ch9 := cv_lt h9
        have r10 : Rg (-1) (-1) x4 := rf_ltx ch9 r7 rk_0 (by decide)
        refine rn_iconst (v := (-1 : Int32)) dX10_sealFor_76 (by decide) ?_
        exact rn_iret dX10_sealFor_77 rfl rfl (rq_in ⟨rfl, (-1 : Int32), rfl, (rg_w rk_m1 (by decide) (by decide))⟩)
      · have ch9 := cv_nlt h9
        have r11 : Rg (0) (15) x4 := rf_ley ch9 rk_0 r7 (by decide)
        refine rn_aload_n (i := 0) dX10_sealFor_11 rfl rfl ?_
        obtain ⟨o12, hx12, m12⟩ := fs_r hf1 28 rfl
        refine rn_get q1 kg_SGModel_73 hl1 hx12 dX10_sealFor_12 ?_
        refine rn_iload_n (i := 2) dX10_sealFor_15 rfl rfl ?_
        obtain ⟨q13, f13, hq13, hl13, hf13⟩ := ts_ia hW m12 hk_59
        refine rs_zald q13 hl13 hf13 rfl r11 (by decide) (by decide) dX10_sealFor_16 (fun v14 ev14 rv14 => ?_)
        refine rn_if_eq (tgt := 26) dX10_sealFor_17 (by decide) (fun h15 => ?_) (fun h15 => ?_)
        · have ch15 := cv_eq h15
          have r16 : Rg (0) (0) v14 := rf_eqx ch15 rv14 rk_0 (by decide) (by decide)
          refine rn_ldc2 (v := (4294967295 : Int64)) wd_1351 dX10_sealFor_26 ?_
          refine rn_lstore_n dX10_sealFor_29 rfl (by decide) [(0, .ref o0_), (1, .int x1_), (2, .int x4), (3, .long (4294967295 : Int64))] rfl ?_
          refine rn_aload_n (i := 0) dX10_sealFor_30 rfl rfl ?_
          obtain ⟨o17, hx17, m17⟩ := fs_r hf1 23 rfl
          refine rn_get q1 kg_SGModel_57 hl1 hx17 dX10_sealFor_31 ?_
          refine rn_iload_n (i := 2) dX10_sealFor_34 rfl rfl ?_
          obtain ⟨q18, f18, hq18, hl18, hf18⟩ := ts_ia hW m17 hk_54
          refine rs_iald q18 hl18 hf18 rfl r11 (by decide) (by decide) dX10_sealFor_35 (fun v19 ev19 rv19 => ?_)
          refine rn_if_ne (tgt := 70) dX10_sealFor_36 (by decide) (fun h20 => ?_) (fun h20 => ?_)
          · have ch20 := cv_ne h20
            refine rs_iinc (-1) (14) dX10_sealFor_70 rfl (by decide) r11 rk_m1 (by decide) (fun v21 => [(0, .ref o0_), (1, .int x1_), (2, .int v21), (3, .long (4294967295 : Int64))]) (fun _ => rfl) (fun v21 ev21 rv21 => ?_)
            refine rn_goto (tgt := 7) dX10_sealFor_73 (by decide) ?_
            refine rn_lv [(0, .ref o0_), (1, .int x1_), (2, .int v21)] rfl ?_
            exact ih _ (lp_dec hm8 ev21 rv21 (by decide)) v21 (rg_w rv21 (by decide) (by decide)) rfl
          · have ch20 := cv_eq h20
            have r22 : Rg (0) (0) v19 := rf_eqx ch20 rv19 rk_0 (by decide) (by decide)
            refine rn_aload_n (i := 0) dX10_sealFor_39 rfl rfl ?_
            obtain ⟨o23, hx23, m23⟩ := fs_r hf1 24 rfl
            refine rn_get q1 kg_SGModel_60 hl1 hx23 dX10_sealFor_40 ?_
            refine rn_iload_n (i := 2) dX10_sealFor_43 rfl rfl ?_
            obtain ⟨q24, f24, hq24, hl24, hf24⟩ := ts_ia hW m23 hk_55
            refine rs_iald q24 hl24 hf24 rfl r11 (by decide) (by decide) dX10_sealFor_44 (fun v25 ev25 rv25 => ?_)
            refine rn_iload_n (i := 1) dX10_sealFor_45 rfl rfl ?_
            refine rn_icmp_ne (tgt := 70) dX10_sealFor_46 (by decide) (fun h26 => ?_) (fun h26 => ?_)
            · have ch26 := cv_ne h26
              refine rs_iinc (-1) (14) dX10_sealFor_70 rfl (by decide) r11 rk_m1 (by decide) (fun v27 => [(0, .ref o0_), (1, .int x1_), (2, .int v27), (3, .long (4294967295 : Int64))]) (fun _ => rfl) (fun v27 ev27 rv27 => ?_)
              refine rn_goto (tgt := 7) dX10_sealFor_73 (by decide) ?_
              refine rn_lv [(0, .ref o0_), (1, .int x1_), (2, .int v27)] rfl ?_
              exact ih _ (lp_dec hm8 ev27 rv27 (by decide)) v27 (rg_w rv27 (by decide) (by decide)) rfl
            · have ch26 := cv_eq h26
              have r28 : Rg (0) (3) x1_ := rf_eqy ch26 rv25 (rg_any x1_) (by decide) (by decide)
              refine rn_aload_n (i := 0) dX10_sealFor_49 rfl rfl ?_
              refine rn_iload_n (i := 2) dX10_sealFor_50 rfl rfl ?_
              refine rn_callV (a := 0) (b := 0) [.int x4] kl_SGModel_207 dX10_sealFor_51 q1 hl1 rfl (t_X10_isDead G S ws hW o0_ m0_ x4 r11) rfl rfl (Nat.le_of_ble_eq_true rfl) (Nat.le_of_ble_eq_true rfl) (Nat.le_of_ble_eq_true rfl) (Nat.le_of_ble_eq_true rfl) (Nat.le_of_ble_eq_true rfl) (Nat.le_of_ble_eq_true rfl) (fun _ _ h => False.elim h) (fun v9 w29 h30 => ?_)
              obtain ⟨rfl, v31, rfl, rv31⟩ := h30
              refine rn_stk [.int v31] rfl ?_
              refine rn_if_ne (tgt := 70) dX10_sealFor_54 (by decide) (fun h33 => ?_) (fun h33 => ?_)
              · have ch33 := cv_ne h33
                have r34 : Rg (1) (1) v31 := rf_nel ch33 rv31 rk_0 (by decide) (by decide)
                refine rs_iinc (-1) (14) dX10_sealFor_70 rfl (by decide) r11 rk_m1 (by decide) (fun v35 => [(0, .ref o0_), (1, .int x1_), (2, .int v35), (3, .long (4294967295 : Int64))]) (fun _ => rfl) (fun v35 ev35 rv35 => ?_)
                refine rn_goto (tgt := 7) dX10_sealFor_73 (by decide) ?_
                refine rn_lv [(0, .ref o0_), (1, .int x1_), (2, .int v35)] rfl ?_
                exact ih _ (lp_dec hm8 ev35 rv35 (by decide)) v35 (rg_w rv35 (by decide) (by decide)) rfl
              · have ch33 := cv_eq h33
                have r36 : Rg (0) (0) v31 := rf_eqx ch33 rv31 rk_0 (by decide) (by decide)
                refine rn_aload_n (i := 0) dX10_sealFor_57 rfl rfl ?_
                obtain ⟨o37, hx37, m37⟩ := fs_r hf1 31 rfl
                refine rn_get q1 kg_SGModel_83 hl1 hx37 dX10_sealFor_58 ?_
                refine rn_iload_n (i := 2) dX10_sealFor_61 rfl rfl ?_
                obtain ⟨q38, f38, hq38, hl38⟩ := ts_la hW m37 hk_62
                refine rs_lald q38 hl38 rfl r11 (by decide) (by decide) dX10_sealFor_62 (fun v39 ev39 => ?_)
                refine rn_lload_n (i := 3) dX10_sealFor_63 rfl rfl ?_
                refine rn_lcmp dX10_sealFor_64 (rn_tn (-1) 1 (rg_lcmp _ _) (fun v40 rv40 => ?_))
                refine rn_if_eq (tgt := 70) dX10_sealFor_65 (by decide) (fun h41 => ?_) (fun h41 => ?_)
                · have ch41 := cv_eq h41
                  have r42 : Rg (0) (0) v40 := rf_eqx ch41 rv40 rk_0 (by decide) (by decide)
                  refine rs_iinc (-1) (14) dX10_sealFor_70 rfl (by decide) r11 rk_m1 (by decide) (fun v43 => [(0, .ref o0_), (1, .int x1_), (2, .int v43), (3, .long (4294967295 : Int64))]) (fun _ => rfl) (fun v43 ev43 rv43 => ?_)
                  refine rn_goto (tgt := 7) dX10_sealFor_73 (by decide) ?_
                  refine rn_lv [(0, .ref o0_), (1, .int x1_), (2, .int v43)] rfl ?_
                  exact ih _ (lp_dec hm8 ev43 rv43 (by decide)) v43 (rg_w rv43 (by decide) (by decide)) rfl
                · have ch41 := cv_ne h41
                  refine rn_iload_n (i := 2) dX10_sealFor_68 rfl rfl ?_
                  exact rn_iret dX10_sealFor_69 rfl rfl (rq_in ⟨rfl, x4, rfl, (rg_w r11 (by decide) (by decide))⟩)
        · have ch15 := cv_ne h15
          have r44 : Rg (1) (1) v14 := rf_nel ch15 rv14 rk_0 (by decide) (by decide)
          refine rn_ldc2 (v := (9223372036854775807 : Int64)) wd_1447 dX10_sealFor_20 ?_
          refine rn_goto (tgt := 29) dX10_sealFor_23 (by decide) ?_
          refine rn_lstore_n dX10_sealFor_29 rfl (by decide) [(0, .ref o0_), (1, .int x1_), (2, .int x4), (3, .long (9223372036854775807 : Int64))] rfl ?_
          refine rn_aload_n (i := 0) dX10_sealFor_30 rfl rfl ?_
          obtain ⟨o45, hx45, m45⟩ := fs_r hf1 23 rfl
          refine rn_get q1 kg_SGModel_57 hl1 hx45 dX10_sealFor_31 ?_
          refine rn_iload_n (i := 2) dX10_sealFor_34 rfl rfl ?_
          obtain ⟨q46, f46, hq46, hl46, hf46⟩ := ts_ia hW m45 hk_54
          refine rs_iald q46 hl46 hf46 rfl r11 (by decide) (by decide) dX10_sealFor_35 (fun v47 ev47 rv47 => ?_)
          refine rn_if_ne (tgt := 70) dX10_sealFor_36 (by decide) (fun h48 => ?_) (fun h48 => ?_)
          · have ch48 := cv_ne h48
            refine rs_iinc (-1) (14) dX10_sealFor_70 rfl (by decide) r11 rk_m1 (by decide) (fun v49 => [(0, .ref o0_), (1, .int x1_), (2, .int v49), (3, .long (9223372036854775807 : Int64))]) (fun _ => rfl) (fun v49 ev49 rv49 => ?_)
            refine rn_goto (tgt := 7) dX10_sealFor_73 (by decide) ?_
            refine rn_lv [(0, .ref o0_), (1, .int x1_), (2, .int v49)] rfl ?_
            exact ih _ (lp_dec hm8 ev49 rv49 (by decide)) v49 (rg_w rv49 (by decide) (by decide)) rfl
          · have ch48 := cv_eq h48
            have r50 : Rg (0) (0) v47 := rf_eqx ch48 rv47 rk_0 (by decide) (by decide)
            refine rn_aload_n (i := 0) dX10_sealFor_39 rfl rfl ?_
            obtain ⟨o51, hx51, m51⟩ := fs_r hf1 24 rfl
            refine rn_get q1 kg_SGModel_60 hl1 hx51 dX10_sealFor_40 ?_
            refine rn_iload_n (i := 2) dX10_sealFor_43 rfl rfl ?_
            obtain ⟨q52, f52, hq52, hl52, hf52⟩ := ts_ia hW m51 hk_55
            refine rs_iald q52 hl52 hf52 rfl r11 (by decide) (by decide) dX10_sealFor_44 (fun v53 ev53 rv53 => ?_)
            refine rn_iload_n (i := 1) dX10_sealFor_45 rfl rfl ?_
            refine rn_icmp_ne (tgt := 70) dX10_sealFor_46 (by decide) (fun h54 => ?_) (fun h54 => ?_)
            · have ch54 := cv_ne h54
              refine rs_iinc (-1) (14) dX10_sealFor_70 rfl (by decide) r11 rk_m1 (by decide) (fun v55 => [(0, .ref o0_), (1, .int x1_), (2, .int v55), (3, .long (9223372036854775807 : Int64))]) (fun _ => rfl) (fun v55 ev55 rv55 => ?_)
              refine rn_goto (tgt := 7) dX10_sealFor_73 (by decide) ?_
              refine rn_lv [(0, .ref o0_), (1, .int x1_), (2, .int v55)] rfl ?_
              exact ih _ (lp_dec hm8 ev55 rv55 (by decide)) v55 (rg_w rv55 (by decide) (by decide)) rfl
            · have ch54 := cv_eq h54
              have r56 : Rg (0) (3) x1_ := rf_eqy ch54 rv53 (rg_any x1_) (by decide) (by decide)
              refine rn_aload_n (i := 0) dX10_sealFor_49 rfl rfl ?_
              refine rn_iload_n (i := 2) dX10_sealFor_50 rfl rfl ?_
              refine rn_callV (a := 0) (b := 0) [.int x4] kl_SGModel_207 dX10_sealFor_51 q1 hl1 rfl (t_X10_isDead G S ws hW o0_ m0_ x4 r11) rfl rfl (Nat.le_of_ble_eq_true rfl) (Nat.le_of_ble_eq_true rfl) (Nat.le_of_ble_eq_true rfl) (Nat.le_of_ble_eq_true rfl) (Nat.le_of_ble_eq_true rfl) (Nat.le_of_ble_eq_true rfl) (fun _ _ h => False.elim h) (fun v9 w57 h58 => ?_)
              obtain ⟨rfl, v59, rfl, rv59⟩ := h58
              refine rn_stk [.int v59] rfl ?_
              refine rn_if_ne (tgt := 70) dX10_sealFor_54 (by decide) (fun h61 => ?_) (fun h61 => ?_)
              · have ch61 := cv_ne h61
                have r62 : Rg (1) (1) v59 := rf_nel ch61 rv59 rk_0 (by decide) (by decide)
                refine rs_iinc (-1) (14) dX10_sealFor_70 rfl (by decide) r11 rk_m1 (by decide) (fun v63 => [(0, .ref o0_), (1, .int x1_), (2, .int v63), (3, .long (9223372036854775807 : Int64))]) (fun _ => rfl) (fun v63 ev63 rv63 => ?_)
                refine rn_goto (tgt := 7) dX10_sealFor_73 (by decide) ?_
                refine rn_lv [(0, .ref o0_), (1, .int x1_), (2, .int v63)] rfl ?_
                exact ih _ (lp_dec hm8 ev63 rv63 (by decide)) v63 (rg_w rv63 (by decide) (by decide)) rfl
              · have ch61 := cv_eq h61
                have r64 : Rg (0) (0) v59 := rf_eqx ch61 rv59 rk_0 (by decide) (by decide)
                refine rn_aload_n (i := 0) dX10_sealFor_57 rfl rfl ?_
                obtain ⟨o65, hx65, m65⟩ := fs_r hf1 31 rfl
                refine rn_get q1 kg_SGModel_83 hl1 hx65 dX10_sealFor_58 ?_
                refine rn_iload_n (i := 2) dX10_sealFor_61 rfl rfl ?_
                obtain ⟨q66, f66, hq66, hl66⟩ := ts_la hW m65 hk_62
                refine rs_lald q66 hl66 rfl r11 (by decide) (by decide) dX10_sealFor_62 (fun v67 ev67 => ?_)
                refine rn_lload_n (i := 3) dX10_sealFor_63 rfl rfl ?_
                refine rn_lcmp dX10_sealFor_64 (rn_tn (-1) 1 (rg_lcmp _ _) (fun v68 rv68 => ?_))
                refine rn_if_eq (tgt := 70) dX10_sealFor_65 (by decide) (fun h69 => ?_) (fun h69 => ?_)
                · have ch69 := cv_eq h69
                  have r70 : Rg (0) (0) v68 := rf_eqx ch69 rv68 rk_0 (by decide) (by decide)
                  refine rs_iinc (-1) (14) dX10_sealFor_70 rfl (by decide) r11 rk_m1 (by decide) (fun v71 => [(0, .ref o0_), (1, .int x1_), (2, .int v71), (3, .long (9223372036854775807 : Int64))]) (fun _ => rfl) (fun v71 ev71 rv71 => ?_)
                  refine rn_goto (tgt := 7) dX10_sealFor_73 (by decide) ?_
                  refine rn_lv [(0, .ref o0_), (1, .int x1_), (2, .int v71)] rfl ?_
                  exact ih _ (lp_dec hm8 ev71 rv71 (by decide)) v71 (rg_w rv71 (by decide) (by decide)) rfl
                · have ch69 := cv_ne h69
                  refine rn_iload_n (i := 2) dX10_sealFor_68 rfl rfl ?_
                  exact rn_iret dX10_sealFor_69 rfl rfl (rq_in ⟨rfl, x4, rfl, (rg_w r11 (by decide) (by decide))⟩)
  exact LP5 _ v3 rv3 rfl
abbrev q_t_X10_heapOf (G : rn_G) (S : ts_S) (ws : va_W) : rn_R → va_W → Prop := rQ (fun v w => ws = w ∧ (∃ x : Int32, v = some (.int x) ∧ Rg (-1) (3) x)) (fun E w => False)
set_option maxRecDepth 20000 in
set_option maxHeartbeats 4000000 in
theorem t_X10_heapOf (G : rn_G) (S : ts_S) (ws : va_W) (hW : ts_W G S ws) (o0_ : Nat) (m0_ : (o0_, 30) ∈ S) (x1_ : Int32) (x2_ : Int32) : Rn G mX10_heapOf 0 0 0 0 0 (lv_args 0 [.ref o0_, .int x1_, .int x2_]) [] ws (q_t_X10_heapOf G S ws ) := by
  refine rn_lv [(0, .ref o0_), (1, .int x1_), (2, .int x2_)] rfl ?_
  refine rn_iconst (v := (0 : Int32)) dX10_heapOf_0 (by decide) ?_
  refine rn_istore_n dX10_heapOf_1 rfl (by decide) [(0, .ref o0_), (1, .int x1_), (2, .int x2_), (3, .int (0 : Int32))] rfl ?_
  have LP2 : ∀ (n : Nat) (x1 : Int32), Rg (0) (4) x1 → (4 - x1.toInt).toNat = n → Rn G mX10_heapOf 0 0 0 0 2 [(0, .ref o0_), (1, .int x1_), (2, .int x2_), (3, .int x1)] [] ws (q_t_X10_heapOf G S ws ) := by
    intro n
    induction n using Nat.strongRecOn with
    | _ n ih =>
      intro x1 r4 hm5
      refine rn_iload_n (i := 3) dX10_heapOf_2 rfl rfl ?_
      refine rn_iconst (v := (4 : Int32)) dX10_heapOf_3 (by decide) ?_
      refine rn_icmp_ge (tgt := 44) dX10_heapOf_4 (by decide) (fun h6 => ?_) (fun h6 => ?_)
      · have ch6 := cv_le h6
        have r7 : Rg (4) (4) x1 := rf_ley ch6 rk_4 r4 (by decide)
        refine rn_iconst (v := (-1 : Int32)) dX10_heapOf_44 (by decide) ?_
        exact rn_iret dX10_heapOf_45 rfl rfl (rq_in ⟨rfl, (-1 : Int32), rfl, (rg_w rk_m1 (by decide) (by decide))⟩)
      · have ch6 := cv_nle h6
        have r8 : Rg (0) (3) x1 := rf_ltx ch6 r4 rk_4 (by decide)
        refine rn_aload_n (i := 0) dX10_heapOf_7 rfl rfl ?_
        obtain ⟨q9, fs9, hq9, hl9, hf9⟩ := ts_obj hW m0_ hk_30
        obtain ⟨o10, hx10, m10⟩ := fs_r hf9 36 rfl
        refine rn_get q9 kg_SGModel_95 hl9 hx10 dX10_heapOf_8 ?_
        refine rn_iload_n (i := 3) dX10_heapOf_11 rfl rfl ?_
        obtain ⟨q11, f11, hq11, hl11, hf11⟩ := ts_ia hW m10 hk_67
        refine rs_zald q11 hl11 hf11 rfl r8 (by decide) (by decide) dX10_heapOf_12 (fun v12 ev12 rv12 => ?_)
        refine rn_if_eq (tgt := 38) dX10_heapOf_13 (by decide) (fun h13 => ?_) (fun h13 => ?_)
        · have ch13 := cv_eq h13
          have r14 : Rg (0) (0) v12 := rf_eqx ch13 rv12 rk_0 (by decide) (by decide)
          refine rs_iinc (1) (4) dX10_heapOf_38 rfl (by decide) r8 rk_1 (by decide) (fun v15 => [(0, .ref o0_), (1, .int x1_), (2, .int x2_), (3, .int v15)]) (fun _ => rfl) (fun v15 ev15 rv15 => ?_)
          refine rn_goto (tgt := 2) dX10_heapOf_41 (by decide) ?_
          refine rn_lv [(0, .ref o0_), (1, .int x1_), (2, .int x2_), (3, .int v15)] rfl ?_
          exact ih _ (lp_inc hm5 ev15 rv15 (by decide)) v15 (rg_w rv15 (by decide) (by decide)) rfl
        · have ch13 := cv_ne h13
          have r16 : Rg (1) (1) v12 := rf_nel ch13 rv12 rk_0 (by decide) (by decide)
          refine rn_aload_n (i := 0) dX10_heapOf_16 rfl rfl ?_
          obtain ⟨o17, hx17, m17⟩ := fs_r hf9 37 rfl
          refine rn_get q9 kg_SGModel_98 hl9 hx17 dX10_heapOf_17 ?_
          refine rn_iload_n (i := 3) dX10_heapOf_20 rfl rfl ?_
          obtain ⟨q18, f18, hq18, hl18, hf18⟩ := ts_ia hW m17 hk_68
          refine rs_iald q18 hl18 hf18 rfl r8 (by decide) (by decide) dX10_heapOf_21 (fun v19 ev19 rv19 => ?_)
          refine rn_iload_n (i := 1) dX10_heapOf_22 rfl rfl ?_
          refine rn_icmp_ne (tgt := 38) dX10_heapOf_23 (by decide) (fun h20 => ?_) (fun h20 => ?_)
          · have ch20 := cv_ne h20
            refine rs_iinc (1) (4) dX10_heapOf_38 rfl (by decide) r8 rk_1 (by decide) (fun v21 => [(0, .ref o0_), (1, .int x1_), (2, .int x2_), (3, .int v21)]) (fun _ => rfl) (fun v21 ev21 rv21 => ?_)
            refine rn_goto (tgt := 2) dX10_heapOf_41 (by decide) ?_
            refine rn_lv [(0, .ref o0_), (1, .int x1_), (2, .int x2_), (3, .int v21)] rfl ?_
            exact ih _ (lp_inc hm5 ev21 rv21 (by decide)) v21 (rg_w rv21 (by decide) (by decide)) rfl
          · have ch20 := cv_eq h20
            refine rn_aload_n (i := 0) dX10_heapOf_26 rfl rfl ?_
            obtain ⟨o22, hx22, m22⟩ := fs_r hf9 38 rfl
            refine rn_get q9 kg_SGModel_101 hl9 hx22 dX10_heapOf_27 ?_
            refine rn_iload_n (i := 3) dX10_heapOf_30 rfl rfl ?_
            obtain ⟨q23, f23, hq23, hl23, hf23⟩ := ts_ia hW m22 hk_69
            refine rs_iald q23 hl23 hf23 rfl r8 (by decide) (by decide) dX10_heapOf_31 (fun v24 ev24 rv24 => ?_)
            refine rn_iload_n (i := 2) dX10_heapOf_32 rfl rfl ?_
            refine rn_icmp_ne (tgt := 38) dX10_heapOf_33 (by decide) (fun h25 => ?_) (fun h25 => ?_)
            · have ch25 := cv_ne h25
              refine rs_iinc (1) (4) dX10_heapOf_38 rfl (by decide) r8 rk_1 (by decide) (fun v26 => [(0, .ref o0_), (1, .int x1_), (2, .int x2_), (3, .int v26)]) (fun _ => rfl) (fun v26 ev26 rv26 => ?_)
              refine rn_goto (tgt := 2) dX10_heapOf_41 (by decide) ?_
              refine rn_lv [(0, .ref o0_), (1, .int x1_), (2, .int x2_), (3, .int v26)] rfl ?_
              exact ih _ (lp_inc hm5 ev26 rv26 (by decide)) v26 (rg_w rv26 (by decide) (by decide)) rfl
            · have ch25 := cv_eq h25
              refine rn_iload_n (i := 3) dX10_heapOf_36 rfl rfl ?_
              exact rn_iret dX10_heapOf_37 rfl rfl (rq_in ⟨rfl, x1, rfl, (rg_w r8 (by decide) (by decide))⟩)
  exact LP2 _ (0 : Int32) (rg_w rk_0 (by decide) (by decide)) rfl
abbrev q_t_X10_newHeap (G : rn_G) (S : ts_S) (ws : va_W) : rn_R → va_W → Prop := rQ (fun v w => St G S [30, 67, 68, 69, 70, 71, 72, 73] ws S w ∧ (∃ x : Int32, v = some (.int x) ∧ Rg (0) (3) x ∧ fK1 4 S ws w)) (fun E w => False)
set_option maxRecDepth 20000 in
set_option maxHeartbeats 4000000 in
theorem t_X10_newHeap (G : rn_G) (S : ts_S) (ws : va_W) (hW : ts_W G S ws) (o0_ : Nat) (m0_ : (o0_, 30) ∈ S) (x1_ : Int32) (x2_ : Int32) : Rn G mX10_newHeap 0 0 0 0 0 (lv_args 0 [.ref o0_, .int x1_, .int x2_]) [] ws (q_t_X10_newHeap G S ws ) := by
  have hS0 : St G S [30, 67, 68, 69, 70, 71, 72, 73] ws S ws := St.rf hW
  have fk0 : fK1 4 S ws ws := fun v h => h
  refine rn_lv [(0, .ref o0_), (1, .int x1_), (2, .int x2_)] rfl ?_
  refine rn_iconst (v := (0 : Int32)) dX10_newHeap_0 (by decide) ?_
  refine rn_istore_n dX10_newHeap_1 rfl (by decide) [(0, .ref o0_), (1, .int x1_), (2, .int x2_), (3, .int (0 : Int32))] rfl ?_
  refine rn_iconst (v := (3 : Int32)) dX10_newHeap_2 (by decide) ?_
  refine rn_istore dX10_newHeap_3 (by decide) [(0, .ref o0_), (1, .int x1_), (2, .int x2_), (3, .int (0 : Int32)), (4, .int (3 : Int32))] rfl ?_
  have LP3 : ∀ (n : Nat) (x1 : Int32) (x2 : Int32), Rg (0) (3) x1 → Rg (-1) (3) x2 → (x2.toInt - (-1)).toNat = n → Rn G mX10_newHeap 0 0 0 0 5 [(0, .ref o0_), (1, .int x1_), (2, .int x2_), (3, .int x1), (4, .int x2)] [] ws (q_t_X10_newHeap G S ws ) := by
    intro n
    induction n using Nat.strongRecOn with
    | _ n ih =>
      intro x1 x2 r5 r6 hm7
      refine rn_iload dX10_newHeap_5 rfl ?_
      refine rn_if_lt (tgt := 33) dX10_newHeap_7 (by decide) (fun h8 => ?_) (fun h8 => ?_)
      · have ch8 := cv_lt h8
        have r9 : Rg (-1) (-1) x2 := rf_ltx ch8 r6 rk_0 (by decide)
        refine rn_aload_n (i := 0) dX10_newHeap_33 rfl rfl ?_
        obtain ⟨q10, fs10, hq10, hl10, hf10⟩ := ts_obj hS0.1 m0_ hk_30
        obtain ⟨o11, hx11, m11⟩ := fs_r hf10 36 rfl
        refine rn_get q10 kg_SGModel_95 hl10 hx11 dX10_newHeap_34 ?_
        refine rn_iload_n (i := 3) dX10_newHeap_37 rfl rfl ?_
        obtain ⟨q12, f12, hq12, hl12, hf12⟩ := ts_ia hS0.1 m11 hk_67
        refine rs_zald q12 hl12 hf12 rfl r5 (by decide) (by decide) dX10_newHeap_38 (fun v13 ev13 rv13 => ?_)
        refine rn_if_eq (tgt := 80) dX10_newHeap_39 (by decide) (fun h14 => ?_) (fun h14 => ?_)
        · have ch14 := cv_eq h14
          have r15 : Rg (0) (0) v13 := rf_eqx ch14 rv13 rk_0 (by decide) (by decide)
          refine rn_aload_n (i := 0) dX10_newHeap_80 rfl rfl ?_
          refine rn_get q10 kg_SGModel_95 hl10 hx11 dX10_newHeap_81 ?_
          refine rn_iload_n (i := 3) dX10_newHeap_84 rfl rfl ?_
          refine rn_iconst (v := (1 : Int32)) dX10_newHeap_85 (by decide) ?_
          refine rs_zast q12 hS0 hq12 hl12 hf12 hk_67 rfl rfl r5 (by decide) (by decide) (by decide) (by decide) dX10_newHeap_86 (fun w16 f17 hS17 hl17 hf17 hu17 hn17 => ?_)
          have fk18 : fK1 4 S ws w16 := fk_ne fk0 hn17 hq12 rfl
          refine rn_aload_n (i := 0) dX10_newHeap_87 rfl rfl ?_
          obtain ⟨o19, hx19, m19⟩ := fs_r hf10 37 rfl
          refine rn_get q10 kg_SGModel_98 ((hn17 _ (ts_ne hq12 hq10 rfl)).trans hl10) hx19 dX10_newHeap_88 ?_
          refine rn_iload_n (i := 3) dX10_newHeap_91 rfl rfl ?_
          refine rn_iload_n (i := 1) dX10_newHeap_92 rfl rfl ?_
          obtain ⟨q20, f20, hq20, hl20, hf20⟩ := ts_ia hS17.1 m19 hk_68
          refine rs_iast q20 hS17 hq20 hl20 hf20 hk_68 rfl rfl r5 (by decide) (by decide) (rg_any x1_) dX10_newHeap_93 (fun w21 f22 hS22 hl22 hf22 hu22 hn22 => ?_)
          have fk23 : fK1 4 S ws w21 := fk_ne fk18 hn22 hq20 rfl
          refine rn_aload_n (i := 0) dX10_newHeap_94 rfl rfl ?_
          obtain ⟨o24, hx24, m24⟩ := fs_r hf10 38 rfl
          refine rn_get q10 kg_SGModel_101 ((hn22 _ (ts_ne hq20 hq10 rfl)).trans ((hn17 _ (ts_ne hq12 hq10 rfl)).trans hl10)) hx24 dX10_newHeap_95 ?_
          refine rn_iload_n (i := 3) dX10_newHeap_98 rfl rfl ?_
          refine rn_iload_n (i := 2) dX10_newHeap_99 rfl rfl ?_
          obtain ⟨q25, f25, hq25, hl25, hf25⟩ := ts_ia hS22.1 m24 hk_69
          refine rs_iast q25 hS22 hq25 hl25 hf25 hk_69 rfl rfl r5 (by decide) (by decide) (rg_any x2_) dX10_newHeap_100 (fun w26 f27 hS27 hl27 hf27 hu27 hn27 => ?_)
          have fk28 : fK1 4 S ws w26 := fk_ne fk23 hn27 hq25 rfl
          refine rn_aload_n (i := 0) dX10_newHeap_101 rfl rfl ?_
          obtain ⟨o29, hx29, m29⟩ := fs_r hf10 39 rfl
          refine rn_get q10 kg_SGModel_104 ((hn27 _ (ts_ne hq25 hq10 rfl)).trans ((hn22 _ (ts_ne hq20 hq10 rfl)).trans ((hn17 _ (ts_ne hq12 hq10 rfl)).trans hl10))) hx29 dX10_newHeap_102 ?_
          refine rn_iload_n (i := 3) dX10_newHeap_105 rfl rfl ?_
          refine rn_iconst (v := (-1 : Int32)) dX10_newHeap_106 (by decide) ?_
          obtain ⟨q30, f30, hq30, hl30, hf30⟩ := ts_ia hS27.1 m29 hk_70
          refine rs_iast q30 hS27 hq30 hl30 hf30 hk_70 rfl rfl r5 (by decide) (by decide) (rg_w rk_m1 (by decide) (by decide)) dX10_newHeap_107 (fun w31 f32 hS32 hl32 hf32 hu32 hn32 => ?_)
          have fk33 : fK1 4 S ws w31 := fk_ne fk28 hn32 hq30 rfl
          refine rn_aload_n (i := 0) dX10_newHeap_108 rfl rfl ?_
          obtain ⟨o34, hx34, m34⟩ := fs_r hf10 40 rfl
          refine rn_get q10 kg_SGModel_107 ((hn32 _ (ts_ne hq30 hq10 rfl)).trans ((hn27 _ (ts_ne hq25 hq10 rfl)).trans ((hn22 _ (ts_ne hq20 hq10 rfl)).trans ((hn17 _ (ts_ne hq12 hq10 rfl)).trans hl10)))) hx34 dX10_newHeap_109 ?_
          refine rn_iload_n (i := 3) dX10_newHeap_112 rfl rfl ?_
          refine rn_aload_n (i := 0) dX10_newHeap_113 rfl rfl ?_
          obtain ⟨x35, hx35, rx35⟩ := fs_i hf10 43 rfl
          refine rn_get q10 kg_SGModel_292 ((hn32 _ (ts_ne hq30 hq10 rfl)).trans ((hn27 _ (ts_ne hq25 hq10 rfl)).trans ((hn22 _ (ts_ne hq20 hq10 rfl)).trans ((hn17 _ (ts_ne hq12 hq10 rfl)).trans hl10)))) hx35 dX10_newHeap_114 ?_
          obtain ⟨q36, f36, hq36, hl36, hf36⟩ := ts_ia hS32.1 m34 hk_71
          refine rs_iast q36 hS32 hq36 hl36 hf36 hk_71 rfl rfl r5 (by decide) (by decide) rx35 dX10_newHeap_117 (fun w37 f38 hS38 hl38 hf38 hu38 hn38 => ?_)
          have fk39 : fK1 4 S ws w37 := fk_ne fk33 hn38 hq36 rfl
          refine rn_aload_n (i := 0) dX10_newHeap_118 rfl rfl ?_
          refine rn_dup dX10_newHeap_119 rfl ?_
          refine rn_get q10 kg_SGModel_292 ((hn38 _ (ts_ne hq36 hq10 rfl)).trans ((hn32 _ (ts_ne hq30 hq10 rfl)).trans ((hn27 _ (ts_ne hq25 hq10 rfl)).trans ((hn22 _ (ts_ne hq20 hq10 rfl)).trans ((hn17 _ (ts_ne hq12 hq10 rfl)).trans hl10))))) hx35 dX10_newHeap_120 ?_
          refine rn_iconst (v := (1 : Int32)) dX10_newHeap_123 (by decide) ?_
          refine rn_iadd dX10_newHeap_124 (rn_nmA (fun v40 rv40 => ?_))
          refine rs_put q10 (kp_SGModel_292 _) hS38 hq10 ((hn38 _ (ts_ne hq36 hq10 rfl)).trans ((hn32 _ (ts_ne hq30 hq10 rfl)).trans ((hn27 _ (ts_ne hq25 hq10 rfl)).trans ((hn22 _ (ts_ne hq20 hq10 rfl)).trans ((hn17 _ (ts_ne hq12 hq10 rfl)).trans hl10))))) hf10 hk_30 rfl rfl (tv_i rv40) rfl rfl dX10_newHeap_125 (fun w41 fs42 hS42 hl42 hf42 hx42 ho42 hn42 => ?_)
          have fk43 : fK1 4 S ws w41 := fk_put fk39 hS38.1 hq10 ((hn38 _ (ts_ne hq36 hq10 rfl)).trans ((hn32 _ (ts_ne hq30 hq10 rfl)).trans ((hn27 _ (ts_ne hq25 hq10 rfl)).trans ((hn22 _ (ts_ne hq20 hq10 rfl)).trans ((hn17 _ (ts_ne hq12 hq10 rfl)).trans hl10))))) hl42 ho42 (by decide)
          refine rn_aload_n (i := 0) dX10_newHeap_128 rfl rfl ?_
          obtain ⟨o44, hx44, m44⟩ := fs_r hf42 41 rfl
          refine rn_get q10 kg_SGModel_110 hl42 hx44 dX10_newHeap_129 ?_
          refine rn_iload_n (i := 3) dX10_newHeap_132 rfl rfl ?_
          refine rn_iconst (v := (0 : Int32)) dX10_newHeap_133 (by decide) ?_
          obtain ⟨q45, f45, hq45, hl45, hf45⟩ := ts_ia hS42.1 m44 hk_72
          refine rs_iast q45 hS42 hq45 hl45 hf45 hk_72 rfl rfl r5 (by decide) (by decide) (rg_w rk_0 (by decide) (by decide)) dX10_newHeap_134 (fun w46 f47 hS47 hl47 hf47 hu47 hn47 => ?_)
          have fk48 : fK1 4 S ws w46 := fk_ne fk43 hn47 hq45 rfl
          refine rn_iconst (v := (0 : Int32)) dX10_newHeap_135 (by decide) ?_
          refine rn_istore dX10_newHeap_136 (by decide) [(0, .ref o0_), (1, .int x1_), (2, .int x2_), (3, .int x1), (4, .int (0 : Int32))] rfl ?_
          have LP50 : ∀ (n : Nat) (w51 : va_W) (x49 : Int32), St G S [73] w46 S w51 → Rg (0) (1980) x49 → (1980 - x49.toInt).toNat = n → Rn G mX10_newHeap 0 0 0 0 138 [(0, .ref o0_), (1, .int x1_), (2, .int x2_), (3, .int x1), (4, .int x49)] [] w51 (q_t_X10_newHeap G S ws ) := by
            intro n
            induction n using Nat.strongRecOn with
            | _ n ih =>
              intro w51 x49 hT52 r53 hm54
              have fk55 : fK1 4 S ws w51 := fk_fr fk48 hT52 rfl
              refine rn_iload dX10_newHeap_138 rfl ?_
              refine rn_sipush (v := (1980 : Int32)) dX10_newHeap_140 (by decide) ?_
              refine rn_icmp_ge (tgt := 166) dX10_newHeap_143 (by decide) (fun h56 => ?_) (fun h56 => ?_)
              · have ch56 := cv_le h56
                have r57 : Rg (1980) (1980) x49 := rf_ley ch56 rk_1980 r53 (by decide)
                have hS58 := St.tr hS47 hT52 rfl
                refine rn_iload_n (i := 3) dX10_newHeap_166 rfl rfl ?_
                exact rn_iret dX10_newHeap_167 rfl rfl (rq_in ⟨hS58, x1, rfl, r5, fk55⟩)
              · have ch56 := cv_nle h56
                have r59 : Rg (0) (1979) x49 := rf_ltx ch56 r53 rk_1980 (by decide)
                refine rn_aload_n (i := 0) dX10_newHeap_146 rfl rfl ?_
                obtain ⟨o60, hx60, m60⟩ := fs_r hf42 42 rfl
                refine rn_get q10 kg_SGModel_113 (hT52.fr hq10 rfl ((hn47 _ (ts_ne hq45 hq10 rfl)).trans hl42)) hx60 dX10_newHeap_147 ?_
                refine rn_sipush (v := (1980 : Int32)) dX10_newHeap_150 (by decide) ?_
                refine rn_iload_n (i := 3) dX10_newHeap_153 rfl rfl ?_
                refine rs_mulD (0) (5940) rk_1980 r5 dX10_newHeap_154 (by decide) (fun v61 ev61 rv61 => ?_)
                refine rn_iload dX10_newHeap_155 rfl ?_
                refine rs_addR (0) (7919) rv61 r59 dX10_newHeap_157 (by decide) (fun v62 ev62 rv62 => ?_)
                refine rn_iconst (v := (0 : Int32)) dX10_newHeap_158 (by decide) ?_
                obtain ⟨q63, f63, hq63, hl63, hf63⟩ := ts_ia hT52.1 m60 hk_73
                refine rs_zast q63 hT52 hq63 hl63 hf63 hk_73 rfl rfl rv62 (by decide) (by decide) (by decide) (by decide) dX10_newHeap_159 (fun w64 f65 hS65 hl65 hf65 hu65 hn65 => ?_)
                have fk66 : fK1 4 S ws w64 := fk_ne fk55 hn65 hq63 rfl
                refine rs_iinc (1) (1980) dX10_newHeap_160 rfl (by decide) r59 rk_1 (by decide) (fun v67 => [(0, .ref o0_), (1, .int x1_), (2, .int x2_), (3, .int x1), (4, .int v67)]) (fun _ => rfl) (fun v67 ev67 rv67 => ?_)
                refine rn_goto (tgt := 138) dX10_newHeap_163 (by decide) ?_
                refine rn_lv [(0, .ref o0_), (1, .int x1_), (2, .int x2_), (3, .int x1), (4, .int v67)] rfl ?_
                exact ih _ (lp_inc hm54 ev67 rv67 (by decide)) w64 v67 hS65 (rg_w rv67 (by decide) (by decide)) rfl
          exact LP50 _ w46 (0 : Int32) (St.rf hS47.1) (rg_w rk_0 (by decide) (by decide)) rfl
        · have ch14 := cv_ne h14
          have r68 : Rg (1) (1) v13 := rf_nel ch14 rv13 rk_0 (by decide) (by decide)
          refine rn_iconst (v := (0 : Int32)) dX10_newHeap_42 (by decide) ?_
          refine rn_istore dX10_newHeap_43 (by decide) [(0, .ref o0_), (1, .int x1_), (2, .int x2_), (3, .int x1), (4, .int (0 : Int32))] rfl ?_
          have LP71 : ∀ (n : Nat) (x69 : Int32) (x70 : Int32), Rg (0) (3) x69 → Rg (0) (4) x70 → (4 - x70.toInt).toNat = n → Rn G mX10_newHeap 0 0 0 0 45 [(0, .ref o0_), (1, .int x1_), (2, .int x2_), (3, .int x69), (4, .int x70)] [] ws (q_t_X10_newHeap G S ws ) := by
            intro n
            induction n using Nat.strongRecOn with
            | _ n ih =>
              intro x69 x70 r73 r74 hm75
              refine rn_iload dX10_newHeap_45 rfl ?_
              refine rn_iconst (v := (4 : Int32)) dX10_newHeap_47 (by decide) ?_
              refine rn_icmp_ge (tgt := 80) dX10_newHeap_48 (by decide) (fun h76 => ?_) (fun h76 => ?_)
              · have ch76 := cv_le h76
                have r77 : Rg (4) (4) x70 := rf_ley ch76 rk_4 r74 (by decide)
                refine rn_aload_n (i := 0) dX10_newHeap_80 rfl rfl ?_
                refine rn_get q10 kg_SGModel_95 hl10 hx11 dX10_newHeap_81 ?_
                refine rn_iload_n (i := 3) dX10_newHeap_84 rfl rfl ?_
                refine rn_iconst (v := (1 : Int32)) dX10_newHeap_85 (by decide) ?_
                refine rs_zast q12 hS0 hq12 hl12 hf12 hk_67 rfl rfl r73 (by decide) (by decide) (by decide) (by decide) dX10_newHeap_86 (fun w78 f79 hS79 hl79 hf79 hu79 hn79 => ?_)
                have fk80 : fK1 4 S ws w78 := fk_ne fk0 hn79 hq12 rfl
                refine rn_aload_n (i := 0) dX10_newHeap_87 rfl rfl ?_
                obtain ⟨o81, hx81, m81⟩ := fs_r hf10 37 rfl
                refine rn_get q10 kg_SGModel_98 ((hn79 _ (ts_ne hq12 hq10 rfl)).trans hl10) hx81 dX10_newHeap_88 ?_
                refine rn_iload_n (i := 3) dX10_newHeap_91 rfl rfl ?_
                refine rn_iload_n (i := 1) dX10_newHeap_92 rfl rfl ?_
                obtain ⟨q82, f82, hq82, hl82, hf82⟩ := ts_ia hS79.1 m81 hk_68
                refine rs_iast q82 hS79 hq82 hl82 hf82 hk_68 rfl rfl r73 (by decide) (by decide) (rg_any x1_) dX10_newHeap_93 (fun w83 f84 hS84 hl84 hf84 hu84 hn84 => ?_)
                have fk85 : fK1 4 S ws w83 := fk_ne fk80 hn84 hq82 rfl
                refine rn_aload_n (i := 0) dX10_newHeap_94 rfl rfl ?_
                obtain ⟨o86, hx86, m86⟩ := fs_r hf10 38 rfl
                refine rn_get q10 kg_SGModel_101 ((hn84 _ (ts_ne hq82 hq10 rfl)).trans ((hn79 _ (ts_ne hq12 hq10 rfl)).trans hl10)) hx86 dX10_newHeap_95 ?_
                refine rn_iload_n (i := 3) dX10_newHeap_98 rfl rfl ?_
                refine rn_iload_n (i := 2) dX10_newHeap_99 rfl rfl ?_
                obtain ⟨q87, f87, hq87, hl87, hf87⟩ := ts_ia hS84.1 m86 hk_69
                refine rs_iast q87 hS84 hq87 hl87 hf87 hk_69 rfl rfl r73 (by decide) (by decide) (rg_any x2_) dX10_newHeap_100 (fun w88 f89 hS89 hl89 hf89 hu89 hn89 => ?_)
                have fk90 : fK1 4 S ws w88 := fk_ne fk85 hn89 hq87 rfl
                refine rn_aload_n (i := 0) dX10_newHeap_101 rfl rfl ?_
                obtain ⟨o91, hx91, m91⟩ := fs_r hf10 39 rfl
                refine rn_get q10 kg_SGModel_104 ((hn89 _ (ts_ne hq87 hq10 rfl)).trans ((hn84 _ (ts_ne hq82 hq10 rfl)).trans ((hn79 _ (ts_ne hq12 hq10 rfl)).trans hl10))) hx91 dX10_newHeap_102 ?_
                refine rn_iload_n (i := 3) dX10_newHeap_105 rfl rfl ?_
                refine rn_iconst (v := (-1 : Int32)) dX10_newHeap_106 (by decide) ?_
                obtain ⟨q92, f92, hq92, hl92, hf92⟩ := ts_ia hS89.1 m91 hk_70
                refine rs_iast q92 hS89 hq92 hl92 hf92 hk_70 rfl rfl r73 (by decide) (by decide) (rg_w rk_m1 (by decide) (by decide)) dX10_newHeap_107 (fun w93 f94 hS94 hl94 hf94 hu94 hn94 => ?_)
                have fk95 : fK1 4 S ws w93 := fk_ne fk90 hn94 hq92 rfl
                refine rn_aload_n (i := 0) dX10_newHeap_108 rfl rfl ?_
                obtain ⟨o96, hx96, m96⟩ := fs_r hf10 40 rfl
                refine rn_get q10 kg_SGModel_107 ((hn94 _ (ts_ne hq92 hq10 rfl)).trans ((hn89 _ (ts_ne hq87 hq10 rfl)).trans ((hn84 _ (ts_ne hq82 hq10 rfl)).trans ((hn79 _ (ts_ne hq12 hq10 rfl)).trans hl10)))) hx96 dX10_newHeap_109 ?_
                refine rn_iload_n (i := 3) dX10_newHeap_112 rfl rfl ?_
                refine rn_aload_n (i := 0) dX10_newHeap_113 rfl rfl ?_
                obtain ⟨x97, hx97, rx97⟩ := fs_i hf10 43 rfl
                refine rn_get q10 kg_SGModel_292 ((hn94 _ (ts_ne hq92 hq10 rfl)).trans ((hn89 _ (ts_ne hq87 hq10 rfl)).trans ((hn84 _ (ts_ne hq82 hq10 rfl)).trans ((hn79 _ (ts_ne hq12 hq10 rfl)).trans hl10)))) hx97 dX10_newHeap_114 ?_
                obtain ⟨q98, f98, hq98, hl98, hf98⟩ := ts_ia hS94.1 m96 hk_71
                refine rs_iast q98 hS94 hq98 hl98 hf98 hk_71 rfl rfl r73 (by decide) (by decide) rx97 dX10_newHeap_117 (fun w99 f100 hS100 hl100 hf100 hu100 hn100 => ?_)
                have fk101 : fK1 4 S ws w99 := fk_ne fk95 hn100 hq98 rfl
                refine rn_aload_n (i := 0) dX10_newHeap_118 rfl rfl ?_
                refine rn_dup dX10_newHeap_119 rfl ?_
                refine rn_get q10 kg_SGModel_292 ((hn100 _ (ts_ne hq98 hq10 rfl)).trans ((hn94 _ (ts_ne hq92 hq10 rfl)).trans ((hn89 _ (ts_ne hq87 hq10 rfl)).trans ((hn84 _ (ts_ne hq82 hq10 rfl)).trans ((hn79 _ (ts_ne hq12 hq10 rfl)).trans hl10))))) hx97 dX10_newHeap_120 ?_
                refine rn_iconst (v := (1 : Int32)) dX10_newHeap_123 (by decide) ?_
                refine rn_iadd dX10_newHeap_124 (rn_nmA (fun v102 rv102 => ?_))
                refine rs_put q10 (kp_SGModel_292 _) hS100 hq10 ((hn100 _ (ts_ne hq98 hq10 rfl)).trans ((hn94 _ (ts_ne hq92 hq10 rfl)).trans ((hn89 _ (ts_ne hq87 hq10 rfl)).trans ((hn84 _ (ts_ne hq82 hq10 rfl)).trans ((hn79 _ (ts_ne hq12 hq10 rfl)).trans hl10))))) hf10 hk_30 rfl rfl (tv_i rv102) rfl rfl dX10_newHeap_125 (fun w103 fs104 hS104 hl104 hf104 hx104 ho104 hn104 => ?_)
                have fk105 : fK1 4 S ws w103 := fk_put fk101 hS100.1 hq10 ((hn100 _ (ts_ne hq98 hq10 rfl)).trans ((hn94 _ (ts_ne hq92 hq10 rfl)).trans ((hn89 _ (ts_ne hq87 hq10 rfl)).trans ((hn84 _ (ts_ne hq82 hq10 rfl)).trans ((hn79 _ (ts_ne hq12 hq10 rfl)).trans hl10))))) hl104 ho104 (by decide)
                refine rn_aload_n (i := 0) dX10_newHeap_128 rfl rfl ?_
                obtain ⟨o106, hx106, m106⟩ := fs_r hf104 41 rfl
                refine rn_get q10 kg_SGModel_110 hl104 hx106 dX10_newHeap_129 ?_
                refine rn_iload_n (i := 3) dX10_newHeap_132 rfl rfl ?_
                refine rn_iconst (v := (0 : Int32)) dX10_newHeap_133 (by decide) ?_
                obtain ⟨q107, f107, hq107, hl107, hf107⟩ := ts_ia hS104.1 m106 hk_72
                refine rs_iast q107 hS104 hq107 hl107 hf107 hk_72 rfl rfl r73 (by decide) (by decide) (rg_w rk_0 (by decide) (by decide)) dX10_newHeap_134 (fun w108 f109 hS109 hl109 hf109 hu109 hn109 => ?_)
                have fk110 : fK1 4 S ws w108 := fk_ne fk105 hn109 hq107 rfl
                refine rn_iconst (v := (0 : Int32)) dX10_newHeap_135 (by decide) ?_
                refine rn_istore dX10_newHeap_136 (by decide) [(0, .ref o0_), (1, .int x1_), (2, .int x2_), (3, .int x69), (4, .int (0 : Int32))] rfl ?_
                have LP112 : ∀ (n : Nat) (w113 : va_W) (x111 : Int32), St G S [73] w108 S w113 → Rg (0) (1980) x111 → (1980 - x111.toInt).toNat = n → Rn G mX10_newHeap 0 0 0 0 138 [(0, .ref o0_), (1, .int x1_), (2, .int x2_), (3, .int x69), (4, .int x111)] [] w113 (q_t_X10_newHeap G S ws ) := by
                  intro n
                  induction n using Nat.strongRecOn with
                  | _ n ih =>
                    intro w113 x111 hT114 r115 hm116
                    have fk117 : fK1 4 S ws w113 := fk_fr fk110 hT114 rfl
                    refine rn_iload dX10_newHeap_138 rfl ?_
                    refine rn_sipush (v := (1980 : Int32)) dX10_newHeap_140 (by decide) ?_
                    refine rn_icmp_ge (tgt := 166) dX10_newHeap_143 (by decide) (fun h118 => ?_) (fun h118 => ?_)
                    · have ch118 := cv_le h118
                      have r119 : Rg (1980) (1980) x111 := rf_ley ch118 rk_1980 r115 (by decide)
                      have hS120 := St.tr hS109 hT114 rfl
                      refine rn_iload_n (i := 3) dX10_newHeap_166 rfl rfl ?_
                      exact rn_iret dX10_newHeap_167 rfl rfl (rq_in ⟨hS120, x69, rfl, r73, fk117⟩)
                    · have ch118 := cv_nle h118
                      have r121 : Rg (0) (1979) x111 := rf_ltx ch118 r115 rk_1980 (by decide)
                      refine rn_aload_n (i := 0) dX10_newHeap_146 rfl rfl ?_
                      obtain ⟨o122, hx122, m122⟩ := fs_r hf104 42 rfl
                      refine rn_get q10 kg_SGModel_113 (hT114.fr hq10 rfl ((hn109 _ (ts_ne hq107 hq10 rfl)).trans hl104)) hx122 dX10_newHeap_147 ?_
                      refine rn_sipush (v := (1980 : Int32)) dX10_newHeap_150 (by decide) ?_
                      refine rn_iload_n (i := 3) dX10_newHeap_153 rfl rfl ?_
                      refine rs_mulD (0) (5940) rk_1980 r73 dX10_newHeap_154 (by decide) (fun v123 ev123 rv123 => ?_)
                      refine rn_iload dX10_newHeap_155 rfl ?_
                      refine rs_addR (0) (7919) rv123 r121 dX10_newHeap_157 (by decide) (fun v124 ev124 rv124 => ?_)
                      refine rn_iconst (v := (0 : Int32)) dX10_newHeap_158 (by decide) ?_
                      obtain ⟨q125, f125, hq125, hl125, hf125⟩ := ts_ia hT114.1 m122 hk_73
                      refine rs_zast q125 hT114 hq125 hl125 hf125 hk_73 rfl rfl rv124 (by decide) (by decide) (by decide) (by decide) dX10_newHeap_159 (fun w126 f127 hS127 hl127 hf127 hu127 hn127 => ?_)
                      have fk128 : fK1 4 S ws w126 := fk_ne fk117 hn127 hq125 rfl
                      have hl129 := ((hn127 _ (ts_ne hq125 hq12 rfl)).trans (hT114.fr hq12 rfl ((hn109 _ (ts_ne hq107 hq12 rfl)).trans ((hn104 _ (ts_ne hq10 hq12 rfl)).trans ((hn100 _ (ts_ne hq98 hq12 rfl)).trans ((hn94 _ (ts_ne hq92 hq12 rfl)).trans ((hn89 _ (ts_ne hq87 hq12 rfl)).trans ((hn84 _ (ts_ne hq82 hq12 rfl)).trans hl79))))))))
                      refine rs_iinc (1) (1980) dX10_newHeap_160 rfl (by decide) r121 rk_1 (by decide) (fun v130 => [(0, .ref o0_), (1, .int x1_), (2, .int x2_), (3, .int x69), (4, .int v130)]) (fun _ => rfl) (fun v130 ev130 rv130 => ?_)
                      refine rn_goto (tgt := 138) dX10_newHeap_163 (by decide) ?_
                      refine rn_lv [(0, .ref o0_), (1, .int x1_), (2, .int x2_), (3, .int x69), (4, .int v130)] rfl ?_
                      exact ih _ (lp_inc hm116 ev130 rv130 (by decide)) w126 v130 hS127 (rg_w rv130 (by decide) (by decide)) rfl
                exact LP112 _ w108 (0 : Int32) (St.rf hS109.1) (rg_w rk_0 (by decide) (by decide)) rfl
              · have ch76 := cv_nle h76
                have r131 : Rg (0) (3) x70 := rf_ltx ch76 r74 rk_4 (by decide)
                refine rn_aload_n (i := 0) dX10_newHeap_51 rfl rfl ?_
                obtain ⟨o132, hx132, m132⟩ := fs_r hf10 40 rfl
                refine rn_get q10 kg_SGModel_107 hl10 hx132 dX10_newHeap_52 ?_
                refine rn_iload dX10_newHeap_55 rfl ?_
                obtain ⟨q133, f133, hq133, hl133, hf133⟩ := ts_ia hS0.1 m132 hk_71
                refine rs_iald q133 hl133 hf133 rfl r131 (by decide) (by decide) dX10_newHeap_57 (fun v134 ev134 rv134 => ?_)
                refine rn_aload_n (i := 0) dX10_newHeap_58 rfl rfl ?_
                refine rn_get q10 kg_SGModel_107 hl10 hx132 dX10_newHeap_59 ?_
                refine rn_iload_n (i := 3) dX10_newHeap_62 rfl rfl ?_
                refine rs_iald q133 hl133 hf133 rfl r73 (by decide) (by decide) dX10_newHeap_63 (fun v135 ev135 rv135 => ?_)
                refine rn_icmp_ge (tgt := 72) dX10_newHeap_64 (by decide) (fun h136 => ?_) (fun h136 => ?_)
                · have ch136 := cv_le h136
                  refine rn_iload_n (i := 3) dX10_newHeap_72 rfl rfl ?_
                  refine rn_istore_n dX10_newHeap_73 rfl (by decide) [(0, .ref o0_), (1, .int x1_), (2, .int x2_), (3, .int x69), (4, .int x70)] rfl ?_
                  refine rs_iinc (1) (4) dX10_newHeap_74 rfl (by decide) r131 rk_1 (by decide) (fun v137 => [(0, .ref o0_), (1, .int x1_), (2, .int x2_), (3, .int x69), (4, .int v137)]) (fun _ => rfl) (fun v137 ev137 rv137 => ?_)
                  refine rn_goto (tgt := 45) dX10_newHeap_77 (by decide) ?_
                  refine rn_lv [(0, .ref o0_), (1, .int x1_), (2, .int x2_), (3, .int x69), (4, .int v137)] rfl ?_
                  exact ih _ (lp_inc hm75 ev137 rv137 (by decide)) x69 v137 r73 (rg_w rv137 (by decide) (by decide)) rfl
                · have ch136 := cv_nle h136
                  have r138 : Rg (-2147483648) (2147483646) v134 := rf_ltx ch136 rv134 rv135 (by decide)
                  have r139 : Rg (-2147483647) (2147483647) v135 := rf_lty ch136 rv134 rv135 (by decide)
                  refine rn_iload dX10_newHeap_67 rfl ?_
                  refine rn_goto (tgt := 73) dX10_newHeap_69 (by decide) ?_
                  refine rn_istore_n dX10_newHeap_73 rfl (by decide) [(0, .ref o0_), (1, .int x1_), (2, .int x2_), (3, .int x70), (4, .int x70)] rfl ?_
                  refine rs_iinc (1) (4) dX10_newHeap_74 rfl (by decide) r131 rk_1 (by decide) (fun v140 => [(0, .ref o0_), (1, .int x1_), (2, .int x2_), (3, .int x70), (4, .int v140)]) (fun _ => rfl) (fun v140 ev140 rv140 => ?_)
                  refine rn_goto (tgt := 45) dX10_newHeap_77 (by decide) ?_
                  refine rn_lv [(0, .ref o0_), (1, .int x1_), (2, .int x2_), (3, .int x70), (4, .int v140)] rfl ?_
                  exact ih _ (lp_inc hm75 ev140 rv140 (by decide)) x70 v140 r131 (rg_w rv140 (by decide) (by decide)) rfl
          exact LP71 _ x1 (0 : Int32) r5 (rg_w rk_0 (by decide) (by decide)) rfl
      · have ch8 := cv_nlt h8
        have r141 : Rg (0) (3) x2 := rf_ley ch8 rk_0 r6 (by decide)
        refine rn_aload_n (i := 0) dX10_newHeap_10 rfl rfl ?_
        obtain ⟨q142, fs142, hq142, hl142, hf142⟩ := ts_obj hS0.1 m0_ hk_30
        obtain ⟨o143, hx143, m143⟩ := fs_r hf142 36 rfl
        refine rn_get q142 kg_SGModel_95 hl142 hx143 dX10_newHeap_11 ?_
        refine rn_iload dX10_newHeap_14 rfl ?_
        obtain ⟨q144, f144, hq144, hl144, hf144⟩ := ts_ia hS0.1 m143 hk_67
        refine rs_zald q144 hl144 hf144 rfl r141 (by decide) (by decide) dX10_newHeap_16 (fun v145 ev145 rv145 => ?_)
        refine rn_if_ne (tgt := 25) dX10_newHeap_17 (by decide) (fun h146 => ?_) (fun h146 => ?_)
        · have ch146 := cv_ne h146
          have r147 : Rg (1) (1) v145 := rf_nel ch146 rv145 rk_0 (by decide) (by decide)
          refine rn_iload_n (i := 3) dX10_newHeap_25 rfl rfl ?_
          refine rn_istore_n dX10_newHeap_26 rfl (by decide) [(0, .ref o0_), (1, .int x1_), (2, .int x2_), (3, .int x1), (4, .int x2)] rfl ?_
          refine rs_iinc (-1) (2) dX10_newHeap_27 rfl (by decide) r141 rk_m1 (by decide) (fun v148 => [(0, .ref o0_), (1, .int x1_), (2, .int x2_), (3, .int x1), (4, .int v148)]) (fun _ => rfl) (fun v148 ev148 rv148 => ?_)
          refine rn_goto (tgt := 5) dX10_newHeap_30 (by decide) ?_
          refine rn_lv [(0, .ref o0_), (1, .int x1_), (2, .int x2_), (3, .int x1), (4, .int v148)] rfl ?_
          exact ih _ (lp_dec hm7 ev148 rv148 (by decide)) x1 v148 r5 (rg_w rv148 (by decide) (by decide)) rfl
        · have ch146 := cv_eq h146
          have r149 : Rg (0) (0) v145 := rf_eqx ch146 rv145 rk_0 (by decide) (by decide)
          refine rn_iload dX10_newHeap_20 rfl ?_
          refine rn_goto (tgt := 26) dX10_newHeap_22 (by decide) ?_
          refine rn_istore_n dX10_newHeap_26 rfl (by decide) [(0, .ref o0_), (1, .int x1_), (2, .int x2_), (3, .int x2), (4, .int x2)] rfl ?_
          refine rs_iinc (-1) (2) dX10_newHeap_27 rfl (by decide) r141 rk_m1 (by decide) (fun v150 => [(0, .ref o0_), (1, .int x1_), (2, .int x2_), (3, .int x2), (4, .int v150)]) (fun _ => rfl) (fun v150 ev150 rv150 => ?_)
          refine rn_goto (tgt := 5) dX10_newHeap_30 (by decide) ?_
          refine rn_lv [(0, .ref o0_), (1, .int x1_), (2, .int x2_), (3, .int x2), (4, .int v150)] rfl ?_
          exact ih _ (lp_dec hm7 ev150 rv150 (by decide)) x2 v150 r141 (rg_w rv150 (by decide) (by decide)) rfl
  exact LP3 _ (0 : Int32) (3 : Int32) (rg_w rk_0 (by decide) (by decide)) (rg_w rk_3 (by decide) (by decide)) rfl
