abbrev q_t_X9_sealNamed (G : rn_G) (S : ts_S) (ws : va_W) : rn_R → va_W → Prop := rQ (fun v w => ws = w ∧ ((v = some .null) ∨ (∃ o : Nat, v = some (.ref o) ∧ (o, 8) ∈ S))) (fun E w => False)
set_option maxRecDepth 20000 in
set_option maxHeartbeats 4000000 in
theorem t_X9_sealNamed (G : rn_G) (S : ts_S) (ws : va_W) (hW : ts_W G S ws) (o0_ : Nat) (m0_ : (o0_, 9) ∈ S) (x1_ : Int32) : Rn G mX9_sealNamed 1 20 0 0 0 (lv_args 0 [.ref o0_, .int x1_]) [] ws (q_t_X9_sealNamed G S ws ) := by
  refine rn_lv [(0, .ref o0_), (1, .int x1_)] rfl ?_
  refine rn_iconst (v := (0 : Int32)) dX9_sealNamed_0 (by decide) ?_
  refine rn_istore_n dX9_sealNamed_1 rfl (by decide) [(0, .ref o0_), (1, .int x1_), (2, .int (0 : Int32))] rfl ?_
  have LP2 : ∀ (n : Nat) (x1 : Int32), Rg (0) (16) x1 → (16 - x1.toInt).toNat = n → Rn G mX9_sealNamed 1 20 0 0 2 [(0, .ref o0_), (1, .int x1_), (2, .int x1)] [] ws (q_t_X9_sealNamed G S ws ) := by
    intro n
    induction n using Nat.strongRecOn with
    | _ n ih =>
      intro x1 r4 hm5
      refine rn_iload_n (i := 2) dX9_sealNamed_2 rfl rfl ?_
      refine rn_aload_n (i := 0) dX9_sealNamed_3 rfl rfl ?_
      obtain ⟨q6, fs6, hq6, hl6, hf6⟩ := ts_obj hW m0_ hk_9
      obtain ⟨x7, hx7, rx7⟩ := fs_i hf6 11 rfl
      refine rn_get q6 kg_SG_178 hl6 hx7 dX9_sealNamed_4 ?_
      refine rn_icmp_ge (tgt := 51) dX9_sealNamed_7 (by decide) (fun h8 => ?_) (fun h8 => ?_)
      · have ch8 := cv_le h8
        refine rn_null dX9_sealNamed_51 ?_
        exact rn_aretN dX9_sealNamed_52 rfl (rq_in ⟨rfl, Or.inl rfl⟩)
      · have ch8 := cv_nle h8
        have r9 : Rg (0) (15) x1 := rf_ltx ch8 r4 rx7 (by decide)
        have r10 : Rg (1) (16) x7 := rf_lty ch8 r4 rx7 (by decide)
        refine rn_iload_n (i := 2) dX9_sealNamed_10 rfl rfl ?_
        refine rn_bipush (v := (16 : Int32)) dX9_sealNamed_11 (by decide) ?_
        refine rn_icmp_ge (tgt := 51) dX9_sealNamed_13 (by decide) (fun h11 => (cx_le (cv_le h11) rk_16 r9 (by decide)).elim) (fun h11 => ?_)
        have ch11 := cv_nle h11
        refine rn_aload_n (i := 0) dX9_sealNamed_16 rfl rfl ?_
        obtain ⟨o12, hx12, m12⟩ := fs_r hf6 10 rfl
        refine rn_get q6 kg_SG_52 hl6 hx12 dX9_sealNamed_17 ?_
        refine rn_iload_n (i := 2) dX9_sealNamed_20 rfl rfl ?_
        obtain ⟨q13, f13, hq13, hl13, hf13⟩ := ts_ra hW m12 hk_19
        refine rs_aald q13 hl13 hf13 rfl r9 (by decide) (by decide) dX9_sealNamed_21 ?_ (fun o14 mo14 => ?_)
        · refine rn_astore_nN dX9_sealNamed_22 rfl (by decide) [(0, .ref o0_), (1, .int x1_), (2, .int x1), (3, .null)] rfl ?_
          refine rn_aload_nN (i := 3) dX9_sealNamed_23 rfl rfl ?_
          refine rn_ifnullN (tgt := 45) dX9_sealNamed_24 (by decide) ?_
          refine rs_iinc (1) (16) dX9_sealNamed_45 rfl (by decide) r9 rk_1 (by decide) (fun v15 => [(0, .ref o0_), (1, .int x1_), (2, .int v15), (3, .null)]) (fun _ => rfl) (fun v15 ev15 rv15 => ?_)
          refine rn_goto (tgt := 2) dX9_sealNamed_48 (by decide) ?_
          refine rn_lv [(0, .ref o0_), (1, .int x1_), (2, .int v15)] rfl ?_
          exact ih _ (lp_inc hm5 ev15 rv15 (by decide)) v15 (rg_w rv15 (by decide) (by decide)) rfl
        · refine rn_astore_n dX9_sealNamed_22 rfl (by decide) [(0, .ref o0_), (1, .int x1_), (2, .int x1), (3, .ref o14)] rfl ?_
          refine rn_aload_n (i := 3) dX9_sealNamed_23 rfl rfl ?_
          refine rn_ifnull dX9_sealNamed_24 ?_
          refine rn_aload_n (i := 3) dX9_sealNamed_27 rfl rfl ?_
          obtain ⟨q16, fs16, hq16, hl16, hf16⟩ := ts_obj hW mo14 hk_8
          refine rn_callV (a := 0) (b := 0) [] kl_SG_245 dX9_sealNamed_28 q16 hl16 rfl (t_X8_way G S ws hW o14 mo14) rfl rfl (Nat.le_of_ble_eq_true rfl) (Nat.le_of_ble_eq_true rfl) (Nat.le_of_ble_eq_true rfl) (Nat.le_of_ble_eq_true rfl) (Nat.le_of_ble_eq_true rfl) (Nat.le_of_ble_eq_true rfl) (fun _ _ h => False.elim h) (fun v9 w17 h18 => ?_)
          obtain ⟨rfl, v19, rfl, rv19⟩ := h18
          refine rn_stk [.int v19] rfl ?_
          refine rn_iconst (v := (1 : Int32)) dX9_sealNamed_31 (by decide) ?_
          refine rn_icmp_ne (tgt := 45) dX9_sealNamed_32 (by decide) (fun h21 => ?_) (fun h21 => ?_)
          · have ch21 := cv_ne h21
            refine rs_iinc (1) (16) dX9_sealNamed_45 rfl (by decide) r9 rk_1 (by decide) (fun v22 => [(0, .ref o0_), (1, .int x1_), (2, .int v22), (3, .ref o14)]) (fun _ => rfl) (fun v22 ev22 rv22 => ?_)
            refine rn_goto (tgt := 2) dX9_sealNamed_48 (by decide) ?_
            refine rn_lv [(0, .ref o0_), (1, .int x1_), (2, .int v22)] rfl ?_
            exact ih _ (lp_inc hm5 ev22 rv22 (by decide)) v22 (rg_w rv22 (by decide) (by decide)) rfl
          · have ch21 := cv_eq h21
            have r23 : Rg (1) (1) v19 := rf_eqx ch21 rv19 rk_1 (by decide) (by decide)
            refine rn_aload_n (i := 3) dX9_sealNamed_35 rfl rfl ?_
            refine rn_callV (a := 0) (b := 0) [] kl_SG_251 dX9_sealNamed_36 q16 hl16 rfl (t_X8_name G S ws hW o14 mo14) rfl rfl (Nat.le_of_ble_eq_true rfl) (Nat.le_of_ble_eq_true rfl) (Nat.le_of_ble_eq_true rfl) (Nat.le_of_ble_eq_true rfl) (Nat.le_of_ble_eq_true rfl) (Nat.le_of_ble_eq_true rfl) (fun _ _ h => False.elim h) (fun v9 w24 h25 => ?_)
            obtain ⟨rfl, v26, rfl, rv26⟩ := h25
            refine rn_stk [.int v26] rfl ?_
            refine rn_iload_n (i := 1) dX9_sealNamed_39 rfl rfl ?_
            refine rn_icmp_ne (tgt := 45) dX9_sealNamed_40 (by decide) (fun h28 => ?_) (fun h28 => ?_)
            · have ch28 := cv_ne h28
              refine rs_iinc (1) (16) dX9_sealNamed_45 rfl (by decide) r9 rk_1 (by decide) (fun v29 => [(0, .ref o0_), (1, .int x1_), (2, .int v29), (3, .ref o14)]) (fun _ => rfl) (fun v29 ev29 rv29 => ?_)
              refine rn_goto (tgt := 2) dX9_sealNamed_48 (by decide) ?_
              refine rn_lv [(0, .ref o0_), (1, .int x1_), (2, .int v29)] rfl ?_
              exact ih _ (lp_inc hm5 ev29 rv29 (by decide)) v29 (rg_w rv29 (by decide) (by decide)) rfl
            · have ch28 := cv_eq h28
              refine rn_aload_n (i := 3) dX9_sealNamed_43 rfl rfl ?_
              exact rn_aret dX9_sealNamed_44 rfl (rq_in ⟨rfl, Or.inr ⟨o14, rfl, mo14⟩⟩)
  exact LP2 _ (0 : Int32) (rg_w rk_0 (by decide) (by decide)) rfl
set_option maxRecDepth 20000 in
theorem n_X8_init (G : rn_G) (pre : va_W) (q : Nat) (x0 : Int32) (x1 : Int32) (x2 : Int32) (y3 : Int64) (y4 : Int64) (x5 : Int32) (r5 : Rg 0 1 x5) (x6 : Int32) : Rn G mX8_init 1 20 0 0 0 (lv_args 0 [.ref q, .int x0, .int x1, .int x2, .long y3, .long y4, .int x5, .int x6]) [] (pre ++ [(q, .inr (8, fs0_8))]) (rQ (fun v w => v = none ∧ w = pre ++ [(q, .inr (8, [.int x0, .int x1, .int x2, .long y3, .long y4, .int x5, .int x6, .int 0, .long 0, .long 0]))]) (fun _ _ => False)) := by
  refine rn_lv [(0, .ref q), (1, .int x0), (2, .int x1), (3, .int x2), (4, .long y3), (6, .long y4), (8, .int x5), (9, .int x6)] rfl ?_
  refine rn_aload_n (i := 0) dX8_init_0 rfl rfl ?_
  refine rn_objInit wd_560 wd_27 wd_28 dX8_init_1 (Nat.le_of_ble_eq_true rfl) (Nat.le_of_ble_eq_true rfl) (Nat.le_of_ble_eq_true rfl) ?_
  refine rn_aload_n (i := 0) dX8_init_4 rfl rfl ?_
  refine rn_iload_n (i := 1) dX8_init_5 rfl rfl ?_
  refine rn_put pre.length kp_SG_Seal_11 (la_mid rfl) (Nat.le_of_ble_eq_true (n := 1) rfl) rfl rfl dX8_init_6 ?_
  refine rn_world (pre ++ [(q, .inr (8, [.int x0, .int 0, .int 0, .long 0, .long 0, .int 0, .int 0, .int 0, .long 0, .long 0]))]) (set_mid rfl) ?_
  refine rn_aload_n (i := 0) dX8_init_9 rfl rfl ?_
  refine rn_iload_n (i := 2) dX8_init_10 rfl rfl ?_
  refine rn_put pre.length kp_SG_Seal_15 (la_mid rfl) (Nat.le_of_ble_eq_true (n := 2) rfl) rfl rfl dX8_init_11 ?_
  refine rn_world (pre ++ [(q, .inr (8, [.int x0, .int x1, .int 0, .long 0, .long 0, .int 0, .int 0, .int 0, .long 0, .long 0]))]) (set_mid rfl) ?_
  refine rn_aload_n (i := 0) dX8_init_14 rfl rfl ?_
  refine rn_iload_n (i := 3) dX8_init_15 rfl rfl ?_
  refine rn_put pre.length kp_SG_Seal_18 (la_mid rfl) (Nat.le_of_ble_eq_true (n := 3) rfl) rfl rfl dX8_init_16 ?_
  refine rn_world (pre ++ [(q, .inr (8, [.int x0, .int x1, .int x2, .long 0, .long 0, .int 0, .int 0, .int 0, .long 0, .long 0]))]) (set_mid rfl) ?_
  refine rn_aload_n (i := 0) dX8_init_19 rfl rfl ?_
  refine rn_lload dX8_init_20 rfl ?_
  refine rn_put pre.length kp_SG_Seal_21 (la_mid rfl) (Nat.le_of_ble_eq_true (n := 4) rfl) rfl rfl dX8_init_22 ?_
  refine rn_world (pre ++ [(q, .inr (8, [.int x0, .int x1, .int x2, .long y3, .long 0, .int 0, .int 0, .int 0, .long 0, .long 0]))]) (set_mid rfl) ?_
  refine rn_aload_n (i := 0) dX8_init_25 rfl rfl ?_
  refine rn_lload dX8_init_26 rfl ?_
  refine rn_put pre.length kp_SG_Seal_25 (la_mid rfl) (Nat.le_of_ble_eq_true (n := 5) rfl) rfl rfl dX8_init_28 ?_
  refine rn_world (pre ++ [(q, .inr (8, [.int x0, .int x1, .int x2, .long y3, .long y4, .int 0, .int 0, .int 0, .long 0, .long 0]))]) (set_mid rfl) ?_
  refine rn_aload_n (i := 0) dX8_init_31 rfl rfl ?_
  refine rn_iload dX8_init_32 rfl ?_
  refine rn_put pre.length kp_SG_Seal_28 (la_mid rfl) (Nat.le_of_ble_eq_true (n := 6) rfl) (nb_n r5) (nb_f r5) dX8_init_34 ?_
  refine rn_world (pre ++ [(q, .inr (8, [.int x0, .int x1, .int x2, .long y3, .long y4, .int x5, .int 0, .int 0, .long 0, .long 0]))]) (set_mid rfl) ?_
  refine rn_aload_n (i := 0) dX8_init_37 rfl rfl ?_
  refine rn_iload dX8_init_38 rfl ?_
  refine rn_put pre.length (kp_SG_Seal_32 _) (la_mid rfl) (Nat.le_of_ble_eq_true (n := 7) rfl) rfl rfl dX8_init_40 ?_
  refine rn_world (pre ++ [(q, .inr (8, [.int x0, .int x1, .int x2, .long y3, .long y4, .int x5, .int x6, .int 0, .long 0, .long 0]))]) (set_mid rfl) ?_
  exact rn_vret dX8_init_43 rfl (rq_in ⟨rfl, rfl⟩)
abbrev q_t_X9_seal (G : rn_G) (S : ts_S) (ws : va_W) : rn_R → va_W → Prop := rQ (fun v w => ∃ S' : ts_S, St G S [9, 19] ws S' w ∧ (∃ x : Int32, v = some (.int x) ∧ Rg (0) (15) x)) (fun E w => ∃ S' : ts_S, St G S [9, 19] ws S' w ∧ (E = "java/lang/IllegalArgumentException" ∨ E = "java/lang/IllegalStateException" ∨ E = "java/lang/IndexOutOfBoundsException"))
set_option maxRecDepth 20000 in
set_option maxHeartbeats 4000000 in
theorem t_X9_seal (G : rn_G) (S : ts_S) (ws : va_W) (hW : ts_W G S ws) (o0_ : Nat) (m0_ : (o0_, 9) ∈ S) (x1_ : Int32) (x2_ : Int32) (x3_ : Int32) (y4_ : Int64) (y5_ : Int64) (x6_ : Int32) (r6_ : Rg (0) (1) x6_) (x7_ : Int32) : Rn G mX9_seal 6 90 1 10 0 (lv_args 0 [.ref o0_, .int x1_, .int x2_, .int x3_, .long y4_, .long y5_, .int x6_, .int x7_]) [] ws (q_t_X9_seal G S ws ) := by
  have hS0 : St G S [9, 19] ws S ws := St.rf hW
  refine rn_lv [(0, .ref o0_), (1, .int x1_), (2, .int x2_), (3, .int x3_), (4, .long y4_), (6, .long y5_), (8, .int x6_), (9, .int x7_)] rfl ?_
  refine rn_iload_n (i := 2) dX9_seal_0 rfl rfl ?_
  refine rn_inS (d' := 0) (z' := 0) [.int x2_] kl_SG_155 dX9_seal_1 rfl rfl (Nat.le_of_ble_eq_true rfl) (Nat.le_of_ble_eq_true rfl) (Nat.le_of_ble_eq_true rfl) (Nat.le_of_ble_eq_true rfl) ?_
  refine rn_lv [(0, .int x2_)] rfl ?_
  refine rn_iload_n (i := 0) dX9_isTunnel_0 rfl rfl ?_
  refine rn_if_lt (tgt := 13) dX9_isTunnel_1 (by decide) (fun h1 => ?_) (fun h1 => ?_)
  · have ch1 := cv_lt h1
    have r2 : Rg (-2147483648) (-1) x2_ := rf_ltx ch1 (rg_any x2_) rk_0 (by decide)
    refine rn_iconst (v := (0 : Int32)) dX9_isTunnel_13 (by decide) ?_
    refine rn_iret dX9_isTunnel_14 rfl rfl (rq_in ?_)
    refine rn_stk [.int (0 : Int32)] rfl ?_
    refine rn_if_ne (tgt := 17) dX9_seal_4 (by decide) (fun h3 => (cx_ne (cv_ne h3) rk_0 rk_0 (by decide)).elim) (fun h3 => ?_)
    exact rn_throw kt_SG_114_158 rfl dX9_seal_7 dX9_seal_10 dX9_seal_11 dX9_seal_13 dX9_seal_16 (Nat.le_of_ble_eq_true rfl) (Nat.le_of_ble_eq_true rfl) (Nat.le_of_ble_eq_true rfl) (Nat.le_of_ble_eq_true rfl) (Nat.le_of_ble_eq_true rfl) (rq_ex ⟨S, hS0, (Or.inr (Or.inr rfl))⟩)
  · have ch1 := cv_nlt h1
    have r4 : Rg (0) (2147483647) x2_ := rf_ley ch1 rk_0 (rg_any x2_) (by decide)
    refine rn_iload_n (i := 0) dX9_isTunnel_4 rfl rfl ?_
    refine rn_iconst (v := (4 : Int32)) dX9_isTunnel_5 (by decide) ?_
    refine rn_icmp_ge (tgt := 13) dX9_isTunnel_6 (by decide) (fun h5 => ?_) (fun h5 => ?_)
    · have ch5 := cv_le h5
      have r6 : Rg (4) (2147483647) x2_ := rf_ley ch5 rk_4 r4 (by decide)
      refine rn_iconst (v := (0 : Int32)) dX9_isTunnel_13 (by decide) ?_
      refine rn_iret dX9_isTunnel_14 rfl rfl (rq_in ?_)
      refine rn_stk [.int (0 : Int32)] rfl ?_
      refine rn_if_ne (tgt := 17) dX9_seal_4 (by decide) (fun h7 => (cx_ne (cv_ne h7) rk_0 rk_0 (by decide)).elim) (fun h7 => ?_)
      exact rn_throw kt_SG_114_158 rfl dX9_seal_7 dX9_seal_10 dX9_seal_11 dX9_seal_13 dX9_seal_16 (Nat.le_of_ble_eq_true rfl) (Nat.le_of_ble_eq_true rfl) (Nat.le_of_ble_eq_true rfl) (Nat.le_of_ble_eq_true rfl) (Nat.le_of_ble_eq_true rfl) (rq_ex ⟨S, hS0, (Or.inr (Or.inr rfl))⟩)
    · have ch5 := cv_nle h5
      have r8 : Rg (0) (3) x2_ := rf_ltx ch5 r4 rk_4 (by decide)
      refine rn_iconst (v := (1 : Int32)) dX9_isTunnel_9 (by decide) ?_
      refine rn_goto (tgt := 14) dX9_isTunnel_10 (by decide) ?_
      refine rn_iret dX9_isTunnel_14 rfl rfl (rq_in ?_)
      refine rn_stk [.int (1 : Int32)] rfl ?_
      refine rn_if_ne (tgt := 17) dX9_seal_4 (by decide) (fun h9 => ?_) (fun h9 => (cx_eq (cv_eq h9) rk_1 rk_0 (by decide)).elim)
      refine rn_iload_n (i := 1) dX9_seal_17 rfl rfl ?_
      refine rn_inS (d' := 0) (z' := 0) [.int x1_] kl_SG_136 dX9_seal_18 rfl rfl (Nat.le_of_ble_eq_true rfl) (Nat.le_of_ble_eq_true rfl) (Nat.le_of_ble_eq_true rfl) (Nat.le_of_ble_eq_true rfl) ?_
      refine rn_lv [(0, .int x1_)] rfl ?_
      refine rn_iload_n (i := 0) dX9_isPortOrWay_0 rfl rfl ?_
      refine rn_if_eq (tgt := 9) dX9_isPortOrWay_1 (by decide) (fun h10 => ?_) (fun h10 => ?_)
      · have ch10 := cv_eq h10
        have r11 : Rg (0) (0) x1_ := rf_eqx ch10 (rg_any x1_) rk_0 (by decide) (by decide)
        refine rn_iconst (v := (1 : Int32)) dX9_isPortOrWay_9 (by decide) ?_
        refine rn_goto (tgt := 14) dX9_isPortOrWay_10 (by decide) ?_
        refine rn_iret dX9_isPortOrWay_14 rfl rfl (rq_in ?_)
        refine rn_stk [.int (1 : Int32)] rfl ?_
        refine rn_if_eq (tgt := 44) dX9_seal_21 (by decide) (fun h12 => (cx_eq (cv_eq h12) rk_1 rk_0 (by decide)).elim) (fun h12 => ?_)
        refine rn_iload_n (i := 3) dX9_seal_24 rfl rfl ?_
        refine rn_sipush (v := (256 : Int32)) dX9_seal_25 (by decide) ?_
        refine rn_icmp_lt (tgt := 44) dX9_seal_28 (by decide) (fun h13 => ?_) (fun h13 => ?_)
        · have ch13 := cv_lt h13
          have r14 : Rg (-2147483648) (255) x3_ := rf_ltx ch13 (rg_any x3_) rk_256 (by decide)
          exact rn_throw kt_SG_95_176 rfl dX9_seal_44 dX9_seal_47 dX9_seal_48 dX9_seal_50 dX9_seal_53 (Nat.le_of_ble_eq_true rfl) (Nat.le_of_ble_eq_true rfl) (Nat.le_of_ble_eq_true rfl) (Nat.le_of_ble_eq_true rfl) (Nat.le_of_ble_eq_true rfl) (rq_ex ⟨S, hS0, (Or.inl rfl)⟩)
        · have ch13 := cv_nlt h13
          have r15 : Rg (256) (2147483647) x3_ := rf_ley ch13 rk_256 (rg_any x3_) (by decide)
          refine rn_iload dX9_seal_31 rfl ?_
          refine rn_iconst (v := (1 : Int32)) dX9_seal_33 (by decide) ?_
          refine rn_icmp_lt (tgt := 44) dX9_seal_34 (by decide) (fun h16 => ?_) (fun h16 => ?_)
          · have ch16 := cv_lt h16
            have r17 : Rg (-2147483648) (0) x7_ := rf_ltx ch16 (rg_any x7_) rk_1 (by decide)
            exact rn_throw kt_SG_95_176 rfl dX9_seal_44 dX9_seal_47 dX9_seal_48 dX9_seal_50 dX9_seal_53 (Nat.le_of_ble_eq_true rfl) (Nat.le_of_ble_eq_true rfl) (Nat.le_of_ble_eq_true rfl) (Nat.le_of_ble_eq_true rfl) (Nat.le_of_ble_eq_true rfl) (rq_ex ⟨S, hS0, (Or.inl rfl)⟩)
          · have ch16 := cv_nlt h16
            have r18 : Rg (1) (2147483647) x7_ := rf_ley ch16 rk_1 (rg_any x7_) (by decide)
            refine rn_iload dX9_seal_37 rfl ?_
            refine rn_ldc (v := (1000000 : Int32)) wd_541 dX9_seal_39 ?_
            refine rn_icmp_le (tgt := 54) dX9_seal_41 (by decide) (fun h19 => ?_) (fun h19 => ?_)
            · have ch19 := cv_le h19
              have r20 : Rg (1) (1000000) x7_ := rf_lex ch19 r18 rk_1000000 (by decide)
              refine rn_aload_n (i := 0) dX9_seal_54 rfl rfl ?_
              obtain ⟨q21, fs21, hq21, hl21, hf21⟩ := ts_obj hS0.1 m0_ hk_9
              obtain ⟨x22, hx22, rx22⟩ := fs_i hf21 11 rfl
              refine rn_get q21 kg_SG_178 hl21 hx22 dX9_seal_55 ?_
              refine rn_if_lt (tgt := 78) dX9_seal_58 (by decide) (fun h23 => (cx_lt (cv_lt h23) rx22 rk_0 (by decide)).elim) (fun h23 => ?_)
              have ch23 := cv_nlt h23
              refine rn_aload_n (i := 0) dX9_seal_61 rfl rfl ?_
              refine rn_get q21 kg_SG_178 hl21 hx22 dX9_seal_62 ?_
              refine rn_bipush (v := (16 : Int32)) dX9_seal_65 (by decide) ?_
              refine rn_icmp_ge (tgt := 78) dX9_seal_67 (by decide) (fun h24 => ?_) (fun h24 => ?_)
              · have ch24 := cv_le h24
                have r25 : Rg (16) (16) x22 := rf_ley ch24 rk_16 rx22 (by decide)
                exact rn_throw kt_SG_80_185 rfl dX9_seal_78 dX9_seal_81 dX9_seal_82 dX9_seal_84 dX9_seal_87 (Nat.le_of_ble_eq_true rfl) (Nat.le_of_ble_eq_true rfl) (Nat.le_of_ble_eq_true rfl) (Nat.le_of_ble_eq_true rfl) (Nat.le_of_ble_eq_true rfl) (rq_ex ⟨S, hS0, (Or.inr (Or.inl rfl))⟩)
              · have ch24 := cv_nle h24
                have r26 : Rg (0) (15) x22 := rf_ltx ch24 rx22 rk_16 (by decide)
                refine rn_aload_n (i := 0) dX9_seal_70 rfl rfl ?_
                refine rn_iload_n (i := 3) dX9_seal_71 rfl rfl ?_
                refine rn_callV (a := 1) (b := 10) [.int x3_] kl_SG_181 dX9_seal_72 q21 hl21 rfl (t_X9_sealNamed G S ws hS0.1 o0_ m0_ x3_) rfl rfl (Nat.le_of_ble_eq_true rfl) (Nat.le_of_ble_eq_true rfl) (Nat.le_of_ble_eq_true rfl) (Nat.le_of_ble_eq_true rfl) (Nat.le_of_ble_eq_true rfl) (Nat.le_of_ble_eq_true rfl) (fun _ _ h => False.elim h) (fun v9 w27 h28 => ?_)
                obtain ⟨rfl, (rfl | ⟨o29, rfl, mo29⟩)⟩ := h28
                · refine rn_stk [.null] rfl ?_
                  refine rn_ifnullN (tgt := 88) dX9_seal_75 (by decide) ?_
                  refine rn_aload_n (i := 0) dX9_seal_88 rfl rfl ?_
                  obtain ⟨o31, hx31, m31⟩ := fs_r hf21 10 rfl
                  refine rn_get q21 kg_SG_52 hl21 hx31 dX9_seal_89 ?_
                  refine rn_aload_n (i := 0) dX9_seal_92 rfl rfl ?_
                  refine rn_get q21 kg_SG_178 hl21 hx22 dX9_seal_93 ?_
                  refine rn_new (a := 0) (b := 0) kn_SG_50 (Nat.le_of_ble_eq_true rfl) (Nat.le_of_ble_eq_true rfl) dX9_seal_96 (fun q32 => ?_)
                  refine rn_dup dX9_seal_99 rfl ?_
                  refine rn_iload_n (i := 1) dX9_seal_100 rfl rfl ?_
                  refine rn_iload_n (i := 2) dX9_seal_101 rfl rfl ?_
                  refine rn_iload_n (i := 3) dX9_seal_102 rfl rfl ?_
                  refine rn_lload dX9_seal_103 rfl ?_
                  refine rn_lload dX9_seal_105 rfl ?_
                  refine rn_iload dX9_seal_107 rfl ?_
                  refine rn_iload dX9_seal_109 rfl ?_
                  refine rn_callI (a := 0) (b := 0) [.int x1_, .int x2_, .int x3_, .long y4_, .long y5_, .int x6_, .int x7_] kl_SG_187 dX9_seal_111 (n_X8_init G ws q32 x1_ x2_ x3_ y4_ y5_ x6_ r6_ x7_) rq_no rfl rfl (Nat.le_of_ble_eq_true rfl) (Nat.le_of_ble_eq_true rfl) (Nat.le_of_ble_eq_true rfl) (Nat.le_of_ble_eq_true rfl) (Nat.le_of_ble_eq_true rfl) (Nat.le_of_ble_eq_true rfl) (fun v9 w33 h34 => ?_)
                  obtain ⟨rfl, hw35⟩ := h34
                  obtain ⟨S35, hT35, m35⟩ : ∃ S9, St G S [] ws S9 w33 ∧ (q32, 8) ∈ S9 := by rw [hw35]; exact ⟨_, St.app (St.rf hS0.1) rfl (by rw [hk_8]; exact Or.inl ⟨rfl, _, rfl, (ts_fs_cons (tv_i (rg_w r11 (by decide) (by decide))) (ts_fs_cons (tv_i (rg_w r8 (by decide) (by decide))) (ts_fs_cons (tv_i (rg_w r15 (by decide) (by decide))) (ts_fs_cons tv_l (ts_fs_cons tv_l (ts_fs_cons (tv_i r6_) (ts_fs_cons (tv_i (rg_w r20 (by decide) (by decide))) (ts_fs_cons (tv_i (by unfold Rg; decide)) (ts_fs_cons tv_l (ts_fs_cons tv_l ts_fs_nil))))))))))⟩), List.mem_append_right _ (List.mem_singleton.mpr rfl)⟩
                  have hS35 := St.tr hS0 hT35 rfl
                  refine rn_stk [.ref q32, .int x22, .ref o31] rfl ?_
                  obtain ⟨q36, f36, hq36, hl36, hf36⟩ := ts_ra hS35.1 (hT35.mem m31) hk_19
                  obtain ⟨q39, fs39, hq39, hl39, hf39⟩ := ts_obj hS35.1 m35 hk_8
                  refine rs_aast q36 hS35 hq36 hl36 hf36 hk_19 rfl rfl m35 hl39 rfl r26 (by decide) (by decide) dX9_seal_114 (fun w37 f38 hS38 hl38 hf38 hu38 hn38 => ?_)
                  refine rn_aload_n (i := 0) dX9_seal_115 rfl rfl ?_
                  refine rn_dup dX9_seal_116 rfl ?_
                  refine rn_get q21 kg_SG_178 ((hn38 _ (ts_ne hq36 (hT35.pos hq21) rfl)).trans (hT35.fr hq21 rfl hl21)) hx22 dX9_seal_117 ?_
                  refine rn_dup_x1 dX9_seal_120 rfl rfl ?_
                  refine rn_iconst (v := (1 : Int32)) dX9_seal_121 (by decide) ?_
                  refine rs_addC (1) (16) r26 rk_1 dX9_seal_122 (by decide) (fun v40 ev40 rv40 => ?_)
                  refine rs_put q21 (kp_SG_178 _) hS38 (hT35.pos hq21) ((hn38 _ (ts_ne hq36 (hT35.pos hq21) rfl)).trans (hT35.fr hq21 rfl hl21)) (ts_fs.mono (fun p hp => hT35.mem hp) hf21) hk_9 rfl rfl (tv_i (rg_w rv40 (by decide) (by decide))) rfl rfl dX9_seal_123 (fun w41 fs42 hS42 hl42 hf42 hx42 ho42 hn42 => ?_)
                  exact rn_iret dX9_seal_126 rfl rfl (rq_in ⟨S35, hS42, x22, rfl, r26⟩)
                · refine rn_stk [.ref o29] rfl ?_
                  refine rn_ifnull dX9_seal_75 ?_
                  exact rn_throw kt_SG_80_185 rfl dX9_seal_78 dX9_seal_81 dX9_seal_82 dX9_seal_84 dX9_seal_87 (Nat.le_of_ble_eq_true rfl) (Nat.le_of_ble_eq_true rfl) (Nat.le_of_ble_eq_true rfl) (Nat.le_of_ble_eq_true rfl) (Nat.le_of_ble_eq_true rfl) (rq_ex ⟨S, hS0, (Or.inr (Or.inl rfl))⟩)
            · have ch19 := cv_nle h19
              have r43 : Rg (1000001) (2147483647) x7_ := rf_lty ch19 rk_1000000 r18 (by decide)
              exact rn_throw kt_SG_95_176 rfl dX9_seal_44 dX9_seal_47 dX9_seal_48 dX9_seal_50 dX9_seal_53 (Nat.le_of_ble_eq_true rfl) (Nat.le_of_ble_eq_true rfl) (Nat.le_of_ble_eq_true rfl) (Nat.le_of_ble_eq_true rfl) (Nat.le_of_ble_eq_true rfl) (rq_ex ⟨S, hS0, (Or.inl rfl)⟩)
      · have ch10 := cv_ne h10
        refine rn_iload_n (i := 0) dX9_isPortOrWay_4 rfl rfl ?_
        refine rn_iconst (v := (1 : Int32)) dX9_isPortOrWay_5 (by decide) ?_
        refine rn_icmp_ne (tgt := 13) dX9_isPortOrWay_6 (by decide) (fun h44 => ?_) (fun h44 => ?_)
        · have ch44 := cv_ne h44
          refine rn_iconst (v := (0 : Int32)) dX9_isPortOrWay_13 (by decide) ?_
          refine rn_iret dX9_isPortOrWay_14 rfl rfl (rq_in ?_)
          refine rn_stk [.int (0 : Int32)] rfl ?_
          refine rn_if_eq (tgt := 44) dX9_seal_21 (by decide) (fun h45 => ?_) (fun h45 => (cx_ne (cv_ne h45) rk_0 rk_0 (by decide)).elim)
          exact rn_throw kt_SG_95_176 rfl dX9_seal_44 dX9_seal_47 dX9_seal_48 dX9_seal_50 dX9_seal_53 (Nat.le_of_ble_eq_true rfl) (Nat.le_of_ble_eq_true rfl) (Nat.le_of_ble_eq_true rfl) (Nat.le_of_ble_eq_true rfl) (Nat.le_of_ble_eq_true rfl) (rq_ex ⟨S, hS0, (Or.inl rfl)⟩)
        · have ch44 := cv_eq h44
          have r46 : Rg (1) (1) x1_ := rf_eqx ch44 (rg_any x1_) rk_1 (by decide) (by decide)
          refine rn_iconst (v := (1 : Int32)) dX9_isPortOrWay_9 (by decide) ?_
          refine rn_goto (tgt := 14) dX9_isPortOrWay_10 (by decide) ?_
          refine rn_iret dX9_isPortOrWay_14 rfl rfl (rq_in ?_)
          refine rn_stk [.int (1 : Int32)] rfl ?_
          refine rn_if_eq (tgt := 44) dX9_seal_21 (by decide) (fun h47 => (cx_eq (cv_eq h47) rk_1 rk_0 (by decide)).elim) (fun h47 => ?_)
          refine rn_iload_n (i := 3) dX9_seal_24 rfl rfl ?_
          refine rn_sipush (v := (256 : Int32)) dX9_seal_25 (by decide) ?_
          refine rn_icmp_lt (tgt := 44) dX9_seal_28 (by decide) (fun h48 => ?_) (fun h48 => ?_)
          · have ch48 := cv_lt h48
            have r49 : Rg (-2147483648) (255) x3_ := rf_ltx ch48 (rg_any x3_) rk_256 (by decide)
            exact rn_throw kt_SG_95_176 rfl dX9_seal_44 dX9_seal_47 dX9_seal_48 dX9_seal_50 dX9_seal_53 (Nat.le_of_ble_eq_true rfl) (Nat.le_of_ble_eq_true rfl) (Nat.le_of_ble_eq_true rfl) (Nat.le_of_ble_eq_true rfl) (Nat.le_of_ble_eq_true rfl) (rq_ex ⟨S, hS0, (Or.inl rfl)⟩)
          · have ch48 := cv_nlt h48
            have r50 : Rg (256) (2147483647) x3_ := rf_ley ch48 rk_256 (rg_any x3_) (by decide)
            refine rn_iload dX9_seal_31 rfl ?_
            refine rn_iconst (v := (1 : Int32)) dX9_seal_33 (by decide) ?_
            refine rn_icmp_lt (tgt := 44) dX9_seal_34 (by decide) (fun h51 => ?_) (fun h51 => ?_)
            · have ch51 := cv_lt h51
              have r52 : Rg (-2147483648) (0) x7_ := rf_ltx ch51 (rg_any x7_) rk_1 (by decide)
              exact rn_throw kt_SG_95_176 rfl dX9_seal_44 dX9_seal_47 dX9_seal_48 dX9_seal_50 dX9_seal_53 (Nat.le_of_ble_eq_true rfl) (Nat.le_of_ble_eq_true rfl) (Nat.le_of_ble_eq_true rfl) (Nat.le_of_ble_eq_true rfl) (Nat.le_of_ble_eq_true rfl) (rq_ex ⟨S, hS0, (Or.inl rfl)⟩)
            · have ch51 := cv_nlt h51
              have r53 : Rg (1) (2147483647) x7_ := rf_ley ch51 rk_1 (rg_any x7_) (by decide)
              refine rn_iload dX9_seal_37 rfl ?_
              refine rn_ldc (v := (1000000 : Int32)) wd_541 dX9_seal_39 ?_
              refine rn_icmp_le (tgt := 54) dX9_seal_41 (by decide) (fun h54 => ?_) (fun h54 => ?_)
              · have ch54 := cv_le h54
                have r55 : Rg (1) (1000000) x7_ := rf_lex ch54 r53 rk_1000000 (by decide)
                refine rn_aload_n (i := 0) dX9_seal_54 rfl rfl ?_
                obtain ⟨q56, fs56, hq56, hl56, hf56⟩ := ts_obj hS0.1 m0_ hk_9
                obtain ⟨x57, hx57, rx57⟩ := fs_i hf56 11 rfl
                refine rn_get q56 kg_SG_178 hl56 hx57 dX9_seal_55 ?_
                refine rn_if_lt (tgt := 78) dX9_seal_58 (by decide) (fun h58 => (cx_lt (cv_lt h58) rx57 rk_0 (by decide)).elim) (fun h58 => ?_)
                have ch58 := cv_nlt h58
                refine rn_aload_n (i := 0) dX9_seal_61 rfl rfl ?_
                refine rn_get q56 kg_SG_178 hl56 hx57 dX9_seal_62 ?_
                refine rn_bipush (v := (16 : Int32)) dX9_seal_65 (by decide) ?_
                refine rn_icmp_ge (tgt := 78) dX9_seal_67 (by decide) (fun h59 => ?_) (fun h59 => ?_)
                · have ch59 := cv_le h59
                  have r60 : Rg (16) (16) x57 := rf_ley ch59 rk_16 rx57 (by decide)
                  exact rn_throw kt_SG_80_185 rfl dX9_seal_78 dX9_seal_81 dX9_seal_82 dX9_seal_84 dX9_seal_87 (Nat.le_of_ble_eq_true rfl) (Nat.le_of_ble_eq_true rfl) (Nat.le_of_ble_eq_true rfl) (Nat.le_of_ble_eq_true rfl) (Nat.le_of_ble_eq_true rfl) (rq_ex ⟨S, hS0, (Or.inr (Or.inl rfl))⟩)
                · have ch59 := cv_nle h59
                  have r61 : Rg (0) (15) x57 := rf_ltx ch59 rx57 rk_16 (by decide)
                  refine rn_aload_n (i := 0) dX9_seal_70 rfl rfl ?_
                  refine rn_iload_n (i := 3) dX9_seal_71 rfl rfl ?_
                  refine rn_callV (a := 1) (b := 10) [.int x3_] kl_SG_181 dX9_seal_72 q56 hl56 rfl (t_X9_sealNamed G S ws hS0.1 o0_ m0_ x3_) rfl rfl (Nat.le_of_ble_eq_true rfl) (Nat.le_of_ble_eq_true rfl) (Nat.le_of_ble_eq_true rfl) (Nat.le_of_ble_eq_true rfl) (Nat.le_of_ble_eq_true rfl) (Nat.le_of_ble_eq_true rfl) (fun _ _ h => False.elim h) (fun v9 w62 h63 => ?_)
                  obtain ⟨rfl, (rfl | ⟨o64, rfl, mo64⟩)⟩ := h63
                  · refine rn_stk [.null] rfl ?_
                    refine rn_ifnullN (tgt := 88) dX9_seal_75 (by decide) ?_
                    refine rn_aload_n (i := 0) dX9_seal_88 rfl rfl ?_
                    obtain ⟨o66, hx66, m66⟩ := fs_r hf56 10 rfl
                    refine rn_get q56 kg_SG_52 hl56 hx66 dX9_seal_89 ?_
                    refine rn_aload_n (i := 0) dX9_seal_92 rfl rfl ?_
                    refine rn_get q56 kg_SG_178 hl56 hx57 dX9_seal_93 ?_
                    refine rn_new (a := 0) (b := 0) kn_SG_50 (Nat.le_of_ble_eq_true rfl) (Nat.le_of_ble_eq_true rfl) dX9_seal_96 (fun q67 => ?_)
                    refine rn_dup dX9_seal_99 rfl ?_
                    refine rn_iload_n (i := 1) dX9_seal_100 rfl rfl ?_
                    refine rn_iload_n (i := 2) dX9_seal_101 rfl rfl ?_
                    refine rn_iload_n (i := 3) dX9_seal_102 rfl rfl ?_
                    refine rn_lload dX9_seal_103 rfl ?_
                    refine rn_lload dX9_seal_105 rfl ?_
                    refine rn_iload dX9_seal_107 rfl ?_
                    refine rn_iload dX9_seal_109 rfl ?_
                    refine rn_callI (a := 0) (b := 0) [.int x1_, .int x2_, .int x3_, .long y4_, .long y5_, .int x6_, .int x7_] kl_SG_187 dX9_seal_111 (n_X8_init G ws q67 x1_ x2_ x3_ y4_ y5_ x6_ r6_ x7_) rq_no rfl rfl (Nat.le_of_ble_eq_true rfl) (Nat.le_of_ble_eq_true rfl) (Nat.le_of_ble_eq_true rfl) (Nat.le_of_ble_eq_true rfl) (Nat.le_of_ble_eq_true rfl) (Nat.le_of_ble_eq_true rfl) (fun v9 w68 h69 => ?_)
                    obtain ⟨rfl, hw70⟩ := h69
                    obtain ⟨S70, hT70, m70⟩ : ∃ S9, St G S [] ws S9 w68 ∧ (q67, 8) ∈ S9 := by rw [hw70]; exact ⟨_, St.app (St.rf hS0.1) rfl (by rw [hk_8]; exact Or.inl ⟨rfl, _, rfl, (ts_fs_cons (tv_i (rg_w r46 (by decide) (by decide))) (ts_fs_cons (tv_i (rg_w r8 (by decide) (by decide))) (ts_fs_cons (tv_i (rg_w r50 (by decide) (by decide))) (ts_fs_cons tv_l (ts_fs_cons tv_l (ts_fs_cons (tv_i r6_) (ts_fs_cons (tv_i (rg_w r55 (by decide) (by decide))) (ts_fs_cons (tv_i (by unfold Rg; decide)) (ts_fs_cons tv_l (ts_fs_cons tv_l ts_fs_nil))))))))))⟩), List.mem_append_right _ (List.mem_singleton.mpr rfl)⟩
                    have hS70 := St.tr hS0 hT70 rfl
                    refine rn_stk [.ref q67, .int x57, .ref o66] rfl ?_
                    obtain ⟨q71, f71, hq71, hl71, hf71⟩ := ts_ra hS70.1 (hT70.mem m66) hk_19
                    obtain ⟨q74, fs74, hq74, hl74, hf74⟩ := ts_obj hS70.1 m70 hk_8
                    refine rs_aast q71 hS70 hq71 hl71 hf71 hk_19 rfl rfl m70 hl74 rfl r61 (by decide) (by decide) dX9_seal_114 (fun w72 f73 hS73 hl73 hf73 hu73 hn73 => ?_)
                    refine rn_aload_n (i := 0) dX9_seal_115 rfl rfl ?_
                    refine rn_dup dX9_seal_116 rfl ?_
                    refine rn_get q56 kg_SG_178 ((hn73 _ (ts_ne hq71 (hT70.pos hq56) rfl)).trans (hT70.fr hq56 rfl hl56)) hx57 dX9_seal_117 ?_
                    refine rn_dup_x1 dX9_seal_120 rfl rfl ?_
                    refine rn_iconst (v := (1 : Int32)) dX9_seal_121 (by decide) ?_
                    refine rs_addC (1) (16) r61 rk_1 dX9_seal_122 (by decide) (fun v75 ev75 rv75 => ?_)
                    refine rs_put q56 (kp_SG_178 _) hS73 (hT70.pos hq56) ((hn73 _ (ts_ne hq71 (hT70.pos hq56) rfl)).trans (hT70.fr hq56 rfl hl56)) (ts_fs.mono (fun p hp => hT70.mem hp) hf56) hk_9 rfl rfl (tv_i (rg_w rv75 (by decide) (by decide))) rfl rfl dX9_seal_123 (fun w76 fs77 hS77 hl77 hf77 hx77 ho77 hn77 => ?_)
                    exact rn_iret dX9_seal_126 rfl rfl (rq_in ⟨S70, hS77, x57, rfl, r61⟩)
                  · refine rn_stk [.ref o64] rfl ?_
                    refine rn_ifnull dX9_seal_75 ?_
                    exact rn_throw kt_SG_80_185 rfl dX9_seal_78 dX9_seal_81 dX9_seal_82 dX9_seal_84 dX9_seal_87 (Nat.le_of_ble_eq_true rfl) (Nat.le_of_ble_eq_true rfl) (Nat.le_of_ble_eq_true rfl) (Nat.le_of_ble_eq_true rfl) (Nat.le_of_ble_eq_true rfl) (rq_ex ⟨S, hS0, (Or.inr (Or.inl rfl))⟩)
              · have ch54 := cv_nle h54
                have r78 : Rg (1000001) (2147483647) x7_ := rf_lty ch54 rk_1000000 r53 (by decide)
                exact rn_throw kt_SG_95_176 rfl dX9_seal_44 dX9_seal_47 dX9_seal_48 dX9_seal_50 dX9_seal_53 (Nat.le_of_ble_eq_true rfl) (Nat.le_of_ble_eq_true rfl) (Nat.le_of_ble_eq_true rfl) (Nat.le_of_ble_eq_true rfl) (Nat.le_of_ble_eq_true rfl) (rq_ex ⟨S, hS0, (Or.inl rfl)⟩)
abbrev q_t_X9_sealAt (G : rn_G) (S : ts_S) (ws : va_W) : rn_R → va_W → Prop := rQ (fun v w => ws = w ∧ (∃ o : Nat, v = some (.ref o) ∧ (o, 8) ∈ S)) (fun E w => ws = w ∧ (E = "java/lang/IndexOutOfBoundsException"))
set_option maxRecDepth 20000 in
set_option maxHeartbeats 4000000 in
theorem t_X9_sealAt (G : rn_G) (S : ts_S) (ws : va_W) (hW : ts_W G S ws) (o0_ : Nat) (m0_ : (o0_, 9) ∈ S) (x1_ : Int32) : Rn G mX9_sealAt 6 90 1 6 0 (lv_args 0 [.ref o0_, .int x1_]) [] ws (q_t_X9_sealAt G S ws ) := by
  refine rn_lv [(0, .ref o0_), (1, .int x1_)] rfl ?_
  refine rn_iload_n (i := 1) dX9_sealAt_0 rfl rfl ?_
  refine rn_if_lt (tgt := 27) dX9_sealAt_1 (by decide) (fun h1 => ?_) (fun h1 => ?_)
  · have ch1 := cv_lt h1
    have r2 : Rg (-2147483648) (-1) x1_ := rf_ltx ch1 (rg_any x1_) rk_0 (by decide)
    refine rn_null dX9_sealAt_27 ?_
    refine rn_astore_nN dX9_sealAt_28 rfl (by decide) [(0, .ref o0_), (1, .int x1_), (2, .null)] rfl ?_
    refine rn_aload_nN (i := 2) dX9_sealAt_29 rfl rfl ?_
    refine rn_ifnonnullN dX9_sealAt_30 ?_
    exact rn_throwW kt_SG_114_422 rfl dX9_sealAt_33 dX9_sealAt_36 dX9_sealAt_37 dX9_sealAt_40 dX9_sealAt_43 (Nat.le_of_ble_eq_true rfl) (Nat.le_of_ble_eq_true rfl) (Nat.le_of_ble_eq_true rfl) (Nat.le_of_ble_eq_true rfl) (Nat.le_of_ble_eq_true rfl) (rq_ex ⟨rfl, rfl⟩)
  · have ch1 := cv_nlt h1
    have r3 : Rg (0) (2147483647) x1_ := rf_ley ch1 rk_0 (rg_any x1_) (by decide)
    refine rn_iload_n (i := 1) dX9_sealAt_4 rfl rfl ?_
    refine rn_aload_n (i := 0) dX9_sealAt_5 rfl rfl ?_
    obtain ⟨q4, fs4, hq4, hl4, hf4⟩ := ts_obj hW m0_ hk_9
    obtain ⟨x5, hx5, rx5⟩ := fs_i hf4 11 rfl
    refine rn_get q4 kg_SG_178 hl4 hx5 dX9_sealAt_6 ?_
    refine rn_icmp_ge (tgt := 27) dX9_sealAt_9 (by decide) (fun h6 => ?_) (fun h6 => ?_)
    · have ch6 := cv_le h6
      refine rn_null dX9_sealAt_27 ?_
      refine rn_astore_nN dX9_sealAt_28 rfl (by decide) [(0, .ref o0_), (1, .int x1_), (2, .null)] rfl ?_
      refine rn_aload_nN (i := 2) dX9_sealAt_29 rfl rfl ?_
      refine rn_ifnonnullN dX9_sealAt_30 ?_
      exact rn_throwW kt_SG_114_422 rfl dX9_sealAt_33 dX9_sealAt_36 dX9_sealAt_37 dX9_sealAt_40 dX9_sealAt_43 (Nat.le_of_ble_eq_true rfl) (Nat.le_of_ble_eq_true rfl) (Nat.le_of_ble_eq_true rfl) (Nat.le_of_ble_eq_true rfl) (Nat.le_of_ble_eq_true rfl) (rq_ex ⟨rfl, rfl⟩)
    · have ch6 := cv_nle h6
      have r7 : Rg (0) (15) x1_ := rf_ltx ch6 r3 rx5 (by decide)
      have r8 : Rg (1) (16) x5 := rf_lty ch6 r3 rx5 (by decide)
      refine rn_iload_n (i := 1) dX9_sealAt_12 rfl rfl ?_
      refine rn_bipush (v := (16 : Int32)) dX9_sealAt_13 (by decide) ?_
      refine rn_icmp_ge (tgt := 27) dX9_sealAt_15 (by decide) (fun h9 => (cx_le (cv_le h9) rk_16 r7 (by decide)).elim) (fun h9 => ?_)
      have ch9 := cv_nle h9
      refine rn_aload_n (i := 0) dX9_sealAt_18 rfl rfl ?_
      obtain ⟨o10, hx10, m10⟩ := fs_r hf4 10 rfl
      refine rn_get q4 kg_SG_52 hl4 hx10 dX9_sealAt_19 ?_
      refine rn_iload_n (i := 1) dX9_sealAt_22 rfl rfl ?_
      obtain ⟨q11, f11, hq11, hl11, hf11⟩ := ts_ra hW m10 hk_19
      refine rs_aald q11 hl11 hf11 rfl r7 (by decide) (by decide) dX9_sealAt_23 ?_ (fun o12 mo12 => ?_)
      · refine rn_goto (tgt := 28) dX9_sealAt_24 (by decide) ?_
        refine rn_astore_nN dX9_sealAt_28 rfl (by decide) [(0, .ref o0_), (1, .int x1_), (2, .null)] rfl ?_
        refine rn_aload_nN (i := 2) dX9_sealAt_29 rfl rfl ?_
        refine rn_ifnonnullN dX9_sealAt_30 ?_
        exact rn_throwW kt_SG_114_422 rfl dX9_sealAt_33 dX9_sealAt_36 dX9_sealAt_37 dX9_sealAt_40 dX9_sealAt_43 (Nat.le_of_ble_eq_true rfl) (Nat.le_of_ble_eq_true rfl) (Nat.le_of_ble_eq_true rfl) (Nat.le_of_ble_eq_true rfl) (Nat.le_of_ble_eq_true rfl) (rq_ex ⟨rfl, rfl⟩)
      · refine rn_goto (tgt := 28) dX9_sealAt_24 (by decide) ?_
        refine rn_astore_n dX9_sealAt_28 rfl (by decide) [(0, .ref o0_), (1, .int x1_), (2, .ref o12)] rfl ?_
        refine rn_aload_n (i := 2) dX9_sealAt_29 rfl rfl ?_
        refine rn_ifnonnull (tgt := 44) dX9_sealAt_30 (by decide) ?_
        refine rn_aload_n (i := 2) dX9_sealAt_44 rfl rfl ?_
        exact rn_aret dX9_sealAt_45 rfl (rq_in ⟨rfl, o12, rfl, mo12⟩)
abbrev q_t_X9_stop (G : rn_G) (S : ts_S) (ws : va_W) : rn_R → va_W → Prop := rQ (fun v w => St G S [8] ws S w ∧ (∃ x : Int32, v = some (.int x) ∧ Rg (0) (1) x)) (fun E w => St G S [8] ws S w ∧ (E = "java/lang/IndexOutOfBoundsException"))
set_option maxRecDepth 20000 in
set_option maxHeartbeats 4000000 in
theorem t_X9_stop (G : rn_G) (S : ts_S) (ws : va_W) (hW : ts_W G S ws) (o0_ : Nat) (m0_ : (o0_, 9) ∈ S) (x1_ : Int32) : Rn G mX9_stop 7 112 1 6 0 (lv_args 0 [.ref o0_, .int x1_]) [] ws (q_t_X9_stop G S ws ) := by
  have hS0 : St G S [8] ws S ws := St.rf hW
  refine rn_lv [(0, .ref o0_), (1, .int x1_)] rfl ?_
  refine rn_aload_n (i := 0) dX9_stop_0 rfl rfl ?_
  refine rn_iload_n (i := 1) dX9_stop_1 rfl rfl ?_
  obtain ⟨q1, fs1, hq1, hl1, hf1⟩ := ts_obj hS0.1 m0_ hk_9
  refine rn_callV (a := 0) (b := 0) [.int x1_] kl_SG_190 dX9_stop_2 q1 hl1 rfl (t_X9_sealAt G S ws hS0.1 o0_ m0_ x1_) rfl rfl (Nat.le_of_ble_eq_true rfl) (Nat.le_of_ble_eq_true rfl) (Nat.le_of_ble_eq_true rfl) (Nat.le_of_ble_eq_true rfl) (Nat.le_of_ble_eq_true rfl) (Nat.le_of_ble_eq_true rfl) ?_ (fun v9 w2 h3 => ?_)
  · intro E w2 h3
    obtain ⟨rfl, rfl⟩ := h3
    exact rnx_out rfl (rq_ex ⟨hS0, rfl⟩)
  · obtain ⟨rfl, o5, rfl, mo5⟩ := h3
    refine rn_stk [.ref o5] rfl ?_
    refine rn_astore_n dX9_stop_5 rfl (by decide) [(0, .ref o0_), (1, .int x1_), (2, .ref o5)] rfl ?_
    refine rn_aload_n (i := 2) dX9_stop_6 rfl rfl ?_
    obtain ⟨q7, fs7, hq7, hl7, hf7⟩ := ts_obj hS0.1 mo5 hk_8
    refine rn_callV (a := 0) (b := 0) [] kl_SG_193 dX9_stop_7 q7 hl7 rfl (t_X8_isDead G S ws hS0.1 o5 mo5) rfl rfl (Nat.le_of_ble_eq_true rfl) (Nat.le_of_ble_eq_true rfl) (Nat.le_of_ble_eq_true rfl) (Nat.le_of_ble_eq_true rfl) (Nat.le_of_ble_eq_true rfl) (Nat.le_of_ble_eq_true rfl) (fun _ _ h => False.elim h) (fun v9 w8 h9 => ?_)
    obtain ⟨rfl, v10, rfl, rv10⟩ := h9
    refine rn_stk [.int v10] rfl ?_
    refine rn_if_ne (tgt := 17) dX9_stop_10 (by decide) (fun h12 => ?_) (fun h12 => ?_)
    · have ch12 := cv_ne h12
      have r13 : Rg (1) (1) v10 := rf_nel ch12 rv10 rk_0 (by decide) (by decide)
      refine rn_iconst (v := (0 : Int32)) dX9_stop_17 (by decide) ?_
      refine rn_istore_n dX9_stop_18 rfl (by decide) [(0, .ref o0_), (1, .int x1_), (2, .ref o5), (3, .int (0 : Int32))] rfl ?_
      refine rn_aload_n (i := 2) dX9_stop_19 rfl rfl ?_
      refine rn_callV (a := 0) (b := 0) [] kl_SG_196 dX9_stop_20 q7 hl7 rfl (t_X8_end G S ws hS0.1 o5 mo5) rfl rfl (Nat.le_of_ble_eq_true rfl) (Nat.le_of_ble_eq_true rfl) (Nat.le_of_ble_eq_true rfl) (Nat.le_of_ble_eq_true rfl) (Nat.le_of_ble_eq_true rfl) (Nat.le_of_ble_eq_true rfl) (fun _ _ h => False.elim h) (fun v9 w14 h15 => ?_)
      obtain ⟨hT16, rfl⟩ := h15
      have hS16 := St.tr hS0 hT16 rfl
      refine rn_stk [] rfl ?_
      refine rn_iload_n (i := 3) dX9_stop_23 rfl rfl ?_
      exact rn_iret dX9_stop_24 rfl rfl (rq_in ⟨hS16, (0 : Int32), rfl, (rg_w rk_0 (by decide) (by decide))⟩)
    · have ch12 := cv_eq h12
      have r17 : Rg (0) (0) v10 := rf_eqx ch12 rv10 rk_0 (by decide) (by decide)
      refine rn_iconst (v := (1 : Int32)) dX9_stop_13 (by decide) ?_
      refine rn_goto (tgt := 18) dX9_stop_14 (by decide) ?_
      refine rn_istore_n dX9_stop_18 rfl (by decide) [(0, .ref o0_), (1, .int x1_), (2, .ref o5), (3, .int (1 : Int32))] rfl ?_
      refine rn_aload_n (i := 2) dX9_stop_19 rfl rfl ?_
      refine rn_callV (a := 0) (b := 0) [] kl_SG_196 dX9_stop_20 q7 hl7 rfl (t_X8_end G S ws hS0.1 o5 mo5) rfl rfl (Nat.le_of_ble_eq_true rfl) (Nat.le_of_ble_eq_true rfl) (Nat.le_of_ble_eq_true rfl) (Nat.le_of_ble_eq_true rfl) (Nat.le_of_ble_eq_true rfl) (Nat.le_of_ble_eq_true rfl) (fun _ _ h => False.elim h) (fun v9 w18 h19 => ?_)
      obtain ⟨hT20, rfl⟩ := h19
      have hS20 := St.tr hS0 hT20 rfl
      refine rn_stk [] rfl ?_
      refine rn_iload_n (i := 3) dX9_stop_23 rfl rfl ?_
      exact rn_iret dX9_stop_24 rfl rfl (rq_in ⟨hS20, (1 : Int32), rfl, (rg_w rk_1 (by decide) (by decide))⟩)
abbrev q_t_X9_count (G : rn_G) (S : ts_S) (ws : va_W) : rn_R → va_W → Prop := rQ (fun v w => St G S [8] ws S w ∧ (∃ x : Int64, v = some (.long x))) (fun E w => St G S [8] ws S w ∧ (E = "java/lang/IllegalArgumentException" ∨ E = "java/lang/IndexOutOfBoundsException"))
set_option maxRecDepth 20000 in
set_option maxHeartbeats 4000000 in
theorem t_X9_count (G : rn_G) (S : ts_S) (ws : va_W) (hW : ts_W G S ws) (o0_ : Nat) (m0_ : (o0_, 9) ∈ S) (x1_ : Int32) (y2_ : Int64) : Rn G mX9_count 7 112 2 12 0 (lv_args 0 [.ref o0_, .int x1_, .long y2_]) [] ws (q_t_X9_count G S ws ) := by
  have hS0 : St G S [8] ws S ws := St.rf hW
  refine rn_lv [(0, .ref o0_), (1, .int x1_), (2, .long y2_)] rfl ?_
  refine rn_aload_n (i := 0) dX9_count_0 rfl rfl ?_
  refine rn_iload_n (i := 1) dX9_count_1 rfl rfl ?_
  obtain ⟨q1, fs1, hq1, hl1, hf1⟩ := ts_obj hS0.1 m0_ hk_9
  refine rn_callV (a := 1) (b := 6) [.int x1_] kl_SG_190 dX9_count_2 q1 hl1 rfl (t_X9_sealAt G S ws hS0.1 o0_ m0_ x1_) rfl rfl (Nat.le_of_ble_eq_true rfl) (Nat.le_of_ble_eq_true rfl) (Nat.le_of_ble_eq_true rfl) (Nat.le_of_ble_eq_true rfl) (Nat.le_of_ble_eq_true rfl) (Nat.le_of_ble_eq_true rfl) ?_ (fun v9 w2 h3 => ?_)
  · intro E w2 h3
    obtain ⟨rfl, rfl⟩ := h3
    exact rnx_out rfl (rq_ex ⟨hS0, (Or.inr rfl)⟩)
  · obtain ⟨rfl, o5, rfl, mo5⟩ := h3
    refine rn_stk [.ref o5] rfl ?_
    refine rn_astore dX9_count_5 (by decide) [(0, .ref o0_), (1, .int x1_), (2, .long y2_), (4, .ref o5)] rfl ?_
    refine rn_lload_n (i := 2) dX9_count_7 rfl rfl ?_
    refine rn_lconst (v := (0 : Int64)) dX9_count_8 (by decide) ?_
    refine rn_lcmp dX9_count_9 (rn_tn (-1) 1 (rg_lcmp _ _) (fun v7 rv7 => ?_))
    refine rn_if_lt (tgt := 23) dX9_count_10 (by decide) (fun h8 => ?_) (fun h8 => ?_)
    · have ch8 := cv_lt h8
      have r9 : Rg (-1) (-1) v7 := rf_ltx ch8 rv7 rk_0 (by decide)
      exact rn_throw kt_SG_95_203 rfl dX9_count_23 dX9_count_26 dX9_count_27 dX9_count_29 dX9_count_32 (Nat.le_of_ble_eq_true rfl) (Nat.le_of_ble_eq_true rfl) (Nat.le_of_ble_eq_true rfl) (Nat.le_of_ble_eq_true rfl) (Nat.le_of_ble_eq_true rfl) (rq_ex ⟨hS0, (Or.inl rfl)⟩)
    · have ch8 := cv_nlt h8
      have r10 : Rg (0) (1) v7 := rf_ley ch8 rk_0 rv7 (by decide)
      refine rn_lload_n (i := 2) dX9_count_13 rfl rfl ?_
      refine rn_aload dX9_count_14 rfl ?_
      obtain ⟨q11, fs11, hq11, hl11, hf11⟩ := ts_obj hS0.1 mo5 hk_8
      refine rn_callV (a := 1) (b := 6) [] kl_SG_199 dX9_count_16 q11 hl11 rfl (t_X8_lastNumber G S ws hS0.1 o5 mo5) rfl rfl (Nat.le_of_ble_eq_true rfl) (Nat.le_of_ble_eq_true rfl) (Nat.le_of_ble_eq_true rfl) (Nat.le_of_ble_eq_true rfl) (Nat.le_of_ble_eq_true rfl) (Nat.le_of_ble_eq_true rfl) (fun _ _ h => False.elim h) (fun v9 w12 h13 => ?_)
      obtain ⟨rfl, l14, rfl⟩ := h13
      refine rn_stk [.long l14, .long y2_] rfl ?_
      refine rn_lcmp dX9_count_19 (rn_tn (-1) 1 (rg_lcmp _ _) (fun v16 rv16 => ?_))
      refine rn_if_le (tgt := 33) dX9_count_20 (by decide) (fun h17 => ?_) (fun h17 => ?_)
      · have ch17 := cv_le h17
        have r18 : Rg (-1) (0) v16 := rf_lex ch17 rv16 rk_0 (by decide)
        refine rn_aload dX9_count_33 rfl ?_
        refine rn_callV (a := 1) (b := 6) [] kl_SG_205 dX9_count_35 q11 hl11 rfl (t_X8_counter G S ws hS0.1 o5 mo5) rfl rfl (Nat.le_of_ble_eq_true rfl) (Nat.le_of_ble_eq_true rfl) (Nat.le_of_ble_eq_true rfl) (Nat.le_of_ble_eq_true rfl) (Nat.le_of_ble_eq_true rfl) (Nat.le_of_ble_eq_true rfl) (fun _ _ h => False.elim h) (fun v9 w19 h20 => ?_)
        obtain ⟨rfl, l21, rfl⟩ := h20
        refine rn_stk [.long l21] rfl ?_
        refine rn_lstore dX9_count_38 (by decide) [(0, .ref o0_), (1, .int x1_), (2, .long y2_), (4, .ref o5), (5, .long l21)] rfl ?_
        refine rn_aload dX9_count_40 rfl ?_
        refine rn_lload_n (i := 2) dX9_count_42 rfl rfl ?_
        refine rn_callV (a := 1) (b := 6) [.long y2_] kl_SG_208 dX9_count_43 q11 hl11 rfl (t_X8_countFrom G S ws hS0.1 o5 mo5 y2_) rfl rfl (Nat.le_of_ble_eq_true rfl) (Nat.le_of_ble_eq_true rfl) (Nat.le_of_ble_eq_true rfl) (Nat.le_of_ble_eq_true rfl) (Nat.le_of_ble_eq_true rfl) (Nat.le_of_ble_eq_true rfl) (fun _ _ h => False.elim h) (fun v9 w23 h24 => ?_)
        obtain ⟨hT25, rfl⟩ := h24
        have hS25 := St.tr hS0 hT25 rfl
        refine rn_stk [] rfl ?_
        refine rn_lload dX9_count_46 rfl ?_
        exact rn_lret dX9_count_48 rfl (rq_in ⟨hS25, l21, rfl⟩)
      · have ch17 := cv_nle h17
        have r26 : Rg (1) (1) v16 := rf_lty ch17 rk_0 rv16 (by decide)
        exact rn_throw kt_SG_95_203 rfl dX9_count_23 dX9_count_26 dX9_count_27 dX9_count_29 dX9_count_32 (Nat.le_of_ble_eq_true rfl) (Nat.le_of_ble_eq_true rfl) (Nat.le_of_ble_eq_true rfl) (Nat.le_of_ble_eq_true rfl) (Nat.le_of_ble_eq_true rfl) (rq_ex ⟨hS0, (Or.inl rfl)⟩)
