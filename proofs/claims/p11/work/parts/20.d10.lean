abbrev q_t_X9_sum (G : rn_G) (S : ts_S) (ws : va_W) : rn_R → va_W → Prop := rQ (fun v w => St G S [11] ws S w ∧ (∃ x : Int32, v = some (.int x) ∧ Rg (-2147483648) (2147483647) x)) (fun E w => St G S [11] ws S w ∧ (E = "java/lang/IllegalStateException"))
set_option maxRecDepth 20000 in
set_option maxHeartbeats 4000000 in
theorem t_X9_sum (G : rn_G) (S : ts_S) (ws : va_W) (hW : ts_W G S ws) (o0_ : Nat) (m0_ : (o0_, 9) ∈ S) : Rn G mX9_sum 6 90 1 6 0 (lv_args 0 [.ref o0_]) [] ws (q_t_X9_sum G S ws ) := by
  have hS0 : St G S [11] ws S ws := St.rf hW
  refine rn_lv [(0, .ref o0_)] rfl ?_
  refine rn_aload_n (i := 0) dX9_sum_0 rfl rfl ?_
  obtain ⟨q1, fs1, hq1, hl1, hf1⟩ := ts_obj hS0.1 m0_ hk_9
  obtain ⟨o2, hx2, m2⟩ := fs_r hf1 1 rfl
  refine rn_get q1 kg_SG_10 hl1 hx2 dX9_sum_1 ?_
  obtain ⟨q3, fs3, hq3, hl3, hf3⟩ := ts_obj hS0.1 m2 hk_4
  refine rn_callV (a := 1) (b := 6) [] kl_SG_76 dX9_sum_4 q3 hl3 rfl (t_X4_size G S ws hS0.1 o2 m2) rfl rfl (Nat.le_of_ble_eq_true rfl) (Nat.le_of_ble_eq_true rfl) (Nat.le_of_ble_eq_true rfl) (Nat.le_of_ble_eq_true rfl) (Nat.le_of_ble_eq_true rfl) (Nat.le_of_ble_eq_true rfl) (fun _ _ h => False.elim h) (fun v9 w4 h5 => ?_)
  obtain ⟨rfl, v6, rfl, rv6⟩ := h5
  refine rn_stk [.int v6] rfl ?_
  refine rn_bipush (v := (20 : Int32)) dX9_sum_7 (by decide) ?_
  refine rn_icmp_ge (tgt := 22) dX9_sum_9 (by decide) (fun h8 => ?_) (fun h8 => ?_)
  · have ch8 := cv_le h8
    have r9 : Rg (20) (2040) v6 := rf_ley ch8 rk_20 rv6 (by decide)
    refine rn_aload_n (i := 0) dX9_sum_22 rfl rfl ?_
    refine rn_get q1 kg_SG_10 hl1 hx2 dX9_sum_23 ?_
    refine rn_callV (a := 1) (b := 6) [] kl_SG_128 dX9_sum_26 q3 hl3 rfl (t_X4_mendSum G S ws hS0.1 o2 m2) rfl rfl (Nat.le_of_ble_eq_true rfl) (Nat.le_of_ble_eq_true rfl) (Nat.le_of_ble_eq_true rfl) (Nat.le_of_ble_eq_true rfl) (Nat.le_of_ble_eq_true rfl) (Nat.le_of_ble_eq_true rfl) (fun _ _ h => False.elim h) (fun v9 w10 h11 => ?_)
    obtain ⟨hT13, v12, rfl, rv12⟩ := h11
    have hS13 := St.tr hS0 hT13 rfl
    refine rn_stk [.int v12] rfl ?_
    exact rn_iret dX9_sum_29 rfl rfl (rq_in ⟨hS13, v12, rfl, rv12⟩)
  · have ch8 := cv_nle h8
    have r14 : Rg (0) (19) v6 := rf_ltx ch8 rv6 rk_20 (by decide)
    exact rn_throw kt_SG_80_131 rfl dX9_sum_12 dX9_sum_15 dX9_sum_16 dX9_sum_18 dX9_sum_21 (Nat.le_of_ble_eq_true rfl) (Nat.le_of_ble_eq_true rfl) (Nat.le_of_ble_eq_true rfl) (Nat.le_of_ble_eq_true rfl) (Nat.le_of_ble_eq_true rfl) (rq_ex ⟨hS0, rfl⟩)
set_option maxRecDepth 20000 in
theorem n_X3_init (G : rn_G) (pre : va_W) (q : Nat) (x0 : Int32) (x1 : Int32) : Rn G mX3_init 1 20 0 0 0 (lv_args 0 [.ref q, .int x0, .int x1]) [] (pre ++ [(q, .inr (3, fs0_3))]) (rQ (fun v w => v = none ∧ w = pre ++ [(q, .inr (3, [.int x0, .int x1]))]) (fun _ _ => False)) := by
  refine rn_lv [(0, .ref q), (1, .int x0), (2, .int x1)] rfl ?_
  refine rn_aload_n (i := 0) dX3_init_0 rfl rfl ?_
  refine rn_objInit wd_457 wd_27 wd_28 dX3_init_1 (Nat.le_of_ble_eq_true rfl) (Nat.le_of_ble_eq_true rfl) (Nat.le_of_ble_eq_true rfl) ?_
  refine rn_aload_n (i := 0) dX3_init_4 rfl rfl ?_
  refine rn_iload_n (i := 1) dX3_init_5 rfl rfl ?_
  refine rn_put pre.length kp_SG_Net_7 (la_mid rfl) (Nat.le_of_ble_eq_true (n := 1) rfl) rfl rfl dX3_init_6 ?_
  refine rn_world (pre ++ [(q, .inr (3, [.int x0, .int 0]))]) (set_mid rfl) ?_
  refine rn_aload_n (i := 0) dX3_init_9 rfl rfl ?_
  refine rn_iload_n (i := 2) dX3_init_10 rfl rfl ?_
  refine rn_put pre.length kp_SG_Net_13 (la_mid rfl) (Nat.le_of_ble_eq_true (n := 2) rfl) rfl rfl dX3_init_11 ?_
  refine rn_world (pre ++ [(q, .inr (3, [.int x0, .int x1]))]) (set_mid rfl) ?_
  exact rn_vret dX3_init_14 rfl (rq_in ⟨rfl, rfl⟩)
abbrev q_t_X9_route (G : rn_G) (S : ts_S) (ws : va_W) : rn_R → va_W → Prop := rQ (fun v w => ∃ S' : ts_S, St G S [7, 16, 17] ws S' w ∧ (∃ x : Int32, v = some (.int x) ∧ Rg (1) (16) x)) (fun E w => ∃ S' : ts_S, St G S [7, 16, 17] ws S' w ∧ (E = "java/lang/IllegalArgumentException" ∨ E = "java/lang/IllegalStateException"))
set_option maxRecDepth 20000 in
set_option maxHeartbeats 4000000 in
theorem t_X9_route (G : rn_G) (S : ts_S) (ws : va_W) (hW : ts_W G S ws) (o0_ : Nat) (m0_ : (o0_, 9) ∈ S) (x1_ : Int32) (x2_ : Int32) (x3_ : Int32) : Rn G mX9_route 6 90 1 6 0 (lv_args 0 [.ref o0_, .int x1_, .int x2_, .int x3_]) [] ws (q_t_X9_route G S ws ) := by
  have hS0 : St G S [7, 16, 17] ws S ws := St.rf hW
  refine rn_lv [(0, .ref o0_), (1, .int x1_), (2, .int x2_), (3, .int x3_)] rfl ?_
  refine rn_iload_n (i := 2) dX9_route_0 rfl rfl ?_
  refine rn_inS (d' := 0) (z' := 0) [.int x2_] kl_SG_133 dX9_route_1 rfl rfl (Nat.le_of_ble_eq_true rfl) (Nat.le_of_ble_eq_true rfl) (Nat.le_of_ble_eq_true rfl) (Nat.le_of_ble_eq_true rfl) ?_
  refine rn_lv [(0, .int x2_)] rfl ?_
  refine rn_iload_n (i := 0) dX9_isWidth_0 rfl rfl ?_
  refine rn_if_lt (tgt := 14) dX9_isWidth_1 (by decide) (fun h1 => ?_) (fun h1 => ?_)
  · have ch1 := cv_lt h1
    have r2 : Rg (-2147483648) (-1) x2_ := rf_ltx ch1 (rg_any x2_) rk_0 (by decide)
    refine rn_iconst (v := (0 : Int32)) dX9_isWidth_14 (by decide) ?_
    refine rn_iret dX9_isWidth_15 rfl rfl (rq_in ?_)
    refine rn_stk [.int (0 : Int32)] rfl ?_
    refine rn_if_eq (tgt := 14) dX9_route_4 (by decide) (fun h3 => ?_) (fun h3 => (cx_ne (cv_ne h3) rk_0 rk_0 (by decide)).elim)
    exact rn_throw kt_SG_95_139 rfl dX9_route_14 dX9_route_17 dX9_route_18 dX9_route_20 dX9_route_23 (Nat.le_of_ble_eq_true rfl) (Nat.le_of_ble_eq_true rfl) (Nat.le_of_ble_eq_true rfl) (Nat.le_of_ble_eq_true rfl) (Nat.le_of_ble_eq_true rfl) (rq_ex ⟨S, hS0, (Or.inl rfl)⟩)
  · have ch1 := cv_nlt h1
    have r4 : Rg (0) (2147483647) x2_ := rf_ley ch1 rk_0 (rg_any x2_) (by decide)
    refine rn_iload_n (i := 0) dX9_isWidth_4 rfl rfl ?_
    refine rn_bipush (v := (32 : Int32)) dX9_isWidth_5 (by decide) ?_
    refine rn_icmp_gt (tgt := 14) dX9_isWidth_7 (by decide) (fun h5 => ?_) (fun h5 => ?_)
    · have ch5 := cv_lt h5
      have r6 : Rg (33) (2147483647) x2_ := rf_lty ch5 rk_32 r4 (by decide)
      refine rn_iconst (v := (0 : Int32)) dX9_isWidth_14 (by decide) ?_
      refine rn_iret dX9_isWidth_15 rfl rfl (rq_in ?_)
      refine rn_stk [.int (0 : Int32)] rfl ?_
      refine rn_if_eq (tgt := 14) dX9_route_4 (by decide) (fun h7 => ?_) (fun h7 => (cx_ne (cv_ne h7) rk_0 rk_0 (by decide)).elim)
      exact rn_throw kt_SG_95_139 rfl dX9_route_14 dX9_route_17 dX9_route_18 dX9_route_20 dX9_route_23 (Nat.le_of_ble_eq_true rfl) (Nat.le_of_ble_eq_true rfl) (Nat.le_of_ble_eq_true rfl) (Nat.le_of_ble_eq_true rfl) (Nat.le_of_ble_eq_true rfl) (rq_ex ⟨S, hS0, (Or.inl rfl)⟩)
    · have ch5 := cv_nlt h5
      have r8 : Rg (0) (32) x2_ := rf_lex ch5 r4 rk_32 (by decide)
      refine rn_iconst (v := (1 : Int32)) dX9_isWidth_10 (by decide) ?_
      refine rn_goto (tgt := 15) dX9_isWidth_11 (by decide) ?_
      refine rn_iret dX9_isWidth_15 rfl rfl (rq_in ?_)
      refine rn_stk [.int (1 : Int32)] rfl ?_
      refine rn_if_eq (tgt := 14) dX9_route_4 (by decide) (fun h9 => (cx_eq (cv_eq h9) rk_1 rk_0 (by decide)).elim) (fun h9 => ?_)
      refine rn_iload_n (i := 3) dX9_route_7 rfl rfl ?_
      refine rn_inS (d' := 0) (z' := 0) [.int x3_] kl_SG_136 dX9_route_8 rfl rfl (Nat.le_of_ble_eq_true rfl) (Nat.le_of_ble_eq_true rfl) (Nat.le_of_ble_eq_true rfl) (Nat.le_of_ble_eq_true rfl) ?_
      refine rn_lv [(0, .int x3_)] rfl ?_
      refine rn_iload_n (i := 0) dX9_isPortOrWay_0 rfl rfl ?_
      refine rn_if_eq (tgt := 9) dX9_isPortOrWay_1 (by decide) (fun h10 => ?_) (fun h10 => ?_)
      · have ch10 := cv_eq h10
        have r11 : Rg (0) (0) x3_ := rf_eqx ch10 (rg_any x3_) rk_0 (by decide) (by decide)
        refine rn_iconst (v := (1 : Int32)) dX9_isPortOrWay_9 (by decide) ?_
        refine rn_goto (tgt := 14) dX9_isPortOrWay_10 (by decide) ?_
        refine rn_iret dX9_isPortOrWay_14 rfl rfl (rq_in ?_)
        refine rn_stk [.int (1 : Int32)] rfl ?_
        refine rn_if_ne (tgt := 24) dX9_route_11 (by decide) (fun h12 => ?_) (fun h12 => (cx_eq (cv_eq h12) rk_1 rk_0 (by decide)).elim)
        refine rn_aload_n (i := 0) dX9_route_24 rfl rfl ?_
        obtain ⟨q13, fs13, hq13, hl13, hf13⟩ := ts_obj hS0.1 m0_ hk_9
        obtain ⟨o14, hx14, m14⟩ := fs_r hf13 7 rfl
        refine rn_get q13 kg_SG_35 hl13 hx14 dX9_route_25 ?_
        obtain ⟨q15, fs15, hq15, hl15, hf15⟩ := ts_obj hS0.1 m14 hk_7
        refine rn_callV (a := 1) (b := 6) [] kl_SG_141 dX9_route_28 q15 hl15 rfl (t_X7_isFull G S ws hS0.1 o14 m14) rfl rfl (Nat.le_of_ble_eq_true rfl) (Nat.le_of_ble_eq_true rfl) (Nat.le_of_ble_eq_true rfl) (Nat.le_of_ble_eq_true rfl) (Nat.le_of_ble_eq_true rfl) (Nat.le_of_ble_eq_true rfl) (fun _ _ h => False.elim h) (fun v9 w16 h17 => ?_)
        obtain ⟨rfl, v18, rfl, rv18⟩ := h17
        refine rn_stk [.int v18] rfl ?_
        refine rn_if_eq (tgt := 44) dX9_route_31 (by decide) (fun h20 => ?_) (fun h20 => ?_)
        · have ch20 := cv_eq h20
          have r21 : Rg (0) (0) v18 := rf_eqx ch20 rv18 rk_0 (by decide) (by decide)
          refine rn_aload_n (i := 0) dX9_route_44 rfl rfl ?_
          refine rn_get q13 kg_SG_35 hl13 hx14 dX9_route_45 ?_
          refine rn_new (a := 0) (b := 4) kn_SG_147 (Nat.le_of_ble_eq_true rfl) (Nat.le_of_ble_eq_true rfl) dX9_route_48 (fun q22 => ?_)
          refine rn_dup dX9_route_51 rfl ?_
          refine rn_iload_n (i := 1) dX9_route_52 rfl rfl ?_
          refine rn_iload_n (i := 2) dX9_route_53 rfl rfl ?_
          refine rn_callI (a := 0) (b := 4) [.int x1_, .int x2_] kl_SG_149 dX9_route_54 (n_X3_init G ws q22 x1_ x2_) rq_no rfl rfl (Nat.le_of_ble_eq_true rfl) (Nat.le_of_ble_eq_true rfl) (Nat.le_of_ble_eq_true rfl) (Nat.le_of_ble_eq_true rfl) (Nat.le_of_ble_eq_true rfl) (Nat.le_of_ble_eq_true rfl) (fun v9 w23 h24 => ?_)
          obtain ⟨rfl, hw25⟩ := h24
          obtain ⟨S25, hT25, m25⟩ : ∃ S9, St G S [] ws S9 w23 ∧ (q22, 3) ∈ S9 := by rw [hw25]; exact ⟨_, St.app (St.rf hS0.1) rfl (by rw [hk_3]; exact Or.inl ⟨rfl, _, rfl, (ts_fs_cons (tv_i (rg_any x1_)) (ts_fs_cons (tv_i (rg_w r8 (by decide) (by decide))) ts_fs_nil))⟩), List.mem_append_right _ (List.mem_singleton.mpr rfl)⟩
          have hS25 := St.tr hS0 hT25 rfl
          refine rn_stk [.ref q22, .ref o14] rfl ?_
          refine rn_iload_n (i := 3) dX9_route_57 rfl rfl ?_
          refine rn_callV (a := 0) (b := 4) [.ref q22, .int x3_] kl_SG_151 dX9_route_58 q15 (hT25.fr hq15 rfl hl15) rfl (t_X7_append G S25 w23 hS25.1 o14 (hT25.mem m14) q22 m25 x3_) rfl rfl (Nat.le_of_ble_eq_true rfl) (Nat.le_of_ble_eq_true rfl) (Nat.le_of_ble_eq_true rfl) (Nat.le_of_ble_eq_true rfl) (Nat.le_of_ble_eq_true rfl) (Nat.le_of_ble_eq_true rfl) (fun _ _ h => False.elim h) (fun v9 w26 h27 => ?_)
          obtain ⟨hT29, v28, rfl, rv28⟩ := h27
          have hS29 := St.tr hS25 hT29 rfl
          refine rn_stk [.int v28] rfl ?_
          exact rn_iret dX9_route_61 rfl rfl (rq_in ⟨S25, hS29, v28, rfl, rv28⟩)
        · have ch20 := cv_ne h20
          have r30 : Rg (1) (1) v18 := rf_nel ch20 rv18 rk_0 (by decide) (by decide)
          exact rn_throw kt_SG_80_145 rfl dX9_route_34 dX9_route_37 dX9_route_38 dX9_route_40 dX9_route_43 (Nat.le_of_ble_eq_true rfl) (Nat.le_of_ble_eq_true rfl) (Nat.le_of_ble_eq_true rfl) (Nat.le_of_ble_eq_true rfl) (Nat.le_of_ble_eq_true rfl) (rq_ex ⟨S, hS0, (Or.inr rfl)⟩)
      · have ch10 := cv_ne h10
        refine rn_iload_n (i := 0) dX9_isPortOrWay_4 rfl rfl ?_
        refine rn_iconst (v := (1 : Int32)) dX9_isPortOrWay_5 (by decide) ?_
        refine rn_icmp_ne (tgt := 13) dX9_isPortOrWay_6 (by decide) (fun h31 => ?_) (fun h31 => ?_)
        · have ch31 := cv_ne h31
          refine rn_iconst (v := (0 : Int32)) dX9_isPortOrWay_13 (by decide) ?_
          refine rn_iret dX9_isPortOrWay_14 rfl rfl (rq_in ?_)
          refine rn_stk [.int (0 : Int32)] rfl ?_
          refine rn_if_ne (tgt := 24) dX9_route_11 (by decide) (fun h32 => (cx_ne (cv_ne h32) rk_0 rk_0 (by decide)).elim) (fun h32 => ?_)
          exact rn_throw kt_SG_95_139 rfl dX9_route_14 dX9_route_17 dX9_route_18 dX9_route_20 dX9_route_23 (Nat.le_of_ble_eq_true rfl) (Nat.le_of_ble_eq_true rfl) (Nat.le_of_ble_eq_true rfl) (Nat.le_of_ble_eq_true rfl) (Nat.le_of_ble_eq_true rfl) (rq_ex ⟨S, hS0, (Or.inl rfl)⟩)
        · have ch31 := cv_eq h31
          have r33 : Rg (1) (1) x3_ := rf_eqx ch31 (rg_any x3_) rk_1 (by decide) (by decide)
          refine rn_iconst (v := (1 : Int32)) dX9_isPortOrWay_9 (by decide) ?_
          refine rn_goto (tgt := 14) dX9_isPortOrWay_10 (by decide) ?_
          refine rn_iret dX9_isPortOrWay_14 rfl rfl (rq_in ?_)
          refine rn_stk [.int (1 : Int32)] rfl ?_
          refine rn_if_ne (tgt := 24) dX9_route_11 (by decide) (fun h34 => ?_) (fun h34 => (cx_eq (cv_eq h34) rk_1 rk_0 (by decide)).elim)
          refine rn_aload_n (i := 0) dX9_route_24 rfl rfl ?_
          obtain ⟨q35, fs35, hq35, hl35, hf35⟩ := ts_obj hS0.1 m0_ hk_9
          obtain ⟨o36, hx36, m36⟩ := fs_r hf35 7 rfl
          refine rn_get q35 kg_SG_35 hl35 hx36 dX9_route_25 ?_
          obtain ⟨q37, fs37, hq37, hl37, hf37⟩ := ts_obj hS0.1 m36 hk_7
          refine rn_callV (a := 1) (b := 6) [] kl_SG_141 dX9_route_28 q37 hl37 rfl (t_X7_isFull G S ws hS0.1 o36 m36) rfl rfl (Nat.le_of_ble_eq_true rfl) (Nat.le_of_ble_eq_true rfl) (Nat.le_of_ble_eq_true rfl) (Nat.le_of_ble_eq_true rfl) (Nat.le_of_ble_eq_true rfl) (Nat.le_of_ble_eq_true rfl) (fun _ _ h => False.elim h) (fun v9 w38 h39 => ?_)
          obtain ⟨rfl, v40, rfl, rv40⟩ := h39
          refine rn_stk [.int v40] rfl ?_
          refine rn_if_eq (tgt := 44) dX9_route_31 (by decide) (fun h42 => ?_) (fun h42 => ?_)
          · have ch42 := cv_eq h42
            have r43 : Rg (0) (0) v40 := rf_eqx ch42 rv40 rk_0 (by decide) (by decide)
            refine rn_aload_n (i := 0) dX9_route_44 rfl rfl ?_
            refine rn_get q35 kg_SG_35 hl35 hx36 dX9_route_45 ?_
            refine rn_new (a := 0) (b := 4) kn_SG_147 (Nat.le_of_ble_eq_true rfl) (Nat.le_of_ble_eq_true rfl) dX9_route_48 (fun q44 => ?_)
            refine rn_dup dX9_route_51 rfl ?_
            refine rn_iload_n (i := 1) dX9_route_52 rfl rfl ?_
            refine rn_iload_n (i := 2) dX9_route_53 rfl rfl ?_
            refine rn_callI (a := 0) (b := 4) [.int x1_, .int x2_] kl_SG_149 dX9_route_54 (n_X3_init G ws q44 x1_ x2_) rq_no rfl rfl (Nat.le_of_ble_eq_true rfl) (Nat.le_of_ble_eq_true rfl) (Nat.le_of_ble_eq_true rfl) (Nat.le_of_ble_eq_true rfl) (Nat.le_of_ble_eq_true rfl) (Nat.le_of_ble_eq_true rfl) (fun v9 w45 h46 => ?_)
            obtain ⟨rfl, hw47⟩ := h46
            obtain ⟨S47, hT47, m47⟩ : ∃ S9, St G S [] ws S9 w45 ∧ (q44, 3) ∈ S9 := by rw [hw47]; exact ⟨_, St.app (St.rf hS0.1) rfl (by rw [hk_3]; exact Or.inl ⟨rfl, _, rfl, (ts_fs_cons (tv_i (rg_any x1_)) (ts_fs_cons (tv_i (rg_w r8 (by decide) (by decide))) ts_fs_nil))⟩), List.mem_append_right _ (List.mem_singleton.mpr rfl)⟩
            have hS47 := St.tr hS0 hT47 rfl
            refine rn_stk [.ref q44, .ref o36] rfl ?_
            refine rn_iload_n (i := 3) dX9_route_57 rfl rfl ?_
            refine rn_callV (a := 0) (b := 4) [.ref q44, .int x3_] kl_SG_151 dX9_route_58 q37 (hT47.fr hq37 rfl hl37) rfl (t_X7_append G S47 w45 hS47.1 o36 (hT47.mem m36) q44 m47 x3_) rfl rfl (Nat.le_of_ble_eq_true rfl) (Nat.le_of_ble_eq_true rfl) (Nat.le_of_ble_eq_true rfl) (Nat.le_of_ble_eq_true rfl) (Nat.le_of_ble_eq_true rfl) (Nat.le_of_ble_eq_true rfl) (fun _ _ h => False.elim h) (fun v9 w48 h49 => ?_)
            obtain ⟨hT51, v50, rfl, rv50⟩ := h49
            have hS51 := St.tr hS47 hT51 rfl
            refine rn_stk [.int v50] rfl ?_
            exact rn_iret dX9_route_61 rfl rfl (rq_in ⟨S47, hS51, v50, rfl, rv50⟩)
          · have ch42 := cv_ne h42
            have r52 : Rg (1) (1) v40 := rf_nel ch42 rv40 rk_0 (by decide) (by decide)
            exact rn_throw kt_SG_80_145 rfl dX9_route_34 dX9_route_37 dX9_route_38 dX9_route_40 dX9_route_43 (Nat.le_of_ble_eq_true rfl) (Nat.le_of_ble_eq_true rfl) (Nat.le_of_ble_eq_true rfl) (Nat.le_of_ble_eq_true rfl) (Nat.le_of_ble_eq_true rfl) (rq_ex ⟨S, hS0, (Or.inr rfl)⟩)
abbrev q_t_X9_peer (G : rn_G) (S : ts_S) (ws : va_W) : rn_R → va_W → Prop := rQ (fun v w => St G S [18] ws S w ∧ (∃ x : Int32, v = some (.int x) ∧ Rg (-2147483648) (2147483647) x)) (fun E w => St G S [18] ws S w ∧ (E = "java/lang/IndexOutOfBoundsException"))
set_option maxRecDepth 20000 in
set_option maxHeartbeats 4000000 in
theorem t_X9_peer (G : rn_G) (S : ts_S) (ws : va_W) (hW : ts_W G S ws) (o0_ : Nat) (m0_ : (o0_, 9) ∈ S) (x1_ : Int32) (x2_ : Int32) : Rn G mX9_peer 6 90 1 6 0 (lv_args 0 [.ref o0_, .int x1_, .int x2_]) [] ws (q_t_X9_peer G S ws ) := by
  have hS0 : St G S [18] ws S ws := St.rf hW
  refine rn_lv [(0, .ref o0_), (1, .int x1_), (2, .int x2_)] rfl ?_
  refine rn_iload_n (i := 1) dX9_peer_0 rfl rfl ?_
  refine rn_inS (d' := 0) (z' := 0) [.int x1_] kl_SG_155 dX9_peer_1 rfl rfl (Nat.le_of_ble_eq_true rfl) (Nat.le_of_ble_eq_true rfl) (Nat.le_of_ble_eq_true rfl) (Nat.le_of_ble_eq_true rfl) ?_
  refine rn_lv [(0, .int x1_)] rfl ?_
  refine rn_iload_n (i := 0) dX9_isTunnel_0 rfl rfl ?_
  refine rn_if_lt (tgt := 13) dX9_isTunnel_1 (by decide) (fun h1 => ?_) (fun h1 => ?_)
  · have ch1 := cv_lt h1
    have r2 : Rg (-2147483648) (-1) x1_ := rf_ltx ch1 (rg_any x1_) rk_0 (by decide)
    refine rn_iconst (v := (0 : Int32)) dX9_isTunnel_13 (by decide) ?_
    refine rn_iret dX9_isTunnel_14 rfl rfl (rq_in ?_)
    refine rn_stk [.int (0 : Int32)] rfl ?_
    refine rn_if_ne (tgt := 17) dX9_peer_4 (by decide) (fun h3 => (cx_ne (cv_ne h3) rk_0 rk_0 (by decide)).elim) (fun h3 => ?_)
    exact rn_throw kt_SG_114_158 rfl dX9_peer_7 dX9_peer_10 dX9_peer_11 dX9_peer_13 dX9_peer_16 (Nat.le_of_ble_eq_true rfl) (Nat.le_of_ble_eq_true rfl) (Nat.le_of_ble_eq_true rfl) (Nat.le_of_ble_eq_true rfl) (Nat.le_of_ble_eq_true rfl) (rq_ex ⟨hS0, rfl⟩)
  · have ch1 := cv_nlt h1
    have r4 : Rg (0) (2147483647) x1_ := rf_ley ch1 rk_0 (rg_any x1_) (by decide)
    refine rn_iload_n (i := 0) dX9_isTunnel_4 rfl rfl ?_
    refine rn_iconst (v := (4 : Int32)) dX9_isTunnel_5 (by decide) ?_
    refine rn_icmp_ge (tgt := 13) dX9_isTunnel_6 (by decide) (fun h5 => ?_) (fun h5 => ?_)
    · have ch5 := cv_le h5
      have r6 : Rg (4) (2147483647) x1_ := rf_ley ch5 rk_4 r4 (by decide)
      refine rn_iconst (v := (0 : Int32)) dX9_isTunnel_13 (by decide) ?_
      refine rn_iret dX9_isTunnel_14 rfl rfl (rq_in ?_)
      refine rn_stk [.int (0 : Int32)] rfl ?_
      refine rn_if_ne (tgt := 17) dX9_peer_4 (by decide) (fun h7 => (cx_ne (cv_ne h7) rk_0 rk_0 (by decide)).elim) (fun h7 => ?_)
      exact rn_throw kt_SG_114_158 rfl dX9_peer_7 dX9_peer_10 dX9_peer_11 dX9_peer_13 dX9_peer_16 (Nat.le_of_ble_eq_true rfl) (Nat.le_of_ble_eq_true rfl) (Nat.le_of_ble_eq_true rfl) (Nat.le_of_ble_eq_true rfl) (Nat.le_of_ble_eq_true rfl) (rq_ex ⟨hS0, rfl⟩)
    · have ch5 := cv_nle h5
      have r8 : Rg (0) (3) x1_ := rf_ltx ch5 r4 rk_4 (by decide)
      refine rn_iconst (v := (1 : Int32)) dX9_isTunnel_9 (by decide) ?_
      refine rn_goto (tgt := 14) dX9_isTunnel_10 (by decide) ?_
      refine rn_iret dX9_isTunnel_14 rfl rfl (rq_in ?_)
      refine rn_stk [.int (1 : Int32)] rfl ?_
      refine rn_if_ne (tgt := 17) dX9_peer_4 (by decide) (fun h9 => ?_) (fun h9 => (cx_eq (cv_eq h9) rk_1 rk_0 (by decide)).elim)
      refine rn_aload_n (i := 0) dX9_peer_17 rfl rfl ?_
      obtain ⟨q10, fs10, hq10, hl10, hf10⟩ := ts_obj hS0.1 m0_ hk_9
      obtain ⟨o11, hx11, m11⟩ := fs_r hf10 9 rfl
      refine rn_get q10 kg_SG_46 hl10 hx11 dX9_peer_18 ?_
      refine rn_iload_n (i := 1) dX9_peer_21 rfl rfl ?_
      obtain ⟨q12, f12, hq12, hl12, hf12⟩ := ts_ia hS0.1 m11 hk_18
      refine rs_iald q12 hl12 hf12 rfl r8 (by decide) (by decide) dX9_peer_22 (fun v13 ev13 rv13 => ?_)
      refine rn_istore_n dX9_peer_23 rfl (by decide) [(0, .ref o0_), (1, .int x1_), (2, .int x2_), (3, .int v13)] rfl ?_
      refine rn_aload_n (i := 0) dX9_peer_24 rfl rfl ?_
      refine rn_get q10 kg_SG_46 hl10 hx11 dX9_peer_25 ?_
      refine rn_iload_n (i := 1) dX9_peer_28 rfl rfl ?_
      refine rn_iload_n (i := 2) dX9_peer_29 rfl rfl ?_
      refine rs_iast q12 hS0 hq12 hl12 hf12 hk_18 rfl rfl r8 (by decide) (by decide) (rg_any x2_) dX9_peer_30 (fun w14 f15 hS15 hl15 hf15 hu15 hn15 => ?_)
      refine rn_iload_n (i := 3) dX9_peer_31 rfl rfl ?_
      exact rn_iret dX9_peer_32 rfl rfl (rq_in ⟨hS15, v13, rfl, rv13⟩)
abbrev q_t_X9_meant (G : rn_G) (S : ts_S) (ws : va_W) (x1_ x2_ x3_ : Int32) : rn_R → va_W → Prop := rQ (fun v w => St G S [5] ws S w ∧ (v = none ∧ (∃ u : Int32, cf S ws 5 5 1 (.int u) ∧ cf S w 5 5 1 (.int u)))) (fun E w => St G S [5] ws S w ∧ (E = "java/lang/IllegalArgumentException") ∧ (ws = w))
set_option maxRecDepth 20000 in
set_option maxHeartbeats 4000000 in
theorem t_X9_meant (G : rn_G) (S : ts_S) (ws : va_W) (hW : ts_W G S ws) (o0_ : Nat) (m0_ : (o0_, 9) ∈ S) (x1_ : Int32) (x2_ : Int32) (x3_ : Int32) : Rn G mX9_meant 6 90 1 6 0 (lv_args 0 [.ref o0_, .int x1_, .int x2_, .int x3_]) [] ws (q_t_X9_meant G S ws x1_ x2_ x3_) := by
  have hS0 : St G S [5] ws S ws := St.rf hW
  obtain ⟨q1, fs1, hq1, hl1, hf1⟩ := ts_obj hS0.1 m0_ hk_9
  obtain ⟨o2, hx2, m2⟩ := fs_r hf1 8 rfl
  obtain ⟨q3, fs3, hq3, hl3, hf3⟩ := ts_obj hS0.1 m2 hk_5
  obtain ⟨x4, hx4, rx4⟩ := fs_i hf3 1 rfl
  refine rn_lv [(0, .ref o0_), (1, .int x1_), (2, .int x2_), (3, .int x3_)] rfl ?_
  refine rn_iload_n (i := 1) dX9_meant_0 rfl rfl ?_
  refine rn_inS (d' := 0) (z' := 0) [.int x1_] kl_SG_104 dX9_meant_1 rfl rfl (Nat.le_of_ble_eq_true rfl) (Nat.le_of_ble_eq_true rfl) (Nat.le_of_ble_eq_true rfl) (Nat.le_of_ble_eq_true rfl) ?_
  refine rn_lv [(0, .int x1_)] rfl ?_
  refine rn_iload_n (i := 0) dX9_isByte_0 rfl rfl ?_
  refine rn_if_lt (tgt := 15) dX9_isByte_1 (by decide) (fun h5 => ?_) (fun h5 => ?_)
  · have ch5 := cv_lt h5
    have r6 : Rg (-2147483648) (-1) x1_ := rf_ltx ch5 (rg_any x1_) rk_0 (by decide)
    refine rn_iconst (v := (0 : Int32)) dX9_isByte_15 (by decide) ?_
    refine rn_iret dX9_isByte_16 rfl rfl (rq_in ?_)
    refine rn_stk [.int (0 : Int32)] rfl ?_
    refine rn_if_eq (tgt := 22) dX9_meant_4 (by decide) (fun h7 => ?_) (fun h7 => (cx_ne (cv_ne h7) rk_0 rk_0 (by decide)).elim)
    exact rn_throw kt_SG_95_161 rfl dX9_meant_22 dX9_meant_25 dX9_meant_26 dX9_meant_28 dX9_meant_31 (Nat.le_of_ble_eq_true rfl) (Nat.le_of_ble_eq_true rfl) (Nat.le_of_ble_eq_true rfl) (Nat.le_of_ble_eq_true rfl) (Nat.le_of_ble_eq_true rfl) (rq_ex ⟨hS0, rfl, rfl⟩)
  · have ch5 := cv_nlt h5
    have r8 : Rg (0) (2147483647) x1_ := rf_ley ch5 rk_0 (rg_any x1_) (by decide)
    refine rn_iload_n (i := 0) dX9_isByte_4 rfl rfl ?_
    refine rn_sipush (v := (255 : Int32)) dX9_isByte_5 (by decide) ?_
    refine rn_icmp_gt (tgt := 15) dX9_isByte_8 (by decide) (fun h9 => ?_) (fun h9 => ?_)
    · have ch9 := cv_lt h9
      have r10 : Rg (256) (2147483647) x1_ := rf_lty ch9 rk_255 r8 (by decide)
      refine rn_iconst (v := (0 : Int32)) dX9_isByte_15 (by decide) ?_
      refine rn_iret dX9_isByte_16 rfl rfl (rq_in ?_)
      refine rn_stk [.int (0 : Int32)] rfl ?_
      refine rn_if_eq (tgt := 22) dX9_meant_4 (by decide) (fun h11 => ?_) (fun h11 => (cx_ne (cv_ne h11) rk_0 rk_0 (by decide)).elim)
      exact rn_throw kt_SG_95_161 rfl dX9_meant_22 dX9_meant_25 dX9_meant_26 dX9_meant_28 dX9_meant_31 (Nat.le_of_ble_eq_true rfl) (Nat.le_of_ble_eq_true rfl) (Nat.le_of_ble_eq_true rfl) (Nat.le_of_ble_eq_true rfl) (Nat.le_of_ble_eq_true rfl) (rq_ex ⟨hS0, rfl, rfl⟩)
    · have ch9 := cv_nlt h9
      have r12 : Rg (0) (255) x1_ := rf_lex ch9 r8 rk_255 (by decide)
      refine rn_iconst (v := (1 : Int32)) dX9_isByte_11 (by decide) ?_
      refine rn_goto (tgt := 16) dX9_isByte_12 (by decide) ?_
      refine rn_iret dX9_isByte_16 rfl rfl (rq_in ?_)
      refine rn_stk [.int (1 : Int32)] rfl ?_
      refine rn_if_eq (tgt := 22) dX9_meant_4 (by decide) (fun h13 => (cx_eq (cv_eq h13) rk_1 rk_0 (by decide)).elim) (fun h13 => ?_)
      refine rn_iload_n (i := 2) dX9_meant_7 rfl rfl ?_
      refine rn_if_lt (tgt := 22) dX9_meant_8 (by decide) (fun h14 => ?_) (fun h14 => ?_)
      · have ch14 := cv_lt h14
        have r15 : Rg (-2147483648) (-1) x2_ := rf_ltx ch14 (rg_any x2_) rk_0 (by decide)
        exact rn_throw kt_SG_95_161 rfl dX9_meant_22 dX9_meant_25 dX9_meant_26 dX9_meant_28 dX9_meant_31 (Nat.le_of_ble_eq_true rfl) (Nat.le_of_ble_eq_true rfl) (Nat.le_of_ble_eq_true rfl) (Nat.le_of_ble_eq_true rfl) (Nat.le_of_ble_eq_true rfl) (rq_ex ⟨hS0, rfl, rfl⟩)
      · have ch14 := cv_nlt h14
        have r16 : Rg (0) (2147483647) x2_ := rf_ley ch14 rk_0 (rg_any x2_) (by decide)
        refine rn_iload_n (i := 2) dX9_meant_11 rfl rfl ?_
        refine rn_iload_n (i := 3) dX9_meant_12 rfl rfl ?_
        refine rn_icmp_gt (tgt := 22) dX9_meant_13 (by decide) (fun h17 => ?_) (fun h17 => ?_)
        · have ch17 := cv_lt h17
          have r18 : Rg (-2147483648) (2147483646) x3_ := rf_ltx ch17 (rg_any x3_) r16 (by decide)
          exact rn_throw kt_SG_95_161 rfl dX9_meant_22 dX9_meant_25 dX9_meant_26 dX9_meant_28 dX9_meant_31 (Nat.le_of_ble_eq_true rfl) (Nat.le_of_ble_eq_true rfl) (Nat.le_of_ble_eq_true rfl) (Nat.le_of_ble_eq_true rfl) (Nat.le_of_ble_eq_true rfl) (rq_ex ⟨hS0, rfl, rfl⟩)
        · have ch17 := cv_nlt h17
          have r19 : Rg (0) (2147483647) x3_ := rf_ley ch17 r16 (rg_any x3_) (by decide)
          refine rn_iload_n (i := 3) dX9_meant_16 rfl rfl ?_
          refine rn_ldc (v := (65535 : Int32)) wd_487 dX9_meant_17 ?_
          refine rn_icmp_le (tgt := 32) dX9_meant_19 (by decide) (fun h20 => ?_) (fun h20 => ?_)
          · have ch20 := cv_le h20
            have r21 : Rg (0) (65535) x3_ := rf_lex ch20 r19 rk_65535 (by decide)
            refine rn_aload_n (i := 0) dX9_meant_32 rfl rfl ?_
            refine rn_get q1 kg_SG_42 hl1 hx2 dX9_meant_33 ?_
            refine rn_iload_n (i := 1) dX9_meant_36 rfl rfl ?_
            refine rn_iload_n (i := 2) dX9_meant_37 rfl rfl ?_
            refine rn_iload_n (i := 3) dX9_meant_38 rfl rfl ?_
            refine rn_inV (d' := 0) (z' := 0) [.int x1_, .int x2_, .int x3_] kl_SG_163 dX9_meant_39 q3 hl3 rfl rfl rfl (Nat.le_of_ble_eq_true rfl) (Nat.le_of_ble_eq_true rfl) (Nat.le_of_ble_eq_true rfl) (Nat.le_of_ble_eq_true rfl) ?_
            refine rn_lv [(0, .ref o2), (1, .int x1_), (2, .int x2_), (3, .int x3_)] rfl ?_
            refine rn_aload_n (i := 0) dX5_nextMeans_0 rfl rfl ?_
            refine rn_iload_n (i := 1) dX5_nextMeans_1 rfl rfl ?_
            refine rs_put q3 (kp_SG_Policies_25 _) hS0 hq3 hl3 hf3 hk_5 rfl rfl (tv_i (rg_w r12 (by decide) (by decide))) rfl rfl dX5_nextMeans_2 (fun w22 fs23 hS23 hl23 hf23 hx23 ho23 hn23 => ?_)
            refine rn_aload_n (i := 0) dX5_nextMeans_5 rfl rfl ?_
            refine rn_iload_n (i := 2) dX5_nextMeans_6 rfl rfl ?_
            refine rs_put q3 (kp_SG_Policies_28 _) hS23 hq3 hl23 hf23 hk_5 rfl rfl (tv_i (rg_w r16 (by decide) (by decide))) rfl rfl dX5_nextMeans_7 (fun w24 fs25 hS25 hl25 hf25 hx25 ho25 hn25 => ?_)
            refine rn_aload_n (i := 0) dX5_nextMeans_10 rfl rfl ?_
            refine rn_iload_n (i := 3) dX5_nextMeans_11 rfl rfl ?_
            refine rs_put q3 (kp_SG_Policies_18 _) hS25 hq3 hl25 hf25 hk_5 rfl rfl (tv_i (rg_w r21 (by decide) (by decide))) rfl rfl dX5_nextMeans_12 (fun w26 fs27 hS27 hl27 hf27 hx27 ho27 hn27 => ?_)
            refine rn_vret dX5_nextMeans_15 rfl (rq_in ?_)
            refine rn_stk [] rfl ?_
            exact rn_vret dX9_meant_42 rfl (rq_in ⟨hS27, rfl, ⟨x4, ⟨q3, o2, fs3, hq3, hl3, hx4⟩, ⟨q3, o2, fs27, hq3, hl27, ((ho27 1 (by decide)).trans ((ho25 1 (by decide)).trans ((ho23 1 (by decide)).trans hx4)))⟩⟩⟩)
          · have ch20 := cv_nle h20
            have r28 : Rg (65536) (2147483647) x3_ := rf_lty ch20 rk_65535 r19 (by decide)
            exact rn_throw kt_SG_95_161 rfl dX9_meant_22 dX9_meant_25 dX9_meant_26 dX9_meant_28 dX9_meant_31 (Nat.le_of_ble_eq_true rfl) (Nat.le_of_ble_eq_true rfl) (Nat.le_of_ble_eq_true rfl) (Nat.le_of_ble_eq_true rfl) (Nat.le_of_ble_eq_true rfl) (rq_ex ⟨hS0, rfl, rfl⟩)
abbrev q_t_X9_policy (G : rn_G) (S : ts_S) (ws : va_W) (x1_ x2_ x3_ x4_ x5_ x6_ : Int32) : rn_R → va_W → Prop := rQ (fun v w => ∃ S' : ts_S, St G S [5, 15] ws S' w ∧ (∃ x : Int32, v = some (.int x) ∧ Rg (1) (24) x ∧ (pok x1_ x3_ x5_ x6_ ∧ ∃ u u' : Int32, cf S ws 5 5 1 (.int u) ∧ cf S' w 5 5 1 (.int u') ∧ u.toInt < 24 ∧ u'.toInt = u.toInt + 1 ∧ x = u'))) (fun E w => ∃ S' : ts_S, St G S [5, 15] ws S' w ∧ (E = "java/lang/IllegalArgumentException" ∨ E = "java/lang/IllegalStateException") ∧ (((E = "java/lang/IllegalArgumentException" ∧ ¬ pok x1_ x3_ x5_ x6_) ∨ (E = "java/lang/IllegalStateException" ∧ pok x1_ x3_ x5_ x6_ ∧ ∃ u : Int32, cf S ws 5 5 1 (.int u) ∧ 24 ≤ u.toInt)) ∧ (∀ v : Value, cf S ws 5 5 1 v → cf S' w 5 5 1 v)))
set_option maxRecDepth 20000 in
set_option maxHeartbeats 4000000 in
theorem t_X9_policy (G : rn_G) (S : ts_S) (ws : va_W) (hW : ts_W G S ws) (o0_ : Nat) (m0_ : (o0_, 9) ∈ S) (x1_ : Int32) (x2_ : Int32) (x3_ : Int32) (x4_ : Int32) (x5_ : Int32) (x6_ : Int32) : Rn G mX9_policy 6 90 3 11 0 (lv_args 0 [.ref o0_, .int x1_, .int x2_, .int x3_, .int x4_, .int x5_, .int x6_]) [] ws (q_t_X9_policy G S ws x1_ x2_ x3_ x4_ x5_ x6_) := by
  have hS0 : St G S [5, 15] ws S ws := St.rf hW
  obtain ⟨q1, fs1, hq1, hl1, hf1⟩ := ts_obj hS0.1 m0_ hk_9
  obtain ⟨o2, hx2, m2⟩ := fs_r hf1 8 rfl
  obtain ⟨q3, fs3, hq3, hl3, hf3⟩ := ts_obj hS0.1 m2 hk_5
  obtain ⟨x4, hx4, rx4⟩ := fs_i hf3 1 rfl
  refine rn_lv [(0, .ref o0_), (1, .int x1_), (2, .int x2_), (3, .int x3_), (4, .int x4_), (5, .int x5_), (6, .int x6_)] rfl ?_
  refine rn_iload_n (i := 1) dX9_policy_0 rfl rfl ?_
  refine rn_inS (d' := 0) (z' := 0) [.int x1_] kl_SG_136 dX9_policy_1 rfl rfl (Nat.le_of_ble_eq_true rfl) (Nat.le_of_ble_eq_true rfl) (Nat.le_of_ble_eq_true rfl) (Nat.le_of_ble_eq_true rfl) ?_
  refine rn_lv [(0, .int x1_)] rfl ?_
  refine rn_iload_n (i := 0) dX9_isPortOrWay_0 rfl rfl ?_
  refine rn_if_eq (tgt := 9) dX9_isPortOrWay_1 (by decide) (fun h5 => ?_) (fun h5 => ?_)
  · have ch5 := cv_eq h5
    have r6 : Rg (0) (0) x1_ := rf_eqx ch5 (rg_any x1_) rk_0 (by decide) (by decide)
    refine rn_iconst (v := (1 : Int32)) dX9_isPortOrWay_9 (by decide) ?_
    refine rn_goto (tgt := 14) dX9_isPortOrWay_10 (by decide) ?_
    refine rn_iret dX9_isPortOrWay_14 rfl rfl (rq_in ?_)
    refine rn_stk [.int (1 : Int32)] rfl ?_
    refine rn_if_eq (tgt := 35) dX9_policy_4 (by decide) (fun h7 => (cx_eq (cv_eq h7) rk_1 rk_0 (by decide)).elim) (fun h7 => ?_)
    refine rn_iload_n (i := 3) dX9_policy_7 rfl rfl ?_
    refine rn_inS (d' := 0) (z' := 0) [.int x3_] kl_SG_133 dX9_policy_8 rfl rfl (Nat.le_of_ble_eq_true rfl) (Nat.le_of_ble_eq_true rfl) (Nat.le_of_ble_eq_true rfl) (Nat.le_of_ble_eq_true rfl) ?_
    refine rn_lv [(0, .int x3_)] rfl ?_
    refine rn_iload_n (i := 0) dX9_isWidth_0 rfl rfl ?_
    refine rn_if_lt (tgt := 14) dX9_isWidth_1 (by decide) (fun h8 => ?_) (fun h8 => ?_)
    · have ch8 := cv_lt h8
      have r9 : Rg (-2147483648) (-1) x3_ := rf_ltx ch8 (rg_any x3_) rk_0 (by decide)
      refine rn_iconst (v := (0 : Int32)) dX9_isWidth_14 (by decide) ?_
      refine rn_iret dX9_isWidth_15 rfl rfl (rq_in ?_)
      refine rn_stk [.int (0 : Int32)] rfl ?_
      refine rn_if_eq (tgt := 35) dX9_policy_11 (by decide) (fun h10 => ?_) (fun h10 => (cx_ne (cv_ne h10) rk_0 rk_0 (by decide)).elim)
      exact rn_throw kt_SG_95_167 rfl dX9_policy_35 dX9_policy_38 dX9_policy_39 dX9_policy_41 dX9_policy_44 (Nat.le_of_ble_eq_true rfl) (Nat.le_of_ble_eq_true rfl) (Nat.le_of_ble_eq_true rfl) (Nat.le_of_ble_eq_true rfl) (Nat.le_of_ble_eq_true rfl) (rq_ex ⟨S, hS0, (Or.inl rfl), ⟨by first | exact Or.inl ⟨rfl, (by unfold pok; have := rk_4.1; have := rk_4.2; have := rk_3.1; have := rk_3.2; have := rk_m2.1; have := rk_m2.2; have := rk_32.1; have := rk_32.2; have := rk_1.1; have := rk_1.2; have := rk_0.1; have := rk_0.2; omega)⟩ | exact Or.inr ⟨rfl, (by unfold pok; have := rk_4.1; have := rk_4.2; have := rk_3.1; have := rk_3.2; have := rk_m2.1; have := rk_m2.2; have := rk_32.1; have := rk_32.2; have := rk_1.1; have := rk_1.2; have := rk_0.1; have := rk_0.2; omega), x4, ⟨q3, o2, fs3, hq3, hl3, hx4⟩, by have := rk_24.1; have := rk_24.2; have := rx4.1; have := rx4.2; omega⟩, fun _ h => h⟩⟩)
    · have ch8 := cv_nlt h8
      have r11 : Rg (0) (2147483647) x3_ := rf_ley ch8 rk_0 (rg_any x3_) (by decide)
      refine rn_iload_n (i := 0) dX9_isWidth_4 rfl rfl ?_
      refine rn_bipush (v := (32 : Int32)) dX9_isWidth_5 (by decide) ?_
      refine rn_icmp_gt (tgt := 14) dX9_isWidth_7 (by decide) (fun h12 => ?_) (fun h12 => ?_)
      · have ch12 := cv_lt h12
        have r13 : Rg (33) (2147483647) x3_ := rf_lty ch12 rk_32 r11 (by decide)
        refine rn_iconst (v := (0 : Int32)) dX9_isWidth_14 (by decide) ?_
        refine rn_iret dX9_isWidth_15 rfl rfl (rq_in ?_)
        refine rn_stk [.int (0 : Int32)] rfl ?_
        refine rn_if_eq (tgt := 35) dX9_policy_11 (by decide) (fun h14 => ?_) (fun h14 => (cx_ne (cv_ne h14) rk_0 rk_0 (by decide)).elim)
        exact rn_throw kt_SG_95_167 rfl dX9_policy_35 dX9_policy_38 dX9_policy_39 dX9_policy_41 dX9_policy_44 (Nat.le_of_ble_eq_true rfl) (Nat.le_of_ble_eq_true rfl) (Nat.le_of_ble_eq_true rfl) (Nat.le_of_ble_eq_true rfl) (Nat.le_of_ble_eq_true rfl) (rq_ex ⟨S, hS0, (Or.inl rfl), ⟨by first | exact Or.inl ⟨rfl, (by unfold pok; have := rk_4.1; have := rk_4.2; have := rk_3.1; have := rk_3.2; have := rk_m2.1; have := rk_m2.2; have := rk_32.1; have := rk_32.2; have := rk_1.1; have := rk_1.2; have := rk_0.1; have := rk_0.2; omega)⟩ | exact Or.inr ⟨rfl, (by unfold pok; have := rk_4.1; have := rk_4.2; have := rk_3.1; have := rk_3.2; have := rk_m2.1; have := rk_m2.2; have := rk_32.1; have := rk_32.2; have := rk_1.1; have := rk_1.2; have := rk_0.1; have := rk_0.2; omega), x4, ⟨q3, o2, fs3, hq3, hl3, hx4⟩, by have := rk_24.1; have := rk_24.2; have := rx4.1; have := rx4.2; omega⟩, fun _ h => h⟩⟩)
      · have ch12 := cv_nlt h12
        have r15 : Rg (0) (32) x3_ := rf_lex ch12 r11 rk_32 (by decide)
        refine rn_iconst (v := (1 : Int32)) dX9_isWidth_10 (by decide) ?_
        refine rn_goto (tgt := 15) dX9_isWidth_11 (by decide) ?_
        refine rn_iret dX9_isWidth_15 rfl rfl (rq_in ?_)
        refine rn_stk [.int (1 : Int32)] rfl ?_
        refine rn_if_eq (tgt := 35) dX9_policy_11 (by decide) (fun h16 => (cx_eq (cv_eq h16) rk_1 rk_0 (by decide)).elim) (fun h16 => ?_)
        refine rn_iload dX9_policy_14 rfl ?_
        refine rn_inS (d' := 0) (z' := 0) [.int x5_] kl_SG_133 dX9_policy_16 rfl rfl (Nat.le_of_ble_eq_true rfl) (Nat.le_of_ble_eq_true rfl) (Nat.le_of_ble_eq_true rfl) (Nat.le_of_ble_eq_true rfl) ?_
        refine rn_lv [(0, .int x5_)] rfl ?_
        refine rn_iload_n (i := 0) dX9_isWidth_0 rfl rfl ?_
        refine rn_if_lt (tgt := 14) dX9_isWidth_1 (by decide) (fun h17 => ?_) (fun h17 => ?_)
        · have ch17 := cv_lt h17
          have r18 : Rg (-2147483648) (-1) x5_ := rf_ltx ch17 (rg_any x5_) rk_0 (by decide)
          refine rn_iconst (v := (0 : Int32)) dX9_isWidth_14 (by decide) ?_
          refine rn_iret dX9_isWidth_15 rfl rfl (rq_in ?_)
          refine rn_stk [.int (0 : Int32)] rfl ?_
          refine rn_if_eq (tgt := 35) dX9_policy_19 (by decide) (fun h19 => ?_) (fun h19 => (cx_ne (cv_ne h19) rk_0 rk_0 (by decide)).elim)
          exact rn_throw kt_SG_95_167 rfl dX9_policy_35 dX9_policy_38 dX9_policy_39 dX9_policy_41 dX9_policy_44 (Nat.le_of_ble_eq_true rfl) (Nat.le_of_ble_eq_true rfl) (Nat.le_of_ble_eq_true rfl) (Nat.le_of_ble_eq_true rfl) (Nat.le_of_ble_eq_true rfl) (rq_ex ⟨S, hS0, (Or.inl rfl), ⟨by first | exact Or.inl ⟨rfl, (by unfold pok; have := rk_4.1; have := rk_4.2; have := rk_3.1; have := rk_3.2; have := rk_m2.1; have := rk_m2.2; have := rk_32.1; have := rk_32.2; have := rk_1.1; have := rk_1.2; have := rk_0.1; have := rk_0.2; omega)⟩ | exact Or.inr ⟨rfl, (by unfold pok; have := rk_4.1; have := rk_4.2; have := rk_3.1; have := rk_3.2; have := rk_m2.1; have := rk_m2.2; have := rk_32.1; have := rk_32.2; have := rk_1.1; have := rk_1.2; have := rk_0.1; have := rk_0.2; omega), x4, ⟨q3, o2, fs3, hq3, hl3, hx4⟩, by have := rk_24.1; have := rk_24.2; have := rx4.1; have := rx4.2; omega⟩, fun _ h => h⟩⟩)
        · have ch17 := cv_nlt h17
          have r20 : Rg (0) (2147483647) x5_ := rf_ley ch17 rk_0 (rg_any x5_) (by decide)
          refine rn_iload_n (i := 0) dX9_isWidth_4 rfl rfl ?_
          refine rn_bipush (v := (32 : Int32)) dX9_isWidth_5 (by decide) ?_
          refine rn_icmp_gt (tgt := 14) dX9_isWidth_7 (by decide) (fun h21 => ?_) (fun h21 => ?_)
          · have ch21 := cv_lt h21
            have r22 : Rg (33) (2147483647) x5_ := rf_lty ch21 rk_32 r20 (by decide)
            refine rn_iconst (v := (0 : Int32)) dX9_isWidth_14 (by decide) ?_
            refine rn_iret dX9_isWidth_15 rfl rfl (rq_in ?_)
            refine rn_stk [.int (0 : Int32)] rfl ?_
            refine rn_if_eq (tgt := 35) dX9_policy_19 (by decide) (fun h23 => ?_) (fun h23 => (cx_ne (cv_ne h23) rk_0 rk_0 (by decide)).elim)
            exact rn_throw kt_SG_95_167 rfl dX9_policy_35 dX9_policy_38 dX9_policy_39 dX9_policy_41 dX9_policy_44 (Nat.le_of_ble_eq_true rfl) (Nat.le_of_ble_eq_true rfl) (Nat.le_of_ble_eq_true rfl) (Nat.le_of_ble_eq_true rfl) (Nat.le_of_ble_eq_true rfl) (rq_ex ⟨S, hS0, (Or.inl rfl), ⟨by first | exact Or.inl ⟨rfl, (by unfold pok; have := rk_4.1; have := rk_4.2; have := rk_3.1; have := rk_3.2; have := rk_m2.1; have := rk_m2.2; have := rk_32.1; have := rk_32.2; have := rk_1.1; have := rk_1.2; have := rk_0.1; have := rk_0.2; omega)⟩ | exact Or.inr ⟨rfl, (by unfold pok; have := rk_4.1; have := rk_4.2; have := rk_3.1; have := rk_3.2; have := rk_m2.1; have := rk_m2.2; have := rk_32.1; have := rk_32.2; have := rk_1.1; have := rk_1.2; have := rk_0.1; have := rk_0.2; omega), x4, ⟨q3, o2, fs3, hq3, hl3, hx4⟩, by have := rk_24.1; have := rk_24.2; have := rx4.1; have := rx4.2; omega⟩, fun _ h => h⟩⟩)
          · have ch21 := cv_nlt h21
            have r24 : Rg (0) (32) x5_ := rf_lex ch21 r20 rk_32 (by decide)
            refine rn_iconst (v := (1 : Int32)) dX9_isWidth_10 (by decide) ?_
            refine rn_goto (tgt := 15) dX9_isWidth_11 (by decide) ?_
            refine rn_iret dX9_isWidth_15 rfl rfl (rq_in ?_)
            refine rn_stk [.int (1 : Int32)] rfl ?_
            refine rn_if_eq (tgt := 35) dX9_policy_19 (by decide) (fun h25 => (cx_eq (cv_eq h25) rk_1 rk_0 (by decide)).elim) (fun h25 => ?_)
            refine rn_iload dX9_policy_22 rfl ?_
            refine rn_bipush (v := (-2 : Int32)) dX9_policy_24 (by decide) ?_
            refine rn_icmp_lt (tgt := 35) dX9_policy_26 (by decide) (fun h26 => ?_) (fun h26 => ?_)
            · have ch26 := cv_lt h26
              have r27 : Rg (-2147483648) (-3) x6_ := rf_ltx ch26 (rg_any x6_) rk_m2 (by decide)
              exact rn_throw kt_SG_95_167 rfl dX9_policy_35 dX9_policy_38 dX9_policy_39 dX9_policy_41 dX9_policy_44 (Nat.le_of_ble_eq_true rfl) (Nat.le_of_ble_eq_true rfl) (Nat.le_of_ble_eq_true rfl) (Nat.le_of_ble_eq_true rfl) (Nat.le_of_ble_eq_true rfl) (rq_ex ⟨S, hS0, (Or.inl rfl), ⟨by first | exact Or.inl ⟨rfl, (by unfold pok; have := rk_4.1; have := rk_4.2; have := rk_3.1; have := rk_3.2; have := rk_m2.1; have := rk_m2.2; have := rk_32.1; have := rk_32.2; have := rk_1.1; have := rk_1.2; have := rk_0.1; have := rk_0.2; omega)⟩ | exact Or.inr ⟨rfl, (by unfold pok; have := rk_4.1; have := rk_4.2; have := rk_3.1; have := rk_3.2; have := rk_m2.1; have := rk_m2.2; have := rk_32.1; have := rk_32.2; have := rk_1.1; have := rk_1.2; have := rk_0.1; have := rk_0.2; omega), x4, ⟨q3, o2, fs3, hq3, hl3, hx4⟩, by have := rk_24.1; have := rk_24.2; have := rx4.1; have := rx4.2; omega⟩, fun _ h => h⟩⟩)
            · have ch26 := cv_nlt h26
              have r28 : Rg (-2) (2147483647) x6_ := rf_ley ch26 rk_m2 (rg_any x6_) (by decide)
              refine rn_iload dX9_policy_29 rfl ?_
              refine rn_iconst (v := (4 : Int32)) dX9_policy_31 (by decide) ?_
              refine rn_icmp_lt (tgt := 45) dX9_policy_32 (by decide) (fun h29 => ?_) (fun h29 => ?_)
              · have ch29 := cv_lt h29
                have r30 : Rg (-2) (3) x6_ := rf_ltx ch29 r28 rk_4 (by decide)
                refine rn_aload_n (i := 0) dX9_policy_45 rfl rfl ?_
                refine rn_get q1 kg_SG_42 hl1 hx2 dX9_policy_46 ?_
                refine rn_inV (d' := 0) (z' := 0) [] kl_SG_169 dX9_policy_49 q3 hl3 rfl rfl rfl (Nat.le_of_ble_eq_true rfl) (Nat.le_of_ble_eq_true rfl) (Nat.le_of_ble_eq_true rfl) (Nat.le_of_ble_eq_true rfl) ?_
                refine rn_lv [(0, .ref o2)] rfl ?_
                refine rn_aload_n (i := 0) dX5_isFull_0 rfl rfl ?_
                refine rn_get q3 kg_SG_Policies_22 hl3 hx4 dX5_isFull_1 ?_
                refine rn_bipush (v := (24 : Int32)) dX5_isFull_4 (by decide) ?_
                refine rn_icmp_lt (tgt := 13) dX5_isFull_6 (by decide) (fun h31 => ?_) (fun h31 => ?_)
                · have ch31 := cv_lt h31
                  have r32 : Rg (0) (23) x4 := rf_ltx ch31 rx4 rk_24 (by decide)
                  refine rn_iconst (v := (0 : Int32)) dX5_isFull_13 (by decide) ?_
                  refine rn_iret dX5_isFull_14 rfl rfl (rq_in ?_)
                  refine rn_stk [.int (0 : Int32)] rfl ?_
                  refine rn_if_eq (tgt := 65) dX9_policy_52 (by decide) (fun h33 => ?_) (fun h33 => (cx_ne (cv_ne h33) rk_0 rk_0 (by decide)).elim)
                  refine rn_aload_n (i := 0) dX9_policy_65 rfl rfl ?_
                  refine rn_get q1 kg_SG_42 hl1 hx2 dX9_policy_66 ?_
                  refine rn_iload_n (i := 1) dX9_policy_69 rfl rfl ?_
                  refine rn_new (a := 2) (b := 9) kn_SG_147 (Nat.le_of_ble_eq_true rfl) (Nat.le_of_ble_eq_true rfl) dX9_policy_70 (fun q34 => ?_)
                  refine rn_dup dX9_policy_73 rfl ?_
                  refine rn_iload_n (i := 2) dX9_policy_74 rfl rfl ?_
                  refine rn_iload_n (i := 3) dX9_policy_75 rfl rfl ?_
                  refine rn_callI (a := 2) (b := 9) [.int x2_, .int x3_] kl_SG_149 dX9_policy_76 (n_X3_init G ws q34 x2_ x3_) rq_no rfl rfl (Nat.le_of_ble_eq_true rfl) (Nat.le_of_ble_eq_true rfl) (Nat.le_of_ble_eq_true rfl) (Nat.le_of_ble_eq_true rfl) (Nat.le_of_ble_eq_true rfl) (Nat.le_of_ble_eq_true rfl) (fun v9 w35 h36 => ?_)
                  obtain ⟨rfl, hw37⟩ := h36
                  obtain ⟨S37, hT37, m37⟩ : ∃ S9, St G S [] ws S9 w35 ∧ (q34, 3) ∈ S9 := by rw [hw37]; exact ⟨_, St.app (St.rf hS0.1) rfl (by rw [hk_3]; exact Or.inl ⟨rfl, _, rfl, (ts_fs_cons (tv_i (rg_any x2_)) (ts_fs_cons (tv_i (rg_w r15 (by decide) (by decide))) ts_fs_nil))⟩), List.mem_append_right _ (List.mem_singleton.mpr rfl)⟩
                  have hS37 := St.tr hS0 hT37 rfl
                  refine rn_stk [.ref q34, .int x1_, .ref o2] rfl ?_
                  refine rn_new (a := 1) (b := 7) kn_SG_147 (Nat.le_of_ble_eq_true rfl) (Nat.le_of_ble_eq_true rfl) dX9_policy_79 (fun q38 => ?_)
                  refine rn_dup dX9_policy_82 rfl ?_
                  refine rn_iload dX9_policy_83 rfl ?_
                  refine rn_iload dX9_policy_85 rfl ?_
                  refine rn_callI (a := 1) (b := 7) [.int x4_, .int x5_] kl_SG_149 dX9_policy_87 (n_X3_init G w35 q38 x4_ x5_) rq_no rfl rfl (Nat.le_of_ble_eq_true rfl) (Nat.le_of_ble_eq_true rfl) (Nat.le_of_ble_eq_true rfl) (Nat.le_of_ble_eq_true rfl) (Nat.le_of_ble_eq_true rfl) (Nat.le_of_ble_eq_true rfl) (fun v9 w39 h40 => ?_)
                  obtain ⟨rfl, hw41⟩ := h40
                  obtain ⟨S41, hT41, m41⟩ : ∃ S9, St G S37 [] w35 S9 w39 ∧ (q38, 3) ∈ S9 := by rw [hw41]; exact ⟨_, St.app (St.rf hS37.1) rfl (by rw [hk_3]; exact Or.inl ⟨rfl, _, rfl, (ts_fs_cons (tv_i (rg_any x4_)) (ts_fs_cons (tv_i (rg_w r24 (by decide) (by decide))) ts_fs_nil))⟩), List.mem_append_right _ (List.mem_singleton.mpr rfl)⟩
                  have hS41 := St.tr hS37 hT41 rfl
                  refine rn_stk [.ref q38, .ref q34, .int x1_, .ref o2] rfl ?_
                  refine rn_iload dX9_policy_90 rfl ?_
                  refine rn_callV (a := 0) (b := 0) [.int x1_, .ref q34, .ref q38, .int x6_] kl_SG_172 dX9_policy_92 q3 (hT41.fr (hT37.pos hq3) rfl (hT37.fr hq3 rfl hl3)) rfl (t_X5_append G S41 w39 hS41.1 o2 (hT41.mem (hT37.mem m2)) x1_ q34 (hT41.mem m37) q38 m41 x6_) rfl rfl (Nat.le_of_ble_eq_true rfl) (Nat.le_of_ble_eq_true rfl) (Nat.le_of_ble_eq_true rfl) (Nat.le_of_ble_eq_true rfl) (Nat.le_of_ble_eq_true rfl) (Nat.le_of_ble_eq_true rfl) (fun _ _ h => False.elim h) (fun v9 w42 h43 => ?_)
                  obtain ⟨S45, hT45, v44, rfl, rv44, xah43⟩ := h43
                  have hS45 := St.tr hS41 hT45 rfl
                  refine rn_stk [.int v44] rfl ?_
                  exact rn_iret dX9_policy_95 rfl rfl (rq_in ⟨S45, hS45, v44, rfl, rv44, (by obtain ⟨a, a2, p1, p2, p3, p4⟩ := xah43; have z := cf_u hS41.1 rfl p1 ⟨q3, o2, fs3, (hT41.pos (hT37.pos hq3)), (hT41.fr (hT37.pos hq3) rfl (hT37.fr hq3 rfl hl3)), hx4⟩; cases z; have z3 := p3 (by have := rk_24.1; have := rk_24.2; have := r32.1; have := r32.2; omega); exact ⟨(by unfold pok; have := rk_4.1; have := rk_4.2; have := rk_3.1; have := rk_3.2; have := rk_m2.1; have := rk_m2.2; have := rk_32.1; have := rk_32.2; have := rk_1.1; have := rk_1.2; have := rk_0.1; have := rk_0.2; omega), _, _, ⟨q3, o2, fs3, hq3, hl3, hx4⟩, p2, by have := rk_24.1; have := rk_24.2; have := r32.1; have := r32.2; omega, z3, p4⟩)⟩)
                · have ch31 := cv_nlt h31
                  have r46 : Rg (24) (24) x4 := rf_ley ch31 rk_24 rx4 (by decide)
                  refine rn_iconst (v := (1 : Int32)) dX5_isFull_9 (by decide) ?_
                  refine rn_goto (tgt := 14) dX5_isFull_10 (by decide) ?_
                  refine rn_iret dX5_isFull_14 rfl rfl (rq_in ?_)
                  refine rn_stk [.int (1 : Int32)] rfl ?_
                  refine rn_if_eq (tgt := 65) dX9_policy_52 (by decide) (fun h47 => (cx_eq (cv_eq h47) rk_1 rk_0 (by decide)).elim) (fun h47 => ?_)
                  exact rn_throw kt_SG_80_170 rfl dX9_policy_55 dX9_policy_58 dX9_policy_59 dX9_policy_61 dX9_policy_64 (Nat.le_of_ble_eq_true rfl) (Nat.le_of_ble_eq_true rfl) (Nat.le_of_ble_eq_true rfl) (Nat.le_of_ble_eq_true rfl) (Nat.le_of_ble_eq_true rfl) (rq_ex ⟨S, hS0, (Or.inr rfl), ⟨by first | exact Or.inl ⟨rfl, (by unfold pok; have := rk_4.1; have := rk_4.2; have := rk_3.1; have := rk_3.2; have := rk_m2.1; have := rk_m2.2; have := rk_32.1; have := rk_32.2; have := rk_1.1; have := rk_1.2; have := rk_0.1; have := rk_0.2; omega)⟩ | exact Or.inr ⟨rfl, (by unfold pok; have := rk_4.1; have := rk_4.2; have := rk_3.1; have := rk_3.2; have := rk_m2.1; have := rk_m2.2; have := rk_32.1; have := rk_32.2; have := rk_1.1; have := rk_1.2; have := rk_0.1; have := rk_0.2; omega), x4, ⟨q3, o2, fs3, hq3, hl3, hx4⟩, by have := rk_24.1; have := rk_24.2; have := r46.1; have := r46.2; omega⟩, fun _ h => h⟩⟩)
              · have ch29 := cv_nlt h29
                have r48 : Rg (4) (2147483647) x6_ := rf_ley ch29 rk_4 r28 (by decide)
                exact rn_throw kt_SG_95_167 rfl dX9_policy_35 dX9_policy_38 dX9_policy_39 dX9_policy_41 dX9_policy_44 (Nat.le_of_ble_eq_true rfl) (Nat.le_of_ble_eq_true rfl) (Nat.le_of_ble_eq_true rfl) (Nat.le_of_ble_eq_true rfl) (Nat.le_of_ble_eq_true rfl) (rq_ex ⟨S, hS0, (Or.inl rfl), ⟨by first | exact Or.inl ⟨rfl, (by unfold pok; have := rk_4.1; have := rk_4.2; have := rk_3.1; have := rk_3.2; have := rk_m2.1; have := rk_m2.2; have := rk_32.1; have := rk_32.2; have := rk_1.1; have := rk_1.2; have := rk_0.1; have := rk_0.2; omega)⟩ | exact Or.inr ⟨rfl, (by unfold pok; have := rk_4.1; have := rk_4.2; have := rk_3.1; have := rk_3.2; have := rk_m2.1; have := rk_m2.2; have := rk_32.1; have := rk_32.2; have := rk_1.1; have := rk_1.2; have := rk_0.1; have := rk_0.2; omega), x4, ⟨q3, o2, fs3, hq3, hl3, hx4⟩, by have := rk_24.1; have := rk_24.2; have := rx4.1; have := rx4.2; omega⟩, fun _ h => h⟩⟩)
  · have ch5 := cv_ne h5
    refine rn_iload_n (i := 0) dX9_isPortOrWay_4 rfl rfl ?_
    refine rn_iconst (v := (1 : Int32)) dX9_isPortOrWay_5 (by decide) ?_
    refine rn_icmp_ne (tgt := 13) dX9_isPortOrWay_6 (by decide) (fun h49 => ?_) (fun h49 => ?_)
    · have ch49 := cv_ne h49
      refine rn_iconst (v := (0 : Int32)) dX9_isPortOrWay_13 (by decide) ?_
      refine rn_iret dX9_isPortOrWay_14 rfl rfl (rq_in ?_)
      refine rn_stk [.int (0 : Int32)] rfl ?_
      refine rn_if_eq (tgt := 35) dX9_policy_4 (by decide) (fun h50 => ?_) (fun h50 => (cx_ne (cv_ne h50) rk_0 rk_0 (by decide)).elim)
      exact rn_throw kt_SG_95_167 rfl dX9_policy_35 dX9_policy_38 dX9_policy_39 dX9_policy_41 dX9_policy_44 (Nat.le_of_ble_eq_true rfl) (Nat.le_of_ble_eq_true rfl) (Nat.le_of_ble_eq_true rfl) (Nat.le_of_ble_eq_true rfl) (Nat.le_of_ble_eq_true rfl) (rq_ex ⟨S, hS0, (Or.inl rfl), ⟨by first | exact Or.inl ⟨rfl, (by unfold pok; have := rk_4.1; have := rk_4.2; have := rk_3.1; have := rk_3.2; have := rk_m2.1; have := rk_m2.2; have := rk_32.1; have := rk_32.2; have := rk_1.1; have := rk_1.2; have := rk_0.1; have := rk_0.2; omega)⟩ | exact Or.inr ⟨rfl, (by unfold pok; have := rk_4.1; have := rk_4.2; have := rk_3.1; have := rk_3.2; have := rk_m2.1; have := rk_m2.2; have := rk_32.1; have := rk_32.2; have := rk_1.1; have := rk_1.2; have := rk_0.1; have := rk_0.2; omega), x4, ⟨q3, o2, fs3, hq3, hl3, hx4⟩, by have := rk_24.1; have := rk_24.2; have := rx4.1; have := rx4.2; omega⟩, fun _ h => h⟩⟩)
    · have ch49 := cv_eq h49
      have r51 : Rg (1) (1) x1_ := rf_eqx ch49 (rg_any x1_) rk_1 (by decide) (by decide)
      refine rn_iconst (v := (1 : Int32)) dX9_isPortOrWay_9 (by decide) ?_
      refine rn_goto (tgt := 14) dX9_isPortOrWay_10 (by decide) ?_
      refine rn_iret dX9_isPortOrWay_14 rfl rfl (rq_in ?_)
      refine rn_stk [.int (1 : Int32)] rfl ?_
      refine rn_if_eq (tgt := 35) dX9_policy_4 (by decide) (fun h52 => (cx_eq (cv_eq h52) rk_1 rk_0 (by decide)).elim) (fun h52 => ?_)
      refine rn_iload_n (i := 3) dX9_policy_7 rfl rfl ?_
      refine rn_inS (d' := 0) (z' := 0) [.int x3_] kl_SG_133 dX9_policy_8 rfl rfl (Nat.le_of_ble_eq_true rfl) (Nat.le_of_ble_eq_true rfl) (Nat.le_of_ble_eq_true rfl) (Nat.le_of_ble_eq_true rfl) ?_
      refine rn_lv [(0, .int x3_)] rfl ?_
      refine rn_iload_n (i := 0) dX9_isWidth_0 rfl rfl ?_
      refine rn_if_lt (tgt := 14) dX9_isWidth_1 (by decide) (fun h53 => ?_) (fun h53 => ?_)
      · have ch53 := cv_lt h53
        have r54 : Rg (-2147483648) (-1) x3_ := rf_ltx ch53 (rg_any x3_) rk_0 (by decide)
        refine rn_iconst (v := (0 : Int32)) dX9_isWidth_14 (by decide) ?_
        refine rn_iret dX9_isWidth_15 rfl rfl (rq_in ?_)
        refine rn_stk [.int (0 : Int32)] rfl ?_
        refine rn_if_eq (tgt := 35) dX9_policy_11 (by decide) (fun h55 => ?_) (fun h55 => (cx_ne (cv_ne h55) rk_0 rk_0 (by decide)).elim)
        exact rn_throw kt_SG_95_167 rfl dX9_policy_35 dX9_policy_38 dX9_policy_39 dX9_policy_41 dX9_policy_44 (Nat.le_of_ble_eq_true rfl) (Nat.le_of_ble_eq_true rfl) (Nat.le_of_ble_eq_true rfl) (Nat.le_of_ble_eq_true rfl) (Nat.le_of_ble_eq_true rfl) (rq_ex ⟨S, hS0, (Or.inl rfl), ⟨by first | exact Or.inl ⟨rfl, (by unfold pok; have := rk_4.1; have := rk_4.2; have := rk_3.1; have := rk_3.2; have := rk_m2.1; have := rk_m2.2; have := rk_32.1; have := rk_32.2; have := rk_1.1; have := rk_1.2; have := rk_0.1; have := rk_0.2; omega)⟩ | exact Or.inr ⟨rfl, (by unfold pok; have := rk_4.1; have := rk_4.2; have := rk_3.1; have := rk_3.2; have := rk_m2.1; have := rk_m2.2; have := rk_32.1; have := rk_32.2; have := rk_1.1; have := rk_1.2; have := rk_0.1; have := rk_0.2; omega), x4, ⟨q3, o2, fs3, hq3, hl3, hx4⟩, by have := rk_24.1; have := rk_24.2; have := rx4.1; have := rx4.2; omega⟩, fun _ h => h⟩⟩)
      · have ch53 := cv_nlt h53
        have r56 : Rg (0) (2147483647) x3_ := rf_ley ch53 rk_0 (rg_any x3_) (by decide)
        refine rn_iload_n (i := 0) dX9_isWidth_4 rfl rfl ?_
        refine rn_bipush (v := (32 : Int32)) dX9_isWidth_5 (by decide) ?_
        refine rn_icmp_gt (tgt := 14) dX9_isWidth_7 (by decide) (fun h57 => ?_) (fun h57 => ?_)
        · have ch57 := cv_lt h57
          have r58 : Rg (33) (2147483647) x3_ := rf_lty ch57 rk_32 r56 (by decide)
          refine rn_iconst (v := (0 : Int32)) dX9_isWidth_14 (by decide) ?_
          refine rn_iret dX9_isWidth_15 rfl rfl (rq_in ?_)
          refine rn_stk [.int (0 : Int32)] rfl ?_
          refine rn_if_eq (tgt := 35) dX9_policy_11 (by decide) (fun h59 => ?_) (fun h59 => (cx_ne (cv_ne h59) rk_0 rk_0 (by decide)).elim)
          exact rn_throw kt_SG_95_167 rfl dX9_policy_35 dX9_policy_38 dX9_policy_39 dX9_policy_41 dX9_policy_44 (Nat.le_of_ble_eq_true rfl) (Nat.le_of_ble_eq_true rfl) (Nat.le_of_ble_eq_true rfl) (Nat.le_of_ble_eq_true rfl) (Nat.le_of_ble_eq_true rfl) (rq_ex ⟨S, hS0, (Or.inl rfl), ⟨by first | exact Or.inl ⟨rfl, (by unfold pok; have := rk_4.1; have := rk_4.2; have := rk_3.1; have := rk_3.2; have := rk_m2.1; have := rk_m2.2; have := rk_32.1; have := rk_32.2; have := rk_1.1; have := rk_1.2; have := rk_0.1; have := rk_0.2; omega)⟩ | exact Or.inr ⟨rfl, (by unfold pok; have := rk_4.1; have := rk_4.2; have := rk_3.1; have := rk_3.2; have := rk_m2.1; have := rk_m2.2; have := rk_32.1; have := rk_32.2; have := rk_1.1; have := rk_1.2; have := rk_0.1; have := rk_0.2; omega), x4, ⟨q3, o2, fs3, hq3, hl3, hx4⟩, by have := rk_24.1; have := rk_24.2; have := rx4.1; have := rx4.2; omega⟩, fun _ h => h⟩⟩)
        · have ch57 := cv_nlt h57
          have r60 : Rg (0) (32) x3_ := rf_lex ch57 r56 rk_32 (by decide)
          refine rn_iconst (v := (1 : Int32)) dX9_isWidth_10 (by decide) ?_
          refine rn_goto (tgt := 15) dX9_isWidth_11 (by decide) ?_
          refine rn_iret dX9_isWidth_15 rfl rfl (rq_in ?_)
          refine rn_stk [.int (1 : Int32)] rfl ?_
          refine rn_if_eq (tgt := 35) dX9_policy_11 (by decide) (fun h61 => (cx_eq (cv_eq h61) rk_1 rk_0 (by decide)).elim) (fun h61 => ?_)
          refine rn_iload dX9_policy_14 rfl ?_
          refine rn_inS (d' := 0) (z' := 0) [.int x5_] kl_SG_133 dX9_policy_16 rfl rfl (Nat.le_of_ble_eq_true rfl) (Nat.le_of_ble_eq_true rfl) (Nat.le_of_ble_eq_true rfl) (Nat.le_of_ble_eq_true rfl) ?_
          refine rn_lv [(0, .int x5_)] rfl ?_
          refine rn_iload_n (i := 0) dX9_isWidth_0 rfl rfl ?_
          refine rn_if_lt (tgt := 14) dX9_isWidth_1 (by decide) (fun h62 => ?_) (fun h62 => ?_)
          · have ch62 := cv_lt h62
            have r63 : Rg (-2147483648) (-1) x5_ := rf_ltx ch62 (rg_any x5_) rk_0 (by decide)
            refine rn_iconst (v := (0 : Int32)) dX9_isWidth_14 (by decide) ?_
            refine rn_iret dX9_isWidth_15 rfl rfl (rq_in ?_)
            refine rn_stk [.int (0 : Int32)] rfl ?_
            refine rn_if_eq (tgt := 35) dX9_policy_19 (by decide) (fun h64 => ?_) (fun h64 => (cx_ne (cv_ne h64) rk_0 rk_0 (by decide)).elim)
            exact rn_throw kt_SG_95_167 rfl dX9_policy_35 dX9_policy_38 dX9_policy_39 dX9_policy_41 dX9_policy_44 (Nat.le_of_ble_eq_true rfl) (Nat.le_of_ble_eq_true rfl) (Nat.le_of_ble_eq_true rfl) (Nat.le_of_ble_eq_true rfl) (Nat.le_of_ble_eq_true rfl) (rq_ex ⟨S, hS0, (Or.inl rfl), ⟨by first | exact Or.inl ⟨rfl, (by unfold pok; have := rk_4.1; have := rk_4.2; have := rk_3.1; have := rk_3.2; have := rk_m2.1; have := rk_m2.2; have := rk_32.1; have := rk_32.2; have := rk_1.1; have := rk_1.2; have := rk_0.1; have := rk_0.2; omega)⟩ | exact Or.inr ⟨rfl, (by unfold pok; have := rk_4.1; have := rk_4.2; have := rk_3.1; have := rk_3.2; have := rk_m2.1; have := rk_m2.2; have := rk_32.1; have := rk_32.2; have := rk_1.1; have := rk_1.2; have := rk_0.1; have := rk_0.2; omega), x4, ⟨q3, o2, fs3, hq3, hl3, hx4⟩, by have := rk_24.1; have := rk_24.2; have := rx4.1; have := rx4.2; omega⟩, fun _ h => h⟩⟩)
          · have ch62 := cv_nlt h62
            have r65 : Rg (0) (2147483647) x5_ := rf_ley ch62 rk_0 (rg_any x5_) (by decide)
            refine rn_iload_n (i := 0) dX9_isWidth_4 rfl rfl ?_
            refine rn_bipush (v := (32 : Int32)) dX9_isWidth_5 (by decide) ?_
            refine rn_icmp_gt (tgt := 14) dX9_isWidth_7 (by decide) (fun h66 => ?_) (fun h66 => ?_)
            · have ch66 := cv_lt h66
              have r67 : Rg (33) (2147483647) x5_ := rf_lty ch66 rk_32 r65 (by decide)
              refine rn_iconst (v := (0 : Int32)) dX9_isWidth_14 (by decide) ?_
              refine rn_iret dX9_isWidth_15 rfl rfl (rq_in ?_)
              refine rn_stk [.int (0 : Int32)] rfl ?_
              refine rn_if_eq (tgt := 35) dX9_policy_19 (by decide) (fun h68 => ?_) (fun h68 => (cx_ne (cv_ne h68) rk_0 rk_0 (by decide)).elim)
              exact rn_throw kt_SG_95_167 rfl dX9_policy_35 dX9_policy_38 dX9_policy_39 dX9_policy_41 dX9_policy_44 (Nat.le_of_ble_eq_true rfl) (Nat.le_of_ble_eq_true rfl) (Nat.le_of_ble_eq_true rfl) (Nat.le_of_ble_eq_true rfl) (Nat.le_of_ble_eq_true rfl) (rq_ex ⟨S, hS0, (Or.inl rfl), ⟨by first | exact Or.inl ⟨rfl, (by unfold pok; have := rk_4.1; have := rk_4.2; have := rk_3.1; have := rk_3.2; have := rk_m2.1; have := rk_m2.2; have := rk_32.1; have := rk_32.2; have := rk_1.1; have := rk_1.2; have := rk_0.1; have := rk_0.2; omega)⟩ | exact Or.inr ⟨rfl, (by unfold pok; have := rk_4.1; have := rk_4.2; have := rk_3.1; have := rk_3.2; have := rk_m2.1; have := rk_m2.2; have := rk_32.1; have := rk_32.2; have := rk_1.1; have := rk_1.2; have := rk_0.1; have := rk_0.2; omega), x4, ⟨q3, o2, fs3, hq3, hl3, hx4⟩, by have := rk_24.1; have := rk_24.2; have := rx4.1; have := rx4.2; omega⟩, fun _ h => h⟩⟩)
            · have ch66 := cv_nlt h66
              have r69 : Rg (0) (32) x5_ := rf_lex ch66 r65 rk_32 (by decide)
              refine rn_iconst (v := (1 : Int32)) dX9_isWidth_10 (by decide) ?_
              refine rn_goto (tgt := 15) dX9_isWidth_11 (by decide) ?_
              refine rn_iret dX9_isWidth_15 rfl rfl (rq_in ?_)
              refine rn_stk [.int (1 : Int32)] rfl ?_
              refine rn_if_eq (tgt := 35) dX9_policy_19 (by decide) (fun h70 => (cx_eq (cv_eq h70) rk_1 rk_0 (by decide)).elim) (fun h70 => ?_)
              refine rn_iload dX9_policy_22 rfl ?_
              refine rn_bipush (v := (-2 : Int32)) dX9_policy_24 (by decide) ?_
              refine rn_icmp_lt (tgt := 35) dX9_policy_26 (by decide) (fun h71 => ?_) (fun h71 => ?_)
              · have ch71 := cv_lt h71
                have r72 : Rg (-2147483648) (-3) x6_ := rf_ltx ch71 (rg_any x6_) rk_m2 (by decide)
                exact rn_throw kt_SG_95_167 rfl dX9_policy_35 dX9_policy_38 dX9_policy_39 dX9_policy_41 dX9_policy_44 (Nat.le_of_ble_eq_true rfl) (Nat.le_of_ble_eq_true rfl) (Nat.le_of_ble_eq_true rfl) (Nat.le_of_ble_eq_true rfl) (Nat.le_of_ble_eq_true rfl) (rq_ex ⟨S, hS0, (Or.inl rfl), ⟨by first | exact Or.inl ⟨rfl, (by unfold pok; have := rk_4.1; have := rk_4.2; have := rk_3.1; have := rk_3.2; have := rk_m2.1; have := rk_m2.2; have := rk_32.1; have := rk_32.2; have := rk_1.1; have := rk_1.2; have := rk_0.1; have := rk_0.2; omega)⟩ | exact Or.inr ⟨rfl, (by unfold pok; have := rk_4.1; have := rk_4.2; have := rk_3.1; have := rk_3.2; have := rk_m2.1; have := rk_m2.2; have := rk_32.1; have := rk_32.2; have := rk_1.1; have := rk_1.2; have := rk_0.1; have := rk_0.2; omega), x4, ⟨q3, o2, fs3, hq3, hl3, hx4⟩, by have := rk_24.1; have := rk_24.2; have := rx4.1; have := rx4.2; omega⟩, fun _ h => h⟩⟩)
              · have ch71 := cv_nlt h71
                have r73 : Rg (-2) (2147483647) x6_ := rf_ley ch71 rk_m2 (rg_any x6_) (by decide)
                refine rn_iload dX9_policy_29 rfl ?_
                refine rn_iconst (v := (4 : Int32)) dX9_policy_31 (by decide) ?_
                refine rn_icmp_lt (tgt := 45) dX9_policy_32 (by decide) (fun h74 => ?_) (fun h74 => ?_)
                · have ch74 := cv_lt h74
                  have r75 : Rg (-2) (3) x6_ := rf_ltx ch74 r73 rk_4 (by decide)
                  refine rn_aload_n (i := 0) dX9_policy_45 rfl rfl ?_
                  refine rn_get q1 kg_SG_42 hl1 hx2 dX9_policy_46 ?_
                  refine rn_inV (d' := 0) (z' := 0) [] kl_SG_169 dX9_policy_49 q3 hl3 rfl rfl rfl (Nat.le_of_ble_eq_true rfl) (Nat.le_of_ble_eq_true rfl) (Nat.le_of_ble_eq_true rfl) (Nat.le_of_ble_eq_true rfl) ?_
                  refine rn_lv [(0, .ref o2)] rfl ?_
                  refine rn_aload_n (i := 0) dX5_isFull_0 rfl rfl ?_
                  refine rn_get q3 kg_SG_Policies_22 hl3 hx4 dX5_isFull_1 ?_
                  refine rn_bipush (v := (24 : Int32)) dX5_isFull_4 (by decide) ?_
                  refine rn_icmp_lt (tgt := 13) dX5_isFull_6 (by decide) (fun h76 => ?_) (fun h76 => ?_)
                  · have ch76 := cv_lt h76
                    have r77 : Rg (0) (23) x4 := rf_ltx ch76 rx4 rk_24 (by decide)
                    refine rn_iconst (v := (0 : Int32)) dX5_isFull_13 (by decide) ?_
                    refine rn_iret dX5_isFull_14 rfl rfl (rq_in ?_)
                    refine rn_stk [.int (0 : Int32)] rfl ?_
                    refine rn_if_eq (tgt := 65) dX9_policy_52 (by decide) (fun h78 => ?_) (fun h78 => (cx_ne (cv_ne h78) rk_0 rk_0 (by decide)).elim)
                    refine rn_aload_n (i := 0) dX9_policy_65 rfl rfl ?_
                    refine rn_get q1 kg_SG_42 hl1 hx2 dX9_policy_66 ?_
                    refine rn_iload_n (i := 1) dX9_policy_69 rfl rfl ?_
                    refine rn_new (a := 2) (b := 9) kn_SG_147 (Nat.le_of_ble_eq_true rfl) (Nat.le_of_ble_eq_true rfl) dX9_policy_70 (fun q79 => ?_)
                    refine rn_dup dX9_policy_73 rfl ?_
                    refine rn_iload_n (i := 2) dX9_policy_74 rfl rfl ?_
                    refine rn_iload_n (i := 3) dX9_policy_75 rfl rfl ?_
                    refine rn_callI (a := 2) (b := 9) [.int x2_, .int x3_] kl_SG_149 dX9_policy_76 (n_X3_init G ws q79 x2_ x3_) rq_no rfl rfl (Nat.le_of_ble_eq_true rfl) (Nat.le_of_ble_eq_true rfl) (Nat.le_of_ble_eq_true rfl) (Nat.le_of_ble_eq_true rfl) (Nat.le_of_ble_eq_true rfl) (Nat.le_of_ble_eq_true rfl) (fun v9 w80 h81 => ?_)
                    obtain ⟨rfl, hw82⟩ := h81
                    obtain ⟨S82, hT82, m82⟩ : ∃ S9, St G S [] ws S9 w80 ∧ (q79, 3) ∈ S9 := by rw [hw82]; exact ⟨_, St.app (St.rf hS0.1) rfl (by rw [hk_3]; exact Or.inl ⟨rfl, _, rfl, (ts_fs_cons (tv_i (rg_any x2_)) (ts_fs_cons (tv_i (rg_w r60 (by decide) (by decide))) ts_fs_nil))⟩), List.mem_append_right _ (List.mem_singleton.mpr rfl)⟩
                    have hS82 := St.tr hS0 hT82 rfl
                    refine rn_stk [.ref q79, .int x1_, .ref o2] rfl ?_
                    refine rn_new (a := 1) (b := 7) kn_SG_147 (Nat.le_of_ble_eq_true rfl) (Nat.le_of_ble_eq_true rfl) dX9_policy_79 (fun q83 => ?_)
                    refine rn_dup dX9_policy_82 rfl ?_
                    refine rn_iload dX9_policy_83 rfl ?_
                    refine rn_iload dX9_policy_85 rfl ?_
                    refine rn_callI (a := 1) (b := 7) [.int x4_, .int x5_] kl_SG_149 dX9_policy_87 (n_X3_init G w80 q83 x4_ x5_) rq_no rfl rfl (Nat.le_of_ble_eq_true rfl) (Nat.le_of_ble_eq_true rfl) (Nat.le_of_ble_eq_true rfl) (Nat.le_of_ble_eq_true rfl) (Nat.le_of_ble_eq_true rfl) (Nat.le_of_ble_eq_true rfl) (fun v9 w84 h85 => ?_)
                    obtain ⟨rfl, hw86⟩ := h85
                    obtain ⟨S86, hT86, m86⟩ : ∃ S9, St G S82 [] w80 S9 w84 ∧ (q83, 3) ∈ S9 := by rw [hw86]; exact ⟨_, St.app (St.rf hS82.1) rfl (by rw [hk_3]; exact Or.inl ⟨rfl, _, rfl, (ts_fs_cons (tv_i (rg_any x4_)) (ts_fs_cons (tv_i (rg_w r69 (by decide) (by decide))) ts_fs_nil))⟩), List.mem_append_right _ (List.mem_singleton.mpr rfl)⟩
                    have hS86 := St.tr hS82 hT86 rfl
                    refine rn_stk [.ref q83, .ref q79, .int x1_, .ref o2] rfl ?_
                    refine rn_iload dX9_policy_90 rfl ?_
                    refine rn_callV (a := 0) (b := 0) [.int x1_, .ref q79, .ref q83, .int x6_] kl_SG_172 dX9_policy_92 q3 (hT86.fr (hT82.pos hq3) rfl (hT82.fr hq3 rfl hl3)) rfl (t_X5_append G S86 w84 hS86.1 o2 (hT86.mem (hT82.mem m2)) x1_ q79 (hT86.mem m82) q83 m86 x6_) rfl rfl (Nat.le_of_ble_eq_true rfl) (Nat.le_of_ble_eq_true rfl) (Nat.le_of_ble_eq_true rfl) (Nat.le_of_ble_eq_true rfl) (Nat.le_of_ble_eq_true rfl) (Nat.le_of_ble_eq_true rfl) (fun _ _ h => False.elim h) (fun v9 w87 h88 => ?_)
                    obtain ⟨S90, hT90, v89, rfl, rv89, xah88⟩ := h88
                    have hS90 := St.tr hS86 hT90 rfl
                    refine rn_stk [.int v89] rfl ?_
                    exact rn_iret dX9_policy_95 rfl rfl (rq_in ⟨S90, hS90, v89, rfl, rv89, (by obtain ⟨a, a2, p1, p2, p3, p4⟩ := xah88; have z := cf_u hS86.1 rfl p1 ⟨q3, o2, fs3, (hT86.pos (hT82.pos hq3)), (hT86.fr (hT82.pos hq3) rfl (hT82.fr hq3 rfl hl3)), hx4⟩; cases z; have z3 := p3 (by have := rk_24.1; have := rk_24.2; have := r77.1; have := r77.2; omega); exact ⟨(by unfold pok; have := rk_4.1; have := rk_4.2; have := rk_3.1; have := rk_3.2; have := rk_m2.1; have := rk_m2.2; have := rk_32.1; have := rk_32.2; have := rk_1.1; have := rk_1.2; have := rk_0.1; have := rk_0.2; omega), _, _, ⟨q3, o2, fs3, hq3, hl3, hx4⟩, p2, by have := rk_24.1; have := rk_24.2; have := r77.1; have := r77.2; omega, z3, p4⟩)⟩)
                  · have ch76 := cv_nlt h76
                    have r91 : Rg (24) (24) x4 := rf_ley ch76 rk_24 rx4 (by decide)
                    refine rn_iconst (v := (1 : Int32)) dX5_isFull_9 (by decide) ?_
                    refine rn_goto (tgt := 14) dX5_isFull_10 (by decide) ?_
                    refine rn_iret dX5_isFull_14 rfl rfl (rq_in ?_)
                    refine rn_stk [.int (1 : Int32)] rfl ?_
                    refine rn_if_eq (tgt := 65) dX9_policy_52 (by decide) (fun h92 => (cx_eq (cv_eq h92) rk_1 rk_0 (by decide)).elim) (fun h92 => ?_)
                    exact rn_throw kt_SG_80_170 rfl dX9_policy_55 dX9_policy_58 dX9_policy_59 dX9_policy_61 dX9_policy_64 (Nat.le_of_ble_eq_true rfl) (Nat.le_of_ble_eq_true rfl) (Nat.le_of_ble_eq_true rfl) (Nat.le_of_ble_eq_true rfl) (Nat.le_of_ble_eq_true rfl) (rq_ex ⟨S, hS0, (Or.inr rfl), ⟨by first | exact Or.inl ⟨rfl, (by unfold pok; have := rk_4.1; have := rk_4.2; have := rk_3.1; have := rk_3.2; have := rk_m2.1; have := rk_m2.2; have := rk_32.1; have := rk_32.2; have := rk_1.1; have := rk_1.2; have := rk_0.1; have := rk_0.2; omega)⟩ | exact Or.inr ⟨rfl, (by unfold pok; have := rk_4.1; have := rk_4.2; have := rk_3.1; have := rk_3.2; have := rk_m2.1; have := rk_m2.2; have := rk_32.1; have := rk_32.2; have := rk_1.1; have := rk_1.2; have := rk_0.1; have := rk_0.2; omega), x4, ⟨q3, o2, fs3, hq3, hl3, hx4⟩, by have := rk_24.1; have := rk_24.2; have := r91.1; have := r91.2; omega⟩, fun _ h => h⟩⟩)
                · have ch74 := cv_nlt h74
                  have r93 : Rg (4) (2147483647) x6_ := rf_ley ch74 rk_4 r73 (by decide)
                  exact rn_throw kt_SG_95_167 rfl dX9_policy_35 dX9_policy_38 dX9_policy_39 dX9_policy_41 dX9_policy_44 (Nat.le_of_ble_eq_true rfl) (Nat.le_of_ble_eq_true rfl) (Nat.le_of_ble_eq_true rfl) (Nat.le_of_ble_eq_true rfl) (Nat.le_of_ble_eq_true rfl) (rq_ex ⟨S, hS0, (Or.inl rfl), ⟨by first | exact Or.inl ⟨rfl, (by unfold pok; have := rk_4.1; have := rk_4.2; have := rk_3.1; have := rk_3.2; have := rk_m2.1; have := rk_m2.2; have := rk_32.1; have := rk_32.2; have := rk_1.1; have := rk_1.2; have := rk_0.1; have := rk_0.2; omega)⟩ | exact Or.inr ⟨rfl, (by unfold pok; have := rk_4.1; have := rk_4.2; have := rk_3.1; have := rk_3.2; have := rk_m2.1; have := rk_m2.2; have := rk_32.1; have := rk_32.2; have := rk_1.1; have := rk_1.2; have := rk_0.1; have := rk_0.2; omega), x4, ⟨q3, o2, fs3, hq3, hl3, hx4⟩, by have := rk_24.1; have := rk_24.2; have := rx4.1; have := rx4.2; omega⟩, fun _ h => h⟩⟩)
