abbrev q_t_X9_sum (G : rn_G) (S : ts_S) (ws : va_W) : rn_R → va_W → Prop := rQ (fun v w => St G S [11] ws S w ∧ (∃ x : Int32, v = some (.int x) ∧ Rg (-2147483648) (2147483647) x)) (fun E w => St G S [11] ws S w ∧ (E = "java/lang/IllegalStateException"))
set_option maxRecDepth 20000 in
set_option maxHeartbeats 4000000 in
theorem t_X9_sum (G : rn_G) (S : ts_S) (ws : va_W) (hW : ts_W G S ws) (o0_ : Nat) (m0_ : (o0_, 9) ∈ S) : Rn G mX9_sum 6 90 1 6 0 (lv_args 0 [.ref o0_]) [] ws (q_t_X9_sum G S ws ) := by
  have hS0 : St G S [11] ws S ws := St.rf hW
  refine rn_lv [(0, .ref o0_)] rfl ?_
  refine rn_aload_n (i := 0) dX9_sum_0 rfl rfl ?_
  obtain ⟨q1, fs1, hq1, hl1, hf1⟩ := ts_obj hS0.1 m0_ hk_9
  obtain ⟨o2, hx2, m2⟩ := fs_r hf1 1 rfl
  refine rn_get q1 kg_SG_10 hl1 hx2 dX9_sum_1 ?_
  obtain ⟨q3, fs3, hq3, hl3, hf3⟩ := ts_obj hS0.1 m2 hk_4
  refine rn_callV (a := 1) (b := 6) [] kl_SG_76 dX9_sum_4 q3 hl3 rfl (t_X4_size G S ws hS0.1 o2 m2) rfl rfl (Nat.le_of_ble_eq_true rfl) (Nat.le_of_ble_eq_true rfl) (Nat.le_of_ble_eq_true rfl) (Nat.le_of_ble_eq_true rfl) (Nat.le_of_ble_eq_true rfl) (Nat.le_of_ble_eq_true rfl) (fun _ _ h => False.elim h) (fun v9 w4 h5 => ?_)
  obtain ⟨rfl, v6, rfl, rv6⟩ := h5
  refine rn_stk [.int v6] rfl ?_
  refine rn_bipush (v := (20 : Int32)) dX9_sum_7 (by decide) ?_
  refine rn_icmp_ge (tgt := 22) dX9_sum_9 (by decide) (fun h8 => ?_) (fun h8 => ?_)
  · have ch8 := cv_le h8
    have r9 : Rg (20) (2040) v6 := rf_ley ch8 rk_20 rv6 (by decide)
    refine rn_aload_n (i := 0) dX9_sum_22 rfl rfl ?_
    refine rn_get q1 kg_SG_10 hl1 hx2 dX9_sum_23 ?_
    refine rn_callV (a := 1) (b := 6) [] kl_SG_128 dX9_sum_26 q3 hl3 rfl (t_X4_mendSum G S ws hS0.1 o2 m2) rfl rfl (Nat.le_of_ble_eq_true rfl) (Nat.le_of_ble_eq_true rfl) (Nat.le_of_ble_eq_true rfl) (Nat.le_of_ble_eq_true rfl) (Nat.le_of_ble_eq_true rfl) (Nat.le_of_ble_eq_true rfl) (fun _ _ h => False.elim h) (fun v9 w10 h11 => ?_)
    obtain ⟨hT13, v12, rfl, rv12⟩ := h11
    have hS13 := St.tr hS0 hT13 rfl
    refine rn_stk [.int v12] rfl ?_
    exact rn_iret dX9_sum_29 rfl rfl (rq_in ⟨hS13, v12, rfl, rv12⟩)
  · have ch8 := cv_nle h8
    have r14 : Rg (0) (19) v6 := rf_ltx ch8 rv6 rk_20 (by decide)
    exact rn_throw kt_SG_80_131 rfl dX9_sum_12 dX9_sum_15 dX9_sum_16 dX9_sum_18 dX9_sum_21 (Nat.le_of_ble_eq_true rfl) (Nat.le_of_ble_eq_true rfl) (Nat.le_of_ble_eq_true rfl) (Nat.le_of_ble_eq_true rfl) (Nat.le_of_ble_eq_true rfl) (rq_ex ⟨hS0, rfl⟩)
set_option maxRecDepth 20000 in
theorem n_X3_init (G : rn_G) (pre : va_W) (q : Nat) (x0 : Int32) (x1 : Int32) : Rn G mX3_init 1 20 0 0 0 (lv_args 0 [.ref q, .int x0, .int x1]) [] (pre ++ [(q, .inr (3, fs0_3))]) (rQ (fun v w => v = none ∧ w = pre ++ [(q, .inr (3, [.int x0, .int x1]))]) (fun _ _ => False)) := by
  refine rn_lv [(0, .ref q), (1, .int x0), (2, .int x1)] rfl ?_
  refine rn_aload_n (i := 0) dX3_init_0 rfl rfl ?_
  refine rn_objInit wd_457 wd_27 wd_28 dX3_init_1 (Nat.le_of_ble_eq_true rfl) (Nat.le_of_ble_eq_true rfl) (Nat.le_of_ble_eq_true rfl) ?_
  refine rn_aload_n (i := 0) dX3_init_4 rfl rfl ?_
  refine rn_iload_n (i := 1) dX3_init_5 rfl rfl ?_
  refine rn_put pre.length kp_SG_Net_7 (la_mid rfl) (Nat.le_of_ble_eq_true (n := 1) rfl) rfl rfl dX3_init_6 ?_
  refine rn_world (pre ++ [(q, .inr (3, [.int x0, .int 0]))]) (set_mid rfl) ?_
  refine rn_aload_n (i := 0) dX3_init_9 rfl rfl ?_
  refine rn_iload_n (i := 2) dX3_init_10 rfl rfl ?_
  refine rn_put pre.length kp_SG_Net_13 (la_mid rfl) (Nat.le_of_ble_eq_true (n := 2) rfl) rfl rfl dX3_init_11 ?_
  refine rn_world (pre ++ [(q, .inr (3, [.int x0, .int x1]))]) (set_mid rfl) ?_
  exact rn_vret dX3_init_14 rfl (rq_in ⟨rfl, rfl⟩)
abbrev q_t_X9_route (G : rn_G) (S : ts_S) (ws : va_W) (x1_ x2_ x3_ : Int32) : rn_R → va_W → Prop := rQ (fun v w => ∃ S' : ts_S, St G S [7, 16, 17] ws S' w ∧ (∃ x : Int32, v = some (.int x) ∧ Rg (1) (16) x ∧ (rok x2_ x3_ ∧ ∀ (n : Nat) (net w9 p : Nat → Int32), Tb S ws n net w9 p → n < 16 ∧ Tb S' w (n + 1) (upd net n x1_) (upd w9 n x2_) (upd p n x3_)))) (fun E w => ∃ S' : ts_S, St G S [7, 16, 17] ws S' w ∧ (E = "java/lang/IllegalArgumentException" ∨ E = "java/lang/IllegalStateException") ∧ (((E = "java/lang/IllegalArgumentException" ∧ ¬ rok x2_ x3_) ∨ (E = "java/lang/IllegalStateException" ∧ rok x2_ x3_ ∧ (∀ (n : Nat) (net w9 p : Nat → Int32), Tb S ws n net w9 p → 16 ≤ n))) ∧ (∀ (n : Nat) (net w9 p : Nat → Int32), Tb S ws n net w9 p → Tb S' w n net w9 p)))
set_option maxRecDepth 20000 in
set_option maxHeartbeats 4000000 in
theorem t_X9_route (G : rn_G) (S : ts_S) (ws : va_W) (hW : ts_W G S ws) (o0_ : Nat) (m0_ : (o0_, 9) ∈ S) (x1_ : Int32) (x2_ : Int32) (x3_ : Int32) : Rn G mX9_route 6 90 1 6 0 (lv_args 0 [.ref o0_, .int x1_, .int x2_, .int x3_]) [] ws (q_t_X9_route G S ws x1_ x2_ x3_) := by
  have hS0 : St G S [7, 16, 17] ws S ws := St.rf hW
  obtain ⟨q1, fs1, hq1, hl1, hf1⟩ := ts_obj hS0.1 m0_ hk_9
  obtain ⟨o2, hx2, m2⟩ := fs_r hf1 7 rfl
  obtain ⟨q3, fs3, hq3, hl3, hf3⟩ := ts_obj hS0.1 m2 hk_7
  obtain ⟨x4, hx4, rx4⟩ := fs_i hf3 2 rfl
  obtain ⟨o5, hx5, m5⟩ := fs_r hf3 0 rfl
  obtain ⟨o6, hx6, m6⟩ := fs_r hf3 1 rfl
  obtain ⟨q7, f7, hq7, hl7, hf7⟩ := ts_ra hS0.1 m5 hk_16
  obtain ⟨q8, f8, hq8, hl8, hf8⟩ := ts_ia hS0.1 m6 hk_17
  refine rn_lv [(0, .ref o0_), (1, .int x1_), (2, .int x2_), (3, .int x3_)] rfl ?_
  refine rn_iload_n (i := 2) dX9_route_0 rfl rfl ?_
  refine rn_inS (d' := 0) (z' := 0) [.int x2_] kl_SG_133 dX9_route_1 rfl rfl (Nat.le_of_ble_eq_true rfl) (Nat.le_of_ble_eq_true rfl) (Nat.le_of_ble_eq_true rfl) (Nat.le_of_ble_eq_true rfl) ?_
  refine rn_lv [(0, .int x2_)] rfl ?_
  refine rn_iload_n (i := 0) dX9_isWidth_0 rfl rfl ?_
  refine rn_if_lt (tgt := 14) dX9_isWidth_1 (by decide) (fun h9 => ?_) (fun h9 => ?_)
  · have ch9 := cv_lt h9
    have r10 : Rg (-2147483648) (-1) x2_ := rf_ltx ch9 (rg_any x2_) rk_0 (by decide)
    refine rn_iconst (v := (0 : Int32)) dX9_isWidth_14 (by decide) ?_
    refine rn_iret dX9_isWidth_15 rfl rfl (rq_in ?_)
    refine rn_stk [.int (0 : Int32)] rfl ?_
    refine rn_if_eq (tgt := 14) dX9_route_4 (by decide) (fun h11 => ?_) (fun h11 => (cx_ne (cv_ne h11) rk_0 rk_0 (by decide)).elim)
    exact rn_throw kt_SG_95_139 rfl dX9_route_14 dX9_route_17 dX9_route_18 dX9_route_20 dX9_route_23 (Nat.le_of_ble_eq_true rfl) (Nat.le_of_ble_eq_true rfl) (Nat.le_of_ble_eq_true rfl) (Nat.le_of_ble_eq_true rfl) (Nat.le_of_ble_eq_true rfl) (rq_ex ⟨S, hS0, (Or.inl rfl), ⟨by first | exact Or.inl ⟨rfl, (by unfold rok; have := rk_32.1; have := rk_32.2; have := rk_1.1; have := rk_1.2; have := rk_0.1; have := rk_0.2; omega)⟩ | exact Or.inr ⟨rfl, (by unfold rok; have := rk_32.1; have := rk_32.2; have := rk_1.1; have := rk_1.2; have := rk_0.1; have := rk_0.2; omega), fun n net w9 p hT => by have hn := pt_n hW hT ⟨q3, o2, fs3, hq3, hl3, hx4⟩; have := rk_16.1; have := rk_16.2; have := rx4.1; have := rx4.2; omega⟩, fun n net w9 p hT => hT⟩⟩)
  · have ch9 := cv_nlt h9
    have r12 : Rg (0) (2147483647) x2_ := rf_ley ch9 rk_0 (rg_any x2_) (by decide)
    refine rn_iload_n (i := 0) dX9_isWidth_4 rfl rfl ?_
    refine rn_bipush (v := (32 : Int32)) dX9_isWidth_5 (by decide) ?_
    refine rn_icmp_gt (tgt := 14) dX9_isWidth_7 (by decide) (fun h13 => ?_) (fun h13 => ?_)
    · have ch13 := cv_lt h13
      have r14 : Rg (33) (2147483647) x2_ := rf_lty ch13 rk_32 r12 (by decide)
      refine rn_iconst (v := (0 : Int32)) dX9_isWidth_14 (by decide) ?_
      refine rn_iret dX9_isWidth_15 rfl rfl (rq_in ?_)
      refine rn_stk [.int (0 : Int32)] rfl ?_
      refine rn_if_eq (tgt := 14) dX9_route_4 (by decide) (fun h15 => ?_) (fun h15 => (cx_ne (cv_ne h15) rk_0 rk_0 (by decide)).elim)
      exact rn_throw kt_SG_95_139 rfl dX9_route_14 dX9_route_17 dX9_route_18 dX9_route_20 dX9_route_23 (Nat.le_of_ble_eq_true rfl) (Nat.le_of_ble_eq_true rfl) (Nat.le_of_ble_eq_true rfl) (Nat.le_of_ble_eq_true rfl) (Nat.le_of_ble_eq_true rfl) (rq_ex ⟨S, hS0, (Or.inl rfl), ⟨by first | exact Or.inl ⟨rfl, (by unfold rok; have := rk_32.1; have := rk_32.2; have := rk_1.1; have := rk_1.2; have := rk_0.1; have := rk_0.2; omega)⟩ | exact Or.inr ⟨rfl, (by unfold rok; have := rk_32.1; have := rk_32.2; have := rk_1.1; have := rk_1.2; have := rk_0.1; have := rk_0.2; omega), fun n net w9 p hT => by have hn := pt_n hW hT ⟨q3, o2, fs3, hq3, hl3, hx4⟩; have := rk_16.1; have := rk_16.2; have := rx4.1; have := rx4.2; omega⟩, fun n net w9 p hT => hT⟩⟩)
    · have ch13 := cv_nlt h13
      have r16 : Rg (0) (32) x2_ := rf_lex ch13 r12 rk_32 (by decide)
      refine rn_iconst (v := (1 : Int32)) dX9_isWidth_10 (by decide) ?_
      refine rn_goto (tgt := 15) dX9_isWidth_11 (by decide) ?_
      refine rn_iret dX9_isWidth_15 rfl rfl (rq_in ?_)
      refine rn_stk [.int (1 : Int32)] rfl ?_
      refine rn_if_eq (tgt := 14) dX9_route_4 (by decide) (fun h17 => (cx_eq (cv_eq h17) rk_1 rk_0 (by decide)).elim) (fun h17 => ?_)
      refine rn_iload_n (i := 3) dX9_route_7 rfl rfl ?_
      refine rn_inS (d' := 0) (z' := 0) [.int x3_] kl_SG_136 dX9_route_8 rfl rfl (Nat.le_of_ble_eq_true rfl) (Nat.le_of_ble_eq_true rfl) (Nat.le_of_ble_eq_true rfl) (Nat.le_of_ble_eq_true rfl) ?_
      refine rn_lv [(0, .int x3_)] rfl ?_
      refine rn_iload_n (i := 0) dX9_isPortOrWay_0 rfl rfl ?_
      refine rn_if_eq (tgt := 9) dX9_isPortOrWay_1 (by decide) (fun h18 => ?_) (fun h18 => ?_)
      · have ch18 := cv_eq h18
        have r19 : Rg (0) (0) x3_ := rf_eqx ch18 (rg_any x3_) rk_0 (by decide) (by decide)
        refine rn_iconst (v := (1 : Int32)) dX9_isPortOrWay_9 (by decide) ?_
        refine rn_goto (tgt := 14) dX9_isPortOrWay_10 (by decide) ?_
        refine rn_iret dX9_isPortOrWay_14 rfl rfl (rq_in ?_)
        refine rn_stk [.int (1 : Int32)] rfl ?_
        refine rn_if_ne (tgt := 24) dX9_route_11 (by decide) (fun h20 => ?_) (fun h20 => (cx_eq (cv_eq h20) rk_1 rk_0 (by decide)).elim)
        refine rn_aload_n (i := 0) dX9_route_24 rfl rfl ?_
        refine rn_get q1 kg_SG_35 hl1 hx2 dX9_route_25 ?_
        refine rn_inV (d' := 0) (z' := 0) [] kl_SG_141 dX9_route_28 q3 hl3 rfl rfl rfl (Nat.le_of_ble_eq_true rfl) (Nat.le_of_ble_eq_true rfl) (Nat.le_of_ble_eq_true rfl) (Nat.le_of_ble_eq_true rfl) ?_
        refine rn_lv [(0, .ref o2)] rfl ?_
        refine rn_aload_n (i := 0) dX7_isFull_0 rfl rfl ?_
        refine rn_get q3 kg_SG_Routes_21 hl3 hx4 dX7_isFull_1 ?_
        refine rn_bipush (v := (16 : Int32)) dX7_isFull_4 (by decide) ?_
        refine rn_icmp_lt (tgt := 13) dX7_isFull_6 (by decide) (fun h21 => ?_) (fun h21 => ?_)
        · have ch21 := cv_lt h21
          have r22 : Rg (0) (15) x4 := rf_ltx ch21 rx4 rk_16 (by decide)
          refine rn_iconst (v := (0 : Int32)) dX7_isFull_13 (by decide) ?_
          refine rn_iret dX7_isFull_14 rfl rfl (rq_in ?_)
          refine rn_stk [.int (0 : Int32)] rfl ?_
          refine rn_if_eq (tgt := 44) dX9_route_31 (by decide) (fun h23 => ?_) (fun h23 => (cx_ne (cv_ne h23) rk_0 rk_0 (by decide)).elim)
          refine rn_aload_n (i := 0) dX9_route_44 rfl rfl ?_
          refine rn_get q1 kg_SG_35 hl1 hx2 dX9_route_45 ?_
          refine rn_new (a := 0) (b := 4) kn_SG_147 (Nat.le_of_ble_eq_true rfl) (Nat.le_of_ble_eq_true rfl) dX9_route_48 (fun q24 => ?_)
          refine rn_dup dX9_route_51 rfl ?_
          refine rn_iload_n (i := 1) dX9_route_52 rfl rfl ?_
          refine rn_iload_n (i := 2) dX9_route_53 rfl rfl ?_
          refine rn_callI (a := 0) (b := 4) [.int x1_, .int x2_] kl_SG_149 dX9_route_54 (n_X3_init G ws q24 x1_ x2_) rq_no rfl rfl (Nat.le_of_ble_eq_true rfl) (Nat.le_of_ble_eq_true rfl) (Nat.le_of_ble_eq_true rfl) (Nat.le_of_ble_eq_true rfl) (Nat.le_of_ble_eq_true rfl) (Nat.le_of_ble_eq_true rfl) (fun v9 w25 h26 => ?_)
          obtain ⟨rfl, hw27⟩ := h26
          obtain ⟨S27, hT27, m27, qn27, hqn27, hln27⟩ : ∃ S9, St G S [] ws S9 w25 ∧ (q24, 3) ∈ S9 ∧ ∃ q9 : Nat, S9[q9]? = some (q24, 3) ∧ w25[q9]? = some (q24, .inr (3, [.int x1_, .int x2_])) := by rw [hw27]; exact ad_net hS0.1 q24 x1_ x2_
          have hS27 := St.tr hS0 hT27 rfl
          refine rn_stk [.ref q24, .ref o2] rfl ?_
          refine rn_iload_n (i := 3) dX9_route_57 rfl rfl ?_
          refine rn_inV (d' := 0) (z' := 0) [.ref q24, .int x3_] kl_SG_151 dX9_route_58 q3 (hT27.fr hq3 rfl hl3) rfl rfl rfl (Nat.le_of_ble_eq_true rfl) (Nat.le_of_ble_eq_true rfl) (Nat.le_of_ble_eq_true rfl) (Nat.le_of_ble_eq_true rfl) ?_
          refine rn_lv [(0, .ref o2), (1, .ref q24), (2, .int x3_)] rfl ?_
          refine rn_aload_n (i := 0) dX7_append_0 rfl rfl ?_
          refine rn_get q3 kg_SG_Routes_21 (hT27.fr hq3 rfl hl3) hx4 dX7_append_1 ?_
          refine rn_if_lt (tgt := 46) dX7_append_4 (by decide) (fun h28 => (cx_lt (cv_lt h28) r22 rk_0 (by decide)).elim) (fun h28 => ?_)
          have ch28 := cv_nlt h28
          refine rn_aload_n (i := 0) dX7_append_7 rfl rfl ?_
          refine rn_get q3 kg_SG_Routes_21 (hT27.fr hq3 rfl hl3) hx4 dX7_append_8 ?_
          refine rn_bipush (v := (16 : Int32)) dX7_append_11 (by decide) ?_
          refine rn_icmp_ge (tgt := 46) dX7_append_13 (by decide) (fun h29 => (cx_le (cv_le h29) rk_16 r22 (by decide)).elim) (fun h29 => ?_)
          have ch29 := cv_nle h29
          refine rn_aload_n (i := 0) dX7_append_16 rfl rfl ?_
          refine rn_get q3 kg_SG_Routes_13 (hT27.fr hq3 rfl hl3) hx5 dX7_append_17 ?_
          refine rn_aload_n (i := 0) dX7_append_20 rfl rfl ?_
          refine rn_get q3 kg_SG_Routes_21 (hT27.fr hq3 rfl hl3) hx4 dX7_append_21 ?_
          refine rn_aload_n (i := 1) dX7_append_24 rfl rfl ?_
          refine rs_aast q7 hS27 (hT27.pos hq7) (hT27.fr hq7 rfl hl7) (fun j o' hj => hT27.mem (hf7 j o' hj)) hk_16 rfl rfl m27 hln27 rfl r22 (by decide) (by decide) dX7_append_25 (fun w30 f31 hS31 hl31 hf31 hu31 hn31 => ?_)
          refine rn_aload_n (i := 0) dX7_append_26 rfl rfl ?_
          refine rn_get q3 kg_SG_Routes_17 ((hn31 _ (ts_ne (hT27.pos hq7) (hT27.pos hq3) rfl)).trans (hT27.fr hq3 rfl hl3)) hx6 dX7_append_27 ?_
          refine rn_aload_n (i := 0) dX7_append_30 rfl rfl ?_
          refine rn_get q3 kg_SG_Routes_21 ((hn31 _ (ts_ne (hT27.pos hq7) (hT27.pos hq3) rfl)).trans (hT27.fr hq3 rfl hl3)) hx4 dX7_append_31 ?_
          refine rn_iload_n (i := 2) dX7_append_34 rfl rfl ?_
          refine rs_iast q8 hS31 (hT27.pos hq8) ((hn31 _ (ts_ne (hT27.pos hq7) (hT27.pos hq8) rfl)).trans (hT27.fr hq8 rfl hl8)) hf8 hk_17 rfl rfl r22 (by decide) (by decide) (rg_w r19 (by decide) (by decide)) dX7_append_35 (fun w32 f33 hS33 hl33 hf33 hu33 hn33 => ?_)
          refine rn_aload_n (i := 0) dX7_append_36 rfl rfl ?_
          refine rn_dup dX7_append_37 rfl ?_
          refine rn_get q3 kg_SG_Routes_21 ((hn33 _ (ts_ne (hT27.pos hq8) (hT27.pos hq3) rfl)).trans ((hn31 _ (ts_ne (hT27.pos hq7) (hT27.pos hq3) rfl)).trans (hT27.fr hq3 rfl hl3))) hx4 dX7_append_38 ?_
          refine rn_iconst (v := (1 : Int32)) dX7_append_41 (by decide) ?_
          refine rs_addC (1) (16) r22 rk_1 dX7_append_42 (by decide) (fun v34 ev34 rv34 => ?_)
          refine rs_put q3 (kp_SG_Routes_21 _) hS33 (hT27.pos hq3) ((hn33 _ (ts_ne (hT27.pos hq8) (hT27.pos hq3) rfl)).trans ((hn31 _ (ts_ne (hT27.pos hq7) (hT27.pos hq3) rfl)).trans (hT27.fr hq3 rfl hl3))) (ts_fs.mono (fun p hp => hT27.mem hp) hf3) hk_7 rfl rfl (tv_i (rg_w rv34 (by decide) (by decide))) rfl rfl dX7_append_43 (fun w35 fs36 hS36 hl36 hf36 hx36 ho36 hn36 => ?_)
          refine rn_aload_n (i := 0) dX7_append_46 rfl rfl ?_
          refine rn_get q3 kg_SG_Routes_21 hl36 hx36 dX7_append_47 ?_
          refine rn_iret dX7_append_50 rfl rfl (rq_in ?_)
          refine rn_stk [.int v34] rfl ?_
          exact rn_iret dX9_route_61 rfl rfl (rq_in ⟨S27, hS36, v34, rfl, rv34, ⟨(by unfold rok; have := rk_32.1; have := rk_32.2; have := rk_1.1; have := rk_1.2; have := rk_0.1; have := rk_0.2; omega), fun n net w9 p hT => by have hn := pt_n hW hT ⟨q3, o2, fs3, hq3, hl3, hx4⟩; exact ⟨by have := rk_16.1; have := rk_16.2; have := r22.1; have := r22.2; omega, tb_add hW hT ⟨q3, o2, fs3, hq3, hl3, hx4⟩ ⟨q7, o5, _, _, hq7, hl7⟩ ⟨q8, o6, _, _, hq8, hl8⟩ ⟨q3, o2, fs36, (hT27.pos hq3), hl36, hx36⟩ ⟨q7, o5, _, _, (hT27.pos hq7), ((hn36 _ (ts_ne (hT27.pos hq3) (hT27.pos hq7) rfl)).trans ((hn33 _ (ts_ne (hT27.pos hq8) (hT27.pos hq7) rfl)).trans hl31))⟩ ⟨q8, o6, _, _, (hT27.pos hq8), ((hn36 _ (ts_ne (hT27.pos hq3) (hT27.pos hq8) rfl)).trans hl33)⟩ hS36 (by have := r22.1; have := r22.2; omega) (show v34.toInt = x4.toInt + 1 by have := r22.1; have := r22.2; have := rv34.1; have := rv34.2; have := rk_1.1; have := rk_1.2; omega) hu31 hu33 (show nt S27 w35 f31 x4.toInt.toNat x1_ x2_ from ⟨_, _, by rw [hu31]; exact va_up_self _ _ _, hqn27, ((hn36 _ (ts_ne (hT27.pos hq3) hqn27 rfl)).trans ((hn33 _ (ts_ne (hT27.pos hq8) hqn27 rfl)).trans ((hn31 _ (ts_ne (hT27.pos hq7) hqn27 rfl)).trans hln27)))⟩)⟩⟩⟩)
        · have ch21 := cv_nlt h21
          have r37 : Rg (16) (16) x4 := rf_ley ch21 rk_16 rx4 (by decide)
          refine rn_iconst (v := (1 : Int32)) dX7_isFull_9 (by decide) ?_
          refine rn_goto (tgt := 14) dX7_isFull_10 (by decide) ?_
          refine rn_iret dX7_isFull_14 rfl rfl (rq_in ?_)
          refine rn_stk [.int (1 : Int32)] rfl ?_
          refine rn_if_eq (tgt := 44) dX9_route_31 (by decide) (fun h38 => (cx_eq (cv_eq h38) rk_1 rk_0 (by decide)).elim) (fun h38 => ?_)
          exact rn_throw kt_SG_80_145 rfl dX9_route_34 dX9_route_37 dX9_route_38 dX9_route_40 dX9_route_43 (Nat.le_of_ble_eq_true rfl) (Nat.le_of_ble_eq_true rfl) (Nat.le_of_ble_eq_true rfl) (Nat.le_of_ble_eq_true rfl) (Nat.le_of_ble_eq_true rfl) (rq_ex ⟨S, hS0, (Or.inr rfl), ⟨by first | exact Or.inl ⟨rfl, (by unfold rok; have := rk_32.1; have := rk_32.2; have := rk_1.1; have := rk_1.2; have := rk_0.1; have := rk_0.2; omega)⟩ | exact Or.inr ⟨rfl, (by unfold rok; have := rk_32.1; have := rk_32.2; have := rk_1.1; have := rk_1.2; have := rk_0.1; have := rk_0.2; omega), fun n net w9 p hT => by have hn := pt_n hW hT ⟨q3, o2, fs3, hq3, hl3, hx4⟩; have := rk_16.1; have := rk_16.2; have := r37.1; have := r37.2; omega⟩, fun n net w9 p hT => hT⟩⟩)
      · have ch18 := cv_ne h18
        refine rn_iload_n (i := 0) dX9_isPortOrWay_4 rfl rfl ?_
        refine rn_iconst (v := (1 : Int32)) dX9_isPortOrWay_5 (by decide) ?_
        refine rn_icmp_ne (tgt := 13) dX9_isPortOrWay_6 (by decide) (fun h39 => ?_) (fun h39 => ?_)
        · have ch39 := cv_ne h39
          refine rn_iconst (v := (0 : Int32)) dX9_isPortOrWay_13 (by decide) ?_
          refine rn_iret dX9_isPortOrWay_14 rfl rfl (rq_in ?_)
          refine rn_stk [.int (0 : Int32)] rfl ?_
          refine rn_if_ne (tgt := 24) dX9_route_11 (by decide) (fun h40 => (cx_ne (cv_ne h40) rk_0 rk_0 (by decide)).elim) (fun h40 => ?_)
          exact rn_throw kt_SG_95_139 rfl dX9_route_14 dX9_route_17 dX9_route_18 dX9_route_20 dX9_route_23 (Nat.le_of_ble_eq_true rfl) (Nat.le_of_ble_eq_true rfl) (Nat.le_of_ble_eq_true rfl) (Nat.le_of_ble_eq_true rfl) (Nat.le_of_ble_eq_true rfl) (rq_ex ⟨S, hS0, (Or.inl rfl), ⟨by first | exact Or.inl ⟨rfl, (by unfold rok; have := rk_32.1; have := rk_32.2; have := rk_1.1; have := rk_1.2; have := rk_0.1; have := rk_0.2; omega)⟩ | exact Or.inr ⟨rfl, (by unfold rok; have := rk_32.1; have := rk_32.2; have := rk_1.1; have := rk_1.2; have := rk_0.1; have := rk_0.2; omega), fun n net w9 p hT => by have hn := pt_n hW hT ⟨q3, o2, fs3, hq3, hl3, hx4⟩; have := rk_16.1; have := rk_16.2; have := rx4.1; have := rx4.2; omega⟩, fun n net w9 p hT => hT⟩⟩)
        · have ch39 := cv_eq h39
          have r41 : Rg (1) (1) x3_ := rf_eqx ch39 (rg_any x3_) rk_1 (by decide) (by decide)
          refine rn_iconst (v := (1 : Int32)) dX9_isPortOrWay_9 (by decide) ?_
          refine rn_goto (tgt := 14) dX9_isPortOrWay_10 (by decide) ?_
          refine rn_iret dX9_isPortOrWay_14 rfl rfl (rq_in ?_)
          refine rn_stk [.int (1 : Int32)] rfl ?_
          refine rn_if_ne (tgt := 24) dX9_route_11 (by decide) (fun h42 => ?_) (fun h42 => (cx_eq (cv_eq h42) rk_1 rk_0 (by decide)).elim)
          refine rn_aload_n (i := 0) dX9_route_24 rfl rfl ?_
          refine rn_get q1 kg_SG_35 hl1 hx2 dX9_route_25 ?_
          refine rn_inV (d' := 0) (z' := 0) [] kl_SG_141 dX9_route_28 q3 hl3 rfl rfl rfl (Nat.le_of_ble_eq_true rfl) (Nat.le_of_ble_eq_true rfl) (Nat.le_of_ble_eq_true rfl) (Nat.le_of_ble_eq_true rfl) ?_
          refine rn_lv [(0, .ref o2)] rfl ?_
          refine rn_aload_n (i := 0) dX7_isFull_0 rfl rfl ?_
          refine rn_get q3 kg_SG_Routes_21 hl3 hx4 dX7_isFull_1 ?_
          refine rn_bipush (v := (16 : Int32)) dX7_isFull_4 (by decide) ?_
          refine rn_icmp_lt (tgt := 13) dX7_isFull_6 (by decide) (fun h43 => ?_) (fun h43 => ?_)
          · have ch43 := cv_lt h43
            have r44 : Rg (0) (15) x4 := rf_ltx ch43 rx4 rk_16 (by decide)
            refine rn_iconst (v := (0 : Int32)) dX7_isFull_13 (by decide) ?_
            refine rn_iret dX7_isFull_14 rfl rfl (rq_in ?_)
            refine rn_stk [.int (0 : Int32)] rfl ?_
            refine rn_if_eq (tgt := 44) dX9_route_31 (by decide) (fun h45 => ?_) (fun h45 => (cx_ne (cv_ne h45) rk_0 rk_0 (by decide)).elim)
            refine rn_aload_n (i := 0) dX9_route_44 rfl rfl ?_
            refine rn_get q1 kg_SG_35 hl1 hx2 dX9_route_45 ?_
            refine rn_new (a := 0) (b := 4) kn_SG_147 (Nat.le_of_ble_eq_true rfl) (Nat.le_of_ble_eq_true rfl) dX9_route_48 (fun q46 => ?_)
            refine rn_dup dX9_route_51 rfl ?_
            refine rn_iload_n (i := 1) dX9_route_52 rfl rfl ?_
            refine rn_iload_n (i := 2) dX9_route_53 rfl rfl ?_
            refine rn_callI (a := 0) (b := 4) [.int x1_, .int x2_] kl_SG_149 dX9_route_54 (n_X3_init G ws q46 x1_ x2_) rq_no rfl rfl (Nat.le_of_ble_eq_true rfl) (Nat.le_of_ble_eq_true rfl) (Nat.le_of_ble_eq_true rfl) (Nat.le_of_ble_eq_true rfl) (Nat.le_of_ble_eq_true rfl) (Nat.le_of_ble_eq_true rfl) (fun v9 w47 h48 => ?_)
            obtain ⟨rfl, hw49⟩ := h48
            obtain ⟨S49, hT49, m49, qn49, hqn49, hln49⟩ : ∃ S9, St G S [] ws S9 w47 ∧ (q46, 3) ∈ S9 ∧ ∃ q9 : Nat, S9[q9]? = some (q46, 3) ∧ w47[q9]? = some (q46, .inr (3, [.int x1_, .int x2_])) := by rw [hw49]; exact ad_net hS0.1 q46 x1_ x2_
            have hS49 := St.tr hS0 hT49 rfl
            refine rn_stk [.ref q46, .ref o2] rfl ?_
            refine rn_iload_n (i := 3) dX9_route_57 rfl rfl ?_
            refine rn_inV (d' := 0) (z' := 0) [.ref q46, .int x3_] kl_SG_151 dX9_route_58 q3 (hT49.fr hq3 rfl hl3) rfl rfl rfl (Nat.le_of_ble_eq_true rfl) (Nat.le_of_ble_eq_true rfl) (Nat.le_of_ble_eq_true rfl) (Nat.le_of_ble_eq_true rfl) ?_
            refine rn_lv [(0, .ref o2), (1, .ref q46), (2, .int x3_)] rfl ?_
            refine rn_aload_n (i := 0) dX7_append_0 rfl rfl ?_
            refine rn_get q3 kg_SG_Routes_21 (hT49.fr hq3 rfl hl3) hx4 dX7_append_1 ?_
            refine rn_if_lt (tgt := 46) dX7_append_4 (by decide) (fun h50 => (cx_lt (cv_lt h50) r44 rk_0 (by decide)).elim) (fun h50 => ?_)
            have ch50 := cv_nlt h50
            refine rn_aload_n (i := 0) dX7_append_7 rfl rfl ?_
            refine rn_get q3 kg_SG_Routes_21 (hT49.fr hq3 rfl hl3) hx4 dX7_append_8 ?_
            refine rn_bipush (v := (16 : Int32)) dX7_append_11 (by decide) ?_
            refine rn_icmp_ge (tgt := 46) dX7_append_13 (by decide) (fun h51 => (cx_le (cv_le h51) rk_16 r44 (by decide)).elim) (fun h51 => ?_)
            have ch51 := cv_nle h51
            refine rn_aload_n (i := 0) dX7_append_16 rfl rfl ?_
            refine rn_get q3 kg_SG_Routes_13 (hT49.fr hq3 rfl hl3) hx5 dX7_append_17 ?_
            refine rn_aload_n (i := 0) dX7_append_20 rfl rfl ?_
            refine rn_get q3 kg_SG_Routes_21 (hT49.fr hq3 rfl hl3) hx4 dX7_append_21 ?_
            refine rn_aload_n (i := 1) dX7_append_24 rfl rfl ?_
            refine rs_aast q7 hS49 (hT49.pos hq7) (hT49.fr hq7 rfl hl7) (fun j o' hj => hT49.mem (hf7 j o' hj)) hk_16 rfl rfl m49 hln49 rfl r44 (by decide) (by decide) dX7_append_25 (fun w52 f53 hS53 hl53 hf53 hu53 hn53 => ?_)
            refine rn_aload_n (i := 0) dX7_append_26 rfl rfl ?_
            refine rn_get q3 kg_SG_Routes_17 ((hn53 _ (ts_ne (hT49.pos hq7) (hT49.pos hq3) rfl)).trans (hT49.fr hq3 rfl hl3)) hx6 dX7_append_27 ?_
            refine rn_aload_n (i := 0) dX7_append_30 rfl rfl ?_
            refine rn_get q3 kg_SG_Routes_21 ((hn53 _ (ts_ne (hT49.pos hq7) (hT49.pos hq3) rfl)).trans (hT49.fr hq3 rfl hl3)) hx4 dX7_append_31 ?_
            refine rn_iload_n (i := 2) dX7_append_34 rfl rfl ?_
            refine rs_iast q8 hS53 (hT49.pos hq8) ((hn53 _ (ts_ne (hT49.pos hq7) (hT49.pos hq8) rfl)).trans (hT49.fr hq8 rfl hl8)) hf8 hk_17 rfl rfl r44 (by decide) (by decide) (rg_w r41 (by decide) (by decide)) dX7_append_35 (fun w54 f55 hS55 hl55 hf55 hu55 hn55 => ?_)
            refine rn_aload_n (i := 0) dX7_append_36 rfl rfl ?_
            refine rn_dup dX7_append_37 rfl ?_
            refine rn_get q3 kg_SG_Routes_21 ((hn55 _ (ts_ne (hT49.pos hq8) (hT49.pos hq3) rfl)).trans ((hn53 _ (ts_ne (hT49.pos hq7) (hT49.pos hq3) rfl)).trans (hT49.fr hq3 rfl hl3))) hx4 dX7_append_38 ?_
            refine rn_iconst (v := (1 : Int32)) dX7_append_41 (by decide) ?_
            refine rs_addC (1) (16) r44 rk_1 dX7_append_42 (by decide) (fun v56 ev56 rv56 => ?_)
            refine rs_put q3 (kp_SG_Routes_21 _) hS55 (hT49.pos hq3) ((hn55 _ (ts_ne (hT49.pos hq8) (hT49.pos hq3) rfl)).trans ((hn53 _ (ts_ne (hT49.pos hq7) (hT49.pos hq3) rfl)).trans (hT49.fr hq3 rfl hl3))) (ts_fs.mono (fun p hp => hT49.mem hp) hf3) hk_7 rfl rfl (tv_i (rg_w rv56 (by decide) (by decide))) rfl rfl dX7_append_43 (fun w57 fs58 hS58 hl58 hf58 hx58 ho58 hn58 => ?_)
            refine rn_aload_n (i := 0) dX7_append_46 rfl rfl ?_
            refine rn_get q3 kg_SG_Routes_21 hl58 hx58 dX7_append_47 ?_
            refine rn_iret dX7_append_50 rfl rfl (rq_in ?_)
            refine rn_stk [.int v56] rfl ?_
            exact rn_iret dX9_route_61 rfl rfl (rq_in ⟨S49, hS58, v56, rfl, rv56, ⟨(by unfold rok; have := rk_32.1; have := rk_32.2; have := rk_1.1; have := rk_1.2; have := rk_0.1; have := rk_0.2; omega), fun n net w9 p hT => by have hn := pt_n hW hT ⟨q3, o2, fs3, hq3, hl3, hx4⟩; exact ⟨by have := rk_16.1; have := rk_16.2; have := r44.1; have := r44.2; omega, tb_add hW hT ⟨q3, o2, fs3, hq3, hl3, hx4⟩ ⟨q7, o5, _, _, hq7, hl7⟩ ⟨q8, o6, _, _, hq8, hl8⟩ ⟨q3, o2, fs58, (hT49.pos hq3), hl58, hx58⟩ ⟨q7, o5, _, _, (hT49.pos hq7), ((hn58 _ (ts_ne (hT49.pos hq3) (hT49.pos hq7) rfl)).trans ((hn55 _ (ts_ne (hT49.pos hq8) (hT49.pos hq7) rfl)).trans hl53))⟩ ⟨q8, o6, _, _, (hT49.pos hq8), ((hn58 _ (ts_ne (hT49.pos hq3) (hT49.pos hq8) rfl)).trans hl55)⟩ hS58 (by have := r44.1; have := r44.2; omega) (show v56.toInt = x4.toInt + 1 by have := r44.1; have := r44.2; have := rv56.1; have := rv56.2; have := rk_1.1; have := rk_1.2; omega) hu53 hu55 (show nt S49 w57 f53 x4.toInt.toNat x1_ x2_ from ⟨_, _, by rw [hu53]; exact va_up_self _ _ _, hqn49, ((hn58 _ (ts_ne (hT49.pos hq3) hqn49 rfl)).trans ((hn55 _ (ts_ne (hT49.pos hq8) hqn49 rfl)).trans ((hn53 _ (ts_ne (hT49.pos hq7) hqn49 rfl)).trans hln49)))⟩)⟩⟩⟩)
          · have ch43 := cv_nlt h43
            have r59 : Rg (16) (16) x4 := rf_ley ch43 rk_16 rx4 (by decide)
            refine rn_iconst (v := (1 : Int32)) dX7_isFull_9 (by decide) ?_
            refine rn_goto (tgt := 14) dX7_isFull_10 (by decide) ?_
            refine rn_iret dX7_isFull_14 rfl rfl (rq_in ?_)
            refine rn_stk [.int (1 : Int32)] rfl ?_
            refine rn_if_eq (tgt := 44) dX9_route_31 (by decide) (fun h60 => (cx_eq (cv_eq h60) rk_1 rk_0 (by decide)).elim) (fun h60 => ?_)
            exact rn_throw kt_SG_80_145 rfl dX9_route_34 dX9_route_37 dX9_route_38 dX9_route_40 dX9_route_43 (Nat.le_of_ble_eq_true rfl) (Nat.le_of_ble_eq_true rfl) (Nat.le_of_ble_eq_true rfl) (Nat.le_of_ble_eq_true rfl) (Nat.le_of_ble_eq_true rfl) (rq_ex ⟨S, hS0, (Or.inr rfl), ⟨by first | exact Or.inl ⟨rfl, (by unfold rok; have := rk_32.1; have := rk_32.2; have := rk_1.1; have := rk_1.2; have := rk_0.1; have := rk_0.2; omega)⟩ | exact Or.inr ⟨rfl, (by unfold rok; have := rk_32.1; have := rk_32.2; have := rk_1.1; have := rk_1.2; have := rk_0.1; have := rk_0.2; omega), fun n net w9 p hT => by have hn := pt_n hW hT ⟨q3, o2, fs3, hq3, hl3, hx4⟩; have := rk_16.1; have := rk_16.2; have := r59.1; have := r59.2; omega⟩, fun n net w9 p hT => hT⟩⟩)
abbrev q_t_X9_peer (G : rn_G) (S : ts_S) (ws : va_W) : rn_R → va_W → Prop := rQ (fun v w => St G S [18] ws S w ∧ (∃ x : Int32, v = some (.int x) ∧ Rg (-2147483648) (2147483647) x)) (fun E w => St G S [18] ws S w ∧ (E = "java/lang/IndexOutOfBoundsException"))
set_option maxRecDepth 20000 in
set_option maxHeartbeats 4000000 in
theorem t_X9_peer (G : rn_G) (S : ts_S) (ws : va_W) (hW : ts_W G S ws) (o0_ : Nat) (m0_ : (o0_, 9) ∈ S) (x1_ : Int32) (x2_ : Int32) : Rn G mX9_peer 6 90 1 6 0 (lv_args 0 [.ref o0_, .int x1_, .int x2_]) [] ws (q_t_X9_peer G S ws ) := by
  have hS0 : St G S [18] ws S ws := St.rf hW
  refine rn_lv [(0, .ref o0_), (1, .int x1_), (2, .int x2_)] rfl ?_
  refine rn_iload_n (i := 1) dX9_peer_0 rfl rfl ?_
  refine rn_inS (d' := 0) (z' := 0) [.int x1_] kl_SG_155 dX9_peer_1 rfl rfl (Nat.le_of_ble_eq_true rfl) (Nat.le_of_ble_eq_true rfl) (Nat.le_of_ble_eq_true rfl) (Nat.le_of_ble_eq_true rfl) ?_
  refine rn_lv [(0, .int x1_)] rfl ?_
  refine rn_iload_n (i := 0) dX9_isTunnel_0 rfl rfl ?_
  refine rn_if_lt (tgt := 13) dX9_isTunnel_1 (by decide) (fun h1 => ?_) (fun h1 => ?_)
  · have ch1 := cv_lt h1
    have r2 : Rg (-2147483648) (-1) x1_ := rf_ltx ch1 (rg_any x1_) rk_0 (by decide)
    refine rn_iconst (v := (0 : Int32)) dX9_isTunnel_13 (by decide) ?_
    refine rn_iret dX9_isTunnel_14 rfl rfl (rq_in ?_)
    refine rn_stk [.int (0 : Int32)] rfl ?_
    refine rn_if_ne (tgt := 17) dX9_peer_4 (by decide) (fun h3 => (cx_ne (cv_ne h3) rk_0 rk_0 (by decide)).elim) (fun h3 => ?_)
    exact rn_throw kt_SG_114_158 rfl dX9_peer_7 dX9_peer_10 dX9_peer_11 dX9_peer_13 dX9_peer_16 (Nat.le_of_ble_eq_true rfl) (Nat.le_of_ble_eq_true rfl) (Nat.le_of_ble_eq_true rfl) (Nat.le_of_ble_eq_true rfl) (Nat.le_of_ble_eq_true rfl) (rq_ex ⟨hS0, rfl⟩)
  · have ch1 := cv_nlt h1
    have r4 : Rg (0) (2147483647) x1_ := rf_ley ch1 rk_0 (rg_any x1_) (by decide)
    refine rn_iload_n (i := 0) dX9_isTunnel_4 rfl rfl ?_
    refine rn_iconst (v := (4 : Int32)) dX9_isTunnel_5 (by decide) ?_
    refine rn_icmp_ge (tgt := 13) dX9_isTunnel_6 (by decide) (fun h5 => ?_) (fun h5 => ?_)
    · have ch5 := cv_le h5
      have r6 : Rg (4) (2147483647) x1_ := rf_ley ch5 rk_4 r4 (by decide)
      refine rn_iconst (v := (0 : Int32)) dX9_isTunnel_13 (by decide) ?_
      refine rn_iret dX9_isTunnel_14 rfl rfl (rq_in ?_)
      refine rn_stk [.int (0 : Int32)] rfl ?_
      refine rn_if_ne (tgt := 17) dX9_peer_4 (by decide) (fun h7 => (cx_ne (cv_ne h7) rk_0 rk_0 (by decide)).elim) (fun h7 => ?_)
      exact rn_throw kt_SG_114_158 rfl dX9_peer_7 dX9_peer_10 dX9_peer_11 dX9_peer_13 dX9_peer_16 (Nat.le_of_ble_eq_true rfl) (Nat.le_of_ble_eq_true rfl) (Nat.le_of_ble_eq_true rfl) (Nat.le_of_ble_eq_true rfl) (Nat.le_of_ble_eq_true rfl) (rq_ex ⟨hS0, rfl⟩)
    · have ch5 := cv_nle h5
      have r8 : Rg (0) (3) x1_ := rf_ltx ch5 r4 rk_4 (by decide)
      refine rn_iconst (v := (1 : Int32)) dX9_isTunnel_9 (by decide) ?_
      refine rn_goto (tgt := 14) dX9_isTunnel_10 (by decide) ?_
      refine rn_iret dX9_isTunnel_14 rfl rfl (rq_in ?_)
      refine rn_stk [.int (1 : Int32)] rfl ?_
      refine rn_if_ne (tgt := 17) dX9_peer_4 (by decide) (fun h9 => ?_) (fun h9 => (cx_eq (cv_eq h9) rk_1 rk_0 (by decide)).elim)
      refine rn_aload_n (i := 0) dX9_peer_17 rfl rfl ?_
      obtain ⟨q10, fs10, hq10, hl10, hf10⟩ := ts_obj hS0.1 m0_ hk_9
      obtain ⟨o11, hx11, m11⟩ := fs_r hf10 9 rfl
      refine rn_get q10 kg_SG_46 hl10 hx11 dX9_peer_18 ?_
      refine rn_iload_n (i := 1) dX9_peer_21 rfl rfl ?_
      obtain ⟨q12, f12, hq12, hl12, hf12⟩ := ts_ia hS0.1 m11 hk_18
      refine rs_iald q12 hl12 hf12 rfl r8 (by decide) (by decide) dX9_peer_22 (fun v13 ev13 rv13 => ?_)
      refine rn_istore_n dX9_peer_23 rfl (by decide) [(0, .ref o0_), (1, .int x1_), (2, .int x2_), (3, .int v13)] rfl ?_
      refine rn_aload_n (i := 0) dX9_peer_24 rfl rfl ?_
      refine rn_get q10 kg_SG_46 hl10 hx11 dX9_peer_25 ?_
      refine rn_iload_n (i := 1) dX9_peer_28 rfl rfl ?_
      refine rn_iload_n (i := 2) dX9_peer_29 rfl rfl ?_
      refine rs_iast q12 hS0 hq12 hl12 hf12 hk_18 rfl rfl r8 (by decide) (by decide) (rg_any x2_) dX9_peer_30 (fun w14 f15 hS15 hl15 hf15 hu15 hn15 => ?_)
      refine rn_iload_n (i := 3) dX9_peer_31 rfl rfl ?_
      exact rn_iret dX9_peer_32 rfl rfl (rq_in ⟨hS15, v13, rfl, rv13⟩)
abbrev q_t_X9_meant (G : rn_G) (S : ts_S) (ws : va_W) : rn_R → va_W → Prop := rQ (fun v w => St G S [5] ws S w ∧ (v = none)) (fun E w => St G S [5] ws S w ∧ (E = "java/lang/IllegalArgumentException"))
set_option maxRecDepth 20000 in
set_option maxHeartbeats 4000000 in
theorem t_X9_meant (G : rn_G) (S : ts_S) (ws : va_W) (hW : ts_W G S ws) (o0_ : Nat) (m0_ : (o0_, 9) ∈ S) (x1_ : Int32) (x2_ : Int32) (x3_ : Int32) : Rn G mX9_meant 6 90 1 6 0 (lv_args 0 [.ref o0_, .int x1_, .int x2_, .int x3_]) [] ws (q_t_X9_meant G S ws ) := by
  have hS0 : St G S [5] ws S ws := St.rf hW
  refine rn_lv [(0, .ref o0_), (1, .int x1_), (2, .int x2_), (3, .int x3_)] rfl ?_
  refine rn_iload_n (i := 1) dX9_meant_0 rfl rfl ?_
  refine rn_inS (d' := 0) (z' := 0) [.int x1_] kl_SG_104 dX9_meant_1 rfl rfl (Nat.le_of_ble_eq_true rfl) (Nat.le_of_ble_eq_true rfl) (Nat.le_of_ble_eq_true rfl) (Nat.le_of_ble_eq_true rfl) ?_
  refine rn_lv [(0, .int x1_)] rfl ?_
  refine rn_iload_n (i := 0) dX9_isByte_0 rfl rfl ?_
  refine rn_if_lt (tgt := 15) dX9_isByte_1 (by decide) (fun h1 => ?_) (fun h1 => ?_)
  · have ch1 := cv_lt h1
    have r2 : Rg (-2147483648) (-1) x1_ := rf_ltx ch1 (rg_any x1_) rk_0 (by decide)
    refine rn_iconst (v := (0 : Int32)) dX9_isByte_15 (by decide) ?_
    refine rn_iret dX9_isByte_16 rfl rfl (rq_in ?_)
    refine rn_stk [.int (0 : Int32)] rfl ?_
    refine rn_if_eq (tgt := 22) dX9_meant_4 (by decide) (fun h3 => ?_) (fun h3 => (cx_ne (cv_ne h3) rk_0 rk_0 (by decide)).elim)
    exact rn_throw kt_SG_95_161 rfl dX9_meant_22 dX9_meant_25 dX9_meant_26 dX9_meant_28 dX9_meant_31 (Nat.le_of_ble_eq_true rfl) (Nat.le_of_ble_eq_true rfl) (Nat.le_of_ble_eq_true rfl) (Nat.le_of_ble_eq_true rfl) (Nat.le_of_ble_eq_true rfl) (rq_ex ⟨hS0, rfl⟩)
  · have ch1 := cv_nlt h1
    have r4 : Rg (0) (2147483647) x1_ := rf_ley ch1 rk_0 (rg_any x1_) (by decide)
    refine rn_iload_n (i := 0) dX9_isByte_4 rfl rfl ?_
    refine rn_sipush (v := (255 : Int32)) dX9_isByte_5 (by decide) ?_
    refine rn_icmp_gt (tgt := 15) dX9_isByte_8 (by decide) (fun h5 => ?_) (fun h5 => ?_)
    · have ch5 := cv_lt h5
      have r6 : Rg (256) (2147483647) x1_ := rf_lty ch5 rk_255 r4 (by decide)
      refine rn_iconst (v := (0 : Int32)) dX9_isByte_15 (by decide) ?_
      refine rn_iret dX9_isByte_16 rfl rfl (rq_in ?_)
      refine rn_stk [.int (0 : Int32)] rfl ?_
      refine rn_if_eq (tgt := 22) dX9_meant_4 (by decide) (fun h7 => ?_) (fun h7 => (cx_ne (cv_ne h7) rk_0 rk_0 (by decide)).elim)
      exact rn_throw kt_SG_95_161 rfl dX9_meant_22 dX9_meant_25 dX9_meant_26 dX9_meant_28 dX9_meant_31 (Nat.le_of_ble_eq_true rfl) (Nat.le_of_ble_eq_true rfl) (Nat.le_of_ble_eq_true rfl) (Nat.le_of_ble_eq_true rfl) (Nat.le_of_ble_eq_true rfl) (rq_ex ⟨hS0, rfl⟩)
    · have ch5 := cv_nlt h5
      have r8 : Rg (0) (255) x1_ := rf_lex ch5 r4 rk_255 (by decide)
      refine rn_iconst (v := (1 : Int32)) dX9_isByte_11 (by decide) ?_
      refine rn_goto (tgt := 16) dX9_isByte_12 (by decide) ?_
      refine rn_iret dX9_isByte_16 rfl rfl (rq_in ?_)
      refine rn_stk [.int (1 : Int32)] rfl ?_
      refine rn_if_eq (tgt := 22) dX9_meant_4 (by decide) (fun h9 => (cx_eq (cv_eq h9) rk_1 rk_0 (by decide)).elim) (fun h9 => ?_)
      refine rn_iload_n (i := 2) dX9_meant_7 rfl rfl ?_
      refine rn_if_lt (tgt := 22) dX9_meant_8 (by decide) (fun h10 => ?_) (fun h10 => ?_)
      · have ch10 := cv_lt h10
        have r11 : Rg (-2147483648) (-1) x2_ := rf_ltx ch10 (rg_any x2_) rk_0 (by decide)
        exact rn_throw kt_SG_95_161 rfl dX9_meant_22 dX9_meant_25 dX9_meant_26 dX9_meant_28 dX9_meant_31 (Nat.le_of_ble_eq_true rfl) (Nat.le_of_ble_eq_true rfl) (Nat.le_of_ble_eq_true rfl) (Nat.le_of_ble_eq_true rfl) (Nat.le_of_ble_eq_true rfl) (rq_ex ⟨hS0, rfl⟩)
      · have ch10 := cv_nlt h10
        have r12 : Rg (0) (2147483647) x2_ := rf_ley ch10 rk_0 (rg_any x2_) (by decide)
        refine rn_iload_n (i := 2) dX9_meant_11 rfl rfl ?_
        refine rn_iload_n (i := 3) dX9_meant_12 rfl rfl ?_
        refine rn_icmp_gt (tgt := 22) dX9_meant_13 (by decide) (fun h13 => ?_) (fun h13 => ?_)
        · have ch13 := cv_lt h13
          have r14 : Rg (-2147483648) (2147483646) x3_ := rf_ltx ch13 (rg_any x3_) r12 (by decide)
          exact rn_throw kt_SG_95_161 rfl dX9_meant_22 dX9_meant_25 dX9_meant_26 dX9_meant_28 dX9_meant_31 (Nat.le_of_ble_eq_true rfl) (Nat.le_of_ble_eq_true rfl) (Nat.le_of_ble_eq_true rfl) (Nat.le_of_ble_eq_true rfl) (Nat.le_of_ble_eq_true rfl) (rq_ex ⟨hS0, rfl⟩)
        · have ch13 := cv_nlt h13
          have r15 : Rg (0) (2147483647) x3_ := rf_ley ch13 r12 (rg_any x3_) (by decide)
          refine rn_iload_n (i := 3) dX9_meant_16 rfl rfl ?_
          refine rn_ldc (v := (65535 : Int32)) wd_487 dX9_meant_17 ?_
          refine rn_icmp_le (tgt := 32) dX9_meant_19 (by decide) (fun h16 => ?_) (fun h16 => ?_)
          · have ch16 := cv_le h16
            have r17 : Rg (0) (65535) x3_ := rf_lex ch16 r15 rk_65535 (by decide)
            refine rn_aload_n (i := 0) dX9_meant_32 rfl rfl ?_
            obtain ⟨q18, fs18, hq18, hl18, hf18⟩ := ts_obj hS0.1 m0_ hk_9
            obtain ⟨o19, hx19, m19⟩ := fs_r hf18 8 rfl
            refine rn_get q18 kg_SG_42 hl18 hx19 dX9_meant_33 ?_
            refine rn_iload_n (i := 1) dX9_meant_36 rfl rfl ?_
            refine rn_iload_n (i := 2) dX9_meant_37 rfl rfl ?_
            refine rn_iload_n (i := 3) dX9_meant_38 rfl rfl ?_
            obtain ⟨q20, fs20, hq20, hl20, hf20⟩ := ts_obj hS0.1 m19 hk_5
            refine rn_callV (a := 1) (b := 6) [.int x1_, .int x2_, .int x3_] kl_SG_163 dX9_meant_39 q20 hl20 rfl (t_X5_nextMeans G S ws hS0.1 o19 m19 x1_ x2_ x3_) rfl rfl (Nat.le_of_ble_eq_true rfl) (Nat.le_of_ble_eq_true rfl) (Nat.le_of_ble_eq_true rfl) (Nat.le_of_ble_eq_true rfl) (Nat.le_of_ble_eq_true rfl) (Nat.le_of_ble_eq_true rfl) (fun _ _ h => False.elim h) (fun v9 w21 h22 => ?_)
            obtain ⟨hT23, rfl⟩ := h22
            have hS23 := St.tr hS0 hT23 rfl
            refine rn_stk [] rfl ?_
            exact rn_vret dX9_meant_42 rfl (rq_in ⟨hS23, rfl⟩)
          · have ch16 := cv_nle h16
            have r24 : Rg (65536) (2147483647) x3_ := rf_lty ch16 rk_65535 r15 (by decide)
            exact rn_throw kt_SG_95_161 rfl dX9_meant_22 dX9_meant_25 dX9_meant_26 dX9_meant_28 dX9_meant_31 (Nat.le_of_ble_eq_true rfl) (Nat.le_of_ble_eq_true rfl) (Nat.le_of_ble_eq_true rfl) (Nat.le_of_ble_eq_true rfl) (Nat.le_of_ble_eq_true rfl) (rq_ex ⟨hS0, rfl⟩)
abbrev q_t_X9_policy (G : rn_G) (S : ts_S) (ws : va_W) : rn_R → va_W → Prop := rQ (fun v w => ∃ S' : ts_S, St G S [5, 15] ws S' w ∧ (∃ x : Int32, v = some (.int x) ∧ Rg (0) (24) x)) (fun E w => ∃ S' : ts_S, St G S [5, 15] ws S' w ∧ (E = "java/lang/IllegalArgumentException" ∨ E = "java/lang/IllegalStateException"))
set_option maxRecDepth 20000 in
set_option maxHeartbeats 4000000 in
theorem t_X9_policy (G : rn_G) (S : ts_S) (ws : va_W) (hW : ts_W G S ws) (o0_ : Nat) (m0_ : (o0_, 9) ∈ S) (x1_ : Int32) (x2_ : Int32) (x3_ : Int32) (x4_ : Int32) (x5_ : Int32) (x6_ : Int32) : Rn G mX9_policy 6 90 3 11 0 (lv_args 0 [.ref o0_, .int x1_, .int x2_, .int x3_, .int x4_, .int x5_, .int x6_]) [] ws (q_t_X9_policy G S ws ) := by
  have hS0 : St G S [5, 15] ws S ws := St.rf hW
  refine rn_lv [(0, .ref o0_), (1, .int x1_), (2, .int x2_), (3, .int x3_), (4, .int x4_), (5, .int x5_), (6, .int x6_)] rfl ?_
  refine rn_iload_n (i := 1) dX9_policy_0 rfl rfl ?_
  refine rn_inS (d' := 0) (z' := 0) [.int x1_] kl_SG_136 dX9_policy_1 rfl rfl (Nat.le_of_ble_eq_true rfl) (Nat.le_of_ble_eq_true rfl) (Nat.le_of_ble_eq_true rfl) (Nat.le_of_ble_eq_true rfl) ?_
  refine rn_lv [(0, .int x1_)] rfl ?_
  refine rn_iload_n (i := 0) dX9_isPortOrWay_0 rfl rfl ?_
  refine rn_if_eq (tgt := 9) dX9_isPortOrWay_1 (by decide) (fun h1 => ?_) (fun h1 => ?_)
  · have ch1 := cv_eq h1
    have r2 : Rg (0) (0) x1_ := rf_eqx ch1 (rg_any x1_) rk_0 (by decide) (by decide)
    refine rn_iconst (v := (1 : Int32)) dX9_isPortOrWay_9 (by decide) ?_
    refine rn_goto (tgt := 14) dX9_isPortOrWay_10 (by decide) ?_
    refine rn_iret dX9_isPortOrWay_14 rfl rfl (rq_in ?_)
    refine rn_stk [.int (1 : Int32)] rfl ?_
    refine rn_if_eq (tgt := 35) dX9_policy_4 (by decide) (fun h3 => (cx_eq (cv_eq h3) rk_1 rk_0 (by decide)).elim) (fun h3 => ?_)
    refine rn_iload_n (i := 3) dX9_policy_7 rfl rfl ?_
    refine rn_inS (d' := 0) (z' := 0) [.int x3_] kl_SG_133 dX9_policy_8 rfl rfl (Nat.le_of_ble_eq_true rfl) (Nat.le_of_ble_eq_true rfl) (Nat.le_of_ble_eq_true rfl) (Nat.le_of_ble_eq_true rfl) ?_
    refine rn_lv [(0, .int x3_)] rfl ?_
    refine rn_iload_n (i := 0) dX9_isWidth_0 rfl rfl ?_
    refine rn_if_lt (tgt := 14) dX9_isWidth_1 (by decide) (fun h4 => ?_) (fun h4 => ?_)
    · have ch4 := cv_lt h4
      have r5 : Rg (-2147483648) (-1) x3_ := rf_ltx ch4 (rg_any x3_) rk_0 (by decide)
      refine rn_iconst (v := (0 : Int32)) dX9_isWidth_14 (by decide) ?_
      refine rn_iret dX9_isWidth_15 rfl rfl (rq_in ?_)
      refine rn_stk [.int (0 : Int32)] rfl ?_
      refine rn_if_eq (tgt := 35) dX9_policy_11 (by decide) (fun h6 => ?_) (fun h6 => (cx_ne (cv_ne h6) rk_0 rk_0 (by decide)).elim)
      exact rn_throw kt_SG_95_167 rfl dX9_policy_35 dX9_policy_38 dX9_policy_39 dX9_policy_41 dX9_policy_44 (Nat.le_of_ble_eq_true rfl) (Nat.le_of_ble_eq_true rfl) (Nat.le_of_ble_eq_true rfl) (Nat.le_of_ble_eq_true rfl) (Nat.le_of_ble_eq_true rfl) (rq_ex ⟨S, hS0, (Or.inl rfl)⟩)
    · have ch4 := cv_nlt h4
      have r7 : Rg (0) (2147483647) x3_ := rf_ley ch4 rk_0 (rg_any x3_) (by decide)
      refine rn_iload_n (i := 0) dX9_isWidth_4 rfl rfl ?_
      refine rn_bipush (v := (32 : Int32)) dX9_isWidth_5 (by decide) ?_
      refine rn_icmp_gt (tgt := 14) dX9_isWidth_7 (by decide) (fun h8 => ?_) (fun h8 => ?_)
      · have ch8 := cv_lt h8
        have r9 : Rg (33) (2147483647) x3_ := rf_lty ch8 rk_32 r7 (by decide)
        refine rn_iconst (v := (0 : Int32)) dX9_isWidth_14 (by decide) ?_
        refine rn_iret dX9_isWidth_15 rfl rfl (rq_in ?_)
        refine rn_stk [.int (0 : Int32)] rfl ?_
        refine rn_if_eq (tgt := 35) dX9_policy_11 (by decide) (fun h10 => ?_) (fun h10 => (cx_ne (cv_ne h10) rk_0 rk_0 (by decide)).elim)
        exact rn_throw kt_SG_95_167 rfl dX9_policy_35 dX9_policy_38 dX9_policy_39 dX9_policy_41 dX9_policy_44 (Nat.le_of_ble_eq_true rfl) (Nat.le_of_ble_eq_true rfl) (Nat.le_of_ble_eq_true rfl) (Nat.le_of_ble_eq_true rfl) (Nat.le_of_ble_eq_true rfl) (rq_ex ⟨S, hS0, (Or.inl rfl)⟩)
      · have ch8 := cv_nlt h8
        have r11 : Rg (0) (32) x3_ := rf_lex ch8 r7 rk_32 (by decide)
        refine rn_iconst (v := (1 : Int32)) dX9_isWidth_10 (by decide) ?_
        refine rn_goto (tgt := 15) dX9_isWidth_11 (by decide) ?_
        refine rn_iret dX9_isWidth_15 rfl rfl (rq_in ?_)
        refine rn_stk [.int (1 : Int32)] rfl ?_
        refine rn_if_eq (tgt := 35) dX9_policy_11 (by decide) (fun h12 => (cx_eq (cv_eq h12) rk_1 rk_0 (by decide)).elim) (fun h12 => ?_)
        refine rn_iload dX9_policy_14 rfl ?_
        refine rn_inS (d' := 0) (z' := 0) [.int x5_] kl_SG_133 dX9_policy_16 rfl rfl (Nat.le_of_ble_eq_true rfl) (Nat.le_of_ble_eq_true rfl) (Nat.le_of_ble_eq_true rfl) (Nat.le_of_ble_eq_true rfl) ?_
        refine rn_lv [(0, .int x5_)] rfl ?_
        refine rn_iload_n (i := 0) dX9_isWidth_0 rfl rfl ?_
        refine rn_if_lt (tgt := 14) dX9_isWidth_1 (by decide) (fun h13 => ?_) (fun h13 => ?_)
        · have ch13 := cv_lt h13
          have r14 : Rg (-2147483648) (-1) x5_ := rf_ltx ch13 (rg_any x5_) rk_0 (by decide)
          refine rn_iconst (v := (0 : Int32)) dX9_isWidth_14 (by decide) ?_
          refine rn_iret dX9_isWidth_15 rfl rfl (rq_in ?_)
          refine rn_stk [.int (0 : Int32)] rfl ?_
          refine rn_if_eq (tgt := 35) dX9_policy_19 (by decide) (fun h15 => ?_) (fun h15 => (cx_ne (cv_ne h15) rk_0 rk_0 (by decide)).elim)
          exact rn_throw kt_SG_95_167 rfl dX9_policy_35 dX9_policy_38 dX9_policy_39 dX9_policy_41 dX9_policy_44 (Nat.le_of_ble_eq_true rfl) (Nat.le_of_ble_eq_true rfl) (Nat.le_of_ble_eq_true rfl) (Nat.le_of_ble_eq_true rfl) (Nat.le_of_ble_eq_true rfl) (rq_ex ⟨S, hS0, (Or.inl rfl)⟩)
        · have ch13 := cv_nlt h13
          have r16 : Rg (0) (2147483647) x5_ := rf_ley ch13 rk_0 (rg_any x5_) (by decide)
          refine rn_iload_n (i := 0) dX9_isWidth_4 rfl rfl ?_
          refine rn_bipush (v := (32 : Int32)) dX9_isWidth_5 (by decide) ?_
          refine rn_icmp_gt (tgt := 14) dX9_isWidth_7 (by decide) (fun h17 => ?_) (fun h17 => ?_)
          · have ch17 := cv_lt h17
            have r18 : Rg (33) (2147483647) x5_ := rf_lty ch17 rk_32 r16 (by decide)
            refine rn_iconst (v := (0 : Int32)) dX9_isWidth_14 (by decide) ?_
            refine rn_iret dX9_isWidth_15 rfl rfl (rq_in ?_)
            refine rn_stk [.int (0 : Int32)] rfl ?_
            refine rn_if_eq (tgt := 35) dX9_policy_19 (by decide) (fun h19 => ?_) (fun h19 => (cx_ne (cv_ne h19) rk_0 rk_0 (by decide)).elim)
            exact rn_throw kt_SG_95_167 rfl dX9_policy_35 dX9_policy_38 dX9_policy_39 dX9_policy_41 dX9_policy_44 (Nat.le_of_ble_eq_true rfl) (Nat.le_of_ble_eq_true rfl) (Nat.le_of_ble_eq_true rfl) (Nat.le_of_ble_eq_true rfl) (Nat.le_of_ble_eq_true rfl) (rq_ex ⟨S, hS0, (Or.inl rfl)⟩)
          · have ch17 := cv_nlt h17
            have r20 : Rg (0) (32) x5_ := rf_lex ch17 r16 rk_32 (by decide)
            refine rn_iconst (v := (1 : Int32)) dX9_isWidth_10 (by decide) ?_
            refine rn_goto (tgt := 15) dX9_isWidth_11 (by decide) ?_
            refine rn_iret dX9_isWidth_15 rfl rfl (rq_in ?_)
            refine rn_stk [.int (1 : Int32)] rfl ?_
            refine rn_if_eq (tgt := 35) dX9_policy_19 (by decide) (fun h21 => (cx_eq (cv_eq h21) rk_1 rk_0 (by decide)).elim) (fun h21 => ?_)
            refine rn_iload dX9_policy_22 rfl ?_
            refine rn_bipush (v := (-2 : Int32)) dX9_policy_24 (by decide) ?_
            refine rn_icmp_lt (tgt := 35) dX9_policy_26 (by decide) (fun h22 => ?_) (fun h22 => ?_)
            · have ch22 := cv_lt h22
              have r23 : Rg (-2147483648) (-3) x6_ := rf_ltx ch22 (rg_any x6_) rk_m2 (by decide)
              exact rn_throw kt_SG_95_167 rfl dX9_policy_35 dX9_policy_38 dX9_policy_39 dX9_policy_41 dX9_policy_44 (Nat.le_of_ble_eq_true rfl) (Nat.le_of_ble_eq_true rfl) (Nat.le_of_ble_eq_true rfl) (Nat.le_of_ble_eq_true rfl) (Nat.le_of_ble_eq_true rfl) (rq_ex ⟨S, hS0, (Or.inl rfl)⟩)
            · have ch22 := cv_nlt h22
              have r24 : Rg (-2) (2147483647) x6_ := rf_ley ch22 rk_m2 (rg_any x6_) (by decide)
              refine rn_iload dX9_policy_29 rfl ?_
              refine rn_iconst (v := (4 : Int32)) dX9_policy_31 (by decide) ?_
              refine rn_icmp_lt (tgt := 45) dX9_policy_32 (by decide) (fun h25 => ?_) (fun h25 => ?_)
              · have ch25 := cv_lt h25
                have r26 : Rg (-2) (3) x6_ := rf_ltx ch25 r24 rk_4 (by decide)
                refine rn_aload_n (i := 0) dX9_policy_45 rfl rfl ?_
                obtain ⟨q27, fs27, hq27, hl27, hf27⟩ := ts_obj hS0.1 m0_ hk_9
                obtain ⟨o28, hx28, m28⟩ := fs_r hf27 8 rfl
                refine rn_get q27 kg_SG_42 hl27 hx28 dX9_policy_46 ?_
                obtain ⟨q29, fs29, hq29, hl29, hf29⟩ := ts_obj hS0.1 m28 hk_5
                refine rn_callV (a := 3) (b := 11) [] kl_SG_169 dX9_policy_49 q29 hl29 rfl (t_X5_isFull G S ws hS0.1 o28 m28) rfl rfl (Nat.le_of_ble_eq_true rfl) (Nat.le_of_ble_eq_true rfl) (Nat.le_of_ble_eq_true rfl) (Nat.le_of_ble_eq_true rfl) (Nat.le_of_ble_eq_true rfl) (Nat.le_of_ble_eq_true rfl) (fun _ _ h => False.elim h) (fun v9 w30 h31 => ?_)
                obtain ⟨rfl, v32, rfl, rv32⟩ := h31
                refine rn_stk [.int v32] rfl ?_
                refine rn_if_eq (tgt := 65) dX9_policy_52 (by decide) (fun h34 => ?_) (fun h34 => ?_)
                · have ch34 := cv_eq h34
                  have r35 : Rg (0) (0) v32 := rf_eqx ch34 rv32 rk_0 (by decide) (by decide)
                  refine rn_aload_n (i := 0) dX9_policy_65 rfl rfl ?_
                  refine rn_get q27 kg_SG_42 hl27 hx28 dX9_policy_66 ?_
                  refine rn_iload_n (i := 1) dX9_policy_69 rfl rfl ?_
                  refine rn_new (a := 2) (b := 9) kn_SG_147 (Nat.le_of_ble_eq_true rfl) (Nat.le_of_ble_eq_true rfl) dX9_policy_70 (fun q36 => ?_)
                  refine rn_dup dX9_policy_73 rfl ?_
                  refine rn_iload_n (i := 2) dX9_policy_74 rfl rfl ?_
                  refine rn_iload_n (i := 3) dX9_policy_75 rfl rfl ?_
                  refine rn_callI (a := 2) (b := 9) [.int x2_, .int x3_] kl_SG_149 dX9_policy_76 (n_X3_init G ws q36 x2_ x3_) rq_no rfl rfl (Nat.le_of_ble_eq_true rfl) (Nat.le_of_ble_eq_true rfl) (Nat.le_of_ble_eq_true rfl) (Nat.le_of_ble_eq_true rfl) (Nat.le_of_ble_eq_true rfl) (Nat.le_of_ble_eq_true rfl) (fun v9 w37 h38 => ?_)
                  obtain ⟨rfl, hw39⟩ := h38
                  obtain ⟨S39, hT39, m39⟩ : ∃ S9, St G S [] ws S9 w37 ∧ (q36, 3) ∈ S9 := by rw [hw39]; exact ⟨_, St.app (St.rf hS0.1) rfl (by rw [hk_3]; exact Or.inl ⟨rfl, _, rfl, (ts_fs_cons (tv_i (rg_any x2_)) (ts_fs_cons (tv_i (rg_w r11 (by decide) (by decide))) ts_fs_nil))⟩), List.mem_append_right _ (List.mem_singleton.mpr rfl)⟩
                  have hS39 := St.tr hS0 hT39 rfl
                  refine rn_stk [.ref q36, .int x1_, .ref o28] rfl ?_
                  refine rn_new (a := 1) (b := 7) kn_SG_147 (Nat.le_of_ble_eq_true rfl) (Nat.le_of_ble_eq_true rfl) dX9_policy_79 (fun q40 => ?_)
                  refine rn_dup dX9_policy_82 rfl ?_
                  refine rn_iload dX9_policy_83 rfl ?_
                  refine rn_iload dX9_policy_85 rfl ?_
                  refine rn_callI (a := 1) (b := 7) [.int x4_, .int x5_] kl_SG_149 dX9_policy_87 (n_X3_init G w37 q40 x4_ x5_) rq_no rfl rfl (Nat.le_of_ble_eq_true rfl) (Nat.le_of_ble_eq_true rfl) (Nat.le_of_ble_eq_true rfl) (Nat.le_of_ble_eq_true rfl) (Nat.le_of_ble_eq_true rfl) (Nat.le_of_ble_eq_true rfl) (fun v9 w41 h42 => ?_)
                  obtain ⟨rfl, hw43⟩ := h42
                  obtain ⟨S43, hT43, m43⟩ : ∃ S9, St G S39 [] w37 S9 w41 ∧ (q40, 3) ∈ S9 := by rw [hw43]; exact ⟨_, St.app (St.rf hS39.1) rfl (by rw [hk_3]; exact Or.inl ⟨rfl, _, rfl, (ts_fs_cons (tv_i (rg_any x4_)) (ts_fs_cons (tv_i (rg_w r20 (by decide) (by decide))) ts_fs_nil))⟩), List.mem_append_right _ (List.mem_singleton.mpr rfl)⟩
                  have hS43 := St.tr hS39 hT43 rfl
                  refine rn_stk [.ref q40, .ref q36, .int x1_, .ref o28] rfl ?_
                  refine rn_iload dX9_policy_90 rfl ?_
                  refine rn_callV (a := 0) (b := 0) [.int x1_, .ref q36, .ref q40, .int x6_] kl_SG_172 dX9_policy_92 q29 (hT43.fr (hT39.pos hq29) rfl (hT39.fr hq29 rfl hl29)) rfl (t_X5_append G S43 w41 hS43.1 o28 (hT43.mem (hT39.mem m28)) x1_ q36 (hT43.mem m39) q40 m43 x6_) rfl rfl (Nat.le_of_ble_eq_true rfl) (Nat.le_of_ble_eq_true rfl) (Nat.le_of_ble_eq_true rfl) (Nat.le_of_ble_eq_true rfl) (Nat.le_of_ble_eq_true rfl) (Nat.le_of_ble_eq_true rfl) (fun _ _ h => False.elim h) (fun v9 w44 h45 => ?_)
                  obtain ⟨S47, hT47, v46, rfl, rv46⟩ := h45
                  have hS47 := St.tr hS43 hT47 rfl
                  refine rn_stk [.int v46] rfl ?_
                  exact rn_iret dX9_policy_95 rfl rfl (rq_in ⟨S47, hS47, v46, rfl, rv46⟩)
                · have ch34 := cv_ne h34
                  have r48 : Rg (1) (1) v32 := rf_nel ch34 rv32 rk_0 (by decide) (by decide)
                  exact rn_throw kt_SG_80_170 rfl dX9_policy_55 dX9_policy_58 dX9_policy_59 dX9_policy_61 dX9_policy_64 (Nat.le_of_ble_eq_true rfl) (Nat.le_of_ble_eq_true rfl) (Nat.le_of_ble_eq_true rfl) (Nat.le_of_ble_eq_true rfl) (Nat.le_of_ble_eq_true rfl) (rq_ex ⟨S, hS0, (Or.inr rfl)⟩)
              · have ch25 := cv_nlt h25
                have r49 : Rg (4) (2147483647) x6_ := rf_ley ch25 rk_4 r24 (by decide)
                exact rn_throw kt_SG_95_167 rfl dX9_policy_35 dX9_policy_38 dX9_policy_39 dX9_policy_41 dX9_policy_44 (Nat.le_of_ble_eq_true rfl) (Nat.le_of_ble_eq_true rfl) (Nat.le_of_ble_eq_true rfl) (Nat.le_of_ble_eq_true rfl) (Nat.le_of_ble_eq_true rfl) (rq_ex ⟨S, hS0, (Or.inl rfl)⟩)
  · have ch1 := cv_ne h1
    refine rn_iload_n (i := 0) dX9_isPortOrWay_4 rfl rfl ?_
    refine rn_iconst (v := (1 : Int32)) dX9_isPortOrWay_5 (by decide) ?_
    refine rn_icmp_ne (tgt := 13) dX9_isPortOrWay_6 (by decide) (fun h50 => ?_) (fun h50 => ?_)
    · have ch50 := cv_ne h50
      refine rn_iconst (v := (0 : Int32)) dX9_isPortOrWay_13 (by decide) ?_
      refine rn_iret dX9_isPortOrWay_14 rfl rfl (rq_in ?_)
      refine rn_stk [.int (0 : Int32)] rfl ?_
      refine rn_if_eq (tgt := 35) dX9_policy_4 (by decide) (fun h51 => ?_) (fun h51 => (cx_ne (cv_ne h51) rk_0 rk_0 (by decide)).elim)
      exact rn_throw kt_SG_95_167 rfl dX9_policy_35 dX9_policy_38 dX9_policy_39 dX9_policy_41 dX9_policy_44 (Nat.le_of_ble_eq_true rfl) (Nat.le_of_ble_eq_true rfl) (Nat.le_of_ble_eq_true rfl) (Nat.le_of_ble_eq_true rfl) (Nat.le_of_ble_eq_true rfl) (rq_ex ⟨S, hS0, (Or.inl rfl)⟩)
    · have ch50 := cv_eq h50
      have r52 : Rg (1) (1) x1_ := rf_eqx ch50 (rg_any x1_) rk_1 (by decide) (by decide)
      refine rn_iconst (v := (1 : Int32)) dX9_isPortOrWay_9 (by decide) ?_
      refine rn_goto (tgt := 14) dX9_isPortOrWay_10 (by decide) ?_
      refine rn_iret dX9_isPortOrWay_14 rfl rfl (rq_in ?_)
      refine rn_stk [.int (1 : Int32)] rfl ?_
      refine rn_if_eq (tgt := 35) dX9_policy_4 (by decide) (fun h53 => (cx_eq (cv_eq h53) rk_1 rk_0 (by decide)).elim) (fun h53 => ?_)
      refine rn_iload_n (i := 3) dX9_policy_7 rfl rfl ?_
      refine rn_inS (d' := 0) (z' := 0) [.int x3_] kl_SG_133 dX9_policy_8 rfl rfl (Nat.le_of_ble_eq_true rfl) (Nat.le_of_ble_eq_true rfl) (Nat.le_of_ble_eq_true rfl) (Nat.le_of_ble_eq_true rfl) ?_
      refine rn_lv [(0, .int x3_)] rfl ?_
      refine rn_iload_n (i := 0) dX9_isWidth_0 rfl rfl ?_
      refine rn_if_lt (tgt := 14) dX9_isWidth_1 (by decide) (fun h54 => ?_) (fun h54 => ?_)
      · have ch54 := cv_lt h54
        have r55 : Rg (-2147483648) (-1) x3_ := rf_ltx ch54 (rg_any x3_) rk_0 (by decide)
        refine rn_iconst (v := (0 : Int32)) dX9_isWidth_14 (by decide) ?_
        refine rn_iret dX9_isWidth_15 rfl rfl (rq_in ?_)
        refine rn_stk [.int (0 : Int32)] rfl ?_
        refine rn_if_eq (tgt := 35) dX9_policy_11 (by decide) (fun h56 => ?_) (fun h56 => (cx_ne (cv_ne h56) rk_0 rk_0 (by decide)).elim)
        exact rn_throw kt_SG_95_167 rfl dX9_policy_35 dX9_policy_38 dX9_policy_39 dX9_policy_41 dX9_policy_44 (Nat.le_of_ble_eq_true rfl) (Nat.le_of_ble_eq_true rfl) (Nat.le_of_ble_eq_true rfl) (Nat.le_of_ble_eq_true rfl) (Nat.le_of_ble_eq_true rfl) (rq_ex ⟨S, hS0, (Or.inl rfl)⟩)
      · have ch54 := cv_nlt h54
        have r57 : Rg (0) (2147483647) x3_ := rf_ley ch54 rk_0 (rg_any x3_) (by decide)
        refine rn_iload_n (i := 0) dX9_isWidth_4 rfl rfl ?_
        refine rn_bipush (v := (32 : Int32)) dX9_isWidth_5 (by decide) ?_
        refine rn_icmp_gt (tgt := 14) dX9_isWidth_7 (by decide) (fun h58 => ?_) (fun h58 => ?_)
        · have ch58 := cv_lt h58
          have r59 : Rg (33) (2147483647) x3_ := rf_lty ch58 rk_32 r57 (by decide)
          refine rn_iconst (v := (0 : Int32)) dX9_isWidth_14 (by decide) ?_
          refine rn_iret dX9_isWidth_15 rfl rfl (rq_in ?_)
          refine rn_stk [.int (0 : Int32)] rfl ?_
          refine rn_if_eq (tgt := 35) dX9_policy_11 (by decide) (fun h60 => ?_) (fun h60 => (cx_ne (cv_ne h60) rk_0 rk_0 (by decide)).elim)
          exact rn_throw kt_SG_95_167 rfl dX9_policy_35 dX9_policy_38 dX9_policy_39 dX9_policy_41 dX9_policy_44 (Nat.le_of_ble_eq_true rfl) (Nat.le_of_ble_eq_true rfl) (Nat.le_of_ble_eq_true rfl) (Nat.le_of_ble_eq_true rfl) (Nat.le_of_ble_eq_true rfl) (rq_ex ⟨S, hS0, (Or.inl rfl)⟩)
        · have ch58 := cv_nlt h58
          have r61 : Rg (0) (32) x3_ := rf_lex ch58 r57 rk_32 (by decide)
          refine rn_iconst (v := (1 : Int32)) dX9_isWidth_10 (by decide) ?_
          refine rn_goto (tgt := 15) dX9_isWidth_11 (by decide) ?_
          refine rn_iret dX9_isWidth_15 rfl rfl (rq_in ?_)
          refine rn_stk [.int (1 : Int32)] rfl ?_
          refine rn_if_eq (tgt := 35) dX9_policy_11 (by decide) (fun h62 => (cx_eq (cv_eq h62) rk_1 rk_0 (by decide)).elim) (fun h62 => ?_)
          refine rn_iload dX9_policy_14 rfl ?_
          refine rn_inS (d' := 0) (z' := 0) [.int x5_] kl_SG_133 dX9_policy_16 rfl rfl (Nat.le_of_ble_eq_true rfl) (Nat.le_of_ble_eq_true rfl) (Nat.le_of_ble_eq_true rfl) (Nat.le_of_ble_eq_true rfl) ?_
          refine rn_lv [(0, .int x5_)] rfl ?_
          refine rn_iload_n (i := 0) dX9_isWidth_0 rfl rfl ?_
          refine rn_if_lt (tgt := 14) dX9_isWidth_1 (by decide) (fun h63 => ?_) (fun h63 => ?_)
          · have ch63 := cv_lt h63
            have r64 : Rg (-2147483648) (-1) x5_ := rf_ltx ch63 (rg_any x5_) rk_0 (by decide)
            refine rn_iconst (v := (0 : Int32)) dX9_isWidth_14 (by decide) ?_
            refine rn_iret dX9_isWidth_15 rfl rfl (rq_in ?_)
            refine rn_stk [.int (0 : Int32)] rfl ?_
            refine rn_if_eq (tgt := 35) dX9_policy_19 (by decide) (fun h65 => ?_) (fun h65 => (cx_ne (cv_ne h65) rk_0 rk_0 (by decide)).elim)
            exact rn_throw kt_SG_95_167 rfl dX9_policy_35 dX9_policy_38 dX9_policy_39 dX9_policy_41 dX9_policy_44 (Nat.le_of_ble_eq_true rfl) (Nat.le_of_ble_eq_true rfl) (Nat.le_of_ble_eq_true rfl) (Nat.le_of_ble_eq_true rfl) (Nat.le_of_ble_eq_true rfl) (rq_ex ⟨S, hS0, (Or.inl rfl)⟩)
          · have ch63 := cv_nlt h63
            have r66 : Rg (0) (2147483647) x5_ := rf_ley ch63 rk_0 (rg_any x5_) (by decide)
            refine rn_iload_n (i := 0) dX9_isWidth_4 rfl rfl ?_
            refine rn_bipush (v := (32 : Int32)) dX9_isWidth_5 (by decide) ?_
            refine rn_icmp_gt (tgt := 14) dX9_isWidth_7 (by decide) (fun h67 => ?_) (fun h67 => ?_)
            · have ch67 := cv_lt h67
              have r68 : Rg (33) (2147483647) x5_ := rf_lty ch67 rk_32 r66 (by decide)
              refine rn_iconst (v := (0 : Int32)) dX9_isWidth_14 (by decide) ?_
              refine rn_iret dX9_isWidth_15 rfl rfl (rq_in ?_)
              refine rn_stk [.int (0 : Int32)] rfl ?_
              refine rn_if_eq (tgt := 35) dX9_policy_19 (by decide) (fun h69 => ?_) (fun h69 => (cx_ne (cv_ne h69) rk_0 rk_0 (by decide)).elim)
              exact rn_throw kt_SG_95_167 rfl dX9_policy_35 dX9_policy_38 dX9_policy_39 dX9_policy_41 dX9_policy_44 (Nat.le_of_ble_eq_true rfl) (Nat.le_of_ble_eq_true rfl) (Nat.le_of_ble_eq_true rfl) (Nat.le_of_ble_eq_true rfl) (Nat.le_of_ble_eq_true rfl) (rq_ex ⟨S, hS0, (Or.inl rfl)⟩)
            · have ch67 := cv_nlt h67
              have r70 : Rg (0) (32) x5_ := rf_lex ch67 r66 rk_32 (by decide)
              refine rn_iconst (v := (1 : Int32)) dX9_isWidth_10 (by decide) ?_
              refine rn_goto (tgt := 15) dX9_isWidth_11 (by decide) ?_
              refine rn_iret dX9_isWidth_15 rfl rfl (rq_in ?_)
              refine rn_stk [.int (1 : Int32)] rfl ?_
              refine rn_if_eq (tgt := 35) dX9_policy_19 (by decide) (fun h71 => (cx_eq (cv_eq h71) rk_1 rk_0 (by decide)).elim) (fun h71 => ?_)
              refine rn_iload dX9_policy_22 rfl ?_
              refine rn_bipush (v := (-2 : Int32)) dX9_policy_24 (by decide) ?_
              refine rn_icmp_lt (tgt := 35) dX9_policy_26 (by decide) (fun h72 => ?_) (fun h72 => ?_)
              · have ch72 := cv_lt h72
                have r73 : Rg (-2147483648) (-3) x6_ := rf_ltx ch72 (rg_any x6_) rk_m2 (by decide)
                exact rn_throw kt_SG_95_167 rfl dX9_policy_35 dX9_policy_38 dX9_policy_39 dX9_policy_41 dX9_policy_44 (Nat.le_of_ble_eq_true rfl) (Nat.le_of_ble_eq_true rfl) (Nat.le_of_ble_eq_true rfl) (Nat.le_of_ble_eq_true rfl) (Nat.le_of_ble_eq_true rfl) (rq_ex ⟨S, hS0, (Or.inl rfl)⟩)
              · have ch72 := cv_nlt h72
                have r74 : Rg (-2) (2147483647) x6_ := rf_ley ch72 rk_m2 (rg_any x6_) (by decide)
                refine rn_iload dX9_policy_29 rfl ?_
                refine rn_iconst (v := (4 : Int32)) dX9_policy_31 (by decide) ?_
                refine rn_icmp_lt (tgt := 45) dX9_policy_32 (by decide) (fun h75 => ?_) (fun h75 => ?_)
                · have ch75 := cv_lt h75
                  have r76 : Rg (-2) (3) x6_ := rf_ltx ch75 r74 rk_4 (by decide)
                  refine rn_aload_n (i := 0) dX9_policy_45 rfl rfl ?_
                  obtain ⟨q77, fs77, hq77, hl77, hf77⟩ := ts_obj hS0.1 m0_ hk_9
                  obtain ⟨o78, hx78, m78⟩ := fs_r hf77 8 rfl
                  refine rn_get q77 kg_SG_42 hl77 hx78 dX9_policy_46 ?_
                  obtain ⟨q79, fs79, hq79, hl79, hf79⟩ := ts_obj hS0.1 m78 hk_5
                  refine rn_callV (a := 3) (b := 11) [] kl_SG_169 dX9_policy_49 q79 hl79 rfl (t_X5_isFull G S ws hS0.1 o78 m78) rfl rfl (Nat.le_of_ble_eq_true rfl) (Nat.le_of_ble_eq_true rfl) (Nat.le_of_ble_eq_true rfl) (Nat.le_of_ble_eq_true rfl) (Nat.le_of_ble_eq_true rfl) (Nat.le_of_ble_eq_true rfl) (fun _ _ h => False.elim h) (fun v9 w80 h81 => ?_)
                  obtain ⟨rfl, v82, rfl, rv82⟩ := h81
                  refine rn_stk [.int v82] rfl ?_
                  refine rn_if_eq (tgt := 65) dX9_policy_52 (by decide) (fun h84 => ?_) (fun h84 => ?_)
                  · have ch84 := cv_eq h84
                    have r85 : Rg (0) (0) v82 := rf_eqx ch84 rv82 rk_0 (by decide) (by decide)
                    refine rn_aload_n (i := 0) dX9_policy_65 rfl rfl ?_
                    refine rn_get q77 kg_SG_42 hl77 hx78 dX9_policy_66 ?_
                    refine rn_iload_n (i := 1) dX9_policy_69 rfl rfl ?_
                    refine rn_new (a := 2) (b := 9) kn_SG_147 (Nat.le_of_ble_eq_true rfl) (Nat.le_of_ble_eq_true rfl) dX9_policy_70 (fun q86 => ?_)
                    refine rn_dup dX9_policy_73 rfl ?_
                    refine rn_iload_n (i := 2) dX9_policy_74 rfl rfl ?_
                    refine rn_iload_n (i := 3) dX9_policy_75 rfl rfl ?_
                    refine rn_callI (a := 2) (b := 9) [.int x2_, .int x3_] kl_SG_149 dX9_policy_76 (n_X3_init G ws q86 x2_ x3_) rq_no rfl rfl (Nat.le_of_ble_eq_true rfl) (Nat.le_of_ble_eq_true rfl) (Nat.le_of_ble_eq_true rfl) (Nat.le_of_ble_eq_true rfl) (Nat.le_of_ble_eq_true rfl) (Nat.le_of_ble_eq_true rfl) (fun v9 w87 h88 => ?_)
                    obtain ⟨rfl, hw89⟩ := h88
                    obtain ⟨S89, hT89, m89⟩ : ∃ S9, St G S [] ws S9 w87 ∧ (q86, 3) ∈ S9 := by rw [hw89]; exact ⟨_, St.app (St.rf hS0.1) rfl (by rw [hk_3]; exact Or.inl ⟨rfl, _, rfl, (ts_fs_cons (tv_i (rg_any x2_)) (ts_fs_cons (tv_i (rg_w r61 (by decide) (by decide))) ts_fs_nil))⟩), List.mem_append_right _ (List.mem_singleton.mpr rfl)⟩
                    have hS89 := St.tr hS0 hT89 rfl
                    refine rn_stk [.ref q86, .int x1_, .ref o78] rfl ?_
                    refine rn_new (a := 1) (b := 7) kn_SG_147 (Nat.le_of_ble_eq_true rfl) (Nat.le_of_ble_eq_true rfl) dX9_policy_79 (fun q90 => ?_)
                    refine rn_dup dX9_policy_82 rfl ?_
                    refine rn_iload dX9_policy_83 rfl ?_
                    refine rn_iload dX9_policy_85 rfl ?_
                    refine rn_callI (a := 1) (b := 7) [.int x4_, .int x5_] kl_SG_149 dX9_policy_87 (n_X3_init G w87 q90 x4_ x5_) rq_no rfl rfl (Nat.le_of_ble_eq_true rfl) (Nat.le_of_ble_eq_true rfl) (Nat.le_of_ble_eq_true rfl) (Nat.le_of_ble_eq_true rfl) (Nat.le_of_ble_eq_true rfl) (Nat.le_of_ble_eq_true rfl) (fun v9 w91 h92 => ?_)
                    obtain ⟨rfl, hw93⟩ := h92
                    obtain ⟨S93, hT93, m93⟩ : ∃ S9, St G S89 [] w87 S9 w91 ∧ (q90, 3) ∈ S9 := by rw [hw93]; exact ⟨_, St.app (St.rf hS89.1) rfl (by rw [hk_3]; exact Or.inl ⟨rfl, _, rfl, (ts_fs_cons (tv_i (rg_any x4_)) (ts_fs_cons (tv_i (rg_w r70 (by decide) (by decide))) ts_fs_nil))⟩), List.mem_append_right _ (List.mem_singleton.mpr rfl)⟩
                    have hS93 := St.tr hS89 hT93 rfl
                    refine rn_stk [.ref q90, .ref q86, .int x1_, .ref o78] rfl ?_
                    refine rn_iload dX9_policy_90 rfl ?_
                    refine rn_callV (a := 0) (b := 0) [.int x1_, .ref q86, .ref q90, .int x6_] kl_SG_172 dX9_policy_92 q79 (hT93.fr (hT89.pos hq79) rfl (hT89.fr hq79 rfl hl79)) rfl (t_X5_append G S93 w91 hS93.1 o78 (hT93.mem (hT89.mem m78)) x1_ q86 (hT93.mem m89) q90 m93 x6_) rfl rfl (Nat.le_of_ble_eq_true rfl) (Nat.le_of_ble_eq_true rfl) (Nat.le_of_ble_eq_true rfl) (Nat.le_of_ble_eq_true rfl) (Nat.le_of_ble_eq_true rfl) (Nat.le_of_ble_eq_true rfl) (fun _ _ h => False.elim h) (fun v9 w94 h95 => ?_)
                    obtain ⟨S97, hT97, v96, rfl, rv96⟩ := h95
                    have hS97 := St.tr hS93 hT97 rfl
                    refine rn_stk [.int v96] rfl ?_
                    exact rn_iret dX9_policy_95 rfl rfl (rq_in ⟨S97, hS97, v96, rfl, rv96⟩)
                  · have ch84 := cv_ne h84
                    have r98 : Rg (1) (1) v82 := rf_nel ch84 rv82 rk_0 (by decide) (by decide)
                    exact rn_throw kt_SG_80_170 rfl dX9_policy_55 dX9_policy_58 dX9_policy_59 dX9_policy_61 dX9_policy_64 (Nat.le_of_ble_eq_true rfl) (Nat.le_of_ble_eq_true rfl) (Nat.le_of_ble_eq_true rfl) (Nat.le_of_ble_eq_true rfl) (Nat.le_of_ble_eq_true rfl) (rq_ex ⟨S, hS0, (Or.inr rfl)⟩)
                · have ch75 := cv_nlt h75
                  have r99 : Rg (4) (2147483647) x6_ := rf_ley ch75 rk_4 r74 (by decide)
                  exact rn_throw kt_SG_95_167 rfl dX9_policy_35 dX9_policy_38 dX9_policy_39 dX9_policy_41 dX9_policy_44 (Nat.le_of_ble_eq_true rfl) (Nat.le_of_ble_eq_true rfl) (Nat.le_of_ble_eq_true rfl) (Nat.le_of_ble_eq_true rfl) (Nat.le_of_ble_eq_true rfl) (rq_ex ⟨S, hS0, (Or.inl rfl)⟩)
