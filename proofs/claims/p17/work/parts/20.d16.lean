abbrev q_t_X9_top (G : rn_G) (S : ts_S) (ws : va_W) : rn_R → va_W → Prop := rQ (fun v w => ws = w ∧ (∃ x : Int64, v = some (.long x))) (fun E w => ws = w ∧ (E = "java/lang/IndexOutOfBoundsException"))
set_option maxRecDepth 20000 in
set_option maxHeartbeats 4000000 in
theorem t_X9_top (G : rn_G) (S : ts_S) (ws : va_W) (hW : ts_W G S ws) (o0_ : Nat) (m0_ : (o0_, 9) ∈ S) (x1_ : Int32) : Rn G mX9_top 7 112 1 6 0 (lv_args 0 [.ref o0_, .int x1_]) [] ws (q_t_X9_top G S ws ) := by
  refine rn_lv [(0, .ref o0_), (1, .int x1_)] rfl ?_
  refine rn_aload_n (i := 0) dX9_top_0 rfl rfl ?_
  refine rn_iload_n (i := 1) dX9_top_1 rfl rfl ?_
  obtain ⟨q1, fs1, hq1, hl1, hf1⟩ := ts_obj hW m0_ hk_9
  refine rn_callV (a := 0) (b := 0) [.int x1_] kl_SG_190 dX9_top_2 q1 hl1 rfl (t_X9_sealAt G S ws hW o0_ m0_ x1_) rfl rfl (Nat.le_of_ble_eq_true rfl) (Nat.le_of_ble_eq_true rfl) (Nat.le_of_ble_eq_true rfl) (Nat.le_of_ble_eq_true rfl) (Nat.le_of_ble_eq_true rfl) (Nat.le_of_ble_eq_true rfl) ?_ (fun v9 w2 h3 => ?_)
  · intro E w2 h3
    obtain ⟨rfl, rfl⟩ := h3
    exact rnx_out rfl (rq_ex ⟨rfl, rfl⟩)
  · obtain ⟨rfl, o5, rfl, mo5⟩ := h3
    refine rn_stk [.ref o5] rfl ?_
    obtain ⟨q7, fs7, hq7, hl7, hf7⟩ := ts_obj hW mo5 hk_8
    refine rn_callV (a := 0) (b := 0) [] kl_SG_205 dX9_top_5 q7 hl7 rfl (t_X8_counter G S ws hW o5 mo5) rfl rfl (Nat.le_of_ble_eq_true rfl) (Nat.le_of_ble_eq_true rfl) (Nat.le_of_ble_eq_true rfl) (Nat.le_of_ble_eq_true rfl) (Nat.le_of_ble_eq_true rfl) (Nat.le_of_ble_eq_true rfl) (fun _ _ h => False.elim h) (fun v9 w8 h9 => ?_)
    obtain ⟨rfl, l10, rfl⟩ := h9
    refine rn_stk [.long l10] rfl ?_
    exact rn_lret dX9_top_8 rfl (rq_in ⟨rfl, l10, rfl⟩)
abbrev q_t_X9_seen (G : rn_G) (S : ts_S) (ws : va_W) : rn_R → va_W → Prop := rQ (fun v w => ws = w ∧ (∃ x : Int64, v = some (.long x))) (fun E w => ws = w ∧ (E = "java/lang/IndexOutOfBoundsException"))
set_option maxRecDepth 20000 in
set_option maxHeartbeats 4000000 in
theorem t_X9_seen (G : rn_G) (S : ts_S) (ws : va_W) (hW : ts_W G S ws) (o0_ : Nat) (m0_ : (o0_, 9) ∈ S) (x1_ : Int32) : Rn G mX9_seen 7 112 1 6 0 (lv_args 0 [.ref o0_, .int x1_]) [] ws (q_t_X9_seen G S ws ) := by
  refine rn_lv [(0, .ref o0_), (1, .int x1_)] rfl ?_
  refine rn_aload_n (i := 0) dX9_seen_0 rfl rfl ?_
  refine rn_iload_n (i := 1) dX9_seen_1 rfl rfl ?_
  obtain ⟨q1, fs1, hq1, hl1, hf1⟩ := ts_obj hW m0_ hk_9
  refine rn_callV (a := 0) (b := 0) [.int x1_] kl_SG_190 dX9_seen_2 q1 hl1 rfl (t_X9_sealAt G S ws hW o0_ m0_ x1_) rfl rfl (Nat.le_of_ble_eq_true rfl) (Nat.le_of_ble_eq_true rfl) (Nat.le_of_ble_eq_true rfl) (Nat.le_of_ble_eq_true rfl) (Nat.le_of_ble_eq_true rfl) (Nat.le_of_ble_eq_true rfl) ?_ (fun v9 w2 h3 => ?_)
  · intro E w2 h3
    obtain ⟨rfl, rfl⟩ := h3
    exact rnx_out rfl (rq_ex ⟨rfl, rfl⟩)
  · obtain ⟨rfl, o5, rfl, mo5⟩ := h3
    refine rn_stk [.ref o5] rfl ?_
    obtain ⟨q7, fs7, hq7, hl7, hf7⟩ := ts_obj hW mo5 hk_8
    refine rn_callV (a := 0) (b := 0) [] kl_SG_262 dX9_seen_5 q7 hl7 rfl (t_X8_seenBits G S ws hW o5 mo5) rfl rfl (Nat.le_of_ble_eq_true rfl) (Nat.le_of_ble_eq_true rfl) (Nat.le_of_ble_eq_true rfl) (Nat.le_of_ble_eq_true rfl) (Nat.le_of_ble_eq_true rfl) (Nat.le_of_ble_eq_true rfl) (fun _ _ h => False.elim h) (fun v9 w8 h9 => ?_)
    obtain ⟨rfl, l10, rfl⟩ := h9
    refine rn_stk [.long l10] rfl ?_
    exact rn_lret dX9_seen_8 rfl (rq_in ⟨rfl, l10, rfl⟩)
abbrev q_t_X9_tick (G : rn_G) (S : ts_S) (ws : va_W) : rn_R → va_W → Prop := rQ (fun v w => St G S [0, 1, 13] ws S w ∧ (∃ x : Int32, v = some (.int x) ∧ Rg (-2147483648) (2147483647) x)) (fun E w => False)
set_option maxRecDepth 20000 in
set_option maxHeartbeats 4000000 in
theorem t_X9_tick (G : rn_G) (S : ts_S) (ws : va_W) (hW : ts_W G S ws) (o0_ : Nat) (m0_ : (o0_, 9) ∈ S) : Rn G mX9_tick 3 67 0 0 0 (lv_args 0 [.ref o0_]) [] ws (q_t_X9_tick G S ws ) := by
  have hS0 : St G S [0, 1, 13] ws S ws := St.rf hW
  refine rn_lv [(0, .ref o0_)] rfl ?_
  refine rn_aload_n (i := 0) dX9_tick_0 rfl rfl ?_
  obtain ⟨q1, fs1, hq1, hl1, hf1⟩ := ts_obj hS0.1 m0_ hk_9
  obtain ⟨o2, hx2, m2⟩ := fs_r hf1 13 rfl
  refine rn_get q1 kg_SG_59 hl1 hx2 dX9_tick_1 ?_
  obtain ⟨q3, fs3, hq3, hl3, hf3⟩ := ts_obj hS0.1 m2 hk_1
  refine rn_callV (a := 0) (b := 0) [] kl_SG_265 dX9_tick_4 q3 hl3 rfl (t_X1_hearTick G S ws hS0.1 o2 m2) rfl rfl (Nat.le_of_ble_eq_true rfl) (Nat.le_of_ble_eq_true rfl) (Nat.le_of_ble_eq_true rfl) (Nat.le_of_ble_eq_true rfl) (Nat.le_of_ble_eq_true rfl) (Nat.le_of_ble_eq_true rfl) (fun _ _ h => False.elim h) (fun v9 w4 h5 => ?_)
  obtain ⟨hT7, v6, rfl, rv6⟩ := h5
  have hS7 := St.tr hS0 hT7 rfl
  refine rn_stk [.int v6] rfl ?_
  exact rn_iret dX9_tick_7 rfl rfl (rq_in ⟨hS7, v6, rfl, rv6⟩)
abbrev q_t_X9_log (G : rn_G) (S : ts_S) (ws : va_W) : rn_R → va_W → Prop := rQ (fun v w => ws = w ∧ (∃ x : Int32, v = some (.int x) ∧ Rg (-2147483648) (2147483647) x)) (fun E w => ws = w ∧ (E = "java/lang/IndexOutOfBoundsException"))
set_option maxRecDepth 20000 in
set_option maxHeartbeats 4000000 in
theorem t_X9_log (G : rn_G) (S : ts_S) (ws : va_W) (hW : ts_W G S ws) (o0_ : Nat) (m0_ : (o0_, 9) ∈ S) (x1_ : Int32) (x2_ : Int32) : Rn G mX9_log 6 90 1 6 0 (lv_args 0 [.ref o0_, .int x1_, .int x2_]) [] ws (q_t_X9_log G S ws ) := by
  refine rn_lv [(0, .ref o0_), (1, .int x1_), (2, .int x2_)] rfl ?_
  refine rn_iload_n (i := 1) dX9_log_0 rfl rfl ?_
  refine rn_if_lt (tgt := 24) dX9_log_1 (by decide) (fun h1 => ?_) (fun h1 => ?_)
  · have ch1 := cv_lt h1
    have r2 : Rg (-2147483648) (-1) x1_ := rf_ltx ch1 (rg_any x1_) rk_0 (by decide)
    exact rn_throwW kt_SG_114_269 rfl dX9_log_24 dX9_log_27 dX9_log_28 dX9_log_31 dX9_log_34 (Nat.le_of_ble_eq_true rfl) (Nat.le_of_ble_eq_true rfl) (Nat.le_of_ble_eq_true rfl) (Nat.le_of_ble_eq_true rfl) (Nat.le_of_ble_eq_true rfl) (rq_ex ⟨rfl, rfl⟩)
  · have ch1 := cv_nlt h1
    have r3 : Rg (0) (2147483647) x1_ := rf_ley ch1 rk_0 (rg_any x1_) (by decide)
    refine rn_iload_n (i := 1) dX9_log_4 rfl rfl ?_
    refine rn_aload_n (i := 0) dX9_log_5 rfl rfl ?_
    obtain ⟨q4, fs4, hq4, hl4, hf4⟩ := ts_obj hW m0_ hk_9
    obtain ⟨o5, hx5, m5⟩ := fs_r hf4 14 rfl
    refine rn_get q4 kg_SG_66 hl4 hx5 dX9_log_6 ?_
    obtain ⟨q6, fs6, hq6, hl6, hf6⟩ := ts_obj hW m5 hk_2
    refine rn_callV (a := 1) (b := 6) [] kl_SG_268 dX9_log_9 q6 hl6 rfl (t_X2_size G S ws hW o5 m5) rfl rfl (Nat.le_of_ble_eq_true rfl) (Nat.le_of_ble_eq_true rfl) (Nat.le_of_ble_eq_true rfl) (Nat.le_of_ble_eq_true rfl) (Nat.le_of_ble_eq_true rfl) (Nat.le_of_ble_eq_true rfl) (fun _ _ h => False.elim h) (fun v9 w7 h8 => ?_)
    obtain ⟨rfl, v9, rfl, rv9⟩ := h8
    refine rn_stk [.int v9, .int x1_] rfl ?_
    refine rn_icmp_ge (tgt := 24) dX9_log_12 (by decide) (fun h11 => ?_) (fun h11 => ?_)
    · have ch11 := cv_le h11
      exact rn_throwW kt_SG_114_269 rfl dX9_log_24 dX9_log_27 dX9_log_28 dX9_log_31 dX9_log_34 (Nat.le_of_ble_eq_true rfl) (Nat.le_of_ble_eq_true rfl) (Nat.le_of_ble_eq_true rfl) (Nat.le_of_ble_eq_true rfl) (Nat.le_of_ble_eq_true rfl) (rq_ex ⟨rfl, rfl⟩)
    · have ch11 := cv_nle h11
      have r12 : Rg (0) (15) x1_ := rf_ltx ch11 r3 rv9 (by decide)
      have r13 : Rg (1) (16) v9 := rf_lty ch11 r3 rv9 (by decide)
      refine rn_iload_n (i := 2) dX9_log_15 rfl rfl ?_
      refine rn_if_lt (tgt := 24) dX9_log_16 (by decide) (fun h14 => ?_) (fun h14 => ?_)
      · have ch14 := cv_lt h14
        have r15 : Rg (-2147483648) (-1) x2_ := rf_ltx ch14 (rg_any x2_) rk_0 (by decide)
        exact rn_throwW kt_SG_114_269 rfl dX9_log_24 dX9_log_27 dX9_log_28 dX9_log_31 dX9_log_34 (Nat.le_of_ble_eq_true rfl) (Nat.le_of_ble_eq_true rfl) (Nat.le_of_ble_eq_true rfl) (Nat.le_of_ble_eq_true rfl) (Nat.le_of_ble_eq_true rfl) (rq_ex ⟨rfl, rfl⟩)
      · have ch14 := cv_nlt h14
        have r16 : Rg (0) (2147483647) x2_ := rf_ley ch14 rk_0 (rg_any x2_) (by decide)
        refine rn_iload_n (i := 2) dX9_log_19 rfl rfl ?_
        refine rn_iconst (v := (5 : Int32)) dX9_log_20 (by decide) ?_
        refine rn_icmp_lt (tgt := 35) dX9_log_21 (by decide) (fun h17 => ?_) (fun h17 => ?_)
        · have ch17 := cv_lt h17
          have r18 : Rg (0) (4) x2_ := rf_ltx ch17 r16 rk_5 (by decide)
          refine rn_aload_n (i := 0) dX9_log_35 rfl rfl ?_
          refine rn_get q4 kg_SG_66 hl4 hx5 dX9_log_36 ?_
          refine rn_iload_n (i := 1) dX9_log_39 rfl rfl ?_
          refine rn_iload_n (i := 2) dX9_log_40 rfl rfl ?_
          refine rn_callV (a := 1) (b := 6) [.int x1_, .int x2_] kl_SG_271 dX9_log_41 q6 hl6 rfl (t_X2_cell G S ws hW o5 m5 x1_ x2_) rfl rfl (Nat.le_of_ble_eq_true rfl) (Nat.le_of_ble_eq_true rfl) (Nat.le_of_ble_eq_true rfl) (Nat.le_of_ble_eq_true rfl) (Nat.le_of_ble_eq_true rfl) (Nat.le_of_ble_eq_true rfl) (fun _ _ h => False.elim h) (fun v9 w19 h20 => ?_)
          obtain ⟨rfl, v21, rfl, rv21⟩ := h20
          refine rn_stk [.int v21] rfl ?_
          exact rn_iret dX9_log_44 rfl rfl (rq_in ⟨rfl, v21, rfl, rv21⟩)
        · have ch17 := cv_nlt h17
          have r23 : Rg (5) (2147483647) x2_ := rf_ley ch17 rk_5 r16 (by decide)
          exact rn_throwW kt_SG_114_269 rfl dX9_log_24 dX9_log_27 dX9_log_28 dX9_log_31 dX9_log_34 (Nat.le_of_ble_eq_true rfl) (Nat.le_of_ble_eq_true rfl) (Nat.le_of_ble_eq_true rfl) (Nat.le_of_ble_eq_true rfl) (Nat.le_of_ble_eq_true rfl) (rq_ex ⟨rfl, rfl⟩)
abbrev q_t_X9_ended (G : rn_G) (S : ts_S) (ws : va_W) : rn_R → va_W → Prop := rQ (fun v w => ws = w ∧ (∃ x : Int32, v = some (.int x) ∧ Rg (-2147483648) (2147483647) x)) (fun E w => ws = w ∧ (E = "java/lang/IndexOutOfBoundsException"))
set_option maxRecDepth 20000 in
set_option maxHeartbeats 4000000 in
theorem t_X9_ended (G : rn_G) (S : ts_S) (ws : va_W) (hW : ts_W G S ws) (o0_ : Nat) (m0_ : (o0_, 9) ∈ S) (x1_ : Int32) : Rn G mX9_ended 6 90 1 6 0 (lv_args 0 [.ref o0_, .int x1_]) [] ws (q_t_X9_ended G S ws ) := by
  refine rn_lv [(0, .ref o0_), (1, .int x1_)] rfl ?_
  refine rn_iload_n (i := 1) dX9_ended_0 rfl rfl ?_
  refine rn_if_lt (tgt := 20) dX9_ended_1 (by decide) (fun h1 => ?_) (fun h1 => ?_)
  · have ch1 := cv_lt h1
    have r2 : Rg (-2147483648) (-1) x1_ := rf_ltx ch1 (rg_any x1_) rk_0 (by decide)
    refine rn_iload_n (i := 1) dX9_ended_20 rfl rfl ?_
    have r9a := r2.1; have r9b := r2.2
    refine rn_tableOut (tgt := 66) dX9_ended_21 (by omega) (by decide) ?_
    exact rn_throwW kt_SG_114_279 rfl dX9_ended_66 dX9_ended_69 dX9_ended_70 dX9_ended_73 dX9_ended_76 (Nat.le_of_ble_eq_true rfl) (Nat.le_of_ble_eq_true rfl) (Nat.le_of_ble_eq_true rfl) (Nat.le_of_ble_eq_true rfl) (Nat.le_of_ble_eq_true rfl) (rq_ex ⟨rfl, rfl⟩)
  · have ch1 := cv_nlt h1
    have r3 : Rg (0) (2147483647) x1_ := rf_ley ch1 rk_0 (rg_any x1_) (by decide)
    refine rn_iload_n (i := 1) dX9_ended_4 rfl rfl ?_
    refine rn_aload_n (i := 0) dX9_ended_5 rfl rfl ?_
    obtain ⟨q4, fs4, hq4, hl4, hf4⟩ := ts_obj hW m0_ hk_9
    obtain ⟨o5, hx5, m5⟩ := fs_r hf4 15 rfl
    refine rn_get q4 kg_SG_70 hl4 hx5 dX9_ended_6 ?_
    obtain ⟨q6, f6, hq6, hl6, hf6⟩ := ts_ia hW m5 hk_20
    refine rs_alen q6 (v := (18 : Int32)) hl6 rfl (by decide) dX9_ended_9 ?_
    refine rn_icmp_ge (tgt := 20) dX9_ended_10 (by decide) (fun h7 => ?_) (fun h7 => ?_)
    · have ch7 := cv_le h7
      have r8 : Rg (18) (2147483647) x1_ := rf_ley ch7 rk_18 r3 (by decide)
      refine rn_iload_n (i := 1) dX9_ended_20 rfl rfl ?_
      by_cases h9 : x1_ = (18 : Int32)
      · refine rn_topi (18 : Int32) h9 ?_
        refine rn_tableIn (off := 27) (tgt := 48) dX9_ended_21 (by decide) (by decide) (by decide) (by decide) ?_
        refine rn_aload_n (i := 0) dX9_ended_48 rfl rfl ?_
        obtain ⟨x10, hx10, rx10⟩ := fs_i hf4 11 rfl
        refine rn_get q4 kg_SG_178 hl4 hx10 dX9_ended_49 ?_
        exact rn_iret dX9_ended_52 rfl rfl (rq_in ⟨rfl, x10, rfl, (rg_w rx10 (by decide) (by decide))⟩)
      · skip
        by_cases h11 : x1_ = (19 : Int32)
        · refine rn_topi (19 : Int32) h11 ?_
          refine rn_tableIn (off := 32) (tgt := 53) dX9_ended_21 (by decide) (by decide) (by decide) (by decide) ?_
          refine rn_aload_n (i := 0) dX9_ended_53 rfl rfl ?_
          obtain ⟨x12, hx12, rx12⟩ := fs_i hf4 12 rfl
          refine rn_get q4 kg_SG_275 hl4 hx12 dX9_ended_54 ?_
          exact rn_iret dX9_ended_57 rfl rfl (rq_in ⟨rfl, x12, rfl, rx12⟩)
        · skip
          by_cases h13 : x1_ = (20 : Int32)
          · refine rn_topi (20 : Int32) h13 ?_
            refine rn_tableIn (off := 37) (tgt := 58) dX9_ended_21 (by decide) (by decide) (by decide) (by decide) ?_
            refine rn_aload_n (i := 0) dX9_ended_58 rfl rfl ?_
            obtain ⟨o14, hx14, m14⟩ := fs_r hf4 13 rfl
            refine rn_get q4 kg_SG_59 hl4 hx14 dX9_ended_59 ?_
            obtain ⟨q15, fs15, hq15, hl15, hf15⟩ := ts_obj hW m14 hk_1
            refine rn_callV (a := 1) (b := 6) [] kl_SG_278 dX9_ended_62 q15 hl15 rfl (t_X1_size G S ws hW o14 m14) rfl rfl (Nat.le_of_ble_eq_true rfl) (Nat.le_of_ble_eq_true rfl) (Nat.le_of_ble_eq_true rfl) (Nat.le_of_ble_eq_true rfl) (Nat.le_of_ble_eq_true rfl) (Nat.le_of_ble_eq_true rfl) (fun _ _ h => False.elim h) (fun v9 w16 h17 => ?_)
            obtain ⟨rfl, v18, rfl, rv18⟩ := h17
            refine rn_stk [.int v18] rfl ?_
            exact rn_iret dX9_ended_65 rfl rfl (rq_in ⟨rfl, v18, rfl, (rg_w rv18 (by decide) (by decide))⟩)
          · skip
            have ch9 := cv_ne h9
            rw [show (18 : Int32).toInt = 18 by decide] at ch9
            have ch11 := cv_ne h11
            rw [show (19 : Int32).toInt = 19 by decide] at ch11
            have ch13 := cv_ne h13
            rw [show (20 : Int32).toInt = 20 by decide] at ch13
            have r9a := r8.1; have r9b := r8.2
            refine rn_tableOut (tgt := 66) dX9_ended_21 (by omega) (by decide) ?_
            exact rn_throwW kt_SG_114_279 rfl dX9_ended_66 dX9_ended_69 dX9_ended_70 dX9_ended_73 dX9_ended_76 (Nat.le_of_ble_eq_true rfl) (Nat.le_of_ble_eq_true rfl) (Nat.le_of_ble_eq_true rfl) (Nat.le_of_ble_eq_true rfl) (Nat.le_of_ble_eq_true rfl) (rq_ex ⟨rfl, rfl⟩)
    · have ch7 := cv_nle h7
      have r20 : Rg (0) (17) x1_ := rf_ltx ch7 r3 rk_18 (by decide)
      refine rn_aload_n (i := 0) dX9_ended_13 rfl rfl ?_
      refine rn_get q4 kg_SG_70 hl4 hx5 dX9_ended_14 ?_
      refine rn_iload_n (i := 1) dX9_ended_17 rfl rfl ?_
      refine rs_iald q6 hl6 hf6 rfl r20 (by decide) (by decide) dX9_ended_18 (fun v21 ev21 rv21 => ?_)
      exact rn_iret dX9_ended_19 rfl rfl (rq_in ⟨rfl, v21, rfl, rv21⟩)
abbrev q_t_J7_fill_53178_18 (G : rn_G) (S : ts_S) (ws : va_W) : rn_R → va_W → Prop := rQ (fun v w => St G S [18] ws S w ∧ (v = none)) (fun E w => False)
set_option maxRecDepth 20000 in
set_option maxHeartbeats 4000000 in
theorem t_J7_fill_53178_18 (G : rn_G) (S : ts_S) (ws : va_W) (hW : ts_W G S ws) (o0_ : Nat) (m0_ : (o0_, 18) ∈ S) (x1_ : Int32) : Rn G mJ7_fill_53178 0 0 0 0 0 (lv_args 0 [.ref o0_, .int x1_]) [] ws (q_t_J7_fill_53178_18 G S ws ) := by
  have hS0 : St G S [18] ws S ws := St.rf hW
  refine rn_lv [(0, .ref o0_), (1, .int x1_)] rfl ?_
  refine rn_iconst (v := (0 : Int32)) dJ7_fill_53178_0 (by decide) ?_
  refine rn_istore_n dJ7_fill_53178_1 rfl (by decide) [(0, .ref o0_), (1, .int x1_), (2, .int (0 : Int32))] rfl ?_
  refine rn_aload_n (i := 0) dJ7_fill_53178_2 rfl rfl ?_
  obtain ⟨q1, f1, hq1, hl1, hf1⟩ := ts_ia hS0.1 m0_ hk_18
  refine rs_alen q1 (v := (4 : Int32)) hl1 rfl (by decide) dJ7_fill_53178_3 ?_
  refine rn_istore_n dJ7_fill_53178_4 rfl (by decide) [(0, .ref o0_), (1, .int x1_), (2, .int (0 : Int32)), (3, .int (4 : Int32))] rfl ?_
  have LP3 : ∀ (n : Nat) (w4 : va_W) (x2 : Int32), St G S [18] ws S w4 → Rg (0) (4) x2 → (4 - x2.toInt).toNat = n → Rn G mJ7_fill_53178 0 0 0 0 5 [(0, .ref o0_), (1, .int x1_), (2, .int x2), (3, .int (4 : Int32))] [] w4 (q_t_J7_fill_53178_18 G S ws ) := by
    intro n
    induction n using Nat.strongRecOn with
    | _ n ih =>
      intro w4 x2 hT5 r6 hm7
      refine rn_iload_n (i := 2) dJ7_fill_53178_5 rfl rfl ?_
      refine rn_iload_n (i := 3) dJ7_fill_53178_6 rfl rfl ?_
      refine rn_icmp_ge (tgt := 20) dJ7_fill_53178_7 (by decide) (fun h8 => ?_) (fun h8 => ?_)
      · have ch8 := cv_le h8
        have r9 : Rg (4) (4) x2 := rf_ley ch8 rk_4 r6 (by decide)
        have hS10 := St.tr hS0 hT5 rfl
        exact rn_vret dJ7_fill_53178_20 rfl (rq_in ⟨hS10, rfl⟩)
      · have ch8 := cv_nle h8
        have r11 : Rg (0) (3) x2 := rf_ltx ch8 r6 rk_4 (by decide)
        refine rn_aload_n (i := 0) dJ7_fill_53178_10 rfl rfl ?_
        refine rn_iload_n (i := 2) dJ7_fill_53178_11 rfl rfl ?_
        refine rn_iload_n (i := 1) dJ7_fill_53178_12 rfl rfl ?_
        obtain ⟨q12, f12, hq12, hl12, hf12⟩ := ts_ia hT5.1 m0_ hk_18
        refine rs_iast q12 hT5 hq12 hl12 hf12 hk_18 rfl rfl r11 (by decide) (by decide) (rg_any x1_) dJ7_fill_53178_13 (fun w13 f14 hS14 hl14 hf14 hu14 hn14 => ?_)
        refine rs_iinc (1) (4) dJ7_fill_53178_14 rfl (by decide) r11 rk_1 (by decide) (fun v15 => [(0, .ref o0_), (1, .int x1_), (2, .int v15), (3, .int (4 : Int32))]) (fun _ => rfl) (fun v15 ev15 rv15 => ?_)
        refine rn_goto (tgt := 5) dJ7_fill_53178_17 (by decide) ?_
        refine rn_lv [(0, .ref o0_), (1, .int x1_), (2, .int v15), (3, .int (4 : Int32))] rfl ?_
        exact ih _ (lp_inc hm7 ev15 rv15 (by decide)) w13 v15 hS14 (rg_w rv15 (by decide) (by decide)) rfl
  exact LP3 _ ws (0 : Int32) (St.rf hS0.1) (rg_w rk_0 (by decide) (by decide)) rfl
abbrev q_t_J7_fill_53178_20 (G : rn_G) (S : ts_S) (ws : va_W) : rn_R → va_W → Prop := rQ (fun v w => St G S [20] ws S w ∧ (v = none)) (fun E w => False)
set_option maxRecDepth 20000 in
set_option maxHeartbeats 4000000 in
theorem t_J7_fill_53178_20 (G : rn_G) (S : ts_S) (ws : va_W) (hW : ts_W G S ws) (o0_ : Nat) (m0_ : (o0_, 20) ∈ S) (x1_ : Int32) : Rn G mJ7_fill_53178 0 0 0 0 0 (lv_args 0 [.ref o0_, .int x1_]) [] ws (q_t_J7_fill_53178_20 G S ws ) := by
  have hS0 : St G S [20] ws S ws := St.rf hW
  refine rn_lv [(0, .ref o0_), (1, .int x1_)] rfl ?_
  refine rn_iconst (v := (0 : Int32)) dJ7_fill_53178_0 (by decide) ?_
  refine rn_istore_n dJ7_fill_53178_1 rfl (by decide) [(0, .ref o0_), (1, .int x1_), (2, .int (0 : Int32))] rfl ?_
  refine rn_aload_n (i := 0) dJ7_fill_53178_2 rfl rfl ?_
  obtain ⟨q1, f1, hq1, hl1, hf1⟩ := ts_ia hS0.1 m0_ hk_20
  refine rs_alen q1 (v := (18 : Int32)) hl1 rfl (by decide) dJ7_fill_53178_3 ?_
  refine rn_istore_n dJ7_fill_53178_4 rfl (by decide) [(0, .ref o0_), (1, .int x1_), (2, .int (0 : Int32)), (3, .int (18 : Int32))] rfl ?_
  have LP3 : ∀ (n : Nat) (w4 : va_W) (x2 : Int32), St G S [20] ws S w4 → Rg (0) (18) x2 → (18 - x2.toInt).toNat = n → Rn G mJ7_fill_53178 0 0 0 0 5 [(0, .ref o0_), (1, .int x1_), (2, .int x2), (3, .int (18 : Int32))] [] w4 (q_t_J7_fill_53178_20 G S ws ) := by
    intro n
    induction n using Nat.strongRecOn with
    | _ n ih =>
      intro w4 x2 hT5 r6 hm7
      refine rn_iload_n (i := 2) dJ7_fill_53178_5 rfl rfl ?_
      refine rn_iload_n (i := 3) dJ7_fill_53178_6 rfl rfl ?_
      refine rn_icmp_ge (tgt := 20) dJ7_fill_53178_7 (by decide) (fun h8 => ?_) (fun h8 => ?_)
      · have ch8 := cv_le h8
        have r9 : Rg (18) (18) x2 := rf_ley ch8 rk_18 r6 (by decide)
        have hS10 := St.tr hS0 hT5 rfl
        exact rn_vret dJ7_fill_53178_20 rfl (rq_in ⟨hS10, rfl⟩)
      · have ch8 := cv_nle h8
        have r11 : Rg (0) (17) x2 := rf_ltx ch8 r6 rk_18 (by decide)
        refine rn_aload_n (i := 0) dJ7_fill_53178_10 rfl rfl ?_
        refine rn_iload_n (i := 2) dJ7_fill_53178_11 rfl rfl ?_
        refine rn_iload_n (i := 1) dJ7_fill_53178_12 rfl rfl ?_
        obtain ⟨q12, f12, hq12, hl12, hf12⟩ := ts_ia hT5.1 m0_ hk_20
        refine rs_iast q12 hT5 hq12 hl12 hf12 hk_20 rfl rfl r11 (by decide) (by decide) (rg_any x1_) dJ7_fill_53178_13 (fun w13 f14 hS14 hl14 hf14 hu14 hn14 => ?_)
        refine rs_iinc (1) (18) dJ7_fill_53178_14 rfl (by decide) r11 rk_1 (by decide) (fun v15 => [(0, .ref o0_), (1, .int x1_), (2, .int v15), (3, .int (18 : Int32))]) (fun _ => rfl) (fun v15 ev15 rv15 => ?_)
        refine rn_goto (tgt := 5) dJ7_fill_53178_17 (by decide) ?_
        refine rn_lv [(0, .ref o0_), (1, .int x1_), (2, .int v15), (3, .int (18 : Int32))] rfl ?_
        exact ih _ (lp_inc hm7 ev15 rv15 (by decide)) w13 v15 hS14 (rg_w rv15 (by decide) (by decide)) rfl
  exact LP3 _ ws (0 : Int32) (St.rf hS0.1) (rg_w rk_0 (by decide) (by decide)) rfl
abbrev q_t_X9_clear (G : rn_G) (S : ts_S) (ws : va_W) : rn_R → va_W → Prop := rQ (fun v w => St G S [1, 2, 4, 5, 7, 9, 18, 20] ws S w ∧ (v = none ∧ (Tb S w 0 (fun _ => 0) (fun _ => 0) (fun _ => 0)))) (fun E w => False)
set_option maxRecDepth 20000 in
set_option maxHeartbeats 4000000 in
theorem t_X9_clear (G : rn_G) (S : ts_S) (ws : va_W) (hW : ts_W G S ws) (o0_ : Nat) (m0_ : (o0_, 9) ∈ S) : Rn G mX9_clear 2 43 0 0 0 (lv_args 0 [.ref o0_]) [] ws (q_t_X9_clear G S ws ) := by
  have hS0 : St G S [1, 2, 4, 5, 7, 9, 18, 20] ws S ws := St.rf hW
  obtain ⟨q1, fs1, hq1, hl1, hf1⟩ := ts_obj hS0.1 m0_ hk_9
  obtain ⟨o2, hx2, m2⟩ := fs_r hf1 7 rfl
  obtain ⟨q3, fs3, hq3, hl3, hf3⟩ := ts_obj hS0.1 m2 hk_7
  obtain ⟨o4, hx4, m4⟩ := fs_r hf3 0 rfl
  obtain ⟨o5, hx5, m5⟩ := fs_r hf3 1 rfl
  refine rn_lv [(0, .ref o0_)] rfl ?_
  refine rn_aload_n (i := 0) dX9_clear_0 rfl rfl ?_
  obtain ⟨o6, hx6, m6⟩ := fs_r hf1 1 rfl
  refine rn_get q1 kg_SG_10 hl1 hx6 dX9_clear_1 ?_
  refine rn_iconst (v := (0 : Int32)) dX9_clear_4 (by decide) ?_
  obtain ⟨q7, fs7, hq7, hl7, hf7⟩ := ts_obj hS0.1 m6 hk_4
  refine rn_callV (a := 0) (b := 0) [.int (0 : Int32)] kl_SG_87 dX9_clear_5 q7 hl7 rfl (t_X4_resize G S ws hS0.1 o6 m6 (0 : Int32)) rfl rfl (Nat.le_of_ble_eq_true rfl) (Nat.le_of_ble_eq_true rfl) (Nat.le_of_ble_eq_true rfl) (Nat.le_of_ble_eq_true rfl) (Nat.le_of_ble_eq_true rfl) (Nat.le_of_ble_eq_true rfl) (fun _ _ h => False.elim h) (fun v9 w8 h9 => ?_)
  obtain ⟨hT10, rfl⟩ := h9
  have hS10 := St.tr hS0 hT10 rfl
  refine rn_stk [] rfl ?_
  refine rn_aload_n (i := 0) dX9_clear_8 rfl rfl ?_
  obtain ⟨o11, hx11, m11⟩ := fs_r hf1 4 rfl
  refine rn_get q1 kg_SG_22 (hT10.fr hq1 rfl hl1) hx11 dX9_clear_9 ?_
  refine rn_iconst (v := (0 : Int32)) dX9_clear_12 (by decide) ?_
  obtain ⟨q12, fs12, hq12, hl12, hf12⟩ := ts_obj hS10.1 m11 hk_4
  refine rn_callV (a := 0) (b := 0) [.int (0 : Int32)] kl_SG_87 dX9_clear_13 q12 hl12 rfl (t_X4_resize G S w8 hS10.1 o11 m11 (0 : Int32)) rfl rfl (Nat.le_of_ble_eq_true rfl) (Nat.le_of_ble_eq_true rfl) (Nat.le_of_ble_eq_true rfl) (Nat.le_of_ble_eq_true rfl) (Nat.le_of_ble_eq_true rfl) (Nat.le_of_ble_eq_true rfl) (fun _ _ h => False.elim h) (fun v9 w13 h14 => ?_)
  obtain ⟨hT15, rfl⟩ := h14
  have hS15 := St.tr hS10 hT15 rfl
  refine rn_stk [] rfl ?_
  refine rn_aload_n (i := 0) dX9_clear_16 rfl rfl ?_
  obtain ⟨o16, hx16, m16⟩ := fs_r hf1 5 rfl
  refine rn_get q1 kg_SG_25 (hT15.fr hq1 rfl (hT10.fr hq1 rfl hl1)) hx16 dX9_clear_17 ?_
  refine rn_iconst (v := (0 : Int32)) dX9_clear_20 (by decide) ?_
  obtain ⟨q17, fs17, hq17, hl17, hf17⟩ := ts_obj hS15.1 m16 hk_4
  refine rn_callV (a := 0) (b := 0) [.int (0 : Int32)] kl_SG_87 dX9_clear_21 q17 hl17 rfl (t_X4_resize G S w13 hS15.1 o16 m16 (0 : Int32)) rfl rfl (Nat.le_of_ble_eq_true rfl) (Nat.le_of_ble_eq_true rfl) (Nat.le_of_ble_eq_true rfl) (Nat.le_of_ble_eq_true rfl) (Nat.le_of_ble_eq_true rfl) (Nat.le_of_ble_eq_true rfl) (fun _ _ h => False.elim h) (fun v9 w18 h19 => ?_)
  obtain ⟨hT20, rfl⟩ := h19
  have hS20 := St.tr hS15 hT20 rfl
  refine rn_stk [] rfl ?_
  refine rn_aload_n (i := 0) dX9_clear_24 rfl rfl ?_
  refine rn_iconst (v := (-1 : Int32)) dX9_clear_25 (by decide) ?_
  refine rs_put q1 (kp_SG_28 _) hS20 hq1 (hT20.fr hq1 rfl (hT15.fr hq1 rfl (hT10.fr hq1 rfl hl1))) hf1 hk_9 rfl rfl (tv_i (rg_w rk_m1 (by decide) (by decide))) rfl rfl dX9_clear_26 (fun w21 fs22 hS22 hl22 hf22 hx22 ho22 hn22 => ?_)
  refine rn_aload_n (i := 0) dX9_clear_29 rfl rfl ?_
  refine rn_get q1 kg_SG_35 hl22 ((ho22 7 (by decide)).trans hx2) dX9_clear_30 ?_
  refine rn_inV (d' := 0) (z' := 0) [] kl_SG_281 dX9_clear_33 q3 ((hn22 _ (ts_ne hq1 hq3 rfl)).trans (hT20.fr hq3 rfl (hT15.fr hq3 rfl (hT10.fr hq3 rfl hl3)))) rfl rfl rfl (Nat.le_of_ble_eq_true rfl) (Nat.le_of_ble_eq_true rfl) (Nat.le_of_ble_eq_true rfl) (Nat.le_of_ble_eq_true rfl) ?_
  refine rn_lv [(0, .ref o2)] rfl ?_
  refine rn_aload_n (i := 0) dX7_empty_0 rfl rfl ?_
  refine rn_iconst (v := (0 : Int32)) dX7_empty_1 (by decide) ?_
  refine rs_put q3 (kp_SG_Routes_21 _) hS22 hq3 ((hn22 _ (ts_ne hq1 hq3 rfl)).trans (hT20.fr hq3 rfl (hT15.fr hq3 rfl (hT10.fr hq3 rfl hl3)))) hf3 hk_7 rfl rfl (tv_i (rg_w rk_0 (by decide) (by decide))) rfl rfl dX7_empty_2 (fun w23 fs24 hS24 hl24 hf24 hx24 ho24 hn24 => ?_)
  refine rn_vret dX7_empty_5 rfl (rq_in ?_)
  refine rn_stk [] rfl ?_
  refine rn_aload_n (i := 0) dX9_clear_36 rfl rfl ?_
  obtain ⟨o25, hx25, m25⟩ := fs_r hf22 8 rfl
  refine rn_get q1 kg_SG_42 ((hn24 _ (ts_ne hq3 hq1 rfl)).trans hl22) hx25 dX9_clear_37 ?_
  obtain ⟨q26, fs26, hq26, hl26, hf26⟩ := ts_obj hS24.1 m25 hk_5
  refine rn_callV (a := 0) (b := 0) [] kl_SG_284 dX9_clear_40 q26 hl26 rfl (t_X5_empty G S w23 hS24.1 o25 m25) rfl rfl (Nat.le_of_ble_eq_true rfl) (Nat.le_of_ble_eq_true rfl) (Nat.le_of_ble_eq_true rfl) (Nat.le_of_ble_eq_true rfl) (Nat.le_of_ble_eq_true rfl) (Nat.le_of_ble_eq_true rfl) (fun _ _ h => False.elim h) (fun v9 w27 h28 => ?_)
  obtain ⟨hT29, rfl⟩ := h28
  have hS29 := St.tr hS24 hT29 rfl
  refine rn_stk [] rfl ?_
  refine rn_aload_n (i := 0) dX9_clear_43 rfl rfl ?_
  obtain ⟨o30, hx30, m30⟩ := fs_r hf22 9 rfl
  refine rn_get q1 kg_SG_46 (hT29.fr hq1 rfl ((hn24 _ (ts_ne hq3 hq1 rfl)).trans hl22)) hx30 dX9_clear_44 ?_
  refine rn_iconst (v := (0 : Int32)) dX9_clear_47 (by decide) ?_
  refine rn_callS (a := 0) (b := 0) [.ref o30, .int (0 : Int32)] kl_SG_285 dX9_clear_48 (t_J7_fill_53178_18 G S w27 hS29.1 o30 m30 (0 : Int32)) rfl rfl (Nat.le_of_ble_eq_true rfl) (Nat.le_of_ble_eq_true rfl) (Nat.le_of_ble_eq_true rfl) (Nat.le_of_ble_eq_true rfl) (Nat.le_of_ble_eq_true rfl) (Nat.le_of_ble_eq_true rfl) (fun _ _ h => False.elim h) (fun v9 w31 h32 => ?_)
  obtain ⟨hT33, rfl⟩ := h32
  have hS33 := St.tr hS29 hT33 rfl
  refine rn_stk [] rfl ?_
  refine rn_aload_n (i := 0) dX9_clear_51 rfl rfl ?_
  refine rn_iconst (v := (0 : Int32)) dX9_clear_52 (by decide) ?_
  refine rs_put q1 (kp_SG_178 _) hS33 hq1 (hT33.fr hq1 rfl (hT29.fr hq1 rfl ((hn24 _ (ts_ne hq3 hq1 rfl)).trans hl22))) hf22 hk_9 rfl rfl (tv_i (rg_w rk_0 (by decide) (by decide))) rfl rfl dX9_clear_53 (fun w34 fs35 hS35 hl35 hf35 hx35 ho35 hn35 => ?_)
  refine rn_aload_n (i := 0) dX9_clear_56 rfl rfl ?_
  refine rn_iconst (v := (0 : Int32)) dX9_clear_57 (by decide) ?_
  refine rs_put q1 (kp_SG_275 _) hS35 hq1 hl35 hf35 hk_9 rfl rfl (tv_i (rg_w rk_0 (by decide) (by decide))) rfl rfl dX9_clear_58 (fun w36 fs37 hS37 hl37 hf37 hx37 ho37 hn37 => ?_)
  refine rn_aload_n (i := 0) dX9_clear_61 rfl rfl ?_
  obtain ⟨o38, hx38, m38⟩ := fs_r hf37 13 rfl
  refine rn_get q1 kg_SG_59 hl37 hx38 dX9_clear_62 ?_
  obtain ⟨q39, fs39, hq39, hl39, hf39⟩ := ts_obj hS37.1 m38 hk_1
  refine rn_callV (a := 0) (b := 0) [] kl_SG_291 dX9_clear_65 q39 hl39 rfl (t_X1_empty G S w36 hS37.1 o38 m38) rfl rfl (Nat.le_of_ble_eq_true rfl) (Nat.le_of_ble_eq_true rfl) (Nat.le_of_ble_eq_true rfl) (Nat.le_of_ble_eq_true rfl) (Nat.le_of_ble_eq_true rfl) (Nat.le_of_ble_eq_true rfl) (fun _ _ h => False.elim h) (fun v9 w40 h41 => ?_)
  obtain ⟨hT42, rfl⟩ := h41
  have hS42 := St.tr hS37 hT42 rfl
  refine rn_stk [] rfl ?_
  refine rn_aload_n (i := 0) dX9_clear_68 rfl rfl ?_
  obtain ⟨o43, hx43, m43⟩ := fs_r hf37 14 rfl
  refine rn_get q1 kg_SG_66 (hT42.fr hq1 rfl hl37) hx43 dX9_clear_69 ?_
  obtain ⟨q44, fs44, hq44, hl44, hf44⟩ := ts_obj hS42.1 m43 hk_2
  refine rn_callV (a := 0) (b := 0) [] kl_SG_292 dX9_clear_72 q44 hl44 rfl (t_X2_empty G S w40 hS42.1 o43 m43) rfl rfl (Nat.le_of_ble_eq_true rfl) (Nat.le_of_ble_eq_true rfl) (Nat.le_of_ble_eq_true rfl) (Nat.le_of_ble_eq_true rfl) (Nat.le_of_ble_eq_true rfl) (Nat.le_of_ble_eq_true rfl) (fun _ _ h => False.elim h) (fun v9 w45 h46 => ?_)
  obtain ⟨hT47, rfl⟩ := h46
  have hS47 := St.tr hS42 hT47 rfl
  refine rn_stk [] rfl ?_
  refine rn_aload_n (i := 0) dX9_clear_75 rfl rfl ?_
  obtain ⟨o48, hx48, m48⟩ := fs_r hf37 15 rfl
  refine rn_get q1 kg_SG_70 (hT47.fr hq1 rfl (hT42.fr hq1 rfl hl37)) hx48 dX9_clear_76 ?_
  refine rn_iconst (v := (0 : Int32)) dX9_clear_79 (by decide) ?_
  refine rn_callS (a := 0) (b := 0) [.ref o48, .int (0 : Int32)] kl_SG_285 dX9_clear_80 (t_J7_fill_53178_20 G S w45 hS47.1 o48 m48 (0 : Int32)) rfl rfl (Nat.le_of_ble_eq_true rfl) (Nat.le_of_ble_eq_true rfl) (Nat.le_of_ble_eq_true rfl) (Nat.le_of_ble_eq_true rfl) (Nat.le_of_ble_eq_true rfl) (Nat.le_of_ble_eq_true rfl) (fun _ _ h => False.elim h) (fun v9 w49 h50 => ?_)
  obtain ⟨hT51, rfl⟩ := h50
  have hS51 := St.tr hS47 hT51 rfl
  refine rn_stk [] rfl ?_
  exact rn_vret dX9_clear_83 rfl (rq_in ⟨hS51, rfl, (by obtain ⟨q1, f1, a1, a2, -⟩ := ts_ra hS51.1 m4 hk_16; obtain ⟨q2, f2, b1, b2, -⟩ := ts_ia hS51.1 m5 hk_17; exact ⟨0, f1, f2, ⟨q3, o2, fs24, hq3, (hT51.fr hq3 rfl (hT47.fr hq3 rfl (hT42.fr hq3 rfl ((hn37 _ (ts_ne hq1 hq3 rfl)).trans ((hn35 _ (ts_ne hq1 hq3 rfl)).trans (hT33.fr hq3 rfl (hT29.fr hq3 rfl hl24))))))), hx24⟩, rfl, ⟨_, _, _, _, a1, a2⟩, ⟨_, _, _, _, b1, b2⟩, fun k hk => absurd hk (Nat.not_lt_zero k)⟩)⟩)
