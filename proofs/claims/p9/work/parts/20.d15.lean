abbrev q_t_X9_top (G : rn_G) (S : ts_S) (ws : va_W) : rn_R → va_W → Prop := rQ (fun v w => ws = w ∧ (∃ x : Int64, v = some (.long x))) (fun E w => ws = w ∧ (E = "java/lang/IndexOutOfBoundsException"))
set_option maxRecDepth 20000 in
set_option maxHeartbeats 4000000 in
theorem t_X9_top (G : rn_G) (S : ts_S) (ws : va_W) (hW : ts_W G S ws) (o0_ : Nat) (m0_ : (o0_, 9) ∈ S) (x1_ : Int32) : Rn G mX9_top 7 112 1 6 0 (lv_args 0 [.ref o0_, .int x1_]) [] ws (q_t_X9_top G S ws ) := by
  refine rn_lv [(0, .ref o0_), (1, .int x1_)] rfl ?_
  refine rn_aload_n (i := 0) dX9_top_0 rfl rfl ?_
  refine rn_iload_n (i := 1) dX9_top_1 rfl rfl ?_
  obtain ⟨q1, fs1, hq1, hl1, hf1⟩ := ts_obj hW m0_ hk_9
  refine rn_callV (a := 0) (b := 0) [.int x1_] kl_SG_190 dX9_top_2 q1 hl1 rfl (t_X9_sealAt G S ws hW o0_ m0_ x1_) rfl rfl (Nat.le_of_ble_eq_true rfl) (Nat.le_of_ble_eq_true rfl) (Nat.le_of_ble_eq_true rfl) (Nat.le_of_ble_eq_true rfl) (Nat.le_of_ble_eq_true rfl) (Nat.le_of_ble_eq_true rfl) ?_ (fun v9 w2 h3 => ?_)
  · intro E w2 h3
    obtain ⟨rfl, rfl⟩ := h3
    exact rnx_out rfl (rq_ex ⟨rfl, rfl⟩)
  · obtain ⟨rfl, o5, rfl, mo5⟩ := h3
    refine rn_stk [.ref o5] rfl ?_
    obtain ⟨q7, fs7, hq7, hl7, hf7⟩ := ts_obj hW mo5 hk_8
    refine rn_callV (a := 0) (b := 0) [] kl_SG_205 dX9_top_5 q7 hl7 rfl (t_X8_counter G S ws hW o5 mo5) rfl rfl (Nat.le_of_ble_eq_true rfl) (Nat.le_of_ble_eq_true rfl) (Nat.le_of_ble_eq_true rfl) (Nat.le_of_ble_eq_true rfl) (Nat.le_of_ble_eq_true rfl) (Nat.le_of_ble_eq_true rfl) (fun _ _ h => False.elim h) (fun v9 w8 h9 => ?_)
    obtain ⟨rfl, l10, rfl⟩ := h9
    refine rn_stk [.long l10] rfl ?_
    exact rn_lret dX9_top_8 rfl (rq_in ⟨rfl, l10, rfl⟩)
abbrev q_t_X9_seen (G : rn_G) (S : ts_S) (ws : va_W) : rn_R → va_W → Prop := rQ (fun v w => ws = w ∧ (∃ x : Int64, v = some (.long x))) (fun E w => ws = w ∧ (E = "java/lang/IndexOutOfBoundsException"))
set_option maxRecDepth 20000 in
set_option maxHeartbeats 4000000 in
theorem t_X9_seen (G : rn_G) (S : ts_S) (ws : va_W) (hW : ts_W G S ws) (o0_ : Nat) (m0_ : (o0_, 9) ∈ S) (x1_ : Int32) : Rn G mX9_seen 7 112 1 6 0 (lv_args 0 [.ref o0_, .int x1_]) [] ws (q_t_X9_seen G S ws ) := by
  refine rn_lv [(0, .ref o0_), (1, .int x1_)] rfl ?_
  refine rn_aload_n (i := 0) dX9_seen_0 rfl rfl ?_
  refine rn_iload_n (i := 1) dX9_seen_1 rfl rfl ?_
  obtain ⟨q1, fs1, hq1, hl1, hf1⟩ := ts_obj hW m0_ hk_9
  refine rn_callV (a := 0) (b := 0) [.int x1_] kl_SG_190 dX9_seen_2 q1 hl1 rfl (t_X9_sealAt G S ws hW o0_ m0_ x1_) rfl rfl (Nat.le_of_ble_eq_true rfl) (Nat.le_of_ble_eq_true rfl) (Nat.le_of_ble_eq_true rfl) (Nat.le_of_ble_eq_true rfl) (Nat.le_of_ble_eq_true rfl) (Nat.le_of_ble_eq_true rfl) ?_ (fun v9 w2 h3 => ?_)
  · intro E w2 h3
    obtain ⟨rfl, rfl⟩ := h3
    exact rnx_out rfl (rq_ex ⟨rfl, rfl⟩)
  · obtain ⟨rfl, o5, rfl, mo5⟩ := h3
    refine rn_stk [.ref o5] rfl ?_
    obtain ⟨q7, fs7, hq7, hl7, hf7⟩ := ts_obj hW mo5 hk_8
    refine rn_callV (a := 0) (b := 0) [] kl_SG_262 dX9_seen_5 q7 hl7 rfl (t_X8_seenBits G S ws hW o5 mo5) rfl rfl (Nat.le_of_ble_eq_true rfl) (Nat.le_of_ble_eq_true rfl) (Nat.le_of_ble_eq_true rfl) (Nat.le_of_ble_eq_true rfl) (Nat.le_of_ble_eq_true rfl) (Nat.le_of_ble_eq_true rfl) (fun _ _ h => False.elim h) (fun v9 w8 h9 => ?_)
    obtain ⟨rfl, l10, rfl⟩ := h9
    refine rn_stk [.long l10] rfl ?_
    exact rn_lret dX9_seen_8 rfl (rq_in ⟨rfl, l10, rfl⟩)
abbrev q_t_X9_tick (G : rn_G) (S : ts_S) (ws : va_W) : rn_R → va_W → Prop := rQ (fun v w => St G S [0, 1, 13] ws S w ∧ (∃ x : Int32, v = some (.int x) ∧ Rg (-2147483648) (2147483647) x)) (fun E w => False)
set_option maxRecDepth 20000 in
set_option maxHeartbeats 4000000 in
theorem t_X9_tick (G : rn_G) (S : ts_S) (ws : va_W) (hW : ts_W G S ws) (o0_ : Nat) (m0_ : (o0_, 9) ∈ S) : Rn G mX9_tick 3 67 0 0 0 (lv_args 0 [.ref o0_]) [] ws (q_t_X9_tick G S ws ) := by
  have hS0 : St G S [0, 1, 13] ws S ws := St.rf hW
  refine rn_lv [(0, .ref o0_)] rfl ?_
  refine rn_aload_n (i := 0) dX9_tick_0 rfl rfl ?_
  obtain ⟨q1, fs1, hq1, hl1, hf1⟩ := ts_obj hS0.1 m0_ hk_9
  obtain ⟨o2, hx2, m2⟩ := fs_r hf1 13 rfl
  refine rn_get q1 kg_SG_59 hl1 hx2 dX9_tick_1 ?_
  obtain ⟨q3, fs3, hq3, hl3, hf3⟩ := ts_obj hS0.1 m2 hk_1
  refine rn_callV (a := 0) (b := 0) [] kl_SG_265 dX9_tick_4 q3 hl3 rfl (t_X1_hearTick G S ws hS0.1 o2 m2) rfl rfl (Nat.le_of_ble_eq_true rfl) (Nat.le_of_ble_eq_true rfl) (Nat.le_of_ble_eq_true rfl) (Nat.le_of_ble_eq_true rfl) (Nat.le_of_ble_eq_true rfl) (Nat.le_of_ble_eq_true rfl) (fun _ _ h => False.elim h) (fun v9 w4 h5 => ?_)
  obtain ⟨hT7, v6, rfl, rv6⟩ := h5
  have hS7 := St.tr hS0 hT7 rfl
  refine rn_stk [.int v6] rfl ?_
  exact rn_iret dX9_tick_7 rfl rfl (rq_in ⟨hS7, v6, rfl, rv6⟩)
abbrev q_t_X9_log (G : rn_G) (S : ts_S) (ws : va_W) : rn_R → va_W → Prop := rQ (fun v w => ws = w ∧ (∃ x : Int32, v = some (.int x) ∧ Rg (-2147483648) (2147483647) x)) (fun E w => ws = w ∧ (E = "java/lang/IndexOutOfBoundsException"))
set_option maxRecDepth 20000 in
set_option maxHeartbeats 4000000 in
theorem t_X9_log (G : rn_G) (S : ts_S) (ws : va_W) (hW : ts_W G S ws) (o0_ : Nat) (m0_ : (o0_, 9) ∈ S) (x1_ : Int32) (x2_ : Int32) : Rn G mX9_log 6 90 1 6 0 (lv_args 0 [.ref o0_, .int x1_, .int x2_]) [] ws (q_t_X9_log G S ws ) := by
  refine rn_lv [(0, .ref o0_), (1, .int x1_), (2, .int x2_)] rfl ?_
  refine rn_iload_n (i := 1) dX9_log_0 rfl rfl ?_
  refine rn_if_lt (tgt := 24) dX9_log_1 (by decide) (fun h1 => ?_) (fun h1 => ?_)
  · have ch1 := cv_lt h1
    have r2 : Rg (-2147483648) (-1) x1_ := rf_ltx ch1 (rg_any x1_) rk_0 (by decide)
    exact rn_throwW kt_SG_114_269 rfl dX9_log_24 dX9_log_27 dX9_log_28 dX9_log_31 dX9_log_34 (Nat.le_of_ble_eq_true rfl) (Nat.le_of_ble_eq_true rfl) (Nat.le_of_ble_eq_true rfl) (Nat.le_of_ble_eq_true rfl) (Nat.le_of_ble_eq_true rfl) (rq_ex ⟨rfl, rfl⟩)
  · have ch1 := cv_nlt h1
    have r3 : Rg (0) (2147483647) x1_ := rf_ley ch1 rk_0 (rg_any x1_) (by decide)
    refine rn_iload_n (i := 1) dX9_log_4 rfl rfl ?_
    refine rn_aload_n (i := 0) dX9_log_5 rfl rfl ?_
    obtain ⟨q4, fs4, hq4, hl4, hf4⟩ := ts_obj hW m0_ hk_9
    obtain ⟨o5, hx5, m5⟩ := fs_r hf4 14 rfl
    refine rn_get q4 kg_SG_66 hl4 hx5 dX9_log_6 ?_
    obtain ⟨q6, fs6, hq6, hl6, hf6⟩ := ts_obj hW m5 hk_2
    refine rn_callV (a := 1) (b := 6) [] kl_SG_268 dX9_log_9 q6 hl6 rfl (t_X2_size G S ws hW o5 m5) rfl rfl (Nat.le_of_ble_eq_true rfl) (Nat.le_of_ble_eq_true rfl) (Nat.le_of_ble_eq_true rfl) (Nat.le_of_ble_eq_true rfl) (Nat.le_of_ble_eq_true rfl) (Nat.le_of_ble_eq_true rfl) (fun _ _ h => False.elim h) (fun v9 w7 h8 => ?_)
    obtain ⟨rfl, v9, rfl, rv9⟩ := h8
    refine rn_stk [.int v9, .int x1_] rfl ?_
    refine rn_icmp_ge (tgt := 24) dX9_log_12 (by decide) (fun h11 => ?_) (fun h11 => ?_)
    · have ch11 := cv_le h11
      exact rn_throwW kt_SG_114_269 rfl dX9_log_24 dX9_log_27 dX9_log_28 dX9_log_31 dX9_log_34 (Nat.le_of_ble_eq_true rfl) (Nat.le_of_ble_eq_true rfl) (Nat.le_of_ble_eq_true rfl) (Nat.le_of_ble_eq_true rfl) (Nat.le_of_ble_eq_true rfl) (rq_ex ⟨rfl, rfl⟩)
    · have ch11 := cv_nle h11
      have r12 : Rg (0) (15) x1_ := rf_ltx ch11 r3 rv9 (by decide)
      have r13 : Rg (1) (16) v9 := rf_lty ch11 r3 rv9 (by decide)
      refine rn_iload_n (i := 2) dX9_log_15 rfl rfl ?_
      refine rn_if_lt (tgt := 24) dX9_log_16 (by decide) (fun h14 => ?_) (fun h14 => ?_)
      · have ch14 := cv_lt h14
        have r15 : Rg (-2147483648) (-1) x2_ := rf_ltx ch14 (rg_any x2_) rk_0 (by decide)
        exact rn_throwW kt_SG_114_269 rfl dX9_log_24 dX9_log_27 dX9_log_28 dX9_log_31 dX9_log_34 (Nat.le_of_ble_eq_true rfl) (Nat.le_of_ble_eq_true rfl) (Nat.le_of_ble_eq_true rfl) (Nat.le_of_ble_eq_true rfl) (Nat.le_of_ble_eq_true rfl) (rq_ex ⟨rfl, rfl⟩)
      · have ch14 := cv_nlt h14
        have r16 : Rg (0) (2147483647) x2_ := rf_ley ch14 rk_0 (rg_any x2_) (by decide)
        refine rn_iload_n (i := 2) dX9_log_19 rfl rfl ?_
        refine rn_iconst (v := (5 : Int32)) dX9_log_20 (by decide) ?_
        refine rn_icmp_lt (tgt := 35) dX9_log_21 (by decide) (fun h17 => ?_) (fun h17 => ?_)
        · have ch17 := cv_lt h17
          have r18 : Rg (0) (4) x2_ := rf_ltx ch17 r16 rk_5 (by decide)
          refine rn_aload_n (i := 0) dX9_log_35 rfl rfl ?_
          refine rn_get q4 kg_SG_66 hl4 hx5 dX9_log_36 ?_
          refine rn_iload_n (i := 1) dX9_log_39 rfl rfl ?_
          refine rn_iload_n (i := 2) dX9_log_40 rfl rfl ?_
          refine rn_callV (a := 1) (b := 6) [.int x1_, .int x2_] kl_SG_271 dX9_log_41 q6 hl6 rfl (t_X2_cell G S ws hW o5 m5 x1_ x2_) rfl rfl (Nat.le_of_ble_eq_true rfl) (Nat.le_of_ble_eq_true rfl) (Nat.le_of_ble_eq_true rfl) (Nat.le_of_ble_eq_true rfl) (Nat.le_of_ble_eq_true rfl) (Nat.le_of_ble_eq_true rfl) (fun _ _ h => False.elim h) (fun v9 w19 h20 => ?_)
          obtain ⟨rfl, v21, rfl, rv21⟩ := h20
          refine rn_stk [.int v21] rfl ?_
          exact rn_iret dX9_log_44 rfl rfl (rq_in ⟨rfl, v21, rfl, rv21⟩)
        · have ch17 := cv_nlt h17
          have r23 : Rg (5) (2147483647) x2_ := rf_ley ch17 rk_5 r16 (by decide)
          exact rn_throwW kt_SG_114_269 rfl dX9_log_24 dX9_log_27 dX9_log_28 dX9_log_31 dX9_log_34 (Nat.le_of_ble_eq_true rfl) (Nat.le_of_ble_eq_true rfl) (Nat.le_of_ble_eq_true rfl) (Nat.le_of_ble_eq_true rfl) (Nat.le_of_ble_eq_true rfl) (rq_ex ⟨rfl, rfl⟩)
abbrev q_t_X9_ended (G : rn_G) (S : ts_S) (ws : va_W) : rn_R → va_W → Prop := rQ (fun v w => ws = w ∧ (∃ x : Int32, v = some (.int x) ∧ Rg (-2147483648) (2147483647) x)) (fun E w => ws = w ∧ (E = "java/lang/IndexOutOfBoundsException"))
set_option maxRecDepth 20000 in
set_option maxHeartbeats 4000000 in
theorem t_X9_ended (G : rn_G) (S : ts_S) (ws : va_W) (hW : ts_W G S ws) (o0_ : Nat) (m0_ : (o0_, 9) ∈ S) (x1_ : Int32) : Rn G mX9_ended 6 90 1 6 0 (lv_args 0 [.ref o0_, .int x1_]) [] ws (q_t_X9_ended G S ws ) := by
  refine rn_lv [(0, .ref o0_), (1, .int x1_)] rfl ?_
  refine rn_iload_n (i := 1) dX9_ended_0 rfl rfl ?_
  refine rn_if_lt (tgt := 20) dX9_ended_1 (by decide) (fun h1 => ?_) (fun h1 => ?_)
  · have ch1 := cv_lt h1
    have r2 : Rg (-2147483648) (-1) x1_ := rf_ltx ch1 (rg_any x1_) rk_0 (by decide)
    refine rn_iload_n (i := 1) dX9_ended_20 rfl rfl ?_
    have r9a := r2.1; have r9b := r2.2
    refine rn_tableOut (tgt := 66) dX9_ended_21 (by omega) (by decide) ?_
    exact rn_throwW kt_SG_114_279 rfl dX9_ended_66 dX9_ended_69 dX9_ended_70 dX9_ended_73 dX9_ended_76 (Nat.le_of_ble_eq_true rfl) (Nat.le_of_ble_eq_true rfl) (Nat.le_of_ble_eq_true rfl) (Nat.le_of_ble_eq_true rfl) (Nat.le_of_ble_eq_true rfl) (rq_ex ⟨rfl, rfl⟩)
  · have ch1 := cv_nlt h1
    have r3 : Rg (0) (2147483647) x1_ := rf_ley ch1 rk_0 (rg_any x1_) (by decide)
    refine rn_iload_n (i := 1) dX9_ended_4 rfl rfl ?_
    refine rn_aload_n (i := 0) dX9_ended_5 rfl rfl ?_
    obtain ⟨q4, fs4, hq4, hl4, hf4⟩ := ts_obj hW m0_ hk_9
    obtain ⟨o5, hx5, m5⟩ := fs_r hf4 15 rfl
    refine rn_get q4 kg_SG_70 hl4 hx5 dX9_ended_6 ?_
    obtain ⟨q6, f6, hq6, hl6, hf6⟩ := ts_ia hW m5 hk_20
    refine rs_alen q6 (v := (18 : Int32)) hl6 rfl (by decide) dX9_ended_9 ?_
    refine rn_icmp_ge (tgt := 20) dX9_ended_10 (by decide) (fun h7 => ?_) (fun h7 => ?_)
    · have ch7 := cv_le h7
      have r8 : Rg (18) (2147483647) x1_ := rf_ley ch7 rk_18 r3 (by decide)
      refine rn_iload_n (i := 1) dX9_ended_20 rfl rfl ?_
      by_cases h9 : x1_ = (18 : Int32)
      · refine rn_topi (18 : Int32) h9 ?_
        refine rn_tableIn (off := 27) (tgt := 48) dX9_ended_21 (by decide) (by decide) (by decide) (by decide) ?_
        refine rn_aload_n (i := 0) dX9_ended_48 rfl rfl ?_
        obtain ⟨x10, hx10, rx10⟩ := fs_i hf4 11 rfl
        refine rn_get q4 kg_SG_178 hl4 hx10 dX9_ended_49 ?_
        exact rn_iret dX9_ended_52 rfl rfl (rq_in ⟨rfl, x10, rfl, (rg_w rx10 (by decide) (by decide))⟩)
      · skip
        by_cases h11 : x1_ = (19 : Int32)
        · refine rn_topi (19 : Int32) h11 ?_
          refine rn_tableIn (off := 32) (tgt := 53) dX9_ended_21 (by decide) (by decide) (by decide) (by decide) ?_
          refine rn_aload_n (i := 0) dX9_ended_53 rfl rfl ?_
          obtain ⟨x12, hx12, rx12⟩ := fs_i hf4 12 rfl
          refine rn_get q4 kg_SG_275 hl4 hx12 dX9_ended_54 ?_
          exact rn_iret dX9_ended_57 rfl rfl (rq_in ⟨rfl, x12, rfl, rx12⟩)
        · skip
          by_cases h13 : x1_ = (20 : Int32)
          · refine rn_topi (20 : Int32) h13 ?_
            refine rn_tableIn (off := 37) (tgt := 58) dX9_ended_21 (by decide) (by decide) (by decide) (by decide) ?_
            refine rn_aload_n (i := 0) dX9_ended_58 rfl rfl ?_
            obtain ⟨o14, hx14, m14⟩ := fs_r hf4 13 rfl
            refine rn_get q4 kg_SG_59 hl4 hx14 dX9_ended_59 ?_
            obtain ⟨q15, fs15, hq15, hl15, hf15⟩ := ts_obj hW m14 hk_1
            refine rn_callV (a := 1) (b := 6) [] kl_SG_278 dX9_ended_62 q15 hl15 rfl (t_X1_size G S ws hW o14 m14) rfl rfl (Nat.le_of_ble_eq_true rfl) (Nat.le_of_ble_eq_true rfl) (Nat.le_of_ble_eq_true rfl) (Nat.le_of_ble_eq_true rfl) (Nat.le_of_ble_eq_true rfl) (Nat.le_of_ble_eq_true rfl) (fun _ _ h => False.elim h) (fun v9 w16 h17 => ?_)
            obtain ⟨rfl, v18, rfl, rv18⟩ := h17
            refine rn_stk [.int v18] rfl ?_
            exact rn_iret dX9_ended_65 rfl rfl (rq_in ⟨rfl, v18, rfl, (rg_w rv18 (by decide) (by decide))⟩)
          · skip
            have ch9 := cv_ne h9
            rw [show (18 : Int32).toInt = 18 by decide] at ch9
            have ch11 := cv_ne h11
            rw [show (19 : Int32).toInt = 19 by decide] at ch11
            have ch13 := cv_ne h13
            rw [show (20 : Int32).toInt = 20 by decide] at ch13
            have r9a := r8.1; have r9b := r8.2
            refine rn_tableOut (tgt := 66) dX9_ended_21 (by omega) (by decide) ?_
            exact rn_throwW kt_SG_114_279 rfl dX9_ended_66 dX9_ended_69 dX9_ended_70 dX9_ended_73 dX9_ended_76 (Nat.le_of_ble_eq_true rfl) (Nat.le_of_ble_eq_true rfl) (Nat.le_of_ble_eq_true rfl) (Nat.le_of_ble_eq_true rfl) (Nat.le_of_ble_eq_true rfl) (rq_ex ⟨rfl, rfl⟩)
    · have ch7 := cv_nle h7
      have r20 : Rg (0) (17) x1_ := rf_ltx ch7 r3 rk_18 (by decide)
      refine rn_aload_n (i := 0) dX9_ended_13 rfl rfl ?_
      refine rn_get q4 kg_SG_70 hl4 hx5 dX9_ended_14 ?_
      refine rn_iload_n (i := 1) dX9_ended_17 rfl rfl ?_
      refine rs_iald q6 hl6 hf6 rfl r20 (by decide) (by decide) dX9_ended_18 (fun v21 ev21 rv21 => ?_)
      exact rn_iret dX9_ended_19 rfl rfl (rq_in ⟨rfl, v21, rfl, rv21⟩)
abbrev q_t_J7_fill_53178_18 (G : rn_G) (S : ts_S) (ws : va_W) (x1_ : Int32) : rn_R → va_W → Prop := rQ (fun v w => St G S [18] ws S w ∧ (v = none ∧ (Zf S w 18 x1_))) (fun E w => False)
set_option maxRecDepth 20000 in
set_option maxHeartbeats 4000000 in
theorem t_J7_fill_53178_18 (G : rn_G) (S : ts_S) (ws : va_W) (hW : ts_W G S ws) (o0_ : Nat) (m0_ : (o0_, 18) ∈ S) (x1_ : Int32) : Rn G mJ7_fill_53178 0 0 0 0 0 (lv_args 0 [.ref o0_, .int x1_]) [] ws (q_t_J7_fill_53178_18 G S ws x1_) := by
  have hS0 : St G S [18] ws S ws := St.rf hW
  refine rn_lv [(0, .ref o0_), (1, .int x1_)] rfl ?_
  refine rn_iconst (v := (0 : Int32)) dJ7_fill_53178_0 (by decide) ?_
  refine rn_istore_n dJ7_fill_53178_1 rfl (by decide) [(0, .ref o0_), (1, .int x1_), (2, .int (0 : Int32))] rfl ?_
  refine rn_aload_n (i := 0) dJ7_fill_53178_2 rfl rfl ?_
  obtain ⟨q1, f1, hq1, hl1, hf1⟩ := ts_ia hS0.1 m0_ hk_18
  refine rs_alen q1 (v := (4 : Int32)) hl1 rfl (by decide) dJ7_fill_53178_3 ?_
  refine rn_istore_n dJ7_fill_53178_4 rfl (by decide) [(0, .ref o0_), (1, .int x1_), (2, .int (0 : Int32)), (3, .int (4 : Int32))] rfl ?_
  refine rn_iload_n (i := 2) dJ7_fill_53178_5 rfl rfl ?_
  refine rn_iload_n (i := 3) dJ7_fill_53178_6 rfl rfl ?_
  refine rn_icmp_ge (tgt := 20) dJ7_fill_53178_7 (by decide) (fun h2 => (cx_le (cv_le h2) rk_4 rk_0 (by decide)).elim) (fun h2 => ?_)
  refine rn_aload_n (i := 0) dJ7_fill_53178_10 rfl rfl ?_
  refine rn_iload_n (i := 2) dJ7_fill_53178_11 rfl rfl ?_
  refine rn_iload_n (i := 1) dJ7_fill_53178_12 rfl rfl ?_
  refine rs_iast q1 hS0 hq1 hl1 hf1 hk_18 rfl rfl rk_0 (by decide) (by decide) (rg_any x1_) dJ7_fill_53178_13 (fun w3 f4 hS4 hl4 hf4 hu4 hn4 => ?_)
  refine rs_iinc (1) (1) dJ7_fill_53178_14 rfl (by decide) rk_0 rk_1 (by decide) (fun v5 => [(0, .ref o0_), (1, .int x1_), (2, .int v5), (3, .int (4 : Int32))]) (fun _ => rfl) (fun v5 ev5 rv5 => ?_)
  refine rn_goto (tgt := 5) dJ7_fill_53178_17 (by decide) ?_
  refine rn_iload_n (i := 2) dJ7_fill_53178_5 rfl rfl ?_
  refine rn_iload_n (i := 3) dJ7_fill_53178_6 rfl rfl ?_
  refine rn_icmp_ge (tgt := 20) dJ7_fill_53178_7 (by decide) (fun h6 => (cx_le (cv_le h6) rk_4 rv5 (by decide)).elim) (fun h6 => ?_)
  have ch6 := cv_nle h6
  refine rn_aload_n (i := 0) dJ7_fill_53178_10 rfl rfl ?_
  refine rn_iload_n (i := 2) dJ7_fill_53178_11 rfl rfl ?_
  refine rn_iload_n (i := 1) dJ7_fill_53178_12 rfl rfl ?_
  refine rs_iast q1 hS4 hq1 hl4 hf4 hk_18 rfl rfl rv5 (by decide) (by decide) (rg_any x1_) dJ7_fill_53178_13 (fun w7 f8 hS8 hl8 hf8 hu8 hn8 => ?_)
  refine rs_iinc (2) (2) dJ7_fill_53178_14 rfl (by decide) rv5 rk_1 (by decide) (fun v9 => [(0, .ref o0_), (1, .int x1_), (2, .int v9), (3, .int (4 : Int32))]) (fun _ => rfl) (fun v9 ev9 rv9 => ?_)
  refine rn_goto (tgt := 5) dJ7_fill_53178_17 (by decide) ?_
  refine rn_iload_n (i := 2) dJ7_fill_53178_5 rfl rfl ?_
  refine rn_iload_n (i := 3) dJ7_fill_53178_6 rfl rfl ?_
  refine rn_icmp_ge (tgt := 20) dJ7_fill_53178_7 (by decide) (fun h10 => (cx_le (cv_le h10) rk_4 rv9 (by decide)).elim) (fun h10 => ?_)
  have ch10 := cv_nle h10
  refine rn_aload_n (i := 0) dJ7_fill_53178_10 rfl rfl ?_
  refine rn_iload_n (i := 2) dJ7_fill_53178_11 rfl rfl ?_
  refine rn_iload_n (i := 1) dJ7_fill_53178_12 rfl rfl ?_
  refine rs_iast q1 hS8 hq1 hl8 hf8 hk_18 rfl rfl rv9 (by decide) (by decide) (rg_any x1_) dJ7_fill_53178_13 (fun w11 f12 hS12 hl12 hf12 hu12 hn12 => ?_)
  refine rs_iinc (3) (3) dJ7_fill_53178_14 rfl (by decide) rv9 rk_1 (by decide) (fun v13 => [(0, .ref o0_), (1, .int x1_), (2, .int v13), (3, .int (4 : Int32))]) (fun _ => rfl) (fun v13 ev13 rv13 => ?_)
  refine rn_goto (tgt := 5) dJ7_fill_53178_17 (by decide) ?_
  refine rn_iload_n (i := 2) dJ7_fill_53178_5 rfl rfl ?_
  refine rn_iload_n (i := 3) dJ7_fill_53178_6 rfl rfl ?_
  refine rn_icmp_ge (tgt := 20) dJ7_fill_53178_7 (by decide) (fun h14 => (cx_le (cv_le h14) rk_4 rv13 (by decide)).elim) (fun h14 => ?_)
  have ch14 := cv_nle h14
  refine rn_aload_n (i := 0) dJ7_fill_53178_10 rfl rfl ?_
  refine rn_iload_n (i := 2) dJ7_fill_53178_11 rfl rfl ?_
  refine rn_iload_n (i := 1) dJ7_fill_53178_12 rfl rfl ?_
  refine rs_iast q1 hS12 hq1 hl12 hf12 hk_18 rfl rfl rv13 (by decide) (by decide) (rg_any x1_) dJ7_fill_53178_13 (fun w15 f16 hS16 hl16 hf16 hu16 hn16 => ?_)
  refine rs_iinc (4) (4) dJ7_fill_53178_14 rfl (by decide) rv13 rk_1 (by decide) (fun v17 => [(0, .ref o0_), (1, .int x1_), (2, .int v17), (3, .int (4 : Int32))]) (fun _ => rfl) (fun v17 ev17 rv17 => ?_)
  refine rn_goto (tgt := 5) dJ7_fill_53178_17 (by decide) ?_
  refine rn_iload_n (i := 2) dJ7_fill_53178_5 rfl rfl ?_
  refine rn_iload_n (i := 3) dJ7_fill_53178_6 rfl rfl ?_
  refine rn_icmp_ge (tgt := 20) dJ7_fill_53178_7 (by decide) (fun h18 => ?_) (fun h18 => (cx_lt (cv_nle h18) rv17 rk_4 (by decide)).elim)
  have ch18 := cv_le h18
  exact rn_vret dJ7_fill_53178_20 rfl (rq_in ⟨hS16, rfl, ⟨f16, ⟨q1, o0_, _, _, hq1, hl16⟩, fun j hj => by rw [hu16, hu12, hu8, hu4, tn6 (x := v13) (k := 3) (by have := rv13.1; have := rv13.2; omega), tn6 (x := v9) (k := 2) (by have := rv9.1; have := rv9.2; omega), tn6 (x := v5) (k := 1) (by have := rv5.1; have := rv5.2; omega), show (0 : Int32).toNatClampNeg = 0 from rfl]; unfold upd; rcases (show j = 0 ∨ j = 1 ∨ j = 2 ∨ j = 3 by omega) with rfl | rfl | rfl | rfl <;> rfl⟩⟩)
abbrev q_t_J7_fill_53178_20 (G : rn_G) (S : ts_S) (ws : va_W) (x1_ : Int32) : rn_R → va_W → Prop := rQ (fun v w => St G S [20] ws S w ∧ (v = none ∧ (True))) (fun E w => False)
set_option maxRecDepth 20000 in
set_option maxHeartbeats 4000000 in
theorem t_J7_fill_53178_20 (G : rn_G) (S : ts_S) (ws : va_W) (hW : ts_W G S ws) (o0_ : Nat) (m0_ : (o0_, 20) ∈ S) (x1_ : Int32) : Rn G mJ7_fill_53178 0 0 0 0 0 (lv_args 0 [.ref o0_, .int x1_]) [] ws (q_t_J7_fill_53178_20 G S ws x1_) := by
  have hS0 : St G S [20] ws S ws := St.rf hW
  refine rn_lv [(0, .ref o0_), (1, .int x1_)] rfl ?_
  refine rn_iconst (v := (0 : Int32)) dJ7_fill_53178_0 (by decide) ?_
  refine rn_istore_n dJ7_fill_53178_1 rfl (by decide) [(0, .ref o0_), (1, .int x1_), (2, .int (0 : Int32))] rfl ?_
  refine rn_aload_n (i := 0) dJ7_fill_53178_2 rfl rfl ?_
  obtain ⟨q1, f1, hq1, hl1, hf1⟩ := ts_ia hS0.1 m0_ hk_20
  refine rs_alen q1 (v := (18 : Int32)) hl1 rfl (by decide) dJ7_fill_53178_3 ?_
  refine rn_istore_n dJ7_fill_53178_4 rfl (by decide) [(0, .ref o0_), (1, .int x1_), (2, .int (0 : Int32)), (3, .int (18 : Int32))] rfl ?_
  refine rn_iload_n (i := 2) dJ7_fill_53178_5 rfl rfl ?_
  refine rn_iload_n (i := 3) dJ7_fill_53178_6 rfl rfl ?_
  refine rn_icmp_ge (tgt := 20) dJ7_fill_53178_7 (by decide) (fun h2 => (cx_le (cv_le h2) rk_18 rk_0 (by decide)).elim) (fun h2 => ?_)
  refine rn_aload_n (i := 0) dJ7_fill_53178_10 rfl rfl ?_
  refine rn_iload_n (i := 2) dJ7_fill_53178_11 rfl rfl ?_
  refine rn_iload_n (i := 1) dJ7_fill_53178_12 rfl rfl ?_
  refine rs_iast q1 hS0 hq1 hl1 hf1 hk_20 rfl rfl rk_0 (by decide) (by decide) (rg_any x1_) dJ7_fill_53178_13 (fun w3 f4 hS4 hl4 hf4 hu4 hn4 => ?_)
  refine rs_iinc (1) (1) dJ7_fill_53178_14 rfl (by decide) rk_0 rk_1 (by decide) (fun v5 => [(0, .ref o0_), (1, .int x1_), (2, .int v5), (3, .int (18 : Int32))]) (fun _ => rfl) (fun v5 ev5 rv5 => ?_)
  refine rn_goto (tgt := 5) dJ7_fill_53178_17 (by decide) ?_
  refine rn_iload_n (i := 2) dJ7_fill_53178_5 rfl rfl ?_
  refine rn_iload_n (i := 3) dJ7_fill_53178_6 rfl rfl ?_
  refine rn_icmp_ge (tgt := 20) dJ7_fill_53178_7 (by decide) (fun h6 => (cx_le (cv_le h6) rk_18 rv5 (by decide)).elim) (fun h6 => ?_)
  have ch6 := cv_nle h6
  refine rn_aload_n (i := 0) dJ7_fill_53178_10 rfl rfl ?_
  refine rn_iload_n (i := 2) dJ7_fill_53178_11 rfl rfl ?_
  refine rn_iload_n (i := 1) dJ7_fill_53178_12 rfl rfl ?_
  refine rs_iast q1 hS4 hq1 hl4 hf4 hk_20 rfl rfl rv5 (by decide) (by decide) (rg_any x1_) dJ7_fill_53178_13 (fun w7 f8 hS8 hl8 hf8 hu8 hn8 => ?_)
  refine rs_iinc (2) (2) dJ7_fill_53178_14 rfl (by decide) rv5 rk_1 (by decide) (fun v9 => [(0, .ref o0_), (1, .int x1_), (2, .int v9), (3, .int (18 : Int32))]) (fun _ => rfl) (fun v9 ev9 rv9 => ?_)
  refine rn_goto (tgt := 5) dJ7_fill_53178_17 (by decide) ?_
  refine rn_iload_n (i := 2) dJ7_fill_53178_5 rfl rfl ?_
  refine rn_iload_n (i := 3) dJ7_fill_53178_6 rfl rfl ?_
  refine rn_icmp_ge (tgt := 20) dJ7_fill_53178_7 (by decide) (fun h10 => (cx_le (cv_le h10) rk_18 rv9 (by decide)).elim) (fun h10 => ?_)
  have ch10 := cv_nle h10
  refine rn_aload_n (i := 0) dJ7_fill_53178_10 rfl rfl ?_
  refine rn_iload_n (i := 2) dJ7_fill_53178_11 rfl rfl ?_
  refine rn_iload_n (i := 1) dJ7_fill_53178_12 rfl rfl ?_
  refine rs_iast q1 hS8 hq1 hl8 hf8 hk_20 rfl rfl rv9 (by decide) (by decide) (rg_any x1_) dJ7_fill_53178_13 (fun w11 f12 hS12 hl12 hf12 hu12 hn12 => ?_)
  refine rs_iinc (3) (3) dJ7_fill_53178_14 rfl (by decide) rv9 rk_1 (by decide) (fun v13 => [(0, .ref o0_), (1, .int x1_), (2, .int v13), (3, .int (18 : Int32))]) (fun _ => rfl) (fun v13 ev13 rv13 => ?_)
  refine rn_goto (tgt := 5) dJ7_fill_53178_17 (by decide) ?_
  refine rn_iload_n (i := 2) dJ7_fill_53178_5 rfl rfl ?_
  refine rn_iload_n (i := 3) dJ7_fill_53178_6 rfl rfl ?_
  refine rn_icmp_ge (tgt := 20) dJ7_fill_53178_7 (by decide) (fun h14 => (cx_le (cv_le h14) rk_18 rv13 (by decide)).elim) (fun h14 => ?_)
  have ch14 := cv_nle h14
  refine rn_aload_n (i := 0) dJ7_fill_53178_10 rfl rfl ?_
  refine rn_iload_n (i := 2) dJ7_fill_53178_11 rfl rfl ?_
  refine rn_iload_n (i := 1) dJ7_fill_53178_12 rfl rfl ?_
  refine rs_iast q1 hS12 hq1 hl12 hf12 hk_20 rfl rfl rv13 (by decide) (by decide) (rg_any x1_) dJ7_fill_53178_13 (fun w15 f16 hS16 hl16 hf16 hu16 hn16 => ?_)
  refine rs_iinc (4) (4) dJ7_fill_53178_14 rfl (by decide) rv13 rk_1 (by decide) (fun v17 => [(0, .ref o0_), (1, .int x1_), (2, .int v17), (3, .int (18 : Int32))]) (fun _ => rfl) (fun v17 ev17 rv17 => ?_)
  refine rn_goto (tgt := 5) dJ7_fill_53178_17 (by decide) ?_
  refine rn_iload_n (i := 2) dJ7_fill_53178_5 rfl rfl ?_
  refine rn_iload_n (i := 3) dJ7_fill_53178_6 rfl rfl ?_
  refine rn_icmp_ge (tgt := 20) dJ7_fill_53178_7 (by decide) (fun h18 => (cx_le (cv_le h18) rk_18 rv17 (by decide)).elim) (fun h18 => ?_)
  have ch18 := cv_nle h18
  refine rn_aload_n (i := 0) dJ7_fill_53178_10 rfl rfl ?_
  refine rn_iload_n (i := 2) dJ7_fill_53178_11 rfl rfl ?_
  refine rn_iload_n (i := 1) dJ7_fill_53178_12 rfl rfl ?_
  refine rs_iast q1 hS16 hq1 hl16 hf16 hk_20 rfl rfl rv17 (by decide) (by decide) (rg_any x1_) dJ7_fill_53178_13 (fun w19 f20 hS20 hl20 hf20 hu20 hn20 => ?_)
  refine rs_iinc (5) (5) dJ7_fill_53178_14 rfl (by decide) rv17 rk_1 (by decide) (fun v21 => [(0, .ref o0_), (1, .int x1_), (2, .int v21), (3, .int (18 : Int32))]) (fun _ => rfl) (fun v21 ev21 rv21 => ?_)
  refine rn_goto (tgt := 5) dJ7_fill_53178_17 (by decide) ?_
  refine rn_iload_n (i := 2) dJ7_fill_53178_5 rfl rfl ?_
  refine rn_iload_n (i := 3) dJ7_fill_53178_6 rfl rfl ?_
  refine rn_icmp_ge (tgt := 20) dJ7_fill_53178_7 (by decide) (fun h22 => (cx_le (cv_le h22) rk_18 rv21 (by decide)).elim) (fun h22 => ?_)
  have ch22 := cv_nle h22
  refine rn_aload_n (i := 0) dJ7_fill_53178_10 rfl rfl ?_
  refine rn_iload_n (i := 2) dJ7_fill_53178_11 rfl rfl ?_
  refine rn_iload_n (i := 1) dJ7_fill_53178_12 rfl rfl ?_
  refine rs_iast q1 hS20 hq1 hl20 hf20 hk_20 rfl rfl rv21 (by decide) (by decide) (rg_any x1_) dJ7_fill_53178_13 (fun w23 f24 hS24 hl24 hf24 hu24 hn24 => ?_)
  refine rs_iinc (6) (6) dJ7_fill_53178_14 rfl (by decide) rv21 rk_1 (by decide) (fun v25 => [(0, .ref o0_), (1, .int x1_), (2, .int v25), (3, .int (18 : Int32))]) (fun _ => rfl) (fun v25 ev25 rv25 => ?_)
  refine rn_goto (tgt := 5) dJ7_fill_53178_17 (by decide) ?_
  refine rn_iload_n (i := 2) dJ7_fill_53178_5 rfl rfl ?_
  refine rn_iload_n (i := 3) dJ7_fill_53178_6 rfl rfl ?_
  refine rn_icmp_ge (tgt := 20) dJ7_fill_53178_7 (by decide) (fun h26 => (cx_le (cv_le h26) rk_18 rv25 (by decide)).elim) (fun h26 => ?_)
  have ch26 := cv_nle h26
  refine rn_aload_n (i := 0) dJ7_fill_53178_10 rfl rfl ?_
  refine rn_iload_n (i := 2) dJ7_fill_53178_11 rfl rfl ?_
  refine rn_iload_n (i := 1) dJ7_fill_53178_12 rfl rfl ?_
  refine rs_iast q1 hS24 hq1 hl24 hf24 hk_20 rfl rfl rv25 (by decide) (by decide) (rg_any x1_) dJ7_fill_53178_13 (fun w27 f28 hS28 hl28 hf28 hu28 hn28 => ?_)
  refine rs_iinc (7) (7) dJ7_fill_53178_14 rfl (by decide) rv25 rk_1 (by decide) (fun v29 => [(0, .ref o0_), (1, .int x1_), (2, .int v29), (3, .int (18 : Int32))]) (fun _ => rfl) (fun v29 ev29 rv29 => ?_)
  refine rn_goto (tgt := 5) dJ7_fill_53178_17 (by decide) ?_
  refine rn_iload_n (i := 2) dJ7_fill_53178_5 rfl rfl ?_
  refine rn_iload_n (i := 3) dJ7_fill_53178_6 rfl rfl ?_
  refine rn_icmp_ge (tgt := 20) dJ7_fill_53178_7 (by decide) (fun h30 => (cx_le (cv_le h30) rk_18 rv29 (by decide)).elim) (fun h30 => ?_)
  have ch30 := cv_nle h30
  refine rn_aload_n (i := 0) dJ7_fill_53178_10 rfl rfl ?_
  refine rn_iload_n (i := 2) dJ7_fill_53178_11 rfl rfl ?_
  refine rn_iload_n (i := 1) dJ7_fill_53178_12 rfl rfl ?_
  refine rs_iast q1 hS28 hq1 hl28 hf28 hk_20 rfl rfl rv29 (by decide) (by decide) (rg_any x1_) dJ7_fill_53178_13 (fun w31 f32 hS32 hl32 hf32 hu32 hn32 => ?_)
  refine rs_iinc (8) (8) dJ7_fill_53178_14 rfl (by decide) rv29 rk_1 (by decide) (fun v33 => [(0, .ref o0_), (1, .int x1_), (2, .int v33), (3, .int (18 : Int32))]) (fun _ => rfl) (fun v33 ev33 rv33 => ?_)
  refine rn_goto (tgt := 5) dJ7_fill_53178_17 (by decide) ?_
  refine rn_iload_n (i := 2) dJ7_fill_53178_5 rfl rfl ?_
  refine rn_iload_n (i := 3) dJ7_fill_53178_6 rfl rfl ?_
  refine rn_icmp_ge (tgt := 20) dJ7_fill_53178_7 (by decide) (fun h34 => (cx_le (cv_le h34) rk_18 rv33 (by decide)).elim) (fun h34 => ?_)
  have ch34 := cv_nle h34
  refine rn_aload_n (i := 0) dJ7_fill_53178_10 rfl rfl ?_
  refine rn_iload_n (i := 2) dJ7_fill_53178_11 rfl rfl ?_
  refine rn_iload_n (i := 1) dJ7_fill_53178_12 rfl rfl ?_
  refine rs_iast q1 hS32 hq1 hl32 hf32 hk_20 rfl rfl rv33 (by decide) (by decide) (rg_any x1_) dJ7_fill_53178_13 (fun w35 f36 hS36 hl36 hf36 hu36 hn36 => ?_)
  refine rs_iinc (9) (9) dJ7_fill_53178_14 rfl (by decide) rv33 rk_1 (by decide) (fun v37 => [(0, .ref o0_), (1, .int x1_), (2, .int v37), (3, .int (18 : Int32))]) (fun _ => rfl) (fun v37 ev37 rv37 => ?_)
  refine rn_goto (tgt := 5) dJ7_fill_53178_17 (by decide) ?_
  refine rn_iload_n (i := 2) dJ7_fill_53178_5 rfl rfl ?_
  refine rn_iload_n (i := 3) dJ7_fill_53178_6 rfl rfl ?_
  refine rn_icmp_ge (tgt := 20) dJ7_fill_53178_7 (by decide) (fun h38 => (cx_le (cv_le h38) rk_18 rv37 (by decide)).elim) (fun h38 => ?_)
  have ch38 := cv_nle h38
  refine rn_aload_n (i := 0) dJ7_fill_53178_10 rfl rfl ?_
  refine rn_iload_n (i := 2) dJ7_fill_53178_11 rfl rfl ?_
  refine rn_iload_n (i := 1) dJ7_fill_53178_12 rfl rfl ?_
  refine rs_iast q1 hS36 hq1 hl36 hf36 hk_20 rfl rfl rv37 (by decide) (by decide) (rg_any x1_) dJ7_fill_53178_13 (fun w39 f40 hS40 hl40 hf40 hu40 hn40 => ?_)
  refine rs_iinc (10) (10) dJ7_fill_53178_14 rfl (by decide) rv37 rk_1 (by decide) (fun v41 => [(0, .ref o0_), (1, .int x1_), (2, .int v41), (3, .int (18 : Int32))]) (fun _ => rfl) (fun v41 ev41 rv41 => ?_)
  refine rn_goto (tgt := 5) dJ7_fill_53178_17 (by decide) ?_
  refine rn_iload_n (i := 2) dJ7_fill_53178_5 rfl rfl ?_
  refine rn_iload_n (i := 3) dJ7_fill_53178_6 rfl rfl ?_
  refine rn_icmp_ge (tgt := 20) dJ7_fill_53178_7 (by decide) (fun h42 => (cx_le (cv_le h42) rk_18 rv41 (by decide)).elim) (fun h42 => ?_)
  have ch42 := cv_nle h42
  refine rn_aload_n (i := 0) dJ7_fill_53178_10 rfl rfl ?_
  refine rn_iload_n (i := 2) dJ7_fill_53178_11 rfl rfl ?_
  refine rn_iload_n (i := 1) dJ7_fill_53178_12 rfl rfl ?_
  refine rs_iast q1 hS40 hq1 hl40 hf40 hk_20 rfl rfl rv41 (by decide) (by decide) (rg_any x1_) dJ7_fill_53178_13 (fun w43 f44 hS44 hl44 hf44 hu44 hn44 => ?_)
  refine rs_iinc (11) (11) dJ7_fill_53178_14 rfl (by decide) rv41 rk_1 (by decide) (fun v45 => [(0, .ref o0_), (1, .int x1_), (2, .int v45), (3, .int (18 : Int32))]) (fun _ => rfl) (fun v45 ev45 rv45 => ?_)
  refine rn_goto (tgt := 5) dJ7_fill_53178_17 (by decide) ?_
  refine rn_iload_n (i := 2) dJ7_fill_53178_5 rfl rfl ?_
  refine rn_iload_n (i := 3) dJ7_fill_53178_6 rfl rfl ?_
  refine rn_icmp_ge (tgt := 20) dJ7_fill_53178_7 (by decide) (fun h46 => (cx_le (cv_le h46) rk_18 rv45 (by decide)).elim) (fun h46 => ?_)
  have ch46 := cv_nle h46
  refine rn_aload_n (i := 0) dJ7_fill_53178_10 rfl rfl ?_
  refine rn_iload_n (i := 2) dJ7_fill_53178_11 rfl rfl ?_
  refine rn_iload_n (i := 1) dJ7_fill_53178_12 rfl rfl ?_
  refine rs_iast q1 hS44 hq1 hl44 hf44 hk_20 rfl rfl rv45 (by decide) (by decide) (rg_any x1_) dJ7_fill_53178_13 (fun w47 f48 hS48 hl48 hf48 hu48 hn48 => ?_)
  refine rs_iinc (12) (12) dJ7_fill_53178_14 rfl (by decide) rv45 rk_1 (by decide) (fun v49 => [(0, .ref o0_), (1, .int x1_), (2, .int v49), (3, .int (18 : Int32))]) (fun _ => rfl) (fun v49 ev49 rv49 => ?_)
  refine rn_goto (tgt := 5) dJ7_fill_53178_17 (by decide) ?_
  refine rn_iload_n (i := 2) dJ7_fill_53178_5 rfl rfl ?_
  refine rn_iload_n (i := 3) dJ7_fill_53178_6 rfl rfl ?_
  refine rn_icmp_ge (tgt := 20) dJ7_fill_53178_7 (by decide) (fun h50 => (cx_le (cv_le h50) rk_18 rv49 (by decide)).elim) (fun h50 => ?_)
  have ch50 := cv_nle h50
  refine rn_aload_n (i := 0) dJ7_fill_53178_10 rfl rfl ?_
  refine rn_iload_n (i := 2) dJ7_fill_53178_11 rfl rfl ?_
  refine rn_iload_n (i := 1) dJ7_fill_53178_12 rfl rfl ?_
  refine rs_iast q1 hS48 hq1 hl48 hf48 hk_20 rfl rfl rv49 (by decide) (by decide) (rg_any x1_) dJ7_fill_53178_13 (fun w51 f52 hS52 hl52 hf52 hu52 hn52 => ?_)
  refine rs_iinc (13) (13) dJ7_fill_53178_14 rfl (by decide) rv49 rk_1 (by decide) (fun v53 => [(0, .ref o0_), (1, .int x1_), (2, .int v53), (3, .int (18 : Int32))]) (fun _ => rfl) (fun v53 ev53 rv53 => ?_)
  refine rn_goto (tgt := 5) dJ7_fill_53178_17 (by decide) ?_
  refine rn_iload_n (i := 2) dJ7_fill_53178_5 rfl rfl ?_
  refine rn_iload_n (i := 3) dJ7_fill_53178_6 rfl rfl ?_
  refine rn_icmp_ge (tgt := 20) dJ7_fill_53178_7 (by decide) (fun h54 => (cx_le (cv_le h54) rk_18 rv53 (by decide)).elim) (fun h54 => ?_)
  have ch54 := cv_nle h54
  refine rn_aload_n (i := 0) dJ7_fill_53178_10 rfl rfl ?_
  refine rn_iload_n (i := 2) dJ7_fill_53178_11 rfl rfl ?_
  refine rn_iload_n (i := 1) dJ7_fill_53178_12 rfl rfl ?_
  refine rs_iast q1 hS52 hq1 hl52 hf52 hk_20 rfl rfl rv53 (by decide) (by decide) (rg_any x1_) dJ7_fill_53178_13 (fun w55 f56 hS56 hl56 hf56 hu56 hn56 => ?_)
  refine rs_iinc (14) (14) dJ7_fill_53178_14 rfl (by decide) rv53 rk_1 (by decide) (fun v57 => [(0, .ref o0_), (1, .int x1_), (2, .int v57), (3, .int (18 : Int32))]) (fun _ => rfl) (fun v57 ev57 rv57 => ?_)
  refine rn_goto (tgt := 5) dJ7_fill_53178_17 (by decide) ?_
  refine rn_iload_n (i := 2) dJ7_fill_53178_5 rfl rfl ?_
  refine rn_iload_n (i := 3) dJ7_fill_53178_6 rfl rfl ?_
  refine rn_icmp_ge (tgt := 20) dJ7_fill_53178_7 (by decide) (fun h58 => (cx_le (cv_le h58) rk_18 rv57 (by decide)).elim) (fun h58 => ?_)
  have ch58 := cv_nle h58
  refine rn_aload_n (i := 0) dJ7_fill_53178_10 rfl rfl ?_
  refine rn_iload_n (i := 2) dJ7_fill_53178_11 rfl rfl ?_
  refine rn_iload_n (i := 1) dJ7_fill_53178_12 rfl rfl ?_
  refine rs_iast q1 hS56 hq1 hl56 hf56 hk_20 rfl rfl rv57 (by decide) (by decide) (rg_any x1_) dJ7_fill_53178_13 (fun w59 f60 hS60 hl60 hf60 hu60 hn60 => ?_)
  refine rs_iinc (15) (15) dJ7_fill_53178_14 rfl (by decide) rv57 rk_1 (by decide) (fun v61 => [(0, .ref o0_), (1, .int x1_), (2, .int v61), (3, .int (18 : Int32))]) (fun _ => rfl) (fun v61 ev61 rv61 => ?_)
  refine rn_goto (tgt := 5) dJ7_fill_53178_17 (by decide) ?_
  refine rn_iload_n (i := 2) dJ7_fill_53178_5 rfl rfl ?_
  refine rn_iload_n (i := 3) dJ7_fill_53178_6 rfl rfl ?_
  refine rn_icmp_ge (tgt := 20) dJ7_fill_53178_7 (by decide) (fun h62 => (cx_le (cv_le h62) rk_18 rv61 (by decide)).elim) (fun h62 => ?_)
  have ch62 := cv_nle h62
  refine rn_aload_n (i := 0) dJ7_fill_53178_10 rfl rfl ?_
  refine rn_iload_n (i := 2) dJ7_fill_53178_11 rfl rfl ?_
  refine rn_iload_n (i := 1) dJ7_fill_53178_12 rfl rfl ?_
  refine rs_iast q1 hS60 hq1 hl60 hf60 hk_20 rfl rfl rv61 (by decide) (by decide) (rg_any x1_) dJ7_fill_53178_13 (fun w63 f64 hS64 hl64 hf64 hu64 hn64 => ?_)
  refine rs_iinc (16) (16) dJ7_fill_53178_14 rfl (by decide) rv61 rk_1 (by decide) (fun v65 => [(0, .ref o0_), (1, .int x1_), (2, .int v65), (3, .int (18 : Int32))]) (fun _ => rfl) (fun v65 ev65 rv65 => ?_)
  refine rn_goto (tgt := 5) dJ7_fill_53178_17 (by decide) ?_
  refine rn_iload_n (i := 2) dJ7_fill_53178_5 rfl rfl ?_
  refine rn_iload_n (i := 3) dJ7_fill_53178_6 rfl rfl ?_
  refine rn_icmp_ge (tgt := 20) dJ7_fill_53178_7 (by decide) (fun h66 => (cx_le (cv_le h66) rk_18 rv65 (by decide)).elim) (fun h66 => ?_)
  have ch66 := cv_nle h66
  refine rn_aload_n (i := 0) dJ7_fill_53178_10 rfl rfl ?_
  refine rn_iload_n (i := 2) dJ7_fill_53178_11 rfl rfl ?_
  refine rn_iload_n (i := 1) dJ7_fill_53178_12 rfl rfl ?_
  refine rs_iast q1 hS64 hq1 hl64 hf64 hk_20 rfl rfl rv65 (by decide) (by decide) (rg_any x1_) dJ7_fill_53178_13 (fun w67 f68 hS68 hl68 hf68 hu68 hn68 => ?_)
  refine rs_iinc (17) (17) dJ7_fill_53178_14 rfl (by decide) rv65 rk_1 (by decide) (fun v69 => [(0, .ref o0_), (1, .int x1_), (2, .int v69), (3, .int (18 : Int32))]) (fun _ => rfl) (fun v69 ev69 rv69 => ?_)
  refine rn_goto (tgt := 5) dJ7_fill_53178_17 (by decide) ?_
  refine rn_iload_n (i := 2) dJ7_fill_53178_5 rfl rfl ?_
  refine rn_iload_n (i := 3) dJ7_fill_53178_6 rfl rfl ?_
  refine rn_icmp_ge (tgt := 20) dJ7_fill_53178_7 (by decide) (fun h70 => (cx_le (cv_le h70) rk_18 rv69 (by decide)).elim) (fun h70 => ?_)
  have ch70 := cv_nle h70
  refine rn_aload_n (i := 0) dJ7_fill_53178_10 rfl rfl ?_
  refine rn_iload_n (i := 2) dJ7_fill_53178_11 rfl rfl ?_
  refine rn_iload_n (i := 1) dJ7_fill_53178_12 rfl rfl ?_
  refine rs_iast q1 hS68 hq1 hl68 hf68 hk_20 rfl rfl rv69 (by decide) (by decide) (rg_any x1_) dJ7_fill_53178_13 (fun w71 f72 hS72 hl72 hf72 hu72 hn72 => ?_)
  refine rs_iinc (18) (18) dJ7_fill_53178_14 rfl (by decide) rv69 rk_1 (by decide) (fun v73 => [(0, .ref o0_), (1, .int x1_), (2, .int v73), (3, .int (18 : Int32))]) (fun _ => rfl) (fun v73 ev73 rv73 => ?_)
  refine rn_goto (tgt := 5) dJ7_fill_53178_17 (by decide) ?_
  refine rn_iload_n (i := 2) dJ7_fill_53178_5 rfl rfl ?_
  refine rn_iload_n (i := 3) dJ7_fill_53178_6 rfl rfl ?_
  refine rn_icmp_ge (tgt := 20) dJ7_fill_53178_7 (by decide) (fun h74 => ?_) (fun h74 => (cx_lt (cv_nle h74) rv73 rk_18 (by decide)).elim)
  have ch74 := cv_le h74
  exact rn_vret dJ7_fill_53178_20 rfl (rq_in ⟨hS72, rfl, trivial⟩)
abbrev q_t_X9_clear (G : rn_G) (S : ts_S) (ws : va_W) : rn_R → va_W → Prop := rQ (fun v w => St G S [1, 2, 4, 5, 7, 9, 18, 20] ws S w ∧ (v = none ∧ (Zf S w 18 0))) (fun E w => False)
set_option maxRecDepth 20000 in
set_option maxHeartbeats 4000000 in
theorem t_X9_clear (G : rn_G) (S : ts_S) (ws : va_W) (hW : ts_W G S ws) (o0_ : Nat) (m0_ : (o0_, 9) ∈ S) : Rn G mX9_clear 2 43 0 0 0 (lv_args 0 [.ref o0_]) [] ws (q_t_X9_clear G S ws ) := by
  have hS0 : St G S [1, 2, 4, 5, 7, 9, 18, 20] ws S ws := St.rf hW
  refine rn_lv [(0, .ref o0_)] rfl ?_
  refine rn_aload_n (i := 0) dX9_clear_0 rfl rfl ?_
  obtain ⟨q1, fs1, hq1, hl1, hf1⟩ := ts_obj hS0.1 m0_ hk_9
  obtain ⟨o2, hx2, m2⟩ := fs_r hf1 1 rfl
  refine rn_get q1 kg_SG_10 hl1 hx2 dX9_clear_1 ?_
  refine rn_iconst (v := (0 : Int32)) dX9_clear_4 (by decide) ?_
  obtain ⟨q3, fs3, hq3, hl3, hf3⟩ := ts_obj hS0.1 m2 hk_4
  refine rn_callV (a := 0) (b := 0) [.int (0 : Int32)] kl_SG_87 dX9_clear_5 q3 hl3 rfl (t_X4_resize G S ws hS0.1 o2 m2 (0 : Int32)) rfl rfl (Nat.le_of_ble_eq_true rfl) (Nat.le_of_ble_eq_true rfl) (Nat.le_of_ble_eq_true rfl) (Nat.le_of_ble_eq_true rfl) (Nat.le_of_ble_eq_true rfl) (Nat.le_of_ble_eq_true rfl) (fun _ _ h => False.elim h) (fun v9 w4 h5 => ?_)
  obtain ⟨hT6, rfl⟩ := h5
  have hS6 := St.tr hS0 hT6 rfl
  refine rn_stk [] rfl ?_
  refine rn_aload_n (i := 0) dX9_clear_8 rfl rfl ?_
  obtain ⟨o7, hx7, m7⟩ := fs_r hf1 4 rfl
  refine rn_get q1 kg_SG_22 (hT6.fr hq1 rfl hl1) hx7 dX9_clear_9 ?_
  refine rn_iconst (v := (0 : Int32)) dX9_clear_12 (by decide) ?_
  obtain ⟨q8, fs8, hq8, hl8, hf8⟩ := ts_obj hS6.1 m7 hk_4
  refine rn_callV (a := 0) (b := 0) [.int (0 : Int32)] kl_SG_87 dX9_clear_13 q8 hl8 rfl (t_X4_resize G S w4 hS6.1 o7 m7 (0 : Int32)) rfl rfl (Nat.le_of_ble_eq_true rfl) (Nat.le_of_ble_eq_true rfl) (Nat.le_of_ble_eq_true rfl) (Nat.le_of_ble_eq_true rfl) (Nat.le_of_ble_eq_true rfl) (Nat.le_of_ble_eq_true rfl) (fun _ _ h => False.elim h) (fun v9 w9 h10 => ?_)
  obtain ⟨hT11, rfl⟩ := h10
  have hS11 := St.tr hS6 hT11 rfl
  refine rn_stk [] rfl ?_
  refine rn_aload_n (i := 0) dX9_clear_16 rfl rfl ?_
  obtain ⟨o12, hx12, m12⟩ := fs_r hf1 5 rfl
  refine rn_get q1 kg_SG_25 (hT11.fr hq1 rfl (hT6.fr hq1 rfl hl1)) hx12 dX9_clear_17 ?_
  refine rn_iconst (v := (0 : Int32)) dX9_clear_20 (by decide) ?_
  obtain ⟨q13, fs13, hq13, hl13, hf13⟩ := ts_obj hS11.1 m12 hk_4
  refine rn_callV (a := 0) (b := 0) [.int (0 : Int32)] kl_SG_87 dX9_clear_21 q13 hl13 rfl (t_X4_resize G S w9 hS11.1 o12 m12 (0 : Int32)) rfl rfl (Nat.le_of_ble_eq_true rfl) (Nat.le_of_ble_eq_true rfl) (Nat.le_of_ble_eq_true rfl) (Nat.le_of_ble_eq_true rfl) (Nat.le_of_ble_eq_true rfl) (Nat.le_of_ble_eq_true rfl) (fun _ _ h => False.elim h) (fun v9 w14 h15 => ?_)
  obtain ⟨hT16, rfl⟩ := h15
  have hS16 := St.tr hS11 hT16 rfl
  refine rn_stk [] rfl ?_
  refine rn_aload_n (i := 0) dX9_clear_24 rfl rfl ?_
  refine rn_iconst (v := (-1 : Int32)) dX9_clear_25 (by decide) ?_
  refine rs_put q1 (kp_SG_28 _) hS16 hq1 (hT16.fr hq1 rfl (hT11.fr hq1 rfl (hT6.fr hq1 rfl hl1))) hf1 hk_9 rfl rfl (tv_i (rg_w rk_m1 (by decide) (by decide))) rfl rfl dX9_clear_26 (fun w17 fs18 hS18 hl18 hf18 hx18 ho18 hn18 => ?_)
  refine rn_aload_n (i := 0) dX9_clear_29 rfl rfl ?_
  obtain ⟨o19, hx19, m19⟩ := fs_r hf18 7 rfl
  refine rn_get q1 kg_SG_35 hl18 hx19 dX9_clear_30 ?_
  obtain ⟨q20, fs20, hq20, hl20, hf20⟩ := ts_obj hS18.1 m19 hk_7
  refine rn_callV (a := 0) (b := 0) [] kl_SG_281 dX9_clear_33 q20 hl20 rfl (t_X7_empty G S w17 hS18.1 o19 m19) rfl rfl (Nat.le_of_ble_eq_true rfl) (Nat.le_of_ble_eq_true rfl) (Nat.le_of_ble_eq_true rfl) (Nat.le_of_ble_eq_true rfl) (Nat.le_of_ble_eq_true rfl) (Nat.le_of_ble_eq_true rfl) (fun _ _ h => False.elim h) (fun v9 w21 h22 => ?_)
  obtain ⟨hT23, rfl⟩ := h22
  have hS23 := St.tr hS18 hT23 rfl
  refine rn_stk [] rfl ?_
  refine rn_aload_n (i := 0) dX9_clear_36 rfl rfl ?_
  obtain ⟨o24, hx24, m24⟩ := fs_r hf18 8 rfl
  refine rn_get q1 kg_SG_42 (hT23.fr hq1 rfl hl18) hx24 dX9_clear_37 ?_
  obtain ⟨q25, fs25, hq25, hl25, hf25⟩ := ts_obj hS23.1 m24 hk_5
  refine rn_callV (a := 0) (b := 0) [] kl_SG_284 dX9_clear_40 q25 hl25 rfl (t_X5_empty G S w21 hS23.1 o24 m24) rfl rfl (Nat.le_of_ble_eq_true rfl) (Nat.le_of_ble_eq_true rfl) (Nat.le_of_ble_eq_true rfl) (Nat.le_of_ble_eq_true rfl) (Nat.le_of_ble_eq_true rfl) (Nat.le_of_ble_eq_true rfl) (fun _ _ h => False.elim h) (fun v9 w26 h27 => ?_)
  obtain ⟨hT28, rfl⟩ := h27
  have hS28 := St.tr hS23 hT28 rfl
  refine rn_stk [] rfl ?_
  refine rn_aload_n (i := 0) dX9_clear_43 rfl rfl ?_
  obtain ⟨o29, hx29, m29⟩ := fs_r hf18 9 rfl
  refine rn_get q1 kg_SG_46 (hT28.fr hq1 rfl (hT23.fr hq1 rfl hl18)) hx29 dX9_clear_44 ?_
  refine rn_iconst (v := (0 : Int32)) dX9_clear_47 (by decide) ?_
  refine rn_callS (a := 0) (b := 0) [.ref o29, .int (0 : Int32)] kl_SG_285 dX9_clear_48 (t_J7_fill_53178_18 G S w26 hS28.1 o29 m29 (0 : Int32)) rfl rfl (Nat.le_of_ble_eq_true rfl) (Nat.le_of_ble_eq_true rfl) (Nat.le_of_ble_eq_true rfl) (Nat.le_of_ble_eq_true rfl) (Nat.le_of_ble_eq_true rfl) (Nat.le_of_ble_eq_true rfl) (fun _ _ h => False.elim h) (fun v9 w30 h31 => ?_)
  obtain ⟨hT32, rfl, xah31⟩ := h31
  have hS32 := St.tr hS28 hT32 rfl
  refine rn_stk [] rfl ?_
  refine rn_aload_n (i := 0) dX9_clear_51 rfl rfl ?_
  refine rn_iconst (v := (0 : Int32)) dX9_clear_52 (by decide) ?_
  refine rs_put q1 (kp_SG_178 _) hS32 hq1 (hT32.fr hq1 rfl (hT28.fr hq1 rfl (hT23.fr hq1 rfl hl18))) hf18 hk_9 rfl rfl (tv_i (rg_w rk_0 (by decide) (by decide))) rfl rfl dX9_clear_53 (fun w33 fs34 hS34 hl34 hf34 hx34 ho34 hn34 => ?_)
  have zx34 := zf.ne xah31 hn34 hq1 rfl
  refine rn_aload_n (i := 0) dX9_clear_56 rfl rfl ?_
  refine rn_iconst (v := (0 : Int32)) dX9_clear_57 (by decide) ?_
  refine rs_put q1 (kp_SG_275 _) hS34 hq1 hl34 hf34 hk_9 rfl rfl (tv_i (rg_w rk_0 (by decide) (by decide))) rfl rfl dX9_clear_58 (fun w35 fs36 hS36 hl36 hf36 hx36 ho36 hn36 => ?_)
  have zx36 := zf.ne zx34 hn36 hq1 rfl
  refine rn_aload_n (i := 0) dX9_clear_61 rfl rfl ?_
  obtain ⟨o37, hx37, m37⟩ := fs_r hf36 13 rfl
  refine rn_get q1 kg_SG_59 hl36 hx37 dX9_clear_62 ?_
  obtain ⟨q38, fs38, hq38, hl38, hf38⟩ := ts_obj hS36.1 m37 hk_1
  refine rn_callV (a := 0) (b := 0) [] kl_SG_291 dX9_clear_65 q38 hl38 rfl (t_X1_empty G S w35 hS36.1 o37 m37) rfl rfl (Nat.le_of_ble_eq_true rfl) (Nat.le_of_ble_eq_true rfl) (Nat.le_of_ble_eq_true rfl) (Nat.le_of_ble_eq_true rfl) (Nat.le_of_ble_eq_true rfl) (Nat.le_of_ble_eq_true rfl) (fun _ _ h => False.elim h) (fun v9 w39 h40 => ?_)
  obtain ⟨hT41, rfl⟩ := h40
  have hS41 := St.tr hS36 hT41 rfl
  have zx41 := zf.fr zx36 hT41 rfl
  refine rn_stk [] rfl ?_
  refine rn_aload_n (i := 0) dX9_clear_68 rfl rfl ?_
  obtain ⟨o42, hx42, m42⟩ := fs_r hf36 14 rfl
  refine rn_get q1 kg_SG_66 (hT41.fr hq1 rfl hl36) hx42 dX9_clear_69 ?_
  obtain ⟨q43, fs43, hq43, hl43, hf43⟩ := ts_obj hS41.1 m42 hk_2
  refine rn_callV (a := 0) (b := 0) [] kl_SG_292 dX9_clear_72 q43 hl43 rfl (t_X2_empty G S w39 hS41.1 o42 m42) rfl rfl (Nat.le_of_ble_eq_true rfl) (Nat.le_of_ble_eq_true rfl) (Nat.le_of_ble_eq_true rfl) (Nat.le_of_ble_eq_true rfl) (Nat.le_of_ble_eq_true rfl) (Nat.le_of_ble_eq_true rfl) (fun _ _ h => False.elim h) (fun v9 w44 h45 => ?_)
  obtain ⟨hT46, rfl⟩ := h45
  have hS46 := St.tr hS41 hT46 rfl
  have zx46 := zf.fr zx41 hT46 rfl
  refine rn_stk [] rfl ?_
  refine rn_aload_n (i := 0) dX9_clear_75 rfl rfl ?_
  obtain ⟨o47, hx47, m47⟩ := fs_r hf36 15 rfl
  refine rn_get q1 kg_SG_70 (hT46.fr hq1 rfl (hT41.fr hq1 rfl hl36)) hx47 dX9_clear_76 ?_
  refine rn_iconst (v := (0 : Int32)) dX9_clear_79 (by decide) ?_
  refine rn_callS (a := 0) (b := 0) [.ref o47, .int (0 : Int32)] kl_SG_285 dX9_clear_80 (t_J7_fill_53178_20 G S w44 hS46.1 o47 m47 (0 : Int32)) rfl rfl (Nat.le_of_ble_eq_true rfl) (Nat.le_of_ble_eq_true rfl) (Nat.le_of_ble_eq_true rfl) (Nat.le_of_ble_eq_true rfl) (Nat.le_of_ble_eq_true rfl) (Nat.le_of_ble_eq_true rfl) (fun _ _ h => False.elim h) (fun v9 w48 h49 => ?_)
  obtain ⟨hT50, rfl, xah49⟩ := h49
  have hS50 := St.tr hS46 hT50 rfl
  have zx50 := zf.fr zx46 hT50 rfl
  refine rn_stk [] rfl ?_
  exact rn_vret dX9_clear_83 rfl (rq_in ⟨hS50, rfl, zx50⟩)
