abbrev q_t_L_sent (G : rn_G) (S : ts_S) (ws : va_W) : rn_R → va_W → Prop := rQ (fun v w => St G S [21] ws S w ∧ (∃ x : Int32, v = some (.int x) ∧ Rg (0) (1) x)) (fun E w => False)
set_option maxRecDepth 20000 in
set_option maxHeartbeats 4000000 in
theorem t_L_sent (G : rn_G) (S : ts_S) (ws : va_W) (hW : ts_W G S ws) (o0_ : Nat) (m0_ : (o0_, 9) ∈ S) (x1_ : Int32) (x2_ : Int32) (o3_ : Nat) (m3_ : (o3_, 21) ∈ S) : Rn G mL_sent 8 134 2 12 0 (lv_args 0 [.ref o0_, .int x1_, .int x2_, .ref o3_]) [] ws (q_t_L_sent G S ws ) := by
  have hS0 : St G S [21] ws S ws := St.rf hW
  refine rn_lv [(0, .ref o0_), (1, .int x1_), (2, .int x2_), (3, .ref o3_)] rfl ?_
  refine rn_aload_n (i := 3) dL_sent_0 rfl rfl ?_
  refine rn_iconst (v := (0 : Int32)) dL_sent_1 (by decide) ?_
  refine rn_aload_n (i := 0) dL_sent_2 rfl rfl ?_
  refine rn_iload_n (i := 1) dL_sent_3 rfl rfl ?_
  refine rn_iload_n (i := 2) dL_sent_4 rfl rfl ?_
  obtain ⟨q1, fs1, hq1, hl1, hf1⟩ := ts_obj hS0.1 m0_ hk_9
  refine rn_callV (a := 0) (b := 0) [.int x1_, .int x2_] kl_SGLaw_71 dL_sent_5 q1 hl1 rfl (t_X9_sent G S ws hS0.1 o0_ m0_ x1_ x2_) rfl rfl (Nat.le_of_ble_eq_true rfl) (Nat.le_of_ble_eq_true rfl) (Nat.le_of_ble_eq_true rfl) (Nat.le_of_ble_eq_true rfl) (Nat.le_of_ble_eq_true rfl) (Nat.le_of_ble_eq_true rfl) ?_ (fun v9 w2 h3 => ?_)
  · intro E w2 h3
    obtain ⟨rfl, rfl⟩ := h3
    refine rnx_catch [] ⟨0, 10, 13, 25⟩ [] rfl (fun y hy => absurd hy List.not_mem_nil) (by decide) (by decide) wd_358 wd_369 (fun q5 => ?_)
    refine rn_astore dL_sent_13 (by decide) [(0, .ref o0_), (1, .int x1_), (2, .int x2_), (3, .ref o3_), (4, .ref q5)] rfl ?_
    refine rn_iconst (v := (1 : Int32)) dL_sent_15 (by decide) ?_
    exact rn_iret dL_sent_16 rfl rfl (rq_in ⟨hS0, (1 : Int32), rfl, (rg_w rk_1 (by decide) (by decide))⟩)
  · obtain ⟨rfl, v6, rfl, rv6⟩ := h3
    refine rn_stk [.int v6, .int (0 : Int32), .ref o3_] rfl ?_
    refine rn_i2l dL_sent_8 rfl (rn_nmL (fun l8 => ?_))
    obtain ⟨q9, f9, hq9, hl9⟩ := ts_la hS0.1 m3_ hk_21
    refine rs_last q9 hS0 hq9 hl9 hk_21 rfl rfl rk_0 (by decide) (by decide) dL_sent_9 (fun w10 f11 hS11 hl11 hu11 hn11 => ?_)
    refine rn_goto (tgt := 17) dL_sent_10 (by decide) ?_
    refine rn_iconst (v := (0 : Int32)) dL_sent_17 (by decide) ?_
    exact rn_iret dL_sent_18 rfl rfl (rq_in ⟨hS11, (0 : Int32), rfl, (rg_w rk_0 (by decide) (by decide))⟩)
abbrev q_t_L_take (G : rn_G) (S : ts_S) (ws : va_W) : rn_R → va_W → Prop := rQ (fun v w => St G S [4, 11, 21] ws S w ∧ (∃ x : Int32, v = some (.int x) ∧ Rg (0) (2) x)) (fun E w => False)
set_option maxRecDepth 20000 in
set_option maxHeartbeats 4000000 in
theorem t_L_take (G : rn_G) (S : ts_S) (ws : va_W) (hW : ts_W G S ws) (o0_ : Nat) (m0_ : (o0_, 9) ∈ S) (x1_ : Int32) (o2_ : Nat) (m2_ : (o2_, 21) ∈ S) : Rn G mL_take 8 133 2 12 0 (lv_args 0 [.ref o0_, .int x1_, .ref o2_]) [] ws (q_t_L_take G S ws ) := by
  have hS0 : St G S [4, 11, 21] ws S ws := St.rf hW
  refine rn_lv [(0, .ref o0_), (1, .int x1_), (2, .ref o2_)] rfl ?_
  refine rn_aload_n (i := 2) dL_take_0 rfl rfl ?_
  refine rn_iconst (v := (0 : Int32)) dL_take_1 (by decide) ?_
  refine rn_aload_n (i := 0) dL_take_2 rfl rfl ?_
  refine rn_iload_n (i := 1) dL_take_3 rfl rfl ?_
  obtain ⟨q1, fs1, hq1, hl1, hf1⟩ := ts_obj hS0.1 m0_ hk_9
  refine rn_callV (a := 0) (b := 0) [.int x1_] kl_SGLaw_74 dL_take_4 q1 hl1 rfl (t_X9_take G S ws hS0.1 o0_ m0_ x1_) rfl rfl (Nat.le_of_ble_eq_true rfl) (Nat.le_of_ble_eq_true rfl) (Nat.le_of_ble_eq_true rfl) (Nat.le_of_ble_eq_true rfl) (Nat.le_of_ble_eq_true rfl) (Nat.le_of_ble_eq_true rfl) ?_ (fun v9 w2 h3 => ?_)
  · intro E w2 h3
    obtain ⟨hT4, hEh3⟩ := h3
    have hS4 := St.tr hS0 hT4 rfl
    rcases hEh3 with rfl | rfl
    · refine rnx_catch [⟨0, 9, 12, 25⟩] ⟨0, 9, 15, 13⟩ [] rfl (fun y hy => (List.mem_cons.mp hy).elim (fun e => by rw [e]; exact ⟨by decide, "java/lang/IndexOutOfBoundsException", wd_358, by decide⟩) ((fun y hy => absurd hy List.not_mem_nil) y)) (by decide) (by decide) wd_243 wd_254 (fun q5 => ?_)
      refine rn_astore_n dL_take_15 rfl (by decide) [(0, .ref o0_), (1, .int x1_), (2, .ref o2_), (3, .ref q5)] rfl ?_
      refine rn_iconst (v := (2 : Int32)) dL_take_16 (by decide) ?_
      exact rn_iret dL_take_17 rfl rfl (rq_in ⟨hS4, (2 : Int32), rfl, (rg_w rk_2 (by decide) (by decide))⟩)
    · refine rnx_catch [] ⟨0, 9, 12, 25⟩ [⟨0, 9, 15, 13⟩] rfl (fun y hy => absurd hy List.not_mem_nil) (by decide) (by decide) wd_358 wd_369 (fun q6 => ?_)
      refine rn_astore_n dL_take_12 rfl (by decide) [(0, .ref o0_), (1, .int x1_), (2, .ref o2_), (3, .ref q6)] rfl ?_
      refine rn_iconst (v := (1 : Int32)) dL_take_13 (by decide) ?_
      exact rn_iret dL_take_14 rfl rfl (rq_in ⟨hS4, (1 : Int32), rfl, (rg_w rk_1 (by decide) (by decide))⟩)
  · obtain ⟨hT8, v7, rfl, rv7⟩ := h3
    have hS8 := St.tr hS0 hT8 rfl
    refine rn_stk [.int v7, .int (0 : Int32), .ref o2_] rfl ?_
    refine rn_i2l dL_take_7 rfl (rn_nmL (fun l9 => ?_))
    obtain ⟨q10, f10, hq10, hl10⟩ := ts_la hS8.1 m2_ hk_21
    refine rs_last q10 hS8 hq10 hl10 hk_21 rfl rfl rk_0 (by decide) (by decide) dL_take_8 (fun w11 f12 hS12 hl12 hu12 hn12 => ?_)
    refine rn_goto (tgt := 18) dL_take_9 (by decide) ?_
    refine rn_iconst (v := (0 : Int32)) dL_take_18 (by decide) ?_
    exact rn_iret dL_take_19 rfl rfl (rq_in ⟨hS12, (0 : Int32), rfl, (rg_w rk_0 (by decide) (by decide))⟩)
abbrev q_t_L_told (G : rn_G) (S : ts_S) (ws : va_W) : rn_R → va_W → Prop := rQ (fun v w => St G S [21] ws S w ∧ (∃ x : Int32, v = some (.int x) ∧ Rg (0) (1) x)) (fun E w => False)
set_option maxRecDepth 20000 in
set_option maxHeartbeats 4000000 in
theorem t_L_told (G : rn_G) (S : ts_S) (ws : va_W) (hW : ts_W G S ws) (o0_ : Nat) (m0_ : (o0_, 9) ∈ S) (x1_ : Int32) (x2_ : Int32) (o3_ : Nat) (m3_ : (o3_, 21) ∈ S) : Rn G mL_told 8 135 2 12 0 (lv_args 0 [.ref o0_, .int x1_, .int x2_, .ref o3_]) [] ws (q_t_L_told G S ws ) := by
  have hS0 : St G S [21] ws S ws := St.rf hW
  refine rn_lv [(0, .ref o0_), (1, .int x1_), (2, .int x2_), (3, .ref o3_)] rfl ?_
  refine rn_aload_n (i := 3) dL_told_0 rfl rfl ?_
  refine rn_iconst (v := (0 : Int32)) dL_told_1 (by decide) ?_
  refine rn_aload_n (i := 0) dL_told_2 rfl rfl ?_
  refine rn_iload_n (i := 1) dL_told_3 rfl rfl ?_
  refine rn_iload_n (i := 2) dL_told_4 rfl rfl ?_
  obtain ⟨q1, fs1, hq1, hl1, hf1⟩ := ts_obj hS0.1 m0_ hk_9
  refine rn_callV (a := 0) (b := 0) [.int x1_, .int x2_] kl_SGLaw_77 dL_told_5 q1 hl1 rfl (t_X9_told G S ws hS0.1 o0_ m0_ x1_ x2_) rfl rfl (Nat.le_of_ble_eq_true rfl) (Nat.le_of_ble_eq_true rfl) (Nat.le_of_ble_eq_true rfl) (Nat.le_of_ble_eq_true rfl) (Nat.le_of_ble_eq_true rfl) (Nat.le_of_ble_eq_true rfl) ?_ (fun v9 w2 h3 => ?_)
  · intro E w2 h3
    obtain ⟨rfl, rfl⟩ := h3
    refine rnx_catch [] ⟨0, 10, 13, 25⟩ [] rfl (fun y hy => absurd hy List.not_mem_nil) (by decide) (by decide) wd_358 wd_369 (fun q5 => ?_)
    refine rn_astore dL_told_13 (by decide) [(0, .ref o0_), (1, .int x1_), (2, .int x2_), (3, .ref o3_), (4, .ref q5)] rfl ?_
    refine rn_iconst (v := (1 : Int32)) dL_told_15 (by decide) ?_
    exact rn_iret dL_told_16 rfl rfl (rq_in ⟨hS0, (1 : Int32), rfl, (rg_w rk_1 (by decide) (by decide))⟩)
  · obtain ⟨rfl, v6, rfl, rv6⟩ := h3
    refine rn_stk [.int v6, .int (0 : Int32), .ref o3_] rfl ?_
    refine rn_i2l dL_told_8 rfl (rn_nmL (fun l8 => ?_))
    obtain ⟨q9, f9, hq9, hl9⟩ := ts_la hS0.1 m3_ hk_21
    refine rs_last q9 hS0 hq9 hl9 hk_21 rfl rfl rk_0 (by decide) (by decide) dL_told_9 (fun w10 f11 hS11 hl11 hu11 hn11 => ?_)
    refine rn_goto (tgt := 17) dL_told_10 (by decide) ?_
    refine rn_iconst (v := (0 : Int32)) dL_told_17 (by decide) ?_
    exact rn_iret dL_told_18 rfl rfl (rq_in ⟨hS11, (0 : Int32), rfl, (rg_w rk_0 (by decide) (by decide))⟩)
abbrev q_t_L_top (G : rn_G) (S : ts_S) (ws : va_W) : rn_R → va_W → Prop := rQ (fun v w => St G S [21] ws S w ∧ (∃ x : Int32, v = some (.int x) ∧ Rg (0) (1) x)) (fun E w => False)
set_option maxRecDepth 20000 in
set_option maxHeartbeats 4000000 in
theorem t_L_top (G : rn_G) (S : ts_S) (ws : va_W) (hW : ts_W G S ws) (o0_ : Nat) (m0_ : (o0_, 9) ∈ S) (x1_ : Int32) (o2_ : Nat) (m2_ : (o2_, 21) ∈ S) : Rn G mL_top 8 133 1 6 0 (lv_args 0 [.ref o0_, .int x1_, .ref o2_]) [] ws (q_t_L_top G S ws ) := by
  have hS0 : St G S [21] ws S ws := St.rf hW
  refine rn_lv [(0, .ref o0_), (1, .int x1_), (2, .ref o2_)] rfl ?_
  refine rn_aload_n (i := 2) dL_top_0 rfl rfl ?_
  refine rn_iconst (v := (0 : Int32)) dL_top_1 (by decide) ?_
  refine rn_aload_n (i := 0) dL_top_2 rfl rfl ?_
  refine rn_iload_n (i := 1) dL_top_3 rfl rfl ?_
  obtain ⟨q1, fs1, hq1, hl1, hf1⟩ := ts_obj hS0.1 m0_ hk_9
  refine rn_callV (a := 0) (b := 0) [.int x1_] kl_SGLaw_80 dL_top_4 q1 hl1 rfl (t_X9_top G S ws hS0.1 o0_ m0_ x1_) rfl rfl (Nat.le_of_ble_eq_true rfl) (Nat.le_of_ble_eq_true rfl) (Nat.le_of_ble_eq_true rfl) (Nat.le_of_ble_eq_true rfl) (Nat.le_of_ble_eq_true rfl) (Nat.le_of_ble_eq_true rfl) ?_ (fun v9 w2 h3 => ?_)
  · intro E w2 h3
    obtain ⟨rfl, rfl⟩ := h3
    refine rnx_catch [] ⟨0, 8, 11, 25⟩ [] rfl (fun y hy => absurd hy List.not_mem_nil) (by decide) (by decide) wd_358 wd_369 (fun q5 => ?_)
    refine rn_astore_n dL_top_11 rfl (by decide) [(0, .ref o0_), (1, .int x1_), (2, .ref o2_), (3, .ref q5)] rfl ?_
    refine rn_iconst (v := (1 : Int32)) dL_top_12 (by decide) ?_
    exact rn_iret dL_top_13 rfl rfl (rq_in ⟨hS0, (1 : Int32), rfl, (rg_w rk_1 (by decide) (by decide))⟩)
  · obtain ⟨rfl, l6, rfl⟩ := h3
    refine rn_stk [.long l6, .int (0 : Int32), .ref o2_] rfl ?_
    obtain ⟨q8, f8, hq8, hl8⟩ := ts_la hS0.1 m2_ hk_21
    refine rs_last q8 hS0 hq8 hl8 hk_21 rfl rfl rk_0 (by decide) (by decide) dL_top_7 (fun w9 f10 hS10 hl10 hu10 hn10 => ?_)
    refine rn_goto (tgt := 14) dL_top_8 (by decide) ?_
    refine rn_iconst (v := (0 : Int32)) dL_top_14 (by decide) ?_
    exact rn_iret dL_top_15 rfl rfl (rq_in ⟨hS10, (0 : Int32), rfl, (rg_w rk_0 (by decide) (by decide))⟩)
abbrev q_t_L_seen (G : rn_G) (S : ts_S) (ws : va_W) : rn_R → va_W → Prop := rQ (fun v w => St G S [21] ws S w ∧ (∃ x : Int32, v = some (.int x) ∧ Rg (0) (1) x)) (fun E w => False)
set_option maxRecDepth 20000 in
set_option maxHeartbeats 4000000 in
theorem t_L_seen (G : rn_G) (S : ts_S) (ws : va_W) (hW : ts_W G S ws) (o0_ : Nat) (m0_ : (o0_, 9) ∈ S) (x1_ : Int32) (o2_ : Nat) (m2_ : (o2_, 21) ∈ S) : Rn G mL_seen 8 133 1 6 0 (lv_args 0 [.ref o0_, .int x1_, .ref o2_]) [] ws (q_t_L_seen G S ws ) := by
  have hS0 : St G S [21] ws S ws := St.rf hW
  refine rn_lv [(0, .ref o0_), (1, .int x1_), (2, .ref o2_)] rfl ?_
  refine rn_aload_n (i := 2) dL_seen_0 rfl rfl ?_
  refine rn_iconst (v := (0 : Int32)) dL_seen_1 (by decide) ?_
  refine rn_aload_n (i := 0) dL_seen_2 rfl rfl ?_
  refine rn_iload_n (i := 1) dL_seen_3 rfl rfl ?_
  obtain ⟨q1, fs1, hq1, hl1, hf1⟩ := ts_obj hS0.1 m0_ hk_9
  refine rn_callV (a := 0) (b := 0) [.int x1_] kl_SGLaw_84 dL_seen_4 q1 hl1 rfl (t_X9_seen G S ws hS0.1 o0_ m0_ x1_) rfl rfl (Nat.le_of_ble_eq_true rfl) (Nat.le_of_ble_eq_true rfl) (Nat.le_of_ble_eq_true rfl) (Nat.le_of_ble_eq_true rfl) (Nat.le_of_ble_eq_true rfl) (Nat.le_of_ble_eq_true rfl) ?_ (fun v9 w2 h3 => ?_)
  · intro E w2 h3
    obtain ⟨rfl, rfl⟩ := h3
    refine rnx_catch [] ⟨0, 8, 11, 25⟩ [] rfl (fun y hy => absurd hy List.not_mem_nil) (by decide) (by decide) wd_358 wd_369 (fun q5 => ?_)
    refine rn_astore_n dL_seen_11 rfl (by decide) [(0, .ref o0_), (1, .int x1_), (2, .ref o2_), (3, .ref q5)] rfl ?_
    refine rn_iconst (v := (1 : Int32)) dL_seen_12 (by decide) ?_
    exact rn_iret dL_seen_13 rfl rfl (rq_in ⟨hS0, (1 : Int32), rfl, (rg_w rk_1 (by decide) (by decide))⟩)
  · obtain ⟨rfl, l6, rfl⟩ := h3
    refine rn_stk [.long l6, .int (0 : Int32), .ref o2_] rfl ?_
    obtain ⟨q8, f8, hq8, hl8⟩ := ts_la hS0.1 m2_ hk_21
    refine rs_last q8 hS0 hq8 hl8 hk_21 rfl rfl rk_0 (by decide) (by decide) dL_seen_7 (fun w9 f10 hS10 hl10 hu10 hn10 => ?_)
    refine rn_goto (tgt := 14) dL_seen_8 (by decide) ?_
    refine rn_iconst (v := (0 : Int32)) dL_seen_14 (by decide) ?_
    exact rn_iret dL_seen_15 rfl rfl (rq_in ⟨hS10, (0 : Int32), rfl, (rg_w rk_0 (by decide) (by decide))⟩)
abbrev q_t_L_log (G : rn_G) (S : ts_S) (ws : va_W) : rn_R → va_W → Prop := rQ (fun v w => St G S [21] ws S w ∧ (∃ x : Int32, v = some (.int x) ∧ Rg (0) (1) x)) (fun E w => False)
set_option maxRecDepth 20000 in
set_option maxHeartbeats 4000000 in
theorem t_L_log (G : rn_G) (S : ts_S) (ws : va_W) (hW : ts_W G S ws) (o0_ : Nat) (m0_ : (o0_, 9) ∈ S) (x1_ : Int32) (x2_ : Int32) (o3_ : Nat) (m3_ : (o3_, 21) ∈ S) : Rn G mL_log 7 112 1 6 0 (lv_args 0 [.ref o0_, .int x1_, .int x2_, .ref o3_]) [] ws (q_t_L_log G S ws ) := by
  have hS0 : St G S [21] ws S ws := St.rf hW
  refine rn_lv [(0, .ref o0_), (1, .int x1_), (2, .int x2_), (3, .ref o3_)] rfl ?_
  refine rn_aload_n (i := 3) dL_log_0 rfl rfl ?_
  refine rn_iconst (v := (0 : Int32)) dL_log_1 (by decide) ?_
  refine rn_aload_n (i := 0) dL_log_2 rfl rfl ?_
  refine rn_iload_n (i := 1) dL_log_3 rfl rfl ?_
  refine rn_iload_n (i := 2) dL_log_4 rfl rfl ?_
  obtain ⟨q1, fs1, hq1, hl1, hf1⟩ := ts_obj hS0.1 m0_ hk_9
  refine rn_callV (a := 0) (b := 0) [.int x1_, .int x2_] kl_SGLaw_87 dL_log_5 q1 hl1 rfl (t_X9_log G S ws hS0.1 o0_ m0_ x1_ x2_) rfl rfl (Nat.le_of_ble_eq_true rfl) (Nat.le_of_ble_eq_true rfl) (Nat.le_of_ble_eq_true rfl) (Nat.le_of_ble_eq_true rfl) (Nat.le_of_ble_eq_true rfl) (Nat.le_of_ble_eq_true rfl) ?_ (fun v9 w2 h3 => ?_)
  · intro E w2 h3
    obtain ⟨rfl, rfl⟩ := h3
    refine rnx_catch [] ⟨0, 10, 13, 25⟩ [] rfl (fun y hy => absurd hy List.not_mem_nil) (by decide) (by decide) wd_358 wd_369 (fun q5 => ?_)
    refine rn_astore dL_log_13 (by decide) [(0, .ref o0_), (1, .int x1_), (2, .int x2_), (3, .ref o3_), (4, .ref q5)] rfl ?_
    refine rn_iconst (v := (1 : Int32)) dL_log_15 (by decide) ?_
    exact rn_iret dL_log_16 rfl rfl (rq_in ⟨hS0, (1 : Int32), rfl, (rg_w rk_1 (by decide) (by decide))⟩)
  · obtain ⟨rfl, v6, rfl, rv6⟩ := h3
    refine rn_stk [.int v6, .int (0 : Int32), .ref o3_] rfl ?_
    refine rn_i2l dL_log_8 rfl (rn_nmL (fun l8 => ?_))
    obtain ⟨q9, f9, hq9, hl9⟩ := ts_la hS0.1 m3_ hk_21
    refine rs_last q9 hS0 hq9 hl9 hk_21 rfl rfl rk_0 (by decide) (by decide) dL_log_9 (fun w10 f11 hS11 hl11 hu11 hn11 => ?_)
    refine rn_goto (tgt := 17) dL_log_10 (by decide) ?_
    refine rn_iconst (v := (0 : Int32)) dL_log_17 (by decide) ?_
    exact rn_iret dL_log_18 rfl rfl (rq_in ⟨hS11, (0 : Int32), rfl, (rg_w rk_0 (by decide) (by decide))⟩)
abbrev q_t_L_ended (G : rn_G) (S : ts_S) (ws : va_W) : rn_R → va_W → Prop := rQ (fun v w => St G S [21] ws S w ∧ (∃ x : Int32, v = some (.int x) ∧ Rg (0) (1) x)) (fun E w => False)
set_option maxRecDepth 20000 in
set_option maxHeartbeats 4000000 in
theorem t_L_ended (G : rn_G) (S : ts_S) (ws : va_W) (hW : ts_W G S ws) (o0_ : Nat) (m0_ : (o0_, 9) ∈ S) (x1_ : Int32) (o2_ : Nat) (m2_ : (o2_, 21) ∈ S) : Rn G mL_ended 7 111 1 6 0 (lv_args 0 [.ref o0_, .int x1_, .ref o2_]) [] ws (q_t_L_ended G S ws ) := by
  have hS0 : St G S [21] ws S ws := St.rf hW
  refine rn_lv [(0, .ref o0_), (1, .int x1_), (2, .ref o2_)] rfl ?_
  refine rn_aload_n (i := 2) dL_ended_0 rfl rfl ?_
  refine rn_iconst (v := (0 : Int32)) dL_ended_1 (by decide) ?_
  refine rn_aload_n (i := 0) dL_ended_2 rfl rfl ?_
  refine rn_iload_n (i := 1) dL_ended_3 rfl rfl ?_
  obtain ⟨q1, fs1, hq1, hl1, hf1⟩ := ts_obj hS0.1 m0_ hk_9
  refine rn_callV (a := 0) (b := 0) [.int x1_] kl_SGLaw_90 dL_ended_4 q1 hl1 rfl (t_X9_ended G S ws hS0.1 o0_ m0_ x1_) rfl rfl (Nat.le_of_ble_eq_true rfl) (Nat.le_of_ble_eq_true rfl) (Nat.le_of_ble_eq_true rfl) (Nat.le_of_ble_eq_true rfl) (Nat.le_of_ble_eq_true rfl) (Nat.le_of_ble_eq_true rfl) ?_ (fun v9 w2 h3 => ?_)
  · intro E w2 h3
    obtain ⟨rfl, rfl⟩ := h3
    refine rnx_catch [] ⟨0, 9, 12, 25⟩ [] rfl (fun y hy => absurd hy List.not_mem_nil) (by decide) (by decide) wd_358 wd_369 (fun q5 => ?_)
    refine rn_astore_n dL_ended_12 rfl (by decide) [(0, .ref o0_), (1, .int x1_), (2, .ref o2_), (3, .ref q5)] rfl ?_
    refine rn_iconst (v := (1 : Int32)) dL_ended_13 (by decide) ?_
    exact rn_iret dL_ended_14 rfl rfl (rq_in ⟨hS0, (1 : Int32), rfl, (rg_w rk_1 (by decide) (by decide))⟩)
  · obtain ⟨rfl, v6, rfl, rv6⟩ := h3
    refine rn_stk [.int v6, .int (0 : Int32), .ref o2_] rfl ?_
    refine rn_i2l dL_ended_7 rfl (rn_nmL (fun l8 => ?_))
    obtain ⟨q9, f9, hq9, hl9⟩ := ts_la hS0.1 m2_ hk_21
    refine rs_last q9 hS0 hq9 hl9 hk_21 rfl rfl rk_0 (by decide) (by decide) dL_ended_8 (fun w10 f11 hS11 hl11 hu11 hn11 => ?_)
    refine rn_goto (tgt := 15) dL_ended_9 (by decide) ?_
    refine rn_iconst (v := (0 : Int32)) dL_ended_15 (by decide) ?_
    exact rn_iret dL_ended_16 rfl rfl (rq_in ⟨hS11, (0 : Int32), rfl, (rg_w rk_0 (by decide) (by decide))⟩)
