abbrev q_t_L_type (G : rn_G) (S : ts_S) (ws : va_W) : rn_R → va_W → Prop := rQ (fun v w => St G S [4, 11, 21] ws S w ∧ (∃ x : Int32, v = some (.int x) ∧ Rg (0) (1) x)) (fun E w => False)
set_option maxRecDepth 20000 in
set_option maxHeartbeats 4000000 in
theorem t_L_type (G : rn_G) (S : ts_S) (ws : va_W) (hW : ts_W G S ws) (o0_ : Nat) (m0_ : (o0_, 9) ∈ S) (y1_ : Int64) (o2_ : Nat) (m2_ : (o2_, 21) ∈ S) : Rn G mL_type 7 113 1 6 0 (lv_args 0 [.ref o0_, .long y1_, .ref o2_]) [] ws (q_t_L_type G S ws ) := by
  have hS0 : St G S [4, 11, 21] ws S ws := St.rf hW
  refine rn_lv [(0, .ref o0_), (1, .long y1_), (3, .ref o2_)] rfl ?_
  refine rn_aload_n (i := 3) dL_type_0 rfl rfl ?_
  refine rn_iconst (v := (0 : Int32)) dL_type_1 (by decide) ?_
  refine rn_aload_n (i := 0) dL_type_2 rfl rfl ?_
  refine rn_lload_n (i := 1) dL_type_3 rfl rfl ?_
  obtain ⟨q1, fs1, hq1, hl1, hf1⟩ := ts_obj hS0.1 m0_ hk_9
  refine rn_callV (a := 0) (b := 0) [.long y1_] kl_SGLaw_7 dL_type_4 q1 hl1 rfl (t_X9_type G S ws hS0.1 o0_ m0_ y1_) rfl rfl (Nat.le_of_ble_eq_true rfl) (Nat.le_of_ble_eq_true rfl) (Nat.le_of_ble_eq_true rfl) (Nat.le_of_ble_eq_true rfl) (Nat.le_of_ble_eq_true rfl) (Nat.le_of_ble_eq_true rfl) ?_ (fun v9 w2 h3 => ?_)
  · intro E w2 h3
    obtain ⟨hT4, rfl⟩ := h3
    have hS4 := St.tr hS0 hT4 rfl
    refine rnx_catch [] ⟨0, 9, 12, 13⟩ [] rfl (fun y hy => absurd hy List.not_mem_nil) (by decide) (by decide) wd_243 wd_254 (fun q5 => ?_)
    refine rn_astore dL_type_12 (by decide) [(0, .ref o0_), (1, .long y1_), (3, .ref o2_), (4, .ref q5)] rfl ?_
    refine rn_iconst (v := (1 : Int32)) dL_type_14 (by decide) ?_
    exact rn_iret dL_type_15 rfl rfl (rq_in ⟨hS4, (1 : Int32), rfl, (rg_w rk_1 (by decide) (by decide))⟩)
  · obtain ⟨hT7, v6, rfl, rv6⟩ := h3
    have hS7 := St.tr hS0 hT7 rfl
    refine rn_stk [.int v6, .int (0 : Int32), .ref o2_] rfl ?_
    refine rn_i2l dL_type_7 rfl (rn_nmL (fun l8 => ?_))
    obtain ⟨q9, f9, hq9, hl9⟩ := ts_la hS7.1 m2_ hk_21
    refine rs_last q9 hS7 hq9 hl9 hk_21 rfl rfl rk_0 (by decide) (by decide) dL_type_8 (fun w10 f11 hS11 hl11 hu11 hn11 => ?_)
    refine rn_goto (tgt := 16) dL_type_9 (by decide) ?_
    refine rn_iconst (v := (0 : Int32)) dL_type_16 (by decide) ?_
    exact rn_iret dL_type_17 rfl rfl (rq_in ⟨hS11, (0 : Int32), rfl, (rg_w rk_0 (by decide) (by decide))⟩)
abbrev q_t_L_keep (G : rn_G) (S : ts_S) (ws : va_W) : rn_R → va_W → Prop := rQ (fun v w => St G S [4] ws S w ∧ (∃ x : Int32, v = some (.int x) ∧ Rg (0) (1) x)) (fun E w => False)
set_option maxRecDepth 20000 in
set_option maxHeartbeats 4000000 in
theorem t_L_keep (G : rn_G) (S : ts_S) (ws : va_W) (hW : ts_W G S ws) (o0_ : Nat) (m0_ : (o0_, 9) ∈ S) (x1_ : Int32) : Rn G mL_keep 7 111 1 6 0 (lv_args 0 [.ref o0_, .int x1_]) [] ws (q_t_L_keep G S ws ) := by
  have hS0 : St G S [4] ws S ws := St.rf hW
  refine rn_lv [(0, .ref o0_), (1, .int x1_)] rfl ?_
  refine rn_aload_n (i := 0) dL_keep_0 rfl rfl ?_
  refine rn_iload_n (i := 1) dL_keep_1 rfl rfl ?_
  obtain ⟨q1, fs1, hq1, hl1, hf1⟩ := ts_obj hS0.1 m0_ hk_9
  refine rn_callV (a := 0) (b := 0) [.int x1_] kl_SGLaw_15 dL_keep_2 q1 hl1 rfl (t_X9_keep G S ws hS0.1 o0_ m0_ x1_) rfl rfl (Nat.le_of_ble_eq_true rfl) (Nat.le_of_ble_eq_true rfl) (Nat.le_of_ble_eq_true rfl) (Nat.le_of_ble_eq_true rfl) (Nat.le_of_ble_eq_true rfl) (Nat.le_of_ble_eq_true rfl) ?_ (fun v9 w2 h3 => ?_)
  · intro E w2 h3
    obtain ⟨hT4, rfl⟩ := h3
    have hS4 := St.tr hS0 hT4 rfl
    refine rnx_catch [] ⟨0, 5, 8, 19⟩ [] rfl (fun y hy => absurd hy List.not_mem_nil) (by decide) (by decide) wd_334 wd_341 (fun q5 => ?_)
    refine rn_astore_n dL_keep_8 rfl (by decide) [(0, .ref o0_), (1, .int x1_), (2, .ref q5)] rfl ?_
    refine rn_iconst (v := (1 : Int32)) dL_keep_9 (by decide) ?_
    exact rn_iret dL_keep_10 rfl rfl (rq_in ⟨hS4, (1 : Int32), rfl, (rg_w rk_1 (by decide) (by decide))⟩)
  · obtain ⟨hT6, rfl⟩ := h3
    have hS6 := St.tr hS0 hT6 rfl
    refine rn_stk [] rfl ?_
    refine rn_goto (tgt := 11) dL_keep_5 (by decide) ?_
    refine rn_iconst (v := (0 : Int32)) dL_keep_11 (by decide) ?_
    exact rn_iret dL_keep_12 rfl rfl (rq_in ⟨hS6, (0 : Int32), rfl, (rg_w rk_0 (by decide) (by decide))⟩)
abbrev q_t_L_poke (G : rn_G) (S : ts_S) (ws : va_W) : rn_R → va_W → Prop := rQ (fun v w => St G S [11, 21] ws S w ∧ (∃ x : Int32, v = some (.int x) ∧ Rg (0) (2) x)) (fun E w => False)
set_option maxRecDepth 20000 in
set_option maxHeartbeats 4000000 in
theorem t_L_poke (G : rn_G) (S : ts_S) (ws : va_W) (hW : ts_W G S ws) (o0_ : Nat) (m0_ : (o0_, 9) ∈ S) (x1_ : Int32) (x2_ : Int32) (o3_ : Nat) (m3_ : (o3_, 21) ∈ S) : Rn G mL_poke 8 134 2 12 0 (lv_args 0 [.ref o0_, .int x1_, .int x2_, .ref o3_]) [] ws (q_t_L_poke G S ws ) := by
  have hS0 : St G S [11, 21] ws S ws := St.rf hW
  refine rn_lv [(0, .ref o0_), (1, .int x1_), (2, .int x2_), (3, .ref o3_)] rfl ?_
  refine rn_aload_n (i := 3) dL_poke_0 rfl rfl ?_
  refine rn_iconst (v := (0 : Int32)) dL_poke_1 (by decide) ?_
  refine rn_aload_n (i := 0) dL_poke_2 rfl rfl ?_
  refine rn_iload_n (i := 1) dL_poke_3 rfl rfl ?_
  refine rn_iload_n (i := 2) dL_poke_4 rfl rfl ?_
  obtain ⟨q1, fs1, hq1, hl1, hf1⟩ := ts_obj hS0.1 m0_ hk_9
  refine rn_callV (a := 0) (b := 0) [.int x1_, .int x2_] kl_SGLaw_21 dL_poke_5 q1 hl1 rfl (t_X9_poke G S ws hS0.1 o0_ m0_ x1_ x2_) rfl rfl (Nat.le_of_ble_eq_true rfl) (Nat.le_of_ble_eq_true rfl) (Nat.le_of_ble_eq_true rfl) (Nat.le_of_ble_eq_true rfl) (Nat.le_of_ble_eq_true rfl) (Nat.le_of_ble_eq_true rfl) ?_ (fun v9 w2 h3 => ?_)
  · intro E w2 h3
    obtain ⟨hT4, hEh3⟩ := h3
    have hS4 := St.tr hS0 hT4 rfl
    rcases hEh3 with rfl | rfl
    · refine rnx_catch [⟨0, 10, 13, 25⟩] ⟨0, 10, 17, 19⟩ [] rfl (fun y hy => (List.mem_cons.mp hy).elim (fun e => by rw [e]; exact ⟨by decide, "java/lang/IndexOutOfBoundsException", wd_358, by decide⟩) ((fun y hy => absurd hy List.not_mem_nil) y)) (by decide) (by decide) wd_334 wd_341 (fun q5 => ?_)
      refine rn_astore dL_poke_17 (by decide) [(0, .ref o0_), (1, .int x1_), (2, .int x2_), (3, .ref o3_), (4, .ref q5)] rfl ?_
      refine rn_iconst (v := (2 : Int32)) dL_poke_19 (by decide) ?_
      exact rn_iret dL_poke_20 rfl rfl (rq_in ⟨hS4, (2 : Int32), rfl, (rg_w rk_2 (by decide) (by decide))⟩)
    · refine rnx_catch [] ⟨0, 10, 13, 25⟩ [⟨0, 10, 17, 19⟩] rfl (fun y hy => absurd hy List.not_mem_nil) (by decide) (by decide) wd_358 wd_369 (fun q6 => ?_)
      refine rn_astore dL_poke_13 (by decide) [(0, .ref o0_), (1, .int x1_), (2, .int x2_), (3, .ref o3_), (4, .ref q6)] rfl ?_
      refine rn_iconst (v := (1 : Int32)) dL_poke_15 (by decide) ?_
      exact rn_iret dL_poke_16 rfl rfl (rq_in ⟨hS4, (1 : Int32), rfl, (rg_w rk_1 (by decide) (by decide))⟩)
  · obtain ⟨hT8, v7, rfl, rv7⟩ := h3
    have hS8 := St.tr hS0 hT8 rfl
    refine rn_stk [.int v7, .int (0 : Int32), .ref o3_] rfl ?_
    refine rn_i2l dL_poke_8 rfl (rn_nmL (fun l9 => ?_))
    obtain ⟨q10, f10, hq10, hl10⟩ := ts_la hS8.1 m3_ hk_21
    refine rs_last q10 hS8 hq10 hl10 hk_21 rfl rfl rk_0 (by decide) (by decide) dL_poke_9 (fun w11 f12 hS12 hl12 hu12 hn12 => ?_)
    refine rn_goto (tgt := 21) dL_poke_10 (by decide) ?_
    refine rn_iconst (v := (0 : Int32)) dL_poke_21 (by decide) ?_
    exact rn_iret dL_poke_22 rfl rfl (rq_in ⟨hS12, (0 : Int32), rfl, (rg_w rk_0 (by decide) (by decide))⟩)
abbrev q_t_L_at (G : rn_G) (S : ts_S) (ws : va_W) : rn_R → va_W → Prop := rQ (fun v w => St G S [21] ws S w ∧ (∃ x : Int32, v = some (.int x) ∧ Rg (0) (1) x)) (fun E w => False)
set_option maxRecDepth 20000 in
set_option maxHeartbeats 4000000 in
theorem t_L_at (G : rn_G) (S : ts_S) (ws : va_W) (hW : ts_W G S ws) (o0_ : Nat) (m0_ : (o0_, 9) ∈ S) (x1_ : Int32) (o2_ : Nat) (m2_ : (o2_, 21) ∈ S) : Rn G mL_at 7 111 1 6 0 (lv_args 0 [.ref o0_, .int x1_, .ref o2_]) [] ws (q_t_L_at G S ws ) := by
  have hS0 : St G S [21] ws S ws := St.rf hW
  refine rn_lv [(0, .ref o0_), (1, .int x1_), (2, .ref o2_)] rfl ?_
  refine rn_aload_n (i := 2) dL_at_0 rfl rfl ?_
  refine rn_iconst (v := (0 : Int32)) dL_at_1 (by decide) ?_
  refine rn_aload_n (i := 0) dL_at_2 rfl rfl ?_
  refine rn_iload_n (i := 1) dL_at_3 rfl rfl ?_
  obtain ⟨q1, fs1, hq1, hl1, hf1⟩ := ts_obj hS0.1 m0_ hk_9
  refine rn_callV (a := 0) (b := 0) [.int x1_] kl_SGLaw_27 dL_at_4 q1 hl1 rfl (t_X9_at G S ws hS0.1 o0_ m0_ x1_) rfl rfl (Nat.le_of_ble_eq_true rfl) (Nat.le_of_ble_eq_true rfl) (Nat.le_of_ble_eq_true rfl) (Nat.le_of_ble_eq_true rfl) (Nat.le_of_ble_eq_true rfl) (Nat.le_of_ble_eq_true rfl) ?_ (fun v9 w2 h3 => ?_)
  · intro E w2 h3
    obtain ⟨rfl, rfl⟩ := h3
    refine rnx_catch [] ⟨0, 9, 12, 25⟩ [] rfl (fun y hy => absurd hy List.not_mem_nil) (by decide) (by decide) wd_358 wd_369 (fun q5 => ?_)
    refine rn_astore_n dL_at_12 rfl (by decide) [(0, .ref o0_), (1, .int x1_), (2, .ref o2_), (3, .ref q5)] rfl ?_
    refine rn_iconst (v := (1 : Int32)) dL_at_13 (by decide) ?_
    exact rn_iret dL_at_14 rfl rfl (rq_in ⟨hS0, (1 : Int32), rfl, (rg_w rk_1 (by decide) (by decide))⟩)
  · obtain ⟨rfl, v6, rfl, rv6⟩ := h3
    refine rn_stk [.int v6, .int (0 : Int32), .ref o2_] rfl ?_
    refine rn_i2l dL_at_7 rfl (rn_nmL (fun l8 => ?_))
    obtain ⟨q9, f9, hq9, hl9⟩ := ts_la hS0.1 m2_ hk_21
    refine rs_last q9 hS0 hq9 hl9 hk_21 rfl rfl rk_0 (by decide) (by decide) dL_at_8 (fun w10 f11 hS11 hl11 hu11 hn11 => ?_)
    refine rn_goto (tgt := 15) dL_at_9 (by decide) ?_
    refine rn_iconst (v := (0 : Int32)) dL_at_15 (by decide) ?_
    exact rn_iret dL_at_16 rfl rfl (rq_in ⟨hS11, (0 : Int32), rfl, (rg_w rk_0 (by decide) (by decide))⟩)
abbrev q_t_L_make (G : rn_G) (S : ts_S) (ws : va_W) : rn_R → va_W → Prop := rQ (fun v w => St G S [4, 11, 21] ws S w ∧ (∃ x : Int32, v = some (.int x) ∧ Rg (0) (1) x)) (fun E w => False)
set_option maxRecDepth 20000 in
set_option maxHeartbeats 4000000 in
theorem t_L_make (G : rn_G) (S : ts_S) (ws : va_W) (hW : ts_W G S ws) (o0_ : Nat) (m0_ : (o0_, 9) ∈ S) (x1_ : Int32) (x2_ : Int32) (x3_ : Int32) (x4_ : Int32) (x5_ : Int32) (x6_ : Int32) (o7_ : Nat) (m7_ : (o7_, 21) ∈ S) : Rn G mL_make 7 117 1 6 0 (lv_args 0 [.ref o0_, .int x1_, .int x2_, .int x3_, .int x4_, .int x5_, .int x6_, .ref o7_]) [] ws (q_t_L_make G S ws ) := by
  have hS0 : St G S [4, 11, 21] ws S ws := St.rf hW
  refine rn_lv [(0, .ref o0_), (1, .int x1_), (2, .int x2_), (3, .int x3_), (4, .int x4_), (5, .int x5_), (6, .int x6_), (7, .ref o7_)] rfl ?_
  refine rn_aload dL_make_0 rfl ?_
  refine rn_iconst (v := (0 : Int32)) dL_make_2 (by decide) ?_
  refine rn_aload_n (i := 0) dL_make_3 rfl rfl ?_
  refine rn_iload_n (i := 1) dL_make_4 rfl rfl ?_
  refine rn_iload_n (i := 2) dL_make_5 rfl rfl ?_
  refine rn_iload_n (i := 3) dL_make_6 rfl rfl ?_
  refine rn_iload dL_make_7 rfl ?_
  refine rn_iload dL_make_9 rfl ?_
  refine rn_iload dL_make_11 rfl ?_
  obtain ⟨q1, fs1, hq1, hl1, hf1⟩ := ts_obj hS0.1 m0_ hk_9
  refine rn_callV (a := 0) (b := 0) [.int x1_, .int x2_, .int x3_, .int x4_, .int x5_, .int x6_] kl_SGLaw_31 dL_make_13 q1 hl1 rfl (t_X9_make G S ws hS0.1 o0_ m0_ x1_ x2_ x3_ x4_ x5_ x6_) rfl rfl (Nat.le_of_ble_eq_true rfl) (Nat.le_of_ble_eq_true rfl) (Nat.le_of_ble_eq_true rfl) (Nat.le_of_ble_eq_true rfl) (Nat.le_of_ble_eq_true rfl) (Nat.le_of_ble_eq_true rfl) ?_ (fun v9 w2 h3 => ?_)
  · intro E w2 h3
    obtain ⟨hT4, rfl⟩ := h3
    have hS4 := St.tr hS0 hT4 rfl
    refine rnx_catch [] ⟨0, 18, 21, 19⟩ [] rfl (fun y hy => absurd hy List.not_mem_nil) (by decide) (by decide) wd_334 wd_341 (fun q5 => ?_)
    refine rn_astore dL_make_21 (by decide) [(0, .ref o0_), (1, .int x1_), (2, .int x2_), (3, .int x3_), (4, .int x4_), (5, .int x5_), (6, .int x6_), (7, .ref o7_), (8, .ref q5)] rfl ?_
    refine rn_iconst (v := (1 : Int32)) dL_make_23 (by decide) ?_
    exact rn_iret dL_make_24 rfl rfl (rq_in ⟨hS4, (1 : Int32), rfl, (rg_w rk_1 (by decide) (by decide))⟩)
  · obtain ⟨hT7, v6, rfl, rv6⟩ := h3
    have hS7 := St.tr hS0 hT7 rfl
    refine rn_stk [.int v6, .int (0 : Int32), .ref o7_] rfl ?_
    refine rn_i2l dL_make_16 rfl (rn_nmL (fun l8 => ?_))
    obtain ⟨q9, f9, hq9, hl9⟩ := ts_la hS7.1 m7_ hk_21
    refine rs_last q9 hS7 hq9 hl9 hk_21 rfl rfl rk_0 (by decide) (by decide) dL_make_17 (fun w10 f11 hS11 hl11 hu11 hn11 => ?_)
    refine rn_goto (tgt := 25) dL_make_18 (by decide) ?_
    refine rn_iconst (v := (0 : Int32)) dL_make_25 (by decide) ?_
    exact rn_iret dL_make_26 rfl rfl (rq_in ⟨hS11, (0 : Int32), rfl, (rg_w rk_0 (by decide) (by decide))⟩)
abbrev q_t_L_sum (G : rn_G) (S : ts_S) (ws : va_W) : rn_R → va_W → Prop := rQ (fun v w => St G S [11, 21] ws S w ∧ (∃ x : Int32, v = some (.int x) ∧ Rg (0) (1) x)) (fun E w => False)
set_option maxRecDepth 20000 in
set_option maxHeartbeats 4000000 in
theorem t_L_sum (G : rn_G) (S : ts_S) (ws : va_W) (hW : ts_W G S ws) (o0_ : Nat) (m0_ : (o0_, 9) ∈ S) (o1_ : Nat) (m1_ : (o1_, 21) ∈ S) : Rn G mL_sum 7 110 1 6 0 (lv_args 0 [.ref o0_, .ref o1_]) [] ws (q_t_L_sum G S ws ) := by
  have hS0 : St G S [11, 21] ws S ws := St.rf hW
  refine rn_lv [(0, .ref o0_), (1, .ref o1_)] rfl ?_
  refine rn_aload_n (i := 1) dL_sum_0 rfl rfl ?_
  refine rn_iconst (v := (0 : Int32)) dL_sum_1 (by decide) ?_
  refine rn_aload_n (i := 0) dL_sum_2 rfl rfl ?_
  obtain ⟨q1, fs1, hq1, hl1, hf1⟩ := ts_obj hS0.1 m0_ hk_9
  refine rn_callV (a := 0) (b := 0) [] kl_SGLaw_35 dL_sum_3 q1 hl1 rfl (t_X9_sum G S ws hS0.1 o0_ m0_) rfl rfl (Nat.le_of_ble_eq_true rfl) (Nat.le_of_ble_eq_true rfl) (Nat.le_of_ble_eq_true rfl) (Nat.le_of_ble_eq_true rfl) (Nat.le_of_ble_eq_true rfl) (Nat.le_of_ble_eq_true rfl) ?_ (fun v9 w2 h3 => ?_)
  · intro E w2 h3
    obtain ⟨hT4, rfl⟩ := h3
    have hS4 := St.tr hS0 hT4 rfl
    refine rnx_catch [] ⟨0, 8, 11, 13⟩ [] rfl (fun y hy => absurd hy List.not_mem_nil) (by decide) (by decide) wd_243 wd_254 (fun q5 => ?_)
    refine rn_astore_n dL_sum_11 rfl (by decide) [(0, .ref o0_), (1, .ref o1_), (2, .ref q5)] rfl ?_
    refine rn_iconst (v := (1 : Int32)) dL_sum_12 (by decide) ?_
    exact rn_iret dL_sum_13 rfl rfl (rq_in ⟨hS4, (1 : Int32), rfl, (rg_w rk_1 (by decide) (by decide))⟩)
  · obtain ⟨hT7, v6, rfl, rv6⟩ := h3
    have hS7 := St.tr hS0 hT7 rfl
    refine rn_stk [.int v6, .int (0 : Int32), .ref o1_] rfl ?_
    refine rn_i2l dL_sum_6 rfl (rn_nmL (fun l8 => ?_))
    obtain ⟨q9, f9, hq9, hl9⟩ := ts_la hS7.1 m1_ hk_21
    refine rs_last q9 hS7 hq9 hl9 hk_21 rfl rfl rk_0 (by decide) (by decide) dL_sum_7 (fun w10 f11 hS11 hl11 hu11 hn11 => ?_)
    refine rn_goto (tgt := 14) dL_sum_8 (by decide) ?_
    refine rn_iconst (v := (0 : Int32)) dL_sum_14 (by decide) ?_
    exact rn_iret dL_sum_15 rfl rfl (rq_in ⟨hS11, (0 : Int32), rfl, (rg_w rk_0 (by decide) (by decide))⟩)
abbrev q_t_L_route (G : rn_G) (S : ts_S) (ws : va_W) (x1_ x2_ x3_ : Int32) : rn_R → va_W → Prop := rQ (fun v w => ∃ S' : ts_S, St G S [7, 16, 17, 21] ws S' w ∧ (∃ x : Int32, v = some (.int x) ∧ Rg (0) (2) x ∧ ((rok x2_ x3_ ∧ ∀ (n : Nat) (net w9 p : Nat → Int32), Tb S ws n net w9 p → n < 16 ∧ Tb S' w (n + 1) (upd net n x1_) (upd w9 n x2_) (upd p n x3_)) ∨ ((¬ rok x2_ x3_ ∨ (∀ (n : Nat) (net w9 p : Nat → Int32), Tb S ws n net w9 p → 16 ≤ n)) ∧ (∀ (n : Nat) (net w9 p : Nat → Int32), Tb S ws n net w9 p → Tb S' w n net w9 p))))) (fun E w => False)
set_option maxRecDepth 20000 in
set_option maxHeartbeats 4000000 in
theorem t_L_route (G : rn_G) (S : ts_S) (ws : va_W) (hW : ts_W G S ws) (o0_ : Nat) (m0_ : (o0_, 9) ∈ S) (x1_ : Int32) (x2_ : Int32) (x3_ : Int32) (o4_ : Nat) (m4_ : (o4_, 21) ∈ S) : Rn G mL_route 7 113 1 6 0 (lv_args 0 [.ref o0_, .int x1_, .int x2_, .int x3_, .ref o4_]) [] ws (q_t_L_route G S ws x1_ x2_ x3_) := by
  have hS0 : St G S [7, 16, 17, 21] ws S ws := St.rf hW
  refine rn_lv [(0, .ref o0_), (1, .int x1_), (2, .int x2_), (3, .int x3_), (4, .ref o4_)] rfl ?_
  refine rn_aload dL_route_0 rfl ?_
  refine rn_iconst (v := (0 : Int32)) dL_route_2 (by decide) ?_
  refine rn_aload_n (i := 0) dL_route_3 rfl rfl ?_
  refine rn_iload_n (i := 1) dL_route_4 rfl rfl ?_
  refine rn_iload_n (i := 2) dL_route_5 rfl rfl ?_
  refine rn_iload_n (i := 3) dL_route_6 rfl rfl ?_
  obtain ⟨q1, fs1, hq1, hl1, hf1⟩ := ts_obj hS0.1 m0_ hk_9
  refine rn_callV (a := 0) (b := 0) [.int x1_, .int x2_, .int x3_] kl_SGLaw_39 dL_route_7 q1 hl1 rfl (t_X9_route G S ws hS0.1 o0_ m0_ x1_ x2_ x3_) rfl rfl (Nat.le_of_ble_eq_true rfl) (Nat.le_of_ble_eq_true rfl) (Nat.le_of_ble_eq_true rfl) (Nat.le_of_ble_eq_true rfl) (Nat.le_of_ble_eq_true rfl) (Nat.le_of_ble_eq_true rfl) ?_ (fun v9 w2 h3 => ?_)
  · intro E w2 h3
    obtain ⟨S4, hT4, hEh3, xth3⟩ := h3
    have hS4 := St.tr hS0 hT4 rfl
    rcases hEh3 with rfl | rfl
    · refine rnx_catch [] ⟨0, 12, 15, 19⟩ [⟨0, 12, 19, 13⟩] rfl (fun y hy => absurd hy List.not_mem_nil) (by decide) (by decide) wd_334 wd_341 (fun q5 => ?_)
      refine rn_astore dL_route_15 (by decide) [(0, .ref o0_), (1, .int x1_), (2, .int x2_), (3, .int x3_), (4, .ref o4_), (5, .ref q5)] rfl ?_
      refine rn_iconst (v := (1 : Int32)) dL_route_17 (by decide) ?_
      exact rn_iret dL_route_18 rfl rfl (rq_in ⟨S4, hS4, (1 : Int32), rfl, (rg_w rk_1 (by decide) (by decide)), (by obtain ⟨p1, p2⟩ := xth3; rcases p1 with ⟨-, p1⟩ | ⟨-, -, p1⟩; exact Or.inr ⟨Or.inl p1, p2⟩; exact Or.inr ⟨Or.inr p1, p2⟩)⟩)
    · refine rnx_catch [⟨0, 12, 15, 19⟩] ⟨0, 12, 19, 13⟩ [] rfl (fun y hy => (List.mem_cons.mp hy).elim (fun e => by rw [e]; exact ⟨by decide, "java/lang/IllegalArgumentException", wd_334, by decide⟩) ((fun y hy => absurd hy List.not_mem_nil) y)) (by decide) (by decide) wd_243 wd_254 (fun q6 => ?_)
      refine rn_astore dL_route_19 (by decide) [(0, .ref o0_), (1, .int x1_), (2, .int x2_), (3, .int x3_), (4, .ref o4_), (5, .ref q6)] rfl ?_
      refine rn_iconst (v := (2 : Int32)) dL_route_21 (by decide) ?_
      exact rn_iret dL_route_22 rfl rfl (rq_in ⟨S4, hS4, (2 : Int32), rfl, (rg_w rk_2 (by decide) (by decide)), (by obtain ⟨p1, p2⟩ := xth3; rcases p1 with ⟨-, p1⟩ | ⟨-, -, p1⟩; exact Or.inr ⟨Or.inl p1, p2⟩; exact Or.inr ⟨Or.inr p1, p2⟩)⟩)
  · obtain ⟨S8, hT8, v7, rfl, rv7, xah3⟩ := h3
    have hS8 := St.tr hS0 hT8 rfl
    refine rn_stk [.int v7, .int (0 : Int32), .ref o4_] rfl ?_
    refine rn_i2l dL_route_10 rfl (rn_nmL (fun l9 => ?_))
    obtain ⟨q10, f10, hq10, hl10⟩ := ts_la hS8.1 (hT8.mem m4_) hk_21
    refine rs_last q10 hS8 hq10 hl10 hk_21 rfl rfl rk_0 (by decide) (by decide) dL_route_11 (fun w11 f12 hS12 hl12 hu12 hn12 => ?_)
    refine rn_goto (tgt := 23) dL_route_12 (by decide) ?_
    refine rn_iconst (v := (0 : Int32)) dL_route_23 (by decide) ?_
    exact rn_iret dL_route_24 rfl rfl (rq_in ⟨S8, hS12, (0 : Int32), rfl, (rg_w rk_0 (by decide) (by decide)), (Or.inl ⟨xah3.1, fun n net w9 p hT => ⟨(xah3.2 n net w9 p hT).1, (xah3.2 n net w9 p hT).2.ne hn12 hq10 rfl rfl rfl rfl⟩⟩)⟩)
abbrev q_t_L_peer (G : rn_G) (S : ts_S) (ws : va_W) : rn_R → va_W → Prop := rQ (fun v w => St G S [18, 21] ws S w ∧ (∃ x : Int32, v = some (.int x) ∧ Rg (0) (1) x)) (fun E w => False)
set_option maxRecDepth 20000 in
set_option maxHeartbeats 4000000 in
theorem t_L_peer (G : rn_G) (S : ts_S) (ws : va_W) (hW : ts_W G S ws) (o0_ : Nat) (m0_ : (o0_, 9) ∈ S) (x1_ : Int32) (x2_ : Int32) (o3_ : Nat) (m3_ : (o3_, 21) ∈ S) : Rn G mL_peer 7 113 1 6 0 (lv_args 0 [.ref o0_, .int x1_, .int x2_, .ref o3_]) [] ws (q_t_L_peer G S ws ) := by
  have hS0 : St G S [18, 21] ws S ws := St.rf hW
  refine rn_lv [(0, .ref o0_), (1, .int x1_), (2, .int x2_), (3, .ref o3_)] rfl ?_
  refine rn_aload_n (i := 3) dL_peer_0 rfl rfl ?_
  refine rn_iconst (v := (0 : Int32)) dL_peer_1 (by decide) ?_
  refine rn_aload_n (i := 0) dL_peer_2 rfl rfl ?_
  refine rn_iload_n (i := 1) dL_peer_3 rfl rfl ?_
  refine rn_iload_n (i := 2) dL_peer_4 rfl rfl ?_
  obtain ⟨q1, fs1, hq1, hl1, hf1⟩ := ts_obj hS0.1 m0_ hk_9
  refine rn_callV (a := 0) (b := 0) [.int x1_, .int x2_] kl_SGLaw_43 dL_peer_5 q1 hl1 rfl (t_X9_peer G S ws hS0.1 o0_ m0_ x1_ x2_) rfl rfl (Nat.le_of_ble_eq_true rfl) (Nat.le_of_ble_eq_true rfl) (Nat.le_of_ble_eq_true rfl) (Nat.le_of_ble_eq_true rfl) (Nat.le_of_ble_eq_true rfl) (Nat.le_of_ble_eq_true rfl) ?_ (fun v9 w2 h3 => ?_)
  · intro E w2 h3
    obtain ⟨hT4, rfl⟩ := h3
    have hS4 := St.tr hS0 hT4 rfl
    refine rnx_catch [] ⟨0, 10, 13, 25⟩ [] rfl (fun y hy => absurd hy List.not_mem_nil) (by decide) (by decide) wd_358 wd_369 (fun q5 => ?_)
    refine rn_astore dL_peer_13 (by decide) [(0, .ref o0_), (1, .int x1_), (2, .int x2_), (3, .ref o3_), (4, .ref q5)] rfl ?_
    refine rn_iconst (v := (1 : Int32)) dL_peer_15 (by decide) ?_
    exact rn_iret dL_peer_16 rfl rfl (rq_in ⟨hS4, (1 : Int32), rfl, (rg_w rk_1 (by decide) (by decide))⟩)
  · obtain ⟨hT7, v6, rfl, rv6⟩ := h3
    have hS7 := St.tr hS0 hT7 rfl
    refine rn_stk [.int v6, .int (0 : Int32), .ref o3_] rfl ?_
    refine rn_i2l dL_peer_8 rfl (rn_nmL (fun l8 => ?_))
    obtain ⟨q9, f9, hq9, hl9⟩ := ts_la hS7.1 m3_ hk_21
    refine rs_last q9 hS7 hq9 hl9 hk_21 rfl rfl rk_0 (by decide) (by decide) dL_peer_9 (fun w10 f11 hS11 hl11 hu11 hn11 => ?_)
    refine rn_goto (tgt := 17) dL_peer_10 (by decide) ?_
    refine rn_iconst (v := (0 : Int32)) dL_peer_17 (by decide) ?_
    exact rn_iret dL_peer_18 rfl rfl (rq_in ⟨hS11, (0 : Int32), rfl, (rg_w rk_0 (by decide) (by decide))⟩)
abbrev q_t_L_meant (G : rn_G) (S : ts_S) (ws : va_W) : rn_R → va_W → Prop := rQ (fun v w => St G S [5] ws S w ∧ (∃ x : Int32, v = some (.int x) ∧ Rg (0) (1) x)) (fun E w => False)
set_option maxRecDepth 20000 in
set_option maxHeartbeats 4000000 in
theorem t_L_meant (G : rn_G) (S : ts_S) (ws : va_W) (hW : ts_W G S ws) (o0_ : Nat) (m0_ : (o0_, 9) ∈ S) (x1_ : Int32) (x2_ : Int32) (x3_ : Int32) : Rn G mL_meant 7 113 1 6 0 (lv_args 0 [.ref o0_, .int x1_, .int x2_, .int x3_]) [] ws (q_t_L_meant G S ws ) := by
  have hS0 : St G S [5] ws S ws := St.rf hW
  refine rn_lv [(0, .ref o0_), (1, .int x1_), (2, .int x2_), (3, .int x3_)] rfl ?_
  refine rn_aload_n (i := 0) dL_meant_0 rfl rfl ?_
  refine rn_iload_n (i := 1) dL_meant_1 rfl rfl ?_
  refine rn_iload_n (i := 2) dL_meant_2 rfl rfl ?_
  refine rn_iload_n (i := 3) dL_meant_3 rfl rfl ?_
  obtain ⟨q1, fs1, hq1, hl1, hf1⟩ := ts_obj hS0.1 m0_ hk_9
  refine rn_callV (a := 0) (b := 0) [.int x1_, .int x2_, .int x3_] kl_SGLaw_46 dL_meant_4 q1 hl1 rfl (t_X9_meant G S ws hS0.1 o0_ m0_ x1_ x2_ x3_) rfl rfl (Nat.le_of_ble_eq_true rfl) (Nat.le_of_ble_eq_true rfl) (Nat.le_of_ble_eq_true rfl) (Nat.le_of_ble_eq_true rfl) (Nat.le_of_ble_eq_true rfl) (Nat.le_of_ble_eq_true rfl) ?_ (fun v9 w2 h3 => ?_)
  · intro E w2 h3
    obtain ⟨hT4, rfl⟩ := h3
    have hS4 := St.tr hS0 hT4 rfl
    refine rnx_catch [] ⟨0, 7, 10, 19⟩ [] rfl (fun y hy => absurd hy List.not_mem_nil) (by decide) (by decide) wd_334 wd_341 (fun q5 => ?_)
    refine rn_astore dL_meant_10 (by decide) [(0, .ref o0_), (1, .int x1_), (2, .int x2_), (3, .int x3_), (4, .ref q5)] rfl ?_
    refine rn_iconst (v := (1 : Int32)) dL_meant_12 (by decide) ?_
    exact rn_iret dL_meant_13 rfl rfl (rq_in ⟨hS4, (1 : Int32), rfl, (rg_w rk_1 (by decide) (by decide))⟩)
  · obtain ⟨hT6, rfl⟩ := h3
    have hS6 := St.tr hS0 hT6 rfl
    refine rn_stk [] rfl ?_
    refine rn_goto (tgt := 14) dL_meant_7 (by decide) ?_
    refine rn_iconst (v := (0 : Int32)) dL_meant_14 (by decide) ?_
    exact rn_iret dL_meant_15 rfl rfl (rq_in ⟨hS6, (0 : Int32), rfl, (rg_w rk_0 (by decide) (by decide))⟩)
abbrev q_t_L_policy (G : rn_G) (S : ts_S) (ws : va_W) : rn_R → va_W → Prop := rQ (fun v w => ∃ S' : ts_S, St G S [5, 15, 21] ws S' w ∧ (∃ x : Int32, v = some (.int x) ∧ Rg (0) (2) x)) (fun E w => False)
set_option maxRecDepth 20000 in
set_option maxHeartbeats 4000000 in
theorem t_L_policy (G : rn_G) (S : ts_S) (ws : va_W) (hW : ts_W G S ws) (o0_ : Nat) (m0_ : (o0_, 9) ∈ S) (x1_ : Int32) (x2_ : Int32) (x3_ : Int32) (x4_ : Int32) (x5_ : Int32) (x6_ : Int32) (o7_ : Nat) (m7_ : (o7_, 21) ∈ S) : Rn G mL_policy 7 116 3 11 0 (lv_args 0 [.ref o0_, .int x1_, .int x2_, .int x3_, .int x4_, .int x5_, .int x6_, .ref o7_]) [] ws (q_t_L_policy G S ws ) := by
  have hS0 : St G S [5, 15, 21] ws S ws := St.rf hW
  refine rn_lv [(0, .ref o0_), (1, .int x1_), (2, .int x2_), (3, .int x3_), (4, .int x4_), (5, .int x5_), (6, .int x6_), (7, .ref o7_)] rfl ?_
  refine rn_aload dL_policy_0 rfl ?_
  refine rn_iconst (v := (0 : Int32)) dL_policy_2 (by decide) ?_
  refine rn_aload_n (i := 0) dL_policy_3 rfl rfl ?_
  refine rn_iload_n (i := 1) dL_policy_4 rfl rfl ?_
  refine rn_iload_n (i := 2) dL_policy_5 rfl rfl ?_
  refine rn_iload_n (i := 3) dL_policy_6 rfl rfl ?_
  refine rn_iload dL_policy_7 rfl ?_
  refine rn_iload dL_policy_9 rfl ?_
  refine rn_iload dL_policy_11 rfl ?_
  obtain ⟨q1, fs1, hq1, hl1, hf1⟩ := ts_obj hS0.1 m0_ hk_9
  refine rn_callV (a := 0) (b := 0) [.int x1_, .int x2_, .int x3_, .int x4_, .int x5_, .int x6_] kl_SGLaw_50 dL_policy_13 q1 hl1 rfl (t_X9_policy G S ws hS0.1 o0_ m0_ x1_ x2_ x3_ x4_ x5_ x6_) rfl rfl (Nat.le_of_ble_eq_true rfl) (Nat.le_of_ble_eq_true rfl) (Nat.le_of_ble_eq_true rfl) (Nat.le_of_ble_eq_true rfl) (Nat.le_of_ble_eq_true rfl) (Nat.le_of_ble_eq_true rfl) ?_ (fun v9 w2 h3 => ?_)
  · intro E w2 h3
    obtain ⟨S4, hT4, hEh3⟩ := h3
    have hS4 := St.tr hS0 hT4 rfl
    rcases hEh3 with rfl | rfl
    · refine rnx_catch [] ⟨0, 18, 21, 19⟩ [⟨0, 18, 25, 13⟩] rfl (fun y hy => absurd hy List.not_mem_nil) (by decide) (by decide) wd_334 wd_341 (fun q5 => ?_)
      refine rn_astore dL_policy_21 (by decide) [(0, .ref o0_), (1, .int x1_), (2, .int x2_), (3, .int x3_), (4, .int x4_), (5, .int x5_), (6, .int x6_), (7, .ref o7_), (8, .ref q5)] rfl ?_
      refine rn_iconst (v := (1 : Int32)) dL_policy_23 (by decide) ?_
      exact rn_iret dL_policy_24 rfl rfl (rq_in ⟨S4, hS4, (1 : Int32), rfl, (rg_w rk_1 (by decide) (by decide))⟩)
    · refine rnx_catch [⟨0, 18, 21, 19⟩] ⟨0, 18, 25, 13⟩ [] rfl (fun y hy => (List.mem_cons.mp hy).elim (fun e => by rw [e]; exact ⟨by decide, "java/lang/IllegalArgumentException", wd_334, by decide⟩) ((fun y hy => absurd hy List.not_mem_nil) y)) (by decide) (by decide) wd_243 wd_254 (fun q6 => ?_)
      refine rn_astore dL_policy_25 (by decide) [(0, .ref o0_), (1, .int x1_), (2, .int x2_), (3, .int x3_), (4, .int x4_), (5, .int x5_), (6, .int x6_), (7, .ref o7_), (8, .ref q6)] rfl ?_
      refine rn_iconst (v := (2 : Int32)) dL_policy_27 (by decide) ?_
      exact rn_iret dL_policy_28 rfl rfl (rq_in ⟨S4, hS4, (2 : Int32), rfl, (rg_w rk_2 (by decide) (by decide))⟩)
  · obtain ⟨S8, hT8, v7, rfl, rv7⟩ := h3
    have hS8 := St.tr hS0 hT8 rfl
    refine rn_stk [.int v7, .int (0 : Int32), .ref o7_] rfl ?_
    refine rn_i2l dL_policy_16 rfl (rn_nmL (fun l9 => ?_))
    obtain ⟨q10, f10, hq10, hl10⟩ := ts_la hS8.1 (hT8.mem m7_) hk_21
    refine rs_last q10 hS8 hq10 hl10 hk_21 rfl rfl rk_0 (by decide) (by decide) dL_policy_17 (fun w11 f12 hS12 hl12 hu12 hn12 => ?_)
    refine rn_goto (tgt := 29) dL_policy_18 (by decide) ?_
    refine rn_iconst (v := (0 : Int32)) dL_policy_29 (by decide) ?_
    exact rn_iret dL_policy_30 rfl rfl (rq_in ⟨S8, hS12, (0 : Int32), rfl, (rg_w rk_0 (by decide) (by decide))⟩)
abbrev q_t_L_seal (G : rn_G) (S : ts_S) (ws : va_W) : rn_R → va_W → Prop := rQ (fun v w => ∃ S' : ts_S, St G S [9, 19, 21] ws S' w ∧ (∃ x : Int32, v = some (.int x) ∧ Rg (0) (3) x)) (fun E w => False)
set_option maxRecDepth 20000 in
set_option maxHeartbeats 4000000 in
theorem t_L_seal (G : rn_G) (S : ts_S) (ws : va_W) (hW : ts_W G S ws) (o0_ : Nat) (m0_ : (o0_, 9) ∈ S) (x1_ : Int32) (x2_ : Int32) (x3_ : Int32) (y4_ : Int64) (y5_ : Int64) (x6_ : Int32) (r6_ : Rg (0) (1) x6_) (x7_ : Int32) (o8_ : Nat) (m8_ : (o8_, 21) ∈ S) : Rn G mL_seal 7 119 1 10 0 (lv_args 0 [.ref o0_, .int x1_, .int x2_, .int x3_, .long y4_, .long y5_, .int x6_, .int x7_, .ref o8_]) [] ws (q_t_L_seal G S ws ) := by
  have hS0 : St G S [9, 19, 21] ws S ws := St.rf hW
  refine rn_lv [(0, .ref o0_), (1, .int x1_), (2, .int x2_), (3, .int x3_), (4, .long y4_), (6, .long y5_), (8, .int x6_), (9, .int x7_), (10, .ref o8_)] rfl ?_
  refine rn_aload dL_seal_0 rfl ?_
  refine rn_iconst (v := (0 : Int32)) dL_seal_2 (by decide) ?_
  refine rn_aload_n (i := 0) dL_seal_3 rfl rfl ?_
  refine rn_iload_n (i := 1) dL_seal_4 rfl rfl ?_
  refine rn_iload_n (i := 2) dL_seal_5 rfl rfl ?_
  refine rn_iload_n (i := 3) dL_seal_6 rfl rfl ?_
  refine rn_lload dL_seal_7 rfl ?_
  refine rn_lload dL_seal_9 rfl ?_
  refine rn_iload dL_seal_11 rfl ?_
  refine rn_iload dL_seal_13 rfl ?_
  obtain ⟨q1, fs1, hq1, hl1, hf1⟩ := ts_obj hS0.1 m0_ hk_9
  refine rn_callV (a := 0) (b := 0) [.int x1_, .int x2_, .int x3_, .long y4_, .long y5_, .int x6_, .int x7_] kl_SGLaw_53 dL_seal_15 q1 hl1 rfl (t_X9_seal G S ws hS0.1 o0_ m0_ x1_ x2_ x3_ y4_ y5_ x6_ r6_ x7_) rfl rfl (Nat.le_of_ble_eq_true rfl) (Nat.le_of_ble_eq_true rfl) (Nat.le_of_ble_eq_true rfl) (Nat.le_of_ble_eq_true rfl) (Nat.le_of_ble_eq_true rfl) (Nat.le_of_ble_eq_true rfl) ?_ (fun v9 w2 h3 => ?_)
  · intro E w2 h3
    obtain ⟨S4, hT4, hEh3⟩ := h3
    have hS4 := St.tr hS0 hT4 rfl
    rcases hEh3 with rfl | rfl | rfl
    · refine rnx_catch [⟨0, 20, 23, 25⟩] ⟨0, 20, 27, 19⟩ [⟨0, 20, 31, 13⟩] rfl (fun y hy => (List.mem_cons.mp hy).elim (fun e => by rw [e]; exact ⟨by decide, "java/lang/IndexOutOfBoundsException", wd_358, by decide⟩) ((fun y hy => absurd hy List.not_mem_nil) y)) (by decide) (by decide) wd_334 wd_341 (fun q5 => ?_)
      refine rn_astore dL_seal_27 (by decide) [(0, .ref o0_), (1, .int x1_), (2, .int x2_), (3, .int x3_), (4, .long y4_), (6, .long y5_), (8, .int x6_), (9, .int x7_), (10, .ref o8_), (11, .ref q5)] rfl ?_
      refine rn_iconst (v := (2 : Int32)) dL_seal_29 (by decide) ?_
      exact rn_iret dL_seal_30 rfl rfl (rq_in ⟨S4, hS4, (2 : Int32), rfl, (rg_w rk_2 (by decide) (by decide))⟩)
    · refine rnx_catch [⟨0, 20, 23, 25⟩, ⟨0, 20, 27, 19⟩] ⟨0, 20, 31, 13⟩ [] rfl (fun y hy => (List.mem_cons.mp hy).elim (fun e => by rw [e]; exact ⟨by decide, "java/lang/IndexOutOfBoundsException", wd_358, by decide⟩) ((fun y hy => (List.mem_cons.mp hy).elim (fun e => by rw [e]; exact ⟨by decide, "java/lang/IllegalArgumentException", wd_334, by decide⟩) ((fun y hy => absurd hy List.not_mem_nil) y)) y)) (by decide) (by decide) wd_243 wd_254 (fun q6 => ?_)
      refine rn_astore dL_seal_31 (by decide) [(0, .ref o0_), (1, .int x1_), (2, .int x2_), (3, .int x3_), (4, .long y4_), (6, .long y5_), (8, .int x6_), (9, .int x7_), (10, .ref o8_), (11, .ref q6)] rfl ?_
      refine rn_iconst (v := (3 : Int32)) dL_seal_33 (by decide) ?_
      exact rn_iret dL_seal_34 rfl rfl (rq_in ⟨S4, hS4, (3 : Int32), rfl, (rg_w rk_3 (by decide) (by decide))⟩)
    · refine rnx_catch [] ⟨0, 20, 23, 25⟩ [⟨0, 20, 27, 19⟩, ⟨0, 20, 31, 13⟩] rfl (fun y hy => absurd hy List.not_mem_nil) (by decide) (by decide) wd_358 wd_369 (fun q7 => ?_)
      refine rn_astore dL_seal_23 (by decide) [(0, .ref o0_), (1, .int x1_), (2, .int x2_), (3, .int x3_), (4, .long y4_), (6, .long y5_), (8, .int x6_), (9, .int x7_), (10, .ref o8_), (11, .ref q7)] rfl ?_
      refine rn_iconst (v := (1 : Int32)) dL_seal_25 (by decide) ?_
      exact rn_iret dL_seal_26 rfl rfl (rq_in ⟨S4, hS4, (1 : Int32), rfl, (rg_w rk_1 (by decide) (by decide))⟩)
  · obtain ⟨S9, hT9, v8, rfl, rv8⟩ := h3
    have hS9 := St.tr hS0 hT9 rfl
    refine rn_stk [.int v8, .int (0 : Int32), .ref o8_] rfl ?_
    refine rn_i2l dL_seal_18 rfl (rn_nmL (fun l10 => ?_))
    obtain ⟨q11, f11, hq11, hl11⟩ := ts_la hS9.1 (hT9.mem m8_) hk_21
    refine rs_last q11 hS9 hq11 hl11 hk_21 rfl rfl rk_0 (by decide) (by decide) dL_seal_19 (fun w12 f13 hS13 hl13 hu13 hn13 => ?_)
    refine rn_goto (tgt := 35) dL_seal_20 (by decide) ?_
    refine rn_iconst (v := (0 : Int32)) dL_seal_35 (by decide) ?_
    exact rn_iret dL_seal_36 rfl rfl (rq_in ⟨S9, hS13, (0 : Int32), rfl, (rg_w rk_0 (by decide) (by decide))⟩)
abbrev q_t_L_stop (G : rn_G) (S : ts_S) (ws : va_W) : rn_R → va_W → Prop := rQ (fun v w => St G S [8, 21] ws S w ∧ (∃ x : Int32, v = some (.int x) ∧ Rg (0) (1) x)) (fun E w => False)
set_option maxRecDepth 20000 in
set_option maxHeartbeats 4000000 in
theorem t_L_stop (G : rn_G) (S : ts_S) (ws : va_W) (hW : ts_W G S ws) (o0_ : Nat) (m0_ : (o0_, 9) ∈ S) (x1_ : Int32) (o2_ : Nat) (m2_ : (o2_, 21) ∈ S) : Rn G mL_stop 8 135 1 6 0 (lv_args 0 [.ref o0_, .int x1_, .ref o2_]) [] ws (q_t_L_stop G S ws ) := by
  have hS0 : St G S [8, 21] ws S ws := St.rf hW
  refine rn_lv [(0, .ref o0_), (1, .int x1_), (2, .ref o2_)] rfl ?_
  refine rn_aload_n (i := 2) dL_stop_0 rfl rfl ?_
  refine rn_iconst (v := (0 : Int32)) dL_stop_1 (by decide) ?_
  refine rn_aload_n (i := 0) dL_stop_2 rfl rfl ?_
  refine rn_iload_n (i := 1) dL_stop_3 rfl rfl ?_
  obtain ⟨q1, fs1, hq1, hl1, hf1⟩ := ts_obj hS0.1 m0_ hk_9
  refine rn_callV (a := 0) (b := 0) [.int x1_] kl_SGLaw_57 dL_stop_4 q1 hl1 rfl (t_X9_stop G S ws hS0.1 o0_ m0_ x1_) rfl rfl (Nat.le_of_ble_eq_true rfl) (Nat.le_of_ble_eq_true rfl) (Nat.le_of_ble_eq_true rfl) (Nat.le_of_ble_eq_true rfl) (Nat.le_of_ble_eq_true rfl) (Nat.le_of_ble_eq_true rfl) ?_ (fun v9 w2 h3 => ?_)
  · intro E w2 h3
    obtain ⟨hT4, rfl⟩ := h3
    have hS4 := St.tr hS0 hT4 rfl
    refine rnx_catch [] ⟨0, 16, 19, 25⟩ [] rfl (fun y hy => absurd hy List.not_mem_nil) (by decide) (by decide) wd_358 wd_369 (fun q5 => ?_)
    refine rn_astore_n dL_stop_19 rfl (by decide) [(0, .ref o0_), (1, .int x1_), (2, .ref o2_), (3, .ref q5)] rfl ?_
    refine rn_iconst (v := (1 : Int32)) dL_stop_20 (by decide) ?_
    exact rn_iret dL_stop_21 rfl rfl (rq_in ⟨hS4, (1 : Int32), rfl, (rg_w rk_1 (by decide) (by decide))⟩)
  · obtain ⟨hT7, v6, rfl, rv6⟩ := h3
    have hS7 := St.tr hS0 hT7 rfl
    refine rn_stk [.int v6, .int (0 : Int32), .ref o2_] rfl ?_
    refine rn_if_eq (tgt := 14) dL_stop_7 (by decide) (fun h8 => ?_) (fun h8 => ?_)
    · have ch8 := cv_eq h8
      have r9 : Rg (0) (0) v6 := rf_eqx ch8 rv6 rk_0 (by decide) (by decide)
      refine rn_lconst (v := (0 : Int64)) dL_stop_14 (by decide) ?_
      obtain ⟨q10, f10, hq10, hl10⟩ := ts_la hS7.1 m2_ hk_21
      refine rs_last q10 hS7 hq10 hl10 hk_21 rfl rfl rk_0 (by decide) (by decide) dL_stop_15 (fun w11 f12 hS12 hl12 hu12 hn12 => ?_)
      refine rn_goto (tgt := 22) dL_stop_16 (by decide) ?_
      refine rn_iconst (v := (0 : Int32)) dL_stop_22 (by decide) ?_
      exact rn_iret dL_stop_23 rfl rfl (rq_in ⟨hS12, (0 : Int32), rfl, (rg_w rk_0 (by decide) (by decide))⟩)
    · have ch8 := cv_ne h8
      have r13 : Rg (1) (1) v6 := rf_nel ch8 rv6 rk_0 (by decide) (by decide)
      refine rn_lconst (v := (1 : Int64)) dL_stop_10 (by decide) ?_
      refine rn_goto (tgt := 15) dL_stop_11 (by decide) ?_
      obtain ⟨q14, f14, hq14, hl14⟩ := ts_la hS7.1 m2_ hk_21
      refine rs_last q14 hS7 hq14 hl14 hk_21 rfl rfl rk_0 (by decide) (by decide) dL_stop_15 (fun w15 f16 hS16 hl16 hu16 hn16 => ?_)
      refine rn_goto (tgt := 22) dL_stop_16 (by decide) ?_
      refine rn_iconst (v := (0 : Int32)) dL_stop_22 (by decide) ?_
      exact rn_iret dL_stop_23 rfl rfl (rq_in ⟨hS16, (0 : Int32), rfl, (rg_w rk_0 (by decide) (by decide))⟩)
abbrev q_t_L_count (G : rn_G) (S : ts_S) (ws : va_W) : rn_R → va_W → Prop := rQ (fun v w => St G S [8, 21] ws S w ∧ (∃ x : Int32, v = some (.int x) ∧ Rg (0) (2) x)) (fun E w => False)
set_option maxRecDepth 20000 in
set_option maxHeartbeats 4000000 in
theorem t_L_count (G : rn_G) (S : ts_S) (ws : va_W) (hW : ts_W G S ws) (o0_ : Nat) (m0_ : (o0_, 9) ∈ S) (x1_ : Int32) (y2_ : Int64) (o3_ : Nat) (m3_ : (o3_, 21) ∈ S) : Rn G mL_count 8 138 2 12 0 (lv_args 0 [.ref o0_, .int x1_, .long y2_, .ref o3_]) [] ws (q_t_L_count G S ws ) := by
  have hS0 : St G S [8, 21] ws S ws := St.rf hW
  refine rn_lv [(0, .ref o0_), (1, .int x1_), (2, .long y2_), (4, .ref o3_)] rfl ?_
  refine rn_aload dL_count_0 rfl ?_
  refine rn_iconst (v := (0 : Int32)) dL_count_2 (by decide) ?_
  refine rn_aload_n (i := 0) dL_count_3 rfl rfl ?_
  refine rn_iload_n (i := 1) dL_count_4 rfl rfl ?_
  refine rn_lload_n (i := 2) dL_count_5 rfl rfl ?_
  obtain ⟨q1, fs1, hq1, hl1, hf1⟩ := ts_obj hS0.1 m0_ hk_9
  refine rn_callV (a := 0) (b := 0) [.int x1_, .long y2_] kl_SGLaw_61 dL_count_6 q1 hl1 rfl (t_X9_count G S ws hS0.1 o0_ m0_ x1_ y2_) rfl rfl (Nat.le_of_ble_eq_true rfl) (Nat.le_of_ble_eq_true rfl) (Nat.le_of_ble_eq_true rfl) (Nat.le_of_ble_eq_true rfl) (Nat.le_of_ble_eq_true rfl) (Nat.le_of_ble_eq_true rfl) ?_ (fun v9 w2 h3 => ?_)
  · intro E w2 h3
    obtain ⟨hT4, hEh3⟩ := h3
    have hS4 := St.tr hS0 hT4 rfl
    rcases hEh3 with rfl | rfl
    · refine rnx_catch [⟨0, 10, 13, 25⟩] ⟨0, 10, 17, 19⟩ [] rfl (fun y hy => (List.mem_cons.mp hy).elim (fun e => by rw [e]; exact ⟨by decide, "java/lang/IndexOutOfBoundsException", wd_358, by decide⟩) ((fun y hy => absurd hy List.not_mem_nil) y)) (by decide) (by decide) wd_334 wd_341 (fun q5 => ?_)
      refine rn_astore dL_count_17 (by decide) [(0, .ref o0_), (1, .int x1_), (2, .long y2_), (4, .ref o3_), (5, .ref q5)] rfl ?_
      refine rn_iconst (v := (2 : Int32)) dL_count_19 (by decide) ?_
      exact rn_iret dL_count_20 rfl rfl (rq_in ⟨hS4, (2 : Int32), rfl, (rg_w rk_2 (by decide) (by decide))⟩)
    · refine rnx_catch [] ⟨0, 10, 13, 25⟩ [⟨0, 10, 17, 19⟩] rfl (fun y hy => absurd hy List.not_mem_nil) (by decide) (by decide) wd_358 wd_369 (fun q6 => ?_)
      refine rn_astore dL_count_13 (by decide) [(0, .ref o0_), (1, .int x1_), (2, .long y2_), (4, .ref o3_), (5, .ref q6)] rfl ?_
      refine rn_iconst (v := (1 : Int32)) dL_count_15 (by decide) ?_
      exact rn_iret dL_count_16 rfl rfl (rq_in ⟨hS4, (1 : Int32), rfl, (rg_w rk_1 (by decide) (by decide))⟩)
  · obtain ⟨hT8, l7, rfl⟩ := h3
    have hS8 := St.tr hS0 hT8 rfl
    refine rn_stk [.long l7, .int (0 : Int32), .ref o3_] rfl ?_
    obtain ⟨q9, f9, hq9, hl9⟩ := ts_la hS8.1 m3_ hk_21
    refine rs_last q9 hS8 hq9 hl9 hk_21 rfl rfl rk_0 (by decide) (by decide) dL_count_9 (fun w10 f11 hS11 hl11 hu11 hn11 => ?_)
    refine rn_goto (tgt := 21) dL_count_10 (by decide) ?_
    refine rn_iconst (v := (0 : Int32)) dL_count_21 (by decide) ?_
    exact rn_iret dL_count_22 rfl rfl (rq_in ⟨hS11, (0 : Int32), rfl, (rg_w rk_0 (by decide) (by decide))⟩)
abbrev q_t_L_come (G : rn_G) (S : ts_S) (ws : va_W) : rn_R → va_W → Prop := rQ (fun v w => ∃ S' : ts_S, St G S [0, 1, 2, 4, 8, 9, 11, 12, 13, 14, 20, 21] ws S' w ∧ (∃ x : Int32, v = some (.int x) ∧ Rg (0) (1) x)) (fun E w => False)
set_option maxRecDepth 20000 in
set_option maxHeartbeats 4000000 in
theorem t_L_come (G : rn_G) (S : ts_S) (ws : va_W) (hW : ts_W G S ws) (o0_ : Nat) (m0_ : (o0_, 9) ∈ S) (x1_ : Int32) (o2_ : Nat) (m2_ : (o2_, 21) ∈ S) : Rn G mL_come 8 221 5 4030 0 (lv_args 0 [.ref o0_, .int x1_, .ref o2_]) [] ws (q_t_L_come G S ws ) := by
  have hS0 : St G S [0, 1, 2, 4, 8, 9, 11, 12, 13, 14, 20, 21] ws S ws := St.rf hW
  refine rn_lv [(0, .ref o0_), (1, .int x1_), (2, .ref o2_)] rfl ?_
  refine rn_aload_n (i := 2) dL_come_0 rfl rfl ?_
  refine rn_iconst (v := (0 : Int32)) dL_come_1 (by decide) ?_
  refine rn_aload_n (i := 0) dL_come_2 rfl rfl ?_
  refine rn_iload_n (i := 1) dL_come_3 rfl rfl ?_
  obtain ⟨q1, fs1, hq1, hl1, hf1⟩ := ts_obj hS0.1 m0_ hk_9
  refine rn_callV (a := 0) (b := 0) [.int x1_] kl_SGLaw_65 dL_come_4 q1 hl1 rfl (t_X9_come G S ws hS0.1 o0_ m0_ x1_) rfl rfl (Nat.le_of_ble_eq_true rfl) (Nat.le_of_ble_eq_true rfl) (Nat.le_of_ble_eq_true rfl) (Nat.le_of_ble_eq_true rfl) (Nat.le_of_ble_eq_true rfl) (Nat.le_of_ble_eq_true rfl) ?_ (fun v9 w2 h3 => ?_)
  · intro E w2 h3
    obtain ⟨S4, hT4, rfl⟩ := h3
    have hS4 := St.tr hS0 hT4 rfl
    refine rnx_catch [] ⟨0, 9, 12, 19⟩ [] rfl (fun y hy => absurd hy List.not_mem_nil) (by decide) (by decide) wd_334 wd_341 (fun q5 => ?_)
    refine rn_astore_n dL_come_12 rfl (by decide) [(0, .ref o0_), (1, .int x1_), (2, .ref o2_), (3, .ref q5)] rfl ?_
    refine rn_iconst (v := (1 : Int32)) dL_come_13 (by decide) ?_
    exact rn_iret dL_come_14 rfl rfl (rq_in ⟨S4, hS4, (1 : Int32), rfl, (rg_w rk_1 (by decide) (by decide))⟩)
  · obtain ⟨S7, hT7, v6, rfl, rv6⟩ := h3
    have hS7 := St.tr hS0 hT7 rfl
    refine rn_stk [.int v6, .int (0 : Int32), .ref o2_] rfl ?_
    refine rn_i2l dL_come_7 rfl (rn_nmL (fun l8 => ?_))
    obtain ⟨q9, f9, hq9, hl9⟩ := ts_la hS7.1 (hT7.mem m2_) hk_21
    refine rs_last q9 hS7 hq9 hl9 hk_21 rfl rfl rk_0 (by decide) (by decide) dL_come_8 (fun w10 f11 hS11 hl11 hu11 hn11 => ?_)
    refine rn_goto (tgt := 15) dL_come_9 (by decide) ?_
    refine rn_iconst (v := (0 : Int32)) dL_come_15 (by decide) ?_
    exact rn_iret dL_come_16 rfl rfl (rq_in ⟨S7, hS11, (0 : Int32), rfl, (rg_w rk_0 (by decide) (by decide))⟩)
abbrev q_t_L_meaning (G : rn_G) (S : ts_S) (ws : va_W) : rn_R → va_W → Prop := rQ (fun v w => St G S [4, 11, 21] ws S w ∧ (∃ x : Int32, v = some (.int x) ∧ Rg (0) (1) x)) (fun E w => False)
set_option maxRecDepth 20000 in
set_option maxHeartbeats 4000000 in
theorem t_L_meaning (G : rn_G) (S : ts_S) (ws : va_W) (hW : ts_W G S ws) (o0_ : Nat) (m0_ : (o0_, 9) ∈ S) (x1_ : Int32) (o2_ : Nat) (m2_ : (o2_, 21) ∈ S) : Rn G mL_meaning 7 126 1 6 0 (lv_args 0 [.ref o0_, .int x1_, .ref o2_]) [] ws (q_t_L_meaning G S ws ) := by
  have hS0 : St G S [4, 11, 21] ws S ws := St.rf hW
  refine rn_lv [(0, .ref o0_), (1, .int x1_), (2, .ref o2_)] rfl ?_
  refine rn_aload_n (i := 2) dL_meaning_0 rfl rfl ?_
  refine rn_iconst (v := (0 : Int32)) dL_meaning_1 (by decide) ?_
  refine rn_aload_n (i := 0) dL_meaning_2 rfl rfl ?_
  refine rn_iload_n (i := 1) dL_meaning_3 rfl rfl ?_
  obtain ⟨q1, fs1, hq1, hl1, hf1⟩ := ts_obj hS0.1 m0_ hk_9
  refine rn_callV (a := 0) (b := 0) [.int x1_] kl_SGLaw_68 dL_meaning_4 q1 hl1 rfl (t_X9_meaning G S ws hS0.1 o0_ m0_ x1_) rfl rfl (Nat.le_of_ble_eq_true rfl) (Nat.le_of_ble_eq_true rfl) (Nat.le_of_ble_eq_true rfl) (Nat.le_of_ble_eq_true rfl) (Nat.le_of_ble_eq_true rfl) (Nat.le_of_ble_eq_true rfl) ?_ (fun v9 w2 h3 => ?_)
  · intro E w2 h3
    obtain ⟨hT4, rfl⟩ := h3
    have hS4 := St.tr hS0 hT4 rfl
    refine rnx_catch [] ⟨0, 9, 12, 19⟩ [] rfl (fun y hy => absurd hy List.not_mem_nil) (by decide) (by decide) wd_334 wd_341 (fun q5 => ?_)
    refine rn_astore_n dL_meaning_12 rfl (by decide) [(0, .ref o0_), (1, .int x1_), (2, .ref o2_), (3, .ref q5)] rfl ?_
    refine rn_iconst (v := (1 : Int32)) dL_meaning_13 (by decide) ?_
    exact rn_iret dL_meaning_14 rfl rfl (rq_in ⟨hS4, (1 : Int32), rfl, (rg_w rk_1 (by decide) (by decide))⟩)
  · obtain ⟨hT7, v6, rfl, rv6⟩ := h3
    have hS7 := St.tr hS0 hT7 rfl
    refine rn_stk [.int v6, .int (0 : Int32), .ref o2_] rfl ?_
    refine rn_i2l dL_meaning_7 rfl (rn_nmL (fun l8 => ?_))
    obtain ⟨q9, f9, hq9, hl9⟩ := ts_la hS7.1 m2_ hk_21
    refine rs_last q9 hS7 hq9 hl9 hk_21 rfl rfl rk_0 (by decide) (by decide) dL_meaning_8 (fun w10 f11 hS11 hl11 hu11 hn11 => ?_)
    refine rn_goto (tgt := 15) dL_meaning_9 (by decide) ?_
    refine rn_iconst (v := (0 : Int32)) dL_meaning_15 (by decide) ?_
    exact rn_iret dL_meaning_16 rfl rfl (rq_in ⟨hS11, (0 : Int32), rfl, (rg_w rk_0 (by decide) (by decide))⟩)
