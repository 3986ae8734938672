abbrev q_t_X5_placeFor (G : rn_G) (S : ts_S) (ws : va_W) : rn_R → va_W → Prop := rQ (fun v w => ws = w ∧ (∃ x : Int32, v = some (.int x) ∧ Rg (-1) (23) x)) (fun E w => False)
set_option maxRecDepth 20000 in
set_option maxHeartbeats 4000000 in
theorem t_X5_placeFor (G : rn_G) (S : ts_S) (ws : va_W) (hW : ts_W G S ws) (o0_ : Nat) (m0_ : (o0_, 5) ∈ S) (x1_ : Int32) (o2_ : Nat) (m2_ : (o2_, 4) ∈ S) : Rn G mX5_placeFor 3 62 0 0 0 (lv_args 0 [.ref o0_, .int x1_, .ref o2_]) [] ws (q_t_X5_placeFor G S ws ) := by
  refine rn_lv [(0, .ref o0_), (1, .int x1_), (2, .ref o2_)] rfl ?_
  refine rn_aload_n (i := 2) dX5_placeFor_0 rfl rfl ?_
  obtain ⟨q1, fs1, hq1, hl1, hf1⟩ := ts_obj hW m2_ hk_4
  refine rn_callV (a := 0) (b := 0) [] kl_SG_Policies_38 dX5_placeFor_1 q1 hl1 rfl (t_X4_from G S ws hW o2_ m2_) rfl rfl (Nat.le_of_ble_eq_true rfl) (Nat.le_of_ble_eq_true rfl) (Nat.le_of_ble_eq_true rfl) (Nat.le_of_ble_eq_true rfl) (Nat.le_of_ble_eq_true rfl) (Nat.le_of_ble_eq_true rfl) (fun _ _ h => False.elim h) (fun v9 w2 h3 => ?_)
  obtain ⟨rfl, v4, rfl, rv4⟩ := h3
  refine rn_stk [.int v4] rfl ?_
  refine rn_istore_n dX5_placeFor_4 rfl (by decide) [(0, .ref o0_), (1, .int x1_), (2, .ref o2_), (3, .int v4)] rfl ?_
  refine rn_aload_n (i := 2) dX5_placeFor_5 rfl rfl ?_
  refine rn_callV (a := 0) (b := 0) [] kl_SG_Policies_44 dX5_placeFor_6 q1 hl1 rfl (t_X4_to G S ws hW o2_ m2_) rfl rfl (Nat.le_of_ble_eq_true rfl) (Nat.le_of_ble_eq_true rfl) (Nat.le_of_ble_eq_true rfl) (Nat.le_of_ble_eq_true rfl) (Nat.le_of_ble_eq_true rfl) (Nat.le_of_ble_eq_true rfl) (fun _ _ h => False.elim h) (fun v9 w6 h7 => ?_)
  obtain ⟨rfl, v8, rfl, rv8⟩ := h7
  refine rn_stk [.int v8] rfl ?_
  refine rn_istore dX5_placeFor_9 (by decide) [(0, .ref o0_), (1, .int x1_), (2, .ref o2_), (3, .int v4), (4, .int v8)] rfl ?_
  refine rn_aload_n (i := 2) dX5_placeFor_11 rfl rfl ?_
  refine rn_callV (a := 0) (b := 0) [] kl_SG_Policies_47 dX5_placeFor_12 q1 hl1 rfl (t_X4_kind G S ws hW o2_ m2_) rfl rfl (Nat.le_of_ble_eq_true rfl) (Nat.le_of_ble_eq_true rfl) (Nat.le_of_ble_eq_true rfl) (Nat.le_of_ble_eq_true rfl) (Nat.le_of_ble_eq_true rfl) (Nat.le_of_ble_eq_true rfl) (fun _ _ h => False.elim h) (fun v9 w10 h11 => ?_)
  obtain ⟨rfl, v12, rfl, rv12⟩ := h11
  refine rn_stk [.int v12] rfl ?_
  refine rn_istore dX5_placeFor_15 (by decide) [(0, .ref o0_), (1, .int x1_), (2, .ref o2_), (3, .int v4), (4, .int v8), (5, .int v12)] rfl ?_
  refine rn_aload_n (i := 2) dX5_placeFor_17 rfl rfl ?_
  refine rn_callV (a := 0) (b := 0) [] kl_SG_Policies_50 dX5_placeFor_18 q1 hl1 rfl (t_X4_door G S ws hW o2_ m2_) rfl rfl (Nat.le_of_ble_eq_true rfl) (Nat.le_of_ble_eq_true rfl) (Nat.le_of_ble_eq_true rfl) (Nat.le_of_ble_eq_true rfl) (Nat.le_of_ble_eq_true rfl) (Nat.le_of_ble_eq_true rfl) (fun _ _ h => False.elim h) (fun v9 w14 h15 => ?_)
  obtain ⟨rfl, v16, rfl, rv16⟩ := h15
  refine rn_stk [.int v16] rfl ?_
  refine rn_istore dX5_placeFor_21 (by decide) [(0, .ref o0_), (1, .int x1_), (2, .ref o2_), (3, .int v4), (4, .int v8), (5, .int v12), (6, .int v16)] rfl ?_
  refine rn_iconst (v := (0 : Int32)) dX5_placeFor_23 (by decide) ?_
  refine rn_istore dX5_placeFor_24 (by decide) [(0, .ref o0_), (1, .int x1_), (2, .ref o2_), (3, .int v4), (4, .int v8), (5, .int v12), (6, .int v16), (7, .int (0 : Int32))] rfl ?_
  have LP19 : ∀ (n : Nat) (x18 : Int32), Rg (0) (24) x18 → (24 - x18.toInt).toNat = n → Rn G mX5_placeFor 3 62 0 0 26 [(0, .ref o0_), (1, .int x1_), (2, .ref o2_), (3, .int v4), (4, .int v8), (5, .int v12), (6, .int v16), (7, .int x18)] [] ws (q_t_X5_placeFor G S ws ) := by
    intro n
    induction n using Nat.strongRecOn with
    | _ n ih =>
      intro x18 r21 hm22
      refine rn_iload dX5_placeFor_26 rfl ?_
      refine rn_aload_n (i := 0) dX5_placeFor_28 rfl rfl ?_
      obtain ⟨q23, fs23, hq23, hl23, hf23⟩ := ts_obj hW m0_ hk_5
      obtain ⟨x24, hx24, rx24⟩ := fs_i hf23 1 rfl
      refine rn_get q23 kg_SG_Policies_22 hl23 hx24 dX5_placeFor_29 ?_
      refine rn_icmp_ge (tgt := 81) dX5_placeFor_32 (by decide) (fun h25 => ?_) (fun h25 => ?_)
      · have ch25 := cv_le h25
        refine rn_iconst (v := (-1 : Int32)) dX5_placeFor_81 (by decide) ?_
        exact rn_iret dX5_placeFor_82 rfl rfl (rq_in ⟨rfl, (-1 : Int32), rfl, (rg_w rk_m1 (by decide) (by decide))⟩)
      · have ch25 := cv_nle h25
        have r26 : Rg (0) (23) x18 := rf_ltx ch25 r21 rx24 (by decide)
        have r27 : Rg (1) (24) x24 := rf_lty ch25 r21 rx24 (by decide)
        refine rn_iload dX5_placeFor_35 rfl ?_
        refine rn_bipush (v := (24 : Int32)) dX5_placeFor_37 (by decide) ?_
        refine rn_icmp_ge (tgt := 81) dX5_placeFor_39 (by decide) (fun h28 => (cx_le (cv_le h28) rk_24 r26 (by decide)).elim) (fun h28 => ?_)
        have ch28 := cv_nle h28
        refine rn_aload_n (i := 0) dX5_placeFor_42 rfl rfl ?_
        obtain ⟨o29, hx29, m29⟩ := fs_r hf23 0 rfl
        refine rn_get q23 kg_SG_Policies_13 hl23 hx29 dX5_placeFor_43 ?_
        refine rn_iload dX5_placeFor_46 rfl ?_
        obtain ⟨q30, f30, hq30, hl30, hf30⟩ := ts_ra hW m29 hk_15
        refine rs_aald q30 hl30 hf30 rfl r26 (by decide) (by decide) dX5_placeFor_48 ?_ (fun o31 mo31 => ?_)
        · refine rn_astoreN dX5_placeFor_49 (by decide) [(0, .ref o0_), (1, .int x1_), (2, .ref o2_), (3, .int v4), (4, .int v8), (5, .int v12), (6, .int v16), (7, .int x18), (8, .null)] rfl ?_
          refine rn_aloadN dX5_placeFor_51 rfl ?_
          refine rn_ifnullN (tgt := 75) dX5_placeFor_53 (by decide) ?_
          refine rs_iinc (1) (24) dX5_placeFor_75 rfl (by decide) r26 rk_1 (by decide) (fun v32 => [(0, .ref o0_), (1, .int x1_), (2, .ref o2_), (3, .int v4), (4, .int v8), (5, .int v12), (6, .int v16), (7, .int v32), (8, .null)]) (fun _ => rfl) (fun v32 ev32 rv32 => ?_)
          refine rn_goto (tgt := 26) dX5_placeFor_78 (by decide) ?_
          refine rn_lv [(0, .ref o0_), (1, .int x1_), (2, .ref o2_), (3, .int v4), (4, .int v8), (5, .int v12), (6, .int v16), (7, .int v32)] rfl ?_
          exact ih _ (lp_inc hm22 ev32 rv32 (by decide)) v32 (rg_w rv32 (by decide) (by decide)) rfl
        · refine rn_astore dX5_placeFor_49 (by decide) [(0, .ref o0_), (1, .int x1_), (2, .ref o2_), (3, .int v4), (4, .int v8), (5, .int v12), (6, .int v16), (7, .int x18), (8, .ref o31)] rfl ?_
          refine rn_aload dX5_placeFor_51 rfl ?_
          refine rn_ifnull dX5_placeFor_53 ?_
          refine rn_aload dX5_placeFor_56 rfl ?_
          refine rn_iload_n (i := 1) dX5_placeFor_58 rfl rfl ?_
          refine rn_iload_n (i := 3) dX5_placeFor_59 rfl rfl ?_
          refine rn_iload dX5_placeFor_60 rfl ?_
          refine rn_iload dX5_placeFor_62 rfl ?_
          refine rn_iload dX5_placeFor_64 rfl ?_
          obtain ⟨q33, fs33, hq33, hl33, hf33⟩ := ts_obj hW mo31 hk_6
          refine rn_callV (a := 0) (b := 0) [.int x1_, .int v4, .int v8, .int v12, .int v16] kl_SG_Policies_53 dX5_placeFor_66 q33 hl33 rfl (t_X6_means G S ws hW o31 mo31 x1_ v4 v8 v12 v16) rfl rfl (Nat.le_of_ble_eq_true rfl) (Nat.le_of_ble_eq_true rfl) (Nat.le_of_ble_eq_true rfl) (Nat.le_of_ble_eq_true rfl) (Nat.le_of_ble_eq_true rfl) (Nat.le_of_ble_eq_true rfl) (fun _ _ h => False.elim h) (fun v9 w34 h35 => ?_)
          obtain ⟨rfl, v36, rfl, rv36⟩ := h35
          refine rn_stk [.int v36] rfl ?_
          refine rn_if_eq (tgt := 75) dX5_placeFor_69 (by decide) (fun h38 => ?_) (fun h38 => ?_)
          · have ch38 := cv_eq h38
            have r39 : Rg (0) (0) v36 := rf_eqx ch38 rv36 rk_0 (by decide) (by decide)
            refine rs_iinc (1) (24) dX5_placeFor_75 rfl (by decide) r26 rk_1 (by decide) (fun v40 => [(0, .ref o0_), (1, .int x1_), (2, .ref o2_), (3, .int v4), (4, .int v8), (5, .int v12), (6, .int v16), (7, .int v40), (8, .ref o31)]) (fun _ => rfl) (fun v40 ev40 rv40 => ?_)
            refine rn_goto (tgt := 26) dX5_placeFor_78 (by decide) ?_
            refine rn_lv [(0, .ref o0_), (1, .int x1_), (2, .ref o2_), (3, .int v4), (4, .int v8), (5, .int v12), (6, .int v16), (7, .int v40)] rfl ?_
            exact ih _ (lp_inc hm22 ev40 rv40 (by decide)) v40 (rg_w rv40 (by decide) (by decide)) rfl
          · have ch38 := cv_ne h38
            have r41 : Rg (1) (1) v36 := rf_nel ch38 rv36 rk_0 (by decide) (by decide)
            refine rn_iload dX5_placeFor_72 rfl ?_
            exact rn_iret dX5_placeFor_74 rfl rfl (rq_in ⟨rfl, x18, rfl, (rg_w r26 (by decide) (by decide))⟩)
  exact LP19 _ (0 : Int32) (rg_w rk_0 (by decide) (by decide)) rfl
abbrev q_t_X6_done (G : rn_G) (S : ts_S) (ws : va_W) : rn_R → va_W → Prop := rQ (fun v w => ws = w ∧ (∃ x : Int32, v = some (.int x) ∧ Rg (-2147483648) (2147483647) x)) (fun E w => False)
set_option maxRecDepth 20000 in
set_option maxHeartbeats 4000000 in
theorem t_X6_done (G : rn_G) (S : ts_S) (ws : va_W) (hW : ts_W G S ws) (o0_ : Nat) (m0_ : (o0_, 6) ∈ S) : Rn G mX6_done 0 0 0 0 0 (lv_args 0 [.ref o0_]) [] ws (q_t_X6_done G S ws ) := by
  refine rn_lv [(0, .ref o0_)] rfl ?_
  refine rn_aload_n (i := 0) dX6_done_0 rfl rfl ?_
  obtain ⟨q1, fs1, hq1, hl1, hf1⟩ := ts_obj hW m0_ hk_6
  obtain ⟨x2, hx2, rx2⟩ := fs_i hf1 3 rfl
  refine rn_get q1 kg_SG_Policy_22 hl1 hx2 dX6_done_1 ?_
  exact rn_iret dX6_done_4 rfl rfl (rq_in ⟨rfl, x2, rfl, rx2⟩)
abbrev q_t_X5_doneWith (G : rn_G) (S : ts_S) (ws : va_W) : rn_R → va_W → Prop := rQ (fun v w => ws = w ∧ (∃ x : Int32, v = some (.int x) ∧ Rg (-2147483648) (2147483647) x)) (fun E w => False)
set_option maxRecDepth 20000 in
set_option maxHeartbeats 4000000 in
theorem t_X5_doneWith (G : rn_G) (S : ts_S) (ws : va_W) (hW : ts_W G S ws) (o0_ : Nat) (m0_ : (o0_, 5) ∈ S) (x1_ : Int32) (o2_ : Nat) (m2_ : (o2_, 4) ∈ S) : Rn G mX5_doneWith 4 90 0 0 0 (lv_args 0 [.ref o0_, .int x1_, .ref o2_]) [] ws (q_t_X5_doneWith G S ws ) := by
  refine rn_lv [(0, .ref o0_), (1, .int x1_), (2, .ref o2_)] rfl ?_
  refine rn_aload_n (i := 0) dX5_doneWith_0 rfl rfl ?_
  refine rn_iload_n (i := 1) dX5_doneWith_1 rfl rfl ?_
  refine rn_aload_n (i := 2) dX5_doneWith_2 rfl rfl ?_
  obtain ⟨q1, fs1, hq1, hl1, hf1⟩ := ts_obj hW m0_ hk_5
  refine rn_callV (a := 0) (b := 0) [.int x1_, .ref o2_] kl_SG_Policies_57 dX5_doneWith_3 q1 hl1 rfl (t_X5_placeFor G S ws hW o0_ m0_ x1_ o2_ m2_) rfl rfl (Nat.le_of_ble_eq_true rfl) (Nat.le_of_ble_eq_true rfl) (Nat.le_of_ble_eq_true rfl) (Nat.le_of_ble_eq_true rfl) (Nat.le_of_ble_eq_true rfl) (Nat.le_of_ble_eq_true rfl) (fun _ _ h => False.elim h) (fun v9 w2 h3 => ?_)
  obtain ⟨rfl, v4, rfl, rv4⟩ := h3
  refine rn_stk [.int v4] rfl ?_
  refine rn_istore_n dX5_doneWith_6 rfl (by decide) [(0, .ref o0_), (1, .int x1_), (2, .ref o2_), (3, .int v4)] rfl ?_
  refine rn_iload_n (i := 3) dX5_doneWith_7 rfl rfl ?_
  refine rn_if_lt (tgt := 26) dX5_doneWith_8 (by decide) (fun h6 => ?_) (fun h6 => ?_)
  · have ch6 := cv_lt h6
    have r7 : Rg (-1) (-1) v4 := rf_ltx ch6 rv4 rk_0 (by decide)
    refine rn_null dX5_doneWith_26 ?_
    refine rn_astoreN dX5_doneWith_27 (by decide) [(0, .ref o0_), (1, .int x1_), (2, .ref o2_), (3, .int v4), (4, .null)] rfl ?_
    refine rn_aloadN dX5_doneWith_29 rfl ?_
    refine rn_ifnonnullN dX5_doneWith_31 ?_
    refine rn_bipush (v := (-2 : Int32)) dX5_doneWith_34 (by decide) ?_
    refine rn_goto (tgt := 44) dX5_doneWith_36 (by decide) ?_
    exact rn_iret dX5_doneWith_44 rfl rfl (rq_in ⟨rfl, (-2 : Int32), rfl, (rg_w rk_m2 (by decide) (by decide))⟩)
  · have ch6 := cv_nlt h6
    have r8 : Rg (0) (23) v4 := rf_ley ch6 rk_0 rv4 (by decide)
    refine rn_iload_n (i := 3) dX5_doneWith_11 rfl rfl ?_
    refine rn_bipush (v := (24 : Int32)) dX5_doneWith_12 (by decide) ?_
    refine rn_icmp_ge (tgt := 26) dX5_doneWith_14 (by decide) (fun h9 => (cx_le (cv_le h9) rk_24 r8 (by decide)).elim) (fun h9 => ?_)
    have ch9 := cv_nle h9
    refine rn_aload_n (i := 0) dX5_doneWith_17 rfl rfl ?_
    obtain ⟨o10, hx10, m10⟩ := fs_r hf1 0 rfl
    refine rn_get q1 kg_SG_Policies_13 hl1 hx10 dX5_doneWith_18 ?_
    refine rn_iload_n (i := 3) dX5_doneWith_21 rfl rfl ?_
    obtain ⟨q11, f11, hq11, hl11, hf11⟩ := ts_ra hW m10 hk_15
    refine rs_aald q11 hl11 hf11 rfl r8 (by decide) (by decide) dX5_doneWith_22 ?_ (fun o12 mo12 => ?_)
    · refine rn_goto (tgt := 27) dX5_doneWith_23 (by decide) ?_
      refine rn_astoreN dX5_doneWith_27 (by decide) [(0, .ref o0_), (1, .int x1_), (2, .ref o2_), (3, .int v4), (4, .null)] rfl ?_
      refine rn_aloadN dX5_doneWith_29 rfl ?_
      refine rn_ifnonnullN dX5_doneWith_31 ?_
      refine rn_bipush (v := (-2 : Int32)) dX5_doneWith_34 (by decide) ?_
      refine rn_goto (tgt := 44) dX5_doneWith_36 (by decide) ?_
      exact rn_iret dX5_doneWith_44 rfl rfl (rq_in ⟨rfl, (-2 : Int32), rfl, (rg_w rk_m2 (by decide) (by decide))⟩)
    · refine rn_goto (tgt := 27) dX5_doneWith_23 (by decide) ?_
      refine rn_astore dX5_doneWith_27 (by decide) [(0, .ref o0_), (1, .int x1_), (2, .ref o2_), (3, .int v4), (4, .ref o12)] rfl ?_
      refine rn_aload dX5_doneWith_29 rfl ?_
      refine rn_ifnonnull (tgt := 39) dX5_doneWith_31 (by decide) ?_
      refine rn_aload dX5_doneWith_39 rfl ?_
      obtain ⟨q13, fs13, hq13, hl13, hf13⟩ := ts_obj hW mo12 hk_6
      refine rn_callV (a := 0) (b := 0) [] kl_SG_Policies_61 dX5_doneWith_41 q13 hl13 rfl (t_X6_done G S ws hW o12 mo12) rfl rfl (Nat.le_of_ble_eq_true rfl) (Nat.le_of_ble_eq_true rfl) (Nat.le_of_ble_eq_true rfl) (Nat.le_of_ble_eq_true rfl) (Nat.le_of_ble_eq_true rfl) (Nat.le_of_ble_eq_true rfl) (fun _ _ h => False.elim h) (fun v9 w14 h15 => ?_)
      obtain ⟨rfl, v16, rfl, rv16⟩ := h15
      refine rn_stk [.int v16] rfl ?_
      exact rn_iret dX5_doneWith_44 rfl rfl (rq_in ⟨rfl, v16, rfl, rv16⟩)
abbrev q_t_X7_isFull (G : rn_G) (S : ts_S) (ws : va_W) : rn_R → va_W → Prop := rQ (fun v w => ws = w ∧ (∃ x : Int32, v = some (.int x) ∧ Rg (0) (1) x)) (fun E w => False)
set_option maxRecDepth 20000 in
set_option maxHeartbeats 4000000 in
theorem t_X7_isFull (G : rn_G) (S : ts_S) (ws : va_W) (hW : ts_W G S ws) (o0_ : Nat) (m0_ : (o0_, 7) ∈ S) : Rn G mX7_isFull 0 0 0 0 0 (lv_args 0 [.ref o0_]) [] ws (q_t_X7_isFull G S ws ) := by
  refine rn_lv [(0, .ref o0_)] rfl ?_
  refine rn_aload_n (i := 0) dX7_isFull_0 rfl rfl ?_
  obtain ⟨q1, fs1, hq1, hl1, hf1⟩ := ts_obj hW m0_ hk_7
  obtain ⟨x2, hx2, rx2⟩ := fs_i hf1 2 rfl
  refine rn_get q1 kg_SG_Routes_21 hl1 hx2 dX7_isFull_1 ?_
  refine rn_bipush (v := (16 : Int32)) dX7_isFull_4 (by decide) ?_
  refine rn_icmp_lt (tgt := 13) dX7_isFull_6 (by decide) (fun h3 => ?_) (fun h3 => ?_)
  · have ch3 := cv_lt h3
    have r4 : Rg (0) (15) x2 := rf_ltx ch3 rx2 rk_16 (by decide)
    refine rn_iconst (v := (0 : Int32)) dX7_isFull_13 (by decide) ?_
    exact rn_iret dX7_isFull_14 rfl rfl (rq_in ⟨rfl, (0 : Int32), rfl, (rg_w rk_0 (by decide) (by decide))⟩)
  · have ch3 := cv_nlt h3
    have r5 : Rg (16) (16) x2 := rf_ley ch3 rk_16 rx2 (by decide)
    refine rn_iconst (v := (1 : Int32)) dX7_isFull_9 (by decide) ?_
    refine rn_goto (tgt := 14) dX7_isFull_10 (by decide) ?_
    exact rn_iret dX7_isFull_14 rfl rfl (rq_in ⟨rfl, (1 : Int32), rfl, (rg_w rk_1 (by decide) (by decide))⟩)
abbrev q_t_X7_append (G : rn_G) (S : ts_S) (ws : va_W) : rn_R → va_W → Prop := rQ (fun v w => St G S [7, 16, 17] ws S w ∧ (∃ x : Int32, v = some (.int x) ∧ Rg (1) (16) x)) (fun E w => False)
set_option maxRecDepth 20000 in
set_option maxHeartbeats 4000000 in
theorem t_X7_append (G : rn_G) (S : ts_S) (ws : va_W) (hW : ts_W G S ws) (o0_ : Nat) (m0_ : (o0_, 7) ∈ S) (o1_ : Nat) (m1_ : (o1_, 3) ∈ S) (x2_ : Int32) : Rn G mX7_append 0 0 0 0 0 (lv_args 0 [.ref o0_, .ref o1_, .int x2_]) [] ws (q_t_X7_append G S ws ) := by
  have hS0 : St G S [7, 16, 17] ws S ws := St.rf hW
  refine rn_lv [(0, .ref o0_), (1, .ref o1_), (2, .int x2_)] rfl ?_
  refine rn_aload_n (i := 0) dX7_append_0 rfl rfl ?_
  obtain ⟨q1, fs1, hq1, hl1, hf1⟩ := ts_obj hS0.1 m0_ hk_7
  obtain ⟨x2, hx2, rx2⟩ := fs_i hf1 2 rfl
  refine rn_get q1 kg_SG_Routes_21 hl1 hx2 dX7_append_1 ?_
  refine rn_if_lt (tgt := 46) dX7_append_4 (by decide) (fun h3 => (cx_lt (cv_lt h3) rx2 rk_0 (by decide)).elim) (fun h3 => ?_)
  have ch3 := cv_nlt h3
  refine rn_aload_n (i := 0) dX7_append_7 rfl rfl ?_
  refine rn_get q1 kg_SG_Routes_21 hl1 hx2 dX7_append_8 ?_
  refine rn_bipush (v := (16 : Int32)) dX7_append_11 (by decide) ?_
  refine rn_icmp_ge (tgt := 46) dX7_append_13 (by decide) (fun h4 => ?_) (fun h4 => ?_)
  · have ch4 := cv_le h4
    have r5 : Rg (16) (16) x2 := rf_ley ch4 rk_16 rx2 (by decide)
    refine rn_aload_n (i := 0) dX7_append_46 rfl rfl ?_
    refine rn_get q1 kg_SG_Routes_21 hl1 hx2 dX7_append_47 ?_
    exact rn_iret dX7_append_50 rfl rfl (rq_in ⟨hS0, x2, rfl, (rg_w r5 (by decide) (by decide))⟩)
  · have ch4 := cv_nle h4
    have r6 : Rg (0) (15) x2 := rf_ltx ch4 rx2 rk_16 (by decide)
    refine rn_aload_n (i := 0) dX7_append_16 rfl rfl ?_
    obtain ⟨o7, hx7, m7⟩ := fs_r hf1 0 rfl
    refine rn_get q1 kg_SG_Routes_13 hl1 hx7 dX7_append_17 ?_
    refine rn_aload_n (i := 0) dX7_append_20 rfl rfl ?_
    refine rn_get q1 kg_SG_Routes_21 hl1 hx2 dX7_append_21 ?_
    refine rn_aload_n (i := 1) dX7_append_24 rfl rfl ?_
    obtain ⟨q8, f8, hq8, hl8, hf8⟩ := ts_ra hS0.1 m7 hk_16
    obtain ⟨q11, fs11, hq11, hl11, hf11⟩ := ts_obj hS0.1 m1_ hk_3
    refine rs_aast q8 hS0 hq8 hl8 hf8 hk_16 rfl rfl m1_ hl11 rfl r6 (by decide) (by decide) dX7_append_25 (fun w9 f10 hS10 hl10 hf10 hu10 hn10 => ?_)
    refine rn_aload_n (i := 0) dX7_append_26 rfl rfl ?_
    obtain ⟨o12, hx12, m12⟩ := fs_r hf1 1 rfl
    refine rn_get q1 kg_SG_Routes_17 ((hn10 _ (ts_ne hq8 hq1 rfl)).trans hl1) hx12 dX7_append_27 ?_
    refine rn_aload_n (i := 0) dX7_append_30 rfl rfl ?_
    refine rn_get q1 kg_SG_Routes_21 ((hn10 _ (ts_ne hq8 hq1 rfl)).trans hl1) hx2 dX7_append_31 ?_
    refine rn_iload_n (i := 2) dX7_append_34 rfl rfl ?_
    obtain ⟨q13, f13, hq13, hl13, hf13⟩ := ts_ia hS10.1 m12 hk_17
    refine rs_iast q13 hS10 hq13 hl13 hf13 hk_17 rfl rfl r6 (by decide) (by decide) (rg_any x2_) dX7_append_35 (fun w14 f15 hS15 hl15 hf15 hu15 hn15 => ?_)
    refine rn_aload_n (i := 0) dX7_append_36 rfl rfl ?_
    refine rn_dup dX7_append_37 rfl ?_
    refine rn_get q1 kg_SG_Routes_21 ((hn15 _ (ts_ne hq13 hq1 rfl)).trans ((hn10 _ (ts_ne hq8 hq1 rfl)).trans hl1)) hx2 dX7_append_38 ?_
    refine rn_iconst (v := (1 : Int32)) dX7_append_41 (by decide) ?_
    refine rs_addC (1) (16) r6 rk_1 dX7_append_42 (by decide) (fun v16 ev16 rv16 => ?_)
    refine rs_put q1 (kp_SG_Routes_21 _) hS15 hq1 ((hn15 _ (ts_ne hq13 hq1 rfl)).trans ((hn10 _ (ts_ne hq8 hq1 rfl)).trans hl1)) hf1 hk_7 rfl rfl (tv_i (rg_w rv16 (by decide) (by decide))) rfl rfl dX7_append_43 (fun w17 fs18 hS18 hl18 hf18 hx18 ho18 hn18 => ?_)
    refine rn_aload_n (i := 0) dX7_append_46 rfl rfl ?_
    refine rn_get q1 kg_SG_Routes_21 hl18 hx18 dX7_append_47 ?_
    exact rn_iret dX7_append_50 rfl rfl (rq_in ⟨hS18, v16, rfl, rv16⟩)
abbrev q_t_X7_empty (G : rn_G) (S : ts_S) (ws : va_W) : rn_R → va_W → Prop := rQ (fun v w => St G S [7] ws S w ∧ (v = none)) (fun E w => False)
set_option maxRecDepth 20000 in
set_option maxHeartbeats 4000000 in
theorem t_X7_empty (G : rn_G) (S : ts_S) (ws : va_W) (hW : ts_W G S ws) (o0_ : Nat) (m0_ : (o0_, 7) ∈ S) : Rn G mX7_empty 0 0 0 0 0 (lv_args 0 [.ref o0_]) [] ws (q_t_X7_empty G S ws ) := by
  have hS0 : St G S [7] ws S ws := St.rf hW
  refine rn_lv [(0, .ref o0_)] rfl ?_
  refine rn_aload_n (i := 0) dX7_empty_0 rfl rfl ?_
  refine rn_iconst (v := (0 : Int32)) dX7_empty_1 (by decide) ?_
  obtain ⟨q1, fs1, hq1, hl1, hf1⟩ := ts_obj hS0.1 m0_ hk_7
  refine rs_put q1 (kp_SG_Routes_21 _) hS0 hq1 hl1 hf1 hk_7 rfl rfl (tv_i (rg_w rk_0 (by decide) (by decide))) rfl rfl dX7_empty_2 (fun w2 fs3 hS3 hl3 hf3 hx3 ho3 hn3 => ?_)
  exact rn_vret dX7_empty_5 rfl (rq_in ⟨hS3, rfl⟩)
abbrev q_t_X7_portOf (G : rn_G) (S : ts_S) (ws : va_W) (x1_ : Int32) : rn_R → va_W → Prop := rQ (fun v w => ws = w ∧ (∃ x : Int32, v = some (.int x) ∧ Rg (-2147483648) (2147483647) x ∧ (∀ (n : Nat) (net w9 p : Nat → Int32), Tb S ws n net w9 p → ∃ x0 : Int32, rtR x1_ net w9 p n x0 x))) (fun E w => False)
set_option maxRecDepth 20000 in
set_option maxHeartbeats 4000000 in
theorem t_X7_portOf (G : rn_G) (S : ts_S) (ws : va_W) (hW : ts_W G S ws) (o0_ : Nat) (m0_ : (o0_, 7) ∈ S) (x1_ : Int32) : Rn G mX7_portOf 1 21 0 0 0 (lv_args 0 [.ref o0_, .int x1_]) [] ws (q_t_X7_portOf G S ws x1_) := by
  obtain ⟨q1, fs1, hq1, hl1, hf1⟩ := ts_obj hW m0_ hk_7
  obtain ⟨x2, hx2, rx2⟩ := fs_i hf1 2 rfl
  refine rn_D (fun hD => ?_)
  refine rn_lv [(0, .ref o0_), (1, .int x1_)] rfl ?_
  refine rn_iconst (v := (-1 : Int32)) dX7_portOf_0 (by decide) ?_
  refine rn_istore_n dX7_portOf_1 rfl (by decide) [(0, .ref o0_), (1, .int x1_), (2, .int (-1 : Int32))] rfl ?_
  refine rn_iconst (v := (-1 : Int32)) dX7_portOf_2 (by decide) ?_
  refine rn_istore_n dX7_portOf_3 rfl (by decide) [(0, .ref o0_), (1, .int x1_), (2, .int (-1 : Int32)), (3, .int (-1 : Int32))] rfl ?_
  refine rn_iconst (v := (0 : Int32)) dX7_portOf_4 (by decide) ?_
  refine rn_istore dX7_portOf_5 (by decide) [(0, .ref o0_), (1, .int x1_), (2, .int (-1 : Int32)), (3, .int (-1 : Int32)), (4, .int (0 : Int32))] rfl ?_
  have LP6 : ∀ (n : Nat) (x3 : Int32) (x4 : Int32) (x5 : Int32), Rg (-1) (2147483647) x3 → Rg (-2147483648) (2147483647) x4 → Rg (0) (16) x5 → (∀ (n : Nat) (net w9 p : Nat → Int32), Tb S ws n net w9 p → x5.toInt ≤ n ∧ rtR x1_ net w9 p x5.toInt.toNat x3 x4) → (16 - x5.toInt).toNat = n → Rn G mX7_portOf 1 21 0 0 7 [(0, .ref o0_), (1, .int x1_), (2, .int x3), (3, .int x4), (4, .int x5)] [] ws (q_t_X7_portOf G S ws x1_) := by
    intro n
    induction n using Nat.strongRecOn with
    | _ n ih =>
      intro x3 x4 x5 r8 r9 r10 LI hm11
      refine rn_iload dX7_portOf_7 rfl ?_
      refine rn_aload_n (i := 0) dX7_portOf_9 rfl rfl ?_
      refine rn_get q1 kg_SG_Routes_21 hl1 hx2 dX7_portOf_10 ?_
      refine rn_icmp_ge (tgt := 75) dX7_portOf_13 (by decide) (fun h12 => ?_) (fun h12 => ?_)
      · have ch12 := cv_le h12
        refine rn_iload_n (i := 3) dX7_portOf_75 rfl rfl ?_
        exact rn_iret dX7_portOf_76 rfl rfl (rq_in ⟨rfl, x4, rfl, r9, (fun n net w9 p hT => by have h1 := (LI n net w9 p hT).2; have h2 := (LI n net w9 p hT).1; have h3 := pt_n hW hT ⟨q1, o0_, fs1, hq1, hl1, hx2⟩; rw [show x5.toInt.toNat = n by omega] at h1; exact ⟨_, h1⟩)⟩)
      · have ch12 := cv_nle h12
        have r13 : Rg (0) (15) x5 := rf_ltx ch12 r10 rx2 (by decide)
        have r14 : Rg (1) (16) x2 := rf_lty ch12 r10 rx2 (by decide)
        refine rn_iload dX7_portOf_16 rfl ?_
        refine rn_bipush (v := (16 : Int32)) dX7_portOf_18 (by decide) ?_
        refine rn_icmp_ge (tgt := 75) dX7_portOf_20 (by decide) (fun h15 => (cx_le (cv_le h15) rk_16 r13 (by decide)).elim) (fun h15 => ?_)
        have ch15 := cv_nle h15
        refine rn_aload_n (i := 0) dX7_portOf_23 rfl rfl ?_
        obtain ⟨o16, hx16, m16⟩ := fs_r hf1 0 rfl
        refine rn_get q1 kg_SG_Routes_13 hl1 hx16 dX7_portOf_24 ?_
        refine rn_iload dX7_portOf_27 rfl ?_
        obtain ⟨q17, f17, hq17, hl17, hf17⟩ := ts_ra hW m16 hk_16
        refine rs_aaldE q17 hl17 hf17 rfl r13 (by decide) (by decide) dX7_portOf_29 (fun heo18 => ?_) (fun o18 heo18 mo18 => ?_)
        · refine rn_astoreN dX7_portOf_30 (by decide) [(0, .ref o0_), (1, .int x1_), (2, .int x3), (3, .int x4), (4, .int x5), (5, .null)] rfl ?_
          refine rn_aloadN dX7_portOf_32 rfl ?_
          refine rn_ifnullN (tgt := 69) dX7_portOf_34 (by decide) ?_
          refine rs_iinc (1) (16) dX7_portOf_69 rfl (by decide) r13 rk_1 (by decide) (fun v19 => [(0, .ref o0_), (1, .int x1_), (2, .int x3), (3, .int x4), (4, .int v19), (5, .null)]) (fun _ => rfl) (fun v19 ev19 rv19 => ?_)
          refine rn_goto (tgt := 7) dX7_portOf_72 (by decide) ?_
          refine rn_lv [(0, .ref o0_), (1, .int x1_), (2, .int x3), (3, .int x4), (4, .int v19)] rfl ?_
          exact ih _ (lp_inc hm11 ev19 rv19 (by decide)) x3 x4 v19 r8 r9 (rg_w rv19 (by decide) (by decide)) (fun n net w9 p hT => by obtain ⟨g1, g2⟩ := LI n net w9 p hT; obtain ⟨a1, a2, a3, a4⟩ := pt_key hW hD hT ⟨q1, o0_, fs1, hq1, hl1, hx2⟩ ⟨q17, o16, _, _, hq17, hl17⟩ (r13.1) (show x5.toInt < x2.toInt by omega); exact absurd heo18 a2) rfl
        · obtain ⟨q20, fs20, hq20, hl20, hf20⟩ := ts_obj hW mo18 hk_3
          obtain ⟨x21, hx21, rx21⟩ := fs_i hf20 0 rfl
          obtain ⟨x22, hx22, rx22⟩ := fs_i hf20 1 rfl
          refine rn_astore dX7_portOf_30 (by decide) [(0, .ref o0_), (1, .int x1_), (2, .int x3), (3, .int x4), (4, .int x5), (5, .ref o18)] rfl ?_
          refine rn_aload dX7_portOf_32 rfl ?_
          refine rn_ifnull dX7_portOf_34 ?_
          refine rn_aload dX7_portOf_37 rfl ?_
          refine rn_inV (d' := 0) (z' := 0) [] kl_SG_Routes_25 dX7_portOf_39 q20 hl20 rfl rfl rfl (Nat.le_of_ble_eq_true rfl) (Nat.le_of_ble_eq_true rfl) (Nat.le_of_ble_eq_true rfl) (Nat.le_of_ble_eq_true rfl) ?_
          refine rn_lv [(0, .ref o18)] rfl ?_
          refine rn_aload_n (i := 0) dX3_width_0 rfl rfl ?_
          refine rn_get q20 kg_SG_Net_13 hl20 hx22 dX3_width_1 ?_
          refine rn_iret dX3_width_4 rfl rfl (rq_in ?_)
          refine rn_stk [.int x22] rfl ?_
          refine rn_iload_n (i := 2) dX7_portOf_42 rfl rfl ?_
          refine rn_icmp_lt (tgt := 69) dX7_portOf_43 (by decide) (fun h23 => ?_) (fun h23 => ?_)
          · have ch23 := cv_lt h23
            have r24 : Rg (-2147483648) (2147483646) x22 := rf_ltx ch23 rx22 r8 (by decide)
            refine rs_iinc (1) (16) dX7_portOf_69 rfl (by decide) r13 rk_1 (by decide) (fun v25 => [(0, .ref o0_), (1, .int x1_), (2, .int x3), (3, .int x4), (4, .int v25), (5, .ref o18)]) (fun _ => rfl) (fun v25 ev25 rv25 => ?_)
            refine rn_goto (tgt := 7) dX7_portOf_72 (by decide) ?_
            refine rn_lv [(0, .ref o0_), (1, .int x1_), (2, .int x3), (3, .int x4), (4, .int v25)] rfl ?_
            exact ih _ (lp_inc hm11 ev25 rv25 (by decide)) x3 x4 v25 r8 r9 (rg_w rv25 (by decide) (by decide)) (fun n net w9 p hT => by obtain ⟨g1, g2⟩ := LI n net w9 p hT; obtain ⟨a1, a2, a3, a4⟩ := pt_key hW hD hT ⟨q1, o0_, fs1, hq1, hl1, hx2⟩ ⟨q17, o16, _, _, hq17, hl17⟩ (r13.1) (show x5.toInt < x2.toInt by omega); obtain ⟨b1, b2⟩ := a4 _ _ _ _ _ heo18 hl20 hx21 hx22; refine ⟨by omega, ?_⟩; rw [show v25.toInt.toNat = x5.toInt.toNat + 1 by have := r13.1; omega]; refine rt_succ ⟨x3, x4, g2, ?_⟩; rw [b1, b2]; exact Or.inr ⟨by first | exact Or.inr (by omega) | exact Or.inl (fun h => by rcases nIn_c.mp h with h | h <;> contradiction), rfl, rfl⟩) rfl
          · have ch23 := cv_nlt h23
            have r26 : Rg (-1) (2147483647) x22 := rf_ley ch23 r8 rx22 (by decide)
            refine rn_aload dX7_portOf_46 rfl ?_
            refine rn_iload_n (i := 1) dX7_portOf_48 rfl rfl ?_
            refine rn_inV (d' := 0) (z' := 0) [.int x1_] kl_SG_Routes_29 dX7_portOf_49 q20 hl20 rfl rfl rfl (Nat.le_of_ble_eq_true rfl) (Nat.le_of_ble_eq_true rfl) (Nat.le_of_ble_eq_true rfl) (Nat.le_of_ble_eq_true rfl) ?_
            refine rn_lv [(0, .ref o18), (1, .int x1_)] rfl ?_
            refine rn_aload_n (i := 0) dX3_has_0 rfl rfl ?_
            refine rn_get q20 kg_SG_Net_13 hl20 hx22 dX3_has_1 ?_
            refine rn_if_eq (tgt := 24) dX3_has_4 (by decide) (fun h27 => ?_) (fun h27 => ?_)
            · have ch27 := cv_eq h27
              have r28 : Rg (0) (0) x22 := rf_eqx ch27 r26 rk_0 (by decide) (by decide)
              refine rn_iconst (v := (1 : Int32)) dX3_has_24 (by decide) ?_
              refine rn_goto (tgt := 29) dX3_has_25 (by decide) ?_
              refine rn_iret dX3_has_29 rfl rfl (rq_in ?_)
              refine rn_stk [.int (1 : Int32)] rfl ?_
              refine rn_if_eq (tgt := 69) dX7_portOf_52 (by decide) (fun h29 => (cx_eq (cv_eq h29) rk_1 rk_0 (by decide)).elim) (fun h29 => ?_)
              refine rn_aload dX7_portOf_55 rfl ?_
              refine rn_inV (d' := 0) (z' := 0) [] kl_SG_Routes_25 dX7_portOf_57 q20 hl20 rfl rfl rfl (Nat.le_of_ble_eq_true rfl) (Nat.le_of_ble_eq_true rfl) (Nat.le_of_ble_eq_true rfl) (Nat.le_of_ble_eq_true rfl) ?_
              refine rn_lv [(0, .ref o18)] rfl ?_
              refine rn_aload_n (i := 0) dX3_width_0 rfl rfl ?_
              refine rn_get q20 kg_SG_Net_13 hl20 hx22 dX3_width_1 ?_
              refine rn_iret dX3_width_4 rfl rfl (rq_in ?_)
              refine rn_stk [.int x22] rfl ?_
              refine rn_istore_n dX7_portOf_60 rfl (by decide) [(0, .ref o0_), (1, .int x1_), (2, .int x22), (3, .int x4), (4, .int x5), (5, .ref o18)] rfl ?_
              refine rn_aload_n (i := 0) dX7_portOf_61 rfl rfl ?_
              obtain ⟨o30, hx30, m30⟩ := fs_r hf1 1 rfl
              refine rn_get q1 kg_SG_Routes_17 hl1 hx30 dX7_portOf_62 ?_
              refine rn_iload dX7_portOf_65 rfl ?_
              obtain ⟨q31, f31, hq31, hl31, hf31⟩ := ts_ia hW m30 hk_17
              refine rs_iald q31 hl31 hf31 rfl r13 (by decide) (by decide) dX7_portOf_67 (fun v32 ev32 rv32 => ?_)
              refine rn_istore_n dX7_portOf_68 rfl (by decide) [(0, .ref o0_), (1, .int x1_), (2, .int x22), (3, .int v32), (4, .int x5), (5, .ref o18)] rfl ?_
              refine rs_iinc (1) (16) dX7_portOf_69 rfl (by decide) r13 rk_1 (by decide) (fun v33 => [(0, .ref o0_), (1, .int x1_), (2, .int x22), (3, .int v32), (4, .int v33), (5, .ref o18)]) (fun _ => rfl) (fun v33 ev33 rv33 => ?_)
              refine rn_goto (tgt := 7) dX7_portOf_72 (by decide) ?_
              refine rn_lv [(0, .ref o0_), (1, .int x1_), (2, .int x22), (3, .int v32), (4, .int v33)] rfl ?_
              exact ih _ (lp_inc hm11 ev33 rv33 (by decide)) x22 v32 v33 (rg_w r28 (by decide) (by decide)) rv32 (rg_w rv33 (by decide) (by decide)) (fun n net w9 p hT => by obtain ⟨g1, g2⟩ := LI n net w9 p hT; obtain ⟨a1, a2, a3, a4⟩ := pt_key hW hD hT ⟨q1, o0_, fs1, hq1, hl1, hx2⟩ ⟨q17, o16, _, _, hq17, hl17⟩ (r13.1) (show x5.toInt < x2.toInt by omega); obtain ⟨b1, b2⟩ := a4 _ _ _ _ _ heo18 hl20 hx21 hx22; refine ⟨by omega, ?_⟩; rw [show v33.toInt.toNat = x5.toInt.toNat + 1 by have := r13.1; omega]; refine rt_succ ⟨x3, x4, g2, ?_⟩; rw [b1, b2]; exact Or.inl ⟨nIn_c.mpr (by first | exact Or.inl (by assumption) | exact Or.inr (by assumption)), by omega, rfl, by rw [← a3 _ ⟨q31, o30, _, _, hq31, hl31⟩, ← ev32]⟩) rfl
            · have ch27 := cv_ne h27
              refine rn_aload_n (i := 0) dX3_has_7 rfl rfl ?_
              refine rn_get q20 kg_SG_Net_7 hl20 hx21 dX3_has_8 ?_
              refine rn_iload_n (i := 1) dX3_has_11 rfl rfl ?_
              refine rn_ixor dX3_has_12 ?_
              refine rn_bipush (v := (32 : Int32)) dX3_has_13 (by decide) ?_
              refine rn_aload_n (i := 0) dX3_has_15 rfl rfl ?_
              refine rn_get q20 kg_SG_Net_13 hl20 hx22 dX3_has_16 ?_
              refine rn_isub dX3_has_19 ?_
              refine rn_iushr dX3_has_20 rfl ?_
              refine rn_if_ne (tgt := 28) dX3_has_21 (by decide) (fun h34 => ?_) (fun h34 => ?_)
              · have ch34 := cv_ne h34
                refine rn_iconst (v := (0 : Int32)) dX3_has_28 (by decide) ?_
                refine rn_iret dX3_has_29 rfl rfl (rq_in ?_)
                refine rn_stk [.int (0 : Int32)] rfl ?_
                refine rn_if_eq (tgt := 69) dX7_portOf_52 (by decide) (fun h35 => ?_) (fun h35 => (cx_ne (cv_ne h35) rk_0 rk_0 (by decide)).elim)
                refine rs_iinc (1) (16) dX7_portOf_69 rfl (by decide) r13 rk_1 (by decide) (fun v36 => [(0, .ref o0_), (1, .int x1_), (2, .int x3), (3, .int x4), (4, .int v36), (5, .ref o18)]) (fun _ => rfl) (fun v36 ev36 rv36 => ?_)
                refine rn_goto (tgt := 7) dX7_portOf_72 (by decide) ?_
                refine rn_lv [(0, .ref o0_), (1, .int x1_), (2, .int x3), (3, .int x4), (4, .int v36)] rfl ?_
                exact ih _ (lp_inc hm11 ev36 rv36 (by decide)) x3 x4 v36 r8 r9 (rg_w rv36 (by decide) (by decide)) (fun n net w9 p hT => by obtain ⟨g1, g2⟩ := LI n net w9 p hT; obtain ⟨a1, a2, a3, a4⟩ := pt_key hW hD hT ⟨q1, o0_, fs1, hq1, hl1, hx2⟩ ⟨q17, o16, _, _, hq17, hl17⟩ (r13.1) (show x5.toInt < x2.toInt by omega); obtain ⟨b1, b2⟩ := a4 _ _ _ _ _ heo18 hl20 hx21 hx22; refine ⟨by omega, ?_⟩; rw [show v36.toInt.toNat = x5.toInt.toNat + 1 by have := r13.1; omega]; refine rt_succ ⟨x3, x4, g2, ?_⟩; rw [b1, b2]; exact Or.inr ⟨by first | exact Or.inr (by omega) | exact Or.inl (fun h => by rcases nIn_c.mp h with h | h <;> contradiction), rfl, rfl⟩) rfl
              · have ch34 := cv_eq h34
                have r37 : Rg (0) (0) (((x21 ^^^ x1_)).toUInt32 >>> ((((32 : Int32) - x22)).toUInt32 &&& Int32.toUInt32 31)).toInt32 := rf_eqx ch34 (rg_any (((x21 ^^^ x1_)).toUInt32 >>> ((((32 : Int32) - x22)).toUInt32 &&& Int32.toUInt32 31)).toInt32) rk_0 (by decide) (by decide)
                refine rn_iconst (v := (1 : Int32)) dX3_has_24 (by decide) ?_
                refine rn_goto (tgt := 29) dX3_has_25 (by decide) ?_
                refine rn_iret dX3_has_29 rfl rfl (rq_in ?_)
                refine rn_stk [.int (1 : Int32)] rfl ?_
                refine rn_if_eq (tgt := 69) dX7_portOf_52 (by decide) (fun h38 => (cx_eq (cv_eq h38) rk_1 rk_0 (by decide)).elim) (fun h38 => ?_)
                refine rn_aload dX7_portOf_55 rfl ?_
                refine rn_inV (d' := 0) (z' := 0) [] kl_SG_Routes_25 dX7_portOf_57 q20 hl20 rfl rfl rfl (Nat.le_of_ble_eq_true rfl) (Nat.le_of_ble_eq_true rfl) (Nat.le_of_ble_eq_true rfl) (Nat.le_of_ble_eq_true rfl) ?_
                refine rn_lv [(0, .ref o18)] rfl ?_
                refine rn_aload_n (i := 0) dX3_width_0 rfl rfl ?_
                refine rn_get q20 kg_SG_Net_13 hl20 hx22 dX3_width_1 ?_
                refine rn_iret dX3_width_4 rfl rfl (rq_in ?_)
                refine rn_stk [.int x22] rfl ?_
                refine rn_istore_n dX7_portOf_60 rfl (by decide) [(0, .ref o0_), (1, .int x1_), (2, .int x22), (3, .int x4), (4, .int x5), (5, .ref o18)] rfl ?_
                refine rn_aload_n (i := 0) dX7_portOf_61 rfl rfl ?_
                obtain ⟨o39, hx39, m39⟩ := fs_r hf1 1 rfl
                refine rn_get q1 kg_SG_Routes_17 hl1 hx39 dX7_portOf_62 ?_
                refine rn_iload dX7_portOf_65 rfl ?_
                obtain ⟨q40, f40, hq40, hl40, hf40⟩ := ts_ia hW m39 hk_17
                refine rs_iald q40 hl40 hf40 rfl r13 (by decide) (by decide) dX7_portOf_67 (fun v41 ev41 rv41 => ?_)
                refine rn_istore_n dX7_portOf_68 rfl (by decide) [(0, .ref o0_), (1, .int x1_), (2, .int x22), (3, .int v41), (4, .int x5), (5, .ref o18)] rfl ?_
                refine rs_iinc (1) (16) dX7_portOf_69 rfl (by decide) r13 rk_1 (by decide) (fun v42 => [(0, .ref o0_), (1, .int x1_), (2, .int x22), (3, .int v41), (4, .int v42), (5, .ref o18)]) (fun _ => rfl) (fun v42 ev42 rv42 => ?_)
                refine rn_goto (tgt := 7) dX7_portOf_72 (by decide) ?_
                refine rn_lv [(0, .ref o0_), (1, .int x1_), (2, .int x22), (3, .int v41), (4, .int v42)] rfl ?_
                exact ih _ (lp_inc hm11 ev42 rv42 (by decide)) x22 v41 v42 r26 rv41 (rg_w rv42 (by decide) (by decide)) (fun n net w9 p hT => by obtain ⟨g1, g2⟩ := LI n net w9 p hT; obtain ⟨a1, a2, a3, a4⟩ := pt_key hW hD hT ⟨q1, o0_, fs1, hq1, hl1, hx2⟩ ⟨q17, o16, _, _, hq17, hl17⟩ (r13.1) (show x5.toInt < x2.toInt by omega); obtain ⟨b1, b2⟩ := a4 _ _ _ _ _ heo18 hl20 hx21 hx22; refine ⟨by omega, ?_⟩; rw [show v42.toInt.toNat = x5.toInt.toNat + 1 by have := r13.1; omega]; refine rt_succ ⟨x3, x4, g2, ?_⟩; rw [b1, b2]; exact Or.inl ⟨nIn_c.mpr (by first | exact Or.inl (by assumption) | exact Or.inr (by assumption)), by omega, rfl, by rw [← a3 _ ⟨q40, o39, _, _, hq40, hl40⟩, ← ev41]⟩) rfl
  exact LP6 _ (-1 : Int32) (-1 : Int32) (0 : Int32) (rg_w rk_m1 (by decide) (by decide)) (rg_w rk_m1 (by decide) (by decide)) (rg_w rk_0 (by decide) (by decide)) (fun n net w9 p hT => ⟨by have := rk_0.2; omega, show rtR x1_ net w9 p 0 (-1) (-1) from rt_zero⟩) rfl
abbrev q_t_X8_way (G : rn_G) (S : ts_S) (ws : va_W) : rn_R → va_W → Prop := rQ (fun v w => ws = w ∧ (∃ x : Int32, v = some (.int x) ∧ Rg (-2147483648) (2147483647) x)) (fun E w => False)
set_option maxRecDepth 20000 in
set_option maxHeartbeats 4000000 in
theorem t_X8_way (G : rn_G) (S : ts_S) (ws : va_W) (hW : ts_W G S ws) (o0_ : Nat) (m0_ : (o0_, 8) ∈ S) : Rn G mX8_way 0 0 0 0 0 (lv_args 0 [.ref o0_]) [] ws (q_t_X8_way G S ws ) := by
  refine rn_lv [(0, .ref o0_)] rfl ?_
  refine rn_aload_n (i := 0) dX8_way_0 rfl rfl ?_
  obtain ⟨q1, fs1, hq1, hl1, hf1⟩ := ts_obj hW m0_ hk_8
  obtain ⟨x2, hx2, rx2⟩ := fs_i hf1 0 rfl
  refine rn_get q1 kg_SG_Seal_11 hl1 hx2 dX8_way_1 ?_
  exact rn_iret dX8_way_4 rfl rfl (rq_in ⟨rfl, x2, rfl, rx2⟩)
abbrev q_t_X8_tunnel (G : rn_G) (S : ts_S) (ws : va_W) : rn_R → va_W → Prop := rQ (fun v w => ws = w ∧ (∃ x : Int32, v = some (.int x) ∧ Rg (-2147483648) (2147483647) x)) (fun E w => False)
set_option maxRecDepth 20000 in
set_option maxHeartbeats 4000000 in
theorem t_X8_tunnel (G : rn_G) (S : ts_S) (ws : va_W) (hW : ts_W G S ws) (o0_ : Nat) (m0_ : (o0_, 8) ∈ S) : Rn G mX8_tunnel 0 0 0 0 0 (lv_args 0 [.ref o0_]) [] ws (q_t_X8_tunnel G S ws ) := by
  refine rn_lv [(0, .ref o0_)] rfl ?_
  refine rn_aload_n (i := 0) dX8_tunnel_0 rfl rfl ?_
  obtain ⟨q1, fs1, hq1, hl1, hf1⟩ := ts_obj hW m0_ hk_8
  obtain ⟨x2, hx2, rx2⟩ := fs_i hf1 1 rfl
  refine rn_get q1 kg_SG_Seal_15 hl1 hx2 dX8_tunnel_1 ?_
  exact rn_iret dX8_tunnel_4 rfl rfl (rq_in ⟨rfl, x2, rfl, rx2⟩)
abbrev q_t_X8_name (G : rn_G) (S : ts_S) (ws : va_W) : rn_R → va_W → Prop := rQ (fun v w => ws = w ∧ (∃ x : Int32, v = some (.int x) ∧ Rg (-2147483648) (2147483647) x)) (fun E w => False)
set_option maxRecDepth 20000 in
set_option maxHeartbeats 4000000 in
theorem t_X8_name (G : rn_G) (S : ts_S) (ws : va_W) (hW : ts_W G S ws) (o0_ : Nat) (m0_ : (o0_, 8) ∈ S) : Rn G mX8_name 0 0 0 0 0 (lv_args 0 [.ref o0_]) [] ws (q_t_X8_name G S ws ) := by
  refine rn_lv [(0, .ref o0_)] rfl ?_
  refine rn_aload_n (i := 0) dX8_name_0 rfl rfl ?_
  obtain ⟨q1, fs1, hq1, hl1, hf1⟩ := ts_obj hW m0_ hk_8
  obtain ⟨x2, hx2, rx2⟩ := fs_i hf1 2 rfl
  refine rn_get q1 kg_SG_Seal_18 hl1 hx2 dX8_name_1 ?_
  exact rn_iret dX8_name_4 rfl rfl (rq_in ⟨rfl, x2, rfl, rx2⟩)
abbrev q_t_X8_isLong (G : rn_G) (S : ts_S) (ws : va_W) : rn_R → va_W → Prop := rQ (fun v w => ws = w ∧ (∃ x : Int32, v = some (.int x) ∧ Rg (0) (1) x)) (fun E w => False)
set_option maxRecDepth 20000 in
set_option maxHeartbeats 4000000 in
theorem t_X8_isLong (G : rn_G) (S : ts_S) (ws : va_W) (hW : ts_W G S ws) (o0_ : Nat) (m0_ : (o0_, 8) ∈ S) : Rn G mX8_isLong 0 0 0 0 0 (lv_args 0 [.ref o0_]) [] ws (q_t_X8_isLong G S ws ) := by
  refine rn_lv [(0, .ref o0_)] rfl ?_
  refine rn_aload_n (i := 0) dX8_isLong_0 rfl rfl ?_
  obtain ⟨q1, fs1, hq1, hl1, hf1⟩ := ts_obj hW m0_ hk_8
  obtain ⟨x2, hx2, rx2⟩ := fs_i hf1 5 rfl
  refine rn_get q1 kg_SG_Seal_28 hl1 hx2 dX8_isLong_1 ?_
  exact rn_iret dX8_isLong_4 rfl (nb_n rx2) (rq_in ⟨rfl, x2, rfl, rx2⟩)
abbrev q_t_X8_life (G : rn_G) (S : ts_S) (ws : va_W) : rn_R → va_W → Prop := rQ (fun v w => ws = w ∧ (∃ x : Int32, v = some (.int x) ∧ Rg (-2147483648) (2147483647) x)) (fun E w => False)
set_option maxRecDepth 20000 in
set_option maxHeartbeats 4000000 in
theorem t_X8_life (G : rn_G) (S : ts_S) (ws : va_W) (hW : ts_W G S ws) (o0_ : Nat) (m0_ : (o0_, 8) ∈ S) : Rn G mX8_life 0 0 0 0 0 (lv_args 0 [.ref o0_]) [] ws (q_t_X8_life G S ws ) := by
  refine rn_lv [(0, .ref o0_)] rfl ?_
  refine rn_aload_n (i := 0) dX8_life_0 rfl rfl ?_
  obtain ⟨q1, fs1, hq1, hl1, hf1⟩ := ts_obj hW m0_ hk_8
  obtain ⟨x2, hx2, rx2⟩ := fs_i hf1 6 rfl
  refine rn_get q1 kg_SG_Seal_32 hl1 hx2 dX8_life_1 ?_
  exact rn_iret dX8_life_4 rfl rfl (rq_in ⟨rfl, x2, rfl, rx2⟩)
abbrev q_t_X8_counter (G : rn_G) (S : ts_S) (ws : va_W) : rn_R → va_W → Prop := rQ (fun v w => ws = w ∧ (∃ x : Int64, v = some (.long x))) (fun E w => False)
set_option maxRecDepth 20000 in
set_option maxHeartbeats 4000000 in
theorem t_X8_counter (G : rn_G) (S : ts_S) (ws : va_W) (hW : ts_W G S ws) (o0_ : Nat) (m0_ : (o0_, 8) ∈ S) : Rn G mX8_counter 0 0 0 0 0 (lv_args 0 [.ref o0_]) [] ws (q_t_X8_counter G S ws ) := by
  refine rn_lv [(0, .ref o0_)] rfl ?_
  refine rn_aload_n (i := 0) dX8_counter_0 rfl rfl ?_
  obtain ⟨q1, fs1, hq1, hl1, hf1⟩ := ts_obj hW m0_ hk_8
  obtain ⟨y2, hx2⟩ := fs_l hf1 8 rfl
  refine rn_get q1 kg_SG_Seal_35 hl1 hx2 dX8_counter_1 ?_
  exact rn_lret dX8_counter_4 rfl (rq_in ⟨rfl, y2, rfl⟩)
abbrev q_t_X8_seenBits (G : rn_G) (S : ts_S) (ws : va_W) : rn_R → va_W → Prop := rQ (fun v w => ws = w ∧ (∃ x : Int64, v = some (.long x))) (fun E w => False)
set_option maxRecDepth 20000 in
set_option maxHeartbeats 4000000 in
theorem t_X8_seenBits (G : rn_G) (S : ts_S) (ws : va_W) (hW : ts_W G S ws) (o0_ : Nat) (m0_ : (o0_, 8) ∈ S) : Rn G mX8_seenBits 0 0 0 0 0 (lv_args 0 [.ref o0_]) [] ws (q_t_X8_seenBits G S ws ) := by
  refine rn_lv [(0, .ref o0_)] rfl ?_
  refine rn_aload_n (i := 0) dX8_seenBits_0 rfl rfl ?_
  obtain ⟨q1, fs1, hq1, hl1, hf1⟩ := ts_obj hW m0_ hk_8
  obtain ⟨y2, hx2⟩ := fs_l hf1 9 rfl
  refine rn_get q1 kg_SG_Seal_38 hl1 hx2 dX8_seenBits_1 ?_
  exact rn_lret dX8_seenBits_4 rfl (rq_in ⟨rfl, y2, rfl⟩)
abbrev q_t_X8_isDead (G : rn_G) (S : ts_S) (ws : va_W) : rn_R → va_W → Prop := rQ (fun v w => ws = w ∧ (∃ x : Int32, v = some (.int x) ∧ Rg (0) (1) x)) (fun E w => False)
set_option maxRecDepth 20000 in
set_option maxHeartbeats 4000000 in
theorem t_X8_isDead (G : rn_G) (S : ts_S) (ws : va_W) (hW : ts_W G S ws) (o0_ : Nat) (m0_ : (o0_, 8) ∈ S) : Rn G mX8_isDead 0 0 0 0 0 (lv_args 0 [.ref o0_]) [] ws (q_t_X8_isDead G S ws ) := by
  refine rn_lv [(0, .ref o0_)] rfl ?_
  refine rn_aload_n (i := 0) dX8_isDead_0 rfl rfl ?_
  obtain ⟨q1, fs1, hq1, hl1, hf1⟩ := ts_obj hW m0_ hk_8
  obtain ⟨x2, hx2, rx2⟩ := fs_i hf1 7 rfl
  refine rn_get q1 kg_SG_Seal_41 hl1 hx2 dX8_isDead_1 ?_
  refine rn_if_ne (tgt := 14) dX8_isDead_4 (by decide) (fun h3 => ?_) (fun h3 => ?_)
  · have ch3 := cv_ne h3
    have r4 : Rg (1) (1) x2 := rf_nel ch3 rx2 rk_0 (by decide) (by decide)
    refine rn_iconst (v := (1 : Int32)) dX8_isDead_14 (by decide) ?_
    refine rn_goto (tgt := 19) dX8_isDead_15 (by decide) ?_
    exact rn_iret dX8_isDead_19 rfl rfl (rq_in ⟨rfl, (1 : Int32), rfl, (rg_w rk_1 (by decide) (by decide))⟩)
  · have ch3 := cv_eq h3
    have r5 : Rg (0) (0) x2 := rf_eqx ch3 rx2 rk_0 (by decide) (by decide)
    refine rn_aload_n (i := 0) dX8_isDead_7 rfl rfl ?_
    obtain ⟨x6, hx6, rx6⟩ := fs_i hf1 6 rfl
    refine rn_get q1 kg_SG_Seal_32 hl1 hx6 dX8_isDead_8 ?_
    refine rn_if_gt (tgt := 18) dX8_isDead_11 (by decide) (fun h7 => ?_) (fun h7 => ?_)
    · have ch7 := cv_lt h7
      have r8 : Rg (1) (2147483647) x6 := rf_lty ch7 rk_0 rx6 (by decide)
      refine rn_iconst (v := (0 : Int32)) dX8_isDead_18 (by decide) ?_
      exact rn_iret dX8_isDead_19 rfl rfl (rq_in ⟨rfl, (0 : Int32), rfl, (rg_w rk_0 (by decide) (by decide))⟩)
    · have ch7 := cv_nlt h7
      have r9 : Rg (-2147483648) (0) x6 := rf_lex ch7 rx6 rk_0 (by decide)
      refine rn_iconst (v := (1 : Int32)) dX8_isDead_14 (by decide) ?_
      refine rn_goto (tgt := 19) dX8_isDead_15 (by decide) ?_
      exact rn_iret dX8_isDead_19 rfl rfl (rq_in ⟨rfl, (1 : Int32), rfl, (rg_w rk_1 (by decide) (by decide))⟩)
