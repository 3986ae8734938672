abbrev q_t_X10_doorOf (G : rn_G) (S : ts_S) (ws : va_W) : rn_R → va_W → Prop := rQ (fun v w => ws = w ∧ (∃ x : Int32, v = some (.int x) ∧ Rg (-1) (65535) x)) (fun E w => False)
set_option maxRecDepth 20000 in
set_option maxHeartbeats 4000000 in
theorem t_X10_doorOf (G : rn_G) (S : ts_S) (ws : va_W) (hW : ts_W G S ws) (o0_ : Nat) (m0_ : (o0_, 30) ∈ S) (x1_ : Int32) (r1_ : Rg (0) (21970) x1_) : Rn G mX10_doorOf 3 63 0 0 0 (lv_args 0 [.ref o0_, .int x1_]) [] ws (q_t_X10_doorOf G S ws ) := by
  refine rn_lv [(0, .ref o0_), (1, .int x1_)] rfl ?_
  refine rn_aload_n (i := 0) dX10_doorOf_0 rfl rfl ?_
  obtain ⟨q1, fs1, hq1, hl1, hf1⟩ := ts_obj hW m0_ hk_30
  obtain ⟨o2, hx2, m2⟩ := fs_r hf1 2 rfl
  refine rn_get q1 kg_SGModel_7 hl1 hx2 dX10_doorOf_1 ?_
  refine rn_iload_n (i := 1) dX10_doorOf_4 rfl rfl ?_
  refine rn_bipush (v := (9 : Int32)) dX10_doorOf_5 (by decide) ?_
  refine rs_addC (9) (21979) r1_ rk_9 dX10_doorOf_7 (by decide) (fun v3 ev3 rv3 => ?_)
  obtain ⟨q4, f4, hq4, hl4, hf4⟩ := ts_ia hW m2 hk_33
  refine rs_iald q4 hl4 hf4 rfl rv3 (by decide) (by decide) dX10_doorOf_8 (fun v5 ev5 rv5 => ?_)
  refine rn_istore_n dX10_doorOf_9 rfl (by decide) [(0, .ref o0_), (1, .int x1_), (2, .int v5)] rfl ?_
  refine rn_iload_n (i := 2) dX10_doorOf_10 rfl rfl ?_
  refine rn_bipush (v := (6 : Int32)) dX10_doorOf_11 (by decide) ?_
  refine rn_icmp_eq (tgt := 22) dX10_doorOf_13 (by decide) (fun h6 => ?_) (fun h6 => ?_)
  · have ch6 := cv_eq h6
    have r7 : Rg (6) (6) v5 := rf_eqx ch6 rv5 rk_6 (by decide) (by decide)
    refine rn_aload_n (i := 0) dX10_doorOf_22 rfl rfl ?_
    refine rn_iload_n (i := 1) dX10_doorOf_23 rfl rfl ?_
    refine rn_callV (a := 0) (b := 0) [.int x1_] kl_SGModel_162 dX10_doorOf_24 q1 hl1 rfl (t_X10_isPart G S ws hW o0_ m0_ x1_ (rg_w r1_ (by decide) (by decide))) rfl rfl (Nat.le_of_ble_eq_true rfl) (Nat.le_of_ble_eq_true rfl) (Nat.le_of_ble_eq_true rfl) (Nat.le_of_ble_eq_true rfl) (Nat.le_of_ble_eq_true rfl) (Nat.le_of_ble_eq_true rfl) (fun _ _ h => False.elim h) (fun v9 w8 h9 => ?_)
    obtain ⟨rfl, v10, rfl, rv10⟩ := h9
    refine rn_stk [.int v10] rfl ?_
    refine rn_if_ne (tgt := 51) dX10_doorOf_27 (by decide) (fun h12 => ?_) (fun h12 => ?_)
    · have ch12 := cv_ne h12
      have r13 : Rg (1) (1) v10 := rf_nel ch12 rv10 rk_0 (by decide) (by decide)
      refine rn_iconst (v := (-1 : Int32)) dX10_doorOf_51 (by decide) ?_
      exact rn_iret dX10_doorOf_52 rfl rfl (rq_in ⟨rfl, (-1 : Int32), rfl, (rg_w rk_m1 (by decide) (by decide))⟩)
    · have ch12 := cv_eq h12
      have r14 : Rg (0) (0) v10 := rf_eqx ch12 rv10 rk_0 (by decide) (by decide)
      refine rn_aload_n (i := 0) dX10_doorOf_30 rfl rfl ?_
      refine rn_iload_n (i := 1) dX10_doorOf_31 rfl rfl ?_
      refine rn_inV (d' := 1) (z' := 21) [.int x1_] kl_SGModel_165 dX10_doorOf_32 q1 hl1 rfl rfl rfl (Nat.le_of_ble_eq_true rfl) (Nat.le_of_ble_eq_true rfl) (Nat.le_of_ble_eq_true rfl) (Nat.le_of_ble_eq_true rfl) ?_
      refine rn_lv [(0, .ref o0_), (1, .int x1_)] rfl ?_
      refine rn_aload_n (i := 0) dX10_lengthOf_0 rfl rfl ?_
      refine rn_iload_n (i := 1) dX10_lengthOf_1 rfl rfl ?_
      refine rn_iconst (v := (2 : Int32)) dX10_lengthOf_2 (by decide) ?_
      refine rs_addC (2) (21972) r1_ rk_2 dX10_lengthOf_3 (by decide) (fun v15 ev15 rv15 => ?_)
      refine rn_callV (a := 0) (b := 0) [.int v15] kl_SGModel_140 dX10_lengthOf_4 q1 hl1 rfl (t_X10_two G S ws hW o0_ m0_ v15 (rg_w rv15 (by decide) (by decide))) rfl rfl (Nat.le_of_ble_eq_true rfl) (Nat.le_of_ble_eq_true rfl) (Nat.le_of_ble_eq_true rfl) (Nat.le_of_ble_eq_true rfl) (Nat.le_of_ble_eq_true rfl) (Nat.le_of_ble_eq_true rfl) (fun _ _ h => False.elim h) (fun v9 w16 h17 => ?_)
      obtain ⟨rfl, v18, rfl, rv18, xah17⟩ := h17
      refine rn_stk [.int v18] rfl ?_
      refine rn_iret dX10_lengthOf_7 rfl rfl (rq_in ?_)
      refine rn_stk [.int v18] rfl ?_
      refine rn_bipush (v := (24 : Int32)) dX10_doorOf_35 (by decide) ?_
      refine rn_icmp_lt (tgt := 51) dX10_doorOf_37 (by decide) (fun h20 => ?_) (fun h20 => ?_)
      · have ch20 := cv_lt h20
        have r21 : Rg (0) (23) v18 := rf_ltx ch20 rv18 rk_24 (by decide)
        refine rn_iconst (v := (-1 : Int32)) dX10_doorOf_51 (by decide) ?_
        exact rn_iret dX10_doorOf_52 rfl rfl (rq_in ⟨rfl, (-1 : Int32), rfl, (rg_w rk_m1 (by decide) (by decide))⟩)
      · have ch20 := cv_nlt h20
        have r22 : Rg (24) (65535) v18 := rf_ley ch20 rk_24 rv18 (by decide)
        refine rn_aload_n (i := 0) dX10_doorOf_40 rfl rfl ?_
        refine rn_iload_n (i := 1) dX10_doorOf_41 rfl rfl ?_
        refine rn_bipush (v := (22 : Int32)) dX10_doorOf_42 (by decide) ?_
        refine rs_addC (22) (21992) r1_ rk_22 dX10_doorOf_44 (by decide) (fun v23 ev23 rv23 => ?_)
        refine rn_callV (a := 0) (b := 0) [.int v23] kl_SGModel_140 dX10_doorOf_45 q1 hl1 rfl (t_X10_two G S ws hW o0_ m0_ v23 (rg_w rv23 (by decide) (by decide))) rfl rfl (Nat.le_of_ble_eq_true rfl) (Nat.le_of_ble_eq_true rfl) (Nat.le_of_ble_eq_true rfl) (Nat.le_of_ble_eq_true rfl) (Nat.le_of_ble_eq_true rfl) (Nat.le_of_ble_eq_true rfl) (fun _ _ h => False.elim h) (fun v9 w24 h25 => ?_)
        obtain ⟨rfl, v26, rfl, rv26, xah25⟩ := h25
        refine rn_stk [.int v26] rfl ?_
        refine rn_goto (tgt := 52) dX10_doorOf_48 (by decide) ?_
        exact rn_iret dX10_doorOf_52 rfl rfl (rq_in ⟨rfl, v26, rfl, (rg_w rv26 (by decide) (by decide))⟩)
  · have ch6 := cv_ne h6
    refine rn_iload_n (i := 2) dX10_doorOf_16 rfl rfl ?_
    refine rn_bipush (v := (17 : Int32)) dX10_doorOf_17 (by decide) ?_
    refine rn_icmp_ne (tgt := 51) dX10_doorOf_19 (by decide) (fun h28 => ?_) (fun h28 => ?_)
    · have ch28 := cv_ne h28
      refine rn_iconst (v := (-1 : Int32)) dX10_doorOf_51 (by decide) ?_
      exact rn_iret dX10_doorOf_52 rfl rfl (rq_in ⟨rfl, (-1 : Int32), rfl, (rg_w rk_m1 (by decide) (by decide))⟩)
    · have ch28 := cv_eq h28
      have r29 : Rg (17) (17) v5 := rf_eqx ch28 rv5 rk_17 (by decide) (by decide)
      refine rn_aload_n (i := 0) dX10_doorOf_22 rfl rfl ?_
      refine rn_iload_n (i := 1) dX10_doorOf_23 rfl rfl ?_
      refine rn_callV (a := 0) (b := 0) [.int x1_] kl_SGModel_162 dX10_doorOf_24 q1 hl1 rfl (t_X10_isPart G S ws hW o0_ m0_ x1_ (rg_w r1_ (by decide) (by decide))) rfl rfl (Nat.le_of_ble_eq_true rfl) (Nat.le_of_ble_eq_true rfl) (Nat.le_of_ble_eq_true rfl) (Nat.le_of_ble_eq_true rfl) (Nat.le_of_ble_eq_true rfl) (Nat.le_of_ble_eq_true rfl) (fun _ _ h => False.elim h) (fun v9 w30 h31 => ?_)
      obtain ⟨rfl, v32, rfl, rv32⟩ := h31
      refine rn_stk [.int v32] rfl ?_
      refine rn_if_ne (tgt := 51) dX10_doorOf_27 (by decide) (fun h34 => ?_) (fun h34 => ?_)
      · have ch34 := cv_ne h34
        have r35 : Rg (1) (1) v32 := rf_nel ch34 rv32 rk_0 (by decide) (by decide)
        refine rn_iconst (v := (-1 : Int32)) dX10_doorOf_51 (by decide) ?_
        exact rn_iret dX10_doorOf_52 rfl rfl (rq_in ⟨rfl, (-1 : Int32), rfl, (rg_w rk_m1 (by decide) (by decide))⟩)
      · have ch34 := cv_eq h34
        have r36 : Rg (0) (0) v32 := rf_eqx ch34 rv32 rk_0 (by decide) (by decide)
        refine rn_aload_n (i := 0) dX10_doorOf_30 rfl rfl ?_
        refine rn_iload_n (i := 1) dX10_doorOf_31 rfl rfl ?_
        refine rn_inV (d' := 1) (z' := 21) [.int x1_] kl_SGModel_165 dX10_doorOf_32 q1 hl1 rfl rfl rfl (Nat.le_of_ble_eq_true rfl) (Nat.le_of_ble_eq_true rfl) (Nat.le_of_ble_eq_true rfl) (Nat.le_of_ble_eq_true rfl) ?_
        refine rn_lv [(0, .ref o0_), (1, .int x1_)] rfl ?_
        refine rn_aload_n (i := 0) dX10_lengthOf_0 rfl rfl ?_
        refine rn_iload_n (i := 1) dX10_lengthOf_1 rfl rfl ?_
        refine rn_iconst (v := (2 : Int32)) dX10_lengthOf_2 (by decide) ?_
        refine rs_addC (2) (21972) r1_ rk_2 dX10_lengthOf_3 (by decide) (fun v37 ev37 rv37 => ?_)
        refine rn_callV (a := 0) (b := 0) [.int v37] kl_SGModel_140 dX10_lengthOf_4 q1 hl1 rfl (t_X10_two G S ws hW o0_ m0_ v37 (rg_w rv37 (by decide) (by decide))) rfl rfl (Nat.le_of_ble_eq_true rfl) (Nat.le_of_ble_eq_true rfl) (Nat.le_of_ble_eq_true rfl) (Nat.le_of_ble_eq_true rfl) (Nat.le_of_ble_eq_true rfl) (Nat.le_of_ble_eq_true rfl) (fun _ _ h => False.elim h) (fun v9 w38 h39 => ?_)
        obtain ⟨rfl, v40, rfl, rv40, xah39⟩ := h39
        refine rn_stk [.int v40] rfl ?_
        refine rn_iret dX10_lengthOf_7 rfl rfl (rq_in ?_)
        refine rn_stk [.int v40] rfl ?_
        refine rn_bipush (v := (24 : Int32)) dX10_doorOf_35 (by decide) ?_
        refine rn_icmp_lt (tgt := 51) dX10_doorOf_37 (by decide) (fun h42 => ?_) (fun h42 => ?_)
        · have ch42 := cv_lt h42
          have r43 : Rg (0) (23) v40 := rf_ltx ch42 rv40 rk_24 (by decide)
          refine rn_iconst (v := (-1 : Int32)) dX10_doorOf_51 (by decide) ?_
          exact rn_iret dX10_doorOf_52 rfl rfl (rq_in ⟨rfl, (-1 : Int32), rfl, (rg_w rk_m1 (by decide) (by decide))⟩)
        · have ch42 := cv_nlt h42
          have r44 : Rg (24) (65535) v40 := rf_ley ch42 rk_24 rv40 (by decide)
          refine rn_aload_n (i := 0) dX10_doorOf_40 rfl rfl ?_
          refine rn_iload_n (i := 1) dX10_doorOf_41 rfl rfl ?_
          refine rn_bipush (v := (22 : Int32)) dX10_doorOf_42 (by decide) ?_
          refine rs_addC (22) (21992) r1_ rk_22 dX10_doorOf_44 (by decide) (fun v45 ev45 rv45 => ?_)
          refine rn_callV (a := 0) (b := 0) [.int v45] kl_SGModel_140 dX10_doorOf_45 q1 hl1 rfl (t_X10_two G S ws hW o0_ m0_ v45 (rg_w rv45 (by decide) (by decide))) rfl rfl (Nat.le_of_ble_eq_true rfl) (Nat.le_of_ble_eq_true rfl) (Nat.le_of_ble_eq_true rfl) (Nat.le_of_ble_eq_true rfl) (Nat.le_of_ble_eq_true rfl) (Nat.le_of_ble_eq_true rfl) (fun _ _ h => False.elim h) (fun v9 w46 h47 => ?_)
          obtain ⟨rfl, v48, rfl, rv48, xah47⟩ := h47
          refine rn_stk [.int v48] rfl ?_
          refine rn_goto (tgt := 52) dX10_doorOf_48 (by decide) ?_
          exact rn_iret dX10_doorOf_52 rfl rfl (rq_in ⟨rfl, v48, rfl, (rg_w rv48 (by decide) (by decide))⟩)
abbrev q_t_X10_type (G : rn_G) (S : ts_S) (ws : va_W) : rn_R → va_W → Prop := rQ (fun v w => St G S [30, 33] ws S w ∧ (∃ x : Int32, v = some (.int x) ∧ Rg (0) (2000) x)) (fun E w => False)
set_option maxRecDepth 20000 in
set_option maxHeartbeats 4000000 in
theorem t_X10_type (G : rn_G) (S : ts_S) (ws : va_W) (hW : ts_W G S ws) (o0_ : Nat) (m0_ : (o0_, 30) ∈ S) (y1_ : Int64) : Rn G mX10_type 3 67 0 0 0 (lv_args 0 [.ref o0_, .long y1_]) [] ws (q_t_X10_type G S ws ) := by
  have hS0 : St G S [30, 33] ws S ws := St.rf hW
  refine rn_lv [(0, .ref o0_), (1, .long y1_)] rfl ?_
  refine rn_aload_n (i := 0) dX10_type_0 rfl rfl ?_
  refine rn_iconst (v := (0 : Int32)) dX10_type_1 (by decide) ?_
  obtain ⟨q1, fs1, hq1, hl1, hf1⟩ := ts_obj hS0.1 m0_ hk_30
  refine rs_put q1 (kp_SGModel_137 _) hS0 hq1 hl1 hf1 hk_30 rfl rfl (tv_i (rg_w rk_0 (by decide) (by decide))) rfl rfl dX10_type_2 (fun w2 fs3 hS3 hl3 hf3 hx3 ho3 hn3 => ?_)
  refine rn_aload_n (i := 0) dX10_type_5 rfl rfl ?_
  refine rn_aload_n (i := 0) dX10_type_6 rfl rfl ?_
  obtain ⟨x4, hx4, rx4⟩ := fs_i hf3 3 rfl
  refine rn_get q1 kg_SGModel_168 hl3 hx4 dX10_type_7 ?_
  refine rn_bipush (v := (8 : Int32)) dX10_type_10 (by decide) ?_
  refine rs_addC (8) (2008) rx4 rk_8 dX10_type_12 (by decide) (fun v5 ev5 rv5 => ?_)
  refine rn_sipush (v := (2000 : Int32)) dX10_type_13 (by decide) ?_
  refine rn_icmp_le (tgt := 23) dX10_type_16 (by decide) (fun h6 => ?_) (fun h6 => ?_)
  · have ch6 := cv_le h6
    have r7 : Rg (8) (2000) v5 := rf_lex ch6 rv5 rk_2000 (by decide)
    have r8 : Rg (0) (1992) x4 := rf_bk ev5 r7 rx4 (by decide) (by decide)
    refine rn_iconst (v := (0 : Int32)) dX10_type_23 (by decide) ?_
    refine rn_iconst (v := (1 : Int32)) dX10_type_24 (by decide) ?_
    refine rn_inV (d' := 0) (z' := 0) [.int (0 : Int32), .int (1 : Int32)] kl_SGModel_171 dX10_type_25 q1 hl3 rfl rfl rfl (Nat.le_of_ble_eq_true rfl) (Nat.le_of_ble_eq_true rfl) (Nat.le_of_ble_eq_true rfl) (Nat.le_of_ble_eq_true rfl) ?_
    refine rn_lv [(0, .ref o0_), (1, .int (0 : Int32)), (2, .int (1 : Int32))] rfl ?_
    refine rn_aload_n (i := 0) dX10_refuses_0 rfl rfl ?_
    refine rn_get q1 kg_SGModel_137 hl3 hx3 dX10_refuses_1 ?_
    refine rn_if_ne (tgt := 16) dX10_refuses_4 (by decide) (fun h9 => (cx_ne (cv_ne h9) rk_0 rk_0 (by decide)).elim) (fun h9 => ?_)
    refine rn_iload_n (i := 1) dX10_refuses_7 rfl rfl ?_
    refine rn_if_eq (tgt := 16) dX10_refuses_8 (by decide) (fun h10 => ?_) (fun h10 => (cx_ne (cv_ne h10) rk_0 rk_0 (by decide)).elim)
    refine rn_aload_n (i := 0) dX10_refuses_16 rfl rfl ?_
    refine rn_get q1 kg_SGModel_137 hl3 hx3 dX10_refuses_17 ?_
    refine rn_if_le (tgt := 27) dX10_refuses_20 (by decide) (fun h11 => ?_) (fun h11 => (cx_lt (cv_nle h11) rk_0 rk_0 (by decide)).elim)
    refine rn_iconst (v := (0 : Int32)) dX10_refuses_27 (by decide) ?_
    refine rn_iret dX10_refuses_28 rfl rfl (rq_in ?_)
    refine rn_stk [.int (0 : Int32)] rfl ?_
    refine rn_if_eq (tgt := 33) dX10_type_28 (by decide) (fun h12 => ?_) (fun h12 => (cx_ne (cv_ne h12) rk_0 rk_0 (by decide)).elim)
    refine rn_aload_n (i := 0) dX10_type_33 rfl rfl ?_
    refine rn_iconst (v := (0 : Int32)) dX10_type_34 (by decide) ?_
    refine rn_aload_n (i := 0) dX10_type_35 rfl rfl ?_
    refine rn_get q1 kg_SGModel_168 hl3 hx4 dX10_type_36 ?_
    refine rs_addD (0) (1992) rk_0 r8 dX10_type_39 (by decide) (fun v13 ev13 rv13 => ?_)
    refine rn_lload_n (i := 1) dX10_type_40 rfl rfl ?_
    refine rn_callV (a := 0) (b := 0) [.int v13, .long y1_] kl_SGModel_175 dX10_type_41 q1 hl3 rfl (t_X10_putEight G S w2 hS3.1 o0_ m0_ v13 (rg_w rv13 (by decide) (by decide)) y1_) rfl rfl (Nat.le_of_ble_eq_true rfl) (Nat.le_of_ble_eq_true rfl) (Nat.le_of_ble_eq_true rfl) (Nat.le_of_ble_eq_true rfl) (Nat.le_of_ble_eq_true rfl) (Nat.le_of_ble_eq_true rfl) (fun _ _ h => False.elim h) (fun v9 w14 h15 => ?_)
    obtain ⟨hT16, rfl, xah15⟩ := h15
    have hS16 := St.tr hS3 hT16 rfl
    refine rn_stk [] rfl ?_
    refine rn_aload_n (i := 0) dX10_type_44 rfl rfl ?_
    refine rn_dup dX10_type_45 rfl ?_
    refine rn_get q1 kg_SGModel_168 (hT16.fr hq1 rfl hl3) hx4 dX10_type_46 ?_
    refine rn_bipush (v := (8 : Int32)) dX10_type_49 (by decide) ?_
    refine rs_addC (8) (2000) r8 rk_8 dX10_type_51 (by decide) (fun v17 ev17 rv17 => ?_)
    refine rs_put q1 (kp_SGModel_168 _) hS16 hq1 (hT16.fr hq1 rfl hl3) hf3 hk_30 rfl rfl (tv_i (rg_w rv17 (by decide) (by decide))) rfl rfl dX10_type_52 (fun w18 fs19 hS19 hl19 hf19 hx19 ho19 hn19 => ?_)
    refine rn_aload_n (i := 0) dX10_type_55 rfl rfl ?_
    refine rn_get q1 kg_SGModel_168 hl19 hx19 dX10_type_56 ?_
    exact rn_iret dX10_type_59 rfl rfl (rq_in ⟨hS19, v17, rfl, (rg_w rv17 (by decide) (by decide))⟩)
  · have ch6 := cv_nle h6
    have r20 : Rg (2001) (2008) v5 := rf_lty ch6 rk_2000 rv5 (by decide)
    have r21 : Rg (1993) (2000) x4 := rf_bk ev5 r20 rx4 (by decide) (by decide)
    refine rn_iconst (v := (1 : Int32)) dX10_type_19 (by decide) ?_
    refine rn_goto (tgt := 24) dX10_type_20 (by decide) ?_
    refine rn_iconst (v := (1 : Int32)) dX10_type_24 (by decide) ?_
    refine rn_inV (d' := 0) (z' := 0) [.int (1 : Int32), .int (1 : Int32)] kl_SGModel_171 dX10_type_25 q1 hl3 rfl rfl rfl (Nat.le_of_ble_eq_true rfl) (Nat.le_of_ble_eq_true rfl) (Nat.le_of_ble_eq_true rfl) (Nat.le_of_ble_eq_true rfl) ?_
    refine rn_lv [(0, .ref o0_), (1, .int (1 : Int32)), (2, .int (1 : Int32))] rfl ?_
    refine rn_aload_n (i := 0) dX10_refuses_0 rfl rfl ?_
    refine rn_get q1 kg_SGModel_137 hl3 hx3 dX10_refuses_1 ?_
    refine rn_if_ne (tgt := 16) dX10_refuses_4 (by decide) (fun h22 => (cx_ne (cv_ne h22) rk_0 rk_0 (by decide)).elim) (fun h22 => ?_)
    refine rn_iload_n (i := 1) dX10_refuses_7 rfl rfl ?_
    refine rn_if_eq (tgt := 16) dX10_refuses_8 (by decide) (fun h23 => (cx_eq (cv_eq h23) rk_1 rk_0 (by decide)).elim) (fun h23 => ?_)
    refine rn_aload_n (i := 0) dX10_refuses_11 rfl rfl ?_
    refine rn_iload_n (i := 2) dX10_refuses_12 rfl rfl ?_
    refine rs_put q1 (kp_SGModel_137 _) hS3 hq1 hl3 hf3 hk_30 rfl rfl (tv_i (rg_w rk_1 (by decide) (by decide))) rfl rfl dX10_refuses_13 (fun w24 fs25 hS25 hl25 hf25 hx25 ho25 hn25 => ?_)
    refine rn_aload_n (i := 0) dX10_refuses_16 rfl rfl ?_
    refine rn_get q1 kg_SGModel_137 hl25 hx25 dX10_refuses_17 ?_
    refine rn_if_le (tgt := 27) dX10_refuses_20 (by decide) (fun h26 => (cx_le (cv_le h26) rk_1 rk_0 (by decide)).elim) (fun h26 => ?_)
    refine rn_iconst (v := (1 : Int32)) dX10_refuses_23 (by decide) ?_
    refine rn_goto (tgt := 28) dX10_refuses_24 (by decide) ?_
    refine rn_iret dX10_refuses_28 rfl rfl (rq_in ?_)
    refine rn_stk [.int (1 : Int32)] rfl ?_
    refine rn_if_eq (tgt := 33) dX10_type_28 (by decide) (fun h27 => (cx_eq (cv_eq h27) rk_1 rk_0 (by decide)).elim) (fun h27 => ?_)
    refine rn_iconst (v := (0 : Int32)) dX10_type_31 (by decide) ?_
    exact rn_iret dX10_type_32 rfl rfl (rq_in ⟨hS25, (0 : Int32), rfl, (rg_w rk_0 (by decide) (by decide))⟩)
abbrev q_t_X10_keep (G : rn_G) (S : ts_S) (ws : va_W) : rn_R → va_W → Prop := rQ (fun v w => St G S [30] ws S w ∧ (v = none)) (fun E w => False)
set_option maxRecDepth 20000 in
set_option maxHeartbeats 4000000 in
theorem t_X10_keep (G : rn_G) (S : ts_S) (ws : va_W) (hW : ts_W G S ws) (o0_ : Nat) (m0_ : (o0_, 30) ∈ S) (x1_ : Int32) : Rn G mX10_keep 1 22 0 0 0 (lv_args 0 [.ref o0_, .int x1_]) [] ws (q_t_X10_keep G S ws ) := by
  have hS0 : St G S [30] ws S ws := St.rf hW
  refine rn_lv [(0, .ref o0_), (1, .int x1_)] rfl ?_
  refine rn_aload_n (i := 0) dX10_keep_0 rfl rfl ?_
  refine rn_iconst (v := (0 : Int32)) dX10_keep_1 (by decide) ?_
  obtain ⟨q1, fs1, hq1, hl1, hf1⟩ := ts_obj hS0.1 m0_ hk_30
  refine rs_put q1 (kp_SGModel_137 _) hS0 hq1 hl1 hf1 hk_30 rfl rfl (tv_i (rg_w rk_0 (by decide) (by decide))) rfl rfl dX10_keep_2 (fun w2 fs3 hS3 hl3 hf3 hx3 ho3 hn3 => ?_)
  refine rn_aload_n (i := 0) dX10_keep_5 rfl rfl ?_
  refine rn_iload_n (i := 1) dX10_keep_6 rfl rfl ?_
  refine rn_iconst (v := (0 : Int32)) dX10_keep_7 (by decide) ?_
  refine rn_aload_n (i := 0) dX10_keep_8 rfl rfl ?_
  obtain ⟨x4, hx4, rx4⟩ := fs_i hf3 3 rfl
  refine rn_get q1 kg_SGModel_168 hl3 hx4 dX10_keep_9 ?_
  refine rn_inS (d' := 0) (z' := 0) [.int x1_, .int (0 : Int32), .int x4] kl_SGModel_179 dX10_keep_12 rfl rfl (Nat.le_of_ble_eq_true rfl) (Nat.le_of_ble_eq_true rfl) (Nat.le_of_ble_eq_true rfl) (Nat.le_of_ble_eq_true rfl) ?_
  refine rn_lv [(0, .int x1_), (1, .int (0 : Int32)), (2, .int x4)] rfl ?_
  refine rn_iload_n (i := 0) dX10_in_0 rfl rfl ?_
  refine rn_iload_n (i := 1) dX10_in_1 rfl rfl ?_
  refine rn_icmp_lt (tgt := 14) dX10_in_2 (by decide) (fun h5 => ?_) (fun h5 => ?_)
  · have ch5 := cv_lt h5
    have r6 : Rg (-2147483648) (-1) x1_ := rf_ltx ch5 (rg_any x1_) rk_0 (by decide)
    refine rn_iconst (v := (0 : Int32)) dX10_in_14 (by decide) ?_
    refine rn_iret dX10_in_15 rfl rfl (rq_in ?_)
    refine rn_stk [.int (0 : Int32), .ref o0_] rfl ?_
    refine rn_if_ne (tgt := 22) dX10_keep_15 (by decide) (fun h7 => (cx_ne (cv_ne h7) rk_0 rk_0 (by decide)).elim) (fun h7 => ?_)
    refine rn_iconst (v := (1 : Int32)) dX10_keep_18 (by decide) ?_
    refine rn_goto (tgt := 23) dX10_keep_19 (by decide) ?_
    refine rn_iconst (v := (1 : Int32)) dX10_keep_23 (by decide) ?_
    refine rn_inV (d' := 0) (z' := 0) [.int (1 : Int32), .int (1 : Int32)] kl_SGModel_171 dX10_keep_24 q1 hl3 rfl rfl rfl (Nat.le_of_ble_eq_true rfl) (Nat.le_of_ble_eq_true rfl) (Nat.le_of_ble_eq_true rfl) (Nat.le_of_ble_eq_true rfl) ?_
    refine rn_lv [(0, .ref o0_), (1, .int (1 : Int32)), (2, .int (1 : Int32))] rfl ?_
    refine rn_aload_n (i := 0) dX10_refuses_0 rfl rfl ?_
    refine rn_get q1 kg_SGModel_137 hl3 hx3 dX10_refuses_1 ?_
    refine rn_if_ne (tgt := 16) dX10_refuses_4 (by decide) (fun h8 => (cx_ne (cv_ne h8) rk_0 rk_0 (by decide)).elim) (fun h8 => ?_)
    refine rn_iload_n (i := 1) dX10_refuses_7 rfl rfl ?_
    refine rn_if_eq (tgt := 16) dX10_refuses_8 (by decide) (fun h9 => (cx_eq (cv_eq h9) rk_1 rk_0 (by decide)).elim) (fun h9 => ?_)
    refine rn_aload_n (i := 0) dX10_refuses_11 rfl rfl ?_
    refine rn_iload_n (i := 2) dX10_refuses_12 rfl rfl ?_
    refine rs_put q1 (kp_SGModel_137 _) hS3 hq1 hl3 hf3 hk_30 rfl rfl (tv_i (rg_w rk_1 (by decide) (by decide))) rfl rfl dX10_refuses_13 (fun w10 fs11 hS11 hl11 hf11 hx11 ho11 hn11 => ?_)
    refine rn_aload_n (i := 0) dX10_refuses_16 rfl rfl ?_
    refine rn_get q1 kg_SGModel_137 hl11 hx11 dX10_refuses_17 ?_
    refine rn_if_le (tgt := 27) dX10_refuses_20 (by decide) (fun h12 => (cx_le (cv_le h12) rk_1 rk_0 (by decide)).elim) (fun h12 => ?_)
    refine rn_iconst (v := (1 : Int32)) dX10_refuses_23 (by decide) ?_
    refine rn_goto (tgt := 28) dX10_refuses_24 (by decide) ?_
    refine rn_iret dX10_refuses_28 rfl rfl (rq_in ?_)
    refine rn_stk [.int (1 : Int32)] rfl ?_
    refine rn_if_ne (tgt := 35) dX10_keep_27 (by decide) (fun h13 => ?_) (fun h13 => (cx_eq (cv_eq h13) rk_1 rk_0 (by decide)).elim)
    exact rn_vret dX10_keep_35 rfl (rq_in ⟨hS11, rfl⟩)
  · have ch5 := cv_nlt h5
    have r14 : Rg (0) (2147483647) x1_ := rf_ley ch5 rk_0 (rg_any x1_) (by decide)
    refine rn_iload_n (i := 0) dX10_in_5 rfl rfl ?_
    refine rn_iload_n (i := 2) dX10_in_6 rfl rfl ?_
    refine rn_icmp_gt (tgt := 14) dX10_in_7 (by decide) (fun h15 => ?_) (fun h15 => ?_)
    · have ch15 := cv_lt h15
      have r16 : Rg (1) (2147483647) x1_ := rf_lty ch15 rx4 r14 (by decide)
      refine rn_iconst (v := (0 : Int32)) dX10_in_14 (by decide) ?_
      refine rn_iret dX10_in_15 rfl rfl (rq_in ?_)
      refine rn_stk [.int (0 : Int32), .ref o0_] rfl ?_
      refine rn_if_ne (tgt := 22) dX10_keep_15 (by decide) (fun h17 => (cx_ne (cv_ne h17) rk_0 rk_0 (by decide)).elim) (fun h17 => ?_)
      refine rn_iconst (v := (1 : Int32)) dX10_keep_18 (by decide) ?_
      refine rn_goto (tgt := 23) dX10_keep_19 (by decide) ?_
      refine rn_iconst (v := (1 : Int32)) dX10_keep_23 (by decide) ?_
      refine rn_inV (d' := 0) (z' := 0) [.int (1 : Int32), .int (1 : Int32)] kl_SGModel_171 dX10_keep_24 q1 hl3 rfl rfl rfl (Nat.le_of_ble_eq_true rfl) (Nat.le_of_ble_eq_true rfl) (Nat.le_of_ble_eq_true rfl) (Nat.le_of_ble_eq_true rfl) ?_
      refine rn_lv [(0, .ref o0_), (1, .int (1 : Int32)), (2, .int (1 : Int32))] rfl ?_
      refine rn_aload_n (i := 0) dX10_refuses_0 rfl rfl ?_
      refine rn_get q1 kg_SGModel_137 hl3 hx3 dX10_refuses_1 ?_
      refine rn_if_ne (tgt := 16) dX10_refuses_4 (by decide) (fun h18 => (cx_ne (cv_ne h18) rk_0 rk_0 (by decide)).elim) (fun h18 => ?_)
      refine rn_iload_n (i := 1) dX10_refuses_7 rfl rfl ?_
      refine rn_if_eq (tgt := 16) dX10_refuses_8 (by decide) (fun h19 => (cx_eq (cv_eq h19) rk_1 rk_0 (by decide)).elim) (fun h19 => ?_)
      refine rn_aload_n (i := 0) dX10_refuses_11 rfl rfl ?_
      refine rn_iload_n (i := 2) dX10_refuses_12 rfl rfl ?_
      refine rs_put q1 (kp_SGModel_137 _) hS3 hq1 hl3 hf3 hk_30 rfl rfl (tv_i (rg_w rk_1 (by decide) (by decide))) rfl rfl dX10_refuses_13 (fun w20 fs21 hS21 hl21 hf21 hx21 ho21 hn21 => ?_)
      refine rn_aload_n (i := 0) dX10_refuses_16 rfl rfl ?_
      refine rn_get q1 kg_SGModel_137 hl21 hx21 dX10_refuses_17 ?_
      refine rn_if_le (tgt := 27) dX10_refuses_20 (by decide) (fun h22 => (cx_le (cv_le h22) rk_1 rk_0 (by decide)).elim) (fun h22 => ?_)
      refine rn_iconst (v := (1 : Int32)) dX10_refuses_23 (by decide) ?_
      refine rn_goto (tgt := 28) dX10_refuses_24 (by decide) ?_
      refine rn_iret dX10_refuses_28 rfl rfl (rq_in ?_)
      refine rn_stk [.int (1 : Int32)] rfl ?_
      refine rn_if_ne (tgt := 35) dX10_keep_27 (by decide) (fun h23 => ?_) (fun h23 => (cx_eq (cv_eq h23) rk_1 rk_0 (by decide)).elim)
      exact rn_vret dX10_keep_35 rfl (rq_in ⟨hS21, rfl⟩)
    · have ch15 := cv_nlt h15
      have r24 : Rg (0) (2000) x1_ := rf_lex ch15 r14 rx4 (by decide)
      refine rn_iconst (v := (1 : Int32)) dX10_in_10 (by decide) ?_
      refine rn_goto (tgt := 15) dX10_in_11 (by decide) ?_
      refine rn_iret dX10_in_15 rfl rfl (rq_in ?_)
      refine rn_stk [.int (1 : Int32), .ref o0_] rfl ?_
      refine rn_if_ne (tgt := 22) dX10_keep_15 (by decide) (fun h25 => ?_) (fun h25 => (cx_eq (cv_eq h25) rk_1 rk_0 (by decide)).elim)
      refine rn_iconst (v := (0 : Int32)) dX10_keep_22 (by decide) ?_
      refine rn_iconst (v := (1 : Int32)) dX10_keep_23 (by decide) ?_
      refine rn_inV (d' := 0) (z' := 0) [.int (0 : Int32), .int (1 : Int32)] kl_SGModel_171 dX10_keep_24 q1 hl3 rfl rfl rfl (Nat.le_of_ble_eq_true rfl) (Nat.le_of_ble_eq_true rfl) (Nat.le_of_ble_eq_true rfl) (Nat.le_of_ble_eq_true rfl) ?_
      refine rn_lv [(0, .ref o0_), (1, .int (0 : Int32)), (2, .int (1 : Int32))] rfl ?_
      refine rn_aload_n (i := 0) dX10_refuses_0 rfl rfl ?_
      refine rn_get q1 kg_SGModel_137 hl3 hx3 dX10_refuses_1 ?_
      refine rn_if_ne (tgt := 16) dX10_refuses_4 (by decide) (fun h26 => (cx_ne (cv_ne h26) rk_0 rk_0 (by decide)).elim) (fun h26 => ?_)
      refine rn_iload_n (i := 1) dX10_refuses_7 rfl rfl ?_
      refine rn_if_eq (tgt := 16) dX10_refuses_8 (by decide) (fun h27 => ?_) (fun h27 => (cx_ne (cv_ne h27) rk_0 rk_0 (by decide)).elim)
      refine rn_aload_n (i := 0) dX10_refuses_16 rfl rfl ?_
      refine rn_get q1 kg_SGModel_137 hl3 hx3 dX10_refuses_17 ?_
      refine rn_if_le (tgt := 27) dX10_refuses_20 (by decide) (fun h28 => ?_) (fun h28 => (cx_lt (cv_nle h28) rk_0 rk_0 (by decide)).elim)
      refine rn_iconst (v := (0 : Int32)) dX10_refuses_27 (by decide) ?_
      refine rn_iret dX10_refuses_28 rfl rfl (rq_in ?_)
      refine rn_stk [.int (0 : Int32)] rfl ?_
      refine rn_if_ne (tgt := 35) dX10_keep_27 (by decide) (fun h29 => (cx_ne (cv_ne h29) rk_0 rk_0 (by decide)).elim) (fun h29 => ?_)
      refine rn_aload_n (i := 0) dX10_keep_30 rfl rfl ?_
      refine rn_iload_n (i := 1) dX10_keep_31 rfl rfl ?_
      refine rs_put q1 (kp_SGModel_168 _) hS3 hq1 hl3 hf3 hk_30 rfl rfl (tv_i r24) rfl rfl dX10_keep_32 (fun w30 fs31 hS31 hl31 hf31 hx31 ho31 hn31 => ?_)
      exact rn_vret dX10_keep_35 rfl (rq_in ⟨hS31, rfl⟩)
abbrev q_t_X10_poke (G : rn_G) (S : ts_S) (ws : va_W) : rn_R → va_W → Prop := rQ (fun v w => St G S [30, 33] ws S w ∧ (∃ x : Int32, v = some (.int x) ∧ Rg (0) (255) x)) (fun E w => False)
set_option maxRecDepth 20000 in
set_option maxHeartbeats 4000000 in
theorem t_X10_poke (G : rn_G) (S : ts_S) (ws : va_W) (hW : ts_W G S ws) (o0_ : Nat) (m0_ : (o0_, 30) ∈ S) (x1_ : Int32) (x2_ : Int32) : Rn G mX10_poke 1 22 0 0 0 (lv_args 0 [.ref o0_, .int x1_, .int x2_]) [] ws (q_t_X10_poke G S ws ) := by
  have hS0 : St G S [30, 33] ws S ws := St.rf hW
  refine rn_lv [(0, .ref o0_), (1, .int x1_), (2, .int x2_)] rfl ?_
  refine rn_aload_n (i := 0) dX10_poke_0 rfl rfl ?_
  refine rn_iconst (v := (0 : Int32)) dX10_poke_1 (by decide) ?_
  obtain ⟨q1, fs1, hq1, hl1, hf1⟩ := ts_obj hS0.1 m0_ hk_30
  refine rs_put q1 (kp_SGModel_137 _) hS0 hq1 hl1 hf1 hk_30 rfl rfl (tv_i (rg_w rk_0 (by decide) (by decide))) rfl rfl dX10_poke_2 (fun w2 fs3 hS3 hl3 hf3 hx3 ho3 hn3 => ?_)
  refine rn_aload_n (i := 0) dX10_poke_5 rfl rfl ?_
  refine rn_iload_n (i := 1) dX10_poke_6 rfl rfl ?_
  refine rn_iconst (v := (0 : Int32)) dX10_poke_7 (by decide) ?_
  refine rn_aload_n (i := 0) dX10_poke_8 rfl rfl ?_
  obtain ⟨x4, hx4, rx4⟩ := fs_i hf3 3 rfl
  refine rn_get q1 kg_SGModel_168 hl3 hx4 dX10_poke_9 ?_
  refine rn_iconst (v := (1 : Int32)) dX10_poke_12 (by decide) ?_
  refine rs_subC (-1) (1999) rx4 rk_1 dX10_poke_13 (by decide) (fun v5 ev5 rv5 => ?_)
  refine rn_inS (d' := 0) (z' := 0) [.int x1_, .int (0 : Int32), .int v5] kl_SGModel_179 dX10_poke_14 rfl rfl (Nat.le_of_ble_eq_true rfl) (Nat.le_of_ble_eq_true rfl) (Nat.le_of_ble_eq_true rfl) (Nat.le_of_ble_eq_true rfl) ?_
  refine rn_lv [(0, .int x1_), (1, .int (0 : Int32)), (2, .int v5)] rfl ?_
  refine rn_iload_n (i := 0) dX10_in_0 rfl rfl ?_
  refine rn_iload_n (i := 1) dX10_in_1 rfl rfl ?_
  refine rn_icmp_lt (tgt := 14) dX10_in_2 (by decide) (fun h6 => ?_) (fun h6 => ?_)
  · have ch6 := cv_lt h6
    have r7 : Rg (-2147483648) (-1) x1_ := rf_ltx ch6 (rg_any x1_) rk_0 (by decide)
    refine rn_iconst (v := (0 : Int32)) dX10_in_14 (by decide) ?_
    refine rn_iret dX10_in_15 rfl rfl (rq_in ?_)
    refine rn_stk [.int (0 : Int32), .ref o0_] rfl ?_
    refine rn_if_ne (tgt := 24) dX10_poke_17 (by decide) (fun h8 => (cx_ne (cv_ne h8) rk_0 rk_0 (by decide)).elim) (fun h8 => ?_)
    refine rn_iconst (v := (1 : Int32)) dX10_poke_20 (by decide) ?_
    refine rn_goto (tgt := 25) dX10_poke_21 (by decide) ?_
    refine rn_iconst (v := (1 : Int32)) dX10_poke_25 (by decide) ?_
    refine rn_inV (d' := 0) (z' := 0) [.int (1 : Int32), .int (1 : Int32)] kl_SGModel_171 dX10_poke_26 q1 hl3 rfl rfl rfl (Nat.le_of_ble_eq_true rfl) (Nat.le_of_ble_eq_true rfl) (Nat.le_of_ble_eq_true rfl) (Nat.le_of_ble_eq_true rfl) ?_
    refine rn_lv [(0, .ref o0_), (1, .int (1 : Int32)), (2, .int (1 : Int32))] rfl ?_
    refine rn_aload_n (i := 0) dX10_refuses_0 rfl rfl ?_
    refine rn_get q1 kg_SGModel_137 hl3 hx3 dX10_refuses_1 ?_
    refine rn_if_ne (tgt := 16) dX10_refuses_4 (by decide) (fun h9 => (cx_ne (cv_ne h9) rk_0 rk_0 (by decide)).elim) (fun h9 => ?_)
    refine rn_iload_n (i := 1) dX10_refuses_7 rfl rfl ?_
    refine rn_if_eq (tgt := 16) dX10_refuses_8 (by decide) (fun h10 => (cx_eq (cv_eq h10) rk_1 rk_0 (by decide)).elim) (fun h10 => ?_)
    refine rn_aload_n (i := 0) dX10_refuses_11 rfl rfl ?_
    refine rn_iload_n (i := 2) dX10_refuses_12 rfl rfl ?_
    refine rs_put q1 (kp_SGModel_137 _) hS3 hq1 hl3 hf3 hk_30 rfl rfl (tv_i (rg_w rk_1 (by decide) (by decide))) rfl rfl dX10_refuses_13 (fun w11 fs12 hS12 hl12 hf12 hx12 ho12 hn12 => ?_)
    refine rn_aload_n (i := 0) dX10_refuses_16 rfl rfl ?_
    refine rn_get q1 kg_SGModel_137 hl12 hx12 dX10_refuses_17 ?_
    refine rn_if_le (tgt := 27) dX10_refuses_20 (by decide) (fun h13 => (cx_le (cv_le h13) rk_1 rk_0 (by decide)).elim) (fun h13 => ?_)
    refine rn_iconst (v := (1 : Int32)) dX10_refuses_23 (by decide) ?_
    refine rn_goto (tgt := 28) dX10_refuses_24 (by decide) ?_
    refine rn_iret dX10_refuses_28 rfl rfl (rq_in ?_)
    refine rn_stk [.int (1 : Int32)] rfl ?_
    refine rn_if_ne (tgt := 56) dX10_poke_29 (by decide) (fun h14 => ?_) (fun h14 => (cx_eq (cv_eq h14) rk_1 rk_0 (by decide)).elim)
    refine rn_iconst (v := (0 : Int32)) dX10_poke_56 (by decide) ?_
    exact rn_iret dX10_poke_57 rfl rfl (rq_in ⟨hS12, (0 : Int32), rfl, (rg_w rk_0 (by decide) (by decide))⟩)
  · have ch6 := cv_nlt h6
    have r15 : Rg (0) (2147483647) x1_ := rf_ley ch6 rk_0 (rg_any x1_) (by decide)
    refine rn_iload_n (i := 0) dX10_in_5 rfl rfl ?_
    refine rn_iload_n (i := 2) dX10_in_6 rfl rfl ?_
    refine rn_icmp_gt (tgt := 14) dX10_in_7 (by decide) (fun h16 => ?_) (fun h16 => ?_)
    · have ch16 := cv_lt h16
      refine rn_iconst (v := (0 : Int32)) dX10_in_14 (by decide) ?_
      refine rn_iret dX10_in_15 rfl rfl (rq_in ?_)
      refine rn_stk [.int (0 : Int32), .ref o0_] rfl ?_
      refine rn_if_ne (tgt := 24) dX10_poke_17 (by decide) (fun h17 => (cx_ne (cv_ne h17) rk_0 rk_0 (by decide)).elim) (fun h17 => ?_)
      refine rn_iconst (v := (1 : Int32)) dX10_poke_20 (by decide) ?_
      refine rn_goto (tgt := 25) dX10_poke_21 (by decide) ?_
      refine rn_iconst (v := (1 : Int32)) dX10_poke_25 (by decide) ?_
      refine rn_inV (d' := 0) (z' := 0) [.int (1 : Int32), .int (1 : Int32)] kl_SGModel_171 dX10_poke_26 q1 hl3 rfl rfl rfl (Nat.le_of_ble_eq_true rfl) (Nat.le_of_ble_eq_true rfl) (Nat.le_of_ble_eq_true rfl) (Nat.le_of_ble_eq_true rfl) ?_
      refine rn_lv [(0, .ref o0_), (1, .int (1 : Int32)), (2, .int (1 : Int32))] rfl ?_
      refine rn_aload_n (i := 0) dX10_refuses_0 rfl rfl ?_
      refine rn_get q1 kg_SGModel_137 hl3 hx3 dX10_refuses_1 ?_
      refine rn_if_ne (tgt := 16) dX10_refuses_4 (by decide) (fun h18 => (cx_ne (cv_ne h18) rk_0 rk_0 (by decide)).elim) (fun h18 => ?_)
      refine rn_iload_n (i := 1) dX10_refuses_7 rfl rfl ?_
      refine rn_if_eq (tgt := 16) dX10_refuses_8 (by decide) (fun h19 => (cx_eq (cv_eq h19) rk_1 rk_0 (by decide)).elim) (fun h19 => ?_)
      refine rn_aload_n (i := 0) dX10_refuses_11 rfl rfl ?_
      refine rn_iload_n (i := 2) dX10_refuses_12 rfl rfl ?_
      refine rs_put q1 (kp_SGModel_137 _) hS3 hq1 hl3 hf3 hk_30 rfl rfl (tv_i (rg_w rk_1 (by decide) (by decide))) rfl rfl dX10_refuses_13 (fun w20 fs21 hS21 hl21 hf21 hx21 ho21 hn21 => ?_)
      refine rn_aload_n (i := 0) dX10_refuses_16 rfl rfl ?_
      refine rn_get q1 kg_SGModel_137 hl21 hx21 dX10_refuses_17 ?_
      refine rn_if_le (tgt := 27) dX10_refuses_20 (by decide) (fun h22 => (cx_le (cv_le h22) rk_1 rk_0 (by decide)).elim) (fun h22 => ?_)
      refine rn_iconst (v := (1 : Int32)) dX10_refuses_23 (by decide) ?_
      refine rn_goto (tgt := 28) dX10_refuses_24 (by decide) ?_
      refine rn_iret dX10_refuses_28 rfl rfl (rq_in ?_)
      refine rn_stk [.int (1 : Int32)] rfl ?_
      refine rn_if_ne (tgt := 56) dX10_poke_29 (by decide) (fun h23 => ?_) (fun h23 => (cx_eq (cv_eq h23) rk_1 rk_0 (by decide)).elim)
      refine rn_iconst (v := (0 : Int32)) dX10_poke_56 (by decide) ?_
      exact rn_iret dX10_poke_57 rfl rfl (rq_in ⟨hS21, (0 : Int32), rfl, (rg_w rk_0 (by decide) (by decide))⟩)
    · have ch16 := cv_nlt h16
      have r24 : Rg (0) (1999) x1_ := rf_lex ch16 r15 rv5 (by decide)
      have r25 : Rg (0) (1999) v5 := rf_ley ch16 r15 rv5 (by decide)
      refine rn_iconst (v := (1 : Int32)) dX10_in_10 (by decide) ?_
      refine rn_goto (tgt := 15) dX10_in_11 (by decide) ?_
      refine rn_iret dX10_in_15 rfl rfl (rq_in ?_)
      refine rn_stk [.int (1 : Int32), .ref o0_] rfl ?_
      refine rn_if_ne (tgt := 24) dX10_poke_17 (by decide) (fun h26 => ?_) (fun h26 => (cx_eq (cv_eq h26) rk_1 rk_0 (by decide)).elim)
      refine rn_iconst (v := (0 : Int32)) dX10_poke_24 (by decide) ?_
      refine rn_iconst (v := (1 : Int32)) dX10_poke_25 (by decide) ?_
      refine rn_inV (d' := 0) (z' := 0) [.int (0 : Int32), .int (1 : Int32)] kl_SGModel_171 dX10_poke_26 q1 hl3 rfl rfl rfl (Nat.le_of_ble_eq_true rfl) (Nat.le_of_ble_eq_true rfl) (Nat.le_of_ble_eq_true rfl) (Nat.le_of_ble_eq_true rfl) ?_
      refine rn_lv [(0, .ref o0_), (1, .int (0 : Int32)), (2, .int (1 : Int32))] rfl ?_
      refine rn_aload_n (i := 0) dX10_refuses_0 rfl rfl ?_
      refine rn_get q1 kg_SGModel_137 hl3 hx3 dX10_refuses_1 ?_
      refine rn_if_ne (tgt := 16) dX10_refuses_4 (by decide) (fun h27 => (cx_ne (cv_ne h27) rk_0 rk_0 (by decide)).elim) (fun h27 => ?_)
      refine rn_iload_n (i := 1) dX10_refuses_7 rfl rfl ?_
      refine rn_if_eq (tgt := 16) dX10_refuses_8 (by decide) (fun h28 => ?_) (fun h28 => (cx_ne (cv_ne h28) rk_0 rk_0 (by decide)).elim)
      refine rn_aload_n (i := 0) dX10_refuses_16 rfl rfl ?_
      refine rn_get q1 kg_SGModel_137 hl3 hx3 dX10_refuses_17 ?_
      refine rn_if_le (tgt := 27) dX10_refuses_20 (by decide) (fun h29 => ?_) (fun h29 => (cx_lt (cv_nle h29) rk_0 rk_0 (by decide)).elim)
      refine rn_iconst (v := (0 : Int32)) dX10_refuses_27 (by decide) ?_
      refine rn_iret dX10_refuses_28 rfl rfl (rq_in ?_)
      refine rn_stk [.int (0 : Int32)] rfl ?_
      refine rn_if_ne (tgt := 56) dX10_poke_29 (by decide) (fun h30 => (cx_ne (cv_ne h30) rk_0 rk_0 (by decide)).elim) (fun h30 => ?_)
      refine rn_aload_n (i := 0) dX10_poke_32 rfl rfl ?_
      refine rn_iload_n (i := 2) dX10_poke_33 rfl rfl ?_
      refine rn_iconst (v := (0 : Int32)) dX10_poke_34 (by decide) ?_
      refine rn_sipush (v := (255 : Int32)) dX10_poke_35 (by decide) ?_
      refine rn_inS (d' := 0) (z' := 0) [.int x2_, .int (0 : Int32), .int (255 : Int32)] kl_SGModel_179 dX10_poke_38 rfl rfl (Nat.le_of_ble_eq_true rfl) (Nat.le_of_ble_eq_true rfl) (Nat.le_of_ble_eq_true rfl) (Nat.le_of_ble_eq_true rfl) ?_
      refine rn_lv [(0, .int x2_), (1, .int (0 : Int32)), (2, .int (255 : Int32))] rfl ?_
      refine rn_iload_n (i := 0) dX10_in_0 rfl rfl ?_
      refine rn_iload_n (i := 1) dX10_in_1 rfl rfl ?_
      refine rn_icmp_lt (tgt := 14) dX10_in_2 (by decide) (fun h31 => ?_) (fun h31 => ?_)
      · have ch31 := cv_lt h31
        have r32 : Rg (-2147483648) (-1) x2_ := rf_ltx ch31 (rg_any x2_) rk_0 (by decide)
        refine rn_iconst (v := (0 : Int32)) dX10_in_14 (by decide) ?_
        refine rn_iret dX10_in_15 rfl rfl (rq_in ?_)
        refine rn_stk [.int (0 : Int32), .ref o0_] rfl ?_
        refine rn_if_ne (tgt := 48) dX10_poke_41 (by decide) (fun h33 => (cx_ne (cv_ne h33) rk_0 rk_0 (by decide)).elim) (fun h33 => ?_)
        refine rn_iconst (v := (1 : Int32)) dX10_poke_44 (by decide) ?_
        refine rn_goto (tgt := 49) dX10_poke_45 (by decide) ?_
        refine rn_iconst (v := (2 : Int32)) dX10_poke_49 (by decide) ?_
        refine rn_inV (d' := 0) (z' := 0) [.int (1 : Int32), .int (2 : Int32)] kl_SGModel_171 dX10_poke_50 q1 hl3 rfl rfl rfl (Nat.le_of_ble_eq_true rfl) (Nat.le_of_ble_eq_true rfl) (Nat.le_of_ble_eq_true rfl) (Nat.le_of_ble_eq_true rfl) ?_
        refine rn_lv [(0, .ref o0_), (1, .int (1 : Int32)), (2, .int (2 : Int32))] rfl ?_
        refine rn_aload_n (i := 0) dX10_refuses_0 rfl rfl ?_
        refine rn_get q1 kg_SGModel_137 hl3 hx3 dX10_refuses_1 ?_
        refine rn_if_ne (tgt := 16) dX10_refuses_4 (by decide) (fun h34 => (cx_ne (cv_ne h34) rk_0 rk_0 (by decide)).elim) (fun h34 => ?_)
        refine rn_iload_n (i := 1) dX10_refuses_7 rfl rfl ?_
        refine rn_if_eq (tgt := 16) dX10_refuses_8 (by decide) (fun h35 => (cx_eq (cv_eq h35) rk_1 rk_0 (by decide)).elim) (fun h35 => ?_)
        refine rn_aload_n (i := 0) dX10_refuses_11 rfl rfl ?_
        refine rn_iload_n (i := 2) dX10_refuses_12 rfl rfl ?_
        refine rs_put q1 (kp_SGModel_137 _) hS3 hq1 hl3 hf3 hk_30 rfl rfl (tv_i (rg_w rk_2 (by decide) (by decide))) rfl rfl dX10_refuses_13 (fun w36 fs37 hS37 hl37 hf37 hx37 ho37 hn37 => ?_)
        refine rn_aload_n (i := 0) dX10_refuses_16 rfl rfl ?_
        refine rn_get q1 kg_SGModel_137 hl37 hx37 dX10_refuses_17 ?_
        refine rn_if_le (tgt := 27) dX10_refuses_20 (by decide) (fun h38 => (cx_le (cv_le h38) rk_2 rk_0 (by decide)).elim) (fun h38 => ?_)
        refine rn_iconst (v := (1 : Int32)) dX10_refuses_23 (by decide) ?_
        refine rn_goto (tgt := 28) dX10_refuses_24 (by decide) ?_
        refine rn_iret dX10_refuses_28 rfl rfl (rq_in ?_)
        refine rn_stk [.int (1 : Int32)] rfl ?_
        refine rn_if_eq (tgt := 58) dX10_poke_53 (by decide) (fun h39 => (cx_eq (cv_eq h39) rk_1 rk_0 (by decide)).elim) (fun h39 => ?_)
        refine rn_iconst (v := (0 : Int32)) dX10_poke_56 (by decide) ?_
        exact rn_iret dX10_poke_57 rfl rfl (rq_in ⟨hS37, (0 : Int32), rfl, (rg_w rk_0 (by decide) (by decide))⟩)
      · have ch31 := cv_nlt h31
        have r40 : Rg (0) (2147483647) x2_ := rf_ley ch31 rk_0 (rg_any x2_) (by decide)
        refine rn_iload_n (i := 0) dX10_in_5 rfl rfl ?_
        refine rn_iload_n (i := 2) dX10_in_6 rfl rfl ?_
        refine rn_icmp_gt (tgt := 14) dX10_in_7 (by decide) (fun h41 => ?_) (fun h41 => ?_)
        · have ch41 := cv_lt h41
          have r42 : Rg (256) (2147483647) x2_ := rf_lty ch41 rk_255 r40 (by decide)
          refine rn_iconst (v := (0 : Int32)) dX10_in_14 (by decide) ?_
          refine rn_iret dX10_in_15 rfl rfl (rq_in ?_)
          refine rn_stk [.int (0 : Int32), .ref o0_] rfl ?_
          refine rn_if_ne (tgt := 48) dX10_poke_41 (by decide) (fun h43 => (cx_ne (cv_ne h43) rk_0 rk_0 (by decide)).elim) (fun h43 => ?_)
          refine rn_iconst (v := (1 : Int32)) dX10_poke_44 (by decide) ?_
          refine rn_goto (tgt := 49) dX10_poke_45 (by decide) ?_
          refine rn_iconst (v := (2 : Int32)) dX10_poke_49 (by decide) ?_
          refine rn_inV (d' := 0) (z' := 0) [.int (1 : Int32), .int (2 : Int32)] kl_SGModel_171 dX10_poke_50 q1 hl3 rfl rfl rfl (Nat.le_of_ble_eq_true rfl) (Nat.le_of_ble_eq_true rfl) (Nat.le_of_ble_eq_true rfl) (Nat.le_of_ble_eq_true rfl) ?_
          refine rn_lv [(0, .ref o0_), (1, .int (1 : Int32)), (2, .int (2 : Int32))] rfl ?_
          refine rn_aload_n (i := 0) dX10_refuses_0 rfl rfl ?_
          refine rn_get q1 kg_SGModel_137 hl3 hx3 dX10_refuses_1 ?_
          refine rn_if_ne (tgt := 16) dX10_refuses_4 (by decide) (fun h44 => (cx_ne (cv_ne h44) rk_0 rk_0 (by decide)).elim) (fun h44 => ?_)
          refine rn_iload_n (i := 1) dX10_refuses_7 rfl rfl ?_
          refine rn_if_eq (tgt := 16) dX10_refuses_8 (by decide) (fun h45 => (cx_eq (cv_eq h45) rk_1 rk_0 (by decide)).elim) (fun h45 => ?_)
          refine rn_aload_n (i := 0) dX10_refuses_11 rfl rfl ?_
          refine rn_iload_n (i := 2) dX10_refuses_12 rfl rfl ?_
          refine rs_put q1 (kp_SGModel_137 _) hS3 hq1 hl3 hf3 hk_30 rfl rfl (tv_i (rg_w rk_2 (by decide) (by decide))) rfl rfl dX10_refuses_13 (fun w46 fs47 hS47 hl47 hf47 hx47 ho47 hn47 => ?_)
          refine rn_aload_n (i := 0) dX10_refuses_16 rfl rfl ?_
          refine rn_get q1 kg_SGModel_137 hl47 hx47 dX10_refuses_17 ?_
          refine rn_if_le (tgt := 27) dX10_refuses_20 (by decide) (fun h48 => (cx_le (cv_le h48) rk_2 rk_0 (by decide)).elim) (fun h48 => ?_)
          refine rn_iconst (v := (1 : Int32)) dX10_refuses_23 (by decide) ?_
          refine rn_goto (tgt := 28) dX10_refuses_24 (by decide) ?_
          refine rn_iret dX10_refuses_28 rfl rfl (rq_in ?_)
          refine rn_stk [.int (1 : Int32)] rfl ?_
          refine rn_if_eq (tgt := 58) dX10_poke_53 (by decide) (fun h49 => (cx_eq (cv_eq h49) rk_1 rk_0 (by decide)).elim) (fun h49 => ?_)
          refine rn_iconst (v := (0 : Int32)) dX10_poke_56 (by decide) ?_
          exact rn_iret dX10_poke_57 rfl rfl (rq_in ⟨hS47, (0 : Int32), rfl, (rg_w rk_0 (by decide) (by decide))⟩)
        · have ch41 := cv_nlt h41
          have r50 : Rg (0) (255) x2_ := rf_lex ch41 r40 rk_255 (by decide)
          refine rn_iconst (v := (1 : Int32)) dX10_in_10 (by decide) ?_
          refine rn_goto (tgt := 15) dX10_in_11 (by decide) ?_
          refine rn_iret dX10_in_15 rfl rfl (rq_in ?_)
          refine rn_stk [.int (1 : Int32), .ref o0_] rfl ?_
          refine rn_if_ne (tgt := 48) dX10_poke_41 (by decide) (fun h51 => ?_) (fun h51 => (cx_eq (cv_eq h51) rk_1 rk_0 (by decide)).elim)
          refine rn_iconst (v := (0 : Int32)) dX10_poke_48 (by decide) ?_
          refine rn_iconst (v := (2 : Int32)) dX10_poke_49 (by decide) ?_
          refine rn_inV (d' := 0) (z' := 0) [.int (0 : Int32), .int (2 : Int32)] kl_SGModel_171 dX10_poke_50 q1 hl3 rfl rfl rfl (Nat.le_of_ble_eq_true rfl) (Nat.le_of_ble_eq_true rfl) (Nat.le_of_ble_eq_true rfl) (Nat.le_of_ble_eq_true rfl) ?_
          refine rn_lv [(0, .ref o0_), (1, .int (0 : Int32)), (2, .int (2 : Int32))] rfl ?_
          refine rn_aload_n (i := 0) dX10_refuses_0 rfl rfl ?_
          refine rn_get q1 kg_SGModel_137 hl3 hx3 dX10_refuses_1 ?_
          refine rn_if_ne (tgt := 16) dX10_refuses_4 (by decide) (fun h52 => (cx_ne (cv_ne h52) rk_0 rk_0 (by decide)).elim) (fun h52 => ?_)
          refine rn_iload_n (i := 1) dX10_refuses_7 rfl rfl ?_
          refine rn_if_eq (tgt := 16) dX10_refuses_8 (by decide) (fun h53 => ?_) (fun h53 => (cx_ne (cv_ne h53) rk_0 rk_0 (by decide)).elim)
          refine rn_aload_n (i := 0) dX10_refuses_16 rfl rfl ?_
          refine rn_get q1 kg_SGModel_137 hl3 hx3 dX10_refuses_17 ?_
          refine rn_if_le (tgt := 27) dX10_refuses_20 (by decide) (fun h54 => ?_) (fun h54 => (cx_lt (cv_nle h54) rk_0 rk_0 (by decide)).elim)
          refine rn_iconst (v := (0 : Int32)) dX10_refuses_27 (by decide) ?_
          refine rn_iret dX10_refuses_28 rfl rfl (rq_in ?_)
          refine rn_stk [.int (0 : Int32)] rfl ?_
          refine rn_if_eq (tgt := 58) dX10_poke_53 (by decide) (fun h55 => ?_) (fun h55 => (cx_ne (cv_ne h55) rk_0 rk_0 (by decide)).elim)
          refine rn_aload_n (i := 0) dX10_poke_58 rfl rfl ?_
          obtain ⟨o56, hx56, m56⟩ := fs_r hf3 2 rfl
          refine rn_get q1 kg_SGModel_7 hl3 hx56 dX10_poke_59 ?_
          refine rn_iconst (v := (0 : Int32)) dX10_poke_62 (by decide) ?_
          refine rn_iload_n (i := 1) dX10_poke_63 rfl rfl ?_
          refine rs_addD (0) (1999) rk_0 r24 dX10_poke_64 (by decide) (fun v57 ev57 rv57 => ?_)
          obtain ⟨q58, f58, hq58, hl58, hf58⟩ := ts_ia hS3.1 m56 hk_33
          refine rs_iald q58 hl58 hf58 rfl rv57 (by decide) (by decide) dX10_poke_65 (fun v59 ev59 rv59 => ?_)
          refine rn_istore_n dX10_poke_66 rfl (by decide) [(0, .ref o0_), (1, .int x1_), (2, .int x2_), (3, .int v59)] rfl ?_
          refine rn_aload_n (i := 0) dX10_poke_67 rfl rfl ?_
          refine rn_get q1 kg_SGModel_7 hl3 hx56 dX10_poke_68 ?_
          refine rn_iconst (v := (0 : Int32)) dX10_poke_71 (by decide) ?_
          refine rn_iload_n (i := 1) dX10_poke_72 rfl rfl ?_
          refine rs_addD (0) (1999) rk_0 r24 dX10_poke_73 (by decide) (fun v60 ev60 rv60 => ?_)
          refine rn_iload_n (i := 2) dX10_poke_74 rfl rfl ?_
          refine rs_iast q58 hS3 hq58 hl58 hf58 hk_33 rfl rfl rv60 (by decide) (by decide) r50 dX10_poke_75 (fun w61 f62 hS62 hl62 hf62 hu62 hn62 => ?_)
          refine rn_iload_n (i := 3) dX10_poke_76 rfl rfl ?_
          exact rn_iret dX10_poke_77 rfl rfl (rq_in ⟨hS62, v59, rfl, rv59⟩)
