abbrev q_t_X10_doorOf (G : rn_G) (S : ts_S) (ws : va_W) : rn_R → va_W → Prop := rQ (fun v w => ws = w ∧ (∃ x : Int32, v = some (.int x) ∧ Rg (-1) (65535) x)) (fun E w => False)
set_option maxRecDepth 20000 in
set_option maxHeartbeats 4000000 in
theorem t_X10_doorOf (G : rn_G) (S : ts_S) (ws : va_W) (hW : ts_W G S ws) (o0_ : Nat) (m0_ : (o0_, 30) ∈ S) (x1_ : Int32) (r1_ : Rg (0) (21970) x1_) : Rn G mX10_doorOf 3 63 0 0 0 (lv_args 0 [.ref o0_, .int x1_]) [] ws (q_t_X10_doorOf G S ws ) := by
  refine rn_lv [(0, .ref o0_), (1, .int x1_)] rfl ?_
  refine rn_aload_n (i := 0) dX10_doorOf_0 rfl rfl ?_
  obtain ⟨q1, fs1, hq1, hl1, hf1⟩ := ts_obj hW m0_ hk_30
  obtain ⟨o2, hx2, m2⟩ := fs_r hf1 2 rfl
  refine rn_get q1 kg_SGModel_7 hl1 hx2 dX10_doorOf_1 ?_
  refine rn_iload_n (i := 1) dX10_doorOf_4 rfl rfl ?_
  refine rn_bipush (v := (9 : Int32)) dX10_doorOf_5 (by decide) ?_
  refine rs_addC (9) (21979) r1_ rk_9 dX10_doorOf_7 (by decide) (fun v3 ev3 rv3 => ?_)
  obtain ⟨q4, f4, hq4, hl4, hf4⟩ := ts_ia hW m2 hk_33
  refine rs_iald q4 hl4 hf4 rfl rv3 (by decide) (by decide) dX10_doorOf_8 (fun v5 ev5 rv5 => ?_)
  refine rn_istore_n dX10_doorOf_9 rfl (by decide) [(0, .ref o0_), (1, .int x1_), (2, .int v5)] rfl ?_
  refine rn_iload_n (i := 2) dX10_doorOf_10 rfl rfl ?_
  refine rn_bipush (v := (6 : Int32)) dX10_doorOf_11 (by decide) ?_
  refine rn_icmp_eq (tgt := 22) dX10_doorOf_13 (by decide) (fun h6 => ?_) (fun h6 => ?_)
  · have ch6 := cv_eq h6
    have r7 : Rg (6) (6) v5 := rf_eqx ch6 rv5 rk_6 (by decide) (by decide)
    refine rn_aload_n (i := 0) dX10_doorOf_22 rfl rfl ?_
    refine rn_iload_n (i := 1) dX10_doorOf_23 rfl rfl ?_
    refine rn_callV (a := 0) (b := 0) [.int x1_] kl_SGModel_162 dX10_doorOf_24 q1 hl1 rfl (t_X10_isPart G S ws hW o0_ m0_ x1_ (rg_w r1_ (by decide) (by decide))) rfl rfl (Nat.le_of_ble_eq_true rfl) (Nat.le_of_ble_eq_true rfl) (Nat.le_of_ble_eq_true rfl) (Nat.le_of_ble_eq_true rfl) (Nat.le_of_ble_eq_true rfl) (Nat.le_of_ble_eq_true rfl) (fun _ _ h => False.elim h) (fun v9 w8 h9 => ?_)
    obtain ⟨rfl, v10, rfl, rv10⟩ := h9
    refine rn_stk [.int v10] rfl ?_
    refine rn_if_ne (tgt := 51) dX10_doorOf_27 (by decide) (fun h12 => ?_) (fun h12 => ?_)
    · have ch12 := cv_ne h12
      have r13 : Rg (1) (1) v10 := rf_nel ch12 rv10 rk_0 (by decide) (by decide)
      refine rn_iconst (v := (-1 : Int32)) dX10_doorOf_51 (by decide) ?_
      exact rn_iret dX10_doorOf_52 rfl rfl (rq_in ⟨rfl, (-1 : Int32), rfl, (rg_w rk_m1 (by decide) (by decide))⟩)
    · have ch12 := cv_eq h12
      have r14 : Rg (0) (0) v10 := rf_eqx ch12 rv10 rk_0 (by decide) (by decide)
      refine rn_aload_n (i := 0) dX10_doorOf_30 rfl rfl ?_
      refine rn_iload_n (i := 1) dX10_doorOf_31 rfl rfl ?_
      refine rn_inV (d' := 1) (z' := 21) [.int x1_] kl_SGModel_165 dX10_doorOf_32 q1 hl1 rfl rfl rfl (Nat.le_of_ble_eq_true rfl) (Nat.le_of_ble_eq_true rfl) (Nat.le_of_ble_eq_true rfl) (Nat.le_of_ble_eq_true rfl) ?_
      refine rn_lv [(0, .ref o0_), (1, .int x1_)] rfl ?_
      refine rn_aload_n (i := 0) dX10_lengthOf_0 rfl rfl ?_
      refine rn_iload_n (i := 1) dX10_lengthOf_1 rfl rfl ?_
      refine rn_iconst (v := (2 : Int32)) dX10_lengthOf_2 (by decide) ?_
      refine rs_addC (2) (21972) r1_ rk_2 dX10_lengthOf_3 (by decide) (fun v15 ev15 rv15 => ?_)
      refine rn_callV (a := 0) (b := 0) [.int v15] kl_SGModel_140 dX10_lengthOf_4 q1 hl1 rfl (t_X10_two G S ws hW o0_ m0_ v15 (rg_w rv15 (by decide) (by decide))) rfl rfl (Nat.le_of_ble_eq_true rfl) (Nat.le_of_ble_eq_true rfl) (Nat.le_of_ble_eq_true rfl) (Nat.le_of_ble_eq_true rfl) (Nat.le_of_ble_eq_true rfl) (Nat.le_of_ble_eq_true rfl) (fun _ _ h => False.elim h) (fun v9 w16 h17 => ?_)
      obtain ⟨rfl, v18, rfl, rv18, xah17⟩ := h17
      refine rn_stk [.int v18] rfl ?_
      refine rn_iret dX10_lengthOf_7 rfl rfl (rq_in ?_)
      refine rn_stk [.int v18] rfl ?_
      refine rn_bipush (v := (24 : Int32)) dX10_doorOf_35 (by decide) ?_
      refine rn_icmp_lt (tgt := 51) dX10_doorOf_37 (by decide) (fun h20 => ?_) (fun h20 => ?_)
      · have ch20 := cv_lt h20
        have r21 : Rg (0) (23) v18 := rf_ltx ch20 rv18 rk_24 (by decide)
        refine rn_iconst (v := (-1 : Int32)) dX10_doorOf_51 (by decide) ?_
        exact rn_iret dX10_doorOf_52 rfl rfl (rq_in ⟨rfl, (-1 : Int32), rfl, (rg_w rk_m1 (by decide) (by decide))⟩)
      · have ch20 := cv_nlt h20
        have r22 : Rg (24) (65535) v18 := rf_ley ch20 rk_24 rv18 (by decide)
        refine rn_aload_n (i := 0) dX10_doorOf_40 rfl rfl ?_
        refine rn_iload_n (i := 1) dX10_doorOf_41 rfl rfl ?_
        refine rn_bipush (v := (22 : Int32)) dX10_doorOf_42 (by decide) ?_
        refine rs_addC (22) (21992) r1_ rk_22 dX10_doorOf_44 (by decide) (fun v23 ev23 rv23 => ?_)
        refine rn_callV (a := 0) (b := 0) [.int v23] kl_SGModel_140 dX10_doorOf_45 q1 hl1 rfl (t_X10_two G S ws hW o0_ m0_ v23 (rg_w rv23 (by decide) (by decide))) rfl rfl (Nat.le_of_ble_eq_true rfl) (Nat.le_of_ble_eq_true rfl) (Nat.le_of_ble_eq_true rfl) (Nat.le_of_ble_eq_true rfl) (Nat.le_of_ble_eq_true rfl) (Nat.le_of_ble_eq_true rfl) (fun _ _ h => False.elim h) (fun v9 w24 h25 => ?_)
        obtain ⟨rfl, v26, rfl, rv26, xah25⟩ := h25
        refine rn_stk [.int v26] rfl ?_
        refine rn_goto (tgt := 52) dX10_doorOf_48 (by decide) ?_
        exact rn_iret dX10_doorOf_52 rfl rfl (rq_in ⟨rfl, v26, rfl, (rg_w rv26 (by decide) (by decide))⟩)
  · have ch6 := cv_ne h6
    refine rn_iload_n (i := 2) dX10_doorOf_16 rfl rfl ?_
    refine rn_bipush (v := (17 : Int32)) dX10_doorOf_17 (by decide) ?_
    refine rn_icmp_ne (tgt := 51) dX10_doorOf_19 (by decide) (fun h28 => ?_) (fun h28 => ?_)
    · have ch28 := cv_ne h28
      refine rn_iconst (v := (-1 : Int32)) dX10_doorOf_51 (by decide) ?_
      exact rn_iret dX10_doorOf_52 rfl rfl (rq_in ⟨rfl, (-1 : Int32), rfl, (rg_w rk_m1 (by decide) (by decide))⟩)
    · have ch28 := cv_eq h28
      have r29 : Rg (17) (17) v5 := rf_eqx ch28 rv5 rk_17 (by decide) (by decide)
      refine rn_aload_n (i := 0) dX10_doorOf_22 rfl rfl ?_
      refine rn_iload_n (i := 1) dX10_doorOf_23 rfl rfl ?_
      refine rn_callV (a := 0) (b := 0) [.int x1_] kl_SGModel_162 dX10_doorOf_24 q1 hl1 rfl (t_X10_isPart G S ws hW o0_ m0_ x1_ (rg_w r1_ (by decide) (by decide))) rfl rfl (Nat.le_of_ble_eq_true rfl) (Nat.le_of_ble_eq_true rfl) (Nat.le_of_ble_eq_true rfl) (Nat.le_of_ble_eq_true rfl) (Nat.le_of_ble_eq_true rfl) (Nat.le_of_ble_eq_true rfl) (fun _ _ h => False.elim h) (fun v9 w30 h31 => ?_)
      obtain ⟨rfl, v32, rfl, rv32⟩ := h31
      refine rn_stk [.int v32] rfl ?_
      refine rn_if_ne (tgt := 51) dX10_doorOf_27 (by decide) (fun h34 => ?_) (fun h34 => ?_)
      · have ch34 := cv_ne h34
        have r35 : Rg (1) (1) v32 := rf_nel ch34 rv32 rk_0 (by decide) (by decide)
        refine rn_iconst (v := (-1 : Int32)) dX10_doorOf_51 (by decide) ?_
        exact rn_iret dX10_doorOf_52 rfl rfl (rq_in ⟨rfl, (-1 : Int32), rfl, (rg_w rk_m1 (by decide) (by decide))⟩)
      · have ch34 := cv_eq h34
        have r36 : Rg (0) (0) v32 := rf_eqx ch34 rv32 rk_0 (by decide) (by decide)
        refine rn_aload_n (i := 0) dX10_doorOf_30 rfl rfl ?_
        refine rn_iload_n (i := 1) dX10_doorOf_31 rfl rfl ?_
        refine rn_inV (d' := 1) (z' := 21) [.int x1_] kl_SGModel_165 dX10_doorOf_32 q1 hl1 rfl rfl rfl (Nat.le_of_ble_eq_true rfl) (Nat.le_of_ble_eq_true rfl) (Nat.le_of_ble_eq_true rfl) (Nat.le_of_ble_eq_true rfl) ?_
        refine rn_lv [(0, .ref o0_), (1, .int x1_)] rfl ?_
        refine rn_aload_n (i := 0) dX10_lengthOf_0 rfl rfl ?_
        refine rn_iload_n (i := 1) dX10_lengthOf_1 rfl rfl ?_
        refine rn_iconst (v := (2 : Int32)) dX10_lengthOf_2 (by decide) ?_
        refine rs_addC (2) (21972) r1_ rk_2 dX10_lengthOf_3 (by decide) (fun v37 ev37 rv37 => ?_)
        refine rn_callV (a := 0) (b := 0) [.int v37] kl_SGModel_140 dX10_lengthOf_4 q1 hl1 rfl (t_X10_two G S ws hW o0_ m0_ v37 (rg_w rv37 (by decide) (by decide))) rfl rfl (Nat.le_of_ble_eq_true rfl) (Nat.le_of_ble_eq_true rfl) (Nat.le_of_ble_eq_true rfl) (Nat.le_of_ble_eq_true rfl) (Nat.le_of_ble_eq_true rfl) (Nat.le_of_ble_eq_true rfl) (fun _ _ h => False.elim h) (fun v9 w38 h39 => ?_)
        obtain ⟨rfl, v40, rfl, rv40, xah39⟩ := h39
        refine rn_stk [.int v40] rfl ?_
        refine rn_iret dX10_lengthOf_7 rfl rfl (rq_in ?_)
        refine rn_stk [.int v40] rfl ?_
        refine rn_bipush (v := (24 : Int32)) dX10_doorOf_35 (by decide) ?_
        refine rn_icmp_lt (tgt := 51) dX10_doorOf_37 (by decide) (fun h42 => ?_) (fun h42 => ?_)
        · have ch42 := cv_lt h42
          have r43 : Rg (0) (23) v40 := rf_ltx ch42 rv40 rk_24 (by decide)
          refine rn_iconst (v := (-1 : Int32)) dX10_doorOf_51 (by decide) ?_
          exact rn_iret dX10_doorOf_52 rfl rfl (rq_in ⟨rfl, (-1 : Int32), rfl, (rg_w rk_m1 (by decide) (by decide))⟩)
        · have ch42 := cv_nlt h42
          have r44 : Rg (24) (65535) v40 := rf_ley ch42 rk_24 rv40 (by decide)
          refine rn_aload_n (i := 0) dX10_doorOf_40 rfl rfl ?_
          refine rn_iload_n (i := 1) dX10_doorOf_41 rfl rfl ?_
          refine rn_bipush (v := (22 : Int32)) dX10_doorOf_42 (by decide) ?_
          refine rs_addC (22) (21992) r1_ rk_22 dX10_doorOf_44 (by decide) (fun v45 ev45 rv45 => ?_)
          refine rn_callV (a := 0) (b := 0) [.int v45] kl_SGModel_140 dX10_doorOf_45 q1 hl1 rfl (t_X10_two G S ws hW o0_ m0_ v45 (rg_w rv45 (by decide) (by decide))) rfl rfl (Nat.le_of_ble_eq_true rfl) (Nat.le_of_ble_eq_true rfl) (Nat.le_of_ble_eq_true rfl) (Nat.le_of_ble_eq_true rfl) (Nat.le_of_ble_eq_true rfl) (Nat.le_of_ble_eq_true rfl) (fun _ _ h => False.elim h) (fun v9 w46 h47 => ?_)
          obtain ⟨rfl, v48, rfl, rv48, xah47⟩ := h47
          refine rn_stk [.int v48] rfl ?_
          refine rn_goto (tgt := 52) dX10_doorOf_48 (by decide) ?_
          exact rn_iret dX10_doorOf_52 rfl rfl (rq_in ⟨rfl, v48, rfl, (rg_w rv48 (by decide) (by decide))⟩)
abbrev q_t_X10_type (G : rn_G) (S : ts_S) (ws : va_W) : rn_R → va_W → Prop := rQ (fun v w => St G S [30, 33] ws S w ∧ (∃ x : Int32, v = some (.int x) ∧ Rg (0) (2000) x ∧ fK1 4 S ws w)) (fun E w => False)
set_option maxRecDepth 20000 in
set_option maxHeartbeats 4000000 in
theorem t_X10_type (G : rn_G) (S : ts_S) (ws : va_W) (hW : ts_W G S ws) (o0_ : Nat) (m0_ : (o0_, 30) ∈ S) (y1_ : Int64) : Rn G mX10_type 3 67 0 0 0 (lv_args 0 [.ref o0_, .long y1_]) [] ws (q_t_X10_type G S ws ) := by
  have hS0 : St G S [30, 33] ws S ws := St.rf hW
  have fk0 : fK1 4 S ws ws := fun v h => h
  refine rn_lv [(0, .ref o0_), (1, .long y1_)] rfl ?_
  refine rn_aload_n (i := 0) dX10_type_0 rfl rfl ?_
  refine rn_iconst (v := (0 : Int32)) dX10_type_1 (by decide) ?_
  obtain ⟨q1, fs1, hq1, hl1, hf1⟩ := ts_obj hS0.1 m0_ hk_30
  refine rs_put q1 (kp_SGModel_137 _) hS0 hq1 hl1 hf1 hk_30 rfl rfl (tv_i (rg_w rk_0 (by decide) (by decide))) rfl rfl dX10_type_2 (fun w2 fs3 hS3 hl3 hf3 hx3 ho3 hn3 => ?_)
  have fk4 : fK1 4 S ws w2 := fk_put fk0 hS0.1 hq1 hl1 hl3 ho3 (by decide)
  refine rn_aload_n (i := 0) dX10_type_5 rfl rfl ?_
  refine rn_aload_n (i := 0) dX10_type_6 rfl rfl ?_
  obtain ⟨x5, hx5, rx5⟩ := fs_i hf3 3 rfl
  refine rn_get q1 kg_SGModel_168 hl3 hx5 dX10_type_7 ?_
  refine rn_bipush (v := (8 : Int32)) dX10_type_10 (by decide) ?_
  refine rs_addC (8) (2008) rx5 rk_8 dX10_type_12 (by decide) (fun v6 ev6 rv6 => ?_)
  refine rn_sipush (v := (2000 : Int32)) dX10_type_13 (by decide) ?_
  refine rn_icmp_le (tgt := 23) dX10_type_16 (by decide) (fun h7 => ?_) (fun h7 => ?_)
  · have ch7 := cv_le h7
    have r8 : Rg (8) (2000) v6 := rf_lex ch7 rv6 rk_2000 (by decide)
    have r9 : Rg (0) (1992) x5 := rf_bk ev6 r8 rx5 (by decide) (by decide)
    refine rn_iconst (v := (0 : Int32)) dX10_type_23 (by decide) ?_
    refine rn_iconst (v := (1 : Int32)) dX10_type_24 (by decide) ?_
    refine rn_inV (d' := 0) (z' := 0) [.int (0 : Int32), .int (1 : Int32)] kl_SGModel_171 dX10_type_25 q1 hl3 rfl rfl rfl (Nat.le_of_ble_eq_true rfl) (Nat.le_of_ble_eq_true rfl) (Nat.le_of_ble_eq_true rfl) (Nat.le_of_ble_eq_true rfl) ?_
    refine rn_lv [(0, .ref o0_), (1, .int (0 : Int32)), (2, .int (1 : Int32))] rfl ?_
    refine rn_aload_n (i := 0) dX10_refuses_0 rfl rfl ?_
    refine rn_get q1 kg_SGModel_137 hl3 hx3 dX10_refuses_1 ?_
    refine rn_if_ne (tgt := 16) dX10_refuses_4 (by decide) (fun h10 => (cx_ne (cv_ne h10) rk_0 rk_0 (by decide)).elim) (fun h10 => ?_)
    refine rn_iload_n (i := 1) dX10_refuses_7 rfl rfl ?_
    refine rn_if_eq (tgt := 16) dX10_refuses_8 (by decide) (fun h11 => ?_) (fun h11 => (cx_ne (cv_ne h11) rk_0 rk_0 (by decide)).elim)
    refine rn_aload_n (i := 0) dX10_refuses_16 rfl rfl ?_
    refine rn_get q1 kg_SGModel_137 hl3 hx3 dX10_refuses_17 ?_
    refine rn_if_le (tgt := 27) dX10_refuses_20 (by decide) (fun h12 => ?_) (fun h12 => (cx_lt (cv_nle h12) rk_0 rk_0 (by decide)).elim)
    refine rn_iconst (v := (0 : Int32)) dX10_refuses_27 (by decide) ?_
    refine rn_iret dX10_refuses_28 rfl rfl (rq_in ?_)
    refine rn_stk [.int (0 : Int32)] rfl ?_
    refine rn_if_eq (tgt := 33) dX10_type_28 (by decide) (fun h13 => ?_) (fun h13 => (cx_ne (cv_ne h13) rk_0 rk_0 (by decide)).elim)
    refine rn_aload_n (i := 0) dX10_type_33 rfl rfl ?_
    refine rn_iconst (v := (0 : Int32)) dX10_type_34 (by decide) ?_
    refine rn_aload_n (i := 0) dX10_type_35 rfl rfl ?_
    refine rn_get q1 kg_SGModel_168 hl3 hx5 dX10_type_36 ?_
    refine rs_addD (0) (1992) rk_0 r9 dX10_type_39 (by decide) (fun v14 ev14 rv14 => ?_)
    refine rn_lload_n (i := 1) dX10_type_40 rfl rfl ?_
    refine rn_callV (a := 0) (b := 0) [.int v14, .long y1_] kl_SGModel_175 dX10_type_41 q1 hl3 rfl (t_X10_putEight G S w2 hS3.1 o0_ m0_ v14 (rg_w rv14 (by decide) (by decide)) y1_) rfl rfl (Nat.le_of_ble_eq_true rfl) (Nat.le_of_ble_eq_true rfl) (Nat.le_of_ble_eq_true rfl) (Nat.le_of_ble_eq_true rfl) (Nat.le_of_ble_eq_true rfl) (Nat.le_of_ble_eq_true rfl) (fun _ _ h => False.elim h) (fun v9 w15 h16 => ?_)
    obtain ⟨hT17, rfl, xah16⟩ := h16
    have hS17 := St.tr hS3 hT17 rfl
    have fk18 : fK1 4 S ws w15 := fk_fr fk4 hT17 rfl
    refine rn_stk [] rfl ?_
    refine rn_aload_n (i := 0) dX10_type_44 rfl rfl ?_
    refine rn_dup dX10_type_45 rfl ?_
    refine rn_get q1 kg_SGModel_168 (hT17.fr hq1 rfl hl3) hx5 dX10_type_46 ?_
    refine rn_bipush (v := (8 : Int32)) dX10_type_49 (by decide) ?_
    refine rs_addC (8) (2000) r9 rk_8 dX10_type_51 (by decide) (fun v19 ev19 rv19 => ?_)
    refine rs_put q1 (kp_SGModel_168 _) hS17 hq1 (hT17.fr hq1 rfl hl3) hf3 hk_30 rfl rfl (tv_i (rg_w rv19 (by decide) (by decide))) rfl rfl dX10_type_52 (fun w20 fs21 hS21 hl21 hf21 hx21 ho21 hn21 => ?_)
    have fk22 : fK1 4 S ws w20 := fk_put fk18 hS17.1 hq1 (hT17.fr hq1 rfl hl3) hl21 ho21 (by decide)
    refine rn_aload_n (i := 0) dX10_type_55 rfl rfl ?_
    refine rn_get q1 kg_SGModel_168 hl21 hx21 dX10_type_56 ?_
    exact rn_iret dX10_type_59 rfl rfl (rq_in ⟨hS21, v19, rfl, (rg_w rv19 (by decide) (by decide)), fk22⟩)
  · have ch7 := cv_nle h7
    have r23 : Rg (2001) (2008) v6 := rf_lty ch7 rk_2000 rv6 (by decide)
    have r24 : Rg (1993) (2000) x5 := rf_bk ev6 r23 rx5 (by decide) (by decide)
    refine rn_iconst (v := (1 : Int32)) dX10_type_19 (by decide) ?_
    refine rn_goto (tgt := 24) dX10_type_20 (by decide) ?_
    refine rn_iconst (v := (1 : Int32)) dX10_type_24 (by decide) ?_
    refine rn_inV (d' := 0) (z' := 0) [.int (1 : Int32), .int (1 : Int32)] kl_SGModel_171 dX10_type_25 q1 hl3 rfl rfl rfl (Nat.le_of_ble_eq_true rfl) (Nat.le_of_ble_eq_true rfl) (Nat.le_of_ble_eq_true rfl) (Nat.le_of_ble_eq_true rfl) ?_
    refine rn_lv [(0, .ref o0_), (1, .int (1 : Int32)), (2, .int (1 : Int32))] rfl ?_
    refine rn_aload_n (i := 0) dX10_refuses_0 rfl rfl ?_
    refine rn_get q1 kg_SGModel_137 hl3 hx3 dX10_refuses_1 ?_
    refine rn_if_ne (tgt := 16) dX10_refuses_4 (by decide) (fun h25 => (cx_ne (cv_ne h25) rk_0 rk_0 (by decide)).elim) (fun h25 => ?_)
    refine rn_iload_n (i := 1) dX10_refuses_7 rfl rfl ?_
    refine rn_if_eq (tgt := 16) dX10_refuses_8 (by decide) (fun h26 => (cx_eq (cv_eq h26) rk_1 rk_0 (by decide)).elim) (fun h26 => ?_)
    refine rn_aload_n (i := 0) dX10_refuses_11 rfl rfl ?_
    refine rn_iload_n (i := 2) dX10_refuses_12 rfl rfl ?_
    refine rs_put q1 (kp_SGModel_137 _) hS3 hq1 hl3 hf3 hk_30 rfl rfl (tv_i (rg_w rk_1 (by decide) (by decide))) rfl rfl dX10_refuses_13 (fun w27 fs28 hS28 hl28 hf28 hx28 ho28 hn28 => ?_)
    have fk29 : fK1 4 S ws w27 := fk_put fk4 hS3.1 hq1 hl3 hl28 ho28 (by decide)
    refine rn_aload_n (i := 0) dX10_refuses_16 rfl rfl ?_
    refine rn_get q1 kg_SGModel_137 hl28 hx28 dX10_refuses_17 ?_
    refine rn_if_le (tgt := 27) dX10_refuses_20 (by decide) (fun h30 => (cx_le (cv_le h30) rk_1 rk_0 (by decide)).elim) (fun h30 => ?_)
    refine rn_iconst (v := (1 : Int32)) dX10_refuses_23 (by decide) ?_
    refine rn_goto (tgt := 28) dX10_refuses_24 (by decide) ?_
    refine rn_iret dX10_refuses_28 rfl rfl (rq_in ?_)
    refine rn_stk [.int (1 : Int32)] rfl ?_
    refine rn_if_eq (tgt := 33) dX10_type_28 (by decide) (fun h31 => (cx_eq (cv_eq h31) rk_1 rk_0 (by decide)).elim) (fun h31 => ?_)
    refine rn_iconst (v := (0 : Int32)) dX10_type_31 (by decide) ?_
    exact rn_iret dX10_type_32 rfl rfl (rq_in ⟨hS28, (0 : Int32), rfl, (rg_w rk_0 (by decide) (by decide)), fk29⟩)
abbrev q_t_X10_keep (G : rn_G) (S : ts_S) (ws : va_W) : rn_R → va_W → Prop := rQ (fun v w => St G S [30] ws S w ∧ (v = none ∧ fK1 4 S ws w)) (fun E w => False)
set_option maxRecDepth 20000 in
set_option maxHeartbeats 4000000 in
theorem t_X10_keep (G : rn_G) (S : ts_S) (ws : va_W) (hW : ts_W G S ws) (o0_ : Nat) (m0_ : (o0_, 30) ∈ S) (x1_ : Int32) : Rn G mX10_keep 1 22 0 0 0 (lv_args 0 [.ref o0_, .int x1_]) [] ws (q_t_X10_keep G S ws ) := by
  have hS0 : St G S [30] ws S ws := St.rf hW
  have fk0 : fK1 4 S ws ws := fun v h => h
  refine rn_lv [(0, .ref o0_), (1, .int x1_)] rfl ?_
  refine rn_aload_n (i := 0) dX10_keep_0 rfl rfl ?_
  refine rn_iconst (v := (0 : Int32)) dX10_keep_1 (by decide) ?_
  obtain ⟨q1, fs1, hq1, hl1, hf1⟩ := ts_obj hS0.1 m0_ hk_30
  refine rs_put q1 (kp_SGModel_137 _) hS0 hq1 hl1 hf1 hk_30 rfl rfl (tv_i (rg_w rk_0 (by decide) (by decide))) rfl rfl dX10_keep_2 (fun w2 fs3 hS3 hl3 hf3 hx3 ho3 hn3 => ?_)
  have fk4 : fK1 4 S ws w2 := fk_put fk0 hS0.1 hq1 hl1 hl3 ho3 (by decide)
  refine rn_aload_n (i := 0) dX10_keep_5 rfl rfl ?_
  refine rn_iload_n (i := 1) dX10_keep_6 rfl rfl ?_
  refine rn_iconst (v := (0 : Int32)) dX10_keep_7 (by decide) ?_
  refine rn_aload_n (i := 0) dX10_keep_8 rfl rfl ?_
  obtain ⟨x5, hx5, rx5⟩ := fs_i hf3 3 rfl
  refine rn_get q1 kg_SGModel_168 hl3 hx5 dX10_keep_9 ?_
  refine rn_inS (d' := 0) (z' := 0) [.int x1_, .int (0 : Int32), .int x5] kl_SGModel_179 dX10_keep_12 rfl rfl (Nat.le_of_ble_eq_true rfl) (Nat.le_of_ble_eq_true rfl) (Nat.le_of_ble_eq_true rfl) (Nat.le_of_ble_eq_true rfl) ?_
  refine rn_lv [(0, .int x1_), (1, .int (0 : Int32)), (2, .int x5)] rfl ?_
  refine rn_iload_n (i := 0) dX10_in_0 rfl rfl ?_
  refine rn_iload_n (i := 1) dX10_in_1 rfl rfl ?_
  refine rn_icmp_lt (tgt := 14) dX10_in_2 (by decide) (fun h6 => ?_) (fun h6 => ?_)
  · have ch6 := cv_lt h6
    have r7 : Rg (-2147483648) (-1) x1_ := rf_ltx ch6 (rg_any x1_) rk_0 (by decide)
    refine rn_iconst (v := (0 : Int32)) dX10_in_14 (by decide) ?_
    refine rn_iret dX10_in_15 rfl rfl (rq_in ?_)
    refine rn_stk [.int (0 : Int32), .ref o0_] rfl ?_
    refine rn_if_ne (tgt := 22) dX10_keep_15 (by decide) (fun h8 => (cx_ne (cv_ne h8) rk_0 rk_0 (by decide)).elim) (fun h8 => ?_)
    refine rn_iconst (v := (1 : Int32)) dX10_keep_18 (by decide) ?_
    refine rn_goto (tgt := 23) dX10_keep_19 (by decide) ?_
    refine rn_iconst (v := (1 : Int32)) dX10_keep_23 (by decide) ?_
    refine rn_inV (d' := 0) (z' := 0) [.int (1 : Int32), .int (1 : Int32)] kl_SGModel_171 dX10_keep_24 q1 hl3 rfl rfl rfl (Nat.le_of_ble_eq_true rfl) (Nat.le_of_ble_eq_true rfl) (Nat.le_of_ble_eq_true rfl) (Nat.le_of_ble_eq_true rfl) ?_
    refine rn_lv [(0, .ref o0_), (1, .int (1 : Int32)), (2, .int (1 : Int32))] rfl ?_
    refine rn_aload_n (i := 0) dX10_refuses_0 rfl rfl ?_
    refine rn_get q1 kg_SGModel_137 hl3 hx3 dX10_refuses_1 ?_
    refine rn_if_ne (tgt := 16) dX10_refuses_4 (by decide) (fun h9 => (cx_ne (cv_ne h9) rk_0 rk_0 (by decide)).elim) (fun h9 => ?_)
    refine rn_iload_n (i := 1) dX10_refuses_7 rfl rfl ?_
    refine rn_if_eq (tgt := 16) dX10_refuses_8 (by decide) (fun h10 => (cx_eq (cv_eq h10) rk_1 rk_0 (by decide)).elim) (fun h10 => ?_)
    refine rn_aload_n (i := 0) dX10_refuses_11 rfl rfl ?_
    refine rn_iload_n (i := 2) dX10_refuses_12 rfl rfl ?_
    refine rs_put q1 (kp_SGModel_137 _) hS3 hq1 hl3 hf3 hk_30 rfl rfl (tv_i (rg_w rk_1 (by decide) (by decide))) rfl rfl dX10_refuses_13 (fun w11 fs12 hS12 hl12 hf12 hx12 ho12 hn12 => ?_)
    have fk13 : fK1 4 S ws w11 := fk_put fk4 hS3.1 hq1 hl3 hl12 ho12 (by decide)
    refine rn_aload_n (i := 0) dX10_refuses_16 rfl rfl ?_
    refine rn_get q1 kg_SGModel_137 hl12 hx12 dX10_refuses_17 ?_
    refine rn_if_le (tgt := 27) dX10_refuses_20 (by decide) (fun h14 => (cx_le (cv_le h14) rk_1 rk_0 (by decide)).elim) (fun h14 => ?_)
    refine rn_iconst (v := (1 : Int32)) dX10_refuses_23 (by decide) ?_
    refine rn_goto (tgt := 28) dX10_refuses_24 (by decide) ?_
    refine rn_iret dX10_refuses_28 rfl rfl (rq_in ?_)
    refine rn_stk [.int (1 : Int32)] rfl ?_
    refine rn_if_ne (tgt := 35) dX10_keep_27 (by decide) (fun h15 => ?_) (fun h15 => (cx_eq (cv_eq h15) rk_1 rk_0 (by decide)).elim)
    exact rn_vret dX10_keep_35 rfl (rq_in ⟨hS12, rfl, fk13⟩)
  · have ch6 := cv_nlt h6
    have r16 : Rg (0) (2147483647) x1_ := rf_ley ch6 rk_0 (rg_any x1_) (by decide)
    refine rn_iload_n (i := 0) dX10_in_5 rfl rfl ?_
    refine rn_iload_n (i := 2) dX10_in_6 rfl rfl ?_
    refine rn_icmp_gt (tgt := 14) dX10_in_7 (by decide) (fun h17 => ?_) (fun h17 => ?_)
    · have ch17 := cv_lt h17
      have r18 : Rg (1) (2147483647) x1_ := rf_lty ch17 rx5 r16 (by decide)
      refine rn_iconst (v := (0 : Int32)) dX10_in_14 (by decide) ?_
      refine rn_iret dX10_in_15 rfl rfl (rq_in ?_)
      refine rn_stk [.int (0 : Int32), .ref o0_] rfl ?_
      refine rn_if_ne (tgt := 22) dX10_keep_15 (by decide) (fun h19 => (cx_ne (cv_ne h19) rk_0 rk_0 (by decide)).elim) (fun h19 => ?_)
      refine rn_iconst (v := (1 : Int32)) dX10_keep_18 (by decide) ?_
      refine rn_goto (tgt := 23) dX10_keep_19 (by decide) ?_
      refine rn_iconst (v := (1 : Int32)) dX10_keep_23 (by decide) ?_
      refine rn_inV (d' := 0) (z' := 0) [.int (1 : Int32), .int (1 : Int32)] kl_SGModel_171 dX10_keep_24 q1 hl3 rfl rfl rfl (Nat.le_of_ble_eq_true rfl) (Nat.le_of_ble_eq_true rfl) (Nat.le_of_ble_eq_true rfl) (Nat.le_of_ble_eq_true rfl) ?_
      refine rn_lv [(0, .ref o0_), (1, .int (1 : Int32)), (2, .int (1 : Int32))] rfl ?_
      refine rn_aload_n (i := 0) dX10_refuses_0 rfl rfl ?_
      refine rn_get q1 kg_SGModel_137 hl3 hx3 dX10_refuses_1 ?_
      refine rn_if_ne (tgt := 16) dX10_refuses_4 (by decide) (fun h20 => (cx_ne (cv_ne h20) rk_0 rk_0 (by decide)).elim) (fun h20 => ?_)
      refine rn_iload_n (i := 1) dX10_refuses_7 rfl rfl ?_
      refine rn_if_eq (tgt := 16) dX10_refuses_8 (by decide) (fun h21 => (cx_eq (cv_eq h21) rk_1 rk_0 (by decide)).elim) (fun h21 => ?_)
      refine rn_aload_n (i := 0) dX10_refuses_11 rfl rfl ?_
      refine rn_iload_n (i := 2) dX10_refuses_12 rfl rfl ?_
      refine rs_put q1 (kp_SGModel_137 _) hS3 hq1 hl3 hf3 hk_30 rfl rfl (tv_i (rg_w rk_1 (by decide) (by decide))) rfl rfl dX10_refuses_13 (fun w22 fs23 hS23 hl23 hf23 hx23 ho23 hn23 => ?_)
      have fk24 : fK1 4 S ws w22 := fk_put fk4 hS3.1 hq1 hl3 hl23 ho23 (by decide)
      refine rn_aload_n (i := 0) dX10_refuses_16 rfl rfl ?_
      refine rn_get q1 kg_SGModel_137 hl23 hx23 dX10_refuses_17 ?_
      refine rn_if_le (tgt := 27) dX10_refuses_20 (by decide) (fun h25 => (cx_le (cv_le h25) rk_1 rk_0 (by decide)).elim) (fun h25 => ?_)
      refine rn_iconst (v := (1 : Int32)) dX10_refuses_23 (by decide) ?_
      refine rn_goto (tgt := 28) dX10_refuses_24 (by decide) ?_
      refine rn_iret dX10_refuses_28 rfl rfl (rq_in ?_)
      refine rn_stk [.int (1 : Int32)] rfl ?_
      refine rn_if_ne (tgt := 35) dX10_keep_27 (by decide) (fun h26 => ?_) (fun h26 => (cx_eq (cv_eq h26) rk_1 rk_0 (by decide)).elim)
      exact rn_vret dX10_keep_35 rfl (rq_in ⟨hS23, rfl, fk24⟩)
    · have ch17 := cv_nlt h17
      have r27 : Rg (0) (2000) x1_ := rf_lex ch17 r16 rx5 (by decide)
      refine rn_iconst (v := (1 : Int32)) dX10_in_10 (by decide) ?_
      refine rn_goto (tgt := 15) dX10_in_11 (by decide) ?_
      refine rn_iret dX10_in_15 rfl rfl (rq_in ?_)
      refine rn_stk [.int (1 : Int32), .ref o0_] rfl ?_
      refine rn_if_ne (tgt := 22) dX10_keep_15 (by decide) (fun h28 => ?_) (fun h28 => (cx_eq (cv_eq h28) rk_1 rk_0 (by decide)).elim)
      refine rn_iconst (v := (0 : Int32)) dX10_keep_22 (by decide) ?_
      refine rn_iconst (v := (1 : Int32)) dX10_keep_23 (by decide) ?_
      refine rn_inV (d' := 0) (z' := 0) [.int (0 : Int32), .int (1 : Int32)] kl_SGModel_171 dX10_keep_24 q1 hl3 rfl rfl rfl (Nat.le_of_ble_eq_true rfl) (Nat.le_of_ble_eq_true rfl) (Nat.le_of_ble_eq_true rfl) (Nat.le_of_ble_eq_true rfl) ?_
      refine rn_lv [(0, .ref o0_), (1, .int (0 : Int32)), (2, .int (1 : Int32))] rfl ?_
      refine rn_aload_n (i := 0) dX10_refuses_0 rfl rfl ?_
      refine rn_get q1 kg_SGModel_137 hl3 hx3 dX10_refuses_1 ?_
      refine rn_if_ne (tgt := 16) dX10_refuses_4 (by decide) (fun h29 => (cx_ne (cv_ne h29) rk_0 rk_0 (by decide)).elim) (fun h29 => ?_)
      refine rn_iload_n (i := 1) dX10_refuses_7 rfl rfl ?_
      refine rn_if_eq (tgt := 16) dX10_refuses_8 (by decide) (fun h30 => ?_) (fun h30 => (cx_ne (cv_ne h30) rk_0 rk_0 (by decide)).elim)
      refine rn_aload_n (i := 0) dX10_refuses_16 rfl rfl ?_
      refine rn_get q1 kg_SGModel_137 hl3 hx3 dX10_refuses_17 ?_
      refine rn_if_le (tgt := 27) dX10_refuses_20 (by decide) (fun h31 => ?_) (fun h31 => (cx_lt (cv_nle h31) rk_0 rk_0 (by decide)).elim)
      refine rn_iconst (v := (0 : Int32)) dX10_refuses_27 (by decide) ?_
      refine rn_iret dX10_refuses_28 rfl rfl (rq_in ?_)
      refine rn_stk [.int (0 : Int32)] rfl ?_
      refine rn_if_ne (tgt := 35) dX10_keep_27 (by decide) (fun h32 => (cx_ne (cv_ne h32) rk_0 rk_0 (by decide)).elim) (fun h32 => ?_)
      refine rn_aload_n (i := 0) dX10_keep_30 rfl rfl ?_
      refine rn_iload_n (i := 1) dX10_keep_31 rfl rfl ?_
      refine rs_put q1 (kp_SGModel_168 _) hS3 hq1 hl3 hf3 hk_30 rfl rfl (tv_i r27) rfl rfl dX10_keep_32 (fun w33 fs34 hS34 hl34 hf34 hx34 ho34 hn34 => ?_)
      have fk35 : fK1 4 S ws w33 := fk_put fk4 hS3.1 hq1 hl3 hl34 ho34 (by decide)
      exact rn_vret dX10_keep_35 rfl (rq_in ⟨hS34, rfl, fk35⟩)
abbrev q_t_X10_poke (G : rn_G) (S : ts_S) (ws : va_W) : rn_R → va_W → Prop := rQ (fun v w => St G S [30, 33] ws S w ∧ (∃ x : Int32, v = some (.int x) ∧ Rg (0) (255) x ∧ fK1 4 S ws w)) (fun E w => False)
set_option maxRecDepth 20000 in
set_option maxHeartbeats 4000000 in
theorem t_X10_poke (G : rn_G) (S : ts_S) (ws : va_W) (hW : ts_W G S ws) (o0_ : Nat) (m0_ : (o0_, 30) ∈ S) (x1_ : Int32) (x2_ : Int32) : Rn G mX10_poke 1 22 0 0 0 (lv_args 0 [.ref o0_, .int x1_, .int x2_]) [] ws (q_t_X10_poke G S ws ) := by
  have hS0 : St G S [30, 33] ws S ws := St.rf hW
  have fk0 : fK1 4 S ws ws := fun v h => h
  refine rn_lv [(0, .ref o0_), (1, .int x1_), (2, .int x2_)] rfl ?_
  refine rn_aload_n (i := 0) dX10_poke_0 rfl rfl ?_
  refine rn_iconst (v := (0 : Int32)) dX10_poke_1 (by decide) ?_
  obtain ⟨q1, fs1, hq1, hl1, hf1⟩ := ts_obj hS0.1 m0_ hk_30
  refine rs_put q1 (kp_SGModel_137 _) hS0 hq1 hl1 hf1 hk_30 rfl rfl (tv_i (rg_w rk_0 (by decide) (by decide))) rfl rfl dX10_poke_2 (fun w2 fs3 hS3 hl3 hf3 hx3 ho3 hn3 => ?_)
  have fk4 : fK1 4 S ws w2 := fk_put fk0 hS0.1 hq1 hl1 hl3 ho3 (by decide)
  refine rn_aload_n (i := 0) dX10_poke_5 rfl rfl ?_
  refine rn_iload_n (i := 1) dX10_poke_6 rfl rfl ?_
  refine rn_iconst (v := (0 : Int32)) dX10_poke_7 (by decide) ?_
  refine rn_aload_n (i := 0) dX10_poke_8 rfl rfl ?_
  obtain ⟨x5, hx5, rx5⟩ := fs_i hf3 3 rfl
  refine rn_get q1 kg_SGModel_168 hl3 hx5 dX10_poke_9 ?_
  refine rn_iconst (v := (1 : Int32)) dX10_poke_12 (by decide) ?_
  refine rs_subC (-1) (1999) rx5 rk_1 dX10_poke_13 (by decide) (fun v6 ev6 rv6 => ?_)
  refine rn_inS (d' := 0) (z' := 0) [.int x1_, .int (0 : Int32), .int v6] kl_SGModel_179 dX10_poke_14 rfl rfl (Nat.le_of_ble_eq_true rfl) (Nat.le_of_ble_eq_true rfl) (Nat.le_of_ble_eq_true rfl) (Nat.le_of_ble_eq_true rfl) ?_
  refine rn_lv [(0, .int x1_), (1, .int (0 : Int32)), (2, .int v6)] rfl ?_
  refine rn_iload_n (i := 0) dX10_in_0 rfl rfl ?_
  refine rn_iload_n (i := 1) dX10_in_1 rfl rfl ?_
  refine rn_icmp_lt (tgt := 14) dX10_in_2 (by decide) (fun h7 => ?_) (fun h7 => ?_)
  · have ch7 := cv_lt h7
    have r8 : Rg (-2147483648) (-1) x1_ := rf_ltx ch7 (rg_any x1_) rk_0 (by decide)
    refine rn_iconst (v := (0 : Int32)) dX10_in_14 (by decide) ?_
    refine rn_iret dX10_in_15 rfl rfl (rq_in ?_)
    refine rn_stk [.int (0 : Int32), .ref o0_] rfl ?_
    refine rn_if_ne (tgt := 24) dX10_poke_17 (by decide) (fun h9 => (cx_ne (cv_ne h9) rk_0 rk_0 (by decide)).elim) (fun h9 => ?_)
    refine rn_iconst (v := (1 : Int32)) dX10_poke_20 (by decide) ?_
    refine rn_goto (tgt := 25) dX10_poke_21 (by decide) ?_
    refine rn_iconst (v := (1 : Int32)) dX10_poke_25 (by decide) ?_
    refine rn_inV (d' := 0) (z' := 0) [.int (1 : Int32), .int (1 : Int32)] kl_SGModel_171 dX10_poke_26 q1 hl3 rfl rfl rfl (Nat.le_of_ble_eq_true rfl) (Nat.le_of_ble_eq_true rfl) (Nat.le_of_ble_eq_true rfl) (Nat.le_of_ble_eq_true rfl) ?_
    refine rn_lv [(0, .ref o0_), (1, .int (1 : Int32)), (2, .int (1 : Int32))] rfl ?_
    refine rn_aload_n (i := 0) dX10_refuses_0 rfl rfl ?_
    refine rn_get q1 kg_SGModel_137 hl3 hx3 dX10_refuses_1 ?_
    refine rn_if_ne (tgt := 16) dX10_refuses_4 (by decide) (fun h10 => (cx_ne (cv_ne h10) rk_0 rk_0 (by decide)).elim) (fun h10 => ?_)
    refine rn_iload_n (i := 1) dX10_refuses_7 rfl rfl ?_
    refine rn_if_eq (tgt := 16) dX10_refuses_8 (by decide) (fun h11 => (cx_eq (cv_eq h11) rk_1 rk_0 (by decide)).elim) (fun h11 => ?_)
    refine rn_aload_n (i := 0) dX10_refuses_11 rfl rfl ?_
    refine rn_iload_n (i := 2) dX10_refuses_12 rfl rfl ?_
    refine rs_put q1 (kp_SGModel_137 _) hS3 hq1 hl3 hf3 hk_30 rfl rfl (tv_i (rg_w rk_1 (by decide) (by decide))) rfl rfl dX10_refuses_13 (fun w12 fs13 hS13 hl13 hf13 hx13 ho13 hn13 => ?_)
    have fk14 : fK1 4 S ws w12 := fk_put fk4 hS3.1 hq1 hl3 hl13 ho13 (by decide)
    refine rn_aload_n (i := 0) dX10_refuses_16 rfl rfl ?_
    refine rn_get q1 kg_SGModel_137 hl13 hx13 dX10_refuses_17 ?_
    refine rn_if_le (tgt := 27) dX10_refuses_20 (by decide) (fun h15 => (cx_le (cv_le h15) rk_1 rk_0 (by decide)).elim) (fun h15 => ?_)
    refine rn_iconst (v := (1 : Int32)) dX10_refuses_23 (by decide) ?_
    refine rn_goto (tgt := 28) dX10_refuses_24 (by decide) ?_
    refine rn_iret dX10_refuses_28 rfl rfl (rq_in ?_)
    refine rn_stk [.int (1 : Int32)] rfl ?_
    refine rn_if_ne (tgt := 56) dX10_poke_29 (by decide) (fun h16 => ?_) (fun h16 => (cx_eq (cv_eq h16) rk_1 rk_0 (by decide)).elim)
    refine rn_iconst (v := (0 : Int32)) dX10_poke_56 (by decide) ?_
    exact rn_iret dX10_poke_57 rfl rfl (rq_in ⟨hS13, (0 : Int32), rfl, (rg_w rk_0 (by decide) (by decide)), fk14⟩)
  · have ch7 := cv_nlt h7
    have r17 : Rg (0) (2147483647) x1_ := rf_ley ch7 rk_0 (rg_any x1_) (by decide)
    refine rn_iload_n (i := 0) dX10_in_5 rfl rfl ?_
    refine rn_iload_n (i := 2) dX10_in_6 rfl rfl ?_
    refine rn_icmp_gt (tgt := 14) dX10_in_7 (by decide) (fun h18 => ?_) (fun h18 => ?_)
    · have ch18 := cv_lt h18
      refine rn_iconst (v := (0 : Int32)) dX10_in_14 (by decide) ?_
      refine rn_iret dX10_in_15 rfl rfl (rq_in ?_)
      refine rn_stk [.int (0 : Int32), .ref o0_] rfl ?_
      refine rn_if_ne (tgt := 24) dX10_poke_17 (by decide) (fun h19 => (cx_ne (cv_ne h19) rk_0 rk_0 (by decide)).elim) (fun h19 => ?_)
      refine rn_iconst (v := (1 : Int32)) dX10_poke_20 (by decide) ?_
      refine rn_goto (tgt := 25) dX10_poke_21 (by decide) ?_
      refine rn_iconst (v := (1 : Int32)) dX10_poke_25 (by decide) ?_
      refine rn_inV (d' := 0) (z' := 0) [.int (1 : Int32), .int (1 : Int32)] kl_SGModel_171 dX10_poke_26 q1 hl3 rfl rfl rfl (Nat.le_of_ble_eq_true rfl) (Nat.le_of_ble_eq_true rfl) (Nat.le_of_ble_eq_true rfl) (Nat.le_of_ble_eq_true rfl) ?_
      refine rn_lv [(0, .ref o0_), (1, .int (1 : Int32)), (2, .int (1 : Int32))] rfl ?_
      refine rn_aload_n (i := 0) dX10_refuses_0 rfl rfl ?_
      refine rn_get q1 kg_SGModel_137 hl3 hx3 dX10_refuses_1 ?_
      refine rn_if_ne (tgt := 16) dX10_refuses_4 (by decide) (fun h20 => (cx_ne (cv_ne h20) rk_0 rk_0 (by decide)).elim) (fun h20 => ?_)
      refine rn_iload_n (i := 1) dX10_refuses_7 rfl rfl ?_
      refine rn_if_eq (tgt := 16) dX10_refuses_8 (by decide) (fun h21 => (cx_eq (cv_eq h21) rk_1 rk_0 (by decide)).elim) (fun h21 => ?_)
      refine rn_aload_n (i := 0) dX10_refuses_11 rfl rfl ?_
      refine rn_iload_n (i := 2) dX10_refuses_12 rfl rfl ?_
      refine rs_put q1 (kp_SGModel_137 _) hS3 hq1 hl3 hf3 hk_30 rfl rfl (tv_i (rg_w rk_1 (by decide) (by decide))) rfl rfl dX10_refuses_13 (fun w22 fs23 hS23 hl23 hf23 hx23 ho23 hn23 => ?_)
      have fk24 : fK1 4 S ws w22 := fk_put fk4 hS3.1 hq1 hl3 hl23 ho23 (by decide)
      refine rn_aload_n (i := 0) dX10_refuses_16 rfl rfl ?_
      refine rn_get q1 kg_SGModel_137 hl23 hx23 dX10_refuses_17 ?_
      refine rn_if_le (tgt := 27) dX10_refuses_20 (by decide) (fun h25 => (cx_le (cv_le h25) rk_1 rk_0 (by decide)).elim) (fun h25 => ?_)
      refine rn_iconst (v := (1 : Int32)) dX10_refuses_23 (by decide) ?_
      refine rn_goto (tgt := 28) dX10_refuses_24 (by decide) ?_
      refine rn_iret dX10_refuses_28 rfl rfl (rq_in ?_)
      refine rn_stk [.int (1 : Int32)] rfl ?_
      refine rn_if_ne (tgt := 56) dX10_poke_29 (by decide) (fun h26 => ?_) (fun h26 => (cx_eq (cv_eq h26) rk_1 rk_0 (by decide)).elim)
      refine rn_iconst (v := (0 : Int32)) dX10_poke_56 (by decide) ?_
      exact rn_iret dX10_poke_57 rfl rfl (rq_in ⟨hS23, (0 : Int32), rfl, (rg_w rk_0 (by decide) (by decide)), fk24⟩)
    · have ch18 := cv_nlt h18
      have r27 : Rg (0) (1999) x1_ := rf_lex ch18 r17 rv6 (by decide)
      have r28 : Rg (0) (1999) v6 := rf_ley ch18 r17 rv6 (by decide)
      refine rn_iconst (v := (1 : Int32)) dX10_in_10 (by decide) ?_
      refine rn_goto (tgt := 15) dX10_in_11 (by decide) ?_
      refine rn_iret dX10_in_15 rfl rfl (rq_in ?_)
      refine rn_stk [.int (1 : Int32), .ref o0_] rfl ?_
      refine rn_if_ne (tgt := 24) dX10_poke_17 (by decide) (fun h29 => ?_) (fun h29 => (cx_eq (cv_eq h29) rk_1 rk_0 (by decide)).elim)
      refine rn_iconst (v := (0 : Int32)) dX10_poke_24 (by decide) ?_
      refine rn_iconst (v := (1 : Int32)) dX10_poke_25 (by decide) ?_
      refine rn_inV (d' := 0) (z' := 0) [.int (0 : Int32), .int (1 : Int32)] kl_SGModel_171 dX10_poke_26 q1 hl3 rfl rfl rfl (Nat.le_of_ble_eq_true rfl) (Nat.le_of_ble_eq_true rfl) (Nat.le_of_ble_eq_true rfl) (Nat.le_of_ble_eq_true rfl) ?_
      refine rn_lv [(0, .ref o0_), (1, .int (0 : Int32)), (2, .int (1 : Int32))] rfl ?_
      refine rn_aload_n (i := 0) dX10_refuses_0 rfl rfl ?_
      refine rn_get q1 kg_SGModel_137 hl3 hx3 dX10_refuses_1 ?_
      refine rn_if_ne (tgt := 16) dX10_refuses_4 (by decide) (fun h30 => (cx_ne (cv_ne h30) rk_0 rk_0 (by decide)).elim) (fun h30 => ?_)
      refine rn_iload_n (i := 1) dX10_refuses_7 rfl rfl ?_
      refine rn_if_eq (tgt := 16) dX10_refuses_8 (by decide) (fun h31 => ?_) (fun h31 => (cx_ne (cv_ne h31) rk_0 rk_0 (by decide)).elim)
      refine rn_aload_n (i := 0) dX10_refuses_16 rfl rfl ?_
      refine rn_get q1 kg_SGModel_137 hl3 hx3 dX10_refuses_17 ?_
      refine rn_if_le (tgt := 27) dX10_refuses_20 (by decide) (fun h32 => ?_) (fun h32 => (cx_lt (cv_nle h32) rk_0 rk_0 (by decide)).elim)
      refine rn_iconst (v := (0 : Int32)) dX10_refuses_27 (by decide) ?_
      refine rn_iret dX10_refuses_28 rfl rfl (rq_in ?_)
      refine rn_stk [.int (0 : Int32)] rfl ?_
      refine rn_if_ne (tgt := 56) dX10_poke_29 (by decide) (fun h33 => (cx_ne (cv_ne h33) rk_0 rk_0 (by decide)).elim) (fun h33 => ?_)
      refine rn_aload_n (i := 0) dX10_poke_32 rfl rfl ?_
      refine rn_iload_n (i := 2) dX10_poke_33 rfl rfl ?_
      refine rn_iconst (v := (0 : Int32)) dX10_poke_34 (by decide) ?_
      refine rn_sipush (v := (255 : Int32)) dX10_poke_35 (by decide) ?_
      refine rn_inS (d' := 0) (z' := 0) [.int x2_, .int (0 : Int32), .int (255 : Int32)] kl_SGModel_179 dX10_poke_38 rfl rfl (Nat.le_of_ble_eq_true rfl) (Nat.le_of_ble_eq_true rfl) (Nat.le_of_ble_eq_true rfl) (Nat.le_of_ble_eq_true rfl) ?_
      refine rn_lv [(0, .int x2_), (1, .int (0 : Int32)), (2, .int (255 : Int32))] rfl ?_
      refine rn_iload_n (i := 0) dX10_in_0 rfl rfl ?_
      refine rn_iload_n (i := 1) dX10_in_1 rfl rfl ?_
      refine rn_icmp_lt (tgt := 14) dX10_in_2 (by decide) (fun h34 => ?_) (fun h34 => ?_)
      · have ch34 := cv_lt h34
        have r35 : Rg (-2147483648) (-1) x2_ := rf_ltx ch34 (rg_any x2_) rk_0 (by decide)
        refine rn_iconst (v := (0 : Int32)) dX10_in_14 (by decide) ?_
        refine rn_iret dX10_in_15 rfl rfl (rq_in ?_)
        refine rn_stk [.int (0 : Int32), .ref o0_] rfl ?_
        refine rn_if_ne (tgt := 48) dX10_poke_41 (by decide) (fun h36 => (cx_ne (cv_ne h36) rk_0 rk_0 (by decide)).elim) (fun h36 => ?_)
        refine rn_iconst (v := (1 : Int32)) dX10_poke_44 (by decide) ?_
        refine rn_goto (tgt := 49) dX10_poke_45 (by decide) ?_
        refine rn_iconst (v := (2 : Int32)) dX10_poke_49 (by decide) ?_
        refine rn_inV (d' := 0) (z' := 0) [.int (1 : Int32), .int (2 : Int32)] kl_SGModel_171 dX10_poke_50 q1 hl3 rfl rfl rfl (Nat.le_of_ble_eq_true rfl) (Nat.le_of_ble_eq_true rfl) (Nat.le_of_ble_eq_true rfl) (Nat.le_of_ble_eq_true rfl) ?_
        refine rn_lv [(0, .ref o0_), (1, .int (1 : Int32)), (2, .int (2 : Int32))] rfl ?_
        refine rn_aload_n (i := 0) dX10_refuses_0 rfl rfl ?_
        refine rn_get q1 kg_SGModel_137 hl3 hx3 dX10_refuses_1 ?_
        refine rn_if_ne (tgt := 16) dX10_refuses_4 (by decide) (fun h37 => (cx_ne (cv_ne h37) rk_0 rk_0 (by decide)).elim) (fun h37 => ?_)
        refine rn_iload_n (i := 1) dX10_refuses_7 rfl rfl ?_
        refine rn_if_eq (tgt := 16) dX10_refuses_8 (by decide) (fun h38 => (cx_eq (cv_eq h38) rk_1 rk_0 (by decide)).elim) (fun h38 => ?_)
        refine rn_aload_n (i := 0) dX10_refuses_11 rfl rfl ?_
        refine rn_iload_n (i := 2) dX10_refuses_12 rfl rfl ?_
        refine rs_put q1 (kp_SGModel_137 _) hS3 hq1 hl3 hf3 hk_30 rfl rfl (tv_i (rg_w rk_2 (by decide) (by decide))) rfl rfl dX10_refuses_13 (fun w39 fs40 hS40 hl40 hf40 hx40 ho40 hn40 => ?_)
        have fk41 : fK1 4 S ws w39 := fk_put fk4 hS3.1 hq1 hl3 hl40 ho40 (by decide)
        refine rn_aload_n (i := 0) dX10_refuses_16 rfl rfl ?_
        refine rn_get q1 kg_SGModel_137 hl40 hx40 dX10_refuses_17 ?_
        refine rn_if_le (tgt := 27) dX10_refuses_20 (by decide) (fun h42 => (cx_le (cv_le h42) rk_2 rk_0 (by decide)).elim) (fun h42 => ?_)
        refine rn_iconst (v := (1 : Int32)) dX10_refuses_23 (by decide) ?_
        refine rn_goto (tgt := 28) dX10_refuses_24 (by decide) ?_
        refine rn_iret dX10_refuses_28 rfl rfl (rq_in ?_)
        refine rn_stk [.int (1 : Int32)] rfl ?_
        refine rn_if_eq (tgt := 58) dX10_poke_53 (by decide) (fun h43 => (cx_eq (cv_eq h43) rk_1 rk_0 (by decide)).elim) (fun h43 => ?_)
        refine rn_iconst (v := (0 : Int32)) dX10_poke_56 (by decide) ?_
        exact rn_iret dX10_poke_57 rfl rfl (rq_in ⟨hS40, (0 : Int32), rfl, (rg_w rk_0 (by decide) (by decide)), fk41⟩)
      · have ch34 := cv_nlt h34
        have r44 : Rg (0) (2147483647) x2_ := rf_ley ch34 rk_0 (rg_any x2_) (by decide)
        refine rn_iload_n (i := 0) dX10_in_5 rfl rfl ?_
        refine rn_iload_n (i := 2) dX10_in_6 rfl rfl ?_
        refine rn_icmp_gt (tgt := 14) dX10_in_7 (by decide) (fun h45 => ?_) (fun h45 => ?_)
        · have ch45 := cv_lt h45
          have r46 : Rg (256) (2147483647) x2_ := rf_lty ch45 rk_255 r44 (by decide)
          refine rn_iconst (v := (0 : Int32)) dX10_in_14 (by decide) ?_
          refine rn_iret dX10_in_15 rfl rfl (rq_in ?_)
          refine rn_stk [.int (0 : Int32), .ref o0_] rfl ?_
          refine rn_if_ne (tgt := 48) dX10_poke_41 (by decide) (fun h47 => (cx_ne (cv_ne h47) rk_0 rk_0 (by decide)).elim) (fun h47 => ?_)
          refine rn_iconst (v := (1 : Int32)) dX10_poke_44 (by decide) ?_
          refine rn_goto (tgt := 49) dX10_poke_45 (by decide) ?_
          refine rn_iconst (v := (2 : Int32)) dX10_poke_49 (by decide) ?_
          refine rn_inV (d' := 0) (z' := 0) [.int (1 : Int32), .int (2 : Int32)] kl_SGModel_171 dX10_poke_50 q1 hl3 rfl rfl rfl (Nat.le_of_ble_eq_true rfl) (Nat.le_of_ble_eq_true rfl) (Nat.le_of_ble_eq_true rfl) (Nat.le_of_ble_eq_true rfl) ?_
          refine rn_lv [(0, .ref o0_), (1, .int (1 : Int32)), (2, .int (2 : Int32))] rfl ?_
          refine rn_aload_n (i := 0) dX10_refuses_0 rfl rfl ?_
          refine rn_get q1 kg_SGModel_137 hl3 hx3 dX10_refuses_1 ?_
          refine rn_if_ne (tgt := 16) dX10_refuses_4 (by decide) (fun h48 => (cx_ne (cv_ne h48) rk_0 rk_0 (by decide)).elim) (fun h48 => ?_)
          refine rn_iload_n (i := 1) dX10_refuses_7 rfl rfl ?_
          refine rn_if_eq (tgt := 16) dX10_refuses_8 (by decide) (fun h49 => (cx_eq (cv_eq h49) rk_1 rk_0 (by decide)).elim) (fun h49 => ?_)
          refine rn_aload_n (i := 0) dX10_refuses_11 rfl rfl ?_
          refine rn_iload_n (i := 2) dX10_refuses_12 rfl rfl ?_
          refine rs_put q1 (kp_SGModel_137 _) hS3 hq1 hl3 hf3 hk_30 rfl rfl (tv_i (rg_w rk_2 (by decide) (by decide))) rfl rfl dX10_refuses_13 (fun w50 fs51 hS51 hl51 hf51 hx51 ho51 hn51 => ?_)
          have fk52 : fK1 4 S ws w50 := fk_put fk4 hS3.1 hq1 hl3 hl51 ho51 (by decide)
          refine rn_aload_n (i := 0) dX10_refuses_16 rfl rfl ?_
          refine rn_get q1 kg_SGModel_137 hl51 hx51 dX10_refuses_17 ?_
          refine rn_if_le (tgt := 27) dX10_refuses_20 (by decide) (fun h53 => (cx_le (cv_le h53) rk_2 rk_0 (by decide)).elim) (fun h53 => ?_)
          refine rn_iconst (v := (1 : Int32)) dX10_refuses_23 (by decide) ?_
          refine rn_goto (tgt := 28) dX10_refuses_24 (by decide) ?_
          refine rn_iret dX10_refuses_28 rfl rfl (rq_in ?_)
          refine rn_stk [.int (1 : Int32)] rfl ?_
          refine rn_if_eq (tgt := 58) dX10_poke_53 (by decide) (fun h54 => (cx_eq (cv_eq h54) rk_1 rk_0 (by decide)).elim) (fun h54 => ?_)
          refine rn_iconst (v := (0 : Int32)) dX10_poke_56 (by decide) ?_
          exact rn_iret dX10_poke_57 rfl rfl (rq_in ⟨hS51, (0 : Int32), rfl, (rg_w rk_0 (by decide) (by decide)), fk52⟩)
        · have ch45 := cv_nlt h45
          have r55 : Rg (0) (255) x2_ := rf_lex ch45 r44 rk_255 (by decide)
          refine rn_iconst (v := (1 : Int32)) dX10_in_10 (by decide) ?_
          refine rn_goto (tgt := 15) dX10_in_11 (by decide) ?_
          refine rn_iret dX10_in_15 rfl rfl (rq_in ?_)
          refine rn_stk [.int (1 : Int32), .ref o0_] rfl ?_
          refine rn_if_ne (tgt := 48) dX10_poke_41 (by decide) (fun h56 => ?_) (fun h56 => (cx_eq (cv_eq h56) rk_1 rk_0 (by decide)).elim)
          refine rn_iconst (v := (0 : Int32)) dX10_poke_48 (by decide) ?_
          refine rn_iconst (v := (2 : Int32)) dX10_poke_49 (by decide) ?_
          refine rn_inV (d' := 0) (z' := 0) [.int (0 : Int32), .int (2 : Int32)] kl_SGModel_171 dX10_poke_50 q1 hl3 rfl rfl rfl (Nat.le_of_ble_eq_true rfl) (Nat.le_of_ble_eq_true rfl) (Nat.le_of_ble_eq_true rfl) (Nat.le_of_ble_eq_true rfl) ?_
          refine rn_lv [(0, .ref o0_), (1, .int (0 : Int32)), (2, .int (2 : Int32))] rfl ?_
          refine rn_aload_n (i := 0) dX10_refuses_0 rfl rfl ?_
          refine rn_get q1 kg_SGModel_137 hl3 hx3 dX10_refuses_1 ?_
          refine rn_if_ne (tgt := 16) dX10_refuses_4 (by decide) (fun h57 => (cx_ne (cv_ne h57) rk_0 rk_0 (by decide)).elim) (fun h57 => ?_)
          refine rn_iload_n (i := 1) dX10_refuses_7 rfl rfl ?_
          refine rn_if_eq (tgt := 16) dX10_refuses_8 (by decide) (fun h58 => ?_) (fun h58 => (cx_ne (cv_ne h58) rk_0 rk_0 (by decide)).elim)
          refine rn_aload_n (i := 0) dX10_refuses_16 rfl rfl ?_
          refine rn_get q1 kg_SGModel_137 hl3 hx3 dX10_refuses_17 ?_
          refine rn_if_le (tgt := 27) dX10_refuses_20 (by decide) (fun h59 => ?_) (fun h59 => (cx_lt (cv_nle h59) rk_0 rk_0 (by decide)).elim)
          refine rn_iconst (v := (0 : Int32)) dX10_refuses_27 (by decide) ?_
          refine rn_iret dX10_refuses_28 rfl rfl (rq_in ?_)
          refine rn_stk [.int (0 : Int32)] rfl ?_
          refine rn_if_eq (tgt := 58) dX10_poke_53 (by decide) (fun h60 => ?_) (fun h60 => (cx_ne (cv_ne h60) rk_0 rk_0 (by decide)).elim)
          refine rn_aload_n (i := 0) dX10_poke_58 rfl rfl ?_
          obtain ⟨o61, hx61, m61⟩ := fs_r hf3 2 rfl
          refine rn_get q1 kg_SGModel_7 hl3 hx61 dX10_poke_59 ?_
          refine rn_iconst (v := (0 : Int32)) dX10_poke_62 (by decide) ?_
          refine rn_iload_n (i := 1) dX10_poke_63 rfl rfl ?_
          refine rs_addD (0) (1999) rk_0 r27 dX10_poke_64 (by decide) (fun v62 ev62 rv62 => ?_)
          obtain ⟨q63, f63, hq63, hl63, hf63⟩ := ts_ia hS3.1 m61 hk_33
          refine rs_iald q63 hl63 hf63 rfl rv62 (by decide) (by decide) dX10_poke_65 (fun v64 ev64 rv64 => ?_)
          refine rn_istore_n dX10_poke_66 rfl (by decide) [(0, .ref o0_), (1, .int x1_), (2, .int x2_), (3, .int v64)] rfl ?_
          refine rn_aload_n (i := 0) dX10_poke_67 rfl rfl ?_
          refine rn_get q1 kg_SGModel_7 hl3 hx61 dX10_poke_68 ?_
          refine rn_iconst (v := (0 : Int32)) dX10_poke_71 (by decide) ?_
          refine rn_iload_n (i := 1) dX10_poke_72 rfl rfl ?_
          refine rs_addD (0) (1999) rk_0 r27 dX10_poke_73 (by decide) (fun v65 ev65 rv65 => ?_)
          refine rn_iload_n (i := 2) dX10_poke_74 rfl rfl ?_
          refine rs_iast q63 hS3 hq63 hl63 hf63 hk_33 rfl rfl rv65 (by decide) (by decide) r55 dX10_poke_75 (fun w66 f67 hS67 hl67 hf67 hu67 hn67 => ?_)
          have fk68 : fK1 4 S ws w66 := fk_ne fk4 hn67 hq63 rfl
          refine rn_iload_n (i := 3) dX10_poke_76 rfl rfl ?_
          exact rn_iret dX10_poke_77 rfl rfl (rq_in ⟨hS67, v64, rfl, rv64, fk68⟩)
