abbrev q_t_X9_come (G : rn_G) (S : ts_S) (ws : va_W) : rn_R → va_W → Prop := rQ (fun v w => ∃ S' : ts_S, St G S [0, 1, 2, 4, 8, 9, 11, 12, 13, 14, 20] ws S' w ∧ (∃ x : Int32, v = some (.int x) ∧ Rg (0) (17) x)) (fun E w => ∃ S' : ts_S, St G S [0, 1, 2, 4, 8, 9, 11, 12, 13, 14, 20] ws S' w ∧ (E = "java/lang/IllegalArgumentException"))
set_option maxRecDepth 20000 in
set_option maxHeartbeats 4000000 in
theorem t_X9_come (G : rn_G) (S : ts_S) (ws : va_W) (hW : ts_W G S ws) (o0_ : Nat) (m0_ : (o0_, 9) ∈ S) (x1_ : Int32) : Rn G mX9_come 7 199 5 4030 0 (lv_args 0 [.ref o0_, .int x1_]) [] ws (q_t_X9_come G S ws ) := by
  have hS0 : St G S [0, 1, 2, 4, 8, 9, 11, 12, 13, 14, 20] ws S ws := St.rf hW
  refine rn_lv [(0, .ref o0_), (1, .int x1_)] rfl ?_
  refine rn_iload_n (i := 1) dX9_come_0 rfl rfl ?_
  refine rn_inS (d' := 0) (z' := 0) [.int x1_] kl_SG_136 dX9_come_1 rfl rfl (Nat.le_of_ble_eq_true rfl) (Nat.le_of_ble_eq_true rfl) (Nat.le_of_ble_eq_true rfl) (Nat.le_of_ble_eq_true rfl) ?_
  refine rn_lv [(0, .int x1_)] rfl ?_
  refine rn_iload_n (i := 0) dX9_isPortOrWay_0 rfl rfl ?_
  refine rn_if_eq (tgt := 9) dX9_isPortOrWay_1 (by decide) (fun h1 => ?_) (fun h1 => ?_)
  · have ch1 := cv_eq h1
    have r2 : Rg (0) (0) x1_ := rf_eqx ch1 (rg_any x1_) rk_0 (by decide) (by decide)
    refine rn_iconst (v := (1 : Int32)) dX9_isPortOrWay_9 (by decide) ?_
    refine rn_goto (tgt := 14) dX9_isPortOrWay_10 (by decide) ?_
    refine rn_iret dX9_isPortOrWay_14 rfl rfl (rq_in ?_)
    refine rn_stk [.int (1 : Int32)] rfl ?_
    refine rn_if_ne (tgt := 17) dX9_come_4 (by decide) (fun h3 => ?_) (fun h3 => (cx_eq (cv_eq h3) rk_1 rk_0 (by decide)).elim)
    refine rn_aload_n (i := 0) dX9_come_17 rfl rfl ?_
    obtain ⟨q4, fs4, hq4, hl4, hf4⟩ := ts_obj hS0.1 m0_ hk_9
    obtain ⟨o5, hx5, m5⟩ := fs_r hf4 2 rfl
    refine rn_get q4 kg_SG_16 hl4 hx5 dX9_come_18 ?_
    refine rn_aload_n (i := 0) dX9_come_21 rfl rfl ?_
    obtain ⟨o6, hx6, m6⟩ := fs_r hf4 1 rfl
    refine rn_get q4 kg_SG_10 hl4 hx6 dX9_come_22 ?_
    obtain ⟨q7, fs7, hq7, hl7, hf7⟩ := ts_obj hS0.1 m5 hk_4
    refine rn_callV (a := 5) (b := 4030) [.ref o6] kl_SG_214 dX9_come_25 q7 hl7 rfl (t_X4_copy G S ws hS0.1 o5 m5 o6 m6) rfl rfl (Nat.le_of_ble_eq_true rfl) (Nat.le_of_ble_eq_true rfl) (Nat.le_of_ble_eq_true rfl) (Nat.le_of_ble_eq_true rfl) (Nat.le_of_ble_eq_true rfl) (Nat.le_of_ble_eq_true rfl) (fun _ _ h => False.elim h) (fun v9 w8 h9 => ?_)
    obtain ⟨hT10, rfl⟩ := h9
    have hS10 := St.tr hS0 hT10 rfl
    refine rn_stk [] rfl ?_
    refine rn_iload_n (i := 1) dX9_come_28 rfl rfl ?_
    refine rn_if_ne (tgt := 39) dX9_come_29 (by decide) (fun h11 => (cx_ne (cv_ne h11) r2 rk_0 (by decide)).elim) (fun h11 => ?_)
    have ch11 := cv_eq h11
    refine rn_aload_n (i := 0) dX9_come_32 rfl rfl ?_
    refine rn_callV (a := 5) (b := 4030) [] kl_SG_218 dX9_come_33 q4 (hT10.fr hq4 rfl hl4) rfl (t_X9_throughInner G S w8 hS10.1 o0_ m0_) rfl rfl (Nat.le_of_ble_eq_true rfl) (Nat.le_of_ble_eq_true rfl) (Nat.le_of_ble_eq_true rfl) (Nat.le_of_ble_eq_true rfl) (Nat.le_of_ble_eq_true rfl) (Nat.le_of_ble_eq_true rfl) (fun _ _ h => False.elim h) (fun v9 w12 h13 => ?_)
    obtain ⟨hT15, v14, rfl, rv14⟩ := h13
    have hS15 := St.tr hS10 hT15 rfl
    refine rn_stk [.int v14] rfl ?_
    refine rn_goto (tgt := 43) dX9_come_36 (by decide) ?_
    refine rn_istore_n dX9_come_43 rfl (by decide) [(0, .ref o0_), (1, .int x1_), (2, .int v14)] rfl ?_
    refine rn_iload_n (i := 2) dX9_come_44 rfl rfl ?_
    refine rn_if_lt (tgt := 67) dX9_come_45 (by decide) (fun h16 => (cx_lt (cv_lt h16) rv14 rk_0 (by decide)).elim) (fun h16 => ?_)
    have ch16 := cv_nlt h16
    refine rn_iload_n (i := 2) dX9_come_48 rfl rfl ?_
    refine rn_aload_n (i := 0) dX9_come_49 rfl rfl ?_
    obtain ⟨q17, fs17, hq17, hl17, hf17⟩ := ts_obj hS15.1 m0_ hk_9
    obtain ⟨o18, hx18, m18⟩ := fs_r hf17 15 rfl
    refine rn_get q17 kg_SG_70 hl17 hx18 dX9_come_50 ?_
    obtain ⟨q19, f19, hq19, hl19, hf19⟩ := ts_ia hS15.1 m18 hk_20
    refine rs_alen q19 (v := (18 : Int32)) hl19 rfl (by decide) dX9_come_53 ?_
    refine rn_icmp_ge (tgt := 67) dX9_come_54 (by decide) (fun h20 => (cx_le (cv_le h20) rk_18 rv14 (by decide)).elim) (fun h20 => ?_)
    have ch20 := cv_nle h20
    refine rn_aload_n (i := 0) dX9_come_57 rfl rfl ?_
    refine rn_get q17 kg_SG_70 hl17 hx18 dX9_come_58 ?_
    refine rn_iload_n (i := 2) dX9_come_61 rfl rfl ?_
    refine rn_dup2_11 dX9_come_62 rfl rfl ?_
    refine rs_iald q19 hl19 hf19 rfl rv14 (by decide) (by decide) dX9_come_63 (fun v21 ev21 rv21 => ?_)
    refine rn_iconst (v := (1 : Int32)) dX9_come_64 (by decide) ?_
    refine rn_iadd dX9_come_65 (rn_nmA (fun v22 rv22 => ?_))
    refine rs_iast q19 hS15 hq19 hl19 hf19 hk_20 rfl rfl rv14 (by decide) (by decide) rv22 dX9_come_66 (fun w23 f24 hS24 hl24 hf24 hu24 hn24 => ?_)
    refine rn_iload_n (i := 2) dX9_come_67 rfl rfl ?_
    exact rn_iret dX9_come_68 rfl rfl (rq_in ⟨S, hS24, v14, rfl, (rg_w rv14 (by decide) (by decide))⟩)
  · have ch1 := cv_ne h1
    refine rn_iload_n (i := 0) dX9_isPortOrWay_4 rfl rfl ?_
    refine rn_iconst (v := (1 : Int32)) dX9_isPortOrWay_5 (by decide) ?_
    refine rn_icmp_ne (tgt := 13) dX9_isPortOrWay_6 (by decide) (fun h25 => ?_) (fun h25 => ?_)
    · have ch25 := cv_ne h25
      refine rn_iconst (v := (0 : Int32)) dX9_isPortOrWay_13 (by decide) ?_
      refine rn_iret dX9_isPortOrWay_14 rfl rfl (rq_in ?_)
      refine rn_stk [.int (0 : Int32)] rfl ?_
      refine rn_if_ne (tgt := 17) dX9_come_4 (by decide) (fun h26 => (cx_ne (cv_ne h26) rk_0 rk_0 (by decide)).elim) (fun h26 => ?_)
      exact rn_throw kt_SG_95_212 rfl dX9_come_7 dX9_come_10 dX9_come_11 dX9_come_13 dX9_come_16 (Nat.le_of_ble_eq_true rfl) (Nat.le_of_ble_eq_true rfl) (Nat.le_of_ble_eq_true rfl) (Nat.le_of_ble_eq_true rfl) (Nat.le_of_ble_eq_true rfl) (rq_ex ⟨S, hS0, rfl⟩)
    · have ch25 := cv_eq h25
      have r27 : Rg (1) (1) x1_ := rf_eqx ch25 (rg_any x1_) rk_1 (by decide) (by decide)
      refine rn_iconst (v := (1 : Int32)) dX9_isPortOrWay_9 (by decide) ?_
      refine rn_goto (tgt := 14) dX9_isPortOrWay_10 (by decide) ?_
      refine rn_iret dX9_isPortOrWay_14 rfl rfl (rq_in ?_)
      refine rn_stk [.int (1 : Int32)] rfl ?_
      refine rn_if_ne (tgt := 17) dX9_come_4 (by decide) (fun h28 => ?_) (fun h28 => (cx_eq (cv_eq h28) rk_1 rk_0 (by decide)).elim)
      refine rn_aload_n (i := 0) dX9_come_17 rfl rfl ?_
      obtain ⟨q29, fs29, hq29, hl29, hf29⟩ := ts_obj hS0.1 m0_ hk_9
      obtain ⟨o30, hx30, m30⟩ := fs_r hf29 2 rfl
      refine rn_get q29 kg_SG_16 hl29 hx30 dX9_come_18 ?_
      refine rn_aload_n (i := 0) dX9_come_21 rfl rfl ?_
      obtain ⟨o31, hx31, m31⟩ := fs_r hf29 1 rfl
      refine rn_get q29 kg_SG_10 hl29 hx31 dX9_come_22 ?_
      obtain ⟨q32, fs32, hq32, hl32, hf32⟩ := ts_obj hS0.1 m30 hk_4
      refine rn_callV (a := 5) (b := 4030) [.ref o31] kl_SG_214 dX9_come_25 q32 hl32 rfl (t_X4_copy G S ws hS0.1 o30 m30 o31 m31) rfl rfl (Nat.le_of_ble_eq_true rfl) (Nat.le_of_ble_eq_true rfl) (Nat.le_of_ble_eq_true rfl) (Nat.le_of_ble_eq_true rfl) (Nat.le_of_ble_eq_true rfl) (Nat.le_of_ble_eq_true rfl) (fun _ _ h => False.elim h) (fun v9 w33 h34 => ?_)
      obtain ⟨hT35, rfl⟩ := h34
      have hS35 := St.tr hS0 hT35 rfl
      refine rn_stk [] rfl ?_
      refine rn_iload_n (i := 1) dX9_come_28 rfl rfl ?_
      refine rn_if_ne (tgt := 39) dX9_come_29 (by decide) (fun h36 => ?_) (fun h36 => (cx_eq (cv_eq h36) r27 rk_0 (by decide)).elim)
      have ch36 := cv_ne h36
      refine rn_aload_n (i := 0) dX9_come_39 rfl rfl ?_
      refine rn_callV (a := 0) (b := 0) [] kl_SG_221 dX9_come_40 q29 (hT35.fr hq29 rfl hl29) rfl (t_X9_throughOuter G S w33 hS35.1 o0_ m0_) rfl rfl (Nat.le_of_ble_eq_true rfl) (Nat.le_of_ble_eq_true rfl) (Nat.le_of_ble_eq_true rfl) (Nat.le_of_ble_eq_true rfl) (Nat.le_of_ble_eq_true rfl) (Nat.le_of_ble_eq_true rfl) (fun _ _ h => False.elim h) (fun v9 w37 h38 => ?_)
      obtain ⟨S40, hT40, v39, rfl, rv39⟩ := h38
      have hS40 := St.tr hS35 hT40 rfl
      refine rn_stk [.int v39] rfl ?_
      refine rn_istore_n dX9_come_43 rfl (by decide) [(0, .ref o0_), (1, .int x1_), (2, .int v39)] rfl ?_
      refine rn_iload_n (i := 2) dX9_come_44 rfl rfl ?_
      refine rn_if_lt (tgt := 67) dX9_come_45 (by decide) (fun h41 => (cx_lt (cv_lt h41) rv39 rk_0 (by decide)).elim) (fun h41 => ?_)
      have ch41 := cv_nlt h41
      refine rn_iload_n (i := 2) dX9_come_48 rfl rfl ?_
      refine rn_aload_n (i := 0) dX9_come_49 rfl rfl ?_
      obtain ⟨q42, fs42, hq42, hl42, hf42⟩ := ts_obj hS40.1 (hT40.mem m0_) hk_9
      obtain ⟨o43, hx43, m43⟩ := fs_r hf42 15 rfl
      refine rn_get q42 kg_SG_70 hl42 hx43 dX9_come_50 ?_
      obtain ⟨q44, f44, hq44, hl44, hf44⟩ := ts_ia hS40.1 m43 hk_20
      refine rs_alen q44 (v := (18 : Int32)) hl44 rfl (by decide) dX9_come_53 ?_
      refine rn_icmp_ge (tgt := 67) dX9_come_54 (by decide) (fun h45 => (cx_le (cv_le h45) rk_18 rv39 (by decide)).elim) (fun h45 => ?_)
      have ch45 := cv_nle h45
      refine rn_aload_n (i := 0) dX9_come_57 rfl rfl ?_
      refine rn_get q42 kg_SG_70 hl42 hx43 dX9_come_58 ?_
      refine rn_iload_n (i := 2) dX9_come_61 rfl rfl ?_
      refine rn_dup2_11 dX9_come_62 rfl rfl ?_
      refine rs_iald q44 hl44 hf44 rfl rv39 (by decide) (by decide) dX9_come_63 (fun v46 ev46 rv46 => ?_)
      refine rn_iconst (v := (1 : Int32)) dX9_come_64 (by decide) ?_
      refine rn_iadd dX9_come_65 (rn_nmA (fun v47 rv47 => ?_))
      refine rs_iast q44 hS40 hq44 hl44 hf44 hk_20 rfl rfl rv39 (by decide) (by decide) rv47 dX9_come_66 (fun w48 f49 hS49 hl49 hf49 hu49 hn49 => ?_)
      refine rn_iload_n (i := 2) dX9_come_67 rfl rfl ?_
      exact rn_iret dX9_come_68 rfl rfl (rq_in ⟨S40, hS49, v39, rfl, rv39⟩)
abbrev q_t_X9_meaning (G : rn_G) (S : ts_S) (ws : va_W) : rn_R → va_W → Prop := rQ (fun v w => St G S [4, 11] ws S w ∧ (∃ x : Int32, v = some (.int x) ∧ Rg (-1) (23) x)) (fun E w => St G S [4, 11] ws S w ∧ (E = "java/lang/IllegalArgumentException"))
set_option maxRecDepth 20000 in
set_option maxHeartbeats 4000000 in
theorem t_X9_meaning (G : rn_G) (S : ts_S) (ws : va_W) (hW : ts_W G S ws) (o0_ : Nat) (m0_ : (o0_, 9) ∈ S) (x1_ : Int32) : Rn G mX9_meaning 6 105 1 6 0 (lv_args 0 [.ref o0_, .int x1_]) [] ws (q_t_X9_meaning G S ws ) := by
  have hS0 : St G S [4, 11] ws S ws := St.rf hW
  refine rn_lv [(0, .ref o0_), (1, .int x1_)] rfl ?_
  refine rn_iload_n (i := 1) dX9_meaning_0 rfl rfl ?_
  refine rn_inS (d' := 0) (z' := 0) [.int x1_] kl_SG_136 dX9_meaning_1 rfl rfl (Nat.le_of_ble_eq_true rfl) (Nat.le_of_ble_eq_true rfl) (Nat.le_of_ble_eq_true rfl) (Nat.le_of_ble_eq_true rfl) ?_
  refine rn_lv [(0, .int x1_)] rfl ?_
  refine rn_iload_n (i := 0) dX9_isPortOrWay_0 rfl rfl ?_
  refine rn_if_eq (tgt := 9) dX9_isPortOrWay_1 (by decide) (fun h1 => ?_) (fun h1 => ?_)
  · have ch1 := cv_eq h1
    have r2 : Rg (0) (0) x1_ := rf_eqx ch1 (rg_any x1_) rk_0 (by decide) (by decide)
    refine rn_iconst (v := (1 : Int32)) dX9_isPortOrWay_9 (by decide) ?_
    refine rn_goto (tgt := 14) dX9_isPortOrWay_10 (by decide) ?_
    refine rn_iret dX9_isPortOrWay_14 rfl rfl (rq_in ?_)
    refine rn_stk [.int (1 : Int32)] rfl ?_
    refine rn_if_ne (tgt := 17) dX9_meaning_4 (by decide) (fun h3 => ?_) (fun h3 => (cx_eq (cv_eq h3) rk_1 rk_0 (by decide)).elim)
    refine rn_aload_n (i := 0) dX9_meaning_17 rfl rfl ?_
    obtain ⟨q4, fs4, hq4, hl4, hf4⟩ := ts_obj hS0.1 m0_ hk_9
    obtain ⟨o5, hx5, m5⟩ := fs_r hf4 2 rfl
    refine rn_get q4 kg_SG_16 hl4 hx5 dX9_meaning_18 ?_
    refine rn_aload_n (i := 0) dX9_meaning_21 rfl rfl ?_
    obtain ⟨o6, hx6, m6⟩ := fs_r hf4 1 rfl
    refine rn_get q4 kg_SG_10 hl4 hx6 dX9_meaning_22 ?_
    obtain ⟨q7, fs7, hq7, hl7, hf7⟩ := ts_obj hS0.1 m5 hk_4
    refine rn_callV (a := 1) (b := 6) [.ref o6] kl_SG_214 dX9_meaning_25 q7 hl7 rfl (t_X4_copy G S ws hS0.1 o5 m5 o6 m6) rfl rfl (Nat.le_of_ble_eq_true rfl) (Nat.le_of_ble_eq_true rfl) (Nat.le_of_ble_eq_true rfl) (Nat.le_of_ble_eq_true rfl) (Nat.le_of_ble_eq_true rfl) (Nat.le_of_ble_eq_true rfl) (fun _ _ h => False.elim h) (fun v9 w8 h9 => ?_)
    obtain ⟨hT10, rfl⟩ := h9
    have hS10 := St.tr hS0 hT10 rfl
    refine rn_stk [] rfl ?_
    refine rn_aload_n (i := 0) dX9_meaning_28 rfl rfl ?_
    refine rn_get q4 kg_SG_16 (hT10.fr hq4 rfl hl4) hx5 dX9_meaning_29 ?_
    obtain ⟨q11, fs11, hq11, hl11, hf11⟩ := ts_obj hS10.1 m5 hk_4
    refine rn_callV (a := 1) (b := 6) [] kl_SG_226 dX9_meaning_32 q11 hl11 rfl (t_X4_isBroken G S w8 hS10.1 o5 m5) rfl rfl (Nat.le_of_ble_eq_true rfl) (Nat.le_of_ble_eq_true rfl) (Nat.le_of_ble_eq_true rfl) (Nat.le_of_ble_eq_true rfl) (Nat.le_of_ble_eq_true rfl) (Nat.le_of_ble_eq_true rfl) (fun _ _ h => False.elim h) (fun v9 w12 h13 => ?_)
    obtain ⟨rfl, v14, rfl, rv14⟩ := h13
    refine rn_stk [.int v14] rfl ?_
    refine rn_if_eq (tgt := 40) dX9_meaning_35 (by decide) (fun h16 => ?_) (fun h16 => ?_)
    · have ch16 := cv_eq h16
      have r17 : Rg (0) (0) v14 := rf_eqx ch16 rv14 rk_0 (by decide) (by decide)
      refine rn_aload_n (i := 0) dX9_meaning_40 rfl rfl ?_
      refine rn_get q4 kg_SG_16 (hT10.fr hq4 rfl hl4) hx5 dX9_meaning_41 ?_
      refine rn_callV (a := 1) (b := 6) [] kl_SG_229 dX9_meaning_44 q11 hl11 rfl (t_X4_cutToLength G S w8 hS10.1 o5 m5) rfl rfl (Nat.le_of_ble_eq_true rfl) (Nat.le_of_ble_eq_true rfl) (Nat.le_of_ble_eq_true rfl) (Nat.le_of_ble_eq_true rfl) (Nat.le_of_ble_eq_true rfl) (Nat.le_of_ble_eq_true rfl) (fun _ _ h => False.elim h) (fun v9 w18 h19 => ?_)
      obtain ⟨hT20, rfl⟩ := h19
      have hS20 := St.tr hS10 hT20 rfl
      refine rn_stk [] rfl ?_
      refine rn_aload_n (i := 0) dX9_meaning_47 rfl rfl ?_
      obtain ⟨o21, hx21, m21⟩ := fs_r hf4 8 rfl
      refine rn_get q4 kg_SG_42 (hT20.fr hq4 rfl (hT10.fr hq4 rfl hl4)) hx21 dX9_meaning_48 ?_
      refine rn_iload_n (i := 1) dX9_meaning_51 rfl rfl ?_
      refine rn_aload_n (i := 0) dX9_meaning_52 rfl rfl ?_
      refine rn_get q4 kg_SG_16 (hT20.fr hq4 rfl (hT10.fr hq4 rfl hl4)) hx5 dX9_meaning_53 ?_
      obtain ⟨q22, fs22, hq22, hl22, hf22⟩ := ts_obj hS20.1 m21 hk_5
      refine rn_callV (a := 1) (b := 6) [.int x1_, .ref o5] kl_SG_232 dX9_meaning_56 q22 hl22 rfl (t_X5_placeFor G S w18 hS20.1 o21 m21 x1_ o5 m5) rfl rfl (Nat.le_of_ble_eq_true rfl) (Nat.le_of_ble_eq_true rfl) (Nat.le_of_ble_eq_true rfl) (Nat.le_of_ble_eq_true rfl) (Nat.le_of_ble_eq_true rfl) (Nat.le_of_ble_eq_true rfl) (fun _ _ h => False.elim h) (fun v9 w23 h24 => ?_)
      obtain ⟨rfl, v25, rfl, rv25⟩ := h24
      refine rn_stk [.int v25] rfl ?_
      exact rn_iret dX9_meaning_59 rfl rfl (rq_in ⟨hS20, v25, rfl, rv25⟩)
    · have ch16 := cv_ne h16
      have r27 : Rg (1) (1) v14 := rf_nel ch16 rv14 rk_0 (by decide) (by decide)
      refine rn_iconst (v := (-1 : Int32)) dX9_meaning_38 (by decide) ?_
      exact rn_iret dX9_meaning_39 rfl rfl (rq_in ⟨hS10, (-1 : Int32), rfl, (rg_w rk_m1 (by decide) (by decide))⟩)
  · have ch1 := cv_ne h1
    refine rn_iload_n (i := 0) dX9_isPortOrWay_4 rfl rfl ?_
    refine rn_iconst (v := (1 : Int32)) dX9_isPortOrWay_5 (by decide) ?_
    refine rn_icmp_ne (tgt := 13) dX9_isPortOrWay_6 (by decide) (fun h28 => ?_) (fun h28 => ?_)
    · have ch28 := cv_ne h28
      refine rn_iconst (v := (0 : Int32)) dX9_isPortOrWay_13 (by decide) ?_
      refine rn_iret dX9_isPortOrWay_14 rfl rfl (rq_in ?_)
      refine rn_stk [.int (0 : Int32)] rfl ?_
      refine rn_if_ne (tgt := 17) dX9_meaning_4 (by decide) (fun h29 => (cx_ne (cv_ne h29) rk_0 rk_0 (by decide)).elim) (fun h29 => ?_)
      exact rn_throw kt_SG_95_224 rfl dX9_meaning_7 dX9_meaning_10 dX9_meaning_11 dX9_meaning_13 dX9_meaning_16 (Nat.le_of_ble_eq_true rfl) (Nat.le_of_ble_eq_true rfl) (Nat.le_of_ble_eq_true rfl) (Nat.le_of_ble_eq_true rfl) (Nat.le_of_ble_eq_true rfl) (rq_ex ⟨hS0, rfl⟩)
    · have ch28 := cv_eq h28
      have r30 : Rg (1) (1) x1_ := rf_eqx ch28 (rg_any x1_) rk_1 (by decide) (by decide)
      refine rn_iconst (v := (1 : Int32)) dX9_isPortOrWay_9 (by decide) ?_
      refine rn_goto (tgt := 14) dX9_isPortOrWay_10 (by decide) ?_
      refine rn_iret dX9_isPortOrWay_14 rfl rfl (rq_in ?_)
      refine rn_stk [.int (1 : Int32)] rfl ?_
      refine rn_if_ne (tgt := 17) dX9_meaning_4 (by decide) (fun h31 => ?_) (fun h31 => (cx_eq (cv_eq h31) rk_1 rk_0 (by decide)).elim)
      refine rn_aload_n (i := 0) dX9_meaning_17 rfl rfl ?_
      obtain ⟨q32, fs32, hq32, hl32, hf32⟩ := ts_obj hS0.1 m0_ hk_9
      obtain ⟨o33, hx33, m33⟩ := fs_r hf32 2 rfl
      refine rn_get q32 kg_SG_16 hl32 hx33 dX9_meaning_18 ?_
      refine rn_aload_n (i := 0) dX9_meaning_21 rfl rfl ?_
      obtain ⟨o34, hx34, m34⟩ := fs_r hf32 1 rfl
      refine rn_get q32 kg_SG_10 hl32 hx34 dX9_meaning_22 ?_
      obtain ⟨q35, fs35, hq35, hl35, hf35⟩ := ts_obj hS0.1 m33 hk_4
      refine rn_callV (a := 1) (b := 6) [.ref o34] kl_SG_214 dX9_meaning_25 q35 hl35 rfl (t_X4_copy G S ws hS0.1 o33 m33 o34 m34) rfl rfl (Nat.le_of_ble_eq_true rfl) (Nat.le_of_ble_eq_true rfl) (Nat.le_of_ble_eq_true rfl) (Nat.le_of_ble_eq_true rfl) (Nat.le_of_ble_eq_true rfl) (Nat.le_of_ble_eq_true rfl) (fun _ _ h => False.elim h) (fun v9 w36 h37 => ?_)
      obtain ⟨hT38, rfl⟩ := h37
      have hS38 := St.tr hS0 hT38 rfl
      refine rn_stk [] rfl ?_
      refine rn_aload_n (i := 0) dX9_meaning_28 rfl rfl ?_
      refine rn_get q32 kg_SG_16 (hT38.fr hq32 rfl hl32) hx33 dX9_meaning_29 ?_
      obtain ⟨q39, fs39, hq39, hl39, hf39⟩ := ts_obj hS38.1 m33 hk_4
      refine rn_callV (a := 1) (b := 6) [] kl_SG_226 dX9_meaning_32 q39 hl39 rfl (t_X4_isBroken G S w36 hS38.1 o33 m33) rfl rfl (Nat.le_of_ble_eq_true rfl) (Nat.le_of_ble_eq_true rfl) (Nat.le_of_ble_eq_true rfl) (Nat.le_of_ble_eq_true rfl) (Nat.le_of_ble_eq_true rfl) (Nat.le_of_ble_eq_true rfl) (fun _ _ h => False.elim h) (fun v9 w40 h41 => ?_)
      obtain ⟨rfl, v42, rfl, rv42⟩ := h41
      refine rn_stk [.int v42] rfl ?_
      refine rn_if_eq (tgt := 40) dX9_meaning_35 (by decide) (fun h44 => ?_) (fun h44 => ?_)
      · have ch44 := cv_eq h44
        have r45 : Rg (0) (0) v42 := rf_eqx ch44 rv42 rk_0 (by decide) (by decide)
        refine rn_aload_n (i := 0) dX9_meaning_40 rfl rfl ?_
        refine rn_get q32 kg_SG_16 (hT38.fr hq32 rfl hl32) hx33 dX9_meaning_41 ?_
        refine rn_callV (a := 1) (b := 6) [] kl_SG_229 dX9_meaning_44 q39 hl39 rfl (t_X4_cutToLength G S w36 hS38.1 o33 m33) rfl rfl (Nat.le_of_ble_eq_true rfl) (Nat.le_of_ble_eq_true rfl) (Nat.le_of_ble_eq_true rfl) (Nat.le_of_ble_eq_true rfl) (Nat.le_of_ble_eq_true rfl) (Nat.le_of_ble_eq_true rfl) (fun _ _ h => False.elim h) (fun v9 w46 h47 => ?_)
        obtain ⟨hT48, rfl⟩ := h47
        have hS48 := St.tr hS38 hT48 rfl
        refine rn_stk [] rfl ?_
        refine rn_aload_n (i := 0) dX9_meaning_47 rfl rfl ?_
        obtain ⟨o49, hx49, m49⟩ := fs_r hf32 8 rfl
        refine rn_get q32 kg_SG_42 (hT48.fr hq32 rfl (hT38.fr hq32 rfl hl32)) hx49 dX9_meaning_48 ?_
        refine rn_iload_n (i := 1) dX9_meaning_51 rfl rfl ?_
        refine rn_aload_n (i := 0) dX9_meaning_52 rfl rfl ?_
        refine rn_get q32 kg_SG_16 (hT48.fr hq32 rfl (hT38.fr hq32 rfl hl32)) hx33 dX9_meaning_53 ?_
        obtain ⟨q50, fs50, hq50, hl50, hf50⟩ := ts_obj hS48.1 m49 hk_5
        refine rn_callV (a := 1) (b := 6) [.int x1_, .ref o33] kl_SG_232 dX9_meaning_56 q50 hl50 rfl (t_X5_placeFor G S w46 hS48.1 o49 m49 x1_ o33 m33) rfl rfl (Nat.le_of_ble_eq_true rfl) (Nat.le_of_ble_eq_true rfl) (Nat.le_of_ble_eq_true rfl) (Nat.le_of_ble_eq_true rfl) (Nat.le_of_ble_eq_true rfl) (Nat.le_of_ble_eq_true rfl) (fun _ _ h => False.elim h) (fun v9 w51 h52 => ?_)
        obtain ⟨rfl, v53, rfl, rv53⟩ := h52
        refine rn_stk [.int v53] rfl ?_
        exact rn_iret dX9_meaning_59 rfl rfl (rq_in ⟨hS48, v53, rfl, rv53⟩)
      · have ch44 := cv_ne h44
        have r55 : Rg (1) (1) v42 := rf_nel ch44 rv42 rk_0 (by decide) (by decide)
        refine rn_iconst (v := (-1 : Int32)) dX9_meaning_38 (by decide) ?_
        exact rn_iret dX9_meaning_39 rfl rfl (rq_in ⟨hS38, (-1 : Int32), rfl, (rg_w rk_m1 (by decide) (by decide))⟩)
abbrev q_t_X9_routed (G : rn_G) (S : ts_S) (ws : va_W) (x1_ : Int32) : rn_R → va_W → Prop := rQ (fun v w => ws = w ∧ (∃ x : Int32, v = some (.int x) ∧ Rg (-2147483648) (2147483647) x ∧ (∀ (n : Nat) (net w9 p : Nat → Int32), Tb S ws n net w9 p → ∃ x0 : Int32, rtR x1_ net w9 p n x0 x))) (fun E w => False)
set_option maxRecDepth 20000 in
set_option maxHeartbeats 4000000 in
theorem t_X9_routed (G : rn_G) (S : ts_S) (ws : va_W) (hW : ts_W G S ws) (o0_ : Nat) (m0_ : (o0_, 9) ∈ S) (x1_ : Int32) : Rn G mX9_routed 2 46 0 0 0 (lv_args 0 [.ref o0_, .int x1_]) [] ws (q_t_X9_routed G S ws x1_) := by
  refine rn_lv [(0, .ref o0_), (1, .int x1_)] rfl ?_
  refine rn_aload_n (i := 0) dX9_routed_0 rfl rfl ?_
  obtain ⟨q1, fs1, hq1, hl1, hf1⟩ := ts_obj hW m0_ hk_9
  obtain ⟨o2, hx2, m2⟩ := fs_r hf1 7 rfl
  refine rn_get q1 kg_SG_35 hl1 hx2 dX9_routed_1 ?_
  refine rn_iload_n (i := 1) dX9_routed_4 rfl rfl ?_
  obtain ⟨q3, fs3, hq3, hl3, hf3⟩ := ts_obj hW m2 hk_7
  refine rn_callV (a := 0) (b := 0) [.int x1_] kl_SG_236 dX9_routed_5 q3 hl3 rfl (t_X7_portOf G S ws hW o2 m2 x1_) rfl rfl (Nat.le_of_ble_eq_true rfl) (Nat.le_of_ble_eq_true rfl) (Nat.le_of_ble_eq_true rfl) (Nat.le_of_ble_eq_true rfl) (Nat.le_of_ble_eq_true rfl) (Nat.le_of_ble_eq_true rfl) (fun _ _ h => False.elim h) (fun v9 w4 h5 => ?_)
  obtain ⟨rfl, v6, rfl, rv6, xah5⟩ := h5
  refine rn_stk [.int v6] rfl ?_
  exact rn_iret dX9_routed_8 rfl rfl (rq_in ⟨rfl, v6, rfl, rv6, xah5⟩)
abbrev q_t_X9_sentPacket (G : rn_G) (S : ts_S) (ws : va_W) : rn_R → va_W → Prop := rQ (fun v w => ws = w ∧ (∃ o : Nat, v = some (.ref o) ∧ (o, 4) ∈ S)) (fun E w => ws = w ∧ (E = "java/lang/IndexOutOfBoundsException"))
set_option maxRecDepth 20000 in
set_option maxHeartbeats 4000000 in
theorem t_X9_sentPacket (G : rn_G) (S : ts_S) (ws : va_W) (hW : ts_W G S ws) (o0_ : Nat) (m0_ : (o0_, 9) ∈ S) (x1_ : Int32) : Rn G mX9_sentPacket 6 90 1 6 0 (lv_args 0 [.ref o0_, .int x1_]) [] ws (q_t_X9_sentPacket G S ws ) := by
  refine rn_lv [(0, .ref o0_), (1, .int x1_)] rfl ?_
  refine rn_iload_n (i := 1) dX9_sentPacket_0 rfl rfl ?_
  refine rn_if_eq (tgt := 19) dX9_sentPacket_1 (by decide) (fun h1 => ?_) (fun h1 => ?_)
  · have ch1 := cv_eq h1
    have r2 : Rg (0) (0) x1_ := rf_eqx ch1 (rg_any x1_) rk_0 (by decide) (by decide)
    refine rn_iload_n (i := 1) dX9_sentPacket_19 rfl rfl ?_
    refine rn_if_ne (tgt := 30) dX9_sentPacket_20 (by decide) (fun h3 => (cx_ne (cv_ne h3) r2 rk_0 (by decide)).elim) (fun h3 => ?_)
    have ch3 := cv_eq h3
    refine rn_aload_n (i := 0) dX9_sentPacket_23 rfl rfl ?_
    obtain ⟨q4, fs4, hq4, hl4, hf4⟩ := ts_obj hW m0_ hk_9
    obtain ⟨o5, hx5, m5⟩ := fs_r hf4 4 rfl
    refine rn_get q4 kg_SG_22 hl4 hx5 dX9_sentPacket_24 ?_
    refine rn_goto (tgt := 34) dX9_sentPacket_27 (by decide) ?_
    exact rn_aret dX9_sentPacket_34 rfl (rq_in ⟨rfl, o5, rfl, m5⟩)
  · have ch1 := cv_ne h1
    refine rn_iload_n (i := 1) dX9_sentPacket_4 rfl rfl ?_
    refine rn_iconst (v := (1 : Int32)) dX9_sentPacket_5 (by decide) ?_
    refine rn_icmp_eq (tgt := 19) dX9_sentPacket_6 (by decide) (fun h6 => ?_) (fun h6 => ?_)
    · have ch6 := cv_eq h6
      have r7 : Rg (1) (1) x1_ := rf_eqx ch6 (rg_any x1_) rk_1 (by decide) (by decide)
      refine rn_iload_n (i := 1) dX9_sentPacket_19 rfl rfl ?_
      refine rn_if_ne (tgt := 30) dX9_sentPacket_20 (by decide) (fun h8 => ?_) (fun h8 => (cx_eq (cv_eq h8) r7 rk_0 (by decide)).elim)
      have ch8 := cv_ne h8
      refine rn_aload_n (i := 0) dX9_sentPacket_30 rfl rfl ?_
      obtain ⟨q9, fs9, hq9, hl9, hf9⟩ := ts_obj hW m0_ hk_9
      obtain ⟨o10, hx10, m10⟩ := fs_r hf9 5 rfl
      refine rn_get q9 kg_SG_25 hl9 hx10 dX9_sentPacket_31 ?_
      exact rn_aret dX9_sentPacket_34 rfl (rq_in ⟨rfl, o10, rfl, m10⟩)
    · have ch6 := cv_ne h6
      exact rn_throw kt_SG_114_122 rfl dX9_sentPacket_9 dX9_sentPacket_12 dX9_sentPacket_13 dX9_sentPacket_15 dX9_sentPacket_18 (Nat.le_of_ble_eq_true rfl) (Nat.le_of_ble_eq_true rfl) (Nat.le_of_ble_eq_true rfl) (Nat.le_of_ble_eq_true rfl) (Nat.le_of_ble_eq_true rfl) (rq_ex ⟨rfl, rfl⟩)
abbrev q_t_X9_sent (G : rn_G) (S : ts_S) (ws : va_W) : rn_R → va_W → Prop := rQ (fun v w => ws = w ∧ (∃ x : Int32, v = some (.int x) ∧ Rg (-2147483648) (2147483647) x)) (fun E w => ws = w ∧ (E = "java/lang/IndexOutOfBoundsException"))
set_option maxRecDepth 20000 in
set_option maxHeartbeats 4000000 in
theorem t_X9_sent (G : rn_G) (S : ts_S) (ws : va_W) (hW : ts_W G S ws) (o0_ : Nat) (m0_ : (o0_, 9) ∈ S) (x1_ : Int32) (x2_ : Int32) : Rn G mX9_sent 7 111 2 12 0 (lv_args 0 [.ref o0_, .int x1_, .int x2_]) [] ws (q_t_X9_sent G S ws ) := by
  refine rn_lv [(0, .ref o0_), (1, .int x1_), (2, .int x2_)] rfl ?_
  refine rn_aload_n (i := 0) dX9_sent_0 rfl rfl ?_
  refine rn_iload_n (i := 1) dX9_sent_1 rfl rfl ?_
  obtain ⟨q1, fs1, hq1, hl1, hf1⟩ := ts_obj hW m0_ hk_9
  refine rn_callV (a := 1) (b := 6) [.int x1_] kl_SG_239 dX9_sent_2 q1 hl1 rfl (t_X9_sentPacket G S ws hW o0_ m0_ x1_) rfl rfl (Nat.le_of_ble_eq_true rfl) (Nat.le_of_ble_eq_true rfl) (Nat.le_of_ble_eq_true rfl) (Nat.le_of_ble_eq_true rfl) (Nat.le_of_ble_eq_true rfl) (Nat.le_of_ble_eq_true rfl) ?_ (fun v9 w2 h3 => ?_)
  · intro E w2 h3
    obtain ⟨rfl, rfl⟩ := h3
    exact rnx_out rfl (rq_ex ⟨rfl, rfl⟩)
  · obtain ⟨rfl, o5, rfl, mo5⟩ := h3
    refine rn_stk [.ref o5] rfl ?_
    refine rn_astore_n dX9_sent_5 rfl (by decide) [(0, .ref o0_), (1, .int x1_), (2, .int x2_), (3, .ref o5)] rfl ?_
    refine rn_iload_n (i := 2) dX9_sent_6 rfl rfl ?_
    refine rn_iconst (v := (-1 : Int32)) dX9_sent_7 (by decide) ?_
    refine rn_icmp_ne (tgt := 16) dX9_sent_8 (by decide) (fun h7 => ?_) (fun h7 => ?_)
    · have ch7 := cv_ne h7
      refine rn_iload_n (i := 2) dX9_sent_16 rfl rfl ?_
      refine rn_bipush (v := (-2 : Int32)) dX9_sent_17 (by decide) ?_
      refine rn_icmp_ne (tgt := 38) dX9_sent_19 (by decide) (fun h8 => ?_) (fun h8 => ?_)
      · have ch8 := cv_ne h8
        refine rn_iload_n (i := 2) dX9_sent_38 rfl rfl ?_
        refine rn_if_lt (tgt := 50) dX9_sent_39 (by decide) (fun h9 => ?_) (fun h9 => ?_)
        · have ch9 := cv_lt h9
          have r10 : Rg (-2147483648) (-1) x2_ := rf_ltx ch9 (rg_any x2_) rk_0 (by decide)
          exact rn_throw kt_SG_114_116 rfl dX9_sent_50 dX9_sent_53 dX9_sent_54 dX9_sent_56 dX9_sent_59 (Nat.le_of_ble_eq_true rfl) (Nat.le_of_ble_eq_true rfl) (Nat.le_of_ble_eq_true rfl) (Nat.le_of_ble_eq_true rfl) (Nat.le_of_ble_eq_true rfl) (rq_ex ⟨rfl, rfl⟩)
        · have ch9 := cv_nlt h9
          have r11 : Rg (0) (2147483647) x2_ := rf_ley ch9 rk_0 (rg_any x2_) (by decide)
          refine rn_iload_n (i := 2) dX9_sent_42 rfl rfl ?_
          refine rn_aload_n (i := 3) dX9_sent_43 rfl rfl ?_
          obtain ⟨q12, fs12, hq12, hl12, hf12⟩ := ts_obj hW mo5 hk_4
          refine rn_callV (a := 1) (b := 6) [] kl_SG_76 dX9_sent_44 q12 hl12 rfl (t_X4_size G S ws hW o5 mo5) rfl rfl (Nat.le_of_ble_eq_true rfl) (Nat.le_of_ble_eq_true rfl) (Nat.le_of_ble_eq_true rfl) (Nat.le_of_ble_eq_true rfl) (Nat.le_of_ble_eq_true rfl) (Nat.le_of_ble_eq_true rfl) (fun _ _ h => False.elim h) (fun v9 w13 h14 => ?_)
          obtain ⟨rfl, v15, rfl, rv15⟩ := h14
          refine rn_stk [.int v15, .int x2_] rfl ?_
          refine rn_icmp_lt (tgt := 60) dX9_sent_47 (by decide) (fun h17 => ?_) (fun h17 => ?_)
          · have ch17 := cv_lt h17
            have r18 : Rg (0) (2039) x2_ := rf_ltx ch17 r11 rv15 (by decide)
            have r19 : Rg (1) (2040) v15 := rf_lty ch17 r11 rv15 (by decide)
            refine rn_aload_n (i := 3) dX9_sent_60 rfl rfl ?_
            refine rn_iload_n (i := 2) dX9_sent_61 rfl rfl ?_
            refine rn_callV (a := 1) (b := 6) [.int x2_] kl_SG_119 dX9_sent_62 q12 hl12 rfl (t_X4_byteAt G S ws hW o5 mo5 x2_) rfl rfl (Nat.le_of_ble_eq_true rfl) (Nat.le_of_ble_eq_true rfl) (Nat.le_of_ble_eq_true rfl) (Nat.le_of_ble_eq_true rfl) (Nat.le_of_ble_eq_true rfl) (Nat.le_of_ble_eq_true rfl) (fun _ _ h => False.elim h) (fun v9 w20 h21 => ?_)
            obtain ⟨rfl, v22, rfl, rv22⟩ := h21
            refine rn_stk [.int v22] rfl ?_
            exact rn_iret dX9_sent_65 rfl rfl (rq_in ⟨rfl, v22, rfl, (rg_w rv22 (by decide) (by decide))⟩)
          · have ch17 := cv_nlt h17
            exact rn_throw kt_SG_114_116 rfl dX9_sent_50 dX9_sent_53 dX9_sent_54 dX9_sent_56 dX9_sent_59 (Nat.le_of_ble_eq_true rfl) (Nat.le_of_ble_eq_true rfl) (Nat.le_of_ble_eq_true rfl) (Nat.le_of_ble_eq_true rfl) (Nat.le_of_ble_eq_true rfl) (rq_ex ⟨rfl, rfl⟩)
      · have ch8 := cv_eq h8
        have r24 : Rg (-2) (-2) x2_ := rf_eqx ch8 (rg_any x2_) rk_m2 (by decide) (by decide)
        refine rn_aload_n (i := 3) dX9_sent_22 rfl rfl ?_
        obtain ⟨q25, fs25, hq25, hl25, hf25⟩ := ts_obj hW mo5 hk_4
        refine rn_callV (a := 1) (b := 6) [] kl_SG_76 dX9_sent_23 q25 hl25 rfl (t_X4_size G S ws hW o5 mo5) rfl rfl (Nat.le_of_ble_eq_true rfl) (Nat.le_of_ble_eq_true rfl) (Nat.le_of_ble_eq_true rfl) (Nat.le_of_ble_eq_true rfl) (Nat.le_of_ble_eq_true rfl) (Nat.le_of_ble_eq_true rfl) (fun _ _ h => False.elim h) (fun v9 w26 h27 => ?_)
        obtain ⟨rfl, v28, rfl, rv28⟩ := h27
        refine rn_stk [.int v28] rfl ?_
        refine rn_if_ne (tgt := 33) dX9_sent_26 (by decide) (fun h30 => ?_) (fun h30 => ?_)
        · have ch30 := cv_ne h30
          have r31 : Rg (1) (2040) v28 := rf_nel ch30 rv28 rk_0 (by decide) (by decide)
          refine rn_aload_n (i := 0) dX9_sent_33 rfl rfl ?_
          obtain ⟨x32, hx32, rx32⟩ := fs_i hf1 6 rfl
          refine rn_get q1 kg_SG_28 hl1 hx32 dX9_sent_34 ?_
          exact rn_iret dX9_sent_37 rfl rfl (rq_in ⟨rfl, x32, rfl, rx32⟩)
        · have ch30 := cv_eq h30
          have r33 : Rg (0) (0) v28 := rf_eqx ch30 rv28 rk_0 (by decide) (by decide)
          refine rn_iconst (v := (-1 : Int32)) dX9_sent_29 (by decide) ?_
          refine rn_goto (tgt := 37) dX9_sent_30 (by decide) ?_
          exact rn_iret dX9_sent_37 rfl rfl (rq_in ⟨rfl, (-1 : Int32), rfl, (rg_w rk_m1 (by decide) (by decide))⟩)
    · have ch7 := cv_eq h7
      have r34 : Rg (-1) (-1) x2_ := rf_eqx ch7 (rg_any x2_) rk_m1 (by decide) (by decide)
      refine rn_aload_n (i := 3) dX9_sent_11 rfl rfl ?_
      obtain ⟨q35, fs35, hq35, hl35, hf35⟩ := ts_obj hW mo5 hk_4
      refine rn_callV (a := 1) (b := 6) [] kl_SG_76 dX9_sent_12 q35 hl35 rfl (t_X4_size G S ws hW o5 mo5) rfl rfl (Nat.le_of_ble_eq_true rfl) (Nat.le_of_ble_eq_true rfl) (Nat.le_of_ble_eq_true rfl) (Nat.le_of_ble_eq_true rfl) (Nat.le_of_ble_eq_true rfl) (Nat.le_of_ble_eq_true rfl) (fun _ _ h => False.elim h) (fun v9 w36 h37 => ?_)
      obtain ⟨rfl, v38, rfl, rv38⟩ := h37
      refine rn_stk [.int v38] rfl ?_
      exact rn_iret dX9_sent_15 rfl rfl (rq_in ⟨rfl, v38, rfl, (rg_w rv38 (by decide) (by decide))⟩)
abbrev q_t_X9_take (G : rn_G) (S : ts_S) (ws : va_W) : rn_R → va_W → Prop := rQ (fun v w => St G S [4, 11] ws S w ∧ (∃ x : Int32, v = some (.int x) ∧ Rg (0) (2040) x)) (fun E w => St G S [4, 11] ws S w ∧ (E = "java/lang/IllegalStateException" ∨ E = "java/lang/IndexOutOfBoundsException"))
set_option maxRecDepth 20000 in
set_option maxHeartbeats 4000000 in
theorem t_X9_take (G : rn_G) (S : ts_S) (ws : va_W) (hW : ts_W G S ws) (o0_ : Nat) (m0_ : (o0_, 9) ∈ S) (x1_ : Int32) : Rn G mX9_take 7 111 2 12 0 (lv_args 0 [.ref o0_, .int x1_]) [] ws (q_t_X9_take G S ws ) := by
  have hS0 : St G S [4, 11] ws S ws := St.rf hW
  refine rn_lv [(0, .ref o0_), (1, .int x1_)] rfl ?_
  refine rn_aload_n (i := 0) dX9_take_0 rfl rfl ?_
  refine rn_iload_n (i := 1) dX9_take_1 rfl rfl ?_
  obtain ⟨q1, fs1, hq1, hl1, hf1⟩ := ts_obj hS0.1 m0_ hk_9
  refine rn_callV (a := 1) (b := 6) [.int x1_] kl_SG_239 dX9_take_2 q1 hl1 rfl (t_X9_sentPacket G S ws hS0.1 o0_ m0_ x1_) rfl rfl (Nat.le_of_ble_eq_true rfl) (Nat.le_of_ble_eq_true rfl) (Nat.le_of_ble_eq_true rfl) (Nat.le_of_ble_eq_true rfl) (Nat.le_of_ble_eq_true rfl) (Nat.le_of_ble_eq_true rfl) ?_ (fun v9 w2 h3 => ?_)
  · intro E w2 h3
    obtain ⟨rfl, rfl⟩ := h3
    exact rnx_out rfl (rq_ex ⟨hS0, (Or.inr rfl)⟩)
  · obtain ⟨rfl, o5, rfl, mo5⟩ := h3
    refine rn_stk [.ref o5] rfl ?_
    refine rn_astore_n dX9_take_5 rfl (by decide) [(0, .ref o0_), (1, .int x1_), (2, .ref o5)] rfl ?_
    refine rn_aload_n (i := 2) dX9_take_6 rfl rfl ?_
    obtain ⟨q7, fs7, hq7, hl7, hf7⟩ := ts_obj hS0.1 mo5 hk_4
    refine rn_callV (a := 1) (b := 6) [] kl_SG_76 dX9_take_7 q7 hl7 rfl (t_X4_size G S ws hS0.1 o5 mo5) rfl rfl (Nat.le_of_ble_eq_true rfl) (Nat.le_of_ble_eq_true rfl) (Nat.le_of_ble_eq_true rfl) (Nat.le_of_ble_eq_true rfl) (Nat.le_of_ble_eq_true rfl) (Nat.le_of_ble_eq_true rfl) (fun _ _ h => False.elim h) (fun v9 w8 h9 => ?_)
    obtain ⟨rfl, v10, rfl, rv10⟩ := h9
    refine rn_stk [.int v10] rfl ?_
    refine rn_if_ne (tgt := 23) dX9_take_10 (by decide) (fun h12 => ?_) (fun h12 => ?_)
    · have ch12 := cv_ne h12
      have r13 : Rg (1) (2040) v10 := rf_nel ch12 rv10 rk_0 (by decide) (by decide)
      refine rn_aload_n (i := 0) dX9_take_23 rfl rfl ?_
      obtain ⟨o14, hx14, m14⟩ := fs_r hf1 1 rfl
      refine rn_get q1 kg_SG_10 hl1 hx14 dX9_take_24 ?_
      refine rn_aload_n (i := 2) dX9_take_27 rfl rfl ?_
      obtain ⟨q15, fs15, hq15, hl15, hf15⟩ := ts_obj hS0.1 m14 hk_4
      refine rn_callV (a := 1) (b := 6) [.ref o5] kl_SG_214 dX9_take_28 q15 hl15 rfl (t_X4_copy G S ws hS0.1 o14 m14 o5 mo5) rfl rfl (Nat.le_of_ble_eq_true rfl) (Nat.le_of_ble_eq_true rfl) (Nat.le_of_ble_eq_true rfl) (Nat.le_of_ble_eq_true rfl) (Nat.le_of_ble_eq_true rfl) (Nat.le_of_ble_eq_true rfl) (fun _ _ h => False.elim h) (fun v9 w16 h17 => ?_)
      obtain ⟨hT18, rfl⟩ := h17
      have hS18 := St.tr hS0 hT18 rfl
      refine rn_stk [] rfl ?_
      refine rn_aload_n (i := 0) dX9_take_31 rfl rfl ?_
      refine rn_get q1 kg_SG_10 (hT18.fr hq1 rfl hl1) hx14 dX9_take_32 ?_
      obtain ⟨q19, fs19, hq19, hl19, hf19⟩ := ts_obj hS18.1 m14 hk_4
      refine rn_callV (a := 1) (b := 6) [] kl_SG_76 dX9_take_35 q19 hl19 rfl (t_X4_size G S w16 hS18.1 o14 m14) rfl rfl (Nat.le_of_ble_eq_true rfl) (Nat.le_of_ble_eq_true rfl) (Nat.le_of_ble_eq_true rfl) (Nat.le_of_ble_eq_true rfl) (Nat.le_of_ble_eq_true rfl) (Nat.le_of_ble_eq_true rfl) (fun _ _ h => False.elim h) (fun v9 w20 h21 => ?_)
      obtain ⟨rfl, v22, rfl, rv22⟩ := h21
      refine rn_stk [.int v22] rfl ?_
      exact rn_iret dX9_take_38 rfl rfl (rq_in ⟨hS18, v22, rfl, rv22⟩)
    · have ch12 := cv_eq h12
      have r24 : Rg (0) (0) v10 := rf_eqx ch12 rv10 rk_0 (by decide) (by decide)
      exact rn_throw kt_SG_80_243 rfl dX9_take_13 dX9_take_16 dX9_take_17 dX9_take_19 dX9_take_22 (Nat.le_of_ble_eq_true rfl) (Nat.le_of_ble_eq_true rfl) (Nat.le_of_ble_eq_true rfl) (Nat.le_of_ble_eq_true rfl) (Nat.le_of_ble_eq_true rfl) (rq_ex ⟨hS0, (Or.inl rfl)⟩)
abbrev q_t_X9_told (G : rn_G) (S : ts_S) (ws : va_W) : rn_R → va_W → Prop := rQ (fun v w => ws = w ∧ (∃ x : Int32, v = some (.int x) ∧ Rg (-2147483648) (2147483647) x)) (fun E w => ws = w ∧ (E = "java/lang/IndexOutOfBoundsException"))
set_option maxRecDepth 20000 in
set_option maxHeartbeats 4000000 in
theorem t_X9_told (G : rn_G) (S : ts_S) (ws : va_W) (hW : ts_W G S ws) (o0_ : Nat) (m0_ : (o0_, 9) ∈ S) (x1_ : Int32) (x2_ : Int32) : Rn G mX9_told 7 112 2 12 0 (lv_args 0 [.ref o0_, .int x1_, .int x2_]) [] ws (q_t_X9_told G S ws ) := by
  refine rn_lv [(0, .ref o0_), (1, .int x1_), (2, .int x2_)] rfl ?_
  refine rn_aload_n (i := 0) dX9_told_0 rfl rfl ?_
  refine rn_iload_n (i := 1) dX9_told_1 rfl rfl ?_
  obtain ⟨q1, fs1, hq1, hl1, hf1⟩ := ts_obj hW m0_ hk_9
  refine rn_callV (a := 1) (b := 6) [.int x1_] kl_SG_190 dX9_told_2 q1 hl1 rfl (t_X9_sealAt G S ws hW o0_ m0_ x1_) rfl rfl (Nat.le_of_ble_eq_true rfl) (Nat.le_of_ble_eq_true rfl) (Nat.le_of_ble_eq_true rfl) (Nat.le_of_ble_eq_true rfl) (Nat.le_of_ble_eq_true rfl) (Nat.le_of_ble_eq_true rfl) ?_ (fun v9 w2 h3 => ?_)
  · intro E w2 h3
    obtain ⟨rfl, rfl⟩ := h3
    exact rnx_out rfl (rq_ex ⟨rfl, rfl⟩)
  · obtain ⟨rfl, o5, rfl, mo5⟩ := h3
    refine rn_stk [.ref o5] rfl ?_
    refine rn_astore_n dX9_told_5 rfl (by decide) [(0, .ref o0_), (1, .int x1_), (2, .int x2_), (3, .ref o5)] rfl ?_
    refine rn_iload_n (i := 2) dX9_told_6 rfl rfl ?_
    by_cases h7 : x2_ = (0 : Int32)
    · refine rn_topi (0 : Int32) h7 ?_
      refine rn_tableIn (off := 37) (tgt := 44) dX9_told_7 (by decide) (by decide) (by decide) (by decide) ?_
      refine rn_aload_n (i := 3) dX9_told_44 rfl rfl ?_
      obtain ⟨q8, fs8, hq8, hl8, hf8⟩ := ts_obj hW mo5 hk_8
      refine rn_callV (a := 1) (b := 6) [] kl_SG_245 dX9_told_45 q8 hl8 rfl (t_X8_way G S ws hW o5 mo5) rfl rfl (Nat.le_of_ble_eq_true rfl) (Nat.le_of_ble_eq_true rfl) (Nat.le_of_ble_eq_true rfl) (Nat.le_of_ble_eq_true rfl) (Nat.le_of_ble_eq_true rfl) (Nat.le_of_ble_eq_true rfl) (fun _ _ h => False.elim h) (fun v9 w9 h10 => ?_)
      obtain ⟨rfl, v11, rfl, rv11⟩ := h10
      refine rn_stk [.int v11] rfl ?_
      exact rn_iret dX9_told_48 rfl rfl (rq_in ⟨rfl, v11, rfl, rv11⟩)
    · skip
      by_cases h13 : x2_ = (1 : Int32)
      · refine rn_topi (1 : Int32) h13 ?_
        refine rn_tableIn (off := 42) (tgt := 49) dX9_told_7 (by decide) (by decide) (by decide) (by decide) ?_
        refine rn_aload_n (i := 3) dX9_told_49 rfl rfl ?_
        obtain ⟨q14, fs14, hq14, hl14, hf14⟩ := ts_obj hW mo5 hk_8
        refine rn_callV (a := 1) (b := 6) [] kl_SG_248 dX9_told_50 q14 hl14 rfl (t_X8_tunnel G S ws hW o5 mo5) rfl rfl (Nat.le_of_ble_eq_true rfl) (Nat.le_of_ble_eq_true rfl) (Nat.le_of_ble_eq_true rfl) (Nat.le_of_ble_eq_true rfl) (Nat.le_of_ble_eq_true rfl) (Nat.le_of_ble_eq_true rfl) (fun _ _ h => False.elim h) (fun v9 w15 h16 => ?_)
        obtain ⟨rfl, v17, rfl, rv17⟩ := h16
        refine rn_stk [.int v17] rfl ?_
        exact rn_iret dX9_told_53 rfl rfl (rq_in ⟨rfl, v17, rfl, rv17⟩)
      · skip
        by_cases h19 : x2_ = (2 : Int32)
        · refine rn_topi (2 : Int32) h19 ?_
          refine rn_tableIn (off := 47) (tgt := 54) dX9_told_7 (by decide) (by decide) (by decide) (by decide) ?_
          refine rn_aload_n (i := 3) dX9_told_54 rfl rfl ?_
          obtain ⟨q20, fs20, hq20, hl20, hf20⟩ := ts_obj hW mo5 hk_8
          refine rn_callV (a := 1) (b := 6) [] kl_SG_251 dX9_told_55 q20 hl20 rfl (t_X8_name G S ws hW o5 mo5) rfl rfl (Nat.le_of_ble_eq_true rfl) (Nat.le_of_ble_eq_true rfl) (Nat.le_of_ble_eq_true rfl) (Nat.le_of_ble_eq_true rfl) (Nat.le_of_ble_eq_true rfl) (Nat.le_of_ble_eq_true rfl) (fun _ _ h => False.elim h) (fun v9 w21 h22 => ?_)
          obtain ⟨rfl, v23, rfl, rv23⟩ := h22
          refine rn_stk [.int v23] rfl ?_
          exact rn_iret dX9_told_58 rfl rfl (rq_in ⟨rfl, v23, rfl, rv23⟩)
        · skip
          by_cases h25 : x2_ = (3 : Int32)
          · refine rn_topi (3 : Int32) h25 ?_
            refine rn_tableIn (off := 52) (tgt := 59) dX9_told_7 (by decide) (by decide) (by decide) (by decide) ?_
            refine rn_aload_n (i := 3) dX9_told_59 rfl rfl ?_
            obtain ⟨q26, fs26, hq26, hl26, hf26⟩ := ts_obj hW mo5 hk_8
            refine rn_callV (a := 1) (b := 6) [] kl_SG_254 dX9_told_60 q26 hl26 rfl (t_X8_life G S ws hW o5 mo5) rfl rfl (Nat.le_of_ble_eq_true rfl) (Nat.le_of_ble_eq_true rfl) (Nat.le_of_ble_eq_true rfl) (Nat.le_of_ble_eq_true rfl) (Nat.le_of_ble_eq_true rfl) (Nat.le_of_ble_eq_true rfl) (fun _ _ h => False.elim h) (fun v9 w27 h28 => ?_)
            obtain ⟨rfl, v29, rfl, rv29⟩ := h28
            refine rn_stk [.int v29] rfl ?_
            exact rn_iret dX9_told_63 rfl rfl (rq_in ⟨rfl, v29, rfl, rv29⟩)
          · skip
            by_cases h31 : x2_ = (4 : Int32)
            · refine rn_topi (4 : Int32) h31 ?_
              refine rn_tableIn (off := 57) (tgt := 64) dX9_told_7 (by decide) (by decide) (by decide) (by decide) ?_
              refine rn_aload_n (i := 3) dX9_told_64 rfl rfl ?_
              obtain ⟨q32, fs32, hq32, hl32, hf32⟩ := ts_obj hW mo5 hk_8
              refine rn_callV (a := 1) (b := 6) [] kl_SG_193 dX9_told_65 q32 hl32 rfl (t_X8_isDead G S ws hW o5 mo5) rfl rfl (Nat.le_of_ble_eq_true rfl) (Nat.le_of_ble_eq_true rfl) (Nat.le_of_ble_eq_true rfl) (Nat.le_of_ble_eq_true rfl) (Nat.le_of_ble_eq_true rfl) (Nat.le_of_ble_eq_true rfl) (fun _ _ h => False.elim h) (fun v9 w33 h34 => ?_)
              obtain ⟨rfl, v35, rfl, rv35⟩ := h34
              refine rn_stk [.int v35] rfl ?_
              refine rn_if_eq (tgt := 75) dX9_told_68 (by decide) (fun h37 => ?_) (fun h37 => ?_)
              · have ch37 := cv_eq h37
                have r38 : Rg (0) (0) v35 := rf_eqx ch37 rv35 rk_0 (by decide) (by decide)
                refine rn_iconst (v := (0 : Int32)) dX9_told_75 (by decide) ?_
                exact rn_iret dX9_told_76 rfl rfl (rq_in ⟨rfl, (0 : Int32), rfl, (rg_w rk_0 (by decide) (by decide))⟩)
              · have ch37 := cv_ne h37
                have r39 : Rg (1) (1) v35 := rf_nel ch37 rv35 rk_0 (by decide) (by decide)
                refine rn_iconst (v := (1 : Int32)) dX9_told_71 (by decide) ?_
                refine rn_goto (tgt := 76) dX9_told_72 (by decide) ?_
                exact rn_iret dX9_told_76 rfl rfl (rq_in ⟨rfl, (1 : Int32), rfl, (rg_w rk_1 (by decide) (by decide))⟩)
            · skip
              by_cases h40 : x2_ = (5 : Int32)
              · refine rn_topi (5 : Int32) h40 ?_
                refine rn_tableIn (off := 70) (tgt := 77) dX9_told_7 (by decide) (by decide) (by decide) (by decide) ?_
                refine rn_aload_n (i := 3) dX9_told_77 rfl rfl ?_
                obtain ⟨q41, fs41, hq41, hl41, hf41⟩ := ts_obj hW mo5 hk_8
                refine rn_callV (a := 1) (b := 6) [] kl_SG_257 dX9_told_78 q41 hl41 rfl (t_X8_isLong G S ws hW o5 mo5) rfl rfl (Nat.le_of_ble_eq_true rfl) (Nat.le_of_ble_eq_true rfl) (Nat.le_of_ble_eq_true rfl) (Nat.le_of_ble_eq_true rfl) (Nat.le_of_ble_eq_true rfl) (Nat.le_of_ble_eq_true rfl) (fun _ _ h => False.elim h) (fun v9 w42 h43 => ?_)
                obtain ⟨rfl, v44, rfl, rv44⟩ := h43
                refine rn_stk [.int v44] rfl ?_
                refine rn_if_eq (tgt := 88) dX9_told_81 (by decide) (fun h46 => ?_) (fun h46 => ?_)
                · have ch46 := cv_eq h46
                  have r47 : Rg (0) (0) v44 := rf_eqx ch46 rv44 rk_0 (by decide) (by decide)
                  refine rn_iconst (v := (0 : Int32)) dX9_told_88 (by decide) ?_
                  exact rn_iret dX9_told_89 rfl rfl (rq_in ⟨rfl, (0 : Int32), rfl, (rg_w rk_0 (by decide) (by decide))⟩)
                · have ch46 := cv_ne h46
                  have r48 : Rg (1) (1) v44 := rf_nel ch46 rv44 rk_0 (by decide) (by decide)
                  refine rn_iconst (v := (1 : Int32)) dX9_told_84 (by decide) ?_
                  refine rn_goto (tgt := 89) dX9_told_85 (by decide) ?_
                  exact rn_iret dX9_told_89 rfl rfl (rq_in ⟨rfl, (1 : Int32), rfl, (rg_w rk_1 (by decide) (by decide))⟩)
              · skip
                have ch7 := cv_ne h7
                rw [show (0 : Int32).toInt = 0 by decide] at ch7
                have ch13 := cv_ne h13
                rw [show (1 : Int32).toInt = 1 by decide] at ch13
                have ch19 := cv_ne h19
                rw [show (2 : Int32).toInt = 2 by decide] at ch19
                have ch25 := cv_ne h25
                rw [show (3 : Int32).toInt = 3 by decide] at ch25
                have ch31 := cv_ne h31
                rw [show (4 : Int32).toInt = 4 by decide] at ch31
                have ch40 := cv_ne h40
                rw [show (5 : Int32).toInt = 5 by decide] at ch40
                have r9a := (rg_any x2_).1; have r9b := (rg_any x2_).2
                refine rn_tableOut (tgt := 90) dX9_told_7 (by omega) (by decide) ?_
                exact rn_throwW kt_SG_114_260 rfl dX9_told_90 dX9_told_93 dX9_told_94 dX9_told_97 dX9_told_100 (Nat.le_of_ble_eq_true rfl) (Nat.le_of_ble_eq_true rfl) (Nat.le_of_ble_eq_true rfl) (Nat.le_of_ble_eq_true rfl) (Nat.le_of_ble_eq_true rfl) (rq_ex ⟨rfl, rfl⟩)
