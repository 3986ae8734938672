abbrev q_t_X10_send_4400 (G : rn_G) (S : ts_S) (ws : va_W) : rn_R → va_W → Prop := rQ (fun v w => St G S [30, 33, 65] ws S w ∧ (∃ x : Int32, v = some (.int x) ∧ Rg (0) (0) x)) (fun E w => False)
set_option maxRecDepth 20000 in
set_option maxHeartbeats 4000000 in
theorem t_X10_send_4400 (G : rn_G) (S : ts_S) (ws : va_W) (hW : ts_W G S ws) (o0_ : Nat) (m0_ : (o0_, 30) ∈ S) (x2_ : Int32) (hw4402_ : 0 ≤ tw (byt ws) 4402 ∧ tw (byt ws) 4402 ≤ 2047) : Rn G mX10_send 3 66 0 0 0 (lv_args 0 [.ref o0_, .int (4400 : Int32), .int x2_]) [] ws (q_t_X10_send_4400 G S ws ) := by
  have hS0 : St G S [30, 33, 65] ws S ws := St.rf hW
  obtain ⟨ob1, hob1⟩ := hS0.1.2.1.2
  obtain ⟨T2, ht2⟩ : ∃ t : Int, tw (byt ws) 4402 = t := ⟨_, rfl⟩
  rw [ht2] at hw4402_
  refine rn_lv [(0, .ref o0_), (1, .int (4400 : Int32)), (2, .int x2_)] rfl ?_
  refine rn_aload_n (i := 0) dX10_send_0 rfl rfl ?_
  refine rn_iload_n (i := 1) dX10_send_1 rfl rfl ?_
  obtain ⟨q3, fs3, hq3, hl3, hf3⟩ := ts_obj hS0.1 m0_ hk_30
  refine rn_inV (d' := 1) (z' := 21) [.int (4400 : Int32)] kl_SGModel_165 dX10_send_2 q3 hl3 rfl rfl rfl (Nat.le_of_ble_eq_true rfl) (Nat.le_of_ble_eq_true rfl) (Nat.le_of_ble_eq_true rfl) (Nat.le_of_ble_eq_true rfl) ?_
  refine rn_lv [(0, .ref o0_), (1, .int (4400 : Int32))] rfl ?_
  refine rn_aload_n (i := 0) dX10_lengthOf_0 rfl rfl ?_
  refine rn_iload_n (i := 1) dX10_lengthOf_1 rfl rfl ?_
  refine rn_iconst (v := (2 : Int32)) dX10_lengthOf_2 (by decide) ?_
  refine rn_iadd dX10_lengthOf_3 (rn_topi (4402 : Int32) (by decide) ?_)
  refine rn_callV (a := 0) (b := 0) [.int (4402 : Int32)] kl_SGModel_140 dX10_lengthOf_4 q3 hl3 rfl (t_X10_two G S ws hS0.1 o0_ m0_ (4402 : Int32) (rg_w rk_4402 (by decide) (by decide))) rfl rfl (Nat.le_of_ble_eq_true rfl) (Nat.le_of_ble_eq_true rfl) (Nat.le_of_ble_eq_true rfl) (Nat.le_of_ble_eq_true rfl) (Nat.le_of_ble_eq_true rfl) (Nat.le_of_ble_eq_true rfl) (fun _ _ h => False.elim h) (fun v9 w5 h6 => ?_)
  obtain ⟨rfl, v7, rfl, rv7, xah6⟩ := h6
  have ev7 : v7.toInt = T2 := (xah6 4402 (by decide)).trans ht2
  have r9 : Rg (0) (2047) v7 := ⟨by have := rv7.1; have := rv7.2; omega, by have := rv7.1; have := rv7.2; omega⟩
  refine rn_stk [.int v7] rfl ?_
  refine rn_iret dX10_lengthOf_7 rfl rfl (rq_in ?_)
  refine rn_stk [.int v7] rfl ?_
  refine rn_istore_n dX10_send_5 rfl (by decide) [(0, .ref o0_), (1, .int (4400 : Int32)), (2, .int x2_), (3, .int v7)] rfl ?_
  refine rn_aload_n (i := 0) dX10_send_6 rfl rfl ?_
  refine rn_iload_n (i := 2) dX10_send_7 rfl rfl ?_
  refine rs_put q3 (kp_SGModel_92 _) hS0 hq3 hl3 hf3 hk_30 rfl rfl (tv_i (rg_any x2_)) rfl rfl dX10_send_8 (fun w10 fs11 hS11 hl11 hf11 hx11 ho11 hn11 => ?_)
  have ht12 := tw_eq (byt_ne hn11 (ts_ne hq3 hob1 rfl)) ht2
  refine rn_aload_n (i := 0) dX10_send_11 rfl rfl ?_
  obtain ⟨o13, hx13, m13⟩ := fs_r hf11 34 rfl
  refine rn_get q3 kg_SGModel_89 hl11 hx13 dX10_send_12 ?_
  refine rn_iconst (v := (1 : Int32)) dX10_send_15 (by decide) ?_
  refine rn_iconst (v := (0 : Int32)) dX10_send_16 (by decide) ?_
  obtain ⟨q14, f14, hq14, hl14, hf14⟩ := ts_ia hS11.1 m13 hk_65
  refine rs_iast q14 hS11 hq14 hl14 hf14 hk_65 rfl rfl rk_1 (by decide) (by decide) (rg_w rk_0 (by decide) (by decide)) dX10_send_17 (fun w15 f16 hS16 hl16 hf16 hu16 hn16 => ?_)
  have ht17 := tw_eq (byt_ne hn16 (ts_ne hq14 hob1 rfl)) ht12
  refine rn_iload_n (i := 3) dX10_send_18 rfl rfl ?_
  refine rn_sipush (v := (1500 : Int32)) dX10_send_19 (by decide) ?_
  refine rn_icmp_gt (tgt := 43) dX10_send_22 (by decide) (fun h18 => ?_) (fun h18 => ?_)
  · have ch18 := cv_lt h18
    have r19 : Rg (1501) (2047) v7 := rf_lty ch18 rk_1500 r9 (by decide)
    refine rn_aload_n (i := 0) dX10_send_43 rfl rfl ?_
    refine rn_iload_n (i := 1) dX10_send_44 rfl rfl ?_
    refine rn_callV (a := 0) (b := 0) [.int (4400 : Int32)] kl_SGModel_155 dX10_send_45 q3 ((hn16 _ (ts_ne hq14 hq3 rfl)).trans hl11) rfl (t_X10_hasMore G S w15 hS16.1 o0_ m0_ (4400 : Int32) (rg_w rk_4400 (by decide) (by decide))) rfl rfl (Nat.le_of_ble_eq_true rfl) (Nat.le_of_ble_eq_true rfl) (Nat.le_of_ble_eq_true rfl) (Nat.le_of_ble_eq_true rfl) (Nat.le_of_ble_eq_true rfl) (Nat.le_of_ble_eq_true rfl) (fun _ _ h => False.elim h) (fun v9 w20 h21 => ?_)
    obtain ⟨rfl, v22, rfl, rv22⟩ := h21
    refine rn_stk [.int v22] rfl ?_
    refine rn_istore dX10_send_48 (by decide) [(0, .ref o0_), (1, .int (4400 : Int32)), (2, .int x2_), (3, .int v7), (4, .int v22)] rfl ?_
    refine rn_aload_n (i := 0) dX10_send_50 rfl rfl ?_
    refine rn_iload_n (i := 1) dX10_send_51 rfl rfl ?_
    refine rn_inV (d' := 1) (z' := 21) [.int (4400 : Int32)] kl_SGModel_159 dX10_send_52 q3 ((hn16 _ (ts_ne hq14 hq3 rfl)).trans hl11) rfl rfl rfl (Nat.le_of_ble_eq_true rfl) (Nat.le_of_ble_eq_true rfl) (Nat.le_of_ble_eq_true rfl) (Nat.le_of_ble_eq_true rfl) ?_
    refine rn_lv [(0, .ref o0_), (1, .int (4400 : Int32))] rfl ?_
    refine rn_aload_n (i := 0) dX10_offsetOf_0 rfl rfl ?_
    refine rn_iload_n (i := 1) dX10_offsetOf_1 rfl rfl ?_
    refine rn_bipush (v := (6 : Int32)) dX10_offsetOf_2 (by decide) ?_
    refine rn_iadd dX10_offsetOf_4 (rn_topi (4406 : Int32) (by decide) ?_)
    refine rn_callV (a := 0) (b := 0) [.int (4406 : Int32)] kl_SGModel_140 dX10_offsetOf_5 q3 ((hn16 _ (ts_ne hq14 hq3 rfl)).trans hl11) rfl (t_X10_two G S w15 hS16.1 o0_ m0_ (4406 : Int32) (rg_w rk_4406 (by decide) (by decide))) rfl rfl (Nat.le_of_ble_eq_true rfl) (Nat.le_of_ble_eq_true rfl) (Nat.le_of_ble_eq_true rfl) (Nat.le_of_ble_eq_true rfl) (Nat.le_of_ble_eq_true rfl) (Nat.le_of_ble_eq_true rfl) (fun _ _ h => False.elim h) (fun v9 w25 h26 => ?_)
    obtain ⟨rfl, v27, rfl, rv27, xah26⟩ := h26
    obtain ⟨T29, ht29⟩ : ∃ t : Int, tw (byt w15) 4406 = t := ⟨_, rfl⟩
    have ev27 : v27.toInt = T29 := (xah26 4406 (by decide)).trans ht29
    refine rn_stk [.int v27] rfl ?_
    refine rn_sipush (v := (8191 : Int32)) dX10_offsetOf_8 (by decide) ?_
    refine rn_iand dX10_offsetOf_11 (rn_nmE (rg_mask (hi := 8191) 13 8192 rfl rv27 rk_8191 (by decide)) (fun v30 ev30 rv30 => ?_))
    have fv30 : v30.toInt = T29 % 8192 := ev30.trans (congrArg (fun z => z % ((8192 : Nat) : Int)) ev27)
    refine rn_iret dX10_offsetOf_12 rfl rfl (rq_in ?_)
    refine rn_stk [.int v30] rfl ?_
    refine rn_istore dX10_send_55 (by decide) [(0, .ref o0_), (1, .int (4400 : Int32)), (2, .int x2_), (3, .int v7), (4, .int v22), (5, .int v30)] rfl ?_
    refine rn_aload_n (i := 0) dX10_send_57 rfl rfl ?_
    refine rn_iload_n (i := 1) dX10_send_58 rfl rfl ?_
    refine rn_sipush (v := (8800 : Int32)) dX10_send_59 (by decide) ?_
    refine rn_sipush (v := (1500 : Int32)) dX10_send_62 (by decide) ?_
    refine rn_callV (a := 0) (b := 0) [.int (4400 : Int32), .int (8800 : Int32), .int (1500 : Int32)] kl_SGModel_235 dX10_send_65 q3 ((hn16 _ (ts_ne hq14 hq3 rfl)).trans hl11) rfl (t_X10_move G S w15 hS16.1 o0_ m0_ (4400 : Int32) (8800 : Int32) (1500 : Int32) ⟨by have := rk_1500.1; have := rk_1500.2; have := rk_8800.1; have := rk_8800.2; have := rk_4400.1; have := rk_4400.2; omega, by have := rk_1500.1; have := rk_1500.2; have := rk_8800.1; have := rk_8800.2; have := rk_4400.1; have := rk_4400.2; omega, by have := rk_1500.1; have := rk_1500.2; have := rk_8800.1; have := rk_8800.2; have := rk_4400.1; have := rk_4400.2; omega, by have := rk_1500.1; have := rk_1500.2; have := rk_8800.1; have := rk_8800.2; have := rk_4400.1; have := rk_4400.2; omega⟩) rfl rfl (Nat.le_of_ble_eq_true rfl) (Nat.le_of_ble_eq_true rfl) (Nat.le_of_ble_eq_true rfl) (Nat.le_of_ble_eq_true rfl) (Nat.le_of_ble_eq_true rfl) (Nat.le_of_ble_eq_true rfl) (fun _ _ h => False.elim h) (fun v9 w31 h32 => ?_)
    obtain ⟨hT33, rfl, xah32⟩ := h32
    have hS33 := St.tr hS16 hT33 rfl
    have ht34 := bsame.keep xah32.1 ht17 (by have := rk_1500.1; have := rk_1500.2; have := rk_8800.1; have := rk_8800.2; have := rk_4400.1; have := rk_4400.2; omega)
    have ht35 := bsame.keep xah32.1 ht29 (by have := rk_1500.1; have := rk_1500.2; have := rk_8800.1; have := rk_8800.2; have := rk_4400.1; have := rk_4400.2; omega)
    refine rn_stk [] rfl ?_
    refine rn_aload_n (i := 0) dX10_send_68 rfl rfl ?_
    refine rn_sipush (v := (8802 : Int32)) dX10_send_69 (by decide) ?_
    refine rn_sipush (v := (1500 : Int32)) dX10_send_72 (by decide) ?_
    refine rn_callV (a := 0) (b := 0) [.int (8802 : Int32), .int (1500 : Int32)] kl_SGModel_144 dX10_send_75 q3 (hT33.fr hq3 rfl ((hn16 _ (ts_ne hq14 hq3 rfl)).trans hl11)) rfl (t_X10_putTwo G S w31 hS33.1 o0_ m0_ (8802 : Int32) (rg_w rk_8802 (by decide) (by decide)) (1500 : Int32)) rfl rfl (Nat.le_of_ble_eq_true rfl) (Nat.le_of_ble_eq_true rfl) (Nat.le_of_ble_eq_true rfl) (Nat.le_of_ble_eq_true rfl) (Nat.le_of_ble_eq_true rfl) (Nat.le_of_ble_eq_true rfl) (fun _ _ h => False.elim h) (fun v9 w36 h37 => ?_)
    obtain ⟨hT38, rfl, xah37⟩ := h37
    have hS38 := St.tr hS33 hT38 rfl
    have ht39 := bsame.keep xah37.1 ht34 (by have := rk_1500.1; have := rk_1500.2; have := rk_8802.1; have := rk_8802.2; omega)
    have ht40 := bsame.keep xah37.1 ht35 (by have := rk_1500.1; have := rk_1500.2; have := rk_8802.1; have := rk_8802.2; omega)
    have ht41 : tw (byt w36) 8802 = (1500 : Int32).toInt := xah37.2 8802 (by decide) (by have := rk_1500.1; omega) (by have := rk_1500.2; omega)
    refine rn_stk [] rfl ?_
    refine rn_aload_n (i := 0) dX10_send_78 rfl rfl ?_
    refine rn_sipush (v := (8800 : Int32)) dX10_send_79 (by decide) ?_
    refine rn_iconst (v := (1 : Int32)) dX10_send_82 (by decide) ?_
    refine rn_iload dX10_send_83 rfl ?_
    refine rn_callV (a := 0) (b := 0) [.int (8800 : Int32), .int (1 : Int32), .int v30] kl_SGModel_239 dX10_send_85 q3 (hT38.fr hq3 rfl (hT33.fr hq3 rfl ((hn16 _ (ts_ne hq14 hq3 rfl)).trans hl11))) rfl (t_X10_setOffset G S w36 hS38.1 o0_ m0_ (8800 : Int32) (rg_w rk_8800 (by decide) (by decide)) (1 : Int32) (rg_w rk_1 (by decide) (by decide)) v30) rfl rfl (Nat.le_of_ble_eq_true rfl) (Nat.le_of_ble_eq_true rfl) (Nat.le_of_ble_eq_true rfl) (Nat.le_of_ble_eq_true rfl) (Nat.le_of_ble_eq_true rfl) (Nat.le_of_ble_eq_true rfl) (fun _ _ h => False.elim h) (fun v9 w42 h43 => ?_)
    obtain ⟨hT44, rfl, xah43⟩ := h43
    have hS44 := St.tr hS38 hT44 rfl
    have ht45 := bsame.keep xah43 ht39 (by have := rv30.1; have := rv30.2; have := rk_8191.1; have := rk_8191.2; have := rv27.1; have := rv27.2; have := rk_1.1; have := rk_1.2; have := rk_8800.1; have := rk_8800.2; omega)
    have ht46 := bsame.keep xah43 ht40 (by have := rv30.1; have := rv30.2; have := rk_8191.1; have := rk_8191.2; have := rv27.1; have := rv27.2; have := rk_1.1; have := rk_1.2; have := rk_8800.1; have := rk_8800.2; omega)
    have ht47 := bsame.keep xah43 ht41 (by have := rv30.1; have := rv30.2; have := rk_8191.1; have := rk_8191.2; have := rv27.1; have := rv27.2; have := rk_1.1; have := rk_1.2; have := rk_8800.1; have := rk_8800.2; omega)
    refine rn_stk [] rfl ?_
    refine rn_aload_n (i := 0) dX10_send_88 rfl rfl ?_
    refine rn_sipush (v := (8800 : Int32)) dX10_send_89 (by decide) ?_
    refine rn_callV (a := 0) (b := 0) [.int (8800 : Int32)] kl_SGModel_184 dX10_send_92 q3 (hT44.fr hq3 rfl (hT38.fr hq3 rfl (hT33.fr hq3 rfl ((hn16 _ (ts_ne hq14 hq3 rfl)).trans hl11)))) rfl (t_X10_setSum G S w42 hS44.1 o0_ m0_ (8800 : Int32) (rg_w rk_8800 (by decide) (by decide))) rfl rfl (Nat.le_of_ble_eq_true rfl) (Nat.le_of_ble_eq_true rfl) (Nat.le_of_ble_eq_true rfl) (Nat.le_of_ble_eq_true rfl) (Nat.le_of_ble_eq_true rfl) (Nat.le_of_ble_eq_true rfl) (fun _ _ h => False.elim h) (fun v9 w48 h49 => ?_)
    obtain ⟨hT50, rfl, xah49⟩ := h49
    have hS50 := St.tr hS44 hT50 rfl
    have ht51 := bsame.keep xah49 ht45 (by have := rk_8800.1; have := rk_8800.2; omega)
    have ht52 := bsame.keep xah49 ht46 (by have := rk_8800.1; have := rk_8800.2; omega)
    have ht53 := bsame.keep xah49 ht47 (by have := rk_8800.1; have := rk_8800.2; omega)
    refine rn_stk [] rfl ?_
    refine rn_aload_n (i := 0) dX10_send_95 rfl rfl ?_
    refine rn_get q3 kg_SGModel_89 (hT50.fr hq3 rfl (hT44.fr hq3 rfl (hT38.fr hq3 rfl (hT33.fr hq3 rfl ((hn16 _ (ts_ne hq14 hq3 rfl)).trans hl11))))) hx13 dX10_send_96 ?_
    refine rn_iconst (v := (0 : Int32)) dX10_send_99 (by decide) ?_
    refine rn_sipush (v := (1500 : Int32)) dX10_send_100 (by decide) ?_
    refine rs_iast q14 hS50 hq14 (hT50.fr hq14 rfl (hT44.fr hq14 rfl (hT38.fr hq14 rfl (hT33.fr hq14 rfl hl16)))) hf16 hk_65 rfl rfl rk_0 (by decide) (by decide) (rg_w rk_1500 (by decide) (by decide)) dX10_send_103 (fun w54 f55 hS55 hl55 hf55 hu55 hn55 => ?_)
    have ht56 := tw_eq (byt_ne hn55 (ts_ne hq14 hob1 rfl)) ht51
    have ht57 := tw_eq (byt_ne hn55 (ts_ne hq14 hob1 rfl)) ht52
    have ht58 := tw_eq (byt_ne hn55 (ts_ne hq14 hob1 rfl)) ht53
    refine rn_sipush (v := (11000 : Int32)) dX10_send_104 (by decide) ?_
    refine rn_istore dX10_send_107 (by decide) [(0, .ref o0_), (1, .int (4400 : Int32)), (2, .int x2_), (3, .int v7), (4, .int v22), (5, .int v30), (6, .int (11000 : Int32))] rfl ?_
    refine rn_aload_n (i := 0) dX10_send_109 rfl rfl ?_
    refine rn_iload_n (i := 1) dX10_send_110 rfl rfl ?_
    refine rn_iload dX10_send_111 rfl ?_
    refine rn_bipush (v := (20 : Int32)) dX10_send_113 (by decide) ?_
    refine rn_callV (a := 0) (b := 0) [.int (4400 : Int32), .int (11000 : Int32), .int (20 : Int32)] kl_SGModel_235 dX10_send_115 q3 ((hn55 _ (ts_ne hq14 hq3 rfl)).trans (hT50.fr hq3 rfl (hT44.fr hq3 rfl (hT38.fr hq3 rfl (hT33.fr hq3 rfl ((hn16 _ (ts_ne hq14 hq3 rfl)).trans hl11)))))) rfl (t_X10_move G S w54 hS55.1 o0_ m0_ (4400 : Int32) (11000 : Int32) (20 : Int32) ⟨by have := rk_20.1; have := rk_20.2; have := rk_11000.1; have := rk_11000.2; have := rk_4400.1; have := rk_4400.2; omega, by have := rk_20.1; have := rk_20.2; have := rk_11000.1; have := rk_11000.2; have := rk_4400.1; have := rk_4400.2; omega, by have := rk_20.1; have := rk_20.2; have := rk_11000.1; have := rk_11000.2; have := rk_4400.1; have := rk_4400.2; omega, by have := rk_20.1; have := rk_20.2; have := rk_11000.1; have := rk_11000.2; have := rk_4400.1; have := rk_4400.2; omega⟩) rfl rfl (Nat.le_of_ble_eq_true rfl) (Nat.le_of_ble_eq_true rfl) (Nat.le_of_ble_eq_true rfl) (Nat.le_of_ble_eq_true rfl) (Nat.le_of_ble_eq_true rfl) (Nat.le_of_ble_eq_true rfl) (fun _ _ h => False.elim h) (fun v9 w59 h60 => ?_)
    obtain ⟨hT61, rfl, xah60⟩ := h60
    have hS61 := St.tr hS55 hT61 rfl
    have ht62 := bsame.keep xah60.1 ht56 (by have := rk_20.1; have := rk_20.2; have := rk_11000.1; have := rk_11000.2; have := rk_4400.1; have := rk_4400.2; omega)
    have ht63 := bsame.keep xah60.1 ht57 (by have := rk_20.1; have := rk_20.2; have := rk_11000.1; have := rk_11000.2; have := rk_4400.1; have := rk_4400.2; omega)
    have ht64 := bsame.keep xah60.1 ht58 (by have := rk_20.1; have := rk_20.2; have := rk_11000.1; have := rk_11000.2; have := rk_4400.1; have := rk_4400.2; omega)
    refine rn_stk [] rfl ?_
    refine rn_aload_n (i := 0) dX10_send_118 rfl rfl ?_
    refine rn_iload_n (i := 1) dX10_send_119 rfl rfl ?_
    refine rn_sipush (v := (1500 : Int32)) dX10_send_120 (by decide) ?_
    refine rn_iadd dX10_send_123 (rn_topi (5900 : Int32) (by decide) ?_)
    refine rn_iload dX10_send_124 rfl ?_
    refine rn_bipush (v := (20 : Int32)) dX10_send_126 (by decide) ?_
    refine rn_iadd dX10_send_128 (rn_topi (11020 : Int32) (by decide) ?_)
    refine rn_iload_n (i := 3) dX10_send_129 rfl rfl ?_
    refine rn_sipush (v := (1500 : Int32)) dX10_send_130 (by decide) ?_
    refine rs_subC (1) (547) r19 rk_1500 dX10_send_133 (by decide) (fun v67 ev67 rv67 => ?_)
    refine rn_callV (a := 0) (b := 0) [.int (5900 : Int32), .int (11020 : Int32), .int v67] kl_SGModel_235 dX10_send_134 q3 (hT61.fr hq3 rfl ((hn55 _ (ts_ne hq14 hq3 rfl)).trans (hT50.fr hq3 rfl (hT44.fr hq3 rfl (hT38.fr hq3 rfl (hT33.fr hq3 rfl ((hn16 _ (ts_ne hq14 hq3 rfl)).trans hl11))))))) rfl (t_X10_move G S w59 hS61.1 o0_ m0_ (5900 : Int32) (11020 : Int32) v67 ⟨by have := rv67.1; have := rv67.2; have := rk_1500.1; have := rk_1500.2; have := r19.1; have := r19.2; have := rk_11020.1; have := rk_11020.2; have := rk_5900.1; have := rk_5900.2; omega, by have := rv67.1; have := rv67.2; have := rk_1500.1; have := rk_1500.2; have := r19.1; have := r19.2; have := rk_11020.1; have := rk_11020.2; have := rk_5900.1; have := rk_5900.2; omega, by have := rv67.1; have := rv67.2; have := rk_1500.1; have := rk_1500.2; have := r19.1; have := r19.2; have := rk_11020.1; have := rk_11020.2; have := rk_5900.1; have := rk_5900.2; omega, by have := rv67.1; have := rv67.2; have := rk_1500.1; have := rk_1500.2; have := r19.1; have := r19.2; have := rk_11020.1; have := rk_11020.2; have := rk_5900.1; have := rk_5900.2; omega⟩) rfl rfl (Nat.le_of_ble_eq_true rfl) (Nat.le_of_ble_eq_true rfl) (Nat.le_of_ble_eq_true rfl) (Nat.le_of_ble_eq_true rfl) (Nat.le_of_ble_eq_true rfl) (Nat.le_of_ble_eq_true rfl) (fun _ _ h => False.elim h) (fun v9 w68 h69 => ?_)
    obtain ⟨hT70, rfl, xah69⟩ := h69
    have hS70 := St.tr hS61 hT70 rfl
    have ht71 := bsame.keep xah69.1 ht62 (by have := rv67.1; have := rv67.2; have := rk_1500.1; have := rk_1500.2; have := r19.1; have := r19.2; have := rk_11020.1; have := rk_11020.2; have := rk_5900.1; have := rk_5900.2; omega)
    have ht72 := bsame.keep xah69.1 ht63 (by have := rv67.1; have := rv67.2; have := rk_1500.1; have := rk_1500.2; have := r19.1; have := r19.2; have := rk_11020.1; have := rk_11020.2; have := rk_5900.1; have := rk_5900.2; omega)
    have ht73 := bsame.keep xah69.1 ht64 (by have := rv67.1; have := rv67.2; have := rk_1500.1; have := rk_1500.2; have := r19.1; have := r19.2; have := rk_11020.1; have := rk_11020.2; have := rk_5900.1; have := rk_5900.2; omega)
    refine rn_stk [] rfl ?_
    refine rn_aload_n (i := 0) dX10_send_137 rfl rfl ?_
    refine rn_iload dX10_send_138 rfl ?_
    refine rn_iconst (v := (2 : Int32)) dX10_send_140 (by decide) ?_
    refine rn_iadd dX10_send_141 (rn_topi (11002 : Int32) (by decide) ?_)
    refine rn_iload_n (i := 3) dX10_send_142 rfl rfl ?_
    refine rn_sipush (v := (1480 : Int32)) dX10_send_143 (by decide) ?_
    refine rs_subC (21) (567) r19 rk_1480 dX10_send_146 (by decide) (fun v75 ev75 rv75 => ?_)
    refine rn_callV (a := 0) (b := 0) [.int (11002 : Int32), .int v75] kl_SGModel_144 dX10_send_147 q3 (hT70.fr hq3 rfl (hT61.fr hq3 rfl ((hn55 _ (ts_ne hq14 hq3 rfl)).trans (hT50.fr hq3 rfl (hT44.fr hq3 rfl (hT38.fr hq3 rfl (hT33.fr hq3 rfl ((hn16 _ (ts_ne hq14 hq3 rfl)).trans hl11)))))))) rfl (t_X10_putTwo G S w68 hS70.1 o0_ m0_ (11002 : Int32) (rg_w rk_11002 (by decide) (by decide)) v75) rfl rfl (Nat.le_of_ble_eq_true rfl) (Nat.le_of_ble_eq_true rfl) (Nat.le_of_ble_eq_true rfl) (Nat.le_of_ble_eq_true rfl) (Nat.le_of_ble_eq_true rfl) (Nat.le_of_ble_eq_true rfl) (fun _ _ h => False.elim h) (fun v9 w76 h77 => ?_)
    obtain ⟨hT78, rfl, xah77⟩ := h77
    have hS78 := St.tr hS70 hT78 rfl
    have ht79 := bsame.keep xah77.1 ht71 (by have := rv75.1; have := rv75.2; have := rk_1480.1; have := rk_1480.2; have := r19.1; have := r19.2; have := rk_11002.1; have := rk_11002.2; omega)
    have ht80 := bsame.keep xah77.1 ht72 (by have := rv75.1; have := rv75.2; have := rk_1480.1; have := rk_1480.2; have := r19.1; have := r19.2; have := rk_11002.1; have := rk_11002.2; omega)
    have ht81 := bsame.keep xah77.1 ht73 (by have := rv75.1; have := rv75.2; have := rk_1480.1; have := rk_1480.2; have := r19.1; have := r19.2; have := rk_11002.1; have := rk_11002.2; omega)
    have ht82 : tw (byt w76) 11002 = v75.toInt := xah77.2 11002 (by decide) (by have := rv75.1; omega) (by have := rv75.2; omega)
    refine rn_stk [] rfl ?_
    refine rn_aload_n (i := 0) dX10_send_150 rfl rfl ?_
    refine rn_iload dX10_send_151 rfl ?_
    refine rn_iload dX10_send_153 rfl ?_
    refine rn_iload dX10_send_155 rfl ?_
    refine rn_sipush (v := (185 : Int32)) dX10_send_157 (by decide) ?_
    refine rs_addC (185) (8376) rv30 rk_185 dX10_send_160 (by decide) (fun v83 ev83 rv83 => ?_)
    refine rn_callV (a := 0) (b := 0) [.int (11000 : Int32), .int v22, .int v83] kl_SGModel_239 dX10_send_161 q3 (hT78.fr hq3 rfl (hT70.fr hq3 rfl (hT61.fr hq3 rfl ((hn55 _ (ts_ne hq14 hq3 rfl)).trans (hT50.fr hq3 rfl (hT44.fr hq3 rfl (hT38.fr hq3 rfl (hT33.fr hq3 rfl ((hn16 _ (ts_ne hq14 hq3 rfl)).trans hl11))))))))) rfl (t_X10_setOffset G S w76 hS78.1 o0_ m0_ (11000 : Int32) (rg_w rk_11000 (by decide) (by decide)) v22 rv22 v83) rfl rfl (Nat.le_of_ble_eq_true rfl) (Nat.le_of_ble_eq_true rfl) (Nat.le_of_ble_eq_true rfl) (Nat.le_of_ble_eq_true rfl) (Nat.le_of_ble_eq_true rfl) (Nat.le_of_ble_eq_true rfl) (fun _ _ h => False.elim h) (fun v9 w84 h85 => ?_)
    obtain ⟨hT86, rfl, xah85⟩ := h85
    have hS86 := St.tr hS78 hT86 rfl
    have ht87 := bsame.keep xah85 ht79 (by have := rv83.1; have := rv83.2; have := rk_185.1; have := rk_185.2; have := rv30.1; have := rv30.2; have := rk_8191.1; have := rk_8191.2; have := rv27.1; have := rv27.2; have := rv22.1; have := rv22.2; have := rk_11000.1; have := rk_11000.2; omega)
    have ht88 := bsame.keep xah85 ht80 (by have := rv83.1; have := rv83.2; have := rk_185.1; have := rk_185.2; have := rv30.1; have := rv30.2; have := rk_8191.1; have := rk_8191.2; have := rv27.1; have := rv27.2; have := rv22.1; have := rv22.2; have := rk_11000.1; have := rk_11000.2; omega)
    have ht89 := bsame.keep xah85 ht81 (by have := rv83.1; have := rv83.2; have := rk_185.1; have := rk_185.2; have := rv30.1; have := rv30.2; have := rk_8191.1; have := rk_8191.2; have := rv27.1; have := rv27.2; have := rv22.1; have := rv22.2; have := rk_11000.1; have := rk_11000.2; omega)
    have ht90 := bsame.keep xah85 ht82 (by have := rv83.1; have := rv83.2; have := rk_185.1; have := rk_185.2; have := rv30.1; have := rv30.2; have := rk_8191.1; have := rk_8191.2; have := rv27.1; have := rv27.2; have := rv22.1; have := rv22.2; have := rk_11000.1; have := rk_11000.2; omega)
    refine rn_stk [] rfl ?_
    refine rn_aload_n (i := 0) dX10_send_164 rfl rfl ?_
    refine rn_iload dX10_send_165 rfl ?_
    refine rn_callV (a := 0) (b := 0) [.int (11000 : Int32)] kl_SGModel_184 dX10_send_167 q3 (hT86.fr hq3 rfl (hT78.fr hq3 rfl (hT70.fr hq3 rfl (hT61.fr hq3 rfl ((hn55 _ (ts_ne hq14 hq3 rfl)).trans (hT50.fr hq3 rfl (hT44.fr hq3 rfl (hT38.fr hq3 rfl (hT33.fr hq3 rfl ((hn16 _ (ts_ne hq14 hq3 rfl)).trans hl11)))))))))) rfl (t_X10_setSum G S w84 hS86.1 o0_ m0_ (11000 : Int32) (rg_w rk_11000 (by decide) (by decide))) rfl rfl (Nat.le_of_ble_eq_true rfl) (Nat.le_of_ble_eq_true rfl) (Nat.le_of_ble_eq_true rfl) (Nat.le_of_ble_eq_true rfl) (Nat.le_of_ble_eq_true rfl) (Nat.le_of_ble_eq_true rfl) (fun _ _ h => False.elim h) (fun v9 w91 h92 => ?_)
    obtain ⟨hT93, rfl, xah92⟩ := h92
    have hS93 := St.tr hS86 hT93 rfl
    have ht94 := bsame.keep xah92 ht87 (by have := rk_11000.1; have := rk_11000.2; omega)
    have ht95 := bsame.keep xah92 ht88 (by have := rk_11000.1; have := rk_11000.2; omega)
    have ht96 := bsame.keep xah92 ht89 (by have := rk_11000.1; have := rk_11000.2; omega)
    have ht97 := bsame.keep xah92 ht90 (by have := rk_11000.1; have := rk_11000.2; omega)
    refine rn_stk [] rfl ?_
    refine rn_aload_n (i := 0) dX10_send_170 rfl rfl ?_
    refine rn_get q3 kg_SGModel_89 (hT93.fr hq3 rfl (hT86.fr hq3 rfl (hT78.fr hq3 rfl (hT70.fr hq3 rfl (hT61.fr hq3 rfl ((hn55 _ (ts_ne hq14 hq3 rfl)).trans (hT50.fr hq3 rfl (hT44.fr hq3 rfl (hT38.fr hq3 rfl (hT33.fr hq3 rfl ((hn16 _ (ts_ne hq14 hq3 rfl)).trans hl11))))))))))) hx13 dX10_send_171 ?_
    refine rn_iconst (v := (1 : Int32)) dX10_send_174 (by decide) ?_
    refine rn_iload_n (i := 3) dX10_send_175 rfl rfl ?_
    refine rn_sipush (v := (1480 : Int32)) dX10_send_176 (by decide) ?_
    refine rs_subC (21) (567) r19 rk_1480 dX10_send_179 (by decide) (fun v98 ev98 rv98 => ?_)
    refine rs_iast q14 hS93 hq14 (hT93.fr hq14 rfl (hT86.fr hq14 rfl (hT78.fr hq14 rfl (hT70.fr hq14 rfl (hT61.fr hq14 rfl hl55))))) hf55 hk_65 rfl rfl rk_1 (by decide) (by decide) (rg_w rv98 (by decide) (by decide)) dX10_send_180 (fun w99 f100 hS100 hl100 hf100 hu100 hn100 => ?_)
    have ht101 := tw_eq (byt_ne hn100 (ts_ne hq14 hob1 rfl)) ht94
    have ht102 := tw_eq (byt_ne hn100 (ts_ne hq14 hob1 rfl)) ht95
    have ht103 := tw_eq (byt_ne hn100 (ts_ne hq14 hob1 rfl)) ht96
    have ht104 := tw_eq (byt_ne hn100 (ts_ne hq14 hob1 rfl)) ht97
    refine rn_iconst (v := (0 : Int32)) dX10_send_181 (by decide) ?_
    exact rn_iret dX10_send_182 rfl rfl (rq_in ⟨hS100, (0 : Int32), rfl, rk_0⟩)
  · have ch18 := cv_nlt h18
    have r105 : Rg (0) (1500) v7 := rf_lex ch18 r9 rk_1500 (by decide)
    refine rn_aload_n (i := 0) dX10_send_25 rfl rfl ?_
    refine rn_iload_n (i := 1) dX10_send_26 rfl rfl ?_
    refine rn_sipush (v := (8800 : Int32)) dX10_send_27 (by decide) ?_
    refine rn_iload_n (i := 3) dX10_send_30 rfl rfl ?_
    refine rn_callV (a := 0) (b := 0) [.int (4400 : Int32), .int (8800 : Int32), .int v7] kl_SGModel_235 dX10_send_31 q3 ((hn16 _ (ts_ne hq14 hq3 rfl)).trans hl11) rfl (t_X10_move G S w15 hS16.1 o0_ m0_ (4400 : Int32) (8800 : Int32) v7 ⟨by have := r105.1; have := r105.2; have := rk_8800.1; have := rk_8800.2; have := rk_4400.1; have := rk_4400.2; omega, by have := r105.1; have := r105.2; have := rk_8800.1; have := rk_8800.2; have := rk_4400.1; have := rk_4400.2; omega, by have := r105.1; have := r105.2; have := rk_8800.1; have := rk_8800.2; have := rk_4400.1; have := rk_4400.2; omega, by have := r105.1; have := r105.2; have := rk_8800.1; have := rk_8800.2; have := rk_4400.1; have := rk_4400.2; omega⟩) rfl rfl (Nat.le_of_ble_eq_true rfl) (Nat.le_of_ble_eq_true rfl) (Nat.le_of_ble_eq_true rfl) (Nat.le_of_ble_eq_true rfl) (Nat.le_of_ble_eq_true rfl) (Nat.le_of_ble_eq_true rfl) (fun _ _ h => False.elim h) (fun v9 w106 h107 => ?_)
    obtain ⟨hT108, rfl, xah107⟩ := h107
    have hS108 := St.tr hS16 hT108 rfl
    have ht109 := bsame.keep xah107.1 ht17 (by have := r105.1; have := r105.2; have := rk_8800.1; have := rk_8800.2; have := rk_4400.1; have := rk_4400.2; omega)
    refine rn_stk [] rfl ?_
    refine rn_aload_n (i := 0) dX10_send_34 rfl rfl ?_
    refine rn_get q3 kg_SGModel_89 (hT108.fr hq3 rfl ((hn16 _ (ts_ne hq14 hq3 rfl)).trans hl11)) hx13 dX10_send_35 ?_
    refine rn_iconst (v := (0 : Int32)) dX10_send_38 (by decide) ?_
    refine rn_iload_n (i := 3) dX10_send_39 rfl rfl ?_
    refine rs_iast q14 hS108 hq14 (hT108.fr hq14 rfl hl16) hf16 hk_65 rfl rfl rk_0 (by decide) (by decide) r105 dX10_send_40 (fun w110 f111 hS111 hl111 hf111 hu111 hn111 => ?_)
    have ht112 := tw_eq (byt_ne hn111 (ts_ne hq14 hob1 rfl)) ht109
    refine rn_iconst (v := (0 : Int32)) dX10_send_41 (by decide) ?_
    exact rn_iret dX10_send_42 rfl rfl (rq_in ⟨hS111, (0 : Int32), rfl, rk_0⟩)
abbrev q_t_X10_goOut_2200 (G : rn_G) (S : ts_S) (ws : va_W) : rn_R → va_W → Prop := rQ (fun v w => St G S [30, 33, 60, 62, 65] ws S w ∧ (∃ x : Int32, v = some (.int x) ∧ Rg (0) (6) x)) (fun E w => False)
set_option maxRecDepth 20000 in
set_option maxHeartbeats 4000000 in
theorem t_X10_goOut_2200 (G : rn_G) (S : ts_S) (ws : va_W) (hW : ts_W G S ws) (o0_ : Nat) (m0_ : (o0_, 30) ∈ S) (hw2202_ : 0 ≤ tw (byt ws) 2202 ∧ tw (byt ws) 2202 ≤ 2000) : Rn G mX10_goOut 6 134 0 0 0 (lv_args 0 [.ref o0_, .int (2200 : Int32)]) [] ws (q_t_X10_goOut_2200 G S ws ) := by
  have hS0 : St G S [30, 33, 60, 62, 65] ws S ws := St.rf hW
  obtain ⟨ob1, hob1⟩ := hS0.1.2.1.2
  obtain ⟨T2, ht2⟩ : ∃ t : Int, tw (byt ws) 2202 = t := ⟨_, rfl⟩
  rw [ht2] at hw2202_
  refine rn_lv [(0, .ref o0_), (1, .int (2200 : Int32))] rfl ?_
  refine rn_aload_n (i := 0) dX10_goOut_0 rfl rfl ?_
  obtain ⟨q3, fs3, hq3, hl3, hf3⟩ := ts_obj hS0.1 m0_ hk_30
  obtain ⟨o4, hx4, m4⟩ := fs_r hf3 2 rfl
  refine rn_get q3 kg_SGModel_7 hl3 hx4 dX10_goOut_1 ?_
  refine rn_iload_n (i := 1) dX10_goOut_4 rfl rfl ?_
  refine rn_bipush (v := (8 : Int32)) dX10_goOut_5 (by decide) ?_
  refine rn_iadd dX10_goOut_7 (rn_topi (2208 : Int32) (by decide) ?_)
  obtain ⟨q6, f6, hq6, hl6, hf6⟩ := ts_ia hS0.1 m4 hk_33
  refine rs_iald q6 hl6 hf6 rfl rk_2208 (by decide) (by decide) dX10_goOut_8 (fun v7 ev7 rv7 => ?_)
  have hbv7 : byt ws 2208 = v7 := by rw [byt_of hS0.1 hq6 hl6, ev7]; exact congrArg _ (by decide)
  refine rn_iconst (v := (2 : Int32)) dX10_goOut_9 (by decide) ?_
  refine rn_icmp_ge (tgt := 15) dX10_goOut_10 (by decide) (fun h8 => ?_) (fun h8 => ?_)
  · have ch8 := cv_le h8
    have r9 : Rg (2) (255) v7 := rf_ley ch8 rk_2 rv7 (by decide)
    refine rn_aload_n (i := 0) dX10_goOut_15 rfl rfl ?_
    refine rn_aload_n (i := 0) dX10_goOut_16 rfl rfl ?_
    refine rn_iload_n (i := 1) dX10_goOut_17 rfl rfl ?_
    refine rn_bipush (v := (16 : Int32)) dX10_goOut_18 (by decide) ?_
    refine rn_iadd dX10_goOut_20 (rn_topi (2216 : Int32) (by decide) ?_)
    refine rn_callV (a := 0) (b := 0) [.int (2216 : Int32)] kl_SGModel_218 dX10_goOut_21 q3 hl3 rfl (t_X10_four G S ws hS0.1 o0_ m0_ (2216 : Int32) (rg_w rk_2216 (by decide) (by decide))) rfl rfl (Nat.le_of_ble_eq_true rfl) (Nat.le_of_ble_eq_true rfl) (Nat.le_of_ble_eq_true rfl) (Nat.le_of_ble_eq_true rfl) (Nat.le_of_ble_eq_true rfl) (Nat.le_of_ble_eq_true rfl) (fun _ _ h => False.elim h) (fun v9 w11 h12 => ?_)
    obtain ⟨rfl, v13, rfl, rv13⟩ := h12
    refine rn_stk [.int v13, .ref o0_] rfl ?_
    refine rn_callV (a := 0) (b := 0) [.int v13] kl_SGModel_232 dX10_goOut_24 q3 hl3 rfl (t_X10_routeOf G S ws hS0.1 o0_ m0_ v13) rfl rfl (Nat.le_of_ble_eq_true rfl) (Nat.le_of_ble_eq_true rfl) (Nat.le_of_ble_eq_true rfl) (Nat.le_of_ble_eq_true rfl) (Nat.le_of_ble_eq_true rfl) (Nat.le_of_ble_eq_true rfl) (fun _ _ h => False.elim h) (fun v9 w15 h16 => ?_)
    obtain ⟨rfl, v17, rfl, rv17⟩ := h16
    refine rn_stk [.int v17] rfl ?_
    refine rn_iconst (v := (1 : Int32)) dX10_goOut_27 (by decide) ?_
    refine rn_icmp_eq (tgt := 33) dX10_goOut_28 (by decide) (fun h19 => ?_) (fun h19 => ?_)
    · have ch19 := cv_eq h19
      have r20 : Rg (1) (1) v17 := rf_eqx ch19 rv17 rk_1 (by decide) (by decide)
      refine rn_aload_n (i := 0) dX10_goOut_33 rfl rfl ?_
      refine rn_iconst (v := (0 : Int32)) dX10_goOut_34 (by decide) ?_
      refine rn_iload_n (i := 1) dX10_goOut_35 rfl rfl ?_
      refine rn_callV (a := 0) (b := 0) [.int (0 : Int32), .int (2200 : Int32)] kl_SGModel_228 dX10_goOut_36 q3 hl3 rfl (t_X10_policyOf G S ws hS0.1 o0_ m0_ (0 : Int32) (2200 : Int32) (rg_w rk_2200 (by decide) (by decide))) rfl rfl (Nat.le_of_ble_eq_true rfl) (Nat.le_of_ble_eq_true rfl) (Nat.le_of_ble_eq_true rfl) (Nat.le_of_ble_eq_true rfl) (Nat.le_of_ble_eq_true rfl) (Nat.le_of_ble_eq_true rfl) (fun _ _ h => False.elim h) (fun v9 w21 h22 => ?_)
      obtain ⟨rfl, v23, rfl, rv23⟩ := h22
      refine rn_stk [.int v23] rfl ?_
      refine rn_istore_n dX10_goOut_39 rfl (by decide) [(0, .ref o0_), (1, .int (2200 : Int32)), (2, .int v23)] rfl ?_
      refine rn_iload_n (i := 2) dX10_goOut_40 rfl rfl ?_
      refine rn_if_lt (tgt := 55) dX10_goOut_41 (by decide) (fun h25 => ?_) (fun h25 => ?_)
      · have ch25 := cv_lt h25
        have r26 : Rg (-1) (-1) v23 := rf_ltx ch25 rv23 rk_0 (by decide)
        refine rn_iconst (v := (4 : Int32)) dX10_goOut_55 (by decide) ?_
        exact rn_iret dX10_goOut_56 rfl rfl (rq_in ⟨hS0, (4 : Int32), rfl, (rg_w rk_4 (by decide) (by decide))⟩)
      · have ch25 := cv_nlt h25
        have r27 : Rg (0) (23) v23 := rf_ley ch25 rk_0 rv23 (by decide)
        refine rn_aload_n (i := 0) dX10_goOut_44 rfl rfl ?_
        obtain ⟨o28, hx28, m28⟩ := fs_r hf3 18 rfl
        refine rn_get q3 kg_SGModel_49 hl3 hx28 dX10_goOut_45 ?_
        refine rn_iload_n (i := 2) dX10_goOut_48 rfl rfl ?_
        obtain ⟨q29, f29, hq29, hl29, hf29⟩ := ts_ia hS0.1 m28 hk_49
        refine rs_iald q29 hl29 hf29 rfl r27 (by decide) (by decide) dX10_goOut_49 (fun v30 ev30 rv30 => ?_)
        refine rn_bipush (v := (-2 : Int32)) dX10_goOut_50 (by decide) ?_
        refine rn_icmp_ne (tgt := 57) dX10_goOut_52 (by decide) (fun h31 => ?_) (fun h31 => ?_)
        · have ch31 := cv_ne h31
          refine rn_aload_n (i := 0) dX10_goOut_57 rfl rfl ?_
          refine rn_iload_n (i := 1) dX10_goOut_58 rfl rfl ?_
          refine rn_inV (d' := 1) (z' := 21) [.int (2200 : Int32)] kl_SGModel_165 dX10_goOut_59 q3 hl3 rfl rfl rfl (Nat.le_of_ble_eq_true rfl) (Nat.le_of_ble_eq_true rfl) (Nat.le_of_ble_eq_true rfl) (Nat.le_of_ble_eq_true rfl) ?_
          refine rn_lv [(0, .ref o0_), (1, .int (2200 : Int32))] rfl ?_
          refine rn_aload_n (i := 0) dX10_lengthOf_0 rfl rfl ?_
          refine rn_iload_n (i := 1) dX10_lengthOf_1 rfl rfl ?_
          refine rn_iconst (v := (2 : Int32)) dX10_lengthOf_2 (by decide) ?_
          refine rn_iadd dX10_lengthOf_3 (rn_topi (2202 : Int32) (by decide) ?_)
          refine rn_callV (a := 0) (b := 0) [.int (2202 : Int32)] kl_SGModel_140 dX10_lengthOf_4 q3 hl3 rfl (t_X10_two G S ws hS0.1 o0_ m0_ (2202 : Int32) (rg_w rk_2202 (by decide) (by decide))) rfl rfl (Nat.le_of_ble_eq_true rfl) (Nat.le_of_ble_eq_true rfl) (Nat.le_of_ble_eq_true rfl) (Nat.le_of_ble_eq_true rfl) (Nat.le_of_ble_eq_true rfl) (Nat.le_of_ble_eq_true rfl) (fun _ _ h => False.elim h) (fun v9 w33 h34 => ?_)
          obtain ⟨rfl, v35, rfl, rv35, xah34⟩ := h34
          have ev35 : v35.toInt = T2 := (xah34 2202 (by decide)).trans ht2
          have r37 : Rg (0) (2000) v35 := ⟨by have := rv35.1; have := rv35.2; omega, by have := rv35.1; have := rv35.2; omega⟩
          refine rn_stk [.int v35] rfl ?_
          refine rn_iret dX10_lengthOf_7 rfl rfl (rq_in ?_)
          refine rn_stk [.int v35] rfl ?_
          refine rn_istore_n dX10_goOut_62 rfl (by decide) [(0, .ref o0_), (1, .int (2200 : Int32)), (2, .int v23), (3, .int v35)] rfl ?_
          refine rn_aload_n (i := 0) dX10_goOut_63 rfl rfl ?_
          refine rn_get q3 kg_SGModel_49 hl3 hx28 dX10_goOut_64 ?_
          refine rn_iload_n (i := 2) dX10_goOut_67 rfl rfl ?_
          refine rs_iald q29 hl29 hf29 rfl r27 (by decide) (by decide) dX10_goOut_68 (fun v38 ev38 rv38 => ?_)
          refine rn_iconst (v := (-1 : Int32)) dX10_goOut_69 (by decide) ?_
          refine rn_icmp_ne (tgt := 101) dX10_goOut_70 (by decide) (fun h39 => ?_) (fun h39 => ?_)
          · have ch39 := cv_ne h39
            refine rn_aload_n (i := 0) dX10_goOut_101 rfl rfl ?_
            refine rn_aload_n (i := 0) dX10_goOut_102 rfl rfl ?_
            refine rn_get q3 kg_SGModel_49 hl3 hx28 dX10_goOut_103 ?_
            refine rn_iload_n (i := 2) dX10_goOut_106 rfl rfl ?_
            refine rs_iald q29 hl29 hf29 rfl r27 (by decide) (by decide) dX10_goOut_107 (fun v40 ev40 rv40 => ?_)
            refine rn_callV (a := 0) (b := 0) [.int v40] kl_SGModel_285 dX10_goOut_108 q3 hl3 rfl (t_X10_sealFor G S ws hS0.1 o0_ m0_ v40) rfl rfl (Nat.le_of_ble_eq_true rfl) (Nat.le_of_ble_eq_true rfl) (Nat.le_of_ble_eq_true rfl) (Nat.le_of_ble_eq_true rfl) (Nat.le_of_ble_eq_true rfl) (Nat.le_of_ble_eq_true rfl) (fun _ _ h => False.elim h) (fun v9 w41 h42 => ?_)
            obtain ⟨rfl, v43, rfl, rv43⟩ := h42
            refine rn_stk [.int v43] rfl ?_
            refine rn_istore dX10_goOut_111 (by decide) [(0, .ref o0_), (1, .int (2200 : Int32)), (2, .int v23), (3, .int v35), (4, .int v43)] rfl ?_
            refine rn_iload dX10_goOut_113 rfl ?_
            refine rn_if_ge (tgt := 120) dX10_goOut_115 (by decide) (fun h45 => ?_) (fun h45 => ?_)
            · have ch45 := cv_le h45
              have r46 : Rg (0) (15) v43 := rf_ley ch45 rk_0 rv43 (by decide)
              refine rn_aload_n (i := 0) dX10_goOut_120 rfl rfl ?_
              refine rn_iload_n (i := 3) dX10_goOut_121 rfl rfl ?_
              refine rn_iload_n (i := 3) dX10_goOut_122 rfl rfl ?_
              refine rn_callS (a := 0) (b := 0) [.int v35] kl_SGModel_256 dX10_goOut_123 (t_X10_fillOf G S ws hS0.1 v35 (rg_w r37 (by decide) (by decide))) rfl rfl (Nat.le_of_ble_eq_true rfl) (Nat.le_of_ble_eq_true rfl) (Nat.le_of_ble_eq_true rfl) (Nat.le_of_ble_eq_true rfl) (Nat.le_of_ble_eq_true rfl) (Nat.le_of_ble_eq_true rfl) (fun _ _ h => False.elim h) (fun v9 w47 h48 => ?_)
              obtain ⟨rfl, v49, rfl, rv49⟩ := h48
              refine rn_stk [.int v49, .int v35, .ref o0_] rfl ?_
              refine rs_addR (0) (2003) r37 rv49 dX10_goOut_126 (by decide) (fun v51 ev51 rv51 => ?_)
              refine rn_bipush (v := (38 : Int32)) dX10_goOut_127 (by decide) ?_
              refine rs_addC (38) (2041) rv51 rk_38 dX10_goOut_129 (by decide) (fun v52 ev52 rv52 => ?_)
              refine rn_aload_n (i := 0) dX10_goOut_130 rfl rfl ?_
              refine rn_iload_n (i := 1) dX10_goOut_131 rfl rfl ?_
              refine rn_callV (a := 0) (b := 0) [.int (2200 : Int32)] kl_SGModel_270 dX10_goOut_132 q3 hl3 rfl (t_X10_hasDont G S ws hS0.1 o0_ m0_ (2200 : Int32) (rg_w rk_2200 (by decide) (by decide))) rfl rfl (Nat.le_of_ble_eq_true rfl) (Nat.le_of_ble_eq_true rfl) (Nat.le_of_ble_eq_true rfl) (Nat.le_of_ble_eq_true rfl) (Nat.le_of_ble_eq_true rfl) (Nat.le_of_ble_eq_true rfl) (fun _ _ h => False.elim h) (fun v9 w53 h54 => ?_)
              obtain ⟨rfl, v55, rfl, rv55⟩ := h54
              refine rn_stk [.int v55, .int v52, .ref o0_] rfl ?_
              refine rn_callV (a := 0) (b := 0) [.int v52, .int v55] kl_SGModel_275 dX10_goOut_135 q3 hl3 rfl (t_X10_isTooMuch G S ws hS0.1 o0_ m0_ v52 v55 rv55) rfl rfl (Nat.le_of_ble_eq_true rfl) (Nat.le_of_ble_eq_true rfl) (Nat.le_of_ble_eq_true rfl) (Nat.le_of_ble_eq_true rfl) (Nat.le_of_ble_eq_true rfl) (Nat.le_of_ble_eq_true rfl) (fun _ _ h => False.elim h) (fun v9 w57 h58 => ?_)
              obtain ⟨rfl, v59, rfl, rv59⟩ := h58
              refine rn_stk [.int v59] rfl ?_
              refine rn_if_eq (tgt := 144) dX10_goOut_138 (by decide) (fun h61 => ?_) (fun h61 => ?_)
              · have ch61 := cv_eq h61
                have r62 : Rg (0) (0) v59 := rf_eqx ch61 rv59 rk_0 (by decide) (by decide)
                refine rn_aload_n (i := 0) dX10_goOut_144 rfl rfl ?_
                obtain ⟨o63, hx63, m63⟩ := fs_r hf3 31 rfl
                refine rn_get q3 kg_SGModel_83 hl3 hx63 dX10_goOut_145 ?_
                refine rn_iload dX10_goOut_148 rfl ?_
                refine rn_dup2_11 dX10_goOut_150 rfl rfl ?_
                obtain ⟨q64, f64, hq64, hl64⟩ := ts_la hS0.1 m63 hk_62
                refine rs_lald q64 hl64 rfl r46 (by decide) (by decide) dX10_goOut_151 (fun v65 ev65 => ?_)
                refine rn_lconst (v := (1 : Int64)) dX10_goOut_152 (by decide) ?_
                refine rn_ladd dX10_goOut_153 (rn_nmL (fun l66 => ?_))
                refine rs_last q64 hS0 hq64 hl64 hk_62 rfl rfl r46 (by decide) (by decide) dX10_goOut_154 (fun w67 f68 hS68 hl68 hu68 hn68 => ?_)
                have ht69 := tw_eq (byt_ne hn68 (ts_ne hq64 hob1 rfl)) ht2
                have hb70 := (congrFun (byt_ne hn68 (ts_ne hq64 hob1 rfl)) 2208).trans hbv7
                refine rn_aload_n (i := 0) dX10_goOut_155 rfl rfl ?_
                obtain ⟨o71, hx71, m71⟩ := fs_r hf3 29 rfl
                refine rn_get q3 kg_SGModel_77 ((hn68 _ (ts_ne hq64 hq3 rfl)).trans hl3) hx71 dX10_goOut_156 ?_
                refine rn_iload dX10_goOut_159 rfl ?_
                refine rn_dup2_11 dX10_goOut_161 rfl rfl ?_
                obtain ⟨q72, f72, hq72, hl72, hf72⟩ := ts_ia hS68.1 m71 hk_60
                refine rs_iald q72 hl72 hf72 rfl r46 (by decide) (by decide) dX10_goOut_162 (fun v73 ev73 rv73 => ?_)
                refine rn_iconst (v := (1 : Int32)) dX10_goOut_163 (by decide) ?_
                refine rn_isub dX10_goOut_164 (rn_nmA (fun v74 rv74 => ?_))
                refine rs_iast q72 hS68 hq72 hl72 hf72 hk_60 rfl rfl r46 (by decide) (by decide) rv74 dX10_goOut_165 (fun w75 f76 hS76 hl76 hf76 hu76 hn76 => ?_)
                have ht77 := tw_eq (byt_ne hn76 (ts_ne hq72 hob1 rfl)) ht69
                have hb78 := (congrFun (byt_ne hn76 (ts_ne hq72 hob1 rfl)) 2208).trans hb70
                refine rn_aload_n (i := 0) dX10_goOut_166 rfl rfl ?_
                refine rn_iload_n (i := 1) dX10_goOut_167 rfl rfl ?_
                refine rn_callV (a := 0) (b := 0) [.int (2200 : Int32)] kl_SGModel_279 dX10_goOut_168 q3 ((hn76 _ (ts_ne hq72 hq3 rfl)).trans ((hn68 _ (ts_ne hq64 hq3 rfl)).trans hl3)) rfl (t_X10_hop_2200 G S w75 hS76.1 o0_ m0_ (by rw [hb78]; have := r9.1; have := r9.2; omega)) rfl rfl (Nat.le_of_ble_eq_true rfl) (Nat.le_of_ble_eq_true rfl) (Nat.le_of_ble_eq_true rfl) (Nat.le_of_ble_eq_true rfl) (Nat.le_of_ble_eq_true rfl) (Nat.le_of_ble_eq_true rfl) (fun _ _ h => False.elim h) (fun v9 w79 h80 => ?_)
                obtain ⟨hT81, rfl, xah80⟩ := h80
                have hS81 := St.tr hS76 hT81 rfl
                have ht82 := bsame.keep xah80 ht77 (by have := rk_2200.1; have := rk_2200.2; omega)
                refine rn_stk [] rfl ?_
                refine rn_aload_n (i := 0) dX10_goOut_171 rfl rfl ?_
                refine rn_iload_n (i := 1) dX10_goOut_172 rfl rfl ?_
                refine rn_iload dX10_goOut_173 rfl ?_
                refine rn_aload_n (i := 0) dX10_goOut_175 rfl rfl ?_
                refine rn_get q3 kg_SGModel_83 (hT81.fr hq3 rfl ((hn76 _ (ts_ne hq72 hq3 rfl)).trans ((hn68 _ (ts_ne hq64 hq3 rfl)).trans hl3))) hx63 dX10_goOut_176 ?_
                refine rn_iload dX10_goOut_179 rfl ?_
                refine rs_lald q64 (hT81.fr hq64 rfl ((hn76 _ (ts_ne hq72 hq64 rfl)).trans hl68)) rfl r46 (by decide) (by decide) dX10_goOut_181 (fun v83 ev83 => ?_)
                refine rn_callV (a := 0) (b := 0) [.int (2200 : Int32), .int v43, .long v83] kl_SGModel_288 dX10_goOut_182 q3 (hT81.fr hq3 rfl ((hn76 _ (ts_ne hq72 hq3 rfl)).trans ((hn68 _ (ts_ne hq64 hq3 rfl)).trans hl3))) rfl (t_X10_sealIt_2200 G S w79 hS81.1 o0_ m0_ v43 r46 v83 (by rw [ht82]; exact ⟨by omega, by omega⟩)) rfl rfl (Nat.le_of_ble_eq_true rfl) (Nat.le_of_ble_eq_true rfl) (Nat.le_of_ble_eq_true rfl) (Nat.le_of_ble_eq_true rfl) (Nat.le_of_ble_eq_true rfl) (Nat.le_of_ble_eq_true rfl) (fun _ _ h => False.elim h) (fun v9 w84 h85 => ?_)
                obtain ⟨hT86, rfl, xah85⟩ := h85
                have hS86 := St.tr hS81 hT86 rfl
                obtain ⟨T87, ht87⟩ : ∃ t : Int, tw (byt w84) 4402 = t := ⟨_, rfl⟩
                rw [ht87] at xah85
                refine rn_stk [] rfl ?_
                refine rn_aload_n (i := 0) dX10_goOut_185 rfl rfl ?_
                refine rn_sipush (v := (4400 : Int32)) dX10_goOut_186 (by decide) ?_
                refine rn_iconst (v := (1 : Int32)) dX10_goOut_189 (by decide) ?_
                obtain ⟨q88, fs88, hq88, hl88, hf88⟩ := ts_obj hS86.1 m0_ hk_30
                refine rn_callV (a := 0) (b := 0) [.int (4400 : Int32), .int (1 : Int32)] kl_SGModel_282 dX10_goOut_190 q88 hl88 rfl (t_X10_send_4400 G S w84 hS86.1 o0_ m0_ (1 : Int32) (by rw [ht87]; exact ⟨by omega, by omega⟩)) rfl rfl (Nat.le_of_ble_eq_true rfl) (Nat.le_of_ble_eq_true rfl) (Nat.le_of_ble_eq_true rfl) (Nat.le_of_ble_eq_true rfl) (Nat.le_of_ble_eq_true rfl) (Nat.le_of_ble_eq_true rfl) (fun _ _ h => False.elim h) (fun v9 w89 h90 => ?_)
                obtain ⟨hT92, v91, rfl, rv91⟩ := h90
                have hS92 := St.tr hS86 hT92 rfl
                refine rn_stk [.int v91] rfl ?_
                exact rn_iret dX10_goOut_193 rfl rfl (rq_in ⟨hS92, v91, rfl, (rg_w rv91 (by decide) (by decide))⟩)
              · have ch61 := cv_ne h61
                have r93 : Rg (1) (1) v59 := rf_nel ch61 rv59 rk_0 (by decide) (by decide)
                refine rn_bipush (v := (6 : Int32)) dX10_goOut_141 (by decide) ?_
                exact rn_iret dX10_goOut_143 rfl rfl (rq_in ⟨hS0, (6 : Int32), rfl, (rg_w rk_6 (by decide) (by decide))⟩)
            · have ch45 := cv_nle h45
              have r94 : Rg (-1) (-1) v43 := rf_ltx ch45 rv43 rk_0 (by decide)
              refine rn_iconst (v := (5 : Int32)) dX10_goOut_118 (by decide) ?_
              exact rn_iret dX10_goOut_119 rfl rfl (rq_in ⟨hS0, (5 : Int32), rfl, (rg_w rk_5 (by decide) (by decide))⟩)
          · have ch39 := cv_eq h39
            have r95 : Rg (-1) (-1) v38 := rf_eqx ch39 rv38 rk_m1 (by decide) (by decide)
            refine rn_aload_n (i := 0) dX10_goOut_73 rfl rfl ?_
            refine rn_iload_n (i := 3) dX10_goOut_74 rfl rfl ?_
            refine rn_aload_n (i := 0) dX10_goOut_75 rfl rfl ?_
            refine rn_iload_n (i := 1) dX10_goOut_76 rfl rfl ?_
            refine rn_callV (a := 0) (b := 0) [.int (2200 : Int32)] kl_SGModel_270 dX10_goOut_77 q3 hl3 rfl (t_X10_hasDont G S ws hS0.1 o0_ m0_ (2200 : Int32) (rg_w rk_2200 (by decide) (by decide))) rfl rfl (Nat.le_of_ble_eq_true rfl) (Nat.le_of_ble_eq_true rfl) (Nat.le_of_ble_eq_true rfl) (Nat.le_of_ble_eq_true rfl) (Nat.le_of_ble_eq_true rfl) (Nat.le_of_ble_eq_true rfl) (fun _ _ h => False.elim h) (fun v9 w96 h97 => ?_)
            obtain ⟨rfl, v98, rfl, rv98⟩ := h97
            refine rn_stk [.int v98, .int v35, .ref o0_] rfl ?_
            refine rn_callV (a := 0) (b := 0) [.int v35, .int v98] kl_SGModel_275 dX10_goOut_80 q3 hl3 rfl (t_X10_isTooMuch G S ws hS0.1 o0_ m0_ v35 v98 rv98) rfl rfl (Nat.le_of_ble_eq_true rfl) (Nat.le_of_ble_eq_true rfl) (Nat.le_of_ble_eq_true rfl) (Nat.le_of_ble_eq_true rfl) (Nat.le_of_ble_eq_true rfl) (Nat.le_of_ble_eq_true rfl) (fun _ _ h => False.elim h) (fun v9 w100 h101 => ?_)
            obtain ⟨rfl, v102, rfl, rv102⟩ := h101
            refine rn_stk [.int v102] rfl ?_
            refine rn_if_eq (tgt := 89) dX10_goOut_83 (by decide) (fun h104 => ?_) (fun h104 => ?_)
            · have ch104 := cv_eq h104
              have r105 : Rg (0) (0) v102 := rf_eqx ch104 rv102 rk_0 (by decide) (by decide)
              refine rn_aload_n (i := 0) dX10_goOut_89 rfl rfl ?_
              refine rn_iload_n (i := 1) dX10_goOut_90 rfl rfl ?_
              refine rn_callV (a := 0) (b := 0) [.int (2200 : Int32)] kl_SGModel_279 dX10_goOut_91 q3 hl3 rfl (t_X10_hop_2200 G S ws hS0.1 o0_ m0_ (by rw [hbv7]; have := r9.1; have := r9.2; omega)) rfl rfl (Nat.le_of_ble_eq_true rfl) (Nat.le_of_ble_eq_true rfl) (Nat.le_of_ble_eq_true rfl) (Nat.le_of_ble_eq_true rfl) (Nat.le_of_ble_eq_true rfl) (Nat.le_of_ble_eq_true rfl) (fun _ _ h => False.elim h) (fun v9 w106 h107 => ?_)
              obtain ⟨hT108, rfl, xah107⟩ := h107
              have hS108 := St.tr hS0 hT108 rfl
              have ht109 := bsame.keep xah107 ht2 (by have := rk_2200.1; have := rk_2200.2; omega)
              refine rn_stk [] rfl ?_
              refine rn_aload_n (i := 0) dX10_goOut_94 rfl rfl ?_
              refine rn_iload_n (i := 1) dX10_goOut_95 rfl rfl ?_
              refine rn_iconst (v := (1 : Int32)) dX10_goOut_96 (by decide) ?_
              refine rn_callV (a := 0) (b := 0) [.int (2200 : Int32), .int (1 : Int32)] kl_SGModel_282 dX10_goOut_97 q3 (hT108.fr hq3 rfl hl3) rfl (t_X10_send_2200 G S w106 hS108.1 o0_ m0_ (1 : Int32) (by rw [ht109]; exact ⟨by omega, by omega⟩)) rfl rfl (Nat.le_of_ble_eq_true rfl) (Nat.le_of_ble_eq_true rfl) (Nat.le_of_ble_eq_true rfl) (Nat.le_of_ble_eq_true rfl) (Nat.le_of_ble_eq_true rfl) (Nat.le_of_ble_eq_true rfl) (fun _ _ h => False.elim h) (fun v9 w110 h111 => ?_)
              obtain ⟨hT113, v112, rfl, rv112⟩ := h111
              have hS113 := St.tr hS108 hT113 rfl
              refine rn_stk [.int v112] rfl ?_
              exact rn_iret dX10_goOut_100 rfl rfl (rq_in ⟨hS113, v112, rfl, (rg_w rv112 (by decide) (by decide))⟩)
            · have ch104 := cv_ne h104
              have r114 : Rg (1) (1) v102 := rf_nel ch104 rv102 rk_0 (by decide) (by decide)
              refine rn_bipush (v := (6 : Int32)) dX10_goOut_86 (by decide) ?_
              exact rn_iret dX10_goOut_88 rfl rfl (rq_in ⟨hS0, (6 : Int32), rfl, (rg_w rk_6 (by decide) (by decide))⟩)
        · have ch31 := cv_eq h31
          have r115 : Rg (-2) (-2) v30 := rf_eqx ch31 rv30 rk_m2 (by decide) (by decide)
          refine rn_iconst (v := (4 : Int32)) dX10_goOut_55 (by decide) ?_
          exact rn_iret dX10_goOut_56 rfl rfl (rq_in ⟨hS0, (4 : Int32), rfl, (rg_w rk_4 (by decide) (by decide))⟩)
    · have ch19 := cv_ne h19
      refine rn_iconst (v := (3 : Int32)) dX10_goOut_31 (by decide) ?_
      exact rn_iret dX10_goOut_32 rfl rfl (rq_in ⟨hS0, (3 : Int32), rfl, (rg_w rk_3 (by decide) (by decide))⟩)
  · have ch8 := cv_nle h8
    have r116 : Rg (0) (1) v7 := rf_ltx ch8 rv7 rk_2 (by decide)
    refine rn_iconst (v := (2 : Int32)) dX10_goOut_13 (by decide) ?_
    exact rn_iret dX10_goOut_14 rfl rfl (rq_in ⟨hS0, (2 : Int32), rfl, (rg_w rk_2 (by decide) (by decide))⟩)
abbrev q_t_X10_come (G : rn_G) (S : ts_S) (ws : va_W) : rn_R → va_W → Prop := rQ (fun v w => St G S [30, 33, 60, 62, 63, 65, 67, 68, 69, 70, 71, 72, 73, 75, 77, 78, 79, 80, 81] ws S w ∧ (∃ x : Int32, v = some (.int x) ∧ Rg (0) (17) x)) (fun E w => False)
set_option maxRecDepth 20000 in
set_option maxHeartbeats 4000000 in
theorem t_X10_come (G : rn_G) (S : ts_S) (ws : va_W) (hW : ts_W G S ws) (o0_ : Nat) (m0_ : (o0_, 30) ∈ S) (x1_ : Int32) : Rn G mX10_come 8 188 0 0 0 (lv_args 0 [.ref o0_, .int x1_]) [] ws (q_t_X10_come G S ws ) := by
  have hS0 : St G S [30, 33, 60, 62, 63, 65, 67, 68, 69, 70, 71, 72, 73, 75, 77, 78, 79, 80, 81] ws S ws := St.rf hW
  refine rn_lv [(0, .ref o0_), (1, .int x1_)] rfl ?_
  refine rn_aload_n (i := 0) dX10_come_0 rfl rfl ?_
  refine rn_iconst (v := (0 : Int32)) dX10_come_1 (by decide) ?_
  obtain ⟨q1, fs1, hq1, hl1, hf1⟩ := ts_obj hS0.1 m0_ hk_30
  refine rs_put q1 (kp_SGModel_137 _) hS0 hq1 hl1 hf1 hk_30 rfl rfl (tv_i (rg_w rk_0 (by decide) (by decide))) rfl rfl dX10_come_2 (fun w2 fs3 hS3 hl3 hf3 hx3 ho3 hn3 => ?_)
  refine rn_aload_n (i := 0) dX10_come_5 rfl rfl ?_
  refine rn_iload_n (i := 1) dX10_come_6 rfl rfl ?_
  refine rn_iconst (v := (0 : Int32)) dX10_come_7 (by decide) ?_
  refine rn_iconst (v := (1 : Int32)) dX10_come_8 (by decide) ?_
  refine rn_inS (d' := 0) (z' := 0) [.int x1_, .int (0 : Int32), .int (1 : Int32)] kl_SGModel_179 dX10_come_9 rfl rfl (Nat.le_of_ble_eq_true rfl) (Nat.le_of_ble_eq_true rfl) (Nat.le_of_ble_eq_true rfl) (Nat.le_of_ble_eq_true rfl) ?_
  refine rn_lv [(0, .int x1_), (1, .int (0 : Int32)), (2, .int (1 : Int32))] rfl ?_
  refine rn_iload_n (i := 0) dX10_in_0 rfl rfl ?_
  refine rn_iload_n (i := 1) dX10_in_1 rfl rfl ?_
  refine rn_icmp_lt (tgt := 14) dX10_in_2 (by decide) (fun h4 => ?_) (fun h4 => ?_)
  · have ch4 := cv_lt h4
    have r5 : Rg (-2147483648) (-1) x1_ := rf_ltx ch4 (rg_any x1_) rk_0 (by decide)
    refine rn_iconst (v := (0 : Int32)) dX10_in_14 (by decide) ?_
    refine rn_iret dX10_in_15 rfl rfl (rq_in ?_)
    refine rn_stk [.int (0 : Int32), .ref o0_] rfl ?_
    refine rn_if_ne (tgt := 19) dX10_come_12 (by decide) (fun h6 => (cx_ne (cv_ne h6) rk_0 rk_0 (by decide)).elim) (fun h6 => ?_)
    refine rn_iconst (v := (1 : Int32)) dX10_come_15 (by decide) ?_
    refine rn_goto (tgt := 20) dX10_come_16 (by decide) ?_
    refine rn_iconst (v := (1 : Int32)) dX10_come_20 (by decide) ?_
    refine rn_inV (d' := 0) (z' := 0) [.int (1 : Int32), .int (1 : Int32)] kl_SGModel_171 dX10_come_21 q1 hl3 rfl rfl rfl (Nat.le_of_ble_eq_true rfl) (Nat.le_of_ble_eq_true rfl) (Nat.le_of_ble_eq_true rfl) (Nat.le_of_ble_eq_true rfl) ?_
    refine rn_lv [(0, .ref o0_), (1, .int (1 : Int32)), (2, .int (1 : Int32))] rfl ?_
    refine rn_aload_n (i := 0) dX10_refuses_0 rfl rfl ?_
    refine rn_get q1 kg_SGModel_137 hl3 hx3 dX10_refuses_1 ?_
    refine rn_if_ne (tgt := 16) dX10_refuses_4 (by decide) (fun h7 => (cx_ne (cv_ne h7) rk_0 rk_0 (by decide)).elim) (fun h7 => ?_)
    refine rn_iload_n (i := 1) dX10_refuses_7 rfl rfl ?_
    refine rn_if_eq (tgt := 16) dX10_refuses_8 (by decide) (fun h8 => (cx_eq (cv_eq h8) rk_1 rk_0 (by decide)).elim) (fun h8 => ?_)
    refine rn_aload_n (i := 0) dX10_refuses_11 rfl rfl ?_
    refine rn_iload_n (i := 2) dX10_refuses_12 rfl rfl ?_
    refine rs_put q1 (kp_SGModel_137 _) hS3 hq1 hl3 hf3 hk_30 rfl rfl (tv_i (rg_w rk_1 (by decide) (by decide))) rfl rfl dX10_refuses_13 (fun w9 fs10 hS10 hl10 hf10 hx10 ho10 hn10 => ?_)
    refine rn_aload_n (i := 0) dX10_refuses_16 rfl rfl ?_
    refine rn_get q1 kg_SGModel_137 hl10 hx10 dX10_refuses_17 ?_
    refine rn_if_le (tgt := 27) dX10_refuses_20 (by decide) (fun h11 => (cx_le (cv_le h11) rk_1 rk_0 (by decide)).elim) (fun h11 => ?_)
    refine rn_iconst (v := (1 : Int32)) dX10_refuses_23 (by decide) ?_
    refine rn_goto (tgt := 28) dX10_refuses_24 (by decide) ?_
    refine rn_iret dX10_refuses_28 rfl rfl (rq_in ?_)
    refine rn_stk [.int (1 : Int32)] rfl ?_
    refine rn_if_eq (tgt := 29) dX10_come_24 (by decide) (fun h12 => (cx_eq (cv_eq h12) rk_1 rk_0 (by decide)).elim) (fun h12 => ?_)
    refine rn_iconst (v := (0 : Int32)) dX10_come_27 (by decide) ?_
    exact rn_iret dX10_come_28 rfl rfl (rq_in ⟨hS10, (0 : Int32), rfl, (rg_w rk_0 (by decide) (by decide))⟩)
  · have ch4 := cv_nlt h4
    have r13 : Rg (0) (2147483647) x1_ := rf_ley ch4 rk_0 (rg_any x1_) (by decide)
    refine rn_iload_n (i := 0) dX10_in_5 rfl rfl ?_
    refine rn_iload_n (i := 2) dX10_in_6 rfl rfl ?_
    refine rn_icmp_gt (tgt := 14) dX10_in_7 (by decide) (fun h14 => ?_) (fun h14 => ?_)
    · have ch14 := cv_lt h14
      have r15 : Rg (2) (2147483647) x1_ := rf_lty ch14 rk_1 r13 (by decide)
      refine rn_iconst (v := (0 : Int32)) dX10_in_14 (by decide) ?_
      refine rn_iret dX10_in_15 rfl rfl (rq_in ?_)
      refine rn_stk [.int (0 : Int32), .ref o0_] rfl ?_
      refine rn_if_ne (tgt := 19) dX10_come_12 (by decide) (fun h16 => (cx_ne (cv_ne h16) rk_0 rk_0 (by decide)).elim) (fun h16 => ?_)
      refine rn_iconst (v := (1 : Int32)) dX10_come_15 (by decide) ?_
      refine rn_goto (tgt := 20) dX10_come_16 (by decide) ?_
      refine rn_iconst (v := (1 : Int32)) dX10_come_20 (by decide) ?_
      refine rn_inV (d' := 0) (z' := 0) [.int (1 : Int32), .int (1 : Int32)] kl_SGModel_171 dX10_come_21 q1 hl3 rfl rfl rfl (Nat.le_of_ble_eq_true rfl) (Nat.le_of_ble_eq_true rfl) (Nat.le_of_ble_eq_true rfl) (Nat.le_of_ble_eq_true rfl) ?_
      refine rn_lv [(0, .ref o0_), (1, .int (1 : Int32)), (2, .int (1 : Int32))] rfl ?_
      refine rn_aload_n (i := 0) dX10_refuses_0 rfl rfl ?_
      refine rn_get q1 kg_SGModel_137 hl3 hx3 dX10_refuses_1 ?_
      refine rn_if_ne (tgt := 16) dX10_refuses_4 (by decide) (fun h17 => (cx_ne (cv_ne h17) rk_0 rk_0 (by decide)).elim) (fun h17 => ?_)
      refine rn_iload_n (i := 1) dX10_refuses_7 rfl rfl ?_
      refine rn_if_eq (tgt := 16) dX10_refuses_8 (by decide) (fun h18 => (cx_eq (cv_eq h18) rk_1 rk_0 (by decide)).elim) (fun h18 => ?_)
      refine rn_aload_n (i := 0) dX10_refuses_11 rfl rfl ?_
      refine rn_iload_n (i := 2) dX10_refuses_12 rfl rfl ?_
      refine rs_put q1 (kp_SGModel_137 _) hS3 hq1 hl3 hf3 hk_30 rfl rfl (tv_i (rg_w rk_1 (by decide) (by decide))) rfl rfl dX10_refuses_13 (fun w19 fs20 hS20 hl20 hf20 hx20 ho20 hn20 => ?_)
      refine rn_aload_n (i := 0) dX10_refuses_16 rfl rfl ?_
      refine rn_get q1 kg_SGModel_137 hl20 hx20 dX10_refuses_17 ?_
      refine rn_if_le (tgt := 27) dX10_refuses_20 (by decide) (fun h21 => (cx_le (cv_le h21) rk_1 rk_0 (by decide)).elim) (fun h21 => ?_)
      refine rn_iconst (v := (1 : Int32)) dX10_refuses_23 (by decide) ?_
      refine rn_goto (tgt := 28) dX10_refuses_24 (by decide) ?_
      refine rn_iret dX10_refuses_28 rfl rfl (rq_in ?_)
      refine rn_stk [.int (1 : Int32)] rfl ?_
      refine rn_if_eq (tgt := 29) dX10_come_24 (by decide) (fun h22 => (cx_eq (cv_eq h22) rk_1 rk_0 (by decide)).elim) (fun h22 => ?_)
      refine rn_iconst (v := (0 : Int32)) dX10_come_27 (by decide) ?_
      exact rn_iret dX10_come_28 rfl rfl (rq_in ⟨hS20, (0 : Int32), rfl, (rg_w rk_0 (by decide) (by decide))⟩)
    · have ch14 := cv_nlt h14
      have r23 : Rg (0) (1) x1_ := rf_lex ch14 r13 rk_1 (by decide)
      refine rn_iconst (v := (1 : Int32)) dX10_in_10 (by decide) ?_
      refine rn_goto (tgt := 15) dX10_in_11 (by decide) ?_
      refine rn_iret dX10_in_15 rfl rfl (rq_in ?_)
      refine rn_stk [.int (1 : Int32), .ref o0_] rfl ?_
      refine rn_if_ne (tgt := 19) dX10_come_12 (by decide) (fun h24 => ?_) (fun h24 => (cx_eq (cv_eq h24) rk_1 rk_0 (by decide)).elim)
      refine rn_iconst (v := (0 : Int32)) dX10_come_19 (by decide) ?_
      refine rn_iconst (v := (1 : Int32)) dX10_come_20 (by decide) ?_
      refine rn_inV (d' := 0) (z' := 0) [.int (0 : Int32), .int (1 : Int32)] kl_SGModel_171 dX10_come_21 q1 hl3 rfl rfl rfl (Nat.le_of_ble_eq_true rfl) (Nat.le_of_ble_eq_true rfl) (Nat.le_of_ble_eq_true rfl) (Nat.le_of_ble_eq_true rfl) ?_
      refine rn_lv [(0, .ref o0_), (1, .int (0 : Int32)), (2, .int (1 : Int32))] rfl ?_
      refine rn_aload_n (i := 0) dX10_refuses_0 rfl rfl ?_
      refine rn_get q1 kg_SGModel_137 hl3 hx3 dX10_refuses_1 ?_
      refine rn_if_ne (tgt := 16) dX10_refuses_4 (by decide) (fun h25 => (cx_ne (cv_ne h25) rk_0 rk_0 (by decide)).elim) (fun h25 => ?_)
      refine rn_iload_n (i := 1) dX10_refuses_7 rfl rfl ?_
      refine rn_if_eq (tgt := 16) dX10_refuses_8 (by decide) (fun h26 => ?_) (fun h26 => (cx_ne (cv_ne h26) rk_0 rk_0 (by decide)).elim)
      refine rn_aload_n (i := 0) dX10_refuses_16 rfl rfl ?_
      refine rn_get q1 kg_SGModel_137 hl3 hx3 dX10_refuses_17 ?_
      refine rn_if_le (tgt := 27) dX10_refuses_20 (by decide) (fun h27 => ?_) (fun h27 => (cx_lt (cv_nle h27) rk_0 rk_0 (by decide)).elim)
      refine rn_iconst (v := (0 : Int32)) dX10_refuses_27 (by decide) ?_
      refine rn_iret dX10_refuses_28 rfl rfl (rq_in ?_)
      refine rn_stk [.int (0 : Int32)] rfl ?_
      refine rn_if_eq (tgt := 29) dX10_come_24 (by decide) (fun h28 => ?_) (fun h28 => (cx_ne (cv_ne h28) rk_0 rk_0 (by decide)).elim)
      refine rn_aload_n (i := 0) dX10_come_29 rfl rfl ?_
      refine rn_iconst (v := (0 : Int32)) dX10_come_30 (by decide) ?_
      refine rn_aload_n (i := 0) dX10_come_31 rfl rfl ?_
      obtain ⟨x29, hx29, rx29⟩ := fs_i hf3 3 rfl
      refine rn_get q1 kg_SGModel_168 hl3 hx29 dX10_come_32 ?_
      refine rn_callV (a := 0) (b := 0) [.int (0 : Int32), .int x29] kl_SGModel_225 dX10_come_35 q1 hl3 rfl (t_X10_isBroken_0 G S w2 hS3.1 o0_ m0_ x29) rfl rfl (Nat.le_of_ble_eq_true rfl) (Nat.le_of_ble_eq_true rfl) (Nat.le_of_ble_eq_true rfl) (Nat.le_of_ble_eq_true rfl) (Nat.le_of_ble_eq_true rfl) (Nat.le_of_ble_eq_true rfl) (fun _ _ h => False.elim h) (fun v9 w30 h31 => ?_)
      obtain ⟨rfl, v32, rfl, rv32, xah31⟩ := h31
      obtain ⟨ob34, hob34⟩ := hS3.1.2.1.2
      obtain ⟨T35, ht35⟩ : ∃ t : Int, tw (byt w2) 2 = t := ⟨_, rfl⟩
      rw [ht35] at xah31
      refine rn_stk [.int v32] rfl ?_
      refine rn_if_eq (tgt := 47) dX10_come_38 (by decide) (fun h36 => ?_) (fun h36 => ?_)
      · have ch36 := cv_eq h36
        have kh36 := xah31 h36
        have r37 : Rg (0) (0) v32 := rf_eqx ch36 rv32 rk_0 (by decide) (by decide)
        refine rn_aload_n (i := 0) dX10_come_47 rfl rfl ?_
        refine rn_iconst (v := (0 : Int32)) dX10_come_48 (by decide) ?_
        refine rn_sipush (v := (2200 : Int32)) dX10_come_49 (by decide) ?_
        refine rn_aload_n (i := 0) dX10_come_52 rfl rfl ?_
        refine rn_iconst (v := (0 : Int32)) dX10_come_53 (by decide) ?_
        refine rn_inV (d' := 1) (z' := 21) [.int (0 : Int32)] kl_SGModel_165 dX10_come_54 q1 hl3 rfl rfl rfl (Nat.le_of_ble_eq_true rfl) (Nat.le_of_ble_eq_true rfl) (Nat.le_of_ble_eq_true rfl) (Nat.le_of_ble_eq_true rfl) ?_
        refine rn_lv [(0, .ref o0_), (1, .int (0 : Int32))] rfl ?_
        refine rn_aload_n (i := 0) dX10_lengthOf_0 rfl rfl ?_
        refine rn_iload_n (i := 1) dX10_lengthOf_1 rfl rfl ?_
        refine rn_iconst (v := (2 : Int32)) dX10_lengthOf_2 (by decide) ?_
        refine rn_iadd dX10_lengthOf_3 (rn_topi (2 : Int32) (by decide) ?_)
        refine rn_callV (a := 0) (b := 0) [.int (2 : Int32)] kl_SGModel_140 dX10_lengthOf_4 q1 hl3 rfl (t_X10_two G S w2 hS3.1 o0_ m0_ (2 : Int32) (rg_w rk_2 (by decide) (by decide))) rfl rfl (Nat.le_of_ble_eq_true rfl) (Nat.le_of_ble_eq_true rfl) (Nat.le_of_ble_eq_true rfl) (Nat.le_of_ble_eq_true rfl) (Nat.le_of_ble_eq_true rfl) (Nat.le_of_ble_eq_true rfl) (fun _ _ h => False.elim h) (fun v9 w39 h40 => ?_)
        obtain ⟨rfl, v41, rfl, rv41, xah40⟩ := h40
        have ev41 : v41.toInt = T35 := (xah40 2 (by decide)).trans ht35
        have r43 : Rg (20) (2000) v41 := rg_tw ev41 kh36 rx29 (by decide)
        refine rn_stk [.int v41] rfl ?_
        refine rn_iret dX10_lengthOf_7 rfl rfl (rq_in ?_)
        refine rn_stk [.int v41, .int (2200 : Int32), .int (0 : Int32), .ref o0_] rfl ?_
        refine rn_callV (a := 0) (b := 0) [.int (0 : Int32), .int (2200 : Int32), .int v41] kl_SGModel_235 dX10_come_57 q1 hl3 rfl (t_X10_move G S w2 hS3.1 o0_ m0_ (0 : Int32) (2200 : Int32) v41 ⟨by have := r43.1; have := r43.2; have := rk_2200.1; have := rk_2200.2; have := rk_0.1; have := rk_0.2; omega, by have := r43.1; have := r43.2; have := rk_2200.1; have := rk_2200.2; have := rk_0.1; have := rk_0.2; omega, by have := r43.1; have := r43.2; have := rk_2200.1; have := rk_2200.2; have := rk_0.1; have := rk_0.2; omega, by have := r43.1; have := r43.2; have := rk_2200.1; have := rk_2200.2; have := rk_0.1; have := rk_0.2; omega⟩) rfl rfl (Nat.le_of_ble_eq_true rfl) (Nat.le_of_ble_eq_true rfl) (Nat.le_of_ble_eq_true rfl) (Nat.le_of_ble_eq_true rfl) (Nat.le_of_ble_eq_true rfl) (Nat.le_of_ble_eq_true rfl) (fun _ _ h => False.elim h) (fun v9 w44 h45 => ?_)
        obtain ⟨hT46, rfl, xah45⟩ := h45
        have hS46 := St.tr hS3 hT46 rfl
        have ht47 := bsame.keep xah45.1 ht35 (by have := r43.1; have := r43.2; have := rk_2200.1; have := rk_2200.2; have := rk_0.1; have := rk_0.2; omega)
        have ht48 : tw (byt w44) 2202 = T35 := mv_tw xah45.2 ht35 (by decide) (by decide) (by have := r43.1; have := r43.2; have := rk_2200.1; have := rk_2200.2; have := rk_0.1; have := rk_0.2; omega) (by have := r43.1; have := r43.2; have := rk_2200.1; have := rk_2200.2; have := rk_0.1; have := rk_0.2; omega)
        refine rn_stk [] rfl ?_
        refine rn_aload_n (i := 0) dX10_come_60 rfl rfl ?_
        refine rn_iload_n (i := 1) dX10_come_61 rfl rfl ?_
        refine rn_if_ne (tgt := 75) dX10_come_62 (by decide) (fun h49 => ?_) (fun h49 => ?_)
        · have ch49 := cv_ne h49
          have r50 : Rg (1) (1) x1_ := rf_nel ch49 r23 rk_0 (by decide) (by decide)
          refine rn_aload_n (i := 0) dX10_come_75 rfl rfl ?_
          refine rn_sipush (v := (2200 : Int32)) dX10_come_76 (by decide) ?_
          refine rn_callV (a := 0) (b := 0) [.int (2200 : Int32)] kl_SGModel_359 dX10_come_79 q1 (hT46.fr hq1 rfl hl3) rfl (t_X10_comeOuter_2200 G S w44 hS46.1 o0_ m0_ (by rw [ht48]; exact gv_tw kh36 rx29 (by decide) (by decide))) rfl rfl (Nat.le_of_ble_eq_true rfl) (Nat.le_of_ble_eq_true rfl) (Nat.le_of_ble_eq_true rfl) (Nat.le_of_ble_eq_true rfl) (Nat.le_of_ble_eq_true rfl) (Nat.le_of_ble_eq_true rfl) (fun _ _ h => False.elim h) (fun v9 w51 h52 => ?_)
          obtain ⟨hT54, v53, rfl, rv53⟩ := h52
          have hS54 := St.tr hS46 hT54 rfl
          refine rn_stk [.int v53, .ref o0_] rfl ?_
          obtain ⟨q55, fs55, hq55, hl55, hf55⟩ := ts_obj hS54.1 m0_ hk_30
          refine rn_callV (a := 0) (b := 0) [.int v53] kl_SGModel_353 dX10_come_82 q55 hl55 rfl (t_X10_ends G S w51 hS54.1 o0_ m0_ v53 rv53) rfl rfl (Nat.le_of_ble_eq_true rfl) (Nat.le_of_ble_eq_true rfl) (Nat.le_of_ble_eq_true rfl) (Nat.le_of_ble_eq_true rfl) (Nat.le_of_ble_eq_true rfl) (Nat.le_of_ble_eq_true rfl) (fun _ _ h => False.elim h) (fun v9 w56 h57 => ?_)
          obtain ⟨hT59, v58, rfl, rv58⟩ := h57
          have hS59 := St.tr hS54 hT59 rfl
          refine rn_stk [.int v58] rfl ?_
          exact rn_iret dX10_come_85 rfl rfl (rq_in ⟨hS59, v58, rfl, rv58⟩)
        · have ch49 := cv_eq h49
          have r60 : Rg (0) (0) x1_ := rf_eqx ch49 r23 rk_0 (by decide) (by decide)
          refine rn_aload_n (i := 0) dX10_come_65 rfl rfl ?_
          refine rn_sipush (v := (2200 : Int32)) dX10_come_66 (by decide) ?_
          refine rn_callV (a := 0) (b := 0) [.int (2200 : Int32)] kl_SGModel_356 dX10_come_69 q1 (hT46.fr hq1 rfl hl3) rfl (t_X10_goOut_2200 G S w44 hS46.1 o0_ m0_ (by rw [ht48]; exact gv_tw kh36 rx29 (by decide) (by decide))) rfl rfl (Nat.le_of_ble_eq_true rfl) (Nat.le_of_ble_eq_true rfl) (Nat.le_of_ble_eq_true rfl) (Nat.le_of_ble_eq_true rfl) (Nat.le_of_ble_eq_true rfl) (Nat.le_of_ble_eq_true rfl) (fun _ _ h => False.elim h) (fun v9 w61 h62 => ?_)
          obtain ⟨hT64, v63, rfl, rv63⟩ := h62
          have hS64 := St.tr hS46 hT64 rfl
          refine rn_stk [.int v63, .ref o0_] rfl ?_
          refine rn_goto (tgt := 82) dX10_come_72 (by decide) ?_
          obtain ⟨q65, fs65, hq65, hl65, hf65⟩ := ts_obj hS64.1 m0_ hk_30
          refine rn_callV (a := 0) (b := 0) [.int v63] kl_SGModel_353 dX10_come_82 q65 hl65 rfl (t_X10_ends G S w61 hS64.1 o0_ m0_ v63 (rg_w rv63 (by decide) (by decide))) rfl rfl (Nat.le_of_ble_eq_true rfl) (Nat.le_of_ble_eq_true rfl) (Nat.le_of_ble_eq_true rfl) (Nat.le_of_ble_eq_true rfl) (Nat.le_of_ble_eq_true rfl) (Nat.le_of_ble_eq_true rfl) (fun _ _ h => False.elim h) (fun v9 w66 h67 => ?_)
          obtain ⟨hT69, v68, rfl, rv68⟩ := h67
          have hS69 := St.tr hS64 hT69 rfl
          refine rn_stk [.int v68] rfl ?_
          exact rn_iret dX10_come_85 rfl rfl (rq_in ⟨hS69, v68, rfl, rv68⟩)
      · have ch36 := cv_ne h36
        have r70 : Rg (1) (1) v32 := rf_nel ch36 rv32 rk_0 (by decide) (by decide)
        refine rn_aload_n (i := 0) dX10_come_41 rfl rfl ?_
        refine rn_iconst (v := (1 : Int32)) dX10_come_42 (by decide) ?_
        refine rn_callV (a := 0) (b := 0) [.int (1 : Int32)] kl_SGModel_353 dX10_come_43 q1 hl3 rfl (t_X10_ends G S w2 hS3.1 o0_ m0_ (1 : Int32) (rg_w rk_1 (by decide) (by decide))) rfl rfl (Nat.le_of_ble_eq_true rfl) (Nat.le_of_ble_eq_true rfl) (Nat.le_of_ble_eq_true rfl) (Nat.le_of_ble_eq_true rfl) (Nat.le_of_ble_eq_true rfl) (Nat.le_of_ble_eq_true rfl) (fun _ _ h => False.elim h) (fun v9 w71 h72 => ?_)
        obtain ⟨hT74, v73, rfl, rv73⟩ := h72
        have hS74 := St.tr hS3 hT74 rfl
        have ht75 := tw_eq (byt_fr hS3.1 hT74 rfl) ht35
        refine rn_stk [.int v73] rfl ?_
        exact rn_iret dX10_come_46 rfl rfl (rq_in ⟨hS74, v73, rfl, rv73⟩)
