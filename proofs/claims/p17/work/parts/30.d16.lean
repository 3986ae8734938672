abbrev q_t_X10_send_4400 (G : rn_G) (S : ts_S) (ws : va_W) : rn_R → va_W → Prop := rQ (fun v w => St G S [30, 33, 65] ws S w ∧ (∃ x : Int32, v = some (.int x) ∧ Rg (0) (0) x ∧ fK1 4 S ws w)) (fun E w => False)
set_option maxRecDepth 20000 in
set_option maxHeartbeats 4000000 in
theorem t_X10_send_4400 (G : rn_G) (S : ts_S) (ws : va_W) (hW : ts_W G S ws) (o0_ : Nat) (m0_ : (o0_, 30) ∈ S) (x2_ : Int32) (hw4402_ : 0 ≤ tw (byt ws) 4402 ∧ tw (byt ws) 4402 ≤ 2047) : Rn G mX10_send 3 66 0 0 0 (lv_args 0 [.ref o0_, .int (4400 : Int32), .int x2_]) [] ws (q_t_X10_send_4400 G S ws ) := by
  have hS0 : St G S [30, 33, 65] ws S ws := St.rf hW
  have fk0 : fK1 4 S ws ws := fun v h => h
  obtain ⟨ob1, hob1⟩ := hS0.1.2.1.2
  obtain ⟨T2, ht2⟩ : ∃ t : Int, tw (byt ws) 4402 = t := ⟨_, rfl⟩
  rw [ht2] at hw4402_
  refine rn_lv [(0, .ref o0_), (1, .int (4400 : Int32)), (2, .int x2_)] rfl ?_
  refine rn_aload_n (i := 0) dX10_send_0 rfl rfl ?_
  refine rn_iload_n (i := 1) dX10_send_1 rfl rfl ?_
  obtain ⟨q3, fs3, hq3, hl3, hf3⟩ := ts_obj hS0.1 m0_ hk_30
  refine rn_inV (d' := 1) (z' := 21) [.int (4400 : Int32)] kl_SGModel_165 dX10_send_2 q3 hl3 rfl rfl rfl (Nat.le_of_ble_eq_true rfl) (Nat.le_of_ble_eq_true rfl) (Nat.le_of_ble_eq_true rfl) (Nat.le_of_ble_eq_true rfl) ?_
  refine rn_lv [(0, .ref o0_), (1, .int (4400 : Int32))] rfl ?_
  refine rn_aload_n (i := 0) dX10_lengthOf_0 rfl rfl ?_
  refine rn_iload_n (i := 1) dX10_lengthOf_1 rfl rfl ?_
  refine rn_iconst (v := (2 : Int32)) dX10_lengthOf_2 (by decide) ?_
  refine rn_iadd dX10_lengthOf_3 (rn_topi (4402 : Int32) (by decide) ?_)
  refine rn_callV (a := 0) (b := 0) [.int (4402 : Int32)] kl_SGModel_140 dX10_lengthOf_4 q3 hl3 rfl (t_X10_two G S ws hS0.1 o0_ m0_ (4402 : Int32) (rg_w rk_4402 (by decide) (by decide))) rfl rfl (Nat.le_of_ble_eq_true rfl) (Nat.le_of_ble_eq_true rfl) (Nat.le_of_ble_eq_true rfl) (Nat.le_of_ble_eq_true rfl) (Nat.le_of_ble_eq_true rfl) (Nat.le_of_ble_eq_true rfl) (fun _ _ h => False.elim h) (fun v9 w5 h6 => ?_)
  obtain ⟨rfl, v7, rfl, rv7, xah6⟩ := h6
  have ev7 : v7.toInt = T2 := (xah6 4402 (by decide)).trans ht2
  have r9 : Rg (0) (2047) v7 := ⟨by have := rv7.1; have := rv7.2; omega, by have := rv7.1; have := rv7.2; omega⟩
  refine rn_stk [.int v7] rfl ?_
  refine rn_iret dX10_lengthOf_7 rfl rfl (rq_in ?_)
  refine rn_stk [.int v7] rfl ?_
  refine rn_istore_n dX10_send_5 rfl (by decide) [(0, .ref o0_), (1, .int (4400 : Int32)), (2, .int x2_), (3, .int v7)] rfl ?_
  refine rn_aload_n (i := 0) dX10_send_6 rfl rfl ?_
  refine rn_iload_n (i := 2) dX10_send_7 rfl rfl ?_
  refine rs_put q3 (kp_SGModel_92 _) hS0 hq3 hl3 hf3 hk_30 rfl rfl (tv_i (rg_any x2_)) rfl rfl dX10_send_8 (fun w10 fs11 hS11 hl11 hf11 hx11 ho11 hn11 => ?_)
  have fk12 : fK1 4 S ws w10 := fk_put fk0 hS0.1 hq3 hl3 hl11 ho11 (by decide)
  have ht13 := tw_eq (byt_ne hn11 (ts_ne hq3 hob1 rfl)) ht2
  refine rn_aload_n (i := 0) dX10_send_11 rfl rfl ?_
  obtain ⟨o14, hx14, m14⟩ := fs_r hf11 34 rfl
  refine rn_get q3 kg_SGModel_89 hl11 hx14 dX10_send_12 ?_
  refine rn_iconst (v := (1 : Int32)) dX10_send_15 (by decide) ?_
  refine rn_iconst (v := (0 : Int32)) dX10_send_16 (by decide) ?_
  obtain ⟨q15, f15, hq15, hl15, hf15⟩ := ts_ia hS11.1 m14 hk_65
  refine rs_iast q15 hS11 hq15 hl15 hf15 hk_65 rfl rfl rk_1 (by decide) (by decide) (rg_w rk_0 (by decide) (by decide)) dX10_send_17 (fun w16 f17 hS17 hl17 hf17 hu17 hn17 => ?_)
  have fk18 : fK1 4 S ws w16 := fk_ne fk12 hn17 hq15 rfl
  have ht19 := tw_eq (byt_ne hn17 (ts_ne hq15 hob1 rfl)) ht13
  refine rn_iload_n (i := 3) dX10_send_18 rfl rfl ?_
  refine rn_sipush (v := (1500 : Int32)) dX10_send_19 (by decide) ?_
  refine rn_icmp_gt (tgt := 43) dX10_send_22 (by decide) (fun h20 => ?_) (fun h20 => ?_)
  · have ch20 := cv_lt h20
    have r21 : Rg (1501) (2047) v7 := rf_lty ch20 rk_1500 r9 (by decide)
    refine rn_aload_n (i := 0) dX10_send_43 rfl rfl ?_
    refine rn_iload_n (i := 1) dX10_send_44 rfl rfl ?_
    refine rn_callV (a := 0) (b := 0) [.int (4400 : Int32)] kl_SGModel_155 dX10_send_45 q3 ((hn17 _ (ts_ne hq15 hq3 rfl)).trans hl11) rfl (t_X10_hasMore G S w16 hS17.1 o0_ m0_ (4400 : Int32) (rg_w rk_4400 (by decide) (by decide))) rfl rfl (Nat.le_of_ble_eq_true rfl) (Nat.le_of_ble_eq_true rfl) (Nat.le_of_ble_eq_true rfl) (Nat.le_of_ble_eq_true rfl) (Nat.le_of_ble_eq_true rfl) (Nat.le_of_ble_eq_true rfl) (fun _ _ h => False.elim h) (fun v9 w22 h23 => ?_)
    obtain ⟨rfl, v24, rfl, rv24⟩ := h23
    refine rn_stk [.int v24] rfl ?_
    refine rn_istore dX10_send_48 (by decide) [(0, .ref o0_), (1, .int (4400 : Int32)), (2, .int x2_), (3, .int v7), (4, .int v24)] rfl ?_
    refine rn_aload_n (i := 0) dX10_send_50 rfl rfl ?_
    refine rn_iload_n (i := 1) dX10_send_51 rfl rfl ?_
    refine rn_inV (d' := 1) (z' := 21) [.int (4400 : Int32)] kl_SGModel_159 dX10_send_52 q3 ((hn17 _ (ts_ne hq15 hq3 rfl)).trans hl11) rfl rfl rfl (Nat.le_of_ble_eq_true rfl) (Nat.le_of_ble_eq_true rfl) (Nat.le_of_ble_eq_true rfl) (Nat.le_of_ble_eq_true rfl) ?_
    refine rn_lv [(0, .ref o0_), (1, .int (4400 : Int32))] rfl ?_
    refine rn_aload_n (i := 0) dX10_offsetOf_0 rfl rfl ?_
    refine rn_iload_n (i := 1) dX10_offsetOf_1 rfl rfl ?_
    refine rn_bipush (v := (6 : Int32)) dX10_offsetOf_2 (by decide) ?_
    refine rn_iadd dX10_offsetOf_4 (rn_topi (4406 : Int32) (by decide) ?_)
    refine rn_callV (a := 0) (b := 0) [.int (4406 : Int32)] kl_SGModel_140 dX10_offsetOf_5 q3 ((hn17 _ (ts_ne hq15 hq3 rfl)).trans hl11) rfl (t_X10_two G S w16 hS17.1 o0_ m0_ (4406 : Int32) (rg_w rk_4406 (by decide) (by decide))) rfl rfl (Nat.le_of_ble_eq_true rfl) (Nat.le_of_ble_eq_true rfl) (Nat.le_of_ble_eq_true rfl) (Nat.le_of_ble_eq_true rfl) (Nat.le_of_ble_eq_true rfl) (Nat.le_of_ble_eq_true rfl) (fun _ _ h => False.elim h) (fun v9 w27 h28 => ?_)
    obtain ⟨rfl, v29, rfl, rv29, xah28⟩ := h28
    obtain ⟨T31, ht31⟩ : ∃ t : Int, tw (byt w16) 4406 = t := ⟨_, rfl⟩
    have ev29 : v29.toInt = T31 := (xah28 4406 (by decide)).trans ht31
    refine rn_stk [.int v29] rfl ?_
    refine rn_sipush (v := (8191 : Int32)) dX10_offsetOf_8 (by decide) ?_
    refine rn_iand dX10_offsetOf_11 (rn_nmE (rg_mask (hi := 8191) 13 8192 rfl rv29 rk_8191 (by decide)) (fun v32 ev32 rv32 => ?_))
    have fv32 : v32.toInt = T31 % 8192 := ev32.trans (congrArg (fun z => z % ((8192 : Nat) : Int)) ev29)
    refine rn_iret dX10_offsetOf_12 rfl rfl (rq_in ?_)
    refine rn_stk [.int v32] rfl ?_
    refine rn_istore dX10_send_55 (by decide) [(0, .ref o0_), (1, .int (4400 : Int32)), (2, .int x2_), (3, .int v7), (4, .int v24), (5, .int v32)] rfl ?_
    refine rn_aload_n (i := 0) dX10_send_57 rfl rfl ?_
    refine rn_iload_n (i := 1) dX10_send_58 rfl rfl ?_
    refine rn_sipush (v := (8800 : Int32)) dX10_send_59 (by decide) ?_
    refine rn_sipush (v := (1500 : Int32)) dX10_send_62 (by decide) ?_
    refine rn_callV (a := 0) (b := 0) [.int (4400 : Int32), .int (8800 : Int32), .int (1500 : Int32)] kl_SGModel_235 dX10_send_65 q3 ((hn17 _ (ts_ne hq15 hq3 rfl)).trans hl11) rfl (t_X10_move G S w16 hS17.1 o0_ m0_ (4400 : Int32) (8800 : Int32) (1500 : Int32) ⟨by have := rk_1500.1; have := rk_1500.2; have := rk_8800.1; have := rk_8800.2; have := rk_4400.1; have := rk_4400.2; omega, by have := rk_1500.1; have := rk_1500.2; have := rk_8800.1; have := rk_8800.2; have := rk_4400.1; have := rk_4400.2; omega, by have := rk_1500.1; have := rk_1500.2; have := rk_8800.1; have := rk_8800.2; have := rk_4400.1; have := rk_4400.2; omega, by have := rk_1500.1; have := rk_1500.2; have := rk_8800.1; have := rk_8800.2; have := rk_4400.1; have := rk_4400.2; omega⟩) rfl rfl (Nat.le_of_ble_eq_true rfl) (Nat.le_of_ble_eq_true rfl) (Nat.le_of_ble_eq_true rfl) (Nat.le_of_ble_eq_true rfl) (Nat.le_of_ble_eq_true rfl) (Nat.le_of_ble_eq_true rfl) (fun _ _ h => False.elim h) (fun v9 w33 h34 => ?_)
    obtain ⟨hT35, rfl, xah34⟩ := h34
    have hS35 := St.tr hS17 hT35 rfl
    have ht36 := bsame.keep xah34.1 ht19 (by have := rk_1500.1; have := rk_1500.2; have := rk_8800.1; have := rk_8800.2; have := rk_4400.1; have := rk_4400.2; omega)
    have ht37 := bsame.keep xah34.1 ht31 (by have := rk_1500.1; have := rk_1500.2; have := rk_8800.1; have := rk_8800.2; have := rk_4400.1; have := rk_4400.2; omega)
    have fk38 : fK1 4 S ws w33 := fk_fr fk18 hT35 rfl
    refine rn_stk [] rfl ?_
    refine rn_aload_n (i := 0) dX10_send_68 rfl rfl ?_
    refine rn_sipush (v := (8802 : Int32)) dX10_send_69 (by decide) ?_
    refine rn_sipush (v := (1500 : Int32)) dX10_send_72 (by decide) ?_
    refine rn_callV (a := 0) (b := 0) [.int (8802 : Int32), .int (1500 : Int32)] kl_SGModel_144 dX10_send_75 q3 (hT35.fr hq3 rfl ((hn17 _ (ts_ne hq15 hq3 rfl)).trans hl11)) rfl (t_X10_putTwo G S w33 hS35.1 o0_ m0_ (8802 : Int32) (rg_w rk_8802 (by decide) (by decide)) (1500 : Int32)) rfl rfl (Nat.le_of_ble_eq_true rfl) (Nat.le_of_ble_eq_true rfl) (Nat.le_of_ble_eq_true rfl) (Nat.le_of_ble_eq_true rfl) (Nat.le_of_ble_eq_true rfl) (Nat.le_of_ble_eq_true rfl) (fun _ _ h => False.elim h) (fun v9 w39 h40 => ?_)
    obtain ⟨hT41, rfl, xah40⟩ := h40
    have hS41 := St.tr hS35 hT41 rfl
    have ht42 := bsame.keep xah40.1 ht36 (by have := rk_1500.1; have := rk_1500.2; have := rk_8802.1; have := rk_8802.2; omega)
    have ht43 := bsame.keep xah40.1 ht37 (by have := rk_1500.1; have := rk_1500.2; have := rk_8802.1; have := rk_8802.2; omega)
    have fk44 : fK1 4 S ws w39 := fk_fr fk38 hT41 rfl
    have ht45 : tw (byt w39) 8802 = (1500 : Int32).toInt := xah40.2 8802 (by decide) (by have := rk_1500.1; omega) (by have := rk_1500.2; omega)
    refine rn_stk [] rfl ?_
    refine rn_aload_n (i := 0) dX10_send_78 rfl rfl ?_
    refine rn_sipush (v := (8800 : Int32)) dX10_send_79 (by decide) ?_
    refine rn_iconst (v := (1 : Int32)) dX10_send_82 (by decide) ?_
    refine rn_iload dX10_send_83 rfl ?_
    refine rn_callV (a := 0) (b := 0) [.int (8800 : Int32), .int (1 : Int32), .int v32] kl_SGModel_239 dX10_send_85 q3 (hT41.fr hq3 rfl (hT35.fr hq3 rfl ((hn17 _ (ts_ne hq15 hq3 rfl)).trans hl11))) rfl (t_X10_setOffset G S w39 hS41.1 o0_ m0_ (8800 : Int32) (rg_w rk_8800 (by decide) (by decide)) (1 : Int32) (rg_w rk_1 (by decide) (by decide)) v32) rfl rfl (Nat.le_of_ble_eq_true rfl) (Nat.le_of_ble_eq_true rfl) (Nat.le_of_ble_eq_true rfl) (Nat.le_of_ble_eq_true rfl) (Nat.le_of_ble_eq_true rfl) (Nat.le_of_ble_eq_true rfl) (fun _ _ h => False.elim h) (fun v9 w46 h47 => ?_)
    obtain ⟨hT48, rfl, xah47⟩ := h47
    have hS48 := St.tr hS41 hT48 rfl
    have ht49 := bsame.keep xah47 ht42 (by have := rv32.1; have := rv32.2; have := rk_8191.1; have := rk_8191.2; have := rv29.1; have := rv29.2; have := rk_1.1; have := rk_1.2; have := rk_8800.1; have := rk_8800.2; omega)
    have ht50 := bsame.keep xah47 ht43 (by have := rv32.1; have := rv32.2; have := rk_8191.1; have := rk_8191.2; have := rv29.1; have := rv29.2; have := rk_1.1; have := rk_1.2; have := rk_8800.1; have := rk_8800.2; omega)
    have ht51 := bsame.keep xah47 ht45 (by have := rv32.1; have := rv32.2; have := rk_8191.1; have := rk_8191.2; have := rv29.1; have := rv29.2; have := rk_1.1; have := rk_1.2; have := rk_8800.1; have := rk_8800.2; omega)
    have fk52 : fK1 4 S ws w46 := fk_fr fk44 hT48 rfl
    refine rn_stk [] rfl ?_
    refine rn_aload_n (i := 0) dX10_send_88 rfl rfl ?_
    refine rn_sipush (v := (8800 : Int32)) dX10_send_89 (by decide) ?_
    refine rn_callV (a := 0) (b := 0) [.int (8800 : Int32)] kl_SGModel_184 dX10_send_92 q3 (hT48.fr hq3 rfl (hT41.fr hq3 rfl (hT35.fr hq3 rfl ((hn17 _ (ts_ne hq15 hq3 rfl)).trans hl11)))) rfl (t_X10_setSum G S w46 hS48.1 o0_ m0_ (8800 : Int32) (rg_w rk_8800 (by decide) (by decide))) rfl rfl (Nat.le_of_ble_eq_true rfl) (Nat.le_of_ble_eq_true rfl) (Nat.le_of_ble_eq_true rfl) (Nat.le_of_ble_eq_true rfl) (Nat.le_of_ble_eq_true rfl) (Nat.le_of_ble_eq_true rfl) (fun _ _ h => False.elim h) (fun v9 w53 h54 => ?_)
    obtain ⟨hT55, rfl, xah54⟩ := h54
    have hS55 := St.tr hS48 hT55 rfl
    have ht56 := bsame.keep xah54 ht49 (by have := rk_8800.1; have := rk_8800.2; omega)
    have ht57 := bsame.keep xah54 ht50 (by have := rk_8800.1; have := rk_8800.2; omega)
    have ht58 := bsame.keep xah54 ht51 (by have := rk_8800.1; have := rk_8800.2; omega)
    have fk59 : fK1 4 S ws w53 := fk_fr fk52 hT55 rfl
    refine rn_stk [] rfl ?_
    refine rn_aload_n (i := 0) dX10_send_95 rfl rfl ?_
    refine rn_get q3 kg_SGModel_89 (hT55.fr hq3 rfl (hT48.fr hq3 rfl (hT41.fr hq3 rfl (hT35.fr hq3 rfl ((hn17 _ (ts_ne hq15 hq3 rfl)).trans hl11))))) hx14 dX10_send_96 ?_
    refine rn_iconst (v := (0 : Int32)) dX10_send_99 (by decide) ?_
    refine rn_sipush (v := (1500 : Int32)) dX10_send_100 (by decide) ?_
    refine rs_iast q15 hS55 hq15 (hT55.fr hq15 rfl (hT48.fr hq15 rfl (hT41.fr hq15 rfl (hT35.fr hq15 rfl hl17)))) hf17 hk_65 rfl rfl rk_0 (by decide) (by decide) (rg_w rk_1500 (by decide) (by decide)) dX10_send_103 (fun w60 f61 hS61 hl61 hf61 hu61 hn61 => ?_)
    have fk62 : fK1 4 S ws w60 := fk_ne fk59 hn61 hq15 rfl
    have ht63 := tw_eq (byt_ne hn61 (ts_ne hq15 hob1 rfl)) ht56
    have ht64 := tw_eq (byt_ne hn61 (ts_ne hq15 hob1 rfl)) ht57
    have ht65 := tw_eq (byt_ne hn61 (ts_ne hq15 hob1 rfl)) ht58
    refine rn_sipush (v := (11000 : Int32)) dX10_send_104 (by decide) ?_
    refine rn_istore dX10_send_107 (by decide) [(0, .ref o0_), (1, .int (4400 : Int32)), (2, .int x2_), (3, .int v7), (4, .int v24), (5, .int v32), (6, .int (11000 : Int32))] rfl ?_
    refine rn_aload_n (i := 0) dX10_send_109 rfl rfl ?_
    refine rn_iload_n (i := 1) dX10_send_110 rfl rfl ?_
    refine rn_iload dX10_send_111 rfl ?_
    refine rn_bipush (v := (20 : Int32)) dX10_send_113 (by decide) ?_
    refine rn_callV (a := 0) (b := 0) [.int (4400 : Int32), .int (11000 : Int32), .int (20 : Int32)] kl_SGModel_235 dX10_send_115 q3 ((hn61 _ (ts_ne hq15 hq3 rfl)).trans (hT55.fr hq3 rfl (hT48.fr hq3 rfl (hT41.fr hq3 rfl (hT35.fr hq3 rfl ((hn17 _ (ts_ne hq15 hq3 rfl)).trans hl11)))))) rfl (t_X10_move G S w60 hS61.1 o0_ m0_ (4400 : Int32) (11000 : Int32) (20 : Int32) ⟨by have := rk_20.1; have := rk_20.2; have := rk_11000.1; have := rk_11000.2; have := rk_4400.1; have := rk_4400.2; omega, by have := rk_20.1; have := rk_20.2; have := rk_11000.1; have := rk_11000.2; have := rk_4400.1; have := rk_4400.2; omega, by have := rk_20.1; have := rk_20.2; have := rk_11000.1; have := rk_11000.2; have := rk_4400.1; have := rk_4400.2; omega, by have := rk_20.1; have := rk_20.2; have := rk_11000.1; have := rk_11000.2; have := rk_4400.1; have := rk_4400.2; omega⟩) rfl rfl (Nat.le_of_ble_eq_true rfl) (Nat.le_of_ble_eq_true rfl) (Nat.le_of_ble_eq_true rfl) (Nat.le_of_ble_eq_true rfl) (Nat.le_of_ble_eq_true rfl) (Nat.le_of_ble_eq_true rfl) (fun _ _ h => False.elim h) (fun v9 w66 h67 => ?_)
    obtain ⟨hT68, rfl, xah67⟩ := h67
    have hS68 := St.tr hS61 hT68 rfl
    have ht69 := bsame.keep xah67.1 ht63 (by have := rk_20.1; have := rk_20.2; have := rk_11000.1; have := rk_11000.2; have := rk_4400.1; have := rk_4400.2; omega)
    have ht70 := bsame.keep xah67.1 ht64 (by have := rk_20.1; have := rk_20.2; have := rk_11000.1; have := rk_11000.2; have := rk_4400.1; have := rk_4400.2; omega)
    have ht71 := bsame.keep xah67.1 ht65 (by have := rk_20.1; have := rk_20.2; have := rk_11000.1; have := rk_11000.2; have := rk_4400.1; have := rk_4400.2; omega)
    have fk72 : fK1 4 S ws w66 := fk_fr fk62 hT68 rfl
    refine rn_stk [] rfl ?_
    refine rn_aload_n (i := 0) dX10_send_118 rfl rfl ?_
    refine rn_iload_n (i := 1) dX10_send_119 rfl rfl ?_
    refine rn_sipush (v := (1500 : Int32)) dX10_send_120 (by decide) ?_
    refine rn_iadd dX10_send_123 (rn_topi (5900 : Int32) (by decide) ?_)
    refine rn_iload dX10_send_124 rfl ?_
    refine rn_bipush (v := (20 : Int32)) dX10_send_126 (by decide) ?_
    refine rn_iadd dX10_send_128 (rn_topi (11020 : Int32) (by decide) ?_)
    refine rn_iload_n (i := 3) dX10_send_129 rfl rfl ?_
    refine rn_sipush (v := (1500 : Int32)) dX10_send_130 (by decide) ?_
    refine rs_subC (1) (547) r21 rk_1500 dX10_send_133 (by decide) (fun v75 ev75 rv75 => ?_)
    refine rn_callV (a := 0) (b := 0) [.int (5900 : Int32), .int (11020 : Int32), .int v75] kl_SGModel_235 dX10_send_134 q3 (hT68.fr hq3 rfl ((hn61 _ (ts_ne hq15 hq3 rfl)).trans (hT55.fr hq3 rfl (hT48.fr hq3 rfl (hT41.fr hq3 rfl (hT35.fr hq3 rfl ((hn17 _ (ts_ne hq15 hq3 rfl)).trans hl11))))))) rfl (t_X10_move G S w66 hS68.1 o0_ m0_ (5900 : Int32) (11020 : Int32) v75 ⟨by have := rv75.1; have := rv75.2; have := rk_1500.1; have := rk_1500.2; have := r21.1; have := r21.2; have := rk_11020.1; have := rk_11020.2; have := rk_5900.1; have := rk_5900.2; omega, by have := rv75.1; have := rv75.2; have := rk_1500.1; have := rk_1500.2; have := r21.1; have := r21.2; have := rk_11020.1; have := rk_11020.2; have := rk_5900.1; have := rk_5900.2; omega, by have := rv75.1; have := rv75.2; have := rk_1500.1; have := rk_1500.2; have := r21.1; have := r21.2; have := rk_11020.1; have := rk_11020.2; have := rk_5900.1; have := rk_5900.2; omega, by have := rv75.1; have := rv75.2; have := rk_1500.1; have := rk_1500.2; have := r21.1; have := r21.2; have := rk_11020.1; have := rk_11020.2; have := rk_5900.1; have := rk_5900.2; omega⟩) rfl rfl (Nat.le_of_ble_eq_true rfl) (Nat.le_of_ble_eq_true rfl) (Nat.le_of_ble_eq_true rfl) (Nat.le_of_ble_eq_true rfl) (Nat.le_of_ble_eq_true rfl) (Nat.le_of_ble_eq_true rfl) (fun _ _ h => False.elim h) (fun v9 w76 h77 => ?_)
    obtain ⟨hT78, rfl, xah77⟩ := h77
    have hS78 := St.tr hS68 hT78 rfl
    have ht79 := bsame.keep xah77.1 ht69 (by have := rv75.1; have := rv75.2; have := rk_1500.1; have := rk_1500.2; have := r21.1; have := r21.2; have := rk_11020.1; have := rk_11020.2; have := rk_5900.1; have := rk_5900.2; omega)
    have ht80 := bsame.keep xah77.1 ht70 (by have := rv75.1; have := rv75.2; have := rk_1500.1; have := rk_1500.2; have := r21.1; have := r21.2; have := rk_11020.1; have := rk_11020.2; have := rk_5900.1; have := rk_5900.2; omega)
    have ht81 := bsame.keep xah77.1 ht71 (by have := rv75.1; have := rv75.2; have := rk_1500.1; have := rk_1500.2; have := r21.1; have := r21.2; have := rk_11020.1; have := rk_11020.2; have := rk_5900.1; have := rk_5900.2; omega)
    have fk82 : fK1 4 S ws w76 := fk_fr fk72 hT78 rfl
    refine rn_stk [] rfl ?_
    refine rn_aload_n (i := 0) dX10_send_137 rfl rfl ?_
    refine rn_iload dX10_send_138 rfl ?_
    refine rn_iconst (v := (2 : Int32)) dX10_send_140 (by decide) ?_
    refine rn_iadd dX10_send_141 (rn_topi (11002 : Int32) (by decide) ?_)
    refine rn_iload_n (i := 3) dX10_send_142 rfl rfl ?_
    refine rn_sipush (v := (1480 : Int32)) dX10_send_143 (by decide) ?_
    refine rs_subC (21) (567) r21 rk_1480 dX10_send_146 (by decide) (fun v84 ev84 rv84 => ?_)
    refine rn_callV (a := 0) (b := 0) [.int (11002 : Int32), .int v84] kl_SGModel_144 dX10_send_147 q3 (hT78.fr hq3 rfl (hT68.fr hq3 rfl ((hn61 _ (ts_ne hq15 hq3 rfl)).trans (hT55.fr hq3 rfl (hT48.fr hq3 rfl (hT41.fr hq3 rfl (hT35.fr hq3 rfl ((hn17 _ (ts_ne hq15 hq3 rfl)).trans hl11)))))))) rfl (t_X10_putTwo G S w76 hS78.1 o0_ m0_ (11002 : Int32) (rg_w rk_11002 (by decide) (by decide)) v84) rfl rfl (Nat.le_of_ble_eq_true rfl) (Nat.le_of_ble_eq_true rfl) (Nat.le_of_ble_eq_true rfl) (Nat.le_of_ble_eq_true rfl) (Nat.le_of_ble_eq_true rfl) (Nat.le_of_ble_eq_true rfl) (fun _ _ h => False.elim h) (fun v9 w85 h86 => ?_)
    obtain ⟨hT87, rfl, xah86⟩ := h86
    have hS87 := St.tr hS78 hT87 rfl
    have ht88 := bsame.keep xah86.1 ht79 (by have := rv84.1; have := rv84.2; have := rk_1480.1; have := rk_1480.2; have := r21.1; have := r21.2; have := rk_11002.1; have := rk_11002.2; omega)
    have ht89 := bsame.keep xah86.1 ht80 (by have := rv84.1; have := rv84.2; have := rk_1480.1; have := rk_1480.2; have := r21.1; have := r21.2; have := rk_11002.1; have := rk_11002.2; omega)
    have ht90 := bsame.keep xah86.1 ht81 (by have := rv84.1; have := rv84.2; have := rk_1480.1; have := rk_1480.2; have := r21.1; have := r21.2; have := rk_11002.1; have := rk_11002.2; omega)
    have fk91 : fK1 4 S ws w85 := fk_fr fk82 hT87 rfl
    have ht92 : tw (byt w85) 11002 = v84.toInt := xah86.2 11002 (by decide) (by have := rv84.1; omega) (by have := rv84.2; omega)
    refine rn_stk [] rfl ?_
    refine rn_aload_n (i := 0) dX10_send_150 rfl rfl ?_
    refine rn_iload dX10_send_151 rfl ?_
    refine rn_iload dX10_send_153 rfl ?_
    refine rn_iload dX10_send_155 rfl ?_
    refine rn_sipush (v := (185 : Int32)) dX10_send_157 (by decide) ?_
    refine rs_addC (185) (8376) rv32 rk_185 dX10_send_160 (by decide) (fun v93 ev93 rv93 => ?_)
    refine rn_callV (a := 0) (b := 0) [.int (11000 : Int32), .int v24, .int v93] kl_SGModel_239 dX10_send_161 q3 (hT87.fr hq3 rfl (hT78.fr hq3 rfl (hT68.fr hq3 rfl ((hn61 _ (ts_ne hq15 hq3 rfl)).trans (hT55.fr hq3 rfl (hT48.fr hq3 rfl (hT41.fr hq3 rfl (hT35.fr hq3 rfl ((hn17 _ (ts_ne hq15 hq3 rfl)).trans hl11))))))))) rfl (t_X10_setOffset G S w85 hS87.1 o0_ m0_ (11000 : Int32) (rg_w rk_11000 (by decide) (by decide)) v24 rv24 v93) rfl rfl (Nat.le_of_ble_eq_true rfl) (Nat.le_of_ble_eq_true rfl) (Nat.le_of_ble_eq_true rfl) (Nat.le_of_ble_eq_true rfl) (Nat.le_of_ble_eq_true rfl) (Nat.le_of_ble_eq_true rfl) (fun _ _ h => False.elim h) (fun v9 w94 h95 => ?_)
    obtain ⟨hT96, rfl, xah95⟩ := h95
    have hS96 := St.tr hS87 hT96 rfl
    have ht97 := bsame.keep xah95 ht88 (by have := rv93.1; have := rv93.2; have := rk_185.1; have := rk_185.2; have := rv32.1; have := rv32.2; have := rk_8191.1; have := rk_8191.2; have := rv29.1; have := rv29.2; have := rv24.1; have := rv24.2; have := rk_11000.1; have := rk_11000.2; omega)
    have ht98 := bsame.keep xah95 ht89 (by have := rv93.1; have := rv93.2; have := rk_185.1; have := rk_185.2; have := rv32.1; have := rv32.2; have := rk_8191.1; have := rk_8191.2; have := rv29.1; have := rv29.2; have := rv24.1; have := rv24.2; have := rk_11000.1; have := rk_11000.2; omega)
    have ht99 := bsame.keep xah95 ht90 (by have := rv93.1; have := rv93.2; have := rk_185.1; have := rk_185.2; have := rv32.1; have := rv32.2; have := rk_8191.1; have := rk_8191.2; have := rv29.1; have := rv29.2; have := rv24.1; have := rv24.2; have := rk_11000.1; have := rk_11000.2; omega)
    have ht100 := bsame.keep xah95 ht92 (by have := rv93.1; have := rv93.2; have := rk_185.1; have := rk_185.2; have := rv32.1; have := rv32.2; have := rk_8191.1; have := rk_8191.2; have := rv29.1; have := rv29.2; have := rv24.1; have := rv24.2; have := rk_11000.1; have := rk_11000.2; omega)
    have fk101 : fK1 4 S ws w94 := fk_fr fk91 hT96 rfl
    refine rn_stk [] rfl ?_
    refine rn_aload_n (i := 0) dX10_send_164 rfl rfl ?_
    refine rn_iload dX10_send_165 rfl ?_
    refine rn_callV (a := 0) (b := 0) [.int (11000 : Int32)] kl_SGModel_184 dX10_send_167 q3 (hT96.fr hq3 rfl (hT87.fr hq3 rfl (hT78.fr hq3 rfl (hT68.fr hq3 rfl ((hn61 _ (ts_ne hq15 hq3 rfl)).trans (hT55.fr hq3 rfl (hT48.fr hq3 rfl (hT41.fr hq3 rfl (hT35.fr hq3 rfl ((hn17 _ (ts_ne hq15 hq3 rfl)).trans hl11)))))))))) rfl (t_X10_setSum G S w94 hS96.1 o0_ m0_ (11000 : Int32) (rg_w rk_11000 (by decide) (by decide))) rfl rfl (Nat.le_of_ble_eq_true rfl) (Nat.le_of_ble_eq_true rfl) (Nat.le_of_ble_eq_true rfl) (Nat.le_of_ble_eq_true rfl) (Nat.le_of_ble_eq_true rfl) (Nat.le_of_ble_eq_true rfl) (fun _ _ h => False.elim h) (fun v9 w102 h103 => ?_)
    obtain ⟨hT104, rfl, xah103⟩ := h103
    have hS104 := St.tr hS96 hT104 rfl
    have ht105 := bsame.keep xah103 ht97 (by have := rk_11000.1; have := rk_11000.2; omega)
    have ht106 := bsame.keep xah103 ht98 (by have := rk_11000.1; have := rk_11000.2; omega)
    have ht107 := bsame.keep xah103 ht99 (by have := rk_11000.1; have := rk_11000.2; omega)
    have ht108 := bsame.keep xah103 ht100 (by have := rk_11000.1; have := rk_11000.2; omega)
    have fk109 : fK1 4 S ws w102 := fk_fr fk101 hT104 rfl
    refine rn_stk [] rfl ?_
    refine rn_aload_n (i := 0) dX10_send_170 rfl rfl ?_
    refine rn_get q3 kg_SGModel_89 (hT104.fr hq3 rfl (hT96.fr hq3 rfl (hT87.fr hq3 rfl (hT78.fr hq3 rfl (hT68.fr hq3 rfl ((hn61 _ (ts_ne hq15 hq3 rfl)).trans (hT55.fr hq3 rfl (hT48.fr hq3 rfl (hT41.fr hq3 rfl (hT35.fr hq3 rfl ((hn17 _ (ts_ne hq15 hq3 rfl)).trans hl11))))))))))) hx14 dX10_send_171 ?_
    refine rn_iconst (v := (1 : Int32)) dX10_send_174 (by decide) ?_
    refine rn_iload_n (i := 3) dX10_send_175 rfl rfl ?_
    refine rn_sipush (v := (1480 : Int32)) dX10_send_176 (by decide) ?_
    refine rs_subC (21) (567) r21 rk_1480 dX10_send_179 (by decide) (fun v110 ev110 rv110 => ?_)
    refine rs_iast q15 hS104 hq15 (hT104.fr hq15 rfl (hT96.fr hq15 rfl (hT87.fr hq15 rfl (hT78.fr hq15 rfl (hT68.fr hq15 rfl hl61))))) hf61 hk_65 rfl rfl rk_1 (by decide) (by decide) (rg_w rv110 (by decide) (by decide)) dX10_send_180 (fun w111 f112 hS112 hl112 hf112 hu112 hn112 => ?_)
    have fk113 : fK1 4 S ws w111 := fk_ne fk109 hn112 hq15 rfl
    have ht114 := tw_eq (byt_ne hn112 (ts_ne hq15 hob1 rfl)) ht105
    have ht115 := tw_eq (byt_ne hn112 (ts_ne hq15 hob1 rfl)) ht106
    have ht116 := tw_eq (byt_ne hn112 (ts_ne hq15 hob1 rfl)) ht107
    have ht117 := tw_eq (byt_ne hn112 (ts_ne hq15 hob1 rfl)) ht108
    refine rn_iconst (v := (0 : Int32)) dX10_send_181 (by decide) ?_
    exact rn_iret dX10_send_182 rfl rfl (rq_in ⟨hS112, (0 : Int32), rfl, rk_0, fk113⟩)
  · have ch20 := cv_nlt h20
    have r118 : Rg (0) (1500) v7 := rf_lex ch20 r9 rk_1500 (by decide)
    refine rn_aload_n (i := 0) dX10_send_25 rfl rfl ?_
    refine rn_iload_n (i := 1) dX10_send_26 rfl rfl ?_
    refine rn_sipush (v := (8800 : Int32)) dX10_send_27 (by decide) ?_
    refine rn_iload_n (i := 3) dX10_send_30 rfl rfl ?_
    refine rn_callV (a := 0) (b := 0) [.int (4400 : Int32), .int (8800 : Int32), .int v7] kl_SGModel_235 dX10_send_31 q3 ((hn17 _ (ts_ne hq15 hq3 rfl)).trans hl11) rfl (t_X10_move G S w16 hS17.1 o0_ m0_ (4400 : Int32) (8800 : Int32) v7 ⟨by have := r118.1; have := r118.2; have := rk_8800.1; have := rk_8800.2; have := rk_4400.1; have := rk_4400.2; omega, by have := r118.1; have := r118.2; have := rk_8800.1; have := rk_8800.2; have := rk_4400.1; have := rk_4400.2; omega, by have := r118.1; have := r118.2; have := rk_8800.1; have := rk_8800.2; have := rk_4400.1; have := rk_4400.2; omega, by have := r118.1; have := r118.2; have := rk_8800.1; have := rk_8800.2; have := rk_4400.1; have := rk_4400.2; omega⟩) rfl rfl (Nat.le_of_ble_eq_true rfl) (Nat.le_of_ble_eq_true rfl) (Nat.le_of_ble_eq_true rfl) (Nat.le_of_ble_eq_true rfl) (Nat.le_of_ble_eq_true rfl) (Nat.le_of_ble_eq_true rfl) (fun _ _ h => False.elim h) (fun v9 w119 h120 => ?_)
    obtain ⟨hT121, rfl, xah120⟩ := h120
    have hS121 := St.tr hS17 hT121 rfl
    have ht122 := bsame.keep xah120.1 ht19 (by have := r118.1; have := r118.2; have := rk_8800.1; have := rk_8800.2; have := rk_4400.1; have := rk_4400.2; omega)
    have fk123 : fK1 4 S ws w119 := fk_fr fk18 hT121 rfl
    refine rn_stk [] rfl ?_
    refine rn_aload_n (i := 0) dX10_send_34 rfl rfl ?_
    refine rn_get q3 kg_SGModel_89 (hT121.fr hq3 rfl ((hn17 _ (ts_ne hq15 hq3 rfl)).trans hl11)) hx14 dX10_send_35 ?_
    refine rn_iconst (v := (0 : Int32)) dX10_send_38 (by decide) ?_
    refine rn_iload_n (i := 3) dX10_send_39 rfl rfl ?_
    refine rs_iast q15 hS121 hq15 (hT121.fr hq15 rfl hl17) hf17 hk_65 rfl rfl rk_0 (by decide) (by decide) r118 dX10_send_40 (fun w124 f125 hS125 hl125 hf125 hu125 hn125 => ?_)
    have fk126 : fK1 4 S ws w124 := fk_ne fk123 hn125 hq15 rfl
    have ht127 := tw_eq (byt_ne hn125 (ts_ne hq15 hob1 rfl)) ht122
    refine rn_iconst (v := (0 : Int32)) dX10_send_41 (by decide) ?_
    exact rn_iret dX10_send_42 rfl rfl (rq_in ⟨hS125, (0 : Int32), rfl, rk_0, fk126⟩)
abbrev q_t_X10_goOut_2200 (G : rn_G) (S : ts_S) (ws : va_W) : rn_R → va_W → Prop := rQ (fun v w => St G S [30, 33, 60, 62, 65] ws S w ∧ (∃ x : Int32, v = some (.int x) ∧ Rg (0) (6) x ∧ fK1 4 S ws w)) (fun E w => False)
set_option maxRecDepth 20000 in
set_option maxHeartbeats 4000000 in
theorem t_X10_goOut_2200 (G : rn_G) (S : ts_S) (ws : va_W) (hW : ts_W G S ws) (o0_ : Nat) (m0_ : (o0_, 30) ∈ S) (hw2202_ : 0 ≤ tw (byt ws) 2202 ∧ tw (byt ws) 2202 ≤ 2000) : Rn G mX10_goOut 6 134 0 0 0 (lv_args 0 [.ref o0_, .int (2200 : Int32)]) [] ws (q_t_X10_goOut_2200 G S ws ) := by
  have hS0 : St G S [30, 33, 60, 62, 65] ws S ws := St.rf hW
  have fk0 : fK1 4 S ws ws := fun v h => h
  obtain ⟨ob1, hob1⟩ := hS0.1.2.1.2
  obtain ⟨T2, ht2⟩ : ∃ t : Int, tw (byt ws) 2202 = t := ⟨_, rfl⟩
  rw [ht2] at hw2202_
  refine rn_lv [(0, .ref o0_), (1, .int (2200 : Int32))] rfl ?_
  refine rn_aload_n (i := 0) dX10_goOut_0 rfl rfl ?_
  obtain ⟨q3, fs3, hq3, hl3, hf3⟩ := ts_obj hS0.1 m0_ hk_30
  obtain ⟨o4, hx4, m4⟩ := fs_r hf3 2 rfl
  refine rn_get q3 kg_SGModel_7 hl3 hx4 dX10_goOut_1 ?_
  refine rn_iload_n (i := 1) dX10_goOut_4 rfl rfl ?_
  refine rn_bipush (v := (8 : Int32)) dX10_goOut_5 (by decide) ?_
  refine rn_iadd dX10_goOut_7 (rn_topi (2208 : Int32) (by decide) ?_)
  obtain ⟨q6, f6, hq6, hl6, hf6⟩ := ts_ia hS0.1 m4 hk_33
  refine rs_iald q6 hl6 hf6 rfl rk_2208 (by decide) (by decide) dX10_goOut_8 (fun v7 ev7 rv7 => ?_)
  have hbv7 : byt ws 2208 = v7 := by rw [byt_of hS0.1 hq6 hl6, ev7]; exact congrArg _ (by decide)
  refine rn_iconst (v := (2 : Int32)) dX10_goOut_9 (by decide) ?_
  refine rn_icmp_ge (tgt := 15) dX10_goOut_10 (by decide) (fun h8 => ?_) (fun h8 => ?_)
  · have ch8 := cv_le h8
    have r9 : Rg (2) (255) v7 := rf_ley ch8 rk_2 rv7 (by decide)
    refine rn_aload_n (i := 0) dX10_goOut_15 rfl rfl ?_
    refine rn_aload_n (i := 0) dX10_goOut_16 rfl rfl ?_
    refine rn_iload_n (i := 1) dX10_goOut_17 rfl rfl ?_
    refine rn_bipush (v := (16 : Int32)) dX10_goOut_18 (by decide) ?_
    refine rn_iadd dX10_goOut_20 (rn_topi (2216 : Int32) (by decide) ?_)
    refine rn_callV (a := 0) (b := 0) [.int (2216 : Int32)] kl_SGModel_218 dX10_goOut_21 q3 hl3 rfl (t_X10_four G S ws hS0.1 o0_ m0_ (2216 : Int32) (rg_w rk_2216 (by decide) (by decide))) rfl rfl (Nat.le_of_ble_eq_true rfl) (Nat.le_of_ble_eq_true rfl) (Nat.le_of_ble_eq_true rfl) (Nat.le_of_ble_eq_true rfl) (Nat.le_of_ble_eq_true rfl) (Nat.le_of_ble_eq_true rfl) (fun _ _ h => False.elim h) (fun v9 w11 h12 => ?_)
    obtain ⟨rfl, v13, rfl, rv13⟩ := h12
    refine rn_stk [.int v13, .ref o0_] rfl ?_
    refine rn_callV (a := 0) (b := 0) [.int v13] kl_SGModel_232 dX10_goOut_24 q3 hl3 rfl (t_X10_routeOf G S ws hS0.1 o0_ m0_ v13) rfl rfl (Nat.le_of_ble_eq_true rfl) (Nat.le_of_ble_eq_true rfl) (Nat.le_of_ble_eq_true rfl) (Nat.le_of_ble_eq_true rfl) (Nat.le_of_ble_eq_true rfl) (Nat.le_of_ble_eq_true rfl) (fun _ _ h => False.elim h) (fun v9 w15 h16 => ?_)
    obtain ⟨rfl, v17, rfl, rv17, xah16⟩ := h16
    refine rn_stk [.int v17] rfl ?_
    refine rn_iconst (v := (1 : Int32)) dX10_goOut_27 (by decide) ?_
    refine rn_icmp_eq (tgt := 33) dX10_goOut_28 (by decide) (fun h19 => ?_) (fun h19 => ?_)
    · have ch19 := cv_eq h19
      have r20 : Rg (1) (1) v17 := rf_eqx ch19 rv17 rk_1 (by decide) (by decide)
      refine rn_aload_n (i := 0) dX10_goOut_33 rfl rfl ?_
      refine rn_iconst (v := (0 : Int32)) dX10_goOut_34 (by decide) ?_
      refine rn_iload_n (i := 1) dX10_goOut_35 rfl rfl ?_
      refine rn_callV (a := 0) (b := 0) [.int (0 : Int32), .int (2200 : Int32)] kl_SGModel_228 dX10_goOut_36 q3 hl3 rfl (t_X10_policyOf G S ws hS0.1 o0_ m0_ (0 : Int32) (2200 : Int32) (rg_w rk_2200 (by decide) (by decide))) rfl rfl (Nat.le_of_ble_eq_true rfl) (Nat.le_of_ble_eq_true rfl) (Nat.le_of_ble_eq_true rfl) (Nat.le_of_ble_eq_true rfl) (Nat.le_of_ble_eq_true rfl) (Nat.le_of_ble_eq_true rfl) (fun _ _ h => False.elim h) (fun v9 w21 h22 => ?_)
      obtain ⟨rfl, v23, rfl, rv23⟩ := h22
      refine rn_stk [.int v23] rfl ?_
      refine rn_istore_n dX10_goOut_39 rfl (by decide) [(0, .ref o0_), (1, .int (2200 : Int32)), (2, .int v23)] rfl ?_
      refine rn_iload_n (i := 2) dX10_goOut_40 rfl rfl ?_
      refine rn_if_lt (tgt := 55) dX10_goOut_41 (by decide) (fun h25 => ?_) (fun h25 => ?_)
      · have ch25 := cv_lt h25
        have r26 : Rg (-1) (-1) v23 := rf_ltx ch25 rv23 rk_0 (by decide)
        refine rn_iconst (v := (4 : Int32)) dX10_goOut_55 (by decide) ?_
        exact rn_iret dX10_goOut_56 rfl rfl (rq_in ⟨hS0, (4 : Int32), rfl, (rg_w rk_4 (by decide) (by decide)), fk0⟩)
      · have ch25 := cv_nlt h25
        have r27 : Rg (0) (23) v23 := rf_ley ch25 rk_0 rv23 (by decide)
        refine rn_aload_n (i := 0) dX10_goOut_44 rfl rfl ?_
        obtain ⟨o28, hx28, m28⟩ := fs_r hf3 18 rfl
        refine rn_get q3 kg_SGModel_49 hl3 hx28 dX10_goOut_45 ?_
        refine rn_iload_n (i := 2) dX10_goOut_48 rfl rfl ?_
        obtain ⟨q29, f29, hq29, hl29, hf29⟩ := ts_ia hS0.1 m28 hk_49
        refine rs_iald q29 hl29 hf29 rfl r27 (by decide) (by decide) dX10_goOut_49 (fun v30 ev30 rv30 => ?_)
        refine rn_bipush (v := (-2 : Int32)) dX10_goOut_50 (by decide) ?_
        refine rn_icmp_ne (tgt := 57) dX10_goOut_52 (by decide) (fun h31 => ?_) (fun h31 => ?_)
        · have ch31 := cv_ne h31
          refine rn_aload_n (i := 0) dX10_goOut_57 rfl rfl ?_
          refine rn_iload_n (i := 1) dX10_goOut_58 rfl rfl ?_
          refine rn_inV (d' := 1) (z' := 21) [.int (2200 : Int32)] kl_SGModel_165 dX10_goOut_59 q3 hl3 rfl rfl rfl (Nat.le_of_ble_eq_true rfl) (Nat.le_of_ble_eq_true rfl) (Nat.le_of_ble_eq_true rfl) (Nat.le_of_ble_eq_true rfl) ?_
          refine rn_lv [(0, .ref o0_), (1, .int (2200 : Int32))] rfl ?_
          refine rn_aload_n (i := 0) dX10_lengthOf_0 rfl rfl ?_
          refine rn_iload_n (i := 1) dX10_lengthOf_1 rfl rfl ?_
          refine rn_iconst (v := (2 : Int32)) dX10_lengthOf_2 (by decide) ?_
          refine rn_iadd dX10_lengthOf_3 (rn_topi (2202 : Int32) (by decide) ?_)
          refine rn_callV (a := 0) (b := 0) [.int (2202 : Int32)] kl_SGModel_140 dX10_lengthOf_4 q3 hl3 rfl (t_X10_two G S ws hS0.1 o0_ m0_ (2202 : Int32) (rg_w rk_2202 (by decide) (by decide))) rfl rfl (Nat.le_of_ble_eq_true rfl) (Nat.le_of_ble_eq_true rfl) (Nat.le_of_ble_eq_true rfl) (Nat.le_of_ble_eq_true rfl) (Nat.le_of_ble_eq_true rfl) (Nat.le_of_ble_eq_true rfl) (fun _ _ h => False.elim h) (fun v9 w33 h34 => ?_)
          obtain ⟨rfl, v35, rfl, rv35, xah34⟩ := h34
          have ev35 : v35.toInt = T2 := (xah34 2202 (by decide)).trans ht2
          have r37 : Rg (0) (2000) v35 := ⟨by have := rv35.1; have := rv35.2; omega, by have := rv35.1; have := rv35.2; omega⟩
          refine rn_stk [.int v35] rfl ?_
          refine rn_iret dX10_lengthOf_7 rfl rfl (rq_in ?_)
          refine rn_stk [.int v35] rfl ?_
          refine rn_istore_n dX10_goOut_62 rfl (by decide) [(0, .ref o0_), (1, .int (2200 : Int32)), (2, .int v23), (3, .int v35)] rfl ?_
          refine rn_aload_n (i := 0) dX10_goOut_63 rfl rfl ?_
          refine rn_get q3 kg_SGModel_49 hl3 hx28 dX10_goOut_64 ?_
          refine rn_iload_n (i := 2) dX10_goOut_67 rfl rfl ?_
          refine rs_iald q29 hl29 hf29 rfl r27 (by decide) (by decide) dX10_goOut_68 (fun v38 ev38 rv38 => ?_)
          refine rn_iconst (v := (-1 : Int32)) dX10_goOut_69 (by decide) ?_
          refine rn_icmp_ne (tgt := 101) dX10_goOut_70 (by decide) (fun h39 => ?_) (fun h39 => ?_)
          · have ch39 := cv_ne h39
            refine rn_aload_n (i := 0) dX10_goOut_101 rfl rfl ?_
            refine rn_aload_n (i := 0) dX10_goOut_102 rfl rfl ?_
            refine rn_get q3 kg_SGModel_49 hl3 hx28 dX10_goOut_103 ?_
            refine rn_iload_n (i := 2) dX10_goOut_106 rfl rfl ?_
            refine rs_iald q29 hl29 hf29 rfl r27 (by decide) (by decide) dX10_goOut_107 (fun v40 ev40 rv40 => ?_)
            refine rn_callV (a := 0) (b := 0) [.int v40] kl_SGModel_285 dX10_goOut_108 q3 hl3 rfl (t_X10_sealFor G S ws hS0.1 o0_ m0_ v40) rfl rfl (Nat.le_of_ble_eq_true rfl) (Nat.le_of_ble_eq_true rfl) (Nat.le_of_ble_eq_true rfl) (Nat.le_of_ble_eq_true rfl) (Nat.le_of_ble_eq_true rfl) (Nat.le_of_ble_eq_true rfl) (fun _ _ h => False.elim h) (fun v9 w41 h42 => ?_)
            obtain ⟨rfl, v43, rfl, rv43⟩ := h42
            refine rn_stk [.int v43] rfl ?_
            refine rn_istore dX10_goOut_111 (by decide) [(0, .ref o0_), (1, .int (2200 : Int32)), (2, .int v23), (3, .int v35), (4, .int v43)] rfl ?_
            refine rn_iload dX10_goOut_113 rfl ?_
            refine rn_if_ge (tgt := 120) dX10_goOut_115 (by decide) (fun h45 => ?_) (fun h45 => ?_)
            · have ch45 := cv_le h45
              have r46 : Rg (0) (15) v43 := rf_ley ch45 rk_0 rv43 (by decide)
              refine rn_aload_n (i := 0) dX10_goOut_120 rfl rfl ?_
              refine rn_iload_n (i := 3) dX10_goOut_121 rfl rfl ?_
              refine rn_iload_n (i := 3) dX10_goOut_122 rfl rfl ?_
              refine rn_callS (a := 0) (b := 0) [.int v35] kl_SGModel_256 dX10_goOut_123 (t_X10_fillOf G S ws hS0.1 v35 (rg_w r37 (by decide) (by decide))) rfl rfl (Nat.le_of_ble_eq_true rfl) (Nat.le_of_ble_eq_true rfl) (Nat.le_of_ble_eq_true rfl) (Nat.le_of_ble_eq_true rfl) (Nat.le_of_ble_eq_true rfl) (Nat.le_of_ble_eq_true rfl) (fun _ _ h => False.elim h) (fun v9 w47 h48 => ?_)
              obtain ⟨rfl, v49, rfl, rv49⟩ := h48
              refine rn_stk [.int v49, .int v35, .ref o0_] rfl ?_
              refine rs_addR (0) (2003) r37 rv49 dX10_goOut_126 (by decide) (fun v51 ev51 rv51 => ?_)
              refine rn_bipush (v := (38 : Int32)) dX10_goOut_127 (by decide) ?_
              refine rs_addC (38) (2041) rv51 rk_38 dX10_goOut_129 (by decide) (fun v52 ev52 rv52 => ?_)
              refine rn_aload_n (i := 0) dX10_goOut_130 rfl rfl ?_
              refine rn_iload_n (i := 1) dX10_goOut_131 rfl rfl ?_
              refine rn_callV (a := 0) (b := 0) [.int (2200 : Int32)] kl_SGModel_270 dX10_goOut_132 q3 hl3 rfl (t_X10_hasDont G S ws hS0.1 o0_ m0_ (2200 : Int32) (rg_w rk_2200 (by decide) (by decide))) rfl rfl (Nat.le_of_ble_eq_true rfl) (Nat.le_of_ble_eq_true rfl) (Nat.le_of_ble_eq_true rfl) (Nat.le_of_ble_eq_true rfl) (Nat.le_of_ble_eq_true rfl) (Nat.le_of_ble_eq_true rfl) (fun _ _ h => False.elim h) (fun v9 w53 h54 => ?_)
              obtain ⟨rfl, v55, rfl, rv55⟩ := h54
              refine rn_stk [.int v55, .int v52, .ref o0_] rfl ?_
              refine rn_callV (a := 0) (b := 0) [.int v52, .int v55] kl_SGModel_275 dX10_goOut_135 q3 hl3 rfl (t_X10_isTooMuch G S ws hS0.1 o0_ m0_ v52 v55 rv55) rfl rfl (Nat.le_of_ble_eq_true rfl) (Nat.le_of_ble_eq_true rfl) (Nat.le_of_ble_eq_true rfl) (Nat.le_of_ble_eq_true rfl) (Nat.le_of_ble_eq_true rfl) (Nat.le_of_ble_eq_true rfl) (fun _ _ h => False.elim h) (fun v9 w57 h58 => ?_)
              obtain ⟨rfl, v59, rfl, rv59⟩ := h58
              refine rn_stk [.int v59] rfl ?_
              refine rn_if_eq (tgt := 144) dX10_goOut_138 (by decide) (fun h61 => ?_) (fun h61 => ?_)
              · have ch61 := cv_eq h61
                have r62 : Rg (0) (0) v59 := rf_eqx ch61 rv59 rk_0 (by decide) (by decide)
                refine rn_aload_n (i := 0) dX10_goOut_144 rfl rfl ?_
                obtain ⟨o63, hx63, m63⟩ := fs_r hf3 31 rfl
                refine rn_get q3 kg_SGModel_83 hl3 hx63 dX10_goOut_145 ?_
                refine rn_iload dX10_goOut_148 rfl ?_
                refine rn_dup2_11 dX10_goOut_150 rfl rfl ?_
                obtain ⟨q64, f64, hq64, hl64⟩ := ts_la hS0.1 m63 hk_62
                refine rs_lald q64 hl64 rfl r46 (by decide) (by decide) dX10_goOut_151 (fun v65 ev65 => ?_)
                refine rn_lconst (v := (1 : Int64)) dX10_goOut_152 (by decide) ?_
                refine rn_ladd dX10_goOut_153 (rn_nmL (fun l66 => ?_))
                refine rs_last q64 hS0 hq64 hl64 hk_62 rfl rfl r46 (by decide) (by decide) dX10_goOut_154 (fun w67 f68 hS68 hl68 hu68 hn68 => ?_)
                have fk69 : fK1 4 S ws w67 := fk_ne fk0 hn68 hq64 rfl
                have ht70 := tw_eq (byt_ne hn68 (ts_ne hq64 hob1 rfl)) ht2
                have hb71 := (congrFun (byt_ne hn68 (ts_ne hq64 hob1 rfl)) 2208).trans hbv7
                refine rn_aload_n (i := 0) dX10_goOut_155 rfl rfl ?_
                obtain ⟨o72, hx72, m72⟩ := fs_r hf3 29 rfl
                refine rn_get q3 kg_SGModel_77 ((hn68 _ (ts_ne hq64 hq3 rfl)).trans hl3) hx72 dX10_goOut_156 ?_
                refine rn_iload dX10_goOut_159 rfl ?_
                refine rn_dup2_11 dX10_goOut_161 rfl rfl ?_
                obtain ⟨q73, f73, hq73, hl73, hf73⟩ := ts_ia hS68.1 m72 hk_60
                refine rs_iald q73 hl73 hf73 rfl r46 (by decide) (by decide) dX10_goOut_162 (fun v74 ev74 rv74 => ?_)
                refine rn_iconst (v := (1 : Int32)) dX10_goOut_163 (by decide) ?_
                refine rn_isub dX10_goOut_164 (rn_nmA (fun v75 rv75 => ?_))
                refine rs_iast q73 hS68 hq73 hl73 hf73 hk_60 rfl rfl r46 (by decide) (by decide) rv75 dX10_goOut_165 (fun w76 f77 hS77 hl77 hf77 hu77 hn77 => ?_)
                have fk78 : fK1 4 S ws w76 := fk_ne fk69 hn77 hq73 rfl
                have ht79 := tw_eq (byt_ne hn77 (ts_ne hq73 hob1 rfl)) ht70
                have hb80 := (congrFun (byt_ne hn77 (ts_ne hq73 hob1 rfl)) 2208).trans hb71
                refine rn_aload_n (i := 0) dX10_goOut_166 rfl rfl ?_
                refine rn_iload_n (i := 1) dX10_goOut_167 rfl rfl ?_
                refine rn_callV (a := 0) (b := 0) [.int (2200 : Int32)] kl_SGModel_279 dX10_goOut_168 q3 ((hn77 _ (ts_ne hq73 hq3 rfl)).trans ((hn68 _ (ts_ne hq64 hq3 rfl)).trans hl3)) rfl (t_X10_hop_2200 G S w76 hS77.1 o0_ m0_ (by rw [hb80]; have := r9.1; have := r9.2; omega)) rfl rfl (Nat.le_of_ble_eq_true rfl) (Nat.le_of_ble_eq_true rfl) (Nat.le_of_ble_eq_true rfl) (Nat.le_of_ble_eq_true rfl) (Nat.le_of_ble_eq_true rfl) (Nat.le_of_ble_eq_true rfl) (fun _ _ h => False.elim h) (fun v9 w81 h82 => ?_)
                obtain ⟨hT83, rfl, xah82⟩ := h82
                have hS83 := St.tr hS77 hT83 rfl
                have ht84 := bsame.keep xah82 ht79 (by have := rk_2200.1; have := rk_2200.2; omega)
                have fk85 : fK1 4 S ws w81 := fk_fr fk78 hT83 rfl
                refine rn_stk [] rfl ?_
                refine rn_aload_n (i := 0) dX10_goOut_171 rfl rfl ?_
                refine rn_iload_n (i := 1) dX10_goOut_172 rfl rfl ?_
                refine rn_iload dX10_goOut_173 rfl ?_
                refine rn_aload_n (i := 0) dX10_goOut_175 rfl rfl ?_
                refine rn_get q3 kg_SGModel_83 (hT83.fr hq3 rfl ((hn77 _ (ts_ne hq73 hq3 rfl)).trans ((hn68 _ (ts_ne hq64 hq3 rfl)).trans hl3))) hx63 dX10_goOut_176 ?_
                refine rn_iload dX10_goOut_179 rfl ?_
                refine rs_lald q64 (hT83.fr hq64 rfl ((hn77 _ (ts_ne hq73 hq64 rfl)).trans hl68)) rfl r46 (by decide) (by decide) dX10_goOut_181 (fun v86 ev86 => ?_)
                refine rn_callV (a := 0) (b := 0) [.int (2200 : Int32), .int v43, .long v86] kl_SGModel_288 dX10_goOut_182 q3 (hT83.fr hq3 rfl ((hn77 _ (ts_ne hq73 hq3 rfl)).trans ((hn68 _ (ts_ne hq64 hq3 rfl)).trans hl3))) rfl (t_X10_sealIt_2200 G S w81 hS83.1 o0_ m0_ v43 r46 v86 (by rw [ht84]; exact ⟨by omega, by omega⟩)) rfl rfl (Nat.le_of_ble_eq_true rfl) (Nat.le_of_ble_eq_true rfl) (Nat.le_of_ble_eq_true rfl) (Nat.le_of_ble_eq_true rfl) (Nat.le_of_ble_eq_true rfl) (Nat.le_of_ble_eq_true rfl) (fun _ _ h => False.elim h) (fun v9 w87 h88 => ?_)
                obtain ⟨hT89, rfl, xah88, fkh88⟩ := h88
                have hS89 := St.tr hS83 hT89 rfl
                have fk90 : fK1 4 S ws w87 := fk_tr fk85 fkh88
                obtain ⟨T91, ht91⟩ : ∃ t : Int, tw (byt w87) 4402 = t := ⟨_, rfl⟩
                rw [ht91] at xah88
                refine rn_stk [] rfl ?_
                refine rn_aload_n (i := 0) dX10_goOut_185 rfl rfl ?_
                refine rn_sipush (v := (4400 : Int32)) dX10_goOut_186 (by decide) ?_
                refine rn_iconst (v := (1 : Int32)) dX10_goOut_189 (by decide) ?_
                obtain ⟨q92, fs92, hq92, hl92, hf92⟩ := ts_obj hS89.1 m0_ hk_30
                refine rn_callV (a := 0) (b := 0) [.int (4400 : Int32), .int (1 : Int32)] kl_SGModel_282 dX10_goOut_190 q92 hl92 rfl (t_X10_send_4400 G S w87 hS89.1 o0_ m0_ (1 : Int32) (by rw [ht91]; exact ⟨by omega, by omega⟩)) rfl rfl (Nat.le_of_ble_eq_true rfl) (Nat.le_of_ble_eq_true rfl) (Nat.le_of_ble_eq_true rfl) (Nat.le_of_ble_eq_true rfl) (Nat.le_of_ble_eq_true rfl) (Nat.le_of_ble_eq_true rfl) (fun _ _ h => False.elim h) (fun v9 w93 h94 => ?_)
                obtain ⟨hT96, v95, rfl, rv95, fkh94⟩ := h94
                have hS96 := St.tr hS89 hT96 rfl
                have fk97 : fK1 4 S ws w93 := fk_tr fk90 fkh94
                refine rn_stk [.int v95] rfl ?_
                exact rn_iret dX10_goOut_193 rfl rfl (rq_in ⟨hS96, v95, rfl, (rg_w rv95 (by decide) (by decide)), fk97⟩)
              · have ch61 := cv_ne h61
                have r98 : Rg (1) (1) v59 := rf_nel ch61 rv59 rk_0 (by decide) (by decide)
                refine rn_bipush (v := (6 : Int32)) dX10_goOut_141 (by decide) ?_
                exact rn_iret dX10_goOut_143 rfl rfl (rq_in ⟨hS0, (6 : Int32), rfl, (rg_w rk_6 (by decide) (by decide)), fk0⟩)
            · have ch45 := cv_nle h45
              have r99 : Rg (-1) (-1) v43 := rf_ltx ch45 rv43 rk_0 (by decide)
              refine rn_iconst (v := (5 : Int32)) dX10_goOut_118 (by decide) ?_
              exact rn_iret dX10_goOut_119 rfl rfl (rq_in ⟨hS0, (5 : Int32), rfl, (rg_w rk_5 (by decide) (by decide)), fk0⟩)
          · have ch39 := cv_eq h39
            have r100 : Rg (-1) (-1) v38 := rf_eqx ch39 rv38 rk_m1 (by decide) (by decide)
            refine rn_aload_n (i := 0) dX10_goOut_73 rfl rfl ?_
            refine rn_iload_n (i := 3) dX10_goOut_74 rfl rfl ?_
            refine rn_aload_n (i := 0) dX10_goOut_75 rfl rfl ?_
            refine rn_iload_n (i := 1) dX10_goOut_76 rfl rfl ?_
            refine rn_callV (a := 0) (b := 0) [.int (2200 : Int32)] kl_SGModel_270 dX10_goOut_77 q3 hl3 rfl (t_X10_hasDont G S ws hS0.1 o0_ m0_ (2200 : Int32) (rg_w rk_2200 (by decide) (by decide))) rfl rfl (Nat.le_of_ble_eq_true rfl) (Nat.le_of_ble_eq_true rfl) (Nat.le_of_ble_eq_true rfl) (Nat.le_of_ble_eq_true rfl) (Nat.le_of_ble_eq_true rfl) (Nat.le_of_ble_eq_true rfl) (fun _ _ h => False.elim h) (fun v9 w101 h102 => ?_)
            obtain ⟨rfl, v103, rfl, rv103⟩ := h102
            refine rn_stk [.int v103, .int v35, .ref o0_] rfl ?_
            refine rn_callV (a := 0) (b := 0) [.int v35, .int v103] kl_SGModel_275 dX10_goOut_80 q3 hl3 rfl (t_X10_isTooMuch G S ws hS0.1 o0_ m0_ v35 v103 rv103) rfl rfl (Nat.le_of_ble_eq_true rfl) (Nat.le_of_ble_eq_true rfl) (Nat.le_of_ble_eq_true rfl) (Nat.le_of_ble_eq_true rfl) (Nat.le_of_ble_eq_true rfl) (Nat.le_of_ble_eq_true rfl) (fun _ _ h => False.elim h) (fun v9 w105 h106 => ?_)
            obtain ⟨rfl, v107, rfl, rv107⟩ := h106
            refine rn_stk [.int v107] rfl ?_
            refine rn_if_eq (tgt := 89) dX10_goOut_83 (by decide) (fun h109 => ?_) (fun h109 => ?_)
            · have ch109 := cv_eq h109
              have r110 : Rg (0) (0) v107 := rf_eqx ch109 rv107 rk_0 (by decide) (by decide)
              refine rn_aload_n (i := 0) dX10_goOut_89 rfl rfl ?_
              refine rn_iload_n (i := 1) dX10_goOut_90 rfl rfl ?_
              refine rn_callV (a := 0) (b := 0) [.int (2200 : Int32)] kl_SGModel_279 dX10_goOut_91 q3 hl3 rfl (t_X10_hop_2200 G S ws hS0.1 o0_ m0_ (by rw [hbv7]; have := r9.1; have := r9.2; omega)) rfl rfl (Nat.le_of_ble_eq_true rfl) (Nat.le_of_ble_eq_true rfl) (Nat.le_of_ble_eq_true rfl) (Nat.le_of_ble_eq_true rfl) (Nat.le_of_ble_eq_true rfl) (Nat.le_of_ble_eq_true rfl) (fun _ _ h => False.elim h) (fun v9 w111 h112 => ?_)
              obtain ⟨hT113, rfl, xah112⟩ := h112
              have hS113 := St.tr hS0 hT113 rfl
              have ht114 := bsame.keep xah112 ht2 (by have := rk_2200.1; have := rk_2200.2; omega)
              have fk115 : fK1 4 S ws w111 := fk_fr fk0 hT113 rfl
              refine rn_stk [] rfl ?_
              refine rn_aload_n (i := 0) dX10_goOut_94 rfl rfl ?_
              refine rn_iload_n (i := 1) dX10_goOut_95 rfl rfl ?_
              refine rn_iconst (v := (1 : Int32)) dX10_goOut_96 (by decide) ?_
              refine rn_callV (a := 0) (b := 0) [.int (2200 : Int32), .int (1 : Int32)] kl_SGModel_282 dX10_goOut_97 q3 (hT113.fr hq3 rfl hl3) rfl (t_X10_send_2200 G S w111 hS113.1 o0_ m0_ (1 : Int32) (by rw [ht114]; exact ⟨by omega, by omega⟩)) rfl rfl (Nat.le_of_ble_eq_true rfl) (Nat.le_of_ble_eq_true rfl) (Nat.le_of_ble_eq_true rfl) (Nat.le_of_ble_eq_true rfl) (Nat.le_of_ble_eq_true rfl) (Nat.le_of_ble_eq_true rfl) (fun _ _ h => False.elim h) (fun v9 w116 h117 => ?_)
              obtain ⟨hT119, v118, rfl, rv118, fkh117⟩ := h117
              have hS119 := St.tr hS113 hT119 rfl
              have fk120 : fK1 4 S ws w116 := fk_tr fk115 fkh117
              refine rn_stk [.int v118] rfl ?_
              exact rn_iret dX10_goOut_100 rfl rfl (rq_in ⟨hS119, v118, rfl, (rg_w rv118 (by decide) (by decide)), fk120⟩)
            · have ch109 := cv_ne h109
              have r121 : Rg (1) (1) v107 := rf_nel ch109 rv107 rk_0 (by decide) (by decide)
              refine rn_bipush (v := (6 : Int32)) dX10_goOut_86 (by decide) ?_
              exact rn_iret dX10_goOut_88 rfl rfl (rq_in ⟨hS0, (6 : Int32), rfl, (rg_w rk_6 (by decide) (by decide)), fk0⟩)
        · have ch31 := cv_eq h31
          have r122 : Rg (-2) (-2) v30 := rf_eqx ch31 rv30 rk_m2 (by decide) (by decide)
          refine rn_iconst (v := (4 : Int32)) dX10_goOut_55 (by decide) ?_
          exact rn_iret dX10_goOut_56 rfl rfl (rq_in ⟨hS0, (4 : Int32), rfl, (rg_w rk_4 (by decide) (by decide)), fk0⟩)
    · have ch19 := cv_ne h19
      refine rn_iconst (v := (3 : Int32)) dX10_goOut_31 (by decide) ?_
      exact rn_iret dX10_goOut_32 rfl rfl (rq_in ⟨hS0, (3 : Int32), rfl, (rg_w rk_3 (by decide) (by decide)), fk0⟩)
  · have ch8 := cv_nle h8
    have r123 : Rg (0) (1) v7 := rf_ltx ch8 rv7 rk_2 (by decide)
    refine rn_iconst (v := (2 : Int32)) dX10_goOut_13 (by decide) ?_
    exact rn_iret dX10_goOut_14 rfl rfl (rq_in ⟨hS0, (2 : Int32), rfl, (rg_w rk_2 (by decide) (by decide)), fk0⟩)
