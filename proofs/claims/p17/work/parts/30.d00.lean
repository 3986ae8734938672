abbrev q_t_X10_two (G : rn_G) (S : ts_S) (ws : va_W) (x1_ : Int32) : rn_R → va_W → Prop := rQ (fun v w => ws = w ∧ ∃ x : Int32, v = some (.int x) ∧ Rg 0 65535 x ∧ (∀ k : Nat, x1_.toInt = k → x.toInt = tw (byt ws) k)) (fun E w => False)
set_option maxRecDepth 20000 in
theorem t_X10_two (G : rn_G) (S : ts_S) (ws : va_W) (hW : ts_W G S ws) (o0_ : Nat) (m0_ : (o0_, 30) ∈ S) (x1_ : Int32) (r1_ : Rg (0) (21998) x1_) : Rn G mX10_two 0 0 0 0 0 (lv_args 0 [.ref o0_, .int x1_]) [] ws (q_t_X10_two G S ws x1_) := by
  obtain ⟨q1, fs1, hq1, hl1, hf1⟩ := ts_obj hW m0_ hk_30
  obtain ⟨o2, hx2, m2⟩ := fs_r hf1 2 rfl
  obtain ⟨q3, f3, hq3, hl3, hf3⟩ := ts_ia hW m2 hk_33
  refine rn_lv [(0, .ref o0_), (1, .int x1_)] rfl ?_
  refine rn_aload_n (i := 0) dX10_two_0 rfl rfl ?_
  refine rn_get q1 kg_SGModel_7 hl1 hx2 dX10_two_1 ?_
  refine rn_iload_n (i := 1) dX10_two_4 rfl rfl ?_
  refine rs_iald q3 hl3 hf3 rfl r1_ (by decide) (by decide) dX10_two_5 (fun v1 e1 r1 => ?_)
  refine rn_bipush (v := (8 : Int32)) dX10_two_6 (by decide) ?_
  refine rn_ishl dX10_two_8 ?_
  refine rn_aload_n (i := 0) dX10_two_9 rfl rfl ?_
  refine rn_get q1 kg_SGModel_7 hl1 hx2 dX10_two_10 ?_
  refine rn_iload_n (i := 1) dX10_two_13 rfl rfl ?_
  refine rn_iconst (v := (1 : Int32)) dX10_two_14 (by decide) ?_
  refine rs_addC 1 21999 r1_ rk_1 dX10_two_15 (by decide) (fun v2 e2 r2 => ?_)
  refine rs_iald q3 hl3 hf3 rfl r2 (by decide) (by decide) dX10_two_16 (fun v3 e3 r3 => ?_)
  refine rn_ior dX10_two_17 ?_
  refine rn_nmE (two_val r1 r3) (fun v4 e4 r4 => ?_)
  refine rn_iret dX10_two_18 rfl rfl (rq_in ⟨rfl, v4, rfl, r4, fun k hk => ?_⟩)
  rw [e4, e1, e3, byt_of hW hq3 hl3, tnc hk, tnc (x := v2) (k := k + 1) (by omega)]
  rfl
abbrev q_t_X10_four (G : rn_G) (S : ts_S) (ws : va_W) : rn_R → va_W → Prop := rQ (fun v w => ws = w ∧ (∃ x : Int32, v = some (.int x) ∧ Rg (-2147483648) (2147483647) x)) (fun E w => False)
set_option maxRecDepth 20000 in
set_option maxHeartbeats 4000000 in
theorem t_X10_four (G : rn_G) (S : ts_S) (ws : va_W) (hW : ts_W G S ws) (o0_ : Nat) (m0_ : (o0_, 30) ∈ S) (x1_ : Int32) (r1_ : Rg (0) (21996) x1_) : Rn G mX10_four 1 21 0 0 0 (lv_args 0 [.ref o0_, .int x1_]) [] ws (q_t_X10_four G S ws ) := by
  refine rn_lv [(0, .ref o0_), (1, .int x1_)] rfl ?_
  refine rn_aload_n (i := 0) dX10_four_0 rfl rfl ?_
  refine rn_iload_n (i := 1) dX10_four_1 rfl rfl ?_
  obtain ⟨q1, fs1, hq1, hl1, hf1⟩ := ts_obj hW m0_ hk_30
  refine rn_callV (a := 0) (b := 0) [.int x1_] kl_SGModel_140 dX10_four_2 q1 hl1 rfl (t_X10_two G S ws hW o0_ m0_ x1_ (rg_w r1_ (by decide) (by decide))) rfl rfl (Nat.le_of_ble_eq_true rfl) (Nat.le_of_ble_eq_true rfl) (Nat.le_of_ble_eq_true rfl) (Nat.le_of_ble_eq_true rfl) (Nat.le_of_ble_eq_true rfl) (Nat.le_of_ble_eq_true rfl) (fun _ _ h => False.elim h) (fun v9 w2 h3 => ?_)
  obtain ⟨rfl, v4, rfl, rv4, xah3⟩ := h3
  refine rn_stk [.int v4] rfl ?_
  refine rn_bipush (v := (16 : Int32)) dX10_four_5 (by decide) ?_
  refine rn_ishl dX10_four_7 (rn_nmA (fun v6 rv6 => ?_))
  refine rn_aload_n (i := 0) dX10_four_8 rfl rfl ?_
  refine rn_iload_n (i := 1) dX10_four_9 rfl rfl ?_
  refine rn_iconst (v := (2 : Int32)) dX10_four_10 (by decide) ?_
  refine rs_addC (2) (21998) r1_ rk_2 dX10_four_11 (by decide) (fun v7 ev7 rv7 => ?_)
  refine rn_callV (a := 0) (b := 0) [.int v7] kl_SGModel_140 dX10_four_12 q1 hl1 rfl (t_X10_two G S ws hW o0_ m0_ v7 (rg_w rv7 (by decide) (by decide))) rfl rfl (Nat.le_of_ble_eq_true rfl) (Nat.le_of_ble_eq_true rfl) (Nat.le_of_ble_eq_true rfl) (Nat.le_of_ble_eq_true rfl) (Nat.le_of_ble_eq_true rfl) (Nat.le_of_ble_eq_true rfl) (fun _ _ h => False.elim h) (fun v9 w8 h9 => ?_)
  obtain ⟨rfl, v10, rfl, rv10, xah9⟩ := h9
  refine rn_stk [.int v10, .int v6] rfl ?_
  refine rn_ior dX10_four_15 (rn_nmA (fun v12 rv12 => ?_))
  exact rn_iret dX10_four_16 rfl rfl (rq_in ⟨rfl, v12, rfl, rv12⟩)
abbrev q_t_X10_putTwo (G : rn_G) (S : ts_S) (ws : va_W) (x1_ x2_ : Int32) : rn_R → va_W → Prop := rQ (fun v w => St G S [33] ws S w ∧ v = none ∧ bsame x1_.toInt (x1_.toInt + 2) ws w ∧ (∀ k : Nat, x1_.toInt = k → 0 ≤ x2_.toInt → x2_.toInt ≤ 65535 → tw (byt w) k = x2_.toInt)) (fun E w => False)
set_option maxRecDepth 20000 in
theorem t_X10_putTwo (G : rn_G) (S : ts_S) (ws : va_W) (hW : ts_W G S ws) (o0_ : Nat) (m0_ : (o0_, 30) ∈ S) (x1_ : Int32) (r1_ : Rg (0) (21998) x1_) (x2_ : Int32) : Rn G mX10_putTwo 0 0 0 0 0 (lv_args 0 [.ref o0_, .int x1_, .int x2_]) [] ws (q_t_X10_putTwo G S ws x1_ x2_) := by
  obtain ⟨q1, fs1, hq1, hl1, hf1⟩ := ts_obj hW m0_ hk_30
  obtain ⟨o2, hx2, m2⟩ := fs_r hf1 2 rfl
  obtain ⟨q3, f3, hq3, hl3, hf3⟩ := ts_ia hW m2 hk_33
  have hS0 : St G S [33] ws S ws := St.rf hW
  refine rn_lv [(0, .ref o0_), (1, .int x1_), (2, .int x2_)] rfl ?_
  refine rn_aload_n (i := 0) dX10_putTwo_0 rfl rfl ?_
  refine rn_get q1 kg_SGModel_7 hl1 hx2 dX10_putTwo_1 ?_
  refine rn_iload_n (i := 1) dX10_putTwo_4 rfl rfl ?_
  refine rn_iload_n (i := 2) dX10_putTwo_5 rfl rfl ?_
  refine rn_bipush (v := (8 : Int32)) dX10_putTwo_6 (by decide) ?_
  refine rn_ishr dX10_putTwo_8 ?_
  refine rn_sipush (v := (255 : Int32)) dX10_putTwo_9 (by decide) ?_
  refine rn_iand dX10_putTwo_12 ?_
  refine rs_iast q3 hS0 hq3 hl3 hf3 hk_33 rfl rfl r1_ (by decide) (by decide) (rg_andr rk_255 (by decide)) dX10_putTwo_13 (fun w1 f4 hS4 hl4 hf4 hu4 hn4 => ?_)
  have hl5 := (hn4 _ (ts_ne hq3 hq1 rfl)).trans hl1
  refine rn_aload_n (i := 0) dX10_putTwo_14 rfl rfl ?_
  refine rn_get q1 kg_SGModel_7 hl5 hx2 dX10_putTwo_15 ?_
  refine rn_iload_n (i := 1) dX10_putTwo_18 rfl rfl ?_
  refine rn_iconst (v := (1 : Int32)) dX10_putTwo_19 (by decide) ?_
  refine rs_addC 1 21999 r1_ rk_1 dX10_putTwo_20 (by decide) (fun v2 e2 r2 => ?_)
  refine rn_iload_n (i := 2) dX10_putTwo_21 rfl rfl ?_
  refine rn_sipush (v := (255 : Int32)) dX10_putTwo_22 (by decide) ?_
  refine rn_iand dX10_putTwo_25 ?_
  refine rs_iast q3 hS4 hq3 hl4 hf4 hk_33 rfl rfl r2 (by decide) (by decide) (rg_andr rk_255 (by decide)) dX10_putTwo_26 (fun w6 f6 hS6 hl6 hf6 hu6 hn6 => ?_)
  have b1 : bsame x1_.toInt (x1_.toInt + 2) ws w6 := bs_st (bs_st bs_rf hW hS4.1 hq3 hl3 hl4 hu4 r1_.1 (by omega)) hS4.1 hS6.1 hq3 hl4 hl6 hu6 (Int.le_trans (by decide) r2.1) (by omega)
  refine rn_vret dX10_putTwo_27 rfl (rq_in ⟨hS6, rfl, b1, fun k hk h0 h1 => ?_⟩)
  have n1 := tnc hk
  have n2 := tnc (x := v2) (k := k + 1) (by omega)
  rw [byt_of hS6.1 hq3 hl6, hu6, hu4, n1, n2]
  unfold tw upd
  rw [if_neg (by omega), if_pos rfl, if_pos rfl]
  exact pt_val h0 h1
abbrev q_t_X10_putFour (G : rn_G) (S : ts_S) (ws : va_W) (x1_ x2_ : Int32) : rn_R → va_W → Prop := rQ (fun v w => St G S [33] ws S w ∧ (v = none ∧ (bsame (x1_.toInt + 0) (x1_.toInt + 4) ws w))) (fun E w => False)
set_option maxRecDepth 20000 in
set_option maxHeartbeats 4000000 in
theorem t_X10_putFour (G : rn_G) (S : ts_S) (ws : va_W) (hW : ts_W G S ws) (o0_ : Nat) (m0_ : (o0_, 30) ∈ S) (x1_ : Int32) (r1_ : Rg (0) (21996) x1_) (x2_ : Int32) : Rn G mX10_putFour 1 22 0 0 0 (lv_args 0 [.ref o0_, .int x1_, .int x2_]) [] ws (q_t_X10_putFour G S ws x1_ x2_) := by
  have hS0 : St G S [33] ws S ws := St.rf hW
  obtain ⟨ob1, hob1⟩ := hS0.1.2.1.2
  have bs0 : bsame (x1_.toInt + 0) (x1_.toInt + 4) ws ws := bs_rf
  refine rn_lv [(0, .ref o0_), (1, .int x1_), (2, .int x2_)] rfl ?_
  refine rn_aload_n (i := 0) dX10_putFour_0 rfl rfl ?_
  refine rn_iload_n (i := 1) dX10_putFour_1 rfl rfl ?_
  refine rn_iload_n (i := 2) dX10_putFour_2 rfl rfl ?_
  refine rn_bipush (v := (16 : Int32)) dX10_putFour_3 (by decide) ?_
  refine rn_iushr dX10_putFour_5 rfl (rn_nmA (fun v2 rv2 => ?_))
  obtain ⟨q3, fs3, hq3, hl3, hf3⟩ := ts_obj hS0.1 m0_ hk_30
  refine rn_callV (a := 0) (b := 0) [.int x1_, .int v2] kl_SGModel_144 dX10_putFour_6 q3 hl3 rfl (t_X10_putTwo G S ws hS0.1 o0_ m0_ x1_ (rg_w r1_ (by decide) (by decide)) v2) rfl rfl (Nat.le_of_ble_eq_true rfl) (Nat.le_of_ble_eq_true rfl) (Nat.le_of_ble_eq_true rfl) (Nat.le_of_ble_eq_true rfl) (Nat.le_of_ble_eq_true rfl) (Nat.le_of_ble_eq_true rfl) (fun _ _ h => False.elim h) (fun v9 w4 h5 => ?_)
  obtain ⟨hT6, rfl, xah5⟩ := h5
  have hS6 := St.tr hS0 hT6 rfl
  have bs7 := bs_tr bs0 xah5.1 (by have := rv2.1; have := rv2.2; have := r1_.1; have := r1_.2; omega) (by have := rv2.1; have := rv2.2; have := r1_.1; have := r1_.2; omega)
  refine rn_stk [] rfl ?_
  refine rn_aload_n (i := 0) dX10_putFour_9 rfl rfl ?_
  refine rn_iload_n (i := 1) dX10_putFour_10 rfl rfl ?_
  refine rn_iconst (v := (2 : Int32)) dX10_putFour_11 (by decide) ?_
  refine rs_addC (2) (21998) r1_ rk_2 dX10_putFour_12 (by decide) (fun v8 ev8 rv8 => ?_)
  refine rn_iload_n (i := 2) dX10_putFour_13 rfl rfl ?_
  refine rn_ldc (v := (65535 : Int32)) wd_1093 dX10_putFour_14 ?_
  refine rn_iand dX10_putFour_16 (rn_tn 0 (65535) (rg_andr rk_65535 (by decide)) (fun v9 rv9 => ?_))
  refine rn_callV (a := 0) (b := 0) [.int v8, .int v9] kl_SGModel_144 dX10_putFour_17 q3 (hT6.fr hq3 rfl hl3) rfl (t_X10_putTwo G S w4 hS6.1 o0_ m0_ v8 (rg_w rv8 (by decide) (by decide)) v9) rfl rfl (Nat.le_of_ble_eq_true rfl) (Nat.le_of_ble_eq_true rfl) (Nat.le_of_ble_eq_true rfl) (Nat.le_of_ble_eq_true rfl) (Nat.le_of_ble_eq_true rfl) (Nat.le_of_ble_eq_true rfl) (fun _ _ h => False.elim h) (fun v9 w10 h11 => ?_)
  obtain ⟨hT12, rfl, xah11⟩ := h11
  have hS12 := St.tr hS6 hT12 rfl
  have bs13 := bs_tr bs7 xah11.1 (by have := rv9.1; have := rv9.2; have := rk_65535.1; have := rk_65535.2; have := rv8.1; have := rv8.2; have := rk_2.1; have := rk_2.2; have := r1_.1; have := r1_.2; omega) (by have := rv9.1; have := rv9.2; have := rk_65535.1; have := rk_65535.2; have := rv8.1; have := rv8.2; have := rk_2.1; have := rk_2.2; have := r1_.1; have := r1_.2; omega)
  refine rn_stk [] rfl ?_
  exact rn_vret dX10_putFour_20 rfl (rq_in ⟨hS12, rfl, bs13⟩)
abbrev q_t_X10_putEight (G : rn_G) (S : ts_S) (ws : va_W) (x1_ : Int32) : rn_R → va_W → Prop := rQ (fun v w => St G S [33] ws S w ∧ (v = none ∧ (bsame (x1_.toInt + 0) (x1_.toInt + 8) ws w))) (fun E w => False)
set_option maxRecDepth 20000 in
set_option maxHeartbeats 4000000 in
theorem t_X10_putEight (G : rn_G) (S : ts_S) (ws : va_W) (hW : ts_W G S ws) (o0_ : Nat) (m0_ : (o0_, 30) ∈ S) (x1_ : Int32) (r1_ : Rg (0) (21992) x1_) (y2_ : Int64) : Rn G mX10_putEight 2 44 0 0 0 (lv_args 0 [.ref o0_, .int x1_, .long y2_]) [] ws (q_t_X10_putEight G S ws x1_) := by
  have hS0 : St G S [33] ws S ws := St.rf hW
  obtain ⟨ob1, hob1⟩ := hS0.1.2.1.2
  have bs0 : bsame (x1_.toInt + 0) (x1_.toInt + 8) ws ws := bs_rf
  refine rn_lv [(0, .ref o0_), (1, .int x1_), (2, .long y2_)] rfl ?_
  refine rn_aload_n (i := 0) dX10_putEight_0 rfl rfl ?_
  refine rn_iload_n (i := 1) dX10_putEight_1 rfl rfl ?_
  refine rn_lload_n (i := 2) dX10_putEight_2 rfl rfl ?_
  refine rn_bipush (v := (32 : Int32)) dX10_putEight_3 (by decide) ?_
  refine rn_lushr dX10_putEight_5 rfl (rn_nmL (fun l2 => ?_))
  refine rn_l2i dX10_putEight_6 rfl (rn_nmA (fun v3 rv3 => ?_))
  obtain ⟨q4, fs4, hq4, hl4, hf4⟩ := ts_obj hS0.1 m0_ hk_30
  refine rn_callV (a := 0) (b := 0) [.int x1_, .int v3] kl_SGModel_148 dX10_putEight_7 q4 hl4 rfl (t_X10_putFour G S ws hS0.1 o0_ m0_ x1_ (rg_w r1_ (by decide) (by decide)) v3) rfl rfl (Nat.le_of_ble_eq_true rfl) (Nat.le_of_ble_eq_true rfl) (Nat.le_of_ble_eq_true rfl) (Nat.le_of_ble_eq_true rfl) (Nat.le_of_ble_eq_true rfl) (Nat.le_of_ble_eq_true rfl) (fun _ _ h => False.elim h) (fun v9 w5 h6 => ?_)
  obtain ⟨hT7, rfl, xah6⟩ := h6
  have hS7 := St.tr hS0 hT7 rfl
  have bs8 := bs_tr bs0 xah6 (by have := rv3.1; have := rv3.2; have := r1_.1; have := r1_.2; omega) (by have := rv3.1; have := rv3.2; have := r1_.1; have := r1_.2; omega)
  refine rn_stk [] rfl ?_
  refine rn_aload_n (i := 0) dX10_putEight_10 rfl rfl ?_
  refine rn_iload_n (i := 1) dX10_putEight_11 rfl rfl ?_
  refine rn_iconst (v := (4 : Int32)) dX10_putEight_12 (by decide) ?_
  refine rs_addC (4) (21996) r1_ rk_4 dX10_putEight_13 (by decide) (fun v9 ev9 rv9 => ?_)
  refine rn_lload_n (i := 2) dX10_putEight_14 rfl rfl ?_
  refine rn_l2i dX10_putEight_15 rfl (rn_nmA (fun v10 rv10 => ?_))
  refine rn_callV (a := 0) (b := 0) [.int v9, .int v10] kl_SGModel_148 dX10_putEight_16 q4 (hT7.fr hq4 rfl hl4) rfl (t_X10_putFour G S w5 hS7.1 o0_ m0_ v9 (rg_w rv9 (by decide) (by decide)) v10) rfl rfl (Nat.le_of_ble_eq_true rfl) (Nat.le_of_ble_eq_true rfl) (Nat.le_of_ble_eq_true rfl) (Nat.le_of_ble_eq_true rfl) (Nat.le_of_ble_eq_true rfl) (Nat.le_of_ble_eq_true rfl) (fun _ _ h => False.elim h) (fun v9 w11 h12 => ?_)
  obtain ⟨hT13, rfl, xah12⟩ := h12
  have hS13 := St.tr hS7 hT13 rfl
  have bs14 := bs_tr bs8 xah12 (by have := rv10.1; have := rv10.2; have := rv9.1; have := rv9.2; have := rk_4.1; have := rk_4.2; have := r1_.1; have := r1_.2; omega) (by have := rv10.1; have := rv10.2; have := rv9.1; have := rv9.2; have := rk_4.1; have := rk_4.2; have := r1_.1; have := r1_.2; omega)
  refine rn_stk [] rfl ?_
  exact rn_vret dX10_putEight_19 rfl (rq_in ⟨hS13, rfl, bs14⟩)
abbrev q_t_X10_move (G : rn_G) (S : ts_S) (ws : va_W) (x1_ x2_ x3_ : Int32) : rn_R → va_W → Prop := rQ (fun v w => St G S [33] ws S w ∧ v = none ∧ bsame x2_.toInt (x2_.toInt + x3_.toInt) ws w ∧ (x1_.toInt + x3_.toInt ≤ x2_.toInt → ∀ j : Nat, (j : Int) < x3_.toInt → byt w (x2_.toInt.toNat + j) = byt ws (x1_.toInt.toNat + j))) (fun E w => False)
set_option maxRecDepth 20000 in
theorem t_X10_move (G : rn_G) (S : ts_S) (ws : va_W) (hW : ts_W G S ws) (o0_ : Nat) (m0_ : (o0_, 30) ∈ S) (x1_ x2_ x3_ : Int32) (hp : 0 ≤ x1_.toInt ∧ 0 ≤ x2_.toInt ∧ x1_.toInt + x3_.toInt ≤ 22000 ∧ x2_.toInt + x3_.toInt ≤ 22000) : Rn G mX10_move 0 0 0 0 0 (lv_args 0 [.ref o0_, .int x1_, .int x2_, .int x3_]) [] ws (q_t_X10_move G S ws x1_ x2_ x3_) := by
  obtain ⟨p1, p2, p3, p4⟩ := hp
  obtain ⟨q1, fs1, hq1, hl1, hf1⟩ := ts_obj hW m0_ hk_30
  obtain ⟨o2, hx2, m2⟩ := fs_r hf1 2 rfl
  have LP : ∀ (n : Nat) (w : va_W) (i : Int32), St G S [33] ws S w → Rg 0 22000 i → bsame x2_.toInt (x2_.toInt + i.toInt) ws w → (x1_.toInt + x3_.toInt ≤ x2_.toInt → ∀ j : Nat, (j : Int) < i.toInt → byt w (x2_.toInt.toNat + j) = byt ws (x1_.toInt.toNat + j)) → (i.toInt ≤ x3_.toInt ∨ i.toInt = 0) → (22000 - i.toInt).toNat = n → Rn G mX10_move 0 0 0 0 3 [(0, .ref o0_), (1, .int x1_), (2, .int x2_), (3, .int x3_), (4, .int i)] [] w (q_t_X10_move G S ws x1_ x2_ x3_) := by
    intro n
    induction n using Nat.strongRecOn with
    | _ n ih =>
      intro w i hT r0 hb hc hle hm
      have g1 := r0.1; have g2 := r0.2
      refine rn_iload dX10_move_3 rfl ?_
      refine rn_iload_n (i := 3) dX10_move_5 rfl rfl ?_
      refine rn_icmp_ge (tgt := 33) dX10_move_6 (by decide) (fun h => ?_) (fun h => ?_)
      · have c := cv_le h
        refine rn_vret dX10_move_33 rfl (rq_in ⟨hT, rfl, fun j hj => hb j (by omega), fun hd j hj => hc hd j (by omega)⟩)
      · have c := cv_nle h
        have hl1' := hT.fr hq1 rfl hl1
        obtain ⟨q3, f3, hq3, hl3, hf3⟩ := ts_ia hT.1 m2 hk_33
        refine rn_aload_n (i := 0) dX10_move_9 rfl rfl ?_
        refine rn_get q1 kg_SGModel_7 hl1' hx2 dX10_move_10 ?_
        refine rn_iload_n (i := 2) dX10_move_13 rfl rfl ?_
        refine rn_iload dX10_move_14 rfl ?_
        refine rs_addR 0 44000 (show Rg 0 22000 x2_ from ⟨by omega, by omega⟩) r0 dX10_move_16 (by decide) (fun v1 e1 _ => ?_)
        refine rn_aload_n (i := 0) dX10_move_17 rfl rfl ?_
        refine rn_get q1 kg_SGModel_7 hl1' hx2 dX10_move_18 ?_
        refine rn_iload_n (i := 1) dX10_move_21 rfl rfl ?_
        refine rn_iload dX10_move_22 rfl ?_
        refine rs_addR 0 44000 (show Rg 0 22000 x1_ from ⟨by omega, by omega⟩) r0 dX10_move_24 (by decide) (fun v2 e2 _ => ?_)
        refine rs_iald q3 hl3 hf3 rfl (show Rg 0 21999 v2 from ⟨by omega, by omega⟩) (by decide) (by decide) dX10_move_25 (fun v3 e3 r3 => ?_)
        refine rs_iast q3 hT hq3 hl3 hf3 hk_33 rfl rfl (show Rg 0 21999 v1 from ⟨by omega, by omega⟩) (by decide) (by decide) r3 dX10_move_26 (fun w1 f4 hS4 hl4 hf4 hu4 hn4 => ?_)
        refine rs_iinc 1 22000 dX10_move_27 rfl (by decide) (show Rg 0 21999 i from ⟨by omega, by omega⟩) rk_1 (by decide) (fun v => [(0, .ref o0_), (1, .int x1_), (2, .int x2_), (3, .int x3_), (4, .int v)]) (fun _ => rfl) (fun v e r => ?_)
        refine rn_goto (tgt := 3) dX10_move_30 (by decide) ?_
        have nv : 0 ≤ v1.toInt := by omega
        refine ih _ (lp_inc hm e r (by decide)) w1 v hS4 (rg_w r (by decide) (by decide)) (fun j hj => ?_) (fun hd j hj => ?_) (Or.inl (by omega)) rfl
        · rw [byt_st hT.1 hS4.1 hq3 hl3 hl4 hu4 nv j (by omega)]
          exact hb j (by omega)
        · by_cases hjj : (j : Int) < i.toInt
          · rw [byt_st hT.1 hS4.1 hq3 hl3 hl4 hu4 nv _ (by omega)]
            exact hc hd j hjj
          · have k1 : v1.toNatClampNeg = x2_.toInt.toNat + j := tnc (by omega)
            have k2 : v2.toNatClampNeg = x1_.toInt.toNat + j := tnc (by omega)
            rw [byt_of hS4.1 hq3 hl4, hu4, k1]
            unfold upd
            rw [if_pos rfl, e3, k2, ← byt_of hT.1 hq3 hl3]
            exact hb _ (by omega)
  refine rn_lv [(0, .ref o0_), (1, .int x1_), (2, .int x2_), (3, .int x3_)] rfl ?_
  refine rn_iconst (v := (0 : Int32)) dX10_move_0 (by decide) ?_
  refine rn_istore dX10_move_1 (by decide) [(0, .ref o0_), (1, .int x1_), (2, .int x2_), (3, .int x3_), (4, .int (0 : Int32))] rfl ?_
  have z : (0 : Int32).toInt = 0 := by decide
  exact LP _ ws (0 : Int32) (St.rf hW) (rg_w rk_0 (by decide) (by decide)) (fun _ _ => rfl) (fun _ j hj => by omega) (Or.inr z) rfl
abbrev q_t_X10_fold (G : rn_G) (S : ts_S) (ws : va_W) : rn_R → va_W → Prop := rQ (fun v w => ws = w ∧ (∃ x : Int32, v = some (.int x) ∧ Rg (-2147483648) (65535) x)) (fun E w => False)
set_option maxRecDepth 20000 in
set_option maxHeartbeats 4000000 in
theorem t_X10_fold (G : rn_G) (S : ts_S) (ws : va_W) (hW : ts_W G S ws) (o0_ : Nat) (m0_ : (o0_, 30) ∈ S) (x1_ : Int32) (r1_ : Rg (0) (21970) x1_) (x2_ : Int32) (r2_ : Rg (0) (1) x2_) : Rn G mX10_fold 1 21 0 0 0 (lv_args 0 [.ref o0_, .int x1_, .int x2_]) [] ws (q_t_X10_fold G S ws ) := by
  refine rn_lv [(0, .ref o0_), (1, .int x1_), (2, .int x2_)] rfl ?_
  refine rn_iconst (v := (0 : Int32)) dX10_fold_0 (by decide) ?_
  refine rn_istore_n dX10_fold_1 rfl (by decide) [(0, .ref o0_), (1, .int x1_), (2, .int x2_), (3, .int (0 : Int32))] rfl ?_
  refine rn_iconst (v := (0 : Int32)) dX10_fold_2 (by decide) ?_
  refine rn_istore dX10_fold_3 (by decide) [(0, .ref o0_), (1, .int x1_), (2, .int x2_), (3, .int (0 : Int32)), (4, .int (0 : Int32))] rfl ?_
  have LP3 : ∀ (n : Nat) (x1 : Int32) (x2 : Int32), Rg (-2147483648) (2147483647) x1 → Rg (0) (23) x2 → (23 - x2.toInt).toNat = n → Rn G mX10_fold 1 21 0 0 5 [(0, .ref o0_), (1, .int x1_), (2, .int x2_), (3, .int x1), (4, .int x2)] [] ws (q_t_X10_fold G S ws ) := by
    intro n
    induction n using Nat.strongRecOn with
    | _ n ih =>
      intro x1 x2 r5 r6 hm7
      refine rn_iload dX10_fold_5 rfl ?_
      refine rn_bipush (v := (20 : Int32)) dX10_fold_7 (by decide) ?_
      refine rn_icmp_ge (tgt := 44) dX10_fold_9 (by decide) (fun h8 => ?_) (fun h8 => ?_)
      · have ch8 := cv_le h8
        have r9 : Rg (20) (23) x2 := rf_ley ch8 rk_20 r6 (by decide)
        have LP11 : ∀ (n : Nat) (x10 : Int32), Rg (-2147483648) (2147483647) x10 → x10.toInt.toNat = n → Rn G mX10_fold 1 21 0 0 44 [(0, .ref o0_), (1, .int x1_), (2, .int x2_), (3, .int x10), (4, .int x2)] [] ws (q_t_X10_fold G S ws ) := by
          intro n
          induction n using Nat.strongRecOn with
          | _ n ih =>
            intro x10 r13 hm14
            refine rn_iload_n (i := 3) dX10_fold_44 rfl rfl ?_
            refine rn_ldc (v := (65535 : Int32)) wd_1093 dX10_fold_45 ?_
            refine rn_icmp_le (tgt := 63) dX10_fold_47 (by decide) (fun h15 => ?_) (fun h15 => ?_)
            · have ch15 := cv_le h15
              have r16 : Rg (-2147483648) (65535) x10 := rf_lex ch15 r13 rk_65535 (by decide)
              refine rn_iload_n (i := 3) dX10_fold_63 rfl rfl ?_
              exact rn_iret dX10_fold_64 rfl rfl (rq_in ⟨rfl, x10, rfl, r16⟩)
            · have ch15 := cv_nle h15
              have r17 : Rg (65536) (2147483647) x10 := rf_lty ch15 rk_65535 r13 (by decide)
              refine rn_iload_n (i := 3) dX10_fold_50 rfl rfl ?_
              refine rn_ldc (v := (65535 : Int32)) wd_1093 dX10_fold_51 ?_
              refine rn_iand dX10_fold_53 ?_
              refine rn_iload_n (i := 3) dX10_fold_54 rfl rfl ?_
              refine rn_bipush (v := (16 : Int32)) dX10_fold_55 (by decide) ?_
              refine rn_ishr dX10_fold_57 ?_
              refine rn_iadd dX10_fold_58 ?_
              refine rn_istore_n dX10_fold_59 rfl (by decide) [(0, .ref o0_), (1, .int x1_), (2, .int x2_), (3, .int ((x10 &&& (65535 : Int32)) + (x10 >>> ((16 : Int32) &&& 31)))), (4, .int x2)] rfl ?_
              refine rn_goto (tgt := 44) dX10_fold_60 (by decide) ?_
              refine rn_lv [(0, .ref o0_), (1, .int x1_), (2, .int x2_), (3, .int ((x10 &&& (65535 : Int32)) + (x10 >>> ((16 : Int32) &&& 31)))), (4, .int x2)] rfl ?_
              exact ih _ (by rw [← hm14]; exact fold_dec _ (by have h9 := rk_65535.1; omega)) ((x10 &&& (65535 : Int32)) + (x10 >>> ((16 : Int32) &&& 31))) (rg_any ((x10 &&& (65535 : Int32)) + (x10 >>> ((16 : Int32) &&& 31)))) rfl
        exact LP11 _ x1 r5 rfl
      · have ch8 := cv_nle h8
        have r18 : Rg (0) (19) x2 := rf_ltx ch8 r6 rk_20 (by decide)
        refine rn_iload_n (i := 3) dX10_fold_12 rfl rfl ?_
        refine rn_iload dX10_fold_13 rfl ?_
        refine rn_bipush (v := (10 : Int32)) dX10_fold_15 (by decide) ?_
        refine rn_icmp_ne (tgt := 28) dX10_fold_17 (by decide) (fun h19 => ?_) (fun h19 => ?_)
        · have ch19 := cv_ne h19
          refine rn_aload_n (i := 0) dX10_fold_28 rfl rfl ?_
          refine rn_iload_n (i := 1) dX10_fold_29 rfl rfl ?_
          refine rn_iload dX10_fold_30 rfl ?_
          refine rs_addR (0) (21989) r1_ r18 dX10_fold_32 (by decide) (fun v20 ev20 rv20 => ?_)
          obtain ⟨q21, fs21, hq21, hl21, hf21⟩ := ts_obj hW m0_ hk_30
          refine rn_callV (a := 0) (b := 0) [.int v20] kl_SGModel_140 dX10_fold_33 q21 hl21 rfl (t_X10_two G S ws hW o0_ m0_ v20 (rg_w rv20 (by decide) (by decide))) rfl rfl (Nat.le_of_ble_eq_true rfl) (Nat.le_of_ble_eq_true rfl) (Nat.le_of_ble_eq_true rfl) (Nat.le_of_ble_eq_true rfl) (Nat.le_of_ble_eq_true rfl) (Nat.le_of_ble_eq_true rfl) (fun _ _ h => False.elim h) (fun v9 w22 h23 => ?_)
          obtain ⟨rfl, v24, rfl, rv24, xah23⟩ := h23
          refine rn_stk [.int v24, .int x1] rfl ?_
          refine rn_iadd dX10_fold_36 (rn_nmA (fun v26 rv26 => ?_))
          refine rn_istore_n dX10_fold_37 rfl (by decide) [(0, .ref o0_), (1, .int x1_), (2, .int x2_), (3, .int v26), (4, .int x2)] rfl ?_
          refine rs_iinc (2) (21) dX10_fold_38 rfl (by decide) r18 rk_2 (by decide) (fun v27 => [(0, .ref o0_), (1, .int x1_), (2, .int x2_), (3, .int v26), (4, .int v27)]) (fun _ => rfl) (fun v27 ev27 rv27 => ?_)
          refine rn_goto (tgt := 5) dX10_fold_41 (by decide) ?_
          refine rn_lv [(0, .ref o0_), (1, .int x1_), (2, .int x2_), (3, .int v26), (4, .int v27)] rfl ?_
          exact ih _ (lp_inc hm7 ev27 rv27 (by decide)) v26 v27 rv26 (rg_w rv27 (by decide) (by decide)) rfl
        · have ch19 := cv_eq h19
          have r28 : Rg (10) (10) x2 := rf_eqx ch19 r18 rk_10 (by decide) (by decide)
          refine rn_iload_n (i := 2) dX10_fold_20 rfl rfl ?_
          refine rn_if_ne (tgt := 28) dX10_fold_21 (by decide) (fun h29 => ?_) (fun h29 => ?_)
          · have ch29 := cv_ne h29
            have r30 : Rg (1) (1) x2_ := rf_nel ch29 r2_ rk_0 (by decide) (by decide)
            refine rn_aload_n (i := 0) dX10_fold_28 rfl rfl ?_
            refine rn_iload_n (i := 1) dX10_fold_29 rfl rfl ?_
            refine rn_iload dX10_fold_30 rfl ?_
            refine rs_addR (10) (21980) r1_ r28 dX10_fold_32 (by decide) (fun v31 ev31 rv31 => ?_)
            obtain ⟨q32, fs32, hq32, hl32, hf32⟩ := ts_obj hW m0_ hk_30
            refine rn_callV (a := 0) (b := 0) [.int v31] kl_SGModel_140 dX10_fold_33 q32 hl32 rfl (t_X10_two G S ws hW o0_ m0_ v31 (rg_w rv31 (by decide) (by decide))) rfl rfl (Nat.le_of_ble_eq_true rfl) (Nat.le_of_ble_eq_true rfl) (Nat.le_of_ble_eq_true rfl) (Nat.le_of_ble_eq_true rfl) (Nat.le_of_ble_eq_true rfl) (Nat.le_of_ble_eq_true rfl) (fun _ _ h => False.elim h) (fun v9 w33 h34 => ?_)
            obtain ⟨rfl, v35, rfl, rv35, xah34⟩ := h34
            refine rn_stk [.int v35, .int x1] rfl ?_
            refine rn_iadd dX10_fold_36 (rn_nmA (fun v37 rv37 => ?_))
            refine rn_istore_n dX10_fold_37 rfl (by decide) [(0, .ref o0_), (1, .int x1_), (2, .int x2_), (3, .int v37), (4, .int x2)] rfl ?_
            refine rs_iinc (12) (12) dX10_fold_38 rfl (by decide) r28 rk_2 (by decide) (fun v38 => [(0, .ref o0_), (1, .int x1_), (2, .int x2_), (3, .int v37), (4, .int v38)]) (fun _ => rfl) (fun v38 ev38 rv38 => ?_)
            refine rn_goto (tgt := 5) dX10_fold_41 (by decide) ?_
            refine rn_lv [(0, .ref o0_), (1, .int x1_), (2, .int x2_), (3, .int v37), (4, .int v38)] rfl ?_
            exact ih _ (lp_inc hm7 ev38 rv38 (by decide)) v37 v38 rv37 (rg_w rv38 (by decide) (by decide)) rfl
          · have ch29 := cv_eq h29
            have r39 : Rg (0) (0) x2_ := rf_eqx ch29 r2_ rk_0 (by decide) (by decide)
            refine rn_iconst (v := (0 : Int32)) dX10_fold_24 (by decide) ?_
            refine rn_goto (tgt := 36) dX10_fold_25 (by decide) ?_
            refine rs_addC (-2147483648) (2147483647) r5 rk_0 dX10_fold_36 (by decide) (fun v40 ev40 rv40 => ?_)
            refine rn_istore_n dX10_fold_37 rfl (by decide) [(0, .ref o0_), (1, .int x1_), (2, .int x2_), (3, .int v40), (4, .int x2)] rfl ?_
            refine rs_iinc (12) (12) dX10_fold_38 rfl (by decide) r28 rk_2 (by decide) (fun v41 => [(0, .ref o0_), (1, .int x1_), (2, .int x2_), (3, .int v40), (4, .int v41)]) (fun _ => rfl) (fun v41 ev41 rv41 => ?_)
            refine rn_goto (tgt := 5) dX10_fold_41 (by decide) ?_
            refine rn_lv [(0, .ref o0_), (1, .int x1_), (2, .int x2_), (3, .int v40), (4, .int v41)] rfl ?_
            exact ih _ (lp_inc hm7 ev41 rv41 (by decide)) v40 v41 rv40 (rg_w rv41 (by decide) (by decide)) rfl
  exact LP3 _ (0 : Int32) (0 : Int32) (rg_w rk_0 (by decide) (by decide)) (rg_w rk_0 (by decide) (by decide)) rfl
abbrev q_t_X10_setSum (G : rn_G) (S : ts_S) (ws : va_W) (x1_ : Int32) : rn_R → va_W → Prop := rQ (fun v w => St G S [33] ws S w ∧ (v = none ∧ (bsame (x1_.toInt + 10) (x1_.toInt + 12) ws w))) (fun E w => False)
set_option maxRecDepth 20000 in
set_option maxHeartbeats 4000000 in
theorem t_X10_setSum (G : rn_G) (S : ts_S) (ws : va_W) (hW : ts_W G S ws) (o0_ : Nat) (m0_ : (o0_, 30) ∈ S) (x1_ : Int32) (r1_ : Rg (0) (21970) x1_) : Rn G mX10_setSum 2 45 0 0 0 (lv_args 0 [.ref o0_, .int x1_]) [] ws (q_t_X10_setSum G S ws x1_) := by
  have hS0 : St G S [33] ws S ws := St.rf hW
  obtain ⟨ob1, hob1⟩ := hS0.1.2.1.2
  have bs0 : bsame (x1_.toInt + 10) (x1_.toInt + 12) ws ws := bs_rf
  refine rn_lv [(0, .ref o0_), (1, .int x1_)] rfl ?_
  refine rn_aload_n (i := 0) dX10_setSum_0 rfl rfl ?_
  refine rn_iload_n (i := 1) dX10_setSum_1 rfl rfl ?_
  refine rn_bipush (v := (10 : Int32)) dX10_setSum_2 (by decide) ?_
  refine rs_addC (10) (21980) r1_ rk_10 dX10_setSum_4 (by decide) (fun v2 ev2 rv2 => ?_)
  refine rn_ldc (v := (65535 : Int32)) wd_1093 dX10_setSum_5 ?_
  refine rn_aload_n (i := 0) dX10_setSum_7 rfl rfl ?_
  refine rn_iload_n (i := 1) dX10_setSum_8 rfl rfl ?_
  refine rn_iconst (v := (0 : Int32)) dX10_setSum_9 (by decide) ?_
  obtain ⟨q3, fs3, hq3, hl3, hf3⟩ := ts_obj hS0.1 m0_ hk_30
  refine rn_callV (a := 0) (b := 0) [.int x1_, .int (0 : Int32)] kl_SGModel_151 dX10_setSum_10 q3 hl3 rfl (t_X10_fold G S ws hS0.1 o0_ m0_ x1_ r1_ (0 : Int32) (rg_w rk_0 (by decide) (by decide))) rfl rfl (Nat.le_of_ble_eq_true rfl) (Nat.le_of_ble_eq_true rfl) (Nat.le_of_ble_eq_true rfl) (Nat.le_of_ble_eq_true rfl) (Nat.le_of_ble_eq_true rfl) (Nat.le_of_ble_eq_true rfl) (fun _ _ h => False.elim h) (fun v9 w4 h5 => ?_)
  obtain ⟨rfl, v6, rfl, rv6⟩ := h5
  refine rn_stk [.int v6, .int (65535 : Int32), .int v2, .ref o0_] rfl ?_
  refine rn_isub dX10_setSum_13 (rn_nmA (fun v8 rv8 => ?_))
  refine rn_callV (a := 0) (b := 0) [.int v2, .int v8] kl_SGModel_144 dX10_setSum_14 q3 hl3 rfl (t_X10_putTwo G S ws hS0.1 o0_ m0_ v2 (rg_w rv2 (by decide) (by decide)) v8) rfl rfl (Nat.le_of_ble_eq_true rfl) (Nat.le_of_ble_eq_true rfl) (Nat.le_of_ble_eq_true rfl) (Nat.le_of_ble_eq_true rfl) (Nat.le_of_ble_eq_true rfl) (Nat.le_of_ble_eq_true rfl) (fun _ _ h => False.elim h) (fun v9 w9 h10 => ?_)
  obtain ⟨hT11, rfl, xah10⟩ := h10
  have hS11 := St.tr hS0 hT11 rfl
  have bs12 := bs_tr bs0 xah10.1 (by have := rv8.1; have := rv8.2; have := rv6.1; have := rv6.2; have := rk_65535.1; have := rk_65535.2; have := rv2.1; have := rv2.2; have := rk_10.1; have := rk_10.2; have := r1_.1; have := r1_.2; omega) (by have := rv8.1; have := rv8.2; have := rv6.1; have := rv6.2; have := rk_65535.1; have := rk_65535.2; have := rv2.1; have := rv2.2; have := rk_10.1; have := rk_10.2; have := r1_.1; have := r1_.2; omega)
  refine rn_stk [] rfl ?_
  exact rn_vret dX10_setSum_17 rfl (rq_in ⟨hS11, rfl, bs12⟩)
abbrev q_t_X10_hasDont (G : rn_G) (S : ts_S) (ws : va_W) : rn_R → va_W → Prop := rQ (fun v w => ws = w ∧ (∃ x : Int32, v = some (.int x) ∧ Rg (0) (1) x)) (fun E w => False)
set_option maxRecDepth 20000 in
set_option maxHeartbeats 4000000 in
theorem t_X10_hasDont (G : rn_G) (S : ts_S) (ws : va_W) (hW : ts_W G S ws) (o0_ : Nat) (m0_ : (o0_, 30) ∈ S) (x1_ : Int32) (r1_ : Rg (0) (21990) x1_) : Rn G mX10_hasDont 0 0 0 0 0 (lv_args 0 [.ref o0_, .int x1_]) [] ws (q_t_X10_hasDont G S ws ) := by
  refine rn_lv [(0, .ref o0_), (1, .int x1_)] rfl ?_
  refine rn_aload_n (i := 0) dX10_hasDont_0 rfl rfl ?_
  obtain ⟨q1, fs1, hq1, hl1, hf1⟩ := ts_obj hW m0_ hk_30
  obtain ⟨o2, hx2, m2⟩ := fs_r hf1 2 rfl
  refine rn_get q1 kg_SGModel_7 hl1 hx2 dX10_hasDont_1 ?_
  refine rn_iload_n (i := 1) dX10_hasDont_4 rfl rfl ?_
  refine rn_bipush (v := (6 : Int32)) dX10_hasDont_5 (by decide) ?_
  refine rs_addC (6) (21996) r1_ rk_6 dX10_hasDont_7 (by decide) (fun v3 ev3 rv3 => ?_)
  obtain ⟨q4, f4, hq4, hl4, hf4⟩ := ts_ia hW m2 hk_33
  refine rs_iald q4 hl4 hf4 rfl rv3 (by decide) (by decide) dX10_hasDont_8 (fun v5 ev5 rv5 => ?_)
  refine rn_bipush (v := (64 : Int32)) dX10_hasDont_9 (by decide) ?_
  refine rn_iand dX10_hasDont_11 (rn_tn 0 (64) (rg_andr rk_64 (by decide)) (fun v6 rv6 => ?_))
  refine rn_if_eq (tgt := 19) dX10_hasDont_12 (by decide) (fun h7 => ?_) (fun h7 => ?_)
  · have ch7 := cv_eq h7
    have r8 : Rg (0) (0) v6 := rf_eqx ch7 rv6 rk_0 (by decide) (by decide)
    refine rn_iconst (v := (0 : Int32)) dX10_hasDont_19 (by decide) ?_
    exact rn_iret dX10_hasDont_20 rfl rfl (rq_in ⟨rfl, (0 : Int32), rfl, (rg_w rk_0 (by decide) (by decide))⟩)
  · have ch7 := cv_ne h7
    have r9 : Rg (1) (64) v6 := rf_nel ch7 rv6 rk_0 (by decide) (by decide)
    refine rn_iconst (v := (1 : Int32)) dX10_hasDont_15 (by decide) ?_
    refine rn_goto (tgt := 20) dX10_hasDont_16 (by decide) ?_
    exact rn_iret dX10_hasDont_20 rfl rfl (rq_in ⟨rfl, (1 : Int32), rfl, (rg_w rk_1 (by decide) (by decide))⟩)
abbrev q_t_X10_hasMore (G : rn_G) (S : ts_S) (ws : va_W) : rn_R → va_W → Prop := rQ (fun v w => ws = w ∧ (∃ x : Int32, v = some (.int x) ∧ Rg (0) (1) x)) (fun E w => False)
set_option maxRecDepth 20000 in
set_option maxHeartbeats 4000000 in
theorem t_X10_hasMore (G : rn_G) (S : ts_S) (ws : va_W) (hW : ts_W G S ws) (o0_ : Nat) (m0_ : (o0_, 30) ∈ S) (x1_ : Int32) (r1_ : Rg (0) (21990) x1_) : Rn G mX10_hasMore 0 0 0 0 0 (lv_args 0 [.ref o0_, .int x1_]) [] ws (q_t_X10_hasMore G S ws ) := by
  refine rn_lv [(0, .ref o0_), (1, .int x1_)] rfl ?_
  refine rn_aload_n (i := 0) dX10_hasMore_0 rfl rfl ?_
  obtain ⟨q1, fs1, hq1, hl1, hf1⟩ := ts_obj hW m0_ hk_30
  obtain ⟨o2, hx2, m2⟩ := fs_r hf1 2 rfl
  refine rn_get q1 kg_SGModel_7 hl1 hx2 dX10_hasMore_1 ?_
  refine rn_iload_n (i := 1) dX10_hasMore_4 rfl rfl ?_
  refine rn_bipush (v := (6 : Int32)) dX10_hasMore_5 (by decide) ?_
  refine rs_addC (6) (21996) r1_ rk_6 dX10_hasMore_7 (by decide) (fun v3 ev3 rv3 => ?_)
  obtain ⟨q4, f4, hq4, hl4, hf4⟩ := ts_ia hW m2 hk_33
  refine rs_iald q4 hl4 hf4 rfl rv3 (by decide) (by decide) dX10_hasMore_8 (fun v5 ev5 rv5 => ?_)
  refine rn_bipush (v := (32 : Int32)) dX10_hasMore_9 (by decide) ?_
  refine rn_iand dX10_hasMore_11 (rn_tn 0 (32) (rg_andr rk_32 (by decide)) (fun v6 rv6 => ?_))
  refine rn_if_eq (tgt := 19) dX10_hasMore_12 (by decide) (fun h7 => ?_) (fun h7 => ?_)
  · have ch7 := cv_eq h7
    have r8 : Rg (0) (0) v6 := rf_eqx ch7 rv6 rk_0 (by decide) (by decide)
    refine rn_iconst (v := (0 : Int32)) dX10_hasMore_19 (by decide) ?_
    exact rn_iret dX10_hasMore_20 rfl rfl (rq_in ⟨rfl, (0 : Int32), rfl, (rg_w rk_0 (by decide) (by decide))⟩)
  · have ch7 := cv_ne h7
    have r9 : Rg (1) (32) v6 := rf_nel ch7 rv6 rk_0 (by decide) (by decide)
    refine rn_iconst (v := (1 : Int32)) dX10_hasMore_15 (by decide) ?_
    refine rn_goto (tgt := 20) dX10_hasMore_16 (by decide) ?_
    exact rn_iret dX10_hasMore_20 rfl rfl (rq_in ⟨rfl, (1 : Int32), rfl, (rg_w rk_1 (by decide) (by decide))⟩)
abbrev q_t_X10_setOffset (G : rn_G) (S : ts_S) (ws : va_W) (x1_ x2_ x3_ : Int32) : rn_R → va_W → Prop := rQ (fun v w => St G S [33] ws S w ∧ (v = none ∧ (bsame (x1_.toInt + 6) (x1_.toInt + 8) ws w))) (fun E w => False)
set_option maxRecDepth 20000 in
set_option maxHeartbeats 4000000 in
theorem t_X10_setOffset (G : rn_G) (S : ts_S) (ws : va_W) (hW : ts_W G S ws) (o0_ : Nat) (m0_ : (o0_, 30) ∈ S) (x1_ : Int32) (r1_ : Rg (0) (21990) x1_) (x2_ : Int32) (r2_ : Rg (0) (1) x2_) (x3_ : Int32) : Rn G mX10_setOffset 1 22 0 0 0 (lv_args 0 [.ref o0_, .int x1_, .int x2_, .int x3_]) [] ws (q_t_X10_setOffset G S ws x1_ x2_ x3_) := by
  have hS0 : St G S [33] ws S ws := St.rf hW
  obtain ⟨ob1, hob1⟩ := hS0.1.2.1.2
  have bs0 : bsame (x1_.toInt + 6) (x1_.toInt + 8) ws ws := bs_rf
  refine rn_lv [(0, .ref o0_), (1, .int x1_), (2, .int x2_), (3, .int x3_)] rfl ?_
  refine rn_aload_n (i := 0) dX10_setOffset_0 rfl rfl ?_
  obtain ⟨q2, fs2, hq2, hl2, hf2⟩ := ts_obj hS0.1 m0_ hk_30
  obtain ⟨o3, hx3, m3⟩ := fs_r hf2 2 rfl
  refine rn_get q2 kg_SGModel_7 hl2 hx3 dX10_setOffset_1 ?_
  refine rn_iload_n (i := 1) dX10_setOffset_4 rfl rfl ?_
  refine rn_bipush (v := (6 : Int32)) dX10_setOffset_5 (by decide) ?_
  refine rs_addC (6) (21996) r1_ rk_6 dX10_setOffset_7 (by decide) (fun v4 ev4 rv4 => ?_)
  obtain ⟨q5, f5, hq5, hl5, hf5⟩ := ts_ia hS0.1 m3 hk_33
  refine rs_iald q5 hl5 hf5 rfl rv4 (by decide) (by decide) dX10_setOffset_8 (fun v6 ev6 rv6 => ?_)
  refine rn_sipush (v := (192 : Int32)) dX10_setOffset_9 (by decide) ?_
  refine rn_iand dX10_setOffset_12 (rn_tn 0 (192) (rg_andr rk_192 (by decide)) (fun v7 rv7 => ?_))
  refine rn_iload_n (i := 2) dX10_setOffset_13 rfl rfl ?_
  refine rn_if_eq (tgt := 22) dX10_setOffset_14 (by decide) (fun h8 => ?_) (fun h8 => ?_)
  · have ch8 := cv_eq h8
    have r9 : Rg (0) (0) x2_ := rf_eqx ch8 r2_ rk_0 (by decide) (by decide)
    refine rn_iconst (v := (0 : Int32)) dX10_setOffset_22 (by decide) ?_
    refine rn_ior dX10_setOffset_23 (rn_tn 0 (255) (rg_or 8 256 rfl rv7 rk_0 (by decide)) (fun v10 rv10 => ?_))
    refine rn_istore dX10_setOffset_24 (by decide) [(0, .ref o0_), (1, .int x1_), (2, .int x2_), (3, .int x3_), (4, .int v10)] rfl ?_
    refine rn_aload_n (i := 0) dX10_setOffset_26 rfl rfl ?_
    refine rn_iload_n (i := 1) dX10_setOffset_27 rfl rfl ?_
    refine rn_bipush (v := (6 : Int32)) dX10_setOffset_28 (by decide) ?_
    refine rs_addC (6) (21996) r1_ rk_6 dX10_setOffset_30 (by decide) (fun v11 ev11 rv11 => ?_)
    refine rn_iload dX10_setOffset_31 rfl ?_
    refine rn_bipush (v := (8 : Int32)) dX10_setOffset_33 (by decide) ?_
    refine rn_ishl dX10_setOffset_35 (rn_nmA (fun v12 rv12 => ?_))
    refine rn_iload_n (i := 3) dX10_setOffset_36 rfl rfl ?_
    refine rn_sipush (v := (8191 : Int32)) dX10_setOffset_37 (by decide) ?_
    refine rn_iand dX10_setOffset_40 (rn_tn 0 (8191) (rg_andr rk_8191 (by decide)) (fun v13 rv13 => ?_))
    refine rn_ior dX10_setOffset_41 (rn_nmA (fun v14 rv14 => ?_))
    refine rn_callV (a := 0) (b := 0) [.int v11, .int v14] kl_SGModel_144 dX10_setOffset_42 q2 hl2 rfl (t_X10_putTwo G S ws hS0.1 o0_ m0_ v11 (rg_w rv11 (by decide) (by decide)) v14) rfl rfl (Nat.le_of_ble_eq_true rfl) (Nat.le_of_ble_eq_true rfl) (Nat.le_of_ble_eq_true rfl) (Nat.le_of_ble_eq_true rfl) (Nat.le_of_ble_eq_true rfl) (Nat.le_of_ble_eq_true rfl) (fun _ _ h => False.elim h) (fun v9 w15 h16 => ?_)
    obtain ⟨hT17, rfl, xah16⟩ := h16
    have hS17 := St.tr hS0 hT17 rfl
    have bs18 := bs_tr bs0 xah16.1 (by have := rv14.1; have := rv14.2; have := rv13.1; have := rv13.2; have := rk_8191.1; have := rk_8191.2; have := rv12.1; have := rv12.2; have := rv11.1; have := rv11.2; have := rk_6.1; have := rk_6.2; have := r1_.1; have := r1_.2; omega) (by have := rv14.1; have := rv14.2; have := rv13.1; have := rv13.2; have := rk_8191.1; have := rk_8191.2; have := rv12.1; have := rv12.2; have := rv11.1; have := rv11.2; have := rk_6.1; have := rk_6.2; have := r1_.1; have := r1_.2; omega)
    refine rn_stk [] rfl ?_
    exact rn_vret dX10_setOffset_45 rfl (rq_in ⟨hS17, rfl, bs18⟩)
  · have ch8 := cv_ne h8
    have r19 : Rg (1) (1) x2_ := rf_nel ch8 r2_ rk_0 (by decide) (by decide)
    refine rn_bipush (v := (32 : Int32)) dX10_setOffset_17 (by decide) ?_
    refine rn_goto (tgt := 23) dX10_setOffset_19 (by decide) ?_
    refine rn_ior dX10_setOffset_23 (rn_tn 0 (255) (rg_or 8 256 rfl rv7 rk_32 (by decide)) (fun v20 rv20 => ?_))
    refine rn_istore dX10_setOffset_24 (by decide) [(0, .ref o0_), (1, .int x1_), (2, .int x2_), (3, .int x3_), (4, .int v20)] rfl ?_
    refine rn_aload_n (i := 0) dX10_setOffset_26 rfl rfl ?_
    refine rn_iload_n (i := 1) dX10_setOffset_27 rfl rfl ?_
    refine rn_bipush (v := (6 : Int32)) dX10_setOffset_28 (by decide) ?_
    refine rs_addC (6) (21996) r1_ rk_6 dX10_setOffset_30 (by decide) (fun v21 ev21 rv21 => ?_)
    refine rn_iload dX10_setOffset_31 rfl ?_
    refine rn_bipush (v := (8 : Int32)) dX10_setOffset_33 (by decide) ?_
    refine rn_ishl dX10_setOffset_35 (rn_nmA (fun v22 rv22 => ?_))
    refine rn_iload_n (i := 3) dX10_setOffset_36 rfl rfl ?_
    refine rn_sipush (v := (8191 : Int32)) dX10_setOffset_37 (by decide) ?_
    refine rn_iand dX10_setOffset_40 (rn_tn 0 (8191) (rg_andr rk_8191 (by decide)) (fun v23 rv23 => ?_))
    refine rn_ior dX10_setOffset_41 (rn_nmA (fun v24 rv24 => ?_))
    refine rn_callV (a := 0) (b := 0) [.int v21, .int v24] kl_SGModel_144 dX10_setOffset_42 q2 hl2 rfl (t_X10_putTwo G S ws hS0.1 o0_ m0_ v21 (rg_w rv21 (by decide) (by decide)) v24) rfl rfl (Nat.le_of_ble_eq_true rfl) (Nat.le_of_ble_eq_true rfl) (Nat.le_of_ble_eq_true rfl) (Nat.le_of_ble_eq_true rfl) (Nat.le_of_ble_eq_true rfl) (Nat.le_of_ble_eq_true rfl) (fun _ _ h => False.elim h) (fun v9 w25 h26 => ?_)
    obtain ⟨hT27, rfl, xah26⟩ := h26
    have hS27 := St.tr hS0 hT27 rfl
    have bs28 := bs_tr bs0 xah26.1 (by have := rv24.1; have := rv24.2; have := rv23.1; have := rv23.2; have := rk_8191.1; have := rk_8191.2; have := rv22.1; have := rv22.2; have := rv21.1; have := rv21.2; have := rk_6.1; have := rk_6.2; have := r1_.1; have := r1_.2; omega) (by have := rv24.1; have := rv24.2; have := rv23.1; have := rv23.2; have := rk_8191.1; have := rk_8191.2; have := rv22.1; have := rv22.2; have := rv21.1; have := rv21.2; have := rk_6.1; have := rk_6.2; have := r1_.1; have := r1_.2; omega)
    refine rn_stk [] rfl ?_
    exact rn_vret dX10_setOffset_45 rfl (rq_in ⟨hS27, rfl, bs28⟩)
abbrev q_t_X10_isPart (G : rn_G) (S : ts_S) (ws : va_W) : rn_R → va_W → Prop := rQ (fun v w => ws = w ∧ (∃ x : Int32, v = some (.int x) ∧ Rg (0) (1) x)) (fun E w => False)
set_option maxRecDepth 20000 in
set_option maxHeartbeats 4000000 in
theorem t_X10_isPart (G : rn_G) (S : ts_S) (ws : va_W) (hW : ts_W G S ws) (o0_ : Nat) (m0_ : (o0_, 30) ∈ S) (x1_ : Int32) (r1_ : Rg (0) (21990) x1_) : Rn G mX10_isPart 2 42 0 0 0 (lv_args 0 [.ref o0_, .int x1_]) [] ws (q_t_X10_isPart G S ws ) := by
  refine rn_lv [(0, .ref o0_), (1, .int x1_)] rfl ?_
  refine rn_aload_n (i := 0) dX10_isPart_0 rfl rfl ?_
  refine rn_iload_n (i := 1) dX10_isPart_1 rfl rfl ?_
  obtain ⟨q1, fs1, hq1, hl1, hf1⟩ := ts_obj hW m0_ hk_30
  refine rn_callV (a := 0) (b := 0) [.int x1_] kl_SGModel_155 dX10_isPart_2 q1 hl1 rfl (t_X10_hasMore G S ws hW o0_ m0_ x1_ r1_) rfl rfl (Nat.le_of_ble_eq_true rfl) (Nat.le_of_ble_eq_true rfl) (Nat.le_of_ble_eq_true rfl) (Nat.le_of_ble_eq_true rfl) (Nat.le_of_ble_eq_true rfl) (Nat.le_of_ble_eq_true rfl) (fun _ _ h => False.elim h) (fun v9 w2 h3 => ?_)
  obtain ⟨rfl, v4, rfl, rv4⟩ := h3
  refine rn_stk [.int v4] rfl ?_
  refine rn_if_ne (tgt := 16) dX10_isPart_5 (by decide) (fun h6 => ?_) (fun h6 => ?_)
  · have ch6 := cv_ne h6
    have r7 : Rg (1) (1) v4 := rf_nel ch6 rv4 rk_0 (by decide) (by decide)
    refine rn_iconst (v := (1 : Int32)) dX10_isPart_16 (by decide) ?_
    refine rn_goto (tgt := 21) dX10_isPart_17 (by decide) ?_
    exact rn_iret dX10_isPart_21 rfl rfl (rq_in ⟨rfl, (1 : Int32), rfl, (rg_w rk_1 (by decide) (by decide))⟩)
  · have ch6 := cv_eq h6
    have r8 : Rg (0) (0) v4 := rf_eqx ch6 rv4 rk_0 (by decide) (by decide)
    refine rn_aload_n (i := 0) dX10_isPart_8 rfl rfl ?_
    refine rn_iload_n (i := 1) dX10_isPart_9 rfl rfl ?_
    refine rn_inV (d' := 1) (z' := 21) [.int x1_] kl_SGModel_159 dX10_isPart_10 q1 hl1 rfl rfl rfl (Nat.le_of_ble_eq_true rfl) (Nat.le_of_ble_eq_true rfl) (Nat.le_of_ble_eq_true rfl) (Nat.le_of_ble_eq_true rfl) ?_
    refine rn_lv [(0, .ref o0_), (1, .int x1_)] rfl ?_
    refine rn_aload_n (i := 0) dX10_offsetOf_0 rfl rfl ?_
    refine rn_iload_n (i := 1) dX10_offsetOf_1 rfl rfl ?_
    refine rn_bipush (v := (6 : Int32)) dX10_offsetOf_2 (by decide) ?_
    refine rs_addC (6) (21996) r1_ rk_6 dX10_offsetOf_4 (by decide) (fun v9 ev9 rv9 => ?_)
    refine rn_callV (a := 0) (b := 0) [.int v9] kl_SGModel_140 dX10_offsetOf_5 q1 hl1 rfl (t_X10_two G S ws hW o0_ m0_ v9 (rg_w rv9 (by decide) (by decide))) rfl rfl (Nat.le_of_ble_eq_true rfl) (Nat.le_of_ble_eq_true rfl) (Nat.le_of_ble_eq_true rfl) (Nat.le_of_ble_eq_true rfl) (Nat.le_of_ble_eq_true rfl) (Nat.le_of_ble_eq_true rfl) (fun _ _ h => False.elim h) (fun v9 w10 h11 => ?_)
    obtain ⟨rfl, v12, rfl, rv12, xah11⟩ := h11
    refine rn_stk [.int v12] rfl ?_
    refine rn_sipush (v := (8191 : Int32)) dX10_offsetOf_8 (by decide) ?_
    refine rn_iand dX10_offsetOf_11 (rn_nmE (rg_mask (hi := 8191) 13 8192 rfl rv12 rk_8191 (by decide)) (fun v14 ev14 rv14 => ?_))
    refine rn_iret dX10_offsetOf_12 rfl rfl (rq_in ?_)
    refine rn_stk [.int v14] rfl ?_
    refine rn_if_eq (tgt := 20) dX10_isPart_13 (by decide) (fun h15 => ?_) (fun h15 => ?_)
    · have ch15 := cv_eq h15
      have r16 : Rg (0) (0) v14 := rf_eqx ch15 rv14 rk_0 (by decide) (by decide)
      refine rn_iconst (v := (0 : Int32)) dX10_isPart_20 (by decide) ?_
      exact rn_iret dX10_isPart_21 rfl rfl (rq_in ⟨rfl, (0 : Int32), rfl, (rg_w rk_0 (by decide) (by decide))⟩)
    · have ch15 := cv_ne h15
      have r17 : Rg (1) (8191) v14 := rf_nel ch15 rv14 rk_0 (by decide) (by decide)
      refine rn_iconst (v := (1 : Int32)) dX10_isPart_16 (by decide) ?_
      refine rn_goto (tgt := 21) dX10_isPart_17 (by decide) ?_
      exact rn_iret dX10_isPart_21 rfl rfl (rq_in ⟨rfl, (1 : Int32), rfl, (rg_w rk_1 (by decide) (by decide))⟩)
