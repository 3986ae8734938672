set_option maxRecDepth 20000 in
set_option maxHeartbeats 4000000 in
theorem law_17 (G : rn_G) (ws : va_W) (hL : G.2.2.2.2.1.2.1 = 11) (o_sg : Nat) (fs_sg : List Value) (o_sentF : Nat) (o_sentS : Nat) (fs_sentF : List Value) (fs_sentS : List Value) (o_m : Nat) (fs_m : List Value) (a_sentSize : Nat) (o_out : Nat) (h_sg : ws[0]? = some (o_sg, Sum.inr (9, fs_sg))) (hf_sg_4 : fs_sg[4]? = some (.ref o_sentF)) (hf_sg_5 : fs_sg[5]? = some (.ref o_sentS)) (h_sentF : ws[7]? = some (o_sentF, Sum.inr (4, fs_sentF))) (hf_sentF_1 : fs_sentF[1]? = some (.int (0 : Int32))) (h_sentS : ws[9]? = some (o_sentS, Sum.inr (4, fs_sentS))) (hf_sentS_1 : fs_sentS[1]? = some (.int (0 : Int32))) (h_m : ws[23]? = some (o_m, Sum.inr (10, fs_m))) (hf_m_0 : fs_m[0]? = some (.int (0 : Int32))) (hf_m_34 : fs_m[34]? = some (.ref a_sentSize)) (h_m_sentSize : ws[48]? = some (a_sentSize, Sum.inl (rn_k G 1, 2, Sum.inl (fun _ => 0)))) (h_out : ws[62]? = some (o_out, Sum.inl (rn_k G 2, 1, Sum.inr (Sum.inl (fun _ => 0))))) : Rn G mL_law 9 156 2 12 1483 [(0, .ref G.2.2.2.2.1.1), (1, .ref o_sg), (2, .ref o_m), (3, .ref o_out), (4, .int (1 : Int32))] [] ws (fun r _ => r = Sum.inl (some (.int 1))) := by
  obtain ⟨sc2, se2⟩ : ∃ x : Int32, G.2.2.2.2.1.2.2 (2 : Int32).toNatClampNeg = x := ⟨_, rfl⟩
  refine rn_aload_n (i := 1) dL_law_1483 rfl rfl ?_
  refine rn_aload_n (i := 0) dL_law_1484 rfl rfl ?_
  refine rn_iload dL_law_1485 rfl ?_
  refine rn_iconst (v := (1 : Int32)) dL_law_1487 (by decide) ?_
  refine rn_iadd dL_law_1488 ?_
  refine rn_topi (2 : Int32) (by decide) ?_
  refine rn_sld (by rw [hL]; unfold vp_in; decide) dL_law_1489 ?_
  refine rn_topi sc2 se2 ?_
  refine rn_aload_n (i := 3) dL_law_1490 rfl rfl ?_
  refine rn_callSX (a := 0) (b := 0) [.ref o_sg, .int sc2, .ref o_out] kl_SGLaw_171 dL_law_1491 (c_L_take G _ (o_sg := o_sg) (x := sc2) (o_out := o_out) (fs_sg := fs_sg) (o_sentF := o_sentF) (o_sentS := o_sentS) (fs_sentF := fs_sentF) (fs_sentS := fs_sentS) h_sg hf_sg_4 hf_sg_5 h_sentF hf_sentF_1 h_sentS hf_sentS_1) rfl rfl (Nat.le_of_ble_eq_true rfl) (Nat.le_of_ble_eq_true rfl) (Nat.le_of_ble_eq_true rfl) (Nat.le_of_ble_eq_true rfl) (Nat.le_of_ble_eq_true rfl) (Nat.le_of_ble_eq_true rfl) (by rintro E w h; rcases h with ⟨_, hr, _⟩ | ⟨_, hr, _⟩ <;> cases hr) ?_
  rintro v w h
  rcases h with ⟨hc, hr, hw⟩ | ⟨hc, hr, hw⟩
  · have hc1 := hc; clear hc; cases hr; rw [hw]
    refine rn_stk [.int (1 : Int32)] rfl ?_
    refine rn_istore dL_law_1494 (by decide) [(0, .ref G.2.2.2.2.1.1), (1, .ref o_sg), (2, .ref o_m), (3, .ref o_out), (4, .int (1 : Int32)), (5, .int (1 : Int32))] rfl ?_
    refine rn_aload_n (i := 2) dL_law_1496 rfl rfl ?_
    refine rn_aload_n (i := 0) dL_law_1497 rfl rfl ?_
    refine rn_iload dL_law_1498 rfl ?_
    refine rn_iconst (v := (1 : Int32)) dL_law_1500 (by decide) ?_
    refine rn_iadd dL_law_1501 ?_
    refine rn_topi (2 : Int32) (by decide) ?_
    refine rn_sld (by rw [hL]; unfold vp_in; decide) dL_law_1502 ?_
    refine rn_topi sc2 se2 ?_
    refine rn_callV (a := 0) (b := 0) [.int sc2] kl_SGLaw_173 dL_law_1503 23 h_m rfl (c_X10_take G _ (o_m := o_m) (k := sc2) (fs_m := fs_m) (a_sentSize := a_sentSize) h_m hf_m_0 hf_m_34 h_m_sentSize) rfl rfl (Nat.le_of_ble_eq_true rfl) (Nat.le_of_ble_eq_true rfl) (Nat.le_of_ble_eq_true rfl) (Nat.le_of_ble_eq_true rfl) (Nat.le_of_ble_eq_true rfl) (Nat.le_of_ble_eq_true rfl) (by rintro E w h; rcases h with ⟨_, hr, _⟩ | ⟨_, hr, _⟩ <;> cases hr) ?_
    rintro v w h
    rcases h with ⟨hc, hr, hw⟩ | ⟨hc, hr, hw⟩
    · have hc2 := hc; clear hc; cases hr
      have hw3 : w[23]? = some (o_m, Sum.inr (10, ((fs_m.set 0 (.int (0 : Int32))).set 0 (.int (1 : Int32))))) := by rw [hw, List.getElem?_set_self (by (try simp only [List.length_set, List.length_append, List.length_cons, List.length_nil]); have hq := ls_lt h_m; omega)]
      have hw4 : w[62]? = some (o_out, Sum.inl (rn_k G 2, 1, Sum.inr (Sum.inl (fun _ => 0)))) := by rw [hw, List.getElem?_set_ne (by decide), List.getElem?_set_ne (by decide), h_out]
      refine rn_stk [.int (0 : Int32)] rfl ?_
      refine rn_istore dL_law_1506 (by decide) [(0, .ref G.2.2.2.2.1.1), (1, .ref o_sg), (2, .ref o_m), (3, .ref o_out), (4, .int (1 : Int32)), (5, .int (1 : Int32)), (6, .int (0 : Int32))] rfl ?_
      refine rn_aload_n (i := 2) dL_law_1508 rfl rfl ?_
      refine rn_callV (a := 0) (b := 0) [] kl_SGLaw_110 dL_law_1509 23 hw3 rfl (c_X10_thrown G _ (o_m := o_m) (fs_m := ((fs_m.set 0 (.int (0 : Int32))).set 0 (.int (1 : Int32)))) (th := (1 : Int32)) hw3 (ls_eq (ls_eq hf_m_0))) rfl rfl (Nat.le_of_ble_eq_true rfl) (Nat.le_of_ble_eq_true rfl) (Nat.le_of_ble_eq_true rfl) (Nat.le_of_ble_eq_true rfl) (Nat.le_of_ble_eq_true rfl) (Nat.le_of_ble_eq_true rfl) (by rintro E w h; rcases h with ⟨_, hr, _⟩ <;> cases hr) ?_
      rintro v w h
      obtain ⟨hc5, hr, hw⟩ := h; cases hr; rw [hw]
      refine rn_stk [.int (1 : Int32)] rfl ?_
      refine rn_iload dL_law_1512 rfl ?_
      refine rn_icmp_eq (tgt := 1519) dL_law_1514 (by decide) (fun h6 => ?_) (fun h6 => absurd h6 (by decide))
      refine rn_iload dL_law_1519 rfl ?_
      refine rn_if_ne (tgt := 1536) dL_law_1521 (by decide) (fun h7 => ?_) (fun h7 => absurd h7 (by decide))
      refine rn_goto (tgt := 1865) dL_law_1536 (by decide) ?_
      refine rn_lv [(0, .ref G.2.2.2.2.1.1), (1, .ref o_sg), (2, .ref o_m), (3, .ref o_out), (4, .int (1 : Int32))] rfl ?_
      exact law_end G _ hL _ _ _
    · have hc8 := hc; clear hc; cases hr
      exfalso; have g0 := i32_rng sc2; simp only [Int32.lt_iff_toInt_lt, Int32.le_iff_toInt_le, gt_iff_lt, ge_iff_le, ← Int32.toInt_inj, i32_0, i32_1, i32_2] at *; omega
  · have hc9 := hc; clear hc; cases hr; rw [hw]
    refine rn_stk [.int (2 : Int32)] rfl ?_
    refine rn_istore dL_law_1494 (by decide) [(0, .ref G.2.2.2.2.1.1), (1, .ref o_sg), (2, .ref o_m), (3, .ref o_out), (4, .int (1 : Int32)), (5, .int (2 : Int32))] rfl ?_
    refine rn_aload_n (i := 2) dL_law_1496 rfl rfl ?_
    refine rn_aload_n (i := 0) dL_law_1497 rfl rfl ?_
    refine rn_iload dL_law_1498 rfl ?_
    refine rn_iconst (v := (1 : Int32)) dL_law_1500 (by decide) ?_
    refine rn_iadd dL_law_1501 ?_
    refine rn_topi (2 : Int32) (by decide) ?_
    refine rn_sld (by rw [hL]; unfold vp_in; decide) dL_law_1502 ?_
    refine rn_topi sc2 se2 ?_
    refine rn_callV (a := 0) (b := 0) [.int sc2] kl_SGLaw_173 dL_law_1503 23 h_m rfl (c_X10_take G _ (o_m := o_m) (k := sc2) (fs_m := fs_m) (a_sentSize := a_sentSize) h_m hf_m_0 hf_m_34 h_m_sentSize) rfl rfl (Nat.le_of_ble_eq_true rfl) (Nat.le_of_ble_eq_true rfl) (Nat.le_of_ble_eq_true rfl) (Nat.le_of_ble_eq_true rfl) (Nat.le_of_ble_eq_true rfl) (Nat.le_of_ble_eq_true rfl) (by rintro E w h; rcases h with ⟨_, hr, _⟩ | ⟨_, hr, _⟩ <;> cases hr) ?_
    rintro v w h
    rcases h with ⟨hc, hr, hw⟩ | ⟨hc, hr, hw⟩
    · have hc10 := hc; clear hc; cases hr
      exfalso; have g0 := i32_rng sc2; simp only [Int32.lt_iff_toInt_lt, Int32.le_iff_toInt_le, gt_iff_lt, ge_iff_le, ← Int32.toInt_inj, i32_0, i32_1] at *; omega
    · have hc11 := hc; clear hc; cases hr
      have hw12 : w[23]? = some (o_m, Sum.inr (10, ((fs_m.set 0 (.int (0 : Int32))).set 0 (.int (2 : Int32))))) := by rw [hw, List.getElem?_set_self (by (try simp only [List.length_set, List.length_append, List.length_cons, List.length_nil]); have hq := ls_lt h_m; omega)]
      have hw13 : w[62]? = some (o_out, Sum.inl (rn_k G 2, 1, Sum.inr (Sum.inl (fun _ => 0)))) := by rw [hw, List.getElem?_set_ne (by decide), List.getElem?_set_ne (by decide), h_out]
      refine rn_stk [.int (0 : Int32)] rfl ?_
      refine rn_istore dL_law_1506 (by decide) [(0, .ref G.2.2.2.2.1.1), (1, .ref o_sg), (2, .ref o_m), (3, .ref o_out), (4, .int (1 : Int32)), (5, .int (2 : Int32)), (6, .int (0 : Int32))] rfl ?_
      refine rn_aload_n (i := 2) dL_law_1508 rfl rfl ?_
      refine rn_callV (a := 0) (b := 0) [] kl_SGLaw_110 dL_law_1509 23 hw12 rfl (c_X10_thrown G _ (o_m := o_m) (fs_m := ((fs_m.set 0 (.int (0 : Int32))).set 0 (.int (2 : Int32)))) (th := (2 : Int32)) hw12 (ls_eq (ls_eq hf_m_0))) rfl rfl (Nat.le_of_ble_eq_true rfl) (Nat.le_of_ble_eq_true rfl) (Nat.le_of_ble_eq_true rfl) (Nat.le_of_ble_eq_true rfl) (Nat.le_of_ble_eq_true rfl) (Nat.le_of_ble_eq_true rfl) (by rintro E w h; rcases h with ⟨_, hr, _⟩ <;> cases hr) ?_
      rintro v w h
      obtain ⟨hc14, hr, hw⟩ := h; cases hr; rw [hw]
      refine rn_stk [.int (2 : Int32)] rfl ?_
      refine rn_iload dL_law_1512 rfl ?_
      refine rn_icmp_eq (tgt := 1519) dL_law_1514 (by decide) (fun h15 => ?_) (fun h15 => absurd h15 (by decide))
      refine rn_iload dL_law_1519 rfl ?_
      refine rn_if_ne (tgt := 1536) dL_law_1521 (by decide) (fun h16 => ?_) (fun h16 => absurd h16 (by decide))
      refine rn_goto (tgt := 1865) dL_law_1536 (by decide) ?_
      refine rn_lv [(0, .ref G.2.2.2.2.1.1), (1, .ref o_sg), (2, .ref o_m), (3, .ref o_out), (4, .int (1 : Int32))] rfl ?_
      exact law_end G _ hL _ _ _
set_option maxRecDepth 20000 in
set_option maxHeartbeats 4000000 in
theorem law_18 (G : rn_G) (ws : va_W) (hL : G.2.2.2.2.1.2.1 = 11) (o_sg : Nat) (fs_sg : List Value) (o_m : Nat) (fs_m : List Value) (o_out : Nat) (h_sg : ws[0]? = some (o_sg, Sum.inr (9, fs_sg))) (hf_sg_11 : fs_sg[11]? = some (.int (0 : Int32))) (h_m : ws[23]? = some (o_m, Sum.inr (10, fs_m))) (hf_m_0 : fs_m[0]? = some (.int (0 : Int32))) (hf_m_22 : fs_m[22]? = some (.int (0 : Int32))) (h_out : ws[62]? = some (o_out, Sum.inl (rn_k G 2, 1, Sum.inr (Sum.inl (fun _ => 0))))) : Rn G mL_law 9 159 1 6 1539 [(0, .ref G.2.2.2.2.1.1), (1, .ref o_sg), (2, .ref o_m), (3, .ref o_out), (4, .int (1 : Int32))] [] ws (fun r _ => r = Sum.inl (some (.int 1))) := by
  obtain ⟨sc2, se2⟩ : ∃ x : Int32, G.2.2.2.2.1.2.2 (2 : Int32).toNatClampNeg = x := ⟨_, rfl⟩
  obtain ⟨sc3, se3⟩ : ∃ x : Int32, G.2.2.2.2.1.2.2 (3 : Int32).toNatClampNeg = x := ⟨_, rfl⟩
  refine rn_aload_n (i := 1) dL_law_1539 rfl rfl ?_
  refine rn_aload_n (i := 0) dL_law_1540 rfl rfl ?_
  refine rn_iload dL_law_1541 rfl ?_
  refine rn_iconst (v := (1 : Int32)) dL_law_1543 (by decide) ?_
  refine rn_iadd dL_law_1544 ?_
  refine rn_topi (2 : Int32) (by decide) ?_
  refine rn_sld (by rw [hL]; unfold vp_in; decide) dL_law_1545 ?_
  refine rn_topi sc2 se2 ?_
  refine rn_aload_n (i := 0) dL_law_1546 rfl rfl ?_
  refine rn_iload dL_law_1547 rfl ?_
  refine rn_iconst (v := (2 : Int32)) dL_law_1549 (by decide) ?_
  refine rn_iadd dL_law_1550 ?_
  refine rn_topi (3 : Int32) (by decide) ?_
  refine rn_sld (by rw [hL]; unfold vp_in; decide) dL_law_1551 ?_
  refine rn_topi sc3 se3 ?_
  refine rn_aload_n (i := 3) dL_law_1552 rfl rfl ?_
  refine rn_callSX (a := 0) (b := 0) [.ref o_sg, .int sc2, .int sc3, .ref o_out] kl_SGLaw_174 dL_law_1553 (c_L_told G _ (o_sg := o_sg) (x := sc2) (y := sc3) (o_out := o_out) (fs_sg := fs_sg) h_sg hf_sg_11) rfl rfl (Nat.le_of_ble_eq_true rfl) (Nat.le_of_ble_eq_true rfl) (Nat.le_of_ble_eq_true rfl) (Nat.le_of_ble_eq_true rfl) (Nat.le_of_ble_eq_true rfl) (Nat.le_of_ble_eq_true rfl) (by rintro E w h; rcases h with ⟨_, hr, _⟩ <;> cases hr) ?_
  rintro v w h
  obtain ⟨hc1, hr, hw⟩ := h; cases hr; rw [hw]
  refine rn_stk [.int (1 : Int32)] rfl ?_
  refine rn_istore dL_law_1556 (by decide) [(0, .ref G.2.2.2.2.1.1), (1, .ref o_sg), (2, .ref o_m), (3, .ref o_out), (4, .int (1 : Int32)), (5, .int (1 : Int32))] rfl ?_
  refine rn_aload_n (i := 2) dL_law_1558 rfl rfl ?_
  refine rn_aload_n (i := 0) dL_law_1559 rfl rfl ?_
  refine rn_iload dL_law_1560 rfl ?_
  refine rn_iconst (v := (1 : Int32)) dL_law_1562 (by decide) ?_
  refine rn_iadd dL_law_1563 ?_
  refine rn_topi (2 : Int32) (by decide) ?_
  refine rn_sld (by rw [hL]; unfold vp_in; decide) dL_law_1564 ?_
  refine rn_topi sc2 se2 ?_
  refine rn_aload_n (i := 0) dL_law_1565 rfl rfl ?_
  refine rn_iload dL_law_1566 rfl ?_
  refine rn_iconst (v := (2 : Int32)) dL_law_1568 (by decide) ?_
  refine rn_iadd dL_law_1569 ?_
  refine rn_topi (3 : Int32) (by decide) ?_
  refine rn_sld (by rw [hL]; unfold vp_in; decide) dL_law_1570 ?_
  refine rn_topi sc3 se3 ?_
  refine rn_callV (a := 0) (b := 0) [.int sc2, .int sc3] kl_SGLaw_176 dL_law_1571 23 h_m rfl (c_X10_told G _ (o_m := o_m) (k := sc2) (x := sc3) (fs_m := fs_m) h_m hf_m_0 hf_m_22) rfl rfl (Nat.le_of_ble_eq_true rfl) (Nat.le_of_ble_eq_true rfl) (Nat.le_of_ble_eq_true rfl) (Nat.le_of_ble_eq_true rfl) (Nat.le_of_ble_eq_true rfl) (Nat.le_of_ble_eq_true rfl) (by rintro E w h; rcases h with ⟨_, hr, _⟩ <;> cases hr) ?_
  rintro v w h
  obtain ⟨hc2, hr, hw⟩ := h; cases hr
  have hw3 : w[23]? = some (o_m, Sum.inr (10, ((fs_m.set 0 (.int (0 : Int32))).set 0 (.int (1 : Int32))))) := by rw [hw, List.getElem?_set_self (by (try simp only [List.length_set, List.length_append, List.length_cons, List.length_nil]); have hq := ls_lt h_m; omega)]
  have hw4 : w[62]? = some (o_out, Sum.inl (rn_k G 2, 1, Sum.inr (Sum.inl (fun _ => 0)))) := by rw [hw, List.getElem?_set_ne (by decide), List.getElem?_set_ne (by decide), h_out]
  refine rn_stk [.int (0 : Int32)] rfl ?_
  refine rn_istore dL_law_1574 (by decide) [(0, .ref G.2.2.2.2.1.1), (1, .ref o_sg), (2, .ref o_m), (3, .ref o_out), (4, .int (1 : Int32)), (5, .int (1 : Int32)), (6, .int (0 : Int32))] rfl ?_
  refine rn_aload_n (i := 2) dL_law_1576 rfl rfl ?_
  refine rn_callV (a := 0) (b := 0) [] kl_SGLaw_110 dL_law_1577 23 hw3 rfl (c_X10_thrown G _ (o_m := o_m) (fs_m := ((fs_m.set 0 (.int (0 : Int32))).set 0 (.int (1 : Int32)))) (th := (1 : Int32)) hw3 (ls_eq (ls_eq hf_m_0))) rfl rfl (Nat.le_of_ble_eq_true rfl) (Nat.le_of_ble_eq_true rfl) (Nat.le_of_ble_eq_true rfl) (Nat.le_of_ble_eq_true rfl) (Nat.le_of_ble_eq_true rfl) (Nat.le_of_ble_eq_true rfl) (by rintro E w h; rcases h with ⟨_, hr, _⟩ <;> cases hr) ?_
  rintro v w h
  obtain ⟨hc5, hr, hw⟩ := h; cases hr; rw [hw]
  refine rn_stk [.int (1 : Int32)] rfl ?_
  refine rn_iload dL_law_1580 rfl ?_
  refine rn_icmp_eq (tgt := 1587) dL_law_1582 (by decide) (fun h6 => ?_) (fun h6 => absurd h6 (by decide))
  refine rn_iload dL_law_1587 rfl ?_
  refine rn_if_ne (tgt := 1604) dL_law_1589 (by decide) (fun h7 => ?_) (fun h7 => absurd h7 (by decide))
  refine rn_goto (tgt := 1865) dL_law_1604 (by decide) ?_
  refine rn_lv [(0, .ref G.2.2.2.2.1.1), (1, .ref o_sg), (2, .ref o_m), (3, .ref o_out), (4, .int (1 : Int32))] rfl ?_
  exact law_end G _ hL _ _ _
set_option maxRecDepth 20000 in
set_option maxHeartbeats 4000000 in
theorem law_19 (G : rn_G) (ws : va_W) (hL : G.2.2.2.2.1.2.1 = 11) (o_sg : Nat) (fs_sg : List Value) (o_m : Nat) (fs_m : List Value) (o_out : Nat) (h_sg : ws[0]? = some (o_sg, Sum.inr (9, fs_sg))) (hf_sg_11 : fs_sg[11]? = some (.int (0 : Int32))) (h_m : ws[23]? = some (o_m, Sum.inr (10, fs_m))) (hf_m_0 : fs_m[0]? = some (.int (0 : Int32))) (hf_m_22 : fs_m[22]? = some (.int (0 : Int32))) (h_out : ws[62]? = some (o_out, Sum.inl (rn_k G 2, 1, Sum.inr (Sum.inl (fun _ => 0))))) : Rn G mL_law 9 156 1 6 1607 [(0, .ref G.2.2.2.2.1.1), (1, .ref o_sg), (2, .ref o_m), (3, .ref o_out), (4, .int (1 : Int32))] [] ws (fun r _ => r = Sum.inl (some (.int 1))) := by
  obtain ⟨sc2, se2⟩ : ∃ x : Int32, G.2.2.2.2.1.2.2 (2 : Int32).toNatClampNeg = x := ⟨_, rfl⟩
  refine rn_aload_n (i := 1) dL_law_1607 rfl rfl ?_
  refine rn_aload_n (i := 0) dL_law_1608 rfl rfl ?_
  refine rn_iload dL_law_1609 rfl ?_
  refine rn_iconst (v := (1 : Int32)) dL_law_1611 (by decide) ?_
  refine rn_iadd dL_law_1612 ?_
  refine rn_topi (2 : Int32) (by decide) ?_
  refine rn_sld (by rw [hL]; unfold vp_in; decide) dL_law_1613 ?_
  refine rn_topi sc2 se2 ?_
  refine rn_aload_n (i := 3) dL_law_1614 rfl rfl ?_
  refine rn_callSX (a := 0) (b := 0) [.ref o_sg, .int sc2, .ref o_out] kl_SGLaw_177 dL_law_1615 (c_L_top G _ (o_sg := o_sg) (x := sc2) (o_out := o_out) (fs_sg := fs_sg) h_sg hf_sg_11) rfl rfl (Nat.le_of_ble_eq_true rfl) (Nat.le_of_ble_eq_true rfl) (Nat.le_of_ble_eq_true rfl) (Nat.le_of_ble_eq_true rfl) (Nat.le_of_ble_eq_true rfl) (Nat.le_of_ble_eq_true rfl) (by rintro E w h; rcases h with ⟨_, hr, _⟩ <;> cases hr) ?_
  rintro v w h
  obtain ⟨hc1, hr, hw⟩ := h; cases hr; rw [hw]
  refine rn_stk [.int (1 : Int32)] rfl ?_
  refine rn_istore dL_law_1618 (by decide) [(0, .ref G.2.2.2.2.1.1), (1, .ref o_sg), (2, .ref o_m), (3, .ref o_out), (4, .int (1 : Int32)), (5, .int (1 : Int32))] rfl ?_
  refine rn_aload_n (i := 2) dL_law_1620 rfl rfl ?_
  refine rn_aload_n (i := 0) dL_law_1621 rfl rfl ?_
  refine rn_iload dL_law_1622 rfl ?_
  refine rn_iconst (v := (1 : Int32)) dL_law_1624 (by decide) ?_
  refine rn_iadd dL_law_1625 ?_
  refine rn_topi (2 : Int32) (by decide) ?_
  refine rn_sld (by rw [hL]; unfold vp_in; decide) dL_law_1626 ?_
  refine rn_topi sc2 se2 ?_
  refine rn_callV (a := 0) (b := 0) [.int sc2] kl_SGLaw_179 dL_law_1627 23 h_m rfl (c_X10_top G _ (o_m := o_m) (k := sc2) (fs_m := fs_m) h_m hf_m_0 hf_m_22) rfl rfl (Nat.le_of_ble_eq_true rfl) (Nat.le_of_ble_eq_true rfl) (Nat.le_of_ble_eq_true rfl) (Nat.le_of_ble_eq_true rfl) (Nat.le_of_ble_eq_true rfl) (Nat.le_of_ble_eq_true rfl) (by rintro E w h; rcases h with ⟨_, hr, _⟩ <;> cases hr) ?_
  rintro v w h
  obtain ⟨hc2, hr, hw⟩ := h; cases hr
  have hw3 : w[23]? = some (o_m, Sum.inr (10, ((fs_m.set 0 (.int (0 : Int32))).set 0 (.int (1 : Int32))))) := by rw [hw, List.getElem?_set_self (by (try simp only [List.length_set, List.length_append, List.length_cons, List.length_nil]); have hq := ls_lt h_m; omega)]
  have hw4 : w[62]? = some (o_out, Sum.inl (rn_k G 2, 1, Sum.inr (Sum.inl (fun _ => 0)))) := by rw [hw, List.getElem?_set_ne (by decide), List.getElem?_set_ne (by decide), h_out]
  refine rn_stk [.long (0 : Int64)] rfl ?_
  refine rn_lstore dL_law_1630 (by decide) [(0, .ref G.2.2.2.2.1.1), (1, .ref o_sg), (2, .ref o_m), (3, .ref o_out), (4, .int (1 : Int32)), (5, .int (1 : Int32)), (6, .long (0 : Int64))] rfl ?_
  refine rn_aload_n (i := 2) dL_law_1632 rfl rfl ?_
  refine rn_callV (a := 0) (b := 0) [] kl_SGLaw_110 dL_law_1633 23 hw3 rfl (c_X10_thrown G _ (o_m := o_m) (fs_m := ((fs_m.set 0 (.int (0 : Int32))).set 0 (.int (1 : Int32)))) (th := (1 : Int32)) hw3 (ls_eq (ls_eq hf_m_0))) rfl rfl (Nat.le_of_ble_eq_true rfl) (Nat.le_of_ble_eq_true rfl) (Nat.le_of_ble_eq_true rfl) (Nat.le_of_ble_eq_true rfl) (Nat.le_of_ble_eq_true rfl) (Nat.le_of_ble_eq_true rfl) (by rintro E w h; rcases h with ⟨_, hr, _⟩ <;> cases hr) ?_
  rintro v w h
  obtain ⟨hc5, hr, hw⟩ := h; cases hr; rw [hw]
  refine rn_stk [.int (1 : Int32)] rfl ?_
  refine rn_iload dL_law_1636 rfl ?_
  refine rn_icmp_eq (tgt := 1643) dL_law_1638 (by decide) (fun h6 => ?_) (fun h6 => absurd h6 (by decide))
  refine rn_iload dL_law_1643 rfl ?_
  refine rn_if_ne (tgt := 1659) dL_law_1645 (by decide) (fun h7 => ?_) (fun h7 => absurd h7 (by decide))
  refine rn_goto (tgt := 1865) dL_law_1659 (by decide) ?_
  refine rn_lv [(0, .ref G.2.2.2.2.1.1), (1, .ref o_sg), (2, .ref o_m), (3, .ref o_out), (4, .int (1 : Int32))] rfl ?_
  exact law_end G _ hL _ _ _
