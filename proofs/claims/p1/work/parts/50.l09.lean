set_option maxRecDepth 20000 in
set_option maxHeartbeats 4000000 in
theorem law_20 (G : rn_G) (ws : va_W) (hL : G.2.2.2.2.1.2.1 = 11) (o_sg : Nat) (fs_sg : List Value) (o_m : Nat) (fs_m : List Value) (o_out : Nat) (h_sg : ws[0]? = some (o_sg, Sum.inr (9, fs_sg))) (hf_sg_11 : fs_sg[11]? = some (.int (0 : Int32))) (h_m : ws[23]? = some (o_m, Sum.inr (10, fs_m))) (hf_m_0 : fs_m[0]? = some (.int (0 : Int32))) (hf_m_22 : fs_m[22]? = some (.int (0 : Int32))) (h_out : ws[62]? = some (o_out, Sum.inl (rn_k G 2, 1, Sum.inr (Sum.inl (fun _ => 0))))) : Rn G mL_law 9 156 1 6 1662 [(0, .ref G.2.2.2.2.1.1), (1, .ref o_sg), (2, .ref o_m), (3, .ref o_out), (4, .int (1 : Int32))] [] ws (fun r _ => r = Sum.inl (some (.int 1))) := by
  obtain ⟨sc2, se2⟩ : ∃ x : Int32, G.2.2.2.2.1.2.2 (2 : Int32).toNatClampNeg = x := ⟨_, rfl⟩
  refine rn_aload_n (i := 1) dL_law_1662 rfl rfl ?_
  refine rn_aload_n (i := 0) dL_law_1663 rfl rfl ?_
  refine rn_iload dL_law_1664 rfl ?_
  refine rn_iconst (v := (1 : Int32)) dL_law_1666 (by decide) ?_
  refine rn_iadd dL_law_1667 ?_
  refine rn_topi (2 : Int32) (by decide) ?_
  refine rn_sld (by rw [hL]; unfold vp_in; decide) dL_law_1668 ?_
  refine rn_topi sc2 se2 ?_
  refine rn_aload_n (i := 3) dL_law_1669 rfl rfl ?_
  refine rn_callSX (a := 0) (b := 0) [.ref o_sg, .int sc2, .ref o_out] kl_SGLaw_180 dL_law_1670 (c_L_seen G _ (o_sg := o_sg) (x := sc2) (o_out := o_out) (fs_sg := fs_sg) h_sg hf_sg_11) rfl rfl (Nat.le_of_ble_eq_true rfl) (Nat.le_of_ble_eq_true rfl) (Nat.le_of_ble_eq_true rfl) (Nat.le_of_ble_eq_true rfl) (Nat.le_of_ble_eq_true rfl) (Nat.le_of_ble_eq_true rfl) (by rintro E w h; rcases h with ⟨_, hr, _⟩ <;> cases hr) ?_
  rintro v w h
  obtain ⟨hc1, hr, hw⟩ := h; cases hr; rw [hw]
  refine rn_stk [.int (1 : Int32)] rfl ?_
  refine rn_istore dL_law_1673 (by decide) [(0, .ref G.2.2.2.2.1.1), (1, .ref o_sg), (2, .ref o_m), (3, .ref o_out), (4, .int (1 : Int32)), (5, .int (1 : Int32))] rfl ?_
  refine rn_aload_n (i := 2) dL_law_1675 rfl rfl ?_
  refine rn_aload_n (i := 0) dL_law_1676 rfl rfl ?_
  refine rn_iload dL_law_1677 rfl ?_
  refine rn_iconst (v := (1 : Int32)) dL_law_1679 (by decide) ?_
  refine rn_iadd dL_law_1680 ?_
  refine rn_topi (2 : Int32) (by decide) ?_
  refine rn_sld (by rw [hL]; unfold vp_in; decide) dL_law_1681 ?_
  refine rn_topi sc2 se2 ?_
  refine rn_callV (a := 0) (b := 0) [.int sc2] kl_SGLaw_182 dL_law_1682 23 h_m rfl (c_X10_seen G _ (o_m := o_m) (k := sc2) (fs_m := fs_m) h_m hf_m_0 hf_m_22) rfl rfl (Nat.le_of_ble_eq_true rfl) (Nat.le_of_ble_eq_true rfl) (Nat.le_of_ble_eq_true rfl) (Nat.le_of_ble_eq_true rfl) (Nat.le_of_ble_eq_true rfl) (Nat.le_of_ble_eq_true rfl) (by rintro E w h; rcases h with ⟨_, hr, _⟩ <;> cases hr) ?_
  rintro v w h
  obtain ⟨hc2, hr, hw⟩ := h; cases hr
  have hw3 : w[23]? = some (o_m, Sum.inr (10, ((fs_m.set 0 (.int (0 : Int32))).set 0 (.int (1 : Int32))))) := by rw [hw, List.getElem?_set_self (by (try simp only [List.length_set, List.length_append, List.length_cons, List.length_nil]); have hq := ls_lt h_m; omega)]
  have hw4 : w[62]? = some (o_out, Sum.inl (rn_k G 2, 1, Sum.inr (Sum.inl (fun _ => 0)))) := by rw [hw, List.getElem?_set_ne (by decide), List.getElem?_set_ne (by decide), h_out]
  refine rn_stk [.long (0 : Int64)] rfl ?_
  refine rn_lstore dL_law_1685 (by decide) [(0, .ref G.2.2.2.2.1.1), (1, .ref o_sg), (2, .ref o_m), (3, .ref o_out), (4, .int (1 : Int32)), (5, .int (1 : Int32)), (6, .long (0 : Int64))] rfl ?_
  refine rn_aload_n (i := 2) dL_law_1687 rfl rfl ?_
  refine rn_callV (a := 0) (b := 0) [] kl_SGLaw_110 dL_law_1688 23 hw3 rfl (c_X10_thrown G _ (o_m := o_m) (fs_m := ((fs_m.set 0 (.int (0 : Int32))).set 0 (.int (1 : Int32)))) (th := (1 : Int32)) hw3 (ls_eq (ls_eq hf_m_0))) rfl rfl (Nat.le_of_ble_eq_true rfl) (Nat.le_of_ble_eq_true rfl) (Nat.le_of_ble_eq_true rfl) (Nat.le_of_ble_eq_true rfl) (Nat.le_of_ble_eq_true rfl) (Nat.le_of_ble_eq_true rfl) (by rintro E w h; rcases h with ⟨_, hr, _⟩ <;> cases hr) ?_
  rintro v w h
  obtain ⟨hc5, hr, hw⟩ := h; cases hr; rw [hw]
  refine rn_stk [.int (1 : Int32)] rfl ?_
  refine rn_iload dL_law_1691 rfl ?_
  refine rn_icmp_eq (tgt := 1698) dL_law_1693 (by decide) (fun h6 => ?_) (fun h6 => absurd h6 (by decide))
  refine rn_iload dL_law_1698 rfl ?_
  refine rn_if_ne (tgt := 1714) dL_law_1700 (by decide) (fun h7 => ?_) (fun h7 => absurd h7 (by decide))
  refine rn_goto (tgt := 1865) dL_law_1714 (by decide) ?_
  refine rn_lv [(0, .ref G.2.2.2.2.1.1), (1, .ref o_sg), (2, .ref o_m), (3, .ref o_out), (4, .int (1 : Int32))] rfl ?_
  exact law_end G _ hL _ _ _
set_option maxRecDepth 20000 in
set_option maxHeartbeats 4000000 in
theorem law_21 (G : rn_G) (ws : va_W) (hL : G.2.2.2.2.1.2.1 = 11) (o_sg : Nat) (fs_sg : List Value) (o_heaps : Nat) (fs_heaps : List Value) (o_m : Nat) (fs_m : List Value) (a_heapIs : Nat) (o_out : Nat) (h_sg : ws[0]? = some (o_sg, Sum.inr (9, fs_sg))) (hf_sg_13 : fs_sg[13]? = some (.ref o_heaps)) (h_heaps : ws[18]? = some (o_heaps, Sum.inr (1, fs_heaps))) (hf_heaps_1 : fs_heaps[1]? = some (.int (0 : Int32))) (h_m : ws[23]? = some (o_m, Sum.inr (10, fs_m))) (hf_m_0 : fs_m[0]? = some (.int (0 : Int32))) (hf_m_36 : fs_m[36]? = some (.ref a_heapIs)) (h_m_heapIs : ws[49]? = some (a_heapIs, Sum.inl (rn_k G 3, 4, Sum.inl (fun _ => 0)))) (h_out : ws[62]? = some (o_out, Sum.inl (rn_k G 2, 1, Sum.inr (Sum.inl (fun _ => 0))))) : Rn G mL_law 3 64 0 0 1717 [(0, .ref G.2.2.2.2.1.1), (1, .ref o_sg), (2, .ref o_m), (3, .ref o_out), (4, .int (1 : Int32))] [] ws (fun r _ => r = Sum.inl (some (.int 1))) := by
  refine rn_aload_n (i := 1) dL_law_1717 rfl rfl ?_
  refine rn_callV (a := 0) (b := 0) [] kl_SGLaw_183 dL_law_1718 0 h_sg rfl (c_X9_tick G _ (o_sg := o_sg) (fs_sg := fs_sg) (o_heaps := o_heaps) (fs_heaps := fs_heaps) h_sg hf_sg_13 h_heaps hf_heaps_1) rfl rfl (Nat.le_of_ble_eq_true rfl) (Nat.le_of_ble_eq_true rfl) (Nat.le_of_ble_eq_true rfl) (Nat.le_of_ble_eq_true rfl) (Nat.le_of_ble_eq_true rfl) (Nat.le_of_ble_eq_true rfl) (by rintro E w h; rcases h with ⟨_, hr, _⟩ <;> cases hr) ?_
  rintro v w h
  obtain ⟨hc1, hr, hw⟩ := h; cases hr; rw [hw]
  refine rn_stk [.int (0 : Int32)] rfl ?_
  refine rn_aload_n (i := 2) dL_law_1721 rfl rfl ?_
  refine rn_callV (a := 0) (b := 0) [] kl_SGLaw_186 dL_law_1722 23 h_m rfl (c_X10_tick G _ (o_m := o_m) (fs_m := fs_m) (a_heapIs := a_heapIs) h_m hf_m_0 hf_m_36 h_m_heapIs) rfl rfl (Nat.le_of_ble_eq_true rfl) (Nat.le_of_ble_eq_true rfl) (Nat.le_of_ble_eq_true rfl) (Nat.le_of_ble_eq_true rfl) (Nat.le_of_ble_eq_true rfl) (Nat.le_of_ble_eq_true rfl) (by rintro E w h; rcases h with ⟨_, hr, _⟩ <;> cases hr) ?_
  rintro v w h
  obtain ⟨hc2, hr, hw⟩ := h; cases hr
  have hw3 : w[23]? = some (o_m, Sum.inr (10, (fs_m.set 0 (.int (0 : Int32))))) := by rw [hw, List.getElem?_set_self (by (try simp only [List.length_set, List.length_append, List.length_cons, List.length_nil]); have hq := ls_lt h_m; omega)]
  have hw4 : w[62]? = some (o_out, Sum.inl (rn_k G 2, 1, Sum.inr (Sum.inl (fun _ => 0)))) := by rw [hw, List.getElem?_set_ne (by decide), h_out]
  refine rn_stk [.int (0 : Int32), .int (0 : Int32)] rfl ?_
  refine rn_icmp_eq (tgt := 1865) dL_law_1725 (by decide) (fun h5 => ?_) (fun h5 => absurd h5 (by decide))
  refine rn_lv [(0, .ref G.2.2.2.2.1.1), (1, .ref o_sg), (2, .ref o_m), (3, .ref o_out), (4, .int (1 : Int32))] rfl ?_
  exact law_end G _ hL _ _ _
set_option maxRecDepth 20000 in
set_option maxHeartbeats 4000000 in
theorem law_22 (G : rn_G) (ws : va_W) (hL : G.2.2.2.2.1.2.1 = 11) (o_sg : Nat) (fs_sg : List Value) (o_logs : Nat) (fs_logs : List Value) (o_m : Nat) (fs_m : List Value) (o_out : Nat) (h_sg : ws[0]? = some (o_sg, Sum.inr (9, fs_sg))) (hf_sg_14 : fs_sg[14]? = some (.ref o_logs)) (h_logs : ws[20]? = some (o_logs, Sum.inr (2, fs_logs))) (hf_logs_1 : fs_logs[1]? = some (.int (0 : Int32))) (h_m : ws[23]? = some (o_m, Sum.inr (10, fs_m))) (hf_m_0 : fs_m[0]? = some (.int (0 : Int32))) (hf_m_51 : fs_m[51]? = some (.int (0 : Int32))) (h_out : ws[62]? = some (o_out, Sum.inl (rn_k G 2, 1, Sum.inr (Sum.inl (fun _ => 0))))) : Rn G mL_law 8 136 1 6 1730 [(0, .ref G.2.2.2.2.1.1), (1, .ref o_sg), (2, .ref o_m), (3, .ref o_out), (4, .int (1 : Int32))] [] ws (fun r _ => r = Sum.inl (some (.int 1))) := by
  obtain ⟨sc2, se2⟩ : ∃ x : Int32, G.2.2.2.2.1.2.2 (2 : Int32).toNatClampNeg = x := ⟨_, rfl⟩
  obtain ⟨sc3, se3⟩ : ∃ x : Int32, G.2.2.2.2.1.2.2 (3 : Int32).toNatClampNeg = x := ⟨_, rfl⟩
  refine rn_aload_n (i := 1) dL_law_1730 rfl rfl ?_
  refine rn_aload_n (i := 0) dL_law_1731 rfl rfl ?_
  refine rn_iload dL_law_1732 rfl ?_
  refine rn_iconst (v := (1 : Int32)) dL_law_1734 (by decide) ?_
  refine rn_iadd dL_law_1735 ?_
  refine rn_topi (2 : Int32) (by decide) ?_
  refine rn_sld (by rw [hL]; unfold vp_in; decide) dL_law_1736 ?_
  refine rn_topi sc2 se2 ?_
  refine rn_aload_n (i := 0) dL_law_1737 rfl rfl ?_
  refine rn_iload dL_law_1738 rfl ?_
  refine rn_iconst (v := (2 : Int32)) dL_law_1740 (by decide) ?_
  refine rn_iadd dL_law_1741 ?_
  refine rn_topi (3 : Int32) (by decide) ?_
  refine rn_sld (by rw [hL]; unfold vp_in; decide) dL_law_1742 ?_
  refine rn_topi sc3 se3 ?_
  refine rn_aload_n (i := 3) dL_law_1743 rfl rfl ?_
  refine rn_callSX (a := 0) (b := 0) [.ref o_sg, .int sc2, .int sc3, .ref o_out] kl_SGLaw_187 dL_law_1744 (c_L_log G _ (o_sg := o_sg) (x := sc2) (y := sc3) (o_out := o_out) (fs_sg := fs_sg) (o_logs := o_logs) (fs_logs := fs_logs) h_sg hf_sg_14 h_logs hf_logs_1) rfl rfl (Nat.le_of_ble_eq_true rfl) (Nat.le_of_ble_eq_true rfl) (Nat.le_of_ble_eq_true rfl) (Nat.le_of_ble_eq_true rfl) (Nat.le_of_ble_eq_true rfl) (Nat.le_of_ble_eq_true rfl) (by rintro E w h; rcases h with ⟨_, hr, _⟩ <;> cases hr) ?_
  rintro v w h
  obtain ⟨hc1, hr, hw⟩ := h; cases hr; rw [hw]
  refine rn_stk [.int (1 : Int32)] rfl ?_
  refine rn_istore dL_law_1747 (by decide) [(0, .ref G.2.2.2.2.1.1), (1, .ref o_sg), (2, .ref o_m), (3, .ref o_out), (4, .int (1 : Int32)), (5, .int (1 : Int32))] rfl ?_
  refine rn_aload_n (i := 2) dL_law_1749 rfl rfl ?_
  refine rn_aload_n (i := 0) dL_law_1750 rfl rfl ?_
  refine rn_iload dL_law_1751 rfl ?_
  refine rn_iconst (v := (1 : Int32)) dL_law_1753 (by decide) ?_
  refine rn_iadd dL_law_1754 ?_
  refine rn_topi (2 : Int32) (by decide) ?_
  refine rn_sld (by rw [hL]; unfold vp_in; decide) dL_law_1755 ?_
  refine rn_topi sc2 se2 ?_
  refine rn_aload_n (i := 0) dL_law_1756 rfl rfl ?_
  refine rn_iload dL_law_1757 rfl ?_
  refine rn_iconst (v := (2 : Int32)) dL_law_1759 (by decide) ?_
  refine rn_iadd dL_law_1760 ?_
  refine rn_topi (3 : Int32) (by decide) ?_
  refine rn_sld (by rw [hL]; unfold vp_in; decide) dL_law_1761 ?_
  refine rn_topi sc3 se3 ?_
  refine rn_callV (a := 0) (b := 0) [.int sc2, .int sc3] kl_SGLaw_189 dL_law_1762 23 h_m rfl (c_X10_log G _ (o_m := o_m) (k := sc2) (x := sc3) (fs_m := fs_m) h_m hf_m_0 hf_m_51) rfl rfl (Nat.le_of_ble_eq_true rfl) (Nat.le_of_ble_eq_true rfl) (Nat.le_of_ble_eq_true rfl) (Nat.le_of_ble_eq_true rfl) (Nat.le_of_ble_eq_true rfl) (Nat.le_of_ble_eq_true rfl) (by rintro E w h; rcases h with ⟨_, hr, _⟩ <;> cases hr) ?_
  rintro v w h
  obtain ⟨hc2, hr, hw⟩ := h; cases hr
  have hw3 : w[23]? = some (o_m, Sum.inr (10, ((fs_m.set 0 (.int (0 : Int32))).set 0 (.int (1 : Int32))))) := by rw [hw, List.getElem?_set_self (by (try simp only [List.length_set, List.length_append, List.length_cons, List.length_nil]); have hq := ls_lt h_m; omega)]
  have hw4 : w[62]? = some (o_out, Sum.inl (rn_k G 2, 1, Sum.inr (Sum.inl (fun _ => 0)))) := by rw [hw, List.getElem?_set_ne (by decide), List.getElem?_set_ne (by decide), h_out]
  refine rn_stk [.int (0 : Int32)] rfl ?_
  refine rn_istore dL_law_1765 (by decide) [(0, .ref G.2.2.2.2.1.1), (1, .ref o_sg), (2, .ref o_m), (3, .ref o_out), (4, .int (1 : Int32)), (5, .int (1 : Int32)), (6, .int (0 : Int32))] rfl ?_
  refine rn_aload_n (i := 2) dL_law_1767 rfl rfl ?_
  refine rn_callV (a := 0) (b := 0) [] kl_SGLaw_110 dL_law_1768 23 hw3 rfl (c_X10_thrown G _ (o_m := o_m) (fs_m := ((fs_m.set 0 (.int (0 : Int32))).set 0 (.int (1 : Int32)))) (th := (1 : Int32)) hw3 (ls_eq (ls_eq hf_m_0))) rfl rfl (Nat.le_of_ble_eq_true rfl) (Nat.le_of_ble_eq_true rfl) (Nat.le_of_ble_eq_true rfl) (Nat.le_of_ble_eq_true rfl) (Nat.le_of_ble_eq_true rfl) (Nat.le_of_ble_eq_true rfl) (by rintro E w h; rcases h with ⟨_, hr, _⟩ <;> cases hr) ?_
  rintro v w h
  obtain ⟨hc5, hr, hw⟩ := h; cases hr; rw [hw]
  refine rn_stk [.int (1 : Int32)] rfl ?_
  refine rn_iload dL_law_1771 rfl ?_
  refine rn_icmp_eq (tgt := 1778) dL_law_1773 (by decide) (fun h6 => ?_) (fun h6 => absurd h6 (by decide))
  refine rn_iload dL_law_1778 rfl ?_
  refine rn_if_ne (tgt := 1795) dL_law_1780 (by decide) (fun h7 => ?_) (fun h7 => absurd h7 (by decide))
  refine rn_goto (tgt := 1865) dL_law_1795 (by decide) ?_
  refine rn_lv [(0, .ref G.2.2.2.2.1.1), (1, .ref o_sg), (2, .ref o_m), (3, .ref o_out), (4, .int (1 : Int32))] rfl ?_
  exact law_end G _ hL _ _ _
set_option maxRecDepth 20000 in
set_option maxHeartbeats 4000000 in
theorem law_23 (G : rn_G) (ws : va_W) (hL : G.2.2.2.2.1.2.1 = 11) (o_sg : Nat) (fs_sg : List Value) (o_heaps : Nat) (o_ends : Nat) (fs_heaps : List Value) (o_m : Nat) (fs_m : List Value) (a_heapIs : Nat) (a_endings : Nat) (o_out : Nat) (h_sg : ws[0]? = some (o_sg, Sum.inr (9, fs_sg))) (hf_sg_11 : fs_sg[11]? = some (.int (0 : Int32))) (hf_sg_12 : fs_sg[12]? = some (.int (0 : Int32))) (hf_sg_13 : fs_sg[13]? = some (.ref o_heaps)) (hf_sg_15 : fs_sg[15]? = some (.ref o_ends)) (h_heaps : ws[18]? = some (o_heaps, Sum.inr (1, fs_heaps))) (hf_heaps_1 : fs_heaps[1]? = some (.int (0 : Int32))) (h_ends : ws[22]? = some (o_ends, Sum.inl (rn_k G 1, 18, Sum.inl (fun _ => 0)))) (h_m : ws[23]? = some (o_m, Sum.inr (10, fs_m))) (hf_m_0 : fs_m[0]? = some (.int (0 : Int32))) (hf_m_22 : fs_m[22]? = some (.int (0 : Int32))) (hf_m_33 : fs_m[33]? = some (.int (0 : Int32))) (hf_m_36 : fs_m[36]? = some (.ref a_heapIs)) (hf_m_44 : fs_m[44]? = some (.ref a_endings)) (h_m_heapIs : ws[49]? = some (a_heapIs, Sum.inl (rn_k G 3, 4, Sum.inl (fun _ => 0)))) (h_m_endings : ws[56]? = some (a_endings, Sum.inl (rn_k G 1, 18, Sum.inl (fun _ => 0)))) (h_out : ws[62]? = some (o_out, Sum.inl (rn_k G 2, 1, Sum.inr (Sum.inl (fun _ => 0))))) : Rn G mL_law 8 134 1 6 1798 [(0, .ref G.2.2.2.2.1.1), (1, .ref o_sg), (2, .ref o_m), (3, .ref o_out), (4, .int (1 : Int32))] [] ws (fun r _ => r = Sum.inl (some (.int 1))) := by
  obtain ⟨sc2, se2⟩ : ∃ x : Int32, G.2.2.2.2.1.2.2 (2 : Int32).toNatClampNeg = x := ⟨_, rfl⟩
  refine rn_aload_n (i := 1) dL_law_1798 rfl rfl ?_
  refine rn_aload_n (i := 0) dL_law_1799 rfl rfl ?_
  refine rn_iload dL_law_1800 rfl ?_
  refine rn_iconst (v := (1 : Int32)) dL_law_1802 (by decide) ?_
  refine rn_iadd dL_law_1803 ?_
  refine rn_topi (2 : Int32) (by decide) ?_
  refine rn_sld (by rw [hL]; unfold vp_in; decide) dL_law_1804 ?_
  refine rn_topi sc2 se2 ?_
  refine rn_aload_n (i := 3) dL_law_1805 rfl rfl ?_
  refine rn_callSX (a := 0) (b := 0) [.ref o_sg, .int sc2, .ref o_out] kl_SGLaw_190 dL_law_1806 (c_L_ended G _ (o_sg := o_sg) (x := sc2) (o_out := o_out) (fs_sg := fs_sg) (o_heaps := o_heaps) (o_ends := o_ends) (fs_heaps := fs_heaps) h_sg hf_sg_11 hf_sg_12 hf_sg_13 hf_sg_15 h_heaps hf_heaps_1 h_ends h_out) rfl rfl (Nat.le_of_ble_eq_true rfl) (Nat.le_of_ble_eq_true rfl) (Nat.le_of_ble_eq_true rfl) (Nat.le_of_ble_eq_true rfl) (Nat.le_of_ble_eq_true rfl) (Nat.le_of_ble_eq_true rfl) (by rintro E w h; rcases h with ⟨_, hr, _⟩ | ⟨_, hr, _⟩ <;> cases hr) ?_
  rintro v w h
  rcases h with ⟨hc, hr, hw⟩ | ⟨hc, hr, hw⟩
  · have hc1 := hc; clear hc; cases hr; rw [hw]
    refine rn_stk [.int (1 : Int32)] rfl ?_
    refine rn_istore dL_law_1809 (by decide) [(0, .ref G.2.2.2.2.1.1), (1, .ref o_sg), (2, .ref o_m), (3, .ref o_out), (4, .int (1 : Int32)), (5, .int (1 : Int32))] rfl ?_
    refine rn_aload_n (i := 2) dL_law_1811 rfl rfl ?_
    refine rn_aload_n (i := 0) dL_law_1812 rfl rfl ?_
    refine rn_iload dL_law_1813 rfl ?_
    refine rn_iconst (v := (1 : Int32)) dL_law_1815 (by decide) ?_
    refine rn_iadd dL_law_1816 ?_
    refine rn_topi (2 : Int32) (by decide) ?_
    refine rn_sld (by rw [hL]; unfold vp_in; decide) dL_law_1817 ?_
    refine rn_topi sc2 se2 ?_
    refine rn_callV (a := 0) (b := 0) [.int sc2] kl_SGLaw_192 dL_law_1818 23 h_m rfl (c_X10_ended G _ (o_m := o_m) (k := sc2) (fs_m := fs_m) (a_heapIs := a_heapIs) (a_endings := a_endings) h_m hf_m_0 hf_m_22 hf_m_33 hf_m_36 hf_m_44 h_m_heapIs h_m_endings) rfl rfl (Nat.le_of_ble_eq_true rfl) (Nat.le_of_ble_eq_true rfl) (Nat.le_of_ble_eq_true rfl) (Nat.le_of_ble_eq_true rfl) (Nat.le_of_ble_eq_true rfl) (Nat.le_of_ble_eq_true rfl) (by rintro E w h; rcases h with ⟨_, hr, _⟩ | ⟨_, hr, _⟩ <;> cases hr) ?_
    rintro v w h
    rcases h with ⟨hc, hr, hw⟩ | ⟨hc, hr, hw⟩
    · have hc2 := hc; clear hc; cases hr
      have hw3 : w[23]? = some (o_m, Sum.inr (10, ((fs_m.set 0 (.int (0 : Int32))).set 0 (.int (1 : Int32))))) := by rw [hw, List.getElem?_set_self (by (try simp only [List.length_set, List.length_append, List.length_cons, List.length_nil]); have hq := ls_lt h_m; omega)]
      have hw4 : w[62]? = some (o_out, Sum.inl (rn_k G 2, 1, Sum.inr (Sum.inl (fun _ => 0)))) := by rw [hw, List.getElem?_set_ne (by decide), List.getElem?_set_ne (by decide), h_out]
      refine rn_stk [.int (0 : Int32)] rfl ?_
      refine rn_istore dL_law_1821 (by decide) [(0, .ref G.2.2.2.2.1.1), (1, .ref o_sg), (2, .ref o_m), (3, .ref o_out), (4, .int (1 : Int32)), (5, .int (1 : Int32)), (6, .int (0 : Int32))] rfl ?_
      refine rn_aload_n (i := 2) dL_law_1823 rfl rfl ?_
      refine rn_callV (a := 0) (b := 0) [] kl_SGLaw_110 dL_law_1824 23 hw3 rfl (c_X10_thrown G _ (o_m := o_m) (fs_m := ((fs_m.set 0 (.int (0 : Int32))).set 0 (.int (1 : Int32)))) (th := (1 : Int32)) hw3 (ls_eq (ls_eq hf_m_0))) rfl rfl (Nat.le_of_ble_eq_true rfl) (Nat.le_of_ble_eq_true rfl) (Nat.le_of_ble_eq_true rfl) (Nat.le_of_ble_eq_true rfl) (Nat.le_of_ble_eq_true rfl) (Nat.le_of_ble_eq_true rfl) (by rintro E w h; rcases h with ⟨_, hr, _⟩ <;> cases hr) ?_
      rintro v w h
      obtain ⟨hc5, hr, hw⟩ := h; cases hr; rw [hw]
      refine rn_stk [.int (1 : Int32)] rfl ?_
      refine rn_iload dL_law_1827 rfl ?_
      refine rn_icmp_eq (tgt := 1834) dL_law_1829 (by decide) (fun h6 => ?_) (fun h6 => absurd h6 (by decide))
      refine rn_iload dL_law_1834 rfl ?_
      refine rn_if_ne (tgt := 1851) dL_law_1836 (by decide) (fun h7 => ?_) (fun h7 => absurd h7 (by decide))
      refine rn_goto (tgt := 1865) dL_law_1851 (by decide) ?_
      refine rn_lv [(0, .ref G.2.2.2.2.1.1), (1, .ref o_sg), (2, .ref o_m), (3, .ref o_out), (4, .int (1 : Int32))] rfl ?_
      exact law_end G _ hL _ _ _
    · have hc8 := hc; clear hc; cases hr
      exfalso; have g0 := i32_rng sc2; simp only [Int32.lt_iff_toInt_lt, Int32.le_iff_toInt_le, gt_iff_lt, ge_iff_le, ← Int32.toInt_inj, i32_0, i32_18, i32_19, i32_20] at *; omega
  · have hc9 := hc; clear hc; cases hr
    have hw10 : w[23]? = some (o_m, Sum.inr (10, fs_m)) := by rw [hw, List.getElem?_set_ne (by decide), h_m]
    have hw11 : w[49]? = some (a_heapIs, Sum.inl (rn_k G 3, 4, Sum.inl (fun _ => 0))) := by rw [hw, List.getElem?_set_ne (by decide), h_m_heapIs]
    have hw12 : w[56]? = some (a_endings, Sum.inl (rn_k G 1, 18, Sum.inl (fun _ => 0))) := by rw [hw, List.getElem?_set_ne (by decide), h_m_endings]
    have hw13 : w[62]? = some (o_out, Sum.inl (rn_k G 2, 1, Sum.inr (Sum.inl (vp_updL (fun _ => 0) ((0 : Int32)).toNatClampNeg (0 : Int64))))) := by rw [hw, List.getElem?_set_self (by (try simp only [List.length_set, List.length_append, List.length_cons, List.length_nil]); have hq := ls_lt h_out; omega)]
    refine rn_stk [.int (0 : Int32)] rfl ?_
    refine rn_istore dL_law_1809 (by decide) [(0, .ref G.2.2.2.2.1.1), (1, .ref o_sg), (2, .ref o_m), (3, .ref o_out), (4, .int (1 : Int32)), (5, .int (0 : Int32))] rfl ?_
    refine rn_aload_n (i := 2) dL_law_1811 rfl rfl ?_
    refine rn_aload_n (i := 0) dL_law_1812 rfl rfl ?_
    refine rn_iload dL_law_1813 rfl ?_
    refine rn_iconst (v := (1 : Int32)) dL_law_1815 (by decide) ?_
    refine rn_iadd dL_law_1816 ?_
    refine rn_topi (2 : Int32) (by decide) ?_
    refine rn_sld (by rw [hL]; unfold vp_in; decide) dL_law_1817 ?_
    refine rn_topi sc2 se2 ?_
    refine rn_callV (a := 0) (b := 0) [.int sc2] kl_SGLaw_192 dL_law_1818 23 hw10 rfl (c_X10_ended G _ (o_m := o_m) (k := sc2) (fs_m := fs_m) (a_heapIs := a_heapIs) (a_endings := a_endings) hw10 hf_m_0 hf_m_22 hf_m_33 hf_m_36 hf_m_44 hw11 hw12) rfl rfl (Nat.le_of_ble_eq_true rfl) (Nat.le_of_ble_eq_true rfl) (Nat.le_of_ble_eq_true rfl) (Nat.le_of_ble_eq_true rfl) (Nat.le_of_ble_eq_true rfl) (Nat.le_of_ble_eq_true rfl) (by rintro E w h; rcases h with ⟨_, hr, _⟩ | ⟨_, hr, _⟩ <;> cases hr) ?_
    rintro v w h
    rcases h with ⟨hc, hr, hw⟩ | ⟨hc, hr, hw⟩
    · have hc14 := hc; clear hc; cases hr
      exfalso; have g0 := i32_rng sc2; simp only [Int32.lt_iff_toInt_lt, Int32.le_iff_toInt_le, gt_iff_lt, ge_iff_le, ← Int32.toInt_inj, i32_0, i32_1, i32_18, i32_19, i32_20] at *; omega
    · have hc15 := hc; clear hc; cases hr
      have hw16 : w[23]? = some (o_m, Sum.inr (10, (fs_m.set 0 (.int (0 : Int32))))) := by rw [hw, List.getElem?_set_self (by (try simp only [List.length_set, List.length_append, List.length_cons, List.length_nil]); have hq := ls_lt hw10; omega)]
      have hw17 : w[62]? = some (o_out, Sum.inl (rn_k G 2, 1, Sum.inr (Sum.inl (vp_updL (fun _ => 0) ((0 : Int32)).toNatClampNeg (0 : Int64))))) := by rw [hw, List.getElem?_set_ne (by decide), hw13]
      refine rn_stk [.int (0 : Int32)] rfl ?_
      refine rn_istore dL_law_1821 (by decide) [(0, .ref G.2.2.2.2.1.1), (1, .ref o_sg), (2, .ref o_m), (3, .ref o_out), (4, .int (1 : Int32)), (5, .int (0 : Int32)), (6, .int (0 : Int32))] rfl ?_
      refine rn_aload_n (i := 2) dL_law_1823 rfl rfl ?_
      refine rn_callV (a := 0) (b := 0) [] kl_SGLaw_110 dL_law_1824 23 hw16 rfl (c_X10_thrown G _ (o_m := o_m) (fs_m := (fs_m.set 0 (.int (0 : Int32)))) (th := (0 : Int32)) hw16 (ls_eq hf_m_0)) rfl rfl (Nat.le_of_ble_eq_true rfl) (Nat.le_of_ble_eq_true rfl) (Nat.le_of_ble_eq_true rfl) (Nat.le_of_ble_eq_true rfl) (Nat.le_of_ble_eq_true rfl) (Nat.le_of_ble_eq_true rfl) (by rintro E w h; rcases h with ⟨_, hr, _⟩ <;> cases hr) ?_
      rintro v w h
      obtain ⟨hc18, hr, hw⟩ := h; cases hr; rw [hw]
      refine rn_stk [.int (0 : Int32)] rfl ?_
      refine rn_iload dL_law_1827 rfl ?_
      refine rn_icmp_eq (tgt := 1834) dL_law_1829 (by decide) (fun h19 => ?_) (fun h19 => absurd h19 (by decide))
      refine rn_iload dL_law_1834 rfl ?_
      refine rn_if_ne (tgt := 1851) dL_law_1836 (by decide) (fun h20 => absurd h20 (by decide)) (fun h20 => ?_)
      refine rn_aload_n (i := 3) dL_law_1839 rfl rfl ?_
      refine rn_iconst (v := (0 : Int32)) dL_law_1840 (by decide) ?_
      refine rn_lald 62 2 hw17 rfl (by unfold vp_in; decide) dL_law_1841 ?_
      refine rn_topl _ (vp_updL_at _ _ _) ?_
      refine rn_iload dL_law_1842 rfl ?_
      refine rn_i2l dL_law_1844 rfl ?_
      refine rn_topl (0 : Int64) (by decide) ?_
      refine rn_lcmp dL_law_1845 ?_
      refine rn_topi (0 : Int32) (by decide) ?_
      refine rn_if_eq (tgt := 1851) dL_law_1846 (by decide) (fun h21 => ?_) (fun h21 => absurd h21 (by decide))
      refine rn_goto (tgt := 1865) dL_law_1851 (by decide) ?_
      refine rn_lv [(0, .ref G.2.2.2.2.1.1), (1, .ref o_sg), (2, .ref o_m), (3, .ref o_out), (4, .int (1 : Int32))] rfl ?_
      exact law_end G _ hL _ _ _
