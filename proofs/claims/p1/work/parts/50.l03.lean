set_option maxRecDepth 20000 in
set_option maxHeartbeats 4000000 in
theorem law_7 (G : rn_G) (ws : va_W) (hL : G.2.2.2.2.1.2.1 = 11) (o_sg : Nat) (fs_sg : List Value) (o_peers : Nat) (o_m : Nat) (fs_m : List Value) (a_peers : Nat) (o_out : Nat) (h_sg : ws[0]? = some (o_sg, Sum.inr (9, fs_sg))) (hf_sg_9 : fs_sg[9]? = some (.ref o_peers)) (h_peers : ws[16]? = some (o_peers, Sum.inl (rn_k G 1, 4, Sum.inl (fun _ => 0)))) (h_m : ws[23]? = some (o_m, Sum.inr (10, fs_m))) (hf_m_0 : fs_m[0]? = some (.int (0 : Int32))) (hf_m_8 : fs_m[8]? = some (.ref a_peers)) (h_m_peers : ws[28]? = some (a_peers, Sum.inl (rn_k G 1, 4, Sum.inl (fun _ => 0)))) (h_out : ws[62]? = some (o_out, Sum.inl (rn_k G 2, 1, Sum.inr (Sum.inl (fun _ => 0))))) : Rn G mL_law 8 137 1 6 654 [(0, .ref G.2.2.2.2.1.1), (1, .ref o_sg), (2, .ref o_m), (3, .ref o_out), (4, .int (1 : Int32))] [] ws (fun r _ => r = Sum.inl (some (.int 1))) := by
  obtain ⟨sc2, se2⟩ : ∃ x : Int32, G.2.2.2.2.1.2.2 (2 : Int32).toNatClampNeg = x := ⟨_, rfl⟩
  obtain ⟨sc3, se3⟩ : ∃ x : Int32, G.2.2.2.2.1.2.2 (3 : Int32).toNatClampNeg = x := ⟨_, rfl⟩
  refine rn_aload_n (i := 1) dL_law_654 rfl rfl ?_
  refine rn_aload_n (i := 0) dL_law_655 rfl rfl ?_
  refine rn_iload dL_law_656 rfl ?_
  refine rn_iconst (v := (1 : Int32)) dL_law_658 (by decide) ?_
  refine rn_iadd dL_law_659 ?_
  refine rn_topi (2 : Int32) (by decide) ?_
  refine rn_sld (by rw [hL]; unfold vp_in; decide) dL_law_660 ?_
  refine rn_topi sc2 se2 ?_
  refine rn_aload_n (i := 0) dL_law_661 rfl rfl ?_
  refine rn_iload dL_law_662 rfl ?_
  refine rn_iconst (v := (2 : Int32)) dL_law_664 (by decide) ?_
  refine rn_iadd dL_law_665 ?_
  refine rn_topi (3 : Int32) (by decide) ?_
  refine rn_sld (by rw [hL]; unfold vp_in; decide) dL_law_666 ?_
  refine rn_topi sc3 se3 ?_
  refine rn_aload_n (i := 3) dL_law_667 rfl rfl ?_
  refine rn_callSX (a := 0) (b := 0) [.ref o_sg, .int sc2, .int sc3, .ref o_out] kl_SGLaw_137 dL_law_668 (c_L_peer G _ (o_sg := o_sg) (x := sc2) (y := sc3) (o_out := o_out) (fs_sg := fs_sg) (o_peers := o_peers) h_sg hf_sg_9 h_peers h_out) rfl rfl (Nat.le_of_ble_eq_true rfl) (Nat.le_of_ble_eq_true rfl) (Nat.le_of_ble_eq_true rfl) (Nat.le_of_ble_eq_true rfl) (Nat.le_of_ble_eq_true rfl) (Nat.le_of_ble_eq_true rfl) (by rintro E w h; rcases h with ⟨_, hr, _⟩ | ⟨_, hr, _⟩ <;> cases hr) ?_
  rintro v w h
  rcases h with ⟨hc, hr, hw⟩ | ⟨hc, hr, hw⟩
  · have hc1 := hc; clear hc; cases hr; rw [hw]
    refine rn_stk [.int (1 : Int32)] rfl ?_
    refine rn_istore dL_law_671 (by decide) [(0, .ref G.2.2.2.2.1.1), (1, .ref o_sg), (2, .ref o_m), (3, .ref o_out), (4, .int (1 : Int32)), (5, .int (1 : Int32))] rfl ?_
    refine rn_aload_n (i := 2) dL_law_673 rfl rfl ?_
    refine rn_aload_n (i := 0) dL_law_674 rfl rfl ?_
    refine rn_iload dL_law_675 rfl ?_
    refine rn_iconst (v := (1 : Int32)) dL_law_677 (by decide) ?_
    refine rn_iadd dL_law_678 ?_
    refine rn_topi (2 : Int32) (by decide) ?_
    refine rn_sld (by rw [hL]; unfold vp_in; decide) dL_law_679 ?_
    refine rn_topi sc2 se2 ?_
    refine rn_aload_n (i := 0) dL_law_680 rfl rfl ?_
    refine rn_iload dL_law_681 rfl ?_
    refine rn_iconst (v := (2 : Int32)) dL_law_683 (by decide) ?_
    refine rn_iadd dL_law_684 ?_
    refine rn_topi (3 : Int32) (by decide) ?_
    refine rn_sld (by rw [hL]; unfold vp_in; decide) dL_law_685 ?_
    refine rn_topi sc3 se3 ?_
    refine rn_callV (a := 0) (b := 0) [.int sc2, .int sc3] kl_SGLaw_139 dL_law_686 23 h_m rfl (c_X10_peer G _ (o_m := o_m) (x := sc2) (y := sc3) (fs_m := fs_m) (a_peers := a_peers) h_m hf_m_0 hf_m_8 h_m_peers) rfl rfl (Nat.le_of_ble_eq_true rfl) (Nat.le_of_ble_eq_true rfl) (Nat.le_of_ble_eq_true rfl) (Nat.le_of_ble_eq_true rfl) (Nat.le_of_ble_eq_true rfl) (Nat.le_of_ble_eq_true rfl) (by rintro E w h; rcases h with ⟨_, hr, _⟩ | ⟨_, hr, _⟩ <;> cases hr) ?_
    rintro v w h
    rcases h with ⟨hc, hr, hw⟩ | ⟨hc, hr, hw⟩
    · have hc2 := hc; clear hc; cases hr
      have hw3 : w[23]? = some (o_m, Sum.inr (10, ((fs_m.set 0 (.int (0 : Int32))).set 0 (.int (1 : Int32))))) := by rw [hw, List.getElem?_set_self (by (try simp only [List.length_set, List.length_append, List.length_cons, List.length_nil]); have hq := ls_lt h_m; omega)]
      have hw4 : w[62]? = some (o_out, Sum.inl (rn_k G 2, 1, Sum.inr (Sum.inl (fun _ => 0)))) := by rw [hw, List.getElem?_set_ne (by decide), List.getElem?_set_ne (by decide), h_out]
      refine rn_stk [.int (0 : Int32)] rfl ?_
      refine rn_istore dL_law_689 (by decide) [(0, .ref G.2.2.2.2.1.1), (1, .ref o_sg), (2, .ref o_m), (3, .ref o_out), (4, .int (1 : Int32)), (5, .int (1 : Int32)), (6, .int (0 : Int32))] rfl ?_
      refine rn_aload_n (i := 2) dL_law_691 rfl rfl ?_
      refine rn_callV (a := 0) (b := 0) [] kl_SGLaw_110 dL_law_692 23 hw3 rfl (c_X10_thrown G _ (o_m := o_m) (fs_m := ((fs_m.set 0 (.int (0 : Int32))).set 0 (.int (1 : Int32)))) (th := (1 : Int32)) hw3 (ls_eq (ls_eq hf_m_0))) rfl rfl (Nat.le_of_ble_eq_true rfl) (Nat.le_of_ble_eq_true rfl) (Nat.le_of_ble_eq_true rfl) (Nat.le_of_ble_eq_true rfl) (Nat.le_of_ble_eq_true rfl) (Nat.le_of_ble_eq_true rfl) (by rintro E w h; rcases h with ⟨_, hr, _⟩ <;> cases hr) ?_
      rintro v w h
      obtain ⟨hc5, hr, hw⟩ := h; cases hr; rw [hw]
      refine rn_stk [.int (1 : Int32)] rfl ?_
      refine rn_iload dL_law_695 rfl ?_
      refine rn_icmp_eq (tgt := 702) dL_law_697 (by decide) (fun h6 => ?_) (fun h6 => absurd h6 (by decide))
      refine rn_iload dL_law_702 rfl ?_
      refine rn_if_ne (tgt := 719) dL_law_704 (by decide) (fun h7 => ?_) (fun h7 => absurd h7 (by decide))
      refine rn_goto (tgt := 1865) dL_law_719 (by decide) ?_
      refine rn_lv [(0, .ref G.2.2.2.2.1.1), (1, .ref o_sg), (2, .ref o_m), (3, .ref o_out), (4, .int (1 : Int32))] rfl ?_
      exact law_end G _ hL _ _ _
    · have hc8 := hc; clear hc; cases hr
      exfalso; have g0 := i32_rng sc2; simp only [Int32.lt_iff_toInt_lt, Int32.le_iff_toInt_le, gt_iff_lt, ge_iff_le, ← Int32.toInt_inj, i32_0, i32_3, i32_4] at *; omega
  · have hc9 := hc; clear hc; cases hr
    have hw10 : w[23]? = some (o_m, Sum.inr (10, fs_m)) := by rw [hw, List.getElem?_set_ne (by decide), List.getElem?_set_ne (by decide), h_m]
    have hw11 : w[28]? = some (a_peers, Sum.inl (rn_k G 1, 4, Sum.inl (fun _ => 0))) := by rw [hw, List.getElem?_set_ne (by decide), List.getElem?_set_ne (by decide), h_m_peers]
    have hw12 : w[62]? = some (o_out, Sum.inl (rn_k G 2, 1, Sum.inr (Sum.inl (vp_updL (fun _ => 0) ((0 : Int32)).toNatClampNeg (0 : Int64))))) := by rw [hw, List.getElem?_set_self (by (try simp only [List.length_set, List.length_append, List.length_cons, List.length_nil]); have hq := ls_lt h_out; omega)]
    refine rn_stk [.int (0 : Int32)] rfl ?_
    refine rn_istore dL_law_671 (by decide) [(0, .ref G.2.2.2.2.1.1), (1, .ref o_sg), (2, .ref o_m), (3, .ref o_out), (4, .int (1 : Int32)), (5, .int (0 : Int32))] rfl ?_
    refine rn_aload_n (i := 2) dL_law_673 rfl rfl ?_
    refine rn_aload_n (i := 0) dL_law_674 rfl rfl ?_
    refine rn_iload dL_law_675 rfl ?_
    refine rn_iconst (v := (1 : Int32)) dL_law_677 (by decide) ?_
    refine rn_iadd dL_law_678 ?_
    refine rn_topi (2 : Int32) (by decide) ?_
    refine rn_sld (by rw [hL]; unfold vp_in; decide) dL_law_679 ?_
    refine rn_topi sc2 se2 ?_
    refine rn_aload_n (i := 0) dL_law_680 rfl rfl ?_
    refine rn_iload dL_law_681 rfl ?_
    refine rn_iconst (v := (2 : Int32)) dL_law_683 (by decide) ?_
    refine rn_iadd dL_law_684 ?_
    refine rn_topi (3 : Int32) (by decide) ?_
    refine rn_sld (by rw [hL]; unfold vp_in; decide) dL_law_685 ?_
    refine rn_topi sc3 se3 ?_
    refine rn_callV (a := 0) (b := 0) [.int sc2, .int sc3] kl_SGLaw_139 dL_law_686 23 hw10 rfl (c_X10_peer G _ (o_m := o_m) (x := sc2) (y := sc3) (fs_m := fs_m) (a_peers := a_peers) hw10 hf_m_0 hf_m_8 hw11) rfl rfl (Nat.le_of_ble_eq_true rfl) (Nat.le_of_ble_eq_true rfl) (Nat.le_of_ble_eq_true rfl) (Nat.le_of_ble_eq_true rfl) (Nat.le_of_ble_eq_true rfl) (Nat.le_of_ble_eq_true rfl) (by rintro E w h; rcases h with ⟨_, hr, _⟩ | ⟨_, hr, _⟩ <;> cases hr) ?_
    rintro v w h
    rcases h with ⟨hc, hr, hw⟩ | ⟨hc, hr, hw⟩
    · have hc13 := hc; clear hc; cases hr
      exfalso; have g0 := i32_rng sc2; simp only [Int32.lt_iff_toInt_lt, Int32.le_iff_toInt_le, gt_iff_lt, ge_iff_le, ← Int32.toInt_inj, i32_0, i32_1, i32_3, i32_4] at *; omega
    · have hc14 := hc; clear hc; cases hr
      have hw15 : w[23]? = some (o_m, Sum.inr (10, (fs_m.set 0 (.int (0 : Int32))))) := by rw [hw, List.getElem?_set_ne (by decide), List.getElem?_set_self (by (try simp only [List.length_set, List.length_append, List.length_cons, List.length_nil]); have hq := ls_lt hw10; omega)]
      have hw16 : w[62]? = some (o_out, Sum.inl (rn_k G 2, 1, Sum.inr (Sum.inl (vp_updL (fun _ => 0) ((0 : Int32)).toNatClampNeg (0 : Int64))))) := by rw [hw, List.getElem?_set_ne (by decide), List.getElem?_set_ne (by decide), hw12]
      refine rn_stk [.int (0 : Int32)] rfl ?_
      refine rn_istore dL_law_689 (by decide) [(0, .ref G.2.2.2.2.1.1), (1, .ref o_sg), (2, .ref o_m), (3, .ref o_out), (4, .int (1 : Int32)), (5, .int (0 : Int32)), (6, .int (0 : Int32))] rfl ?_
      refine rn_aload_n (i := 2) dL_law_691 rfl rfl ?_
      refine rn_callV (a := 0) (b := 0) [] kl_SGLaw_110 dL_law_692 23 hw15 rfl (c_X10_thrown G _ (o_m := o_m) (fs_m := (fs_m.set 0 (.int (0 : Int32)))) (th := (0 : Int32)) hw15 (ls_eq hf_m_0)) rfl rfl (Nat.le_of_ble_eq_true rfl) (Nat.le_of_ble_eq_true rfl) (Nat.le_of_ble_eq_true rfl) (Nat.le_of_ble_eq_true rfl) (Nat.le_of_ble_eq_true rfl) (Nat.le_of_ble_eq_true rfl) (by rintro E w h; rcases h with ⟨_, hr, _⟩ <;> cases hr) ?_
      rintro v w h
      obtain ⟨hc17, hr, hw⟩ := h; cases hr; rw [hw]
      refine rn_stk [.int (0 : Int32)] rfl ?_
      refine rn_iload dL_law_695 rfl ?_
      refine rn_icmp_eq (tgt := 702) dL_law_697 (by decide) (fun h18 => ?_) (fun h18 => absurd h18 (by decide))
      refine rn_iload dL_law_702 rfl ?_
      refine rn_if_ne (tgt := 719) dL_law_704 (by decide) (fun h19 => absurd h19 (by decide)) (fun h19 => ?_)
      refine rn_aload_n (i := 3) dL_law_707 rfl rfl ?_
      refine rn_iconst (v := (0 : Int32)) dL_law_708 (by decide) ?_
      refine rn_lald 62 2 hw16 rfl (by unfold vp_in; decide) dL_law_709 ?_
      refine rn_topl _ (vp_updL_at _ _ _) ?_
      refine rn_iload dL_law_710 rfl ?_
      refine rn_i2l dL_law_712 rfl ?_
      refine rn_topl (0 : Int64) (by decide) ?_
      refine rn_lcmp dL_law_713 ?_
      refine rn_topi (0 : Int32) (by decide) ?_
      refine rn_if_eq (tgt := 719) dL_law_714 (by decide) (fun h20 => ?_) (fun h20 => absurd h20 (by decide))
      refine rn_goto (tgt := 1865) dL_law_719 (by decide) ?_
      refine rn_lv [(0, .ref G.2.2.2.2.1.1), (1, .ref o_sg), (2, .ref o_m), (3, .ref o_out), (4, .int (1 : Int32))] rfl ?_
      exact law_end G _ hL _ _ _
set_option maxRecDepth 20000 in
set_option maxHeartbeats 4000000 in
theorem law_8 (G : rn_G) (ws : va_W) (hL : G.2.2.2.2.1.2.1 = 11) (o_sg : Nat) (fs_sg : List Value) (o_pols : Nat) (fs_pols : List Value) (o_m : Nat) (fs_m : List Value) (o_out : Nat) (h_sg : ws[0]? = some (o_sg, Sum.inr (9, fs_sg))) (hf_sg_8 : fs_sg[8]? = some (.ref o_pols)) (h_pols : ws[14]? = some (o_pols, Sum.inr (5, fs_pols))) (hf_pols_2 : fs_pols[2]? = some (.int (0 : Int32))) (hf_pols_3 : fs_pols[3]? = some (.int (0 : Int32))) (hf_pols_4 : fs_pols[4]? = some (.int (65535 : Int32))) (h_m : ws[23]? = some (o_m, Sum.inr (10, fs_m))) (hf_m_0 : fs_m[0]? = some (.int (0 : Int32))) (hf_m_19 : fs_m[19]? = some (.int (0 : Int32))) (hf_m_20 : fs_m[20]? = some (.int (0 : Int32))) (hf_m_21 : fs_m[21]? = some (.int (65535 : Int32))) (h_out : ws[62]? = some (o_out, Sum.inl (rn_k G 2, 1, Sum.inr (Sum.inl (fun _ => 0))))) : Rn G mL_law 8 137 1 6 722 [(0, .ref G.2.2.2.2.1.1), (1, .ref o_sg), (2, .ref o_m), (3, .ref o_out), (4, .int (1 : Int32))] [] ws (fun r _ => r = Sum.inl (some (.int 1))) := by
  obtain ⟨sc2, se2⟩ : ∃ x : Int32, G.2.2.2.2.1.2.2 (2 : Int32).toNatClampNeg = x := ⟨_, rfl⟩
  obtain ⟨sc3, se3⟩ : ∃ x : Int32, G.2.2.2.2.1.2.2 (3 : Int32).toNatClampNeg = x := ⟨_, rfl⟩
  obtain ⟨sc4, se4⟩ : ∃ x : Int32, G.2.2.2.2.1.2.2 (4 : Int32).toNatClampNeg = x := ⟨_, rfl⟩
  refine rn_aload_n (i := 1) dL_law_722 rfl rfl ?_
  refine rn_aload_n (i := 0) dL_law_723 rfl rfl ?_
  refine rn_iload dL_law_724 rfl ?_
  refine rn_iconst (v := (1 : Int32)) dL_law_726 (by decide) ?_
  refine rn_iadd dL_law_727 ?_
  refine rn_topi (2 : Int32) (by decide) ?_
  refine rn_sld (by rw [hL]; unfold vp_in; decide) dL_law_728 ?_
  refine rn_topi sc2 se2 ?_
  refine rn_aload_n (i := 0) dL_law_729 rfl rfl ?_
  refine rn_iload dL_law_730 rfl ?_
  refine rn_iconst (v := (2 : Int32)) dL_law_732 (by decide) ?_
  refine rn_iadd dL_law_733 ?_
  refine rn_topi (3 : Int32) (by decide) ?_
  refine rn_sld (by rw [hL]; unfold vp_in; decide) dL_law_734 ?_
  refine rn_topi sc3 se3 ?_
  refine rn_aload_n (i := 0) dL_law_735 rfl rfl ?_
  refine rn_iload dL_law_736 rfl ?_
  refine rn_iconst (v := (3 : Int32)) dL_law_738 (by decide) ?_
  refine rn_iadd dL_law_739 ?_
  refine rn_topi (4 : Int32) (by decide) ?_
  refine rn_sld (by rw [hL]; unfold vp_in; decide) dL_law_740 ?_
  refine rn_topi sc4 se4 ?_
  refine rn_callSX (a := 0) (b := 0) [.ref o_sg, .int sc2, .int sc3, .int sc4] kl_SGLaw_140 dL_law_741 (c_L_meant G _ (o_sg := o_sg) (x := sc2) (y := sc3) (u := sc4) (fs_sg := fs_sg) (o_pols := o_pols) (fs_pols := fs_pols) h_sg hf_sg_8 h_pols hf_pols_2 hf_pols_3 hf_pols_4) rfl rfl (Nat.le_of_ble_eq_true rfl) (Nat.le_of_ble_eq_true rfl) (Nat.le_of_ble_eq_true rfl) (Nat.le_of_ble_eq_true rfl) (Nat.le_of_ble_eq_true rfl) (Nat.le_of_ble_eq_true rfl) (by rintro E w h; rcases h with ⟨_, hr, _⟩ | ⟨_, hr, _⟩ <;> cases hr) ?_
  rintro v w h
  rcases h with ⟨hc, hr, hw⟩ | ⟨hc, hr, hw⟩
  · have hc1 := hc; clear hc; cases hr; rw [hw]
    refine rn_stk [.int (1 : Int32)] rfl ?_
    refine rn_istore dL_law_744 (by decide) [(0, .ref G.2.2.2.2.1.1), (1, .ref o_sg), (2, .ref o_m), (3, .ref o_out), (4, .int (1 : Int32)), (5, .int (1 : Int32))] rfl ?_
    refine rn_aload_n (i := 2) dL_law_746 rfl rfl ?_
    refine rn_aload_n (i := 0) dL_law_747 rfl rfl ?_
    refine rn_iload dL_law_748 rfl ?_
    refine rn_iconst (v := (1 : Int32)) dL_law_750 (by decide) ?_
    refine rn_iadd dL_law_751 ?_
    refine rn_topi (2 : Int32) (by decide) ?_
    refine rn_sld (by rw [hL]; unfold vp_in; decide) dL_law_752 ?_
    refine rn_topi sc2 se2 ?_
    refine rn_aload_n (i := 0) dL_law_753 rfl rfl ?_
    refine rn_iload dL_law_754 rfl ?_
    refine rn_iconst (v := (2 : Int32)) dL_law_756 (by decide) ?_
    refine rn_iadd dL_law_757 ?_
    refine rn_topi (3 : Int32) (by decide) ?_
    refine rn_sld (by rw [hL]; unfold vp_in; decide) dL_law_758 ?_
    refine rn_topi sc3 se3 ?_
    refine rn_aload_n (i := 0) dL_law_759 rfl rfl ?_
    refine rn_iload dL_law_760 rfl ?_
    refine rn_iconst (v := (3 : Int32)) dL_law_762 (by decide) ?_
    refine rn_iadd dL_law_763 ?_
    refine rn_topi (4 : Int32) (by decide) ?_
    refine rn_sld (by rw [hL]; unfold vp_in; decide) dL_law_764 ?_
    refine rn_topi sc4 se4 ?_
    refine rn_callV (a := 0) (b := 0) [.int sc2, .int sc3, .int sc4] kl_SGLaw_143 dL_law_765 23 h_m rfl (c_X10_meant G _ (o_m := o_m) (x := sc2) (y := sc3) (u := sc4) (fs_m := fs_m) h_m hf_m_0 hf_m_19 hf_m_20 hf_m_21) rfl rfl (Nat.le_of_ble_eq_true rfl) (Nat.le_of_ble_eq_true rfl) (Nat.le_of_ble_eq_true rfl) (Nat.le_of_ble_eq_true rfl) (Nat.le_of_ble_eq_true rfl) (Nat.le_of_ble_eq_true rfl) (by rintro E w h; rcases h with ⟨_, hr, _⟩ | ⟨_, hr, _⟩ <;> cases hr) ?_
    rintro v w h
    rcases h with ⟨hc, hr, hw⟩ | ⟨hc, hr, hw⟩
    · have hc2 := hc; clear hc; cases hr
      have hw3 : w[23]? = some (o_m, Sum.inr (10, ((fs_m.set 0 (.int (0 : Int32))).set 0 (.int (1 : Int32))))) := by rw [hw, List.getElem?_set_self (by (try simp only [List.length_set, List.length_append, List.length_cons, List.length_nil]); have hq := ls_lt h_m; omega)]
      have hw4 : w[62]? = some (o_out, Sum.inl (rn_k G 2, 1, Sum.inr (Sum.inl (fun _ => 0)))) := by rw [hw, List.getElem?_set_ne (by decide), List.getElem?_set_ne (by decide), h_out]
      refine rn_stk [] rfl ?_
      refine rn_aload_n (i := 2) dL_law_768 rfl rfl ?_
      refine rn_callV (a := 0) (b := 0) [] kl_SGLaw_110 dL_law_769 23 hw3 rfl (c_X10_thrown G _ (o_m := o_m) (fs_m := ((fs_m.set 0 (.int (0 : Int32))).set 0 (.int (1 : Int32)))) (th := (1 : Int32)) hw3 (ls_eq (ls_eq hf_m_0))) rfl rfl (Nat.le_of_ble_eq_true rfl) (Nat.le_of_ble_eq_true rfl) (Nat.le_of_ble_eq_true rfl) (Nat.le_of_ble_eq_true rfl) (Nat.le_of_ble_eq_true rfl) (Nat.le_of_ble_eq_true rfl) (by rintro E w h; rcases h with ⟨_, hr, _⟩ <;> cases hr) ?_
      rintro v w h
      obtain ⟨hc5, hr, hw⟩ := h; cases hr; rw [hw]
      refine rn_stk [.int (1 : Int32)] rfl ?_
      refine rn_iload dL_law_772 rfl ?_
      refine rn_icmp_eq (tgt := 779) dL_law_774 (by decide) (fun h6 => ?_) (fun h6 => absurd h6 (by decide))
      refine rn_goto (tgt := 1865) dL_law_779 (by decide) ?_
      refine rn_lv [(0, .ref G.2.2.2.2.1.1), (1, .ref o_sg), (2, .ref o_m), (3, .ref o_out), (4, .int (1 : Int32))] rfl ?_
      exact law_end G _ hL _ _ _
    · have hc7 := hc; clear hc; cases hr
      exfalso; have g0 := i32_rng sc2; have g1 := i32_rng sc3; have g2 := i32_rng sc4; simp only [Int32.lt_iff_toInt_lt, Int32.le_iff_toInt_le, gt_iff_lt, ge_iff_le, ← Int32.toInt_inj, i32_0, i32_255, i32_65535] at *; omega
  · have hc8 := hc; clear hc; cases hr
    have hw9 : w[23]? = some (o_m, Sum.inr (10, fs_m)) := by rw [hw, List.getElem?_set_ne (by decide), List.getElem?_set_ne (by decide), List.getElem?_set_ne (by decide), h_m]
    have hw10 : w[62]? = some (o_out, Sum.inl (rn_k G 2, 1, Sum.inr (Sum.inl (fun _ => 0)))) := by rw [hw, List.getElem?_set_ne (by decide), List.getElem?_set_ne (by decide), List.getElem?_set_ne (by decide), h_out]
    refine rn_stk [.int (0 : Int32)] rfl ?_
    refine rn_istore dL_law_744 (by decide) [(0, .ref G.2.2.2.2.1.1), (1, .ref o_sg), (2, .ref o_m), (3, .ref o_out), (4, .int (1 : Int32)), (5, .int (0 : Int32))] rfl ?_
    refine rn_aload_n (i := 2) dL_law_746 rfl rfl ?_
    refine rn_aload_n (i := 0) dL_law_747 rfl rfl ?_
    refine rn_iload dL_law_748 rfl ?_
    refine rn_iconst (v := (1 : Int32)) dL_law_750 (by decide) ?_
    refine rn_iadd dL_law_751 ?_
    refine rn_topi (2 : Int32) (by decide) ?_
    refine rn_sld (by rw [hL]; unfold vp_in; decide) dL_law_752 ?_
    refine rn_topi sc2 se2 ?_
    refine rn_aload_n (i := 0) dL_law_753 rfl rfl ?_
    refine rn_iload dL_law_754 rfl ?_
    refine rn_iconst (v := (2 : Int32)) dL_law_756 (by decide) ?_
    refine rn_iadd dL_law_757 ?_
    refine rn_topi (3 : Int32) (by decide) ?_
    refine rn_sld (by rw [hL]; unfold vp_in; decide) dL_law_758 ?_
    refine rn_topi sc3 se3 ?_
    refine rn_aload_n (i := 0) dL_law_759 rfl rfl ?_
    refine rn_iload dL_law_760 rfl ?_
    refine rn_iconst (v := (3 : Int32)) dL_law_762 (by decide) ?_
    refine rn_iadd dL_law_763 ?_
    refine rn_topi (4 : Int32) (by decide) ?_
    refine rn_sld (by rw [hL]; unfold vp_in; decide) dL_law_764 ?_
    refine rn_topi sc4 se4 ?_
    refine rn_callV (a := 0) (b := 0) [.int sc2, .int sc3, .int sc4] kl_SGLaw_143 dL_law_765 23 hw9 rfl (c_X10_meant G _ (o_m := o_m) (x := sc2) (y := sc3) (u := sc4) (fs_m := fs_m) hw9 hf_m_0 hf_m_19 hf_m_20 hf_m_21) rfl rfl (Nat.le_of_ble_eq_true rfl) (Nat.le_of_ble_eq_true rfl) (Nat.le_of_ble_eq_true rfl) (Nat.le_of_ble_eq_true rfl) (Nat.le_of_ble_eq_true rfl) (Nat.le_of_ble_eq_true rfl) (by rintro E w h; rcases h with ⟨_, hr, _⟩ | ⟨_, hr, _⟩ <;> cases hr) ?_
    rintro v w h
    rcases h with ⟨hc, hr, hw⟩ | ⟨hc, hr, hw⟩
    · have hc11 := hc; clear hc; cases hr
      exfalso; have g0 := i32_rng sc2; have g1 := i32_rng sc3; have g2 := i32_rng sc4; simp only [Int32.lt_iff_toInt_lt, Int32.le_iff_toInt_le, gt_iff_lt, ge_iff_le, ← Int32.toInt_inj, i32_0, i32_1, i32_255, i32_65535] at *; omega
    · have hc12 := hc; clear hc; cases hr
      have hw13 : w[23]? = some (o_m, Sum.inr (10, ((((fs_m.set 0 (.int (0 : Int32))).set 19 (.int sc2)).set 20 (.int sc3)).set 21 (.int sc4)))) := by rw [hw, List.getElem?_set_self (by (try simp only [List.length_set, List.length_append, List.length_cons, List.length_nil]); have hq := ls_lt hw9; omega)]
      have hw14 : w[62]? = some (o_out, Sum.inl (rn_k G 2, 1, Sum.inr (Sum.inl (fun _ => 0)))) := by rw [hw, List.getElem?_set_ne (by decide), List.getElem?_set_ne (by decide), List.getElem?_set_ne (by decide), List.getElem?_set_ne (by decide), hw10]
      refine rn_stk [] rfl ?_
      refine rn_aload_n (i := 2) dL_law_768 rfl rfl ?_
      refine rn_callV (a := 0) (b := 0) [] kl_SGLaw_110 dL_law_769 23 hw13 rfl (c_X10_thrown G _ (o_m := o_m) (fs_m := ((((fs_m.set 0 (.int (0 : Int32))).set 19 (.int sc2)).set 20 (.int sc3)).set 21 (.int sc4))) (th := (0 : Int32)) hw13 (ls_ne (by decide) (ls_ne (by decide) (ls_ne (by decide) (ls_eq hf_m_0))))) rfl rfl (Nat.le_of_ble_eq_true rfl) (Nat.le_of_ble_eq_true rfl) (Nat.le_of_ble_eq_true rfl) (Nat.le_of_ble_eq_true rfl) (Nat.le_of_ble_eq_true rfl) (Nat.le_of_ble_eq_true rfl) (by rintro E w h; rcases h with ⟨_, hr, _⟩ <;> cases hr) ?_
      rintro v w h
      obtain ⟨hc15, hr, hw⟩ := h; cases hr; rw [hw]
      refine rn_stk [.int (0 : Int32)] rfl ?_
      refine rn_iload dL_law_772 rfl ?_
      refine rn_icmp_eq (tgt := 779) dL_law_774 (by decide) (fun h16 => ?_) (fun h16 => absurd h16 (by decide))
      refine rn_goto (tgt := 1865) dL_law_779 (by decide) ?_
      refine rn_lv [(0, .ref G.2.2.2.2.1.1), (1, .ref o_sg), (2, .ref o_m), (3, .ref o_out), (4, .int (1 : Int32))] rfl ?_
      exact law_end G _ hL _ _ _
