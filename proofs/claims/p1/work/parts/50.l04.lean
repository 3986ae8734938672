set_option maxRecDepth 20000 in
set_option maxHeartbeats 4000000 in
theorem law_9 (G : rn_G) (ws : va_W) (hL : G.2.2.2.2.1.2.1 = 11) (o_sg : Nat) (fs_sg : List Value) (o_pols : Nat) (o_prow : Nat) (fs_pols : List Value) (o_m : Nat) (fs_m : List Value) (a_policyWay : Nat) (a_policyFrom : Nat) (a_policyFromWidth : Nat) (a_policyTo : Nat) (a_policyToWidth : Nat) (a_policyKind : Nat) (a_policyLow : Nat) (a_policyHigh : Nat) (a_policyDone : Nat) (o_out : Nat) (h_sg : ws[0]? = some (o_sg, Sum.inr (9, fs_sg))) (hf_sg_8 : fs_sg[8]? = some (.ref o_pols)) (h_prow : ws[15]? = some (o_prow, Sum.inl (rn_k G 5, 24, Sum.inr (Sum.inr (Sum.inr (Sum.inr (fun _ => none))))))) (h_pols : ws[14]? = some (o_pols, Sum.inr (5, fs_pols))) (hf_pols_0 : fs_pols[0]? = some (.ref o_prow)) (hf_pols_1 : fs_pols[1]? = some (.int (0 : Int32))) (hf_pols_2 : fs_pols[2]? = some (.int (0 : Int32))) (hf_pols_3 : fs_pols[3]? = some (.int (0 : Int32))) (hf_pols_4 : fs_pols[4]? = some (.int (65535 : Int32))) (h_m : ws[23]? = some (o_m, Sum.inr (10, fs_m))) (hf_m_0 : fs_m[0]? = some (.int (0 : Int32))) (hf_m_9 : fs_m[9]? = some (.int (0 : Int32))) (hf_m_10 : fs_m[10]? = some (.ref a_policyWay)) (hf_m_11 : fs_m[11]? = some (.ref a_policyFrom)) (hf_m_12 : fs_m[12]? = some (.ref a_policyFromWidth)) (hf_m_13 : fs_m[13]? = some (.ref a_policyTo)) (hf_m_14 : fs_m[14]? = some (.ref a_policyToWidth)) (hf_m_15 : fs_m[15]? = some (.ref a_policyKind)) (hf_m_16 : fs_m[16]? = some (.ref a_policyLow)) (hf_m_17 : fs_m[17]? = some (.ref a_policyHigh)) (hf_m_18 : fs_m[18]? = some (.ref a_policyDone)) (hf_m_19 : fs_m[19]? = some (.int (0 : Int32))) (hf_m_20 : fs_m[20]? = some (.int (0 : Int32))) (hf_m_21 : fs_m[21]? = some (.int (65535 : Int32))) (h_m_policyWay : ws[29]? = some (a_policyWay, Sum.inl (rn_k G 1, 24, Sum.inl (fun _ => 0)))) (h_m_policyFrom : ws[30]? = some (a_policyFrom, Sum.inl (rn_k G 1, 24, Sum.inl (fun _ => 0)))) (h_m_policyFromWidth : ws[31]? = some (a_policyFromWidth, Sum.inl (rn_k G 1, 24, Sum.inl (fun _ => 0)))) (h_m_policyTo : ws[32]? = some (a_policyTo, Sum.inl (rn_k G 1, 24, Sum.inl (fun _ => 0)))) (h_m_policyToWidth : ws[33]? = some (a_policyToWidth, Sum.inl (rn_k G 1, 24, Sum.inl (fun _ => 0)))) (h_m_policyKind : ws[34]? = some (a_policyKind, Sum.inl (rn_k G 1, 24, Sum.inl (fun _ => 0)))) (h_m_policyLow : ws[35]? = some (a_policyLow, Sum.inl (rn_k G 1, 24, Sum.inl (fun _ => 0)))) (h_m_policyHigh : ws[36]? = some (a_policyHigh, Sum.inl (rn_k G 1, 24, Sum.inl (fun _ => 0)))) (h_m_policyDone : ws[37]? = some (a_policyDone, Sum.inl (rn_k G 1, 24, Sum.inl (fun _ => 0)))) (h_out : ws[62]? = some (o_out, Sum.inl (rn_k G 2, 1, Sum.inr (Sum.inl (fun _ => 0))))) (hlen : ws.length = 63) : Rn G mL_law 8 144 3 11 782 [(0, .ref G.2.2.2.2.1.1), (1, .ref o_sg), (2, .ref o_m), (3, .ref o_out), (4, .int (1 : Int32))] [] ws (fun r _ => r = Sum.inl (some (.int 1))) := by
  obtain ⟨sc2, se2⟩ : ∃ x : Int32, G.2.2.2.2.1.2.2 (2 : Int32).toNatClampNeg = x := ⟨_, rfl⟩
  obtain ⟨sc3, se3⟩ : ∃ x : Int32, G.2.2.2.2.1.2.2 (3 : Int32).toNatClampNeg = x := ⟨_, rfl⟩
  obtain ⟨sc4, se4⟩ : ∃ x : Int32, G.2.2.2.2.1.2.2 (4 : Int32).toNatClampNeg = x := ⟨_, rfl⟩
  obtain ⟨sc5, se5⟩ : ∃ x : Int32, G.2.2.2.2.1.2.2 (5 : Int32).toNatClampNeg = x := ⟨_, rfl⟩
  obtain ⟨sc6, se6⟩ : ∃ x : Int32, G.2.2.2.2.1.2.2 (6 : Int32).toNatClampNeg = x := ⟨_, rfl⟩
  obtain ⟨sc7, se7⟩ : ∃ x : Int32, G.2.2.2.2.1.2.2 (7 : Int32).toNatClampNeg = x := ⟨_, rfl⟩
  refine rn_aload_n (i := 1) dL_law_782 rfl rfl ?_
  refine rn_aload_n (i := 0) dL_law_783 rfl rfl ?_
  refine rn_iload dL_law_784 rfl ?_
  refine rn_iconst (v := (1 : Int32)) dL_law_786 (by decide) ?_
  refine rn_iadd dL_law_787 ?_
  refine rn_topi (2 : Int32) (by decide) ?_
  refine rn_sld (by rw [hL]; unfold vp_in; decide) dL_law_788 ?_
  refine rn_topi sc2 se2 ?_
  refine rn_aload_n (i := 0) dL_law_789 rfl rfl ?_
  refine rn_iload dL_law_790 rfl ?_
  refine rn_iconst (v := (2 : Int32)) dL_law_792 (by decide) ?_
  refine rn_iadd dL_law_793 ?_
  refine rn_topi (3 : Int32) (by decide) ?_
  refine rn_sld (by rw [hL]; unfold vp_in; decide) dL_law_794 ?_
  refine rn_topi sc3 se3 ?_
  refine rn_aload_n (i := 0) dL_law_795 rfl rfl ?_
  refine rn_iload dL_law_796 rfl ?_
  refine rn_iconst (v := (3 : Int32)) dL_law_798 (by decide) ?_
  refine rn_iadd dL_law_799 ?_
  refine rn_topi (4 : Int32) (by decide) ?_
  refine rn_sld (by rw [hL]; unfold vp_in; decide) dL_law_800 ?_
  refine rn_topi sc4 se4 ?_
  refine rn_aload_n (i := 0) dL_law_801 rfl rfl ?_
  refine rn_iload dL_law_802 rfl ?_
  refine rn_iconst (v := (4 : Int32)) dL_law_804 (by decide) ?_
  refine rn_iadd dL_law_805 ?_
  refine rn_topi (5 : Int32) (by decide) ?_
  refine rn_sld (by rw [hL]; unfold vp_in; decide) dL_law_806 ?_
  refine rn_topi sc5 se5 ?_
  refine rn_aload_n (i := 0) dL_law_807 rfl rfl ?_
  refine rn_iload dL_law_808 rfl ?_
  refine rn_iconst (v := (5 : Int32)) dL_law_810 (by decide) ?_
  refine rn_iadd dL_law_811 ?_
  refine rn_topi (6 : Int32) (by decide) ?_
  refine rn_sld (by rw [hL]; unfold vp_in; decide) dL_law_812 ?_
  refine rn_topi sc6 se6 ?_
  refine rn_aload_n (i := 0) dL_law_813 rfl rfl ?_
  refine rn_iload dL_law_814 rfl ?_
  refine rn_bipush (v := (6 : Int32)) dL_law_816 (by decide) ?_
  refine rn_iadd dL_law_818 ?_
  refine rn_topi (7 : Int32) (by decide) ?_
  refine rn_sld (by rw [hL]; unfold vp_in; decide) dL_law_819 ?_
  refine rn_topi sc7 se7 ?_
  refine rn_aload_n (i := 3) dL_law_820 rfl rfl ?_
  refine rn_callSX (a := 0) (b := 0) [.ref o_sg, .int sc2, .int sc3, .int sc4, .int sc5, .int sc6, .int sc7, .ref o_out] kl_SGLaw_144 dL_law_821 (c_L_policy G _ (o_sg := o_sg) (x := sc2) (y := sc3) (u := sc4) (x1 := sc5) (x2 := sc6) (x3 := sc7) (o_out := o_out) (fs_sg := fs_sg) (o_pols := o_pols) (o_prow := o_prow) (fs_pols := fs_pols) (L := 63) h_sg hf_sg_8 h_prow h_pols hf_pols_0 hf_pols_1 hf_pols_2 hf_pols_3 hf_pols_4 h_out (by decide) (by decide) (by decide) (by decide) (by decide) (by decide) (by decide) (by decide) (by decide) hlen) rfl rfl (Nat.le_of_ble_eq_true rfl) (Nat.le_of_ble_eq_true rfl) (Nat.le_of_ble_eq_true rfl) (Nat.le_of_ble_eq_true rfl) (Nat.le_of_ble_eq_true rfl) (Nat.le_of_ble_eq_true rfl) (by rintro E w h; rcases h with ⟨_, hr, _⟩ | ⟨_, _, _, _, hr, _⟩ <;> cases hr) ?_
  rintro v w h
  rcases h with ⟨hc, hr, hw⟩ | ⟨q1, q2, q3, hc, hr, hw⟩
  · have hc4 := hc; clear hc; cases hr; rw [hw]
    refine rn_stk [.int (1 : Int32)] rfl ?_
    refine rn_istore dL_law_824 (by decide) [(0, .ref G.2.2.2.2.1.1), (1, .ref o_sg), (2, .ref o_m), (3, .ref o_out), (4, .int (1 : Int32)), (5, .int (1 : Int32))] rfl ?_
    refine rn_aload_n (i := 2) dL_law_826 rfl rfl ?_
    refine rn_aload_n (i := 0) dL_law_827 rfl rfl ?_
    refine rn_iload dL_law_828 rfl ?_
    refine rn_iconst (v := (1 : Int32)) dL_law_830 (by decide) ?_
    refine rn_iadd dL_law_831 ?_
    refine rn_topi (2 : Int32) (by decide) ?_
    refine rn_sld (by rw [hL]; unfold vp_in; decide) dL_law_832 ?_
    refine rn_topi sc2 se2 ?_
    refine rn_aload_n (i := 0) dL_law_833 rfl rfl ?_
    refine rn_iload dL_law_834 rfl ?_
    refine rn_iconst (v := (2 : Int32)) dL_law_836 (by decide) ?_
    refine rn_iadd dL_law_837 ?_
    refine rn_topi (3 : Int32) (by decide) ?_
    refine rn_sld (by rw [hL]; unfold vp_in; decide) dL_law_838 ?_
    refine rn_topi sc3 se3 ?_
    refine rn_aload_n (i := 0) dL_law_839 rfl rfl ?_
    refine rn_iload dL_law_840 rfl ?_
    refine rn_iconst (v := (3 : Int32)) dL_law_842 (by decide) ?_
    refine rn_iadd dL_law_843 ?_
    refine rn_topi (4 : Int32) (by decide) ?_
    refine rn_sld (by rw [hL]; unfold vp_in; decide) dL_law_844 ?_
    refine rn_topi sc4 se4 ?_
    refine rn_aload_n (i := 0) dL_law_845 rfl rfl ?_
    refine rn_iload dL_law_846 rfl ?_
    refine rn_iconst (v := (4 : Int32)) dL_law_848 (by decide) ?_
    refine rn_iadd dL_law_849 ?_
    refine rn_topi (5 : Int32) (by decide) ?_
    refine rn_sld (by rw [hL]; unfold vp_in; decide) dL_law_850 ?_
    refine rn_topi sc5 se5 ?_
    refine rn_aload_n (i := 0) dL_law_851 rfl rfl ?_
    refine rn_iload dL_law_852 rfl ?_
    refine rn_iconst (v := (5 : Int32)) dL_law_854 (by decide) ?_
    refine rn_iadd dL_law_855 ?_
    refine rn_topi (6 : Int32) (by decide) ?_
    refine rn_sld (by rw [hL]; unfold vp_in; decide) dL_law_856 ?_
    refine rn_topi sc6 se6 ?_
    refine rn_aload_n (i := 0) dL_law_857 rfl rfl ?_
    refine rn_iload dL_law_858 rfl ?_
    refine rn_bipush (v := (6 : Int32)) dL_law_860 (by decide) ?_
    refine rn_iadd dL_law_862 ?_
    refine rn_topi (7 : Int32) (by decide) ?_
    refine rn_sld (by rw [hL]; unfold vp_in; decide) dL_law_863 ?_
    refine rn_topi sc7 se7 ?_
    refine rn_callV (a := 0) (b := 0) [.int sc2, .int sc3, .int sc4, .int sc5, .int sc6, .int sc7] kl_SGLaw_146 dL_law_864 23 h_m rfl (c_X10_policy G _ (o_m := o_m) (x := sc2) (y := sc3) (u := sc4) (x1 := sc5) (x2 := sc6) (x3 := sc7) (fs_m := fs_m) (a_policyWay := a_policyWay) (a_policyFrom := a_policyFrom) (a_policyFromWidth := a_policyFromWidth) (a_policyTo := a_policyTo) (a_policyToWidth := a_policyToWidth) (a_policyKind := a_policyKind) (a_policyLow := a_policyLow) (a_policyHigh := a_policyHigh) (a_policyDone := a_policyDone) h_m hf_m_0 hf_m_9 hf_m_10 hf_m_11 hf_m_12 hf_m_13 hf_m_14 hf_m_15 hf_m_16 hf_m_17 hf_m_18 hf_m_19 hf_m_20 hf_m_21 h_m_policyWay h_m_policyFrom h_m_policyFromWidth h_m_policyTo h_m_policyToWidth h_m_policyKind h_m_policyLow h_m_policyHigh h_m_policyDone) rfl rfl (Nat.le_of_ble_eq_true rfl) (Nat.le_of_ble_eq_true rfl) (Nat.le_of_ble_eq_true rfl) (Nat.le_of_ble_eq_true rfl) (Nat.le_of_ble_eq_true rfl) (Nat.le_of_ble_eq_true rfl) (by rintro E w h; rcases h with ⟨_, hr, _⟩ | ⟨_, hr, _⟩ <;> cases hr) ?_
    rintro v w h
    rcases h with ⟨hc, hr, hw⟩ | ⟨hc, hr, hw⟩
    · have hc5 := hc; clear hc; cases hr
      have hw6 : w[23]? = some (o_m, Sum.inr (10, ((fs_m.set 0 (.int (0 : Int32))).set 0 (.int (1 : Int32))))) := by rw [hw, List.getElem?_set_self (by (try simp only [List.length_set, List.length_append, List.length_cons, List.length_nil]); have hq := ls_lt h_m; omega)]
      have hw7 : w[62]? = some (o_out, Sum.inl (rn_k G 2, 1, Sum.inr (Sum.inl (fun _ => 0)))) := by rw [hw, List.getElem?_set_ne (by decide), List.getElem?_set_ne (by decide), h_out]
      refine rn_stk [.int (0 : Int32)] rfl ?_
      refine rn_istore dL_law_867 (by decide) [(0, .ref G.2.2.2.2.1.1), (1, .ref o_sg), (2, .ref o_m), (3, .ref o_out), (4, .int (1 : Int32)), (5, .int (1 : Int32)), (6, .int (0 : Int32))] rfl ?_
      refine rn_aload_n (i := 2) dL_law_869 rfl rfl ?_
      refine rn_callV (a := 0) (b := 0) [] kl_SGLaw_110 dL_law_870 23 hw6 rfl (c_X10_thrown G _ (o_m := o_m) (fs_m := ((fs_m.set 0 (.int (0 : Int32))).set 0 (.int (1 : Int32)))) (th := (1 : Int32)) hw6 (ls_eq (ls_eq hf_m_0))) rfl rfl (Nat.le_of_ble_eq_true rfl) (Nat.le_of_ble_eq_true rfl) (Nat.le_of_ble_eq_true rfl) (Nat.le_of_ble_eq_true rfl) (Nat.le_of_ble_eq_true rfl) (Nat.le_of_ble_eq_true rfl) (by rintro E w h; rcases h with ⟨_, hr, _⟩ <;> cases hr) ?_
      rintro v w h
      obtain ⟨hc8, hr, hw⟩ := h; cases hr; rw [hw]
      refine rn_stk [.int (1 : Int32)] rfl ?_
      refine rn_iload dL_law_873 rfl ?_
      refine rn_icmp_eq (tgt := 880) dL_law_875 (by decide) (fun h9 => ?_) (fun h9 => absurd h9 (by decide))
      refine rn_iload dL_law_880 rfl ?_
      refine rn_if_ne (tgt := 897) dL_law_882 (by decide) (fun h10 => ?_) (fun h10 => absurd h10 (by decide))
      refine rn_goto (tgt := 1865) dL_law_897 (by decide) ?_
      refine rn_lv [(0, .ref G.2.2.2.2.1.1), (1, .ref o_sg), (2, .ref o_m), (3, .ref o_out), (4, .int (1 : Int32))] rfl ?_
      exact law_end G _ hL _ _ _
    · have hc11 := hc; clear hc; cases hr
      exfalso; have g0 := i32_rng sc2; have g1 := i32_rng sc4; have g2 := i32_rng sc6; have g3 := i32_rng sc7; simp only [Int32.lt_iff_toInt_lt, Int32.le_iff_toInt_le, gt_iff_lt, ge_iff_le, ← Int32.toInt_inj, i32_m2, i32_0, i32_1, i32_3, i32_4, i32_32] at *; omega
  · have hc12 := hc; clear hc; cases hr
    have hw13 : w[23]? = some (o_m, Sum.inr (10, fs_m)) := by rw [hw, List.getElem?_set_ne (by decide), List.getElem?_set_ne (by decide), List.getElem?_set_ne (by decide), List.getElem?_set_ne (by decide), List.getElem?_set_ne (by decide), List.getElem?_set_ne (by decide), List.getElem?_set_ne (by decide), List.getElem?_set_ne (by decide), List.getElem?_set_ne (by decide), List.getElem?_set_ne (by decide), List.getElem?_set_ne (by decide), List.getElem?_set_ne (by decide), List.getElem?_set_ne (by decide), List.getElem?_append_left (by (try simp only [List.length_set, List.length_append, List.length_cons, List.length_nil]); have hq := ls_lt h_m; omega), List.getElem?_set_ne (by decide), List.getElem?_set_ne (by decide), List.getElem?_append_left (by (try simp only [List.length_set, List.length_append, List.length_cons, List.length_nil]); have hq := ls_lt h_m; omega), List.getElem?_set_ne (by decide), List.getElem?_set_ne (by decide), List.getElem?_append_left (by (try simp only [List.length_set, List.length_append, List.length_cons, List.length_nil]); have hq := ls_lt h_m; omega), h_m]
    have hw14 : w[29]? = some (a_policyWay, Sum.inl (rn_k G 1, 24, Sum.inl (fun _ => 0))) := by rw [hw, List.getElem?_set_ne (by decide), List.getElem?_set_ne (by decide), List.getElem?_set_ne (by decide), List.getElem?_set_ne (by decide), List.getElem?_set_ne (by decide), List.getElem?_set_ne (by decide), List.getElem?_set_ne (by decide), List.getElem?_set_ne (by decide), List.getElem?_set_ne (by decide), List.getElem?_set_ne (by decide), List.getElem?_set_ne (by decide), List.getElem?_set_ne (by decide), List.getElem?_set_ne (by decide), List.getElem?_append_left (by (try simp only [List.length_set, List.length_append, List.length_cons, List.length_nil]); have hq := ls_lt h_m_policyWay; omega), List.getElem?_set_ne (by decide), List.getElem?_set_ne (by decide), List.getElem?_append_left (by (try simp only [List.length_set, List.length_append, List.length_cons, List.length_nil]); have hq := ls_lt h_m_policyWay; omega), List.getElem?_set_ne (by decide), List.getElem?_set_ne (by decide), List.getElem?_append_left (by (try simp only [List.length_set, List.length_append, List.length_cons, List.length_nil]); have hq := ls_lt h_m_policyWay; omega), h_m_policyWay]
    have hw15 : w[30]? = some (a_policyFrom, Sum.inl (rn_k G 1, 24, Sum.inl (fun _ => 0))) := by rw [hw, List.getElem?_set_ne (by decide), List.getElem?_set_ne (by decide), List.getElem?_set_ne (by decide), List.getElem?_set_ne (by decide), List.getElem?_set_ne (by decide), List.getElem?_set_ne (by decide), List.getElem?_set_ne (by decide), List.getElem?_set_ne (by decide), List.getElem?_set_ne (by decide), List.getElem?_set_ne (by decide), List.getElem?_set_ne (by decide), List.getElem?_set_ne (by decide), List.getElem?_set_ne (by decide), List.getElem?_append_left (by (try simp only [List.length_set, List.length_append, List.length_cons, List.length_nil]); have hq := ls_lt h_m_policyFrom; omega), List.getElem?_set_ne (by decide), List.getElem?_set_ne (by decide), List.getElem?_append_left (by (try simp only [List.length_set, List.length_append, List.length_cons, List.length_nil]); have hq := ls_lt h_m_policyFrom; omega), List.getElem?_set_ne (by decide), List.getElem?_set_ne (by decide), List.getElem?_append_left (by (try simp only [List.length_set, List.length_append, List.length_cons, List.length_nil]); have hq := ls_lt h_m_policyFrom; omega), h_m_policyFrom]
    have hw16 : w[31]? = some (a_policyFromWidth, Sum.inl (rn_k G 1, 24, Sum.inl (fun _ => 0))) := by rw [hw, List.getElem?_set_ne (by decide), List.getElem?_set_ne (by decide), List.getElem?_set_ne (by decide), List.getElem?_set_ne (by decide), List.getElem?_set_ne (by decide), List.getElem?_set_ne (by decide), List.getElem?_set_ne (by decide), List.getElem?_set_ne (by decide), List.getElem?_set_ne (by decide), List.getElem?_set_ne (by decide), List.getElem?_set_ne (by decide), List.getElem?_set_ne (by decide), List.getElem?_set_ne (by decide), List.getElem?_append_left (by (try simp only [List.length_set, List.length_append, List.length_cons, List.length_nil]); have hq := ls_lt h_m_policyFromWidth; omega), List.getElem?_set_ne (by decide), List.getElem?_set_ne (by decide), List.getElem?_append_left (by (try simp only [List.length_set, List.length_append, List.length_cons, List.length_nil]); have hq := ls_lt h_m_policyFromWidth; omega), List.getElem?_set_ne (by decide), List.getElem?_set_ne (by decide), List.getElem?_append_left (by (try simp only [List.length_set, List.length_append, List.length_cons, List.length_nil]); have hq := ls_lt h_m_policyFromWidth; omega), h_m_policyFromWidth]
    have hw17 : w[32]? = some (a_policyTo, Sum.inl (rn_k G 1, 24, Sum.inl (fun _ => 0))) := by rw [hw, List.getElem?_set_ne (by decide), List.getElem?_set_ne (by decide), List.getElem?_set_ne (by decide), List.getElem?_set_ne (by decide), List.getElem?_set_ne (by decide), List.getElem?_set_ne (by decide), List.getElem?_set_ne (by decide), List.getElem?_set_ne (by decide), List.getElem?_set_ne (by decide), List.getElem?_set_ne (by decide), List.getElem?_set_ne (by decide), List.getElem?_set_ne (by decide), List.getElem?_set_ne (by decide), List.getElem?_append_left (by (try simp only [List.length_set, List.length_append, List.length_cons, List.length_nil]); have hq := ls_lt h_m_policyTo; omega), List.getElem?_set_ne (by decide), List.getElem?_set_ne (by decide), List.getElem?_append_left (by (try simp only [List.length_set, List.length_append, List.length_cons, List.length_nil]); have hq := ls_lt h_m_policyTo; omega), List.getElem?_set_ne (by decide), List.getElem?_set_ne (by decide), List.getElem?_append_left (by (try simp only [List.length_set, List.length_append, List.length_cons, List.length_nil]); have hq := ls_lt h_m_policyTo; omega), h_m_policyTo]
    have hw18 : w[33]? = some (a_policyToWidth, Sum.inl (rn_k G 1, 24, Sum.inl (fun _ => 0))) := by rw [hw, List.getElem?_set_ne (by decide), List.getElem?_set_ne (by decide), List.getElem?_set_ne (by decide), List.getElem?_set_ne (by decide), List.getElem?_set_ne (by decide), List.getElem?_set_ne (by decide), List.getElem?_set_ne (by decide), List.getElem?_set_ne (by decide), List.getElem?_set_ne (by decide), List.getElem?_set_ne (by decide), List.getElem?_set_ne (by decide), List.getElem?_set_ne (by decide), List.getElem?_set_ne (by decide), List.getElem?_append_left (by (try simp only [List.length_set, List.length_append, List.length_cons, List.length_nil]); have hq := ls_lt h_m_policyToWidth; omega), List.getElem?_set_ne (by decide), List.getElem?_set_ne (by decide), List.getElem?_append_left (by (try simp only [List.length_set, List.length_append, List.length_cons, List.length_nil]); have hq := ls_lt h_m_policyToWidth; omega), List.getElem?_set_ne (by decide), List.getElem?_set_ne (by decide), List.getElem?_append_left (by (try simp only [List.length_set, List.length_append, List.length_cons, List.length_nil]); have hq := ls_lt h_m_policyToWidth; omega), h_m_policyToWidth]
    have hw19 : w[34]? = some (a_policyKind, Sum.inl (rn_k G 1, 24, Sum.inl (fun _ => 0))) := by rw [hw, List.getElem?_set_ne (by decide), List.getElem?_set_ne (by decide), List.getElem?_set_ne (by decide), List.getElem?_set_ne (by decide), List.getElem?_set_ne (by decide), List.getElem?_set_ne (by decide), List.getElem?_set_ne (by decide), List.getElem?_set_ne (by decide), List.getElem?_set_ne (by decide), List.getElem?_set_ne (by decide), List.getElem?_set_ne (by decide), List.getElem?_set_ne (by decide), List.getElem?_set_ne (by decide), List.getElem?_append_left (by (try simp only [List.length_set, List.length_append, List.length_cons, List.length_nil]); have hq := ls_lt h_m_policyKind; omega), List.getElem?_set_ne (by decide), List.getElem?_set_ne (by decide), List.getElem?_append_left (by (try simp only [List.length_set, List.length_append, List.length_cons, List.length_nil]); have hq := ls_lt h_m_policyKind; omega), List.getElem?_set_ne (by decide), List.getElem?_set_ne (by decide), List.getElem?_append_left (by (try simp only [List.length_set, List.length_append, List.length_cons, List.length_nil]); have hq := ls_lt h_m_policyKind; omega), h_m_policyKind]
    have hw20 : w[35]? = some (a_policyLow, Sum.inl (rn_k G 1, 24, Sum.inl (fun _ => 0))) := by rw [hw, List.getElem?_set_ne (by decide), List.getElem?_set_ne (by decide), List.getElem?_set_ne (by decide), List.getElem?_set_ne (by decide), List.getElem?_set_ne (by decide), List.getElem?_set_ne (by decide), List.getElem?_set_ne (by decide), List.getElem?_set_ne (by decide), List.getElem?_set_ne (by decide), List.getElem?_set_ne (by decide), List.getElem?_set_ne (by decide), List.getElem?_set_ne (by decide), List.getElem?_set_ne (by decide), List.getElem?_append_left (by (try simp only [List.length_set, List.length_append, List.length_cons, List.length_nil]); have hq := ls_lt h_m_policyLow; omega), List.getElem?_set_ne (by decide), List.getElem?_set_ne (by decide), List.getElem?_append_left (by (try simp only [List.length_set, List.length_append, List.length_cons, List.length_nil]); have hq := ls_lt h_m_policyLow; omega), List.getElem?_set_ne (by decide), List.getElem?_set_ne (by decide), List.getElem?_append_left (by (try simp only [List.length_set, List.length_append, List.length_cons, List.length_nil]); have hq := ls_lt h_m_policyLow; omega), h_m_policyLow]
    have hw21 : w[36]? = some (a_policyHigh, Sum.inl (rn_k G 1, 24, Sum.inl (fun _ => 0))) := by rw [hw, List.getElem?_set_ne (by decide), List.getElem?_set_ne (by decide), List.getElem?_set_ne (by decide), List.getElem?_set_ne (by decide), List.getElem?_set_ne (by decide), List.getElem?_set_ne (by decide), List.getElem?_set_ne (by decide), List.getElem?_set_ne (by decide), List.getElem?_set_ne (by decide), List.getElem?_set_ne (by decide), List.getElem?_set_ne (by decide), List.getElem?_set_ne (by decide), List.getElem?_set_ne (by decide), List.getElem?_append_left (by (try simp only [List.length_set, List.length_append, List.length_cons, List.length_nil]); have hq := ls_lt h_m_policyHigh; omega), List.getElem?_set_ne (by decide), List.getElem?_set_ne (by decide), List.getElem?_append_left (by (try simp only [List.length_set, List.length_append, List.length_cons, List.length_nil]); have hq := ls_lt h_m_policyHigh; omega), List.getElem?_set_ne (by decide), List.getElem?_set_ne (by decide), List.getElem?_append_left (by (try simp only [List.length_set, List.length_append, List.length_cons, List.length_nil]); have hq := ls_lt h_m_policyHigh; omega), h_m_policyHigh]
    have hw22 : w[37]? = some (a_policyDone, Sum.inl (rn_k G 1, 24, Sum.inl (fun _ => 0))) := by rw [hw, List.getElem?_set_ne (by decide), List.getElem?_set_ne (by decide), List.getElem?_set_ne (by decide), List.getElem?_set_ne (by decide), List.getElem?_set_ne (by decide), List.getElem?_set_ne (by decide), List.getElem?_set_ne (by decide), List.getElem?_set_ne (by decide), List.getElem?_set_ne (by decide), List.getElem?_set_ne (by decide), List.getElem?_set_ne (by decide), List.getElem?_set_ne (by decide), List.getElem?_set_ne (by decide), List.getElem?_append_left (by (try simp only [List.length_set, List.length_append, List.length_cons, List.length_nil]); have hq := ls_lt h_m_policyDone; omega), List.getElem?_set_ne (by decide), List.getElem?_set_ne (by decide), List.getElem?_append_left (by (try simp only [List.length_set, List.length_append, List.length_cons, List.length_nil]); have hq := ls_lt h_m_policyDone; omega), List.getElem?_set_ne (by decide), List.getElem?_set_ne (by decide), List.getElem?_append_left (by (try simp only [List.length_set, List.length_append, List.length_cons, List.length_nil]); have hq := ls_lt h_m_policyDone; omega), h_m_policyDone]
    have hw23 : w[62]? = some (o_out, Sum.inl (rn_k G 2, 1, Sum.inr (Sum.inl (vp_updL (fun _ => 0) ((0 : Int32)).toNatClampNeg (1 : Int64))))) := by rw [hw, List.getElem?_set_self (by (try simp only [List.length_set, List.length_append, List.length_cons, List.length_nil]); have hq := ls_lt h_out; omega)]
    refine rn_stk [.int (0 : Int32)] rfl ?_
    refine rn_istore dL_law_824 (by decide) [(0, .ref G.2.2.2.2.1.1), (1, .ref o_sg), (2, .ref o_m), (3, .ref o_out), (4, .int (1 : Int32)), (5, .int (0 : Int32))] rfl ?_
    refine rn_aload_n (i := 2) dL_law_826 rfl rfl ?_
    refine rn_aload_n (i := 0) dL_law_827 rfl rfl ?_
    refine rn_iload dL_law_828 rfl ?_
    refine rn_iconst (v := (1 : Int32)) dL_law_830 (by decide) ?_
    refine rn_iadd dL_law_831 ?_
    refine rn_topi (2 : Int32) (by decide) ?_
    refine rn_sld (by rw [hL]; unfold vp_in; decide) dL_law_832 ?_
    refine rn_topi sc2 se2 ?_
    refine rn_aload_n (i := 0) dL_law_833 rfl rfl ?_
    refine rn_iload dL_law_834 rfl ?_
    refine rn_iconst (v := (2 : Int32)) dL_law_836 (by decide) ?_
    refine rn_iadd dL_law_837 ?_
    refine rn_topi (3 : Int32) (by decide) ?_
    refine rn_sld (by rw [hL]; unfold vp_in; decide) dL_law_838 ?_
    refine rn_topi sc3 se3 ?_
    refine rn_aload_n (i := 0) dL_law_839 rfl rfl ?_
    refine rn_iload dL_law_840 rfl ?_
    refine rn_iconst (v := (3 : Int32)) dL_law_842 (by decide) ?_
    refine rn_iadd dL_law_843 ?_
    refine rn_topi (4 : Int32) (by decide) ?_
    refine rn_sld (by rw [hL]; unfold vp_in; decide) dL_law_844 ?_
    refine rn_topi sc4 se4 ?_
    refine rn_aload_n (i := 0) dL_law_845 rfl rfl ?_
    refine rn_iload dL_law_846 rfl ?_
    refine rn_iconst (v := (4 : Int32)) dL_law_848 (by decide) ?_
    refine rn_iadd dL_law_849 ?_
    refine rn_topi (5 : Int32) (by decide) ?_
    refine rn_sld (by rw [hL]; unfold vp_in; decide) dL_law_850 ?_
    refine rn_topi sc5 se5 ?_
    refine rn_aload_n (i := 0) dL_law_851 rfl rfl ?_
    refine rn_iload dL_law_852 rfl ?_
    refine rn_iconst (v := (5 : Int32)) dL_law_854 (by decide) ?_
    refine rn_iadd dL_law_855 ?_
    refine rn_topi (6 : Int32) (by decide) ?_
    refine rn_sld (by rw [hL]; unfold vp_in; decide) dL_law_856 ?_
    refine rn_topi sc6 se6 ?_
    refine rn_aload_n (i := 0) dL_law_857 rfl rfl ?_
    refine rn_iload dL_law_858 rfl ?_
    refine rn_bipush (v := (6 : Int32)) dL_law_860 (by decide) ?_
    refine rn_iadd dL_law_862 ?_
    refine rn_topi (7 : Int32) (by decide) ?_
    refine rn_sld (by rw [hL]; unfold vp_in; decide) dL_law_863 ?_
    refine rn_topi sc7 se7 ?_
    refine rn_callV (a := 0) (b := 0) [.int sc2, .int sc3, .int sc4, .int sc5, .int sc6, .int sc7] kl_SGLaw_146 dL_law_864 23 hw13 rfl (c_X10_policy G _ (o_m := o_m) (x := sc2) (y := sc3) (u := sc4) (x1 := sc5) (x2 := sc6) (x3 := sc7) (fs_m := fs_m) (a_policyWay := a_policyWay) (a_policyFrom := a_policyFrom) (a_policyFromWidth := a_policyFromWidth) (a_policyTo := a_policyTo) (a_policyToWidth := a_policyToWidth) (a_policyKind := a_policyKind) (a_policyLow := a_policyLow) (a_policyHigh := a_policyHigh) (a_policyDone := a_policyDone) hw13 hf_m_0 hf_m_9 hf_m_10 hf_m_11 hf_m_12 hf_m_13 hf_m_14 hf_m_15 hf_m_16 hf_m_17 hf_m_18 hf_m_19 hf_m_20 hf_m_21 hw14 hw15 hw16 hw17 hw18 hw19 hw20 hw21 hw22) rfl rfl (Nat.le_of_ble_eq_true rfl) (Nat.le_of_ble_eq_true rfl) (Nat.le_of_ble_eq_true rfl) (Nat.le_of_ble_eq_true rfl) (Nat.le_of_ble_eq_true rfl) (Nat.le_of_ble_eq_true rfl) (by rintro E w h; rcases h with ⟨_, hr, _⟩ | ⟨_, hr, _⟩ <;> cases hr) ?_
    rintro v w h
    rcases h with ⟨hc, hr, hw⟩ | ⟨hc, hr, hw⟩
    · have hc24 := hc; clear hc; cases hr
      exfalso; have g0 := i32_rng sc2; have g1 := i32_rng sc4; have g2 := i32_rng sc6; have g3 := i32_rng sc7; simp only [Int32.lt_iff_toInt_lt, Int32.le_iff_toInt_le, gt_iff_lt, ge_iff_le, ← Int32.toInt_inj, i32_m2, i32_0, i32_1, i32_3, i32_4, i32_32] at *; omega
    · have hc25 := hc; clear hc; cases hr
      have hw26 : w[23]? = some (o_m, Sum.inr (10, (((((fs_m.set 0 (.int (0 : Int32))).set 19 (.int (0 : Int32))).set 20 (.int (0 : Int32))).set 21 (.int (65535 : Int32))).set 9 (.int (1 : Int32))))) := by rw [hw, List.getElem?_set_self (by (try simp only [List.length_set, List.length_append, List.length_cons, List.length_nil]); have hq := ls_lt hw13; omega)]
      have hw27 : w[62]? = some (o_out, Sum.inl (rn_k G 2, 1, Sum.inr (Sum.inl (vp_updL (fun _ => 0) ((0 : Int32)).toNatClampNeg (1 : Int64))))) := by rw [hw, List.getElem?_set_ne (by decide), List.getElem?_set_ne (by decide), List.getElem?_set_ne (by decide), List.getElem?_set_ne (by decide), List.getElem?_set_ne (by decide), List.getElem?_set_ne (by decide), List.getElem?_set_ne (by decide), List.getElem?_set_ne (by decide), List.getElem?_set_ne (by decide), List.getElem?_set_ne (by decide), List.getElem?_set_ne (by decide), List.getElem?_set_ne (by decide), List.getElem?_set_ne (by decide), List.getElem?_set_ne (by decide), hw23]
      refine rn_stk [.int (1 : Int32)] rfl ?_
      refine rn_istore dL_law_867 (by decide) [(0, .ref G.2.2.2.2.1.1), (1, .ref o_sg), (2, .ref o_m), (3, .ref o_out), (4, .int (1 : Int32)), (5, .int (0 : Int32)), (6, .int (1 : Int32))] rfl ?_
      refine rn_aload_n (i := 2) dL_law_869 rfl rfl ?_
      refine rn_callV (a := 0) (b := 0) [] kl_SGLaw_110 dL_law_870 23 hw26 rfl (c_X10_thrown G _ (o_m := o_m) (fs_m := (((((fs_m.set 0 (.int (0 : Int32))).set 19 (.int (0 : Int32))).set 20 (.int (0 : Int32))).set 21 (.int (65535 : Int32))).set 9 (.int (1 : Int32)))) (th := (0 : Int32)) hw26 (ls_ne (by decide) (ls_ne (by decide) (ls_ne (by decide) (ls_ne (by decide) (ls_eq hf_m_0)))))) rfl rfl (Nat.le_of_ble_eq_true rfl) (Nat.le_of_ble_eq_true rfl) (Nat.le_of_ble_eq_true rfl) (Nat.le_of_ble_eq_true rfl) (Nat.le_of_ble_eq_true rfl) (Nat.le_of_ble_eq_true rfl) (by rintro E w h; rcases h with ⟨_, hr, _⟩ <;> cases hr) ?_
      rintro v w h
      obtain ⟨hc28, hr, hw⟩ := h; cases hr; rw [hw]
      refine rn_stk [.int (0 : Int32)] rfl ?_
      refine rn_iload dL_law_873 rfl ?_
      refine rn_icmp_eq (tgt := 880) dL_law_875 (by decide) (fun h29 => ?_) (fun h29 => absurd h29 (by decide))
      refine rn_iload dL_law_880 rfl ?_
      refine rn_if_ne (tgt := 897) dL_law_882 (by decide) (fun h30 => absurd h30 (by decide)) (fun h30 => ?_)
      refine rn_aload_n (i := 3) dL_law_885 rfl rfl ?_
      refine rn_iconst (v := (0 : Int32)) dL_law_886 (by decide) ?_
      refine rn_lald 62 2 hw27 rfl (by unfold vp_in; decide) dL_law_887 ?_
      refine rn_topl _ (vp_updL_at _ _ _) ?_
      refine rn_iload dL_law_888 rfl ?_
      refine rn_i2l dL_law_890 rfl ?_
      refine rn_topl (1 : Int64) (by decide) ?_
      refine rn_lcmp dL_law_891 ?_
      refine rn_topi (0 : Int32) (by decide) ?_
      refine rn_if_eq (tgt := 897) dL_law_892 (by decide) (fun h31 => ?_) (fun h31 => absurd h31 (by decide))
      refine rn_goto (tgt := 1865) dL_law_897 (by decide) ?_
      refine rn_lv [(0, .ref G.2.2.2.2.1.1), (1, .ref o_sg), (2, .ref o_m), (3, .ref o_out), (4, .int (1 : Int32))] rfl ?_
      exact law_end G _ hL _ _ _
