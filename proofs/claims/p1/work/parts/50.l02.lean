set_option maxRecDepth 20000 in
set_option maxHeartbeats 4000000 in
theorem law_5 (G : rn_G) (ws : va_W) (hL : G.2.2.2.2.1.2.1 = 11) (o_sg : Nat) (fs_sg : List Value) (o_tape : Nat) (fs_tape : List Value) (o_m : Nat) (fs_m : List Value) (o_out : Nat) (h_sg : ws[0]? = some (o_sg, Sum.inr (9, fs_sg))) (hf_sg_1 : fs_sg[1]? = some (.ref o_tape)) (h_tape : ws[1]? = some (o_tape, Sum.inr (4, fs_tape))) (hf_tape_1 : fs_tape[1]? = some (.int (0 : Int32))) (h_m : ws[23]? = some (o_m, Sum.inr (10, fs_m))) (hf_m_0 : fs_m[0]? = some (.int (0 : Int32))) (hf_m_3 : fs_m[3]? = some (.int (0 : Int32))) (h_out : ws[62]? = some (o_out, Sum.inl (rn_k G 2, 1, Sum.inr (Sum.inl (fun _ => 0))))) : Rn G mL_law 8 132 1 6 530 [(0, .ref G.2.2.2.2.1.1), (1, .ref o_sg), (2, .ref o_m), (3, .ref o_out), (4, .int (1 : Int32))] [] ws (fun r _ => r = Sum.inl (some (.int 1))) := by
  refine rn_aload_n (i := 1) dL_law_530 rfl rfl ?_
  refine rn_aload_n (i := 3) dL_law_531 rfl rfl ?_
  refine rn_callSX (a := 0) (b := 0) [.ref o_sg, .ref o_out] kl_SGLaw_129 dL_law_532 (c_L_sum G _ (o_sg := o_sg) (o_out := o_out) (fs_sg := fs_sg) (o_tape := o_tape) (fs_tape := fs_tape) h_sg hf_sg_1 h_tape hf_tape_1) rfl rfl (Nat.le_of_ble_eq_true rfl) (Nat.le_of_ble_eq_true rfl) (Nat.le_of_ble_eq_true rfl) (Nat.le_of_ble_eq_true rfl) (Nat.le_of_ble_eq_true rfl) (Nat.le_of_ble_eq_true rfl) (by rintro E w h; rcases h with ⟨_, hr, _⟩ <;> cases hr) ?_
  rintro v w h
  obtain ⟨hc1, hr, hw⟩ := h; cases hr; rw [hw]
  refine rn_stk [.int (1 : Int32)] rfl ?_
  refine rn_istore dL_law_535 (by decide) [(0, .ref G.2.2.2.2.1.1), (1, .ref o_sg), (2, .ref o_m), (3, .ref o_out), (4, .int (1 : Int32)), (5, .int (1 : Int32))] rfl ?_
  refine rn_aload_n (i := 2) dL_law_537 rfl rfl ?_
  refine rn_callV (a := 0) (b := 0) [] kl_SGLaw_132 dL_law_538 23 h_m rfl (c_X10_sum G _ (o_m := o_m) (fs_m := fs_m) h_m hf_m_0 hf_m_3) rfl rfl (Nat.le_of_ble_eq_true rfl) (Nat.le_of_ble_eq_true rfl) (Nat.le_of_ble_eq_true rfl) (Nat.le_of_ble_eq_true rfl) (Nat.le_of_ble_eq_true rfl) (Nat.le_of_ble_eq_true rfl) (by rintro E w h; rcases h with ⟨_, hr, _⟩ <;> cases hr) ?_
  rintro v w h
  obtain ⟨hc2, hr, hw⟩ := h; cases hr
  have hw3 : w[23]? = some (o_m, Sum.inr (10, ((fs_m.set 0 (.int (0 : Int32))).set 0 (.int (1 : Int32))))) := by rw [hw, List.getElem?_set_self (by (try simp only [List.length_set, List.length_append, List.length_cons, List.length_nil]); have hq := ls_lt h_m; omega)]
  have hw4 : w[62]? = some (o_out, Sum.inl (rn_k G 2, 1, Sum.inr (Sum.inl (fun _ => 0)))) := by rw [hw, List.getElem?_set_ne (by decide), List.getElem?_set_ne (by decide), h_out]
  refine rn_stk [.int (0 : Int32)] rfl ?_
  refine rn_istore dL_law_541 (by decide) [(0, .ref G.2.2.2.2.1.1), (1, .ref o_sg), (2, .ref o_m), (3, .ref o_out), (4, .int (1 : Int32)), (5, .int (1 : Int32)), (6, .int (0 : Int32))] rfl ?_
  refine rn_aload_n (i := 2) dL_law_543 rfl rfl ?_
  refine rn_callV (a := 0) (b := 0) [] kl_SGLaw_110 dL_law_544 23 hw3 rfl (c_X10_thrown G _ (o_m := o_m) (fs_m := ((fs_m.set 0 (.int (0 : Int32))).set 0 (.int (1 : Int32)))) (th := (1 : Int32)) hw3 (ls_eq (ls_eq hf_m_0))) rfl rfl (Nat.le_of_ble_eq_true rfl) (Nat.le_of_ble_eq_true rfl) (Nat.le_of_ble_eq_true rfl) (Nat.le_of_ble_eq_true rfl) (Nat.le_of_ble_eq_true rfl) (Nat.le_of_ble_eq_true rfl) (by rintro E w h; rcases h with ⟨_, hr, _⟩ <;> cases hr) ?_
  rintro v w h
  obtain ⟨hc5, hr, hw⟩ := h; cases hr; rw [hw]
  refine rn_stk [.int (1 : Int32)] rfl ?_
  refine rn_iload dL_law_547 rfl ?_
  refine rn_icmp_eq (tgt := 554) dL_law_549 (by decide) (fun h6 => ?_) (fun h6 => absurd h6 (by decide))
  refine rn_iload dL_law_554 rfl ?_
  refine rn_if_ne (tgt := 571) dL_law_556 (by decide) (fun h7 => ?_) (fun h7 => absurd h7 (by decide))
  refine rn_goto (tgt := 1865) dL_law_571 (by decide) ?_
  refine rn_lv [(0, .ref G.2.2.2.2.1.1), (1, .ref o_sg), (2, .ref o_m), (3, .ref o_out), (4, .int (1 : Int32))] rfl ?_
  exact law_end G _ hL _ _ _
set_option maxRecDepth 20000 in
set_option maxHeartbeats 4000000 in
theorem law_6 (G : rn_G) (ws : va_W) (hL : G.2.2.2.2.1.2.1 = 11) (o_sg : Nat) (fs_sg : List Value) (o_routes : Nat) (o_nets : Nat) (o_ports : Nat) (fs_routes : List Value) (o_m : Nat) (fs_m : List Value) (a_routeNet : Nat) (a_routeWidth : Nat) (a_routePort : Nat) (o_out : Nat) (h_sg : ws[0]? = some (o_sg, Sum.inr (9, fs_sg))) (hf_sg_7 : fs_sg[7]? = some (.ref o_routes)) (h_nets : ws[12]? = some (o_nets, Sum.inl (rn_k G 4, 16, Sum.inr (Sum.inr (Sum.inr (Sum.inr (fun _ => none))))))) (h_ports : ws[13]? = some (o_ports, Sum.inl (rn_k G 1, 16, Sum.inl (fun _ => 0)))) (h_routes : ws[11]? = some (o_routes, Sum.inr (7, fs_routes))) (hf_routes_0 : fs_routes[0]? = some (.ref o_nets)) (hf_routes_1 : fs_routes[1]? = some (.ref o_ports)) (hf_routes_2 : fs_routes[2]? = some (.int (0 : Int32))) (h_m : ws[23]? = some (o_m, Sum.inr (10, fs_m))) (hf_m_0 : fs_m[0]? = some (.int (0 : Int32))) (hf_m_4 : fs_m[4]? = some (.int (0 : Int32))) (hf_m_5 : fs_m[5]? = some (.ref a_routeNet)) (hf_m_6 : fs_m[6]? = some (.ref a_routeWidth)) (hf_m_7 : fs_m[7]? = some (.ref a_routePort)) (h_m_routeNet : ws[25]? = some (a_routeNet, Sum.inl (rn_k G 1, 16, Sum.inl (fun _ => 0)))) (h_m_routeWidth : ws[26]? = some (a_routeWidth, Sum.inl (rn_k G 1, 16, Sum.inl (fun _ => 0)))) (h_m_routePort : ws[27]? = some (a_routePort, Sum.inl (rn_k G 1, 16, Sum.inl (fun _ => 0)))) (h_out : ws[62]? = some (o_out, Sum.inl (rn_k G 2, 1, Sum.inr (Sum.inl (fun _ => 0))))) (hlen : ws.length = 63) : Rn G mL_law 8 138 1 6 574 [(0, .ref G.2.2.2.2.1.1), (1, .ref o_sg), (2, .ref o_m), (3, .ref o_out), (4, .int (1 : Int32))] [] ws (fun r _ => r = Sum.inl (some (.int 1))) := by
  obtain ⟨sc2, se2⟩ : ∃ x : Int32, G.2.2.2.2.1.2.2 (2 : Int32).toNatClampNeg = x := ⟨_, rfl⟩
  obtain ⟨sc3, se3⟩ : ∃ x : Int32, G.2.2.2.2.1.2.2 (3 : Int32).toNatClampNeg = x := ⟨_, rfl⟩
  obtain ⟨sc4, se4⟩ : ∃ x : Int32, G.2.2.2.2.1.2.2 (4 : Int32).toNatClampNeg = x := ⟨_, rfl⟩
  refine rn_aload_n (i := 1) dL_law_574 rfl rfl ?_
  refine rn_aload_n (i := 0) dL_law_575 rfl rfl ?_
  refine rn_iload dL_law_576 rfl ?_
  refine rn_iconst (v := (1 : Int32)) dL_law_578 (by decide) ?_
  refine rn_iadd dL_law_579 ?_
  refine rn_topi (2 : Int32) (by decide) ?_
  refine rn_sld (by rw [hL]; unfold vp_in; decide) dL_law_580 ?_
  refine rn_topi sc2 se2 ?_
  refine rn_aload_n (i := 0) dL_law_581 rfl rfl ?_
  refine rn_iload dL_law_582 rfl ?_
  refine rn_iconst (v := (2 : Int32)) dL_law_584 (by decide) ?_
  refine rn_iadd dL_law_585 ?_
  refine rn_topi (3 : Int32) (by decide) ?_
  refine rn_sld (by rw [hL]; unfold vp_in; decide) dL_law_586 ?_
  refine rn_topi sc3 se3 ?_
  refine rn_aload_n (i := 0) dL_law_587 rfl rfl ?_
  refine rn_iload dL_law_588 rfl ?_
  refine rn_iconst (v := (3 : Int32)) dL_law_590 (by decide) ?_
  refine rn_iadd dL_law_591 ?_
  refine rn_topi (4 : Int32) (by decide) ?_
  refine rn_sld (by rw [hL]; unfold vp_in; decide) dL_law_592 ?_
  refine rn_topi sc4 se4 ?_
  refine rn_aload_n (i := 3) dL_law_593 rfl rfl ?_
  refine rn_callSX (a := 0) (b := 0) [.ref o_sg, .int sc2, .int sc3, .int sc4, .ref o_out] kl_SGLaw_133 dL_law_594 (c_L_route G _ (o_sg := o_sg) (x := sc2) (y := sc3) (u := sc4) (o_out := o_out) (fs_sg := fs_sg) (o_routes := o_routes) (o_nets := o_nets) (o_ports := o_ports) (fs_routes := fs_routes) (L := 63) h_sg hf_sg_7 h_nets h_ports h_routes hf_routes_0 hf_routes_1 hf_routes_2 h_out (by decide) (by decide) (by decide) (by decide) hlen) rfl rfl (Nat.le_of_ble_eq_true rfl) (Nat.le_of_ble_eq_true rfl) (Nat.le_of_ble_eq_true rfl) (Nat.le_of_ble_eq_true rfl) (Nat.le_of_ble_eq_true rfl) (Nat.le_of_ble_eq_true rfl) (by rintro E w h; rcases h with ⟨_, hr, _⟩ | ⟨_, _, hr, _⟩ <;> cases hr) ?_
  rintro v w h
  rcases h with ⟨hc, hr, hw⟩ | ⟨q1, hc, hr, hw⟩
  · have hc2 := hc; clear hc; cases hr; rw [hw]
    refine rn_stk [.int (1 : Int32)] rfl ?_
    refine rn_istore dL_law_597 (by decide) [(0, .ref G.2.2.2.2.1.1), (1, .ref o_sg), (2, .ref o_m), (3, .ref o_out), (4, .int (1 : Int32)), (5, .int (1 : Int32))] rfl ?_
    refine rn_aload_n (i := 2) dL_law_599 rfl rfl ?_
    refine rn_aload_n (i := 0) dL_law_600 rfl rfl ?_
    refine rn_iload dL_law_601 rfl ?_
    refine rn_iconst (v := (1 : Int32)) dL_law_603 (by decide) ?_
    refine rn_iadd dL_law_604 ?_
    refine rn_topi (2 : Int32) (by decide) ?_
    refine rn_sld (by rw [hL]; unfold vp_in; decide) dL_law_605 ?_
    refine rn_topi sc2 se2 ?_
    refine rn_aload_n (i := 0) dL_law_606 rfl rfl ?_
    refine rn_iload dL_law_607 rfl ?_
    refine rn_iconst (v := (2 : Int32)) dL_law_609 (by decide) ?_
    refine rn_iadd dL_law_610 ?_
    refine rn_topi (3 : Int32) (by decide) ?_
    refine rn_sld (by rw [hL]; unfold vp_in; decide) dL_law_611 ?_
    refine rn_topi sc3 se3 ?_
    refine rn_aload_n (i := 0) dL_law_612 rfl rfl ?_
    refine rn_iload dL_law_613 rfl ?_
    refine rn_iconst (v := (3 : Int32)) dL_law_615 (by decide) ?_
    refine rn_iadd dL_law_616 ?_
    refine rn_topi (4 : Int32) (by decide) ?_
    refine rn_sld (by rw [hL]; unfold vp_in; decide) dL_law_617 ?_
    refine rn_topi sc4 se4 ?_
    refine rn_callV (a := 0) (b := 0) [.int sc2, .int sc3, .int sc4] kl_SGLaw_136 dL_law_618 23 h_m rfl (c_X10_route G _ (o_m := o_m) (x := sc2) (y := sc3) (u := sc4) (fs_m := fs_m) (a_routeNet := a_routeNet) (a_routeWidth := a_routeWidth) (a_routePort := a_routePort) h_m hf_m_0 hf_m_4 hf_m_5 hf_m_6 hf_m_7 h_m_routeNet h_m_routeWidth h_m_routePort) rfl rfl (Nat.le_of_ble_eq_true rfl) (Nat.le_of_ble_eq_true rfl) (Nat.le_of_ble_eq_true rfl) (Nat.le_of_ble_eq_true rfl) (Nat.le_of_ble_eq_true rfl) (Nat.le_of_ble_eq_true rfl) (by rintro E w h; rcases h with ⟨_, hr, _⟩ | ⟨_, hr, _⟩ <;> cases hr) ?_
    rintro v w h
    rcases h with ⟨hc, hr, hw⟩ | ⟨hc, hr, hw⟩
    · have hc3 := hc; clear hc; cases hr
      have hw4 : w[23]? = some (o_m, Sum.inr (10, ((fs_m.set 0 (.int (0 : Int32))).set 0 (.int (1 : Int32))))) := by rw [hw, List.getElem?_set_self (by (try simp only [List.length_set, List.length_append, List.length_cons, List.length_nil]); have hq := ls_lt h_m; omega)]
      have hw5 : w[62]? = some (o_out, Sum.inl (rn_k G 2, 1, Sum.inr (Sum.inl (fun _ => 0)))) := by rw [hw, List.getElem?_set_ne (by decide), List.getElem?_set_ne (by decide), h_out]
      refine rn_stk [.int (0 : Int32)] rfl ?_
      refine rn_istore dL_law_621 (by decide) [(0, .ref G.2.2.2.2.1.1), (1, .ref o_sg), (2, .ref o_m), (3, .ref o_out), (4, .int (1 : Int32)), (5, .int (1 : Int32)), (6, .int (0 : Int32))] rfl ?_
      refine rn_aload_n (i := 2) dL_law_623 rfl rfl ?_
      refine rn_callV (a := 0) (b := 0) [] kl_SGLaw_110 dL_law_624 23 hw4 rfl (c_X10_thrown G _ (o_m := o_m) (fs_m := ((fs_m.set 0 (.int (0 : Int32))).set 0 (.int (1 : Int32)))) (th := (1 : Int32)) hw4 (ls_eq (ls_eq hf_m_0))) rfl rfl (Nat.le_of_ble_eq_true rfl) (Nat.le_of_ble_eq_true rfl) (Nat.le_of_ble_eq_true rfl) (Nat.le_of_ble_eq_true rfl) (Nat.le_of_ble_eq_true rfl) (Nat.le_of_ble_eq_true rfl) (by rintro E w h; rcases h with ⟨_, hr, _⟩ <;> cases hr) ?_
      rintro v w h
      obtain ⟨hc6, hr, hw⟩ := h; cases hr; rw [hw]
      refine rn_stk [.int (1 : Int32)] rfl ?_
      refine rn_iload dL_law_627 rfl ?_
      refine rn_icmp_eq (tgt := 634) dL_law_629 (by decide) (fun h7 => ?_) (fun h7 => absurd h7 (by decide))
      refine rn_iload dL_law_634 rfl ?_
      refine rn_if_ne (tgt := 651) dL_law_636 (by decide) (fun h8 => ?_) (fun h8 => absurd h8 (by decide))
      refine rn_goto (tgt := 1865) dL_law_651 (by decide) ?_
      refine rn_lv [(0, .ref G.2.2.2.2.1.1), (1, .ref o_sg), (2, .ref o_m), (3, .ref o_out), (4, .int (1 : Int32))] rfl ?_
      exact law_end G _ hL _ _ _
    · have hc9 := hc; clear hc; cases hr
      exfalso; have g0 := i32_rng sc3; have g1 := i32_rng sc4; simp only [Int32.lt_iff_toInt_lt, Int32.le_iff_toInt_le, gt_iff_lt, ge_iff_le, ← Int32.toInt_inj, i32_0, i32_1, i32_32] at *; omega
  · have hc10 := hc; clear hc; cases hr
    have hw11 : w[23]? = some (o_m, Sum.inr (10, fs_m)) := by rw [hw, List.getElem?_set_ne (by decide), List.getElem?_set_ne (by decide), List.getElem?_set_ne (by decide), List.getElem?_set_ne (by decide), List.getElem?_set_ne (by decide), List.getElem?_set_ne (by decide), List.getElem?_append_left (by (try simp only [List.length_set, List.length_append, List.length_cons, List.length_nil]); have hq := ls_lt h_m; omega), h_m]
    have hw12 : w[25]? = some (a_routeNet, Sum.inl (rn_k G 1, 16, Sum.inl (fun _ => 0))) := by rw [hw, List.getElem?_set_ne (by decide), List.getElem?_set_ne (by decide), List.getElem?_set_ne (by decide), List.getElem?_set_ne (by decide), List.getElem?_set_ne (by decide), List.getElem?_set_ne (by decide), List.getElem?_append_left (by (try simp only [List.length_set, List.length_append, List.length_cons, List.length_nil]); have hq := ls_lt h_m_routeNet; omega), h_m_routeNet]
    have hw13 : w[26]? = some (a_routeWidth, Sum.inl (rn_k G 1, 16, Sum.inl (fun _ => 0))) := by rw [hw, List.getElem?_set_ne (by decide), List.getElem?_set_ne (by decide), List.getElem?_set_ne (by decide), List.getElem?_set_ne (by decide), List.getElem?_set_ne (by decide), List.getElem?_set_ne (by decide), List.getElem?_append_left (by (try simp only [List.length_set, List.length_append, List.length_cons, List.length_nil]); have hq := ls_lt h_m_routeWidth; omega), h_m_routeWidth]
    have hw14 : w[27]? = some (a_routePort, Sum.inl (rn_k G 1, 16, Sum.inl (fun _ => 0))) := by rw [hw, List.getElem?_set_ne (by decide), List.getElem?_set_ne (by decide), List.getElem?_set_ne (by decide), List.getElem?_set_ne (by decide), List.getElem?_set_ne (by decide), List.getElem?_set_ne (by decide), List.getElem?_append_left (by (try simp only [List.length_set, List.length_append, List.length_cons, List.length_nil]); have hq := ls_lt h_m_routePort; omega), h_m_routePort]
    have hw15 : w[62]? = some (o_out, Sum.inl (rn_k G 2, 1, Sum.inr (Sum.inl (vp_updL (fun _ => 0) ((0 : Int32)).toNatClampNeg (1 : Int64))))) := by rw [hw, List.getElem?_set_self (by (try simp only [List.length_set, List.length_append, List.length_cons, List.length_nil]); have hq := ls_lt h_out; omega)]
    refine rn_stk [.int (0 : Int32)] rfl ?_
    refine rn_istore dL_law_597 (by decide) [(0, .ref G.2.2.2.2.1.1), (1, .ref o_sg), (2, .ref o_m), (3, .ref o_out), (4, .int (1 : Int32)), (5, .int (0 : Int32))] rfl ?_
    refine rn_aload_n (i := 2) dL_law_599 rfl rfl ?_
    refine rn_aload_n (i := 0) dL_law_600 rfl rfl ?_
    refine rn_iload dL_law_601 rfl ?_
    refine rn_iconst (v := (1 : Int32)) dL_law_603 (by decide) ?_
    refine rn_iadd dL_law_604 ?_
    refine rn_topi (2 : Int32) (by decide) ?_
    refine rn_sld (by rw [hL]; unfold vp_in; decide) dL_law_605 ?_
    refine rn_topi sc2 se2 ?_
    refine rn_aload_n (i := 0) dL_law_606 rfl rfl ?_
    refine rn_iload dL_law_607 rfl ?_
    refine rn_iconst (v := (2 : Int32)) dL_law_609 (by decide) ?_
    refine rn_iadd dL_law_610 ?_
    refine rn_topi (3 : Int32) (by decide) ?_
    refine rn_sld (by rw [hL]; unfold vp_in; decide) dL_law_611 ?_
    refine rn_topi sc3 se3 ?_
    refine rn_aload_n (i := 0) dL_law_612 rfl rfl ?_
    refine rn_iload dL_law_613 rfl ?_
    refine rn_iconst (v := (3 : Int32)) dL_law_615 (by decide) ?_
    refine rn_iadd dL_law_616 ?_
    refine rn_topi (4 : Int32) (by decide) ?_
    refine rn_sld (by rw [hL]; unfold vp_in; decide) dL_law_617 ?_
    refine rn_topi sc4 se4 ?_
    refine rn_callV (a := 0) (b := 0) [.int sc2, .int sc3, .int sc4] kl_SGLaw_136 dL_law_618 23 hw11 rfl (c_X10_route G _ (o_m := o_m) (x := sc2) (y := sc3) (u := sc4) (fs_m := fs_m) (a_routeNet := a_routeNet) (a_routeWidth := a_routeWidth) (a_routePort := a_routePort) hw11 hf_m_0 hf_m_4 hf_m_5 hf_m_6 hf_m_7 hw12 hw13 hw14) rfl rfl (Nat.le_of_ble_eq_true rfl) (Nat.le_of_ble_eq_true rfl) (Nat.le_of_ble_eq_true rfl) (Nat.le_of_ble_eq_true rfl) (Nat.le_of_ble_eq_true rfl) (Nat.le_of_ble_eq_true rfl) (by rintro E w h; rcases h with ⟨_, hr, _⟩ | ⟨_, hr, _⟩ <;> cases hr) ?_
    rintro v w h
    rcases h with ⟨hc, hr, hw⟩ | ⟨hc, hr, hw⟩
    · have hc16 := hc; clear hc; cases hr
      exfalso; have g0 := i32_rng sc3; have g1 := i32_rng sc4; simp only [Int32.lt_iff_toInt_lt, Int32.le_iff_toInt_le, gt_iff_lt, ge_iff_le, ← Int32.toInt_inj, i32_0, i32_1, i32_32] at *; omega
    · have hc17 := hc; clear hc; cases hr
      have hw18 : w[23]? = some (o_m, Sum.inr (10, ((fs_m.set 0 (.int (0 : Int32))).set 4 (.int (1 : Int32))))) := by rw [hw, List.getElem?_set_self (by (try simp only [List.length_set, List.length_append, List.length_cons, List.length_nil]); have hq := ls_lt hw11; omega)]
      have hw19 : w[62]? = some (o_out, Sum.inl (rn_k G 2, 1, Sum.inr (Sum.inl (vp_updL (fun _ => 0) ((0 : Int32)).toNatClampNeg (1 : Int64))))) := by rw [hw, List.getElem?_set_ne (by decide), List.getElem?_set_ne (by decide), List.getElem?_set_ne (by decide), List.getElem?_set_ne (by decide), List.getElem?_set_ne (by decide), hw15]
      refine rn_stk [.int (1 : Int32)] rfl ?_
      refine rn_istore dL_law_621 (by decide) [(0, .ref G.2.2.2.2.1.1), (1, .ref o_sg), (2, .ref o_m), (3, .ref o_out), (4, .int (1 : Int32)), (5, .int (0 : Int32)), (6, .int (1 : Int32))] rfl ?_
      refine rn_aload_n (i := 2) dL_law_623 rfl rfl ?_
      refine rn_callV (a := 0) (b := 0) [] kl_SGLaw_110 dL_law_624 23 hw18 rfl (c_X10_thrown G _ (o_m := o_m) (fs_m := ((fs_m.set 0 (.int (0 : Int32))).set 4 (.int (1 : Int32)))) (th := (0 : Int32)) hw18 (ls_ne (by decide) (ls_eq hf_m_0))) rfl rfl (Nat.le_of_ble_eq_true rfl) (Nat.le_of_ble_eq_true rfl) (Nat.le_of_ble_eq_true rfl) (Nat.le_of_ble_eq_true rfl) (Nat.le_of_ble_eq_true rfl) (Nat.le_of_ble_eq_true rfl) (by rintro E w h; rcases h with ⟨_, hr, _⟩ <;> cases hr) ?_
      rintro v w h
      obtain ⟨hc20, hr, hw⟩ := h; cases hr; rw [hw]
      refine rn_stk [.int (0 : Int32)] rfl ?_
      refine rn_iload dL_law_627 rfl ?_
      refine rn_icmp_eq (tgt := 634) dL_law_629 (by decide) (fun h21 => ?_) (fun h21 => absurd h21 (by decide))
      refine rn_iload dL_law_634 rfl ?_
      refine rn_if_ne (tgt := 651) dL_law_636 (by decide) (fun h22 => absurd h22 (by decide)) (fun h22 => ?_)
      refine rn_aload_n (i := 3) dL_law_639 rfl rfl ?_
      refine rn_iconst (v := (0 : Int32)) dL_law_640 (by decide) ?_
      refine rn_lald 62 2 hw19 rfl (by unfold vp_in; decide) dL_law_641 ?_
      refine rn_topl _ (vp_updL_at _ _ _) ?_
      refine rn_iload dL_law_642 rfl ?_
      refine rn_i2l dL_law_644 rfl ?_
      refine rn_topl (1 : Int64) (by decide) ?_
      refine rn_lcmp dL_law_645 ?_
      refine rn_topi (0 : Int32) (by decide) ?_
      refine rn_if_eq (tgt := 651) dL_law_646 (by decide) (fun h23 => ?_) (fun h23 => absurd h23 (by decide))
      refine rn_goto (tgt := 1865) dL_law_651 (by decide) ?_
      refine rn_lv [(0, .ref G.2.2.2.2.1.1), (1, .ref o_sg), (2, .ref o_m), (3, .ref o_out), (4, .int (1 : Int32))] rfl ?_
      exact law_end G _ hL _ _ _
