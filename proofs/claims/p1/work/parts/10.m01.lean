set_option maxRecDepth 20000 in
set_option maxHeartbeats 4000000 in
theorem c_X9_peer (G : rn_G) (ws : va_W) (o_sg : Nat) (x : Int32) (y : Int32) (fs_sg : List Value) (o_peers : Nat) (h_sg : ws[0]? = some (o_sg, Sum.inr (9, fs_sg))) (hf_sg_9 : fs_sg[9]? = some (.ref o_peers)) (h_peers : ws[16]? = some (o_peers, Sum.inl (rn_k G 1, 4, Sum.inl (fun _ => 0)))) : Rn G mX9_peer 6 90 1 6 0 (lv_args 0 [.ref o_sg, .int x, .int y]) [] ws (fun r w => ((((x < (0 : Int32)) ∨ (¬ (x < (0 : Int32)) ∧ (4 : Int32) ≤ x))) ∧ r = Sum.inr "java/lang/IndexOutOfBoundsException" ∧ w = ws) ∨ (((¬ (x < (0 : Int32)) ∧ ¬ ((4 : Int32) ≤ x))) ∧ r = Sum.inl (some (.int (0 : Int32))) ∧ w = (ws.set 16 (o_peers, Sum.inl (rn_k G 1, 4, Sum.inl (upd (fun _ => 0) (x).toNatClampNeg y)))))) := by
  refine rn_lv [(0, .ref o_sg), (1, .int x), (2, .int y)] rfl ?_
  refine rn_iload_n (i := 1) dX9_peer_0 rfl rfl ?_
  refine rn_callS (a := 1) (b := 6) [.int x] kl_SG_155 dX9_peer_1 (c_X9_isTunnel G _ (x := x)) rfl rfl (Nat.le_of_ble_eq_true rfl) (Nat.le_of_ble_eq_true rfl) (Nat.le_of_ble_eq_true rfl) (Nat.le_of_ble_eq_true rfl) (Nat.le_of_ble_eq_true rfl) (Nat.le_of_ble_eq_true rfl) (by rintro E w h; rcases h with ⟨_, hr, _⟩ | ⟨_, hr, _⟩ <;> cases hr) ?_
  rintro v w h
  rcases h with ⟨hc, hr, hw⟩ | ⟨hc, hr, hw⟩
  · have hc1 := hc; clear hc; cases hr; subst hw
    refine rn_stk [.int (0 : Int32)] rfl ?_
    refine rn_if_ne (tgt := 17) dX9_peer_4 (by decide) (fun h2 => absurd h2 (by decide)) (fun h2 => ?_)
    exact rn_throw kt_SG_114_158 rfl dX9_peer_7 dX9_peer_10 dX9_peer_11 dX9_peer_13 dX9_peer_16 (Nat.le_of_ble_eq_true rfl) (Nat.le_of_ble_eq_true rfl) (Nat.le_of_ble_eq_true rfl) (Nat.le_of_ble_eq_true rfl) (Nat.le_of_ble_eq_true rfl) (Or.inl ⟨hc1, rfl, rfl⟩)
  · have hc3 := hc; clear hc; cases hr; subst hw
    refine rn_stk [.int (1 : Int32)] rfl ?_
    refine rn_if_ne (tgt := 17) dX9_peer_4 (by decide) (fun h4 => ?_) (fun h4 => absurd h4 (by decide))
    refine rn_aload_n (i := 0) dX9_peer_17 rfl rfl ?_
    refine rn_get 0 kg_SG_46 h_sg hf_sg_9 dX9_peer_18 ?_
    refine rn_iload_n (i := 1) dX9_peer_21 rfl rfl ?_
    refine rn_iald 16 1 h_peers rfl (rn_in (by have g0 := i32_rng x; simp only [Int32.lt_iff_toInt_lt, Int32.le_iff_toInt_le, gt_iff_lt, ge_iff_le, ← Int32.toInt_inj, i32_0, i32_4] at *; omega)) dX9_peer_22 ?_
    refine rn_topi (0 : Int32) rfl ?_
    refine rn_istore_n dX9_peer_23 rfl (by decide) [(0, .ref o_sg), (1, .int x), (2, .int y), (3, .int (0 : Int32))] rfl ?_
    refine rn_aload_n (i := 0) dX9_peer_24 rfl rfl ?_
    refine rn_get 0 kg_SG_46 h_sg hf_sg_9 dX9_peer_25 ?_
    refine rn_iload_n (i := 1) dX9_peer_28 rfl rfl ?_
    refine rn_iload_n (i := 2) dX9_peer_29 rfl rfl ?_
    refine rn_iast 16 1 h_peers rfl (rn_in (by have g0 := i32_rng x; simp only [Int32.lt_iff_toInt_lt, Int32.le_iff_toInt_le, gt_iff_lt, ge_iff_le, ← Int32.toInt_inj, i32_0, i32_4] at *; omega)) dX9_peer_30 ?_
    refine rn_iload_n (i := 3) dX9_peer_31 rfl rfl ?_
    exact rn_iret dX9_peer_32 rfl rfl (Or.inr ⟨hc3, rfl, rfl⟩)
set_option maxRecDepth 20000 in
set_option maxHeartbeats 4000000 in
theorem c_X5_nextMeans (G : rn_G) (ws : va_W) (o_pols : Nat) (x : Int32) (y : Int32) (u : Int32) (fs_pols : List Value) (h_pols : ws[14]? = some (o_pols, Sum.inr (5, fs_pols))) (hf_pols_2 : fs_pols[2]? = some (.int (0 : Int32))) (hf_pols_3 : fs_pols[3]? = some (.int (0 : Int32))) (hf_pols_4 : fs_pols[4]? = some (.int (65535 : Int32))) : Rn G mX5_nextMeans 0 0 0 0 0 (lv_args 0 [.ref o_pols, .int x, .int y, .int u]) [] ws (fun r w => (True ∧ r = Sum.inl none ∧ w = (((ws.set 14 (o_pols, Sum.inr (5, (fs_pols.set 2 (.int x))))).set 14 (o_pols, Sum.inr (5, ((fs_pols.set 2 (.int x)).set 3 (.int y))))).set 14 (o_pols, Sum.inr (5, (((fs_pols.set 2 (.int x)).set 3 (.int y)).set 4 (.int u))))))) := by
  refine rn_lv [(0, .ref o_pols), (1, .int x), (2, .int y), (3, .int u)] rfl ?_
  refine rn_aload_n (i := 0) dX5_nextMeans_0 rfl rfl ?_
  refine rn_iload_n (i := 1) dX5_nextMeans_1 rfl rfl ?_
  refine rn_put 14 (kp_SG_Policies_25 _) h_pols (ls_lt hf_pols_2) rfl rfl dX5_nextMeans_2 ?_
  refine rn_aload_n (i := 0) dX5_nextMeans_5 rfl rfl ?_
  refine rn_iload_n (i := 2) dX5_nextMeans_6 rfl rfl ?_
  refine rn_put 14 (kp_SG_Policies_28 _) (ls_eq h_pols) (ls_lt (ls_ne (by decide) hf_pols_3)) rfl rfl dX5_nextMeans_7 ?_
  refine rn_aload_n (i := 0) dX5_nextMeans_10 rfl rfl ?_
  refine rn_iload_n (i := 3) dX5_nextMeans_11 rfl rfl ?_
  refine rn_put 14 (kp_SG_Policies_18 _) (ls_eq (ls_eq h_pols)) (ls_lt (ls_ne (by decide) (ls_ne (by decide) hf_pols_4))) rfl rfl dX5_nextMeans_12 ?_
  exact rn_vret dX5_nextMeans_15 rfl ⟨trivial, rfl, rfl⟩
set_option maxRecDepth 20000 in
set_option maxHeartbeats 4000000 in
theorem c_X9_meant (G : rn_G) (ws : va_W) (o_sg : Nat) (x : Int32) (y : Int32) (u : Int32) (fs_sg : List Value) (o_pols : Nat) (fs_pols : List Value) (h_sg : ws[0]? = some (o_sg, Sum.inr (9, fs_sg))) (hf_sg_8 : fs_sg[8]? = some (.ref o_pols)) (h_pols : ws[14]? = some (o_pols, Sum.inr (5, fs_pols))) (hf_pols_2 : fs_pols[2]? = some (.int (0 : Int32))) (hf_pols_3 : fs_pols[3]? = some (.int (0 : Int32))) (hf_pols_4 : fs_pols[4]? = some (.int (65535 : Int32))) : Rn G mX9_meant 6 90 1 6 0 (lv_args 0 [.ref o_sg, .int x, .int y, .int u]) [] ws (fun r w => (((((x < (0 : Int32)) ∨ (¬ (x < (0 : Int32)) ∧ (255 : Int32) < x))) ∨ ((¬ (x < (0 : Int32)) ∧ ¬ ((255 : Int32) < x)) ∧ y < (0 : Int32)) ∨ ((¬ (x < (0 : Int32)) ∧ ¬ ((255 : Int32) < x)) ∧ ¬ (y < (0 : Int32)) ∧ u < y) ∨ ((¬ (x < (0 : Int32)) ∧ ¬ ((255 : Int32) < x)) ∧ ¬ (y < (0 : Int32)) ∧ ¬ (u < y) ∧ ¬ (u ≤ (65535 : Int32)))) ∧ r = Sum.inr "java/lang/IllegalArgumentException" ∧ w = ws) ∨ (((¬ (x < (0 : Int32)) ∧ ¬ ((255 : Int32) < x)) ∧ ¬ (y < (0 : Int32)) ∧ ¬ (u < y) ∧ u ≤ (65535 : Int32)) ∧ r = Sum.inl none ∧ w = (((ws.set 14 (o_pols, Sum.inr (5, (fs_pols.set 2 (.int x))))).set 14 (o_pols, Sum.inr (5, ((fs_pols.set 2 (.int x)).set 3 (.int y))))).set 14 (o_pols, Sum.inr (5, (((fs_pols.set 2 (.int x)).set 3 (.int y)).set 4 (.int u))))))) := by
  refine rn_lv [(0, .ref o_sg), (1, .int x), (2, .int y), (3, .int u)] rfl ?_
  refine rn_iload_n (i := 1) dX9_meant_0 rfl rfl ?_
  refine rn_callS (a := 1) (b := 6) [.int x] kl_SG_104 dX9_meant_1 (c_X9_isByte G _ (x := x)) rfl rfl (Nat.le_of_ble_eq_true rfl) (Nat.le_of_ble_eq_true rfl) (Nat.le_of_ble_eq_true rfl) (Nat.le_of_ble_eq_true rfl) (Nat.le_of_ble_eq_true rfl) (Nat.le_of_ble_eq_true rfl) (by rintro E w h; rcases h with ⟨_, hr, _⟩ | ⟨_, hr, _⟩ <;> cases hr) ?_
  rintro v w h
  rcases h with ⟨hc, hr, hw⟩ | ⟨hc, hr, hw⟩
  · have hc1 := hc; clear hc; cases hr; subst hw
    refine rn_stk [.int (0 : Int32)] rfl ?_
    refine rn_if_eq (tgt := 22) dX9_meant_4 (by decide) (fun h2 => ?_) (fun h2 => absurd h2 (by decide))
    exact rn_throw kt_SG_95_161 rfl dX9_meant_22 dX9_meant_25 dX9_meant_26 dX9_meant_28 dX9_meant_31 (Nat.le_of_ble_eq_true rfl) (Nat.le_of_ble_eq_true rfl) (Nat.le_of_ble_eq_true rfl) (Nat.le_of_ble_eq_true rfl) (Nat.le_of_ble_eq_true rfl) (Or.inl ⟨(Or.inl hc1), rfl, rfl⟩)
  · have hc3 := hc; clear hc; cases hr; subst hw
    refine rn_stk [.int (1 : Int32)] rfl ?_
    refine rn_if_eq (tgt := 22) dX9_meant_4 (by decide) (fun h4 => absurd h4 (by decide)) (fun h4 => ?_)
    refine rn_iload_n (i := 2) dX9_meant_7 rfl rfl ?_
    refine rn_if_lt (tgt := 22) dX9_meant_8 (by decide) (fun h5 => ?_) (fun h5 => ?_)
    · exact rn_throw kt_SG_95_161 rfl dX9_meant_22 dX9_meant_25 dX9_meant_26 dX9_meant_28 dX9_meant_31 (Nat.le_of_ble_eq_true rfl) (Nat.le_of_ble_eq_true rfl) (Nat.le_of_ble_eq_true rfl) (Nat.le_of_ble_eq_true rfl) (Nat.le_of_ble_eq_true rfl) (Or.inl ⟨(Or.inr (Or.inl ⟨hc3, h5⟩)), rfl, rfl⟩)
    · refine rn_iload_n (i := 2) dX9_meant_11 rfl rfl ?_
      refine rn_iload_n (i := 3) dX9_meant_12 rfl rfl ?_
      refine rn_icmp_gt (tgt := 22) dX9_meant_13 (by decide) (fun h6 => ?_) (fun h6 => ?_)
      · exact rn_throw kt_SG_95_161 rfl dX9_meant_22 dX9_meant_25 dX9_meant_26 dX9_meant_28 dX9_meant_31 (Nat.le_of_ble_eq_true rfl) (Nat.le_of_ble_eq_true rfl) (Nat.le_of_ble_eq_true rfl) (Nat.le_of_ble_eq_true rfl) (Nat.le_of_ble_eq_true rfl) (Or.inl ⟨(Or.inr (Or.inr (Or.inl ⟨hc3, h5, h6⟩))), rfl, rfl⟩)
      · refine rn_iload_n (i := 3) dX9_meant_16 rfl rfl ?_
        refine rn_ldc (v := (65535 : Int32)) wd_487 dX9_meant_17 ?_
        refine rn_icmp_le (tgt := 32) dX9_meant_19 (by decide) (fun h7 => ?_) (fun h7 => ?_)
        · refine rn_aload_n (i := 0) dX9_meant_32 rfl rfl ?_
          refine rn_get 0 kg_SG_42 h_sg hf_sg_8 dX9_meant_33 ?_
          refine rn_iload_n (i := 1) dX9_meant_36 rfl rfl ?_
          refine rn_iload_n (i := 2) dX9_meant_37 rfl rfl ?_
          refine rn_iload_n (i := 3) dX9_meant_38 rfl rfl ?_
          refine rn_callV (a := 1) (b := 6) [.int x, .int y, .int u] kl_SG_163 dX9_meant_39 14 h_pols rfl (c_X5_nextMeans G _ (o_pols := o_pols) (x := x) (y := y) (u := u) (fs_pols := fs_pols) h_pols hf_pols_2 hf_pols_3 hf_pols_4) rfl rfl (Nat.le_of_ble_eq_true rfl) (Nat.le_of_ble_eq_true rfl) (Nat.le_of_ble_eq_true rfl) (Nat.le_of_ble_eq_true rfl) (Nat.le_of_ble_eq_true rfl) (Nat.le_of_ble_eq_true rfl) (by rintro E w h; rcases h with ⟨_, hr, _⟩ <;> cases hr) ?_
          rintro v w h
          obtain ⟨hc8, hr, hw⟩ := h; cases hr; subst hw
          refine rn_stk [] rfl ?_
          exact rn_vret dX9_meant_42 rfl (Or.inr ⟨⟨hc3, h5, h6, h7⟩, rfl, rfl⟩)
        · exact rn_throw kt_SG_95_161 rfl dX9_meant_22 dX9_meant_25 dX9_meant_26 dX9_meant_28 dX9_meant_31 (Nat.le_of_ble_eq_true rfl) (Nat.le_of_ble_eq_true rfl) (Nat.le_of_ble_eq_true rfl) (Nat.le_of_ble_eq_true rfl) (Nat.le_of_ble_eq_true rfl) (Or.inl ⟨(Or.inr (Or.inr (Or.inr ⟨hc3, h5, h6, h7⟩))), rfl, rfl⟩)
set_option maxRecDepth 20000 in
set_option maxHeartbeats 4000000 in
theorem c_X5_isFull (G : rn_G) (ws : va_W) (o_pols : Nat) (fs_pols : List Value) (h_pols : ws[14]? = some (o_pols, Sum.inr (5, fs_pols))) (hf_pols_1 : fs_pols[1]? = some (.int (0 : Int32))) : Rn G mX5_isFull 0 0 0 0 0 (lv_args 0 [.ref o_pols]) [] ws (fun r w => (True ∧ r = Sum.inl (some (.int (0 : Int32))) ∧ w = ws)) := by
  refine rn_lv [(0, .ref o_pols)] rfl ?_
  refine rn_aload_n (i := 0) dX5_isFull_0 rfl rfl ?_
  refine rn_get 14 kg_SG_Policies_22 h_pols hf_pols_1 dX5_isFull_1 ?_
  refine rn_bipush (v := (24 : Int32)) dX5_isFull_4 (by decide) ?_
  refine rn_icmp_lt (tgt := 13) dX5_isFull_6 (by decide) (fun h1 => ?_) (fun h1 => absurd h1 (by decide))
  refine rn_iconst (v := (0 : Int32)) dX5_isFull_13 (by decide) ?_
  exact rn_iret dX5_isFull_14 rfl rfl ⟨trivial, rfl, rfl⟩
set_option maxRecDepth 20000 in
set_option maxHeartbeats 4000000 in
theorem c_X6_init (G : rn_G) (ws : va_W) (o_pol : Nat) (x : Int32) (o_na : Nat) (o_nb : Nat) (y : Int32) (u : Int32) (u1 : Int32) (u2 : Int32) (i_pol : Nat) (fs_pol : List Value) (h_pol : ws[i_pol]? = some (o_pol, Sum.inr (6, fs_pol))) (hf_pol_0 : fs_pol[0]? = some (.int (0 : Int32))) (hf_pol_1 : fs_pol[1]? = some (.null)) (hf_pol_2 : fs_pol[2]? = some (.null)) (hf_pol_3 : fs_pol[3]? = some (.int (0 : Int32))) (hf_pol_4 : fs_pol[4]? = some (.int (0 : Int32))) (hf_pol_5 : fs_pol[5]? = some (.int (0 : Int32))) (hf_pol_6 : fs_pol[6]? = some (.int (0 : Int32))) : Rn G mX6_init 1 20 0 0 0 (lv_args 0 [.ref o_pol, .int x, .ref o_na, .ref o_nb, .int y, .int u, .int u1, .int u2]) [] ws (fun r w => (True ∧ r = Sum.inl none ∧ w = (((((((ws.set i_pol (o_pol, Sum.inr (6, (fs_pol.set 0 (.int x))))).set i_pol (o_pol, Sum.inr (6, ((fs_pol.set 0 (.int x)).set 1 (.ref o_na))))).set i_pol (o_pol, Sum.inr (6, (((fs_pol.set 0 (.int x)).set 1 (.ref o_na)).set 2 (.ref o_nb))))).set i_pol (o_pol, Sum.inr (6, ((((fs_pol.set 0 (.int x)).set 1 (.ref o_na)).set 2 (.ref o_nb)).set 3 (.int y))))).set i_pol (o_pol, Sum.inr (6, (((((fs_pol.set 0 (.int x)).set 1 (.ref o_na)).set 2 (.ref o_nb)).set 3 (.int y)).set 4 (.int u))))).set i_pol (o_pol, Sum.inr (6, ((((((fs_pol.set 0 (.int x)).set 1 (.ref o_na)).set 2 (.ref o_nb)).set 3 (.int y)).set 4 (.int u)).set 5 (.int u1))))).set i_pol (o_pol, Sum.inr (6, (((((((fs_pol.set 0 (.int x)).set 1 (.ref o_na)).set 2 (.ref o_nb)).set 3 (.int y)).set 4 (.int u)).set 5 (.int u1)).set 6 (.int u2))))))) := by
  refine rn_lv [(0, .ref o_pol), (1, .int x), (2, .ref o_na), (3, .ref o_nb), (4, .int y), (5, .int u), (6, .int u1), (7, .int u2)] rfl ?_
  refine rn_aload_n (i := 0) dX6_init_0 rfl rfl ?_
  refine rn_objInit wd_511 wd_27 wd_28 dX6_init_1 (Nat.le_of_ble_eq_true rfl) (Nat.le_of_ble_eq_true rfl) (Nat.le_of_ble_eq_true rfl) ?_
  refine rn_aload_n (i := 0) dX6_init_4 rfl rfl ?_
  refine rn_iload_n (i := 1) dX6_init_5 rfl rfl ?_
  refine rn_put i_pol kp_SG_Policy_9 h_pol (ls_lt hf_pol_0) rfl rfl dX6_init_6 ?_
  refine rn_aload_n (i := 0) dX6_init_9 rfl rfl ?_
  refine rn_aload_n (i := 2) dX6_init_10 rfl rfl ?_
  refine rn_put i_pol kp_SG_Policy_15 (ls_eq h_pol) (ls_lt (ls_ne (by decide) hf_pol_1)) rfl rfl dX6_init_11 ?_
  refine rn_aload_n (i := 0) dX6_init_14 rfl rfl ?_
  refine rn_aload_n (i := 3) dX6_init_15 rfl rfl ?_
  refine rn_put i_pol kp_SG_Policy_19 (ls_eq (ls_eq h_pol)) (ls_lt (ls_ne (by decide) (ls_ne (by decide) hf_pol_2))) rfl rfl dX6_init_16 ?_
  refine rn_aload_n (i := 0) dX6_init_19 rfl rfl ?_
  refine rn_iload dX6_init_20 rfl ?_
  refine rn_put i_pol kp_SG_Policy_22 (ls_eq (ls_eq (ls_eq h_pol))) (ls_lt (ls_ne (by decide) (ls_ne (by decide) (ls_ne (by decide) hf_pol_3)))) rfl rfl dX6_init_22 ?_
  refine rn_aload_n (i := 0) dX6_init_25 rfl rfl ?_
  refine rn_iload dX6_init_26 rfl ?_
  refine rn_put i_pol kp_SG_Policy_25 (ls_eq (ls_eq (ls_eq (ls_eq h_pol)))) (ls_lt (ls_ne (by decide) (ls_ne (by decide) (ls_ne (by decide) (ls_ne (by decide) hf_pol_4))))) rfl rfl dX6_init_28 ?_
  refine rn_aload_n (i := 0) dX6_init_31 rfl rfl ?_
  refine rn_iload dX6_init_32 rfl ?_
  refine rn_put i_pol kp_SG_Policy_28 (ls_eq (ls_eq (ls_eq (ls_eq (ls_eq h_pol))))) (ls_lt (ls_ne (by decide) (ls_ne (by decide) (ls_ne (by decide) (ls_ne (by decide) (ls_ne (by decide) hf_pol_5)))))) rfl rfl dX6_init_34 ?_
  refine rn_aload_n (i := 0) dX6_init_37 rfl rfl ?_
  refine rn_iload dX6_init_38 rfl ?_
  refine rn_put i_pol kp_SG_Policy_31 (ls_eq (ls_eq (ls_eq (ls_eq (ls_eq (ls_eq h_pol)))))) (ls_lt (ls_ne (by decide) (ls_ne (by decide) (ls_ne (by decide) (ls_ne (by decide) (ls_ne (by decide) (ls_ne (by decide) hf_pol_6))))))) rfl rfl dX6_init_40 ?_
  exact rn_vret dX6_init_43 rfl ⟨trivial, rfl, rfl⟩
set_option maxRecDepth 20000 in
set_option maxHeartbeats 4000000 in
theorem c_X5_append (G : rn_G) (ws : va_W) (o_pols : Nat) (x : Int32) (o_na : Nat) (o_nb : Nat) (y : Int32) (o_prow : Nat) (fs_pols : List Value) (L : Nat) (h_prow : ws[15]? = some (o_prow, Sum.inl (rn_k G 5, 24, Sum.inr (Sum.inr (Sum.inr (Sum.inr (fun _ => none))))))) (h_pols : ws[14]? = some (o_pols, Sum.inr (5, fs_pols))) (hf_pols_0 : fs_pols[0]? = some (.ref o_prow)) (hf_pols_1 : fs_pols[1]? = some (.int (0 : Int32))) (hf_pols_2 : fs_pols[2]? = some (.int (0 : Int32))) (hf_pols_3 : fs_pols[3]? = some (.int (0 : Int32))) (hf_pols_4 : fs_pols[4]? = some (.int (65535 : Int32))) (hne_L_14 : L ≠ 14) (hne_L_15 : L ≠ 15) (hlen : ws.length = L) : Rn G mX5_append 2 47 1 7 0 (lv_args 0 [.ref o_pols, .int x, .ref o_na, .ref o_nb, .int y]) [] ws (fun r w => (∃ q3 : Nat, True ∧ r = Sum.inl (some (.int (1 : Int32))) ∧ w = (((((((((((((ws ++ [(q3, Sum.inr (6, fs0_6))]).set L (q3, Sum.inr (6, (fs0_6.set 0 (.int x))))).set L (q3, Sum.inr (6, ((fs0_6.set 0 (.int x)).set 1 (.ref o_na))))).set L (q3, Sum.inr (6, (((fs0_6.set 0 (.int x)).set 1 (.ref o_na)).set 2 (.ref o_nb))))).set L (q3, Sum.inr (6, ((((fs0_6.set 0 (.int x)).set 1 (.ref o_na)).set 2 (.ref o_nb)).set 3 (.int y))))).set L (q3, Sum.inr (6, (((((fs0_6.set 0 (.int x)).set 1 (.ref o_na)).set 2 (.ref o_nb)).set 3 (.int y)).set 4 (.int (0 : Int32)))))).set L (q3, Sum.inr (6, ((((((fs0_6.set 0 (.int x)).set 1 (.ref o_na)).set 2 (.ref o_nb)).set 3 (.int y)).set 4 (.int (0 : Int32))).set 5 (.int (0 : Int32)))))).set L (q3, Sum.inr (6, (((((((fs0_6.set 0 (.int x)).set 1 (.ref o_na)).set 2 (.ref o_nb)).set 3 (.int y)).set 4 (.int (0 : Int32))).set 5 (.int (0 : Int32))).set 6 (.int (65535 : Int32)))))).set 15 (o_prow, Sum.inl (rn_k G 5, 24, Sum.inr (Sum.inr (Sum.inr (Sum.inr (va_up (fun _ => none) ((0 : Int32)).toNatClampNeg (some q3)))))))).set 14 (o_pols, Sum.inr (5, (fs_pols.set 1 (.int (1 : Int32)))))).set 14 (o_pols, Sum.inr (5, ((fs_pols.set 1 (.int (1 : Int32))).set 2 (.int (0 : Int32)))))).set 14 (o_pols, Sum.inr (5, (((fs_pols.set 1 (.int (1 : Int32))).set 2 (.int (0 : Int32))).set 3 (.int (0 : Int32)))))).set 14 (o_pols, Sum.inr (5, ((((fs_pols.set 1 (.int (1 : Int32))).set 2 (.int (0 : Int32))).set 3 (.int (0 : Int32))).set 4 (.int (65535 : Int32)))))))) := by
  refine rn_lv [(0, .ref o_pols), (1, .int x), (2, .ref o_na), (3, .ref o_nb), (4, .int y)] rfl ?_
  refine rn_aload_n (i := 0) dX5_append_0 rfl rfl ?_
  refine rn_get 14 kg_SG_Policies_22 h_pols hf_pols_1 dX5_append_1 ?_
  refine rn_if_lt (tgt := 59) dX5_append_4 (by decide) (fun h1 => absurd h1 (by decide)) (fun h1 => ?_)
  refine rn_aload_n (i := 0) dX5_append_7 rfl rfl ?_
  refine rn_get 14 kg_SG_Policies_22 h_pols hf_pols_1 dX5_append_8 ?_
  refine rn_bipush (v := (24 : Int32)) dX5_append_11 (by decide) ?_
  refine rn_icmp_ge (tgt := 59) dX5_append_13 (by decide) (fun h2 => absurd h2 (by decide)) (fun h2 => ?_)
  refine rn_aload_n (i := 0) dX5_append_16 rfl rfl ?_
  refine rn_get 14 kg_SG_Policies_13 h_pols hf_pols_0 dX5_append_17 ?_
  refine rn_aload_n (i := 0) dX5_append_20 rfl rfl ?_
  refine rn_get 14 kg_SG_Policies_22 h_pols hf_pols_1 dX5_append_21 ?_
  refine rn_new (a := 0) (b := 0) kn_SG_Policies_11 (Nat.le_of_ble_eq_true rfl) (Nat.le_of_ble_eq_true rfl) dX5_append_24 (fun q3 => ?_)
  refine rn_dup dX5_append_27 rfl ?_
  refine rn_iload_n (i := 1) dX5_append_28 rfl rfl ?_
  refine rn_aload_n (i := 2) dX5_append_29 rfl rfl ?_
  refine rn_aload_n (i := 3) dX5_append_30 rfl rfl ?_
  refine rn_iload dX5_append_31 rfl ?_
  refine rn_aload_n (i := 0) dX5_append_33 rfl rfl ?_
  refine rn_get 14 kg_SG_Policies_25 (la_old h_pols) hf_pols_2 dX5_append_34 ?_
  refine rn_aload_n (i := 0) dX5_append_37 rfl rfl ?_
  refine rn_get 14 kg_SG_Policies_28 (la_old h_pols) hf_pols_3 dX5_append_38 ?_
  refine rn_aload_n (i := 0) dX5_append_41 rfl rfl ?_
  refine rn_get 14 kg_SG_Policies_18 (la_old h_pols) hf_pols_4 dX5_append_42 ?_
  refine rn_callI (a := 0) (b := 0) [.int x, .ref o_na, .ref o_nb, .int y, .int (0 : Int32), .int (0 : Int32), .int (65535 : Int32)] kl_SG_Policies_31 dX5_append_45 (c_X6_init G _ (o_pol := q3) (x := x) (o_na := o_na) (o_nb := o_nb) (y := y) (u := (0 : Int32)) (u1 := (0 : Int32)) (u2 := (65535 : Int32)) (i_pol := L) (fs_pol := fs0_6) (la_new hlen) rfl rfl rfl rfl rfl rfl rfl) (by rintro E w h; rcases h with ⟨_, hr, _⟩ <;> cases hr) rfl rfl (Nat.le_of_ble_eq_true rfl) (Nat.le_of_ble_eq_true rfl) (Nat.le_of_ble_eq_true rfl) (Nat.le_of_ble_eq_true rfl) (Nat.le_of_ble_eq_true rfl) (Nat.le_of_ble_eq_true rfl) ?_
  rintro v w h
  obtain ⟨hc4, hr, hw⟩ := h; cases hr; subst hw
  refine rn_stk [.ref q3, .int (0 : Int32), .ref o_prow] rfl ?_
  refine rn_aast 15 5 L 6 (ls_ne hne_L_15 (ls_ne hne_L_15 (ls_ne hne_L_15 (ls_ne hne_L_15 (ls_ne hne_L_15 (ls_ne hne_L_15 (ls_ne hne_L_15 (la_old h_prow)))))))) rfl (ls_eq (ls_eq (ls_eq (ls_eq (ls_eq (ls_eq (ls_eq (la_new hlen)))))))) rfl (by unfold vp_in; decide) dX5_append_48 ?_
  refine rn_aload_n (i := 0) dX5_append_49 rfl rfl ?_
  refine rn_dup dX5_append_50 rfl ?_
  refine rn_get 14 kg_SG_Policies_22 (ls_ne (by decide) (ls_ne hne_L_14 (ls_ne hne_L_14 (ls_ne hne_L_14 (ls_ne hne_L_14 (ls_ne hne_L_14 (ls_ne hne_L_14 (ls_ne hne_L_14 (la_old h_pols))))))))) hf_pols_1 dX5_append_51 ?_
  refine rn_iconst (v := (1 : Int32)) dX5_append_54 (by decide) ?_
  refine rn_iadd dX5_append_55 ?_
  refine rn_topi (1 : Int32) (by decide) ?_
  refine rn_put 14 (kp_SG_Policies_22 _) (ls_ne (by decide) (ls_ne hne_L_14 (ls_ne hne_L_14 (ls_ne hne_L_14 (ls_ne hne_L_14 (ls_ne hne_L_14 (ls_ne hne_L_14 (ls_ne hne_L_14 (la_old h_pols))))))))) (ls_lt hf_pols_1) rfl rfl dX5_append_56 ?_
  refine rn_aload_n (i := 0) dX5_append_59 rfl rfl ?_
  refine rn_iconst (v := (0 : Int32)) dX5_append_60 (by decide) ?_
  refine rn_iconst (v := (0 : Int32)) dX5_append_61 (by decide) ?_
  refine rn_ldc (v := (65535 : Int32)) wd_70 dX5_append_62 ?_
  refine rn_callV (a := 0) (b := 0) [.int (0 : Int32), .int (0 : Int32), .int (65535 : Int32)] kl_SG_Policies_34 dX5_append_64 14 (ls_eq (ls_ne (by decide) (ls_ne hne_L_14 (ls_ne hne_L_14 (ls_ne hne_L_14 (ls_ne hne_L_14 (ls_ne hne_L_14 (ls_ne hne_L_14 (ls_ne hne_L_14 (la_old h_pols)))))))))) rfl (c_X5_nextMeans G _ (o_pols := o_pols) (x := (0 : Int32)) (y := (0 : Int32)) (u := (65535 : Int32)) (fs_pols := (fs_pols.set 1 (.int (1 : Int32)))) (ls_eq (ls_ne (by decide) (ls_ne hne_L_14 (ls_ne hne_L_14 (ls_ne hne_L_14 (ls_ne hne_L_14 (ls_ne hne_L_14 (ls_ne hne_L_14 (ls_ne hne_L_14 (la_old h_pols)))))))))) (ls_ne (by decide) hf_pols_2) (ls_ne (by decide) hf_pols_3) (ls_ne (by decide) hf_pols_4)) rfl rfl (Nat.le_of_ble_eq_true rfl) (Nat.le_of_ble_eq_true rfl) (Nat.le_of_ble_eq_true rfl) (Nat.le_of_ble_eq_true rfl) (Nat.le_of_ble_eq_true rfl) (Nat.le_of_ble_eq_true rfl) (by rintro E w h; rcases h with ⟨_, hr, _⟩ <;> cases hr) ?_
  rintro v w h
  obtain ⟨hc5, hr, hw⟩ := h; cases hr; subst hw
  refine rn_stk [] rfl ?_
  refine rn_aload_n (i := 0) dX5_append_67 rfl rfl ?_
  refine rn_get 14 kg_SG_Policies_22 (ls_eq (ls_eq (ls_eq (ls_eq (ls_ne (by decide) (ls_ne hne_L_14 (ls_ne hne_L_14 (ls_ne hne_L_14 (ls_ne hne_L_14 (ls_ne hne_L_14 (ls_ne hne_L_14 (ls_ne hne_L_14 (la_old h_pols))))))))))))) (ls_ne (by decide) (ls_ne (by decide) (ls_ne (by decide) (ls_eq hf_pols_1)))) dX5_append_68 ?_
  exact rn_iret dX5_append_71 rfl rfl ⟨q3, trivial, rfl, rfl⟩
set_option maxRecDepth 20000 in
set_option maxHeartbeats 4000000 in
theorem c_X9_policy (G : rn_G) (ws : va_W) (o_sg : Nat) (x : Int32) (y : Int32) (u : Int32) (x1 : Int32) (x2 : Int32) (x3 : Int32) (fs_sg : List Value) (o_pols : Nat) (o_prow : Nat) (fs_pols : List Value) (L : Nat) (h_sg : ws[0]? = some (o_sg, Sum.inr (9, fs_sg))) (hf_sg_8 : fs_sg[8]? = some (.ref o_pols)) (h_prow : ws[15]? = some (o_prow, Sum.inl (rn_k G 5, 24, Sum.inr (Sum.inr (Sum.inr (Sum.inr (fun _ => none))))))) (h_pols : ws[14]? = some (o_pols, Sum.inr (5, fs_pols))) (hf_pols_0 : fs_pols[0]? = some (.ref o_prow)) (hf_pols_1 : fs_pols[1]? = some (.int (0 : Int32))) (hf_pols_2 : fs_pols[2]? = some (.int (0 : Int32))) (hf_pols_3 : fs_pols[3]? = some (.int (0 : Int32))) (hf_pols_4 : fs_pols[4]? = some (.int (65535 : Int32))) (hne_Lp1_14 : (L + 1) ≠ 14) (hne_Lp1_15 : (L + 1) ≠ 15) (hne_Lp2_14 : (L + 2) ≠ 14) (hne_Lp2_15 : (L + 2) ≠ 15) (hne_L_14 : L ≠ 14) (hne_L_15 : L ≠ 15) (hlen : ws.length = L) : Rn G mX9_policy 6 90 3 11 0 (lv_args 0 [.ref o_sg, .int x, .int y, .int u, .int x1, .int x2, .int x3]) [] ws (fun r w => (((((x = (0 : Int32)) ∨ (¬ (x = (0 : Int32)) ∧ x = (1 : Int32))) ∧ ((u < (0 : Int32)) ∨ (¬ (u < (0 : Int32)) ∧ (32 : Int32) < u))) ∨ (((x = (0 : Int32)) ∨ (¬ (x = (0 : Int32)) ∧ x = (1 : Int32))) ∧ (¬ (u < (0 : Int32)) ∧ ¬ ((32 : Int32) < u)) ∧ ((x2 < (0 : Int32)) ∨ (¬ (x2 < (0 : Int32)) ∧ (32 : Int32) < x2))) ∨ (((x = (0 : Int32)) ∨ (¬ (x = (0 : Int32)) ∧ x = (1 : Int32))) ∧ (¬ (u < (0 : Int32)) ∧ ¬ ((32 : Int32) < u)) ∧ (¬ (x2 < (0 : Int32)) ∧ ¬ ((32 : Int32) < x2)) ∧ x3 < (-2 : Int32)) ∨ (((x = (0 : Int32)) ∨ (¬ (x = (0 : Int32)) ∧ x = (1 : Int32))) ∧ (¬ (u < (0 : Int32)) ∧ ¬ ((32 : Int32) < u)) ∧ (¬ (x2 < (0 : Int32)) ∧ ¬ ((32 : Int32) < x2)) ∧ ¬ (x3 < (-2 : Int32)) ∧ ¬ (x3 < (4 : Int32))) ∨ ((¬ (x = (0 : Int32)) ∧ ¬ (x = (1 : Int32))))) ∧ r = Sum.inr "java/lang/IllegalArgumentException" ∧ w = ws) ∨ (∃ q15 q17 q19 : Nat, (((x = (0 : Int32)) ∨ (¬ (x = (0 : Int32)) ∧ x = (1 : Int32))) ∧ (¬ (u < (0 : Int32)) ∧ ¬ ((32 : Int32) < u)) ∧ (¬ (x2 < (0 : Int32)) ∧ ¬ ((32 : Int32) < x2)) ∧ ¬ (x3 < (-2 : Int32)) ∧ x3 < (4 : Int32)) ∧ r = Sum.inl (some (.int (1 : Int32))) ∧ w = (((((((((((((((((((ws ++ [(q15, Sum.inr (3, fs0_3))]).set L (q15, Sum.inr (3, (fs0_3.set 0 (.int y))))).set L (q15, Sum.inr (3, ((fs0_3.set 0 (.int y)).set 1 (.int u))))) ++ [(q17, Sum.inr (3, fs0_3))]).set (L + 1) (q17, Sum.inr (3, (fs0_3.set 0 (.int x1))))).set (L + 1) (q17, Sum.inr (3, ((fs0_3.set 0 (.int x1)).set 1 (.int x2))))) ++ [(q19, Sum.inr (6, fs0_6))]).set (L + 2) (q19, Sum.inr (6, (fs0_6.set 0 (.int x))))).set (L + 2) (q19, Sum.inr (6, ((fs0_6.set 0 (.int x)).set 1 (.ref q15))))).set (L + 2) (q19, Sum.inr (6, (((fs0_6.set 0 (.int x)).set 1 (.ref q15)).set 2 (.ref q17))))).set (L + 2) (q19, Sum.inr (6, ((((fs0_6.set 0 (.int x)).set 1 (.ref q15)).set 2 (.ref q17)).set 3 (.int x3))))).set (L + 2) (q19, Sum.inr (6, (((((fs0_6.set 0 (.int x)).set 1 (.ref q15)).set 2 (.ref q17)).set 3 (.int x3)).set 4 (.int (0 : Int32)))))).set (L + 2) (q19, Sum.inr (6, ((((((fs0_6.set 0 (.int x)).set 1 (.ref q15)).set 2 (.ref q17)).set 3 (.int x3)).set 4 (.int (0 : Int32))).set 5 (.int (0 : Int32)))))).set (L + 2) (q19, Sum.inr (6, (((((((fs0_6.set 0 (.int x)).set 1 (.ref q15)).set 2 (.ref q17)).set 3 (.int x3)).set 4 (.int (0 : Int32))).set 5 (.int (0 : Int32))).set 6 (.int (65535 : Int32)))))).set 15 (o_prow, Sum.inl (rn_k G 5, 24, Sum.inr (Sum.inr (Sum.inr (Sum.inr (va_up (fun _ => none) ((0 : Int32)).toNatClampNeg (some q19)))))))).set 14 (o_pols, Sum.inr (5, (fs_pols.set 1 (.int (1 : Int32)))))).set 14 (o_pols, Sum.inr (5, ((fs_pols.set 1 (.int (1 : Int32))).set 2 (.int (0 : Int32)))))).set 14 (o_pols, Sum.inr (5, (((fs_pols.set 1 (.int (1 : Int32))).set 2 (.int (0 : Int32))).set 3 (.int (0 : Int32)))))).set 14 (o_pols, Sum.inr (5, ((((fs_pols.set 1 (.int (1 : Int32))).set 2 (.int (0 : Int32))).set 3 (.int (0 : Int32))).set 4 (.int (65535 : Int32)))))))) := by
  refine rn_lv [(0, .ref o_sg), (1, .int x), (2, .int y), (3, .int u), (4, .int x1), (5, .int x2), (6, .int x3)] rfl ?_
  refine rn_iload_n (i := 1) dX9_policy_0 rfl rfl ?_
  refine rn_callS (a := 3) (b := 11) [.int x] kl_SG_136 dX9_policy_1 (c_X9_isPortOrWay G _ (x := x)) rfl rfl (Nat.le_of_ble_eq_true rfl) (Nat.le_of_ble_eq_true rfl) (Nat.le_of_ble_eq_true rfl) (Nat.le_of_ble_eq_true rfl) (Nat.le_of_ble_eq_true rfl) (Nat.le_of_ble_eq_true rfl) (by rintro E w h; rcases h with ⟨_, hr, _⟩ | ⟨_, hr, _⟩ <;> cases hr) ?_
  rintro v w h
  rcases h with ⟨hc, hr, hw⟩ | ⟨hc, hr, hw⟩
  · have hc1 := hc; clear hc; cases hr; subst hw
    refine rn_stk [.int (1 : Int32)] rfl ?_
    refine rn_if_eq (tgt := 35) dX9_policy_4 (by decide) (fun h2 => absurd h2 (by decide)) (fun h2 => ?_)
    refine rn_iload_n (i := 3) dX9_policy_7 rfl rfl ?_
    refine rn_callS (a := 3) (b := 11) [.int u] kl_SG_133 dX9_policy_8 (c_X9_isWidth G _ (x := u)) rfl rfl (Nat.le_of_ble_eq_true rfl) (Nat.le_of_ble_eq_true rfl) (Nat.le_of_ble_eq_true rfl) (Nat.le_of_ble_eq_true rfl) (Nat.le_of_ble_eq_true rfl) (Nat.le_of_ble_eq_true rfl) (by rintro E w h; rcases h with ⟨_, hr, _⟩ | ⟨_, hr, _⟩ <;> cases hr) ?_
    rintro v w h
    rcases h with ⟨hc, hr, hw⟩ | ⟨hc, hr, hw⟩
    · have hc3 := hc; clear hc; cases hr; subst hw
      refine rn_stk [.int (0 : Int32)] rfl ?_
      refine rn_if_eq (tgt := 35) dX9_policy_11 (by decide) (fun h4 => ?_) (fun h4 => absurd h4 (by decide))
      exact rn_throw kt_SG_95_167 rfl dX9_policy_35 dX9_policy_38 dX9_policy_39 dX9_policy_41 dX9_policy_44 (Nat.le_of_ble_eq_true rfl) (Nat.le_of_ble_eq_true rfl) (Nat.le_of_ble_eq_true rfl) (Nat.le_of_ble_eq_true rfl) (Nat.le_of_ble_eq_true rfl) (Or.inl ⟨(Or.inl ⟨hc1, hc3⟩), rfl, rfl⟩)
    · have hc5 := hc; clear hc; cases hr; subst hw
      refine rn_stk [.int (1 : Int32)] rfl ?_
      refine rn_if_eq (tgt := 35) dX9_policy_11 (by decide) (fun h6 => absurd h6 (by decide)) (fun h6 => ?_)
      refine rn_iload dX9_policy_14 rfl ?_
      refine rn_callS (a := 3) (b := 11) [.int x2] kl_SG_133 dX9_policy_16 (c_X9_isWidth G _ (x := x2)) rfl rfl (Nat.le_of_ble_eq_true rfl) (Nat.le_of_ble_eq_true rfl) (Nat.le_of_ble_eq_true rfl) (Nat.le_of_ble_eq_true rfl) (Nat.le_of_ble_eq_true rfl) (Nat.le_of_ble_eq_true rfl) (by rintro E w h; rcases h with ⟨_, hr, _⟩ | ⟨_, hr, _⟩ <;> cases hr) ?_
      rintro v w h
      rcases h with ⟨hc, hr, hw⟩ | ⟨hc, hr, hw⟩
      · have hc7 := hc; clear hc; cases hr; subst hw
        refine rn_stk [.int (0 : Int32)] rfl ?_
        refine rn_if_eq (tgt := 35) dX9_policy_19 (by decide) (fun h8 => ?_) (fun h8 => absurd h8 (by decide))
        exact rn_throw kt_SG_95_167 rfl dX9_policy_35 dX9_policy_38 dX9_policy_39 dX9_policy_41 dX9_policy_44 (Nat.le_of_ble_eq_true rfl) (Nat.le_of_ble_eq_true rfl) (Nat.le_of_ble_eq_true rfl) (Nat.le_of_ble_eq_true rfl) (Nat.le_of_ble_eq_true rfl) (Or.inl ⟨(Or.inr (Or.inl ⟨hc1, hc5, hc7⟩)), rfl, rfl⟩)
      · have hc9 := hc; clear hc; cases hr; subst hw
        refine rn_stk [.int (1 : Int32)] rfl ?_
        refine rn_if_eq (tgt := 35) dX9_policy_19 (by decide) (fun h10 => absurd h10 (by decide)) (fun h10 => ?_)
        refine rn_iload dX9_policy_22 rfl ?_
        refine rn_bipush (v := (-2 : Int32)) dX9_policy_24 (by decide) ?_
        refine rn_icmp_lt (tgt := 35) dX9_policy_26 (by decide) (fun h11 => ?_) (fun h11 => ?_)
        · exact rn_throw kt_SG_95_167 rfl dX9_policy_35 dX9_policy_38 dX9_policy_39 dX9_policy_41 dX9_policy_44 (Nat.le_of_ble_eq_true rfl) (Nat.le_of_ble_eq_true rfl) (Nat.le_of_ble_eq_true rfl) (Nat.le_of_ble_eq_true rfl) (Nat.le_of_ble_eq_true rfl) (Or.inl ⟨(Or.inr (Or.inr (Or.inl ⟨hc1, hc5, hc9, h11⟩))), rfl, rfl⟩)
        · refine rn_iload dX9_policy_29 rfl ?_
          refine rn_iconst (v := (4 : Int32)) dX9_policy_31 (by decide) ?_
          refine rn_icmp_lt (tgt := 45) dX9_policy_32 (by decide) (fun h12 => ?_) (fun h12 => ?_)
          · refine rn_aload_n (i := 0) dX9_policy_45 rfl rfl ?_
            refine rn_get 0 kg_SG_42 h_sg hf_sg_8 dX9_policy_46 ?_
            refine rn_callV (a := 3) (b := 11) [] kl_SG_169 dX9_policy_49 14 h_pols rfl (c_X5_isFull G _ (o_pols := o_pols) (fs_pols := fs_pols) h_pols hf_pols_1) rfl rfl (Nat.le_of_ble_eq_true rfl) (Nat.le_of_ble_eq_true rfl) (Nat.le_of_ble_eq_true rfl) (Nat.le_of_ble_eq_true rfl) (Nat.le_of_ble_eq_true rfl) (Nat.le_of_ble_eq_true rfl) (by rintro E w h; rcases h with ⟨_, hr, _⟩ <;> cases hr) ?_
            rintro v w h
            obtain ⟨hc13, hr, hw⟩ := h; cases hr; subst hw
            refine rn_stk [.int (0 : Int32)] rfl ?_
            refine rn_if_eq (tgt := 65) dX9_policy_52 (by decide) (fun h14 => ?_) (fun h14 => absurd h14 (by decide))
            refine rn_aload_n (i := 0) dX9_policy_65 rfl rfl ?_
            refine rn_get 0 kg_SG_42 h_sg hf_sg_8 dX9_policy_66 ?_
            refine rn_iload_n (i := 1) dX9_policy_69 rfl rfl ?_
            refine rn_new (a := 2) (b := 9) kn_SG_147 (Nat.le_of_ble_eq_true rfl) (Nat.le_of_ble_eq_true rfl) dX9_policy_70 (fun q15 => ?_)
            refine rn_dup dX9_policy_73 rfl ?_
            refine rn_iload_n (i := 2) dX9_policy_74 rfl rfl ?_
            refine rn_iload_n (i := 3) dX9_policy_75 rfl rfl ?_
            refine rn_callI (a := 2) (b := 9) [.int y, .int u] kl_SG_149 dX9_policy_76 (c_X3_init G _ (o_net := q15) (x := y) (y := u) (i_net := L) (fs_net := fs0_3) (v0 := (0 : Int32)) (v1 := (0 : Int32)) (la_new hlen) rfl rfl) (by rintro E w h; rcases h with ⟨_, hr, _⟩ <;> cases hr) rfl rfl (Nat.le_of_ble_eq_true rfl) (Nat.le_of_ble_eq_true rfl) (Nat.le_of_ble_eq_true rfl) (Nat.le_of_ble_eq_true rfl) (Nat.le_of_ble_eq_true rfl) (Nat.le_of_ble_eq_true rfl) ?_
            rintro v w h
            obtain ⟨hc16, hr, hw⟩ := h; cases hr; subst hw
            refine rn_stk [.ref q15, .int x, .ref o_pols] rfl ?_
            refine rn_new (a := 1) (b := 7) kn_SG_147 (Nat.le_of_ble_eq_true rfl) (Nat.le_of_ble_eq_true rfl) dX9_policy_79 (fun q17 => ?_)
            refine rn_dup dX9_policy_82 rfl ?_
            refine rn_iload dX9_policy_83 rfl ?_
            refine rn_iload dX9_policy_85 rfl ?_
            refine rn_callI (a := 1) (b := 7) [.int x1, .int x2] kl_SG_149 dX9_policy_87 (c_X3_init G _ (o_net := q17) (x := x1) (y := x2) (i_net := (L + 1)) (fs_net := fs0_3) (v0 := (0 : Int32)) (v1 := (0 : Int32)) (la_new (la_set (la_set (la_len hlen)))) rfl rfl) (by rintro E w h; rcases h with ⟨_, hr, _⟩ <;> cases hr) rfl rfl (Nat.le_of_ble_eq_true rfl) (Nat.le_of_ble_eq_true rfl) (Nat.le_of_ble_eq_true rfl) (Nat.le_of_ble_eq_true rfl) (Nat.le_of_ble_eq_true rfl) (Nat.le_of_ble_eq_true rfl) ?_
            rintro v w h
            obtain ⟨hc18, hr, hw⟩ := h; cases hr; subst hw
            refine rn_stk [.ref q17, .ref q15, .int x, .ref o_pols] rfl ?_
            refine rn_iload dX9_policy_90 rfl ?_
            refine rn_callV (a := 0) (b := 0) [.int x, .ref q15, .ref q17, .int x3] kl_SG_172 dX9_policy_92 14 (ls_ne hne_Lp1_14 (ls_ne hne_Lp1_14 (la_old (ls_ne hne_L_14 (ls_ne hne_L_14 (la_old h_pols)))))) rfl (c_X5_append G _ (o_pols := o_pols) (x := x) (o_na := q15) (o_nb := q17) (y := x3) (o_prow := o_prow) (fs_pols := fs_pols) (L := (L + 2)) (ls_ne hne_Lp1_15 (ls_ne hne_Lp1_15 (la_old (ls_ne hne_L_15 (ls_ne hne_L_15 (la_old h_prow)))))) (ls_ne hne_Lp1_14 (ls_ne hne_Lp1_14 (la_old (ls_ne hne_L_14 (ls_ne hne_L_14 (la_old h_pols)))))) hf_pols_0 hf_pols_1 hf_pols_2 hf_pols_3 hf_pols_4 hne_Lp2_14 hne_Lp2_15 (la_set (la_set (la_len (la_set (la_set (la_len hlen))))))) rfl rfl (Nat.le_of_ble_eq_true rfl) (Nat.le_of_ble_eq_true rfl) (Nat.le_of_ble_eq_true rfl) (Nat.le_of_ble_eq_true rfl) (Nat.le_of_ble_eq_true rfl) (Nat.le_of_ble_eq_true rfl) (by rintro E w h; rcases h with ⟨_, _, hr, _⟩ <;> cases hr) ?_
            rintro v w h
            obtain ⟨q19, hc20, hr, hw⟩ := h; cases hr; subst hw
            refine rn_stk [.int (1 : Int32)] rfl ?_
            exact rn_iret dX9_policy_95 rfl rfl (Or.inr ⟨q15, q17, q19, ⟨hc1, hc5, hc9, h11, h12⟩, rfl, rfl⟩)
          · exact rn_throw kt_SG_95_167 rfl dX9_policy_35 dX9_policy_38 dX9_policy_39 dX9_policy_41 dX9_policy_44 (Nat.le_of_ble_eq_true rfl) (Nat.le_of_ble_eq_true rfl) (Nat.le_of_ble_eq_true rfl) (Nat.le_of_ble_eq_true rfl) (Nat.le_of_ble_eq_true rfl) (Or.inl ⟨(Or.inr (Or.inr (Or.inr (Or.inl ⟨hc1, hc5, hc9, h11, h12⟩)))), rfl, rfl⟩)
  · have hc21 := hc; clear hc; cases hr; subst hw
    refine rn_stk [.int (0 : Int32)] rfl ?_
    refine rn_if_eq (tgt := 35) dX9_policy_4 (by decide) (fun h22 => ?_) (fun h22 => absurd h22 (by decide))
    exact rn_throw kt_SG_95_167 rfl dX9_policy_35 dX9_policy_38 dX9_policy_39 dX9_policy_41 dX9_policy_44 (Nat.le_of_ble_eq_true rfl) (Nat.le_of_ble_eq_true rfl) (Nat.le_of_ble_eq_true rfl) (Nat.le_of_ble_eq_true rfl) (Nat.le_of_ble_eq_true rfl) (Or.inl ⟨(Or.inr (Or.inr (Or.inr (Or.inr hc21)))), rfl, rfl⟩)
set_option maxRecDepth 20000 in
set_option maxHeartbeats 4000000 in
theorem c_X9_sealNamed (G : rn_G) (ws : va_W) (o_sg : Nat) (x : Int32) (fs_sg : List Value) (h_sg : ws[0]? = some (o_sg, Sum.inr (9, fs_sg))) (hf_sg_11 : fs_sg[11]? = some (.int (0 : Int32))) : Rn G mX9_sealNamed 0 0 0 0 0 (lv_args 0 [.ref o_sg, .int x]) [] ws (fun r w => (True ∧ r = Sum.inl (some (.null)) ∧ w = ws)) := by
  refine rn_lv [(0, .ref o_sg), (1, .int x)] rfl ?_
  refine rn_iconst (v := (0 : Int32)) dX9_sealNamed_0 (by decide) ?_
  refine rn_istore_n dX9_sealNamed_1 rfl (by decide) [(0, .ref o_sg), (1, .int x), (2, .int (0 : Int32))] rfl ?_
  refine rn_iload_n (i := 2) dX9_sealNamed_2 rfl rfl ?_
  refine rn_aload_n (i := 0) dX9_sealNamed_3 rfl rfl ?_
  refine rn_get 0 kg_SG_178 h_sg hf_sg_11 dX9_sealNamed_4 ?_
  refine rn_icmp_ge (tgt := 51) dX9_sealNamed_7 (by decide) (fun h1 => ?_) (fun h1 => absurd h1 (by decide))
  refine rn_null dX9_sealNamed_51 ?_
  exact rn_aretN dX9_sealNamed_52 rfl ⟨trivial, rfl, rfl⟩
set_option maxRecDepth 20000 in
set_option maxHeartbeats 4000000 in
theorem c_X8_init_0 (G : rn_G) (ws : va_W) (o_seal : Nat) (x : Int32) (y : Int32) (u : Int32) (y1 : Int64) (y2 : Int64) (x2 : Int32) (i_seal : Nat) (fs_seal : List Value) (h_seal : ws[i_seal]? = some (o_seal, Sum.inr (8, fs_seal))) (hf_seal_0 : fs_seal[0]? = some (.int (0 : Int32))) (hf_seal_1 : fs_seal[1]? = some (.int (0 : Int32))) (hf_seal_2 : fs_seal[2]? = some (.int (0 : Int32))) (hf_seal_3 : fs_seal[3]? = some (.long (0 : Int64))) (hf_seal_4 : fs_seal[4]? = some (.long (0 : Int64))) (hf_seal_5 : fs_seal[5]? = some (.int (0 : Int32))) (hf_seal_6 : fs_seal[6]? = some (.int (0 : Int32))) : Rn G mX8_init 1 20 0 0 0 (lv_args 0 [.ref o_seal, .int x, .int y, .int u, .long y1, .long y2, .int (0 : Int32), .int x2]) [] ws (fun r w => (True ∧ r = Sum.inl none ∧ w = (((((((ws.set i_seal (o_seal, Sum.inr (8, (fs_seal.set 0 (.int x))))).set i_seal (o_seal, Sum.inr (8, ((fs_seal.set 0 (.int x)).set 1 (.int y))))).set i_seal (o_seal, Sum.inr (8, (((fs_seal.set 0 (.int x)).set 1 (.int y)).set 2 (.int u))))).set i_seal (o_seal, Sum.inr (8, ((((fs_seal.set 0 (.int x)).set 1 (.int y)).set 2 (.int u)).set 3 (.long y1))))).set i_seal (o_seal, Sum.inr (8, (((((fs_seal.set 0 (.int x)).set 1 (.int y)).set 2 (.int u)).set 3 (.long y1)).set 4 (.long y2))))).set i_seal (o_seal, Sum.inr (8, ((((((fs_seal.set 0 (.int x)).set 1 (.int y)).set 2 (.int u)).set 3 (.long y1)).set 4 (.long y2)).set 5 (.int (0 : Int32)))))).set i_seal (o_seal, Sum.inr (8, (((((((fs_seal.set 0 (.int x)).set 1 (.int y)).set 2 (.int u)).set 3 (.long y1)).set 4 (.long y2)).set 5 (.int (0 : Int32))).set 6 (.int x2))))))) := by
  refine rn_lv [(0, .ref o_seal), (1, .int x), (2, .int y), (3, .int u), (4, .long y1), (6, .long y2), (8, .int (0 : Int32)), (9, .int x2)] rfl ?_
  refine rn_aload_n (i := 0) dX8_init_0 rfl rfl ?_
  refine rn_objInit wd_560 wd_27 wd_28 dX8_init_1 (Nat.le_of_ble_eq_true rfl) (Nat.le_of_ble_eq_true rfl) (Nat.le_of_ble_eq_true rfl) ?_
  refine rn_aload_n (i := 0) dX8_init_4 rfl rfl ?_
  refine rn_iload_n (i := 1) dX8_init_5 rfl rfl ?_
  refine rn_put i_seal kp_SG_Seal_11 h_seal (ls_lt hf_seal_0) rfl rfl dX8_init_6 ?_
  refine rn_aload_n (i := 0) dX8_init_9 rfl rfl ?_
  refine rn_iload_n (i := 2) dX8_init_10 rfl rfl ?_
  refine rn_put i_seal kp_SG_Seal_15 (ls_eq h_seal) (ls_lt (ls_ne (by decide) hf_seal_1)) rfl rfl dX8_init_11 ?_
  refine rn_aload_n (i := 0) dX8_init_14 rfl rfl ?_
  refine rn_iload_n (i := 3) dX8_init_15 rfl rfl ?_
  refine rn_put i_seal kp_SG_Seal_18 (ls_eq (ls_eq h_seal)) (ls_lt (ls_ne (by decide) (ls_ne (by decide) hf_seal_2))) rfl rfl dX8_init_16 ?_
  refine rn_aload_n (i := 0) dX8_init_19 rfl rfl ?_
  refine rn_lload dX8_init_20 rfl ?_
  refine rn_put i_seal kp_SG_Seal_21 (ls_eq (ls_eq (ls_eq h_seal))) (ls_lt (ls_ne (by decide) (ls_ne (by decide) (ls_ne (by decide) hf_seal_3)))) rfl rfl dX8_init_22 ?_
  refine rn_aload_n (i := 0) dX8_init_25 rfl rfl ?_
  refine rn_lload dX8_init_26 rfl ?_
  refine rn_put i_seal kp_SG_Seal_25 (ls_eq (ls_eq (ls_eq (ls_eq h_seal)))) (ls_lt (ls_ne (by decide) (ls_ne (by decide) (ls_ne (by decide) (ls_ne (by decide) hf_seal_4))))) rfl rfl dX8_init_28 ?_
  refine rn_aload_n (i := 0) dX8_init_31 rfl rfl ?_
  refine rn_iload dX8_init_32 rfl ?_
  refine rn_put i_seal kp_SG_Seal_28 (ls_eq (ls_eq (ls_eq (ls_eq (ls_eq h_seal))))) (ls_lt (ls_ne (by decide) (ls_ne (by decide) (ls_ne (by decide) (ls_ne (by decide) (ls_ne (by decide) hf_seal_5)))))) rfl rfl dX8_init_34 ?_
  refine rn_aload_n (i := 0) dX8_init_37 rfl rfl ?_
  refine rn_iload dX8_init_38 rfl ?_
  refine rn_put i_seal (kp_SG_Seal_32 _) (ls_eq (ls_eq (ls_eq (ls_eq (ls_eq (ls_eq h_seal)))))) (ls_lt (ls_ne (by decide) (ls_ne (by decide) (ls_ne (by decide) (ls_ne (by decide) (ls_ne (by decide) (ls_ne (by decide) hf_seal_6))))))) rfl rfl dX8_init_40 ?_
  exact rn_vret dX8_init_43 rfl ⟨trivial, rfl, rfl⟩
set_option maxRecDepth 20000 in
set_option maxHeartbeats 4000000 in
theorem c_X9_seal_0 (G : rn_G) (ws : va_W) (o_sg : Nat) (x : Int32) (y : Int32) (u : Int32) (y1 : Int64) (y2 : Int64) (x2 : Int32) (fs_sg : List Value) (o_seals : Nat) (L : Nat) (h_sg : ws[0]? = some (o_sg, Sum.inr (9, fs_sg))) (hf_sg_10 : fs_sg[10]? = some (.ref o_seals)) (hf_sg_11 : fs_sg[11]? = some (.int (0 : Int32))) (h_seals : ws[17]? = some (o_seals, Sum.inl (rn_k G 6, 16, Sum.inr (Sum.inr (Sum.inr (Sum.inr (fun _ => none))))))) (hne_L_0 : L ≠ 0) (hne_L_17 : L ≠ 17) (hlen : ws.length = L) : Rn G mX9_seal 6 90 1 10 0 (lv_args 0 [.ref o_sg, .int x, .int y, .int u, .long y1, .long y2, .int (0 : Int32), .int x2]) [] ws (fun r w => ((((y < (0 : Int32)) ∨ (¬ (y < (0 : Int32)) ∧ (4 : Int32) ≤ y))) ∧ r = Sum.inr "java/lang/IndexOutOfBoundsException" ∧ w = ws) ∨ ((((¬ (y < (0 : Int32)) ∧ ¬ ((4 : Int32) ≤ y)) ∧ ((x = (0 : Int32)) ∨ (¬ (x = (0 : Int32)) ∧ x = (1 : Int32))) ∧ u < (256 : Int32)) ∨ ((¬ (y < (0 : Int32)) ∧ ¬ ((4 : Int32) ≤ y)) ∧ ((x = (0 : Int32)) ∨ (¬ (x = (0 : Int32)) ∧ x = (1 : Int32))) ∧ ¬ (u < (256 : Int32)) ∧ x2 < (1 : Int32)) ∨ ((¬ (y < (0 : Int32)) ∧ ¬ ((4 : Int32) ≤ y)) ∧ ((x = (0 : Int32)) ∨ (¬ (x = (0 : Int32)) ∧ x = (1 : Int32))) ∧ ¬ (u < (256 : Int32)) ∧ ¬ (x2 < (1 : Int32)) ∧ ¬ (x2 ≤ (1000000 : Int32))) ∨ ((¬ (y < (0 : Int32)) ∧ ¬ ((4 : Int32) ≤ y)) ∧ (¬ (x = (0 : Int32)) ∧ ¬ (x = (1 : Int32))))) ∧ r = Sum.inr "java/lang/IllegalArgumentException" ∧ w = ws) ∨ (∃ q13 : Nat, ((¬ (y < (0 : Int32)) ∧ ¬ ((4 : Int32) ≤ y)) ∧ ((x = (0 : Int32)) ∨ (¬ (x = (0 : Int32)) ∧ x = (1 : Int32))) ∧ ¬ (u < (256 : Int32)) ∧ ¬ (x2 < (1 : Int32)) ∧ x2 ≤ (1000000 : Int32)) ∧ r = Sum.inl (some (.int (0 : Int32))) ∧ w = ((((((((((ws ++ [(q13, Sum.inr (8, fs0_8))]).set L (q13, Sum.inr (8, (fs0_8.set 0 (.int x))))).set L (q13, Sum.inr (8, ((fs0_8.set 0 (.int x)).set 1 (.int y))))).set L (q13, Sum.inr (8, (((fs0_8.set 0 (.int x)).set 1 (.int y)).set 2 (.int u))))).set L (q13, Sum.inr (8, ((((fs0_8.set 0 (.int x)).set 1 (.int y)).set 2 (.int u)).set 3 (.long y1))))).set L (q13, Sum.inr (8, (((((fs0_8.set 0 (.int x)).set 1 (.int y)).set 2 (.int u)).set 3 (.long y1)).set 4 (.long y2))))).set L (q13, Sum.inr (8, ((((((fs0_8.set 0 (.int x)).set 1 (.int y)).set 2 (.int u)).set 3 (.long y1)).set 4 (.long y2)).set 5 (.int (0 : Int32)))))).set L (q13, Sum.inr (8, (((((((fs0_8.set 0 (.int x)).set 1 (.int y)).set 2 (.int u)).set 3 (.long y1)).set 4 (.long y2)).set 5 (.int (0 : Int32))).set 6 (.int x2))))).set 17 (o_seals, Sum.inl (rn_k G 6, 16, Sum.inr (Sum.inr (Sum.inr (Sum.inr (va_up (fun _ => none) ((0 : Int32)).toNatClampNeg (some q13)))))))).set 0 (o_sg, Sum.inr (9, (fs_sg.set 11 (.int (1 : Int32)))))))) := by
  refine rn_lv [(0, .ref o_sg), (1, .int x), (2, .int y), (3, .int u), (4, .long y1), (6, .long y2), (8, .int (0 : Int32)), (9, .int x2)] rfl ?_
  refine rn_iload_n (i := 2) dX9_seal_0 rfl rfl ?_
  refine rn_callS (a := 1) (b := 10) [.int y] kl_SG_155 dX9_seal_1 (c_X9_isTunnel G _ (x := y)) rfl rfl (Nat.le_of_ble_eq_true rfl) (Nat.le_of_ble_eq_true rfl) (Nat.le_of_ble_eq_true rfl) (Nat.le_of_ble_eq_true rfl) (Nat.le_of_ble_eq_true rfl) (Nat.le_of_ble_eq_true rfl) (by rintro E w h; rcases h with ⟨_, hr, _⟩ | ⟨_, hr, _⟩ <;> cases hr) ?_
  rintro v w h
  rcases h with ⟨hc, hr, hw⟩ | ⟨hc, hr, hw⟩
  · have hc1 := hc; clear hc; cases hr; subst hw
    refine rn_stk [.int (0 : Int32)] rfl ?_
    refine rn_if_ne (tgt := 17) dX9_seal_4 (by decide) (fun h2 => absurd h2 (by decide)) (fun h2 => ?_)
    exact rn_throw kt_SG_114_158 rfl dX9_seal_7 dX9_seal_10 dX9_seal_11 dX9_seal_13 dX9_seal_16 (Nat.le_of_ble_eq_true rfl) (Nat.le_of_ble_eq_true rfl) (Nat.le_of_ble_eq_true rfl) (Nat.le_of_ble_eq_true rfl) (Nat.le_of_ble_eq_true rfl) (Or.inl ⟨hc1, rfl, rfl⟩)
  · have hc3 := hc; clear hc; cases hr; subst hw
    refine rn_stk [.int (1 : Int32)] rfl ?_
    refine rn_if_ne (tgt := 17) dX9_seal_4 (by decide) (fun h4 => ?_) (fun h4 => absurd h4 (by decide))
    refine rn_iload_n (i := 1) dX9_seal_17 rfl rfl ?_
    refine rn_callS (a := 1) (b := 10) [.int x] kl_SG_136 dX9_seal_18 (c_X9_isPortOrWay G _ (x := x)) rfl rfl (Nat.le_of_ble_eq_true rfl) (Nat.le_of_ble_eq_true rfl) (Nat.le_of_ble_eq_true rfl) (Nat.le_of_ble_eq_true rfl) (Nat.le_of_ble_eq_true rfl) (Nat.le_of_ble_eq_true rfl) (by rintro E w h; rcases h with ⟨_, hr, _⟩ | ⟨_, hr, _⟩ <;> cases hr) ?_
    rintro v w h
    rcases h with ⟨hc, hr, hw⟩ | ⟨hc, hr, hw⟩
    · have hc5 := hc; clear hc; cases hr; subst hw
      refine rn_stk [.int (1 : Int32)] rfl ?_
      refine rn_if_eq (tgt := 44) dX9_seal_21 (by decide) (fun h6 => absurd h6 (by decide)) (fun h6 => ?_)
      refine rn_iload_n (i := 3) dX9_seal_24 rfl rfl ?_
      refine rn_sipush (v := (256 : Int32)) dX9_seal_25 (by decide) ?_
      refine rn_icmp_lt (tgt := 44) dX9_seal_28 (by decide) (fun h7 => ?_) (fun h7 => ?_)
      · exact rn_throw kt_SG_95_176 rfl dX9_seal_44 dX9_seal_47 dX9_seal_48 dX9_seal_50 dX9_seal_53 (Nat.le_of_ble_eq_true rfl) (Nat.le_of_ble_eq_true rfl) (Nat.le_of_ble_eq_true rfl) (Nat.le_of_ble_eq_true rfl) (Nat.le_of_ble_eq_true rfl) (Or.inr (Or.inl ⟨(Or.inl ⟨hc3, hc5, h7⟩), rfl, rfl⟩))
      · refine rn_iload dX9_seal_31 rfl ?_
        refine rn_iconst (v := (1 : Int32)) dX9_seal_33 (by decide) ?_
        refine rn_icmp_lt (tgt := 44) dX9_seal_34 (by decide) (fun h8 => ?_) (fun h8 => ?_)
        · exact rn_throw kt_SG_95_176 rfl dX9_seal_44 dX9_seal_47 dX9_seal_48 dX9_seal_50 dX9_seal_53 (Nat.le_of_ble_eq_true rfl) (Nat.le_of_ble_eq_true rfl) (Nat.le_of_ble_eq_true rfl) (Nat.le_of_ble_eq_true rfl) (Nat.le_of_ble_eq_true rfl) (Or.inr (Or.inl ⟨(Or.inr (Or.inl ⟨hc3, hc5, h7, h8⟩)), rfl, rfl⟩))
        · refine rn_iload dX9_seal_37 rfl ?_
          refine rn_ldc (v := (1000000 : Int32)) wd_541 dX9_seal_39 ?_
          refine rn_icmp_le (tgt := 54) dX9_seal_41 (by decide) (fun h9 => ?_) (fun h9 => ?_)
          · refine rn_aload_n (i := 0) dX9_seal_54 rfl rfl ?_
            refine rn_get 0 kg_SG_178 h_sg hf_sg_11 dX9_seal_55 ?_
            refine rn_if_lt (tgt := 78) dX9_seal_58 (by decide) (fun h10 => absurd h10 (by decide)) (fun h10 => ?_)
            refine rn_aload_n (i := 0) dX9_seal_61 rfl rfl ?_
            refine rn_get 0 kg_SG_178 h_sg hf_sg_11 dX9_seal_62 ?_
            refine rn_bipush (v := (16 : Int32)) dX9_seal_65 (by decide) ?_
            refine rn_icmp_ge (tgt := 78) dX9_seal_67 (by decide) (fun h11 => absurd h11 (by decide)) (fun h11 => ?_)
            refine rn_aload_n (i := 0) dX9_seal_70 rfl rfl ?_
            refine rn_iload_n (i := 3) dX9_seal_71 rfl rfl ?_
            refine rn_callV (a := 1) (b := 10) [.int u] kl_SG_181 dX9_seal_72 0 h_sg rfl (c_X9_sealNamed G _ (o_sg := o_sg) (x := u) (fs_sg := fs_sg) h_sg hf_sg_11) rfl rfl (Nat.le_of_ble_eq_true rfl) (Nat.le_of_ble_eq_true rfl) (Nat.le_of_ble_eq_true rfl) (Nat.le_of_ble_eq_true rfl) (Nat.le_of_ble_eq_true rfl) (Nat.le_of_ble_eq_true rfl) (by rintro E w h; rcases h with ⟨_, hr, _⟩ <;> cases hr) ?_
            rintro v w h
            obtain ⟨hc12, hr, hw⟩ := h; cases hr; subst hw
            refine rn_stk [.null] rfl ?_
            refine rn_ifnullN (tgt := 88) dX9_seal_75 (by decide) ?_
            refine rn_aload_n (i := 0) dX9_seal_88 rfl rfl ?_
            refine rn_get 0 kg_SG_52 h_sg hf_sg_10 dX9_seal_89 ?_
            refine rn_aload_n (i := 0) dX9_seal_92 rfl rfl ?_
            refine rn_get 0 kg_SG_178 h_sg hf_sg_11 dX9_seal_93 ?_
            refine rn_new (a := 0) (b := 0) kn_SG_50 (Nat.le_of_ble_eq_true rfl) (Nat.le_of_ble_eq_true rfl) dX9_seal_96 (fun q13 => ?_)
            refine rn_dup dX9_seal_99 rfl ?_
            refine rn_iload_n (i := 1) dX9_seal_100 rfl rfl ?_
            refine rn_iload_n (i := 2) dX9_seal_101 rfl rfl ?_
            refine rn_iload_n (i := 3) dX9_seal_102 rfl rfl ?_
            refine rn_lload dX9_seal_103 rfl ?_
            refine rn_lload dX9_seal_105 rfl ?_
            refine rn_iload dX9_seal_107 rfl ?_
            refine rn_iload dX9_seal_109 rfl ?_
            refine rn_callI (a := 0) (b := 0) [.int x, .int y, .int u, .long y1, .long y2, .int (0 : Int32), .int x2] kl_SG_187 dX9_seal_111 (c_X8_init_0 G _ (o_seal := q13) (x := x) (y := y) (u := u) (y1 := y1) (y2 := y2) (x2 := x2) (i_seal := L) (fs_seal := fs0_8) (la_new hlen) rfl rfl rfl rfl rfl rfl rfl) (by rintro E w h; rcases h with ⟨_, hr, _⟩ <;> cases hr) rfl rfl (Nat.le_of_ble_eq_true rfl) (Nat.le_of_ble_eq_true rfl) (Nat.le_of_ble_eq_true rfl) (Nat.le_of_ble_eq_true rfl) (Nat.le_of_ble_eq_true rfl) (Nat.le_of_ble_eq_true rfl) ?_
            rintro v w h
            obtain ⟨hc14, hr, hw⟩ := h; cases hr; subst hw
            refine rn_stk [.ref q13, .int (0 : Int32), .ref o_seals] rfl ?_
            refine rn_aast 17 6 L 8 (ls_ne hne_L_17 (ls_ne hne_L_17 (ls_ne hne_L_17 (ls_ne hne_L_17 (ls_ne hne_L_17 (ls_ne hne_L_17 (ls_ne hne_L_17 (la_old h_seals)))))))) rfl (ls_eq (ls_eq (ls_eq (ls_eq (ls_eq (ls_eq (ls_eq (la_new hlen)))))))) rfl (by unfold vp_in; decide) dX9_seal_114 ?_
            refine rn_aload_n (i := 0) dX9_seal_115 rfl rfl ?_
            refine rn_dup dX9_seal_116 rfl ?_
            refine rn_get 0 kg_SG_178 (ls_ne (by decide) (ls_ne hne_L_0 (ls_ne hne_L_0 (ls_ne hne_L_0 (ls_ne hne_L_0 (ls_ne hne_L_0 (ls_ne hne_L_0 (ls_ne hne_L_0 (la_old h_sg))))))))) hf_sg_11 dX9_seal_117 ?_
            refine rn_dup_x1 dX9_seal_120 rfl rfl ?_
            refine rn_iconst (v := (1 : Int32)) dX9_seal_121 (by decide) ?_
            refine rn_iadd dX9_seal_122 ?_
            refine rn_topi (1 : Int32) (by decide) ?_
            refine rn_put 0 (kp_SG_178 _) (ls_ne (by decide) (ls_ne hne_L_0 (ls_ne hne_L_0 (ls_ne hne_L_0 (ls_ne hne_L_0 (ls_ne hne_L_0 (ls_ne hne_L_0 (ls_ne hne_L_0 (la_old h_sg))))))))) (ls_lt hf_sg_11) rfl rfl dX9_seal_123 ?_
            exact rn_iret dX9_seal_126 rfl rfl (Or.inr (Or.inr ⟨q13, ⟨hc3, hc5, h7, h8, h9⟩, rfl, rfl⟩))
          · exact rn_throw kt_SG_95_176 rfl dX9_seal_44 dX9_seal_47 dX9_seal_48 dX9_seal_50 dX9_seal_53 (Nat.le_of_ble_eq_true rfl) (Nat.le_of_ble_eq_true rfl) (Nat.le_of_ble_eq_true rfl) (Nat.le_of_ble_eq_true rfl) (Nat.le_of_ble_eq_true rfl) (Or.inr (Or.inl ⟨(Or.inr (Or.inr (Or.inl ⟨hc3, hc5, h7, h8, h9⟩))), rfl, rfl⟩))
    · have hc15 := hc; clear hc; cases hr; subst hw
      refine rn_stk [.int (0 : Int32)] rfl ?_
      refine rn_if_eq (tgt := 44) dX9_seal_21 (by decide) (fun h16 => ?_) (fun h16 => absurd h16 (by decide))
      exact rn_throw kt_SG_95_176 rfl dX9_seal_44 dX9_seal_47 dX9_seal_48 dX9_seal_50 dX9_seal_53 (Nat.le_of_ble_eq_true rfl) (Nat.le_of_ble_eq_true rfl) (Nat.le_of_ble_eq_true rfl) (Nat.le_of_ble_eq_true rfl) (Nat.le_of_ble_eq_true rfl) (Or.inr (Or.inl ⟨(Or.inr (Or.inr (Or.inr ⟨hc3, hc15⟩))), rfl, rfl⟩))
set_option maxRecDepth 20000 in
set_option maxHeartbeats 4000000 in
theorem c_X8_init_1 (G : rn_G) (ws : va_W) (o_seal : Nat) (x : Int32) (y : Int32) (u : Int32) (y1 : Int64) (y2 : Int64) (x2 : Int32) (i_seal : Nat) (fs_seal : List Value) (h_seal : ws[i_seal]? = some (o_seal, Sum.inr (8, fs_seal))) (hf_seal_0 : fs_seal[0]? = some (.int (0 : Int32))) (hf_seal_1 : fs_seal[1]? = some (.int (0 : Int32))) (hf_seal_2 : fs_seal[2]? = some (.int (0 : Int32))) (hf_seal_3 : fs_seal[3]? = some (.long (0 : Int64))) (hf_seal_4 : fs_seal[4]? = some (.long (0 : Int64))) (hf_seal_5 : fs_seal[5]? = some (.int (0 : Int32))) (hf_seal_6 : fs_seal[6]? = some (.int (0 : Int32))) : Rn G mX8_init 1 20 0 0 0 (lv_args 0 [.ref o_seal, .int x, .int y, .int u, .long y1, .long y2, .int (1 : Int32), .int x2]) [] ws (fun r w => (True ∧ r = Sum.inl none ∧ w = (((((((ws.set i_seal (o_seal, Sum.inr (8, (fs_seal.set 0 (.int x))))).set i_seal (o_seal, Sum.inr (8, ((fs_seal.set 0 (.int x)).set 1 (.int y))))).set i_seal (o_seal, Sum.inr (8, (((fs_seal.set 0 (.int x)).set 1 (.int y)).set 2 (.int u))))).set i_seal (o_seal, Sum.inr (8, ((((fs_seal.set 0 (.int x)).set 1 (.int y)).set 2 (.int u)).set 3 (.long y1))))).set i_seal (o_seal, Sum.inr (8, (((((fs_seal.set 0 (.int x)).set 1 (.int y)).set 2 (.int u)).set 3 (.long y1)).set 4 (.long y2))))).set i_seal (o_seal, Sum.inr (8, ((((((fs_seal.set 0 (.int x)).set 1 (.int y)).set 2 (.int u)).set 3 (.long y1)).set 4 (.long y2)).set 5 (.int (1 : Int32)))))).set i_seal (o_seal, Sum.inr (8, (((((((fs_seal.set 0 (.int x)).set 1 (.int y)).set 2 (.int u)).set 3 (.long y1)).set 4 (.long y2)).set 5 (.int (1 : Int32))).set 6 (.int x2))))))) := by
  refine rn_lv [(0, .ref o_seal), (1, .int x), (2, .int y), (3, .int u), (4, .long y1), (6, .long y2), (8, .int (1 : Int32)), (9, .int x2)] rfl ?_
  refine rn_aload_n (i := 0) dX8_init_0 rfl rfl ?_
  refine rn_objInit wd_560 wd_27 wd_28 dX8_init_1 (Nat.le_of_ble_eq_true rfl) (Nat.le_of_ble_eq_true rfl) (Nat.le_of_ble_eq_true rfl) ?_
  refine rn_aload_n (i := 0) dX8_init_4 rfl rfl ?_
  refine rn_iload_n (i := 1) dX8_init_5 rfl rfl ?_
  refine rn_put i_seal kp_SG_Seal_11 h_seal (ls_lt hf_seal_0) rfl rfl dX8_init_6 ?_
  refine rn_aload_n (i := 0) dX8_init_9 rfl rfl ?_
  refine rn_iload_n (i := 2) dX8_init_10 rfl rfl ?_
  refine rn_put i_seal kp_SG_Seal_15 (ls_eq h_seal) (ls_lt (ls_ne (by decide) hf_seal_1)) rfl rfl dX8_init_11 ?_
  refine rn_aload_n (i := 0) dX8_init_14 rfl rfl ?_
  refine rn_iload_n (i := 3) dX8_init_15 rfl rfl ?_
  refine rn_put i_seal kp_SG_Seal_18 (ls_eq (ls_eq h_seal)) (ls_lt (ls_ne (by decide) (ls_ne (by decide) hf_seal_2))) rfl rfl dX8_init_16 ?_
  refine rn_aload_n (i := 0) dX8_init_19 rfl rfl ?_
  refine rn_lload dX8_init_20 rfl ?_
  refine rn_put i_seal kp_SG_Seal_21 (ls_eq (ls_eq (ls_eq h_seal))) (ls_lt (ls_ne (by decide) (ls_ne (by decide) (ls_ne (by decide) hf_seal_3)))) rfl rfl dX8_init_22 ?_
  refine rn_aload_n (i := 0) dX8_init_25 rfl rfl ?_
  refine rn_lload dX8_init_26 rfl ?_
  refine rn_put i_seal kp_SG_Seal_25 (ls_eq (ls_eq (ls_eq (ls_eq h_seal)))) (ls_lt (ls_ne (by decide) (ls_ne (by decide) (ls_ne (by decide) (ls_ne (by decide) hf_seal_4))))) rfl rfl dX8_init_28 ?_
  refine rn_aload_n (i := 0) dX8_init_31 rfl rfl ?_
  refine rn_iload dX8_init_32 rfl ?_
  refine rn_put i_seal kp_SG_Seal_28 (ls_eq (ls_eq (ls_eq (ls_eq (ls_eq h_seal))))) (ls_lt (ls_ne (by decide) (ls_ne (by decide) (ls_ne (by decide) (ls_ne (by decide) (ls_ne (by decide) hf_seal_5)))))) rfl rfl dX8_init_34 ?_
  refine rn_aload_n (i := 0) dX8_init_37 rfl rfl ?_
  refine rn_iload dX8_init_38 rfl ?_
  refine rn_put i_seal (kp_SG_Seal_32 _) (ls_eq (ls_eq (ls_eq (ls_eq (ls_eq (ls_eq h_seal)))))) (ls_lt (ls_ne (by decide) (ls_ne (by decide) (ls_ne (by decide) (ls_ne (by decide) (ls_ne (by decide) (ls_ne (by decide) hf_seal_6))))))) rfl rfl dX8_init_40 ?_
  exact rn_vret dX8_init_43 rfl ⟨trivial, rfl, rfl⟩
set_option maxRecDepth 20000 in
set_option maxHeartbeats 4000000 in
theorem c_X9_seal_1 (G : rn_G) (ws : va_W) (o_sg : Nat) (x : Int32) (y : Int32) (u : Int32) (y1 : Int64) (y2 : Int64) (x2 : Int32) (fs_sg : List Value) (o_seals : Nat) (L : Nat) (h_sg : ws[0]? = some (o_sg, Sum.inr (9, fs_sg))) (hf_sg_10 : fs_sg[10]? = some (.ref o_seals)) (hf_sg_11 : fs_sg[11]? = some (.int (0 : Int32))) (h_seals : ws[17]? = some (o_seals, Sum.inl (rn_k G 6, 16, Sum.inr (Sum.inr (Sum.inr (Sum.inr (fun _ => none))))))) (hne_L_0 : L ≠ 0) (hne_L_17 : L ≠ 17) (hlen : ws.length = L) : Rn G mX9_seal 6 90 1 10 0 (lv_args 0 [.ref o_sg, .int x, .int y, .int u, .long y1, .long y2, .int (1 : Int32), .int x2]) [] ws (fun r w => ((((y < (0 : Int32)) ∨ (¬ (y < (0 : Int32)) ∧ (4 : Int32) ≤ y))) ∧ r = Sum.inr "java/lang/IndexOutOfBoundsException" ∧ w = ws) ∨ ((((¬ (y < (0 : Int32)) ∧ ¬ ((4 : Int32) ≤ y)) ∧ ((x = (0 : Int32)) ∨ (¬ (x = (0 : Int32)) ∧ x = (1 : Int32))) ∧ u < (256 : Int32)) ∨ ((¬ (y < (0 : Int32)) ∧ ¬ ((4 : Int32) ≤ y)) ∧ ((x = (0 : Int32)) ∨ (¬ (x = (0 : Int32)) ∧ x = (1 : Int32))) ∧ ¬ (u < (256 : Int32)) ∧ x2 < (1 : Int32)) ∨ ((¬ (y < (0 : Int32)) ∧ ¬ ((4 : Int32) ≤ y)) ∧ ((x = (0 : Int32)) ∨ (¬ (x = (0 : Int32)) ∧ x = (1 : Int32))) ∧ ¬ (u < (256 : Int32)) ∧ ¬ (x2 < (1 : Int32)) ∧ ¬ (x2 ≤ (1000000 : Int32))) ∨ ((¬ (y < (0 : Int32)) ∧ ¬ ((4 : Int32) ≤ y)) ∧ (¬ (x = (0 : Int32)) ∧ ¬ (x = (1 : Int32))))) ∧ r = Sum.inr "java/lang/IllegalArgumentException" ∧ w = ws) ∨ (∃ q13 : Nat, ((¬ (y < (0 : Int32)) ∧ ¬ ((4 : Int32) ≤ y)) ∧ ((x = (0 : Int32)) ∨ (¬ (x = (0 : Int32)) ∧ x = (1 : Int32))) ∧ ¬ (u < (256 : Int32)) ∧ ¬ (x2 < (1 : Int32)) ∧ x2 ≤ (1000000 : Int32)) ∧ r = Sum.inl (some (.int (0 : Int32))) ∧ w = ((((((((((ws ++ [(q13, Sum.inr (8, fs0_8))]).set L (q13, Sum.inr (8, (fs0_8.set 0 (.int x))))).set L (q13, Sum.inr (8, ((fs0_8.set 0 (.int x)).set 1 (.int y))))).set L (q13, Sum.inr (8, (((fs0_8.set 0 (.int x)).set 1 (.int y)).set 2 (.int u))))).set L (q13, Sum.inr (8, ((((fs0_8.set 0 (.int x)).set 1 (.int y)).set 2 (.int u)).set 3 (.long y1))))).set L (q13, Sum.inr (8, (((((fs0_8.set 0 (.int x)).set 1 (.int y)).set 2 (.int u)).set 3 (.long y1)).set 4 (.long y2))))).set L (q13, Sum.inr (8, ((((((fs0_8.set 0 (.int x)).set 1 (.int y)).set 2 (.int u)).set 3 (.long y1)).set 4 (.long y2)).set 5 (.int (1 : Int32)))))).set L (q13, Sum.inr (8, (((((((fs0_8.set 0 (.int x)).set 1 (.int y)).set 2 (.int u)).set 3 (.long y1)).set 4 (.long y2)).set 5 (.int (1 : Int32))).set 6 (.int x2))))).set 17 (o_seals, Sum.inl (rn_k G 6, 16, Sum.inr (Sum.inr (Sum.inr (Sum.inr (va_up (fun _ => none) ((0 : Int32)).toNatClampNeg (some q13)))))))).set 0 (o_sg, Sum.inr (9, (fs_sg.set 11 (.int (1 : Int32)))))))) := by
  refine rn_lv [(0, .ref o_sg), (1, .int x), (2, .int y), (3, .int u), (4, .long y1), (6, .long y2), (8, .int (1 : Int32)), (9, .int x2)] rfl ?_
  refine rn_iload_n (i := 2) dX9_seal_0 rfl rfl ?_
  refine rn_callS (a := 1) (b := 10) [.int y] kl_SG_155 dX9_seal_1 (c_X9_isTunnel G _ (x := y)) rfl rfl (Nat.le_of_ble_eq_true rfl) (Nat.le_of_ble_eq_true rfl) (Nat.le_of_ble_eq_true rfl) (Nat.le_of_ble_eq_true rfl) (Nat.le_of_ble_eq_true rfl) (Nat.le_of_ble_eq_true rfl) (by rintro E w h; rcases h with ⟨_, hr, _⟩ | ⟨_, hr, _⟩ <;> cases hr) ?_
  rintro v w h
  rcases h with ⟨hc, hr, hw⟩ | ⟨hc, hr, hw⟩
  · have hc1 := hc; clear hc; cases hr; subst hw
    refine rn_stk [.int (0 : Int32)] rfl ?_
    refine rn_if_ne (tgt := 17) dX9_seal_4 (by decide) (fun h2 => absurd h2 (by decide)) (fun h2 => ?_)
    exact rn_throw kt_SG_114_158 rfl dX9_seal_7 dX9_seal_10 dX9_seal_11 dX9_seal_13 dX9_seal_16 (Nat.le_of_ble_eq_true rfl) (Nat.le_of_ble_eq_true rfl) (Nat.le_of_ble_eq_true rfl) (Nat.le_of_ble_eq_true rfl) (Nat.le_of_ble_eq_true rfl) (Or.inl ⟨hc1, rfl, rfl⟩)
  · have hc3 := hc; clear hc; cases hr; subst hw
    refine rn_stk [.int (1 : Int32)] rfl ?_
    refine rn_if_ne (tgt := 17) dX9_seal_4 (by decide) (fun h4 => ?_) (fun h4 => absurd h4 (by decide))
    refine rn_iload_n (i := 1) dX9_seal_17 rfl rfl ?_
    refine rn_callS (a := 1) (b := 10) [.int x] kl_SG_136 dX9_seal_18 (c_X9_isPortOrWay G _ (x := x)) rfl rfl (Nat.le_of_ble_eq_true rfl) (Nat.le_of_ble_eq_true rfl) (Nat.le_of_ble_eq_true rfl) (Nat.le_of_ble_eq_true rfl) (Nat.le_of_ble_eq_true rfl) (Nat.le_of_ble_eq_true rfl) (by rintro E w h; rcases h with ⟨_, hr, _⟩ | ⟨_, hr, _⟩ <;> cases hr) ?_
    rintro v w h
    rcases h with ⟨hc, hr, hw⟩ | ⟨hc, hr, hw⟩
    · have hc5 := hc; clear hc; cases hr; subst hw
      refine rn_stk [.int (1 : Int32)] rfl ?_
      refine rn_if_eq (tgt := 44) dX9_seal_21 (by decide) (fun h6 => absurd h6 (by decide)) (fun h6 => ?_)
      refine rn_iload_n (i := 3) dX9_seal_24 rfl rfl ?_
      refine rn_sipush (v := (256 : Int32)) dX9_seal_25 (by decide) ?_
      refine rn_icmp_lt (tgt := 44) dX9_seal_28 (by decide) (fun h7 => ?_) (fun h7 => ?_)
      · exact rn_throw kt_SG_95_176 rfl dX9_seal_44 dX9_seal_47 dX9_seal_48 dX9_seal_50 dX9_seal_53 (Nat.le_of_ble_eq_true rfl) (Nat.le_of_ble_eq_true rfl) (Nat.le_of_ble_eq_true rfl) (Nat.le_of_ble_eq_true rfl) (Nat.le_of_ble_eq_true rfl) (Or.inr (Or.inl ⟨(Or.inl ⟨hc3, hc5, h7⟩), rfl, rfl⟩))
      · refine rn_iload dX9_seal_31 rfl ?_
        refine rn_iconst (v := (1 : Int32)) dX9_seal_33 (by decide) ?_
        refine rn_icmp_lt (tgt := 44) dX9_seal_34 (by decide) (fun h8 => ?_) (fun h8 => ?_)
        · exact rn_throw kt_SG_95_176 rfl dX9_seal_44 dX9_seal_47 dX9_seal_48 dX9_seal_50 dX9_seal_53 (Nat.le_of_ble_eq_true rfl) (Nat.le_of_ble_eq_true rfl) (Nat.le_of_ble_eq_true rfl) (Nat.le_of_ble_eq_true rfl) (Nat.le_of_ble_eq_true rfl) (Or.inr (Or.inl ⟨(Or.inr (Or.inl ⟨hc3, hc5, h7, h8⟩)), rfl, rfl⟩))
        · refine rn_iload dX9_seal_37 rfl ?_
          refine rn_ldc (v := (1000000 : Int32)) wd_541 dX9_seal_39 ?_
          refine rn_icmp_le (tgt := 54) dX9_seal_41 (by decide) (fun h9 => ?_) (fun h9 => ?_)
          · refine rn_aload_n (i := 0) dX9_seal_54 rfl rfl ?_
            refine rn_get 0 kg_SG_178 h_sg hf_sg_11 dX9_seal_55 ?_
            refine rn_if_lt (tgt := 78) dX9_seal_58 (by decide) (fun h10 => absurd h10 (by decide)) (fun h10 => ?_)
            refine rn_aload_n (i := 0) dX9_seal_61 rfl rfl ?_
            refine rn_get 0 kg_SG_178 h_sg hf_sg_11 dX9_seal_62 ?_
            refine rn_bipush (v := (16 : Int32)) dX9_seal_65 (by decide) ?_
            refine rn_icmp_ge (tgt := 78) dX9_seal_67 (by decide) (fun h11 => absurd h11 (by decide)) (fun h11 => ?_)
            refine rn_aload_n (i := 0) dX9_seal_70 rfl rfl ?_
            refine rn_iload_n (i := 3) dX9_seal_71 rfl rfl ?_
            refine rn_callV (a := 1) (b := 10) [.int u] kl_SG_181 dX9_seal_72 0 h_sg rfl (c_X9_sealNamed G _ (o_sg := o_sg) (x := u) (fs_sg := fs_sg) h_sg hf_sg_11) rfl rfl (Nat.le_of_ble_eq_true rfl) (Nat.le_of_ble_eq_true rfl) (Nat.le_of_ble_eq_true rfl) (Nat.le_of_ble_eq_true rfl) (Nat.le_of_ble_eq_true rfl) (Nat.le_of_ble_eq_true rfl) (by rintro E w h; rcases h with ⟨_, hr, _⟩ <;> cases hr) ?_
            rintro v w h
            obtain ⟨hc12, hr, hw⟩ := h; cases hr; subst hw
            refine rn_stk [.null] rfl ?_
            refine rn_ifnullN (tgt := 88) dX9_seal_75 (by decide) ?_
            refine rn_aload_n (i := 0) dX9_seal_88 rfl rfl ?_
            refine rn_get 0 kg_SG_52 h_sg hf_sg_10 dX9_seal_89 ?_
            refine rn_aload_n (i := 0) dX9_seal_92 rfl rfl ?_
            refine rn_get 0 kg_SG_178 h_sg hf_sg_11 dX9_seal_93 ?_
            refine rn_new (a := 0) (b := 0) kn_SG_50 (Nat.le_of_ble_eq_true rfl) (Nat.le_of_ble_eq_true rfl) dX9_seal_96 (fun q13 => ?_)
            refine rn_dup dX9_seal_99 rfl ?_
            refine rn_iload_n (i := 1) dX9_seal_100 rfl rfl ?_
            refine rn_iload_n (i := 2) dX9_seal_101 rfl rfl ?_
            refine rn_iload_n (i := 3) dX9_seal_102 rfl rfl ?_
            refine rn_lload dX9_seal_103 rfl ?_
            refine rn_lload dX9_seal_105 rfl ?_
            refine rn_iload dX9_seal_107 rfl ?_
            refine rn_iload dX9_seal_109 rfl ?_
            refine rn_callI (a := 0) (b := 0) [.int x, .int y, .int u, .long y1, .long y2, .int (1 : Int32), .int x2] kl_SG_187 dX9_seal_111 (c_X8_init_1 G _ (o_seal := q13) (x := x) (y := y) (u := u) (y1 := y1) (y2 := y2) (x2 := x2) (i_seal := L) (fs_seal := fs0_8) (la_new hlen) rfl rfl rfl rfl rfl rfl rfl) (by rintro E w h; rcases h with ⟨_, hr, _⟩ <;> cases hr) rfl rfl (Nat.le_of_ble_eq_true rfl) (Nat.le_of_ble_eq_true rfl) (Nat.le_of_ble_eq_true rfl) (Nat.le_of_ble_eq_true rfl) (Nat.le_of_ble_eq_true rfl) (Nat.le_of_ble_eq_true rfl) ?_
            rintro v w h
            obtain ⟨hc14, hr, hw⟩ := h; cases hr; subst hw
            refine rn_stk [.ref q13, .int (0 : Int32), .ref o_seals] rfl ?_
            refine rn_aast 17 6 L 8 (ls_ne hne_L_17 (ls_ne hne_L_17 (ls_ne hne_L_17 (ls_ne hne_L_17 (ls_ne hne_L_17 (ls_ne hne_L_17 (ls_ne hne_L_17 (la_old h_seals)))))))) rfl (ls_eq (ls_eq (ls_eq (ls_eq (ls_eq (ls_eq (ls_eq (la_new hlen)))))))) rfl (by unfold vp_in; decide) dX9_seal_114 ?_
            refine rn_aload_n (i := 0) dX9_seal_115 rfl rfl ?_
            refine rn_dup dX9_seal_116 rfl ?_
            refine rn_get 0 kg_SG_178 (ls_ne (by decide) (ls_ne hne_L_0 (ls_ne hne_L_0 (ls_ne hne_L_0 (ls_ne hne_L_0 (ls_ne hne_L_0 (ls_ne hne_L_0 (ls_ne hne_L_0 (la_old h_sg))))))))) hf_sg_11 dX9_seal_117 ?_
            refine rn_dup_x1 dX9_seal_120 rfl rfl ?_
            refine rn_iconst (v := (1 : Int32)) dX9_seal_121 (by decide) ?_
            refine rn_iadd dX9_seal_122 ?_
            refine rn_topi (1 : Int32) (by decide) ?_
            refine rn_put 0 (kp_SG_178 _) (ls_ne (by decide) (ls_ne hne_L_0 (ls_ne hne_L_0 (ls_ne hne_L_0 (ls_ne hne_L_0 (ls_ne hne_L_0 (ls_ne hne_L_0 (ls_ne hne_L_0 (la_old h_sg))))))))) (ls_lt hf_sg_11) rfl rfl dX9_seal_123 ?_
            exact rn_iret dX9_seal_126 rfl rfl (Or.inr (Or.inr ⟨q13, ⟨hc3, hc5, h7, h8, h9⟩, rfl, rfl⟩))
          · exact rn_throw kt_SG_95_176 rfl dX9_seal_44 dX9_seal_47 dX9_seal_48 dX9_seal_50 dX9_seal_53 (Nat.le_of_ble_eq_true rfl) (Nat.le_of_ble_eq_true rfl) (Nat.le_of_ble_eq_true rfl) (Nat.le_of_ble_eq_true rfl) (Nat.le_of_ble_eq_true rfl) (Or.inr (Or.inl ⟨(Or.inr (Or.inr (Or.inl ⟨hc3, hc5, h7, h8, h9⟩))), rfl, rfl⟩))
    · have hc15 := hc; clear hc; cases hr; subst hw
      refine rn_stk [.int (0 : Int32)] rfl ?_
      refine rn_if_eq (tgt := 44) dX9_seal_21 (by decide) (fun h16 => ?_) (fun h16 => absurd h16 (by decide))
      exact rn_throw kt_SG_95_176 rfl dX9_seal_44 dX9_seal_47 dX9_seal_48 dX9_seal_50 dX9_seal_53 (Nat.le_of_ble_eq_true rfl) (Nat.le_of_ble_eq_true rfl) (Nat.le_of_ble_eq_true rfl) (Nat.le_of_ble_eq_true rfl) (Nat.le_of_ble_eq_true rfl) (Or.inr (Or.inl ⟨(Or.inr (Or.inr (Or.inr ⟨hc3, hc15⟩))), rfl, rfl⟩))
set_option maxRecDepth 20000 in
set_option maxHeartbeats 4000000 in
theorem c_X9_sealAt (G : rn_G) (ws : va_W) (o_sg : Nat) (k : Int32) (fs_sg : List Value) (h_sg : ws[0]? = some (o_sg, Sum.inr (9, fs_sg))) (hf_sg_11 : fs_sg[11]? = some (.int (0 : Int32))) : Rn G mX9_sealAt 6 90 1 6 0 (lv_args 0 [.ref o_sg, .int k]) [] ws (fun r w => (((k < (0 : Int32)) ∨ (¬ (k < (0 : Int32)) ∧ (0 : Int32) ≤ k)) ∧ r = Sum.inr "java/lang/IndexOutOfBoundsException" ∧ w = ws)) := by
  refine rn_lv [(0, .ref o_sg), (1, .int k)] rfl ?_
  refine rn_iload_n (i := 1) dX9_sealAt_0 rfl rfl ?_
  refine rn_if_lt (tgt := 27) dX9_sealAt_1 (by decide) (fun h1 => ?_) (fun h1 => ?_)
  · refine rn_null dX9_sealAt_27 ?_
    refine rn_astore_nN dX9_sealAt_28 rfl (by decide) [(0, .ref o_sg), (1, .int k), (2, .null)] rfl ?_
    refine rn_aload_nN (i := 2) dX9_sealAt_29 rfl rfl ?_
    refine rn_ifnonnullN dX9_sealAt_30 ?_
    exact rn_throwW kt_SG_114_422 rfl dX9_sealAt_33 dX9_sealAt_36 dX9_sealAt_37 dX9_sealAt_40 dX9_sealAt_43 (Nat.le_of_ble_eq_true rfl) (Nat.le_of_ble_eq_true rfl) (Nat.le_of_ble_eq_true rfl) (Nat.le_of_ble_eq_true rfl) (Nat.le_of_ble_eq_true rfl) ⟨(Or.inl h1), rfl, rfl⟩
  · refine rn_iload_n (i := 1) dX9_sealAt_4 rfl rfl ?_
    refine rn_aload_n (i := 0) dX9_sealAt_5 rfl rfl ?_
    refine rn_get 0 kg_SG_178 h_sg hf_sg_11 dX9_sealAt_6 ?_
    refine rn_icmp_ge (tgt := 27) dX9_sealAt_9 (by decide) (fun h2 => ?_) (fun h2 => False.elim (by have g0 := i32_rng k; simp only [Int32.lt_iff_toInt_lt, Int32.le_iff_toInt_le, gt_iff_lt, ge_iff_le, ← Int32.toInt_inj, i32_0] at *; omega))
    refine rn_null dX9_sealAt_27 ?_
    refine rn_astore_nN dX9_sealAt_28 rfl (by decide) [(0, .ref o_sg), (1, .int k), (2, .null)] rfl ?_
    refine rn_aload_nN (i := 2) dX9_sealAt_29 rfl rfl ?_
    refine rn_ifnonnullN dX9_sealAt_30 ?_
    exact rn_throwW kt_SG_114_422 rfl dX9_sealAt_33 dX9_sealAt_36 dX9_sealAt_37 dX9_sealAt_40 dX9_sealAt_43 (Nat.le_of_ble_eq_true rfl) (Nat.le_of_ble_eq_true rfl) (Nat.le_of_ble_eq_true rfl) (Nat.le_of_ble_eq_true rfl) (Nat.le_of_ble_eq_true rfl) ⟨(Or.inr ⟨h1, h2⟩), rfl, rfl⟩
set_option maxRecDepth 20000 in
set_option maxHeartbeats 4000000 in
theorem c_X9_stop (G : rn_G) (ws : va_W) (o_sg : Nat) (k : Int32) (fs_sg : List Value) (h_sg : ws[0]? = some (o_sg, Sum.inr (9, fs_sg))) (hf_sg_11 : fs_sg[11]? = some (.int (0 : Int32))) : Rn G mX9_stop 7 112 1 6 0 (lv_args 0 [.ref o_sg, .int k]) [] ws (fun r w => ((((k < (0 : Int32)) ∨ (¬ (k < (0 : Int32)) ∧ (0 : Int32) ≤ k))) ∧ r = Sum.inr "java/lang/IndexOutOfBoundsException" ∧ w = ws)) := by
  refine rn_lv [(0, .ref o_sg), (1, .int k)] rfl ?_
  refine rn_aload_n (i := 0) dX9_stop_0 rfl rfl ?_
  refine rn_iload_n (i := 1) dX9_stop_1 rfl rfl ?_
  refine rn_callV (a := 0) (b := 0) [.int k] kl_SG_190 dX9_stop_2 0 h_sg rfl (c_X9_sealAt G _ (o_sg := o_sg) (k := k) (fs_sg := fs_sg) h_sg hf_sg_11) rfl rfl (Nat.le_of_ble_eq_true rfl) (Nat.le_of_ble_eq_true rfl) (Nat.le_of_ble_eq_true rfl) (Nat.le_of_ble_eq_true rfl) (Nat.le_of_ble_eq_true rfl) (Nat.le_of_ble_eq_true rfl) ?_ ?_
  · rintro E w h
    rcases h with ⟨hc, hr, hw⟩
    · have hc1 := hc; clear hc; cases hr; subst hw
      exact rnx_out rfl ⟨hc1, rfl, rfl⟩
  · rintro v w h
    obtain ⟨_, hr, _⟩ := h; cases hr
set_option maxRecDepth 20000 in
set_option maxHeartbeats 4000000 in
theorem c_X9_top (G : rn_G) (ws : va_W) (o_sg : Nat) (k : Int32) (fs_sg : List Value) (h_sg : ws[0]? = some (o_sg, Sum.inr (9, fs_sg))) (hf_sg_11 : fs_sg[11]? = some (.int (0 : Int32))) : Rn G mX9_top 7 112 1 6 0 (lv_args 0 [.ref o_sg, .int k]) [] ws (fun r w => ((((k < (0 : Int32)) ∨ (¬ (k < (0 : Int32)) ∧ (0 : Int32) ≤ k))) ∧ r = Sum.inr "java/lang/IndexOutOfBoundsException" ∧ w = ws)) := by
  refine rn_lv [(0, .ref o_sg), (1, .int k)] rfl ?_
  refine rn_aload_n (i := 0) dX9_top_0 rfl rfl ?_
  refine rn_iload_n (i := 1) dX9_top_1 rfl rfl ?_
  refine rn_callV (a := 0) (b := 0) [.int k] kl_SG_190 dX9_top_2 0 h_sg rfl (c_X9_sealAt G _ (o_sg := o_sg) (k := k) (fs_sg := fs_sg) h_sg hf_sg_11) rfl rfl (Nat.le_of_ble_eq_true rfl) (Nat.le_of_ble_eq_true rfl) (Nat.le_of_ble_eq_true rfl) (Nat.le_of_ble_eq_true rfl) (Nat.le_of_ble_eq_true rfl) (Nat.le_of_ble_eq_true rfl) ?_ ?_
  · rintro E w h
    rcases h with ⟨hc, hr, hw⟩
    · have hc1 := hc; clear hc; cases hr; subst hw
      exact rnx_out rfl ⟨hc1, rfl, rfl⟩
  · rintro v w h
    obtain ⟨_, hr, _⟩ := h; cases hr
