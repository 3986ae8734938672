set_option maxRecDepth 20000 in
set_option maxHeartbeats 4000000 in
theorem c_X4_mendSum (G : rn_G) (ws : va_W) (o_p : Nat) (i_p : Nat) (fs_p : List Value) (r_p : Nat) (sz_p : Int32) (j_p : Nat) (f_p : Nat → Int32) (h_p : ws[i_p]? = some (o_p, Sum.inr (4, fs_p))) (hf_p_0 : fs_p[0]? = some (.ref r_p)) (hf_p_1 : fs_p[1]? = some (.int sz_p)) (h_pr : ws[j_p]? = some (r_p, Sum.inl (rn_k G 0, 2040, Sum.inl f_p))) (hne_j_p_i_p : j_p ≠ i_p) (hs20 : (20 : Int32) ≤ sz_p) (hsz : sz_p ≤ (2040 : Int32)) : Rn G mX4_mendSum 2 43 0 0 0 (lv_args 0 [.ref o_p]) [] ws (fun r w => (∃ hv3 : Int32, ((¬ ((10 : Int32) < (0 : Int32)) ∧ ¬ ((sz_p - (1 : Int32)) ≤ (10 : Int32))) ∧ ((¬ ((0 : Int32) < (0 : Int32)) ∧ ¬ ((sz_p - (1 : Int32)) ≤ (0 : Int32))) ∧ (¬ ((2 : Int32) < (0 : Int32)) ∧ ¬ ((sz_p - (1 : Int32)) ≤ (2 : Int32))) ∧ (¬ ((4 : Int32) < (0 : Int32)) ∧ ¬ ((sz_p - (1 : Int32)) ≤ (4 : Int32))) ∧ (¬ ((6 : Int32) < (0 : Int32)) ∧ ¬ ((sz_p - (1 : Int32)) ≤ (6 : Int32))) ∧ (¬ ((8 : Int32) < (0 : Int32)) ∧ ¬ ((sz_p - (1 : Int32)) ≤ (8 : Int32))) ∧ (¬ ((10 : Int32) < (0 : Int32)) ∧ ¬ ((sz_p - (1 : Int32)) ≤ (10 : Int32))) ∧ (¬ ((12 : Int32) < (0 : Int32)) ∧ ¬ ((sz_p - (1 : Int32)) ≤ (12 : Int32))) ∧ (¬ ((14 : Int32) < (0 : Int32)) ∧ ¬ ((sz_p - (1 : Int32)) ≤ (14 : Int32))) ∧ (¬ ((16 : Int32) < (0 : Int32)) ∧ ¬ ((sz_p - (1 : Int32)) ≤ (16 : Int32))) ∧ (¬ ((18 : Int32) < (0 : Int32)) ∧ ¬ ((sz_p - (1 : Int32)) ≤ (18 : Int32)))) ∧ (¬ ((10 : Int32) < (0 : Int32)) ∧ ¬ ((sz_p - (1 : Int32)) ≤ (10 : Int32)))) ∧ r = Sum.inl (some (.int ((65535 : Int32) - hv3))) ∧ w = ((((ws.set j_p (r_p, Sum.inl (rn_k G 0, 2040, Sum.inl (upd f_p ((10 : Int32)).toNatClampNeg (vp_nar .byte ((((0 : Int32)).toUInt32 >>> (((8 : Int32)).toUInt32 &&& Int32.toUInt32 31)).toInt32).toInt8.toInt32))))).set j_p (r_p, Sum.inl (rn_k G 0, 2040, Sum.inl (upd (upd f_p ((10 : Int32)).toNatClampNeg (vp_nar .byte ((((0 : Int32)).toUInt32 >>> (((8 : Int32)).toUInt32 &&& Int32.toUInt32 31)).toInt32).toInt8.toInt32)) (((10 : Int32) + (1 : Int32))).toNatClampNeg (vp_nar .byte ((0 : Int32)).toInt8.toInt32))))).set j_p (r_p, Sum.inl (rn_k G 0, 2040, Sum.inl (upd (upd (upd f_p ((10 : Int32)).toNatClampNeg (vp_nar .byte ((((0 : Int32)).toUInt32 >>> (((8 : Int32)).toUInt32 &&& Int32.toUInt32 31)).toInt32).toInt8.toInt32)) (((10 : Int32) + (1 : Int32))).toNatClampNeg (vp_nar .byte ((0 : Int32)).toInt8.toInt32)) ((10 : Int32)).toNatClampNeg (vp_nar .byte (((((65535 : Int32) - hv3)).toUInt32 >>> (((8 : Int32)).toUInt32 &&& Int32.toUInt32 31)).toInt32).toInt8.toInt32))))).set j_p (r_p, Sum.inl (rn_k G 0, 2040, Sum.inl (upd (upd (upd (upd f_p ((10 : Int32)).toNatClampNeg (vp_nar .byte ((((0 : Int32)).toUInt32 >>> (((8 : Int32)).toUInt32 &&& Int32.toUInt32 31)).toInt32).toInt8.toInt32)) (((10 : Int32) + (1 : Int32))).toNatClampNeg (vp_nar .byte ((0 : Int32)).toInt8.toInt32)) ((10 : Int32)).toNatClampNeg (vp_nar .byte (((((65535 : Int32) - hv3)).toUInt32 >>> (((8 : Int32)).toUInt32 &&& Int32.toUInt32 31)).toInt32).toInt8.toInt32)) (((10 : Int32) + (1 : Int32))).toNatClampNeg (vp_nar .byte (((65535 : Int32) - hv3)).toInt8.toInt32))))))) := by
  refine rn_lv [(0, .ref o_p)] rfl ?_
  refine rn_aload_n (i := 0) dX4_mendSum_0 rfl rfl ?_
  refine rn_bipush (v := (10 : Int32)) dX4_mendSum_1 (by decide) ?_
  refine rn_iconst (v := (0 : Int32)) dX4_mendSum_3 (by decide) ?_
  refine rn_callV (a := 0) (b := 0) [.int (10 : Int32), .int (0 : Int32)] kl_SG_Packet_31 dX4_mendSum_4 i_p h_p rfl (c_X4_setPair G _ (o_p := o_p) (k := (10 : Int32)) (x := (0 : Int32)) (i_p := i_p) (fs_p := fs_p) (r_p := r_p) (sz_p := sz_p) (j_p := j_p) (f_p := f_p) h_p hf_p_0 hf_p_1 h_pr hne_j_p_i_p (by have g0 := i32_rng sz_p; simp only [Int32.lt_iff_toInt_lt, Int32.le_iff_toInt_le, gt_iff_lt, ge_iff_le, ← Int32.toInt_inj, i32_0, i32_20, i32_2040] at *; omega) (by have g0 := i32_rng sz_p; simp only [Int32.lt_iff_toInt_lt, Int32.le_iff_toInt_le, gt_iff_lt, ge_iff_le, ← Int32.toInt_inj, i32_0, i32_20, i32_2040] at *; omega)) rfl rfl (Nat.le_of_ble_eq_true rfl) (Nat.le_of_ble_eq_true rfl) (Nat.le_of_ble_eq_true rfl) (Nat.le_of_ble_eq_true rfl) (Nat.le_of_ble_eq_true rfl) (Nat.le_of_ble_eq_true rfl) (by rintro E w h; rcases h with ⟨_, hr, _⟩ | ⟨_, hr, _⟩ <;> cases hr) ?_
  rintro v w h
  rcases h with ⟨hc, hr, hw⟩ | ⟨hc, hr, hw⟩
  · have hc1 := hc; clear hc; cases hr; subst hw
    exfalso; obtain ⟨k0, e0⟩ := i32_sub sz_p (1 : Int32); have g0 := i32_rng sz_p; simp only [Int32.lt_iff_toInt_lt, Int32.le_iff_toInt_le, gt_iff_lt, ge_iff_le, ← Int32.toInt_inj, i32_0, i32_1, i32_10, i32_20, i32_2040] at *; omega
  · have hc2 := hc; clear hc; cases hr; subst hw
    refine rn_stk [] rfl ?_
    refine rn_ldc (v := (65535 : Int32)) wd_416 dX4_mendSum_7 ?_
    refine rn_aload_n (i := 0) dX4_mendSum_9 rfl rfl ?_
    refine rn_callV (a := 0) (b := 0) [] kl_SG_Packet_69 dX4_mendSum_10 i_p (ls_ne hne_j_p_i_p (ls_ne hne_j_p_i_p h_p)) rfl (c_X4_addHead G _ (o_p := o_p) (i_p := i_p) (fs_p := fs_p) (r_p := r_p) (sz_p := sz_p) (j_p := j_p) (f_p := (upd (upd f_p ((10 : Int32)).toNatClampNeg (vp_nar .byte ((((0 : Int32)).toUInt32 >>> (((8 : Int32)).toUInt32 &&& Int32.toUInt32 31)).toInt32).toInt8.toInt32)) (((10 : Int32) + (1 : Int32))).toNatClampNeg (vp_nar .byte ((0 : Int32)).toInt8.toInt32))) (ls_ne hne_j_p_i_p (ls_ne hne_j_p_i_p h_p)) hf_p_0 hf_p_1 (ls_eq (ls_eq h_pr)) (by obtain ⟨k0, e0⟩ := i32_sub sz_p (1 : Int32); have g0 := i32_rng sz_p; simp only [Int32.lt_iff_toInt_lt, Int32.le_iff_toInt_le, gt_iff_lt, ge_iff_le, ← Int32.toInt_inj, i32_0, i32_1, i32_10, i32_20, i32_2040] at *; omega) (by obtain ⟨k0, e0⟩ := i32_sub sz_p (1 : Int32); have g0 := i32_rng sz_p; simp only [Int32.lt_iff_toInt_lt, Int32.le_iff_toInt_le, gt_iff_lt, ge_iff_le, ← Int32.toInt_inj, i32_0, i32_1, i32_10, i32_20, i32_2040] at *; omega)) rfl rfl (Nat.le_of_ble_eq_true rfl) (Nat.le_of_ble_eq_true rfl) (Nat.le_of_ble_eq_true rfl) (Nat.le_of_ble_eq_true rfl) (Nat.le_of_ble_eq_true rfl) (Nat.le_of_ble_eq_true rfl) (by rintro E w h; rcases h with ⟨_, _, hr, _⟩ <;> cases hr) ?_
    rintro v w h
    obtain ⟨hv3, hc4, hr, hw⟩ := h; cases hr; subst hw
    refine rn_stk [.int hv3, .int (65535 : Int32)] rfl ?_
    refine rn_isub dX4_mendSum_13 ?_
    refine rn_istore_n dX4_mendSum_14 rfl (by decide) [(0, .ref o_p), (1, .int ((65535 : Int32) - hv3))] rfl ?_
    refine rn_aload_n (i := 0) dX4_mendSum_15 rfl rfl ?_
    refine rn_bipush (v := (10 : Int32)) dX4_mendSum_16 (by decide) ?_
    refine rn_iload_n (i := 1) dX4_mendSum_18 rfl rfl ?_
    refine rn_callV (a := 0) (b := 0) [.int (10 : Int32), .int ((65535 : Int32) - hv3)] kl_SG_Packet_31 dX4_mendSum_19 i_p (ls_ne hne_j_p_i_p (ls_ne hne_j_p_i_p h_p)) rfl (c_X4_setPair G _ (o_p := o_p) (k := (10 : Int32)) (x := ((65535 : Int32) - hv3)) (i_p := i_p) (fs_p := fs_p) (r_p := r_p) (sz_p := sz_p) (j_p := j_p) (f_p := (upd (upd f_p ((10 : Int32)).toNatClampNeg (vp_nar .byte ((((0 : Int32)).toUInt32 >>> (((8 : Int32)).toUInt32 &&& Int32.toUInt32 31)).toInt32).toInt8.toInt32)) (((10 : Int32) + (1 : Int32))).toNatClampNeg (vp_nar .byte ((0 : Int32)).toInt8.toInt32))) (ls_ne hne_j_p_i_p (ls_ne hne_j_p_i_p h_p)) hf_p_0 hf_p_1 (ls_eq (ls_eq h_pr)) hne_j_p_i_p (by obtain ⟨k0, e0⟩ := i32_sub sz_p (1 : Int32); have g0 := i32_rng sz_p; simp only [Int32.lt_iff_toInt_lt, Int32.le_iff_toInt_le, gt_iff_lt, ge_iff_le, ← Int32.toInt_inj, i32_0, i32_1, i32_2, i32_4, i32_6, i32_8, i32_10, i32_12, i32_14, i32_16, i32_18, i32_20, i32_2040] at *; omega) (by obtain ⟨k0, e0⟩ := i32_sub sz_p (1 : Int32); have g0 := i32_rng sz_p; simp only [Int32.lt_iff_toInt_lt, Int32.le_iff_toInt_le, gt_iff_lt, ge_iff_le, ← Int32.toInt_inj, i32_0, i32_1, i32_2, i32_4, i32_6, i32_8, i32_10, i32_12, i32_14, i32_16, i32_18, i32_20, i32_2040] at *; omega)) rfl rfl (Nat.le_of_ble_eq_true rfl) (Nat.le_of_ble_eq_true rfl) (Nat.le_of_ble_eq_true rfl) (Nat.le_of_ble_eq_true rfl) (Nat.le_of_ble_eq_true rfl) (Nat.le_of_ble_eq_true rfl) (by rintro E w h; rcases h with ⟨_, hr, _⟩ | ⟨_, hr, _⟩ <;> cases hr) ?_
    rintro v w h
    rcases h with ⟨hc, hr, hw⟩ | ⟨hc, hr, hw⟩
    · have hc5 := hc; clear hc; cases hr; subst hw
      exfalso; obtain ⟨k0, e0⟩ := i32_sub sz_p (1 : Int32); have g0 := i32_rng sz_p; simp only [Int32.lt_iff_toInt_lt, Int32.le_iff_toInt_le, gt_iff_lt, ge_iff_le, ← Int32.toInt_inj, i32_0, i32_1, i32_2, i32_4, i32_6, i32_8, i32_10, i32_12, i32_14, i32_16, i32_18, i32_20, i32_2040] at *; omega
    · have hc6 := hc; clear hc; cases hr; subst hw
      refine rn_stk [] rfl ?_
      refine rn_iload_n (i := 1) dX4_mendSum_22 rfl rfl ?_
      exact rn_iret dX4_mendSum_23 rfl rfl ⟨hv3, ⟨hc2, hc4, hc6⟩, rfl, rfl⟩
set_option maxRecDepth 20000 in
set_option maxHeartbeats 4000000 in
theorem mk9_loop (G : rn_G) (o_sg o_tape r_tape : Nat) (fs_sg fs_tape : List Value) (n number : Int32) (hn0 : (0 : Int32) ≤ n) (hn1 : n ≤ (1480 : Int32)) (m : Nat) : ∀ (ws : va_W) (f : Nat → Int32) (k : Int32), ws[0]? = some (o_sg, Sum.inr (9, fs_sg)) → fs_sg[1]? = some (.ref o_tape) → ws[1]? = some (o_tape, Sum.inr (4, fs_tape)) → fs_tape[0]? = some (.ref r_tape) → fs_tape[1]? = some (.int ((20 : Int32) + n)) → ws[2]? = some (r_tape, Sum.inl (rn_k G 0, 2040, Sum.inl f)) → (0 : Int32) ≤ k → n.toInt - k.toInt ≤ m → Rn G mX9_make 3 64 0 0 65 [(0, .ref o_sg), (5, .int n), (6, .int number), (7, .int k)] [] ws (fun r w => r = Sum.inl (some (.int ((20 : Int32) + n))) ∧ ∀ p : Nat, p ≠ 2 → w[p]? = ws[p]?) := by
  induction m with
  | zero =>
    intro ws f k h_sg hf_sg_1 h_tape hf_tape_0 hf_tape_1 h_taper hk0 hm
    have hmk : n ≤ k := by rw [Int32.le_iff_toInt_le]; omega
    refine rn_iload dX9_make_65 rfl ?_
    refine rn_iload dX9_make_67 rfl ?_
    refine rn_icmp_ge (tgt := 95) dX9_make_69 (by decide) (fun h1 => ?_) (fun h1 => False.elim (by have g0 := i32_rng n; have g1 := i32_rng k; simp only [Int32.lt_iff_toInt_lt, Int32.le_iff_toInt_le, gt_iff_lt, ge_iff_le, ← Int32.toInt_inj, i32_0, i32_1480] at *; omega))
    refine rn_aload_n (i := 0) dX9_make_95 rfl rfl ?_
    refine rn_get 0 kg_SG_10 h_sg hf_sg_1 dX9_make_96 ?_
    refine rn_callV (a := 0) (b := 0) [] kl_SG_128 dX9_make_99 1 h_tape rfl (c_X4_mendSum G _ (o_p := o_tape) (i_p := 1) (fs_p := fs_tape) (r_p := r_tape) (sz_p := ((20 : Int32) + n)) (j_p := 2) (f_p := f) h_tape hf_tape_0 hf_tape_1 h_taper (by decide) (by obtain ⟨k0, e0⟩ := i32_add (20 : Int32) n; have g0 := i32_rng n; have g1 := i32_rng k; simp only [Int32.lt_iff_toInt_lt, Int32.le_iff_toInt_le, gt_iff_lt, ge_iff_le, ← Int32.toInt_inj, i32_0, i32_20, i32_1480] at *; omega) (by obtain ⟨k0, e0⟩ := i32_add (20 : Int32) n; have g0 := i32_rng n; have g1 := i32_rng k; simp only [Int32.lt_iff_toInt_lt, Int32.le_iff_toInt_le, gt_iff_lt, ge_iff_le, ← Int32.toInt_inj, i32_0, i32_20, i32_1480, i32_2040] at *; omega)) rfl rfl (Nat.le_of_ble_eq_true rfl) (Nat.le_of_ble_eq_true rfl) (Nat.le_of_ble_eq_true rfl) (Nat.le_of_ble_eq_true rfl) (Nat.le_of_ble_eq_true rfl) (Nat.le_of_ble_eq_true rfl) (by rintro E w h; rcases h with ⟨_, _, hr, _⟩ <;> cases hr) ?_
    rintro v w h
    obtain ⟨hv2, hc3, hr, hw⟩ := h; cases hr; subst hw
    refine rn_stk [.int ((65535 : Int32) - hv2)] rfl ?_
    refine rn_pop dX9_make_102 rfl ?_
    refine rn_aload_n (i := 0) dX9_make_103 rfl rfl ?_
    refine rn_get 0 kg_SG_10 (ls_ne (by decide) (ls_ne (by decide) (ls_ne (by decide) (ls_ne (by decide) h_sg)))) hf_sg_1 dX9_make_104 ?_
    refine rn_callV (a := 0) (b := 0) [] kl_SG_76 dX9_make_107 1 (ls_ne (by decide) (ls_ne (by decide) (ls_ne (by decide) (ls_ne (by decide) h_tape)))) rfl (c_X4_size G _ (o_p := o_tape) (i_p := 1) (fs_p := fs_tape) (sz_p := ((20 : Int32) + n)) (ls_ne (by decide) (ls_ne (by decide) (ls_ne (by decide) (ls_ne (by decide) h_tape)))) hf_tape_1) rfl rfl (Nat.le_of_ble_eq_true rfl) (Nat.le_of_ble_eq_true rfl) (Nat.le_of_ble_eq_true rfl) (Nat.le_of_ble_eq_true rfl) (Nat.le_of_ble_eq_true rfl) (Nat.le_of_ble_eq_true rfl) (by rintro E w h; rcases h with ⟨_, hr, _⟩ <;> cases hr) ?_
    rintro v w h
    obtain ⟨hc4, hr, hw⟩ := h; cases hr; subst hw
    refine rn_stk [.int ((20 : Int32) + n)] rfl ?_
    exact rn_iret dX9_make_110 rfl rfl ⟨rfl, fun p hp => by simp only [List.getElem?_set_ne (Ne.symm hp)]⟩
  | succ m ih =>
    intro ws f k h_sg hf_sg_1 h_tape hf_tape_0 hf_tape_1 h_taper hk0 hm
    refine rn_iload dX9_make_65 rfl ?_
    refine rn_iload dX9_make_67 rfl ?_
    refine rn_icmp_ge (tgt := 95) dX9_make_69 (by decide) (fun h1 => ?_) (fun h1 => ?_)
    · refine rn_aload_n (i := 0) dX9_make_95 rfl rfl ?_
      refine rn_get 0 kg_SG_10 h_sg hf_sg_1 dX9_make_96 ?_
      refine rn_callV (a := 0) (b := 0) [] kl_SG_128 dX9_make_99 1 h_tape rfl (c_X4_mendSum G _ (o_p := o_tape) (i_p := 1) (fs_p := fs_tape) (r_p := r_tape) (sz_p := ((20 : Int32) + n)) (j_p := 2) (f_p := f) h_tape hf_tape_0 hf_tape_1 h_taper (by decide) (by obtain ⟨k0, e0⟩ := i32_add (20 : Int32) n; have g0 := i32_rng n; have g1 := i32_rng k; simp only [Int32.lt_iff_toInt_lt, Int32.le_iff_toInt_le, gt_iff_lt, ge_iff_le, ← Int32.toInt_inj, i32_0, i32_20, i32_1480] at *; omega) (by obtain ⟨k0, e0⟩ := i32_add (20 : Int32) n; have g0 := i32_rng n; have g1 := i32_rng k; simp only [Int32.lt_iff_toInt_lt, Int32.le_iff_toInt_le, gt_iff_lt, ge_iff_le, ← Int32.toInt_inj, i32_0, i32_20, i32_1480, i32_2040] at *; omega)) rfl rfl (Nat.le_of_ble_eq_true rfl) (Nat.le_of_ble_eq_true rfl) (Nat.le_of_ble_eq_true rfl) (Nat.le_of_ble_eq_true rfl) (Nat.le_of_ble_eq_true rfl) (Nat.le_of_ble_eq_true rfl) (by rintro E w h; rcases h with ⟨_, _, hr, _⟩ <;> cases hr) ?_
      rintro v w h
      obtain ⟨hv2, hc3, hr, hw⟩ := h; cases hr; subst hw
      refine rn_stk [.int ((65535 : Int32) - hv2)] rfl ?_
      refine rn_pop dX9_make_102 rfl ?_
      refine rn_aload_n (i := 0) dX9_make_103 rfl rfl ?_
      refine rn_get 0 kg_SG_10 (ls_ne (by decide) (ls_ne (by decide) (ls_ne (by decide) (ls_ne (by decide) h_sg)))) hf_sg_1 dX9_make_104 ?_
      refine rn_callV (a := 0) (b := 0) [] kl_SG_76 dX9_make_107 1 (ls_ne (by decide) (ls_ne (by decide) (ls_ne (by decide) (ls_ne (by decide) h_tape)))) rfl (c_X4_size G _ (o_p := o_tape) (i_p := 1) (fs_p := fs_tape) (sz_p := ((20 : Int32) + n)) (ls_ne (by decide) (ls_ne (by decide) (ls_ne (by decide) (ls_ne (by decide) h_tape)))) hf_tape_1) rfl rfl (Nat.le_of_ble_eq_true rfl) (Nat.le_of_ble_eq_true rfl) (Nat.le_of_ble_eq_true rfl) (Nat.le_of_ble_eq_true rfl) (Nat.le_of_ble_eq_true rfl) (Nat.le_of_ble_eq_true rfl) (by rintro E w h; rcases h with ⟨_, hr, _⟩ <;> cases hr) ?_
      rintro v w h
      obtain ⟨hc4, hr, hw⟩ := h; cases hr; subst hw
      refine rn_stk [.int ((20 : Int32) + n)] rfl ?_
      exact rn_iret dX9_make_110 rfl rfl ⟨rfl, fun p hp => by simp only [List.getElem?_set_ne (Ne.symm hp)]⟩
    · refine rn_aload_n (i := 0) dX9_make_72 rfl rfl ?_
      refine rn_get 0 kg_SG_10 h_sg hf_sg_1 dX9_make_73 ?_
      refine rn_bipush (v := (20 : Int32)) dX9_make_76 (by decide) ?_
      refine rn_iload dX9_make_78 rfl ?_
      refine rn_iadd dX9_make_80 ?_
      refine rn_iload dX9_make_81 rfl ?_
      refine rn_iload dX9_make_83 rfl ?_
      refine rn_iadd dX9_make_85 ?_
      refine rn_callV (a := 0) (b := 0) [.int ((20 : Int32) + k), .int (k + number)] kl_SG_110 dX9_make_86 1 h_tape rfl (c_X4_setByte G _ (o_p := o_tape) (k := ((20 : Int32) + k)) (x := (k + number)) (i_p := 1) (fs_p := fs_tape) (r_p := r_tape) (sz_p := ((20 : Int32) + n)) (j_p := 2) (f_p := f) h_tape hf_tape_0 hf_tape_1 h_taper (by obtain ⟨k0, e0⟩ := i32_add (20 : Int32) n; have g0 := i32_rng n; have g1 := i32_rng k; simp only [Int32.lt_iff_toInt_lt, Int32.le_iff_toInt_le, gt_iff_lt, ge_iff_le, ← Int32.toInt_inj, i32_0, i32_20, i32_1480] at *; omega) (by obtain ⟨k0, e0⟩ := i32_add (20 : Int32) n; have g0 := i32_rng n; have g1 := i32_rng k; simp only [Int32.lt_iff_toInt_lt, Int32.le_iff_toInt_le, gt_iff_lt, ge_iff_le, ← Int32.toInt_inj, i32_0, i32_20, i32_1480, i32_2040] at *; omega)) rfl rfl (Nat.le_of_ble_eq_true rfl) (Nat.le_of_ble_eq_true rfl) (Nat.le_of_ble_eq_true rfl) (Nat.le_of_ble_eq_true rfl) (Nat.le_of_ble_eq_true rfl) (Nat.le_of_ble_eq_true rfl) (by rintro E w h; rcases h with ⟨_, hr, _⟩ | ⟨_, hr, _⟩ <;> cases hr) ?_
      rintro v w h
      rcases h with ⟨hc, hr, hw⟩ | ⟨hc, hr, hw⟩
      · have hc5 := hc; clear hc; cases hr; subst hw
        exfalso; obtain ⟨k0, e0⟩ := i32_add (20 : Int32) k; obtain ⟨k1, e1⟩ := i32_add (20 : Int32) n; have g0 := i32_rng n; have g1 := i32_rng k; simp only [Int32.lt_iff_toInt_lt, Int32.le_iff_toInt_le, gt_iff_lt, ge_iff_le, ← Int32.toInt_inj, i32_0, i32_20, i32_1480] at *; omega
      · have hc6 := hc; clear hc; cases hr; subst hw
        refine rn_stk [] rfl ?_
        refine rn_iinc (v := (k + (1 : Int32))) dX9_make_89 rfl (by rfl) (by decide) [(0, .ref o_sg), (5, .int n), (6, .int number), (7, .int (k + (1 : Int32)))] rfl ?_
        refine rn_goto (tgt := 65) dX9_make_92 (by decide) ?_
        refine rn_mono (ih _ _ (k + (1 : Int32)) (ls_ne (by decide) h_sg) hf_sg_1 (ls_ne (by decide) h_tape) hf_tape_0 hf_tape_1 (ls_eq h_taper) (by obtain ⟨k0, e0⟩ := i32_add (20 : Int32) k; obtain ⟨k1, e1⟩ := i32_add (20 : Int32) n; obtain ⟨k2, e2⟩ := i32_add k (1 : Int32); have g0 := i32_rng n; have g1 := i32_rng k; simp only [Int32.lt_iff_toInt_lt, Int32.le_iff_toInt_le, gt_iff_lt, ge_iff_le, ← Int32.toInt_inj, i32_0, i32_1, i32_20, i32_1480] at *; omega) (by obtain ⟨k0, e0⟩ := i32_add (20 : Int32) k; obtain ⟨k1, e1⟩ := i32_add (20 : Int32) n; obtain ⟨k2, e2⟩ := i32_add k (1 : Int32); have g0 := i32_rng n; have g1 := i32_rng k; simp only [Int32.lt_iff_toInt_lt, Int32.le_iff_toInt_le, gt_iff_lt, ge_iff_le, ← Int32.toInt_inj, i32_0, i32_1, i32_20, i32_1480] at *; omega)) (fun r w hq => ⟨hq.1, fun p hp => (hq.2 p hp).trans (by simp only [List.getElem?_set_ne (Ne.symm hp)])⟩)
set_option maxRecDepth 20000 in
set_option maxHeartbeats 4000000 in
theorem c_X9_make (G : rn_G) (ws : va_W) (o_sg : Nat) (x : Int32) (y : Int32) (u : Int32) (x1 : Int32) (n : Int32) (number : Int32) (fs_sg : List Value) (o_tape : Nat) (fs_tape : List Value) (r_tape : Nat) (f_tape : Nat → Int32) (h_sg : ws[0]? = some (o_sg, Sum.inr (9, fs_sg))) (hf_sg_1 : fs_sg[1]? = some (.ref o_tape)) (h_tape : ws[1]? = some (o_tape, Sum.inr (4, fs_tape))) (hf_tape_0 : fs_tape[0]? = some (.ref r_tape)) (hf_tape_1 : fs_tape[1]? = some (.int (0 : Int32))) (h_taper : ws[2]? = some (r_tape, Sum.inl (rn_k G 0, 2040, Sum.inl f_tape))) : Rn G mX9_make 6 90 1 6 0 (lv_args 0 [.ref o_sg, .int x, .int y, .int u, .int x1, .int n, .int number]) [] ws (fun r w => (((0 : Int32) ≤ u ∧ u ≤ (255 : Int32) ∧ (0 : Int32) ≤ x1 ∧ x1 ≤ (255 : Int32) ∧ (0 : Int32) ≤ n ∧ n ≤ (1480 : Int32)) ∧ r = Sum.inl (some (.int ((20 : Int32) + n))) ∧ ∀ p : Nat, p ≠ 1 → p ≠ 2 → w[p]? = ws[p]?) ∨ ((¬ ((0 : Int32) ≤ u ∧ u ≤ (255 : Int32) ∧ (0 : Int32) ≤ x1 ∧ x1 ≤ (255 : Int32) ∧ (0 : Int32) ≤ n ∧ n ≤ (1480 : Int32))) ∧ r = Sum.inr "java/lang/IllegalArgumentException" ∧ w = ws)) := by
  refine rn_lv [(0, .ref o_sg), (1, .int x), (2, .int y), (3, .int u), (4, .int x1), (5, .int n), (6, .int number)] rfl ?_
  refine rn_iload_n (i := 3) dX9_make_0 rfl rfl ?_
  refine rn_callS (a := 1) (b := 6) [.int u] kl_SG_104 dX9_make_1 (c_X9_isByte G _ (x := u)) rfl rfl (Nat.le_of_ble_eq_true rfl) (Nat.le_of_ble_eq_true rfl) (Nat.le_of_ble_eq_true rfl) (Nat.le_of_ble_eq_true rfl) (Nat.le_of_ble_eq_true rfl) (Nat.le_of_ble_eq_true rfl) (by rintro E w h; rcases h with ⟨_, hr, _⟩ | ⟨_, hr, _⟩ <;> cases hr) ?_
  rintro v w h
  rcases h with ⟨hc, hr, hw⟩ | ⟨hc, hr, hw⟩
  · have hc1 := hc; clear hc; cases hr; subst hw
    refine rn_stk [.int (0 : Int32)] rfl ?_
    refine rn_if_eq (tgt := 28) dX9_make_4 (by decide) (fun h2 => ?_) (fun h2 => absurd h2 (by decide))
    exact rn_throw kt_SG_95_122 rfl dX9_make_28 dX9_make_31 dX9_make_32 dX9_make_34 dX9_make_37 (Nat.le_of_ble_eq_true rfl) (Nat.le_of_ble_eq_true rfl) (Nat.le_of_ble_eq_true rfl) (Nat.le_of_ble_eq_true rfl) (Nat.le_of_ble_eq_true rfl) (Or.inr ⟨by have g0 := i32_rng u; have g1 := i32_rng x1; have g2 := i32_rng n; simp only [Int32.lt_iff_toInt_lt, Int32.le_iff_toInt_le, gt_iff_lt, ge_iff_le, ← Int32.toInt_inj, i32_0, i32_255, i32_1480] at *; omega, rfl, rfl⟩)
  · have hc3 := hc; clear hc; cases hr; subst hw
    refine rn_stk [.int (1 : Int32)] rfl ?_
    refine rn_if_eq (tgt := 28) dX9_make_4 (by decide) (fun h4 => absurd h4 (by decide)) (fun h4 => ?_)
    refine rn_iload dX9_make_7 rfl ?_
    refine rn_callS (a := 1) (b := 6) [.int x1] kl_SG_104 dX9_make_9 (c_X9_isByte G _ (x := x1)) rfl rfl (Nat.le_of_ble_eq_true rfl) (Nat.le_of_ble_eq_true rfl) (Nat.le_of_ble_eq_true rfl) (Nat.le_of_ble_eq_true rfl) (Nat.le_of_ble_eq_true rfl) (Nat.le_of_ble_eq_true rfl) (by rintro E w h; rcases h with ⟨_, hr, _⟩ | ⟨_, hr, _⟩ <;> cases hr) ?_
    rintro v w h
    rcases h with ⟨hc, hr, hw⟩ | ⟨hc, hr, hw⟩
    · have hc5 := hc; clear hc; cases hr; subst hw
      refine rn_stk [.int (0 : Int32)] rfl ?_
      refine rn_if_eq (tgt := 28) dX9_make_12 (by decide) (fun h6 => ?_) (fun h6 => absurd h6 (by decide))
      exact rn_throw kt_SG_95_122 rfl dX9_make_28 dX9_make_31 dX9_make_32 dX9_make_34 dX9_make_37 (Nat.le_of_ble_eq_true rfl) (Nat.le_of_ble_eq_true rfl) (Nat.le_of_ble_eq_true rfl) (Nat.le_of_ble_eq_true rfl) (Nat.le_of_ble_eq_true rfl) (Or.inr ⟨by have g0 := i32_rng u; have g1 := i32_rng x1; have g2 := i32_rng n; simp only [Int32.lt_iff_toInt_lt, Int32.le_iff_toInt_le, gt_iff_lt, ge_iff_le, ← Int32.toInt_inj, i32_0, i32_255, i32_1480] at *; omega, rfl, rfl⟩)
    · have hc7 := hc; clear hc; cases hr; subst hw
      refine rn_stk [.int (1 : Int32)] rfl ?_
      refine rn_if_eq (tgt := 28) dX9_make_12 (by decide) (fun h8 => absurd h8 (by decide)) (fun h8 => ?_)
      refine rn_iload dX9_make_15 rfl ?_
      refine rn_if_lt (tgt := 28) dX9_make_17 (by decide) (fun h9 => ?_) (fun h9 => ?_)
      · exact rn_throw kt_SG_95_122 rfl dX9_make_28 dX9_make_31 dX9_make_32 dX9_make_34 dX9_make_37 (Nat.le_of_ble_eq_true rfl) (Nat.le_of_ble_eq_true rfl) (Nat.le_of_ble_eq_true rfl) (Nat.le_of_ble_eq_true rfl) (Nat.le_of_ble_eq_true rfl) (Or.inr ⟨by have g0 := i32_rng u; have g1 := i32_rng x1; have g2 := i32_rng n; simp only [Int32.lt_iff_toInt_lt, Int32.le_iff_toInt_le, gt_iff_lt, ge_iff_le, ← Int32.toInt_inj, i32_0, i32_255, i32_1480] at *; omega, rfl, rfl⟩)
      · refine rn_iload dX9_make_20 rfl ?_
        refine rn_sipush (v := (1480 : Int32)) dX9_make_22 (by decide) ?_
        refine rn_icmp_le (tgt := 38) dX9_make_25 (by decide) (fun h10 => ?_) (fun h10 => ?_)
        · refine rn_aload_n (i := 0) dX9_make_38 rfl rfl ?_
          refine rn_get 0 kg_SG_10 h_sg hf_sg_1 dX9_make_39 ?_
          refine rn_bipush (v := (20 : Int32)) dX9_make_42 (by decide) ?_
          refine rn_iload dX9_make_44 rfl ?_
          refine rn_iadd dX9_make_46 ?_
          refine rn_callV (a := 1) (b := 6) [.int ((20 : Int32) + n)] kl_SG_87 dX9_make_47 1 h_tape rfl (c_X4_resize G _ (o_p := o_tape) (n := ((20 : Int32) + n)) (i_p := 1) (fs_p := fs_tape) (sz_p := (0 : Int32)) h_tape hf_tape_1) rfl rfl (Nat.le_of_ble_eq_true rfl) (Nat.le_of_ble_eq_true rfl) (Nat.le_of_ble_eq_true rfl) (Nat.le_of_ble_eq_true rfl) (Nat.le_of_ble_eq_true rfl) (Nat.le_of_ble_eq_true rfl) (by rintro E w h; rcases h with ⟨_, hr, _⟩ | ⟨_, hr, _⟩ <;> cases hr) ?_
          rintro v w h
          rcases h with ⟨hc, hr, hw⟩ | ⟨hc, hr, hw⟩
          · have hc11 := hc; clear hc; cases hr; subst hw
            refine rn_stk [] rfl ?_
            refine rn_aload_n (i := 0) dX9_make_50 rfl rfl ?_
            refine rn_get 0 kg_SG_10 (ls_ne (by decide) h_sg) hf_sg_1 dX9_make_51 ?_
            refine rn_iload_n (i := 1) dX9_make_54 rfl rfl ?_
            refine rn_iload_n (i := 2) dX9_make_55 rfl rfl ?_
            refine rn_iload_n (i := 3) dX9_make_56 rfl rfl ?_
            refine rn_iload dX9_make_57 rfl ?_
            refine rn_callV (a := 1) (b := 6) [.int x, .int y, .int u, .int x1] kl_SG_124 dX9_make_59 1 (ls_eq h_tape) rfl (c_X4_writeHead G _ (o_p := o_tape) (x := x) (y := y) (u := u) (x1 := x1) (i_p := 1) (fs_p := (fs_tape.set 1 (.int (if (2040 : Int32) < ((20 : Int32) + n) then (2040 : Int32) else ((20 : Int32) + n))))) (r_p := r_tape) (sz_p := (if (2040 : Int32) < ((20 : Int32) + n) then (2040 : Int32) else ((20 : Int32) + n))) (j_p := 2) (f_p := f_tape) (ls_eq h_tape) (ls_ne (by decide) hf_tape_0) (ls_eq hf_tape_1) (ls_ne (by decide) h_taper) (by decide) (by obtain ⟨k0, e0⟩ := i32_add (20 : Int32) n; have m0 := i32_min ((20 : Int32) + n) (2040 : Int32); have g0 := i32_rng u; have g1 := i32_rng x1; have g2 := i32_rng n; simp only [Int32.lt_iff_toInt_lt, Int32.le_iff_toInt_le, gt_iff_lt, ge_iff_le, ← Int32.toInt_inj, i32_0, i32_20, i32_255, i32_1480, i32_2040] at *; omega) (by obtain ⟨k0, e0⟩ := i32_add (20 : Int32) n; have m0 := i32_min ((20 : Int32) + n) (2040 : Int32); have g0 := i32_rng u; have g1 := i32_rng x1; have g2 := i32_rng n; simp only [Int32.lt_iff_toInt_lt, Int32.le_iff_toInt_le, gt_iff_lt, ge_iff_le, ← Int32.toInt_inj, i32_0, i32_20, i32_255, i32_1480, i32_2040] at *; omega)) rfl rfl (Nat.le_of_ble_eq_true rfl) (Nat.le_of_ble_eq_true rfl) (Nat.le_of_ble_eq_true rfl) (Nat.le_of_ble_eq_true rfl) (Nat.le_of_ble_eq_true rfl) (Nat.le_of_ble_eq_true rfl) (by rintro E w h; rcases h with ⟨_, hr, _⟩ <;> cases hr) ?_
            rintro v w h
            obtain ⟨hc12, hr, hw⟩ := h; cases hr; subst hw
            refine rn_stk [] rfl ?_
            refine rn_iconst (v := (0 : Int32)) dX9_make_62 (by decide) ?_
            refine rn_istore dX9_make_63 (by decide) [(0, .ref o_sg), (1, .int x), (2, .int y), (3, .int u), (4, .int x1), (5, .int n), (6, .int number), (7, .int (0 : Int32))] rfl ?_
            refine rn_lv [(0, .ref o_sg), (5, .int n), (6, .int number), (7, .int (0 : Int32))] rfl ?_
            refine rn_mono (rn_room (mk9_loop G o_sg o_tape r_tape fs_sg (fs_tape.set 1 (.int (if (2040 : Int32) < ((20 : Int32) + n) then (2040 : Int32) else ((20 : Int32) + n)))) n number (by obtain ⟨k0, e0⟩ := i32_add (20 : Int32) n; obtain ⟨k1, e1⟩ := i32_sub (if (2040 : Int32) < ((20 : Int32) + n) then (2040 : Int32) else ((20 : Int32) + n)) (1 : Int32); obtain ⟨k2, e2⟩ := i32_add (12 : Int32) (2 : Int32); obtain ⟨k3, e3⟩ := i32_add (16 : Int32) (2 : Int32); have m0 := i32_min ((20 : Int32) + n) (2040 : Int32); have g0 := i32_rng u; have g1 := i32_rng x1; have g2 := i32_rng n; simp only [Int32.lt_iff_toInt_lt, Int32.le_iff_toInt_le, gt_iff_lt, ge_iff_le, ← Int32.toInt_inj, i32_0, i32_1, i32_2, i32_4, i32_6, i32_8, i32_9, i32_12, i32_16, i32_20, i32_255, i32_1480, i32_2040] at *; omega) (by obtain ⟨k0, e0⟩ := i32_add (20 : Int32) n; obtain ⟨k1, e1⟩ := i32_sub (if (2040 : Int32) < ((20 : Int32) + n) then (2040 : Int32) else ((20 : Int32) + n)) (1 : Int32); obtain ⟨k2, e2⟩ := i32_add (12 : Int32) (2 : Int32); obtain ⟨k3, e3⟩ := i32_add (16 : Int32) (2 : Int32); have m0 := i32_min ((20 : Int32) + n) (2040 : Int32); have g0 := i32_rng u; have g1 := i32_rng x1; have g2 := i32_rng n; simp only [Int32.lt_iff_toInt_lt, Int32.le_iff_toInt_le, gt_iff_lt, ge_iff_le, ← Int32.toInt_inj, i32_0, i32_1, i32_2, i32_4, i32_6, i32_8, i32_9, i32_12, i32_16, i32_20, i32_255, i32_1480, i32_2040] at *; omega) n.toInt.toNat _ _ (0 : Int32) (ls_ne (by decide) (ls_ne (by decide) (ls_ne (by decide) (ls_ne (by decide) (ls_ne (by decide) (ls_ne (by decide) (ls_ne (by decide) (ls_ne (by decide) (ls_ne (by decide) (ls_ne (by decide) (ls_ne (by decide) (ls_ne (by decide) (ls_ne (by decide) (ls_ne (by decide) (ls_ne (by decide) (ls_ne (by decide) (ls_ne (by decide) (ls_ne (by decide) (ls_ne (by decide) h_sg))))))))))))))))))) hf_sg_1 (ls_ne (by decide) (ls_ne (by decide) (ls_ne (by decide) (ls_ne (by decide) (ls_ne (by decide) (ls_ne (by decide) (ls_ne (by decide) (ls_ne (by decide) (ls_ne (by decide) (ls_ne (by decide) (ls_ne (by decide) (ls_ne (by decide) (ls_ne (by decide) (ls_ne (by decide) (ls_ne (by decide) (ls_ne (by decide) (ls_ne (by decide) (ls_ne (by decide) (ls_eq h_tape))))))))))))))))))) (ls_ne (by decide) hf_tape_0) (((ls_eq hf_tape_1)).trans (by rw [if_neg (by obtain ⟨k0, e0⟩ := i32_add (20 : Int32) n; obtain ⟨k1, e1⟩ := i32_sub (if (2040 : Int32) < ((20 : Int32) + n) then (2040 : Int32) else ((20 : Int32) + n)) (1 : Int32); obtain ⟨k2, e2⟩ := i32_add (12 : Int32) (2 : Int32); obtain ⟨k3, e3⟩ := i32_add (16 : Int32) (2 : Int32); have m0 := i32_min ((20 : Int32) + n) (2040 : Int32); have g0 := i32_rng u; have g1 := i32_rng x1; have g2 := i32_rng n; simp only [Int32.lt_iff_toInt_lt, Int32.le_iff_toInt_le, gt_iff_lt, ge_iff_le, ← Int32.toInt_inj, i32_0, i32_1, i32_2, i32_4, i32_6, i32_8, i32_9, i32_12, i32_16, i32_20, i32_255, i32_1480, i32_2040] at *; omega)])) (ls_eq (ls_eq (ls_eq (ls_eq (ls_eq (ls_eq (ls_eq (ls_eq (ls_eq (ls_eq (ls_eq (ls_eq (ls_eq (ls_eq (ls_eq (ls_eq (ls_eq (ls_eq (ls_ne (by decide) h_taper))))))))))))))))))) (by decide) (by have g := i32_rng n; simp only [Int32.toInt_zero]; omega)) (Nat.le_of_ble_eq_true rfl) (Nat.le_of_ble_eq_true rfl) (Nat.le_of_ble_eq_true rfl) (Nat.le_of_ble_eq_true rfl)) (fun r w hq => Or.inl ⟨by obtain ⟨k0, e0⟩ := i32_add (20 : Int32) n; obtain ⟨k1, e1⟩ := i32_sub (if (2040 : Int32) < ((20 : Int32) + n) then (2040 : Int32) else ((20 : Int32) + n)) (1 : Int32); obtain ⟨k2, e2⟩ := i32_add (12 : Int32) (2 : Int32); obtain ⟨k3, e3⟩ := i32_add (16 : Int32) (2 : Int32); have m0 := i32_min ((20 : Int32) + n) (2040 : Int32); have g0 := i32_rng u; have g1 := i32_rng x1; have g2 := i32_rng n; simp only [Int32.lt_iff_toInt_lt, Int32.le_iff_toInt_le, gt_iff_lt, ge_iff_le, ← Int32.toInt_inj, i32_0, i32_1, i32_2, i32_4, i32_6, i32_8, i32_9, i32_12, i32_16, i32_20, i32_255, i32_1480, i32_2040] at *; omega, hq.1, fun p h1 h2 => (hq.2 p h2).trans (by simp only [List.getElem?_set_ne (Ne.symm h1), List.getElem?_set_ne (Ne.symm h2)])⟩)
          · have hc13 := hc; clear hc; cases hr; subst hw
            exfalso; obtain ⟨k0, e0⟩ := i32_add (20 : Int32) n; have g0 := i32_rng u; have g1 := i32_rng x1; have g2 := i32_rng n; simp only [Int32.lt_iff_toInt_lt, Int32.le_iff_toInt_le, gt_iff_lt, ge_iff_le, ← Int32.toInt_inj, i32_0, i32_20, i32_255, i32_1480] at *; omega
        · exact rn_throw kt_SG_95_122 rfl dX9_make_28 dX9_make_31 dX9_make_32 dX9_make_34 dX9_make_37 (Nat.le_of_ble_eq_true rfl) (Nat.le_of_ble_eq_true rfl) (Nat.le_of_ble_eq_true rfl) (Nat.le_of_ble_eq_true rfl) (Nat.le_of_ble_eq_true rfl) (Or.inr ⟨by have g0 := i32_rng u; have g1 := i32_rng x1; have g2 := i32_rng n; simp only [Int32.lt_iff_toInt_lt, Int32.le_iff_toInt_le, gt_iff_lt, ge_iff_le, ← Int32.toInt_inj, i32_0, i32_255, i32_1480] at *; omega, rfl, rfl⟩)
set_option maxRecDepth 20000 in
set_option maxHeartbeats 4000000 in
theorem c_X10_two (G : rn_G) (ws : va_W) (o_m : Nat) (p : Int32) (fs_m : List Value) (a_bytes : Nat) (g_bytes : Nat → Int32) (h_m : ws[23]? = some (o_m, Sum.inr (10, fs_m))) (hf_m_2 : fs_m[2]? = some (.ref a_bytes)) (h_m_bytes : ws[24]? = some (a_bytes, Sum.inl (rn_k G 1, 22000, Sum.inl g_bytes))) (hp0 : (0 : Int32) ≤ p) (hp1 : p ≤ (21990 : Int32)) : Rn G mX10_two 0 0 0 0 0 (lv_args 0 [.ref o_m, .int p]) [] ws (fun r w => (∃ hv0 : Int32, True ∧ r = Sum.inl (some (.int hv0)) ∧ w = ws)) := by
  refine rn_lv [(0, .ref o_m), (1, .int p)] rfl ?_
  refine rn_aload_n (i := 0) dX10_two_0 rfl rfl ?_
  refine rn_get 23 kg_SGModel_7 h_m hf_m_2 dX10_two_1 ?_
  refine rn_iload_n (i := 1) dX10_two_4 rfl rfl ?_
  refine rn_iald 24 1 h_m_bytes rfl (rn_in (by have g0 := i32_rng p; simp only [Int32.lt_iff_toInt_lt, Int32.le_iff_toInt_le, gt_iff_lt, ge_iff_le, ← Int32.toInt_inj, i32_0, i32_21990] at *; omega)) dX10_two_5 ?_
  refine rn_bipush (v := (8 : Int32)) dX10_two_6 (by decide) ?_
  refine rn_ishl dX10_two_8 ?_
  refine rn_aload_n (i := 0) dX10_two_9 rfl rfl ?_
  refine rn_get 23 kg_SGModel_7 h_m hf_m_2 dX10_two_10 ?_
  refine rn_iload_n (i := 1) dX10_two_13 rfl rfl ?_
  refine rn_iconst (v := (1 : Int32)) dX10_two_14 (by decide) ?_
  refine rn_iadd dX10_two_15 ?_
  refine rn_iald 24 1 h_m_bytes rfl (rn_in (by obtain ⟨k0, e0⟩ := i32_add p (1 : Int32); have g0 := i32_rng p; simp only [Int32.lt_iff_toInt_lt, Int32.le_iff_toInt_le, gt_iff_lt, ge_iff_le, ← Int32.toInt_inj, i32_0, i32_1, i32_21990] at *; omega)) dX10_two_16 ?_
  refine rn_ior dX10_two_17 ?_
  exact rn_iret dX10_two_18 rfl rfl ⟨(((g_bytes (p).toNatClampNeg) <<< ((8 : Int32) &&& 31)) ||| (g_bytes ((p + (1 : Int32))).toNatClampNeg)), trivial, rfl, rfl⟩
theorem fold_loop (G : rn_G) (ws : va_W) {d z a b : Nat} (N : Nat) : ∀ s : Int32, s.toInt.toNat ≤ N → Rn G mX10_fold d z a b 44 [(3, .int s)] [] ws (fun r w => (∃ hv0 : Int32, True ∧ r = Sum.inl (some (.int hv0)) ∧ w = ws)) := by
  induction N with
  | zero =>
    intro s hs
    refine rn_iload_n (i := 3) dX10_fold_44 rfl rfl ?_
    refine rn_ldc (v := (65535 : Int32)) wd_1093 dX10_fold_45 ?_
    refine rn_icmp_le (tgt := 63) dX10_fold_47 (by decide) (fun h => ?_) (fun h => False.elim (h (by rw [Int32.le_iff_toInt_le, show (65535 : Int32).toInt = 65535 by decide]; omega)))
    refine rn_iload_n (i := 3) dX10_fold_63 rfl rfl ?_
    exact rn_iret dX10_fold_64 rfl rfl ⟨s, trivial, rfl, rfl⟩
  | succ N ih =>
    intro s hs
    refine rn_iload_n (i := 3) dX10_fold_44 rfl rfl ?_
    refine rn_ldc (v := (65535 : Int32)) wd_1093 dX10_fold_45 ?_
    refine rn_icmp_le (tgt := 63) dX10_fold_47 (by decide) (fun h => ?_) (fun h => ?_)
    · refine rn_iload_n (i := 3) dX10_fold_63 rfl rfl ?_
      exact rn_iret dX10_fold_64 rfl rfl ⟨s, trivial, rfl, rfl⟩
    · refine rn_iload_n (i := 3) dX10_fold_50 rfl rfl ?_
      refine rn_ldc (v := (65535 : Int32)) wd_1093 dX10_fold_51 ?_
      refine rn_iand dX10_fold_53 ?_
      refine rn_iload_n (i := 3) dX10_fold_54 rfl rfl ?_
      refine rn_bipush (v := (16 : Int32)) dX10_fold_55 (by decide) ?_
      refine rn_ishr dX10_fold_57 ?_
      refine rn_iadd dX10_fold_58 ?_
      refine rn_istore_n dX10_fold_59 rfl (by decide) [(3, .int ((s &&& 65535) + (s >>> ((16 : Int32) &&& 31))))] rfl ?_
      refine rn_goto (tgt := 44) dX10_fold_60 (by decide) ?_
      have h9 := fold_dec s (by rw [Int32.le_iff_toInt_le, show (65535 : Int32).toInt = 65535 by decide] at h; omega)
      exact ih _ (by omega)
set_option maxRecDepth 20000 in
set_option maxHeartbeats 4000000 in
theorem c_X10_fold (G : rn_G) (ws : va_W) (o_m : Nat) (p : Int32) (fs_m : List Value) (a_bytes : Nat) (g_bytes : Nat → Int32) (h_m : ws[23]? = some (o_m, Sum.inr (10, fs_m))) (hf_m_2 : fs_m[2]? = some (.ref a_bytes)) (h_m_bytes : ws[24]? = some (a_bytes, Sum.inl (rn_k G 1, 22000, Sum.inl g_bytes))) (hp0 : (0 : Int32) ≤ p) (hp1 : p ≤ (21900 : Int32)) : Rn G mX10_fold 1 21 0 0 0 (lv_args 0 [.ref o_m, .int p, .int (0 : Int32)]) [] ws (fun r w => (∃ hv0 : Int32, True ∧ r = Sum.inl (some (.int hv0)) ∧ w = ws)) := by
  refine rn_lv [(0, .ref o_m), (1, .int p), (2, .int (0 : Int32))] rfl ?_
  refine rn_iconst (v := (0 : Int32)) dX10_fold_0 (by decide) ?_
  refine rn_istore_n dX10_fold_1 rfl (by decide) [(0, .ref o_m), (1, .int p), (2, .int (0 : Int32)), (3, .int (0 : Int32))] rfl ?_
  refine rn_iconst (v := (0 : Int32)) dX10_fold_2 (by decide) ?_
  refine rn_istore dX10_fold_3 (by decide) [(0, .ref o_m), (1, .int p), (2, .int (0 : Int32)), (3, .int (0 : Int32)), (4, .int (0 : Int32))] rfl ?_
  refine rn_iload dX10_fold_5 rfl ?_
  refine rn_bipush (v := (20 : Int32)) dX10_fold_7 (by decide) ?_
  refine rn_icmp_ge (tgt := 44) dX10_fold_9 (by decide) (fun h1 => absurd h1 (by decide)) (fun h1 => ?_)
  refine rn_iload_n (i := 3) dX10_fold_12 rfl rfl ?_
  refine rn_iload dX10_fold_13 rfl ?_
  refine rn_bipush (v := (10 : Int32)) dX10_fold_15 (by decide) ?_
  refine rn_icmp_ne (tgt := 28) dX10_fold_17 (by decide) (fun h2 => ?_) (fun h2 => absurd h2 (by decide))
  refine rn_aload_n (i := 0) dX10_fold_28 rfl rfl ?_
  refine rn_iload_n (i := 1) dX10_fold_29 rfl rfl ?_
  refine rn_iload dX10_fold_30 rfl ?_
  refine rn_iadd dX10_fold_32 ?_
  refine rn_callV (a := 0) (b := 0) [.int (p + (0 : Int32))] kl_SGModel_140 dX10_fold_33 23 h_m rfl (c_X10_two G _ (o_m := o_m) (p := (p + (0 : Int32))) (fs_m := fs_m) (a_bytes := a_bytes) (g_bytes := g_bytes) h_m hf_m_2 h_m_bytes (by obtain ⟨k0, e0⟩ := i32_add p (0 : Int32); have g0 := i32_rng p; simp only [Int32.lt_iff_toInt_lt, Int32.le_iff_toInt_le, gt_iff_lt, ge_iff_le, ← Int32.toInt_inj, i32_0, i32_21900] at *; omega) (by obtain ⟨k0, e0⟩ := i32_add p (0 : Int32); have g0 := i32_rng p; simp only [Int32.lt_iff_toInt_lt, Int32.le_iff_toInt_le, gt_iff_lt, ge_iff_le, ← Int32.toInt_inj, i32_0, i32_21900, i32_21990] at *; omega)) rfl rfl (Nat.le_of_ble_eq_true rfl) (Nat.le_of_ble_eq_true rfl) (Nat.le_of_ble_eq_true rfl) (Nat.le_of_ble_eq_true rfl) (Nat.le_of_ble_eq_true rfl) (Nat.le_of_ble_eq_true rfl) (by rintro E w h; rcases h with ⟨_, _, hr, _⟩ <;> cases hr) ?_
  rintro v w h
  obtain ⟨hv3, hc4, hr, hw⟩ := h; cases hr; subst hw
  refine rn_stk [.int hv3, .int (0 : Int32)] rfl ?_
  refine rn_iadd dX10_fold_36 ?_
  refine rn_istore_n dX10_fold_37 rfl (by decide) [(0, .ref o_m), (1, .int p), (2, .int (0 : Int32)), (3, .int ((0 : Int32) + hv3)), (4, .int (0 : Int32))] rfl ?_
  refine rn_iinc (v := (2 : Int32)) dX10_fold_38 rfl (by decide) (by decide) [(0, .ref o_m), (1, .int p), (2, .int (0 : Int32)), (3, .int ((0 : Int32) + hv3)), (4, .int (2 : Int32))] rfl ?_
  refine rn_goto (tgt := 5) dX10_fold_41 (by decide) ?_
  refine rn_iload dX10_fold_5 rfl ?_
  refine rn_bipush (v := (20 : Int32)) dX10_fold_7 (by decide) ?_
  refine rn_icmp_ge (tgt := 44) dX10_fold_9 (by decide) (fun h5 => absurd h5 (by decide)) (fun h5 => ?_)
  refine rn_iload_n (i := 3) dX10_fold_12 rfl rfl ?_
  refine rn_iload dX10_fold_13 rfl ?_
  refine rn_bipush (v := (10 : Int32)) dX10_fold_15 (by decide) ?_
  refine rn_icmp_ne (tgt := 28) dX10_fold_17 (by decide) (fun h6 => ?_) (fun h6 => absurd h6 (by decide))
  refine rn_aload_n (i := 0) dX10_fold_28 rfl rfl ?_
  refine rn_iload_n (i := 1) dX10_fold_29 rfl rfl ?_
  refine rn_iload dX10_fold_30 rfl ?_
  refine rn_iadd dX10_fold_32 ?_
  refine rn_callV (a := 0) (b := 0) [.int (p + (2 : Int32))] kl_SGModel_140 dX10_fold_33 23 h_m rfl (c_X10_two G _ (o_m := o_m) (p := (p + (2 : Int32))) (fs_m := fs_m) (a_bytes := a_bytes) (g_bytes := g_bytes) h_m hf_m_2 h_m_bytes (by obtain ⟨k0, e0⟩ := i32_add p (2 : Int32); have g0 := i32_rng p; simp only [Int32.lt_iff_toInt_lt, Int32.le_iff_toInt_le, gt_iff_lt, ge_iff_le, ← Int32.toInt_inj, i32_0, i32_2, i32_21900] at *; omega) (by obtain ⟨k0, e0⟩ := i32_add p (2 : Int32); have g0 := i32_rng p; simp only [Int32.lt_iff_toInt_lt, Int32.le_iff_toInt_le, gt_iff_lt, ge_iff_le, ← Int32.toInt_inj, i32_0, i32_2, i32_21900, i32_21990] at *; omega)) rfl rfl (Nat.le_of_ble_eq_true rfl) (Nat.le_of_ble_eq_true rfl) (Nat.le_of_ble_eq_true rfl) (Nat.le_of_ble_eq_true rfl) (Nat.le_of_ble_eq_true rfl) (Nat.le_of_ble_eq_true rfl) (by rintro E w h; rcases h with ⟨_, _, hr, _⟩ <;> cases hr) ?_
  rintro v w h
  obtain ⟨hv7, hc8, hr, hw⟩ := h; cases hr; subst hw
  refine rn_stk [.int hv7, .int ((0 : Int32) + hv3)] rfl ?_
  refine rn_iadd dX10_fold_36 ?_
  refine rn_istore_n dX10_fold_37 rfl (by decide) [(0, .ref o_m), (1, .int p), (2, .int (0 : Int32)), (3, .int (((0 : Int32) + hv3) + hv7)), (4, .int (2 : Int32))] rfl ?_
  refine rn_iinc (v := (4 : Int32)) dX10_fold_38 rfl (by decide) (by decide) [(0, .ref o_m), (1, .int p), (2, .int (0 : Int32)), (3, .int (((0 : Int32) + hv3) + hv7)), (4, .int (4 : Int32))] rfl ?_
  refine rn_goto (tgt := 5) dX10_fold_41 (by decide) ?_
  refine rn_iload dX10_fold_5 rfl ?_
  refine rn_bipush (v := (20 : Int32)) dX10_fold_7 (by decide) ?_
  refine rn_icmp_ge (tgt := 44) dX10_fold_9 (by decide) (fun h9 => absurd h9 (by decide)) (fun h9 => ?_)
  refine rn_iload_n (i := 3) dX10_fold_12 rfl rfl ?_
  refine rn_iload dX10_fold_13 rfl ?_
  refine rn_bipush (v := (10 : Int32)) dX10_fold_15 (by decide) ?_
  refine rn_icmp_ne (tgt := 28) dX10_fold_17 (by decide) (fun h10 => ?_) (fun h10 => absurd h10 (by decide))
  refine rn_aload_n (i := 0) dX10_fold_28 rfl rfl ?_
  refine rn_iload_n (i := 1) dX10_fold_29 rfl rfl ?_
  refine rn_iload dX10_fold_30 rfl ?_
  refine rn_iadd dX10_fold_32 ?_
  refine rn_callV (a := 0) (b := 0) [.int (p + (4 : Int32))] kl_SGModel_140 dX10_fold_33 23 h_m rfl (c_X10_two G _ (o_m := o_m) (p := (p + (4 : Int32))) (fs_m := fs_m) (a_bytes := a_bytes) (g_bytes := g_bytes) h_m hf_m_2 h_m_bytes (by obtain ⟨k0, e0⟩ := i32_add p (4 : Int32); have g0 := i32_rng p; simp only [Int32.lt_iff_toInt_lt, Int32.le_iff_toInt_le, gt_iff_lt, ge_iff_le, ← Int32.toInt_inj, i32_0, i32_4, i32_21900] at *; omega) (by obtain ⟨k0, e0⟩ := i32_add p (4 : Int32); have g0 := i32_rng p; simp only [Int32.lt_iff_toInt_lt, Int32.le_iff_toInt_le, gt_iff_lt, ge_iff_le, ← Int32.toInt_inj, i32_0, i32_4, i32_21900, i32_21990] at *; omega)) rfl rfl (Nat.le_of_ble_eq_true rfl) (Nat.le_of_ble_eq_true rfl) (Nat.le_of_ble_eq_true rfl) (Nat.le_of_ble_eq_true rfl) (Nat.le_of_ble_eq_true rfl) (Nat.le_of_ble_eq_true rfl) (by rintro E w h; rcases h with ⟨_, _, hr, _⟩ <;> cases hr) ?_
  rintro v w h
  obtain ⟨hv11, hc12, hr, hw⟩ := h; cases hr; subst hw
  refine rn_stk [.int hv11, .int (((0 : Int32) + hv3) + hv7)] rfl ?_
  refine rn_iadd dX10_fold_36 ?_
  refine rn_istore_n dX10_fold_37 rfl (by decide) [(0, .ref o_m), (1, .int p), (2, .int (0 : Int32)), (3, .int ((((0 : Int32) + hv3) + hv7) + hv11)), (4, .int (4 : Int32))] rfl ?_
  refine rn_iinc (v := (6 : Int32)) dX10_fold_38 rfl (by decide) (by decide) [(0, .ref o_m), (1, .int p), (2, .int (0 : Int32)), (3, .int ((((0 : Int32) + hv3) + hv7) + hv11)), (4, .int (6 : Int32))] rfl ?_
  refine rn_goto (tgt := 5) dX10_fold_41 (by decide) ?_
  refine rn_iload dX10_fold_5 rfl ?_
  refine rn_bipush (v := (20 : Int32)) dX10_fold_7 (by decide) ?_
  refine rn_icmp_ge (tgt := 44) dX10_fold_9 (by decide) (fun h13 => absurd h13 (by decide)) (fun h13 => ?_)
  refine rn_iload_n (i := 3) dX10_fold_12 rfl rfl ?_
  refine rn_iload dX10_fold_13 rfl ?_
  refine rn_bipush (v := (10 : Int32)) dX10_fold_15 (by decide) ?_
  refine rn_icmp_ne (tgt := 28) dX10_fold_17 (by decide) (fun h14 => ?_) (fun h14 => absurd h14 (by decide))
  refine rn_aload_n (i := 0) dX10_fold_28 rfl rfl ?_
  refine rn_iload_n (i := 1) dX10_fold_29 rfl rfl ?_
  refine rn_iload dX10_fold_30 rfl ?_
  refine rn_iadd dX10_fold_32 ?_
  refine rn_callV (a := 0) (b := 0) [.int (p + (6 : Int32))] kl_SGModel_140 dX10_fold_33 23 h_m rfl (c_X10_two G _ (o_m := o_m) (p := (p + (6 : Int32))) (fs_m := fs_m) (a_bytes := a_bytes) (g_bytes := g_bytes) h_m hf_m_2 h_m_bytes (by obtain ⟨k0, e0⟩ := i32_add p (6 : Int32); have g0 := i32_rng p; simp only [Int32.lt_iff_toInt_lt, Int32.le_iff_toInt_le, gt_iff_lt, ge_iff_le, ← Int32.toInt_inj, i32_0, i32_6, i32_21900] at *; omega) (by obtain ⟨k0, e0⟩ := i32_add p (6 : Int32); have g0 := i32_rng p; simp only [Int32.lt_iff_toInt_lt, Int32.le_iff_toInt_le, gt_iff_lt, ge_iff_le, ← Int32.toInt_inj, i32_0, i32_6, i32_21900, i32_21990] at *; omega)) rfl rfl (Nat.le_of_ble_eq_true rfl) (Nat.le_of_ble_eq_true rfl) (Nat.le_of_ble_eq_true rfl) (Nat.le_of_ble_eq_true rfl) (Nat.le_of_ble_eq_true rfl) (Nat.le_of_ble_eq_true rfl) (by rintro E w h; rcases h with ⟨_, _, hr, _⟩ <;> cases hr) ?_
  rintro v w h
  obtain ⟨hv15, hc16, hr, hw⟩ := h; cases hr; subst hw
  refine rn_stk [.int hv15, .int ((((0 : Int32) + hv3) + hv7) + hv11)] rfl ?_
  refine rn_iadd dX10_fold_36 ?_
  refine rn_istore_n dX10_fold_37 rfl (by decide) [(0, .ref o_m), (1, .int p), (2, .int (0 : Int32)), (3, .int (((((0 : Int32) + hv3) + hv7) + hv11) + hv15)), (4, .int (6 : Int32))] rfl ?_
  refine rn_iinc (v := (8 : Int32)) dX10_fold_38 rfl (by decide) (by decide) [(0, .ref o_m), (1, .int p), (2, .int (0 : Int32)), (3, .int (((((0 : Int32) + hv3) + hv7) + hv11) + hv15)), (4, .int (8 : Int32))] rfl ?_
  refine rn_goto (tgt := 5) dX10_fold_41 (by decide) ?_
  refine rn_iload dX10_fold_5 rfl ?_
  refine rn_bipush (v := (20 : Int32)) dX10_fold_7 (by decide) ?_
  refine rn_icmp_ge (tgt := 44) dX10_fold_9 (by decide) (fun h17 => absurd h17 (by decide)) (fun h17 => ?_)
  refine rn_iload_n (i := 3) dX10_fold_12 rfl rfl ?_
  refine rn_iload dX10_fold_13 rfl ?_
  refine rn_bipush (v := (10 : Int32)) dX10_fold_15 (by decide) ?_
  refine rn_icmp_ne (tgt := 28) dX10_fold_17 (by decide) (fun h18 => ?_) (fun h18 => absurd h18 (by decide))
  refine rn_aload_n (i := 0) dX10_fold_28 rfl rfl ?_
  refine rn_iload_n (i := 1) dX10_fold_29 rfl rfl ?_
  refine rn_iload dX10_fold_30 rfl ?_
  refine rn_iadd dX10_fold_32 ?_
  refine rn_callV (a := 0) (b := 0) [.int (p + (8 : Int32))] kl_SGModel_140 dX10_fold_33 23 h_m rfl (c_X10_two G _ (o_m := o_m) (p := (p + (8 : Int32))) (fs_m := fs_m) (a_bytes := a_bytes) (g_bytes := g_bytes) h_m hf_m_2 h_m_bytes (by obtain ⟨k0, e0⟩ := i32_add p (8 : Int32); have g0 := i32_rng p; simp only [Int32.lt_iff_toInt_lt, Int32.le_iff_toInt_le, gt_iff_lt, ge_iff_le, ← Int32.toInt_inj, i32_0, i32_8, i32_21900] at *; omega) (by obtain ⟨k0, e0⟩ := i32_add p (8 : Int32); have g0 := i32_rng p; simp only [Int32.lt_iff_toInt_lt, Int32.le_iff_toInt_le, gt_iff_lt, ge_iff_le, ← Int32.toInt_inj, i32_0, i32_8, i32_21900, i32_21990] at *; omega)) rfl rfl (Nat.le_of_ble_eq_true rfl) (Nat.le_of_ble_eq_true rfl) (Nat.le_of_ble_eq_true rfl) (Nat.le_of_ble_eq_true rfl) (Nat.le_of_ble_eq_true rfl) (Nat.le_of_ble_eq_true rfl) (by rintro E w h; rcases h with ⟨_, _, hr, _⟩ <;> cases hr) ?_
  rintro v w h
  obtain ⟨hv19, hc20, hr, hw⟩ := h; cases hr; subst hw
  refine rn_stk [.int hv19, .int (((((0 : Int32) + hv3) + hv7) + hv11) + hv15)] rfl ?_
  refine rn_iadd dX10_fold_36 ?_
  refine rn_istore_n dX10_fold_37 rfl (by decide) [(0, .ref o_m), (1, .int p), (2, .int (0 : Int32)), (3, .int ((((((0 : Int32) + hv3) + hv7) + hv11) + hv15) + hv19)), (4, .int (8 : Int32))] rfl ?_
  refine rn_iinc (v := (10 : Int32)) dX10_fold_38 rfl (by decide) (by decide) [(0, .ref o_m), (1, .int p), (2, .int (0 : Int32)), (3, .int ((((((0 : Int32) + hv3) + hv7) + hv11) + hv15) + hv19)), (4, .int (10 : Int32))] rfl ?_
  refine rn_goto (tgt := 5) dX10_fold_41 (by decide) ?_
  refine rn_iload dX10_fold_5 rfl ?_
  refine rn_bipush (v := (20 : Int32)) dX10_fold_7 (by decide) ?_
  refine rn_icmp_ge (tgt := 44) dX10_fold_9 (by decide) (fun h21 => absurd h21 (by decide)) (fun h21 => ?_)
  refine rn_iload_n (i := 3) dX10_fold_12 rfl rfl ?_
  refine rn_iload dX10_fold_13 rfl ?_
  refine rn_bipush (v := (10 : Int32)) dX10_fold_15 (by decide) ?_
  refine rn_icmp_ne (tgt := 28) dX10_fold_17 (by decide) (fun h22 => absurd h22 (by decide)) (fun h22 => ?_)
  refine rn_iload_n (i := 2) dX10_fold_20 rfl rfl ?_
  refine rn_if_ne (tgt := 28) dX10_fold_21 (by decide) (fun h23 => absurd h23 (by decide)) (fun h23 => ?_)
  refine rn_iconst (v := (0 : Int32)) dX10_fold_24 (by decide) ?_
  refine rn_goto (tgt := 36) dX10_fold_25 (by decide) ?_
  refine rn_iadd dX10_fold_36 ?_
  refine rn_istore_n dX10_fold_37 rfl (by decide) [(0, .ref o_m), (1, .int p), (2, .int (0 : Int32)), (3, .int (((((((0 : Int32) + hv3) + hv7) + hv11) + hv15) + hv19) + (0 : Int32))), (4, .int (10 : Int32))] rfl ?_
  refine rn_iinc (v := (12 : Int32)) dX10_fold_38 rfl (by decide) (by decide) [(0, .ref o_m), (1, .int p), (2, .int (0 : Int32)), (3, .int (((((((0 : Int32) + hv3) + hv7) + hv11) + hv15) + hv19) + (0 : Int32))), (4, .int (12 : Int32))] rfl ?_
  refine rn_goto (tgt := 5) dX10_fold_41 (by decide) ?_
  refine rn_iload dX10_fold_5 rfl ?_
  refine rn_bipush (v := (20 : Int32)) dX10_fold_7 (by decide) ?_
  refine rn_icmp_ge (tgt := 44) dX10_fold_9 (by decide) (fun h24 => absurd h24 (by decide)) (fun h24 => ?_)
  refine rn_iload_n (i := 3) dX10_fold_12 rfl rfl ?_
  refine rn_iload dX10_fold_13 rfl ?_
  refine rn_bipush (v := (10 : Int32)) dX10_fold_15 (by decide) ?_
  refine rn_icmp_ne (tgt := 28) dX10_fold_17 (by decide) (fun h25 => ?_) (fun h25 => absurd h25 (by decide))
  refine rn_aload_n (i := 0) dX10_fold_28 rfl rfl ?_
  refine rn_iload_n (i := 1) dX10_fold_29 rfl rfl ?_
  refine rn_iload dX10_fold_30 rfl ?_
  refine rn_iadd dX10_fold_32 ?_
  refine rn_callV (a := 0) (b := 0) [.int (p + (12 : Int32))] kl_SGModel_140 dX10_fold_33 23 h_m rfl (c_X10_two G _ (o_m := o_m) (p := (p + (12 : Int32))) (fs_m := fs_m) (a_bytes := a_bytes) (g_bytes := g_bytes) h_m hf_m_2 h_m_bytes (by obtain ⟨k0, e0⟩ := i32_add p (12 : Int32); have g0 := i32_rng p; simp only [Int32.lt_iff_toInt_lt, Int32.le_iff_toInt_le, gt_iff_lt, ge_iff_le, ← Int32.toInt_inj, i32_0, i32_12, i32_21900] at *; omega) (by obtain ⟨k0, e0⟩ := i32_add p (12 : Int32); have g0 := i32_rng p; simp only [Int32.lt_iff_toInt_lt, Int32.le_iff_toInt_le, gt_iff_lt, ge_iff_le, ← Int32.toInt_inj, i32_0, i32_12, i32_21900, i32_21990] at *; omega)) rfl rfl (Nat.le_of_ble_eq_true rfl) (Nat.le_of_ble_eq_true rfl) (Nat.le_of_ble_eq_true rfl) (Nat.le_of_ble_eq_true rfl) (Nat.le_of_ble_eq_true rfl) (Nat.le_of_ble_eq_true rfl) (by rintro E w h; rcases h with ⟨_, _, hr, _⟩ <;> cases hr) ?_
  rintro v w h
  obtain ⟨hv26, hc27, hr, hw⟩ := h; cases hr; subst hw
  refine rn_stk [.int hv26, .int (((((((0 : Int32) + hv3) + hv7) + hv11) + hv15) + hv19) + (0 : Int32))] rfl ?_
  refine rn_iadd dX10_fold_36 ?_
  refine rn_istore_n dX10_fold_37 rfl (by decide) [(0, .ref o_m), (1, .int p), (2, .int (0 : Int32)), (3, .int ((((((((0 : Int32) + hv3) + hv7) + hv11) + hv15) + hv19) + (0 : Int32)) + hv26)), (4, .int (12 : Int32))] rfl ?_
  refine rn_iinc (v := (14 : Int32)) dX10_fold_38 rfl (by decide) (by decide) [(0, .ref o_m), (1, .int p), (2, .int (0 : Int32)), (3, .int ((((((((0 : Int32) + hv3) + hv7) + hv11) + hv15) + hv19) + (0 : Int32)) + hv26)), (4, .int (14 : Int32))] rfl ?_
  refine rn_goto (tgt := 5) dX10_fold_41 (by decide) ?_
  refine rn_iload dX10_fold_5 rfl ?_
  refine rn_bipush (v := (20 : Int32)) dX10_fold_7 (by decide) ?_
  refine rn_icmp_ge (tgt := 44) dX10_fold_9 (by decide) (fun h28 => absurd h28 (by decide)) (fun h28 => ?_)
  refine rn_iload_n (i := 3) dX10_fold_12 rfl rfl ?_
  refine rn_iload dX10_fold_13 rfl ?_
  refine rn_bipush (v := (10 : Int32)) dX10_fold_15 (by decide) ?_
  refine rn_icmp_ne (tgt := 28) dX10_fold_17 (by decide) (fun h29 => ?_) (fun h29 => absurd h29 (by decide))
  refine rn_aload_n (i := 0) dX10_fold_28 rfl rfl ?_
  refine rn_iload_n (i := 1) dX10_fold_29 rfl rfl ?_
  refine rn_iload dX10_fold_30 rfl ?_
  refine rn_iadd dX10_fold_32 ?_
  refine rn_callV (a := 0) (b := 0) [.int (p + (14 : Int32))] kl_SGModel_140 dX10_fold_33 23 h_m rfl (c_X10_two G _ (o_m := o_m) (p := (p + (14 : Int32))) (fs_m := fs_m) (a_bytes := a_bytes) (g_bytes := g_bytes) h_m hf_m_2 h_m_bytes (by obtain ⟨k0, e0⟩ := i32_add p (14 : Int32); have g0 := i32_rng p; simp only [Int32.lt_iff_toInt_lt, Int32.le_iff_toInt_le, gt_iff_lt, ge_iff_le, ← Int32.toInt_inj, i32_0, i32_14, i32_21900] at *; omega) (by obtain ⟨k0, e0⟩ := i32_add p (14 : Int32); have g0 := i32_rng p; simp only [Int32.lt_iff_toInt_lt, Int32.le_iff_toInt_le, gt_iff_lt, ge_iff_le, ← Int32.toInt_inj, i32_0, i32_14, i32_21900, i32_21990] at *; omega)) rfl rfl (Nat.le_of_ble_eq_true rfl) (Nat.le_of_ble_eq_true rfl) (Nat.le_of_ble_eq_true rfl) (Nat.le_of_ble_eq_true rfl) (Nat.le_of_ble_eq_true rfl) (Nat.le_of_ble_eq_true rfl) (by rintro E w h; rcases h with ⟨_, _, hr, _⟩ <;> cases hr) ?_
  rintro v w h
  obtain ⟨hv30, hc31, hr, hw⟩ := h; cases hr; subst hw
  refine rn_stk [.int hv30, .int ((((((((0 : Int32) + hv3) + hv7) + hv11) + hv15) + hv19) + (0 : Int32)) + hv26)] rfl ?_
  refine rn_iadd dX10_fold_36 ?_
  refine rn_istore_n dX10_fold_37 rfl (by decide) [(0, .ref o_m), (1, .int p), (2, .int (0 : Int32)), (3, .int (((((((((0 : Int32) + hv3) + hv7) + hv11) + hv15) + hv19) + (0 : Int32)) + hv26) + hv30)), (4, .int (14 : Int32))] rfl ?_
  refine rn_iinc (v := (16 : Int32)) dX10_fold_38 rfl (by decide) (by decide) [(0, .ref o_m), (1, .int p), (2, .int (0 : Int32)), (3, .int (((((((((0 : Int32) + hv3) + hv7) + hv11) + hv15) + hv19) + (0 : Int32)) + hv26) + hv30)), (4, .int (16 : Int32))] rfl ?_
  refine rn_goto (tgt := 5) dX10_fold_41 (by decide) ?_
  refine rn_iload dX10_fold_5 rfl ?_
  refine rn_bipush (v := (20 : Int32)) dX10_fold_7 (by decide) ?_
  refine rn_icmp_ge (tgt := 44) dX10_fold_9 (by decide) (fun h32 => absurd h32 (by decide)) (fun h32 => ?_)
  refine rn_iload_n (i := 3) dX10_fold_12 rfl rfl ?_
  refine rn_iload dX10_fold_13 rfl ?_
  refine rn_bipush (v := (10 : Int32)) dX10_fold_15 (by decide) ?_
  refine rn_icmp_ne (tgt := 28) dX10_fold_17 (by decide) (fun h33 => ?_) (fun h33 => absurd h33 (by decide))
  refine rn_aload_n (i := 0) dX10_fold_28 rfl rfl ?_
  refine rn_iload_n (i := 1) dX10_fold_29 rfl rfl ?_
  refine rn_iload dX10_fold_30 rfl ?_
  refine rn_iadd dX10_fold_32 ?_
  refine rn_callV (a := 0) (b := 0) [.int (p + (16 : Int32))] kl_SGModel_140 dX10_fold_33 23 h_m rfl (c_X10_two G _ (o_m := o_m) (p := (p + (16 : Int32))) (fs_m := fs_m) (a_bytes := a_bytes) (g_bytes := g_bytes) h_m hf_m_2 h_m_bytes (by obtain ⟨k0, e0⟩ := i32_add p (16 : Int32); have g0 := i32_rng p; simp only [Int32.lt_iff_toInt_lt, Int32.le_iff_toInt_le, gt_iff_lt, ge_iff_le, ← Int32.toInt_inj, i32_0, i32_16, i32_21900] at *; omega) (by obtain ⟨k0, e0⟩ := i32_add p (16 : Int32); have g0 := i32_rng p; simp only [Int32.lt_iff_toInt_lt, Int32.le_iff_toInt_le, gt_iff_lt, ge_iff_le, ← Int32.toInt_inj, i32_0, i32_16, i32_21900, i32_21990] at *; omega)) rfl rfl (Nat.le_of_ble_eq_true rfl) (Nat.le_of_ble_eq_true rfl) (Nat.le_of_ble_eq_true rfl) (Nat.le_of_ble_eq_true rfl) (Nat.le_of_ble_eq_true rfl) (Nat.le_of_ble_eq_true rfl) (by rintro E w h; rcases h with ⟨_, _, hr, _⟩ <;> cases hr) ?_
  rintro v w h
  obtain ⟨hv34, hc35, hr, hw⟩ := h; cases hr; subst hw
  refine rn_stk [.int hv34, .int (((((((((0 : Int32) + hv3) + hv7) + hv11) + hv15) + hv19) + (0 : Int32)) + hv26) + hv30)] rfl ?_
  refine rn_iadd dX10_fold_36 ?_
  refine rn_istore_n dX10_fold_37 rfl (by decide) [(0, .ref o_m), (1, .int p), (2, .int (0 : Int32)), (3, .int ((((((((((0 : Int32) + hv3) + hv7) + hv11) + hv15) + hv19) + (0 : Int32)) + hv26) + hv30) + hv34)), (4, .int (16 : Int32))] rfl ?_
  refine rn_iinc (v := (18 : Int32)) dX10_fold_38 rfl (by decide) (by decide) [(0, .ref o_m), (1, .int p), (2, .int (0 : Int32)), (3, .int ((((((((((0 : Int32) + hv3) + hv7) + hv11) + hv15) + hv19) + (0 : Int32)) + hv26) + hv30) + hv34)), (4, .int (18 : Int32))] rfl ?_
  refine rn_goto (tgt := 5) dX10_fold_41 (by decide) ?_
  refine rn_iload dX10_fold_5 rfl ?_
  refine rn_bipush (v := (20 : Int32)) dX10_fold_7 (by decide) ?_
  refine rn_icmp_ge (tgt := 44) dX10_fold_9 (by decide) (fun h36 => absurd h36 (by decide)) (fun h36 => ?_)
  refine rn_iload_n (i := 3) dX10_fold_12 rfl rfl ?_
  refine rn_iload dX10_fold_13 rfl ?_
  refine rn_bipush (v := (10 : Int32)) dX10_fold_15 (by decide) ?_
  refine rn_icmp_ne (tgt := 28) dX10_fold_17 (by decide) (fun h37 => ?_) (fun h37 => absurd h37 (by decide))
  refine rn_aload_n (i := 0) dX10_fold_28 rfl rfl ?_
  refine rn_iload_n (i := 1) dX10_fold_29 rfl rfl ?_
  refine rn_iload dX10_fold_30 rfl ?_
  refine rn_iadd dX10_fold_32 ?_
  refine rn_callV (a := 0) (b := 0) [.int (p + (18 : Int32))] kl_SGModel_140 dX10_fold_33 23 h_m rfl (c_X10_two G _ (o_m := o_m) (p := (p + (18 : Int32))) (fs_m := fs_m) (a_bytes := a_bytes) (g_bytes := g_bytes) h_m hf_m_2 h_m_bytes (by obtain ⟨k0, e0⟩ := i32_add p (18 : Int32); have g0 := i32_rng p; simp only [Int32.lt_iff_toInt_lt, Int32.le_iff_toInt_le, gt_iff_lt, ge_iff_le, ← Int32.toInt_inj, i32_0, i32_18, i32_21900] at *; omega) (by obtain ⟨k0, e0⟩ := i32_add p (18 : Int32); have g0 := i32_rng p; simp only [Int32.lt_iff_toInt_lt, Int32.le_iff_toInt_le, gt_iff_lt, ge_iff_le, ← Int32.toInt_inj, i32_0, i32_18, i32_21900, i32_21990] at *; omega)) rfl rfl (Nat.le_of_ble_eq_true rfl) (Nat.le_of_ble_eq_true rfl) (Nat.le_of_ble_eq_true rfl) (Nat.le_of_ble_eq_true rfl) (Nat.le_of_ble_eq_true rfl) (Nat.le_of_ble_eq_true rfl) (by rintro E w h; rcases h with ⟨_, _, hr, _⟩ <;> cases hr) ?_
  rintro v w h
  obtain ⟨hv38, hc39, hr, hw⟩ := h; cases hr; subst hw
  refine rn_stk [.int hv38, .int ((((((((((0 : Int32) + hv3) + hv7) + hv11) + hv15) + hv19) + (0 : Int32)) + hv26) + hv30) + hv34)] rfl ?_
  refine rn_iadd dX10_fold_36 ?_
  refine rn_istore_n dX10_fold_37 rfl (by decide) [(0, .ref o_m), (1, .int p), (2, .int (0 : Int32)), (3, .int (((((((((((0 : Int32) + hv3) + hv7) + hv11) + hv15) + hv19) + (0 : Int32)) + hv26) + hv30) + hv34) + hv38)), (4, .int (18 : Int32))] rfl ?_
  refine rn_iinc (v := (20 : Int32)) dX10_fold_38 rfl (by decide) (by decide) [(0, .ref o_m), (1, .int p), (2, .int (0 : Int32)), (3, .int (((((((((((0 : Int32) + hv3) + hv7) + hv11) + hv15) + hv19) + (0 : Int32)) + hv26) + hv30) + hv34) + hv38)), (4, .int (20 : Int32))] rfl ?_
  refine rn_goto (tgt := 5) dX10_fold_41 (by decide) ?_
  refine rn_iload dX10_fold_5 rfl ?_
  refine rn_bipush (v := (20 : Int32)) dX10_fold_7 (by decide) ?_
  refine rn_icmp_ge (tgt := 44) dX10_fold_9 (by decide) (fun h40 => ?_) (fun h40 => absurd h40 (by decide))
  refine rn_lv [(3, .int (((((((((((0 : Int32) + hv3) + hv7) + hv11) + hv15) + hv19) + (0 : Int32)) + hv26) + hv30) + hv34) + hv38))] rfl ?_
  exact fold_loop G _ _ _ (Nat.le_refl _)
