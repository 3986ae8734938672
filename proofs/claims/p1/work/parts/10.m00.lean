set_option maxRecDepth 20000 in
set_option maxHeartbeats 4000000 in
theorem c_X4_size (G : rn_G) (ws : va_W) (o_p : Nat) (i_p : Nat) (fs_p : List Value) (sz_p : Int32) (h_p : ws[i_p]? = some (o_p, Sum.inr (4, fs_p))) (hf_p_1 : fs_p[1]? = some (.int sz_p)) : Rn G mX4_size 0 0 0 0 0 (lv_args 0 [.ref o_p]) [] ws (fun r w => (True ∧ r = Sum.inl (some (.int sz_p)) ∧ w = ws)) := by
  refine rn_lv [(0, .ref o_p)] rfl ?_
  refine rn_aload_n (i := 0) dX4_size_0 rfl rfl ?_
  refine rn_get i_p kg_SG_Packet_15 h_p hf_p_1 dX4_size_1 ?_
  exact rn_iret dX4_size_4 rfl rfl ⟨trivial, rfl, rfl⟩
set_option maxRecDepth 20000 in
set_option maxHeartbeats 4000000 in
theorem c_X4_resize (G : rn_G) (ws : va_W) (o_p : Nat) (n : Int32) (i_p : Nat) (fs_p : List Value) (sz_p : Int32) (h_p : ws[i_p]? = some (o_p, Sum.inr (4, fs_p))) (hf_p_1 : fs_p[1]? = some (.int sz_p)) : Rn G mX4_resize 1 21 0 0 0 (lv_args 0 [.ref o_p, .int n]) [] ws (fun r w => (((0 : Int32) ≤ n) ∧ r = Sum.inl none ∧ w = (ws.set i_p (o_p, Sum.inr (4, (fs_p.set 1 (.int (if (2040 : Int32) < n then (2040 : Int32) else n))))))) ∨ ((¬ ((0 : Int32) ≤ n)) ∧ r = Sum.inl none ∧ w = (ws.set i_p (o_p, Sum.inr (4, (fs_p.set 1 (.int (0 : Int32)))))))) := by
  refine rn_lv [(0, .ref o_p), (1, .int n)] rfl ?_
  refine rn_aload_n (i := 0) dX4_resize_0 rfl rfl ?_
  refine rn_iload_n (i := 1) dX4_resize_1 rfl rfl ?_
  refine rn_if_ge (tgt := 9) dX4_resize_2 (by decide) (fun h1 => ?_) (fun h1 => ?_)
  · refine rn_iload_n (i := 1) dX4_resize_9 rfl rfl ?_
    refine rn_sipush (v := (2040 : Int32)) dX4_resize_10 (by decide) ?_
    refine rn_mmin kl_SG_Packet_19 dX4_resize_13 (Nat.le_of_ble_eq_true rfl) (Nat.le_of_ble_eq_true rfl) (Nat.le_of_ble_eq_true rfl) ?_
    refine rn_put i_p (kp_SG_Packet_15 _) h_p (ls_lt hf_p_1) rfl rfl dX4_resize_16 ?_
    exact rn_vret dX4_resize_19 rfl (Or.inl ⟨h1, rfl, rfl⟩)
  · refine rn_iconst (v := (0 : Int32)) dX4_resize_5 (by decide) ?_
    refine rn_goto (tgt := 16) dX4_resize_6 (by decide) ?_
    refine rn_put i_p (kp_SG_Packet_15 _) h_p (ls_lt hf_p_1) rfl rfl dX4_resize_16 ?_
    exact rn_vret dX4_resize_19 rfl (Or.inr ⟨h1, rfl, rfl⟩)
set_option maxRecDepth 20000 in
set_option maxHeartbeats 4000000 in
theorem c_X4_byteAt (G : rn_G) (ws : va_W) (o_p : Nat) (k : Int32) (i_p : Nat) (fs_p : List Value) (r_p : Nat) (sz_p : Int32) (j_p : Nat) (f_p : Nat → Int32) (h_p : ws[i_p]? = some (o_p, Sum.inr (4, fs_p))) (hf_p_0 : fs_p[0]? = some (.ref r_p)) (hf_p_1 : fs_p[1]? = some (.int sz_p)) (h_pr : ws[j_p]? = some (r_p, Sum.inl (rn_k G 0, 2040, Sum.inl f_p))) (hs0 : (0 : Int32) ≤ sz_p) (hsz : sz_p ≤ (2040 : Int32)) : Rn G mX4_byteAt 0 0 0 0 0 (lv_args 0 [.ref o_p, .int k]) [] ws (fun r w => (((k < (0 : Int32)) ∨ (¬ (k < (0 : Int32)) ∧ sz_p ≤ k)) ∧ r = Sum.inl (some (.int (0 : Int32))) ∧ w = ws) ∨ ((¬ (k < (0 : Int32)) ∧ ¬ (sz_p ≤ k)) ∧ r = Sum.inl (some (.int ((f_p (k).toNatClampNeg) &&& (255 : Int32)))) ∧ w = ws)) := by
  refine rn_lv [(0, .ref o_p), (1, .int k)] rfl ?_
  refine rn_iload_n (i := 1) dX4_byteAt_0 rfl rfl ?_
  refine rn_if_lt (tgt := 25) dX4_byteAt_1 (by decide) (fun h1 => ?_) (fun h1 => ?_)
  · refine rn_iconst (v := (0 : Int32)) dX4_byteAt_25 (by decide) ?_
    exact rn_iret dX4_byteAt_26 rfl rfl (Or.inl ⟨(Or.inl h1), rfl, rfl⟩)
  · refine rn_iload_n (i := 1) dX4_byteAt_4 rfl rfl ?_
    refine rn_aload_n (i := 0) dX4_byteAt_5 rfl rfl ?_
    refine rn_get i_p kg_SG_Packet_15 h_p hf_p_1 dX4_byteAt_6 ?_
    refine rn_icmp_ge (tgt := 25) dX4_byteAt_9 (by decide) (fun h2 => ?_) (fun h2 => ?_)
    · refine rn_iconst (v := (0 : Int32)) dX4_byteAt_25 (by decide) ?_
      exact rn_iret dX4_byteAt_26 rfl rfl (Or.inl ⟨(Or.inr ⟨h1, h2⟩), rfl, rfl⟩)
    · refine rn_aload_n (i := 0) dX4_byteAt_12 rfl rfl ?_
      refine rn_get i_p kg_SG_Packet_11 h_p hf_p_0 dX4_byteAt_13 ?_
      refine rn_iload_n (i := 1) dX4_byteAt_16 rfl rfl ?_
      refine rn_bald j_p 0 h_pr rfl (rn_in (by have g0 := i32_rng sz_p; have g1 := i32_rng k; simp only [Int32.lt_iff_toInt_lt, Int32.le_iff_toInt_le, gt_iff_lt, ge_iff_le, ← Int32.toInt_inj, i32_0, i32_2040] at *; omega)) dX4_byteAt_17 ?_
      refine rn_sipush (v := (255 : Int32)) dX4_byteAt_18 (by decide) ?_
      refine rn_iand dX4_byteAt_21 ?_
      refine rn_goto (tgt := 26) dX4_byteAt_22 (by decide) ?_
      exact rn_iret dX4_byteAt_26 rfl rfl (Or.inr ⟨⟨h1, h2⟩, rfl, rfl⟩)
set_option maxRecDepth 20000 in
set_option maxHeartbeats 4000000 in
theorem c_X4_setByte (G : rn_G) (ws : va_W) (o_p : Nat) (k : Int32) (x : Int32) (i_p : Nat) (fs_p : List Value) (r_p : Nat) (sz_p : Int32) (j_p : Nat) (f_p : Nat → Int32) (h_p : ws[i_p]? = some (o_p, Sum.inr (4, fs_p))) (hf_p_0 : fs_p[0]? = some (.ref r_p)) (hf_p_1 : fs_p[1]? = some (.int sz_p)) (h_pr : ws[j_p]? = some (r_p, Sum.inl (rn_k G 0, 2040, Sum.inl f_p))) (hs0 : (0 : Int32) ≤ sz_p) (hsz : sz_p ≤ (2040 : Int32)) : Rn G mX4_setByte 0 0 0 0 0 (lv_args 0 [.ref o_p, .int k, .int x]) [] ws (fun r w => (((k < (0 : Int32)) ∨ (¬ (k < (0 : Int32)) ∧ sz_p ≤ k)) ∧ r = Sum.inl none ∧ w = ws) ∨ ((¬ (k < (0 : Int32)) ∧ ¬ (sz_p ≤ k)) ∧ r = Sum.inl none ∧ w = (ws.set j_p (r_p, Sum.inl (rn_k G 0, 2040, Sum.inl (upd f_p (k).toNatClampNeg (vp_nar .byte (x).toInt8.toInt32))))))) := by
  refine rn_lv [(0, .ref o_p), (1, .int k), (2, .int x)] rfl ?_
  refine rn_iload_n (i := 1) dX4_setByte_0 rfl rfl ?_
  refine rn_if_lt (tgt := 20) dX4_setByte_1 (by decide) (fun h1 => ?_) (fun h1 => ?_)
  · exact rn_vret dX4_setByte_20 rfl (Or.inl ⟨(Or.inl h1), rfl, rfl⟩)
  · refine rn_iload_n (i := 1) dX4_setByte_4 rfl rfl ?_
    refine rn_aload_n (i := 0) dX4_setByte_5 rfl rfl ?_
    refine rn_get i_p kg_SG_Packet_15 h_p hf_p_1 dX4_setByte_6 ?_
    refine rn_icmp_ge (tgt := 20) dX4_setByte_9 (by decide) (fun h2 => ?_) (fun h2 => ?_)
    · exact rn_vret dX4_setByte_20 rfl (Or.inl ⟨(Or.inr ⟨h1, h2⟩), rfl, rfl⟩)
    · refine rn_aload_n (i := 0) dX4_setByte_12 rfl rfl ?_
      refine rn_get i_p kg_SG_Packet_11 h_p hf_p_0 dX4_setByte_13 ?_
      refine rn_iload_n (i := 1) dX4_setByte_16 rfl rfl ?_
      refine rn_iload_n (i := 2) dX4_setByte_17 rfl rfl ?_
      refine rn_i2b dX4_setByte_18 rfl ?_
      refine rn_bast j_p 0 h_pr rfl (rn_in (by have g0 := i32_rng sz_p; have g1 := i32_rng k; simp only [Int32.lt_iff_toInt_lt, Int32.le_iff_toInt_le, gt_iff_lt, ge_iff_le, ← Int32.toInt_inj, i32_0, i32_2040] at *; omega)) dX4_setByte_19 ?_
      exact rn_vret dX4_setByte_20 rfl (Or.inr ⟨⟨h1, h2⟩, rfl, rfl⟩)
set_option maxRecDepth 20000 in
set_option maxHeartbeats 4000000 in
theorem c_X4_pairAt (G : rn_G) (ws : va_W) (o_p : Nat) (k : Int32) (i_p : Nat) (fs_p : List Value) (r_p : Nat) (sz_p : Int32) (j_p : Nat) (f_p : Nat → Int32) (h_p : ws[i_p]? = some (o_p, Sum.inr (4, fs_p))) (hf_p_0 : fs_p[0]? = some (.ref r_p)) (hf_p_1 : fs_p[1]? = some (.int sz_p)) (h_pr : ws[j_p]? = some (r_p, Sum.inl (rn_k G 0, 2040, Sum.inl f_p))) (hs0 : (0 : Int32) ≤ sz_p) (hsz : sz_p ≤ (2040 : Int32)) : Rn G mX4_pairAt 0 0 0 0 0 (lv_args 0 [.ref o_p, .int k]) [] ws (fun r w => (((k < (0 : Int32)) ∨ (¬ (k < (0 : Int32)) ∧ (sz_p - (1 : Int32)) ≤ k)) ∧ r = Sum.inl (some (.int (0 : Int32))) ∧ w = ws) ∨ ((¬ (k < (0 : Int32)) ∧ ¬ ((sz_p - (1 : Int32)) ≤ k)) ∧ r = Sum.inl (some (.int ((((f_p (k).toNatClampNeg) &&& (255 : Int32)) <<< ((8 : Int32) &&& 31)) ||| ((f_p ((k + (1 : Int32))).toNatClampNeg) &&& (255 : Int32))))) ∧ w = ws)) := by
  refine rn_lv [(0, .ref o_p), (1, .int k)] rfl ?_
  refine rn_iload_n (i := 1) dX4_pairAt_0 rfl rfl ?_
  refine rn_if_lt (tgt := 43) dX4_pairAt_1 (by decide) (fun h1 => ?_) (fun h1 => ?_)
  · refine rn_iconst (v := (0 : Int32)) dX4_pairAt_43 (by decide) ?_
    exact rn_iret dX4_pairAt_44 rfl rfl (Or.inl ⟨(Or.inl h1), rfl, rfl⟩)
  · refine rn_iload_n (i := 1) dX4_pairAt_4 rfl rfl ?_
    refine rn_aload_n (i := 0) dX4_pairAt_5 rfl rfl ?_
    refine rn_get i_p kg_SG_Packet_15 h_p hf_p_1 dX4_pairAt_6 ?_
    refine rn_iconst (v := (1 : Int32)) dX4_pairAt_9 (by decide) ?_
    refine rn_isub dX4_pairAt_10 ?_
    refine rn_icmp_ge (tgt := 43) dX4_pairAt_11 (by decide) (fun h2 => ?_) (fun h2 => ?_)
    · refine rn_iconst (v := (0 : Int32)) dX4_pairAt_43 (by decide) ?_
      exact rn_iret dX4_pairAt_44 rfl rfl (Or.inl ⟨(Or.inr ⟨h1, h2⟩), rfl, rfl⟩)
    · refine rn_aload_n (i := 0) dX4_pairAt_14 rfl rfl ?_
      refine rn_get i_p kg_SG_Packet_11 h_p hf_p_0 dX4_pairAt_15 ?_
      refine rn_iload_n (i := 1) dX4_pairAt_18 rfl rfl ?_
      refine rn_bald j_p 0 h_pr rfl (rn_in (by obtain ⟨k0, e0⟩ := i32_sub sz_p (1 : Int32); have g0 := i32_rng sz_p; have g1 := i32_rng k; simp only [Int32.lt_iff_toInt_lt, Int32.le_iff_toInt_le, gt_iff_lt, ge_iff_le, ← Int32.toInt_inj, i32_0, i32_1, i32_2040] at *; omega)) dX4_pairAt_19 ?_
      refine rn_sipush (v := (255 : Int32)) dX4_pairAt_20 (by decide) ?_
      refine rn_iand dX4_pairAt_23 ?_
      refine rn_bipush (v := (8 : Int32)) dX4_pairAt_24 (by decide) ?_
      refine rn_ishl dX4_pairAt_26 ?_
      refine rn_aload_n (i := 0) dX4_pairAt_27 rfl rfl ?_
      refine rn_get i_p kg_SG_Packet_11 h_p hf_p_0 dX4_pairAt_28 ?_
      refine rn_iload_n (i := 1) dX4_pairAt_31 rfl rfl ?_
      refine rn_iconst (v := (1 : Int32)) dX4_pairAt_32 (by decide) ?_
      refine rn_iadd dX4_pairAt_33 ?_
      refine rn_bald j_p 0 h_pr rfl (rn_in (by obtain ⟨k0, e0⟩ := i32_sub sz_p (1 : Int32); obtain ⟨k1, e1⟩ := i32_add k (1 : Int32); have g0 := i32_rng sz_p; have g1 := i32_rng k; simp only [Int32.lt_iff_toInt_lt, Int32.le_iff_toInt_le, gt_iff_lt, ge_iff_le, ← Int32.toInt_inj, i32_0, i32_1, i32_2040] at *; omega)) dX4_pairAt_34 ?_
      refine rn_sipush (v := (255 : Int32)) dX4_pairAt_35 (by decide) ?_
      refine rn_iand dX4_pairAt_38 ?_
      refine rn_ior dX4_pairAt_39 ?_
      refine rn_goto (tgt := 44) dX4_pairAt_40 (by decide) ?_
      exact rn_iret dX4_pairAt_44 rfl rfl (Or.inr ⟨⟨h1, h2⟩, rfl, rfl⟩)
set_option maxRecDepth 20000 in
set_option maxHeartbeats 4000000 in
theorem c_X4_setPair (G : rn_G) (ws : va_W) (o_p : Nat) (k : Int32) (x : Int32) (i_p : Nat) (fs_p : List Value) (r_p : Nat) (sz_p : Int32) (j_p : Nat) (f_p : Nat → Int32) (h_p : ws[i_p]? = some (o_p, Sum.inr (4, fs_p))) (hf_p_0 : fs_p[0]? = some (.ref r_p)) (hf_p_1 : fs_p[1]? = some (.int sz_p)) (h_pr : ws[j_p]? = some (r_p, Sum.inl (rn_k G 0, 2040, Sum.inl f_p))) (hne_j_p_i_p : j_p ≠ i_p) (hs0 : (0 : Int32) ≤ sz_p) (hsz : sz_p ≤ (2040 : Int32)) : Rn G mX4_setPair 0 0 0 0 0 (lv_args 0 [.ref o_p, .int k, .int x]) [] ws (fun r w => (((k < (0 : Int32)) ∨ (¬ (k < (0 : Int32)) ∧ (sz_p - (1 : Int32)) ≤ k)) ∧ r = Sum.inl none ∧ w = ws) ∨ ((¬ (k < (0 : Int32)) ∧ ¬ ((sz_p - (1 : Int32)) ≤ k)) ∧ r = Sum.inl none ∧ w = ((ws.set j_p (r_p, Sum.inl (rn_k G 0, 2040, Sum.inl (upd f_p (k).toNatClampNeg (vp_nar .byte (((x).toUInt32 >>> (((8 : Int32)).toUInt32 &&& Int32.toUInt32 31)).toInt32).toInt8.toInt32))))).set j_p (r_p, Sum.inl (rn_k G 0, 2040, Sum.inl (upd (upd f_p (k).toNatClampNeg (vp_nar .byte (((x).toUInt32 >>> (((8 : Int32)).toUInt32 &&& Int32.toUInt32 31)).toInt32).toInt8.toInt32)) ((k + (1 : Int32))).toNatClampNeg (vp_nar .byte (x).toInt8.toInt32))))))) := by
  refine rn_lv [(0, .ref o_p), (1, .int k), (2, .int x)] rfl ?_
  refine rn_iload_n (i := 1) dX4_setPair_0 rfl rfl ?_
  refine rn_if_lt (tgt := 35) dX4_setPair_1 (by decide) (fun h1 => ?_) (fun h1 => ?_)
  · exact rn_vret dX4_setPair_35 rfl (Or.inl ⟨(Or.inl h1), rfl, rfl⟩)
  · refine rn_iload_n (i := 1) dX4_setPair_4 rfl rfl ?_
    refine rn_aload_n (i := 0) dX4_setPair_5 rfl rfl ?_
    refine rn_get i_p kg_SG_Packet_15 h_p hf_p_1 dX4_setPair_6 ?_
    refine rn_iconst (v := (1 : Int32)) dX4_setPair_9 (by decide) ?_
    refine rn_isub dX4_setPair_10 ?_
    refine rn_icmp_ge (tgt := 35) dX4_setPair_11 (by decide) (fun h2 => ?_) (fun h2 => ?_)
    · exact rn_vret dX4_setPair_35 rfl (Or.inl ⟨(Or.inr ⟨h1, h2⟩), rfl, rfl⟩)
    · refine rn_aload_n (i := 0) dX4_setPair_14 rfl rfl ?_
      refine rn_get i_p kg_SG_Packet_11 h_p hf_p_0 dX4_setPair_15 ?_
      refine rn_iload_n (i := 1) dX4_setPair_18 rfl rfl ?_
      refine rn_iload_n (i := 2) dX4_setPair_19 rfl rfl ?_
      refine rn_bipush (v := (8 : Int32)) dX4_setPair_20 (by decide) ?_
      refine rn_iushr dX4_setPair_22 rfl ?_
      refine rn_i2b dX4_setPair_23 rfl ?_
      refine rn_bast j_p 0 h_pr rfl (rn_in (by obtain ⟨k0, e0⟩ := i32_sub sz_p (1 : Int32); have g0 := i32_rng sz_p; have g1 := i32_rng k; simp only [Int32.lt_iff_toInt_lt, Int32.le_iff_toInt_le, gt_iff_lt, ge_iff_le, ← Int32.toInt_inj, i32_0, i32_1, i32_2040] at *; omega)) dX4_setPair_24 ?_
      refine rn_aload_n (i := 0) dX4_setPair_25 rfl rfl ?_
      refine rn_get i_p kg_SG_Packet_11 (ls_ne hne_j_p_i_p h_p) hf_p_0 dX4_setPair_26 ?_
      refine rn_iload_n (i := 1) dX4_setPair_29 rfl rfl ?_
      refine rn_iconst (v := (1 : Int32)) dX4_setPair_30 (by decide) ?_
      refine rn_iadd dX4_setPair_31 ?_
      refine rn_iload_n (i := 2) dX4_setPair_32 rfl rfl ?_
      refine rn_i2b dX4_setPair_33 rfl ?_
      refine rn_bast j_p 0 (ls_eq h_pr) rfl (rn_in (by obtain ⟨k0, e0⟩ := i32_sub sz_p (1 : Int32); obtain ⟨k1, e1⟩ := i32_add k (1 : Int32); have g0 := i32_rng sz_p; have g1 := i32_rng k; simp only [Int32.lt_iff_toInt_lt, Int32.le_iff_toInt_le, gt_iff_lt, ge_iff_le, ← Int32.toInt_inj, i32_0, i32_1, i32_2040] at *; omega)) dX4_setPair_34 ?_
      exact rn_vret dX4_setPair_35 rfl (Or.inr ⟨⟨h1, h2⟩, rfl, rfl⟩)
set_option maxRecDepth 20000 in
set_option maxHeartbeats 4000000 in
theorem c_X4_setWord (G : rn_G) (ws : va_W) (o_p : Nat) (k : Int32) (x : Int32) (i_p : Nat) (fs_p : List Value) (r_p : Nat) (sz_p : Int32) (j_p : Nat) (f_p : Nat → Int32) (h_p : ws[i_p]? = some (o_p, Sum.inr (4, fs_p))) (hf_p_0 : fs_p[0]? = some (.ref r_p)) (hf_p_1 : fs_p[1]? = some (.int sz_p)) (h_pr : ws[j_p]? = some (r_p, Sum.inl (rn_k G 0, 2040, Sum.inl f_p))) (hne_j_p_i_p : j_p ≠ i_p) (hs0 : (0 : Int32) ≤ sz_p) (hsz : sz_p ≤ (2040 : Int32)) : Rn G mX4_setWord 1 22 0 0 0 (lv_args 0 [.ref o_p, .int k, .int x]) [] ws (fun r w => ((((k < (0 : Int32)) ∨ (¬ (k < (0 : Int32)) ∧ (sz_p - (1 : Int32)) ≤ k)) ∧ (((k + (2 : Int32)) < (0 : Int32)) ∨ (¬ ((k + (2 : Int32)) < (0 : Int32)) ∧ (sz_p - (1 : Int32)) ≤ (k + (2 : Int32))))) ∧ r = Sum.inl none ∧ w = ws) ∨ ((((k < (0 : Int32)) ∨ (¬ (k < (0 : Int32)) ∧ (sz_p - (1 : Int32)) ≤ k)) ∧ (¬ ((k + (2 : Int32)) < (0 : Int32)) ∧ ¬ ((sz_p - (1 : Int32)) ≤ (k + (2 : Int32))))) ∧ r = Sum.inl none ∧ w = ((ws.set j_p (r_p, Sum.inl (rn_k G 0, 2040, Sum.inl (upd f_p ((k + (2 : Int32))).toNatClampNeg (vp_nar .byte (((x).toUInt32 >>> (((8 : Int32)).toUInt32 &&& Int32.toUInt32 31)).toInt32).toInt8.toInt32))))).set j_p (r_p, Sum.inl (rn_k G 0, 2040, Sum.inl (upd (upd f_p ((k + (2 : Int32))).toNatClampNeg (vp_nar .byte (((x).toUInt32 >>> (((8 : Int32)).toUInt32 &&& Int32.toUInt32 31)).toInt32).toInt8.toInt32)) (((k + (2 : Int32)) + (1 : Int32))).toNatClampNeg (vp_nar .byte (x).toInt8.toInt32)))))) ∨ (((¬ (k < (0 : Int32)) ∧ ¬ ((sz_p - (1 : Int32)) ≤ k)) ∧ (((k + (2 : Int32)) < (0 : Int32)) ∨ (¬ ((k + (2 : Int32)) < (0 : Int32)) ∧ (sz_p - (1 : Int32)) ≤ (k + (2 : Int32))))) ∧ r = Sum.inl none ∧ w = ((ws.set j_p (r_p, Sum.inl (rn_k G 0, 2040, Sum.inl (upd f_p (k).toNatClampNeg (vp_nar .byte (((((x).toUInt32 >>> (((16 : Int32)).toUInt32 &&& Int32.toUInt32 31)).toInt32).toUInt32 >>> (((8 : Int32)).toUInt32 &&& Int32.toUInt32 31)).toInt32).toInt8.toInt32))))).set j_p (r_p, Sum.inl (rn_k G 0, 2040, Sum.inl (upd (upd f_p (k).toNatClampNeg (vp_nar .byte (((((x).toUInt32 >>> (((16 : Int32)).toUInt32 &&& Int32.toUInt32 31)).toInt32).toUInt32 >>> (((8 : Int32)).toUInt32 &&& Int32.toUInt32 31)).toInt32).toInt8.toInt32)) ((k + (1 : Int32))).toNatClampNeg (vp_nar .byte (((x).toUInt32 >>> (((16 : Int32)).toUInt32 &&& Int32.toUInt32 31)).toInt32).toInt8.toInt32)))))) ∨ (((¬ (k < (0 : Int32)) ∧ ¬ ((sz_p - (1 : Int32)) ≤ k)) ∧ (¬ ((k + (2 : Int32)) < (0 : Int32)) ∧ ¬ ((sz_p - (1 : Int32)) ≤ (k + (2 : Int32))))) ∧ r = Sum.inl none ∧ w = ((((ws.set j_p (r_p, Sum.inl (rn_k G 0, 2040, Sum.inl (upd f_p (k).toNatClampNeg (vp_nar .byte (((((x).toUInt32 >>> (((16 : Int32)).toUInt32 &&& Int32.toUInt32 31)).toInt32).toUInt32 >>> (((8 : Int32)).toUInt32 &&& Int32.toUInt32 31)).toInt32).toInt8.toInt32))))).set j_p (r_p, Sum.inl (rn_k G 0, 2040, Sum.inl (upd (upd f_p (k).toNatClampNeg (vp_nar .byte (((((x).toUInt32 >>> (((16 : Int32)).toUInt32 &&& Int32.toUInt32 31)).toInt32).toUInt32 >>> (((8 : Int32)).toUInt32 &&& Int32.toUInt32 31)).toInt32).toInt8.toInt32)) ((k + (1 : Int32))).toNatClampNeg (vp_nar .byte (((x).toUInt32 >>> (((16 : Int32)).toUInt32 &&& Int32.toUInt32 31)).toInt32).toInt8.toInt32))))).set j_p (r_p, Sum.inl (rn_k G 0, 2040, Sum.inl (upd (upd (upd f_p (k).toNatClampNeg (vp_nar .byte (((((x).toUInt32 >>> (((16 : Int32)).toUInt32 &&& Int32.toUInt32 31)).toInt32).toUInt32 >>> (((8 : Int32)).toUInt32 &&& Int32.toUInt32 31)).toInt32).toInt8.toInt32)) ((k + (1 : Int32))).toNatClampNeg (vp_nar .byte (((x).toUInt32 >>> (((16 : Int32)).toUInt32 &&& Int32.toUInt32 31)).toInt32).toInt8.toInt32)) ((k + (2 : Int32))).toNatClampNeg (vp_nar .byte (((x).toUInt32 >>> (((8 : Int32)).toUInt32 &&& Int32.toUInt32 31)).toInt32).toInt8.toInt32))))).set j_p (r_p, Sum.inl (rn_k G 0, 2040, Sum.inl (upd (upd (upd (upd f_p (k).toNatClampNeg (vp_nar .byte (((((x).toUInt32 >>> (((16 : Int32)).toUInt32 &&& Int32.toUInt32 31)).toInt32).toUInt32 >>> (((8 : Int32)).toUInt32 &&& Int32.toUInt32 31)).toInt32).toInt8.toInt32)) ((k + (1 : Int32))).toNatClampNeg (vp_nar .byte (((x).toUInt32 >>> (((16 : Int32)).toUInt32 &&& Int32.toUInt32 31)).toInt32).toInt8.toInt32)) ((k + (2 : Int32))).toNatClampNeg (vp_nar .byte (((x).toUInt32 >>> (((8 : Int32)).toUInt32 &&& Int32.toUInt32 31)).toInt32).toInt8.toInt32)) (((k + (2 : Int32)) + (1 : Int32))).toNatClampNeg (vp_nar .byte (x).toInt8.toInt32))))))) := by
  refine rn_lv [(0, .ref o_p), (1, .int k), (2, .int x)] rfl ?_
  refine rn_aload_n (i := 0) dX4_setWord_0 rfl rfl ?_
  refine rn_iload_n (i := 1) dX4_setWord_1 rfl rfl ?_
  refine rn_iload_n (i := 2) dX4_setWord_2 rfl rfl ?_
  refine rn_bipush (v := (16 : Int32)) dX4_setWord_3 (by decide) ?_
  refine rn_iushr dX4_setWord_5 rfl ?_
  refine rn_callV (a := 0) (b := 0) [.int k, .int ((x).toUInt32 >>> (((16 : Int32)).toUInt32 &&& Int32.toUInt32 31)).toInt32] kl_SG_Packet_31 dX4_setWord_6 i_p h_p rfl (c_X4_setPair G _ (o_p := o_p) (k := k) (x := ((x).toUInt32 >>> (((16 : Int32)).toUInt32 &&& Int32.toUInt32 31)).toInt32) (i_p := i_p) (fs_p := fs_p) (r_p := r_p) (sz_p := sz_p) (j_p := j_p) (f_p := f_p) h_p hf_p_0 hf_p_1 h_pr hne_j_p_i_p (by have g0 := i32_rng sz_p; simp only [Int32.lt_iff_toInt_lt, Int32.le_iff_toInt_le, gt_iff_lt, ge_iff_le, ← Int32.toInt_inj, i32_0, i32_2040] at *; omega) (by have g0 := i32_rng sz_p; simp only [Int32.lt_iff_toInt_lt, Int32.le_iff_toInt_le, gt_iff_lt, ge_iff_le, ← Int32.toInt_inj, i32_0, i32_2040] at *; omega)) rfl rfl (Nat.le_of_ble_eq_true rfl) (Nat.le_of_ble_eq_true rfl) (Nat.le_of_ble_eq_true rfl) (Nat.le_of_ble_eq_true rfl) (Nat.le_of_ble_eq_true rfl) (Nat.le_of_ble_eq_true rfl) (by rintro E w h; rcases h with ⟨_, hr, _⟩ | ⟨_, hr, _⟩ <;> cases hr) ?_
  rintro v w h
  rcases h with ⟨hc, hr, hw⟩ | ⟨hc, hr, hw⟩
  · have hc1 := hc; clear hc; cases hr; subst hw
    refine rn_stk [] rfl ?_
    refine rn_aload_n (i := 0) dX4_setWord_9 rfl rfl ?_
    refine rn_iload_n (i := 1) dX4_setWord_10 rfl rfl ?_
    refine rn_iconst (v := (2 : Int32)) dX4_setWord_11 (by decide) ?_
    refine rn_iadd dX4_setWord_12 ?_
    refine rn_iload_n (i := 2) dX4_setWord_13 rfl rfl ?_
    refine rn_callV (a := 0) (b := 0) [.int (k + (2 : Int32)), .int x] kl_SG_Packet_31 dX4_setWord_14 i_p h_p rfl (c_X4_setPair G _ (o_p := o_p) (k := (k + (2 : Int32))) (x := x) (i_p := i_p) (fs_p := fs_p) (r_p := r_p) (sz_p := sz_p) (j_p := j_p) (f_p := f_p) h_p hf_p_0 hf_p_1 h_pr hne_j_p_i_p (by obtain ⟨k0, e0⟩ := i32_sub sz_p (1 : Int32); have g0 := i32_rng sz_p; have g1 := i32_rng k; simp only [Int32.lt_iff_toInt_lt, Int32.le_iff_toInt_le, gt_iff_lt, ge_iff_le, ← Int32.toInt_inj, i32_0, i32_1, i32_2040] at *; omega) (by obtain ⟨k0, e0⟩ := i32_sub sz_p (1 : Int32); have g0 := i32_rng sz_p; have g1 := i32_rng k; simp only [Int32.lt_iff_toInt_lt, Int32.le_iff_toInt_le, gt_iff_lt, ge_iff_le, ← Int32.toInt_inj, i32_0, i32_1, i32_2040] at *; omega)) rfl rfl (Nat.le_of_ble_eq_true rfl) (Nat.le_of_ble_eq_true rfl) (Nat.le_of_ble_eq_true rfl) (Nat.le_of_ble_eq_true rfl) (Nat.le_of_ble_eq_true rfl) (Nat.le_of_ble_eq_true rfl) (by rintro E w h; rcases h with ⟨_, hr, _⟩ | ⟨_, hr, _⟩ <;> cases hr) ?_
    rintro v w h
    rcases h with ⟨hc, hr, hw⟩ | ⟨hc, hr, hw⟩
    · have hc2 := hc; clear hc; cases hr; subst hw
      refine rn_stk [] rfl ?_
      exact rn_vret dX4_setWord_17 rfl (Or.inl ⟨⟨hc1, hc2⟩, rfl, rfl⟩)
    · have hc3 := hc; clear hc; cases hr; subst hw
      refine rn_stk [] rfl ?_
      exact rn_vret dX4_setWord_17 rfl (Or.inr (Or.inl ⟨⟨hc1, hc3⟩, rfl, rfl⟩))
  · have hc4 := hc; clear hc; cases hr; subst hw
    refine rn_stk [] rfl ?_
    refine rn_aload_n (i := 0) dX4_setWord_9 rfl rfl ?_
    refine rn_iload_n (i := 1) dX4_setWord_10 rfl rfl ?_
    refine rn_iconst (v := (2 : Int32)) dX4_setWord_11 (by decide) ?_
    refine rn_iadd dX4_setWord_12 ?_
    refine rn_iload_n (i := 2) dX4_setWord_13 rfl rfl ?_
    refine rn_callV (a := 0) (b := 0) [.int (k + (2 : Int32)), .int x] kl_SG_Packet_31 dX4_setWord_14 i_p (ls_ne hne_j_p_i_p (ls_ne hne_j_p_i_p h_p)) rfl (c_X4_setPair G _ (o_p := o_p) (k := (k + (2 : Int32))) (x := x) (i_p := i_p) (fs_p := fs_p) (r_p := r_p) (sz_p := sz_p) (j_p := j_p) (f_p := (upd (upd f_p (k).toNatClampNeg (vp_nar .byte (((((x).toUInt32 >>> (((16 : Int32)).toUInt32 &&& Int32.toUInt32 31)).toInt32).toUInt32 >>> (((8 : Int32)).toUInt32 &&& Int32.toUInt32 31)).toInt32).toInt8.toInt32)) ((k + (1 : Int32))).toNatClampNeg (vp_nar .byte (((x).toUInt32 >>> (((16 : Int32)).toUInt32 &&& Int32.toUInt32 31)).toInt32).toInt8.toInt32))) (ls_ne hne_j_p_i_p (ls_ne hne_j_p_i_p h_p)) hf_p_0 hf_p_1 (ls_eq (ls_eq h_pr)) hne_j_p_i_p (by obtain ⟨k0, e0⟩ := i32_sub sz_p (1 : Int32); have g0 := i32_rng sz_p; have g1 := i32_rng k; simp only [Int32.lt_iff_toInt_lt, Int32.le_iff_toInt_le, gt_iff_lt, ge_iff_le, ← Int32.toInt_inj, i32_0, i32_1, i32_2040] at *; omega) (by obtain ⟨k0, e0⟩ := i32_sub sz_p (1 : Int32); have g0 := i32_rng sz_p; have g1 := i32_rng k; simp only [Int32.lt_iff_toInt_lt, Int32.le_iff_toInt_le, gt_iff_lt, ge_iff_le, ← Int32.toInt_inj, i32_0, i32_1, i32_2040] at *; omega)) rfl rfl (Nat.le_of_ble_eq_true rfl) (Nat.le_of_ble_eq_true rfl) (Nat.le_of_ble_eq_true rfl) (Nat.le_of_ble_eq_true rfl) (Nat.le_of_ble_eq_true rfl) (Nat.le_of_ble_eq_true rfl) (by rintro E w h; rcases h with ⟨_, hr, _⟩ | ⟨_, hr, _⟩ <;> cases hr) ?_
    rintro v w h
    rcases h with ⟨hc, hr, hw⟩ | ⟨hc, hr, hw⟩
    · have hc5 := hc; clear hc; cases hr; subst hw
      refine rn_stk [] rfl ?_
      exact rn_vret dX4_setWord_17 rfl (Or.inr (Or.inr (Or.inl ⟨⟨hc4, hc5⟩, rfl, rfl⟩)))
    · have hc6 := hc; clear hc; cases hr; subst hw
      refine rn_stk [] rfl ?_
      exact rn_vret dX4_setWord_17 rfl (Or.inr (Or.inr (Or.inr ⟨⟨hc4, hc6⟩, rfl, rfl⟩)))
set_option maxRecDepth 20000 in
set_option maxHeartbeats 4000000 in
theorem c_X4_setLong (G : rn_G) (ws : va_W) (o_p : Nat) (k : Int32) (y : Int64) (i_p : Nat) (fs_p : List Value) (r_p : Nat) (sz_p : Int32) (j_p : Nat) (f_p : Nat → Int32) (h_p : ws[i_p]? = some (o_p, Sum.inr (4, fs_p))) (hf_p_0 : fs_p[0]? = some (.ref r_p)) (hf_p_1 : fs_p[1]? = some (.int sz_p)) (h_pr : ws[j_p]? = some (r_p, Sum.inl (rn_k G 0, 2040, Sum.inl f_p))) (hne_j_p_i_p : j_p ≠ i_p) (hs8 : (8 : Int32) ≤ sz_p) (hsz : sz_p ≤ (2040 : Int32)) (hk0 : (0 : Int32) ≤ k) (hk : (k + (8 : Int32)) ≤ sz_p) (hk9 : k ≤ (2040 : Int32)) : Rn G mX4_setLong 2 44 0 0 0 (lv_args 0 [.ref o_p, .int k, .long y]) [] ws (fun r w => ((((¬ (k < (0 : Int32)) ∧ ¬ ((sz_p - (1 : Int32)) ≤ k)) ∧ (¬ ((k + (2 : Int32)) < (0 : Int32)) ∧ ¬ ((sz_p - (1 : Int32)) ≤ (k + (2 : Int32))))) ∧ ((¬ ((k + (4 : Int32)) < (0 : Int32)) ∧ ¬ ((sz_p - (1 : Int32)) ≤ (k + (4 : Int32)))) ∧ (¬ (((k + (4 : Int32)) + (2 : Int32)) < (0 : Int32)) ∧ ¬ ((sz_p - (1 : Int32)) ≤ ((k + (4 : Int32)) + (2 : Int32)))))) ∧ r = Sum.inl none ∧ w = ((((((((ws.set j_p (r_p, Sum.inl (rn_k G 0, 2040, Sum.inl (upd f_p (k).toNatClampNeg (vp_nar .byte ((((((((y).toUInt64 >>> (((32 : Int32)).toInt64.toUInt64 &&& Int64.toUInt64 63)).toInt64).toInt32).toUInt32 >>> (((16 : Int32)).toUInt32 &&& Int32.toUInt32 31)).toInt32).toUInt32 >>> (((8 : Int32)).toUInt32 &&& Int32.toUInt32 31)).toInt32).toInt8.toInt32))))).set j_p (r_p, Sum.inl (rn_k G 0, 2040, Sum.inl (upd (upd f_p (k).toNatClampNeg (vp_nar .byte ((((((((y).toUInt64 >>> (((32 : Int32)).toInt64.toUInt64 &&& Int64.toUInt64 63)).toInt64).toInt32).toUInt32 >>> (((16 : Int32)).toUInt32 &&& Int32.toUInt32 31)).toInt32).toUInt32 >>> (((8 : Int32)).toUInt32 &&& Int32.toUInt32 31)).toInt32).toInt8.toInt32)) ((k + (1 : Int32))).toNatClampNeg (vp_nar .byte ((((((y).toUInt64 >>> (((32 : Int32)).toInt64.toUInt64 &&& Int64.toUInt64 63)).toInt64).toInt32).toUInt32 >>> (((16 : Int32)).toUInt32 &&& Int32.toUInt32 31)).toInt32).toInt8.toInt32))))).set j_p (r_p, Sum.inl (rn_k G 0, 2040, Sum.inl (upd (upd (upd f_p (k).toNatClampNeg (vp_nar .byte ((((((((y).toUInt64 >>> (((32 : Int32)).toInt64.toUInt64 &&& Int64.toUInt64 63)).toInt64).toInt32).toUInt32 >>> (((16 : Int32)).toUInt32 &&& Int32.toUInt32 31)).toInt32).toUInt32 >>> (((8 : Int32)).toUInt32 &&& Int32.toUInt32 31)).toInt32).toInt8.toInt32)) ((k + (1 : Int32))).toNatClampNeg (vp_nar .byte ((((((y).toUInt64 >>> (((32 : Int32)).toInt64.toUInt64 &&& Int64.toUInt64 63)).toInt64).toInt32).toUInt32 >>> (((16 : Int32)).toUInt32 &&& Int32.toUInt32 31)).toInt32).toInt8.toInt32)) ((k + (2 : Int32))).toNatClampNeg (vp_nar .byte ((((((y).toUInt64 >>> (((32 : Int32)).toInt64.toUInt64 &&& Int64.toUInt64 63)).toInt64).toInt32).toUInt32 >>> (((8 : Int32)).toUInt32 &&& Int32.toUInt32 31)).toInt32).toInt8.toInt32))))).set j_p (r_p, Sum.inl (rn_k G 0, 2040, Sum.inl (upd (upd (upd (upd f_p (k).toNatClampNeg (vp_nar .byte ((((((((y).toUInt64 >>> (((32 : Int32)).toInt64.toUInt64 &&& Int64.toUInt64 63)).toInt64).toInt32).toUInt32 >>> (((16 : Int32)).toUInt32 &&& Int32.toUInt32 31)).toInt32).toUInt32 >>> (((8 : Int32)).toUInt32 &&& Int32.toUInt32 31)).toInt32).toInt8.toInt32)) ((k + (1 : Int32))).toNatClampNeg (vp_nar .byte ((((((y).toUInt64 >>> (((32 : Int32)).toInt64.toUInt64 &&& Int64.toUInt64 63)).toInt64).toInt32).toUInt32 >>> (((16 : Int32)).toUInt32 &&& Int32.toUInt32 31)).toInt32).toInt8.toInt32)) ((k + (2 : Int32))).toNatClampNeg (vp_nar .byte ((((((y).toUInt64 >>> (((32 : Int32)).toInt64.toUInt64 &&& Int64.toUInt64 63)).toInt64).toInt32).toUInt32 >>> (((8 : Int32)).toUInt32 &&& Int32.toUInt32 31)).toInt32).toInt8.toInt32)) (((k + (2 : Int32)) + (1 : Int32))).toNatClampNeg (vp_nar .byte ((((y).toUInt64 >>> (((32 : Int32)).toInt64.toUInt64 &&& Int64.toUInt64 63)).toInt64).toInt32).toInt8.toInt32))))).set j_p (r_p, Sum.inl (rn_k G 0, 2040, Sum.inl (upd (upd (upd (upd (upd f_p (k).toNatClampNeg (vp_nar .byte ((((((((y).toUInt64 >>> (((32 : Int32)).toInt64.toUInt64 &&& Int64.toUInt64 63)).toInt64).toInt32).toUInt32 >>> (((16 : Int32)).toUInt32 &&& Int32.toUInt32 31)).toInt32).toUInt32 >>> (((8 : Int32)).toUInt32 &&& Int32.toUInt32 31)).toInt32).toInt8.toInt32)) ((k + (1 : Int32))).toNatClampNeg (vp_nar .byte ((((((y).toUInt64 >>> (((32 : Int32)).toInt64.toUInt64 &&& Int64.toUInt64 63)).toInt64).toInt32).toUInt32 >>> (((16 : Int32)).toUInt32 &&& Int32.toUInt32 31)).toInt32).toInt8.toInt32)) ((k + (2 : Int32))).toNatClampNeg (vp_nar .byte ((((((y).toUInt64 >>> (((32 : Int32)).toInt64.toUInt64 &&& Int64.toUInt64 63)).toInt64).toInt32).toUInt32 >>> (((8 : Int32)).toUInt32 &&& Int32.toUInt32 31)).toInt32).toInt8.toInt32)) (((k + (2 : Int32)) + (1 : Int32))).toNatClampNeg (vp_nar .byte ((((y).toUInt64 >>> (((32 : Int32)).toInt64.toUInt64 &&& Int64.toUInt64 63)).toInt64).toInt32).toInt8.toInt32)) ((k + (4 : Int32))).toNatClampNeg (vp_nar .byte ((((((y).toInt32).toUInt32 >>> (((16 : Int32)).toUInt32 &&& Int32.toUInt32 31)).toInt32).toUInt32 >>> (((8 : Int32)).toUInt32 &&& Int32.toUInt32 31)).toInt32).toInt8.toInt32))))).set j_p (r_p, Sum.inl (rn_k G 0, 2040, Sum.inl (upd (upd (upd (upd (upd (upd f_p (k).toNatClampNeg (vp_nar .byte ((((((((y).toUInt64 >>> (((32 : Int32)).toInt64.toUInt64 &&& Int64.toUInt64 63)).toInt64).toInt32).toUInt32 >>> (((16 : Int32)).toUInt32 &&& Int32.toUInt32 31)).toInt32).toUInt32 >>> (((8 : Int32)).toUInt32 &&& Int32.toUInt32 31)).toInt32).toInt8.toInt32)) ((k + (1 : Int32))).toNatClampNeg (vp_nar .byte ((((((y).toUInt64 >>> (((32 : Int32)).toInt64.toUInt64 &&& Int64.toUInt64 63)).toInt64).toInt32).toUInt32 >>> (((16 : Int32)).toUInt32 &&& Int32.toUInt32 31)).toInt32).toInt8.toInt32)) ((k + (2 : Int32))).toNatClampNeg (vp_nar .byte ((((((y).toUInt64 >>> (((32 : Int32)).toInt64.toUInt64 &&& Int64.toUInt64 63)).toInt64).toInt32).toUInt32 >>> (((8 : Int32)).toUInt32 &&& Int32.toUInt32 31)).toInt32).toInt8.toInt32)) (((k + (2 : Int32)) + (1 : Int32))).toNatClampNeg (vp_nar .byte ((((y).toUInt64 >>> (((32 : Int32)).toInt64.toUInt64 &&& Int64.toUInt64 63)).toInt64).toInt32).toInt8.toInt32)) ((k + (4 : Int32))).toNatClampNeg (vp_nar .byte ((((((y).toInt32).toUInt32 >>> (((16 : Int32)).toUInt32 &&& Int32.toUInt32 31)).toInt32).toUInt32 >>> (((8 : Int32)).toUInt32 &&& Int32.toUInt32 31)).toInt32).toInt8.toInt32)) (((k + (4 : Int32)) + (1 : Int32))).toNatClampNeg (vp_nar .byte ((((y).toInt32).toUInt32 >>> (((16 : Int32)).toUInt32 &&& Int32.toUInt32 31)).toInt32).toInt8.toInt32))))).set j_p (r_p, Sum.inl (rn_k G 0, 2040, Sum.inl (upd (upd (upd (upd (upd (upd (upd f_p (k).toNatClampNeg (vp_nar .byte ((((((((y).toUInt64 >>> (((32 : Int32)).toInt64.toUInt64 &&& Int64.toUInt64 63)).toInt64).toInt32).toUInt32 >>> (((16 : Int32)).toUInt32 &&& Int32.toUInt32 31)).toInt32).toUInt32 >>> (((8 : Int32)).toUInt32 &&& Int32.toUInt32 31)).toInt32).toInt8.toInt32)) ((k + (1 : Int32))).toNatClampNeg (vp_nar .byte ((((((y).toUInt64 >>> (((32 : Int32)).toInt64.toUInt64 &&& Int64.toUInt64 63)).toInt64).toInt32).toUInt32 >>> (((16 : Int32)).toUInt32 &&& Int32.toUInt32 31)).toInt32).toInt8.toInt32)) ((k + (2 : Int32))).toNatClampNeg (vp_nar .byte ((((((y).toUInt64 >>> (((32 : Int32)).toInt64.toUInt64 &&& Int64.toUInt64 63)).toInt64).toInt32).toUInt32 >>> (((8 : Int32)).toUInt32 &&& Int32.toUInt32 31)).toInt32).toInt8.toInt32)) (((k + (2 : Int32)) + (1 : Int32))).toNatClampNeg (vp_nar .byte ((((y).toUInt64 >>> (((32 : Int32)).toInt64.toUInt64 &&& Int64.toUInt64 63)).toInt64).toInt32).toInt8.toInt32)) ((k + (4 : Int32))).toNatClampNeg (vp_nar .byte ((((((y).toInt32).toUInt32 >>> (((16 : Int32)).toUInt32 &&& Int32.toUInt32 31)).toInt32).toUInt32 >>> (((8 : Int32)).toUInt32 &&& Int32.toUInt32 31)).toInt32).toInt8.toInt32)) (((k + (4 : Int32)) + (1 : Int32))).toNatClampNeg (vp_nar .byte ((((y).toInt32).toUInt32 >>> (((16 : Int32)).toUInt32 &&& Int32.toUInt32 31)).toInt32).toInt8.toInt32)) (((k + (4 : Int32)) + (2 : Int32))).toNatClampNeg (vp_nar .byte ((((y).toInt32).toUInt32 >>> (((8 : Int32)).toUInt32 &&& Int32.toUInt32 31)).toInt32).toInt8.toInt32))))).set j_p (r_p, Sum.inl (rn_k G 0, 2040, Sum.inl (upd (upd (upd (upd (upd (upd (upd (upd f_p (k).toNatClampNeg (vp_nar .byte ((((((((y).toUInt64 >>> (((32 : Int32)).toInt64.toUInt64 &&& Int64.toUInt64 63)).toInt64).toInt32).toUInt32 >>> (((16 : Int32)).toUInt32 &&& Int32.toUInt32 31)).toInt32).toUInt32 >>> (((8 : Int32)).toUInt32 &&& Int32.toUInt32 31)).toInt32).toInt8.toInt32)) ((k + (1 : Int32))).toNatClampNeg (vp_nar .byte ((((((y).toUInt64 >>> (((32 : Int32)).toInt64.toUInt64 &&& Int64.toUInt64 63)).toInt64).toInt32).toUInt32 >>> (((16 : Int32)).toUInt32 &&& Int32.toUInt32 31)).toInt32).toInt8.toInt32)) ((k + (2 : Int32))).toNatClampNeg (vp_nar .byte ((((((y).toUInt64 >>> (((32 : Int32)).toInt64.toUInt64 &&& Int64.toUInt64 63)).toInt64).toInt32).toUInt32 >>> (((8 : Int32)).toUInt32 &&& Int32.toUInt32 31)).toInt32).toInt8.toInt32)) (((k + (2 : Int32)) + (1 : Int32))).toNatClampNeg (vp_nar .byte ((((y).toUInt64 >>> (((32 : Int32)).toInt64.toUInt64 &&& Int64.toUInt64 63)).toInt64).toInt32).toInt8.toInt32)) ((k + (4 : Int32))).toNatClampNeg (vp_nar .byte ((((((y).toInt32).toUInt32 >>> (((16 : Int32)).toUInt32 &&& Int32.toUInt32 31)).toInt32).toUInt32 >>> (((8 : Int32)).toUInt32 &&& Int32.toUInt32 31)).toInt32).toInt8.toInt32)) (((k + (4 : Int32)) + (1 : Int32))).toNatClampNeg (vp_nar .byte ((((y).toInt32).toUInt32 >>> (((16 : Int32)).toUInt32 &&& Int32.toUInt32 31)).toInt32).toInt8.toInt32)) (((k + (4 : Int32)) + (2 : Int32))).toNatClampNeg (vp_nar .byte ((((y).toInt32).toUInt32 >>> (((8 : Int32)).toUInt32 &&& Int32.toUInt32 31)).toInt32).toInt8.toInt32)) ((((k + (4 : Int32)) + (2 : Int32)) + (1 : Int32))).toNatClampNeg (vp_nar .byte ((y).toInt32).toInt8.toInt32))))))) := by
  refine rn_lv [(0, .ref o_p), (1, .int k), (2, .long y)] rfl ?_
  refine rn_aload_n (i := 0) dX4_setLong_0 rfl rfl ?_
  refine rn_iload_n (i := 1) dX4_setLong_1 rfl rfl ?_
  refine rn_lload_n (i := 2) dX4_setLong_2 rfl rfl ?_
  refine rn_bipush (v := (32 : Int32)) dX4_setLong_3 (by decide) ?_
  refine rn_lushr dX4_setLong_5 rfl ?_
  refine rn_l2i dX4_setLong_6 rfl ?_
  refine rn_callV (a := 0) (b := 0) [.int k, .int (((y).toUInt64 >>> (((32 : Int32)).toInt64.toUInt64 &&& Int64.toUInt64 63)).toInt64).toInt32] kl_SG_Packet_35 dX4_setLong_7 i_p h_p rfl (c_X4_setWord G _ (o_p := o_p) (k := k) (x := (((y).toUInt64 >>> (((32 : Int32)).toInt64.toUInt64 &&& Int64.toUInt64 63)).toInt64).toInt32) (i_p := i_p) (fs_p := fs_p) (r_p := r_p) (sz_p := sz_p) (j_p := j_p) (f_p := f_p) h_p hf_p_0 hf_p_1 h_pr hne_j_p_i_p (by obtain ⟨k0, e0⟩ := i32_add k (8 : Int32); have g0 := i32_rng sz_p; have g1 := i32_rng k; simp only [Int32.lt_iff_toInt_lt, Int32.le_iff_toInt_le, gt_iff_lt, ge_iff_le, ← Int32.toInt_inj, i32_0, i32_8, i32_2040] at *; omega) (by obtain ⟨k0, e0⟩ := i32_add k (8 : Int32); have g0 := i32_rng sz_p; have g1 := i32_rng k; simp only [Int32.lt_iff_toInt_lt, Int32.le_iff_toInt_le, gt_iff_lt, ge_iff_le, ← Int32.toInt_inj, i32_0, i32_8, i32_2040] at *; omega)) rfl rfl (Nat.le_of_ble_eq_true rfl) (Nat.le_of_ble_eq_true rfl) (Nat.le_of_ble_eq_true rfl) (Nat.le_of_ble_eq_true rfl) (Nat.le_of_ble_eq_true rfl) (Nat.le_of_ble_eq_true rfl) (by rintro E w h; rcases h with ⟨_, hr, _⟩ | ⟨_, hr, _⟩ | ⟨_, hr, _⟩ | ⟨_, hr, _⟩ <;> cases hr) ?_
  rintro v w h
  rcases h with ⟨hc, hr, hw⟩ | ⟨hc, hr, hw⟩ | ⟨hc, hr, hw⟩ | ⟨hc, hr, hw⟩
  · have hc1 := hc; clear hc; cases hr; subst hw
    exfalso; obtain ⟨k0, e0⟩ := i32_add k (8 : Int32); obtain ⟨k1, e1⟩ := i32_sub sz_p (1 : Int32); obtain ⟨k2, e2⟩ := i32_add k (2 : Int32); have g0 := i32_rng sz_p; have g1 := i32_rng k; simp only [Int32.lt_iff_toInt_lt, Int32.le_iff_toInt_le, gt_iff_lt, ge_iff_le, ← Int32.toInt_inj, i32_0, i32_1, i32_2, i32_8, i32_2040] at *; omega
  · have hc2 := hc; clear hc; cases hr; subst hw
    exfalso; obtain ⟨k0, e0⟩ := i32_add k (8 : Int32); obtain ⟨k1, e1⟩ := i32_sub sz_p (1 : Int32); obtain ⟨k2, e2⟩ := i32_add k (2 : Int32); have g0 := i32_rng sz_p; have g1 := i32_rng k; simp only [Int32.lt_iff_toInt_lt, Int32.le_iff_toInt_le, gt_iff_lt, ge_iff_le, ← Int32.toInt_inj, i32_0, i32_1, i32_2, i32_8, i32_2040] at *; omega
  · have hc3 := hc; clear hc; cases hr; subst hw
    exfalso; obtain ⟨k0, e0⟩ := i32_add k (8 : Int32); obtain ⟨k1, e1⟩ := i32_sub sz_p (1 : Int32); obtain ⟨k2, e2⟩ := i32_add k (2 : Int32); have g0 := i32_rng sz_p; have g1 := i32_rng k; simp only [Int32.lt_iff_toInt_lt, Int32.le_iff_toInt_le, gt_iff_lt, ge_iff_le, ← Int32.toInt_inj, i32_0, i32_1, i32_2, i32_8, i32_2040] at *; omega
  · have hc4 := hc; clear hc; cases hr; subst hw
    refine rn_stk [] rfl ?_
    refine rn_aload_n (i := 0) dX4_setLong_10 rfl rfl ?_
    refine rn_iload_n (i := 1) dX4_setLong_11 rfl rfl ?_
    refine rn_iconst (v := (4 : Int32)) dX4_setLong_12 (by decide) ?_
    refine rn_iadd dX4_setLong_13 ?_
    refine rn_lload_n (i := 2) dX4_setLong_14 rfl rfl ?_
    refine rn_l2i dX4_setLong_15 rfl ?_
    refine rn_callV (a := 0) (b := 0) [.int (k + (4 : Int32)), .int (y).toInt32] kl_SG_Packet_35 dX4_setLong_16 i_p (ls_ne hne_j_p_i_p (ls_ne hne_j_p_i_p (ls_ne hne_j_p_i_p (ls_ne hne_j_p_i_p h_p)))) rfl (c_X4_setWord G _ (o_p := o_p) (k := (k + (4 : Int32))) (x := (y).toInt32) (i_p := i_p) (fs_p := fs_p) (r_p := r_p) (sz_p := sz_p) (j_p := j_p) (f_p := (upd (upd (upd (upd f_p (k).toNatClampNeg (vp_nar .byte ((((((((y).toUInt64 >>> (((32 : Int32)).toInt64.toUInt64 &&& Int64.toUInt64 63)).toInt64).toInt32).toUInt32 >>> (((16 : Int32)).toUInt32 &&& Int32.toUInt32 31)).toInt32).toUInt32 >>> (((8 : Int32)).toUInt32 &&& Int32.toUInt32 31)).toInt32).toInt8.toInt32)) ((k + (1 : Int32))).toNatClampNeg (vp_nar .byte ((((((y).toUInt64 >>> (((32 : Int32)).toInt64.toUInt64 &&& Int64.toUInt64 63)).toInt64).toInt32).toUInt32 >>> (((16 : Int32)).toUInt32 &&& Int32.toUInt32 31)).toInt32).toInt8.toInt32)) ((k + (2 : Int32))).toNatClampNeg (vp_nar .byte ((((((y).toUInt64 >>> (((32 : Int32)).toInt64.toUInt64 &&& Int64.toUInt64 63)).toInt64).toInt32).toUInt32 >>> (((8 : Int32)).toUInt32 &&& Int32.toUInt32 31)).toInt32).toInt8.toInt32)) (((k + (2 : Int32)) + (1 : Int32))).toNatClampNeg (vp_nar .byte ((((y).toUInt64 >>> (((32 : Int32)).toInt64.toUInt64 &&& Int64.toUInt64 63)).toInt64).toInt32).toInt8.toInt32))) (ls_ne hne_j_p_i_p (ls_ne hne_j_p_i_p (ls_ne hne_j_p_i_p (ls_ne hne_j_p_i_p h_p)))) hf_p_0 hf_p_1 (ls_eq (ls_eq (ls_eq (ls_eq h_pr)))) hne_j_p_i_p (by obtain ⟨k0, e0⟩ := i32_add k (8 : Int32); obtain ⟨k1, e1⟩ := i32_sub sz_p (1 : Int32); obtain ⟨k2, e2⟩ := i32_add k (2 : Int32); have g0 := i32_rng sz_p; have g1 := i32_rng k; simp only [Int32.lt_iff_toInt_lt, Int32.le_iff_toInt_le, gt_iff_lt, ge_iff_le, ← Int32.toInt_inj, i32_0, i32_1, i32_2, i32_8, i32_2040] at *; omega) (by obtain ⟨k0, e0⟩ := i32_add k (8 : Int32); obtain ⟨k1, e1⟩ := i32_sub sz_p (1 : Int32); obtain ⟨k2, e2⟩ := i32_add k (2 : Int32); have g0 := i32_rng sz_p; have g1 := i32_rng k; simp only [Int32.lt_iff_toInt_lt, Int32.le_iff_toInt_le, gt_iff_lt, ge_iff_le, ← Int32.toInt_inj, i32_0, i32_1, i32_2, i32_8, i32_2040] at *; omega)) rfl rfl (Nat.le_of_ble_eq_true rfl) (Nat.le_of_ble_eq_true rfl) (Nat.le_of_ble_eq_true rfl) (Nat.le_of_ble_eq_true rfl) (Nat.le_of_ble_eq_true rfl) (Nat.le_of_ble_eq_true rfl) (by rintro E w h; rcases h with ⟨_, hr, _⟩ | ⟨_, hr, _⟩ | ⟨_, hr, _⟩ | ⟨_, hr, _⟩ <;> cases hr) ?_
    rintro v w h
    rcases h with ⟨hc, hr, hw⟩ | ⟨hc, hr, hw⟩ | ⟨hc, hr, hw⟩ | ⟨hc, hr, hw⟩
    · have hc5 := hc; clear hc; cases hr; subst hw
      exfalso; obtain ⟨k0, e0⟩ := i32_add k (8 : Int32); obtain ⟨k1, e1⟩ := i32_sub sz_p (1 : Int32); obtain ⟨k2, e2⟩ := i32_add k (2 : Int32); obtain ⟨k3, e3⟩ := i32_add k (4 : Int32); obtain ⟨k4, e4⟩ := i32_add (k + (4 : Int32)) (2 : Int32); have g0 := i32_rng sz_p; have g1 := i32_rng k; simp only [Int32.lt_iff_toInt_lt, Int32.le_iff_toInt_le, gt_iff_lt, ge_iff_le, ← Int32.toInt_inj, i32_0, i32_1, i32_2, i32_4, i32_8, i32_2040] at *; omega
    · have hc6 := hc; clear hc; cases hr; subst hw
      exfalso; obtain ⟨k0, e0⟩ := i32_add k (8 : Int32); obtain ⟨k1, e1⟩ := i32_sub sz_p (1 : Int32); obtain ⟨k2, e2⟩ := i32_add k (2 : Int32); obtain ⟨k3, e3⟩ := i32_add k (4 : Int32); obtain ⟨k4, e4⟩ := i32_add (k + (4 : Int32)) (2 : Int32); have g0 := i32_rng sz_p; have g1 := i32_rng k; simp only [Int32.lt_iff_toInt_lt, Int32.le_iff_toInt_le, gt_iff_lt, ge_iff_le, ← Int32.toInt_inj, i32_0, i32_1, i32_2, i32_4, i32_8, i32_2040] at *; omega
    · have hc7 := hc; clear hc; cases hr; subst hw
      exfalso; obtain ⟨k0, e0⟩ := i32_add k (8 : Int32); obtain ⟨k1, e1⟩ := i32_sub sz_p (1 : Int32); obtain ⟨k2, e2⟩ := i32_add k (2 : Int32); obtain ⟨k3, e3⟩ := i32_add k (4 : Int32); obtain ⟨k4, e4⟩ := i32_add (k + (4 : Int32)) (2 : Int32); have g0 := i32_rng sz_p; have g1 := i32_rng k; simp only [Int32.lt_iff_toInt_lt, Int32.le_iff_toInt_le, gt_iff_lt, ge_iff_le, ← Int32.toInt_inj, i32_0, i32_1, i32_2, i32_4, i32_8, i32_2040] at *; omega
    · have hc8 := hc; clear hc; cases hr; subst hw
      refine rn_stk [] rfl ?_
      exact rn_vret dX4_setLong_19 rfl ⟨⟨hc4, hc8⟩, rfl, rfl⟩
set_option maxRecDepth 20000 in
set_option maxHeartbeats 4000000 in
theorem c_X4_copyBytes (G : rn_G) (ws : va_W) (o_p : Nat) (o_q : Nat) (x1 : Int32) (x2 : Int32) (n : Int32) (hn : n ≤ (0 : Int32)) : Rn G mX4_copyBytes 0 0 0 0 0 (lv_args 0 [.ref o_p, .ref o_q, .int x1, .int x2, .int n]) [] ws (fun r w => ((n ≤ (0 : Int32)) ∧ r = Sum.inl none ∧ w = ws)) := by
  refine rn_lv [(0, .ref o_p), (1, .ref o_q), (2, .int x1), (3, .int x2), (4, .int n)] rfl ?_
  refine rn_iload dX4_copyBytes_0 rfl ?_
  refine rn_if_le (tgt := 50) dX4_copyBytes_2 (by decide) (fun h1 => ?_) (fun h1 => False.elim (by have g0 := i32_rng n; simp only [Int32.lt_iff_toInt_lt, Int32.le_iff_toInt_le, gt_iff_lt, ge_iff_le, ← Int32.toInt_inj, i32_0] at *; omega))
  exact rn_vret dX4_copyBytes_50 rfl ⟨h1, rfl, rfl⟩
set_option maxRecDepth 20000 in
set_option maxHeartbeats 4000000 in
theorem c_X4_copy (G : rn_G) (ws : va_W) (o_p : Nat) (o_q : Nat) (i_p : Nat) (fs_p : List Value) (sz_p : Int32) (i_q : Nat) (fs_q : List Value) (sz_q : Int32) (h_p : ws[i_p]? = some (o_p, Sum.inr (4, fs_p))) (hf_p_1 : fs_p[1]? = some (.int sz_p)) (h_q : ws[i_q]? = some (o_q, Sum.inr (4, fs_q))) (hf_q_1 : fs_q[1]? = some (.int sz_q)) (hne_i_p_i_q : i_p ≠ i_q) (hn : sz_q ≤ (0 : Int32)) : Rn G mX4_copy 2 42 0 0 0 (lv_args 0 [.ref o_p, .ref o_q]) [] ws (fun r w => ((((0 : Int32) ≤ sz_q) ∧ (sz_q ≤ (0 : Int32))) ∧ r = Sum.inl none ∧ w = (ws.set i_p (o_p, Sum.inr (4, (fs_p.set 1 (.int (if (2040 : Int32) < sz_q then (2040 : Int32) else sz_q))))))) ∨ (((¬ ((0 : Int32) ≤ sz_q)) ∧ (sz_q ≤ (0 : Int32))) ∧ r = Sum.inl none ∧ w = (ws.set i_p (o_p, Sum.inr (4, (fs_p.set 1 (.int (0 : Int32)))))))) := by
  refine rn_lv [(0, .ref o_p), (1, .ref o_q)] rfl ?_
  refine rn_aload_n (i := 0) dX4_copy_0 rfl rfl ?_
  refine rn_aload_n (i := 1) dX4_copy_1 rfl rfl ?_
  refine rn_get i_q kg_SG_Packet_15 h_q hf_q_1 dX4_copy_2 ?_
  refine rn_callV (a := 0) (b := 0) [.int sz_q] kl_SG_Packet_38 dX4_copy_5 i_p h_p rfl (c_X4_resize G _ (o_p := o_p) (n := sz_q) (i_p := i_p) (fs_p := fs_p) (sz_p := sz_p) h_p hf_p_1) rfl rfl (Nat.le_of_ble_eq_true rfl) (Nat.le_of_ble_eq_true rfl) (Nat.le_of_ble_eq_true rfl) (Nat.le_of_ble_eq_true rfl) (Nat.le_of_ble_eq_true rfl) (Nat.le_of_ble_eq_true rfl) (by rintro E w h; rcases h with ⟨_, hr, _⟩ | ⟨_, hr, _⟩ <;> cases hr) ?_
  rintro v w h
  rcases h with ⟨hc, hr, hw⟩ | ⟨hc, hr, hw⟩
  · have hc1 := hc; clear hc; cases hr; subst hw
    refine rn_stk [] rfl ?_
    refine rn_aload_n (i := 0) dX4_copy_8 rfl rfl ?_
    refine rn_aload_n (i := 1) dX4_copy_9 rfl rfl ?_
    refine rn_iconst (v := (0 : Int32)) dX4_copy_10 (by decide) ?_
    refine rn_iconst (v := (0 : Int32)) dX4_copy_11 (by decide) ?_
    refine rn_aload_n (i := 1) dX4_copy_12 rfl rfl ?_
    refine rn_get i_q kg_SG_Packet_15 (ls_ne hne_i_p_i_q h_q) hf_q_1 dX4_copy_13 ?_
    refine rn_callV (a := 0) (b := 0) [.ref o_q, .int (0 : Int32), .int (0 : Int32), .int sz_q] kl_SG_Packet_42 dX4_copy_16 i_p (ls_eq h_p) rfl (c_X4_copyBytes G _ (o_p := o_p) (o_q := o_q) (x1 := (0 : Int32)) (x2 := (0 : Int32)) (n := sz_q) (by have g0 := i32_rng sz_q; simp only [Int32.lt_iff_toInt_lt, Int32.le_iff_toInt_le, gt_iff_lt, ge_iff_le, ← Int32.toInt_inj, i32_0] at *; omega)) rfl rfl (Nat.le_of_ble_eq_true rfl) (Nat.le_of_ble_eq_true rfl) (Nat.le_of_ble_eq_true rfl) (Nat.le_of_ble_eq_true rfl) (Nat.le_of_ble_eq_true rfl) (Nat.le_of_ble_eq_true rfl) (by rintro E w h; rcases h with ⟨_, hr, _⟩ <;> cases hr) ?_
    rintro v w h
    obtain ⟨hc2, hr, hw⟩ := h; cases hr; subst hw
    refine rn_stk [] rfl ?_
    exact rn_vret dX4_copy_19 rfl (Or.inl ⟨⟨hc1, hc2⟩, rfl, rfl⟩)
  · have hc3 := hc; clear hc; cases hr; subst hw
    refine rn_stk [] rfl ?_
    refine rn_aload_n (i := 0) dX4_copy_8 rfl rfl ?_
    refine rn_aload_n (i := 1) dX4_copy_9 rfl rfl ?_
    refine rn_iconst (v := (0 : Int32)) dX4_copy_10 (by decide) ?_
    refine rn_iconst (v := (0 : Int32)) dX4_copy_11 (by decide) ?_
    refine rn_aload_n (i := 1) dX4_copy_12 rfl rfl ?_
    refine rn_get i_q kg_SG_Packet_15 (ls_ne hne_i_p_i_q h_q) hf_q_1 dX4_copy_13 ?_
    refine rn_callV (a := 0) (b := 0) [.ref o_q, .int (0 : Int32), .int (0 : Int32), .int sz_q] kl_SG_Packet_42 dX4_copy_16 i_p (ls_eq h_p) rfl (c_X4_copyBytes G _ (o_p := o_p) (o_q := o_q) (x1 := (0 : Int32)) (x2 := (0 : Int32)) (n := sz_q) (by have g0 := i32_rng sz_q; simp only [Int32.lt_iff_toInt_lt, Int32.le_iff_toInt_le, gt_iff_lt, ge_iff_le, ← Int32.toInt_inj, i32_0] at *; omega)) rfl rfl (Nat.le_of_ble_eq_true rfl) (Nat.le_of_ble_eq_true rfl) (Nat.le_of_ble_eq_true rfl) (Nat.le_of_ble_eq_true rfl) (Nat.le_of_ble_eq_true rfl) (Nat.le_of_ble_eq_true rfl) (by rintro E w h; rcases h with ⟨_, hr, _⟩ <;> cases hr) ?_
    rintro v w h
    obtain ⟨hc4, hr, hw⟩ := h; cases hr; subst hw
    refine rn_stk [] rfl ?_
    exact rn_vret dX4_copy_19 rfl (Or.inr ⟨⟨hc3, hc4⟩, rfl, rfl⟩)
set_option maxRecDepth 20000 in
set_option maxHeartbeats 4000000 in
theorem c_X4_isBroken (G : rn_G) (ws : va_W) (o_p : Nat) (i_p : Nat) (fs_p : List Value) (sz_p : Int32) (h_p : ws[i_p]? = some (o_p, Sum.inr (4, fs_p))) (hf_p_1 : fs_p[1]? = some (.int sz_p)) (hn : sz_p < (20 : Int32)) : Rn G mX4_isBroken 0 0 0 0 0 (lv_args 0 [.ref o_p]) [] ws (fun r w => ((sz_p < (20 : Int32)) ∧ r = Sum.inl (some (.int (1 : Int32))) ∧ w = ws)) := by
  refine rn_lv [(0, .ref o_p)] rfl ?_
  refine rn_aload_n (i := 0) dX4_isBroken_0 rfl rfl ?_
  refine rn_get i_p kg_SG_Packet_15 h_p hf_p_1 dX4_isBroken_1 ?_
  refine rn_bipush (v := (20 : Int32)) dX4_isBroken_4 (by decide) ?_
  refine rn_icmp_lt (tgt := 19) dX4_isBroken_6 (by decide) (fun h1 => ?_) (fun h1 => False.elim (by have g0 := i32_rng sz_p; simp only [Int32.lt_iff_toInt_lt, Int32.le_iff_toInt_le, gt_iff_lt, ge_iff_le, ← Int32.toInt_inj, i32_0, i32_20] at *; omega))
  refine rn_iconst (v := (1 : Int32)) dX4_isBroken_19 (by decide) ?_
  exact rn_iret dX4_isBroken_20 rfl rfl ⟨h1, rfl, rfl⟩
set_option maxRecDepth 20000 in
set_option maxHeartbeats 4000000 in
theorem c_X9_isByte (G : rn_G) (ws : va_W) (x : Int32)  : Rn G mX9_isByte 0 0 0 0 0 (lv_args 0 [.int x]) [] ws (fun r w => (((x < (0 : Int32)) ∨ (¬ (x < (0 : Int32)) ∧ (255 : Int32) < x)) ∧ r = Sum.inl (some (.int (0 : Int32))) ∧ w = ws) ∨ ((¬ (x < (0 : Int32)) ∧ ¬ ((255 : Int32) < x)) ∧ r = Sum.inl (some (.int (1 : Int32))) ∧ w = ws)) := by
  refine rn_lv [(0, .int x)] rfl ?_
  refine rn_iload_n (i := 0) dX9_isByte_0 rfl rfl ?_
  refine rn_if_lt (tgt := 15) dX9_isByte_1 (by decide) (fun h1 => ?_) (fun h1 => ?_)
  · refine rn_iconst (v := (0 : Int32)) dX9_isByte_15 (by decide) ?_
    exact rn_iret dX9_isByte_16 rfl rfl (Or.inl ⟨(Or.inl h1), rfl, rfl⟩)
  · refine rn_iload_n (i := 0) dX9_isByte_4 rfl rfl ?_
    refine rn_sipush (v := (255 : Int32)) dX9_isByte_5 (by decide) ?_
    refine rn_icmp_gt (tgt := 15) dX9_isByte_8 (by decide) (fun h2 => ?_) (fun h2 => ?_)
    · refine rn_iconst (v := (0 : Int32)) dX9_isByte_15 (by decide) ?_
      exact rn_iret dX9_isByte_16 rfl rfl (Or.inl ⟨(Or.inr ⟨h1, h2⟩), rfl, rfl⟩)
    · refine rn_iconst (v := (1 : Int32)) dX9_isByte_11 (by decide) ?_
      refine rn_goto (tgt := 16) dX9_isByte_12 (by decide) ?_
      exact rn_iret dX9_isByte_16 rfl rfl (Or.inr ⟨⟨h1, h2⟩, rfl, rfl⟩)
set_option maxRecDepth 20000 in
set_option maxHeartbeats 4000000 in
theorem c_X9_isWidth (G : rn_G) (ws : va_W) (x : Int32)  : Rn G mX9_isWidth 0 0 0 0 0 (lv_args 0 [.int x]) [] ws (fun r w => (((x < (0 : Int32)) ∨ (¬ (x < (0 : Int32)) ∧ (32 : Int32) < x)) ∧ r = Sum.inl (some (.int (0 : Int32))) ∧ w = ws) ∨ ((¬ (x < (0 : Int32)) ∧ ¬ ((32 : Int32) < x)) ∧ r = Sum.inl (some (.int (1 : Int32))) ∧ w = ws)) := by
  refine rn_lv [(0, .int x)] rfl ?_
  refine rn_iload_n (i := 0) dX9_isWidth_0 rfl rfl ?_
  refine rn_if_lt (tgt := 14) dX9_isWidth_1 (by decide) (fun h1 => ?_) (fun h1 => ?_)
  · refine rn_iconst (v := (0 : Int32)) dX9_isWidth_14 (by decide) ?_
    exact rn_iret dX9_isWidth_15 rfl rfl (Or.inl ⟨(Or.inl h1), rfl, rfl⟩)
  · refine rn_iload_n (i := 0) dX9_isWidth_4 rfl rfl ?_
    refine rn_bipush (v := (32 : Int32)) dX9_isWidth_5 (by decide) ?_
    refine rn_icmp_gt (tgt := 14) dX9_isWidth_7 (by decide) (fun h2 => ?_) (fun h2 => ?_)
    · refine rn_iconst (v := (0 : Int32)) dX9_isWidth_14 (by decide) ?_
      exact rn_iret dX9_isWidth_15 rfl rfl (Or.inl ⟨(Or.inr ⟨h1, h2⟩), rfl, rfl⟩)
    · refine rn_iconst (v := (1 : Int32)) dX9_isWidth_10 (by decide) ?_
      refine rn_goto (tgt := 15) dX9_isWidth_11 (by decide) ?_
      exact rn_iret dX9_isWidth_15 rfl rfl (Or.inr ⟨⟨h1, h2⟩, rfl, rfl⟩)
set_option maxRecDepth 20000 in
set_option maxHeartbeats 4000000 in
theorem c_X9_isPortOrWay (G : rn_G) (ws : va_W) (x : Int32)  : Rn G mX9_isPortOrWay 0 0 0 0 0 (lv_args 0 [.int x]) [] ws (fun r w => (((x = (0 : Int32)) ∨ (¬ (x = (0 : Int32)) ∧ x = (1 : Int32))) ∧ r = Sum.inl (some (.int (1 : Int32))) ∧ w = ws) ∨ ((¬ (x = (0 : Int32)) ∧ ¬ (x = (1 : Int32))) ∧ r = Sum.inl (some (.int (0 : Int32))) ∧ w = ws)) := by
  refine rn_lv [(0, .int x)] rfl ?_
  refine rn_iload_n (i := 0) dX9_isPortOrWay_0 rfl rfl ?_
  refine rn_if_eq (tgt := 9) dX9_isPortOrWay_1 (by decide) (fun h1 => ?_) (fun h1 => ?_)
  · refine rn_iconst (v := (1 : Int32)) dX9_isPortOrWay_9 (by decide) ?_
    refine rn_goto (tgt := 14) dX9_isPortOrWay_10 (by decide) ?_
    exact rn_iret dX9_isPortOrWay_14 rfl rfl (Or.inl ⟨(Or.inl h1), rfl, rfl⟩)
  · refine rn_iload_n (i := 0) dX9_isPortOrWay_4 rfl rfl ?_
    refine rn_iconst (v := (1 : Int32)) dX9_isPortOrWay_5 (by decide) ?_
    refine rn_icmp_ne (tgt := 13) dX9_isPortOrWay_6 (by decide) (fun h2 => ?_) (fun h2 => ?_)
    · refine rn_iconst (v := (0 : Int32)) dX9_isPortOrWay_13 (by decide) ?_
      exact rn_iret dX9_isPortOrWay_14 rfl rfl (Or.inr ⟨⟨h1, h2⟩, rfl, rfl⟩)
    · refine rn_iconst (v := (1 : Int32)) dX9_isPortOrWay_9 (by decide) ?_
      refine rn_goto (tgt := 14) dX9_isPortOrWay_10 (by decide) ?_
      exact rn_iret dX9_isPortOrWay_14 rfl rfl (Or.inl ⟨(Or.inr ⟨h1, h2⟩), rfl, rfl⟩)
set_option maxRecDepth 20000 in
set_option maxHeartbeats 4000000 in
theorem c_X9_isTunnel (G : rn_G) (ws : va_W) (x : Int32)  : Rn G mX9_isTunnel 0 0 0 0 0 (lv_args 0 [.int x]) [] ws (fun r w => (((x < (0 : Int32)) ∨ (¬ (x < (0 : Int32)) ∧ (4 : Int32) ≤ x)) ∧ r = Sum.inl (some (.int (0 : Int32))) ∧ w = ws) ∨ ((¬ (x < (0 : Int32)) ∧ ¬ ((4 : Int32) ≤ x)) ∧ r = Sum.inl (some (.int (1 : Int32))) ∧ w = ws)) := by
  refine rn_lv [(0, .int x)] rfl ?_
  refine rn_iload_n (i := 0) dX9_isTunnel_0 rfl rfl ?_
  refine rn_if_lt (tgt := 13) dX9_isTunnel_1 (by decide) (fun h1 => ?_) (fun h1 => ?_)
  · refine rn_iconst (v := (0 : Int32)) dX9_isTunnel_13 (by decide) ?_
    exact rn_iret dX9_isTunnel_14 rfl rfl (Or.inl ⟨(Or.inl h1), rfl, rfl⟩)
  · refine rn_iload_n (i := 0) dX9_isTunnel_4 rfl rfl ?_
    refine rn_iconst (v := (4 : Int32)) dX9_isTunnel_5 (by decide) ?_
    refine rn_icmp_ge (tgt := 13) dX9_isTunnel_6 (by decide) (fun h2 => ?_) (fun h2 => ?_)
    · refine rn_iconst (v := (0 : Int32)) dX9_isTunnel_13 (by decide) ?_
      exact rn_iret dX9_isTunnel_14 rfl rfl (Or.inl ⟨(Or.inr ⟨h1, h2⟩), rfl, rfl⟩)
    · refine rn_iconst (v := (1 : Int32)) dX9_isTunnel_9 (by decide) ?_
      refine rn_goto (tgt := 14) dX9_isTunnel_10 (by decide) ?_
      exact rn_iret dX9_isTunnel_14 rfl rfl (Or.inr ⟨⟨h1, h2⟩, rfl, rfl⟩)
set_option maxRecDepth 20000 in
set_option maxHeartbeats 4000000 in
theorem c_X9_type (G : rn_G) (ws : va_W) (o_sg : Nat) (y : Int64) (fs_sg : List Value) (o_tape : Nat) (fs_tape : List Value) (r_tape : Nat) (f_tape : Nat → Int32) (h_sg : ws[0]? = some (o_sg, Sum.inr (9, fs_sg))) (hf_sg_1 : fs_sg[1]? = some (.ref o_tape)) (h_tape : ws[1]? = some (o_tape, Sum.inr (4, fs_tape))) (hf_tape_0 : fs_tape[0]? = some (.ref r_tape)) (hf_tape_1 : fs_tape[1]? = some (.int (0 : Int32))) (h_taper : ws[2]? = some (r_tape, Sum.inl (rn_k G 0, 2040, Sum.inl f_tape))) : Rn G mX9_type 3 67 0 0 0 (lv_args 0 [.ref o_sg, .long y]) [] ws (fun r w => ((((0 : Int32) ≤ (8 : Int32)) ∧ (((¬ ((0 : Int32) < (0 : Int32)) ∧ ¬ (((if (2040 : Int32) < (8 : Int32) then (2040 : Int32) else (8 : Int32)) - (1 : Int32)) ≤ (0 : Int32))) ∧ (¬ (((0 : Int32) + (2 : Int32)) < (0 : Int32)) ∧ ¬ (((if (2040 : Int32) < (8 : Int32) then (2040 : Int32) else (8 : Int32)) - (1 : Int32)) ≤ ((0 : Int32) + (2 : Int32))))) ∧ ((¬ (((0 : Int32) + (4 : Int32)) < (0 : Int32)) ∧ ¬ (((if (2040 : Int32) < (8 : Int32) then (2040 : Int32) else (8 : Int32)) - (1 : Int32)) ≤ ((0 : Int32) + (4 : Int32)))) ∧ (¬ ((((0 : Int32) + (4 : Int32)) + (2 : Int32)) < (0 : Int32)) ∧ ¬ (((if (2040 : Int32) < (8 : Int32) then (2040 : Int32) else (8 : Int32)) - (1 : Int32)) ≤ (((0 : Int32) + (4 : Int32)) + (2 : Int32))))))) ∧ r = Sum.inl (some (.int (if (2040 : Int32) < (8 : Int32) then (2040 : Int32) else (8 : Int32)))) ∧ w = (((((((((ws.set 1 (o_tape, Sum.inr (4, (fs_tape.set 1 (.int (if (2040 : Int32) < (8 : Int32) then (2040 : Int32) else (8 : Int32))))))).set 2 (r_tape, Sum.inl (rn_k G 0, 2040, Sum.inl (upd f_tape ((0 : Int32)).toNatClampNeg (vp_nar .byte ((((((((y).toUInt64 >>> (((32 : Int32)).toInt64.toUInt64 &&& Int64.toUInt64 63)).toInt64).toInt32).toUInt32 >>> (((16 : Int32)).toUInt32 &&& Int32.toUInt32 31)).toInt32).toUInt32 >>> (((8 : Int32)).toUInt32 &&& Int32.toUInt32 31)).toInt32).toInt8.toInt32))))).set 2 (r_tape, Sum.inl (rn_k G 0, 2040, Sum.inl (upd (upd f_tape ((0 : Int32)).toNatClampNeg (vp_nar .byte ((((((((y).toUInt64 >>> (((32 : Int32)).toInt64.toUInt64 &&& Int64.toUInt64 63)).toInt64).toInt32).toUInt32 >>> (((16 : Int32)).toUInt32 &&& Int32.toUInt32 31)).toInt32).toUInt32 >>> (((8 : Int32)).toUInt32 &&& Int32.toUInt32 31)).toInt32).toInt8.toInt32)) (((0 : Int32) + (1 : Int32))).toNatClampNeg (vp_nar .byte ((((((y).toUInt64 >>> (((32 : Int32)).toInt64.toUInt64 &&& Int64.toUInt64 63)).toInt64).toInt32).toUInt32 >>> (((16 : Int32)).toUInt32 &&& Int32.toUInt32 31)).toInt32).toInt8.toInt32))))).set 2 (r_tape, Sum.inl (rn_k G 0, 2040, Sum.inl (upd (upd (upd f_tape ((0 : Int32)).toNatClampNeg (vp_nar .byte ((((((((y).toUInt64 >>> (((32 : Int32)).toInt64.toUInt64 &&& Int64.toUInt64 63)).toInt64).toInt32).toUInt32 >>> (((16 : Int32)).toUInt32 &&& Int32.toUInt32 31)).toInt32).toUInt32 >>> (((8 : Int32)).toUInt32 &&& Int32.toUInt32 31)).toInt32).toInt8.toInt32)) (((0 : Int32) + (1 : Int32))).toNatClampNeg (vp_nar .byte ((((((y).toUInt64 >>> (((32 : Int32)).toInt64.toUInt64 &&& Int64.toUInt64 63)).toInt64).toInt32).toUInt32 >>> (((16 : Int32)).toUInt32 &&& Int32.toUInt32 31)).toInt32).toInt8.toInt32)) (((0 : Int32) + (2 : Int32))).toNatClampNeg (vp_nar .byte ((((((y).toUInt64 >>> (((32 : Int32)).toInt64.toUInt64 &&& Int64.toUInt64 63)).toInt64).toInt32).toUInt32 >>> (((8 : Int32)).toUInt32 &&& Int32.toUInt32 31)).toInt32).toInt8.toInt32))))).set 2 (r_tape, Sum.inl (rn_k G 0, 2040, Sum.inl (upd (upd (upd (upd f_tape ((0 : Int32)).toNatClampNeg (vp_nar .byte ((((((((y).toUInt64 >>> (((32 : Int32)).toInt64.toUInt64 &&& Int64.toUInt64 63)).toInt64).toInt32).toUInt32 >>> (((16 : Int32)).toUInt32 &&& Int32.toUInt32 31)).toInt32).toUInt32 >>> (((8 : Int32)).toUInt32 &&& Int32.toUInt32 31)).toInt32).toInt8.toInt32)) (((0 : Int32) + (1 : Int32))).toNatClampNeg (vp_nar .byte ((((((y).toUInt64 >>> (((32 : Int32)).toInt64.toUInt64 &&& Int64.toUInt64 63)).toInt64).toInt32).toUInt32 >>> (((16 : Int32)).toUInt32 &&& Int32.toUInt32 31)).toInt32).toInt8.toInt32)) (((0 : Int32) + (2 : Int32))).toNatClampNeg (vp_nar .byte ((((((y).toUInt64 >>> (((32 : Int32)).toInt64.toUInt64 &&& Int64.toUInt64 63)).toInt64).toInt32).toUInt32 >>> (((8 : Int32)).toUInt32 &&& Int32.toUInt32 31)).toInt32).toInt8.toInt32)) ((((0 : Int32) + (2 : Int32)) + (1 : Int32))).toNatClampNeg (vp_nar .byte ((((y).toUInt64 >>> (((32 : Int32)).toInt64.toUInt64 &&& Int64.toUInt64 63)).toInt64).toInt32).toInt8.toInt32))))).set 2 (r_tape, Sum.inl (rn_k G 0, 2040, Sum.inl (upd (upd (upd (upd (upd f_tape ((0 : Int32)).toNatClampNeg (vp_nar .byte ((((((((y).toUInt64 >>> (((32 : Int32)).toInt64.toUInt64 &&& Int64.toUInt64 63)).toInt64).toInt32).toUInt32 >>> (((16 : Int32)).toUInt32 &&& Int32.toUInt32 31)).toInt32).toUInt32 >>> (((8 : Int32)).toUInt32 &&& Int32.toUInt32 31)).toInt32).toInt8.toInt32)) (((0 : Int32) + (1 : Int32))).toNatClampNeg (vp_nar .byte ((((((y).toUInt64 >>> (((32 : Int32)).toInt64.toUInt64 &&& Int64.toUInt64 63)).toInt64).toInt32).toUInt32 >>> (((16 : Int32)).toUInt32 &&& Int32.toUInt32 31)).toInt32).toInt8.toInt32)) (((0 : Int32) + (2 : Int32))).toNatClampNeg (vp_nar .byte ((((((y).toUInt64 >>> (((32 : Int32)).toInt64.toUInt64 &&& Int64.toUInt64 63)).toInt64).toInt32).toUInt32 >>> (((8 : Int32)).toUInt32 &&& Int32.toUInt32 31)).toInt32).toInt8.toInt32)) ((((0 : Int32) + (2 : Int32)) + (1 : Int32))).toNatClampNeg (vp_nar .byte ((((y).toUInt64 >>> (((32 : Int32)).toInt64.toUInt64 &&& Int64.toUInt64 63)).toInt64).toInt32).toInt8.toInt32)) (((0 : Int32) + (4 : Int32))).toNatClampNeg (vp_nar .byte ((((((y).toInt32).toUInt32 >>> (((16 : Int32)).toUInt32 &&& Int32.toUInt32 31)).toInt32).toUInt32 >>> (((8 : Int32)).toUInt32 &&& Int32.toUInt32 31)).toInt32).toInt8.toInt32))))).set 2 (r_tape, Sum.inl (rn_k G 0, 2040, Sum.inl (upd (upd (upd (upd (upd (upd f_tape ((0 : Int32)).toNatClampNeg (vp_nar .byte ((((((((y).toUInt64 >>> (((32 : Int32)).toInt64.toUInt64 &&& Int64.toUInt64 63)).toInt64).toInt32).toUInt32 >>> (((16 : Int32)).toUInt32 &&& Int32.toUInt32 31)).toInt32).toUInt32 >>> (((8 : Int32)).toUInt32 &&& Int32.toUInt32 31)).toInt32).toInt8.toInt32)) (((0 : Int32) + (1 : Int32))).toNatClampNeg (vp_nar .byte ((((((y).toUInt64 >>> (((32 : Int32)).toInt64.toUInt64 &&& Int64.toUInt64 63)).toInt64).toInt32).toUInt32 >>> (((16 : Int32)).toUInt32 &&& Int32.toUInt32 31)).toInt32).toInt8.toInt32)) (((0 : Int32) + (2 : Int32))).toNatClampNeg (vp_nar .byte ((((((y).toUInt64 >>> (((32 : Int32)).toInt64.toUInt64 &&& Int64.toUInt64 63)).toInt64).toInt32).toUInt32 >>> (((8 : Int32)).toUInt32 &&& Int32.toUInt32 31)).toInt32).toInt8.toInt32)) ((((0 : Int32) + (2 : Int32)) + (1 : Int32))).toNatClampNeg (vp_nar .byte ((((y).toUInt64 >>> (((32 : Int32)).toInt64.toUInt64 &&& Int64.toUInt64 63)).toInt64).toInt32).toInt8.toInt32)) (((0 : Int32) + (4 : Int32))).toNatClampNeg (vp_nar .byte ((((((y).toInt32).toUInt32 >>> (((16 : Int32)).toUInt32 &&& Int32.toUInt32 31)).toInt32).toUInt32 >>> (((8 : Int32)).toUInt32 &&& Int32.toUInt32 31)).toInt32).toInt8.toInt32)) ((((0 : Int32) + (4 : Int32)) + (1 : Int32))).toNatClampNeg (vp_nar .byte ((((y).toInt32).toUInt32 >>> (((16 : Int32)).toUInt32 &&& Int32.toUInt32 31)).toInt32).toInt8.toInt32))))).set 2 (r_tape, Sum.inl (rn_k G 0, 2040, Sum.inl (upd (upd (upd (upd (upd (upd (upd f_tape ((0 : Int32)).toNatClampNeg (vp_nar .byte ((((((((y).toUInt64 >>> (((32 : Int32)).toInt64.toUInt64 &&& Int64.toUInt64 63)).toInt64).toInt32).toUInt32 >>> (((16 : Int32)).toUInt32 &&& Int32.toUInt32 31)).toInt32).toUInt32 >>> (((8 : Int32)).toUInt32 &&& Int32.toUInt32 31)).toInt32).toInt8.toInt32)) (((0 : Int32) + (1 : Int32))).toNatClampNeg (vp_nar .byte ((((((y).toUInt64 >>> (((32 : Int32)).toInt64.toUInt64 &&& Int64.toUInt64 63)).toInt64).toInt32).toUInt32 >>> (((16 : Int32)).toUInt32 &&& Int32.toUInt32 31)).toInt32).toInt8.toInt32)) (((0 : Int32) + (2 : Int32))).toNatClampNeg (vp_nar .byte ((((((y).toUInt64 >>> (((32 : Int32)).toInt64.toUInt64 &&& Int64.toUInt64 63)).toInt64).toInt32).toUInt32 >>> (((8 : Int32)).toUInt32 &&& Int32.toUInt32 31)).toInt32).toInt8.toInt32)) ((((0 : Int32) + (2 : Int32)) + (1 : Int32))).toNatClampNeg (vp_nar .byte ((((y).toUInt64 >>> (((32 : Int32)).toInt64.toUInt64 &&& Int64.toUInt64 63)).toInt64).toInt32).toInt8.toInt32)) (((0 : Int32) + (4 : Int32))).toNatClampNeg (vp_nar .byte ((((((y).toInt32).toUInt32 >>> (((16 : Int32)).toUInt32 &&& Int32.toUInt32 31)).toInt32).toUInt32 >>> (((8 : Int32)).toUInt32 &&& Int32.toUInt32 31)).toInt32).toInt8.toInt32)) ((((0 : Int32) + (4 : Int32)) + (1 : Int32))).toNatClampNeg (vp_nar .byte ((((y).toInt32).toUInt32 >>> (((16 : Int32)).toUInt32 &&& Int32.toUInt32 31)).toInt32).toInt8.toInt32)) ((((0 : Int32) + (4 : Int32)) + (2 : Int32))).toNatClampNeg (vp_nar .byte ((((y).toInt32).toUInt32 >>> (((8 : Int32)).toUInt32 &&& Int32.toUInt32 31)).toInt32).toInt8.toInt32))))).set 2 (r_tape, Sum.inl (rn_k G 0, 2040, Sum.inl (upd (upd (upd (upd (upd (upd (upd (upd f_tape ((0 : Int32)).toNatClampNeg (vp_nar .byte ((((((((y).toUInt64 >>> (((32 : Int32)).toInt64.toUInt64 &&& Int64.toUInt64 63)).toInt64).toInt32).toUInt32 >>> (((16 : Int32)).toUInt32 &&& Int32.toUInt32 31)).toInt32).toUInt32 >>> (((8 : Int32)).toUInt32 &&& Int32.toUInt32 31)).toInt32).toInt8.toInt32)) (((0 : Int32) + (1 : Int32))).toNatClampNeg (vp_nar .byte ((((((y).toUInt64 >>> (((32 : Int32)).toInt64.toUInt64 &&& Int64.toUInt64 63)).toInt64).toInt32).toUInt32 >>> (((16 : Int32)).toUInt32 &&& Int32.toUInt32 31)).toInt32).toInt8.toInt32)) (((0 : Int32) + (2 : Int32))).toNatClampNeg (vp_nar .byte ((((((y).toUInt64 >>> (((32 : Int32)).toInt64.toUInt64 &&& Int64.toUInt64 63)).toInt64).toInt32).toUInt32 >>> (((8 : Int32)).toUInt32 &&& Int32.toUInt32 31)).toInt32).toInt8.toInt32)) ((((0 : Int32) + (2 : Int32)) + (1 : Int32))).toNatClampNeg (vp_nar .byte ((((y).toUInt64 >>> (((32 : Int32)).toInt64.toUInt64 &&& Int64.toUInt64 63)).toInt64).toInt32).toInt8.toInt32)) (((0 : Int32) + (4 : Int32))).toNatClampNeg (vp_nar .byte ((((((y).toInt32).toUInt32 >>> (((16 : Int32)).toUInt32 &&& Int32.toUInt32 31)).toInt32).toUInt32 >>> (((8 : Int32)).toUInt32 &&& Int32.toUInt32 31)).toInt32).toInt8.toInt32)) ((((0 : Int32) + (4 : Int32)) + (1 : Int32))).toNatClampNeg (vp_nar .byte ((((y).toInt32).toUInt32 >>> (((16 : Int32)).toUInt32 &&& Int32.toUInt32 31)).toInt32).toInt8.toInt32)) ((((0 : Int32) + (4 : Int32)) + (2 : Int32))).toNatClampNeg (vp_nar .byte ((((y).toInt32).toUInt32 >>> (((8 : Int32)).toUInt32 &&& Int32.toUInt32 31)).toInt32).toInt8.toInt32)) (((((0 : Int32) + (4 : Int32)) + (2 : Int32)) + (1 : Int32))).toNatClampNeg (vp_nar .byte ((y).toInt32).toInt8.toInt32))))))) := by
  refine rn_lv [(0, .ref o_sg), (1, .long y)] rfl ?_
  refine rn_aload_n (i := 0) dX9_type_0 rfl rfl ?_
  refine rn_get 0 kg_SG_10 h_sg hf_sg_1 dX9_type_1 ?_
  refine rn_callV (a := 0) (b := 0) [] kl_SG_76 dX9_type_4 1 h_tape rfl (c_X4_size G _ (o_p := o_tape) (i_p := 1) (fs_p := fs_tape) (sz_p := (0 : Int32)) h_tape hf_tape_1) rfl rfl (Nat.le_of_ble_eq_true rfl) (Nat.le_of_ble_eq_true rfl) (Nat.le_of_ble_eq_true rfl) (Nat.le_of_ble_eq_true rfl) (Nat.le_of_ble_eq_true rfl) (Nat.le_of_ble_eq_true rfl) (by rintro E w h; rcases h with ⟨_, hr, _⟩ <;> cases hr) ?_
  rintro v w h
  obtain ⟨hc1, hr, hw⟩ := h; cases hr; subst hw
  refine rn_stk [.int (0 : Int32)] rfl ?_
  refine rn_istore_n dX9_type_7 rfl (by decide) [(0, .ref o_sg), (1, .long y), (3, .int (0 : Int32))] rfl ?_
  refine rn_iload_n (i := 3) dX9_type_8 rfl rfl ?_
  refine rn_bipush (v := (8 : Int32)) dX9_type_9 (by decide) ?_
  refine rn_iadd dX9_type_11 ?_
  refine rn_topi (8 : Int32) (by decide) ?_
  refine rn_sipush (v := (2000 : Int32)) dX9_type_12 (by decide) ?_
  refine rn_icmp_le (tgt := 28) dX9_type_15 (by decide) (fun h2 => ?_) (fun h2 => absurd h2 (by decide))
  refine rn_aload_n (i := 0) dX9_type_28 rfl rfl ?_
  refine rn_get 0 kg_SG_10 h_sg hf_sg_1 dX9_type_29 ?_
  refine rn_iload_n (i := 3) dX9_type_32 rfl rfl ?_
  refine rn_bipush (v := (8 : Int32)) dX9_type_33 (by decide) ?_
  refine rn_iadd dX9_type_35 ?_
  refine rn_topi (8 : Int32) (by decide) ?_
  refine rn_callV (a := 0) (b := 0) [.int (8 : Int32)] kl_SG_87 dX9_type_36 1 h_tape rfl (c_X4_resize G _ (o_p := o_tape) (n := (8 : Int32)) (i_p := 1) (fs_p := fs_tape) (sz_p := (0 : Int32)) h_tape hf_tape_1) rfl rfl (Nat.le_of_ble_eq_true rfl) (Nat.le_of_ble_eq_true rfl) (Nat.le_of_ble_eq_true rfl) (Nat.le_of_ble_eq_true rfl) (Nat.le_of_ble_eq_true rfl) (Nat.le_of_ble_eq_true rfl) (by rintro E w h; rcases h with ⟨_, hr, _⟩ | ⟨_, hr, _⟩ <;> cases hr) ?_
  rintro v w h
  rcases h with ⟨hc, hr, hw⟩ | ⟨hc, hr, hw⟩
  · have hc3 := hc; clear hc; cases hr; subst hw
    refine rn_stk [] rfl ?_
    refine rn_aload_n (i := 0) dX9_type_39 rfl rfl ?_
    refine rn_get 0 kg_SG_10 (ls_ne (by decide) h_sg) hf_sg_1 dX9_type_40 ?_
    refine rn_iload_n (i := 3) dX9_type_43 rfl rfl ?_
    refine rn_lload_n (i := 1) dX9_type_44 rfl rfl ?_
    refine rn_callV (a := 0) (b := 0) [.int (0 : Int32), .long y] kl_SG_91 dX9_type_45 1 (ls_eq h_tape) rfl (c_X4_setLong G _ (o_p := o_tape) (k := (0 : Int32)) (y := y) (i_p := 1) (fs_p := (fs_tape.set 1 (.int (if (2040 : Int32) < (8 : Int32) then (2040 : Int32) else (8 : Int32))))) (r_p := r_tape) (sz_p := (if (2040 : Int32) < (8 : Int32) then (2040 : Int32) else (8 : Int32))) (j_p := 2) (f_p := f_tape) (ls_eq h_tape) (ls_ne (by decide) hf_tape_0) (ls_eq hf_tape_1) (ls_ne (by decide) h_taper) (by decide) (by decide) (by decide) (by decide) (by decide) (by decide)) rfl rfl (Nat.le_of_ble_eq_true rfl) (Nat.le_of_ble_eq_true rfl) (Nat.le_of_ble_eq_true rfl) (Nat.le_of_ble_eq_true rfl) (Nat.le_of_ble_eq_true rfl) (Nat.le_of_ble_eq_true rfl) (by rintro E w h; rcases h with ⟨_, hr, _⟩ <;> cases hr) ?_
    rintro v w h
    obtain ⟨hc4, hr, hw⟩ := h; cases hr; subst hw
    refine rn_stk [] rfl ?_
    refine rn_aload_n (i := 0) dX9_type_48 rfl rfl ?_
    refine rn_get 0 kg_SG_10 (ls_ne (by decide) (ls_ne (by decide) (ls_ne (by decide) (ls_ne (by decide) (ls_ne (by decide) (ls_ne (by decide) (ls_ne (by decide) (ls_ne (by decide) (ls_ne (by decide) h_sg))))))))) hf_sg_1 dX9_type_49 ?_
    refine rn_callV (a := 0) (b := 0) [] kl_SG_76 dX9_type_52 1 (ls_ne (by decide) (ls_ne (by decide) (ls_ne (by decide) (ls_ne (by decide) (ls_ne (by decide) (ls_ne (by decide) (ls_ne (by decide) (ls_ne (by decide) (ls_eq h_tape))))))))) rfl (c_X4_size G _ (o_p := o_tape) (i_p := 1) (fs_p := (fs_tape.set 1 (.int (if (2040 : Int32) < (8 : Int32) then (2040 : Int32) else (8 : Int32))))) (sz_p := (if (2040 : Int32) < (8 : Int32) then (2040 : Int32) else (8 : Int32))) (ls_ne (by decide) (ls_ne (by decide) (ls_ne (by decide) (ls_ne (by decide) (ls_ne (by decide) (ls_ne (by decide) (ls_ne (by decide) (ls_ne (by decide) (ls_eq h_tape))))))))) (ls_eq hf_tape_1)) rfl rfl (Nat.le_of_ble_eq_true rfl) (Nat.le_of_ble_eq_true rfl) (Nat.le_of_ble_eq_true rfl) (Nat.le_of_ble_eq_true rfl) (Nat.le_of_ble_eq_true rfl) (Nat.le_of_ble_eq_true rfl) (by rintro E w h; rcases h with ⟨_, hr, _⟩ <;> cases hr) ?_
    rintro v w h
    obtain ⟨hc5, hr, hw⟩ := h; cases hr; subst hw
    refine rn_stk [.int (if (2040 : Int32) < (8 : Int32) then (2040 : Int32) else (8 : Int32))] rfl ?_
    exact rn_iret dX9_type_55 rfl rfl ⟨⟨hc3, hc4⟩, rfl, rfl⟩
  · have hc6 := hc; clear hc; cases hr; subst hw
    exact absurd hc6 (by decide)
set_option maxRecDepth 20000 in
set_option maxHeartbeats 4000000 in
theorem c_X9_keep (G : rn_G) (ws : va_W) (o_sg : Nat) (n : Int32) (fs_sg : List Value) (o_tape : Nat) (fs_tape : List Value) (h_sg : ws[0]? = some (o_sg, Sum.inr (9, fs_sg))) (hf_sg_1 : fs_sg[1]? = some (.ref o_tape)) (h_tape : ws[1]? = some (o_tape, Sum.inr (4, fs_tape))) (hf_tape_1 : fs_tape[1]? = some (.int (0 : Int32))) : Rn G mX9_keep 6 90 1 6 0 (lv_args 0 [.ref o_sg, .int n]) [] ws (fun r w => (((n < (0 : Int32)) ∨ (¬ (n < (0 : Int32)) ∧ ¬ (n ≤ (0 : Int32)))) ∧ r = Sum.inr "java/lang/IllegalArgumentException" ∧ w = ws) ∨ ((¬ (n < (0 : Int32)) ∧ n ≤ (0 : Int32) ∧ ((0 : Int32) ≤ n)) ∧ r = Sum.inl none ∧ w = (ws.set 1 (o_tape, Sum.inr (4, (fs_tape.set 1 (.int (if (2040 : Int32) < n then (2040 : Int32) else n)))))))) := by
  refine rn_lv [(0, .ref o_sg), (1, .int n)] rfl ?_
  refine rn_iload_n (i := 1) dX9_keep_0 rfl rfl ?_
  refine rn_if_lt (tgt := 15) dX9_keep_1 (by decide) (fun h1 => ?_) (fun h1 => ?_)
  · exact rn_throw kt_SG_95_97 rfl dX9_keep_15 dX9_keep_18 dX9_keep_19 dX9_keep_21 dX9_keep_24 (Nat.le_of_ble_eq_true rfl) (Nat.le_of_ble_eq_true rfl) (Nat.le_of_ble_eq_true rfl) (Nat.le_of_ble_eq_true rfl) (Nat.le_of_ble_eq_true rfl) (Or.inl ⟨(Or.inl h1), rfl, rfl⟩)
  · refine rn_iload_n (i := 1) dX9_keep_4 rfl rfl ?_
    refine rn_aload_n (i := 0) dX9_keep_5 rfl rfl ?_
    refine rn_get 0 kg_SG_10 h_sg hf_sg_1 dX9_keep_6 ?_
    refine rn_callV (a := 1) (b := 6) [] kl_SG_76 dX9_keep_9 1 h_tape rfl (c_X4_size G _ (o_p := o_tape) (i_p := 1) (fs_p := fs_tape) (sz_p := (0 : Int32)) h_tape hf_tape_1) rfl rfl (Nat.le_of_ble_eq_true rfl) (Nat.le_of_ble_eq_true rfl) (Nat.le_of_ble_eq_true rfl) (Nat.le_of_ble_eq_true rfl) (Nat.le_of_ble_eq_true rfl) (Nat.le_of_ble_eq_true rfl) (by rintro E w h; rcases h with ⟨_, hr, _⟩ <;> cases hr) ?_
    rintro v w h
    obtain ⟨hc2, hr, hw⟩ := h; cases hr; subst hw
    refine rn_stk [.int (0 : Int32), .int n] rfl ?_
    refine rn_icmp_le (tgt := 25) dX9_keep_12 (by decide) (fun h3 => ?_) (fun h3 => ?_)
    · refine rn_aload_n (i := 0) dX9_keep_25 rfl rfl ?_
      refine rn_get 0 kg_SG_10 h_sg hf_sg_1 dX9_keep_26 ?_
      refine rn_iload_n (i := 1) dX9_keep_29 rfl rfl ?_
      refine rn_callV (a := 1) (b := 6) [.int n] kl_SG_87 dX9_keep_30 1 h_tape rfl (c_X4_resize G _ (o_p := o_tape) (n := n) (i_p := 1) (fs_p := fs_tape) (sz_p := (0 : Int32)) h_tape hf_tape_1) rfl rfl (Nat.le_of_ble_eq_true rfl) (Nat.le_of_ble_eq_true rfl) (Nat.le_of_ble_eq_true rfl) (Nat.le_of_ble_eq_true rfl) (Nat.le_of_ble_eq_true rfl) (Nat.le_of_ble_eq_true rfl) (by rintro E w h; rcases h with ⟨_, hr, _⟩ | ⟨_, hr, _⟩ <;> cases hr) ?_
      rintro v w h
      rcases h with ⟨hc, hr, hw⟩ | ⟨hc, hr, hw⟩
      · have hc4 := hc; clear hc; cases hr; subst hw
        refine rn_stk [] rfl ?_
        exact rn_vret dX9_keep_33 rfl (Or.inr ⟨⟨h1, h3, hc4⟩, rfl, rfl⟩)
      · have hc5 := hc; clear hc; cases hr; subst hw
        exfalso; have g0 := i32_rng n; simp only [Int32.lt_iff_toInt_lt, Int32.le_iff_toInt_le, gt_iff_lt, ge_iff_le, ← Int32.toInt_inj, i32_0] at *; omega
    · exact rn_throw kt_SG_95_97 rfl dX9_keep_15 dX9_keep_18 dX9_keep_19 dX9_keep_21 dX9_keep_24 (Nat.le_of_ble_eq_true rfl) (Nat.le_of_ble_eq_true rfl) (Nat.le_of_ble_eq_true rfl) (Nat.le_of_ble_eq_true rfl) (Nat.le_of_ble_eq_true rfl) (Or.inl ⟨(Or.inr ⟨h1, h3⟩), rfl, rfl⟩)
set_option maxRecDepth 20000 in
set_option maxHeartbeats 4000000 in
theorem c_X9_at (G : rn_G) (ws : va_W) (o_sg : Nat) (k : Int32) (fs_sg : List Value) (o_tape : Nat) (fs_tape : List Value) (h_sg : ws[0]? = some (o_sg, Sum.inr (9, fs_sg))) (hf_sg_1 : fs_sg[1]? = some (.ref o_tape)) (h_tape : ws[1]? = some (o_tape, Sum.inr (4, fs_tape))) (hf_tape_1 : fs_tape[1]? = some (.int (0 : Int32))) : Rn G mX9_at 6 90 1 6 0 (lv_args 0 [.ref o_sg, .int k]) [] ws (fun r w => (((k < (0 : Int32)) ∨ (¬ (k < (0 : Int32)) ∧ ¬ (k < (0 : Int32)))) ∧ r = Sum.inr "java/lang/IndexOutOfBoundsException" ∧ w = ws)) := by
  refine rn_lv [(0, .ref o_sg), (1, .int k)] rfl ?_
  refine rn_iload_n (i := 1) dX9_at_0 rfl rfl ?_
  refine rn_if_lt (tgt := 15) dX9_at_1 (by decide) (fun h1 => ?_) (fun h1 => ?_)
  · exact rn_throw kt_SG_114_116 rfl dX9_at_15 dX9_at_18 dX9_at_19 dX9_at_21 dX9_at_24 (Nat.le_of_ble_eq_true rfl) (Nat.le_of_ble_eq_true rfl) (Nat.le_of_ble_eq_true rfl) (Nat.le_of_ble_eq_true rfl) (Nat.le_of_ble_eq_true rfl) ⟨(Or.inl h1), rfl, rfl⟩
  · refine rn_iload_n (i := 1) dX9_at_4 rfl rfl ?_
    refine rn_aload_n (i := 0) dX9_at_5 rfl rfl ?_
    refine rn_get 0 kg_SG_10 h_sg hf_sg_1 dX9_at_6 ?_
    refine rn_callV (a := 1) (b := 6) [] kl_SG_76 dX9_at_9 1 h_tape rfl (c_X4_size G _ (o_p := o_tape) (i_p := 1) (fs_p := fs_tape) (sz_p := (0 : Int32)) h_tape hf_tape_1) rfl rfl (Nat.le_of_ble_eq_true rfl) (Nat.le_of_ble_eq_true rfl) (Nat.le_of_ble_eq_true rfl) (Nat.le_of_ble_eq_true rfl) (Nat.le_of_ble_eq_true rfl) (Nat.le_of_ble_eq_true rfl) (by rintro E w h; rcases h with ⟨_, hr, _⟩ <;> cases hr) ?_
    rintro v w h
    obtain ⟨hc2, hr, hw⟩ := h; cases hr; subst hw
    refine rn_stk [.int (0 : Int32), .int k] rfl ?_
    refine rn_icmp_lt (tgt := 25) dX9_at_12 (by decide) (fun h3 => False.elim (by have g0 := i32_rng k; simp only [Int32.lt_iff_toInt_lt, Int32.le_iff_toInt_le, gt_iff_lt, ge_iff_le, ← Int32.toInt_inj, i32_0] at *; omega)) (fun h3 => ?_)
    exact rn_throw kt_SG_114_116 rfl dX9_at_15 dX9_at_18 dX9_at_19 dX9_at_21 dX9_at_24 (Nat.le_of_ble_eq_true rfl) (Nat.le_of_ble_eq_true rfl) (Nat.le_of_ble_eq_true rfl) (Nat.le_of_ble_eq_true rfl) (Nat.le_of_ble_eq_true rfl) ⟨(Or.inr ⟨h1, h3⟩), rfl, rfl⟩
set_option maxRecDepth 20000 in
set_option maxHeartbeats 4000000 in
theorem c_X9_poke (G : rn_G) (ws : va_W) (o_sg : Nat) (k : Int32) (x : Int32) (fs_sg : List Value) (o_tape : Nat) (fs_tape : List Value) (h_sg : ws[0]? = some (o_sg, Sum.inr (9, fs_sg))) (hf_sg_1 : fs_sg[1]? = some (.ref o_tape)) (h_tape : ws[1]? = some (o_tape, Sum.inr (4, fs_tape))) (hf_tape_1 : fs_tape[1]? = some (.int (0 : Int32))) : Rn G mX9_poke 7 111 1 6 0 (lv_args 0 [.ref o_sg, .int k, .int x]) [] ws (fun r w => ((((k < (0 : Int32)) ∨ (¬ (k < (0 : Int32)) ∧ ¬ (k < (0 : Int32))))) ∧ r = Sum.inr "java/lang/IndexOutOfBoundsException" ∧ w = ws)) := by
  refine rn_lv [(0, .ref o_sg), (1, .int k), (2, .int x)] rfl ?_
  refine rn_aload_n (i := 0) dX9_poke_0 rfl rfl ?_
  refine rn_iload_n (i := 1) dX9_poke_1 rfl rfl ?_
  refine rn_callV (a := 0) (b := 0) [.int k] kl_SG_100 dX9_poke_2 0 h_sg rfl (c_X9_at G _ (o_sg := o_sg) (k := k) (fs_sg := fs_sg) (o_tape := o_tape) (fs_tape := fs_tape) h_sg hf_sg_1 h_tape hf_tape_1) rfl rfl (Nat.le_of_ble_eq_true rfl) (Nat.le_of_ble_eq_true rfl) (Nat.le_of_ble_eq_true rfl) (Nat.le_of_ble_eq_true rfl) (Nat.le_of_ble_eq_true rfl) (Nat.le_of_ble_eq_true rfl) ?_ ?_
  · rintro E w h
    rcases h with ⟨hc, hr, hw⟩
    · have hc1 := hc; clear hc; cases hr; subst hw
      exact rnx_out rfl ⟨hc1, rfl, rfl⟩
  · rintro v w h
    obtain ⟨_, hr, _⟩ := h; cases hr
set_option maxRecDepth 20000 in
set_option maxHeartbeats 4000000 in
theorem c_X9_sum (G : rn_G) (ws : va_W) (o_sg : Nat) (fs_sg : List Value) (o_tape : Nat) (fs_tape : List Value) (h_sg : ws[0]? = some (o_sg, Sum.inr (9, fs_sg))) (hf_sg_1 : fs_sg[1]? = some (.ref o_tape)) (h_tape : ws[1]? = some (o_tape, Sum.inr (4, fs_tape))) (hf_tape_1 : fs_tape[1]? = some (.int (0 : Int32))) : Rn G mX9_sum 6 90 1 6 0 (lv_args 0 [.ref o_sg]) [] ws (fun r w => (True ∧ r = Sum.inr "java/lang/IllegalStateException" ∧ w = ws)) := by
  refine rn_lv [(0, .ref o_sg)] rfl ?_
  refine rn_aload_n (i := 0) dX9_sum_0 rfl rfl ?_
  refine rn_get 0 kg_SG_10 h_sg hf_sg_1 dX9_sum_1 ?_
  refine rn_callV (a := 1) (b := 6) [] kl_SG_76 dX9_sum_4 1 h_tape rfl (c_X4_size G _ (o_p := o_tape) (i_p := 1) (fs_p := fs_tape) (sz_p := (0 : Int32)) h_tape hf_tape_1) rfl rfl (Nat.le_of_ble_eq_true rfl) (Nat.le_of_ble_eq_true rfl) (Nat.le_of_ble_eq_true rfl) (Nat.le_of_ble_eq_true rfl) (Nat.le_of_ble_eq_true rfl) (Nat.le_of_ble_eq_true rfl) (by rintro E w h; rcases h with ⟨_, hr, _⟩ <;> cases hr) ?_
  rintro v w h
  obtain ⟨hc1, hr, hw⟩ := h; cases hr; subst hw
  refine rn_stk [.int (0 : Int32)] rfl ?_
  refine rn_bipush (v := (20 : Int32)) dX9_sum_7 (by decide) ?_
  refine rn_icmp_ge (tgt := 22) dX9_sum_9 (by decide) (fun h2 => absurd h2 (by decide)) (fun h2 => ?_)
  exact rn_throw kt_SG_80_131 rfl dX9_sum_12 dX9_sum_15 dX9_sum_16 dX9_sum_18 dX9_sum_21 (Nat.le_of_ble_eq_true rfl) (Nat.le_of_ble_eq_true rfl) (Nat.le_of_ble_eq_true rfl) (Nat.le_of_ble_eq_true rfl) (Nat.le_of_ble_eq_true rfl) ⟨trivial, rfl, rfl⟩
set_option maxRecDepth 20000 in
set_option maxHeartbeats 4000000 in
theorem c_X7_isFull (G : rn_G) (ws : va_W) (o_routes : Nat) (fs_routes : List Value) (h_routes : ws[11]? = some (o_routes, Sum.inr (7, fs_routes))) (hf_routes_2 : fs_routes[2]? = some (.int (0 : Int32))) : Rn G mX7_isFull 0 0 0 0 0 (lv_args 0 [.ref o_routes]) [] ws (fun r w => (True ∧ r = Sum.inl (some (.int (0 : Int32))) ∧ w = ws)) := by
  refine rn_lv [(0, .ref o_routes)] rfl ?_
  refine rn_aload_n (i := 0) dX7_isFull_0 rfl rfl ?_
  refine rn_get 11 kg_SG_Routes_21 h_routes hf_routes_2 dX7_isFull_1 ?_
  refine rn_bipush (v := (16 : Int32)) dX7_isFull_4 (by decide) ?_
  refine rn_icmp_lt (tgt := 13) dX7_isFull_6 (by decide) (fun h1 => ?_) (fun h1 => absurd h1 (by decide))
  refine rn_iconst (v := (0 : Int32)) dX7_isFull_13 (by decide) ?_
  exact rn_iret dX7_isFull_14 rfl rfl ⟨trivial, rfl, rfl⟩
set_option maxRecDepth 20000 in
set_option maxHeartbeats 4000000 in
theorem c_X3_init (G : rn_G) (ws : va_W) (o_net : Nat) (x : Int32) (y : Int32) (i_net : Nat) (fs_net : List Value) (v0 : Int32) (v1 : Int32) (h_net : ws[i_net]? = some (o_net, Sum.inr (3, fs_net))) (hf_net_0 : fs_net[0]? = some (.int v0)) (hf_net_1 : fs_net[1]? = some (.int v1)) : Rn G mX3_init 1 20 0 0 0 (lv_args 0 [.ref o_net, .int x, .int y]) [] ws (fun r w => (True ∧ r = Sum.inl none ∧ w = ((ws.set i_net (o_net, Sum.inr (3, (fs_net.set 0 (.int x))))).set i_net (o_net, Sum.inr (3, ((fs_net.set 0 (.int x)).set 1 (.int y))))))) := by
  refine rn_lv [(0, .ref o_net), (1, .int x), (2, .int y)] rfl ?_
  refine rn_aload_n (i := 0) dX3_init_0 rfl rfl ?_
  refine rn_objInit wd_457 wd_27 wd_28 dX3_init_1 (Nat.le_of_ble_eq_true rfl) (Nat.le_of_ble_eq_true rfl) (Nat.le_of_ble_eq_true rfl) ?_
  refine rn_aload_n (i := 0) dX3_init_4 rfl rfl ?_
  refine rn_iload_n (i := 1) dX3_init_5 rfl rfl ?_
  refine rn_put i_net kp_SG_Net_7 h_net (ls_lt hf_net_0) rfl rfl dX3_init_6 ?_
  refine rn_aload_n (i := 0) dX3_init_9 rfl rfl ?_
  refine rn_iload_n (i := 2) dX3_init_10 rfl rfl ?_
  refine rn_put i_net kp_SG_Net_13 (ls_eq h_net) (ls_lt (ls_ne (by decide) hf_net_1)) rfl rfl dX3_init_11 ?_
  exact rn_vret dX3_init_14 rfl ⟨trivial, rfl, rfl⟩
set_option maxRecDepth 20000 in
set_option maxHeartbeats 4000000 in
theorem c_X7_append (G : rn_G) (ws : va_W) (o_routes : Nat) (o_net : Nat) (x : Int32) (o_nets : Nat) (o_ports : Nat) (fs_routes : List Value) (i_net : Nat) (fs_net : List Value) (h_nets : ws[12]? = some (o_nets, Sum.inl (rn_k G 4, 16, Sum.inr (Sum.inr (Sum.inr (Sum.inr (fun _ => none))))))) (h_ports : ws[13]? = some (o_ports, Sum.inl (rn_k G 1, 16, Sum.inl (fun _ => 0)))) (h_routes : ws[11]? = some (o_routes, Sum.inr (7, fs_routes))) (hf_routes_0 : fs_routes[0]? = some (.ref o_nets)) (hf_routes_1 : fs_routes[1]? = some (.ref o_ports)) (hf_routes_2 : fs_routes[2]? = some (.int (0 : Int32))) (h_net : ws[i_net]? = some (o_net, Sum.inr (3, fs_net))) : Rn G mX7_append 0 0 0 0 0 (lv_args 0 [.ref o_routes, .ref o_net, .int x]) [] ws (fun r w => (True ∧ r = Sum.inl (some (.int (1 : Int32))) ∧ w = (((ws.set 12 (o_nets, Sum.inl (rn_k G 4, 16, Sum.inr (Sum.inr (Sum.inr (Sum.inr (va_up (fun _ => none) ((0 : Int32)).toNatClampNeg (some o_net)))))))).set 13 (o_ports, Sum.inl (rn_k G 1, 16, Sum.inl (upd (fun _ => 0) ((0 : Int32)).toNatClampNeg x)))).set 11 (o_routes, Sum.inr (7, (fs_routes.set 2 (.int (1 : Int32)))))))) := by
  refine rn_lv [(0, .ref o_routes), (1, .ref o_net), (2, .int x)] rfl ?_
  refine rn_aload_n (i := 0) dX7_append_0 rfl rfl ?_
  refine rn_get 11 kg_SG_Routes_21 h_routes hf_routes_2 dX7_append_1 ?_
  refine rn_if_lt (tgt := 46) dX7_append_4 (by decide) (fun h1 => absurd h1 (by decide)) (fun h1 => ?_)
  refine rn_aload_n (i := 0) dX7_append_7 rfl rfl ?_
  refine rn_get 11 kg_SG_Routes_21 h_routes hf_routes_2 dX7_append_8 ?_
  refine rn_bipush (v := (16 : Int32)) dX7_append_11 (by decide) ?_
  refine rn_icmp_ge (tgt := 46) dX7_append_13 (by decide) (fun h2 => absurd h2 (by decide)) (fun h2 => ?_)
  refine rn_aload_n (i := 0) dX7_append_16 rfl rfl ?_
  refine rn_get 11 kg_SG_Routes_13 h_routes hf_routes_0 dX7_append_17 ?_
  refine rn_aload_n (i := 0) dX7_append_20 rfl rfl ?_
  refine rn_get 11 kg_SG_Routes_21 h_routes hf_routes_2 dX7_append_21 ?_
  refine rn_aload_n (i := 1) dX7_append_24 rfl rfl ?_
  refine rn_aast 12 4 i_net 3 h_nets rfl h_net rfl (by unfold vp_in; decide) dX7_append_25 ?_
  refine rn_aload_n (i := 0) dX7_append_26 rfl rfl ?_
  refine rn_get 11 kg_SG_Routes_17 (ls_ne (by decide) h_routes) hf_routes_1 dX7_append_27 ?_
  refine rn_aload_n (i := 0) dX7_append_30 rfl rfl ?_
  refine rn_get 11 kg_SG_Routes_21 (ls_ne (by decide) h_routes) hf_routes_2 dX7_append_31 ?_
  refine rn_iload_n (i := 2) dX7_append_34 rfl rfl ?_
  refine rn_iast 13 1 (ls_ne (by decide) h_ports) rfl (by unfold vp_in; decide) dX7_append_35 ?_
  refine rn_aload_n (i := 0) dX7_append_36 rfl rfl ?_
  refine rn_dup dX7_append_37 rfl ?_
  refine rn_get 11 kg_SG_Routes_21 (ls_ne (by decide) (ls_ne (by decide) h_routes)) hf_routes_2 dX7_append_38 ?_
  refine rn_iconst (v := (1 : Int32)) dX7_append_41 (by decide) ?_
  refine rn_iadd dX7_append_42 ?_
  refine rn_topi (1 : Int32) (by decide) ?_
  refine rn_put 11 (kp_SG_Routes_21 _) (ls_ne (by decide) (ls_ne (by decide) h_routes)) (ls_lt hf_routes_2) rfl rfl dX7_append_43 ?_
  refine rn_aload_n (i := 0) dX7_append_46 rfl rfl ?_
  refine rn_get 11 kg_SG_Routes_21 (ls_eq (ls_ne (by decide) (ls_ne (by decide) h_routes))) (ls_eq hf_routes_2) dX7_append_47 ?_
  exact rn_iret dX7_append_50 rfl rfl ⟨trivial, rfl, rfl⟩
set_option maxRecDepth 20000 in
set_option maxHeartbeats 4000000 in
theorem c_X9_route (G : rn_G) (ws : va_W) (o_sg : Nat) (x : Int32) (y : Int32) (u : Int32) (fs_sg : List Value) (o_routes : Nat) (o_nets : Nat) (o_ports : Nat) (fs_routes : List Value) (L : Nat) (h_sg : ws[0]? = some (o_sg, Sum.inr (9, fs_sg))) (hf_sg_7 : fs_sg[7]? = some (.ref o_routes)) (h_nets : ws[12]? = some (o_nets, Sum.inl (rn_k G 4, 16, Sum.inr (Sum.inr (Sum.inr (Sum.inr (fun _ => none))))))) (h_ports : ws[13]? = some (o_ports, Sum.inl (rn_k G 1, 16, Sum.inl (fun _ => 0)))) (h_routes : ws[11]? = some (o_routes, Sum.inr (7, fs_routes))) (hf_routes_0 : fs_routes[0]? = some (.ref o_nets)) (hf_routes_1 : fs_routes[1]? = some (.ref o_ports)) (hf_routes_2 : fs_routes[2]? = some (.int (0 : Int32))) (hne_L_11 : L ≠ 11) (hne_L_12 : L ≠ 12) (hne_L_13 : L ≠ 13) (hlen : ws.length = L) : Rn G mX9_route 6 90 1 6 0 (lv_args 0 [.ref o_sg, .int x, .int y, .int u]) [] ws (fun r w => (((((y < (0 : Int32)) ∨ (¬ (y < (0 : Int32)) ∧ (32 : Int32) < y))) ∨ ((¬ (y < (0 : Int32)) ∧ ¬ ((32 : Int32) < y)) ∧ (¬ (u = (0 : Int32)) ∧ ¬ (u = (1 : Int32))))) ∧ r = Sum.inr "java/lang/IllegalArgumentException" ∧ w = ws) ∨ (∃ q9 : Nat, ((¬ (y < (0 : Int32)) ∧ ¬ ((32 : Int32) < y)) ∧ ((u = (0 : Int32)) ∨ (¬ (u = (0 : Int32)) ∧ u = (1 : Int32)))) ∧ r = Sum.inl (some (.int (1 : Int32))) ∧ w = ((((((ws ++ [(q9, Sum.inr (3, fs0_3))]).set L (q9, Sum.inr (3, (fs0_3.set 0 (.int x))))).set L (q9, Sum.inr (3, ((fs0_3.set 0 (.int x)).set 1 (.int y))))).set 12 (o_nets, Sum.inl (rn_k G 4, 16, Sum.inr (Sum.inr (Sum.inr (Sum.inr (va_up (fun _ => none) ((0 : Int32)).toNatClampNeg (some q9)))))))).set 13 (o_ports, Sum.inl (rn_k G 1, 16, Sum.inl (upd (fun _ => 0) ((0 : Int32)).toNatClampNeg u)))).set 11 (o_routes, Sum.inr (7, (fs_routes.set 2 (.int (1 : Int32)))))))) := by
  refine rn_lv [(0, .ref o_sg), (1, .int x), (2, .int y), (3, .int u)] rfl ?_
  refine rn_iload_n (i := 2) dX9_route_0 rfl rfl ?_
  refine rn_callS (a := 1) (b := 6) [.int y] kl_SG_133 dX9_route_1 (c_X9_isWidth G _ (x := y)) rfl rfl (Nat.le_of_ble_eq_true rfl) (Nat.le_of_ble_eq_true rfl) (Nat.le_of_ble_eq_true rfl) (Nat.le_of_ble_eq_true rfl) (Nat.le_of_ble_eq_true rfl) (Nat.le_of_ble_eq_true rfl) (by rintro E w h; rcases h with ⟨_, hr, _⟩ | ⟨_, hr, _⟩ <;> cases hr) ?_
  rintro v w h
  rcases h with ⟨hc, hr, hw⟩ | ⟨hc, hr, hw⟩
  · have hc1 := hc; clear hc; cases hr; subst hw
    refine rn_stk [.int (0 : Int32)] rfl ?_
    refine rn_if_eq (tgt := 14) dX9_route_4 (by decide) (fun h2 => ?_) (fun h2 => absurd h2 (by decide))
    exact rn_throw kt_SG_95_139 rfl dX9_route_14 dX9_route_17 dX9_route_18 dX9_route_20 dX9_route_23 (Nat.le_of_ble_eq_true rfl) (Nat.le_of_ble_eq_true rfl) (Nat.le_of_ble_eq_true rfl) (Nat.le_of_ble_eq_true rfl) (Nat.le_of_ble_eq_true rfl) (Or.inl ⟨(Or.inl hc1), rfl, rfl⟩)
  · have hc3 := hc; clear hc; cases hr; subst hw
    refine rn_stk [.int (1 : Int32)] rfl ?_
    refine rn_if_eq (tgt := 14) dX9_route_4 (by decide) (fun h4 => absurd h4 (by decide)) (fun h4 => ?_)
    refine rn_iload_n (i := 3) dX9_route_7 rfl rfl ?_
    refine rn_callS (a := 1) (b := 6) [.int u] kl_SG_136 dX9_route_8 (c_X9_isPortOrWay G _ (x := u)) rfl rfl (Nat.le_of_ble_eq_true rfl) (Nat.le_of_ble_eq_true rfl) (Nat.le_of_ble_eq_true rfl) (Nat.le_of_ble_eq_true rfl) (Nat.le_of_ble_eq_true rfl) (Nat.le_of_ble_eq_true rfl) (by rintro E w h; rcases h with ⟨_, hr, _⟩ | ⟨_, hr, _⟩ <;> cases hr) ?_
    rintro v w h
    rcases h with ⟨hc, hr, hw⟩ | ⟨hc, hr, hw⟩
    · have hc5 := hc; clear hc; cases hr; subst hw
      refine rn_stk [.int (1 : Int32)] rfl ?_
      refine rn_if_ne (tgt := 24) dX9_route_11 (by decide) (fun h6 => ?_) (fun h6 => absurd h6 (by decide))
      refine rn_aload_n (i := 0) dX9_route_24 rfl rfl ?_
      refine rn_get 0 kg_SG_35 h_sg hf_sg_7 dX9_route_25 ?_
      refine rn_callV (a := 1) (b := 6) [] kl_SG_141 dX9_route_28 11 h_routes rfl (c_X7_isFull G _ (o_routes := o_routes) (fs_routes := fs_routes) h_routes hf_routes_2) rfl rfl (Nat.le_of_ble_eq_true rfl) (Nat.le_of_ble_eq_true rfl) (Nat.le_of_ble_eq_true rfl) (Nat.le_of_ble_eq_true rfl) (Nat.le_of_ble_eq_true rfl) (Nat.le_of_ble_eq_true rfl) (by rintro E w h; rcases h with ⟨_, hr, _⟩ <;> cases hr) ?_
      rintro v w h
      obtain ⟨hc7, hr, hw⟩ := h; cases hr; subst hw
      refine rn_stk [.int (0 : Int32)] rfl ?_
      refine rn_if_eq (tgt := 44) dX9_route_31 (by decide) (fun h8 => ?_) (fun h8 => absurd h8 (by decide))
      refine rn_aload_n (i := 0) dX9_route_44 rfl rfl ?_
      refine rn_get 0 kg_SG_35 h_sg hf_sg_7 dX9_route_45 ?_
      refine rn_new (a := 0) (b := 4) kn_SG_147 (Nat.le_of_ble_eq_true rfl) (Nat.le_of_ble_eq_true rfl) dX9_route_48 (fun q9 => ?_)
      refine rn_dup dX9_route_51 rfl ?_
      refine rn_iload_n (i := 1) dX9_route_52 rfl rfl ?_
      refine rn_iload_n (i := 2) dX9_route_53 rfl rfl ?_
      refine rn_callI (a := 0) (b := 4) [.int x, .int y] kl_SG_149 dX9_route_54 (c_X3_init G _ (o_net := q9) (x := x) (y := y) (i_net := L) (fs_net := fs0_3) (v0 := (0 : Int32)) (v1 := (0 : Int32)) (la_new hlen) rfl rfl) (by rintro E w h; rcases h with ⟨_, hr, _⟩ <;> cases hr) rfl rfl (Nat.le_of_ble_eq_true rfl) (Nat.le_of_ble_eq_true rfl) (Nat.le_of_ble_eq_true rfl) (Nat.le_of_ble_eq_true rfl) (Nat.le_of_ble_eq_true rfl) (Nat.le_of_ble_eq_true rfl) ?_
      rintro v w h
      obtain ⟨hc10, hr, hw⟩ := h; cases hr; subst hw
      refine rn_stk [.ref q9, .ref o_routes] rfl ?_
      refine rn_iload_n (i := 3) dX9_route_57 rfl rfl ?_
      refine rn_callV (a := 0) (b := 4) [.ref q9, .int u] kl_SG_151 dX9_route_58 11 (ls_ne hne_L_11 (ls_ne hne_L_11 (la_old h_routes))) rfl (c_X7_append G _ (o_routes := o_routes) (o_net := q9) (x := u) (o_nets := o_nets) (o_ports := o_ports) (fs_routes := fs_routes) (i_net := L) (fs_net := ((fs0_3.set 0 (.int x)).set 1 (.int y))) (ls_ne hne_L_12 (ls_ne hne_L_12 (la_old h_nets))) (ls_ne hne_L_13 (ls_ne hne_L_13 (la_old h_ports))) (ls_ne hne_L_11 (ls_ne hne_L_11 (la_old h_routes))) hf_routes_0 hf_routes_1 hf_routes_2 (ls_eq (ls_eq (la_new hlen)))) rfl rfl (Nat.le_of_ble_eq_true rfl) (Nat.le_of_ble_eq_true rfl) (Nat.le_of_ble_eq_true rfl) (Nat.le_of_ble_eq_true rfl) (Nat.le_of_ble_eq_true rfl) (Nat.le_of_ble_eq_true rfl) (by rintro E w h; rcases h with ⟨_, hr, _⟩ <;> cases hr) ?_
      rintro v w h
      obtain ⟨hc11, hr, hw⟩ := h; cases hr; subst hw
      refine rn_stk [.int (1 : Int32)] rfl ?_
      exact rn_iret dX9_route_61 rfl rfl (Or.inr ⟨q9, ⟨hc3, hc5⟩, rfl, rfl⟩)
    · have hc12 := hc; clear hc; cases hr; subst hw
      refine rn_stk [.int (0 : Int32)] rfl ?_
      refine rn_if_ne (tgt := 24) dX9_route_11 (by decide) (fun h13 => absurd h13 (by decide)) (fun h13 => ?_)
      exact rn_throw kt_SG_95_139 rfl dX9_route_14 dX9_route_17 dX9_route_18 dX9_route_20 dX9_route_23 (Nat.le_of_ble_eq_true rfl) (Nat.le_of_ble_eq_true rfl) (Nat.le_of_ble_eq_true rfl) (Nat.le_of_ble_eq_true rfl) (Nat.le_of_ble_eq_true rfl) (Or.inl ⟨(Or.inr ⟨hc3, hc12⟩), rfl, rfl⟩)
