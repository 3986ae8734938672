set_option maxRecDepth 20000 in
set_option maxHeartbeats 4000000 in
theorem c_X10_setSum (G : rn_G) (ws : va_W) (o_m : Nat) (p : Int32) (fs_m : List Value) (a_bytes : Nat) (g_bytes : Nat → Int32) (h_m : ws[23]? = some (o_m, Sum.inr (10, fs_m))) (hf_m_2 : fs_m[2]? = some (.ref a_bytes)) (h_m_bytes : ws[24]? = some (a_bytes, Sum.inl (rn_k G 1, 22000, Sum.inl g_bytes))) (hp0 : (0 : Int32) ≤ p) (hp1 : p ≤ (21900 : Int32)) : Rn G mX10_setSum 2 45 0 0 0 (lv_args 0 [.ref o_m, .int p]) [] ws (fun r w => (∃ hv1 : Int32, True ∧ r = Sum.inl none ∧ w = ((ws.set 24 (a_bytes, Sum.inl (rn_k G 1, 22000, Sum.inl (upd g_bytes ((p + (10 : Int32))).toNatClampNeg ((((65535 : Int32) - hv1) >>> ((8 : Int32) &&& 31)) &&& (255 : Int32)))))).set 24 (a_bytes, Sum.inl (rn_k G 1, 22000, Sum.inl (upd (upd g_bytes ((p + (10 : Int32))).toNatClampNeg ((((65535 : Int32) - hv1) >>> ((8 : Int32) &&& 31)) &&& (255 : Int32))) (((p + (10 : Int32)) + (1 : Int32))).toNatClampNeg (((65535 : Int32) - hv1) &&& (255 : Int32)))))))) := by
  refine rn_lv [(0, .ref o_m), (1, .int p)] rfl ?_
  refine rn_aload_n (i := 0) dX10_setSum_0 rfl rfl ?_
  refine rn_iload_n (i := 1) dX10_setSum_1 rfl rfl ?_
  refine rn_bipush (v := (10 : Int32)) dX10_setSum_2 (by decide) ?_
  refine rn_iadd dX10_setSum_4 ?_
  refine rn_ldc (v := (65535 : Int32)) wd_1093 dX10_setSum_5 ?_
  refine rn_aload_n (i := 0) dX10_setSum_7 rfl rfl ?_
  refine rn_iload_n (i := 1) dX10_setSum_8 rfl rfl ?_
  refine rn_iconst (v := (0 : Int32)) dX10_setSum_9 (by decide) ?_
  refine rn_callV (a := 0) (b := 0) [.int p, .int (0 : Int32)] kl_SGModel_151 dX10_setSum_10 23 h_m rfl (c_X10_fold G _ (o_m := o_m) (p := p) (fs_m := fs_m) (a_bytes := a_bytes) (g_bytes := g_bytes) h_m hf_m_2 h_m_bytes (by have g0 := i32_rng p; simp only [Int32.lt_iff_toInt_lt, Int32.le_iff_toInt_le, gt_iff_lt, ge_iff_le, ← Int32.toInt_inj, i32_0, i32_21900] at *; omega) (by have g0 := i32_rng p; simp only [Int32.lt_iff_toInt_lt, Int32.le_iff_toInt_le, gt_iff_lt, ge_iff_le, ← Int32.toInt_inj, i32_0, i32_21900] at *; omega)) rfl rfl (Nat.le_of_ble_eq_true rfl) (Nat.le_of_ble_eq_true rfl) (Nat.le_of_ble_eq_true rfl) (Nat.le_of_ble_eq_true rfl) (Nat.le_of_ble_eq_true rfl) (Nat.le_of_ble_eq_true rfl) (by rintro E w h; rcases h with ⟨_, _, hr, _⟩ <;> cases hr) ?_
  rintro v w h
  obtain ⟨hv1, hc2, hr, hw⟩ := h; cases hr; subst hw
  refine rn_stk [.int hv1, .int (65535 : Int32), .int (p + (10 : Int32)), .ref o_m] rfl ?_
  refine rn_isub dX10_setSum_13 ?_
  refine rn_callV (a := 0) (b := 0) [.int (p + (10 : Int32)), .int ((65535 : Int32) - hv1)] kl_SGModel_144 dX10_setSum_14 23 h_m rfl (c_X10_putTwo G _ (o_m := o_m) (p := (p + (10 : Int32))) (x := ((65535 : Int32) - hv1)) (fs_m := fs_m) (a_bytes := a_bytes) (g_bytes := g_bytes) h_m hf_m_2 h_m_bytes (by obtain ⟨k0, e0⟩ := i32_add p (10 : Int32); have g0 := i32_rng p; simp only [Int32.lt_iff_toInt_lt, Int32.le_iff_toInt_le, gt_iff_lt, ge_iff_le, ← Int32.toInt_inj, i32_0, i32_10, i32_21900] at *; omega) (by obtain ⟨k0, e0⟩ := i32_add p (10 : Int32); have g0 := i32_rng p; simp only [Int32.lt_iff_toInt_lt, Int32.le_iff_toInt_le, gt_iff_lt, ge_iff_le, ← Int32.toInt_inj, i32_0, i32_10, i32_21900, i32_21990] at *; omega)) rfl rfl (Nat.le_of_ble_eq_true rfl) (Nat.le_of_ble_eq_true rfl) (Nat.le_of_ble_eq_true rfl) (Nat.le_of_ble_eq_true rfl) (Nat.le_of_ble_eq_true rfl) (Nat.le_of_ble_eq_true rfl) (by rintro E w h; rcases h with ⟨_, hr, _⟩ <;> cases hr) ?_
  rintro v w h
  obtain ⟨hc3, hr, hw⟩ := h; cases hr; subst hw
  refine rn_stk [] rfl ?_
  exact rn_vret dX10_setSum_17 rfl ⟨hv1, trivial, rfl, rfl⟩
set_option maxRecDepth 20000 in
set_option maxHeartbeats 4000000 in
theorem mk10_loop (G : rn_G) (o_m a_bytes : Nat) (fs_m : List Value) (t0 : Int32) (n number : Int32) (hn0 : (0 : Int32) ≤ n) (hn1 : n ≤ (1480 : Int32)) (m : Nat) : ∀ (ws : va_W) (g : Nat → Int32) (k : Int32), ws[23]? = some (o_m, Sum.inr (10, fs_m)) → fs_m[0]? = some (.int (0 : Int32)) → fs_m[2]? = some (.ref a_bytes) → fs_m[3]? = some (.int t0) → ws[24]? = some (a_bytes, Sum.inl (rn_k G 1, 22000, Sum.inl g)) → (0 : Int32) ≤ k → n.toInt - k.toInt ≤ m → Rn G mX10_make 3 66 0 0 108 [(0, .ref o_m), (5, .int n), (6, .int number), (7, .int k)] [] ws (fun r w => r = Sum.inl (some (.int ((20 : Int32) + n))) ∧ (∃ fs9 : List Value, w[23]? = some (o_m, Sum.inr (10, fs9)) ∧ fs9[0]? = some (.int (0 : Int32))) ∧ ∀ p : Nat, p ≠ 23 → p ≠ 24 → w[p]? = ws[p]?) := by
  induction m with
  | zero =>
    intro ws g k h_m hf_m_0 hf_m_2 hf_m_3 h_m_bytes hk0 hm
    have hmk : n ≤ k := by rw [Int32.le_iff_toInt_le]; omega
    refine rn_iload dX10_make_108 rfl ?_
    refine rn_iload dX10_make_110 rfl ?_
    refine rn_icmp_ge (tgt := 140) dX10_make_112 (by decide) (fun h1 => ?_) (fun h1 => False.elim (by have g0 := i32_rng n; have g1 := i32_rng k; simp only [Int32.lt_iff_toInt_lt, Int32.le_iff_toInt_le, gt_iff_lt, ge_iff_le, ← Int32.toInt_inj, i32_0, i32_1480] at *; omega))
    refine rn_aload_n (i := 0) dX10_make_140 rfl rfl ?_
    refine rn_iconst (v := (0 : Int32)) dX10_make_141 (by decide) ?_
    refine rn_callV (a := 0) (b := 0) [.int (0 : Int32)] kl_SGModel_184 dX10_make_142 23 h_m rfl (c_X10_setSum G _ (o_m := o_m) (p := (0 : Int32)) (fs_m := fs_m) (a_bytes := a_bytes) (g_bytes := g) h_m hf_m_2 h_m_bytes (by decide) (by decide)) rfl rfl (Nat.le_of_ble_eq_true rfl) (Nat.le_of_ble_eq_true rfl) (Nat.le_of_ble_eq_true rfl) (Nat.le_of_ble_eq_true rfl) (Nat.le_of_ble_eq_true rfl) (Nat.le_of_ble_eq_true rfl) (by rintro E w h; rcases h with ⟨_, _, hr, _⟩ <;> cases hr) ?_
    rintro v w h
    obtain ⟨hv2, hc3, hr, hw⟩ := h; cases hr; subst hw
    refine rn_stk [] rfl ?_
    refine rn_aload_n (i := 0) dX10_make_145 rfl rfl ?_
    refine rn_bipush (v := (20 : Int32)) dX10_make_146 (by decide) ?_
    refine rn_iload dX10_make_148 rfl ?_
    refine rn_iadd dX10_make_150 ?_
    refine rn_put 23 (kp_SGModel_168 _) (ls_ne (by decide) (ls_ne (by decide) h_m)) (ls_lt hf_m_3) rfl rfl dX10_make_151 ?_
    refine rn_aload_n (i := 0) dX10_make_154 rfl rfl ?_
    refine rn_get 23 kg_SGModel_168 (ls_eq (ls_ne (by decide) (ls_ne (by decide) h_m))) (ls_eq hf_m_3) dX10_make_155 ?_
    exact rn_iret dX10_make_158 rfl rfl ⟨rfl, ⟨_, (ls_eq (ls_ne (by decide) (ls_ne (by decide) h_m))), (ls_ne (by decide) hf_m_0)⟩, fun p h1 h2 => by simp only [List.getElem?_set_ne (Ne.symm h1), List.getElem?_set_ne (Ne.symm h2)]⟩
  | succ m ih =>
    intro ws g k h_m hf_m_0 hf_m_2 hf_m_3 h_m_bytes hk0 hm
    refine rn_iload dX10_make_108 rfl ?_
    refine rn_iload dX10_make_110 rfl ?_
    refine rn_icmp_ge (tgt := 140) dX10_make_112 (by decide) (fun h1 => ?_) (fun h1 => ?_)
    · refine rn_aload_n (i := 0) dX10_make_140 rfl rfl ?_
      refine rn_iconst (v := (0 : Int32)) dX10_make_141 (by decide) ?_
      refine rn_callV (a := 0) (b := 0) [.int (0 : Int32)] kl_SGModel_184 dX10_make_142 23 h_m rfl (c_X10_setSum G _ (o_m := o_m) (p := (0 : Int32)) (fs_m := fs_m) (a_bytes := a_bytes) (g_bytes := g) h_m hf_m_2 h_m_bytes (by decide) (by decide)) rfl rfl (Nat.le_of_ble_eq_true rfl) (Nat.le_of_ble_eq_true rfl) (Nat.le_of_ble_eq_true rfl) (Nat.le_of_ble_eq_true rfl) (Nat.le_of_ble_eq_true rfl) (Nat.le_of_ble_eq_true rfl) (by rintro E w h; rcases h with ⟨_, _, hr, _⟩ <;> cases hr) ?_
      rintro v w h
      obtain ⟨hv2, hc3, hr, hw⟩ := h; cases hr; subst hw
      refine rn_stk [] rfl ?_
      refine rn_aload_n (i := 0) dX10_make_145 rfl rfl ?_
      refine rn_bipush (v := (20 : Int32)) dX10_make_146 (by decide) ?_
      refine rn_iload dX10_make_148 rfl ?_
      refine rn_iadd dX10_make_150 ?_
      refine rn_put 23 (kp_SGModel_168 _) (ls_ne (by decide) (ls_ne (by decide) h_m)) (ls_lt hf_m_3) rfl rfl dX10_make_151 ?_
      refine rn_aload_n (i := 0) dX10_make_154 rfl rfl ?_
      refine rn_get 23 kg_SGModel_168 (ls_eq (ls_ne (by decide) (ls_ne (by decide) h_m))) (ls_eq hf_m_3) dX10_make_155 ?_
      exact rn_iret dX10_make_158 rfl rfl ⟨rfl, ⟨_, (ls_eq (ls_ne (by decide) (ls_ne (by decide) h_m))), (ls_ne (by decide) hf_m_0)⟩, fun p h1 h2 => by simp only [List.getElem?_set_ne (Ne.symm h1), List.getElem?_set_ne (Ne.symm h2)]⟩
    · refine rn_aload_n (i := 0) dX10_make_115 rfl rfl ?_
      refine rn_get 23 kg_SGModel_7 h_m hf_m_2 dX10_make_116 ?_
      refine rn_bipush (v := (20 : Int32)) dX10_make_119 (by decide) ?_
      refine rn_iload dX10_make_121 rfl ?_
      refine rn_iadd dX10_make_123 ?_
      refine rn_iload dX10_make_124 rfl ?_
      refine rn_iload dX10_make_126 rfl ?_
      refine rn_iadd dX10_make_128 ?_
      refine rn_sipush (v := (255 : Int32)) dX10_make_129 (by decide) ?_
      refine rn_iand dX10_make_132 ?_
      refine rn_iast 24 1 h_m_bytes rfl (rn_in (by obtain ⟨k0, e0⟩ := i32_add (20 : Int32) k; have g0 := i32_rng n; have g1 := i32_rng k; simp only [Int32.lt_iff_toInt_lt, Int32.le_iff_toInt_le, gt_iff_lt, ge_iff_le, ← Int32.toInt_inj, i32_0, i32_20, i32_1480] at *; omega)) dX10_make_133 ?_
      refine rn_iinc (v := (k + (1 : Int32))) dX10_make_134 rfl (by rfl) (by decide) [(0, .ref o_m), (5, .int n), (6, .int number), (7, .int (k + (1 : Int32)))] rfl ?_
      refine rn_goto (tgt := 108) dX10_make_137 (by decide) ?_
      refine rn_mono (ih _ _ (k + (1 : Int32)) (ls_ne (by decide) h_m) hf_m_0 hf_m_2 hf_m_3 (ls_eq h_m_bytes) (by obtain ⟨k0, e0⟩ := i32_add k (1 : Int32); have g0 := i32_rng n; have g1 := i32_rng k; simp only [Int32.lt_iff_toInt_lt, Int32.le_iff_toInt_le, gt_iff_lt, ge_iff_le, ← Int32.toInt_inj, i32_0, i32_1, i32_1480] at *; omega) (by obtain ⟨k0, e0⟩ := i32_add k (1 : Int32); have g0 := i32_rng n; have g1 := i32_rng k; simp only [Int32.lt_iff_toInt_lt, Int32.le_iff_toInt_le, gt_iff_lt, ge_iff_le, ← Int32.toInt_inj, i32_0, i32_1, i32_1480] at *; omega)) (fun r w hq => ⟨hq.1, hq.2.1, fun p h1 h2 => (hq.2.2 p h1 h2).trans (by simp only [List.getElem?_set_ne (Ne.symm h1), List.getElem?_set_ne (Ne.symm h2)])⟩)
set_option maxRecDepth 20000 in
set_option maxHeartbeats 4000000 in
theorem c_X10_make (G : rn_G) (ws : va_W) (o_m : Nat) (x : Int32) (y : Int32) (u : Int32) (x1 : Int32) (n : Int32) (number : Int32) (fs_m : List Value) (a_bytes : Nat) (h_m : ws[23]? = some (o_m, Sum.inr (10, fs_m))) (hf_m_0 : fs_m[0]? = some (.int (0 : Int32))) (hf_m_2 : fs_m[2]? = some (.ref a_bytes)) (hf_m_3 : fs_m[3]? = some (.int (0 : Int32))) (h_m_bytes : ws[24]? = some (a_bytes, Sum.inl (rn_k G 1, 22000, Sum.inl (fun _ => 0)))) : Rn G mX10_make 3 66 0 0 0 (lv_args 0 [.ref o_m, .int x, .int y, .int u, .int x1, .int n, .int number]) [] ws (fun r w => (((0 : Int32) ≤ u ∧ u ≤ (255 : Int32) ∧ (0 : Int32) ≤ x1 ∧ x1 ≤ (255 : Int32) ∧ (0 : Int32) ≤ n ∧ n ≤ (1480 : Int32)) ∧ r = Sum.inl (some (.int ((20 : Int32) + n))) ∧ (∃ fs9 : List Value, w[23]? = some (o_m, Sum.inr (10, fs9)) ∧ fs9[0]? = some (.int (0 : Int32))) ∧ ∀ p : Nat, p ≠ 23 → p ≠ 24 → w[p]? = ws[p]?) ∨ ((¬ ((0 : Int32) ≤ u ∧ u ≤ (255 : Int32) ∧ (0 : Int32) ≤ x1 ∧ x1 ≤ (255 : Int32) ∧ (0 : Int32) ≤ n ∧ n ≤ (1480 : Int32))) ∧ r = Sum.inl (some (.int (0 : Int32))) ∧ w = ((ws.set 23 (o_m, Sum.inr (10, (fs_m.set 0 (.int (0 : Int32)))))).set 23 (o_m, Sum.inr (10, ((fs_m.set 0 (.int (0 : Int32))).set 0 (.int (1 : Int32)))))))) := by
  refine rn_lv [(0, .ref o_m), (1, .int x), (2, .int y), (3, .int u), (4, .int x1), (5, .int n), (6, .int number)] rfl ?_
  refine rn_aload_n (i := 0) dX10_make_0 rfl rfl ?_
  refine rn_iconst (v := (0 : Int32)) dX10_make_1 (by decide) ?_
  refine rn_put 23 (kp_SGModel_137 _) h_m (ls_lt hf_m_0) rfl rfl dX10_make_2 ?_
  refine rn_aload_n (i := 0) dX10_make_5 rfl rfl ?_
  refine rn_iload_n (i := 3) dX10_make_6 rfl rfl ?_
  refine rn_iconst (v := (0 : Int32)) dX10_make_7 (by decide) ?_
  refine rn_sipush (v := (255 : Int32)) dX10_make_8 (by decide) ?_
  refine rn_callS (a := 0) (b := 0) [.int u, .int (0 : Int32), .int (255 : Int32)] kl_SGModel_179 dX10_make_11 (c_X10_in G _ (x := u) (y := (0 : Int32)) (u := (255 : Int32))) rfl rfl (Nat.le_of_ble_eq_true rfl) (Nat.le_of_ble_eq_true rfl) (Nat.le_of_ble_eq_true rfl) (Nat.le_of_ble_eq_true rfl) (Nat.le_of_ble_eq_true rfl) (Nat.le_of_ble_eq_true rfl) (by rintro E w h; rcases h with ⟨_, hr, _⟩ | ⟨_, hr, _⟩ <;> cases hr) ?_
  rintro v w h
  rcases h with ⟨hc, hr, hw⟩ | ⟨hc, hr, hw⟩
  · have hc1 := hc; clear hc; cases hr; subst hw
    refine rn_stk [.int (0 : Int32), .ref o_m] rfl ?_
    refine rn_if_eq (tgt := 41) dX10_make_14 (by decide) (fun h2 => ?_) (fun h2 => absurd h2 (by decide))
    refine rn_iconst (v := (1 : Int32)) dX10_make_41 (by decide) ?_
    refine rn_goto (tgt := 46) dX10_make_42 (by decide) ?_
    refine rn_iconst (v := (1 : Int32)) dX10_make_46 (by decide) ?_
    refine rn_callV (a := 0) (b := 0) [.int (1 : Int32), .int (1 : Int32)] kl_SGModel_171 dX10_make_47 23 (ls_eq h_m) rfl (c_X10_refuses G _ (o_m := o_m) (x := (1 : Int32)) (y := (1 : Int32)) (fs_m := (fs_m.set 0 (.int (0 : Int32)))) (th := (0 : Int32)) (ls_eq h_m) (ls_eq hf_m_0)) rfl rfl (Nat.le_of_ble_eq_true rfl) (Nat.le_of_ble_eq_true rfl) (Nat.le_of_ble_eq_true rfl) (Nat.le_of_ble_eq_true rfl) (Nat.le_of_ble_eq_true rfl) (Nat.le_of_ble_eq_true rfl) (by rintro E w h; rcases h with ⟨_, hr, _⟩ | ⟨_, hr, _⟩ | ⟨_, hr, _⟩ | ⟨_, hr, _⟩ <;> cases hr) ?_
    rintro v w h
    rcases h with ⟨hc, hr, hw⟩ | ⟨hc, hr, hw⟩ | ⟨hc, hr, hw⟩ | ⟨hc, hr, hw⟩
    · have hc3 := hc; clear hc; cases hr; subst hw
      exact absurd hc3 (by decide)
    · have hc4 := hc; clear hc; cases hr; subst hw
      exact absurd hc4 (by decide)
    · have hc5 := hc; clear hc; cases hr; subst hw
      exact absurd hc5 (by decide)
    · have hc6 := hc; clear hc; cases hr; subst hw
      refine rn_stk [.int (1 : Int32)] rfl ?_
      refine rn_if_eq (tgt := 55) dX10_make_50 (by decide) (fun h7 => absurd h7 (by decide)) (fun h7 => ?_)
      refine rn_iconst (v := (0 : Int32)) dX10_make_53 (by decide) ?_
      exact rn_iret dX10_make_54 rfl rfl (Or.inr ⟨by have g0 := i32_rng u; have g1 := i32_rng x1; have g2 := i32_rng n; simp only [Int32.lt_iff_toInt_lt, Int32.le_iff_toInt_le, gt_iff_lt, ge_iff_le, ← Int32.toInt_inj, i32_0, i32_1, i32_255, i32_1480] at *; omega, rfl, rfl⟩)
  · have hc8 := hc; clear hc; cases hr; subst hw
    refine rn_stk [.int (1 : Int32), .ref o_m] rfl ?_
    refine rn_if_eq (tgt := 41) dX10_make_14 (by decide) (fun h9 => absurd h9 (by decide)) (fun h9 => ?_)
    refine rn_iload dX10_make_17 rfl ?_
    refine rn_iconst (v := (0 : Int32)) dX10_make_19 (by decide) ?_
    refine rn_sipush (v := (255 : Int32)) dX10_make_20 (by decide) ?_
    refine rn_callS (a := 0) (b := 0) [.int x1, .int (0 : Int32), .int (255 : Int32)] kl_SGModel_179 dX10_make_23 (c_X10_in G _ (x := x1) (y := (0 : Int32)) (u := (255 : Int32))) rfl rfl (Nat.le_of_ble_eq_true rfl) (Nat.le_of_ble_eq_true rfl) (Nat.le_of_ble_eq_true rfl) (Nat.le_of_ble_eq_true rfl) (Nat.le_of_ble_eq_true rfl) (Nat.le_of_ble_eq_true rfl) (by rintro E w h; rcases h with ⟨_, hr, _⟩ | ⟨_, hr, _⟩ <;> cases hr) ?_
    rintro v w h
    rcases h with ⟨hc, hr, hw⟩ | ⟨hc, hr, hw⟩
    · have hc10 := hc; clear hc; cases hr; subst hw
      refine rn_stk [.int (0 : Int32), .ref o_m] rfl ?_
      refine rn_if_eq (tgt := 41) dX10_make_26 (by decide) (fun h11 => ?_) (fun h11 => absurd h11 (by decide))
      refine rn_iconst (v := (1 : Int32)) dX10_make_41 (by decide) ?_
      refine rn_goto (tgt := 46) dX10_make_42 (by decide) ?_
      refine rn_iconst (v := (1 : Int32)) dX10_make_46 (by decide) ?_
      refine rn_callV (a := 0) (b := 0) [.int (1 : Int32), .int (1 : Int32)] kl_SGModel_171 dX10_make_47 23 (ls_eq h_m) rfl (c_X10_refuses G _ (o_m := o_m) (x := (1 : Int32)) (y := (1 : Int32)) (fs_m := (fs_m.set 0 (.int (0 : Int32)))) (th := (0 : Int32)) (ls_eq h_m) (ls_eq hf_m_0)) rfl rfl (Nat.le_of_ble_eq_true rfl) (Nat.le_of_ble_eq_true rfl) (Nat.le_of_ble_eq_true rfl) (Nat.le_of_ble_eq_true rfl) (Nat.le_of_ble_eq_true rfl) (Nat.le_of_ble_eq_true rfl) (by rintro E w h; rcases h with ⟨_, hr, _⟩ | ⟨_, hr, _⟩ | ⟨_, hr, _⟩ | ⟨_, hr, _⟩ <;> cases hr) ?_
      rintro v w h
      rcases h with ⟨hc, hr, hw⟩ | ⟨hc, hr, hw⟩ | ⟨hc, hr, hw⟩ | ⟨hc, hr, hw⟩
      · have hc12 := hc; clear hc; cases hr; subst hw
        exact absurd hc12 (by decide)
      · have hc13 := hc; clear hc; cases hr; subst hw
        exact absurd hc13 (by decide)
      · have hc14 := hc; clear hc; cases hr; subst hw
        exact absurd hc14 (by decide)
      · have hc15 := hc; clear hc; cases hr; subst hw
        refine rn_stk [.int (1 : Int32)] rfl ?_
        refine rn_if_eq (tgt := 55) dX10_make_50 (by decide) (fun h16 => absurd h16 (by decide)) (fun h16 => ?_)
        refine rn_iconst (v := (0 : Int32)) dX10_make_53 (by decide) ?_
        exact rn_iret dX10_make_54 rfl rfl (Or.inr ⟨by have g0 := i32_rng u; have g1 := i32_rng x1; have g2 := i32_rng n; simp only [Int32.lt_iff_toInt_lt, Int32.le_iff_toInt_le, gt_iff_lt, ge_iff_le, ← Int32.toInt_inj, i32_0, i32_1, i32_255, i32_1480] at *; omega, rfl, rfl⟩)
    · have hc17 := hc; clear hc; cases hr; subst hw
      refine rn_stk [.int (1 : Int32), .ref o_m] rfl ?_
      refine rn_if_eq (tgt := 41) dX10_make_26 (by decide) (fun h18 => absurd h18 (by decide)) (fun h18 => ?_)
      refine rn_iload dX10_make_29 rfl ?_
      refine rn_iconst (v := (0 : Int32)) dX10_make_31 (by decide) ?_
      refine rn_sipush (v := (1480 : Int32)) dX10_make_32 (by decide) ?_
      refine rn_callS (a := 0) (b := 0) [.int n, .int (0 : Int32), .int (1480 : Int32)] kl_SGModel_179 dX10_make_35 (c_X10_in G _ (x := n) (y := (0 : Int32)) (u := (1480 : Int32))) rfl rfl (Nat.le_of_ble_eq_true rfl) (Nat.le_of_ble_eq_true rfl) (Nat.le_of_ble_eq_true rfl) (Nat.le_of_ble_eq_true rfl) (Nat.le_of_ble_eq_true rfl) (Nat.le_of_ble_eq_true rfl) (by rintro E w h; rcases h with ⟨_, hr, _⟩ | ⟨_, hr, _⟩ <;> cases hr) ?_
      rintro v w h
      rcases h with ⟨hc, hr, hw⟩ | ⟨hc, hr, hw⟩
      · have hc19 := hc; clear hc; cases hr; subst hw
        refine rn_stk [.int (0 : Int32), .ref o_m] rfl ?_
        refine rn_if_ne (tgt := 45) dX10_make_38 (by decide) (fun h20 => absurd h20 (by decide)) (fun h20 => ?_)
        refine rn_iconst (v := (1 : Int32)) dX10_make_41 (by decide) ?_
        refine rn_goto (tgt := 46) dX10_make_42 (by decide) ?_
        refine rn_iconst (v := (1 : Int32)) dX10_make_46 (by decide) ?_
        refine rn_callV (a := 0) (b := 0) [.int (1 : Int32), .int (1 : Int32)] kl_SGModel_171 dX10_make_47 23 (ls_eq h_m) rfl (c_X10_refuses G _ (o_m := o_m) (x := (1 : Int32)) (y := (1 : Int32)) (fs_m := (fs_m.set 0 (.int (0 : Int32)))) (th := (0 : Int32)) (ls_eq h_m) (ls_eq hf_m_0)) rfl rfl (Nat.le_of_ble_eq_true rfl) (Nat.le_of_ble_eq_true rfl) (Nat.le_of_ble_eq_true rfl) (Nat.le_of_ble_eq_true rfl) (Nat.le_of_ble_eq_true rfl) (Nat.le_of_ble_eq_true rfl) (by rintro E w h; rcases h with ⟨_, hr, _⟩ | ⟨_, hr, _⟩ | ⟨_, hr, _⟩ | ⟨_, hr, _⟩ <;> cases hr) ?_
        rintro v w h
        rcases h with ⟨hc, hr, hw⟩ | ⟨hc, hr, hw⟩ | ⟨hc, hr, hw⟩ | ⟨hc, hr, hw⟩
        · have hc21 := hc; clear hc; cases hr; subst hw
          exact absurd hc21 (by decide)
        · have hc22 := hc; clear hc; cases hr; subst hw
          exact absurd hc22 (by decide)
        · have hc23 := hc; clear hc; cases hr; subst hw
          exact absurd hc23 (by decide)
        · have hc24 := hc; clear hc; cases hr; subst hw
          refine rn_stk [.int (1 : Int32)] rfl ?_
          refine rn_if_eq (tgt := 55) dX10_make_50 (by decide) (fun h25 => absurd h25 (by decide)) (fun h25 => ?_)
          refine rn_iconst (v := (0 : Int32)) dX10_make_53 (by decide) ?_
          exact rn_iret dX10_make_54 rfl rfl (Or.inr ⟨by have g0 := i32_rng u; have g1 := i32_rng x1; have g2 := i32_rng n; simp only [Int32.lt_iff_toInt_lt, Int32.le_iff_toInt_le, gt_iff_lt, ge_iff_le, ← Int32.toInt_inj, i32_0, i32_1, i32_255, i32_1480] at *; omega, rfl, rfl⟩)
      · have hc26 := hc; clear hc; cases hr; subst hw
        refine rn_stk [.int (1 : Int32), .ref o_m] rfl ?_
        refine rn_if_ne (tgt := 45) dX10_make_38 (by decide) (fun h27 => ?_) (fun h27 => absurd h27 (by decide))
        refine rn_iconst (v := (0 : Int32)) dX10_make_45 (by decide) ?_
        refine rn_iconst (v := (1 : Int32)) dX10_make_46 (by decide) ?_
        refine rn_callV (a := 0) (b := 0) [.int (0 : Int32), .int (1 : Int32)] kl_SGModel_171 dX10_make_47 23 (ls_eq h_m) rfl (c_X10_refuses G _ (o_m := o_m) (x := (0 : Int32)) (y := (1 : Int32)) (fs_m := (fs_m.set 0 (.int (0 : Int32)))) (th := (0 : Int32)) (ls_eq h_m) (ls_eq hf_m_0)) rfl rfl (Nat.le_of_ble_eq_true rfl) (Nat.le_of_ble_eq_true rfl) (Nat.le_of_ble_eq_true rfl) (Nat.le_of_ble_eq_true rfl) (Nat.le_of_ble_eq_true rfl) (Nat.le_of_ble_eq_true rfl) (by rintro E w h; rcases h with ⟨_, hr, _⟩ | ⟨_, hr, _⟩ | ⟨_, hr, _⟩ | ⟨_, hr, _⟩ <;> cases hr) ?_
        rintro v w h
        rcases h with ⟨hc, hr, hw⟩ | ⟨hc, hr, hw⟩ | ⟨hc, hr, hw⟩ | ⟨hc, hr, hw⟩
        · have hc28 := hc; clear hc; cases hr; subst hw
          refine rn_stk [.int (0 : Int32)] rfl ?_
          refine rn_if_eq (tgt := 55) dX10_make_50 (by decide) (fun h29 => ?_) (fun h29 => absurd h29 (by decide))
          refine rn_aload_n (i := 0) dX10_make_55 rfl rfl ?_
          refine rn_iconst (v := (0 : Int32)) dX10_make_56 (by decide) ?_
          refine rn_ldc (v := (1157627904 : Int32)) wd_1301 dX10_make_57 ?_
          refine rn_bipush (v := (20 : Int32)) dX10_make_59 (by decide) ?_
          refine rn_iload dX10_make_61 rfl ?_
          refine rn_iadd dX10_make_63 ?_
          refine rn_ior dX10_make_64 ?_
          refine rn_callV (a := 0) (b := 0) [.int (0 : Int32), .int ((1157627904 : Int32) ||| ((20 : Int32) + n))] kl_SGModel_148 dX10_make_65 23 (ls_eq h_m) rfl (c_X10_putFour G _ (o_m := o_m) (p := (0 : Int32)) (x := ((1157627904 : Int32) ||| ((20 : Int32) + n))) (fs_m := (fs_m.set 0 (.int (0 : Int32)))) (a_bytes := a_bytes) (g_bytes := (fun _ => 0)) (ls_eq h_m) (ls_ne (by decide) hf_m_2) (ls_ne (by decide) h_m_bytes) (by decide) (by decide)) rfl rfl (Nat.le_of_ble_eq_true rfl) (Nat.le_of_ble_eq_true rfl) (Nat.le_of_ble_eq_true rfl) (Nat.le_of_ble_eq_true rfl) (Nat.le_of_ble_eq_true rfl) (Nat.le_of_ble_eq_true rfl) (by rintro E w h; rcases h with ⟨_, hr, _⟩ <;> cases hr) ?_
          rintro v w h
          obtain ⟨hc30, hr, hw⟩ := h; cases hr; subst hw
          refine rn_stk [] rfl ?_
          refine rn_aload_n (i := 0) dX10_make_68 rfl rfl ?_
          refine rn_iconst (v := (4 : Int32)) dX10_make_69 (by decide) ?_
          refine rn_iconst (v := (0 : Int32)) dX10_make_70 (by decide) ?_
          refine rn_callV (a := 0) (b := 0) [.int (4 : Int32), .int (0 : Int32)] kl_SGModel_148 dX10_make_71 23 (ls_ne (by decide) (ls_ne (by decide) (ls_ne (by decide) (ls_ne (by decide) (ls_eq h_m))))) rfl (c_X10_putFour G _ (o_m := o_m) (p := (4 : Int32)) (x := (0 : Int32)) (fs_m := (fs_m.set 0 (.int (0 : Int32)))) (a_bytes := a_bytes) (g_bytes := (upd (upd (upd (upd (fun _ => 0) ((0 : Int32)).toNatClampNeg ((((((1157627904 : Int32) ||| ((20 : Int32) + n))).toUInt32 >>> (((16 : Int32)).toUInt32 &&& Int32.toUInt32 31)).toInt32 >>> ((8 : Int32) &&& 31)) &&& (255 : Int32))) (((0 : Int32) + (1 : Int32))).toNatClampNeg (((((1157627904 : Int32) ||| ((20 : Int32) + n))).toUInt32 >>> (((16 : Int32)).toUInt32 &&& Int32.toUInt32 31)).toInt32 &&& (255 : Int32))) (((0 : Int32) + (2 : Int32))).toNatClampNeg (((((1157627904 : Int32) ||| ((20 : Int32) + n)) &&& (65535 : Int32)) >>> ((8 : Int32) &&& 31)) &&& (255 : Int32))) ((((0 : Int32) + (2 : Int32)) + (1 : Int32))).toNatClampNeg ((((1157627904 : Int32) ||| ((20 : Int32) + n)) &&& (65535 : Int32)) &&& (255 : Int32)))) (ls_ne (by decide) (ls_ne (by decide) (ls_ne (by decide) (ls_ne (by decide) (ls_eq h_m))))) (ls_ne (by decide) hf_m_2) (ls_eq (ls_eq (ls_eq (ls_eq (ls_ne (by decide) h_m_bytes))))) (by decide) (by decide)) rfl rfl (Nat.le_of_ble_eq_true rfl) (Nat.le_of_ble_eq_true rfl) (Nat.le_of_ble_eq_true rfl) (Nat.le_of_ble_eq_true rfl) (Nat.le_of_ble_eq_true rfl) (Nat.le_of_ble_eq_true rfl) (by rintro E w h; rcases h with ⟨_, hr, _⟩ <;> cases hr) ?_
          rintro v w h
          obtain ⟨hc31, hr, hw⟩ := h; cases hr; subst hw
          refine rn_stk [] rfl ?_
          refine rn_aload_n (i := 0) dX10_make_74 rfl rfl ?_
          refine rn_get 23 kg_SGModel_7 (ls_ne (by decide) (ls_ne (by decide) (ls_ne (by decide) (ls_ne (by decide) (ls_ne (by decide) (ls_ne (by decide) (ls_ne (by decide) (ls_ne (by decide) (ls_eq h_m))))))))) (ls_ne (by decide) hf_m_2) dX10_make_75 ?_
          refine rn_bipush (v := (8 : Int32)) dX10_make_78 (by decide) ?_
          refine rn_iload dX10_make_80 rfl ?_
          refine rn_iast 24 1 (ls_eq (ls_eq (ls_eq (ls_eq (ls_eq (ls_eq (ls_eq (ls_eq (ls_ne (by decide) h_m_bytes))))))))) rfl (by unfold vp_in; decide) dX10_make_82 ?_
          refine rn_aload_n (i := 0) dX10_make_83 rfl rfl ?_
          refine rn_get 23 kg_SGModel_7 (ls_ne (by decide) (ls_ne (by decide) (ls_ne (by decide) (ls_ne (by decide) (ls_ne (by decide) (ls_ne (by decide) (ls_ne (by decide) (ls_ne (by decide) (ls_ne (by decide) (ls_eq h_m)))))))))) (ls_ne (by decide) hf_m_2) dX10_make_84 ?_
          refine rn_bipush (v := (9 : Int32)) dX10_make_87 (by decide) ?_
          refine rn_iload_n (i := 3) dX10_make_89 rfl rfl ?_
          refine rn_iast 24 1 (ls_eq (ls_eq (ls_eq (ls_eq (ls_eq (ls_eq (ls_eq (ls_eq (ls_eq (ls_ne (by decide) h_m_bytes)))))))))) rfl (by unfold vp_in; decide) dX10_make_90 ?_
          refine rn_aload_n (i := 0) dX10_make_91 rfl rfl ?_
          refine rn_bipush (v := (12 : Int32)) dX10_make_92 (by decide) ?_
          refine rn_iload_n (i := 1) dX10_make_94 rfl rfl ?_
          refine rn_callV (a := 0) (b := 0) [.int (12 : Int32), .int x] kl_SGModel_148 dX10_make_95 23 (ls_ne (by decide) (ls_ne (by decide) (ls_ne (by decide) (ls_ne (by decide) (ls_ne (by decide) (ls_ne (by decide) (ls_ne (by decide) (ls_ne (by decide) (ls_ne (by decide) (ls_ne (by decide) (ls_eq h_m))))))))))) rfl (c_X10_putFour G _ (o_m := o_m) (p := (12 : Int32)) (x := x) (fs_m := (fs_m.set 0 (.int (0 : Int32)))) (a_bytes := a_bytes) (g_bytes := (upd (upd (upd (upd (upd (upd (upd (upd (upd (upd (fun _ => 0) ((0 : Int32)).toNatClampNeg ((((((1157627904 : Int32) ||| ((20 : Int32) + n))).toUInt32 >>> (((16 : Int32)).toUInt32 &&& Int32.toUInt32 31)).toInt32 >>> ((8 : Int32) &&& 31)) &&& (255 : Int32))) (((0 : Int32) + (1 : Int32))).toNatClampNeg (((((1157627904 : Int32) ||| ((20 : Int32) + n))).toUInt32 >>> (((16 : Int32)).toUInt32 &&& Int32.toUInt32 31)).toInt32 &&& (255 : Int32))) (((0 : Int32) + (2 : Int32))).toNatClampNeg (((((1157627904 : Int32) ||| ((20 : Int32) + n)) &&& (65535 : Int32)) >>> ((8 : Int32) &&& 31)) &&& (255 : Int32))) ((((0 : Int32) + (2 : Int32)) + (1 : Int32))).toNatClampNeg ((((1157627904 : Int32) ||| ((20 : Int32) + n)) &&& (65535 : Int32)) &&& (255 : Int32))) ((4 : Int32)).toNatClampNeg (((((0 : Int32)).toUInt32 >>> (((16 : Int32)).toUInt32 &&& Int32.toUInt32 31)).toInt32 >>> ((8 : Int32) &&& 31)) &&& (255 : Int32))) (((4 : Int32) + (1 : Int32))).toNatClampNeg ((((0 : Int32)).toUInt32 >>> (((16 : Int32)).toUInt32 &&& Int32.toUInt32 31)).toInt32 &&& (255 : Int32))) (((4 : Int32) + (2 : Int32))).toNatClampNeg ((((0 : Int32) &&& (65535 : Int32)) >>> ((8 : Int32) &&& 31)) &&& (255 : Int32))) ((((4 : Int32) + (2 : Int32)) + (1 : Int32))).toNatClampNeg (((0 : Int32) &&& (65535 : Int32)) &&& (255 : Int32))) ((8 : Int32)).toNatClampNeg x1) ((9 : Int32)).toNatClampNeg u)) (ls_ne (by decide) (ls_ne (by decide) (ls_ne (by decide) (ls_ne (by decide) (ls_ne (by decide) (ls_ne (by decide) (ls_ne (by decide) (ls_ne (by decide) (ls_ne (by decide) (ls_ne (by decide) (ls_eq h_m))))))))))) (ls_ne (by decide) hf_m_2) (ls_eq (ls_eq (ls_eq (ls_eq (ls_eq (ls_eq (ls_eq (ls_eq (ls_eq (ls_eq (ls_ne (by decide) h_m_bytes))))))))))) (by decide) (by decide)) rfl rfl (Nat.le_of_ble_eq_true rfl) (Nat.le_of_ble_eq_true rfl) (Nat.le_of_ble_eq_true rfl) (Nat.le_of_ble_eq_true rfl) (Nat.le_of_ble_eq_true rfl) (Nat.le_of_ble_eq_true rfl) (by rintro E w h; rcases h with ⟨_, hr, _⟩ <;> cases hr) ?_
          rintro v w h
          obtain ⟨hc32, hr, hw⟩ := h; cases hr; subst hw
          refine rn_stk [] rfl ?_
          refine rn_aload_n (i := 0) dX10_make_98 rfl rfl ?_
          refine rn_bipush (v := (16 : Int32)) dX10_make_99 (by decide) ?_
          refine rn_iload_n (i := 2) dX10_make_101 rfl rfl ?_
          refine rn_callV (a := 0) (b := 0) [.int (16 : Int32), .int y] kl_SGModel_148 dX10_make_102 23 (ls_ne (by decide) (ls_ne (by decide) (ls_ne (by decide) (ls_ne (by decide) (ls_ne (by decide) (ls_ne (by decide) (ls_ne (by decide) (ls_ne (by decide) (ls_ne (by decide) (ls_ne (by decide) (ls_ne (by decide) (ls_ne (by decide) (ls_ne (by decide) (ls_ne (by decide) (ls_eq h_m))))))))))))))) rfl (c_X10_putFour G _ (o_m := o_m) (p := (16 : Int32)) (x := y) (fs_m := (fs_m.set 0 (.int (0 : Int32)))) (a_bytes := a_bytes) (g_bytes := (upd (upd (upd (upd (upd (upd (upd (upd (upd (upd (upd (upd (upd (upd (fun _ => 0) ((0 : Int32)).toNatClampNeg ((((((1157627904 : Int32) ||| ((20 : Int32) + n))).toUInt32 >>> (((16 : Int32)).toUInt32 &&& Int32.toUInt32 31)).toInt32 >>> ((8 : Int32) &&& 31)) &&& (255 : Int32))) (((0 : Int32) + (1 : Int32))).toNatClampNeg (((((1157627904 : Int32) ||| ((20 : Int32) + n))).toUInt32 >>> (((16 : Int32)).toUInt32 &&& Int32.toUInt32 31)).toInt32 &&& (255 : Int32))) (((0 : Int32) + (2 : Int32))).toNatClampNeg (((((1157627904 : Int32) ||| ((20 : Int32) + n)) &&& (65535 : Int32)) >>> ((8 : Int32) &&& 31)) &&& (255 : Int32))) ((((0 : Int32) + (2 : Int32)) + (1 : Int32))).toNatClampNeg ((((1157627904 : Int32) ||| ((20 : Int32) + n)) &&& (65535 : Int32)) &&& (255 : Int32))) ((4 : Int32)).toNatClampNeg (((((0 : Int32)).toUInt32 >>> (((16 : Int32)).toUInt32 &&& Int32.toUInt32 31)).toInt32 >>> ((8 : Int32) &&& 31)) &&& (255 : Int32))) (((4 : Int32) + (1 : Int32))).toNatClampNeg ((((0 : Int32)).toUInt32 >>> (((16 : Int32)).toUInt32 &&& Int32.toUInt32 31)).toInt32 &&& (255 : Int32))) (((4 : Int32) + (2 : Int32))).toNatClampNeg ((((0 : Int32) &&& (65535 : Int32)) >>> ((8 : Int32) &&& 31)) &&& (255 : Int32))) ((((4 : Int32) + (2 : Int32)) + (1 : Int32))).toNatClampNeg (((0 : Int32) &&& (65535 : Int32)) &&& (255 : Int32))) ((8 : Int32)).toNatClampNeg x1) ((9 : Int32)).toNatClampNeg u) ((12 : Int32)).toNatClampNeg ((((x).toUInt32 >>> (((16 : Int32)).toUInt32 &&& Int32.toUInt32 31)).toInt32 >>> ((8 : Int32) &&& 31)) &&& (255 : Int32))) (((12 : Int32) + (1 : Int32))).toNatClampNeg (((x).toUInt32 >>> (((16 : Int32)).toUInt32 &&& Int32.toUInt32 31)).toInt32 &&& (255 : Int32))) (((12 : Int32) + (2 : Int32))).toNatClampNeg (((x &&& (65535 : Int32)) >>> ((8 : Int32) &&& 31)) &&& (255 : Int32))) ((((12 : Int32) + (2 : Int32)) + (1 : Int32))).toNatClampNeg ((x &&& (65535 : Int32)) &&& (255 : Int32)))) (ls_ne (by decide) (ls_ne (by decide) (ls_ne (by decide) (ls_ne (by decide) (ls_ne (by decide) (ls_ne (by decide) (ls_ne (by decide) (ls_ne (by decide) (ls_ne (by decide) (ls_ne (by decide) (ls_ne (by decide) (ls_ne (by decide) (ls_ne (by decide) (ls_ne (by decide) (ls_eq h_m))))))))))))))) (ls_ne (by decide) hf_m_2) (ls_eq (ls_eq (ls_eq (ls_eq (ls_eq (ls_eq (ls_eq (ls_eq (ls_eq (ls_eq (ls_eq (ls_eq (ls_eq (ls_eq (ls_ne (by decide) h_m_bytes))))))))))))))) (by decide) (by decide)) rfl rfl (Nat.le_of_ble_eq_true rfl) (Nat.le_of_ble_eq_true rfl) (Nat.le_of_ble_eq_true rfl) (Nat.le_of_ble_eq_true rfl) (Nat.le_of_ble_eq_true rfl) (Nat.le_of_ble_eq_true rfl) (by rintro E w h; rcases h with ⟨_, hr, _⟩ <;> cases hr) ?_
          rintro v w h
          obtain ⟨hc33, hr, hw⟩ := h; cases hr; subst hw
          refine rn_stk [] rfl ?_
          refine rn_iconst (v := (0 : Int32)) dX10_make_105 (by decide) ?_
          refine rn_istore dX10_make_106 (by decide) [(0, .ref o_m), (1, .int x), (2, .int y), (3, .int u), (4, .int x1), (5, .int n), (6, .int number), (7, .int (0 : Int32))] rfl ?_
          refine rn_lv [(0, .ref o_m), (5, .int n), (6, .int number), (7, .int (0 : Int32))] rfl ?_
          refine rn_mono (rn_room (mk10_loop G o_m a_bytes (fs_m.set 0 (.int (0 : Int32))) (0 : Int32) n number (by have g0 := i32_rng u; have g1 := i32_rng x1; have g2 := i32_rng n; simp only [Int32.lt_iff_toInt_lt, Int32.le_iff_toInt_le, gt_iff_lt, ge_iff_le, ← Int32.toInt_inj, i32_0, i32_255, i32_1480] at *; omega) (by have g0 := i32_rng u; have g1 := i32_rng x1; have g2 := i32_rng n; simp only [Int32.lt_iff_toInt_lt, Int32.le_iff_toInt_le, gt_iff_lt, ge_iff_le, ← Int32.toInt_inj, i32_0, i32_255, i32_1480] at *; omega) n.toInt.toNat _ _ (0 : Int32) (ls_ne (by decide) (ls_ne (by decide) (ls_ne (by decide) (ls_ne (by decide) (ls_ne (by decide) (ls_ne (by decide) (ls_ne (by decide) (ls_ne (by decide) (ls_ne (by decide) (ls_ne (by decide) (ls_ne (by decide) (ls_ne (by decide) (ls_ne (by decide) (ls_ne (by decide) (ls_ne (by decide) (ls_ne (by decide) (ls_ne (by decide) (ls_ne (by decide) (ls_eq h_m))))))))))))))))))) (ls_eq hf_m_0) (ls_ne (by decide) hf_m_2) (ls_ne (by decide) hf_m_3) (ls_eq (ls_eq (ls_eq (ls_eq (ls_eq (ls_eq (ls_eq (ls_eq (ls_eq (ls_eq (ls_eq (ls_eq (ls_eq (ls_eq (ls_eq (ls_eq (ls_eq (ls_eq (ls_ne (by decide) h_m_bytes))))))))))))))))))) (by decide) (by have g := i32_rng n; simp only [Int32.toInt_zero]; omega)) (Nat.le_of_ble_eq_true rfl) (Nat.le_of_ble_eq_true rfl) (Nat.le_of_ble_eq_true rfl) (Nat.le_of_ble_eq_true rfl)) (fun r w hq => Or.inl ⟨by have g0 := i32_rng u; have g1 := i32_rng x1; have g2 := i32_rng n; simp only [Int32.lt_iff_toInt_lt, Int32.le_iff_toInt_le, gt_iff_lt, ge_iff_le, ← Int32.toInt_inj, i32_0, i32_255, i32_1480] at *; omega, hq.1, hq.2.1, fun p h1 h2 => (hq.2.2 p h1 h2).trans (by simp only [List.getElem?_set_ne (Ne.symm h1), List.getElem?_set_ne (Ne.symm h2)])⟩)
        · have hc34 := hc; clear hc; cases hr; subst hw
          exact absurd hc34 (by decide)
        · have hc35 := hc; clear hc; cases hr; subst hw
          exact absurd hc35 (by decide)
        · have hc36 := hc; clear hc; cases hr; subst hw
          exact absurd hc36 (by decide)
