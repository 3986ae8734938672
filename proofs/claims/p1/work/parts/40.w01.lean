set_option maxRecDepth 20000 in
set_option maxHeartbeats 4000000 in
theorem c_L_log (G : rn_G) (ws : va_W) (o_sg : Nat) (x : Int32) (y : Int32) (o_out : Nat) (fs_sg : List Value) (o_logs : Nat) (fs_logs : List Value) (h_sg : ws[0]? = some (o_sg, Sum.inr (9, fs_sg))) (hf_sg_14 : fs_sg[14]? = some (.ref o_logs)) (h_logs : ws[20]? = some (o_logs, Sum.inr (2, fs_logs))) (hf_logs_1 : fs_logs[1]? = some (.int (0 : Int32))) : Rn G mL_log 7 112 1 6 0 (lv_args 0 [.ref o_sg, .int x, .int y, .ref o_out]) [] ws (fun r w => ((((x < (0 : Int32)) ∨ (¬ (x < (0 : Int32)) ∧ (0 : Int32) ≤ x))) ∧ r = Sum.inl (some (.int (1 : Int32))) ∧ w = ws)) := by
  refine rn_lv [(0, .ref o_sg), (1, .int x), (2, .int y), (3, .ref o_out)] rfl ?_
  refine rn_aload_n (i := 3) dL_log_0 rfl rfl ?_
  refine rn_iconst (v := (0 : Int32)) dL_log_1 (by decide) ?_
  refine rn_aload_n (i := 0) dL_log_2 rfl rfl ?_
  refine rn_iload_n (i := 1) dL_log_3 rfl rfl ?_
  refine rn_iload_n (i := 2) dL_log_4 rfl rfl ?_
  refine rn_callV (a := 0) (b := 0) [.int x, .int y] kl_SGLaw_87 dL_log_5 0 h_sg rfl (c_X9_log G _ (o_sg := o_sg) (k := x) (x := y) (fs_sg := fs_sg) (o_logs := o_logs) (fs_logs := fs_logs) h_sg hf_sg_14 h_logs hf_logs_1) rfl rfl (Nat.le_of_ble_eq_true rfl) (Nat.le_of_ble_eq_true rfl) (Nat.le_of_ble_eq_true rfl) (Nat.le_of_ble_eq_true rfl) (Nat.le_of_ble_eq_true rfl) (Nat.le_of_ble_eq_true rfl) ?_ ?_
  · rintro E w h
    rcases h with ⟨hc, hr, hw⟩
    · have hc1 := hc; clear hc; cases hr; subst hw
      refine rnx_catch [] ⟨0, 10, 13, 25⟩ [] rfl (fun y hy => nomatch hy) (by decide) (by decide) wd_358 wd_369 (fun q2 => ?_)
      refine rn_astore dL_log_13 (by decide) [(0, .ref o_sg), (1, .int x), (2, .int y), (3, .ref o_out), (4, .ref q2)] rfl ?_
      refine rn_iconst (v := (1 : Int32)) dL_log_15 (by decide) ?_
      exact rn_iret dL_log_16 rfl rfl ⟨hc1, rfl, rfl⟩
  · rintro v w h
    obtain ⟨_, hr, _⟩ := h; cases hr
set_option maxRecDepth 20000 in
set_option maxHeartbeats 4000000 in
theorem c_L_make (G : rn_G) (ws : va_W) (o_sg : Nat) (x0 : Int32) (y : Int32) (u : Int32) (x1 : Int32) (n : Int32) (number : Int32) (o_out : Nat) (fs_sg : List Value) (o_tape : Nat) (fs_tape : List Value) (r_tape : Nat) (f_tape : Nat → Int32) (h_sg : ws[0]? = some (o_sg, Sum.inr (9, fs_sg))) (hf_sg_1 : fs_sg[1]? = some (.ref o_tape)) (h_tape : ws[1]? = some (o_tape, Sum.inr (4, fs_tape))) (hf_tape_0 : fs_tape[0]? = some (.ref r_tape)) (hf_tape_1 : fs_tape[1]? = some (.int (0 : Int32))) (h_taper : ws[2]? = some (r_tape, Sum.inl (rn_k G 0, 2040, Sum.inl f_tape))) (h_out : ws[62]? = some (o_out, Sum.inl (rn_k G 2, 1, Sum.inr (Sum.inl (fun _ => 0))))) : Rn G mL_make 7 117 1 6 0 (lv_args 0 [.ref o_sg, .int x0, .int y, .int u, .int x1, .int n, .int number, .ref o_out]) [] ws (fun r w => (((0 : Int32) ≤ u ∧ u ≤ (255 : Int32) ∧ (0 : Int32) ≤ x1 ∧ x1 ≤ (255 : Int32) ∧ (0 : Int32) ≤ n ∧ n ≤ (1480 : Int32)) ∧ r = Sum.inl (some (.int (0 : Int32))) ∧ w[62]? = some (o_out, Sum.inl (rn_k G 2, 1, Sum.inr (Sum.inl (vp_updL (fun _ => 0) ((0 : Int32)).toNatClampNeg (((20 : Int32) + n)).toInt64)))) ∧ ∀ p : Nat, p ≠ 1 → p ≠ 2 → p ≠ 62 → w[p]? = ws[p]?) ∨ ((¬ ((0 : Int32) ≤ u ∧ u ≤ (255 : Int32) ∧ (0 : Int32) ≤ x1 ∧ x1 ≤ (255 : Int32) ∧ (0 : Int32) ≤ n ∧ n ≤ (1480 : Int32))) ∧ r = Sum.inl (some (.int (1 : Int32))) ∧ w = ws)) := by
  refine rn_lv [(0, .ref o_sg), (1, .int x0), (2, .int y), (3, .int u), (4, .int x1), (5, .int n), (6, .int number), (7, .ref o_out)] rfl ?_
  refine rn_aload dL_make_0 rfl ?_
  refine rn_iconst (v := (0 : Int32)) dL_make_2 (by decide) ?_
  refine rn_aload_n (i := 0) dL_make_3 rfl rfl ?_
  refine rn_iload_n (i := 1) dL_make_4 rfl rfl ?_
  refine rn_iload_n (i := 2) dL_make_5 rfl rfl ?_
  refine rn_iload_n (i := 3) dL_make_6 rfl rfl ?_
  refine rn_iload dL_make_7 rfl ?_
  refine rn_iload dL_make_9 rfl ?_
  refine rn_iload dL_make_11 rfl ?_
  refine rn_callV (a := 0) (b := 0) [.int x0, .int y, .int u, .int x1, .int n, .int number] kl_SGLaw_31 dL_make_13 0 h_sg rfl (c_X9_make G _ (o_sg := o_sg) (x := x0) (y := y) (u := u) (x1 := x1) (n := n) (number := number) (fs_sg := fs_sg) (o_tape := o_tape) (fs_tape := fs_tape) (r_tape := r_tape) (f_tape := f_tape) h_sg hf_sg_1 h_tape hf_tape_0 hf_tape_1 h_taper) rfl rfl (Nat.le_of_ble_eq_true rfl) (Nat.le_of_ble_eq_true rfl) (Nat.le_of_ble_eq_true rfl) (Nat.le_of_ble_eq_true rfl) (Nat.le_of_ble_eq_true rfl) (Nat.le_of_ble_eq_true rfl) ?_ ?_
  · rintro E w h
    rcases h with ⟨hc, hr, hw⟩ | ⟨hc, hr, hw⟩
    · cases hr
    · have hc1 := hc; clear hc; cases hr; subst hw
      refine rnx_catch [] ⟨0, 18, 21, 19⟩ [] rfl (fun y hy => nomatch hy) (by decide) (by decide) wd_334 wd_341 (fun q2 => ?_)
      refine rn_astore dL_make_21 (by decide) [(0, .ref o_sg), (1, .int x0), (2, .int y), (3, .int u), (4, .int x1), (5, .int n), (6, .int number), (7, .ref o_out), (8, .ref q2)] rfl ?_
      refine rn_iconst (v := (1 : Int32)) dL_make_23 (by decide) ?_
      exact rn_iret dL_make_24 rfl rfl (Or.inr ⟨hc1, rfl, rfl⟩)
  · rintro v w h
    rcases h with ⟨hc, hr, hw⟩ | ⟨hc, hr, hw⟩
    · have hc3 := hc; clear hc; cases hr
      have ho4 : w[62]? = some (o_out, Sum.inl (rn_k G 2, 1, Sum.inr (Sum.inl (fun _ => 0)))) := (hw 62 (by decide) (by decide)).trans h_out
      refine rn_stk [.int ((20 : Int32) + n), .int (0 : Int32), .ref o_out] rfl ?_
      refine rn_i2l dL_make_16 rfl ?_
      refine rn_last 62 2 ho4 rfl (by unfold vp_in; decide) dL_make_17 ?_
      refine rn_goto (tgt := 25) dL_make_18 (by decide) ?_
      refine rn_iconst (v := (0 : Int32)) dL_make_25 (by decide) ?_
      exact rn_iret dL_make_26 rfl rfl (Or.inl ⟨hc3, rfl, (ls_eq ho4), fun p h1 h2 h3 => by rw [List.getElem?_set_ne (Ne.symm h3)]; exact hw p h1 h2⟩)
    · cases hr
