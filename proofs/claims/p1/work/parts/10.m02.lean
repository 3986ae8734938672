set_option maxRecDepth 20000 in
set_option maxHeartbeats 4000000 in
theorem c_X9_seen (G : rn_G) (ws : va_W) (o_sg : Nat) (k : Int32) (fs_sg : List Value) (h_sg : ws[0]? = some (o_sg, Sum.inr (9, fs_sg))) (hf_sg_11 : fs_sg[11]? = some (.int (0 : Int32))) : Rn G mX9_seen 7 112 1 6 0 (lv_args 0 [.ref o_sg, .int k]) [] ws (fun r w => ((((k < (0 : Int32)) ∨ (¬ (k < (0 : Int32)) ∧ (0 : Int32) ≤ k))) ∧ r = Sum.inr "java/lang/IndexOutOfBoundsException" ∧ w = ws)) := by
  refine rn_lv [(0, .ref o_sg), (1, .int k)] rfl ?_
  refine rn_aload_n (i := 0) dX9_seen_0 rfl rfl ?_
  refine rn_iload_n (i := 1) dX9_seen_1 rfl rfl ?_
  refine rn_callV (a := 0) (b := 0) [.int k] kl_SG_190 dX9_seen_2 0 h_sg rfl (c_X9_sealAt G _ (o_sg := o_sg) (k := k) (fs_sg := fs_sg) h_sg hf_sg_11) rfl rfl (Nat.le_of_ble_eq_true rfl) (Nat.le_of_ble_eq_true rfl) (Nat.le_of_ble_eq_true rfl) (Nat.le_of_ble_eq_true rfl) (Nat.le_of_ble_eq_true rfl) (Nat.le_of_ble_eq_true rfl) ?_ ?_
  · rintro E w h
    rcases h with ⟨hc, hr, hw⟩
    · have hc1 := hc; clear hc; cases hr; subst hw
      exact rnx_out rfl ⟨hc1, rfl, rfl⟩
  · rintro v w h
    obtain ⟨_, hr, _⟩ := h; cases hr
set_option maxRecDepth 20000 in
set_option maxHeartbeats 4000000 in
theorem c_X9_count (G : rn_G) (ws : va_W) (o_sg : Nat) (k : Int32) (y : Int64) (fs_sg : List Value) (h_sg : ws[0]? = some (o_sg, Sum.inr (9, fs_sg))) (hf_sg_11 : fs_sg[11]? = some (.int (0 : Int32))) : Rn G mX9_count 7 112 1 6 0 (lv_args 0 [.ref o_sg, .int k, .long y]) [] ws (fun r w => ((((k < (0 : Int32)) ∨ (¬ (k < (0 : Int32)) ∧ (0 : Int32) ≤ k))) ∧ r = Sum.inr "java/lang/IndexOutOfBoundsException" ∧ w = ws)) := by
  refine rn_lv [(0, .ref o_sg), (1, .int k), (2, .long y)] rfl ?_
  refine rn_aload_n (i := 0) dX9_count_0 rfl rfl ?_
  refine rn_iload_n (i := 1) dX9_count_1 rfl rfl ?_
  refine rn_callV (a := 0) (b := 0) [.int k] kl_SG_190 dX9_count_2 0 h_sg rfl (c_X9_sealAt G _ (o_sg := o_sg) (k := k) (fs_sg := fs_sg) h_sg hf_sg_11) rfl rfl (Nat.le_of_ble_eq_true rfl) (Nat.le_of_ble_eq_true rfl) (Nat.le_of_ble_eq_true rfl) (Nat.le_of_ble_eq_true rfl) (Nat.le_of_ble_eq_true rfl) (Nat.le_of_ble_eq_true rfl) ?_ ?_
  · rintro E w h
    rcases h with ⟨hc, hr, hw⟩
    · have hc1 := hc; clear hc; cases hr; subst hw
      exact rnx_out rfl ⟨hc1, rfl, rfl⟩
  · rintro v w h
    obtain ⟨_, hr, _⟩ := h; cases hr
set_option maxRecDepth 20000 in
set_option maxHeartbeats 4000000 in
theorem c_X9_told (G : rn_G) (ws : va_W) (o_sg : Nat) (k : Int32) (x : Int32) (fs_sg : List Value) (h_sg : ws[0]? = some (o_sg, Sum.inr (9, fs_sg))) (hf_sg_11 : fs_sg[11]? = some (.int (0 : Int32))) : Rn G mX9_told 7 112 1 6 0 (lv_args 0 [.ref o_sg, .int k, .int x]) [] ws (fun r w => ((((k < (0 : Int32)) ∨ (¬ (k < (0 : Int32)) ∧ (0 : Int32) ≤ k))) ∧ r = Sum.inr "java/lang/IndexOutOfBoundsException" ∧ w = ws)) := by
  refine rn_lv [(0, .ref o_sg), (1, .int k), (2, .int x)] rfl ?_
  refine rn_aload_n (i := 0) dX9_told_0 rfl rfl ?_
  refine rn_iload_n (i := 1) dX9_told_1 rfl rfl ?_
  refine rn_callV (a := 0) (b := 0) [.int k] kl_SG_190 dX9_told_2 0 h_sg rfl (c_X9_sealAt G _ (o_sg := o_sg) (k := k) (fs_sg := fs_sg) h_sg hf_sg_11) rfl rfl (Nat.le_of_ble_eq_true rfl) (Nat.le_of_ble_eq_true rfl) (Nat.le_of_ble_eq_true rfl) (Nat.le_of_ble_eq_true rfl) (Nat.le_of_ble_eq_true rfl) (Nat.le_of_ble_eq_true rfl) ?_ ?_
  · rintro E w h
    rcases h with ⟨hc, hr, hw⟩
    · have hc1 := hc; clear hc; cases hr; subst hw
      exact rnx_out rfl ⟨hc1, rfl, rfl⟩
  · rintro v w h
    obtain ⟨_, hr, _⟩ := h; cases hr
set_option maxRecDepth 20000 in
set_option maxHeartbeats 4000000 in
theorem c_X9_throughInner (G : rn_G) (ws : va_W) (o_sg : Nat) (fs_sg : List Value) (o_coming : Nat) (fs_coming : List Value) (szc : Int32) (h_sg : ws[0]? = some (o_sg, Sum.inr (9, fs_sg))) (hf_sg_2 : fs_sg[2]? = some (.ref o_coming)) (h_coming : ws[3]? = some (o_coming, Sum.inr (4, fs_coming))) (hf_coming_1 : fs_coming[1]? = some (.int szc)) (hn : szc < (20 : Int32)) : Rn G mX9_throughInner 1 20 0 0 0 (lv_args 0 [.ref o_sg]) [] ws (fun r w => (((szc < (20 : Int32))) ∧ r = Sum.inl (some (.int (1 : Int32))) ∧ w = ws)) := by
  refine rn_lv [(0, .ref o_sg)] rfl ?_
  refine rn_aload_n (i := 0) dX9_throughInner_0 rfl rfl ?_
  refine rn_get 0 kg_SG_16 h_sg hf_sg_2 dX9_throughInner_1 ?_
  refine rn_callV (a := 0) (b := 0) [] kl_SG_226 dX9_throughInner_4 3 h_coming rfl (c_X4_isBroken G _ (o_p := o_coming) (i_p := 3) (fs_p := fs_coming) (sz_p := szc) h_coming hf_coming_1 (by have g0 := i32_rng szc; simp only [Int32.lt_iff_toInt_lt, Int32.le_iff_toInt_le, gt_iff_lt, ge_iff_le, ← Int32.toInt_inj, i32_0, i32_20] at *; omega)) rfl rfl (Nat.le_of_ble_eq_true rfl) (Nat.le_of_ble_eq_true rfl) (Nat.le_of_ble_eq_true rfl) (Nat.le_of_ble_eq_true rfl) (Nat.le_of_ble_eq_true rfl) (Nat.le_of_ble_eq_true rfl) (by rintro E w h; rcases h with ⟨_, hr, _⟩ <;> cases hr) ?_
  rintro v w h
  obtain ⟨hc1, hr, hw⟩ := h; cases hr; subst hw
  refine rn_stk [.int (1 : Int32)] rfl ?_
  refine rn_if_eq (tgt := 12) dX9_throughInner_7 (by decide) (fun h2 => absurd h2 (by decide)) (fun h2 => ?_)
  refine rn_iconst (v := (1 : Int32)) dX9_throughInner_10 (by decide) ?_
  exact rn_iret dX9_throughInner_11 rfl rfl ⟨hc1, rfl, rfl⟩
set_option maxRecDepth 20000 in
set_option maxHeartbeats 4000000 in
theorem c_X9_throughOuter (G : rn_G) (ws : va_W) (o_sg : Nat) (fs_sg : List Value) (o_coming : Nat) (fs_coming : List Value) (szc : Int32) (h_sg : ws[0]? = some (o_sg, Sum.inr (9, fs_sg))) (hf_sg_2 : fs_sg[2]? = some (.ref o_coming)) (h_coming : ws[3]? = some (o_coming, Sum.inr (4, fs_coming))) (hf_coming_1 : fs_coming[1]? = some (.int szc)) (hn : szc < (20 : Int32)) : Rn G mX9_throughOuter 1 20 0 0 0 (lv_args 0 [.ref o_sg]) [] ws (fun r w => (((szc < (20 : Int32))) ∧ r = Sum.inl (some (.int (1 : Int32))) ∧ w = ws)) := by
  refine rn_lv [(0, .ref o_sg)] rfl ?_
  refine rn_aload_n (i := 0) dX9_throughOuter_0 rfl rfl ?_
  refine rn_get 0 kg_SG_16 h_sg hf_sg_2 dX9_throughOuter_1 ?_
  refine rn_callV (a := 0) (b := 0) [] kl_SG_226 dX9_throughOuter_4 3 h_coming rfl (c_X4_isBroken G _ (o_p := o_coming) (i_p := 3) (fs_p := fs_coming) (sz_p := szc) h_coming hf_coming_1 (by have g0 := i32_rng szc; simp only [Int32.lt_iff_toInt_lt, Int32.le_iff_toInt_le, gt_iff_lt, ge_iff_le, ← Int32.toInt_inj, i32_0, i32_20] at *; omega)) rfl rfl (Nat.le_of_ble_eq_true rfl) (Nat.le_of_ble_eq_true rfl) (Nat.le_of_ble_eq_true rfl) (Nat.le_of_ble_eq_true rfl) (Nat.le_of_ble_eq_true rfl) (Nat.le_of_ble_eq_true rfl) (by rintro E w h; rcases h with ⟨_, hr, _⟩ <;> cases hr) ?_
  rintro v w h
  obtain ⟨hc1, hr, hw⟩ := h; cases hr; subst hw
  refine rn_stk [.int (1 : Int32)] rfl ?_
  refine rn_if_eq (tgt := 12) dX9_throughOuter_7 (by decide) (fun h2 => absurd h2 (by decide)) (fun h2 => ?_)
  refine rn_iconst (v := (1 : Int32)) dX9_throughOuter_10 (by decide) ?_
  exact rn_iret dX9_throughOuter_11 rfl rfl ⟨hc1, rfl, rfl⟩
set_option maxRecDepth 20000 in
set_option maxHeartbeats 4000000 in
theorem c_X9_come (G : rn_G) (ws : va_W) (o_sg : Nat) (k : Int32) (fs_sg : List Value) (o_tape : Nat) (o_coming : Nat) (o_ends : Nat) (fs_tape : List Value) (fs_coming : List Value) (h_sg : ws[0]? = some (o_sg, Sum.inr (9, fs_sg))) (hf_sg_1 : fs_sg[1]? = some (.ref o_tape)) (hf_sg_2 : fs_sg[2]? = some (.ref o_coming)) (hf_sg_15 : fs_sg[15]? = some (.ref o_ends)) (h_tape : ws[1]? = some (o_tape, Sum.inr (4, fs_tape))) (hf_tape_1 : fs_tape[1]? = some (.int (0 : Int32))) (h_coming : ws[3]? = some (o_coming, Sum.inr (4, fs_coming))) (hf_coming_1 : fs_coming[1]? = some (.int (0 : Int32))) (h_ends : ws[22]? = some (o_ends, Sum.inl (rn_k G 1, 18, Sum.inl (fun _ => 0)))) : Rn G mX9_come 6 90 1 6 0 (lv_args 0 [.ref o_sg, .int k]) [] ws (fun r w => (((((k = (0 : Int32)) ∨ (¬ (k = (0 : Int32)) ∧ k = (1 : Int32))) ∧ (((0 : Int32) ≤ (0 : Int32)) ∧ ((0 : Int32) ≤ (0 : Int32))) ∧ ¬ (k = (0 : Int32)) ∧ (((if (2040 : Int32) < (0 : Int32) then (2040 : Int32) else (0 : Int32)) < (20 : Int32)))) ∨ (((k = (0 : Int32)) ∨ (¬ (k = (0 : Int32)) ∧ k = (1 : Int32))) ∧ (((0 : Int32) ≤ (0 : Int32)) ∧ ((0 : Int32) ≤ (0 : Int32))) ∧ k = (0 : Int32) ∧ (((if (2040 : Int32) < (0 : Int32) then (2040 : Int32) else (0 : Int32)) < (20 : Int32))))) ∧ r = Sum.inl (some (.int (1 : Int32))) ∧ w = ((ws.set 3 (o_coming, Sum.inr (4, (fs_coming.set 1 (.int (if (2040 : Int32) < (0 : Int32) then (2040 : Int32) else (0 : Int32))))))).set 22 (o_ends, Sum.inl (rn_k G 1, 18, Sum.inl (upd (fun _ => 0) ((1 : Int32)).toNatClampNeg (1 : Int32)))))) ∨ (((¬ (k = (0 : Int32)) ∧ ¬ (k = (1 : Int32)))) ∧ r = Sum.inr "java/lang/IllegalArgumentException" ∧ w = ws)) := by
  refine rn_lv [(0, .ref o_sg), (1, .int k)] rfl ?_
  refine rn_iload_n (i := 1) dX9_come_0 rfl rfl ?_
  refine rn_callS (a := 1) (b := 6) [.int k] kl_SG_136 dX9_come_1 (c_X9_isPortOrWay G _ (x := k)) rfl rfl (Nat.le_of_ble_eq_true rfl) (Nat.le_of_ble_eq_true rfl) (Nat.le_of_ble_eq_true rfl) (Nat.le_of_ble_eq_true rfl) (Nat.le_of_ble_eq_true rfl) (Nat.le_of_ble_eq_true rfl) (by rintro E w h; rcases h with ⟨_, hr, _⟩ | ⟨_, hr, _⟩ <;> cases hr) ?_
  rintro v w h
  rcases h with ⟨hc, hr, hw⟩ | ⟨hc, hr, hw⟩
  · have hc1 := hc; clear hc; cases hr; subst hw
    refine rn_stk [.int (1 : Int32)] rfl ?_
    refine rn_if_ne (tgt := 17) dX9_come_4 (by decide) (fun h2 => ?_) (fun h2 => absurd h2 (by decide))
    refine rn_aload_n (i := 0) dX9_come_17 rfl rfl ?_
    refine rn_get 0 kg_SG_16 h_sg hf_sg_2 dX9_come_18 ?_
    refine rn_aload_n (i := 0) dX9_come_21 rfl rfl ?_
    refine rn_get 0 kg_SG_10 h_sg hf_sg_1 dX9_come_22 ?_
    refine rn_callV (a := 1) (b := 6) [.ref o_tape] kl_SG_214 dX9_come_25 3 h_coming rfl (c_X4_copy G _ (o_p := o_coming) (o_q := o_tape) (i_p := 3) (fs_p := fs_coming) (sz_p := (0 : Int32)) (i_q := 1) (fs_q := fs_tape) (sz_q := (0 : Int32)) h_coming hf_coming_1 h_tape hf_tape_1 (by decide) (by decide)) rfl rfl (Nat.le_of_ble_eq_true rfl) (Nat.le_of_ble_eq_true rfl) (Nat.le_of_ble_eq_true rfl) (Nat.le_of_ble_eq_true rfl) (Nat.le_of_ble_eq_true rfl) (Nat.le_of_ble_eq_true rfl) (by rintro E w h; rcases h with ⟨_, hr, _⟩ | ⟨_, hr, _⟩ <;> cases hr) ?_
    rintro v w h
    rcases h with ⟨hc, hr, hw⟩ | ⟨hc, hr, hw⟩
    · have hc3 := hc; clear hc; cases hr; subst hw
      refine rn_stk [] rfl ?_
      refine rn_iload_n (i := 1) dX9_come_28 rfl rfl ?_
      refine rn_if_ne (tgt := 39) dX9_come_29 (by decide) (fun h4 => ?_) (fun h4 => ?_)
      · refine rn_aload_n (i := 0) dX9_come_39 rfl rfl ?_
        refine rn_callV (a := 1) (b := 6) [] kl_SG_221 dX9_come_40 0 (ls_ne (by decide) h_sg) rfl (c_X9_throughOuter G _ (o_sg := o_sg) (fs_sg := fs_sg) (o_coming := o_coming) (fs_coming := (fs_coming.set 1 (.int (if (2040 : Int32) < (0 : Int32) then (2040 : Int32) else (0 : Int32))))) (szc := (if (2040 : Int32) < (0 : Int32) then (2040 : Int32) else (0 : Int32))) (ls_ne (by decide) h_sg) hf_sg_2 (ls_eq h_coming) (ls_eq hf_coming_1) (by decide)) rfl rfl (Nat.le_of_ble_eq_true rfl) (Nat.le_of_ble_eq_true rfl) (Nat.le_of_ble_eq_true rfl) (Nat.le_of_ble_eq_true rfl) (Nat.le_of_ble_eq_true rfl) (Nat.le_of_ble_eq_true rfl) (by rintro E w h; rcases h with ⟨_, hr, _⟩ <;> cases hr) ?_
        rintro v w h
        obtain ⟨hc5, hr, hw⟩ := h; cases hr; subst hw
        refine rn_stk [.int (1 : Int32)] rfl ?_
        refine rn_istore_n dX9_come_43 rfl (by decide) [(0, .ref o_sg), (1, .int k), (2, .int (1 : Int32))] rfl ?_
        refine rn_iload_n (i := 2) dX9_come_44 rfl rfl ?_
        refine rn_if_lt (tgt := 67) dX9_come_45 (by decide) (fun h6 => absurd h6 (by decide)) (fun h6 => ?_)
        refine rn_iload_n (i := 2) dX9_come_48 rfl rfl ?_
        refine rn_aload_n (i := 0) dX9_come_49 rfl rfl ?_
        refine rn_get 0 kg_SG_70 (ls_ne (by decide) h_sg) hf_sg_15 dX9_come_50 ?_
        refine rn_alen 22 1 (v := (18 : Int32)) (ls_ne (by decide) h_ends) rfl (by decide) dX9_come_53 ?_
        refine rn_icmp_ge (tgt := 67) dX9_come_54 (by decide) (fun h7 => absurd h7 (by decide)) (fun h7 => ?_)
        refine rn_aload_n (i := 0) dX9_come_57 rfl rfl ?_
        refine rn_get 0 kg_SG_70 (ls_ne (by decide) h_sg) hf_sg_15 dX9_come_58 ?_
        refine rn_iload_n (i := 2) dX9_come_61 rfl rfl ?_
        refine rn_dup2_11 dX9_come_62 rfl rfl ?_
        refine rn_iald 22 1 (ls_ne (by decide) h_ends) rfl (by unfold vp_in; decide) dX9_come_63 ?_
        refine rn_topi (0 : Int32) rfl ?_
        refine rn_iconst (v := (1 : Int32)) dX9_come_64 (by decide) ?_
        refine rn_iadd dX9_come_65 ?_
        refine rn_topi (1 : Int32) (by decide) ?_
        refine rn_iast 22 1 (ls_ne (by decide) h_ends) rfl (by unfold vp_in; decide) dX9_come_66 ?_
        refine rn_iload_n (i := 2) dX9_come_67 rfl rfl ?_
        exact rn_iret dX9_come_68 rfl rfl (Or.inl ⟨(Or.inl ⟨hc1, hc3, h4, hc5⟩), rfl, rfl⟩)
      · refine rn_aload_n (i := 0) dX9_come_32 rfl rfl ?_
        refine rn_callV (a := 1) (b := 6) [] kl_SG_218 dX9_come_33 0 (ls_ne (by decide) h_sg) rfl (c_X9_throughInner G _ (o_sg := o_sg) (fs_sg := fs_sg) (o_coming := o_coming) (fs_coming := (fs_coming.set 1 (.int (if (2040 : Int32) < (0 : Int32) then (2040 : Int32) else (0 : Int32))))) (szc := (if (2040 : Int32) < (0 : Int32) then (2040 : Int32) else (0 : Int32))) (ls_ne (by decide) h_sg) hf_sg_2 (ls_eq h_coming) (ls_eq hf_coming_1) (by decide)) rfl rfl (Nat.le_of_ble_eq_true rfl) (Nat.le_of_ble_eq_true rfl) (Nat.le_of_ble_eq_true rfl) (Nat.le_of_ble_eq_true rfl) (Nat.le_of_ble_eq_true rfl) (Nat.le_of_ble_eq_true rfl) (by rintro E w h; rcases h with ⟨_, hr, _⟩ <;> cases hr) ?_
        rintro v w h
        obtain ⟨hc8, hr, hw⟩ := h; cases hr; subst hw
        refine rn_stk [.int (1 : Int32)] rfl ?_
        refine rn_goto (tgt := 43) dX9_come_36 (by decide) ?_
        refine rn_istore_n dX9_come_43 rfl (by decide) [(0, .ref o_sg), (1, .int k), (2, .int (1 : Int32))] rfl ?_
        refine rn_iload_n (i := 2) dX9_come_44 rfl rfl ?_
        refine rn_if_lt (tgt := 67) dX9_come_45 (by decide) (fun h9 => absurd h9 (by decide)) (fun h9 => ?_)
        refine rn_iload_n (i := 2) dX9_come_48 rfl rfl ?_
        refine rn_aload_n (i := 0) dX9_come_49 rfl rfl ?_
        refine rn_get 0 kg_SG_70 (ls_ne (by decide) h_sg) hf_sg_15 dX9_come_50 ?_
        refine rn_alen 22 1 (v := (18 : Int32)) (ls_ne (by decide) h_ends) rfl (by decide) dX9_come_53 ?_
        refine rn_icmp_ge (tgt := 67) dX9_come_54 (by decide) (fun h10 => absurd h10 (by decide)) (fun h10 => ?_)
        refine rn_aload_n (i := 0) dX9_come_57 rfl rfl ?_
        refine rn_get 0 kg_SG_70 (ls_ne (by decide) h_sg) hf_sg_15 dX9_come_58 ?_
        refine rn_iload_n (i := 2) dX9_come_61 rfl rfl ?_
        refine rn_dup2_11 dX9_come_62 rfl rfl ?_
        refine rn_iald 22 1 (ls_ne (by decide) h_ends) rfl (by unfold vp_in; decide) dX9_come_63 ?_
        refine rn_topi (0 : Int32) rfl ?_
        refine rn_iconst (v := (1 : Int32)) dX9_come_64 (by decide) ?_
        refine rn_iadd dX9_come_65 ?_
        refine rn_topi (1 : Int32) (by decide) ?_
        refine rn_iast 22 1 (ls_ne (by decide) h_ends) rfl (by unfold vp_in; decide) dX9_come_66 ?_
        refine rn_iload_n (i := 2) dX9_come_67 rfl rfl ?_
        exact rn_iret dX9_come_68 rfl rfl (Or.inl ⟨(Or.inr ⟨hc1, hc3, h4, hc8⟩), rfl, rfl⟩)
    · have hc11 := hc; clear hc; cases hr; subst hw
      exact absurd hc11 (by decide)
  · have hc12 := hc; clear hc; cases hr; subst hw
    refine rn_stk [.int (0 : Int32)] rfl ?_
    refine rn_if_ne (tgt := 17) dX9_come_4 (by decide) (fun h13 => absurd h13 (by decide)) (fun h13 => ?_)
    exact rn_throw kt_SG_95_212 rfl dX9_come_7 dX9_come_10 dX9_come_11 dX9_come_13 dX9_come_16 (Nat.le_of_ble_eq_true rfl) (Nat.le_of_ble_eq_true rfl) (Nat.le_of_ble_eq_true rfl) (Nat.le_of_ble_eq_true rfl) (Nat.le_of_ble_eq_true rfl) (Or.inr ⟨hc12, rfl, rfl⟩)
set_option maxRecDepth 20000 in
set_option maxHeartbeats 4000000 in
theorem c_X9_meaning (G : rn_G) (ws : va_W) (o_sg : Nat) (k : Int32) (fs_sg : List Value) (o_tape : Nat) (o_coming : Nat) (fs_tape : List Value) (fs_coming : List Value) (h_sg : ws[0]? = some (o_sg, Sum.inr (9, fs_sg))) (hf_sg_1 : fs_sg[1]? = some (.ref o_tape)) (hf_sg_2 : fs_sg[2]? = some (.ref o_coming)) (h_tape : ws[1]? = some (o_tape, Sum.inr (4, fs_tape))) (hf_tape_1 : fs_tape[1]? = some (.int (0 : Int32))) (h_coming : ws[3]? = some (o_coming, Sum.inr (4, fs_coming))) (hf_coming_1 : fs_coming[1]? = some (.int (0 : Int32))) : Rn G mX9_meaning 6 90 1 6 0 (lv_args 0 [.ref o_sg, .int k]) [] ws (fun r w => ((((k = (0 : Int32)) ∨ (¬ (k = (0 : Int32)) ∧ k = (1 : Int32))) ∧ (((0 : Int32) ≤ (0 : Int32)) ∧ ((0 : Int32) ≤ (0 : Int32))) ∧ ((if (2040 : Int32) < (0 : Int32) then (2040 : Int32) else (0 : Int32)) < (20 : Int32))) ∧ r = Sum.inl (some (.int (-1 : Int32))) ∧ w = (ws.set 3 (o_coming, Sum.inr (4, (fs_coming.set 1 (.int (if (2040 : Int32) < (0 : Int32) then (2040 : Int32) else (0 : Int32)))))))) ∨ (((¬ (k = (0 : Int32)) ∧ ¬ (k = (1 : Int32)))) ∧ r = Sum.inr "java/lang/IllegalArgumentException" ∧ w = ws)) := by
  refine rn_lv [(0, .ref o_sg), (1, .int k)] rfl ?_
  refine rn_iload_n (i := 1) dX9_meaning_0 rfl rfl ?_
  refine rn_callS (a := 1) (b := 6) [.int k] kl_SG_136 dX9_meaning_1 (c_X9_isPortOrWay G _ (x := k)) rfl rfl (Nat.le_of_ble_eq_true rfl) (Nat.le_of_ble_eq_true rfl) (Nat.le_of_ble_eq_true rfl) (Nat.le_of_ble_eq_true rfl) (Nat.le_of_ble_eq_true rfl) (Nat.le_of_ble_eq_true rfl) (by rintro E w h; rcases h with ⟨_, hr, _⟩ | ⟨_, hr, _⟩ <;> cases hr) ?_
  rintro v w h
  rcases h with ⟨hc, hr, hw⟩ | ⟨hc, hr, hw⟩
  · have hc1 := hc; clear hc; cases hr; subst hw
    refine rn_stk [.int (1 : Int32)] rfl ?_
    refine rn_if_ne (tgt := 17) dX9_meaning_4 (by decide) (fun h2 => ?_) (fun h2 => absurd h2 (by decide))
    refine rn_aload_n (i := 0) dX9_meaning_17 rfl rfl ?_
    refine rn_get 0 kg_SG_16 h_sg hf_sg_2 dX9_meaning_18 ?_
    refine rn_aload_n (i := 0) dX9_meaning_21 rfl rfl ?_
    refine rn_get 0 kg_SG_10 h_sg hf_sg_1 dX9_meaning_22 ?_
    refine rn_callV (a := 1) (b := 6) [.ref o_tape] kl_SG_214 dX9_meaning_25 3 h_coming rfl (c_X4_copy G _ (o_p := o_coming) (o_q := o_tape) (i_p := 3) (fs_p := fs_coming) (sz_p := (0 : Int32)) (i_q := 1) (fs_q := fs_tape) (sz_q := (0 : Int32)) h_coming hf_coming_1 h_tape hf_tape_1 (by decide) (by decide)) rfl rfl (Nat.le_of_ble_eq_true rfl) (Nat.le_of_ble_eq_true rfl) (Nat.le_of_ble_eq_true rfl) (Nat.le_of_ble_eq_true rfl) (Nat.le_of_ble_eq_true rfl) (Nat.le_of_ble_eq_true rfl) (by rintro E w h; rcases h with ⟨_, hr, _⟩ | ⟨_, hr, _⟩ <;> cases hr) ?_
    rintro v w h
    rcases h with ⟨hc, hr, hw⟩ | ⟨hc, hr, hw⟩
    · have hc3 := hc; clear hc; cases hr; subst hw
      refine rn_stk [] rfl ?_
      refine rn_aload_n (i := 0) dX9_meaning_28 rfl rfl ?_
      refine rn_get 0 kg_SG_16 (ls_ne (by decide) h_sg) hf_sg_2 dX9_meaning_29 ?_
      refine rn_callV (a := 1) (b := 6) [] kl_SG_226 dX9_meaning_32 3 (ls_eq h_coming) rfl (c_X4_isBroken G _ (o_p := o_coming) (i_p := 3) (fs_p := (fs_coming.set 1 (.int (if (2040 : Int32) < (0 : Int32) then (2040 : Int32) else (0 : Int32))))) (sz_p := (if (2040 : Int32) < (0 : Int32) then (2040 : Int32) else (0 : Int32))) (ls_eq h_coming) (ls_eq hf_coming_1) (by decide)) rfl rfl (Nat.le_of_ble_eq_true rfl) (Nat.le_of_ble_eq_true rfl) (Nat.le_of_ble_eq_true rfl) (Nat.le_of_ble_eq_true rfl) (Nat.le_of_ble_eq_true rfl) (Nat.le_of_ble_eq_true rfl) (by rintro E w h; rcases h with ⟨_, hr, _⟩ <;> cases hr) ?_
      rintro v w h
      obtain ⟨hc4, hr, hw⟩ := h; cases hr; subst hw
      refine rn_stk [.int (1 : Int32)] rfl ?_
      refine rn_if_eq (tgt := 40) dX9_meaning_35 (by decide) (fun h5 => absurd h5 (by decide)) (fun h5 => ?_)
      refine rn_iconst (v := (-1 : Int32)) dX9_meaning_38 (by decide) ?_
      exact rn_iret dX9_meaning_39 rfl rfl (Or.inl ⟨⟨hc1, hc3, hc4⟩, rfl, rfl⟩)
    · have hc6 := hc; clear hc; cases hr; subst hw
      exact absurd hc6 (by decide)
  · have hc7 := hc; clear hc; cases hr; subst hw
    refine rn_stk [.int (0 : Int32)] rfl ?_
    refine rn_if_ne (tgt := 17) dX9_meaning_4 (by decide) (fun h8 => absurd h8 (by decide)) (fun h8 => ?_)
    exact rn_throw kt_SG_95_224 rfl dX9_meaning_7 dX9_meaning_10 dX9_meaning_11 dX9_meaning_13 dX9_meaning_16 (Nat.le_of_ble_eq_true rfl) (Nat.le_of_ble_eq_true rfl) (Nat.le_of_ble_eq_true rfl) (Nat.le_of_ble_eq_true rfl) (Nat.le_of_ble_eq_true rfl) (Or.inr ⟨hc7, rfl, rfl⟩)
set_option maxRecDepth 20000 in
set_option maxHeartbeats 4000000 in
theorem c_X7_portOf (G : rn_G) (ws : va_W) (o_routes : Nat) (x : Int32) (fs_routes : List Value) (h_routes : ws[11]? = some (o_routes, Sum.inr (7, fs_routes))) (hf_routes_2 : fs_routes[2]? = some (.int (0 : Int32))) : Rn G mX7_portOf 0 0 0 0 0 (lv_args 0 [.ref o_routes, .int x]) [] ws (fun r w => (True ∧ r = Sum.inl (some (.int (-1 : Int32))) ∧ w = ws)) := by
  refine rn_lv [(0, .ref o_routes), (1, .int x)] rfl ?_
  refine rn_iconst (v := (-1 : Int32)) dX7_portOf_0 (by decide) ?_
  refine rn_istore_n dX7_portOf_1 rfl (by decide) [(0, .ref o_routes), (1, .int x), (2, .int (-1 : Int32))] rfl ?_
  refine rn_iconst (v := (-1 : Int32)) dX7_portOf_2 (by decide) ?_
  refine rn_istore_n dX7_portOf_3 rfl (by decide) [(0, .ref o_routes), (1, .int x), (2, .int (-1 : Int32)), (3, .int (-1 : Int32))] rfl ?_
  refine rn_iconst (v := (0 : Int32)) dX7_portOf_4 (by decide) ?_
  refine rn_istore dX7_portOf_5 (by decide) [(0, .ref o_routes), (1, .int x), (2, .int (-1 : Int32)), (3, .int (-1 : Int32)), (4, .int (0 : Int32))] rfl ?_
  refine rn_iload dX7_portOf_7 rfl ?_
  refine rn_aload_n (i := 0) dX7_portOf_9 rfl rfl ?_
  refine rn_get 11 kg_SG_Routes_21 h_routes hf_routes_2 dX7_portOf_10 ?_
  refine rn_icmp_ge (tgt := 75) dX7_portOf_13 (by decide) (fun h1 => ?_) (fun h1 => absurd h1 (by decide))
  refine rn_iload_n (i := 3) dX7_portOf_75 rfl rfl ?_
  exact rn_iret dX7_portOf_76 rfl rfl ⟨trivial, rfl, rfl⟩
set_option maxRecDepth 20000 in
set_option maxHeartbeats 4000000 in
theorem c_X9_routed (G : rn_G) (ws : va_W) (o_sg : Nat) (x : Int32) (fs_sg : List Value) (o_routes : Nat) (fs_routes : List Value) (h_sg : ws[0]? = some (o_sg, Sum.inr (9, fs_sg))) (hf_sg_7 : fs_sg[7]? = some (.ref o_routes)) (h_routes : ws[11]? = some (o_routes, Sum.inr (7, fs_routes))) (hf_routes_2 : fs_routes[2]? = some (.int (0 : Int32))) : Rn G mX9_routed 1 25 0 0 0 (lv_args 0 [.ref o_sg, .int x]) [] ws (fun r w => (True ∧ r = Sum.inl (some (.int (-1 : Int32))) ∧ w = ws)) := by
  refine rn_lv [(0, .ref o_sg), (1, .int x)] rfl ?_
  refine rn_aload_n (i := 0) dX9_routed_0 rfl rfl ?_
  refine rn_get 0 kg_SG_35 h_sg hf_sg_7 dX9_routed_1 ?_
  refine rn_iload_n (i := 1) dX9_routed_4 rfl rfl ?_
  refine rn_callV (a := 0) (b := 0) [.int x] kl_SG_236 dX9_routed_5 11 h_routes rfl (c_X7_portOf G _ (o_routes := o_routes) (x := x) (fs_routes := fs_routes) h_routes hf_routes_2) rfl rfl (Nat.le_of_ble_eq_true rfl) (Nat.le_of_ble_eq_true rfl) (Nat.le_of_ble_eq_true rfl) (Nat.le_of_ble_eq_true rfl) (Nat.le_of_ble_eq_true rfl) (Nat.le_of_ble_eq_true rfl) (by rintro E w h; rcases h with ⟨_, hr, _⟩ <;> cases hr) ?_
  rintro v w h
  obtain ⟨hc1, hr, hw⟩ := h; cases hr; subst hw
  refine rn_stk [.int (-1 : Int32)] rfl ?_
  exact rn_iret dX9_routed_8 rfl rfl ⟨trivial, rfl, rfl⟩
set_option maxRecDepth 20000 in
set_option maxHeartbeats 4000000 in
theorem c_X9_sentPacket (G : rn_G) (ws : va_W) (o_sg : Nat) (k : Int32) (fs_sg : List Value) (o_sentF : Nat) (o_sentS : Nat) (h_sg : ws[0]? = some (o_sg, Sum.inr (9, fs_sg))) (hf_sg_4 : fs_sg[4]? = some (.ref o_sentF)) (hf_sg_5 : fs_sg[5]? = some (.ref o_sentS)) : Rn G mX9_sentPacket 6 90 1 6 0 (lv_args 0 [.ref o_sg, .int k]) [] ws (fun r w => ((k = (0 : Int32) ∧ k = (0 : Int32)) ∧ r = Sum.inl (some (.ref o_sentF)) ∧ w = ws) ∨ ((¬ (k = (0 : Int32)) ∧ k = (1 : Int32) ∧ ¬ (k = (0 : Int32))) ∧ r = Sum.inl (some (.ref o_sentS)) ∧ w = ws) ∨ ((¬ (k = (0 : Int32)) ∧ ¬ (k = (1 : Int32))) ∧ r = Sum.inr "java/lang/IndexOutOfBoundsException" ∧ w = ws)) := by
  refine rn_lv [(0, .ref o_sg), (1, .int k)] rfl ?_
  refine rn_iload_n (i := 1) dX9_sentPacket_0 rfl rfl ?_
  refine rn_if_eq (tgt := 19) dX9_sentPacket_1 (by decide) (fun h1 => ?_) (fun h1 => ?_)
  · refine rn_iload_n (i := 1) dX9_sentPacket_19 rfl rfl ?_
    refine rn_if_ne (tgt := 30) dX9_sentPacket_20 (by decide) (fun h2 => False.elim (by have g0 := i32_rng k; simp only [Int32.lt_iff_toInt_lt, Int32.le_iff_toInt_le, gt_iff_lt, ge_iff_le, ← Int32.toInt_inj, i32_0] at *; omega)) (fun h2 => ?_)
    refine rn_aload_n (i := 0) dX9_sentPacket_23 rfl rfl ?_
    refine rn_get 0 kg_SG_22 h_sg hf_sg_4 dX9_sentPacket_24 ?_
    refine rn_goto (tgt := 34) dX9_sentPacket_27 (by decide) ?_
    exact rn_aret dX9_sentPacket_34 rfl (Or.inl ⟨⟨h1, h2⟩, rfl, rfl⟩)
  · refine rn_iload_n (i := 1) dX9_sentPacket_4 rfl rfl ?_
    refine rn_iconst (v := (1 : Int32)) dX9_sentPacket_5 (by decide) ?_
    refine rn_icmp_eq (tgt := 19) dX9_sentPacket_6 (by decide) (fun h3 => ?_) (fun h3 => ?_)
    · refine rn_iload_n (i := 1) dX9_sentPacket_19 rfl rfl ?_
      refine rn_if_ne (tgt := 30) dX9_sentPacket_20 (by decide) (fun h4 => ?_) (fun h4 => False.elim (by have g0 := i32_rng k; simp only [Int32.lt_iff_toInt_lt, Int32.le_iff_toInt_le, gt_iff_lt, ge_iff_le, ← Int32.toInt_inj, i32_0, i32_1] at *; omega))
      refine rn_aload_n (i := 0) dX9_sentPacket_30 rfl rfl ?_
      refine rn_get 0 kg_SG_25 h_sg hf_sg_5 dX9_sentPacket_31 ?_
      exact rn_aret dX9_sentPacket_34 rfl (Or.inr (Or.inl ⟨⟨h1, h3, h4⟩, rfl, rfl⟩))
    · exact rn_throw kt_SG_114_122 rfl dX9_sentPacket_9 dX9_sentPacket_12 dX9_sentPacket_13 dX9_sentPacket_15 dX9_sentPacket_18 (Nat.le_of_ble_eq_true rfl) (Nat.le_of_ble_eq_true rfl) (Nat.le_of_ble_eq_true rfl) (Nat.le_of_ble_eq_true rfl) (Nat.le_of_ble_eq_true rfl) (Or.inr (Or.inr ⟨⟨h1, h3⟩, rfl, rfl⟩))
set_option maxRecDepth 20000 in
set_option maxHeartbeats 4000000 in
theorem c_X9_sent (G : rn_G) (ws : va_W) (o_sg : Nat) (k : Int32) (x : Int32) (fs_sg : List Value) (o_sentF : Nat) (o_sentS : Nat) (fs_sentF : List Value) (fs_sentS : List Value) (h_sg : ws[0]? = some (o_sg, Sum.inr (9, fs_sg))) (hf_sg_4 : fs_sg[4]? = some (.ref o_sentF)) (hf_sg_5 : fs_sg[5]? = some (.ref o_sentS)) (h_sentF : ws[7]? = some (o_sentF, Sum.inr (4, fs_sentF))) (hf_sentF_1 : fs_sentF[1]? = some (.int (0 : Int32))) (h_sentS : ws[9]? = some (o_sentS, Sum.inr (4, fs_sentS))) (hf_sentS_1 : fs_sentS[1]? = some (.int (0 : Int32))) : Rn G mX9_sent 7 111 2 12 0 (lv_args 0 [.ref o_sg, .int k, .int x]) [] ws (fun r w => ((((¬ (k = (0 : Int32)) ∧ ¬ (k = (1 : Int32)))) ∨ ((k = (0 : Int32) ∧ k = (0 : Int32)) ∧ ¬ (x = (-1 : Int32)) ∧ ¬ (x = (-2 : Int32)) ∧ x < (0 : Int32)) ∨ ((k = (0 : Int32) ∧ k = (0 : Int32)) ∧ ¬ (x = (-1 : Int32)) ∧ ¬ (x = (-2 : Int32)) ∧ ¬ (x < (0 : Int32)) ∧ ¬ (x < (0 : Int32))) ∨ ((¬ (k = (0 : Int32)) ∧ k = (1 : Int32) ∧ ¬ (k = (0 : Int32))) ∧ ¬ (x = (-1 : Int32)) ∧ ¬ (x = (-2 : Int32)) ∧ x < (0 : Int32)) ∨ ((¬ (k = (0 : Int32)) ∧ k = (1 : Int32) ∧ ¬ (k = (0 : Int32))) ∧ ¬ (x = (-1 : Int32)) ∧ ¬ (x = (-2 : Int32)) ∧ ¬ (x < (0 : Int32)) ∧ ¬ (x < (0 : Int32)))) ∧ r = Sum.inr "java/lang/IndexOutOfBoundsException" ∧ w = ws) ∨ ((((k = (0 : Int32) ∧ k = (0 : Int32)) ∧ ¬ (x = (-1 : Int32)) ∧ x = (-2 : Int32)) ∨ ((¬ (k = (0 : Int32)) ∧ k = (1 : Int32) ∧ ¬ (k = (0 : Int32))) ∧ ¬ (x = (-1 : Int32)) ∧ x = (-2 : Int32))) ∧ r = Sum.inl (some (.int (-1 : Int32))) ∧ w = ws) ∨ ((((k = (0 : Int32) ∧ k = (0 : Int32)) ∧ x = (-1 : Int32)) ∨ ((¬ (k = (0 : Int32)) ∧ k = (1 : Int32) ∧ ¬ (k = (0 : Int32))) ∧ x = (-1 : Int32))) ∧ r = Sum.inl (some (.int (0 : Int32))) ∧ w = ws)) := by
  refine rn_lv [(0, .ref o_sg), (1, .int k), (2, .int x)] rfl ?_
  refine rn_aload_n (i := 0) dX9_sent_0 rfl rfl ?_
  refine rn_iload_n (i := 1) dX9_sent_1 rfl rfl ?_
  refine rn_callV (a := 1) (b := 6) [.int k] kl_SG_239 dX9_sent_2 0 h_sg rfl (c_X9_sentPacket G _ (o_sg := o_sg) (k := k) (fs_sg := fs_sg) (o_sentF := o_sentF) (o_sentS := o_sentS) h_sg hf_sg_4 hf_sg_5) rfl rfl (Nat.le_of_ble_eq_true rfl) (Nat.le_of_ble_eq_true rfl) (Nat.le_of_ble_eq_true rfl) (Nat.le_of_ble_eq_true rfl) (Nat.le_of_ble_eq_true rfl) (Nat.le_of_ble_eq_true rfl) ?_ ?_
  · rintro E w h
    rcases h with ⟨hc, hr, hw⟩ | ⟨hc, hr, hw⟩ | ⟨hc, hr, hw⟩
    · cases hr
    · cases hr
    · have hc1 := hc; clear hc; cases hr; subst hw
      exact rnx_out rfl (Or.inl ⟨(Or.inl hc1), rfl, rfl⟩)
  · rintro v w h
    rcases h with ⟨hc, hr, hw⟩ | ⟨hc, hr, hw⟩ | ⟨hc, hr, hw⟩
    · have hc2 := hc; clear hc; cases hr; subst hw
      refine rn_stk [.ref o_sentF] rfl ?_
      refine rn_astore_n dX9_sent_5 rfl (by decide) [(0, .ref o_sg), (1, .int k), (2, .int x), (3, .ref o_sentF)] rfl ?_
      refine rn_iload_n (i := 2) dX9_sent_6 rfl rfl ?_
      refine rn_iconst (v := (-1 : Int32)) dX9_sent_7 (by decide) ?_
      refine rn_icmp_ne (tgt := 16) dX9_sent_8 (by decide) (fun h3 => ?_) (fun h3 => ?_)
      · refine rn_iload_n (i := 2) dX9_sent_16 rfl rfl ?_
        refine rn_bipush (v := (-2 : Int32)) dX9_sent_17 (by decide) ?_
        refine rn_icmp_ne (tgt := 38) dX9_sent_19 (by decide) (fun h4 => ?_) (fun h4 => ?_)
        · refine rn_iload_n (i := 2) dX9_sent_38 rfl rfl ?_
          refine rn_if_lt (tgt := 50) dX9_sent_39 (by decide) (fun h5 => ?_) (fun h5 => ?_)
          · exact rn_throw kt_SG_114_116 rfl dX9_sent_50 dX9_sent_53 dX9_sent_54 dX9_sent_56 dX9_sent_59 (Nat.le_of_ble_eq_true rfl) (Nat.le_of_ble_eq_true rfl) (Nat.le_of_ble_eq_true rfl) (Nat.le_of_ble_eq_true rfl) (Nat.le_of_ble_eq_true rfl) (Or.inl ⟨(Or.inr (Or.inl ⟨hc2, h3, h4, h5⟩)), rfl, rfl⟩)
          · refine rn_iload_n (i := 2) dX9_sent_42 rfl rfl ?_
            refine rn_aload_n (i := 3) dX9_sent_43 rfl rfl ?_
            refine rn_callV (a := 1) (b := 6) [] kl_SG_76 dX9_sent_44 7 h_sentF rfl (c_X4_size G _ (o_p := o_sentF) (i_p := 7) (fs_p := fs_sentF) (sz_p := (0 : Int32)) h_sentF hf_sentF_1) rfl rfl (Nat.le_of_ble_eq_true rfl) (Nat.le_of_ble_eq_true rfl) (Nat.le_of_ble_eq_true rfl) (Nat.le_of_ble_eq_true rfl) (Nat.le_of_ble_eq_true rfl) (Nat.le_of_ble_eq_true rfl) (by rintro E w h; rcases h with ⟨_, hr, _⟩ <;> cases hr) ?_
            rintro v w h
            obtain ⟨hc6, hr, hw⟩ := h; cases hr; subst hw
            refine rn_stk [.int (0 : Int32), .int x] rfl ?_
            refine rn_icmp_lt (tgt := 60) dX9_sent_47 (by decide) (fun h7 => False.elim (by have g0 := i32_rng k; have g1 := i32_rng x; simp only [Int32.lt_iff_toInt_lt, Int32.le_iff_toInt_le, gt_iff_lt, ge_iff_le, ← Int32.toInt_inj, i32_m2, i32_m1, i32_0] at *; omega)) (fun h7 => ?_)
            exact rn_throw kt_SG_114_116 rfl dX9_sent_50 dX9_sent_53 dX9_sent_54 dX9_sent_56 dX9_sent_59 (Nat.le_of_ble_eq_true rfl) (Nat.le_of_ble_eq_true rfl) (Nat.le_of_ble_eq_true rfl) (Nat.le_of_ble_eq_true rfl) (Nat.le_of_ble_eq_true rfl) (Or.inl ⟨(Or.inr (Or.inr (Or.inl ⟨hc2, h3, h4, h5, h7⟩))), rfl, rfl⟩)
        · refine rn_aload_n (i := 3) dX9_sent_22 rfl rfl ?_
          refine rn_callV (a := 1) (b := 6) [] kl_SG_76 dX9_sent_23 7 h_sentF rfl (c_X4_size G _ (o_p := o_sentF) (i_p := 7) (fs_p := fs_sentF) (sz_p := (0 : Int32)) h_sentF hf_sentF_1) rfl rfl (Nat.le_of_ble_eq_true rfl) (Nat.le_of_ble_eq_true rfl) (Nat.le_of_ble_eq_true rfl) (Nat.le_of_ble_eq_true rfl) (Nat.le_of_ble_eq_true rfl) (Nat.le_of_ble_eq_true rfl) (by rintro E w h; rcases h with ⟨_, hr, _⟩ <;> cases hr) ?_
          rintro v w h
          obtain ⟨hc8, hr, hw⟩ := h; cases hr; subst hw
          refine rn_stk [.int (0 : Int32)] rfl ?_
          refine rn_if_ne (tgt := 33) dX9_sent_26 (by decide) (fun h9 => absurd h9 (by decide)) (fun h9 => ?_)
          refine rn_iconst (v := (-1 : Int32)) dX9_sent_29 (by decide) ?_
          refine rn_goto (tgt := 37) dX9_sent_30 (by decide) ?_
          exact rn_iret dX9_sent_37 rfl rfl (Or.inr (Or.inl ⟨(Or.inl ⟨hc2, h3, h4⟩), rfl, rfl⟩))
      · refine rn_aload_n (i := 3) dX9_sent_11 rfl rfl ?_
        refine rn_callV (a := 1) (b := 6) [] kl_SG_76 dX9_sent_12 7 h_sentF rfl (c_X4_size G _ (o_p := o_sentF) (i_p := 7) (fs_p := fs_sentF) (sz_p := (0 : Int32)) h_sentF hf_sentF_1) rfl rfl (Nat.le_of_ble_eq_true rfl) (Nat.le_of_ble_eq_true rfl) (Nat.le_of_ble_eq_true rfl) (Nat.le_of_ble_eq_true rfl) (Nat.le_of_ble_eq_true rfl) (Nat.le_of_ble_eq_true rfl) (by rintro E w h; rcases h with ⟨_, hr, _⟩ <;> cases hr) ?_
        rintro v w h
        obtain ⟨hc10, hr, hw⟩ := h; cases hr; subst hw
        refine rn_stk [.int (0 : Int32)] rfl ?_
        exact rn_iret dX9_sent_15 rfl rfl (Or.inr (Or.inr ⟨(Or.inl ⟨hc2, h3⟩), rfl, rfl⟩))
    · have hc11 := hc; clear hc; cases hr; subst hw
      refine rn_stk [.ref o_sentS] rfl ?_
      refine rn_astore_n dX9_sent_5 rfl (by decide) [(0, .ref o_sg), (1, .int k), (2, .int x), (3, .ref o_sentS)] rfl ?_
      refine rn_iload_n (i := 2) dX9_sent_6 rfl rfl ?_
      refine rn_iconst (v := (-1 : Int32)) dX9_sent_7 (by decide) ?_
      refine rn_icmp_ne (tgt := 16) dX9_sent_8 (by decide) (fun h12 => ?_) (fun h12 => ?_)
      · refine rn_iload_n (i := 2) dX9_sent_16 rfl rfl ?_
        refine rn_bipush (v := (-2 : Int32)) dX9_sent_17 (by decide) ?_
        refine rn_icmp_ne (tgt := 38) dX9_sent_19 (by decide) (fun h13 => ?_) (fun h13 => ?_)
        · refine rn_iload_n (i := 2) dX9_sent_38 rfl rfl ?_
          refine rn_if_lt (tgt := 50) dX9_sent_39 (by decide) (fun h14 => ?_) (fun h14 => ?_)
          · exact rn_throw kt_SG_114_116 rfl dX9_sent_50 dX9_sent_53 dX9_sent_54 dX9_sent_56 dX9_sent_59 (Nat.le_of_ble_eq_true rfl) (Nat.le_of_ble_eq_true rfl) (Nat.le_of_ble_eq_true rfl) (Nat.le_of_ble_eq_true rfl) (Nat.le_of_ble_eq_true rfl) (Or.inl ⟨(Or.inr (Or.inr (Or.inr (Or.inl ⟨hc11, h12, h13, h14⟩)))), rfl, rfl⟩)
          · refine rn_iload_n (i := 2) dX9_sent_42 rfl rfl ?_
            refine rn_aload_n (i := 3) dX9_sent_43 rfl rfl ?_
            refine rn_callV (a := 1) (b := 6) [] kl_SG_76 dX9_sent_44 9 h_sentS rfl (c_X4_size G _ (o_p := o_sentS) (i_p := 9) (fs_p := fs_sentS) (sz_p := (0 : Int32)) h_sentS hf_sentS_1) rfl rfl (Nat.le_of_ble_eq_true rfl) (Nat.le_of_ble_eq_true rfl) (Nat.le_of_ble_eq_true rfl) (Nat.le_of_ble_eq_true rfl) (Nat.le_of_ble_eq_true rfl) (Nat.le_of_ble_eq_true rfl) (by rintro E w h; rcases h with ⟨_, hr, _⟩ <;> cases hr) ?_
            rintro v w h
            obtain ⟨hc15, hr, hw⟩ := h; cases hr; subst hw
            refine rn_stk [.int (0 : Int32), .int x] rfl ?_
            refine rn_icmp_lt (tgt := 60) dX9_sent_47 (by decide) (fun h16 => False.elim (by have g0 := i32_rng k; have g1 := i32_rng x; simp only [Int32.lt_iff_toInt_lt, Int32.le_iff_toInt_le, gt_iff_lt, ge_iff_le, ← Int32.toInt_inj, i32_m2, i32_m1, i32_0, i32_1] at *; omega)) (fun h16 => ?_)
            exact rn_throw kt_SG_114_116 rfl dX9_sent_50 dX9_sent_53 dX9_sent_54 dX9_sent_56 dX9_sent_59 (Nat.le_of_ble_eq_true rfl) (Nat.le_of_ble_eq_true rfl) (Nat.le_of_ble_eq_true rfl) (Nat.le_of_ble_eq_true rfl) (Nat.le_of_ble_eq_true rfl) (Or.inl ⟨(Or.inr (Or.inr (Or.inr (Or.inr ⟨hc11, h12, h13, h14, h16⟩)))), rfl, rfl⟩)
        · refine rn_aload_n (i := 3) dX9_sent_22 rfl rfl ?_
          refine rn_callV (a := 1) (b := 6) [] kl_SG_76 dX9_sent_23 9 h_sentS rfl (c_X4_size G _ (o_p := o_sentS) (i_p := 9) (fs_p := fs_sentS) (sz_p := (0 : Int32)) h_sentS hf_sentS_1) rfl rfl (Nat.le_of_ble_eq_true rfl) (Nat.le_of_ble_eq_true rfl) (Nat.le_of_ble_eq_true rfl) (Nat.le_of_ble_eq_true rfl) (Nat.le_of_ble_eq_true rfl) (Nat.le_of_ble_eq_true rfl) (by rintro E w h; rcases h with ⟨_, hr, _⟩ <;> cases hr) ?_
          rintro v w h
          obtain ⟨hc17, hr, hw⟩ := h; cases hr; subst hw
          refine rn_stk [.int (0 : Int32)] rfl ?_
          refine rn_if_ne (tgt := 33) dX9_sent_26 (by decide) (fun h18 => absurd h18 (by decide)) (fun h18 => ?_)
          refine rn_iconst (v := (-1 : Int32)) dX9_sent_29 (by decide) ?_
          refine rn_goto (tgt := 37) dX9_sent_30 (by decide) ?_
          exact rn_iret dX9_sent_37 rfl rfl (Or.inr (Or.inl ⟨(Or.inr ⟨hc11, h12, h13⟩), rfl, rfl⟩))
      · refine rn_aload_n (i := 3) dX9_sent_11 rfl rfl ?_
        refine rn_callV (a := 1) (b := 6) [] kl_SG_76 dX9_sent_12 9 h_sentS rfl (c_X4_size G _ (o_p := o_sentS) (i_p := 9) (fs_p := fs_sentS) (sz_p := (0 : Int32)) h_sentS hf_sentS_1) rfl rfl (Nat.le_of_ble_eq_true rfl) (Nat.le_of_ble_eq_true rfl) (Nat.le_of_ble_eq_true rfl) (Nat.le_of_ble_eq_true rfl) (Nat.le_of_ble_eq_true rfl) (Nat.le_of_ble_eq_true rfl) (by rintro E w h; rcases h with ⟨_, hr, _⟩ <;> cases hr) ?_
        rintro v w h
        obtain ⟨hc19, hr, hw⟩ := h; cases hr; subst hw
        refine rn_stk [.int (0 : Int32)] rfl ?_
        exact rn_iret dX9_sent_15 rfl rfl (Or.inr (Or.inr ⟨(Or.inr ⟨hc11, h12⟩), rfl, rfl⟩))
    · cases hr
set_option maxRecDepth 20000 in
set_option maxHeartbeats 4000000 in
theorem c_X9_take (G : rn_G) (ws : va_W) (o_sg : Nat) (k : Int32) (fs_sg : List Value) (o_sentF : Nat) (o_sentS : Nat) (fs_sentF : List Value) (fs_sentS : List Value) (h_sg : ws[0]? = some (o_sg, Sum.inr (9, fs_sg))) (hf_sg_4 : fs_sg[4]? = some (.ref o_sentF)) (hf_sg_5 : fs_sg[5]? = some (.ref o_sentS)) (h_sentF : ws[7]? = some (o_sentF, Sum.inr (4, fs_sentF))) (hf_sentF_1 : fs_sentF[1]? = some (.int (0 : Int32))) (h_sentS : ws[9]? = some (o_sentS, Sum.inr (4, fs_sentS))) (hf_sentS_1 : fs_sentS[1]? = some (.int (0 : Int32))) : Rn G mX9_take 7 111 2 12 0 (lv_args 0 [.ref o_sg, .int k]) [] ws (fun r w => (((¬ (k = (0 : Int32)) ∧ ¬ (k = (1 : Int32)))) ∧ r = Sum.inr "java/lang/IndexOutOfBoundsException" ∧ w = ws) ∨ ((((k = (0 : Int32) ∧ k = (0 : Int32))) ∨ ((¬ (k = (0 : Int32)) ∧ k = (1 : Int32) ∧ ¬ (k = (0 : Int32))))) ∧ r = Sum.inr "java/lang/IllegalStateException" ∧ w = ws)) := by
  refine rn_lv [(0, .ref o_sg), (1, .int k)] rfl ?_
  refine rn_aload_n (i := 0) dX9_take_0 rfl rfl ?_
  refine rn_iload_n (i := 1) dX9_take_1 rfl rfl ?_
  refine rn_callV (a := 1) (b := 6) [.int k] kl_SG_239 dX9_take_2 0 h_sg rfl (c_X9_sentPacket G _ (o_sg := o_sg) (k := k) (fs_sg := fs_sg) (o_sentF := o_sentF) (o_sentS := o_sentS) h_sg hf_sg_4 hf_sg_5) rfl rfl (Nat.le_of_ble_eq_true rfl) (Nat.le_of_ble_eq_true rfl) (Nat.le_of_ble_eq_true rfl) (Nat.le_of_ble_eq_true rfl) (Nat.le_of_ble_eq_true rfl) (Nat.le_of_ble_eq_true rfl) ?_ ?_
  · rintro E w h
    rcases h with ⟨hc, hr, hw⟩ | ⟨hc, hr, hw⟩ | ⟨hc, hr, hw⟩
    · cases hr
    · cases hr
    · have hc1 := hc; clear hc; cases hr; subst hw
      exact rnx_out rfl (Or.inl ⟨hc1, rfl, rfl⟩)
  · rintro v w h
    rcases h with ⟨hc, hr, hw⟩ | ⟨hc, hr, hw⟩ | ⟨hc, hr, hw⟩
    · have hc2 := hc; clear hc; cases hr; subst hw
      refine rn_stk [.ref o_sentF] rfl ?_
      refine rn_astore_n dX9_take_5 rfl (by decide) [(0, .ref o_sg), (1, .int k), (2, .ref o_sentF)] rfl ?_
      refine rn_aload_n (i := 2) dX9_take_6 rfl rfl ?_
      refine rn_callV (a := 1) (b := 6) [] kl_SG_76 dX9_take_7 7 h_sentF rfl (c_X4_size G _ (o_p := o_sentF) (i_p := 7) (fs_p := fs_sentF) (sz_p := (0 : Int32)) h_sentF hf_sentF_1) rfl rfl (Nat.le_of_ble_eq_true rfl) (Nat.le_of_ble_eq_true rfl) (Nat.le_of_ble_eq_true rfl) (Nat.le_of_ble_eq_true rfl) (Nat.le_of_ble_eq_true rfl) (Nat.le_of_ble_eq_true rfl) (by rintro E w h; rcases h with ⟨_, hr, _⟩ <;> cases hr) ?_
      rintro v w h
      obtain ⟨hc3, hr, hw⟩ := h; cases hr; subst hw
      refine rn_stk [.int (0 : Int32)] rfl ?_
      refine rn_if_ne (tgt := 23) dX9_take_10 (by decide) (fun h4 => absurd h4 (by decide)) (fun h4 => ?_)
      exact rn_throw kt_SG_80_243 rfl dX9_take_13 dX9_take_16 dX9_take_17 dX9_take_19 dX9_take_22 (Nat.le_of_ble_eq_true rfl) (Nat.le_of_ble_eq_true rfl) (Nat.le_of_ble_eq_true rfl) (Nat.le_of_ble_eq_true rfl) (Nat.le_of_ble_eq_true rfl) (Or.inr ⟨(Or.inl hc2), rfl, rfl⟩)
    · have hc5 := hc; clear hc; cases hr; subst hw
      refine rn_stk [.ref o_sentS] rfl ?_
      refine rn_astore_n dX9_take_5 rfl (by decide) [(0, .ref o_sg), (1, .int k), (2, .ref o_sentS)] rfl ?_
      refine rn_aload_n (i := 2) dX9_take_6 rfl rfl ?_
      refine rn_callV (a := 1) (b := 6) [] kl_SG_76 dX9_take_7 9 h_sentS rfl (c_X4_size G _ (o_p := o_sentS) (i_p := 9) (fs_p := fs_sentS) (sz_p := (0 : Int32)) h_sentS hf_sentS_1) rfl rfl (Nat.le_of_ble_eq_true rfl) (Nat.le_of_ble_eq_true rfl) (Nat.le_of_ble_eq_true rfl) (Nat.le_of_ble_eq_true rfl) (Nat.le_of_ble_eq_true rfl) (Nat.le_of_ble_eq_true rfl) (by rintro E w h; rcases h with ⟨_, hr, _⟩ <;> cases hr) ?_
      rintro v w h
      obtain ⟨hc6, hr, hw⟩ := h; cases hr; subst hw
      refine rn_stk [.int (0 : Int32)] rfl ?_
      refine rn_if_ne (tgt := 23) dX9_take_10 (by decide) (fun h7 => absurd h7 (by decide)) (fun h7 => ?_)
      exact rn_throw kt_SG_80_243 rfl dX9_take_13 dX9_take_16 dX9_take_17 dX9_take_19 dX9_take_22 (Nat.le_of_ble_eq_true rfl) (Nat.le_of_ble_eq_true rfl) (Nat.le_of_ble_eq_true rfl) (Nat.le_of_ble_eq_true rfl) (Nat.le_of_ble_eq_true rfl) (Or.inr ⟨(Or.inr hc5), rfl, rfl⟩)
    · cases hr
set_option maxRecDepth 20000 in
set_option maxHeartbeats 4000000 in
theorem c_X1_hearTick (G : rn_G) (ws : va_W) (o_heaps : Nat) (fs_heaps : List Value) (h_heaps : ws[18]? = some (o_heaps, Sum.inr (1, fs_heaps))) (hf_heaps_1 : fs_heaps[1]? = some (.int (0 : Int32))) : Rn G mX1_hearTick 1 21 0 0 0 (lv_args 0 [.ref o_heaps]) [] ws (fun r w => (True ∧ r = Sum.inl (some (.int (0 : Int32))) ∧ w = ws)) := by
  refine rn_lv [(0, .ref o_heaps)] rfl ?_
  refine rn_iconst (v := (0 : Int32)) dX1_hearTick_0 (by decide) ?_
  refine rn_istore_n dX1_hearTick_1 rfl (by decide) [(0, .ref o_heaps), (1, .int (0 : Int32))] rfl ?_
  refine rn_aload_n (i := 0) dX1_hearTick_2 rfl rfl ?_
  refine rn_get 18 kg_SG_Heaps_17 h_heaps hf_heaps_1 dX1_hearTick_3 ?_
  refine rn_iconst (v := (4 : Int32)) dX1_hearTick_6 (by decide) ?_
  refine rn_mmin kl_SG_Heaps_21 dX1_hearTick_7 (Nat.le_of_ble_eq_true rfl) (Nat.le_of_ble_eq_true rfl) (Nat.le_of_ble_eq_true rfl) ?_
  refine rn_topi (0 : Int32) (by decide) ?_
  refine rn_iconst (v := (1 : Int32)) dX1_hearTick_10 (by decide) ?_
  refine rn_isub dX1_hearTick_11 ?_
  refine rn_topi (-1 : Int32) (by decide) ?_
  refine rn_istore_n dX1_hearTick_12 rfl (by decide) [(0, .ref o_heaps), (1, .int (0 : Int32)), (2, .int (-1 : Int32))] rfl ?_
  refine rn_iload_n (i := 2) dX1_hearTick_13 rfl rfl ?_
  refine rn_if_lt (tgt := 49) dX1_hearTick_14 (by decide) (fun h1 => ?_) (fun h1 => absurd h1 (by decide))
  refine rn_iload_n (i := 1) dX1_hearTick_49 rfl rfl ?_
  exact rn_iret dX1_hearTick_50 rfl rfl ⟨trivial, rfl, rfl⟩
set_option maxRecDepth 20000 in
set_option maxHeartbeats 4000000 in
theorem c_X9_tick (G : rn_G) (ws : va_W) (o_sg : Nat) (fs_sg : List Value) (o_heaps : Nat) (fs_heaps : List Value) (h_sg : ws[0]? = some (o_sg, Sum.inr (9, fs_sg))) (hf_sg_13 : fs_sg[13]? = some (.ref o_heaps)) (h_heaps : ws[18]? = some (o_heaps, Sum.inr (1, fs_heaps))) (hf_heaps_1 : fs_heaps[1]? = some (.int (0 : Int32))) : Rn G mX9_tick 2 44 0 0 0 (lv_args 0 [.ref o_sg]) [] ws (fun r w => (True ∧ r = Sum.inl (some (.int (0 : Int32))) ∧ w = ws)) := by
  refine rn_lv [(0, .ref o_sg)] rfl ?_
  refine rn_aload_n (i := 0) dX9_tick_0 rfl rfl ?_
  refine rn_get 0 kg_SG_59 h_sg hf_sg_13 dX9_tick_1 ?_
  refine rn_callV (a := 0) (b := 0) [] kl_SG_265 dX9_tick_4 18 h_heaps rfl (c_X1_hearTick G _ (o_heaps := o_heaps) (fs_heaps := fs_heaps) h_heaps hf_heaps_1) rfl rfl (Nat.le_of_ble_eq_true rfl) (Nat.le_of_ble_eq_true rfl) (Nat.le_of_ble_eq_true rfl) (Nat.le_of_ble_eq_true rfl) (Nat.le_of_ble_eq_true rfl) (Nat.le_of_ble_eq_true rfl) (by rintro E w h; rcases h with ⟨_, hr, _⟩ <;> cases hr) ?_
  rintro v w h
  obtain ⟨hc1, hr, hw⟩ := h; cases hr; subst hw
  refine rn_stk [.int (0 : Int32)] rfl ?_
  exact rn_iret dX9_tick_7 rfl rfl ⟨trivial, rfl, rfl⟩
set_option maxRecDepth 20000 in
set_option maxHeartbeats 4000000 in
theorem c_X2_size (G : rn_G) (ws : va_W) (o_logs : Nat) (fs_logs : List Value) (h_logs : ws[20]? = some (o_logs, Sum.inr (2, fs_logs))) (hf_logs_1 : fs_logs[1]? = some (.int (0 : Int32))) : Rn G mX2_size 0 0 0 0 0 (lv_args 0 [.ref o_logs]) [] ws (fun r w => (True ∧ r = Sum.inl (some (.int (0 : Int32))) ∧ w = ws)) := by
  refine rn_lv [(0, .ref o_logs)] rfl ?_
  refine rn_aload_n (i := 0) dX2_size_0 rfl rfl ?_
  refine rn_get 20 kg_SG_Log_13 h_logs hf_logs_1 dX2_size_1 ?_
  exact rn_iret dX2_size_4 rfl rfl ⟨trivial, rfl, rfl⟩
set_option maxRecDepth 20000 in
set_option maxHeartbeats 4000000 in
theorem c_X9_log (G : rn_G) (ws : va_W) (o_sg : Nat) (k : Int32) (x : Int32) (fs_sg : List Value) (o_logs : Nat) (fs_logs : List Value) (h_sg : ws[0]? = some (o_sg, Sum.inr (9, fs_sg))) (hf_sg_14 : fs_sg[14]? = some (.ref o_logs)) (h_logs : ws[20]? = some (o_logs, Sum.inr (2, fs_logs))) (hf_logs_1 : fs_logs[1]? = some (.int (0 : Int32))) : Rn G mX9_log 6 90 1 6 0 (lv_args 0 [.ref o_sg, .int k, .int x]) [] ws (fun r w => (((k < (0 : Int32)) ∨ (¬ (k < (0 : Int32)) ∧ (0 : Int32) ≤ k)) ∧ r = Sum.inr "java/lang/IndexOutOfBoundsException" ∧ w = ws)) := by
  refine rn_lv [(0, .ref o_sg), (1, .int k), (2, .int x)] rfl ?_
  refine rn_iload_n (i := 1) dX9_log_0 rfl rfl ?_
  refine rn_if_lt (tgt := 24) dX9_log_1 (by decide) (fun h1 => ?_) (fun h1 => ?_)
  · exact rn_throwW kt_SG_114_269 rfl dX9_log_24 dX9_log_27 dX9_log_28 dX9_log_31 dX9_log_34 (Nat.le_of_ble_eq_true rfl) (Nat.le_of_ble_eq_true rfl) (Nat.le_of_ble_eq_true rfl) (Nat.le_of_ble_eq_true rfl) (Nat.le_of_ble_eq_true rfl) ⟨(Or.inl h1), rfl, rfl⟩
  · refine rn_iload_n (i := 1) dX9_log_4 rfl rfl ?_
    refine rn_aload_n (i := 0) dX9_log_5 rfl rfl ?_
    refine rn_get 0 kg_SG_66 h_sg hf_sg_14 dX9_log_6 ?_
    refine rn_callV (a := 1) (b := 6) [] kl_SG_268 dX9_log_9 20 h_logs rfl (c_X2_size G _ (o_logs := o_logs) (fs_logs := fs_logs) h_logs hf_logs_1) rfl rfl (Nat.le_of_ble_eq_true rfl) (Nat.le_of_ble_eq_true rfl) (Nat.le_of_ble_eq_true rfl) (Nat.le_of_ble_eq_true rfl) (Nat.le_of_ble_eq_true rfl) (Nat.le_of_ble_eq_true rfl) (by rintro E w h; rcases h with ⟨_, hr, _⟩ <;> cases hr) ?_
    rintro v w h
    obtain ⟨hc2, hr, hw⟩ := h; cases hr; subst hw
    refine rn_stk [.int (0 : Int32), .int k] rfl ?_
    refine rn_icmp_ge (tgt := 24) dX9_log_12 (by decide) (fun h3 => ?_) (fun h3 => False.elim (by have g0 := i32_rng k; simp only [Int32.lt_iff_toInt_lt, Int32.le_iff_toInt_le, gt_iff_lt, ge_iff_le, ← Int32.toInt_inj, i32_0] at *; omega))
    exact rn_throwW kt_SG_114_269 rfl dX9_log_24 dX9_log_27 dX9_log_28 dX9_log_31 dX9_log_34 (Nat.le_of_ble_eq_true rfl) (Nat.le_of_ble_eq_true rfl) (Nat.le_of_ble_eq_true rfl) (Nat.le_of_ble_eq_true rfl) (Nat.le_of_ble_eq_true rfl) ⟨(Or.inr ⟨h1, h3⟩), rfl, rfl⟩
set_option maxRecDepth 20000 in
set_option maxHeartbeats 4000000 in
theorem c_X1_size (G : rn_G) (ws : va_W) (o_heaps : Nat) (fs_heaps : List Value) (h_heaps : ws[18]? = some (o_heaps, Sum.inr (1, fs_heaps))) (hf_heaps_1 : fs_heaps[1]? = some (.int (0 : Int32))) : Rn G mX1_size 0 0 0 0 0 (lv_args 0 [.ref o_heaps]) [] ws (fun r w => (True ∧ r = Sum.inl (some (.int (0 : Int32))) ∧ w = ws)) := by
  refine rn_lv [(0, .ref o_heaps)] rfl ?_
  refine rn_aload_n (i := 0) dX1_size_0 rfl rfl ?_
  refine rn_get 18 kg_SG_Heaps_17 h_heaps hf_heaps_1 dX1_size_1 ?_
  exact rn_iret dX1_size_4 rfl rfl ⟨trivial, rfl, rfl⟩
set_option maxRecDepth 20000 in
set_option maxHeartbeats 4000000 in
theorem c_X9_ended (G : rn_G) (ws : va_W) (o_sg : Nat) (k : Int32) (fs_sg : List Value) (o_heaps : Nat) (o_ends : Nat) (fs_heaps : List Value) (h_sg : ws[0]? = some (o_sg, Sum.inr (9, fs_sg))) (hf_sg_11 : fs_sg[11]? = some (.int (0 : Int32))) (hf_sg_12 : fs_sg[12]? = some (.int (0 : Int32))) (hf_sg_13 : fs_sg[13]? = some (.ref o_heaps)) (hf_sg_15 : fs_sg[15]? = some (.ref o_ends)) (h_heaps : ws[18]? = some (o_heaps, Sum.inr (1, fs_heaps))) (hf_heaps_1 : fs_heaps[1]? = some (.int (0 : Int32))) (h_ends : ws[22]? = some (o_ends, Sum.inl (rn_k G 1, 18, Sum.inl (fun _ => 0)))) : Rn G mX9_ended 6 90 1 6 0 (lv_args 0 [.ref o_sg, .int k]) [] ws (fun r w => (((k < (0 : Int32)) ∨ (¬ (k < (0 : Int32)) ∧ (18 : Int32) ≤ k ∧ ¬ (k = (18 : Int32)) ∧ ¬ (k = (19 : Int32)) ∧ ¬ (k = (20 : Int32)))) ∧ r = Sum.inr "java/lang/IndexOutOfBoundsException" ∧ w = ws) ∨ (((¬ (k < (0 : Int32)) ∧ (18 : Int32) ≤ k ∧ k = (18 : Int32)) ∨ (¬ (k < (0 : Int32)) ∧ (18 : Int32) ≤ k ∧ ¬ (k = (18 : Int32)) ∧ k = (19 : Int32)) ∨ (¬ (k < (0 : Int32)) ∧ (18 : Int32) ≤ k ∧ ¬ (k = (18 : Int32)) ∧ ¬ (k = (19 : Int32)) ∧ k = (20 : Int32)) ∨ (¬ (k < (0 : Int32)) ∧ ¬ ((18 : Int32) ≤ k))) ∧ r = Sum.inl (some (.int (0 : Int32))) ∧ w = ws)) := by
  refine rn_lv [(0, .ref o_sg), (1, .int k)] rfl ?_
  refine rn_iload_n (i := 1) dX9_ended_0 rfl rfl ?_
  refine rn_if_lt (tgt := 20) dX9_ended_1 (by decide) (fun h1 => ?_) (fun h1 => ?_)
  · refine rn_iload_n (i := 1) dX9_ended_20 rfl rfl ?_
    refine rn_tableOut (tgt := 66) dX9_ended_21 (by have g0 := i32_rng k; simp only [Int32.lt_iff_toInt_lt, Int32.le_iff_toInt_le, gt_iff_lt, ge_iff_le, ← Int32.toInt_inj, i32_0, i32_18, i32_20] at *; omega) (by decide) ?_
    exact rn_throwW kt_SG_114_279 rfl dX9_ended_66 dX9_ended_69 dX9_ended_70 dX9_ended_73 dX9_ended_76 (Nat.le_of_ble_eq_true rfl) (Nat.le_of_ble_eq_true rfl) (Nat.le_of_ble_eq_true rfl) (Nat.le_of_ble_eq_true rfl) (Nat.le_of_ble_eq_true rfl) (Or.inl ⟨(Or.inl h1), rfl, rfl⟩)
  · refine rn_iload_n (i := 1) dX9_ended_4 rfl rfl ?_
    refine rn_aload_n (i := 0) dX9_ended_5 rfl rfl ?_
    refine rn_get 0 kg_SG_70 h_sg hf_sg_15 dX9_ended_6 ?_
    refine rn_alen 22 1 (v := (18 : Int32)) h_ends rfl (by decide) dX9_ended_9 ?_
    refine rn_icmp_ge (tgt := 20) dX9_ended_10 (by decide) (fun h3 => ?_) (fun h3 => ?_)
    · refine rn_iload_n (i := 1) dX9_ended_20 rfl rfl ?_
      by_cases h5 : k = (18 : Int32)
      · refine rn_topi (18 : Int32) h5 ?_
        refine rn_tableIn (off := 27) (tgt := 48) dX9_ended_21 (by decide) (by decide) (by decide) (by decide) ?_
        refine rn_aload_n (i := 0) dX9_ended_48 rfl rfl ?_
        refine rn_get 0 kg_SG_178 h_sg hf_sg_11 dX9_ended_49 ?_
        exact rn_iret dX9_ended_52 rfl rfl (Or.inr ⟨(Or.inl ⟨h1, h3, h5⟩), rfl, rfl⟩)
      · skip
        by_cases h6 : k = (19 : Int32)
        · refine rn_topi (19 : Int32) h6 ?_
          refine rn_tableIn (off := 32) (tgt := 53) dX9_ended_21 (by decide) (by decide) (by decide) (by decide) ?_
          refine rn_aload_n (i := 0) dX9_ended_53 rfl rfl ?_
          refine rn_get 0 kg_SG_275 h_sg hf_sg_12 dX9_ended_54 ?_
          exact rn_iret dX9_ended_57 rfl rfl (Or.inr ⟨(Or.inr (Or.inl ⟨h1, h3, h5, h6⟩)), rfl, rfl⟩)
        · skip
          by_cases h7 : k = (20 : Int32)
          · refine rn_topi (20 : Int32) h7 ?_
            refine rn_tableIn (off := 37) (tgt := 58) dX9_ended_21 (by decide) (by decide) (by decide) (by decide) ?_
            refine rn_aload_n (i := 0) dX9_ended_58 rfl rfl ?_
            refine rn_get 0 kg_SG_59 h_sg hf_sg_13 dX9_ended_59 ?_
            refine rn_callV (a := 1) (b := 6) [] kl_SG_278 dX9_ended_62 18 h_heaps rfl (c_X1_size G _ (o_heaps := o_heaps) (fs_heaps := fs_heaps) h_heaps hf_heaps_1) rfl rfl (Nat.le_of_ble_eq_true rfl) (Nat.le_of_ble_eq_true rfl) (Nat.le_of_ble_eq_true rfl) (Nat.le_of_ble_eq_true rfl) (Nat.le_of_ble_eq_true rfl) (Nat.le_of_ble_eq_true rfl) (by rintro E w h; rcases h with ⟨_, hr, _⟩ <;> cases hr) ?_
            rintro v w h
            obtain ⟨hc8, hr, hw⟩ := h; cases hr; subst hw
            refine rn_stk [.int (0 : Int32)] rfl ?_
            exact rn_iret dX9_ended_65 rfl rfl (Or.inr ⟨(Or.inr (Or.inr (Or.inl ⟨h1, h3, h5, h6, h7⟩))), rfl, rfl⟩)
          · skip
            refine rn_tableOut (tgt := 66) dX9_ended_21 (by have g0 := i32_rng k; simp only [Int32.lt_iff_toInt_lt, Int32.le_iff_toInt_le, gt_iff_lt, ge_iff_le, ← Int32.toInt_inj, i32_0, i32_18, i32_19, i32_20] at *; omega) (by decide) ?_
            exact rn_throwW kt_SG_114_279 rfl dX9_ended_66 dX9_ended_69 dX9_ended_70 dX9_ended_73 dX9_ended_76 (Nat.le_of_ble_eq_true rfl) (Nat.le_of_ble_eq_true rfl) (Nat.le_of_ble_eq_true rfl) (Nat.le_of_ble_eq_true rfl) (Nat.le_of_ble_eq_true rfl) (Or.inl ⟨(Or.inr ⟨h1, h3, h5, h6, h7⟩), rfl, rfl⟩)
    · refine rn_aload_n (i := 0) dX9_ended_13 rfl rfl ?_
      refine rn_get 0 kg_SG_70 h_sg hf_sg_15 dX9_ended_14 ?_
      refine rn_iload_n (i := 1) dX9_ended_17 rfl rfl ?_
      refine rn_iald 22 1 h_ends rfl (rn_in (by have g0 := i32_rng k; simp only [Int32.lt_iff_toInt_lt, Int32.le_iff_toInt_le, gt_iff_lt, ge_iff_le, ← Int32.toInt_inj, i32_0, i32_18] at *; omega)) dX9_ended_18 ?_
      refine rn_topi (0 : Int32) rfl ?_
      exact rn_iret dX9_ended_19 rfl rfl (Or.inr ⟨(Or.inr (Or.inr (Or.inr ⟨h1, h3⟩))), rfl, rfl⟩)
set_option maxRecDepth 20000 in
set_option maxHeartbeats 4000000 in
theorem c_X7_empty (G : rn_G) (ws : va_W) (o_routes : Nat) (fs_routes : List Value) (h_routes : ws[11]? = some (o_routes, Sum.inr (7, fs_routes))) (hf_routes_2 : fs_routes[2]? = some (.int (0 : Int32))) : Rn G mX7_empty 0 0 0 0 0 (lv_args 0 [.ref o_routes]) [] ws (fun r w => (True ∧ r = Sum.inl none ∧ w = (ws.set 11 (o_routes, Sum.inr (7, (fs_routes.set 2 (.int (0 : Int32)))))))) := by
  refine rn_lv [(0, .ref o_routes)] rfl ?_
  refine rn_aload_n (i := 0) dX7_empty_0 rfl rfl ?_
  refine rn_iconst (v := (0 : Int32)) dX7_empty_1 (by decide) ?_
  refine rn_put 11 (kp_SG_Routes_21 _) h_routes (ls_lt hf_routes_2) rfl rfl dX7_empty_2 ?_
  exact rn_vret dX7_empty_5 rfl ⟨trivial, rfl, rfl⟩
set_option maxRecDepth 20000 in
set_option maxHeartbeats 4000000 in
theorem c_X5_empty (G : rn_G) (ws : va_W) (o_pols : Nat) (fs_pols : List Value) (h_pols : ws[14]? = some (o_pols, Sum.inr (5, fs_pols))) (hf_pols_1 : fs_pols[1]? = some (.int (0 : Int32))) (hf_pols_2 : fs_pols[2]? = some (.int (0 : Int32))) (hf_pols_3 : fs_pols[3]? = some (.int (0 : Int32))) (hf_pols_4 : fs_pols[4]? = some (.int (65535 : Int32))) : Rn G mX5_empty 1 23 0 0 0 (lv_args 0 [.ref o_pols]) [] ws (fun r w => (True ∧ r = Sum.inl none ∧ w = ((((ws.set 14 (o_pols, Sum.inr (5, (fs_pols.set 1 (.int (0 : Int32)))))).set 14 (o_pols, Sum.inr (5, ((fs_pols.set 1 (.int (0 : Int32))).set 2 (.int (0 : Int32)))))).set 14 (o_pols, Sum.inr (5, (((fs_pols.set 1 (.int (0 : Int32))).set 2 (.int (0 : Int32))).set 3 (.int (0 : Int32)))))).set 14 (o_pols, Sum.inr (5, ((((fs_pols.set 1 (.int (0 : Int32))).set 2 (.int (0 : Int32))).set 3 (.int (0 : Int32))).set 4 (.int (65535 : Int32)))))))) := by
  refine rn_lv [(0, .ref o_pols)] rfl ?_
  refine rn_aload_n (i := 0) dX5_empty_0 rfl rfl ?_
  refine rn_iconst (v := (0 : Int32)) dX5_empty_1 (by decide) ?_
  refine rn_put 14 (kp_SG_Policies_22 _) h_pols (ls_lt hf_pols_1) rfl rfl dX5_empty_2 ?_
  refine rn_aload_n (i := 0) dX5_empty_5 rfl rfl ?_
  refine rn_iconst (v := (0 : Int32)) dX5_empty_6 (by decide) ?_
  refine rn_iconst (v := (0 : Int32)) dX5_empty_7 (by decide) ?_
  refine rn_ldc (v := (65535 : Int32)) wd_70 dX5_empty_8 ?_
  refine rn_callV (a := 0) (b := 0) [.int (0 : Int32), .int (0 : Int32), .int (65535 : Int32)] kl_SG_Policies_34 dX5_empty_10 14 (ls_eq h_pols) rfl (c_X5_nextMeans G _ (o_pols := o_pols) (x := (0 : Int32)) (y := (0 : Int32)) (u := (65535 : Int32)) (fs_pols := (fs_pols.set 1 (.int (0 : Int32)))) (ls_eq h_pols) (ls_ne (by decide) hf_pols_2) (ls_ne (by decide) hf_pols_3) (ls_ne (by decide) hf_pols_4)) rfl rfl (Nat.le_of_ble_eq_true rfl) (Nat.le_of_ble_eq_true rfl) (Nat.le_of_ble_eq_true rfl) (Nat.le_of_ble_eq_true rfl) (Nat.le_of_ble_eq_true rfl) (Nat.le_of_ble_eq_true rfl) (by rintro E w h; rcases h with ⟨_, hr, _⟩ <;> cases hr) ?_
  rintro v w h
  obtain ⟨hc1, hr, hw⟩ := h; cases hr; subst hw
  refine rn_stk [] rfl ?_
  exact rn_vret dX5_empty_13 rfl ⟨trivial, rfl, rfl⟩
set_option maxRecDepth 20000 in
set_option maxHeartbeats 4000000 in
theorem c_X1_empty (G : rn_G) (ws : va_W) (o_heaps : Nat) (fs_heaps : List Value) (h_heaps : ws[18]? = some (o_heaps, Sum.inr (1, fs_heaps))) (hf_heaps_1 : fs_heaps[1]? = some (.int (0 : Int32))) : Rn G mX1_empty 0 0 0 0 0 (lv_args 0 [.ref o_heaps]) [] ws (fun r w => (True ∧ r = Sum.inl none ∧ w = (ws.set 18 (o_heaps, Sum.inr (1, (fs_heaps.set 1 (.int (0 : Int32)))))))) := by
  refine rn_lv [(0, .ref o_heaps)] rfl ?_
  refine rn_aload_n (i := 0) dX1_empty_0 rfl rfl ?_
  refine rn_iconst (v := (0 : Int32)) dX1_empty_1 (by decide) ?_
  refine rn_put 18 (kp_SG_Heaps_17 _) h_heaps (ls_lt hf_heaps_1) rfl rfl dX1_empty_2 ?_
  exact rn_vret dX1_empty_5 rfl ⟨trivial, rfl, rfl⟩
set_option maxRecDepth 20000 in
set_option maxHeartbeats 4000000 in
theorem c_X2_empty (G : rn_G) (ws : va_W) (o_logs : Nat) (fs_logs : List Value) (h_logs : ws[20]? = some (o_logs, Sum.inr (2, fs_logs))) (hf_logs_1 : fs_logs[1]? = some (.int (0 : Int32))) : Rn G mX2_empty 0 0 0 0 0 (lv_args 0 [.ref o_logs]) [] ws (fun r w => (True ∧ r = Sum.inl none ∧ w = (ws.set 20 (o_logs, Sum.inr (2, (fs_logs.set 1 (.int (0 : Int32)))))))) := by
  refine rn_lv [(0, .ref o_logs)] rfl ?_
  refine rn_aload_n (i := 0) dX2_empty_0 rfl rfl ?_
  refine rn_iconst (v := (0 : Int32)) dX2_empty_1 (by decide) ?_
  refine rn_put 20 (kp_SG_Log_13 _) h_logs (ls_lt hf_logs_1) rfl rfl dX2_empty_2 ?_
  exact rn_vret dX2_empty_5 rfl ⟨trivial, rfl, rfl⟩
set_option maxRecDepth 20000 in
set_option maxHeartbeats 4000000 in
theorem c_J7_fill_53178_peers (G : rn_G) (ws : va_W) (o_peers : Nat) (x : Int32) (h_peers : ws[16]? = some (o_peers, Sum.inl (rn_k G 1, 4, Sum.inl (fun _ => 0)))) : Rn G mJ7_fill_53178 0 0 0 0 0 (lv_args 0 [.ref o_peers, .int x]) [] ws (fun r w => (∃ hg8 : Nat → Int32, True ∧ r = Sum.inl none ∧ w = (ws.set 16 (o_peers, Sum.inl (rn_k G 1, 4, Sum.inl hg8))))) := by
  refine rn_lv [(0, .ref o_peers), (1, .int x)] rfl ?_
  refine rn_iconst (v := (0 : Int32)) dJ7_fill_53178_0 (by decide) ?_
  refine rn_istore_n dJ7_fill_53178_1 rfl (by decide) [(0, .ref o_peers), (1, .int x), (2, .int (0 : Int32))] rfl ?_
  refine rn_aload_n (i := 0) dJ7_fill_53178_2 rfl rfl ?_
  refine rn_alen 16 1 (v := (4 : Int32)) h_peers rfl (by decide) dJ7_fill_53178_3 ?_
  refine rn_istore_n dJ7_fill_53178_4 rfl (by decide) [(0, .ref o_peers), (1, .int x), (2, .int (0 : Int32)), (3, .int (4 : Int32))] rfl ?_
  refine rn_iload_n (i := 2) dJ7_fill_53178_5 rfl rfl ?_
  refine rn_iload_n (i := 3) dJ7_fill_53178_6 rfl rfl ?_
  refine rn_icmp_ge (tgt := 20) dJ7_fill_53178_7 (by decide) (fun h1 => absurd h1 (by decide)) (fun h1 => ?_)
  refine rn_aload_n (i := 0) dJ7_fill_53178_10 rfl rfl ?_
  refine rn_iload_n (i := 2) dJ7_fill_53178_11 rfl rfl ?_
  refine rn_iload_n (i := 1) dJ7_fill_53178_12 rfl rfl ?_
  refine rn_iastF 16 1 h_peers rfl (by unfold vp_in; decide) dJ7_fill_53178_13 (fun hg2 => ?_)
  refine rn_iinc (v := (1 : Int32)) dJ7_fill_53178_14 rfl (by decide) (by decide) [(0, .ref o_peers), (1, .int x), (2, .int (1 : Int32)), (3, .int (4 : Int32))] rfl ?_
  refine rn_goto (tgt := 5) dJ7_fill_53178_17 (by decide) ?_
  refine rn_iload_n (i := 2) dJ7_fill_53178_5 rfl rfl ?_
  refine rn_iload_n (i := 3) dJ7_fill_53178_6 rfl rfl ?_
  refine rn_icmp_ge (tgt := 20) dJ7_fill_53178_7 (by decide) (fun h3 => absurd h3 (by decide)) (fun h3 => ?_)
  refine rn_aload_n (i := 0) dJ7_fill_53178_10 rfl rfl ?_
  refine rn_iload_n (i := 2) dJ7_fill_53178_11 rfl rfl ?_
  refine rn_iload_n (i := 1) dJ7_fill_53178_12 rfl rfl ?_
  refine rn_iastC 16 1 (ls_eq h_peers) rfl (by unfold vp_in; decide) dJ7_fill_53178_13 (fun hg4 => ?_)
  refine rn_iinc (v := (2 : Int32)) dJ7_fill_53178_14 rfl (by decide) (by decide) [(0, .ref o_peers), (1, .int x), (2, .int (2 : Int32)), (3, .int (4 : Int32))] rfl ?_
  refine rn_goto (tgt := 5) dJ7_fill_53178_17 (by decide) ?_
  refine rn_iload_n (i := 2) dJ7_fill_53178_5 rfl rfl ?_
  refine rn_iload_n (i := 3) dJ7_fill_53178_6 rfl rfl ?_
  refine rn_icmp_ge (tgt := 20) dJ7_fill_53178_7 (by decide) (fun h5 => absurd h5 (by decide)) (fun h5 => ?_)
  refine rn_aload_n (i := 0) dJ7_fill_53178_10 rfl rfl ?_
  refine rn_iload_n (i := 2) dJ7_fill_53178_11 rfl rfl ?_
  refine rn_iload_n (i := 1) dJ7_fill_53178_12 rfl rfl ?_
  refine rn_iastC 16 1 (ls_eq h_peers) rfl (by unfold vp_in; decide) dJ7_fill_53178_13 (fun hg6 => ?_)
  refine rn_iinc (v := (3 : Int32)) dJ7_fill_53178_14 rfl (by decide) (by decide) [(0, .ref o_peers), (1, .int x), (2, .int (3 : Int32)), (3, .int (4 : Int32))] rfl ?_
  refine rn_goto (tgt := 5) dJ7_fill_53178_17 (by decide) ?_
  refine rn_iload_n (i := 2) dJ7_fill_53178_5 rfl rfl ?_
  refine rn_iload_n (i := 3) dJ7_fill_53178_6 rfl rfl ?_
  refine rn_icmp_ge (tgt := 20) dJ7_fill_53178_7 (by decide) (fun h7 => absurd h7 (by decide)) (fun h7 => ?_)
  refine rn_aload_n (i := 0) dJ7_fill_53178_10 rfl rfl ?_
  refine rn_iload_n (i := 2) dJ7_fill_53178_11 rfl rfl ?_
  refine rn_iload_n (i := 1) dJ7_fill_53178_12 rfl rfl ?_
  refine rn_iastC 16 1 (ls_eq h_peers) rfl (by unfold vp_in; decide) dJ7_fill_53178_13 (fun hg8 => ?_)
  refine rn_iinc (v := (4 : Int32)) dJ7_fill_53178_14 rfl (by decide) (by decide) [(0, .ref o_peers), (1, .int x), (2, .int (4 : Int32)), (3, .int (4 : Int32))] rfl ?_
  refine rn_goto (tgt := 5) dJ7_fill_53178_17 (by decide) ?_
  refine rn_iload_n (i := 2) dJ7_fill_53178_5 rfl rfl ?_
  refine rn_iload_n (i := 3) dJ7_fill_53178_6 rfl rfl ?_
  refine rn_icmp_ge (tgt := 20) dJ7_fill_53178_7 (by decide) (fun h9 => ?_) (fun h9 => absurd h9 (by decide))
  exact rn_vret dJ7_fill_53178_20 rfl ⟨hg8, trivial, rfl, rfl⟩
