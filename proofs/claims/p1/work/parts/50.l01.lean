set_option maxRecDepth 20000 in
set_option maxHeartbeats 4000000 in
theorem law_2 (G : rn_G) (ws : va_W) (hL : G.2.2.2.2.1.2.1 = 11) (o_sg : Nat) (fs_sg : List Value) (o_tape : Nat) (fs_tape : List Value) (o_m : Nat) (fs_m : List Value) (o_out : Nat) (h_sg : ws[0]? = some (o_sg, Sum.inr (9, fs_sg))) (hf_sg_1 : fs_sg[1]? = some (.ref o_tape)) (h_tape : ws[1]? = some (o_tape, Sum.inr (4, fs_tape))) (hf_tape_1 : fs_tape[1]? = some (.int (0 : Int32))) (h_m : ws[23]? = some (o_m, Sum.inr (10, fs_m))) (hf_m_0 : fs_m[0]? = some (.int (0 : Int32))) (hf_m_3 : fs_m[3]? = some (.int (0 : Int32))) (h_out : ws[62]? = some (o_out, Sum.inl (rn_k G 2, 1, Sum.inr (Sum.inl (fun _ => 0))))) : Rn G mL_law 9 158 1 6 288 [(0, .ref G.2.2.2.2.1.1), (1, .ref o_sg), (2, .ref o_m), (3, .ref o_out), (4, .int (1 : Int32))] [] ws (fun r _ => r = Sum.inl (some (.int 1))) := by
  obtain ⟨sc2, se2⟩ : ∃ x : Int32, G.2.2.2.2.1.2.2 (2 : Int32).toNatClampNeg = x := ⟨_, rfl⟩
  obtain ⟨sc3, se3⟩ : ∃ x : Int32, G.2.2.2.2.1.2.2 (3 : Int32).toNatClampNeg = x := ⟨_, rfl⟩
  refine rn_aload_n (i := 1) dL_law_288 rfl rfl ?_
  refine rn_aload_n (i := 0) dL_law_289 rfl rfl ?_
  refine rn_iload dL_law_290 rfl ?_
  refine rn_iconst (v := (1 : Int32)) dL_law_292 (by decide) ?_
  refine rn_iadd dL_law_293 ?_
  refine rn_topi (2 : Int32) (by decide) ?_
  refine rn_sld (by rw [hL]; unfold vp_in; decide) dL_law_294 ?_
  refine rn_topi sc2 se2 ?_
  refine rn_aload_n (i := 0) dL_law_295 rfl rfl ?_
  refine rn_iload dL_law_296 rfl ?_
  refine rn_iconst (v := (2 : Int32)) dL_law_298 (by decide) ?_
  refine rn_iadd dL_law_299 ?_
  refine rn_topi (3 : Int32) (by decide) ?_
  refine rn_sld (by rw [hL]; unfold vp_in; decide) dL_law_300 ?_
  refine rn_topi sc3 se3 ?_
  refine rn_aload_n (i := 3) dL_law_301 rfl rfl ?_
  refine rn_callSX (a := 0) (b := 0) [.ref o_sg, .int sc2, .int sc3, .ref o_out] kl_SGLaw_117 dL_law_302 (c_L_poke G _ (o_sg := o_sg) (x := sc2) (y := sc3) (o_out := o_out) (fs_sg := fs_sg) (o_tape := o_tape) (fs_tape := fs_tape) h_sg hf_sg_1 h_tape hf_tape_1) rfl rfl (Nat.le_of_ble_eq_true rfl) (Nat.le_of_ble_eq_true rfl) (Nat.le_of_ble_eq_true rfl) (Nat.le_of_ble_eq_true rfl) (Nat.le_of_ble_eq_true rfl) (Nat.le_of_ble_eq_true rfl) (by rintro E w h; rcases h with ⟨_, hr, _⟩ <;> cases hr) ?_
  rintro v w h
  obtain ⟨hc1, hr, hw⟩ := h; cases hr; rw [hw]
  refine rn_stk [.int (1 : Int32)] rfl ?_
  refine rn_istore dL_law_305 (by decide) [(0, .ref G.2.2.2.2.1.1), (1, .ref o_sg), (2, .ref o_m), (3, .ref o_out), (4, .int (1 : Int32)), (5, .int (1 : Int32))] rfl ?_
  refine rn_aload_n (i := 2) dL_law_307 rfl rfl ?_
  refine rn_aload_n (i := 0) dL_law_308 rfl rfl ?_
  refine rn_iload dL_law_309 rfl ?_
  refine rn_iconst (v := (1 : Int32)) dL_law_311 (by decide) ?_
  refine rn_iadd dL_law_312 ?_
  refine rn_topi (2 : Int32) (by decide) ?_
  refine rn_sld (by rw [hL]; unfold vp_in; decide) dL_law_313 ?_
  refine rn_topi sc2 se2 ?_
  refine rn_aload_n (i := 0) dL_law_314 rfl rfl ?_
  refine rn_iload dL_law_315 rfl ?_
  refine rn_iconst (v := (2 : Int32)) dL_law_317 (by decide) ?_
  refine rn_iadd dL_law_318 ?_
  refine rn_topi (3 : Int32) (by decide) ?_
  refine rn_sld (by rw [hL]; unfold vp_in; decide) dL_law_319 ?_
  refine rn_topi sc3 se3 ?_
  refine rn_callV (a := 0) (b := 0) [.int sc2, .int sc3] kl_SGLaw_120 dL_law_320 23 h_m rfl (c_X10_poke G _ (o_m := o_m) (k := sc2) (x := sc3) (fs_m := fs_m) h_m hf_m_0 hf_m_3) rfl rfl (Nat.le_of_ble_eq_true rfl) (Nat.le_of_ble_eq_true rfl) (Nat.le_of_ble_eq_true rfl) (Nat.le_of_ble_eq_true rfl) (Nat.le_of_ble_eq_true rfl) (Nat.le_of_ble_eq_true rfl) (by rintro E w h; rcases h with ⟨_, hr, _⟩ <;> cases hr) ?_
  rintro v w h
  obtain ⟨hc2, hr, hw⟩ := h; cases hr
  have hw3 : w[23]? = some (o_m, Sum.inr (10, ((fs_m.set 0 (.int (0 : Int32))).set 0 (.int (1 : Int32))))) := by rw [hw, List.getElem?_set_self (by (try simp only [List.length_set, List.length_append, List.length_cons, List.length_nil]); have hq := ls_lt h_m; omega)]
  have hw4 : w[62]? = some (o_out, Sum.inl (rn_k G 2, 1, Sum.inr (Sum.inl (fun _ => 0)))) := by rw [hw, List.getElem?_set_ne (by decide), List.getElem?_set_ne (by decide), h_out]
  refine rn_stk [.int (0 : Int32)] rfl ?_
  refine rn_istore dL_law_323 (by decide) [(0, .ref G.2.2.2.2.1.1), (1, .ref o_sg), (2, .ref o_m), (3, .ref o_out), (4, .int (1 : Int32)), (5, .int (1 : Int32)), (6, .int (0 : Int32))] rfl ?_
  refine rn_aload_n (i := 2) dL_law_325 rfl rfl ?_
  refine rn_callV (a := 0) (b := 0) [] kl_SGLaw_110 dL_law_326 23 hw3 rfl (c_X10_thrown G _ (o_m := o_m) (fs_m := ((fs_m.set 0 (.int (0 : Int32))).set 0 (.int (1 : Int32)))) (th := (1 : Int32)) hw3 (ls_eq (ls_eq hf_m_0))) rfl rfl (Nat.le_of_ble_eq_true rfl) (Nat.le_of_ble_eq_true rfl) (Nat.le_of_ble_eq_true rfl) (Nat.le_of_ble_eq_true rfl) (Nat.le_of_ble_eq_true rfl) (Nat.le_of_ble_eq_true rfl) (by rintro E w h; rcases h with ⟨_, hr, _⟩ <;> cases hr) ?_
  rintro v w h
  obtain ⟨hc5, hr, hw⟩ := h; cases hr; rw [hw]
  refine rn_stk [.int (1 : Int32)] rfl ?_
  refine rn_iload dL_law_329 rfl ?_
  refine rn_icmp_eq (tgt := 336) dL_law_331 (by decide) (fun h6 => ?_) (fun h6 => absurd h6 (by decide))
  refine rn_iload dL_law_336 rfl ?_
  refine rn_if_ne (tgt := 353) dL_law_338 (by decide) (fun h7 => ?_) (fun h7 => absurd h7 (by decide))
  refine rn_goto (tgt := 1865) dL_law_353 (by decide) ?_
  refine rn_lv [(0, .ref G.2.2.2.2.1.1), (1, .ref o_sg), (2, .ref o_m), (3, .ref o_out), (4, .int (1 : Int32))] rfl ?_
  exact law_end G _ hL _ _ _
set_option maxRecDepth 20000 in
set_option maxHeartbeats 4000000 in
theorem law_3 (G : rn_G) (ws : va_W) (hL : G.2.2.2.2.1.2.1 = 11) (o_sg : Nat) (fs_sg : List Value) (o_tape : Nat) (fs_tape : List Value) (o_m : Nat) (fs_m : List Value) (o_out : Nat) (h_sg : ws[0]? = some (o_sg, Sum.inr (9, fs_sg))) (hf_sg_1 : fs_sg[1]? = some (.ref o_tape)) (h_tape : ws[1]? = some (o_tape, Sum.inr (4, fs_tape))) (hf_tape_1 : fs_tape[1]? = some (.int (0 : Int32))) (h_m : ws[23]? = some (o_m, Sum.inr (10, fs_m))) (hf_m_0 : fs_m[0]? = some (.int (0 : Int32))) (hf_m_3 : fs_m[3]? = some (.int (0 : Int32))) (h_out : ws[62]? = some (o_out, Sum.inl (rn_k G 2, 1, Sum.inr (Sum.inl (fun _ => 0))))) : Rn G mL_law 8 134 1 6 356 [(0, .ref G.2.2.2.2.1.1), (1, .ref o_sg), (2, .ref o_m), (3, .ref o_out), (4, .int (1 : Int32))] [] ws (fun r _ => r = Sum.inl (some (.int 1))) := by
  obtain ⟨sc2, se2⟩ : ∃ x : Int32, G.2.2.2.2.1.2.2 (2 : Int32).toNatClampNeg = x := ⟨_, rfl⟩
  refine rn_aload_n (i := 1) dL_law_356 rfl rfl ?_
  refine rn_aload_n (i := 0) dL_law_357 rfl rfl ?_
  refine rn_iload dL_law_358 rfl ?_
  refine rn_iconst (v := (1 : Int32)) dL_law_360 (by decide) ?_
  refine rn_iadd dL_law_361 ?_
  refine rn_topi (2 : Int32) (by decide) ?_
  refine rn_sld (by rw [hL]; unfold vp_in; decide) dL_law_362 ?_
  refine rn_topi sc2 se2 ?_
  refine rn_aload_n (i := 3) dL_law_363 rfl rfl ?_
  refine rn_callSX (a := 0) (b := 0) [.ref o_sg, .int sc2, .ref o_out] kl_SGLaw_121 dL_law_364 (c_L_at G _ (o_sg := o_sg) (x := sc2) (o_out := o_out) (fs_sg := fs_sg) (o_tape := o_tape) (fs_tape := fs_tape) h_sg hf_sg_1 h_tape hf_tape_1) rfl rfl (Nat.le_of_ble_eq_true rfl) (Nat.le_of_ble_eq_true rfl) (Nat.le_of_ble_eq_true rfl) (Nat.le_of_ble_eq_true rfl) (Nat.le_of_ble_eq_true rfl) (Nat.le_of_ble_eq_true rfl) (by rintro E w h; rcases h with ⟨_, hr, _⟩ <;> cases hr) ?_
  rintro v w h
  obtain ⟨hc1, hr, hw⟩ := h; cases hr; rw [hw]
  refine rn_stk [.int (1 : Int32)] rfl ?_
  refine rn_istore dL_law_367 (by decide) [(0, .ref G.2.2.2.2.1.1), (1, .ref o_sg), (2, .ref o_m), (3, .ref o_out), (4, .int (1 : Int32)), (5, .int (1 : Int32))] rfl ?_
  refine rn_aload_n (i := 2) dL_law_369 rfl rfl ?_
  refine rn_aload_n (i := 0) dL_law_370 rfl rfl ?_
  refine rn_iload dL_law_371 rfl ?_
  refine rn_iconst (v := (1 : Int32)) dL_law_373 (by decide) ?_
  refine rn_iadd dL_law_374 ?_
  refine rn_topi (2 : Int32) (by decide) ?_
  refine rn_sld (by rw [hL]; unfold vp_in; decide) dL_law_375 ?_
  refine rn_topi sc2 se2 ?_
  refine rn_callV (a := 0) (b := 0) [.int sc2] kl_SGLaw_124 dL_law_376 23 h_m rfl (c_X10_at G _ (o_m := o_m) (k := sc2) (fs_m := fs_m) h_m hf_m_0 hf_m_3) rfl rfl (Nat.le_of_ble_eq_true rfl) (Nat.le_of_ble_eq_true rfl) (Nat.le_of_ble_eq_true rfl) (Nat.le_of_ble_eq_true rfl) (Nat.le_of_ble_eq_true rfl) (Nat.le_of_ble_eq_true rfl) (by rintro E w h; rcases h with ⟨_, hr, _⟩ <;> cases hr) ?_
  rintro v w h
  obtain ⟨hc2, hr, hw⟩ := h; cases hr
  have hw3 : w[23]? = some (o_m, Sum.inr (10, ((fs_m.set 0 (.int (0 : Int32))).set 0 (.int (1 : Int32))))) := by rw [hw, List.getElem?_set_self (by (try simp only [List.length_set, List.length_append, List.length_cons, List.length_nil]); have hq := ls_lt h_m; omega)]
  have hw4 : w[62]? = some (o_out, Sum.inl (rn_k G 2, 1, Sum.inr (Sum.inl (fun _ => 0)))) := by rw [hw, List.getElem?_set_ne (by decide), List.getElem?_set_ne (by decide), h_out]
  refine rn_stk [.int (0 : Int32)] rfl ?_
  refine rn_istore dL_law_379 (by decide) [(0, .ref G.2.2.2.2.1.1), (1, .ref o_sg), (2, .ref o_m), (3, .ref o_out), (4, .int (1 : Int32)), (5, .int (1 : Int32)), (6, .int (0 : Int32))] rfl ?_
  refine rn_aload_n (i := 2) dL_law_381 rfl rfl ?_
  refine rn_callV (a := 0) (b := 0) [] kl_SGLaw_110 dL_law_382 23 hw3 rfl (c_X10_thrown G _ (o_m := o_m) (fs_m := ((fs_m.set 0 (.int (0 : Int32))).set 0 (.int (1 : Int32)))) (th := (1 : Int32)) hw3 (ls_eq (ls_eq hf_m_0))) rfl rfl (Nat.le_of_ble_eq_true rfl) (Nat.le_of_ble_eq_true rfl) (Nat.le_of_ble_eq_true rfl) (Nat.le_of_ble_eq_true rfl) (Nat.le_of_ble_eq_true rfl) (Nat.le_of_ble_eq_true rfl) (by rintro E w h; rcases h with ⟨_, hr, _⟩ <;> cases hr) ?_
  rintro v w h
  obtain ⟨hc5, hr, hw⟩ := h; cases hr; rw [hw]
  refine rn_stk [.int (1 : Int32)] rfl ?_
  refine rn_iload dL_law_385 rfl ?_
  refine rn_icmp_eq (tgt := 392) dL_law_387 (by decide) (fun h6 => ?_) (fun h6 => absurd h6 (by decide))
  refine rn_iload dL_law_392 rfl ?_
  refine rn_if_ne (tgt := 409) dL_law_394 (by decide) (fun h7 => ?_) (fun h7 => absurd h7 (by decide))
  refine rn_goto (tgt := 1865) dL_law_409 (by decide) ?_
  refine rn_lv [(0, .ref G.2.2.2.2.1.1), (1, .ref o_sg), (2, .ref o_m), (3, .ref o_out), (4, .int (1 : Int32))] rfl ?_
  exact law_end G _ hL _ _ _
set_option maxRecDepth 20000 in
set_option maxHeartbeats 4000000 in
theorem law_4 (G : rn_G) (ws : va_W) (hL : G.2.2.2.2.1.2.1 = 11) (o_sg : Nat) (fs_sg : List Value) (o_tape : Nat) (fs_tape : List Value) (r_tape : Nat) (f_tape : Nat → Int32) (o_m : Nat) (fs_m : List Value) (a_bytes : Nat) (o_out : Nat) (h_sg : ws[0]? = some (o_sg, Sum.inr (9, fs_sg))) (hf_sg_1 : fs_sg[1]? = some (.ref o_tape)) (h_tape : ws[1]? = some (o_tape, Sum.inr (4, fs_tape))) (hf_tape_0 : fs_tape[0]? = some (.ref r_tape)) (hf_tape_1 : fs_tape[1]? = some (.int (0 : Int32))) (h_taper : ws[2]? = some (r_tape, Sum.inl (rn_k G 0, 2040, Sum.inl f_tape))) (h_m : ws[23]? = some (o_m, Sum.inr (10, fs_m))) (hf_m_0 : fs_m[0]? = some (.int (0 : Int32))) (hf_m_2 : fs_m[2]? = some (.ref a_bytes)) (hf_m_3 : fs_m[3]? = some (.int (0 : Int32))) (h_m_bytes : ws[24]? = some (a_bytes, Sum.inl (rn_k G 1, 22000, Sum.inl (fun _ => 0)))) (h_out : ws[62]? = some (o_out, Sum.inl (rn_k G 2, 1, Sum.inr (Sum.inl (fun _ => 0))))) : Rn G mL_law 8 145 1 6 412 [(0, .ref G.2.2.2.2.1.1), (1, .ref o_sg), (2, .ref o_m), (3, .ref o_out), (4, .int (1 : Int32))] [] ws (fun r _ => r = Sum.inl (some (.int 1))) := by
  obtain ⟨sc2, se2⟩ : ∃ x : Int32, G.2.2.2.2.1.2.2 (2 : Int32).toNatClampNeg = x := ⟨_, rfl⟩
  obtain ⟨sc3, se3⟩ : ∃ x : Int32, G.2.2.2.2.1.2.2 (3 : Int32).toNatClampNeg = x := ⟨_, rfl⟩
  obtain ⟨sc4, se4⟩ : ∃ x : Int32, G.2.2.2.2.1.2.2 (4 : Int32).toNatClampNeg = x := ⟨_, rfl⟩
  obtain ⟨sc5, se5⟩ : ∃ x : Int32, G.2.2.2.2.1.2.2 (5 : Int32).toNatClampNeg = x := ⟨_, rfl⟩
  obtain ⟨sc6, se6⟩ : ∃ x : Int32, G.2.2.2.2.1.2.2 (6 : Int32).toNatClampNeg = x := ⟨_, rfl⟩
  obtain ⟨sc7, se7⟩ : ∃ x : Int32, G.2.2.2.2.1.2.2 (7 : Int32).toNatClampNeg = x := ⟨_, rfl⟩
  refine rn_aload_n (i := 1) dL_law_412 rfl rfl ?_
  refine rn_aload_n (i := 0) dL_law_413 rfl rfl ?_
  refine rn_iload dL_law_414 rfl ?_
  refine rn_iconst (v := (1 : Int32)) dL_law_416 (by decide) ?_
  refine rn_iadd dL_law_417 ?_
  refine rn_topi (2 : Int32) (by decide) ?_
  refine rn_sld (by rw [hL]; unfold vp_in; decide) dL_law_418 ?_
  refine rn_topi sc2 se2 ?_
  refine rn_aload_n (i := 0) dL_law_419 rfl rfl ?_
  refine rn_iload dL_law_420 rfl ?_
  refine rn_iconst (v := (2 : Int32)) dL_law_422 (by decide) ?_
  refine rn_iadd dL_law_423 ?_
  refine rn_topi (3 : Int32) (by decide) ?_
  refine rn_sld (by rw [hL]; unfold vp_in; decide) dL_law_424 ?_
  refine rn_topi sc3 se3 ?_
  refine rn_aload_n (i := 0) dL_law_425 rfl rfl ?_
  refine rn_iload dL_law_426 rfl ?_
  refine rn_iconst (v := (3 : Int32)) dL_law_428 (by decide) ?_
  refine rn_iadd dL_law_429 ?_
  refine rn_topi (4 : Int32) (by decide) ?_
  refine rn_sld (by rw [hL]; unfold vp_in; decide) dL_law_430 ?_
  refine rn_topi sc4 se4 ?_
  refine rn_aload_n (i := 0) dL_law_431 rfl rfl ?_
  refine rn_iload dL_law_432 rfl ?_
  refine rn_iconst (v := (4 : Int32)) dL_law_434 (by decide) ?_
  refine rn_iadd dL_law_435 ?_
  refine rn_topi (5 : Int32) (by decide) ?_
  refine rn_sld (by rw [hL]; unfold vp_in; decide) dL_law_436 ?_
  refine rn_topi sc5 se5 ?_
  refine rn_aload_n (i := 0) dL_law_437 rfl rfl ?_
  refine rn_iload dL_law_438 rfl ?_
  refine rn_iconst (v := (5 : Int32)) dL_law_440 (by decide) ?_
  refine rn_iadd dL_law_441 ?_
  refine rn_topi (6 : Int32) (by decide) ?_
  refine rn_sld (by rw [hL]; unfold vp_in; decide) dL_law_442 ?_
  refine rn_topi sc6 se6 ?_
  refine rn_aload_n (i := 0) dL_law_443 rfl rfl ?_
  refine rn_iload dL_law_444 rfl ?_
  refine rn_bipush (v := (6 : Int32)) dL_law_446 (by decide) ?_
  refine rn_iadd dL_law_448 ?_
  refine rn_topi (7 : Int32) (by decide) ?_
  refine rn_sld (by rw [hL]; unfold vp_in; decide) dL_law_449 ?_
  refine rn_topi sc7 se7 ?_
  refine rn_aload_n (i := 3) dL_law_450 rfl rfl ?_
  refine rn_callSX (a := 0) (b := 0) [.ref o_sg, .int sc2, .int sc3, .int sc4, .int sc5, .int sc6, .int sc7, .ref o_out] kl_SGLaw_125 dL_law_451 (c_L_make G _ (o_sg := o_sg) (x0 := sc2) (y := sc3) (u := sc4) (x1 := sc5) (n := sc6) (number := sc7) (o_out := o_out) (fs_sg := fs_sg) (o_tape := o_tape) (fs_tape := fs_tape) (r_tape := r_tape) (f_tape := f_tape) h_sg hf_sg_1 h_tape hf_tape_0 hf_tape_1 h_taper h_out) rfl rfl (Nat.le_of_ble_eq_true rfl) (Nat.le_of_ble_eq_true rfl) (Nat.le_of_ble_eq_true rfl) (Nat.le_of_ble_eq_true rfl) (Nat.le_of_ble_eq_true rfl) (Nat.le_of_ble_eq_true rfl) (by rintro E w h; rcases h with ⟨_, hr, _⟩ | ⟨_, hr, _⟩ <;> cases hr) ?_
  rintro v w h
  rcases h with ⟨hc, hr, hw⟩ | ⟨hc, hr, hw⟩
  · have hc1 := hc; clear hc; cases hr
    have hx2 : w[23]? = some (o_m, Sum.inr (10, fs_m)) := (hw.2 23 (by decide) (by decide) (by decide)).trans h_m
    have hx3 : w[24]? = some (a_bytes, Sum.inl (rn_k G 1, 22000, Sum.inl (fun _ => 0))) := (hw.2 24 (by decide) (by decide) (by decide)).trans h_m_bytes
    have hx4 : w[62]? = some (o_out, Sum.inl (rn_k G 2, 1, Sum.inr (Sum.inl (vp_updL (fun _ => 0) ((0 : Int32)).toNatClampNeg (((20 : Int32) + sc6)).toInt64)))) := hw.1
    refine rn_stk [.int (0 : Int32)] rfl ?_
    refine rn_istore dL_law_454 (by decide) [(0, .ref G.2.2.2.2.1.1), (1, .ref o_sg), (2, .ref o_m), (3, .ref o_out), (4, .int (1 : Int32)), (5, .int (0 : Int32))] rfl ?_
    refine rn_aload_n (i := 2) dL_law_456 rfl rfl ?_
    refine rn_aload_n (i := 0) dL_law_457 rfl rfl ?_
    refine rn_iload dL_law_458 rfl ?_
    refine rn_iconst (v := (1 : Int32)) dL_law_460 (by decide) ?_
    refine rn_iadd dL_law_461 ?_
    refine rn_topi (2 : Int32) (by decide) ?_
    refine rn_sld (by rw [hL]; unfold vp_in; decide) dL_law_462 ?_
    refine rn_topi sc2 se2 ?_
    refine rn_aload_n (i := 0) dL_law_463 rfl rfl ?_
    refine rn_iload dL_law_464 rfl ?_
    refine rn_iconst (v := (2 : Int32)) dL_law_466 (by decide) ?_
    refine rn_iadd dL_law_467 ?_
    refine rn_topi (3 : Int32) (by decide) ?_
    refine rn_sld (by rw [hL]; unfold vp_in; decide) dL_law_468 ?_
    refine rn_topi sc3 se3 ?_
    refine rn_aload_n (i := 0) dL_law_469 rfl rfl ?_
    refine rn_iload dL_law_470 rfl ?_
    refine rn_iconst (v := (3 : Int32)) dL_law_472 (by decide) ?_
    refine rn_iadd dL_law_473 ?_
    refine rn_topi (4 : Int32) (by decide) ?_
    refine rn_sld (by rw [hL]; unfold vp_in; decide) dL_law_474 ?_
    refine rn_topi sc4 se4 ?_
    refine rn_aload_n (i := 0) dL_law_475 rfl rfl ?_
    refine rn_iload dL_law_476 rfl ?_
    refine rn_iconst (v := (4 : Int32)) dL_law_478 (by decide) ?_
    refine rn_iadd dL_law_479 ?_
    refine rn_topi (5 : Int32) (by decide) ?_
    refine rn_sld (by rw [hL]; unfold vp_in; decide) dL_law_480 ?_
    refine rn_topi sc5 se5 ?_
    refine rn_aload_n (i := 0) dL_law_481 rfl rfl ?_
    refine rn_iload dL_law_482 rfl ?_
    refine rn_iconst (v := (5 : Int32)) dL_law_484 (by decide) ?_
    refine rn_iadd dL_law_485 ?_
    refine rn_topi (6 : Int32) (by decide) ?_
    refine rn_sld (by rw [hL]; unfold vp_in; decide) dL_law_486 ?_
    refine rn_topi sc6 se6 ?_
    refine rn_aload_n (i := 0) dL_law_487 rfl rfl ?_
    refine rn_iload dL_law_488 rfl ?_
    refine rn_bipush (v := (6 : Int32)) dL_law_490 (by decide) ?_
    refine rn_iadd dL_law_492 ?_
    refine rn_topi (7 : Int32) (by decide) ?_
    refine rn_sld (by rw [hL]; unfold vp_in; decide) dL_law_493 ?_
    refine rn_topi sc7 se7 ?_
    refine rn_callV (a := 0) (b := 0) [.int sc2, .int sc3, .int sc4, .int sc5, .int sc6, .int sc7] kl_SGLaw_128 dL_law_494 23 hx2 rfl (c_X10_make G _ (o_m := o_m) (x := sc2) (y := sc3) (u := sc4) (x1 := sc5) (n := sc6) (number := sc7) (fs_m := fs_m) (a_bytes := a_bytes) hx2 hf_m_0 hf_m_2 hf_m_3 hx3) rfl rfl (Nat.le_of_ble_eq_true rfl) (Nat.le_of_ble_eq_true rfl) (Nat.le_of_ble_eq_true rfl) (Nat.le_of_ble_eq_true rfl) (Nat.le_of_ble_eq_true rfl) (Nat.le_of_ble_eq_true rfl) (by rintro E w h; rcases h with ⟨_, hr, _⟩ | ⟨_, hr, _⟩ <;> cases hr) ?_
    rintro v w h
    rcases h with ⟨hc, hr, hw⟩ | ⟨hc, hr, hw⟩
    · have hc6 := hc; clear hc; cases hr
      obtain ⟨⟨fsx11, hm8, hf9⟩, hy7⟩ := hw
      have ho10 : w[62]? = some (o_out, Sum.inl (rn_k G 2, 1, Sum.inr (Sum.inl (vp_updL (fun _ => 0) ((0 : Int32)).toNatClampNeg (((20 : Int32) + sc6)).toInt64)))) := (hy7 62 (by decide) (by decide)).trans hx4
      refine rn_stk [.int ((20 : Int32) + sc6)] rfl ?_
      refine rn_istore dL_law_497 (by decide) [(0, .ref G.2.2.2.2.1.1), (1, .ref o_sg), (2, .ref o_m), (3, .ref o_out), (4, .int (1 : Int32)), (5, .int (0 : Int32)), (6, .int ((20 : Int32) + sc6))] rfl ?_
      refine rn_aload_n (i := 2) dL_law_499 rfl rfl ?_
      refine rn_callV (a := 0) (b := 0) [] kl_SGLaw_110 dL_law_500 23 hm8 rfl (c_X10_thrown G _ (o_m := o_m) (fs_m := fsx11) (th := (0 : Int32)) hm8 hf9) rfl rfl (Nat.le_of_ble_eq_true rfl) (Nat.le_of_ble_eq_true rfl) (Nat.le_of_ble_eq_true rfl) (Nat.le_of_ble_eq_true rfl) (Nat.le_of_ble_eq_true rfl) (Nat.le_of_ble_eq_true rfl) (by rintro E w h; rcases h with ⟨_, hr, _⟩ <;> cases hr) ?_
      rintro v w h
      obtain ⟨hc12, hr, hw⟩ := h; cases hr; rw [hw]
      refine rn_stk [.int (0 : Int32)] rfl ?_
      refine rn_iload dL_law_503 rfl ?_
      refine rn_icmp_eq (tgt := 510) dL_law_505 (by decide) (fun h13 => ?_) (fun h13 => absurd h13 (by decide))
      refine rn_iload dL_law_510 rfl ?_
      refine rn_if_ne (tgt := 527) dL_law_512 (by decide) (fun h14 => absurd h14 (by decide)) (fun h14 => ?_)
      refine rn_aload_n (i := 3) dL_law_515 rfl rfl ?_
      refine rn_iconst (v := (0 : Int32)) dL_law_516 (by decide) ?_
      refine rn_lald 62 2 ho10 rfl (by unfold vp_in; decide) dL_law_517 ?_
      refine rn_topl _ (vp_updL_at _ _ _) ?_
      refine rn_iload dL_law_518 rfl ?_
      refine rn_i2l dL_law_520 rfl ?_
      refine rn_lcmp dL_law_521 ?_
      refine rn_topi (0 : Int32) (lg_self _) ?_
      refine rn_if_eq (tgt := 527) dL_law_522 (by decide) (fun h15 => ?_) (fun h15 => absurd h15 (by decide))
      refine rn_goto (tgt := 1865) dL_law_527 (by decide) ?_
      refine rn_lv [(0, .ref G.2.2.2.2.1.1), (1, .ref o_sg), (2, .ref o_m), (3, .ref o_out), (4, .int (1 : Int32))] rfl ?_
      exact law_end G _ hL _ _ _
    · have hc16 := hc; clear hc; cases hr
      exfalso; have g0 := i32_rng sc4; have g1 := i32_rng sc5; have g2 := i32_rng sc6; simp only [Int32.lt_iff_toInt_lt, Int32.le_iff_toInt_le, gt_iff_lt, ge_iff_le, ← Int32.toInt_inj, i32_0, i32_255, i32_1480] at *; omega
  · have hc17 := hc; clear hc; cases hr; rw [hw]
    refine rn_stk [.int (1 : Int32)] rfl ?_
    refine rn_istore dL_law_454 (by decide) [(0, .ref G.2.2.2.2.1.1), (1, .ref o_sg), (2, .ref o_m), (3, .ref o_out), (4, .int (1 : Int32)), (5, .int (1 : Int32))] rfl ?_
    refine rn_aload_n (i := 2) dL_law_456 rfl rfl ?_
    refine rn_aload_n (i := 0) dL_law_457 rfl rfl ?_
    refine rn_iload dL_law_458 rfl ?_
    refine rn_iconst (v := (1 : Int32)) dL_law_460 (by decide) ?_
    refine rn_iadd dL_law_461 ?_
    refine rn_topi (2 : Int32) (by decide) ?_
    refine rn_sld (by rw [hL]; unfold vp_in; decide) dL_law_462 ?_
    refine rn_topi sc2 se2 ?_
    refine rn_aload_n (i := 0) dL_law_463 rfl rfl ?_
    refine rn_iload dL_law_464 rfl ?_
    refine rn_iconst (v := (2 : Int32)) dL_law_466 (by decide) ?_
    refine rn_iadd dL_law_467 ?_
    refine rn_topi (3 : Int32) (by decide) ?_
    refine rn_sld (by rw [hL]; unfold vp_in; decide) dL_law_468 ?_
    refine rn_topi sc3 se3 ?_
    refine rn_aload_n (i := 0) dL_law_469 rfl rfl ?_
    refine rn_iload dL_law_470 rfl ?_
    refine rn_iconst (v := (3 : Int32)) dL_law_472 (by decide) ?_
    refine rn_iadd dL_law_473 ?_
    refine rn_topi (4 : Int32) (by decide) ?_
    refine rn_sld (by rw [hL]; unfold vp_in; decide) dL_law_474 ?_
    refine rn_topi sc4 se4 ?_
    refine rn_aload_n (i := 0) dL_law_475 rfl rfl ?_
    refine rn_iload dL_law_476 rfl ?_
    refine rn_iconst (v := (4 : Int32)) dL_law_478 (by decide) ?_
    refine rn_iadd dL_law_479 ?_
    refine rn_topi (5 : Int32) (by decide) ?_
    refine rn_sld (by rw [hL]; unfold vp_in; decide) dL_law_480 ?_
    refine rn_topi sc5 se5 ?_
    refine rn_aload_n (i := 0) dL_law_481 rfl rfl ?_
    refine rn_iload dL_law_482 rfl ?_
    refine rn_iconst (v := (5 : Int32)) dL_law_484 (by decide) ?_
    refine rn_iadd dL_law_485 ?_
    refine rn_topi (6 : Int32) (by decide) ?_
    refine rn_sld (by rw [hL]; unfold vp_in; decide) dL_law_486 ?_
    refine rn_topi sc6 se6 ?_
    refine rn_aload_n (i := 0) dL_law_487 rfl rfl ?_
    refine rn_iload dL_law_488 rfl ?_
    refine rn_bipush (v := (6 : Int32)) dL_law_490 (by decide) ?_
    refine rn_iadd dL_law_492 ?_
    refine rn_topi (7 : Int32) (by decide) ?_
    refine rn_sld (by rw [hL]; unfold vp_in; decide) dL_law_493 ?_
    refine rn_topi sc7 se7 ?_
    refine rn_callV (a := 0) (b := 0) [.int sc2, .int sc3, .int sc4, .int sc5, .int sc6, .int sc7] kl_SGLaw_128 dL_law_494 23 h_m rfl (c_X10_make G _ (o_m := o_m) (x := sc2) (y := sc3) (u := sc4) (x1 := sc5) (n := sc6) (number := sc7) (fs_m := fs_m) (a_bytes := a_bytes) h_m hf_m_0 hf_m_2 hf_m_3 h_m_bytes) rfl rfl (Nat.le_of_ble_eq_true rfl) (Nat.le_of_ble_eq_true rfl) (Nat.le_of_ble_eq_true rfl) (Nat.le_of_ble_eq_true rfl) (Nat.le_of_ble_eq_true rfl) (Nat.le_of_ble_eq_true rfl) (by rintro E w h; rcases h with ⟨_, hr, _⟩ | ⟨_, hr, _⟩ <;> cases hr) ?_
    rintro v w h
    rcases h with ⟨hc, hr, hw⟩ | ⟨hc, hr, hw⟩
    · have hc18 := hc; clear hc; cases hr
      exfalso; have g0 := i32_rng sc4; have g1 := i32_rng sc5; have g2 := i32_rng sc6; simp only [Int32.lt_iff_toInt_lt, Int32.le_iff_toInt_le, gt_iff_lt, ge_iff_le, ← Int32.toInt_inj, i32_0, i32_255, i32_1480] at *; omega
    · have hc19 := hc; clear hc; cases hr
      have hw20 : w[23]? = some (o_m, Sum.inr (10, ((fs_m.set 0 (.int (0 : Int32))).set 0 (.int (1 : Int32))))) := by rw [hw, List.getElem?_set_self (by (try simp only [List.length_set, List.length_append, List.length_cons, List.length_nil]); have hq := ls_lt h_m; omega)]
      have hw21 : w[62]? = some (o_out, Sum.inl (rn_k G 2, 1, Sum.inr (Sum.inl (fun _ => 0)))) := by rw [hw, List.getElem?_set_ne (by decide), List.getElem?_set_ne (by decide), h_out]
      refine rn_stk [.int (0 : Int32)] rfl ?_
      refine rn_istore dL_law_497 (by decide) [(0, .ref G.2.2.2.2.1.1), (1, .ref o_sg), (2, .ref o_m), (3, .ref o_out), (4, .int (1 : Int32)), (5, .int (1 : Int32)), (6, .int (0 : Int32))] rfl ?_
      refine rn_aload_n (i := 2) dL_law_499 rfl rfl ?_
      refine rn_callV (a := 0) (b := 0) [] kl_SGLaw_110 dL_law_500 23 hw20 rfl (c_X10_thrown G _ (o_m := o_m) (fs_m := ((fs_m.set 0 (.int (0 : Int32))).set 0 (.int (1 : Int32)))) (th := (1 : Int32)) hw20 (ls_eq (ls_eq hf_m_0))) rfl rfl (Nat.le_of_ble_eq_true rfl) (Nat.le_of_ble_eq_true rfl) (Nat.le_of_ble_eq_true rfl) (Nat.le_of_ble_eq_true rfl) (Nat.le_of_ble_eq_true rfl) (Nat.le_of_ble_eq_true rfl) (by rintro E w h; rcases h with ⟨_, hr, _⟩ <;> cases hr) ?_
      rintro v w h
      obtain ⟨hc22, hr, hw⟩ := h; cases hr; rw [hw]
      refine rn_stk [.int (1 : Int32)] rfl ?_
      refine rn_iload dL_law_503 rfl ?_
      refine rn_icmp_eq (tgt := 510) dL_law_505 (by decide) (fun h23 => ?_) (fun h23 => absurd h23 (by decide))
      refine rn_iload dL_law_510 rfl ?_
      refine rn_if_ne (tgt := 527) dL_law_512 (by decide) (fun h24 => ?_) (fun h24 => absurd h24 (by decide))
      refine rn_goto (tgt := 1865) dL_law_527 (by decide) ?_
      refine rn_lv [(0, .ref G.2.2.2.2.1.1), (1, .ref o_sg), (2, .ref o_m), (3, .ref o_out), (4, .int (1 : Int32))] rfl ?_
      exact law_end G _ hL _ _ _
