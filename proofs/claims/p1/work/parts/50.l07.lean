set_option maxRecDepth 20000 in
set_option maxHeartbeats 4000000 in
theorem law_14 (G : rn_G) (ws : va_W) (hL : G.2.2.2.2.1.2.1 = 11) (o_sg : Nat) (fs_sg : List Value) (o_tape : Nat) (o_coming : Nat) (fs_tape : List Value) (fs_coming : List Value) (o_m : Nat) (fs_m : List Value) (o_out : Nat) (h_sg : ws[0]? = some (o_sg, Sum.inr (9, fs_sg))) (hf_sg_1 : fs_sg[1]? = some (.ref o_tape)) (hf_sg_2 : fs_sg[2]? = some (.ref o_coming)) (h_tape : ws[1]? = some (o_tape, Sum.inr (4, fs_tape))) (hf_tape_1 : fs_tape[1]? = some (.int (0 : Int32))) (h_coming : ws[3]? = some (o_coming, Sum.inr (4, fs_coming))) (hf_coming_1 : fs_coming[1]? = some (.int (0 : Int32))) (h_m : ws[23]? = some (o_m, Sum.inr (10, fs_m))) (hf_m_0 : fs_m[0]? = some (.int (0 : Int32))) (hf_m_3 : fs_m[3]? = some (.int (0 : Int32))) (h_out : ws[62]? = some (o_out, Sum.inl (rn_k G 2, 1, Sum.inr (Sum.inl (fun _ => 0))))) : Rn G mL_law 8 134 1 6 1334 [(0, .ref G.2.2.2.2.1.1), (1, .ref o_sg), (2, .ref o_m), (3, .ref o_out), (4, .int (1 : Int32))] [] ws (fun r _ => r = Sum.inl (some (.int 1))) := by
  obtain ⟨sc2, se2⟩ : ∃ x : Int32, G.2.2.2.2.1.2.2 (2 : Int32).toNatClampNeg = x := ⟨_, rfl⟩
  refine rn_aload_n (i := 1) dL_law_1334 rfl rfl ?_
  refine rn_aload_n (i := 0) dL_law_1335 rfl rfl ?_
  refine rn_iload dL_law_1336 rfl ?_
  refine rn_iconst (v := (1 : Int32)) dL_law_1338 (by decide) ?_
  refine rn_iadd dL_law_1339 ?_
  refine rn_topi (2 : Int32) (by decide) ?_
  refine rn_sld (by rw [hL]; unfold vp_in; decide) dL_law_1340 ?_
  refine rn_topi sc2 se2 ?_
  refine rn_aload_n (i := 3) dL_law_1341 rfl rfl ?_
  refine rn_callSX (a := 0) (b := 0) [.ref o_sg, .int sc2, .ref o_out] kl_SGLaw_161 dL_law_1342 (c_L_meaning G _ (o_sg := o_sg) (x := sc2) (o_out := o_out) (fs_sg := fs_sg) (o_tape := o_tape) (o_coming := o_coming) (fs_tape := fs_tape) (fs_coming := fs_coming) h_sg hf_sg_1 hf_sg_2 h_tape hf_tape_1 h_coming hf_coming_1 h_out) rfl rfl (Nat.le_of_ble_eq_true rfl) (Nat.le_of_ble_eq_true rfl) (Nat.le_of_ble_eq_true rfl) (Nat.le_of_ble_eq_true rfl) (Nat.le_of_ble_eq_true rfl) (Nat.le_of_ble_eq_true rfl) (by rintro E w h; rcases h with ⟨_, hr, _⟩ | ⟨_, hr, _⟩ <;> cases hr) ?_
  rintro v w h
  rcases h with ⟨hc, hr, hw⟩ | ⟨hc, hr, hw⟩
  · have hc1 := hc; clear hc; cases hr; rw [hw]
    refine rn_stk [.int (1 : Int32)] rfl ?_
    refine rn_istore dL_law_1345 (by decide) [(0, .ref G.2.2.2.2.1.1), (1, .ref o_sg), (2, .ref o_m), (3, .ref o_out), (4, .int (1 : Int32)), (5, .int (1 : Int32))] rfl ?_
    refine rn_aload_n (i := 2) dL_law_1347 rfl rfl ?_
    refine rn_aload_n (i := 0) dL_law_1348 rfl rfl ?_
    refine rn_iload dL_law_1349 rfl ?_
    refine rn_iconst (v := (1 : Int32)) dL_law_1351 (by decide) ?_
    refine rn_iadd dL_law_1352 ?_
    refine rn_topi (2 : Int32) (by decide) ?_
    refine rn_sld (by rw [hL]; unfold vp_in; decide) dL_law_1353 ?_
    refine rn_topi sc2 se2 ?_
    refine rn_callV (a := 0) (b := 0) [.int sc2] kl_SGLaw_163 dL_law_1354 23 h_m rfl (c_X10_meaning G _ (o_m := o_m) (k := sc2) (fs_m := fs_m) h_m hf_m_0 hf_m_3) rfl rfl (Nat.le_of_ble_eq_true rfl) (Nat.le_of_ble_eq_true rfl) (Nat.le_of_ble_eq_true rfl) (Nat.le_of_ble_eq_true rfl) (Nat.le_of_ble_eq_true rfl) (Nat.le_of_ble_eq_true rfl) (by rintro E w h; rcases h with ⟨_, hr, _⟩ | ⟨_, hr, _⟩ <;> cases hr) ?_
    rintro v w h
    rcases h with ⟨hc, hr, hw⟩ | ⟨hc, hr, hw⟩
    · have hc2 := hc; clear hc; cases hr
      have hw3 : w[23]? = some (o_m, Sum.inr (10, ((fs_m.set 0 (.int (0 : Int32))).set 0 (.int (1 : Int32))))) := by rw [hw, List.getElem?_set_self (by (try simp only [List.length_set, List.length_append, List.length_cons, List.length_nil]); have hq := ls_lt h_m; omega)]
      have hw4 : w[62]? = some (o_out, Sum.inl (rn_k G 2, 1, Sum.inr (Sum.inl (fun _ => 0)))) := by rw [hw, List.getElem?_set_ne (by decide), List.getElem?_set_ne (by decide), h_out]
      refine rn_stk [.int (0 : Int32)] rfl ?_
      refine rn_istore dL_law_1357 (by decide) [(0, .ref G.2.2.2.2.1.1), (1, .ref o_sg), (2, .ref o_m), (3, .ref o_out), (4, .int (1 : Int32)), (5, .int (1 : Int32)), (6, .int (0 : Int32))] rfl ?_
      refine rn_aload_n (i := 2) dL_law_1359 rfl rfl ?_
      refine rn_callV (a := 0) (b := 0) [] kl_SGLaw_110 dL_law_1360 23 hw3 rfl (c_X10_thrown G _ (o_m := o_m) (fs_m := ((fs_m.set 0 (.int (0 : Int32))).set 0 (.int (1 : Int32)))) (th := (1 : Int32)) hw3 (ls_eq (ls_eq hf_m_0))) rfl rfl (Nat.le_of_ble_eq_true rfl) (Nat.le_of_ble_eq_true rfl) (Nat.le_of_ble_eq_true rfl) (Nat.le_of_ble_eq_true rfl) (Nat.le_of_ble_eq_true rfl) (Nat.le_of_ble_eq_true rfl) (by rintro E w h; rcases h with ⟨_, hr, _⟩ <;> cases hr) ?_
      rintro v w h
      obtain ⟨hc5, hr, hw⟩ := h; cases hr; rw [hw]
      refine rn_stk [.int (1 : Int32)] rfl ?_
      refine rn_iload dL_law_1363 rfl ?_
      refine rn_icmp_eq (tgt := 1370) dL_law_1365 (by decide) (fun h6 => ?_) (fun h6 => absurd h6 (by decide))
      refine rn_iload dL_law_1370 rfl ?_
      refine rn_if_ne (tgt := 1387) dL_law_1372 (by decide) (fun h7 => ?_) (fun h7 => absurd h7 (by decide))
      refine rn_goto (tgt := 1865) dL_law_1387 (by decide) ?_
      refine rn_lv [(0, .ref G.2.2.2.2.1.1), (1, .ref o_sg), (2, .ref o_m), (3, .ref o_out), (4, .int (1 : Int32))] rfl ?_
      exact law_end G _ hL _ _ _
    · have hc8 := hc; clear hc; cases hr
      exfalso; have g0 := i32_rng sc2; simp only [Int32.lt_iff_toInt_lt, Int32.le_iff_toInt_le, gt_iff_lt, ge_iff_le, ← Int32.toInt_inj, i32_0, i32_1, i32_20] at *; omega
  · have hc9 := hc; clear hc; cases hr
    have hw10 : w[23]? = some (o_m, Sum.inr (10, fs_m)) := by rw [hw, List.getElem?_set_ne (by decide), List.getElem?_set_ne (by decide), h_m]
    have hw11 : w[62]? = some (o_out, Sum.inl (rn_k G 2, 1, Sum.inr (Sum.inl (vp_updL (fun _ => 0) ((0 : Int32)).toNatClampNeg (-1 : Int64))))) := by rw [hw, List.getElem?_set_self (by (try simp only [List.length_set, List.length_append, List.length_cons, List.length_nil]); have hq := ls_lt h_out; omega)]
    refine rn_stk [.int (0 : Int32)] rfl ?_
    refine rn_istore dL_law_1345 (by decide) [(0, .ref G.2.2.2.2.1.1), (1, .ref o_sg), (2, .ref o_m), (3, .ref o_out), (4, .int (1 : Int32)), (5, .int (0 : Int32))] rfl ?_
    refine rn_aload_n (i := 2) dL_law_1347 rfl rfl ?_
    refine rn_aload_n (i := 0) dL_law_1348 rfl rfl ?_
    refine rn_iload dL_law_1349 rfl ?_
    refine rn_iconst (v := (1 : Int32)) dL_law_1351 (by decide) ?_
    refine rn_iadd dL_law_1352 ?_
    refine rn_topi (2 : Int32) (by decide) ?_
    refine rn_sld (by rw [hL]; unfold vp_in; decide) dL_law_1353 ?_
    refine rn_topi sc2 se2 ?_
    refine rn_callV (a := 0) (b := 0) [.int sc2] kl_SGLaw_163 dL_law_1354 23 hw10 rfl (c_X10_meaning G _ (o_m := o_m) (k := sc2) (fs_m := fs_m) hw10 hf_m_0 hf_m_3) rfl rfl (Nat.le_of_ble_eq_true rfl) (Nat.le_of_ble_eq_true rfl) (Nat.le_of_ble_eq_true rfl) (Nat.le_of_ble_eq_true rfl) (Nat.le_of_ble_eq_true rfl) (Nat.le_of_ble_eq_true rfl) (by rintro E w h; rcases h with ⟨_, hr, _⟩ | ⟨_, hr, _⟩ <;> cases hr) ?_
    rintro v w h
    rcases h with ⟨hc, hr, hw⟩ | ⟨hc, hr, hw⟩
    · have hc12 := hc; clear hc; cases hr
      exfalso; have m0 := i32_min (0 : Int32) (2040 : Int32); have g0 := i32_rng sc2; simp only [Int32.lt_iff_toInt_lt, Int32.le_iff_toInt_le, gt_iff_lt, ge_iff_le, ← Int32.toInt_inj, i32_0, i32_1, i32_20, i32_2040] at *; omega
    · have hc13 := hc; clear hc; cases hr
      have hw14 : w[23]? = some (o_m, Sum.inr (10, (fs_m.set 0 (.int (0 : Int32))))) := by rw [hw, List.getElem?_set_self (by (try simp only [List.length_set, List.length_append, List.length_cons, List.length_nil]); have hq := ls_lt hw10; omega)]
      have hw15 : w[62]? = some (o_out, Sum.inl (rn_k G 2, 1, Sum.inr (Sum.inl (vp_updL (fun _ => 0) ((0 : Int32)).toNatClampNeg (-1 : Int64))))) := by rw [hw, List.getElem?_set_ne (by decide), hw11]
      refine rn_stk [.int (-1 : Int32)] rfl ?_
      refine rn_istore dL_law_1357 (by decide) [(0, .ref G.2.2.2.2.1.1), (1, .ref o_sg), (2, .ref o_m), (3, .ref o_out), (4, .int (1 : Int32)), (5, .int (0 : Int32)), (6, .int (-1 : Int32))] rfl ?_
      refine rn_aload_n (i := 2) dL_law_1359 rfl rfl ?_
      refine rn_callV (a := 0) (b := 0) [] kl_SGLaw_110 dL_law_1360 23 hw14 rfl (c_X10_thrown G _ (o_m := o_m) (fs_m := (fs_m.set 0 (.int (0 : Int32)))) (th := (0 : Int32)) hw14 (ls_eq hf_m_0)) rfl rfl (Nat.le_of_ble_eq_true rfl) (Nat.le_of_ble_eq_true rfl) (Nat.le_of_ble_eq_true rfl) (Nat.le_of_ble_eq_true rfl) (Nat.le_of_ble_eq_true rfl) (Nat.le_of_ble_eq_true rfl) (by rintro E w h; rcases h with ⟨_, hr, _⟩ <;> cases hr) ?_
      rintro v w h
      obtain ⟨hc16, hr, hw⟩ := h; cases hr; rw [hw]
      refine rn_stk [.int (0 : Int32)] rfl ?_
      refine rn_iload dL_law_1363 rfl ?_
      refine rn_icmp_eq (tgt := 1370) dL_law_1365 (by decide) (fun h17 => ?_) (fun h17 => absurd h17 (by decide))
      refine rn_iload dL_law_1370 rfl ?_
      refine rn_if_ne (tgt := 1387) dL_law_1372 (by decide) (fun h18 => absurd h18 (by decide)) (fun h18 => ?_)
      refine rn_aload_n (i := 3) dL_law_1375 rfl rfl ?_
      refine rn_iconst (v := (0 : Int32)) dL_law_1376 (by decide) ?_
      refine rn_lald 62 2 hw15 rfl (by unfold vp_in; decide) dL_law_1377 ?_
      refine rn_topl _ (vp_updL_at _ _ _) ?_
      refine rn_iload dL_law_1378 rfl ?_
      refine rn_i2l dL_law_1380 rfl ?_
      refine rn_topl (-1 : Int64) (by decide) ?_
      refine rn_lcmp dL_law_1381 ?_
      refine rn_topi (0 : Int32) (by decide) ?_
      refine rn_if_eq (tgt := 1387) dL_law_1382 (by decide) (fun h19 => ?_) (fun h19 => absurd h19 (by decide))
      refine rn_goto (tgt := 1865) dL_law_1387 (by decide) ?_
      refine rn_lv [(0, .ref G.2.2.2.2.1.1), (1, .ref o_sg), (2, .ref o_m), (3, .ref o_out), (4, .int (1 : Int32))] rfl ?_
      exact law_end G _ hL _ _ _
set_option maxRecDepth 20000 in
set_option maxHeartbeats 4000000 in
theorem law_15 (G : rn_G) (ws : va_W) (hL : G.2.2.2.2.1.2.1 = 11) (o_sg : Nat) (fs_sg : List Value) (o_routes : Nat) (fs_routes : List Value) (o_m : Nat) (fs_m : List Value) (o_out : Nat) (h_sg : ws[0]? = some (o_sg, Sum.inr (9, fs_sg))) (hf_sg_7 : fs_sg[7]? = some (.ref o_routes)) (h_routes : ws[11]? = some (o_routes, Sum.inr (7, fs_routes))) (hf_routes_2 : fs_routes[2]? = some (.int (0 : Int32))) (h_m : ws[23]? = some (o_m, Sum.inr (10, fs_m))) (hf_m_0 : fs_m[0]? = some (.int (0 : Int32))) (hf_m_4 : fs_m[4]? = some (.int (0 : Int32))) (h_out : ws[62]? = some (o_out, Sum.inl (rn_k G 2, 1, Sum.inr (Sum.inl (fun _ => 0))))) : Rn G mL_law 2 46 0 0 1390 [(0, .ref G.2.2.2.2.1.1), (1, .ref o_sg), (2, .ref o_m), (3, .ref o_out), (4, .int (1 : Int32))] [] ws (fun r _ => r = Sum.inl (some (.int 1))) := by
  obtain ⟨sc2, se2⟩ : ∃ x : Int32, G.2.2.2.2.1.2.2 (2 : Int32).toNatClampNeg = x := ⟨_, rfl⟩
  refine rn_aload_n (i := 1) dL_law_1390 rfl rfl ?_
  refine rn_aload_n (i := 0) dL_law_1391 rfl rfl ?_
  refine rn_iload dL_law_1392 rfl ?_
  refine rn_iconst (v := (1 : Int32)) dL_law_1394 (by decide) ?_
  refine rn_iadd dL_law_1395 ?_
  refine rn_topi (2 : Int32) (by decide) ?_
  refine rn_sld (by rw [hL]; unfold vp_in; decide) dL_law_1396 ?_
  refine rn_topi sc2 se2 ?_
  refine rn_callV (a := 0) (b := 0) [.int sc2] kl_SGLaw_164 dL_law_1397 0 h_sg rfl (c_X9_routed G _ (o_sg := o_sg) (x := sc2) (fs_sg := fs_sg) (o_routes := o_routes) (fs_routes := fs_routes) h_sg hf_sg_7 h_routes hf_routes_2) rfl rfl (Nat.le_of_ble_eq_true rfl) (Nat.le_of_ble_eq_true rfl) (Nat.le_of_ble_eq_true rfl) (Nat.le_of_ble_eq_true rfl) (Nat.le_of_ble_eq_true rfl) (Nat.le_of_ble_eq_true rfl) (by rintro E w h; rcases h with ⟨_, hr, _⟩ <;> cases hr) ?_
  rintro v w h
  obtain ⟨hc1, hr, hw⟩ := h; cases hr; rw [hw]
  refine rn_stk [.int (-1 : Int32)] rfl ?_
  refine rn_aload_n (i := 2) dL_law_1400 rfl rfl ?_
  refine rn_aload_n (i := 0) dL_law_1401 rfl rfl ?_
  refine rn_iload dL_law_1402 rfl ?_
  refine rn_iconst (v := (1 : Int32)) dL_law_1404 (by decide) ?_
  refine rn_iadd dL_law_1405 ?_
  refine rn_topi (2 : Int32) (by decide) ?_
  refine rn_sld (by rw [hL]; unfold vp_in; decide) dL_law_1406 ?_
  refine rn_topi sc2 se2 ?_
  refine rn_callV (a := 0) (b := 0) [.int sc2] kl_SGLaw_167 dL_law_1407 23 h_m rfl (c_X10_routed G _ (o_m := o_m) (x := sc2) (fs_m := fs_m) h_m hf_m_0 hf_m_4) rfl rfl (Nat.le_of_ble_eq_true rfl) (Nat.le_of_ble_eq_true rfl) (Nat.le_of_ble_eq_true rfl) (Nat.le_of_ble_eq_true rfl) (Nat.le_of_ble_eq_true rfl) (Nat.le_of_ble_eq_true rfl) (by rintro E w h; rcases h with ⟨_, hr, _⟩ <;> cases hr) ?_
  rintro v w h
  obtain ⟨hc2, hr, hw⟩ := h; cases hr
  have hw3 : w[23]? = some (o_m, Sum.inr (10, (fs_m.set 0 (.int (0 : Int32))))) := by rw [hw, List.getElem?_set_self (by (try simp only [List.length_set, List.length_append, List.length_cons, List.length_nil]); have hq := ls_lt h_m; omega)]
  have hw4 : w[62]? = some (o_out, Sum.inl (rn_k G 2, 1, Sum.inr (Sum.inl (fun _ => 0)))) := by rw [hw, List.getElem?_set_ne (by decide), h_out]
  refine rn_stk [.int (-1 : Int32), .int (-1 : Int32)] rfl ?_
  refine rn_icmp_eq (tgt := 1865) dL_law_1410 (by decide) (fun h5 => ?_) (fun h5 => absurd h5 (by decide))
  refine rn_lv [(0, .ref G.2.2.2.2.1.1), (1, .ref o_sg), (2, .ref o_m), (3, .ref o_out), (4, .int (1 : Int32))] rfl ?_
  exact law_end G _ hL _ _ _
set_option maxRecDepth 20000 in
set_option maxHeartbeats 4000000 in
theorem law_16 (G : rn_G) (ws : va_W) (hL : G.2.2.2.2.1.2.1 = 11) (o_sg : Nat) (fs_sg : List Value) (o_sentF : Nat) (o_sentS : Nat) (fs_sentF : List Value) (fs_sentS : List Value) (o_m : Nat) (fs_m : List Value) (a_sentSize : Nat) (o_out : Nat) (h_sg : ws[0]? = some (o_sg, Sum.inr (9, fs_sg))) (hf_sg_4 : fs_sg[4]? = some (.ref o_sentF)) (hf_sg_5 : fs_sg[5]? = some (.ref o_sentS)) (h_sentF : ws[7]? = some (o_sentF, Sum.inr (4, fs_sentF))) (hf_sentF_1 : fs_sentF[1]? = some (.int (0 : Int32))) (h_sentS : ws[9]? = some (o_sentS, Sum.inr (4, fs_sentS))) (hf_sentS_1 : fs_sentS[1]? = some (.int (0 : Int32))) (h_m : ws[23]? = some (o_m, Sum.inr (10, fs_m))) (hf_m_0 : fs_m[0]? = some (.int (0 : Int32))) (hf_m_34 : fs_m[34]? = some (.ref a_sentSize)) (h_m_sentSize : ws[48]? = some (a_sentSize, Sum.inl (rn_k G 1, 2, Sum.inl (fun _ => 0)))) (h_out : ws[62]? = some (o_out, Sum.inl (rn_k G 2, 1, Sum.inr (Sum.inl (fun _ => 0))))) : Rn G mL_law 9 158 2 12 1415 [(0, .ref G.2.2.2.2.1.1), (1, .ref o_sg), (2, .ref o_m), (3, .ref o_out), (4, .int (1 : Int32))] [] ws (fun r _ => r = Sum.inl (some (.int 1))) := by
  obtain ⟨sc2, se2⟩ : ∃ x : Int32, G.2.2.2.2.1.2.2 (2 : Int32).toNatClampNeg = x := ⟨_, rfl⟩
  obtain ⟨sc3, se3⟩ : ∃ x : Int32, G.2.2.2.2.1.2.2 (3 : Int32).toNatClampNeg = x := ⟨_, rfl⟩
  refine rn_aload_n (i := 1) dL_law_1415 rfl rfl ?_
  refine rn_aload_n (i := 0) dL_law_1416 rfl rfl ?_
  refine rn_iload dL_law_1417 rfl ?_
  refine rn_iconst (v := (1 : Int32)) dL_law_1419 (by decide) ?_
  refine rn_iadd dL_law_1420 ?_
  refine rn_topi (2 : Int32) (by decide) ?_
  refine rn_sld (by rw [hL]; unfold vp_in; decide) dL_law_1421 ?_
  refine rn_topi sc2 se2 ?_
  refine rn_aload_n (i := 0) dL_law_1422 rfl rfl ?_
  refine rn_iload dL_law_1423 rfl ?_
  refine rn_iconst (v := (2 : Int32)) dL_law_1425 (by decide) ?_
  refine rn_iadd dL_law_1426 ?_
  refine rn_topi (3 : Int32) (by decide) ?_
  refine rn_sld (by rw [hL]; unfold vp_in; decide) dL_law_1427 ?_
  refine rn_topi sc3 se3 ?_
  refine rn_aload_n (i := 3) dL_law_1428 rfl rfl ?_
  refine rn_callSX (a := 0) (b := 0) [.ref o_sg, .int sc2, .int sc3, .ref o_out] kl_SGLaw_168 dL_law_1429 (c_L_sent G _ (o_sg := o_sg) (x := sc2) (y := sc3) (o_out := o_out) (fs_sg := fs_sg) (o_sentF := o_sentF) (o_sentS := o_sentS) (fs_sentF := fs_sentF) (fs_sentS := fs_sentS) h_sg hf_sg_4 hf_sg_5 h_sentF hf_sentF_1 h_sentS hf_sentS_1 h_out) rfl rfl (Nat.le_of_ble_eq_true rfl) (Nat.le_of_ble_eq_true rfl) (Nat.le_of_ble_eq_true rfl) (Nat.le_of_ble_eq_true rfl) (Nat.le_of_ble_eq_true rfl) (Nat.le_of_ble_eq_true rfl) (by rintro E w h; rcases h with ⟨_, hr, _⟩ | ⟨_, hr, _⟩ | ⟨_, hr, _⟩ <;> cases hr) ?_
  rintro v w h
  rcases h with ⟨hc, hr, hw⟩ | ⟨hc, hr, hw⟩ | ⟨hc, hr, hw⟩
  · have hc1 := hc; clear hc; cases hr; rw [hw]
    refine rn_stk [.int (1 : Int32)] rfl ?_
    refine rn_istore dL_law_1432 (by decide) [(0, .ref G.2.2.2.2.1.1), (1, .ref o_sg), (2, .ref o_m), (3, .ref o_out), (4, .int (1 : Int32)), (5, .int (1 : Int32))] rfl ?_
    refine rn_aload_n (i := 2) dL_law_1434 rfl rfl ?_
    refine rn_aload_n (i := 0) dL_law_1435 rfl rfl ?_
    refine rn_iload dL_law_1436 rfl ?_
    refine rn_iconst (v := (1 : Int32)) dL_law_1438 (by decide) ?_
    refine rn_iadd dL_law_1439 ?_
    refine rn_topi (2 : Int32) (by decide) ?_
    refine rn_sld (by rw [hL]; unfold vp_in; decide) dL_law_1440 ?_
    refine rn_topi sc2 se2 ?_
    refine rn_aload_n (i := 0) dL_law_1441 rfl rfl ?_
    refine rn_iload dL_law_1442 rfl ?_
    refine rn_iconst (v := (2 : Int32)) dL_law_1444 (by decide) ?_
    refine rn_iadd dL_law_1445 ?_
    refine rn_topi (3 : Int32) (by decide) ?_
    refine rn_sld (by rw [hL]; unfold vp_in; decide) dL_law_1446 ?_
    refine rn_topi sc3 se3 ?_
    refine rn_callV (a := 0) (b := 0) [.int sc2, .int sc3] kl_SGLaw_170 dL_law_1447 23 h_m rfl (c_X10_sent G _ (o_m := o_m) (k := sc2) (x := sc3) (fs_m := fs_m) (a_sentSize := a_sentSize) h_m hf_m_0 hf_m_34 h_m_sentSize) rfl rfl (Nat.le_of_ble_eq_true rfl) (Nat.le_of_ble_eq_true rfl) (Nat.le_of_ble_eq_true rfl) (Nat.le_of_ble_eq_true rfl) (Nat.le_of_ble_eq_true rfl) (Nat.le_of_ble_eq_true rfl) (by rintro E w h; rcases h with ⟨_, hr, _⟩ | ⟨_, hr, _⟩ | ⟨_, hr, _⟩ <;> cases hr) ?_
    rintro v w h
    rcases h with ⟨hc, hr, hw⟩ | ⟨hc, hr, hw⟩ | ⟨hc, hr, hw⟩
    · have hc2 := hc; clear hc; cases hr
      have hw3 : w[23]? = some (o_m, Sum.inr (10, ((fs_m.set 0 (.int (0 : Int32))).set 0 (.int (1 : Int32))))) := by rw [hw, List.getElem?_set_self (by (try simp only [List.length_set, List.length_append, List.length_cons, List.length_nil]); have hq := ls_lt h_m; omega)]
      have hw4 : w[62]? = some (o_out, Sum.inl (rn_k G 2, 1, Sum.inr (Sum.inl (fun _ => 0)))) := by rw [hw, List.getElem?_set_ne (by decide), List.getElem?_set_ne (by decide), h_out]
      refine rn_stk [.int (0 : Int32)] rfl ?_
      refine rn_istore dL_law_1450 (by decide) [(0, .ref G.2.2.2.2.1.1), (1, .ref o_sg), (2, .ref o_m), (3, .ref o_out), (4, .int (1 : Int32)), (5, .int (1 : Int32)), (6, .int (0 : Int32))] rfl ?_
      refine rn_aload_n (i := 2) dL_law_1452 rfl rfl ?_
      refine rn_callV (a := 0) (b := 0) [] kl_SGLaw_110 dL_law_1453 23 hw3 rfl (c_X10_thrown G _ (o_m := o_m) (fs_m := ((fs_m.set 0 (.int (0 : Int32))).set 0 (.int (1 : Int32)))) (th := (1 : Int32)) hw3 (ls_eq (ls_eq hf_m_0))) rfl rfl (Nat.le_of_ble_eq_true rfl) (Nat.le_of_ble_eq_true rfl) (Nat.le_of_ble_eq_true rfl) (Nat.le_of_ble_eq_true rfl) (Nat.le_of_ble_eq_true rfl) (Nat.le_of_ble_eq_true rfl) (by rintro E w h; rcases h with ⟨_, hr, _⟩ <;> cases hr) ?_
      rintro v w h
      obtain ⟨hc5, hr, hw⟩ := h; cases hr; rw [hw]
      refine rn_stk [.int (1 : Int32)] rfl ?_
      refine rn_iload dL_law_1456 rfl ?_
      refine rn_icmp_eq (tgt := 1463) dL_law_1458 (by decide) (fun h6 => ?_) (fun h6 => absurd h6 (by decide))
      refine rn_iload dL_law_1463 rfl ?_
      refine rn_if_ne (tgt := 1480) dL_law_1465 (by decide) (fun h7 => ?_) (fun h7 => absurd h7 (by decide))
      refine rn_goto (tgt := 1865) dL_law_1480 (by decide) ?_
      refine rn_lv [(0, .ref G.2.2.2.2.1.1), (1, .ref o_sg), (2, .ref o_m), (3, .ref o_out), (4, .int (1 : Int32))] rfl ?_
      exact law_end G _ hL _ _ _
    · have hc8 := hc; clear hc; cases hr
      exfalso; have g0 := i32_rng sc2; have g1 := i32_rng sc3; simp only [Int32.lt_iff_toInt_lt, Int32.le_iff_toInt_le, gt_iff_lt, ge_iff_le, ← Int32.toInt_inj, i32_m2, i32_m1, i32_0, i32_1] at *; omega
    · have hc9 := hc; clear hc; cases hr
      exfalso; have g0 := i32_rng sc2; have g1 := i32_rng sc3; simp only [Int32.lt_iff_toInt_lt, Int32.le_iff_toInt_le, gt_iff_lt, ge_iff_le, ← Int32.toInt_inj, i32_m2, i32_m1, i32_0, i32_1] at *; omega
  · have hc10 := hc; clear hc; cases hr
    have hw11 : w[23]? = some (o_m, Sum.inr (10, fs_m)) := by rw [hw, List.getElem?_set_ne (by decide), h_m]
    have hw12 : w[48]? = some (a_sentSize, Sum.inl (rn_k G 1, 2, Sum.inl (fun _ => 0))) := by rw [hw, List.getElem?_set_ne (by decide), h_m_sentSize]
    have hw13 : w[62]? = some (o_out, Sum.inl (rn_k G 2, 1, Sum.inr (Sum.inl (vp_updL (fun _ => 0) ((0 : Int32)).toNatClampNeg (-1 : Int64))))) := by rw [hw, List.getElem?_set_self (by (try simp only [List.length_set, List.length_append, List.length_cons, List.length_nil]); have hq := ls_lt h_out; omega)]
    refine rn_stk [.int (0 : Int32)] rfl ?_
    refine rn_istore dL_law_1432 (by decide) [(0, .ref G.2.2.2.2.1.1), (1, .ref o_sg), (2, .ref o_m), (3, .ref o_out), (4, .int (1 : Int32)), (5, .int (0 : Int32))] rfl ?_
    refine rn_aload_n (i := 2) dL_law_1434 rfl rfl ?_
    refine rn_aload_n (i := 0) dL_law_1435 rfl rfl ?_
    refine rn_iload dL_law_1436 rfl ?_
    refine rn_iconst (v := (1 : Int32)) dL_law_1438 (by decide) ?_
    refine rn_iadd dL_law_1439 ?_
    refine rn_topi (2 : Int32) (by decide) ?_
    refine rn_sld (by rw [hL]; unfold vp_in; decide) dL_law_1440 ?_
    refine rn_topi sc2 se2 ?_
    refine rn_aload_n (i := 0) dL_law_1441 rfl rfl ?_
    refine rn_iload dL_law_1442 rfl ?_
    refine rn_iconst (v := (2 : Int32)) dL_law_1444 (by decide) ?_
    refine rn_iadd dL_law_1445 ?_
    refine rn_topi (3 : Int32) (by decide) ?_
    refine rn_sld (by rw [hL]; unfold vp_in; decide) dL_law_1446 ?_
    refine rn_topi sc3 se3 ?_
    refine rn_callV (a := 0) (b := 0) [.int sc2, .int sc3] kl_SGLaw_170 dL_law_1447 23 hw11 rfl (c_X10_sent G _ (o_m := o_m) (k := sc2) (x := sc3) (fs_m := fs_m) (a_sentSize := a_sentSize) hw11 hf_m_0 hf_m_34 hw12) rfl rfl (Nat.le_of_ble_eq_true rfl) (Nat.le_of_ble_eq_true rfl) (Nat.le_of_ble_eq_true rfl) (Nat.le_of_ble_eq_true rfl) (Nat.le_of_ble_eq_true rfl) (Nat.le_of_ble_eq_true rfl) (by rintro E w h; rcases h with ⟨_, hr, _⟩ | ⟨_, hr, _⟩ | ⟨_, hr, _⟩ <;> cases hr) ?_
    rintro v w h
    rcases h with ⟨hc, hr, hw⟩ | ⟨hc, hr, hw⟩ | ⟨hc, hr, hw⟩
    · have hc14 := hc; clear hc; cases hr
      exfalso; have g0 := i32_rng sc2; have g1 := i32_rng sc3; simp only [Int32.lt_iff_toInt_lt, Int32.le_iff_toInt_le, gt_iff_lt, ge_iff_le, ← Int32.toInt_inj, i32_m2, i32_m1, i32_0, i32_1] at *; omega
    · have hc15 := hc; clear hc; cases hr
      have hw16 : w[23]? = some (o_m, Sum.inr (10, (fs_m.set 0 (.int (0 : Int32))))) := by rw [hw, List.getElem?_set_self (by (try simp only [List.length_set, List.length_append, List.length_cons, List.length_nil]); have hq := ls_lt hw11; omega)]
      have hw17 : w[62]? = some (o_out, Sum.inl (rn_k G 2, 1, Sum.inr (Sum.inl (vp_updL (fun _ => 0) ((0 : Int32)).toNatClampNeg (-1 : Int64))))) := by rw [hw, List.getElem?_set_ne (by decide), hw13]
      refine rn_stk [.int (-1 : Int32)] rfl ?_
      refine rn_istore dL_law_1450 (by decide) [(0, .ref G.2.2.2.2.1.1), (1, .ref o_sg), (2, .ref o_m), (3, .ref o_out), (4, .int (1 : Int32)), (5, .int (0 : Int32)), (6, .int (-1 : Int32))] rfl ?_
      refine rn_aload_n (i := 2) dL_law_1452 rfl rfl ?_
      refine rn_callV (a := 0) (b := 0) [] kl_SGLaw_110 dL_law_1453 23 hw16 rfl (c_X10_thrown G _ (o_m := o_m) (fs_m := (fs_m.set 0 (.int (0 : Int32)))) (th := (0 : Int32)) hw16 (ls_eq hf_m_0)) rfl rfl (Nat.le_of_ble_eq_true rfl) (Nat.le_of_ble_eq_true rfl) (Nat.le_of_ble_eq_true rfl) (Nat.le_of_ble_eq_true rfl) (Nat.le_of_ble_eq_true rfl) (Nat.le_of_ble_eq_true rfl) (by rintro E w h; rcases h with ⟨_, hr, _⟩ <;> cases hr) ?_
      rintro v w h
      obtain ⟨hc18, hr, hw⟩ := h; cases hr; rw [hw]
      refine rn_stk [.int (0 : Int32)] rfl ?_
      refine rn_iload dL_law_1456 rfl ?_
      refine rn_icmp_eq (tgt := 1463) dL_law_1458 (by decide) (fun h19 => ?_) (fun h19 => absurd h19 (by decide))
      refine rn_iload dL_law_1463 rfl ?_
      refine rn_if_ne (tgt := 1480) dL_law_1465 (by decide) (fun h20 => absurd h20 (by decide)) (fun h20 => ?_)
      refine rn_aload_n (i := 3) dL_law_1468 rfl rfl ?_
      refine rn_iconst (v := (0 : Int32)) dL_law_1469 (by decide) ?_
      refine rn_lald 62 2 hw17 rfl (by unfold vp_in; decide) dL_law_1470 ?_
      refine rn_topl _ (vp_updL_at _ _ _) ?_
      refine rn_iload dL_law_1471 rfl ?_
      refine rn_i2l dL_law_1473 rfl ?_
      refine rn_topl (-1 : Int64) (by decide) ?_
      refine rn_lcmp dL_law_1474 ?_
      refine rn_topi (0 : Int32) (by decide) ?_
      refine rn_if_eq (tgt := 1480) dL_law_1475 (by decide) (fun h21 => ?_) (fun h21 => absurd h21 (by decide))
      refine rn_goto (tgt := 1865) dL_law_1480 (by decide) ?_
      refine rn_lv [(0, .ref G.2.2.2.2.1.1), (1, .ref o_sg), (2, .ref o_m), (3, .ref o_out), (4, .int (1 : Int32))] rfl ?_
      exact law_end G _ hL _ _ _
    · have hc22 := hc; clear hc; cases hr
      exfalso; have g0 := i32_rng sc2; have g1 := i32_rng sc3; simp only [Int32.lt_iff_toInt_lt, Int32.le_iff_toInt_le, gt_iff_lt, ge_iff_le, ← Int32.toInt_inj, i32_m2, i32_m1, i32_0, i32_1] at *; omega
  · have hc23 := hc; clear hc; cases hr
    have hw24 : w[23]? = some (o_m, Sum.inr (10, fs_m)) := by rw [hw, List.getElem?_set_ne (by decide), h_m]
    have hw25 : w[48]? = some (a_sentSize, Sum.inl (rn_k G 1, 2, Sum.inl (fun _ => 0))) := by rw [hw, List.getElem?_set_ne (by decide), h_m_sentSize]
    have hw26 : w[62]? = some (o_out, Sum.inl (rn_k G 2, 1, Sum.inr (Sum.inl (vp_updL (fun _ => 0) ((0 : Int32)).toNatClampNeg (0 : Int64))))) := by rw [hw, List.getElem?_set_self (by (try simp only [List.length_set, List.length_append, List.length_cons, List.length_nil]); have hq := ls_lt h_out; omega)]
    refine rn_stk [.int (0 : Int32)] rfl ?_
    refine rn_istore dL_law_1432 (by decide) [(0, .ref G.2.2.2.2.1.1), (1, .ref o_sg), (2, .ref o_m), (3, .ref o_out), (4, .int (1 : Int32)), (5, .int (0 : Int32))] rfl ?_
    refine rn_aload_n (i := 2) dL_law_1434 rfl rfl ?_
    refine rn_aload_n (i := 0) dL_law_1435 rfl rfl ?_
    refine rn_iload dL_law_1436 rfl ?_
    refine rn_iconst (v := (1 : Int32)) dL_law_1438 (by decide) ?_
    refine rn_iadd dL_law_1439 ?_
    refine rn_topi (2 : Int32) (by decide) ?_
    refine rn_sld (by rw [hL]; unfold vp_in; decide) dL_law_1440 ?_
    refine rn_topi sc2 se2 ?_
    refine rn_aload_n (i := 0) dL_law_1441 rfl rfl ?_
    refine rn_iload dL_law_1442 rfl ?_
    refine rn_iconst (v := (2 : Int32)) dL_law_1444 (by decide) ?_
    refine rn_iadd dL_law_1445 ?_
    refine rn_topi (3 : Int32) (by decide) ?_
    refine rn_sld (by rw [hL]; unfold vp_in; decide) dL_law_1446 ?_
    refine rn_topi sc3 se3 ?_
    refine rn_callV (a := 0) (b := 0) [.int sc2, .int sc3] kl_SGLaw_170 dL_law_1447 23 hw24 rfl (c_X10_sent G _ (o_m := o_m) (k := sc2) (x := sc3) (fs_m := fs_m) (a_sentSize := a_sentSize) hw24 hf_m_0 hf_m_34 hw25) rfl rfl (Nat.le_of_ble_eq_true rfl) (Nat.le_of_ble_eq_true rfl) (Nat.le_of_ble_eq_true rfl) (Nat.le_of_ble_eq_true rfl) (Nat.le_of_ble_eq_true rfl) (Nat.le_of_ble_eq_true rfl) (by rintro E w h; rcases h with ⟨_, hr, _⟩ | ⟨_, hr, _⟩ | ⟨_, hr, _⟩ <;> cases hr) ?_
    rintro v w h
    rcases h with ⟨hc, hr, hw⟩ | ⟨hc, hr, hw⟩ | ⟨hc, hr, hw⟩
    · have hc27 := hc; clear hc; cases hr
      exfalso; have g0 := i32_rng sc2; have g1 := i32_rng sc3; simp only [Int32.lt_iff_toInt_lt, Int32.le_iff_toInt_le, gt_iff_lt, ge_iff_le, ← Int32.toInt_inj, i32_m2, i32_m1, i32_0, i32_1] at *; omega
    · have hc28 := hc; clear hc; cases hr
      exfalso; have g0 := i32_rng sc2; have g1 := i32_rng sc3; simp only [Int32.lt_iff_toInt_lt, Int32.le_iff_toInt_le, gt_iff_lt, ge_iff_le, ← Int32.toInt_inj, i32_m2, i32_m1, i32_0, i32_1] at *; omega
    · have hc29 := hc; clear hc; cases hr
      have hw30 : w[23]? = some (o_m, Sum.inr (10, (fs_m.set 0 (.int (0 : Int32))))) := by rw [hw, List.getElem?_set_self (by (try simp only [List.length_set, List.length_append, List.length_cons, List.length_nil]); have hq := ls_lt hw24; omega)]
      have hw31 : w[62]? = some (o_out, Sum.inl (rn_k G 2, 1, Sum.inr (Sum.inl (vp_updL (fun _ => 0) ((0 : Int32)).toNatClampNeg (0 : Int64))))) := by rw [hw, List.getElem?_set_ne (by decide), hw26]
      refine rn_stk [.int (0 : Int32)] rfl ?_
      refine rn_istore dL_law_1450 (by decide) [(0, .ref G.2.2.2.2.1.1), (1, .ref o_sg), (2, .ref o_m), (3, .ref o_out), (4, .int (1 : Int32)), (5, .int (0 : Int32)), (6, .int (0 : Int32))] rfl ?_
      refine rn_aload_n (i := 2) dL_law_1452 rfl rfl ?_
      refine rn_callV (a := 0) (b := 0) [] kl_SGLaw_110 dL_law_1453 23 hw30 rfl (c_X10_thrown G _ (o_m := o_m) (fs_m := (fs_m.set 0 (.int (0 : Int32)))) (th := (0 : Int32)) hw30 (ls_eq hf_m_0)) rfl rfl (Nat.le_of_ble_eq_true rfl) (Nat.le_of_ble_eq_true rfl) (Nat.le_of_ble_eq_true rfl) (Nat.le_of_ble_eq_true rfl) (Nat.le_of_ble_eq_true rfl) (Nat.le_of_ble_eq_true rfl) (by rintro E w h; rcases h with ⟨_, hr, _⟩ <;> cases hr) ?_
      rintro v w h
      obtain ⟨hc32, hr, hw⟩ := h; cases hr; rw [hw]
      refine rn_stk [.int (0 : Int32)] rfl ?_
      refine rn_iload dL_law_1456 rfl ?_
      refine rn_icmp_eq (tgt := 1463) dL_law_1458 (by decide) (fun h33 => ?_) (fun h33 => absurd h33 (by decide))
      refine rn_iload dL_law_1463 rfl ?_
      refine rn_if_ne (tgt := 1480) dL_law_1465 (by decide) (fun h34 => absurd h34 (by decide)) (fun h34 => ?_)
      refine rn_aload_n (i := 3) dL_law_1468 rfl rfl ?_
      refine rn_iconst (v := (0 : Int32)) dL_law_1469 (by decide) ?_
      refine rn_lald 62 2 hw31 rfl (by unfold vp_in; decide) dL_law_1470 ?_
      refine rn_topl _ (vp_updL_at _ _ _) ?_
      refine rn_iload dL_law_1471 rfl ?_
      refine rn_i2l dL_law_1473 rfl ?_
      refine rn_topl (0 : Int64) (by decide) ?_
      refine rn_lcmp dL_law_1474 ?_
      refine rn_topi (0 : Int32) (by decide) ?_
      refine rn_if_eq (tgt := 1480) dL_law_1475 (by decide) (fun h35 => ?_) (fun h35 => absurd h35 (by decide))
      refine rn_goto (tgt := 1865) dL_law_1480 (by decide) ?_
      refine rn_lv [(0, .ref G.2.2.2.2.1.1), (1, .ref o_sg), (2, .ref o_m), (3, .ref o_out), (4, .int (1 : Int32))] rfl ?_
      exact law_end G _ hL _ _ _
