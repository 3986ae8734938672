set_option maxRecDepth 20000 in
set_option maxHeartbeats 4000000 in
theorem lc_15 (G : rn_G) (a b : Nat) (S : ts_S) (ws : va_W) (hW : ts_W G S ws) (ox om oo : Nat) (mx : (ox, 9) ∈ S) (mm : (om, 30) ∈ S) (mo : (oo, 21) ∈ S) (i : Int32) (ri : Rg 1 5121 i) (hi : i.toInt + 10 ≤ (G.2.2.2.2.1.2.1 : Int)) (I : Cpt S ws) (K : ∀ (S' : ts_S) (w : va_W), ts_W G S' w → (∀ p ∈ S, p ∈ S') → Cpt S' w → Rn G mL_law 9 244 a b 1279 [(0, .ref G.2.2.2.2.1.1), (1, .ref ox), (2, .ref om), (3, .ref oo), (4, .int i)] [] w (fun r _ => r = Sum.inl (some (.int 1)))) : Rn G mL_law 9 244 (a + 0) (b + 0) 998 [(0, .ref G.2.2.2.2.1.1), (1, .ref ox), (2, .ref om), (3, .ref oo), (4, .int i)] [] ws (fun r _ => r = Sum.inl (some (.int 1))) := by
  have hS0 : St G S [30] ws S ws := St.rf hW
  obtain ⟨sc1, hs1⟩ : ∃ x : Int32, G.2.2.2.2.1.2.2 (i.toInt.toNat + 1) = x := ⟨_, rfl⟩
  refine rn_aload_n (i := 1) dL_law_998 rfl rfl ?_
  refine rn_aload_n (i := 0) dL_law_999 rfl rfl ?_
  refine rn_iload dL_law_1000 rfl ?_
  refine rn_iconst (v := (1 : Int32)) dL_law_1002 (by decide) ?_
  refine rs_addC (2) (5122) ri rk_1 dL_law_1003 (by decide) (fun v1 ev1 rv1 => ?_)
  refine rn_scl 1 ev1 ri hi (by decide) hs1 dL_law_1004 ?_
  obtain ⟨q2, fs2, hq2, hl2, hf2⟩ := ts_obj hS0.1 mx hk_9
  refine rn_callV (a := (a + 0)) (b := (b + 0)) [.int sc1] kl_SGLaw_161 dL_law_1005 q2 hl2 rfl (t_X9_routed G S ws hS0.1 ox mx sc1) rfl rfl (Nat.le_of_ble_eq_true rfl) (Nat.le_of_ble_eq_true rfl) (Nat.le_of_ble_eq_true rfl) (Nat.le_of_ble_eq_true rfl) (bud_le (by decide)) (bud_le (by decide)) (fun _ _ h => False.elim h) (fun v9 w3 h4 => ?_)
  obtain ⟨rfl, v5, rfl, rv5, xah4⟩ := h4
  refine rn_stk [.int v5] rfl ?_
  refine rn_aload_n (i := 2) dL_law_1008 rfl rfl ?_
  refine rn_aload_n (i := 0) dL_law_1009 rfl rfl ?_
  refine rn_iload dL_law_1010 rfl ?_
  refine rn_iconst (v := (1 : Int32)) dL_law_1012 (by decide) ?_
  refine rs_addC (2) (5122) ri rk_1 dL_law_1013 (by decide) (fun v7 ev7 rv7 => ?_)
  refine rn_scl 1 ev7 ri hi (by decide) hs1 dL_law_1014 ?_
  obtain ⟨q8, fs8, hq8, hl8, hf8⟩ := ts_obj hS0.1 mm hk_30
  refine rn_callV (a := (a + 0)) (b := (b + 0)) [.int sc1] kl_SGLaw_164 dL_law_1015 q8 hl8 rfl (t_X10_routed G S ws hS0.1 om mm sc1) rfl rfl (Nat.le_of_ble_eq_true rfl) (Nat.le_of_ble_eq_true rfl) (Nat.le_of_ble_eq_true rfl) (Nat.le_of_ble_eq_true rfl) (bud_le (by decide)) (bud_le (by decide)) (fun _ _ h => False.elim h) (fun v9 w9 h10 => ?_)
  obtain ⟨hT12, v11, rfl, rv11, xah10, fkh10⟩ := h10
  have hS12 := St.tr hS0 hT12 (by decide +kernel)
  have I12 := Cpt.rf I hT12 rfl rfl fkh10
  refine rn_stk [.int v11, .int v5] rfl ?_
  refine rn_icmp_eq (tgt := 1279) dL_law_1018 (by decide) (fun h13 => ?_) (fun h13 => (show False from absurd (show v5 = v11 by obtain ⟨n, net, w9, p, t1, t2, t3⟩ := I; obtain ⟨x0, z1⟩ := xah4 n net w9 p t1; obtain ⟨x1, z2⟩ := xah10 n net w9 p t2 t3; exact (rt_u z1 z2).2) h13).elim)
  have ch13 := cv_eq h13
  refine rn_lv [(0, .ref G.2.2.2.2.1.1), (1, .ref ox), (2, .ref om), (3, .ref oo), (4, .int i)] rfl ?_
  refine rn_room (d' := 9) (z' := 244) (a' := a) (b' := b) ?_ (Nat.le_refl _) (Nat.le_refl _) (Nat.le_add_right _ _) (Nat.le_add_right _ _)
  exact K _ _ hS12.1 (fun p hp => hS12.mem hp) I12
