abbrev q_t_X10_heap_2200 (G : rn_G) (S : ts_S) (ws : va_W) : rn_R → va_W → Prop := rQ (fun v w => St G S [30, 33, 67, 68, 69, 70, 71, 72, 73] ws S w ∧ (∃ x : Int32, v = some (.int x) ∧ Rg (0) (17) x ∧ (x = 0 → 19 ≤ tw (byt w) 2202 ∧ tw (byt w) 2202 ≤ 2000) ∧ fK1 4 S ws w)) (fun E w => False)
set_option maxRecDepth 20000 in
set_option maxHeartbeats 4000000 in
theorem t_X10_heap_2200 (G : rn_G) (S : ts_S) (ws : va_W) (hW : ts_W G S ws) (o0_ : Nat) (m0_ : (o0_, 30) ∈ S) (hw2202_ : 20 ≤ tw (byt ws) 2202 ∧ tw (byt ws) 2202 ≤ 2047) : Rn G mX10_heap 3 70 0 0 0 (lv_args 0 [.ref o0_, .int (2200 : Int32)]) [] ws (q_t_X10_heap_2200 G S ws ) := by
  have hS0 : St G S [30, 33, 67, 68, 69, 70, 71, 72, 73] ws S ws := St.rf hW
  have fk0 : fK1 4 S ws ws := fun v h => h
  obtain ⟨ob1, hob1⟩ := hS0.1.2.1.2
  obtain ⟨T2, ht2⟩ : ∃ t : Int, tw (byt ws) 2202 = t := ⟨_, rfl⟩
  rw [ht2] at hw2202_
  refine rn_lv [(0, .ref o0_), (1, .int (2200 : Int32))] rfl ?_
  refine rn_aload_n (i := 0) dX10_heap_0 rfl rfl ?_
  refine rn_iload_n (i := 1) dX10_heap_1 rfl rfl ?_
  refine rn_bipush (v := (12 : Int32)) dX10_heap_2 (by decide) ?_
  refine rn_iadd dX10_heap_4 (rn_topi (2212 : Int32) (by decide) ?_)
  obtain ⟨q4, fs4, hq4, hl4, hf4⟩ := ts_obj hS0.1 m0_ hk_30
  refine rn_callV (a := 0) (b := 0) [.int (2212 : Int32)] kl_SGModel_218 dX10_heap_5 q4 hl4 rfl (t_X10_four G S ws hS0.1 o0_ m0_ (2212 : Int32) (rg_w rk_2212 (by decide) (by decide))) rfl rfl (Nat.le_of_ble_eq_true rfl) (Nat.le_of_ble_eq_true rfl) (Nat.le_of_ble_eq_true rfl) (Nat.le_of_ble_eq_true rfl) (Nat.le_of_ble_eq_true rfl) (Nat.le_of_ble_eq_true rfl) (fun _ _ h => False.elim h) (fun v9 w5 h6 => ?_)
  obtain ⟨rfl, v7, rfl, rv7⟩ := h6
  refine rn_stk [.int v7] rfl ?_
  refine rn_istore_n dX10_heap_8 rfl (by decide) [(0, .ref o0_), (1, .int (2200 : Int32)), (2, .int v7)] rfl ?_
  refine rn_aload_n (i := 0) dX10_heap_9 rfl rfl ?_
  refine rn_iload_n (i := 1) dX10_heap_10 rfl rfl ?_
  refine rn_iconst (v := (4 : Int32)) dX10_heap_11 (by decide) ?_
  refine rn_iadd dX10_heap_12 (rn_topi (2204 : Int32) (by decide) ?_)
  refine rn_callV (a := 0) (b := 0) [.int (2204 : Int32)] kl_SGModel_140 dX10_heap_13 q4 hl4 rfl (t_X10_two G S ws hS0.1 o0_ m0_ (2204 : Int32) (rg_w rk_2204 (by decide) (by decide))) rfl rfl (Nat.le_of_ble_eq_true rfl) (Nat.le_of_ble_eq_true rfl) (Nat.le_of_ble_eq_true rfl) (Nat.le_of_ble_eq_true rfl) (Nat.le_of_ble_eq_true rfl) (Nat.le_of_ble_eq_true rfl) (fun _ _ h => False.elim h) (fun v9 w10 h11 => ?_)
  obtain ⟨rfl, v12, rfl, rv12, xah11⟩ := h11
  obtain ⟨T14, ht14⟩ : ∃ t : Int, tw (byt ws) 2204 = t := ⟨_, rfl⟩
  have ev12 : v12.toInt = T14 := (xah11 2204 (by decide)).trans ht14
  refine rn_stk [.int v12] rfl ?_
  refine rn_istore_n dX10_heap_16 rfl (by decide) [(0, .ref o0_), (1, .int (2200 : Int32)), (2, .int v7), (3, .int v12)] rfl ?_
  refine rn_aload_n (i := 0) dX10_heap_17 rfl rfl ?_
  refine rn_iload_n (i := 2) dX10_heap_18 rfl rfl ?_
  refine rn_iload_n (i := 3) dX10_heap_19 rfl rfl ?_
  refine rn_callV (a := 0) (b := 0) [.int v7, .int v12] kl_SGModel_295 dX10_heap_20 q4 hl4 rfl (t_X10_heapOf G S ws hS0.1 o0_ m0_ v7 v12) rfl rfl (Nat.le_of_ble_eq_true rfl) (Nat.le_of_ble_eq_true rfl) (Nat.le_of_ble_eq_true rfl) (Nat.le_of_ble_eq_true rfl) (Nat.le_of_ble_eq_true rfl) (Nat.le_of_ble_eq_true rfl) (fun _ _ h => False.elim h) (fun v9 w15 h16 => ?_)
  obtain ⟨rfl, v17, rfl, rv17⟩ := h16
  refine rn_stk [.int v17] rfl ?_
  refine rn_istore dX10_heap_23 (by decide) [(0, .ref o0_), (1, .int (2200 : Int32)), (2, .int v7), (3, .int v12), (4, .int v17)] rfl ?_
  refine rn_aload_n (i := 0) dX10_heap_25 rfl rfl ?_
  refine rn_iload_n (i := 1) dX10_heap_26 rfl rfl ?_
  refine rn_iload dX10_heap_27 rfl ?_
  refine rn_callV (a := 0) (b := 0) [.int (2200 : Int32), .int v17] kl_SGModel_298 dX10_heap_29 q4 hl4 rfl (t_X10_isWrong_2200 G S ws hS0.1 o0_ m0_ v17 rv17 (by rw [ht2]; exact ⟨by omega, by omega⟩)) rfl rfl (Nat.le_of_ble_eq_true rfl) (Nat.le_of_ble_eq_true rfl) (Nat.le_of_ble_eq_true rfl) (Nat.le_of_ble_eq_true rfl) (Nat.le_of_ble_eq_true rfl) (Nat.le_of_ble_eq_true rfl) (fun _ _ h => False.elim h) (fun v9 w19 h20 => ?_)
  obtain ⟨rfl, v21, rfl, rv21, xah20⟩ := h20
  obtain ⟨T23, ht23⟩ : ∃ t : Int, tw (byt ws) 2206 = t := ⟨_, rfl⟩
  rw [ht23, ht2] at xah20
  refine rn_stk [.int v21] rfl ?_
  refine rn_if_eq (tgt := 51) dX10_heap_32 (by decide) (fun h24 => ?_) (fun h24 => ?_)
  · have ch24 := cv_eq h24
    have kh24 := xah20 h24
    have r25 : Rg (0) (0) v21 := rf_eqx ch24 rv21 rk_0 (by decide) (by decide)
    refine rn_iload dX10_heap_51 rfl ?_
    refine rn_if_ge (tgt := 65) dX10_heap_53 (by decide) (fun h26 => ?_) (fun h26 => ?_)
    · have ch26 := cv_le h26
      have r27 : Rg (0) (3) v17 := rf_ley ch26 rk_0 rv17 (by decide)
      refine rn_iload dX10_heap_65 rfl ?_
      refine rn_istore dX10_heap_67 (by decide) [(0, .ref o0_), (1, .int (2200 : Int32)), (2, .int v7), (3, .int v12), (4, .int v17)] rfl ?_
      refine rn_aload_n (i := 0) dX10_heap_69 rfl rfl ?_
      refine rn_iload_n (i := 1) dX10_heap_70 rfl rfl ?_
      refine rn_inV (d' := 1) (z' := 21) [.int (2200 : Int32)] kl_SGModel_165 dX10_heap_71 q4 hl4 rfl rfl rfl (Nat.le_of_ble_eq_true rfl) (Nat.le_of_ble_eq_true rfl) (Nat.le_of_ble_eq_true rfl) (Nat.le_of_ble_eq_true rfl) ?_
      refine rn_lv [(0, .ref o0_), (1, .int (2200 : Int32))] rfl ?_
      refine rn_aload_n (i := 0) dX10_lengthOf_0 rfl rfl ?_
      refine rn_iload_n (i := 1) dX10_lengthOf_1 rfl rfl ?_
      refine rn_iconst (v := (2 : Int32)) dX10_lengthOf_2 (by decide) ?_
      refine rn_iadd dX10_lengthOf_3 (rn_topi (2202 : Int32) (by decide) ?_)
      refine rn_callV (a := 0) (b := 0) [.int (2202 : Int32)] kl_SGModel_140 dX10_lengthOf_4 q4 hl4 rfl (t_X10_two G S ws hS0.1 o0_ m0_ (2202 : Int32) (rg_w rk_2202 (by decide) (by decide))) rfl rfl (Nat.le_of_ble_eq_true rfl) (Nat.le_of_ble_eq_true rfl) (Nat.le_of_ble_eq_true rfl) (Nat.le_of_ble_eq_true rfl) (Nat.le_of_ble_eq_true rfl) (Nat.le_of_ble_eq_true rfl) (fun _ _ h => False.elim h) (fun v9 w29 h30 => ?_)
      obtain ⟨rfl, v31, rfl, rv31, xah30⟩ := h30
      have ev31 : v31.toInt = T2 := (xah30 2202 (by decide)).trans ht2
      have r33 : Rg (20) (2047) v31 := ⟨by have := rv31.1; have := rv31.2; omega, by have := rv31.1; have := rv31.2; omega⟩
      refine rn_stk [.int v31] rfl ?_
      refine rn_iret dX10_lengthOf_7 rfl rfl (rq_in ?_)
      refine rn_stk [.int v31] rfl ?_
      refine rn_bipush (v := (20 : Int32)) dX10_heap_74 (by decide) ?_
      refine rs_subC (0) (2027) r33 rk_20 dX10_heap_76 (by decide) (fun v34 ev34 rv34 => ?_)
      refine rn_istore dX10_heap_77 (by decide) [(0, .ref o0_), (1, .int (2200 : Int32)), (2, .int v7), (3, .int v12), (4, .int v17), (5, .int v34)] rfl ?_
      refine rn_bipush (v := (8 : Int32)) dX10_heap_79 (by decide) ?_
      refine rn_aload_n (i := 0) dX10_heap_81 rfl rfl ?_
      refine rn_iload_n (i := 1) dX10_heap_82 rfl rfl ?_
      refine rn_inV (d' := 1) (z' := 21) [.int (2200 : Int32)] kl_SGModel_159 dX10_heap_83 q4 hl4 rfl rfl rfl (Nat.le_of_ble_eq_true rfl) (Nat.le_of_ble_eq_true rfl) (Nat.le_of_ble_eq_true rfl) (Nat.le_of_ble_eq_true rfl) ?_
      refine rn_lv [(0, .ref o0_), (1, .int (2200 : Int32))] rfl ?_
      refine rn_aload_n (i := 0) dX10_offsetOf_0 rfl rfl ?_
      refine rn_iload_n (i := 1) dX10_offsetOf_1 rfl rfl ?_
      refine rn_bipush (v := (6 : Int32)) dX10_offsetOf_2 (by decide) ?_
      refine rn_iadd dX10_offsetOf_4 (rn_topi (2206 : Int32) (by decide) ?_)
      refine rn_callV (a := 0) (b := 0) [.int (2206 : Int32)] kl_SGModel_140 dX10_offsetOf_5 q4 hl4 rfl (t_X10_two G S ws hS0.1 o0_ m0_ (2206 : Int32) (rg_w rk_2206 (by decide) (by decide))) rfl rfl (Nat.le_of_ble_eq_true rfl) (Nat.le_of_ble_eq_true rfl) (Nat.le_of_ble_eq_true rfl) (Nat.le_of_ble_eq_true rfl) (Nat.le_of_ble_eq_true rfl) (Nat.le_of_ble_eq_true rfl) (fun _ _ h => False.elim h) (fun v9 w36 h37 => ?_)
      obtain ⟨rfl, v38, rfl, rv38, xah37⟩ := h37
      have ev38 : v38.toInt = T23 := (xah37 2206 (by decide)).trans ht23
      refine rn_stk [.int v38] rfl ?_
      refine rn_sipush (v := (8191 : Int32)) dX10_offsetOf_8 (by decide) ?_
      refine rn_iand dX10_offsetOf_11 (rn_nmE (rg_mask (hi := 8191) 13 8192 rfl rv38 rk_8191 (by decide)) (fun v40 ev40 rv40 => ?_))
      have fv40 : v40.toInt = T23 % 8192 := ev40.trans (congrArg (fun z => z % ((8192 : Nat) : Int)) ev38)
      refine rn_iret dX10_offsetOf_12 rfl rfl (rq_in ?_)
      refine rn_stk [.int v40, .int (8 : Int32)] rfl ?_
      refine rs_mulD (0) (65528) rk_8 rv40 dX10_heap_86 (by decide) (fun v41 ev41 rv41 => ?_)
      refine rn_istore dX10_heap_87 (by decide) [(0, .ref o0_), (1, .int (2200 : Int32)), (2, .int v7), (3, .int v12), (4, .int v17), (5, .int v34), (6, .int v41)] rfl ?_
      refine rn_sipush (v := (13200 : Int32)) dX10_heap_89 (by decide) ?_
      refine rn_sipush (v := (2200 : Int32)) dX10_heap_92 (by decide) ?_
      refine rn_iload dX10_heap_95 rfl ?_
      refine rs_mulD (0) (6600) rk_2200 r27 dX10_heap_97 (by decide) (fun v42 ev42 rv42 => ?_)
      refine rs_addD (13200) (19800) rk_13200 rv42 dX10_heap_98 (by decide) (fun v43 ev43 rv43 => ?_)
      refine rn_istore dX10_heap_99 (by decide) [(0, .ref o0_), (1, .int (2200 : Int32)), (2, .int v7), (3, .int v12), (4, .int v17), (5, .int v34), (6, .int v41), (7, .int v43)] rfl ?_
      refine rn_iload dX10_heap_101 rfl ?_
      refine rn_if_ne (tgt := 115) dX10_heap_103 (by decide) (fun h44 => ?_) (fun h44 => ?_)
      · have ch44 := cv_ne h44
        have r45 : Rg (1) (65528) v41 := rf_nel ch44 rv41 rk_0 (by decide) (by decide)
        refine rn_aload_n (i := 0) dX10_heap_115 rfl rfl ?_
        refine rn_iload_n (i := 1) dX10_heap_116 rfl rfl ?_
        refine rn_bipush (v := (20 : Int32)) dX10_heap_117 (by decide) ?_
        refine rn_iadd dX10_heap_119 (rn_topi (2220 : Int32) (by decide) ?_)
        refine rn_iload dX10_heap_120 rfl ?_
        refine rn_bipush (v := (20 : Int32)) dX10_heap_122 (by decide) ?_
        refine rs_addC (13220) (19820) rv43 rk_20 dX10_heap_124 (by decide) (fun v47 ev47 rv47 => ?_)
        refine rn_iload dX10_heap_125 rfl ?_
        refine rs_addR (13221) (85348) rv47 r45 dX10_heap_127 (by decide) (fun v48 ev48 rv48 => ?_)
        refine rn_iload dX10_heap_128 rfl ?_
        refine rn_callV (a := 0) (b := 0) [.int (2220 : Int32), .int v48, .int v34] kl_SGModel_235 dX10_heap_130 q4 hl4 rfl (t_X10_move G S ws hS0.1 o0_ m0_ (2220 : Int32) v48 v34 ⟨by have := rv34.1; have := rv34.2; have := rk_20.1; have := rk_20.2; have := r33.1; have := r33.2; have := rv48.1; have := rv48.2; have := r45.1; have := r45.2; have := rv40.1; have := rv40.2; have := rk_8191.1; have := rk_8191.2; have := rv38.1; have := rv38.2; have := rk_8.1; have := rk_8.2; have := rv47.1; have := rv47.2; have := rv43.1; have := rv43.2; have := rv42.1; have := rv42.2; have := r27.1; have := r27.2; have := rk_2200.1; have := rk_2200.2; have := rk_13200.1; have := rk_13200.2; have := rk_2220.1; have := rk_2220.2; omega, by have := rv34.1; have := rv34.2; have := rk_20.1; have := rk_20.2; have := r33.1; have := r33.2; have := rv48.1; have := rv48.2; have := r45.1; have := r45.2; have := rv40.1; have := rv40.2; have := rk_8191.1; have := rk_8191.2; have := rv38.1; have := rv38.2; have := rk_8.1; have := rk_8.2; have := rv47.1; have := rv47.2; have := rv43.1; have := rv43.2; have := rv42.1; have := rv42.2; have := r27.1; have := r27.2; have := rk_2200.1; have := rk_2200.2; have := rk_13200.1; have := rk_13200.2; have := rk_2220.1; have := rk_2220.2; omega, by have := rv34.1; have := rv34.2; have := rk_20.1; have := rk_20.2; have := r33.1; have := r33.2; have := rv48.1; have := rv48.2; have := r45.1; have := r45.2; have := rv40.1; have := rv40.2; have := rk_8191.1; have := rk_8191.2; have := rv38.1; have := rv38.2; have := rk_8.1; have := rk_8.2; have := rv47.1; have := rv47.2; have := rv43.1; have := rv43.2; have := rv42.1; have := rv42.2; have := r27.1; have := r27.2; have := rk_2200.1; have := rk_2200.2; have := rk_13200.1; have := rk_13200.2; have := rk_2220.1; have := rk_2220.2; omega, by have := rv34.1; have := rv34.2; have := rk_20.1; have := rk_20.2; have := r33.1; have := r33.2; have := rv48.1; have := rv48.2; have := r45.1; have := r45.2; have := rv40.1; have := rv40.2; have := rk_8191.1; have := rk_8191.2; have := rv38.1; have := rv38.2; have := rk_8.1; have := rk_8.2; have := rv47.1; have := rv47.2; have := rv43.1; have := rv43.2; have := rv42.1; have := rv42.2; have := r27.1; have := r27.2; have := rk_2200.1; have := rk_2200.2; have := rk_13200.1; have := rk_13200.2; have := rk_2220.1; have := rk_2220.2; omega⟩) rfl rfl (Nat.le_of_ble_eq_true rfl) (Nat.le_of_ble_eq_true rfl) (Nat.le_of_ble_eq_true rfl) (Nat.le_of_ble_eq_true rfl) (Nat.le_of_ble_eq_true rfl) (Nat.le_of_ble_eq_true rfl) (fun _ _ h => False.elim h) (fun v9 w49 h50 => ?_)
        obtain ⟨hT51, rfl, xah50⟩ := h50
        have hS51 := St.tr hS0 hT51 rfl
        have ht52 := bsame.keep xah50.1 ht2 (by have := rv34.1; have := rv34.2; have := rk_20.1; have := rk_20.2; have := r33.1; have := r33.2; have := rv48.1; have := rv48.2; have := r45.1; have := r45.2; have := rv40.1; have := rv40.2; have := rk_8191.1; have := rk_8191.2; have := rv38.1; have := rv38.2; have := rk_8.1; have := rk_8.2; have := rv47.1; have := rv47.2; have := rv43.1; have := rv43.2; have := rv42.1; have := rv42.2; have := r27.1; have := r27.2; have := rk_2200.1; have := rk_2200.2; have := rk_13200.1; have := rk_13200.2; have := rk_2220.1; have := rk_2220.2; omega)
        have ht53 := bsame.keep xah50.1 ht14 (by have := rv34.1; have := rv34.2; have := rk_20.1; have := rk_20.2; have := r33.1; have := r33.2; have := rv48.1; have := rv48.2; have := r45.1; have := r45.2; have := rv40.1; have := rv40.2; have := rk_8191.1; have := rk_8191.2; have := rv38.1; have := rv38.2; have := rk_8.1; have := rk_8.2; have := rv47.1; have := rv47.2; have := rv43.1; have := rv43.2; have := rv42.1; have := rv42.2; have := r27.1; have := r27.2; have := rk_2200.1; have := rk_2200.2; have := rk_13200.1; have := rk_13200.2; have := rk_2220.1; have := rk_2220.2; omega)
        have ht54 := bsame.keep xah50.1 ht23 (by have := rv34.1; have := rv34.2; have := rk_20.1; have := rk_20.2; have := r33.1; have := r33.2; have := rv48.1; have := rv48.2; have := r45.1; have := r45.2; have := rv40.1; have := rv40.2; have := rk_8191.1; have := rk_8191.2; have := rv38.1; have := rv38.2; have := rk_8.1; have := rk_8.2; have := rv47.1; have := rv47.2; have := rv43.1; have := rv43.2; have := rv42.1; have := rv42.2; have := r27.1; have := r27.2; have := rk_2200.1; have := rk_2200.2; have := rk_13200.1; have := rk_13200.2; have := rk_2220.1; have := rk_2220.2; omega)
        have fk55 : fK1 4 S ws w49 := fk_fr fk0 hT51 rfl
        refine rn_stk [] rfl ?_
        refine rn_iconst (v := (0 : Int32)) dX10_heap_133 (by decide) ?_
        refine rn_istore dX10_heap_134 (by decide) [(0, .ref o0_), (1, .int (2200 : Int32)), (2, .int v7), (3, .int v12), (4, .int v17), (5, .int v34), (6, .int v41), (7, .int v43), (8, .int (0 : Int32))] rfl ?_
        have LP57 : ∀ (n : Nat) (w58 : va_W) (x56 : Int32), St G S [73] w49 S w58 → Rg (0) (2039) x56 → (2039 - x56.toInt).toNat = n → Rn G mX10_heap 3 70 0 0 136 [(0, .ref o0_), (1, .int (2200 : Int32)), (2, .int v7), (3, .int v12), (4, .int v17), (5, .int v34), (6, .int v41), (7, .int v43), (8, .int x56)] [] w58 (q_t_X10_heap_2200 G S ws ) := by
          intro n
          induction n using Nat.strongRecOn with
          | _ n ih =>
            intro w58 x56 hT59 r60 hm61
            have ht62 := tw_eq (byt_fr hS51.1 hT59 rfl) ht52
            have ht63 := tw_eq (byt_fr hS51.1 hT59 rfl) ht53
            have ht64 := tw_eq (byt_fr hS51.1 hT59 rfl) ht54
            have fk65 : fK1 4 S ws w58 := fk_fr fk55 hT59 rfl
            refine rn_iload dX10_heap_136 rfl ?_
            refine rn_iload dX10_heap_138 rfl ?_
            refine rn_icmp_ge (tgt := 167) dX10_heap_140 (by decide) (fun h66 => ?_) (fun h66 => ?_)
            · have ch66 := cv_le h66
              have hS67 := St.tr hS51 hT59 rfl
              refine rn_aload_n (i := 0) dX10_heap_167 rfl rfl ?_
              refine rn_iload_n (i := 1) dX10_heap_168 rfl rfl ?_
              refine rn_callV (a := 0) (b := 0) [.int (2200 : Int32)] kl_SGModel_155 dX10_heap_169 q4 (hT59.fr hq4 rfl (hT51.fr hq4 rfl hl4)) rfl (t_X10_hasMore G S w58 hS67.1 o0_ m0_ (2200 : Int32) (rg_w rk_2200 (by decide) (by decide))) rfl rfl (Nat.le_of_ble_eq_true rfl) (Nat.le_of_ble_eq_true rfl) (Nat.le_of_ble_eq_true rfl) (Nat.le_of_ble_eq_true rfl) (Nat.le_of_ble_eq_true rfl) (Nat.le_of_ble_eq_true rfl) (fun _ _ h => False.elim h) (fun v9 w68 h69 => ?_)
              obtain ⟨rfl, v70, rfl, rv70⟩ := h69
              refine rn_stk [.int v70] rfl ?_
              refine rn_if_ne (tgt := 187) dX10_heap_172 (by decide) (fun h72 => ?_) (fun h72 => ?_)
              · have ch72 := cv_ne h72
                have r73 : Rg (1) (1) v70 := rf_nel ch72 rv70 rk_0 (by decide) (by decide)
                refine rn_aload_n (i := 0) dX10_heap_187 rfl rfl ?_
                refine rn_iload dX10_heap_188 rfl ?_
                refine rn_callV (a := 0) (b := 0) [.int v17] kl_SGModel_304 dX10_heap_190 q4 (hT59.fr hq4 rfl (hT51.fr hq4 rfl hl4)) rfl (t_X10_isFull G S w58 hS67.1 o0_ m0_ v17 r27) rfl rfl (Nat.le_of_ble_eq_true rfl) (Nat.le_of_ble_eq_true rfl) (Nat.le_of_ble_eq_true rfl) (Nat.le_of_ble_eq_true rfl) (Nat.le_of_ble_eq_true rfl) (Nat.le_of_ble_eq_true rfl) (fun _ _ h => False.elim h) (fun v9 w74 h75 => ?_)
                obtain ⟨rfl, v76, rfl, rv76⟩ := h75
                refine rn_stk [.int v76] rfl ?_
                refine rn_if_ne (tgt := 199) dX10_heap_193 (by decide) (fun h78 => ?_) (fun h78 => ?_)
                · have ch78 := cv_ne h78
                  have r79 : Rg (1) (1) v76 := rf_nel ch78 rv76 rk_0 (by decide) (by decide)
                  refine rn_aload_n (i := 0) dX10_heap_199 rfl rfl ?_
                  obtain ⟨o80, hx80, m80⟩ := fs_r hf4 36 rfl
                  refine rn_get q4 kg_SGModel_95 (hT59.fr hq4 rfl (hT51.fr hq4 rfl hl4)) hx80 dX10_heap_200 ?_
                  refine rn_iload dX10_heap_203 rfl ?_
                  refine rn_iconst (v := (0 : Int32)) dX10_heap_205 (by decide) ?_
                  obtain ⟨q81, f81, hq81, hl81, hf81⟩ := ts_ia hS67.1 m80 hk_67
                  refine rs_zast q81 hS67 hq81 hl81 hf81 hk_67 rfl rfl r27 (by decide) (by decide) (by decide) (by decide) dX10_heap_206 (fun w82 f83 hS83 hl83 hf83 hu83 hn83 => ?_)
                  have fk84 : fK1 4 S ws w82 := fk_ne fk65 hn83 hq81 rfl
                  have ht85 := tw_eq (byt_ne hn83 (ts_ne hq81 hob1 rfl)) ht62
                  have ht86 := tw_eq (byt_ne hn83 (ts_ne hq81 hob1 rfl)) ht63
                  have ht87 := tw_eq (byt_ne hn83 (ts_ne hq81 hob1 rfl)) ht64
                  refine rn_aload_n (i := 0) dX10_heap_207 rfl rfl ?_
                  refine rn_iload dX10_heap_208 rfl ?_
                  refine rn_iload_n (i := 1) dX10_heap_210 rfl rfl ?_
                  refine rn_bipush (v := (20 : Int32)) dX10_heap_211 (by decide) ?_
                  refine rn_aload_n (i := 0) dX10_heap_213 rfl rfl ?_
                  obtain ⟨o88, hx88, m88⟩ := fs_r hf4 39 rfl
                  refine rn_get q4 kg_SGModel_104 ((hn83 _ (ts_ne hq81 hq4 rfl)).trans (hT59.fr hq4 rfl (hT51.fr hq4 rfl hl4))) hx88 dX10_heap_214 ?_
                  refine rn_iload dX10_heap_217 rfl ?_
                  obtain ⟨q89, f89, hq89, hl89, hf89⟩ := ts_ia hS83.1 m88 hk_70
                  refine rs_iald q89 hl89 hf89 rfl r27 (by decide) (by decide) dX10_heap_219 (fun v90 ev90 rv90 => ?_)
                  refine rs_addD (19) (2000) rk_20 rv90 dX10_heap_220 (by decide) (fun v91 ev91 rv91 => ?_)
                  refine rn_callV (a := 0) (b := 0) [.int v43, .int (2200 : Int32), .int v91] kl_SGModel_235 dX10_heap_221 q4 ((hn83 _ (ts_ne hq81 hq4 rfl)).trans (hT59.fr hq4 rfl (hT51.fr hq4 rfl hl4))) rfl (t_X10_move G S w82 hS83.1 o0_ m0_ v43 (2200 : Int32) v91 ⟨by have := rv91.1; have := rv91.2; have := rv90.1; have := rv90.2; have := rk_20.1; have := rk_20.2; have := rk_2200.1; have := rk_2200.2; have := rv43.1; have := rv43.2; have := rv42.1; have := rv42.2; have := r27.1; have := r27.2; have := rk_13200.1; have := rk_13200.2; omega, by have := rv91.1; have := rv91.2; have := rv90.1; have := rv90.2; have := rk_20.1; have := rk_20.2; have := rk_2200.1; have := rk_2200.2; have := rv43.1; have := rv43.2; have := rv42.1; have := rv42.2; have := r27.1; have := r27.2; have := rk_13200.1; have := rk_13200.2; omega, by have := rv91.1; have := rv91.2; have := rv90.1; have := rv90.2; have := rk_20.1; have := rk_20.2; have := rk_2200.1; have := rk_2200.2; have := rv43.1; have := rv43.2; have := rv42.1; have := rv42.2; have := r27.1; have := r27.2; have := rk_13200.1; have := rk_13200.2; omega, by have := rv91.1; have := rv91.2; have := rv90.1; have := rv90.2; have := rk_20.1; have := rk_20.2; have := rk_2200.1; have := rk_2200.2; have := rv43.1; have := rv43.2; have := rv42.1; have := rv42.2; have := r27.1; have := r27.2; have := rk_13200.1; have := rk_13200.2; omega⟩) rfl rfl (Nat.le_of_ble_eq_true rfl) (Nat.le_of_ble_eq_true rfl) (Nat.le_of_ble_eq_true rfl) (Nat.le_of_ble_eq_true rfl) (Nat.le_of_ble_eq_true rfl) (Nat.le_of_ble_eq_true rfl) (fun _ _ h => False.elim h) (fun v9 w92 h93 => ?_)
                  obtain ⟨hT94, rfl, xah93⟩ := h93
                  have hS94 := St.tr hS83 hT94 rfl
                  have fk95 : fK1 4 S ws w92 := fk_fr fk84 hT94 rfl
                  refine rn_stk [] rfl ?_
                  refine rn_aload_n (i := 0) dX10_heap_224 rfl rfl ?_
                  refine rn_iload_n (i := 1) dX10_heap_225 rfl rfl ?_
                  refine rn_iconst (v := (0 : Int32)) dX10_heap_226 (by decide) ?_
                  refine rn_iconst (v := (0 : Int32)) dX10_heap_227 (by decide) ?_
                  refine rn_callV (a := 0) (b := 0) [.int (2200 : Int32), .int (0 : Int32), .int (0 : Int32)] kl_SGModel_239 dX10_heap_228 q4 (hT94.fr hq4 rfl ((hn83 _ (ts_ne hq81 hq4 rfl)).trans (hT59.fr hq4 rfl (hT51.fr hq4 rfl hl4)))) rfl (t_X10_setOffset G S w92 hS94.1 o0_ m0_ (2200 : Int32) (rg_w rk_2200 (by decide) (by decide)) (0 : Int32) (rg_w rk_0 (by decide) (by decide)) (0 : Int32)) rfl rfl (Nat.le_of_ble_eq_true rfl) (Nat.le_of_ble_eq_true rfl) (Nat.le_of_ble_eq_true rfl) (Nat.le_of_ble_eq_true rfl) (Nat.le_of_ble_eq_true rfl) (Nat.le_of_ble_eq_true rfl) (fun _ _ h => False.elim h) (fun v9 w96 h97 => ?_)
                  obtain ⟨hT98, rfl, xah97⟩ := h97
                  have hS98 := St.tr hS94 hT98 rfl
                  have fk99 : fK1 4 S ws w96 := fk_fr fk95 hT98 rfl
                  refine rn_stk [] rfl ?_
                  refine rn_aload_n (i := 0) dX10_heap_231 rfl rfl ?_
                  refine rn_iload_n (i := 1) dX10_heap_232 rfl rfl ?_
                  refine rn_iconst (v := (2 : Int32)) dX10_heap_233 (by decide) ?_
                  refine rn_iadd dX10_heap_234 (rn_topi (2202 : Int32) (by decide) ?_)
                  refine rn_bipush (v := (20 : Int32)) dX10_heap_235 (by decide) ?_
                  refine rn_aload_n (i := 0) dX10_heap_237 rfl rfl ?_
                  refine rn_get q4 kg_SGModel_104 (hT98.fr hq4 rfl (hT94.fr hq4 rfl ((hn83 _ (ts_ne hq81 hq4 rfl)).trans (hT59.fr hq4 rfl (hT51.fr hq4 rfl hl4))))) hx88 dX10_heap_238 ?_
                  refine rn_iload dX10_heap_241 rfl ?_
                  refine rs_iald q89 (hT98.fr hq89 rfl (hT94.fr hq89 rfl hl89)) hf89 rfl r27 (by decide) (by decide) dX10_heap_243 (fun v101 ev101 rv101 => ?_)
                  refine rs_addD (19) (2000) rk_20 rv101 dX10_heap_244 (by decide) (fun v102 ev102 rv102 => ?_)
                  refine rn_callV (a := 0) (b := 0) [.int (2202 : Int32), .int v102] kl_SGModel_144 dX10_heap_245 q4 (hT98.fr hq4 rfl (hT94.fr hq4 rfl ((hn83 _ (ts_ne hq81 hq4 rfl)).trans (hT59.fr hq4 rfl (hT51.fr hq4 rfl hl4))))) rfl (t_X10_putTwo G S w96 hS98.1 o0_ m0_ (2202 : Int32) (rg_w rk_2202 (by decide) (by decide)) v102) rfl rfl (Nat.le_of_ble_eq_true rfl) (Nat.le_of_ble_eq_true rfl) (Nat.le_of_ble_eq_true rfl) (Nat.le_of_ble_eq_true rfl) (Nat.le_of_ble_eq_true rfl) (Nat.le_of_ble_eq_true rfl) (fun _ _ h => False.elim h) (fun v9 w103 h104 => ?_)
                  obtain ⟨hT105, rfl, xah104⟩ := h104
                  have hS105 := St.tr hS98 hT105 rfl
                  have fk106 : fK1 4 S ws w103 := fk_fr fk99 hT105 rfl
                  have ht107 : tw (byt w103) 2202 = v102.toInt := xah104.2 2202 (by decide) (by have := rv102.1; omega) (by have := rv102.2; omega)
                  refine rn_stk [] rfl ?_
                  refine rn_iconst (v := (0 : Int32)) dX10_heap_248 (by decide) ?_
                  exact rn_iret dX10_heap_249 rfl rfl (rq_in ⟨hS105, (0 : Int32), rfl, (rg_w rk_0 (by decide) (by decide)), (fun _ => by rw [ht107]; exact ⟨by have := rv102.1; have := rv102.2; have := rv101.1; have := rv101.2; have := rk_20.1; have := rk_20.2; omega, by have := rv102.1; have := rv102.2; have := rv101.1; have := rv101.2; have := rk_20.1; have := rk_20.2; omega⟩), fk106⟩)
                · have ch78 := cv_eq h78
                  have r108 : Rg (0) (0) v76 := rf_eqx ch78 rv76 rk_0 (by decide) (by decide)
                  refine rn_bipush (v := (7 : Int32)) dX10_heap_196 (by decide) ?_
                  exact rn_iret dX10_heap_198 rfl rfl (rq_in ⟨hS67, (7 : Int32), rfl, (rg_w rk_7 (by decide) (by decide)), (fun h => absurd h (by decide)), fk65⟩)
              · have ch72 := cv_eq h72
                have r109 : Rg (0) (0) v70 := rf_eqx ch72 rv70 rk_0 (by decide) (by decide)
                refine rn_aload_n (i := 0) dX10_heap_175 rfl rfl ?_
                obtain ⟨o110, hx110, m110⟩ := fs_r hf4 39 rfl
                refine rn_get q4 kg_SGModel_104 (hT59.fr hq4 rfl (hT51.fr hq4 rfl hl4)) hx110 dX10_heap_176 ?_
                refine rn_iload dX10_heap_179 rfl ?_
                refine rn_iload dX10_heap_181 rfl ?_
                refine rn_iload dX10_heap_183 rfl ?_
                refine rs_addR (1) (67555) r45 rv34 dX10_heap_185 (by decide) (fun v111 ev111 rv111 => ?_)
                obtain ⟨q112, f112, hq112, hl112, hf112⟩ := ts_ia hS67.1 m110 hk_70
                have r113 : Rg (-1) (1980) v111 := ⟨by have := rv111.1; have := rv111.2; have := rv34.1; have := rv34.2; have := rk_20.1; have := rk_20.2; have := r33.1; have := r33.2; have := r45.1; have := r45.2; have := rv40.1; have := rv40.2; have := rk_8191.1; have := rk_8191.2; have := rv38.1; have := rv38.2; have := rk_8.1; have := rk_8.2; omega, by have := rv111.1; have := rv111.2; have := rv34.1; have := rv34.2; have := rk_20.1; have := rk_20.2; have := r33.1; have := r33.2; have := r45.1; have := r45.2; have := rv40.1; have := rv40.2; have := rk_8191.1; have := rk_8191.2; have := rv38.1; have := rv38.2; have := rk_8.1; have := rk_8.2; omega⟩
                refine rs_iast q112 hS67 hq112 hl112 hf112 hk_70 rfl rfl r27 (by decide) (by decide) r113 dX10_heap_186 (fun w114 f115 hS115 hl115 hf115 hu115 hn115 => ?_)
                have fk116 : fK1 4 S ws w114 := fk_ne fk65 hn115 hq112 rfl
                have ht117 := tw_eq (byt_ne hn115 (ts_ne hq112 hob1 rfl)) ht62
                have ht118 := tw_eq (byt_ne hn115 (ts_ne hq112 hob1 rfl)) ht63
                have ht119 := tw_eq (byt_ne hn115 (ts_ne hq112 hob1 rfl)) ht64
                refine rn_aload_n (i := 0) dX10_heap_187 rfl rfl ?_
                refine rn_iload dX10_heap_188 rfl ?_
                refine rn_callV (a := 0) (b := 0) [.int v17] kl_SGModel_304 dX10_heap_190 q4 ((hn115 _ (ts_ne hq112 hq4 rfl)).trans (hT59.fr hq4 rfl (hT51.fr hq4 rfl hl4))) rfl (t_X10_isFull G S w114 hS115.1 o0_ m0_ v17 r27) rfl rfl (Nat.le_of_ble_eq_true rfl) (Nat.le_of_ble_eq_true rfl) (Nat.le_of_ble_eq_true rfl) (Nat.le_of_ble_eq_true rfl) (Nat.le_of_ble_eq_true rfl) (Nat.le_of_ble_eq_true rfl) (fun _ _ h => False.elim h) (fun v9 w120 h121 => ?_)
                obtain ⟨rfl, v122, rfl, rv122⟩ := h121
                refine rn_stk [.int v122] rfl ?_
                refine rn_if_ne (tgt := 199) dX10_heap_193 (by decide) (fun h124 => ?_) (fun h124 => ?_)
                · have ch124 := cv_ne h124
                  have r125 : Rg (1) (1) v122 := rf_nel ch124 rv122 rk_0 (by decide) (by decide)
                  refine rn_aload_n (i := 0) dX10_heap_199 rfl rfl ?_
                  obtain ⟨o126, hx126, m126⟩ := fs_r hf4 36 rfl
                  refine rn_get q4 kg_SGModel_95 ((hn115 _ (ts_ne hq112 hq4 rfl)).trans (hT59.fr hq4 rfl (hT51.fr hq4 rfl hl4))) hx126 dX10_heap_200 ?_
                  refine rn_iload dX10_heap_203 rfl ?_
                  refine rn_iconst (v := (0 : Int32)) dX10_heap_205 (by decide) ?_
                  obtain ⟨q127, f127, hq127, hl127, hf127⟩ := ts_ia hS115.1 m126 hk_67
                  refine rs_zast q127 hS115 hq127 hl127 hf127 hk_67 rfl rfl r27 (by decide) (by decide) (by decide) (by decide) dX10_heap_206 (fun w128 f129 hS129 hl129 hf129 hu129 hn129 => ?_)
                  have fk130 : fK1 4 S ws w128 := fk_ne fk116 hn129 hq127 rfl
                  have ht131 := tw_eq (byt_ne hn129 (ts_ne hq127 hob1 rfl)) ht117
                  have ht132 := tw_eq (byt_ne hn129 (ts_ne hq127 hob1 rfl)) ht118
                  have ht133 := tw_eq (byt_ne hn129 (ts_ne hq127 hob1 rfl)) ht119
                  refine rn_aload_n (i := 0) dX10_heap_207 rfl rfl ?_
                  refine rn_iload dX10_heap_208 rfl ?_
                  refine rn_iload_n (i := 1) dX10_heap_210 rfl rfl ?_
                  refine rn_bipush (v := (20 : Int32)) dX10_heap_211 (by decide) ?_
                  refine rn_aload_n (i := 0) dX10_heap_213 rfl rfl ?_
                  refine rn_get q4 kg_SGModel_104 ((hn129 _ (ts_ne hq127 hq4 rfl)).trans ((hn115 _ (ts_ne hq112 hq4 rfl)).trans (hT59.fr hq4 rfl (hT51.fr hq4 rfl hl4)))) hx110 dX10_heap_214 ?_
                  refine rn_iload dX10_heap_217 rfl ?_
                  refine rs_iald q112 ((hn129 _ (ts_ne hq127 hq112 rfl)).trans hl115) hf115 rfl r27 (by decide) (by decide) dX10_heap_219 (fun v134 ev134 rv134 => ?_)
                  refine rs_addD (19) (2000) rk_20 rv134 dX10_heap_220 (by decide) (fun v135 ev135 rv135 => ?_)
                  refine rn_callV (a := 0) (b := 0) [.int v43, .int (2200 : Int32), .int v135] kl_SGModel_235 dX10_heap_221 q4 ((hn129 _ (ts_ne hq127 hq4 rfl)).trans ((hn115 _ (ts_ne hq112 hq4 rfl)).trans (hT59.fr hq4 rfl (hT51.fr hq4 rfl hl4)))) rfl (t_X10_move G S w128 hS129.1 o0_ m0_ v43 (2200 : Int32) v135 ⟨by have := rv135.1; have := rv135.2; have := rv134.1; have := rv134.2; have := rk_20.1; have := rk_20.2; have := rk_2200.1; have := rk_2200.2; have := rv43.1; have := rv43.2; have := rv42.1; have := rv42.2; have := r27.1; have := r27.2; have := rk_13200.1; have := rk_13200.2; omega, by have := rv135.1; have := rv135.2; have := rv134.1; have := rv134.2; have := rk_20.1; have := rk_20.2; have := rk_2200.1; have := rk_2200.2; have := rv43.1; have := rv43.2; have := rv42.1; have := rv42.2; have := r27.1; have := r27.2; have := rk_13200.1; have := rk_13200.2; omega, by have := rv135.1; have := rv135.2; have := rv134.1; have := rv134.2; have := rk_20.1; have := rk_20.2; have := rk_2200.1; have := rk_2200.2; have := rv43.1; have := rv43.2; have := rv42.1; have := rv42.2; have := r27.1; have := r27.2; have := rk_13200.1; have := rk_13200.2; omega, by have := rv135.1; have := rv135.2; have := rv134.1; have := rv134.2; have := rk_20.1; have := rk_20.2; have := rk_2200.1; have := rk_2200.2; have := rv43.1; have := rv43.2; have := rv42.1; have := rv42.2; have := r27.1; have := r27.2; have := rk_13200.1; have := rk_13200.2; omega⟩) rfl rfl (Nat.le_of_ble_eq_true rfl) (Nat.le_of_ble_eq_true rfl) (Nat.le_of_ble_eq_true rfl) (Nat.le_of_ble_eq_true rfl) (Nat.le_of_ble_eq_true rfl) (Nat.le_of_ble_eq_true rfl) (fun _ _ h => False.elim h) (fun v9 w136 h137 => ?_)
                  obtain ⟨hT138, rfl, xah137⟩ := h137
                  have hS138 := St.tr hS129 hT138 rfl
                  have fk139 : fK1 4 S ws w136 := fk_fr fk130 hT138 rfl
                  refine rn_stk [] rfl ?_
                  refine rn_aload_n (i := 0) dX10_heap_224 rfl rfl ?_
                  refine rn_iload_n (i := 1) dX10_heap_225 rfl rfl ?_
                  refine rn_iconst (v := (0 : Int32)) dX10_heap_226 (by decide) ?_
                  refine rn_iconst (v := (0 : Int32)) dX10_heap_227 (by decide) ?_
                  refine rn_callV (a := 0) (b := 0) [.int (2200 : Int32), .int (0 : Int32), .int (0 : Int32)] kl_SGModel_239 dX10_heap_228 q4 (hT138.fr hq4 rfl ((hn129 _ (ts_ne hq127 hq4 rfl)).trans ((hn115 _ (ts_ne hq112 hq4 rfl)).trans (hT59.fr hq4 rfl (hT51.fr hq4 rfl hl4))))) rfl (t_X10_setOffset G S w136 hS138.1 o0_ m0_ (2200 : Int32) (rg_w rk_2200 (by decide) (by decide)) (0 : Int32) (rg_w rk_0 (by decide) (by decide)) (0 : Int32)) rfl rfl (Nat.le_of_ble_eq_true rfl) (Nat.le_of_ble_eq_true rfl) (Nat.le_of_ble_eq_true rfl) (Nat.le_of_ble_eq_true rfl) (Nat.le_of_ble_eq_true rfl) (Nat.le_of_ble_eq_true rfl) (fun _ _ h => False.elim h) (fun v9 w140 h141 => ?_)
                  obtain ⟨hT142, rfl, xah141⟩ := h141
                  have hS142 := St.tr hS138 hT142 rfl
                  have fk143 : fK1 4 S ws w140 := fk_fr fk139 hT142 rfl
                  refine rn_stk [] rfl ?_
                  refine rn_aload_n (i := 0) dX10_heap_231 rfl rfl ?_
                  refine rn_iload_n (i := 1) dX10_heap_232 rfl rfl ?_
                  refine rn_iconst (v := (2 : Int32)) dX10_heap_233 (by decide) ?_
                  refine rn_iadd dX10_heap_234 (rn_topi (2202 : Int32) (by decide) ?_)
                  refine rn_bipush (v := (20 : Int32)) dX10_heap_235 (by decide) ?_
                  refine rn_aload_n (i := 0) dX10_heap_237 rfl rfl ?_
                  refine rn_get q4 kg_SGModel_104 (hT142.fr hq4 rfl (hT138.fr hq4 rfl ((hn129 _ (ts_ne hq127 hq4 rfl)).trans ((hn115 _ (ts_ne hq112 hq4 rfl)).trans (hT59.fr hq4 rfl (hT51.fr hq4 rfl hl4)))))) hx110 dX10_heap_238 ?_
                  refine rn_iload dX10_heap_241 rfl ?_
                  refine rs_iald q112 (hT142.fr hq112 rfl (hT138.fr hq112 rfl ((hn129 _ (ts_ne hq127 hq112 rfl)).trans hl115))) hf115 rfl r27 (by decide) (by decide) dX10_heap_243 (fun v145 ev145 rv145 => ?_)
                  refine rs_addD (19) (2000) rk_20 rv145 dX10_heap_244 (by decide) (fun v146 ev146 rv146 => ?_)
                  refine rn_callV (a := 0) (b := 0) [.int (2202 : Int32), .int v146] kl_SGModel_144 dX10_heap_245 q4 (hT142.fr hq4 rfl (hT138.fr hq4 rfl ((hn129 _ (ts_ne hq127 hq4 rfl)).trans ((hn115 _ (ts_ne hq112 hq4 rfl)).trans (hT59.fr hq4 rfl (hT51.fr hq4 rfl hl4)))))) rfl (t_X10_putTwo G S w140 hS142.1 o0_ m0_ (2202 : Int32) (rg_w rk_2202 (by decide) (by decide)) v146) rfl rfl (Nat.le_of_ble_eq_true rfl) (Nat.le_of_ble_eq_true rfl) (Nat.le_of_ble_eq_true rfl) (Nat.le_of_ble_eq_true rfl) (Nat.le_of_ble_eq_true rfl) (Nat.le_of_ble_eq_true rfl) (fun _ _ h => False.elim h) (fun v9 w147 h148 => ?_)
                  obtain ⟨hT149, rfl, xah148⟩ := h148
                  have hS149 := St.tr hS142 hT149 rfl
                  have fk150 : fK1 4 S ws w147 := fk_fr fk143 hT149 rfl
                  have ht151 : tw (byt w147) 2202 = v146.toInt := xah148.2 2202 (by decide) (by have := rv146.1; omega) (by have := rv146.2; omega)
                  refine rn_stk [] rfl ?_
                  refine rn_iconst (v := (0 : Int32)) dX10_heap_248 (by decide) ?_
                  exact rn_iret dX10_heap_249 rfl rfl (rq_in ⟨hS149, (0 : Int32), rfl, (rg_w rk_0 (by decide) (by decide)), (fun _ => by rw [ht151]; exact ⟨by have := rv146.1; have := rv146.2; have := rv145.1; have := rv145.2; have := rk_20.1; have := rk_20.2; omega, by have := rv146.1; have := rv146.2; have := rv145.1; have := rv145.2; have := rk_20.1; have := rk_20.2; omega⟩), fk150⟩)
                · have ch124 := cv_eq h124
                  have r152 : Rg (0) (0) v122 := rf_eqx ch124 rv122 rk_0 (by decide) (by decide)
                  refine rn_bipush (v := (7 : Int32)) dX10_heap_196 (by decide) ?_
                  exact rn_iret dX10_heap_198 rfl rfl (rq_in ⟨hS115, (7 : Int32), rfl, (rg_w rk_7 (by decide) (by decide)), (fun h => absurd h (by decide)), fk116⟩)
            · have ch66 := cv_nle h66
              have r153 : Rg (0) (2026) x56 := rf_ltx ch66 r60 rv34 (by decide)
              have r154 : Rg (1) (2027) v34 := rf_lty ch66 r60 rv34 (by decide)
              refine rn_aload_n (i := 0) dX10_heap_143 rfl rfl ?_
              obtain ⟨o155, hx155, m155⟩ := fs_r hf4 42 rfl
              refine rn_get q4 kg_SGModel_113 (hT59.fr hq4 rfl (hT51.fr hq4 rfl hl4)) hx155 dX10_heap_144 ?_
              refine rn_sipush (v := (1980 : Int32)) dX10_heap_147 (by decide) ?_
              refine rn_iload dX10_heap_150 rfl ?_
              refine rs_mulD (0) (5940) rk_1980 r27 dX10_heap_152 (by decide) (fun v156 ev156 rv156 => ?_)
              refine rn_iload dX10_heap_153 rfl ?_
              refine rs_addR (1) (71468) rv156 r45 dX10_heap_155 (by decide) (fun v157 ev157 rv157 => ?_)
              refine rn_iload dX10_heap_156 rfl ?_
              refine rs_addR (1) (73494) rv157 r153 dX10_heap_158 (by decide) (fun v158 ev158 rv158 => ?_)
              refine rn_iconst (v := (1 : Int32)) dX10_heap_159 (by decide) ?_
              obtain ⟨q159, f159, hq159, hl159, hf159⟩ := ts_ia hT59.1 m155 hk_73
              have r160 : Rg (0) (7919) v158 := ⟨by have := rv158.1; have := rv158.2; have := r153.1; have := r153.2; have := rv157.1; have := rv157.2; have := r45.1; have := r45.2; have := rv40.1; have := rv40.2; have := rk_8191.1; have := rk_8191.2; have := rv38.1; have := rv38.2; have := rk_8.1; have := rk_8.2; have := rv156.1; have := rv156.2; have := r27.1; have := r27.2; have := rk_1980.1; have := rk_1980.2; omega, by have := rv158.1; have := rv158.2; have := r153.1; have := r153.2; have := rv157.1; have := rv157.2; have := r45.1; have := r45.2; have := rv40.1; have := rv40.2; have := rk_8191.1; have := rk_8191.2; have := rv38.1; have := rv38.2; have := rk_8.1; have := rk_8.2; have := rv156.1; have := rv156.2; have := r27.1; have := r27.2; have := rk_1980.1; have := rk_1980.2; omega⟩
              refine rs_zast q159 hT59 hq159 hl159 hf159 hk_73 rfl rfl r160 (by decide) (by decide) (by decide) (by decide) dX10_heap_160 (fun w161 f162 hS162 hl162 hf162 hu162 hn162 => ?_)
              have fk163 : fK1 4 S ws w161 := fk_ne fk65 hn162 hq159 rfl
              have ht164 := tw_eq (byt_ne hn162 (ts_ne hq159 hob1 rfl)) ht62
              have ht165 := tw_eq (byt_ne hn162 (ts_ne hq159 hob1 rfl)) ht63
              have ht166 := tw_eq (byt_ne hn162 (ts_ne hq159 hob1 rfl)) ht64
              refine rs_iinc (1) (2027) dX10_heap_161 rfl (by decide) r153 rk_1 (by decide) (fun v167 => [(0, .ref o0_), (1, .int (2200 : Int32)), (2, .int v7), (3, .int v12), (4, .int v17), (5, .int v34), (6, .int v41), (7, .int v43), (8, .int v167)]) (fun _ => rfl) (fun v167 ev167 rv167 => ?_)
              refine rn_goto (tgt := 136) dX10_heap_164 (by decide) ?_
              refine rn_lv [(0, .ref o0_), (1, .int (2200 : Int32)), (2, .int v7), (3, .int v12), (4, .int v17), (5, .int v34), (6, .int v41), (7, .int v43), (8, .int v167)] rfl ?_
              exact ih _ (lp_inc hm61 ev167 rv167 (by decide)) w161 v167 hS162 (rg_w rv167 (by decide) (by decide)) rfl
        exact LP57 _ w49 (0 : Int32) (St.rf hS51.1) (rg_w rk_0 (by decide) (by decide)) rfl
      · have ch44 := cv_eq h44
        have r168 : Rg (0) (0) v41 := rf_eqx ch44 rv41 rk_0 (by decide) (by decide)
        refine rn_aload_n (i := 0) dX10_heap_106 rfl rfl ?_
        refine rn_iload_n (i := 1) dX10_heap_107 rfl rfl ?_
        refine rn_iload dX10_heap_108 rfl ?_
        refine rn_bipush (v := (20 : Int32)) dX10_heap_110 (by decide) ?_
        refine rn_callV (a := 0) (b := 0) [.int (2200 : Int32), .int v43, .int (20 : Int32)] kl_SGModel_235 dX10_heap_112 q4 hl4 rfl (t_X10_move G S ws hS0.1 o0_ m0_ (2200 : Int32) v43 (20 : Int32) ⟨by have := rk_20.1; have := rk_20.2; have := rv43.1; have := rv43.2; have := rv42.1; have := rv42.2; have := r27.1; have := r27.2; have := rk_2200.1; have := rk_2200.2; have := rk_13200.1; have := rk_13200.2; omega, by have := rk_20.1; have := rk_20.2; have := rv43.1; have := rv43.2; have := rv42.1; have := rv42.2; have := r27.1; have := r27.2; have := rk_2200.1; have := rk_2200.2; have := rk_13200.1; have := rk_13200.2; omega, by have := rk_20.1; have := rk_20.2; have := rv43.1; have := rv43.2; have := rv42.1; have := rv42.2; have := r27.1; have := r27.2; have := rk_2200.1; have := rk_2200.2; have := rk_13200.1; have := rk_13200.2; omega, by have := rk_20.1; have := rk_20.2; have := rv43.1; have := rv43.2; have := rv42.1; have := rv42.2; have := r27.1; have := r27.2; have := rk_2200.1; have := rk_2200.2; have := rk_13200.1; have := rk_13200.2; omega⟩) rfl rfl (Nat.le_of_ble_eq_true rfl) (Nat.le_of_ble_eq_true rfl) (Nat.le_of_ble_eq_true rfl) (Nat.le_of_ble_eq_true rfl) (Nat.le_of_ble_eq_true rfl) (Nat.le_of_ble_eq_true rfl) (fun _ _ h => False.elim h) (fun v9 w169 h170 => ?_)
        obtain ⟨hT171, rfl, xah170⟩ := h170
        have hS171 := St.tr hS0 hT171 rfl
        have ht172 := bsame.keep xah170.1 ht2 (by have := rk_20.1; have := rk_20.2; have := rv43.1; have := rv43.2; have := rv42.1; have := rv42.2; have := r27.1; have := r27.2; have := rk_2200.1; have := rk_2200.2; have := rk_13200.1; have := rk_13200.2; omega)
        have ht173 := bsame.keep xah170.1 ht14 (by have := rk_20.1; have := rk_20.2; have := rv43.1; have := rv43.2; have := rv42.1; have := rv42.2; have := r27.1; have := r27.2; have := rk_2200.1; have := rk_2200.2; have := rk_13200.1; have := rk_13200.2; omega)
        have ht174 := bsame.keep xah170.1 ht23 (by have := rk_20.1; have := rk_20.2; have := rv43.1; have := rv43.2; have := rv42.1; have := rv42.2; have := r27.1; have := r27.2; have := rk_2200.1; have := rk_2200.2; have := rk_13200.1; have := rk_13200.2; omega)
        have fk175 : fK1 4 S ws w169 := fk_fr fk0 hT171 rfl
        refine rn_stk [] rfl ?_
        refine rn_aload_n (i := 0) dX10_heap_115 rfl rfl ?_
        refine rn_iload_n (i := 1) dX10_heap_116 rfl rfl ?_
        refine rn_bipush (v := (20 : Int32)) dX10_heap_117 (by decide) ?_
        refine rn_iadd dX10_heap_119 (rn_topi (2220 : Int32) (by decide) ?_)
        refine rn_iload dX10_heap_120 rfl ?_
        refine rn_bipush (v := (20 : Int32)) dX10_heap_122 (by decide) ?_
        refine rs_addC (13220) (19820) rv43 rk_20 dX10_heap_124 (by decide) (fun v177 ev177 rv177 => ?_)
        refine rn_iload dX10_heap_125 rfl ?_
        refine rs_addR (13220) (19820) rv177 r168 dX10_heap_127 (by decide) (fun v178 ev178 rv178 => ?_)
        refine rn_iload dX10_heap_128 rfl ?_
        refine rn_callV (a := 0) (b := 0) [.int (2220 : Int32), .int v178, .int v34] kl_SGModel_235 dX10_heap_130 q4 (hT171.fr hq4 rfl hl4) rfl (t_X10_move G S w169 hS171.1 o0_ m0_ (2220 : Int32) v178 v34 ⟨by have := rv34.1; have := rv34.2; have := rk_20.1; have := rk_20.2; have := r33.1; have := r33.2; have := rv178.1; have := rv178.2; have := r168.1; have := r168.2; have := rv40.1; have := rv40.2; have := rk_8191.1; have := rk_8191.2; have := rv38.1; have := rv38.2; have := rk_8.1; have := rk_8.2; have := rv177.1; have := rv177.2; have := rv43.1; have := rv43.2; have := rv42.1; have := rv42.2; have := r27.1; have := r27.2; have := rk_2200.1; have := rk_2200.2; have := rk_13200.1; have := rk_13200.2; have := rk_2220.1; have := rk_2220.2; omega, by have := rv34.1; have := rv34.2; have := rk_20.1; have := rk_20.2; have := r33.1; have := r33.2; have := rv178.1; have := rv178.2; have := r168.1; have := r168.2; have := rv40.1; have := rv40.2; have := rk_8191.1; have := rk_8191.2; have := rv38.1; have := rv38.2; have := rk_8.1; have := rk_8.2; have := rv177.1; have := rv177.2; have := rv43.1; have := rv43.2; have := rv42.1; have := rv42.2; have := r27.1; have := r27.2; have := rk_2200.1; have := rk_2200.2; have := rk_13200.1; have := rk_13200.2; have := rk_2220.1; have := rk_2220.2; omega, by have := rv34.1; have := rv34.2; have := rk_20.1; have := rk_20.2; have := r33.1; have := r33.2; have := rv178.1; have := rv178.2; have := r168.1; have := r168.2; have := rv40.1; have := rv40.2; have := rk_8191.1; have := rk_8191.2; have := rv38.1; have := rv38.2; have := rk_8.1; have := rk_8.2; have := rv177.1; have := rv177.2; have := rv43.1; have := rv43.2; have := rv42.1; have := rv42.2; have := r27.1; have := r27.2; have := rk_2200.1; have := rk_2200.2; have := rk_13200.1; have := rk_13200.2; have := rk_2220.1; have := rk_2220.2; omega, by have := rv34.1; have := rv34.2; have := rk_20.1; have := rk_20.2; have := r33.1; have := r33.2; have := rv178.1; have := rv178.2; have := r168.1; have := r168.2; have := rv40.1; have := rv40.2; have := rk_8191.1; have := rk_8191.2; have := rv38.1; have := rv38.2; have := rk_8.1; have := rk_8.2; have := rv177.1; have := rv177.2; have := rv43.1; have := rv43.2; have := rv42.1; have := rv42.2; have := r27.1; have := r27.2; have := rk_2200.1; have := rk_2200.2; have := rk_13200.1; have := rk_13200.2; have := rk_2220.1; have := rk_2220.2; omega⟩) rfl rfl (Nat.le_of_ble_eq_true rfl) (Nat.le_of_ble_eq_true rfl) (Nat.le_of_ble_eq_true rfl) (Nat.le_of_ble_eq_true rfl) (Nat.le_of_ble_eq_true rfl) (Nat.le_of_ble_eq_true rfl) (fun _ _ h => False.elim h) (fun v9 w179 h180 => ?_)
        obtain ⟨hT181, rfl, xah180⟩ := h180
        have hS181 := St.tr hS171 hT181 rfl
        have ht182 := bsame.keep xah180.1 ht172 (by have := rv34.1; have := rv34.2; have := rk_20.1; have := rk_20.2; have := r33.1; have := r33.2; have := rv178.1; have := rv178.2; have := r168.1; have := r168.2; have := rv40.1; have := rv40.2; have := rk_8191.1; have := rk_8191.2; have := rv38.1; have := rv38.2; have := rk_8.1; have := rk_8.2; have := rv177.1; have := rv177.2; have := rv43.1; have := rv43.2; have := rv42.1; have := rv42.2; have := r27.1; have := r27.2; have := rk_2200.1; have := rk_2200.2; have := rk_13200.1; have := rk_13200.2; have := rk_2220.1; have := rk_2220.2; omega)
        have ht183 := bsame.keep xah180.1 ht173 (by have := rv34.1; have := rv34.2; have := rk_20.1; have := rk_20.2; have := r33.1; have := r33.2; have := rv178.1; have := rv178.2; have := r168.1; have := r168.2; have := rv40.1; have := rv40.2; have := rk_8191.1; have := rk_8191.2; have := rv38.1; have := rv38.2; have := rk_8.1; have := rk_8.2; have := rv177.1; have := rv177.2; have := rv43.1; have := rv43.2; have := rv42.1; have := rv42.2; have := r27.1; have := r27.2; have := rk_2200.1; have := rk_2200.2; have := rk_13200.1; have := rk_13200.2; have := rk_2220.1; have := rk_2220.2; omega)
        have ht184 := bsame.keep xah180.1 ht174 (by have := rv34.1; have := rv34.2; have := rk_20.1; have := rk_20.2; have := r33.1; have := r33.2; have := rv178.1; have := rv178.2; have := r168.1; have := r168.2; have := rv40.1; have := rv40.2; have := rk_8191.1; have := rk_8191.2; have := rv38.1; have := rv38.2; have := rk_8.1; have := rk_8.2; have := rv177.1; have := rv177.2; have := rv43.1; have := rv43.2; have := rv42.1; have := rv42.2; have := r27.1; have := r27.2; have := rk_2200.1; have := rk_2200.2; have := rk_13200.1; have := rk_13200.2; have := rk_2220.1; have := rk_2220.2; omega)
        have fk185 : fK1 4 S ws w179 := fk_fr fk175 hT181 rfl
        refine rn_stk [] rfl ?_
        refine rn_iconst (v := (0 : Int32)) dX10_heap_133 (by decide) ?_
        refine rn_istore dX10_heap_134 (by decide) [(0, .ref o0_), (1, .int (2200 : Int32)), (2, .int v7), (3, .int v12), (4, .int v17), (5, .int v34), (6, .int v41), (7, .int v43), (8, .int (0 : Int32))] rfl ?_
        have LP187 : ∀ (n : Nat) (w188 : va_W) (x186 : Int32), St G S [73] w179 S w188 → Rg (0) (2039) x186 → (2039 - x186.toInt).toNat = n → Rn G mX10_heap 3 70 0 0 136 [(0, .ref o0_), (1, .int (2200 : Int32)), (2, .int v7), (3, .int v12), (4, .int v17), (5, .int v34), (6, .int v41), (7, .int v43), (8, .int x186)] [] w188 (q_t_X10_heap_2200 G S ws ) := by
          intro n
          induction n using Nat.strongRecOn with
          | _ n ih =>
            intro w188 x186 hT189 r190 hm191
            have ht192 := tw_eq (byt_fr hS181.1 hT189 rfl) ht182
            have ht193 := tw_eq (byt_fr hS181.1 hT189 rfl) ht183
            have ht194 := tw_eq (byt_fr hS181.1 hT189 rfl) ht184
            have fk195 : fK1 4 S ws w188 := fk_fr fk185 hT189 rfl
            refine rn_iload dX10_heap_136 rfl ?_
            refine rn_iload dX10_heap_138 rfl ?_
            refine rn_icmp_ge (tgt := 167) dX10_heap_140 (by decide) (fun h196 => ?_) (fun h196 => ?_)
            · have ch196 := cv_le h196
              have hS197 := St.tr hS181 hT189 rfl
              refine rn_aload_n (i := 0) dX10_heap_167 rfl rfl ?_
              refine rn_iload_n (i := 1) dX10_heap_168 rfl rfl ?_
              refine rn_callV (a := 0) (b := 0) [.int (2200 : Int32)] kl_SGModel_155 dX10_heap_169 q4 (hT189.fr hq4 rfl (hT181.fr hq4 rfl (hT171.fr hq4 rfl hl4))) rfl (t_X10_hasMore G S w188 hS197.1 o0_ m0_ (2200 : Int32) (rg_w rk_2200 (by decide) (by decide))) rfl rfl (Nat.le_of_ble_eq_true rfl) (Nat.le_of_ble_eq_true rfl) (Nat.le_of_ble_eq_true rfl) (Nat.le_of_ble_eq_true rfl) (Nat.le_of_ble_eq_true rfl) (Nat.le_of_ble_eq_true rfl) (fun _ _ h => False.elim h) (fun v9 w198 h199 => ?_)
              obtain ⟨rfl, v200, rfl, rv200⟩ := h199
              refine rn_stk [.int v200] rfl ?_
              refine rn_if_ne (tgt := 187) dX10_heap_172 (by decide) (fun h202 => ?_) (fun h202 => ?_)
              · have ch202 := cv_ne h202
                have r203 : Rg (1) (1) v200 := rf_nel ch202 rv200 rk_0 (by decide) (by decide)
                refine rn_aload_n (i := 0) dX10_heap_187 rfl rfl ?_
                refine rn_iload dX10_heap_188 rfl ?_
                refine rn_callV (a := 0) (b := 0) [.int v17] kl_SGModel_304 dX10_heap_190 q4 (hT189.fr hq4 rfl (hT181.fr hq4 rfl (hT171.fr hq4 rfl hl4))) rfl (t_X10_isFull G S w188 hS197.1 o0_ m0_ v17 r27) rfl rfl (Nat.le_of_ble_eq_true rfl) (Nat.le_of_ble_eq_true rfl) (Nat.le_of_ble_eq_true rfl) (Nat.le_of_ble_eq_true rfl) (Nat.le_of_ble_eq_true rfl) (Nat.le_of_ble_eq_true rfl) (fun _ _ h => False.elim h) (fun v9 w204 h205 => ?_)
                obtain ⟨rfl, v206, rfl, rv206⟩ := h205
                refine rn_stk [.int v206] rfl ?_
                refine rn_if_ne (tgt := 199) dX10_heap_193 (by decide) (fun h208 => ?_) (fun h208 => ?_)
                · have ch208 := cv_ne h208
                  have r209 : Rg (1) (1) v206 := rf_nel ch208 rv206 rk_0 (by decide) (by decide)
                  refine rn_aload_n (i := 0) dX10_heap_199 rfl rfl ?_
                  obtain ⟨o210, hx210, m210⟩ := fs_r hf4 36 rfl
                  refine rn_get q4 kg_SGModel_95 (hT189.fr hq4 rfl (hT181.fr hq4 rfl (hT171.fr hq4 rfl hl4))) hx210 dX10_heap_200 ?_
                  refine rn_iload dX10_heap_203 rfl ?_
                  refine rn_iconst (v := (0 : Int32)) dX10_heap_205 (by decide) ?_
                  obtain ⟨q211, f211, hq211, hl211, hf211⟩ := ts_ia hS197.1 m210 hk_67
                  refine rs_zast q211 hS197 hq211 hl211 hf211 hk_67 rfl rfl r27 (by decide) (by decide) (by decide) (by decide) dX10_heap_206 (fun w212 f213 hS213 hl213 hf213 hu213 hn213 => ?_)
                  have fk214 : fK1 4 S ws w212 := fk_ne fk195 hn213 hq211 rfl
                  have ht215 := tw_eq (byt_ne hn213 (ts_ne hq211 hob1 rfl)) ht192
                  have ht216 := tw_eq (byt_ne hn213 (ts_ne hq211 hob1 rfl)) ht193
                  have ht217 := tw_eq (byt_ne hn213 (ts_ne hq211 hob1 rfl)) ht194
                  refine rn_aload_n (i := 0) dX10_heap_207 rfl rfl ?_
                  refine rn_iload dX10_heap_208 rfl ?_
                  refine rn_iload_n (i := 1) dX10_heap_210 rfl rfl ?_
                  refine rn_bipush (v := (20 : Int32)) dX10_heap_211 (by decide) ?_
                  refine rn_aload_n (i := 0) dX10_heap_213 rfl rfl ?_
                  obtain ⟨o218, hx218, m218⟩ := fs_r hf4 39 rfl
                  refine rn_get q4 kg_SGModel_104 ((hn213 _ (ts_ne hq211 hq4 rfl)).trans (hT189.fr hq4 rfl (hT181.fr hq4 rfl (hT171.fr hq4 rfl hl4)))) hx218 dX10_heap_214 ?_
                  refine rn_iload dX10_heap_217 rfl ?_
                  obtain ⟨q219, f219, hq219, hl219, hf219⟩ := ts_ia hS213.1 m218 hk_70
                  refine rs_iald q219 hl219 hf219 rfl r27 (by decide) (by decide) dX10_heap_219 (fun v220 ev220 rv220 => ?_)
                  refine rs_addD (19) (2000) rk_20 rv220 dX10_heap_220 (by decide) (fun v221 ev221 rv221 => ?_)
                  refine rn_callV (a := 0) (b := 0) [.int v43, .int (2200 : Int32), .int v221] kl_SGModel_235 dX10_heap_221 q4 ((hn213 _ (ts_ne hq211 hq4 rfl)).trans (hT189.fr hq4 rfl (hT181.fr hq4 rfl (hT171.fr hq4 rfl hl4)))) rfl (t_X10_move G S w212 hS213.1 o0_ m0_ v43 (2200 : Int32) v221 ⟨by have := rv221.1; have := rv221.2; have := rv220.1; have := rv220.2; have := rk_20.1; have := rk_20.2; have := rk_2200.1; have := rk_2200.2; have := rv43.1; have := rv43.2; have := rv42.1; have := rv42.2; have := r27.1; have := r27.2; have := rk_13200.1; have := rk_13200.2; omega, by have := rv221.1; have := rv221.2; have := rv220.1; have := rv220.2; have := rk_20.1; have := rk_20.2; have := rk_2200.1; have := rk_2200.2; have := rv43.1; have := rv43.2; have := rv42.1; have := rv42.2; have := r27.1; have := r27.2; have := rk_13200.1; have := rk_13200.2; omega, by have := rv221.1; have := rv221.2; have := rv220.1; have := rv220.2; have := rk_20.1; have := rk_20.2; have := rk_2200.1; have := rk_2200.2; have := rv43.1; have := rv43.2; have := rv42.1; have := rv42.2; have := r27.1; have := r27.2; have := rk_13200.1; have := rk_13200.2; omega, by have := rv221.1; have := rv221.2; have := rv220.1; have := rv220.2; have := rk_20.1; have := rk_20.2; have := rk_2200.1; have := rk_2200.2; have := rv43.1; have := rv43.2; have := rv42.1; have := rv42.2; have := r27.1; have := r27.2; have := rk_13200.1; have := rk_13200.2; omega⟩) rfl rfl (Nat.le_of_ble_eq_true rfl) (Nat.le_of_ble_eq_true rfl) (Nat.le_of_ble_eq_true rfl) (Nat.le_of_ble_eq_true rfl) (Nat.le_of_ble_eq_true rfl) (Nat.le_of_ble_eq_true rfl) (fun _ _ h => False.elim h) (fun v9 w222 h223 => ?_)
                  obtain ⟨hT224, rfl, xah223⟩ := h223
                  have hS224 := St.tr hS213 hT224 rfl
                  have fk225 : fK1 4 S ws w222 := fk_fr fk214 hT224 rfl
                  refine rn_stk [] rfl ?_
                  refine rn_aload_n (i := 0) dX10_heap_224 rfl rfl ?_
                  refine rn_iload_n (i := 1) dX10_heap_225 rfl rfl ?_
                  refine rn_iconst (v := (0 : Int32)) dX10_heap_226 (by decide) ?_
                  refine rn_iconst (v := (0 : Int32)) dX10_heap_227 (by decide) ?_
                  refine rn_callV (a := 0) (b := 0) [.int (2200 : Int32), .int (0 : Int32), .int (0 : Int32)] kl_SGModel_239 dX10_heap_228 q4 (hT224.fr hq4 rfl ((hn213 _ (ts_ne hq211 hq4 rfl)).trans (hT189.fr hq4 rfl (hT181.fr hq4 rfl (hT171.fr hq4 rfl hl4))))) rfl (t_X10_setOffset G S w222 hS224.1 o0_ m0_ (2200 : Int32) (rg_w rk_2200 (by decide) (by decide)) (0 : Int32) (rg_w rk_0 (by decide) (by decide)) (0 : Int32)) rfl rfl (Nat.le_of_ble_eq_true rfl) (Nat.le_of_ble_eq_true rfl) (Nat.le_of_ble_eq_true rfl) (Nat.le_of_ble_eq_true rfl) (Nat.le_of_ble_eq_true rfl) (Nat.le_of_ble_eq_true rfl) (fun _ _ h => False.elim h) (fun v9 w226 h227 => ?_)
                  obtain ⟨hT228, rfl, xah227⟩ := h227
                  have hS228 := St.tr hS224 hT228 rfl
                  have fk229 : fK1 4 S ws w226 := fk_fr fk225 hT228 rfl
                  refine rn_stk [] rfl ?_
                  refine rn_aload_n (i := 0) dX10_heap_231 rfl rfl ?_
                  refine rn_iload_n (i := 1) dX10_heap_232 rfl rfl ?_
                  refine rn_iconst (v := (2 : Int32)) dX10_heap_233 (by decide) ?_
                  refine rn_iadd dX10_heap_234 (rn_topi (2202 : Int32) (by decide) ?_)
                  refine rn_bipush (v := (20 : Int32)) dX10_heap_235 (by decide) ?_
                  refine rn_aload_n (i := 0) dX10_heap_237 rfl rfl ?_
                  refine rn_get q4 kg_SGModel_104 (hT228.fr hq4 rfl (hT224.fr hq4 rfl ((hn213 _ (ts_ne hq211 hq4 rfl)).trans (hT189.fr hq4 rfl (hT181.fr hq4 rfl (hT171.fr hq4 rfl hl4)))))) hx218 dX10_heap_238 ?_
                  refine rn_iload dX10_heap_241 rfl ?_
                  refine rs_iald q219 (hT228.fr hq219 rfl (hT224.fr hq219 rfl hl219)) hf219 rfl r27 (by decide) (by decide) dX10_heap_243 (fun v231 ev231 rv231 => ?_)
                  refine rs_addD (19) (2000) rk_20 rv231 dX10_heap_244 (by decide) (fun v232 ev232 rv232 => ?_)
                  refine rn_callV (a := 0) (b := 0) [.int (2202 : Int32), .int v232] kl_SGModel_144 dX10_heap_245 q4 (hT228.fr hq4 rfl (hT224.fr hq4 rfl ((hn213 _ (ts_ne hq211 hq4 rfl)).trans (hT189.fr hq4 rfl (hT181.fr hq4 rfl (hT171.fr hq4 rfl hl4)))))) rfl (t_X10_putTwo G S w226 hS228.1 o0_ m0_ (2202 : Int32) (rg_w rk_2202 (by decide) (by decide)) v232) rfl rfl (Nat.le_of_ble_eq_true rfl) (Nat.le_of_ble_eq_true rfl) (Nat.le_of_ble_eq_true rfl) (Nat.le_of_ble_eq_true rfl) (Nat.le_of_ble_eq_true rfl) (Nat.le_of_ble_eq_true rfl) (fun _ _ h => False.elim h) (fun v9 w233 h234 => ?_)
                  obtain ⟨hT235, rfl, xah234⟩ := h234
                  have hS235 := St.tr hS228 hT235 rfl
                  have fk236 : fK1 4 S ws w233 := fk_fr fk229 hT235 rfl
                  have ht237 : tw (byt w233) 2202 = v232.toInt := xah234.2 2202 (by decide) (by have := rv232.1; omega) (by have := rv232.2; omega)
                  refine rn_stk [] rfl ?_
                  refine rn_iconst (v := (0 : Int32)) dX10_heap_248 (by decide) ?_
                  exact rn_iret dX10_heap_249 rfl rfl (rq_in ⟨hS235, (0 : Int32), rfl, (rg_w rk_0 (by decide) (by decide)), (fun _ => by rw [ht237]; exact ⟨by have := rv232.1; have := rv232.2; have := rv231.1; have := rv231.2; have := rk_20.1; have := rk_20.2; omega, by have := rv232.1; have := rv232.2; have := rv231.1; have := rv231.2; have := rk_20.1; have := rk_20.2; omega⟩), fk236⟩)
                · have ch208 := cv_eq h208
                  have r238 : Rg (0) (0) v206 := rf_eqx ch208 rv206 rk_0 (by decide) (by decide)
                  refine rn_bipush (v := (7 : Int32)) dX10_heap_196 (by decide) ?_
                  exact rn_iret dX10_heap_198 rfl rfl (rq_in ⟨hS197, (7 : Int32), rfl, (rg_w rk_7 (by decide) (by decide)), (fun h => absurd h (by decide)), fk195⟩)
              · have ch202 := cv_eq h202
                have r239 : Rg (0) (0) v200 := rf_eqx ch202 rv200 rk_0 (by decide) (by decide)
                refine rn_aload_n (i := 0) dX10_heap_175 rfl rfl ?_
                obtain ⟨o240, hx240, m240⟩ := fs_r hf4 39 rfl
                refine rn_get q4 kg_SGModel_104 (hT189.fr hq4 rfl (hT181.fr hq4 rfl (hT171.fr hq4 rfl hl4))) hx240 dX10_heap_176 ?_
                refine rn_iload dX10_heap_179 rfl ?_
                refine rn_iload dX10_heap_181 rfl ?_
                refine rn_iload dX10_heap_183 rfl ?_
                refine rs_addR (0) (2027) r168 rv34 dX10_heap_185 (by decide) (fun v241 ev241 rv241 => ?_)
                obtain ⟨q242, f242, hq242, hl242, hf242⟩ := ts_ia hS197.1 m240 hk_70
                have r243 : Rg (-1) (1980) v241 := ⟨by have := rv241.1; have := rv241.2; have := rv34.1; have := rv34.2; have := rk_20.1; have := rk_20.2; have := r33.1; have := r33.2; have := r168.1; have := r168.2; have := rv40.1; have := rv40.2; have := rk_8191.1; have := rk_8191.2; have := rv38.1; have := rv38.2; have := rk_8.1; have := rk_8.2; omega, by have := rv241.1; have := rv241.2; have := rv34.1; have := rv34.2; have := rk_20.1; have := rk_20.2; have := r33.1; have := r33.2; have := r168.1; have := r168.2; have := rv40.1; have := rv40.2; have := rk_8191.1; have := rk_8191.2; have := rv38.1; have := rv38.2; have := rk_8.1; have := rk_8.2; omega⟩
                refine rs_iast q242 hS197 hq242 hl242 hf242 hk_70 rfl rfl r27 (by decide) (by decide) r243 dX10_heap_186 (fun w244 f245 hS245 hl245 hf245 hu245 hn245 => ?_)
                have fk246 : fK1 4 S ws w244 := fk_ne fk195 hn245 hq242 rfl
                have ht247 := tw_eq (byt_ne hn245 (ts_ne hq242 hob1 rfl)) ht192
                have ht248 := tw_eq (byt_ne hn245 (ts_ne hq242 hob1 rfl)) ht193
                have ht249 := tw_eq (byt_ne hn245 (ts_ne hq242 hob1 rfl)) ht194
                refine rn_aload_n (i := 0) dX10_heap_187 rfl rfl ?_
                refine rn_iload dX10_heap_188 rfl ?_
                refine rn_callV (a := 0) (b := 0) [.int v17] kl_SGModel_304 dX10_heap_190 q4 ((hn245 _ (ts_ne hq242 hq4 rfl)).trans (hT189.fr hq4 rfl (hT181.fr hq4 rfl (hT171.fr hq4 rfl hl4)))) rfl (t_X10_isFull G S w244 hS245.1 o0_ m0_ v17 r27) rfl rfl (Nat.le_of_ble_eq_true rfl) (Nat.le_of_ble_eq_true rfl) (Nat.le_of_ble_eq_true rfl) (Nat.le_of_ble_eq_true rfl) (Nat.le_of_ble_eq_true rfl) (Nat.le_of_ble_eq_true rfl) (fun _ _ h => False.elim h) (fun v9 w250 h251 => ?_)
                obtain ⟨rfl, v252, rfl, rv252⟩ := h251
                refine rn_stk [.int v252] rfl ?_
                refine rn_if_ne (tgt := 199) dX10_heap_193 (by decide) (fun h254 => ?_) (fun h254 => ?_)
                · have ch254 := cv_ne h254
                  have r255 : Rg (1) (1) v252 := rf_nel ch254 rv252 rk_0 (by decide) (by decide)
                  refine rn_aload_n (i := 0) dX10_heap_199 rfl rfl ?_
                  obtain ⟨o256, hx256, m256⟩ := fs_r hf4 36 rfl
                  refine rn_get q4 kg_SGModel_95 ((hn245 _ (ts_ne hq242 hq4 rfl)).trans (hT189.fr hq4 rfl (hT181.fr hq4 rfl (hT171.fr hq4 rfl hl4)))) hx256 dX10_heap_200 ?_
                  refine rn_iload dX10_heap_203 rfl ?_
                  refine rn_iconst (v := (0 : Int32)) dX10_heap_205 (by decide) ?_
                  obtain ⟨q257, f257, hq257, hl257, hf257⟩ := ts_ia hS245.1 m256 hk_67
                  refine rs_zast q257 hS245 hq257 hl257 hf257 hk_67 rfl rfl r27 (by decide) (by decide) (by decide) (by decide) dX10_heap_206 (fun w258 f259 hS259 hl259 hf259 hu259 hn259 => ?_)
                  have fk260 : fK1 4 S ws w258 := fk_ne fk246 hn259 hq257 rfl
                  have ht261 := tw_eq (byt_ne hn259 (ts_ne hq257 hob1 rfl)) ht247
                  have ht262 := tw_eq (byt_ne hn259 (ts_ne hq257 hob1 rfl)) ht248
                  have ht263 := tw_eq (byt_ne hn259 (ts_ne hq257 hob1 rfl)) ht249
                  refine rn_aload_n (i := 0) dX10_heap_207 rfl rfl ?_
                  refine rn_iload dX10_heap_208 rfl ?_
                  refine rn_iload_n (i := 1) dX10_heap_210 rfl rfl ?_
                  refine rn_bipush (v := (20 : Int32)) dX10_heap_211 (by decide) ?_
                  refine rn_aload_n (i := 0) dX10_heap_213 rfl rfl ?_
                  refine rn_get q4 kg_SGModel_104 ((hn259 _ (ts_ne hq257 hq4 rfl)).trans ((hn245 _ (ts_ne hq242 hq4 rfl)).trans (hT189.fr hq4 rfl (hT181.fr hq4 rfl (hT171.fr hq4 rfl hl4))))) hx240 dX10_heap_214 ?_
                  refine rn_iload dX10_heap_217 rfl ?_
                  refine rs_iald q242 ((hn259 _ (ts_ne hq257 hq242 rfl)).trans hl245) hf245 rfl r27 (by decide) (by decide) dX10_heap_219 (fun v264 ev264 rv264 => ?_)
                  refine rs_addD (19) (2000) rk_20 rv264 dX10_heap_220 (by decide) (fun v265 ev265 rv265 => ?_)
                  refine rn_callV (a := 0) (b := 0) [.int v43, .int (2200 : Int32), .int v265] kl_SGModel_235 dX10_heap_221 q4 ((hn259 _ (ts_ne hq257 hq4 rfl)).trans ((hn245 _ (ts_ne hq242 hq4 rfl)).trans (hT189.fr hq4 rfl (hT181.fr hq4 rfl (hT171.fr hq4 rfl hl4))))) rfl (t_X10_move G S w258 hS259.1 o0_ m0_ v43 (2200 : Int32) v265 ⟨by have := rv265.1; have := rv265.2; have := rv264.1; have := rv264.2; have := rk_20.1; have := rk_20.2; have := rk_2200.1; have := rk_2200.2; have := rv43.1; have := rv43.2; have := rv42.1; have := rv42.2; have := r27.1; have := r27.2; have := rk_13200.1; have := rk_13200.2; omega, by have := rv265.1; have := rv265.2; have := rv264.1; have := rv264.2; have := rk_20.1; have := rk_20.2; have := rk_2200.1; have := rk_2200.2; have := rv43.1; have := rv43.2; have := rv42.1; have := rv42.2; have := r27.1; have := r27.2; have := rk_13200.1; have := rk_13200.2; omega, by have := rv265.1; have := rv265.2; have := rv264.1; have := rv264.2; have := rk_20.1; have := rk_20.2; have := rk_2200.1; have := rk_2200.2; have := rv43.1; have := rv43.2; have := rv42.1; have := rv42.2; have := r27.1; have := r27.2; have := rk_13200.1; have := rk_13200.2; omega, by have := rv265.1; have := rv265.2; have := rv264.1; have := rv264.2; have := rk_20.1; have := rk_20.2; have := rk_2200.1; have := rk_2200.2; have := rv43.1; have := rv43.2; have := rv42.1; have := rv42.2; have := r27.1; have := r27.2; have := rk_13200.1; have := rk_13200.2; omega⟩) rfl rfl (Nat.le_of_ble_eq_true rfl) (Nat.le_of_ble_eq_true rfl) (Nat.le_of_ble_eq_true rfl) (Nat.le_of_ble_eq_true rfl) (Nat.le_of_ble_eq_true rfl) (Nat.le_of_ble_eq_true rfl) (fun _ _ h => False.elim h) (fun v9 w266 h267 => ?_)
                  obtain ⟨hT268, rfl, xah267⟩ := h267
                  have hS268 := St.tr hS259 hT268 rfl
                  have fk269 : fK1 4 S ws w266 := fk_fr fk260 hT268 rfl
                  refine rn_stk [] rfl ?_
                  refine rn_aload_n (i := 0) dX10_heap_224 rfl rfl ?_
                  refine rn_iload_n (i := 1) dX10_heap_225 rfl rfl ?_
                  refine rn_iconst (v := (0 : Int32)) dX10_heap_226 (by decide) ?_
                  refine rn_iconst (v := (0 : Int32)) dX10_heap_227 (by decide) ?_
                  refine rn_callV (a := 0) (b := 0) [.int (2200 : Int32), .int (0 : Int32), .int (0 : Int32)] kl_SGModel_239 dX10_heap_228 q4 (hT268.fr hq4 rfl ((hn259 _ (ts_ne hq257 hq4 rfl)).trans ((hn245 _ (ts_ne hq242 hq4 rfl)).trans (hT189.fr hq4 rfl (hT181.fr hq4 rfl (hT171.fr hq4 rfl hl4)))))) rfl (t_X10_setOffset G S w266 hS268.1 o0_ m0_ (2200 : Int32) (rg_w rk_2200 (by decide) (by decide)) (0 : Int32) (rg_w rk_0 (by decide) (by decide)) (0 : Int32)) rfl rfl (Nat.le_of_ble_eq_true rfl) (Nat.le_of_ble_eq_true rfl) (Nat.le_of_ble_eq_true rfl) (Nat.le_of_ble_eq_true rfl) (Nat.le_of_ble_eq_true rfl) (Nat.le_of_ble_eq_true rfl) (fun _ _ h => False.elim h) (fun v9 w270 h271 => ?_)
                  obtain ⟨hT272, rfl, xah271⟩ := h271
                  have hS272 := St.tr hS268 hT272 rfl
                  have fk273 : fK1 4 S ws w270 := fk_fr fk269 hT272 rfl
                  refine rn_stk [] rfl ?_
                  refine rn_aload_n (i := 0) dX10_heap_231 rfl rfl ?_
                  refine rn_iload_n (i := 1) dX10_heap_232 rfl rfl ?_
                  refine rn_iconst (v := (2 : Int32)) dX10_heap_233 (by decide) ?_
                  refine rn_iadd dX10_heap_234 (rn_topi (2202 : Int32) (by decide) ?_)
                  refine rn_bipush (v := (20 : Int32)) dX10_heap_235 (by decide) ?_
                  refine rn_aload_n (i := 0) dX10_heap_237 rfl rfl ?_
                  refine rn_get q4 kg_SGModel_104 (hT272.fr hq4 rfl (hT268.fr hq4 rfl ((hn259 _ (ts_ne hq257 hq4 rfl)).trans ((hn245 _ (ts_ne hq242 hq4 rfl)).trans (hT189.fr hq4 rfl (hT181.fr hq4 rfl (hT171.fr hq4 rfl hl4))))))) hx240 dX10_heap_238 ?_
                  refine rn_iload dX10_heap_241 rfl ?_
                  refine rs_iald q242 (hT272.fr hq242 rfl (hT268.fr hq242 rfl ((hn259 _ (ts_ne hq257 hq242 rfl)).trans hl245))) hf245 rfl r27 (by decide) (by decide) dX10_heap_243 (fun v275 ev275 rv275 => ?_)
                  refine rs_addD (19) (2000) rk_20 rv275 dX10_heap_244 (by decide) (fun v276 ev276 rv276 => ?_)
                  refine rn_callV (a := 0) (b := 0) [.int (2202 : Int32), .int v276] kl_SGModel_144 dX10_heap_245 q4 (hT272.fr hq4 rfl (hT268.fr hq4 rfl ((hn259 _ (ts_ne hq257 hq4 rfl)).trans ((hn245 _ (ts_ne hq242 hq4 rfl)).trans (hT189.fr hq4 rfl (hT181.fr hq4 rfl (hT171.fr hq4 rfl hl4))))))) rfl (t_X10_putTwo G S w270 hS272.1 o0_ m0_ (2202 : Int32) (rg_w rk_2202 (by decide) (by decide)) v276) rfl rfl (Nat.le_of_ble_eq_true rfl) (Nat.le_of_ble_eq_true rfl) (Nat.le_of_ble_eq_true rfl) (Nat.le_of_ble_eq_true rfl) (Nat.le_of_ble_eq_true rfl) (Nat.le_of_ble_eq_true rfl) (fun _ _ h => False.elim h) (fun v9 w277 h278 => ?_)
                  obtain ⟨hT279, rfl, xah278⟩ := h278
                  have hS279 := St.tr hS272 hT279 rfl
                  have fk280 : fK1 4 S ws w277 := fk_fr fk273 hT279 rfl
                  have ht281 : tw (byt w277) 2202 = v276.toInt := xah278.2 2202 (by decide) (by have := rv276.1; omega) (by have := rv276.2; omega)
                  refine rn_stk [] rfl ?_
                  refine rn_iconst (v := (0 : Int32)) dX10_heap_248 (by decide) ?_
                  exact rn_iret dX10_heap_249 rfl rfl (rq_in ⟨hS279, (0 : Int32), rfl, (rg_w rk_0 (by decide) (by decide)), (fun _ => by rw [ht281]; exact ⟨by have := rv276.1; have := rv276.2; have := rv275.1; have := rv275.2; have := rk_20.1; have := rk_20.2; omega, by have := rv276.1; have := rv276.2; have := rv275.1; have := rv275.2; have := rk_20.1; have := rk_20.2; omega⟩), fk280⟩)
                · have ch254 := cv_eq h254
                  have r282 : Rg (0) (0) v252 := rf_eqx ch254 rv252 rk_0 (by decide) (by decide)
                  refine rn_bipush (v := (7 : Int32)) dX10_heap_196 (by decide) ?_
                  exact rn_iret dX10_heap_198 rfl rfl (rq_in ⟨hS245, (7 : Int32), rfl, (rg_w rk_7 (by decide) (by decide)), (fun h => absurd h (by decide)), fk246⟩)
            · have ch196 := cv_nle h196
              have r283 : Rg (0) (2026) x186 := rf_ltx ch196 r190 rv34 (by decide)
              have r284 : Rg (1) (2027) v34 := rf_lty ch196 r190 rv34 (by decide)
              refine rn_aload_n (i := 0) dX10_heap_143 rfl rfl ?_
              obtain ⟨o285, hx285, m285⟩ := fs_r hf4 42 rfl
              refine rn_get q4 kg_SGModel_113 (hT189.fr hq4 rfl (hT181.fr hq4 rfl (hT171.fr hq4 rfl hl4))) hx285 dX10_heap_144 ?_
              refine rn_sipush (v := (1980 : Int32)) dX10_heap_147 (by decide) ?_
              refine rn_iload dX10_heap_150 rfl ?_
              refine rs_mulD (0) (5940) rk_1980 r27 dX10_heap_152 (by decide) (fun v286 ev286 rv286 => ?_)
              refine rn_iload dX10_heap_153 rfl ?_
              refine rs_addR (0) (5940) rv286 r168 dX10_heap_155 (by decide) (fun v287 ev287 rv287 => ?_)
              refine rn_iload dX10_heap_156 rfl ?_
              refine rs_addR (0) (7966) rv287 r283 dX10_heap_158 (by decide) (fun v288 ev288 rv288 => ?_)
              refine rn_iconst (v := (1 : Int32)) dX10_heap_159 (by decide) ?_
              obtain ⟨q289, f289, hq289, hl289, hf289⟩ := ts_ia hT189.1 m285 hk_73
              have r290 : Rg (0) (7919) v288 := ⟨by have := rv288.1; have := rv288.2; have := r283.1; have := r283.2; have := rv287.1; have := rv287.2; have := r168.1; have := r168.2; have := rv40.1; have := rv40.2; have := rk_8191.1; have := rk_8191.2; have := rv38.1; have := rv38.2; have := rk_8.1; have := rk_8.2; have := rv286.1; have := rv286.2; have := r27.1; have := r27.2; have := rk_1980.1; have := rk_1980.2; omega, by have := rv288.1; have := rv288.2; have := r283.1; have := r283.2; have := rv287.1; have := rv287.2; have := r168.1; have := r168.2; have := rv40.1; have := rv40.2; have := rk_8191.1; have := rk_8191.2; have := rv38.1; have := rv38.2; have := rk_8.1; have := rk_8.2; have := rv286.1; have := rv286.2; have := r27.1; have := r27.2; have := rk_1980.1; have := rk_1980.2; omega⟩
              refine rs_zast q289 hT189 hq289 hl289 hf289 hk_73 rfl rfl r290 (by decide) (by decide) (by decide) (by decide) dX10_heap_160 (fun w291 f292 hS292 hl292 hf292 hu292 hn292 => ?_)
              have fk293 : fK1 4 S ws w291 := fk_ne fk195 hn292 hq289 rfl
              have ht294 := tw_eq (byt_ne hn292 (ts_ne hq289 hob1 rfl)) ht192
              have ht295 := tw_eq (byt_ne hn292 (ts_ne hq289 hob1 rfl)) ht193
              have ht296 := tw_eq (byt_ne hn292 (ts_ne hq289 hob1 rfl)) ht194
              refine rs_iinc (1) (2027) dX10_heap_161 rfl (by decide) r283 rk_1 (by decide) (fun v297 => [(0, .ref o0_), (1, .int (2200 : Int32)), (2, .int v7), (3, .int v12), (4, .int v17), (5, .int v34), (6, .int v41), (7, .int v43), (8, .int v297)]) (fun _ => rfl) (fun v297 ev297 rv297 => ?_)
              refine rn_goto (tgt := 136) dX10_heap_164 (by decide) ?_
              refine rn_lv [(0, .ref o0_), (1, .int (2200 : Int32)), (2, .int v7), (3, .int v12), (4, .int v17), (5, .int v34), (6, .int v41), (7, .int v43), (8, .int v297)] rfl ?_
              exact ih _ (lp_inc hm191 ev297 rv297 (by decide)) w291 v297 hS292 (rg_w rv297 (by decide) (by decide)) rfl
        exact LP187 _ w179 (0 : Int32) (St.rf hS181.1) (rg_w rk_0 (by decide) (by decide)) rfl
    · have ch26 := cv_nle h26
      have r298 : Rg (-1) (-1) v17 := rf_ltx ch26 rv17 rk_0 (by decide)
      refine rn_aload_n (i := 0) dX10_heap_56 rfl rfl ?_
      refine rn_iload_n (i := 2) dX10_heap_57 rfl rfl ?_
      refine rn_iload_n (i := 3) dX10_heap_58 rfl rfl ?_
      refine rn_callV (a := 0) (b := 0) [.int v7, .int v12] kl_SGModel_301 dX10_heap_59 q4 hl4 rfl (t_X10_newHeap G S ws hS0.1 o0_ m0_ v7 v12) rfl rfl (Nat.le_of_ble_eq_true rfl) (Nat.le_of_ble_eq_true rfl) (Nat.le_of_ble_eq_true rfl) (Nat.le_of_ble_eq_true rfl) (Nat.le_of_ble_eq_true rfl) (Nat.le_of_ble_eq_true rfl) (fun _ _ h => False.elim h) (fun v9 w299 h300 => ?_)
      obtain ⟨hT302, v301, rfl, rv301, fkh300⟩ := h300
      have hS302 := St.tr hS0 hT302 rfl
      have ht303 := tw_eq (byt_fr hS0.1 hT302 rfl) ht2
      have ht304 := tw_eq (byt_fr hS0.1 hT302 rfl) ht14
      have ht305 := tw_eq (byt_fr hS0.1 hT302 rfl) ht23
      have fk306 : fK1 4 S ws w299 := fk_tr fk0 fkh300
      refine rn_stk [.int v301] rfl ?_
      refine rn_goto (tgt := 67) dX10_heap_62 (by decide) ?_
      refine rn_istore dX10_heap_67 (by decide) [(0, .ref o0_), (1, .int (2200 : Int32)), (2, .int v7), (3, .int v12), (4, .int v301)] rfl ?_
      refine rn_aload_n (i := 0) dX10_heap_69 rfl rfl ?_
      refine rn_iload_n (i := 1) dX10_heap_70 rfl rfl ?_
      obtain ⟨q307, fs307, hq307, hl307, hf307⟩ := ts_obj hS302.1 m0_ hk_30
      refine rn_inV (d' := 1) (z' := 21) [.int (2200 : Int32)] kl_SGModel_165 dX10_heap_71 q307 hl307 rfl rfl rfl (Nat.le_of_ble_eq_true rfl) (Nat.le_of_ble_eq_true rfl) (Nat.le_of_ble_eq_true rfl) (Nat.le_of_ble_eq_true rfl) ?_
      refine rn_lv [(0, .ref o0_), (1, .int (2200 : Int32))] rfl ?_
      refine rn_aload_n (i := 0) dX10_lengthOf_0 rfl rfl ?_
      refine rn_iload_n (i := 1) dX10_lengthOf_1 rfl rfl ?_
      refine rn_iconst (v := (2 : Int32)) dX10_lengthOf_2 (by decide) ?_
      refine rn_iadd dX10_lengthOf_3 (rn_topi (2202 : Int32) (by decide) ?_)
      refine rn_callV (a := 0) (b := 0) [.int (2202 : Int32)] kl_SGModel_140 dX10_lengthOf_4 q307 hl307 rfl (t_X10_two G S w299 hS302.1 o0_ m0_ (2202 : Int32) (rg_w rk_2202 (by decide) (by decide))) rfl rfl (Nat.le_of_ble_eq_true rfl) (Nat.le_of_ble_eq_true rfl) (Nat.le_of_ble_eq_true rfl) (Nat.le_of_ble_eq_true rfl) (Nat.le_of_ble_eq_true rfl) (Nat.le_of_ble_eq_true rfl) (fun _ _ h => False.elim h) (fun v9 w309 h310 => ?_)
      obtain ⟨rfl, v311, rfl, rv311, xah310⟩ := h310
      have ev311 : v311.toInt = T2 := (xah310 2202 (by decide)).trans ht303
      have r313 : Rg (20) (2047) v311 := ⟨by have := rv311.1; have := rv311.2; omega, by have := rv311.1; have := rv311.2; omega⟩
      refine rn_stk [.int v311] rfl ?_
      refine rn_iret dX10_lengthOf_7 rfl rfl (rq_in ?_)
      refine rn_stk [.int v311] rfl ?_
      refine rn_bipush (v := (20 : Int32)) dX10_heap_74 (by decide) ?_
      refine rs_subC (0) (2027) r313 rk_20 dX10_heap_76 (by decide) (fun v314 ev314 rv314 => ?_)
      refine rn_istore dX10_heap_77 (by decide) [(0, .ref o0_), (1, .int (2200 : Int32)), (2, .int v7), (3, .int v12), (4, .int v301), (5, .int v314)] rfl ?_
      refine rn_bipush (v := (8 : Int32)) dX10_heap_79 (by decide) ?_
      refine rn_aload_n (i := 0) dX10_heap_81 rfl rfl ?_
      refine rn_iload_n (i := 1) dX10_heap_82 rfl rfl ?_
      refine rn_inV (d' := 1) (z' := 21) [.int (2200 : Int32)] kl_SGModel_159 dX10_heap_83 q307 hl307 rfl rfl rfl (Nat.le_of_ble_eq_true rfl) (Nat.le_of_ble_eq_true rfl) (Nat.le_of_ble_eq_true rfl) (Nat.le_of_ble_eq_true rfl) ?_
      refine rn_lv [(0, .ref o0_), (1, .int (2200 : Int32))] rfl ?_
      refine rn_aload_n (i := 0) dX10_offsetOf_0 rfl rfl ?_
      refine rn_iload_n (i := 1) dX10_offsetOf_1 rfl rfl ?_
      refine rn_bipush (v := (6 : Int32)) dX10_offsetOf_2 (by decide) ?_
      refine rn_iadd dX10_offsetOf_4 (rn_topi (2206 : Int32) (by decide) ?_)
      refine rn_callV (a := 0) (b := 0) [.int (2206 : Int32)] kl_SGModel_140 dX10_offsetOf_5 q307 hl307 rfl (t_X10_two G S w299 hS302.1 o0_ m0_ (2206 : Int32) (rg_w rk_2206 (by decide) (by decide))) rfl rfl (Nat.le_of_ble_eq_true rfl) (Nat.le_of_ble_eq_true rfl) (Nat.le_of_ble_eq_true rfl) (Nat.le_of_ble_eq_true rfl) (Nat.le_of_ble_eq_true rfl) (Nat.le_of_ble_eq_true rfl) (fun _ _ h => False.elim h) (fun v9 w316 h317 => ?_)
      obtain ⟨rfl, v318, rfl, rv318, xah317⟩ := h317
      have ev318 : v318.toInt = T23 := (xah317 2206 (by decide)).trans ht305
      refine rn_stk [.int v318] rfl ?_
      refine rn_sipush (v := (8191 : Int32)) dX10_offsetOf_8 (by decide) ?_
      refine rn_iand dX10_offsetOf_11 (rn_nmE (rg_mask (hi := 8191) 13 8192 rfl rv318 rk_8191 (by decide)) (fun v320 ev320 rv320 => ?_))
      have fv320 : v320.toInt = T23 % 8192 := ev320.trans (congrArg (fun z => z % ((8192 : Nat) : Int)) ev318)
      refine rn_iret dX10_offsetOf_12 rfl rfl (rq_in ?_)
      refine rn_stk [.int v320, .int (8 : Int32)] rfl ?_
      refine rs_mulD (0) (65528) rk_8 rv320 dX10_heap_86 (by decide) (fun v321 ev321 rv321 => ?_)
      refine rn_istore dX10_heap_87 (by decide) [(0, .ref o0_), (1, .int (2200 : Int32)), (2, .int v7), (3, .int v12), (4, .int v301), (5, .int v314), (6, .int v321)] rfl ?_
      refine rn_sipush (v := (13200 : Int32)) dX10_heap_89 (by decide) ?_
      refine rn_sipush (v := (2200 : Int32)) dX10_heap_92 (by decide) ?_
      refine rn_iload dX10_heap_95 rfl ?_
      refine rs_mulD (0) (6600) rk_2200 rv301 dX10_heap_97 (by decide) (fun v322 ev322 rv322 => ?_)
      refine rs_addD (13200) (19800) rk_13200 rv322 dX10_heap_98 (by decide) (fun v323 ev323 rv323 => ?_)
      refine rn_istore dX10_heap_99 (by decide) [(0, .ref o0_), (1, .int (2200 : Int32)), (2, .int v7), (3, .int v12), (4, .int v301), (5, .int v314), (6, .int v321), (7, .int v323)] rfl ?_
      refine rn_iload dX10_heap_101 rfl ?_
      refine rn_if_ne (tgt := 115) dX10_heap_103 (by decide) (fun h324 => ?_) (fun h324 => ?_)
      · have ch324 := cv_ne h324
        have r325 : Rg (1) (65528) v321 := rf_nel ch324 rv321 rk_0 (by decide) (by decide)
        refine rn_aload_n (i := 0) dX10_heap_115 rfl rfl ?_
        refine rn_iload_n (i := 1) dX10_heap_116 rfl rfl ?_
        refine rn_bipush (v := (20 : Int32)) dX10_heap_117 (by decide) ?_
        refine rn_iadd dX10_heap_119 (rn_topi (2220 : Int32) (by decide) ?_)
        refine rn_iload dX10_heap_120 rfl ?_
        refine rn_bipush (v := (20 : Int32)) dX10_heap_122 (by decide) ?_
        refine rs_addC (13220) (19820) rv323 rk_20 dX10_heap_124 (by decide) (fun v327 ev327 rv327 => ?_)
        refine rn_iload dX10_heap_125 rfl ?_
        refine rs_addR (13221) (85348) rv327 r325 dX10_heap_127 (by decide) (fun v328 ev328 rv328 => ?_)
        refine rn_iload dX10_heap_128 rfl ?_
        refine rn_callV (a := 0) (b := 0) [.int (2220 : Int32), .int v328, .int v314] kl_SGModel_235 dX10_heap_130 q307 hl307 rfl (t_X10_move G S w299 hS302.1 o0_ m0_ (2220 : Int32) v328 v314 ⟨by have := rv314.1; have := rv314.2; have := rk_20.1; have := rk_20.2; have := r313.1; have := r313.2; have := rv328.1; have := rv328.2; have := r325.1; have := r325.2; have := rv320.1; have := rv320.2; have := rk_8191.1; have := rk_8191.2; have := rv318.1; have := rv318.2; have := rk_8.1; have := rk_8.2; have := rv327.1; have := rv327.2; have := rv323.1; have := rv323.2; have := rv322.1; have := rv322.2; have := rv301.1; have := rv301.2; have := rk_2200.1; have := rk_2200.2; have := rk_13200.1; have := rk_13200.2; have := rk_2220.1; have := rk_2220.2; omega, by have := rv314.1; have := rv314.2; have := rk_20.1; have := rk_20.2; have := r313.1; have := r313.2; have := rv328.1; have := rv328.2; have := r325.1; have := r325.2; have := rv320.1; have := rv320.2; have := rk_8191.1; have := rk_8191.2; have := rv318.1; have := rv318.2; have := rk_8.1; have := rk_8.2; have := rv327.1; have := rv327.2; have := rv323.1; have := rv323.2; have := rv322.1; have := rv322.2; have := rv301.1; have := rv301.2; have := rk_2200.1; have := rk_2200.2; have := rk_13200.1; have := rk_13200.2; have := rk_2220.1; have := rk_2220.2; omega, by have := rv314.1; have := rv314.2; have := rk_20.1; have := rk_20.2; have := r313.1; have := r313.2; have := rv328.1; have := rv328.2; have := r325.1; have := r325.2; have := rv320.1; have := rv320.2; have := rk_8191.1; have := rk_8191.2; have := rv318.1; have := rv318.2; have := rk_8.1; have := rk_8.2; have := rv327.1; have := rv327.2; have := rv323.1; have := rv323.2; have := rv322.1; have := rv322.2; have := rv301.1; have := rv301.2; have := rk_2200.1; have := rk_2200.2; have := rk_13200.1; have := rk_13200.2; have := rk_2220.1; have := rk_2220.2; omega, by have := rv314.1; have := rv314.2; have := rk_20.1; have := rk_20.2; have := r313.1; have := r313.2; have := rv328.1; have := rv328.2; have := r325.1; have := r325.2; have := rv320.1; have := rv320.2; have := rk_8191.1; have := rk_8191.2; have := rv318.1; have := rv318.2; have := rk_8.1; have := rk_8.2; have := rv327.1; have := rv327.2; have := rv323.1; have := rv323.2; have := rv322.1; have := rv322.2; have := rv301.1; have := rv301.2; have := rk_2200.1; have := rk_2200.2; have := rk_13200.1; have := rk_13200.2; have := rk_2220.1; have := rk_2220.2; omega⟩) rfl rfl (Nat.le_of_ble_eq_true rfl) (Nat.le_of_ble_eq_true rfl) (Nat.le_of_ble_eq_true rfl) (Nat.le_of_ble_eq_true rfl) (Nat.le_of_ble_eq_true rfl) (Nat.le_of_ble_eq_true rfl) (fun _ _ h => False.elim h) (fun v9 w329 h330 => ?_)
        obtain ⟨hT331, rfl, xah330⟩ := h330
        have hS331 := St.tr hS302 hT331 rfl
        have ht332 := bsame.keep xah330.1 ht303 (by have := rv314.1; have := rv314.2; have := rk_20.1; have := rk_20.2; have := r313.1; have := r313.2; have := rv328.1; have := rv328.2; have := r325.1; have := r325.2; have := rv320.1; have := rv320.2; have := rk_8191.1; have := rk_8191.2; have := rv318.1; have := rv318.2; have := rk_8.1; have := rk_8.2; have := rv327.1; have := rv327.2; have := rv323.1; have := rv323.2; have := rv322.1; have := rv322.2; have := rv301.1; have := rv301.2; have := rk_2200.1; have := rk_2200.2; have := rk_13200.1; have := rk_13200.2; have := rk_2220.1; have := rk_2220.2; omega)
        have ht333 := bsame.keep xah330.1 ht304 (by have := rv314.1; have := rv314.2; have := rk_20.1; have := rk_20.2; have := r313.1; have := r313.2; have := rv328.1; have := rv328.2; have := r325.1; have := r325.2; have := rv320.1; have := rv320.2; have := rk_8191.1; have := rk_8191.2; have := rv318.1; have := rv318.2; have := rk_8.1; have := rk_8.2; have := rv327.1; have := rv327.2; have := rv323.1; have := rv323.2; have := rv322.1; have := rv322.2; have := rv301.1; have := rv301.2; have := rk_2200.1; have := rk_2200.2; have := rk_13200.1; have := rk_13200.2; have := rk_2220.1; have := rk_2220.2; omega)
        have ht334 := bsame.keep xah330.1 ht305 (by have := rv314.1; have := rv314.2; have := rk_20.1; have := rk_20.2; have := r313.1; have := r313.2; have := rv328.1; have := rv328.2; have := r325.1; have := r325.2; have := rv320.1; have := rv320.2; have := rk_8191.1; have := rk_8191.2; have := rv318.1; have := rv318.2; have := rk_8.1; have := rk_8.2; have := rv327.1; have := rv327.2; have := rv323.1; have := rv323.2; have := rv322.1; have := rv322.2; have := rv301.1; have := rv301.2; have := rk_2200.1; have := rk_2200.2; have := rk_13200.1; have := rk_13200.2; have := rk_2220.1; have := rk_2220.2; omega)
        have fk335 : fK1 4 S ws w329 := fk_fr fk306 hT331 rfl
        refine rn_stk [] rfl ?_
        refine rn_iconst (v := (0 : Int32)) dX10_heap_133 (by decide) ?_
        refine rn_istore dX10_heap_134 (by decide) [(0, .ref o0_), (1, .int (2200 : Int32)), (2, .int v7), (3, .int v12), (4, .int v301), (5, .int v314), (6, .int v321), (7, .int v323), (8, .int (0 : Int32))] rfl ?_
        have LP337 : ∀ (n : Nat) (w338 : va_W) (x336 : Int32), St G S [73] w329 S w338 → Rg (0) (2039) x336 → (2039 - x336.toInt).toNat = n → Rn G mX10_heap 3 70 0 0 136 [(0, .ref o0_), (1, .int (2200 : Int32)), (2, .int v7), (3, .int v12), (4, .int v301), (5, .int v314), (6, .int v321), (7, .int v323), (8, .int x336)] [] w338 (q_t_X10_heap_2200 G S ws ) := by
          intro n
          induction n using Nat.strongRecOn with
          | _ n ih =>
            intro w338 x336 hT339 r340 hm341
            have ht342 := tw_eq (byt_fr hS331.1 hT339 rfl) ht332
            have ht343 := tw_eq (byt_fr hS331.1 hT339 rfl) ht333
            have ht344 := tw_eq (byt_fr hS331.1 hT339 rfl) ht334
            have fk345 : fK1 4 S ws w338 := fk_fr fk335 hT339 rfl
            refine rn_iload dX10_heap_136 rfl ?_
            refine rn_iload dX10_heap_138 rfl ?_
            refine rn_icmp_ge (tgt := 167) dX10_heap_140 (by decide) (fun h346 => ?_) (fun h346 => ?_)
            · have ch346 := cv_le h346
              have hS347 := St.tr hS331 hT339 rfl
              refine rn_aload_n (i := 0) dX10_heap_167 rfl rfl ?_
              refine rn_iload_n (i := 1) dX10_heap_168 rfl rfl ?_
              refine rn_callV (a := 0) (b := 0) [.int (2200 : Int32)] kl_SGModel_155 dX10_heap_169 q307 (hT339.fr hq307 rfl (hT331.fr hq307 rfl hl307)) rfl (t_X10_hasMore G S w338 hS347.1 o0_ m0_ (2200 : Int32) (rg_w rk_2200 (by decide) (by decide))) rfl rfl (Nat.le_of_ble_eq_true rfl) (Nat.le_of_ble_eq_true rfl) (Nat.le_of_ble_eq_true rfl) (Nat.le_of_ble_eq_true rfl) (Nat.le_of_ble_eq_true rfl) (Nat.le_of_ble_eq_true rfl) (fun _ _ h => False.elim h) (fun v9 w348 h349 => ?_)
              obtain ⟨rfl, v350, rfl, rv350⟩ := h349
              refine rn_stk [.int v350] rfl ?_
              refine rn_if_ne (tgt := 187) dX10_heap_172 (by decide) (fun h352 => ?_) (fun h352 => ?_)
              · have ch352 := cv_ne h352
                have r353 : Rg (1) (1) v350 := rf_nel ch352 rv350 rk_0 (by decide) (by decide)
                refine rn_aload_n (i := 0) dX10_heap_187 rfl rfl ?_
                refine rn_iload dX10_heap_188 rfl ?_
                refine rn_callV (a := 0) (b := 0) [.int v301] kl_SGModel_304 dX10_heap_190 q307 (hT339.fr hq307 rfl (hT331.fr hq307 rfl hl307)) rfl (t_X10_isFull G S w338 hS347.1 o0_ m0_ v301 rv301) rfl rfl (Nat.le_of_ble_eq_true rfl) (Nat.le_of_ble_eq_true rfl) (Nat.le_of_ble_eq_true rfl) (Nat.le_of_ble_eq_true rfl) (Nat.le_of_ble_eq_true rfl) (Nat.le_of_ble_eq_true rfl) (fun _ _ h => False.elim h) (fun v9 w354 h355 => ?_)
                obtain ⟨rfl, v356, rfl, rv356⟩ := h355
                refine rn_stk [.int v356] rfl ?_
                refine rn_if_ne (tgt := 199) dX10_heap_193 (by decide) (fun h358 => ?_) (fun h358 => ?_)
                · have ch358 := cv_ne h358
                  have r359 : Rg (1) (1) v356 := rf_nel ch358 rv356 rk_0 (by decide) (by decide)
                  refine rn_aload_n (i := 0) dX10_heap_199 rfl rfl ?_
                  obtain ⟨o360, hx360, m360⟩ := fs_r hf307 36 rfl
                  refine rn_get q307 kg_SGModel_95 (hT339.fr hq307 rfl (hT331.fr hq307 rfl hl307)) hx360 dX10_heap_200 ?_
                  refine rn_iload dX10_heap_203 rfl ?_
                  refine rn_iconst (v := (0 : Int32)) dX10_heap_205 (by decide) ?_
                  obtain ⟨q361, f361, hq361, hl361, hf361⟩ := ts_ia hS347.1 m360 hk_67
                  refine rs_zast q361 hS347 hq361 hl361 hf361 hk_67 rfl rfl rv301 (by decide) (by decide) (by decide) (by decide) dX10_heap_206 (fun w362 f363 hS363 hl363 hf363 hu363 hn363 => ?_)
                  have fk364 : fK1 4 S ws w362 := fk_ne fk345 hn363 hq361 rfl
                  have ht365 := tw_eq (byt_ne hn363 (ts_ne hq361 hob1 rfl)) ht342
                  have ht366 := tw_eq (byt_ne hn363 (ts_ne hq361 hob1 rfl)) ht343
                  have ht367 := tw_eq (byt_ne hn363 (ts_ne hq361 hob1 rfl)) ht344
                  refine rn_aload_n (i := 0) dX10_heap_207 rfl rfl ?_
                  refine rn_iload dX10_heap_208 rfl ?_
                  refine rn_iload_n (i := 1) dX10_heap_210 rfl rfl ?_
                  refine rn_bipush (v := (20 : Int32)) dX10_heap_211 (by decide) ?_
                  refine rn_aload_n (i := 0) dX10_heap_213 rfl rfl ?_
                  obtain ⟨o368, hx368, m368⟩ := fs_r hf307 39 rfl
                  refine rn_get q307 kg_SGModel_104 ((hn363 _ (ts_ne hq361 hq307 rfl)).trans (hT339.fr hq307 rfl (hT331.fr hq307 rfl hl307))) hx368 dX10_heap_214 ?_
                  refine rn_iload dX10_heap_217 rfl ?_
                  obtain ⟨q369, f369, hq369, hl369, hf369⟩ := ts_ia hS363.1 m368 hk_70
                  refine rs_iald q369 hl369 hf369 rfl rv301 (by decide) (by decide) dX10_heap_219 (fun v370 ev370 rv370 => ?_)
                  refine rs_addD (19) (2000) rk_20 rv370 dX10_heap_220 (by decide) (fun v371 ev371 rv371 => ?_)
                  refine rn_callV (a := 0) (b := 0) [.int v323, .int (2200 : Int32), .int v371] kl_SGModel_235 dX10_heap_221 q307 ((hn363 _ (ts_ne hq361 hq307 rfl)).trans (hT339.fr hq307 rfl (hT331.fr hq307 rfl hl307))) rfl (t_X10_move G S w362 hS363.1 o0_ m0_ v323 (2200 : Int32) v371 ⟨by have := rv371.1; have := rv371.2; have := rv370.1; have := rv370.2; have := rk_20.1; have := rk_20.2; have := rk_2200.1; have := rk_2200.2; have := rv323.1; have := rv323.2; have := rv322.1; have := rv322.2; have := rv301.1; have := rv301.2; have := rk_13200.1; have := rk_13200.2; omega, by have := rv371.1; have := rv371.2; have := rv370.1; have := rv370.2; have := rk_20.1; have := rk_20.2; have := rk_2200.1; have := rk_2200.2; have := rv323.1; have := rv323.2; have := rv322.1; have := rv322.2; have := rv301.1; have := rv301.2; have := rk_13200.1; have := rk_13200.2; omega, by have := rv371.1; have := rv371.2; have := rv370.1; have := rv370.2; have := rk_20.1; have := rk_20.2; have := rk_2200.1; have := rk_2200.2; have := rv323.1; have := rv323.2; have := rv322.1; have := rv322.2; have := rv301.1; have := rv301.2; have := rk_13200.1; have := rk_13200.2; omega, by have := rv371.1; have := rv371.2; have := rv370.1; have := rv370.2; have := rk_20.1; have := rk_20.2; have := rk_2200.1; have := rk_2200.2; have := rv323.1; have := rv323.2; have := rv322.1; have := rv322.2; have := rv301.1; have := rv301.2; have := rk_13200.1; have := rk_13200.2; omega⟩) rfl rfl (Nat.le_of_ble_eq_true rfl) (Nat.le_of_ble_eq_true rfl) (Nat.le_of_ble_eq_true rfl) (Nat.le_of_ble_eq_true rfl) (Nat.le_of_ble_eq_true rfl) (Nat.le_of_ble_eq_true rfl) (fun _ _ h => False.elim h) (fun v9 w372 h373 => ?_)
                  obtain ⟨hT374, rfl, xah373⟩ := h373
                  have hS374 := St.tr hS363 hT374 rfl
                  have fk375 : fK1 4 S ws w372 := fk_fr fk364 hT374 rfl
                  refine rn_stk [] rfl ?_
                  refine rn_aload_n (i := 0) dX10_heap_224 rfl rfl ?_
                  refine rn_iload_n (i := 1) dX10_heap_225 rfl rfl ?_
                  refine rn_iconst (v := (0 : Int32)) dX10_heap_226 (by decide) ?_
                  refine rn_iconst (v := (0 : Int32)) dX10_heap_227 (by decide) ?_
                  refine rn_callV (a := 0) (b := 0) [.int (2200 : Int32), .int (0 : Int32), .int (0 : Int32)] kl_SGModel_239 dX10_heap_228 q307 (hT374.fr hq307 rfl ((hn363 _ (ts_ne hq361 hq307 rfl)).trans (hT339.fr hq307 rfl (hT331.fr hq307 rfl hl307)))) rfl (t_X10_setOffset G S w372 hS374.1 o0_ m0_ (2200 : Int32) (rg_w rk_2200 (by decide) (by decide)) (0 : Int32) (rg_w rk_0 (by decide) (by decide)) (0 : Int32)) rfl rfl (Nat.le_of_ble_eq_true rfl) (Nat.le_of_ble_eq_true rfl) (Nat.le_of_ble_eq_true rfl) (Nat.le_of_ble_eq_true rfl) (Nat.le_of_ble_eq_true rfl) (Nat.le_of_ble_eq_true rfl) (fun _ _ h => False.elim h) (fun v9 w376 h377 => ?_)
                  obtain ⟨hT378, rfl, xah377⟩ := h377
                  have hS378 := St.tr hS374 hT378 rfl
                  have fk379 : fK1 4 S ws w376 := fk_fr fk375 hT378 rfl
                  refine rn_stk [] rfl ?_
                  refine rn_aload_n (i := 0) dX10_heap_231 rfl rfl ?_
                  refine rn_iload_n (i := 1) dX10_heap_232 rfl rfl ?_
                  refine rn_iconst (v := (2 : Int32)) dX10_heap_233 (by decide) ?_
                  refine rn_iadd dX10_heap_234 (rn_topi (2202 : Int32) (by decide) ?_)
                  refine rn_bipush (v := (20 : Int32)) dX10_heap_235 (by decide) ?_
                  refine rn_aload_n (i := 0) dX10_heap_237 rfl rfl ?_
                  refine rn_get q307 kg_SGModel_104 (hT378.fr hq307 rfl (hT374.fr hq307 rfl ((hn363 _ (ts_ne hq361 hq307 rfl)).trans (hT339.fr hq307 rfl (hT331.fr hq307 rfl hl307))))) hx368 dX10_heap_238 ?_
                  refine rn_iload dX10_heap_241 rfl ?_
                  refine rs_iald q369 (hT378.fr hq369 rfl (hT374.fr hq369 rfl hl369)) hf369 rfl rv301 (by decide) (by decide) dX10_heap_243 (fun v381 ev381 rv381 => ?_)
                  refine rs_addD (19) (2000) rk_20 rv381 dX10_heap_244 (by decide) (fun v382 ev382 rv382 => ?_)
                  refine rn_callV (a := 0) (b := 0) [.int (2202 : Int32), .int v382] kl_SGModel_144 dX10_heap_245 q307 (hT378.fr hq307 rfl (hT374.fr hq307 rfl ((hn363 _ (ts_ne hq361 hq307 rfl)).trans (hT339.fr hq307 rfl (hT331.fr hq307 rfl hl307))))) rfl (t_X10_putTwo G S w376 hS378.1 o0_ m0_ (2202 : Int32) (rg_w rk_2202 (by decide) (by decide)) v382) rfl rfl (Nat.le_of_ble_eq_true rfl) (Nat.le_of_ble_eq_true rfl) (Nat.le_of_ble_eq_true rfl) (Nat.le_of_ble_eq_true rfl) (Nat.le_of_ble_eq_true rfl) (Nat.le_of_ble_eq_true rfl) (fun _ _ h => False.elim h) (fun v9 w383 h384 => ?_)
                  obtain ⟨hT385, rfl, xah384⟩ := h384
                  have hS385 := St.tr hS378 hT385 rfl
                  have fk386 : fK1 4 S ws w383 := fk_fr fk379 hT385 rfl
                  have ht387 : tw (byt w383) 2202 = v382.toInt := xah384.2 2202 (by decide) (by have := rv382.1; omega) (by have := rv382.2; omega)
                  refine rn_stk [] rfl ?_
                  refine rn_iconst (v := (0 : Int32)) dX10_heap_248 (by decide) ?_
                  exact rn_iret dX10_heap_249 rfl rfl (rq_in ⟨hS385, (0 : Int32), rfl, (rg_w rk_0 (by decide) (by decide)), (fun _ => by rw [ht387]; exact ⟨by have := rv382.1; have := rv382.2; have := rv381.1; have := rv381.2; have := rk_20.1; have := rk_20.2; omega, by have := rv382.1; have := rv382.2; have := rv381.1; have := rv381.2; have := rk_20.1; have := rk_20.2; omega⟩), fk386⟩)
                · have ch358 := cv_eq h358
                  have r388 : Rg (0) (0) v356 := rf_eqx ch358 rv356 rk_0 (by decide) (by decide)
                  refine rn_bipush (v := (7 : Int32)) dX10_heap_196 (by decide) ?_
                  exact rn_iret dX10_heap_198 rfl rfl (rq_in ⟨hS347, (7 : Int32), rfl, (rg_w rk_7 (by decide) (by decide)), (fun h => absurd h (by decide)), fk345⟩)
              · have ch352 := cv_eq h352
                have r389 : Rg (0) (0) v350 := rf_eqx ch352 rv350 rk_0 (by decide) (by decide)
                refine rn_aload_n (i := 0) dX10_heap_175 rfl rfl ?_
                obtain ⟨o390, hx390, m390⟩ := fs_r hf307 39 rfl
                refine rn_get q307 kg_SGModel_104 (hT339.fr hq307 rfl (hT331.fr hq307 rfl hl307)) hx390 dX10_heap_176 ?_
                refine rn_iload dX10_heap_179 rfl ?_
                refine rn_iload dX10_heap_181 rfl ?_
                refine rn_iload dX10_heap_183 rfl ?_
                refine rs_addR (1) (67555) r325 rv314 dX10_heap_185 (by decide) (fun v391 ev391 rv391 => ?_)
                obtain ⟨q392, f392, hq392, hl392, hf392⟩ := ts_ia hS347.1 m390 hk_70
                have r393 : Rg (-1) (1980) v391 := ⟨by have := rv391.1; have := rv391.2; have := rv314.1; have := rv314.2; have := rk_20.1; have := rk_20.2; have := r313.1; have := r313.2; have := r325.1; have := r325.2; have := rv320.1; have := rv320.2; have := rk_8191.1; have := rk_8191.2; have := rv318.1; have := rv318.2; have := rk_8.1; have := rk_8.2; omega, by have := rv391.1; have := rv391.2; have := rv314.1; have := rv314.2; have := rk_20.1; have := rk_20.2; have := r313.1; have := r313.2; have := r325.1; have := r325.2; have := rv320.1; have := rv320.2; have := rk_8191.1; have := rk_8191.2; have := rv318.1; have := rv318.2; have := rk_8.1; have := rk_8.2; omega⟩
                refine rs_iast q392 hS347 hq392 hl392 hf392 hk_70 rfl rfl rv301 (by decide) (by decide) r393 dX10_heap_186 (fun w394 f395 hS395 hl395 hf395 hu395 hn395 => ?_)
                have fk396 : fK1 4 S ws w394 := fk_ne fk345 hn395 hq392 rfl
                have ht397 := tw_eq (byt_ne hn395 (ts_ne hq392 hob1 rfl)) ht342
                have ht398 := tw_eq (byt_ne hn395 (ts_ne hq392 hob1 rfl)) ht343
                have ht399 := tw_eq (byt_ne hn395 (ts_ne hq392 hob1 rfl)) ht344
                refine rn_aload_n (i := 0) dX10_heap_187 rfl rfl ?_
                refine rn_iload dX10_heap_188 rfl ?_
                refine rn_callV (a := 0) (b := 0) [.int v301] kl_SGModel_304 dX10_heap_190 q307 ((hn395 _ (ts_ne hq392 hq307 rfl)).trans (hT339.fr hq307 rfl (hT331.fr hq307 rfl hl307))) rfl (t_X10_isFull G S w394 hS395.1 o0_ m0_ v301 rv301) rfl rfl (Nat.le_of_ble_eq_true rfl) (Nat.le_of_ble_eq_true rfl) (Nat.le_of_ble_eq_true rfl) (Nat.le_of_ble_eq_true rfl) (Nat.le_of_ble_eq_true rfl) (Nat.le_of_ble_eq_true rfl) (fun _ _ h => False.elim h) (fun v9 w400 h401 => ?_)
                obtain ⟨rfl, v402, rfl, rv402⟩ := h401
                refine rn_stk [.int v402] rfl ?_
                refine rn_if_ne (tgt := 199) dX10_heap_193 (by decide) (fun h404 => ?_) (fun h404 => ?_)
                · have ch404 := cv_ne h404
                  have r405 : Rg (1) (1) v402 := rf_nel ch404 rv402 rk_0 (by decide) (by decide)
                  refine rn_aload_n (i := 0) dX10_heap_199 rfl rfl ?_
                  obtain ⟨o406, hx406, m406⟩ := fs_r hf307 36 rfl
                  refine rn_get q307 kg_SGModel_95 ((hn395 _ (ts_ne hq392 hq307 rfl)).trans (hT339.fr hq307 rfl (hT331.fr hq307 rfl hl307))) hx406 dX10_heap_200 ?_
                  refine rn_iload dX10_heap_203 rfl ?_
                  refine rn_iconst (v := (0 : Int32)) dX10_heap_205 (by decide) ?_
                  obtain ⟨q407, f407, hq407, hl407, hf407⟩ := ts_ia hS395.1 m406 hk_67
                  refine rs_zast q407 hS395 hq407 hl407 hf407 hk_67 rfl rfl rv301 (by decide) (by decide) (by decide) (by decide) dX10_heap_206 (fun w408 f409 hS409 hl409 hf409 hu409 hn409 => ?_)
                  have fk410 : fK1 4 S ws w408 := fk_ne fk396 hn409 hq407 rfl
                  have ht411 := tw_eq (byt_ne hn409 (ts_ne hq407 hob1 rfl)) ht397
                  have ht412 := tw_eq (byt_ne hn409 (ts_ne hq407 hob1 rfl)) ht398
                  have ht413 := tw_eq (byt_ne hn409 (ts_ne hq407 hob1 rfl)) ht399
                  refine rn_aload_n (i := 0) dX10_heap_207 rfl rfl ?_
                  refine rn_iload dX10_heap_208 rfl ?_
                  refine rn_iload_n (i := 1) dX10_heap_210 rfl rfl ?_
                  refine rn_bipush (v := (20 : Int32)) dX10_heap_211 (by decide) ?_
                  refine rn_aload_n (i := 0) dX10_heap_213 rfl rfl ?_
                  refine rn_get q307 kg_SGModel_104 ((hn409 _ (ts_ne hq407 hq307 rfl)).trans ((hn395 _ (ts_ne hq392 hq307 rfl)).trans (hT339.fr hq307 rfl (hT331.fr hq307 rfl hl307)))) hx390 dX10_heap_214 ?_
                  refine rn_iload dX10_heap_217 rfl ?_
                  refine rs_iald q392 ((hn409 _ (ts_ne hq407 hq392 rfl)).trans hl395) hf395 rfl rv301 (by decide) (by decide) dX10_heap_219 (fun v414 ev414 rv414 => ?_)
                  refine rs_addD (19) (2000) rk_20 rv414 dX10_heap_220 (by decide) (fun v415 ev415 rv415 => ?_)
                  refine rn_callV (a := 0) (b := 0) [.int v323, .int (2200 : Int32), .int v415] kl_SGModel_235 dX10_heap_221 q307 ((hn409 _ (ts_ne hq407 hq307 rfl)).trans ((hn395 _ (ts_ne hq392 hq307 rfl)).trans (hT339.fr hq307 rfl (hT331.fr hq307 rfl hl307)))) rfl (t_X10_move G S w408 hS409.1 o0_ m0_ v323 (2200 : Int32) v415 ⟨by have := rv415.1; have := rv415.2; have := rv414.1; have := rv414.2; have := rk_20.1; have := rk_20.2; have := rk_2200.1; have := rk_2200.2; have := rv323.1; have := rv323.2; have := rv322.1; have := rv322.2; have := rv301.1; have := rv301.2; have := rk_13200.1; have := rk_13200.2; omega, by have := rv415.1; have := rv415.2; have := rv414.1; have := rv414.2; have := rk_20.1; have := rk_20.2; have := rk_2200.1; have := rk_2200.2; have := rv323.1; have := rv323.2; have := rv322.1; have := rv322.2; have := rv301.1; have := rv301.2; have := rk_13200.1; have := rk_13200.2; omega, by have := rv415.1; have := rv415.2; have := rv414.1; have := rv414.2; have := rk_20.1; have := rk_20.2; have := rk_2200.1; have := rk_2200.2; have := rv323.1; have := rv323.2; have := rv322.1; have := rv322.2; have := rv301.1; have := rv301.2; have := rk_13200.1; have := rk_13200.2; omega, by have := rv415.1; have := rv415.2; have := rv414.1; have := rv414.2; have := rk_20.1; have := rk_20.2; have := rk_2200.1; have := rk_2200.2; have := rv323.1; have := rv323.2; have := rv322.1; have := rv322.2; have := rv301.1; have := rv301.2; have := rk_13200.1; have := rk_13200.2; omega⟩) rfl rfl (Nat.le_of_ble_eq_true rfl) (Nat.le_of_ble_eq_true rfl) (Nat.le_of_ble_eq_true rfl) (Nat.le_of_ble_eq_true rfl) (Nat.le_of_ble_eq_true rfl) (Nat.le_of_ble_eq_true rfl) (fun _ _ h => False.elim h) (fun v9 w416 h417 => ?_)
                  obtain ⟨hT418, rfl, xah417⟩ := h417
                  have hS418 := St.tr hS409 hT418 rfl
                  have fk419 : fK1 4 S ws w416 := fk_fr fk410 hT418 rfl
                  refine rn_stk [] rfl ?_
                  refine rn_aload_n (i := 0) dX10_heap_224 rfl rfl ?_
                  refine rn_iload_n (i := 1) dX10_heap_225 rfl rfl ?_
                  refine rn_iconst (v := (0 : Int32)) dX10_heap_226 (by decide) ?_
                  refine rn_iconst (v := (0 : Int32)) dX10_heap_227 (by decide) ?_
                  refine rn_callV (a := 0) (b := 0) [.int (2200 : Int32), .int (0 : Int32), .int (0 : Int32)] kl_SGModel_239 dX10_heap_228 q307 (hT418.fr hq307 rfl ((hn409 _ (ts_ne hq407 hq307 rfl)).trans ((hn395 _ (ts_ne hq392 hq307 rfl)).trans (hT339.fr hq307 rfl (hT331.fr hq307 rfl hl307))))) rfl (t_X10_setOffset G S w416 hS418.1 o0_ m0_ (2200 : Int32) (rg_w rk_2200 (by decide) (by decide)) (0 : Int32) (rg_w rk_0 (by decide) (by decide)) (0 : Int32)) rfl rfl (Nat.le_of_ble_eq_true rfl) (Nat.le_of_ble_eq_true rfl) (Nat.le_of_ble_eq_true rfl) (Nat.le_of_ble_eq_true rfl) (Nat.le_of_ble_eq_true rfl) (Nat.le_of_ble_eq_true rfl) (fun _ _ h => False.elim h) (fun v9 w420 h421 => ?_)
                  obtain ⟨hT422, rfl, xah421⟩ := h421
                  have hS422 := St.tr hS418 hT422 rfl
                  have fk423 : fK1 4 S ws w420 := fk_fr fk419 hT422 rfl
                  refine rn_stk [] rfl ?_
                  refine rn_aload_n (i := 0) dX10_heap_231 rfl rfl ?_
                  refine rn_iload_n (i := 1) dX10_heap_232 rfl rfl ?_
                  refine rn_iconst (v := (2 : Int32)) dX10_heap_233 (by decide) ?_
                  refine rn_iadd dX10_heap_234 (rn_topi (2202 : Int32) (by decide) ?_)
                  refine rn_bipush (v := (20 : Int32)) dX10_heap_235 (by decide) ?_
                  refine rn_aload_n (i := 0) dX10_heap_237 rfl rfl ?_
                  refine rn_get q307 kg_SGModel_104 (hT422.fr hq307 rfl (hT418.fr hq307 rfl ((hn409 _ (ts_ne hq407 hq307 rfl)).trans ((hn395 _ (ts_ne hq392 hq307 rfl)).trans (hT339.fr hq307 rfl (hT331.fr hq307 rfl hl307)))))) hx390 dX10_heap_238 ?_
                  refine rn_iload dX10_heap_241 rfl ?_
                  refine rs_iald q392 (hT422.fr hq392 rfl (hT418.fr hq392 rfl ((hn409 _ (ts_ne hq407 hq392 rfl)).trans hl395))) hf395 rfl rv301 (by decide) (by decide) dX10_heap_243 (fun v425 ev425 rv425 => ?_)
                  refine rs_addD (19) (2000) rk_20 rv425 dX10_heap_244 (by decide) (fun v426 ev426 rv426 => ?_)
                  refine rn_callV (a := 0) (b := 0) [.int (2202 : Int32), .int v426] kl_SGModel_144 dX10_heap_245 q307 (hT422.fr hq307 rfl (hT418.fr hq307 rfl ((hn409 _ (ts_ne hq407 hq307 rfl)).trans ((hn395 _ (ts_ne hq392 hq307 rfl)).trans (hT339.fr hq307 rfl (hT331.fr hq307 rfl hl307)))))) rfl (t_X10_putTwo G S w420 hS422.1 o0_ m0_ (2202 : Int32) (rg_w rk_2202 (by decide) (by decide)) v426) rfl rfl (Nat.le_of_ble_eq_true rfl) (Nat.le_of_ble_eq_true rfl) (Nat.le_of_ble_eq_true rfl) (Nat.le_of_ble_eq_true rfl) (Nat.le_of_ble_eq_true rfl) (Nat.le_of_ble_eq_true rfl) (fun _ _ h => False.elim h) (fun v9 w427 h428 => ?_)
                  obtain ⟨hT429, rfl, xah428⟩ := h428
                  have hS429 := St.tr hS422 hT429 rfl
                  have fk430 : fK1 4 S ws w427 := fk_fr fk423 hT429 rfl
                  have ht431 : tw (byt w427) 2202 = v426.toInt := xah428.2 2202 (by decide) (by have := rv426.1; omega) (by have := rv426.2; omega)
                  refine rn_stk [] rfl ?_
                  refine rn_iconst (v := (0 : Int32)) dX10_heap_248 (by decide) ?_
                  exact rn_iret dX10_heap_249 rfl rfl (rq_in ⟨hS429, (0 : Int32), rfl, (rg_w rk_0 (by decide) (by decide)), (fun _ => by rw [ht431]; exact ⟨by have := rv426.1; have := rv426.2; have := rv425.1; have := rv425.2; have := rk_20.1; have := rk_20.2; omega, by have := rv426.1; have := rv426.2; have := rv425.1; have := rv425.2; have := rk_20.1; have := rk_20.2; omega⟩), fk430⟩)
                · have ch404 := cv_eq h404
                  have r432 : Rg (0) (0) v402 := rf_eqx ch404 rv402 rk_0 (by decide) (by decide)
                  refine rn_bipush (v := (7 : Int32)) dX10_heap_196 (by decide) ?_
                  exact rn_iret dX10_heap_198 rfl rfl (rq_in ⟨hS395, (7 : Int32), rfl, (rg_w rk_7 (by decide) (by decide)), (fun h => absurd h (by decide)), fk396⟩)
            · have ch346 := cv_nle h346
              have r433 : Rg (0) (2026) x336 := rf_ltx ch346 r340 rv314 (by decide)
              have r434 : Rg (1) (2027) v314 := rf_lty ch346 r340 rv314 (by decide)
              refine rn_aload_n (i := 0) dX10_heap_143 rfl rfl ?_
              obtain ⟨o435, hx435, m435⟩ := fs_r hf307 42 rfl
              refine rn_get q307 kg_SGModel_113 (hT339.fr hq307 rfl (hT331.fr hq307 rfl hl307)) hx435 dX10_heap_144 ?_
              refine rn_sipush (v := (1980 : Int32)) dX10_heap_147 (by decide) ?_
              refine rn_iload dX10_heap_150 rfl ?_
              refine rs_mulD (0) (5940) rk_1980 rv301 dX10_heap_152 (by decide) (fun v436 ev436 rv436 => ?_)
              refine rn_iload dX10_heap_153 rfl ?_
              refine rs_addR (1) (71468) rv436 r325 dX10_heap_155 (by decide) (fun v437 ev437 rv437 => ?_)
              refine rn_iload dX10_heap_156 rfl ?_
              refine rs_addR (1) (73494) rv437 r433 dX10_heap_158 (by decide) (fun v438 ev438 rv438 => ?_)
              refine rn_iconst (v := (1 : Int32)) dX10_heap_159 (by decide) ?_
              obtain ⟨q439, f439, hq439, hl439, hf439⟩ := ts_ia hT339.1 m435 hk_73
              have r440 : Rg (0) (7919) v438 := ⟨by have := rv438.1; have := rv438.2; have := r433.1; have := r433.2; have := rv437.1; have := rv437.2; have := r325.1; have := r325.2; have := rv320.1; have := rv320.2; have := rk_8191.1; have := rk_8191.2; have := rv318.1; have := rv318.2; have := rk_8.1; have := rk_8.2; have := rv436.1; have := rv436.2; have := rv301.1; have := rv301.2; have := rk_1980.1; have := rk_1980.2; omega, by have := rv438.1; have := rv438.2; have := r433.1; have := r433.2; have := rv437.1; have := rv437.2; have := r325.1; have := r325.2; have := rv320.1; have := rv320.2; have := rk_8191.1; have := rk_8191.2; have := rv318.1; have := rv318.2; have := rk_8.1; have := rk_8.2; have := rv436.1; have := rv436.2; have := rv301.1; have := rv301.2; have := rk_1980.1; have := rk_1980.2; omega⟩
              refine rs_zast q439 hT339 hq439 hl439 hf439 hk_73 rfl rfl r440 (by decide) (by decide) (by decide) (by decide) dX10_heap_160 (fun w441 f442 hS442 hl442 hf442 hu442 hn442 => ?_)
              have fk443 : fK1 4 S ws w441 := fk_ne fk345 hn442 hq439 rfl
              have ht444 := tw_eq (byt_ne hn442 (ts_ne hq439 hob1 rfl)) ht342
              have ht445 := tw_eq (byt_ne hn442 (ts_ne hq439 hob1 rfl)) ht343
              have ht446 := tw_eq (byt_ne hn442 (ts_ne hq439 hob1 rfl)) ht344
              refine rs_iinc (1) (2027) dX10_heap_161 rfl (by decide) r433 rk_1 (by decide) (fun v447 => [(0, .ref o0_), (1, .int (2200 : Int32)), (2, .int v7), (3, .int v12), (4, .int v301), (5, .int v314), (6, .int v321), (7, .int v323), (8, .int v447)]) (fun _ => rfl) (fun v447 ev447 rv447 => ?_)
              refine rn_goto (tgt := 136) dX10_heap_164 (by decide) ?_
              refine rn_lv [(0, .ref o0_), (1, .int (2200 : Int32)), (2, .int v7), (3, .int v12), (4, .int v301), (5, .int v314), (6, .int v321), (7, .int v323), (8, .int v447)] rfl ?_
              exact ih _ (lp_inc hm341 ev447 rv447 (by decide)) w441 v447 hS442 (rg_w rv447 (by decide) (by decide)) rfl
        exact LP337 _ w329 (0 : Int32) (St.rf hS331.1) (rg_w rk_0 (by decide) (by decide)) rfl
      · have ch324 := cv_eq h324
        have r448 : Rg (0) (0) v321 := rf_eqx ch324 rv321 rk_0 (by decide) (by decide)
        refine rn_aload_n (i := 0) dX10_heap_106 rfl rfl ?_
        refine rn_iload_n (i := 1) dX10_heap_107 rfl rfl ?_
        refine rn_iload dX10_heap_108 rfl ?_
        refine rn_bipush (v := (20 : Int32)) dX10_heap_110 (by decide) ?_
        refine rn_callV (a := 0) (b := 0) [.int (2200 : Int32), .int v323, .int (20 : Int32)] kl_SGModel_235 dX10_heap_112 q307 hl307 rfl (t_X10_move G S w299 hS302.1 o0_ m0_ (2200 : Int32) v323 (20 : Int32) ⟨by have := rk_20.1; have := rk_20.2; have := rv323.1; have := rv323.2; have := rv322.1; have := rv322.2; have := rv301.1; have := rv301.2; have := rk_2200.1; have := rk_2200.2; have := rk_13200.1; have := rk_13200.2; omega, by have := rk_20.1; have := rk_20.2; have := rv323.1; have := rv323.2; have := rv322.1; have := rv322.2; have := rv301.1; have := rv301.2; have := rk_2200.1; have := rk_2200.2; have := rk_13200.1; have := rk_13200.2; omega, by have := rk_20.1; have := rk_20.2; have := rv323.1; have := rv323.2; have := rv322.1; have := rv322.2; have := rv301.1; have := rv301.2; have := rk_2200.1; have := rk_2200.2; have := rk_13200.1; have := rk_13200.2; omega, by have := rk_20.1; have := rk_20.2; have := rv323.1; have := rv323.2; have := rv322.1; have := rv322.2; have := rv301.1; have := rv301.2; have := rk_2200.1; have := rk_2200.2; have := rk_13200.1; have := rk_13200.2; omega⟩) rfl rfl (Nat.le_of_ble_eq_true rfl) (Nat.le_of_ble_eq_true rfl) (Nat.le_of_ble_eq_true rfl) (Nat.le_of_ble_eq_true rfl) (Nat.le_of_ble_eq_true rfl) (Nat.le_of_ble_eq_true rfl) (fun _ _ h => False.elim h) (fun v9 w449 h450 => ?_)
        obtain ⟨hT451, rfl, xah450⟩ := h450
        have hS451 := St.tr hS302 hT451 rfl
        have ht452 := bsame.keep xah450.1 ht303 (by have := rk_20.1; have := rk_20.2; have := rv323.1; have := rv323.2; have := rv322.1; have := rv322.2; have := rv301.1; have := rv301.2; have := rk_2200.1; have := rk_2200.2; have := rk_13200.1; have := rk_13200.2; omega)
        have ht453 := bsame.keep xah450.1 ht304 (by have := rk_20.1; have := rk_20.2; have := rv323.1; have := rv323.2; have := rv322.1; have := rv322.2; have := rv301.1; have := rv301.2; have := rk_2200.1; have := rk_2200.2; have := rk_13200.1; have := rk_13200.2; omega)
        have ht454 := bsame.keep xah450.1 ht305 (by have := rk_20.1; have := rk_20.2; have := rv323.1; have := rv323.2; have := rv322.1; have := rv322.2; have := rv301.1; have := rv301.2; have := rk_2200.1; have := rk_2200.2; have := rk_13200.1; have := rk_13200.2; omega)
        have fk455 : fK1 4 S ws w449 := fk_fr fk306 hT451 rfl
        refine rn_stk [] rfl ?_
        refine rn_aload_n (i := 0) dX10_heap_115 rfl rfl ?_
        refine rn_iload_n (i := 1) dX10_heap_116 rfl rfl ?_
        refine rn_bipush (v := (20 : Int32)) dX10_heap_117 (by decide) ?_
        refine rn_iadd dX10_heap_119 (rn_topi (2220 : Int32) (by decide) ?_)
        refine rn_iload dX10_heap_120 rfl ?_
        refine rn_bipush (v := (20 : Int32)) dX10_heap_122 (by decide) ?_
        refine rs_addC (13220) (19820) rv323 rk_20 dX10_heap_124 (by decide) (fun v457 ev457 rv457 => ?_)
        refine rn_iload dX10_heap_125 rfl ?_
        refine rs_addR (13220) (19820) rv457 r448 dX10_heap_127 (by decide) (fun v458 ev458 rv458 => ?_)
        refine rn_iload dX10_heap_128 rfl ?_
        refine rn_callV (a := 0) (b := 0) [.int (2220 : Int32), .int v458, .int v314] kl_SGModel_235 dX10_heap_130 q307 (hT451.fr hq307 rfl hl307) rfl (t_X10_move G S w449 hS451.1 o0_ m0_ (2220 : Int32) v458 v314 ⟨by have := rv314.1; have := rv314.2; have := rk_20.1; have := rk_20.2; have := r313.1; have := r313.2; have := rv458.1; have := rv458.2; have := r448.1; have := r448.2; have := rv320.1; have := rv320.2; have := rk_8191.1; have := rk_8191.2; have := rv318.1; have := rv318.2; have := rk_8.1; have := rk_8.2; have := rv457.1; have := rv457.2; have := rv323.1; have := rv323.2; have := rv322.1; have := rv322.2; have := rv301.1; have := rv301.2; have := rk_2200.1; have := rk_2200.2; have := rk_13200.1; have := rk_13200.2; have := rk_2220.1; have := rk_2220.2; omega, by have := rv314.1; have := rv314.2; have := rk_20.1; have := rk_20.2; have := r313.1; have := r313.2; have := rv458.1; have := rv458.2; have := r448.1; have := r448.2; have := rv320.1; have := rv320.2; have := rk_8191.1; have := rk_8191.2; have := rv318.1; have := rv318.2; have := rk_8.1; have := rk_8.2; have := rv457.1; have := rv457.2; have := rv323.1; have := rv323.2; have := rv322.1; have := rv322.2; have := rv301.1; have := rv301.2; have := rk_2200.1; have := rk_2200.2; have := rk_13200.1; have := rk_13200.2; have := rk_2220.1; have := rk_2220.2; omega, by have := rv314.1; have := rv314.2; have := rk_20.1; have := rk_20.2; have := r313.1; have := r313.2; have := rv458.1; have := rv458.2; have := r448.1; have := r448.2; have := rv320.1; have := rv320.2; have := rk_8191.1; have := rk_8191.2; have := rv318.1; have := rv318.2; have := rk_8.1; have := rk_8.2; have := rv457.1; have := rv457.2; have := rv323.1; have := rv323.2; have := rv322.1; have := rv322.2; have := rv301.1; have := rv301.2; have := rk_2200.1; have := rk_2200.2; have := rk_13200.1; have := rk_13200.2; have := rk_2220.1; have := rk_2220.2; omega, by have := rv314.1; have := rv314.2; have := rk_20.1; have := rk_20.2; have := r313.1; have := r313.2; have := rv458.1; have := rv458.2; have := r448.1; have := r448.2; have := rv320.1; have := rv320.2; have := rk_8191.1; have := rk_8191.2; have := rv318.1; have := rv318.2; have := rk_8.1; have := rk_8.2; have := rv457.1; have := rv457.2; have := rv323.1; have := rv323.2; have := rv322.1; have := rv322.2; have := rv301.1; have := rv301.2; have := rk_2200.1; have := rk_2200.2; have := rk_13200.1; have := rk_13200.2; have := rk_2220.1; have := rk_2220.2; omega⟩) rfl rfl (Nat.le_of_ble_eq_true rfl) (Nat.le_of_ble_eq_true rfl) (Nat.le_of_ble_eq_true rfl) (Nat.le_of_ble_eq_true rfl) (Nat.le_of_ble_eq_true rfl) (Nat.le_of_ble_eq_true rfl) (fun _ _ h => False.elim h) (fun v9 w459 h460 => ?_)
        obtain ⟨hT461, rfl, xah460⟩ := h460
        have hS461 := St.tr hS451 hT461 rfl
        have ht462 := bsame.keep xah460.1 ht452 (by have := rv314.1; have := rv314.2; have := rk_20.1; have := rk_20.2; have := r313.1; have := r313.2; have := rv458.1; have := rv458.2; have := r448.1; have := r448.2; have := rv320.1; have := rv320.2; have := rk_8191.1; have := rk_8191.2; have := rv318.1; have := rv318.2; have := rk_8.1; have := rk_8.2; have := rv457.1; have := rv457.2; have := rv323.1; have := rv323.2; have := rv322.1; have := rv322.2; have := rv301.1; have := rv301.2; have := rk_2200.1; have := rk_2200.2; have := rk_13200.1; have := rk_13200.2; have := rk_2220.1; have := rk_2220.2; omega)
        have ht463 := bsame.keep xah460.1 ht453 (by have := rv314.1; have := rv314.2; have := rk_20.1; have := rk_20.2; have := r313.1; have := r313.2; have := rv458.1; have := rv458.2; have := r448.1; have := r448.2; have := rv320.1; have := rv320.2; have := rk_8191.1; have := rk_8191.2; have := rv318.1; have := rv318.2; have := rk_8.1; have := rk_8.2; have := rv457.1; have := rv457.2; have := rv323.1; have := rv323.2; have := rv322.1; have := rv322.2; have := rv301.1; have := rv301.2; have := rk_2200.1; have := rk_2200.2; have := rk_13200.1; have := rk_13200.2; have := rk_2220.1; have := rk_2220.2; omega)
        have ht464 := bsame.keep xah460.1 ht454 (by have := rv314.1; have := rv314.2; have := rk_20.1; have := rk_20.2; have := r313.1; have := r313.2; have := rv458.1; have := rv458.2; have := r448.1; have := r448.2; have := rv320.1; have := rv320.2; have := rk_8191.1; have := rk_8191.2; have := rv318.1; have := rv318.2; have := rk_8.1; have := rk_8.2; have := rv457.1; have := rv457.2; have := rv323.1; have := rv323.2; have := rv322.1; have := rv322.2; have := rv301.1; have := rv301.2; have := rk_2200.1; have := rk_2200.2; have := rk_13200.1; have := rk_13200.2; have := rk_2220.1; have := rk_2220.2; omega)
        have fk465 : fK1 4 S ws w459 := fk_fr fk455 hT461 rfl
        refine rn_stk [] rfl ?_
        refine rn_iconst (v := (0 : Int32)) dX10_heap_133 (by decide) ?_
        refine rn_istore dX10_heap_134 (by decide) [(0, .ref o0_), (1, .int (2200 : Int32)), (2, .int v7), (3, .int v12), (4, .int v301), (5, .int v314), (6, .int v321), (7, .int v323), (8, .int (0 : Int32))] rfl ?_
        have LP467 : ∀ (n : Nat) (w468 : va_W) (x466 : Int32), St G S [73] w459 S w468 → Rg (0) (2039) x466 → (2039 - x466.toInt).toNat = n → Rn G mX10_heap 3 70 0 0 136 [(0, .ref o0_), (1, .int (2200 : Int32)), (2, .int v7), (3, .int v12), (4, .int v301), (5, .int v314), (6, .int v321), (7, .int v323), (8, .int x466)] [] w468 (q_t_X10_heap_2200 G S ws ) := by
          intro n
          induction n using Nat.strongRecOn with
          | _ n ih =>
            intro w468 x466 hT469 r470 hm471
            have ht472 := tw_eq (byt_fr hS461.1 hT469 rfl) ht462
            have ht473 := tw_eq (byt_fr hS461.1 hT469 rfl) ht463
            have ht474 := tw_eq (byt_fr hS461.1 hT469 rfl) ht464
            have fk475 : fK1 4 S ws w468 := fk_fr fk465 hT469 rfl
            refine rn_iload dX10_heap_136 rfl ?_
            refine rn_iload dX10_heap_138 rfl ?_
            refine rn_icmp_ge (tgt := 167) dX10_heap_140 (by decide) (fun h476 => ?_) (fun h476 => ?_)
            · have ch476 := cv_le h476
              have hS477 := St.tr hS461 hT469 rfl
              refine rn_aload_n (i := 0) dX10_heap_167 rfl rfl ?_
              refine rn_iload_n (i := 1) dX10_heap_168 rfl rfl ?_
              refine rn_callV (a := 0) (b := 0) [.int (2200 : Int32)] kl_SGModel_155 dX10_heap_169 q307 (hT469.fr hq307 rfl (hT461.fr hq307 rfl (hT451.fr hq307 rfl hl307))) rfl (t_X10_hasMore G S w468 hS477.1 o0_ m0_ (2200 : Int32) (rg_w rk_2200 (by decide) (by decide))) rfl rfl (Nat.le_of_ble_eq_true rfl) (Nat.le_of_ble_eq_true rfl) (Nat.le_of_ble_eq_true rfl) (Nat.le_of_ble_eq_true rfl) (Nat.le_of_ble_eq_true rfl) (Nat.le_of_ble_eq_true rfl) (fun _ _ h => False.elim h) (fun v9 w478 h479 => ?_)
              obtain ⟨rfl, v480, rfl, rv480⟩ := h479
              refine rn_stk [.int v480] rfl ?_
              refine rn_if_ne (tgt := 187) dX10_heap_172 (by decide) (fun h482 => ?_) (fun h482 => ?_)
              · have ch482 := cv_ne h482
                have r483 : Rg (1) (1) v480 := rf_nel ch482 rv480 rk_0 (by decide) (by decide)
                refine rn_aload_n (i := 0) dX10_heap_187 rfl rfl ?_
                refine rn_iload dX10_heap_188 rfl ?_
                refine rn_callV (a := 0) (b := 0) [.int v301] kl_SGModel_304 dX10_heap_190 q307 (hT469.fr hq307 rfl (hT461.fr hq307 rfl (hT451.fr hq307 rfl hl307))) rfl (t_X10_isFull G S w468 hS477.1 o0_ m0_ v301 rv301) rfl rfl (Nat.le_of_ble_eq_true rfl) (Nat.le_of_ble_eq_true rfl) (Nat.le_of_ble_eq_true rfl) (Nat.le_of_ble_eq_true rfl) (Nat.le_of_ble_eq_true rfl) (Nat.le_of_ble_eq_true rfl) (fun _ _ h => False.elim h) (fun v9 w484 h485 => ?_)
                obtain ⟨rfl, v486, rfl, rv486⟩ := h485
                refine rn_stk [.int v486] rfl ?_
                refine rn_if_ne (tgt := 199) dX10_heap_193 (by decide) (fun h488 => ?_) (fun h488 => ?_)
                · have ch488 := cv_ne h488
                  have r489 : Rg (1) (1) v486 := rf_nel ch488 rv486 rk_0 (by decide) (by decide)
                  refine rn_aload_n (i := 0) dX10_heap_199 rfl rfl ?_
                  obtain ⟨o490, hx490, m490⟩ := fs_r hf307 36 rfl
                  refine rn_get q307 kg_SGModel_95 (hT469.fr hq307 rfl (hT461.fr hq307 rfl (hT451.fr hq307 rfl hl307))) hx490 dX10_heap_200 ?_
                  refine rn_iload dX10_heap_203 rfl ?_
                  refine rn_iconst (v := (0 : Int32)) dX10_heap_205 (by decide) ?_
                  obtain ⟨q491, f491, hq491, hl491, hf491⟩ := ts_ia hS477.1 m490 hk_67
                  refine rs_zast q491 hS477 hq491 hl491 hf491 hk_67 rfl rfl rv301 (by decide) (by decide) (by decide) (by decide) dX10_heap_206 (fun w492 f493 hS493 hl493 hf493 hu493 hn493 => ?_)
                  have fk494 : fK1 4 S ws w492 := fk_ne fk475 hn493 hq491 rfl
                  have ht495 := tw_eq (byt_ne hn493 (ts_ne hq491 hob1 rfl)) ht472
                  have ht496 := tw_eq (byt_ne hn493 (ts_ne hq491 hob1 rfl)) ht473
                  have ht497 := tw_eq (byt_ne hn493 (ts_ne hq491 hob1 rfl)) ht474
                  refine rn_aload_n (i := 0) dX10_heap_207 rfl rfl ?_
                  refine rn_iload dX10_heap_208 rfl ?_
                  refine rn_iload_n (i := 1) dX10_heap_210 rfl rfl ?_
                  refine rn_bipush (v := (20 : Int32)) dX10_heap_211 (by decide) ?_
                  refine rn_aload_n (i := 0) dX10_heap_213 rfl rfl ?_
                  obtain ⟨o498, hx498, m498⟩ := fs_r hf307 39 rfl
                  refine rn_get q307 kg_SGModel_104 ((hn493 _ (ts_ne hq491 hq307 rfl)).trans (hT469.fr hq307 rfl (hT461.fr hq307 rfl (hT451.fr hq307 rfl hl307)))) hx498 dX10_heap_214 ?_
                  refine rn_iload dX10_heap_217 rfl ?_
                  obtain ⟨q499, f499, hq499, hl499, hf499⟩ := ts_ia hS493.1 m498 hk_70
                  refine rs_iald q499 hl499 hf499 rfl rv301 (by decide) (by decide) dX10_heap_219 (fun v500 ev500 rv500 => ?_)
                  refine rs_addD (19) (2000) rk_20 rv500 dX10_heap_220 (by decide) (fun v501 ev501 rv501 => ?_)
                  refine rn_callV (a := 0) (b := 0) [.int v323, .int (2200 : Int32), .int v501] kl_SGModel_235 dX10_heap_221 q307 ((hn493 _ (ts_ne hq491 hq307 rfl)).trans (hT469.fr hq307 rfl (hT461.fr hq307 rfl (hT451.fr hq307 rfl hl307)))) rfl (t_X10_move G S w492 hS493.1 o0_ m0_ v323 (2200 : Int32) v501 ⟨by have := rv501.1; have := rv501.2; have := rv500.1; have := rv500.2; have := rk_20.1; have := rk_20.2; have := rk_2200.1; have := rk_2200.2; have := rv323.1; have := rv323.2; have := rv322.1; have := rv322.2; have := rv301.1; have := rv301.2; have := rk_13200.1; have := rk_13200.2; omega, by have := rv501.1; have := rv501.2; have := rv500.1; have := rv500.2; have := rk_20.1; have := rk_20.2; have := rk_2200.1; have := rk_2200.2; have := rv323.1; have := rv323.2; have := rv322.1; have := rv322.2; have := rv301.1; have := rv301.2; have := rk_13200.1; have := rk_13200.2; omega, by have := rv501.1; have := rv501.2; have := rv500.1; have := rv500.2; have := rk_20.1; have := rk_20.2; have := rk_2200.1; have := rk_2200.2; have := rv323.1; have := rv323.2; have := rv322.1; have := rv322.2; have := rv301.1; have := rv301.2; have := rk_13200.1; have := rk_13200.2; omega, by have := rv501.1; have := rv501.2; have := rv500.1; have := rv500.2; have := rk_20.1; have := rk_20.2; have := rk_2200.1; have := rk_2200.2; have := rv323.1; have := rv323.2; have := rv322.1; have := rv322.2; have := rv301.1; have := rv301.2; have := rk_13200.1; have := rk_13200.2; omega⟩) rfl rfl (Nat.le_of_ble_eq_true rfl) (Nat.le_of_ble_eq_true rfl) (Nat.le_of_ble_eq_true rfl) (Nat.le_of_ble_eq_true rfl) (Nat.le_of_ble_eq_true rfl) (Nat.le_of_ble_eq_true rfl) (fun _ _ h => False.elim h) (fun v9 w502 h503 => ?_)
                  obtain ⟨hT504, rfl, xah503⟩ := h503
                  have hS504 := St.tr hS493 hT504 rfl
                  have fk505 : fK1 4 S ws w502 := fk_fr fk494 hT504 rfl
                  refine rn_stk [] rfl ?_
                  refine rn_aload_n (i := 0) dX10_heap_224 rfl rfl ?_
                  refine rn_iload_n (i := 1) dX10_heap_225 rfl rfl ?_
                  refine rn_iconst (v := (0 : Int32)) dX10_heap_226 (by decide) ?_
                  refine rn_iconst (v := (0 : Int32)) dX10_heap_227 (by decide) ?_
                  refine rn_callV (a := 0) (b := 0) [.int (2200 : Int32), .int (0 : Int32), .int (0 : Int32)] kl_SGModel_239 dX10_heap_228 q307 (hT504.fr hq307 rfl ((hn493 _ (ts_ne hq491 hq307 rfl)).trans (hT469.fr hq307 rfl (hT461.fr hq307 rfl (hT451.fr hq307 rfl hl307))))) rfl (t_X10_setOffset G S w502 hS504.1 o0_ m0_ (2200 : Int32) (rg_w rk_2200 (by decide) (by decide)) (0 : Int32) (rg_w rk_0 (by decide) (by decide)) (0 : Int32)) rfl rfl (Nat.le_of_ble_eq_true rfl) (Nat.le_of_ble_eq_true rfl) (Nat.le_of_ble_eq_true rfl) (Nat.le_of_ble_eq_true rfl) (Nat.le_of_ble_eq_true rfl) (Nat.le_of_ble_eq_true rfl) (fun _ _ h => False.elim h) (fun v9 w506 h507 => ?_)
                  obtain ⟨hT508, rfl, xah507⟩ := h507
                  have hS508 := St.tr hS504 hT508 rfl
                  have fk509 : fK1 4 S ws w506 := fk_fr fk505 hT508 rfl
                  refine rn_stk [] rfl ?_
                  refine rn_aload_n (i := 0) dX10_heap_231 rfl rfl ?_
                  refine rn_iload_n (i := 1) dX10_heap_232 rfl rfl ?_
                  refine rn_iconst (v := (2 : Int32)) dX10_heap_233 (by decide) ?_
                  refine rn_iadd dX10_heap_234 (rn_topi (2202 : Int32) (by decide) ?_)
                  refine rn_bipush (v := (20 : Int32)) dX10_heap_235 (by decide) ?_
                  refine rn_aload_n (i := 0) dX10_heap_237 rfl rfl ?_
                  refine rn_get q307 kg_SGModel_104 (hT508.fr hq307 rfl (hT504.fr hq307 rfl ((hn493 _ (ts_ne hq491 hq307 rfl)).trans (hT469.fr hq307 rfl (hT461.fr hq307 rfl (hT451.fr hq307 rfl hl307)))))) hx498 dX10_heap_238 ?_
                  refine rn_iload dX10_heap_241 rfl ?_
                  refine rs_iald q499 (hT508.fr hq499 rfl (hT504.fr hq499 rfl hl499)) hf499 rfl rv301 (by decide) (by decide) dX10_heap_243 (fun v511 ev511 rv511 => ?_)
                  refine rs_addD (19) (2000) rk_20 rv511 dX10_heap_244 (by decide) (fun v512 ev512 rv512 => ?_)
                  refine rn_callV (a := 0) (b := 0) [.int (2202 : Int32), .int v512] kl_SGModel_144 dX10_heap_245 q307 (hT508.fr hq307 rfl (hT504.fr hq307 rfl ((hn493 _ (ts_ne hq491 hq307 rfl)).trans (hT469.fr hq307 rfl (hT461.fr hq307 rfl (hT451.fr hq307 rfl hl307)))))) rfl (t_X10_putTwo G S w506 hS508.1 o0_ m0_ (2202 : Int32) (rg_w rk_2202 (by decide) (by decide)) v512) rfl rfl (Nat.le_of_ble_eq_true rfl) (Nat.le_of_ble_eq_true rfl) (Nat.le_of_ble_eq_true rfl) (Nat.le_of_ble_eq_true rfl) (Nat.le_of_ble_eq_true rfl) (Nat.le_of_ble_eq_true rfl) (fun _ _ h => False.elim h) (fun v9 w513 h514 => ?_)
                  obtain ⟨hT515, rfl, xah514⟩ := h514
                  have hS515 := St.tr hS508 hT515 rfl
                  have fk516 : fK1 4 S ws w513 := fk_fr fk509 hT515 rfl
                  have ht517 : tw (byt w513) 2202 = v512.toInt := xah514.2 2202 (by decide) (by have := rv512.1; omega) (by have := rv512.2; omega)
                  refine rn_stk [] rfl ?_
                  refine rn_iconst (v := (0 : Int32)) dX10_heap_248 (by decide) ?_
                  exact rn_iret dX10_heap_249 rfl rfl (rq_in ⟨hS515, (0 : Int32), rfl, (rg_w rk_0 (by decide) (by decide)), (fun _ => by rw [ht517]; exact ⟨by have := rv512.1; have := rv512.2; have := rv511.1; have := rv511.2; have := rk_20.1; have := rk_20.2; omega, by have := rv512.1; have := rv512.2; have := rv511.1; have := rv511.2; have := rk_20.1; have := rk_20.2; omega⟩), fk516⟩)
                · have ch488 := cv_eq h488
                  have r518 : Rg (0) (0) v486 := rf_eqx ch488 rv486 rk_0 (by decide) (by decide)
                  refine rn_bipush (v := (7 : Int32)) dX10_heap_196 (by decide) ?_
                  exact rn_iret dX10_heap_198 rfl rfl (rq_in ⟨hS477, (7 : Int32), rfl, (rg_w rk_7 (by decide) (by decide)), (fun h => absurd h (by decide)), fk475⟩)
              · have ch482 := cv_eq h482
                have r519 : Rg (0) (0) v480 := rf_eqx ch482 rv480 rk_0 (by decide) (by decide)
                refine rn_aload_n (i := 0) dX10_heap_175 rfl rfl ?_
                obtain ⟨o520, hx520, m520⟩ := fs_r hf307 39 rfl
                refine rn_get q307 kg_SGModel_104 (hT469.fr hq307 rfl (hT461.fr hq307 rfl (hT451.fr hq307 rfl hl307))) hx520 dX10_heap_176 ?_
                refine rn_iload dX10_heap_179 rfl ?_
                refine rn_iload dX10_heap_181 rfl ?_
                refine rn_iload dX10_heap_183 rfl ?_
                refine rs_addR (0) (2027) r448 rv314 dX10_heap_185 (by decide) (fun v521 ev521 rv521 => ?_)
                obtain ⟨q522, f522, hq522, hl522, hf522⟩ := ts_ia hS477.1 m520 hk_70
                have r523 : Rg (-1) (1980) v521 := ⟨by have := rv521.1; have := rv521.2; have := rv314.1; have := rv314.2; have := rk_20.1; have := rk_20.2; have := r313.1; have := r313.2; have := r448.1; have := r448.2; have := rv320.1; have := rv320.2; have := rk_8191.1; have := rk_8191.2; have := rv318.1; have := rv318.2; have := rk_8.1; have := rk_8.2; omega, by have := rv521.1; have := rv521.2; have := rv314.1; have := rv314.2; have := rk_20.1; have := rk_20.2; have := r313.1; have := r313.2; have := r448.1; have := r448.2; have := rv320.1; have := rv320.2; have := rk_8191.1; have := rk_8191.2; have := rv318.1; have := rv318.2; have := rk_8.1; have := rk_8.2; omega⟩
                refine rs_iast q522 hS477 hq522 hl522 hf522 hk_70 rfl rfl rv301 (by decide) (by decide) r523 dX10_heap_186 (fun w524 f525 hS525 hl525 hf525 hu525 hn525 => ?_)
                have fk526 : fK1 4 S ws w524 := fk_ne fk475 hn525 hq522 rfl
                have ht527 := tw_eq (byt_ne hn525 (ts_ne hq522 hob1 rfl)) ht472
                have ht528 := tw_eq (byt_ne hn525 (ts_ne hq522 hob1 rfl)) ht473
                have ht529 := tw_eq (byt_ne hn525 (ts_ne hq522 hob1 rfl)) ht474
                refine rn_aload_n (i := 0) dX10_heap_187 rfl rfl ?_
                refine rn_iload dX10_heap_188 rfl ?_
                refine rn_callV (a := 0) (b := 0) [.int v301] kl_SGModel_304 dX10_heap_190 q307 ((hn525 _ (ts_ne hq522 hq307 rfl)).trans (hT469.fr hq307 rfl (hT461.fr hq307 rfl (hT451.fr hq307 rfl hl307)))) rfl (t_X10_isFull G S w524 hS525.1 o0_ m0_ v301 rv301) rfl rfl (Nat.le_of_ble_eq_true rfl) (Nat.le_of_ble_eq_true rfl) (Nat.le_of_ble_eq_true rfl) (Nat.le_of_ble_eq_true rfl) (Nat.le_of_ble_eq_true rfl) (Nat.le_of_ble_eq_true rfl) (fun _ _ h => False.elim h) (fun v9 w530 h531 => ?_)
                obtain ⟨rfl, v532, rfl, rv532⟩ := h531
                refine rn_stk [.int v532] rfl ?_
                refine rn_if_ne (tgt := 199) dX10_heap_193 (by decide) (fun h534 => ?_) (fun h534 => ?_)
                · have ch534 := cv_ne h534
                  have r535 : Rg (1) (1) v532 := rf_nel ch534 rv532 rk_0 (by decide) (by decide)
                  refine rn_aload_n (i := 0) dX10_heap_199 rfl rfl ?_
                  obtain ⟨o536, hx536, m536⟩ := fs_r hf307 36 rfl
                  refine rn_get q307 kg_SGModel_95 ((hn525 _ (ts_ne hq522 hq307 rfl)).trans (hT469.fr hq307 rfl (hT461.fr hq307 rfl (hT451.fr hq307 rfl hl307)))) hx536 dX10_heap_200 ?_
                  refine rn_iload dX10_heap_203 rfl ?_
                  refine rn_iconst (v := (0 : Int32)) dX10_heap_205 (by decide) ?_
                  obtain ⟨q537, f537, hq537, hl537, hf537⟩ := ts_ia hS525.1 m536 hk_67
                  refine rs_zast q537 hS525 hq537 hl537 hf537 hk_67 rfl rfl rv301 (by decide) (by decide) (by decide) (by decide) dX10_heap_206 (fun w538 f539 hS539 hl539 hf539 hu539 hn539 => ?_)
                  have fk540 : fK1 4 S ws w538 := fk_ne fk526 hn539 hq537 rfl
                  have ht541 := tw_eq (byt_ne hn539 (ts_ne hq537 hob1 rfl)) ht527
                  have ht542 := tw_eq (byt_ne hn539 (ts_ne hq537 hob1 rfl)) ht528
                  have ht543 := tw_eq (byt_ne hn539 (ts_ne hq537 hob1 rfl)) ht529
                  refine rn_aload_n (i := 0) dX10_heap_207 rfl rfl ?_
                  refine rn_iload dX10_heap_208 rfl ?_
                  refine rn_iload_n (i := 1) dX10_heap_210 rfl rfl ?_
                  refine rn_bipush (v := (20 : Int32)) dX10_heap_211 (by decide) ?_
                  refine rn_aload_n (i := 0) dX10_heap_213 rfl rfl ?_
                  refine rn_get q307 kg_SGModel_104 ((hn539 _ (ts_ne hq537 hq307 rfl)).trans ((hn525 _ (ts_ne hq522 hq307 rfl)).trans (hT469.fr hq307 rfl (hT461.fr hq307 rfl (hT451.fr hq307 rfl hl307))))) hx520 dX10_heap_214 ?_
                  refine rn_iload dX10_heap_217 rfl ?_
                  refine rs_iald q522 ((hn539 _ (ts_ne hq537 hq522 rfl)).trans hl525) hf525 rfl rv301 (by decide) (by decide) dX10_heap_219 (fun v544 ev544 rv544 => ?_)
                  refine rs_addD (19) (2000) rk_20 rv544 dX10_heap_220 (by decide) (fun v545 ev545 rv545 => ?_)
                  refine rn_callV (a := 0) (b := 0) [.int v323, .int (2200 : Int32), .int v545] kl_SGModel_235 dX10_heap_221 q307 ((hn539 _ (ts_ne hq537 hq307 rfl)).trans ((hn525 _ (ts_ne hq522 hq307 rfl)).trans (hT469.fr hq307 rfl (hT461.fr hq307 rfl (hT451.fr hq307 rfl hl307))))) rfl (t_X10_move G S w538 hS539.1 o0_ m0_ v323 (2200 : Int32) v545 ⟨by have := rv545.1; have := rv545.2; have := rv544.1; have := rv544.2; have := rk_20.1; have := rk_20.2; have := rk_2200.1; have := rk_2200.2; have := rv323.1; have := rv323.2; have := rv322.1; have := rv322.2; have := rv301.1; have := rv301.2; have := rk_13200.1; have := rk_13200.2; omega, by have := rv545.1; have := rv545.2; have := rv544.1; have := rv544.2; have := rk_20.1; have := rk_20.2; have := rk_2200.1; have := rk_2200.2; have := rv323.1; have := rv323.2; have := rv322.1; have := rv322.2; have := rv301.1; have := rv301.2; have := rk_13200.1; have := rk_13200.2; omega, by have := rv545.1; have := rv545.2; have := rv544.1; have := rv544.2; have := rk_20.1; have := rk_20.2; have := rk_2200.1; have := rk_2200.2; have := rv323.1; have := rv323.2; have := rv322.1; have := rv322.2; have := rv301.1; have := rv301.2; have := rk_13200.1; have := rk_13200.2; omega, by have := rv545.1; have := rv545.2; have := rv544.1; have := rv544.2; have := rk_20.1; have := rk_20.2; have := rk_2200.1; have := rk_2200.2; have := rv323.1; have := rv323.2; have := rv322.1; have := rv322.2; have := rv301.1; have := rv301.2; have := rk_13200.1; have := rk_13200.2; omega⟩) rfl rfl (Nat.le_of_ble_eq_true rfl) (Nat.le_of_ble_eq_true rfl) (Nat.le_of_ble_eq_true rfl) (Nat.le_of_ble_eq_true rfl) (Nat.le_of_ble_eq_true rfl) (Nat.le_of_ble_eq_true rfl) (fun _ _ h => False.elim h) (fun v9 w546 h547 => ?_)
                  obtain ⟨hT548, rfl, xah547⟩ := h547
                  have hS548 := St.tr hS539 hT548 rfl
                  have fk549 : fK1 4 S ws w546 := fk_fr fk540 hT548 rfl
                  refine rn_stk [] rfl ?_
                  refine rn_aload_n (i := 0) dX10_heap_224 rfl rfl ?_
                  refine rn_iload_n (i := 1) dX10_heap_225 rfl rfl ?_
                  refine rn_iconst (v := (0 : Int32)) dX10_heap_226 (by decide) ?_
                  refine rn_iconst (v := (0 : Int32)) dX10_heap_227 (by decide) ?_
                  refine rn_callV (a := 0) (b := 0) [.int (2200 : Int32), .int (0 : Int32), .int (0 : Int32)] kl_SGModel_239 dX10_heap_228 q307 (hT548.fr hq307 rfl ((hn539 _ (ts_ne hq537 hq307 rfl)).trans ((hn525 _ (ts_ne hq522 hq307 rfl)).trans (hT469.fr hq307 rfl (hT461.fr hq307 rfl (hT451.fr hq307 rfl hl307)))))) rfl (t_X10_setOffset G S w546 hS548.1 o0_ m0_ (2200 : Int32) (rg_w rk_2200 (by decide) (by decide)) (0 : Int32) (rg_w rk_0 (by decide) (by decide)) (0 : Int32)) rfl rfl (Nat.le_of_ble_eq_true rfl) (Nat.le_of_ble_eq_true rfl) (Nat.le_of_ble_eq_true rfl) (Nat.le_of_ble_eq_true rfl) (Nat.le_of_ble_eq_true rfl) (Nat.le_of_ble_eq_true rfl) (fun _ _ h => False.elim h) (fun v9 w550 h551 => ?_)
                  obtain ⟨hT552, rfl, xah551⟩ := h551
                  have hS552 := St.tr hS548 hT552 rfl
                  have fk553 : fK1 4 S ws w550 := fk_fr fk549 hT552 rfl
                  refine rn_stk [] rfl ?_
                  refine rn_aload_n (i := 0) dX10_heap_231 rfl rfl ?_
                  refine rn_iload_n (i := 1) dX10_heap_232 rfl rfl ?_
                  refine rn_iconst (v := (2 : Int32)) dX10_heap_233 (by decide) ?_
                  refine rn_iadd dX10_heap_234 (rn_topi (2202 : Int32) (by decide) ?_)
                  refine rn_bipush (v := (20 : Int32)) dX10_heap_235 (by decide) ?_
                  refine rn_aload_n (i := 0) dX10_heap_237 rfl rfl ?_
                  refine rn_get q307 kg_SGModel_104 (hT552.fr hq307 rfl (hT548.fr hq307 rfl ((hn539 _ (ts_ne hq537 hq307 rfl)).trans ((hn525 _ (ts_ne hq522 hq307 rfl)).trans (hT469.fr hq307 rfl (hT461.fr hq307 rfl (hT451.fr hq307 rfl hl307))))))) hx520 dX10_heap_238 ?_
                  refine rn_iload dX10_heap_241 rfl ?_
                  refine rs_iald q522 (hT552.fr hq522 rfl (hT548.fr hq522 rfl ((hn539 _ (ts_ne hq537 hq522 rfl)).trans hl525))) hf525 rfl rv301 (by decide) (by decide) dX10_heap_243 (fun v555 ev555 rv555 => ?_)
                  refine rs_addD (19) (2000) rk_20 rv555 dX10_heap_244 (by decide) (fun v556 ev556 rv556 => ?_)
                  refine rn_callV (a := 0) (b := 0) [.int (2202 : Int32), .int v556] kl_SGModel_144 dX10_heap_245 q307 (hT552.fr hq307 rfl (hT548.fr hq307 rfl ((hn539 _ (ts_ne hq537 hq307 rfl)).trans ((hn525 _ (ts_ne hq522 hq307 rfl)).trans (hT469.fr hq307 rfl (hT461.fr hq307 rfl (hT451.fr hq307 rfl hl307))))))) rfl (t_X10_putTwo G S w550 hS552.1 o0_ m0_ (2202 : Int32) (rg_w rk_2202 (by decide) (by decide)) v556) rfl rfl (Nat.le_of_ble_eq_true rfl) (Nat.le_of_ble_eq_true rfl) (Nat.le_of_ble_eq_true rfl) (Nat.le_of_ble_eq_true rfl) (Nat.le_of_ble_eq_true rfl) (Nat.le_of_ble_eq_true rfl) (fun _ _ h => False.elim h) (fun v9 w557 h558 => ?_)
                  obtain ⟨hT559, rfl, xah558⟩ := h558
                  have hS559 := St.tr hS552 hT559 rfl
                  have fk560 : fK1 4 S ws w557 := fk_fr fk553 hT559 rfl
                  have ht561 : tw (byt w557) 2202 = v556.toInt := xah558.2 2202 (by decide) (by have := rv556.1; omega) (by have := rv556.2; omega)
                  refine rn_stk [] rfl ?_
                  refine rn_iconst (v := (0 : Int32)) dX10_heap_248 (by decide) ?_
                  exact rn_iret dX10_heap_249 rfl rfl (rq_in ⟨hS559, (0 : Int32), rfl, (rg_w rk_0 (by decide) (by decide)), (fun _ => by rw [ht561]; exact ⟨by have := rv556.1; have := rv556.2; have := rv555.1; have := rv555.2; have := rk_20.1; have := rk_20.2; omega, by have := rv556.1; have := rv556.2; have := rv555.1; have := rv555.2; have := rk_20.1; have := rk_20.2; omega⟩), fk560⟩)
                · have ch534 := cv_eq h534
                  have r562 : Rg (0) (0) v532 := rf_eqx ch534 rv532 rk_0 (by decide) (by decide)
                  refine rn_bipush (v := (7 : Int32)) dX10_heap_196 (by decide) ?_
                  exact rn_iret dX10_heap_198 rfl rfl (rq_in ⟨hS525, (7 : Int32), rfl, (rg_w rk_7 (by decide) (by decide)), (fun h => absurd h (by decide)), fk526⟩)
            · have ch476 := cv_nle h476
              have r563 : Rg (0) (2026) x466 := rf_ltx ch476 r470 rv314 (by decide)
              have r564 : Rg (1) (2027) v314 := rf_lty ch476 r470 rv314 (by decide)
              refine rn_aload_n (i := 0) dX10_heap_143 rfl rfl ?_
              obtain ⟨o565, hx565, m565⟩ := fs_r hf307 42 rfl
              refine rn_get q307 kg_SGModel_113 (hT469.fr hq307 rfl (hT461.fr hq307 rfl (hT451.fr hq307 rfl hl307))) hx565 dX10_heap_144 ?_
              refine rn_sipush (v := (1980 : Int32)) dX10_heap_147 (by decide) ?_
              refine rn_iload dX10_heap_150 rfl ?_
              refine rs_mulD (0) (5940) rk_1980 rv301 dX10_heap_152 (by decide) (fun v566 ev566 rv566 => ?_)
              refine rn_iload dX10_heap_153 rfl ?_
              refine rs_addR (0) (5940) rv566 r448 dX10_heap_155 (by decide) (fun v567 ev567 rv567 => ?_)
              refine rn_iload dX10_heap_156 rfl ?_
              refine rs_addR (0) (7966) rv567 r563 dX10_heap_158 (by decide) (fun v568 ev568 rv568 => ?_)
              refine rn_iconst (v := (1 : Int32)) dX10_heap_159 (by decide) ?_
              obtain ⟨q569, f569, hq569, hl569, hf569⟩ := ts_ia hT469.1 m565 hk_73
              have r570 : Rg (0) (7919) v568 := ⟨by have := rv568.1; have := rv568.2; have := r563.1; have := r563.2; have := rv567.1; have := rv567.2; have := r448.1; have := r448.2; have := rv320.1; have := rv320.2; have := rk_8191.1; have := rk_8191.2; have := rv318.1; have := rv318.2; have := rk_8.1; have := rk_8.2; have := rv566.1; have := rv566.2; have := rv301.1; have := rv301.2; have := rk_1980.1; have := rk_1980.2; omega, by have := rv568.1; have := rv568.2; have := r563.1; have := r563.2; have := rv567.1; have := rv567.2; have := r448.1; have := r448.2; have := rv320.1; have := rv320.2; have := rk_8191.1; have := rk_8191.2; have := rv318.1; have := rv318.2; have := rk_8.1; have := rk_8.2; have := rv566.1; have := rv566.2; have := rv301.1; have := rv301.2; have := rk_1980.1; have := rk_1980.2; omega⟩
              refine rs_zast q569 hT469 hq569 hl569 hf569 hk_73 rfl rfl r570 (by decide) (by decide) (by decide) (by decide) dX10_heap_160 (fun w571 f572 hS572 hl572 hf572 hu572 hn572 => ?_)
              have fk573 : fK1 4 S ws w571 := fk_ne fk475 hn572 hq569 rfl
              have ht574 := tw_eq (byt_ne hn572 (ts_ne hq569 hob1 rfl)) ht472
              have ht575 := tw_eq (byt_ne hn572 (ts_ne hq569 hob1 rfl)) ht473
              have ht576 := tw_eq (byt_ne hn572 (ts_ne hq569 hob1 rfl)) ht474
              refine rs_iinc (1) (2027) dX10_heap_161 rfl (by decide) r563 rk_1 (by decide) (fun v577 => [(0, .ref o0_), (1, .int (2200 : Int32)), (2, .int v7), (3, .int v12), (4, .int v301), (5, .int v314), (6, .int v321), (7, .int v323), (8, .int v577)]) (fun _ => rfl) (fun v577 ev577 rv577 => ?_)
              refine rn_goto (tgt := 136) dX10_heap_164 (by decide) ?_
              refine rn_lv [(0, .ref o0_), (1, .int (2200 : Int32)), (2, .int v7), (3, .int v12), (4, .int v301), (5, .int v314), (6, .int v321), (7, .int v323), (8, .int v577)] rfl ?_
              exact ih _ (lp_inc hm471 ev577 rv577 (by decide)) w571 v577 hS572 (rg_w rv577 (by decide) (by decide)) rfl
        exact LP467 _ w459 (0 : Int32) (St.rf hS461.1) (rg_w rk_0 (by decide) (by decide)) rfl
  · have ch24 := cv_ne h24
    have r578 : Rg (1) (1) v21 := rf_nel ch24 rv21 rk_0 (by decide) (by decide)
    refine rn_iload dX10_heap_35 rfl ?_
    refine rn_if_lt (tgt := 48) dX10_heap_37 (by decide) (fun h579 => ?_) (fun h579 => ?_)
    · have ch579 := cv_lt h579
      have r580 : Rg (-1) (-1) v17 := rf_ltx ch579 rv17 rk_0 (by decide)
      refine rn_bipush (v := (17 : Int32)) dX10_heap_48 (by decide) ?_
      exact rn_iret dX10_heap_50 rfl rfl (rq_in ⟨hS0, (17 : Int32), rfl, (rg_w rk_17 (by decide) (by decide)), (fun h => absurd h (by decide)), fk0⟩)
    · have ch579 := cv_nlt h579
      have r581 : Rg (0) (3) v17 := rf_ley ch579 rk_0 rv17 (by decide)
      refine rn_aload_n (i := 0) dX10_heap_40 rfl rfl ?_
      obtain ⟨o582, hx582, m582⟩ := fs_r hf4 36 rfl
      refine rn_get q4 kg_SGModel_95 hl4 hx582 dX10_heap_41 ?_
      refine rn_iload dX10_heap_44 rfl ?_
      refine rn_iconst (v := (0 : Int32)) dX10_heap_46 (by decide) ?_
      obtain ⟨q583, f583, hq583, hl583, hf583⟩ := ts_ia hS0.1 m582 hk_67
      refine rs_zast q583 hS0 hq583 hl583 hf583 hk_67 rfl rfl r581 (by decide) (by decide) (by decide) (by decide) dX10_heap_47 (fun w584 f585 hS585 hl585 hf585 hu585 hn585 => ?_)
      have fk586 : fK1 4 S ws w584 := fk_ne fk0 hn585 hq583 rfl
      have ht587 := tw_eq (byt_ne hn585 (ts_ne hq583 hob1 rfl)) ht2
      have ht588 := tw_eq (byt_ne hn585 (ts_ne hq583 hob1 rfl)) ht14
      have ht589 := tw_eq (byt_ne hn585 (ts_ne hq583 hob1 rfl)) ht23
      refine rn_bipush (v := (17 : Int32)) dX10_heap_48 (by decide) ?_
      exact rn_iret dX10_heap_50 rfl rfl (rq_in ⟨hS585, (17 : Int32), rfl, (rg_w rk_17 (by decide) (by decide)), (fun h => absurd h (by decide)), fk586⟩)
