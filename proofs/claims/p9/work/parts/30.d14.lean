abbrev q_t_X10_heap_2200 (G : rn_G) (S : ts_S) (ws : va_W) : rn_R → va_W → Prop := rQ (fun v w => St G S [30, 33, 67, 68, 69, 70, 71, 72, 73] ws S w ∧ (∃ x : Int32, v = some (.int x) ∧ Rg (0) (17) x ∧ (x = 0 → 19 ≤ tw (byt w) 2202 ∧ tw (byt w) 2202 ≤ 2000))) (fun E w => False)
set_option maxRecDepth 20000 in
set_option maxHeartbeats 4000000 in
theorem t_X10_heap_2200 (G : rn_G) (S : ts_S) (ws : va_W) (hW : ts_W G S ws) (o0_ : Nat) (m0_ : (o0_, 30) ∈ S) (hw2202_ : 20 ≤ tw (byt ws) 2202 ∧ tw (byt ws) 2202 ≤ 2047) : Rn G mX10_heap 3 70 0 0 0 (lv_args 0 [.ref o0_, .int (2200 : Int32)]) [] ws (q_t_X10_heap_2200 G S ws ) := by
  have hS0 : St G S [30, 33, 67, 68, 69, 70, 71, 72, 73] ws S ws := St.rf hW
  obtain ⟨ob1, hob1⟩ := hS0.1.2.1.2
  obtain ⟨T2, ht2⟩ : ∃ t : Int, tw (byt ws) 2202 = t := ⟨_, rfl⟩
  rw [ht2] at hw2202_
  refine rn_lv [(0, .ref o0_), (1, .int (2200 : Int32))] rfl ?_
  refine rn_aload_n (i := 0) dX10_heap_0 rfl rfl ?_
  refine rn_iload_n (i := 1) dX10_heap_1 rfl rfl ?_
  refine rn_bipush (v := (12 : Int32)) dX10_heap_2 (by decide) ?_
  refine rn_iadd dX10_heap_4 (rn_topi (2212 : Int32) (by decide) ?_)
  obtain ⟨q4, fs4, hq4, hl4, hf4⟩ := ts_obj hS0.1 m0_ hk_30
  refine rn_callV (a := 0) (b := 0) [.int (2212 : Int32)] kl_SGModel_218 dX10_heap_5 q4 hl4 rfl (t_X10_four G S ws hS0.1 o0_ m0_ (2212 : Int32) (rg_w rk_2212 (by decide) (by decide))) rfl rfl (Nat.le_of_ble_eq_true rfl) (Nat.le_of_ble_eq_true rfl) (Nat.le_of_ble_eq_true rfl) (Nat.le_of_ble_eq_true rfl) (Nat.le_of_ble_eq_true rfl) (Nat.le_of_ble_eq_true rfl) (fun _ _ h => False.elim h) (fun v9 w5 h6 => ?_)
  obtain ⟨rfl, v7, rfl, rv7⟩ := h6
  refine rn_stk [.int v7] rfl ?_
  refine rn_istore_n dX10_heap_8 rfl (by decide) [(0, .ref o0_), (1, .int (2200 : Int32)), (2, .int v7)] rfl ?_
  refine rn_aload_n (i := 0) dX10_heap_9 rfl rfl ?_
  refine rn_iload_n (i := 1) dX10_heap_10 rfl rfl ?_
  refine rn_iconst (v := (4 : Int32)) dX10_heap_11 (by decide) ?_
  refine rn_iadd dX10_heap_12 (rn_topi (2204 : Int32) (by decide) ?_)
  refine rn_callV (a := 0) (b := 0) [.int (2204 : Int32)] kl_SGModel_140 dX10_heap_13 q4 hl4 rfl (t_X10_two G S ws hS0.1 o0_ m0_ (2204 : Int32) (rg_w rk_2204 (by decide) (by decide))) rfl rfl (Nat.le_of_ble_eq_true rfl) (Nat.le_of_ble_eq_true rfl) (Nat.le_of_ble_eq_true rfl) (Nat.le_of_ble_eq_true rfl) (Nat.le_of_ble_eq_true rfl) (Nat.le_of_ble_eq_true rfl) (fun _ _ h => False.elim h) (fun v9 w10 h11 => ?_)
  obtain ⟨rfl, v12, rfl, rv12, xah11⟩ := h11
  obtain ⟨T14, ht14⟩ : ∃ t : Int, tw (byt ws) 2204 = t := ⟨_, rfl⟩
  have ev12 : v12.toInt = T14 := (xah11 2204 (by decide)).trans ht14
  refine rn_stk [.int v12] rfl ?_
  refine rn_istore_n dX10_heap_16 rfl (by decide) [(0, .ref o0_), (1, .int (2200 : Int32)), (2, .int v7), (3, .int v12)] rfl ?_
  refine rn_aload_n (i := 0) dX10_heap_17 rfl rfl ?_
  refine rn_iload_n (i := 2) dX10_heap_18 rfl rfl ?_
  refine rn_iload_n (i := 3) dX10_heap_19 rfl rfl ?_
  refine rn_callV (a := 0) (b := 0) [.int v7, .int v12] kl_SGModel_295 dX10_heap_20 q4 hl4 rfl (t_X10_heapOf G S ws hS0.1 o0_ m0_ v7 v12) rfl rfl (Nat.le_of_ble_eq_true rfl) (Nat.le_of_ble_eq_true rfl) (Nat.le_of_ble_eq_true rfl) (Nat.le_of_ble_eq_true rfl) (Nat.le_of_ble_eq_true rfl) (Nat.le_of_ble_eq_true rfl) (fun _ _ h => False.elim h) (fun v9 w15 h16 => ?_)
  obtain ⟨rfl, v17, rfl, rv17⟩ := h16
  refine rn_stk [.int v17] rfl ?_
  refine rn_istore dX10_heap_23 (by decide) [(0, .ref o0_), (1, .int (2200 : Int32)), (2, .int v7), (3, .int v12), (4, .int v17)] rfl ?_
  refine rn_aload_n (i := 0) dX10_heap_25 rfl rfl ?_
  refine rn_iload_n (i := 1) dX10_heap_26 rfl rfl ?_
  refine rn_iload dX10_heap_27 rfl ?_
  refine rn_callV (a := 0) (b := 0) [.int (2200 : Int32), .int v17] kl_SGModel_298 dX10_heap_29 q4 hl4 rfl (t_X10_isWrong_2200 G S ws hS0.1 o0_ m0_ v17 rv17 (by rw [ht2]; exact ⟨by omega, by omega⟩)) rfl rfl (Nat.le_of_ble_eq_true rfl) (Nat.le_of_ble_eq_true rfl) (Nat.le_of_ble_eq_true rfl) (Nat.le_of_ble_eq_true rfl) (Nat.le_of_ble_eq_true rfl) (Nat.le_of_ble_eq_true rfl) (fun _ _ h => False.elim h) (fun v9 w19 h20 => ?_)
  obtain ⟨rfl, v21, rfl, rv21, xah20⟩ := h20
  obtain ⟨T23, ht23⟩ : ∃ t : Int, tw (byt ws) 2206 = t := ⟨_, rfl⟩
  rw [ht23, ht2] at xah20
  refine rn_stk [.int v21] rfl ?_
  refine rn_if_eq (tgt := 51) dX10_heap_32 (by decide) (fun h24 => ?_) (fun h24 => ?_)
  · have ch24 := cv_eq h24
    have kh24 := xah20 h24
    have r25 : Rg (0) (0) v21 := rf_eqx ch24 rv21 rk_0 (by decide) (by decide)
    refine rn_iload dX10_heap_51 rfl ?_
    refine rn_if_ge (tgt := 65) dX10_heap_53 (by decide) (fun h26 => ?_) (fun h26 => ?_)
    · have ch26 := cv_le h26
      have r27 : Rg (0) (3) v17 := rf_ley ch26 rk_0 rv17 (by decide)
      refine rn_iload dX10_heap_65 rfl ?_
      refine rn_istore dX10_heap_67 (by decide) [(0, .ref o0_), (1, .int (2200 : Int32)), (2, .int v7), (3, .int v12), (4, .int v17)] rfl ?_
      refine rn_aload_n (i := 0) dX10_heap_69 rfl rfl ?_
      refine rn_iload_n (i := 1) dX10_heap_70 rfl rfl ?_
      refine rn_inV (d' := 1) (z' := 21) [.int (2200 : Int32)] kl_SGModel_165 dX10_heap_71 q4 hl4 rfl rfl rfl (Nat.le_of_ble_eq_true rfl) (Nat.le_of_ble_eq_true rfl) (Nat.le_of_ble_eq_true rfl) (Nat.le_of_ble_eq_true rfl) ?_
      refine rn_lv [(0, .ref o0_), (1, .int (2200 : Int32))] rfl ?_
      refine rn_aload_n (i := 0) dX10_lengthOf_0 rfl rfl ?_
      refine rn_iload_n (i := 1) dX10_lengthOf_1 rfl rfl ?_
      refine rn_iconst (v := (2 : Int32)) dX10_lengthOf_2 (by decide) ?_
      refine rn_iadd dX10_lengthOf_3 (rn_topi (2202 : Int32) (by decide) ?_)
      refine rn_callV (a := 0) (b := 0) [.int (2202 : Int32)] kl_SGModel_140 dX10_lengthOf_4 q4 hl4 rfl (t_X10_two G S ws hS0.1 o0_ m0_ (2202 : Int32) (rg_w rk_2202 (by decide) (by decide))) rfl rfl (Nat.le_of_ble_eq_true rfl) (Nat.le_of_ble_eq_true rfl) (Nat.le_of_ble_eq_true rfl) (Nat.le_of_ble_eq_true rfl) (Nat.le_of_ble_eq_true rfl) (Nat.le_of_ble_eq_true rfl) (fun _ _ h => False.elim h) (fun v9 w29 h30 => ?_)
      obtain ⟨rfl, v31, rfl, rv31, xah30⟩ := h30
      have ev31 : v31.toInt = T2 := (xah30 2202 (by decide)).trans ht2
      have r33 : Rg (20) (2047) v31 := ⟨by have := rv31.1; have := rv31.2; omega, by have := rv31.1; have := rv31.2; omega⟩
      refine rn_stk [.int v31] rfl ?_
      refine rn_iret dX10_lengthOf_7 rfl rfl (rq_in ?_)
      refine rn_stk [.int v31] rfl ?_
      refine rn_bipush (v := (20 : Int32)) dX10_heap_74 (by decide) ?_
      refine rs_subC (0) (2027) r33 rk_20 dX10_heap_76 (by decide) (fun v34 ev34 rv34 => ?_)
      refine rn_istore dX10_heap_77 (by decide) [(0, .ref o0_), (1, .int (2200 : Int32)), (2, .int v7), (3, .int v12), (4, .int v17), (5, .int v34)] rfl ?_
      refine rn_bipush (v := (8 : Int32)) dX10_heap_79 (by decide) ?_
      refine rn_aload_n (i := 0) dX10_heap_81 rfl rfl ?_
      refine rn_iload_n (i := 1) dX10_heap_82 rfl rfl ?_
      refine rn_inV (d' := 1) (z' := 21) [.int (2200 : Int32)] kl_SGModel_159 dX10_heap_83 q4 hl4 rfl rfl rfl (Nat.le_of_ble_eq_true rfl) (Nat.le_of_ble_eq_true rfl) (Nat.le_of_ble_eq_true rfl) (Nat.le_of_ble_eq_true rfl) ?_
      refine rn_lv [(0, .ref o0_), (1, .int (2200 : Int32))] rfl ?_
      refine rn_aload_n (i := 0) dX10_offsetOf_0 rfl rfl ?_
      refine rn_iload_n (i := 1) dX10_offsetOf_1 rfl rfl ?_
      refine rn_bipush (v := (6 : Int32)) dX10_offsetOf_2 (by decide) ?_
      refine rn_iadd dX10_offsetOf_4 (rn_topi (2206 : Int32) (by decide) ?_)
      refine rn_callV (a := 0) (b := 0) [.int (2206 : Int32)] kl_SGModel_140 dX10_offsetOf_5 q4 hl4 rfl (t_X10_two G S ws hS0.1 o0_ m0_ (2206 : Int32) (rg_w rk_2206 (by decide) (by decide))) rfl rfl (Nat.le_of_ble_eq_true rfl) (Nat.le_of_ble_eq_true rfl) (Nat.le_of_ble_eq_true rfl) (Nat.le_of_ble_eq_true rfl) (Nat.le_of_ble_eq_true rfl) (Nat.le_of_ble_eq_true rfl) (fun _ _ h => False.elim h) (fun v9 w36 h37 => ?_)
      obtain ⟨rfl, v38, rfl, rv38, xah37⟩ := h37
      have ev38 : v38.toInt = T23 := (xah37 2206 (by decide)).trans ht23
      refine rn_stk [.int v38] rfl ?_
      refine rn_sipush (v := (8191 : Int32)) dX10_offsetOf_8 (by decide) ?_
      refine rn_iand dX10_offsetOf_11 (rn_nmE (rg_mask (hi := 8191) 13 8192 rfl rv38 rk_8191 (by decide)) (fun v40 ev40 rv40 => ?_))
      have fv40 : v40.toInt = T23 % 8192 := ev40.trans (congrArg (fun z => z % ((8192 : Nat) : Int)) ev38)
      refine rn_iret dX10_offsetOf_12 rfl rfl (rq_in ?_)
      refine rn_stk [.int v40, .int (8 : Int32)] rfl ?_
      refine rs_mulD (0) (65528) rk_8 rv40 dX10_heap_86 (by decide) (fun v41 ev41 rv41 => ?_)
      refine rn_istore dX10_heap_87 (by decide) [(0, .ref o0_), (1, .int (2200 : Int32)), (2, .int v7), (3, .int v12), (4, .int v17), (5, .int v34), (6, .int v41)] rfl ?_
      refine rn_sipush (v := (13200 : Int32)) dX10_heap_89 (by decide) ?_
      refine rn_sipush (v := (2200 : Int32)) dX10_heap_92 (by decide) ?_
      refine rn_iload dX10_heap_95 rfl ?_
      refine rs_mulD (0) (6600) rk_2200 r27 dX10_heap_97 (by decide) (fun v42 ev42 rv42 => ?_)
      refine rs_addD (13200) (19800) rk_13200 rv42 dX10_heap_98 (by decide) (fun v43 ev43 rv43 => ?_)
      refine rn_istore dX10_heap_99 (by decide) [(0, .ref o0_), (1, .int (2200 : Int32)), (2, .int v7), (3, .int v12), (4, .int v17), (5, .int v34), (6, .int v41), (7, .int v43)] rfl ?_
      refine rn_iload dX10_heap_101 rfl ?_
      refine rn_if_ne (tgt := 115) dX10_heap_103 (by decide) (fun h44 => ?_) (fun h44 => ?_)
      · have ch44 := cv_ne h44
        have r45 : Rg (1) (65528) v41 := rf_nel ch44 rv41 rk_0 (by decide) (by decide)
        refine rn_aload_n (i := 0) dX10_heap_115 rfl rfl ?_
        refine rn_iload_n (i := 1) dX10_heap_116 rfl rfl ?_
        refine rn_bipush (v := (20 : Int32)) dX10_heap_117 (by decide) ?_
        refine rn_iadd dX10_heap_119 (rn_topi (2220 : Int32) (by decide) ?_)
        refine rn_iload dX10_heap_120 rfl ?_
        refine rn_bipush (v := (20 : Int32)) dX10_heap_122 (by decide) ?_
        refine rs_addC (13220) (19820) rv43 rk_20 dX10_heap_124 (by decide) (fun v47 ev47 rv47 => ?_)
        refine rn_iload dX10_heap_125 rfl ?_
        refine rs_addR (13221) (85348) rv47 r45 dX10_heap_127 (by decide) (fun v48 ev48 rv48 => ?_)
        refine rn_iload dX10_heap_128 rfl ?_
        refine rn_callV (a := 0) (b := 0) [.int (2220 : Int32), .int v48, .int v34] kl_SGModel_235 dX10_heap_130 q4 hl4 rfl (t_X10_move G S ws hS0.1 o0_ m0_ (2220 : Int32) v48 v34 ⟨by have := rv34.1; have := rv34.2; have := rk_20.1; have := rk_20.2; have := r33.1; have := r33.2; have := rv48.1; have := rv48.2; have := r45.1; have := r45.2; have := rv40.1; have := rv40.2; have := rk_8191.1; have := rk_8191.2; have := rv38.1; have := rv38.2; have := rk_8.1; have := rk_8.2; have := rv47.1; have := rv47.2; have := rv43.1; have := rv43.2; have := rv42.1; have := rv42.2; have := r27.1; have := r27.2; have := rk_2200.1; have := rk_2200.2; have := rk_13200.1; have := rk_13200.2; have := rk_2220.1; have := rk_2220.2; omega, by have := rv34.1; have := rv34.2; have := rk_20.1; have := rk_20.2; have := r33.1; have := r33.2; have := rv48.1; have := rv48.2; have := r45.1; have := r45.2; have := rv40.1; have := rv40.2; have := rk_8191.1; have := rk_8191.2; have := rv38.1; have := rv38.2; have := rk_8.1; have := rk_8.2; have := rv47.1; have := rv47.2; have := rv43.1; have := rv43.2; have := rv42.1; have := rv42.2; have := r27.1; have := r27.2; have := rk_2200.1; have := rk_2200.2; have := rk_13200.1; have := rk_13200.2; have := rk_2220.1; have := rk_2220.2; omega, by have := rv34.1; have := rv34.2; have := rk_20.1; have := rk_20.2; have := r33.1; have := r33.2; have := rv48.1; have := rv48.2; have := r45.1; have := r45.2; have := rv40.1; have := rv40.2; have := rk_8191.1; have := rk_8191.2; have := rv38.1; have := rv38.2; have := rk_8.1; have := rk_8.2; have := rv47.1; have := rv47.2; have := rv43.1; have := rv43.2; have := rv42.1; have := rv42.2; have := r27.1; have := r27.2; have := rk_2200.1; have := rk_2200.2; have := rk_13200.1; have := rk_13200.2; have := rk_2220.1; have := rk_2220.2; omega, by have := rv34.1; have := rv34.2; have := rk_20.1; have := rk_20.2; have := r33.1; have := r33.2; have := rv48.1; have := rv48.2; have := r45.1; have := r45.2; have := rv40.1; have := rv40.2; have := rk_8191.1; have := rk_8191.2; have := rv38.1; have := rv38.2; have := rk_8.1; have := rk_8.2; have := rv47.1; have := rv47.2; have := rv43.1; have := rv43.2; have := rv42.1; have := rv42.2; have := r27.1; have := r27.2; have := rk_2200.1; have := rk_2200.2; have := rk_13200.1; have := rk_13200.2; have := rk_2220.1; have := rk_2220.2; omega⟩) rfl rfl (Nat.le_of_ble_eq_true rfl) (Nat.le_of_ble_eq_true rfl) (Nat.le_of_ble_eq_true rfl) (Nat.le_of_ble_eq_true rfl) (Nat.le_of_ble_eq_true rfl) (Nat.le_of_ble_eq_true rfl) (fun _ _ h => False.elim h) (fun v9 w49 h50 => ?_)
        obtain ⟨hT51, rfl, xah50⟩ := h50
        have hS51 := St.tr hS0 hT51 rfl
        have ht52 := bsame.keep xah50.1 ht2 (by have := rv34.1; have := rv34.2; have := rk_20.1; have := rk_20.2; have := r33.1; have := r33.2; have := rv48.1; have := rv48.2; have := r45.1; have := r45.2; have := rv40.1; have := rv40.2; have := rk_8191.1; have := rk_8191.2; have := rv38.1; have := rv38.2; have := rk_8.1; have := rk_8.2; have := rv47.1; have := rv47.2; have := rv43.1; have := rv43.2; have := rv42.1; have := rv42.2; have := r27.1; have := r27.2; have := rk_2200.1; have := rk_2200.2; have := rk_13200.1; have := rk_13200.2; have := rk_2220.1; have := rk_2220.2; omega)
        have ht53 := bsame.keep xah50.1 ht14 (by have := rv34.1; have := rv34.2; have := rk_20.1; have := rk_20.2; have := r33.1; have := r33.2; have := rv48.1; have := rv48.2; have := r45.1; have := r45.2; have := rv40.1; have := rv40.2; have := rk_8191.1; have := rk_8191.2; have := rv38.1; have := rv38.2; have := rk_8.1; have := rk_8.2; have := rv47.1; have := rv47.2; have := rv43.1; have := rv43.2; have := rv42.1; have := rv42.2; have := r27.1; have := r27.2; have := rk_2200.1; have := rk_2200.2; have := rk_13200.1; have := rk_13200.2; have := rk_2220.1; have := rk_2220.2; omega)
        have ht54 := bsame.keep xah50.1 ht23 (by have := rv34.1; have := rv34.2; have := rk_20.1; have := rk_20.2; have := r33.1; have := r33.2; have := rv48.1; have := rv48.2; have := r45.1; have := r45.2; have := rv40.1; have := rv40.2; have := rk_8191.1; have := rk_8191.2; have := rv38.1; have := rv38.2; have := rk_8.1; have := rk_8.2; have := rv47.1; have := rv47.2; have := rv43.1; have := rv43.2; have := rv42.1; have := rv42.2; have := r27.1; have := r27.2; have := rk_2200.1; have := rk_2200.2; have := rk_13200.1; have := rk_13200.2; have := rk_2220.1; have := rk_2220.2; omega)
        refine rn_stk [] rfl ?_
        refine rn_iconst (v := (0 : Int32)) dX10_heap_133 (by decide) ?_
        refine rn_istore dX10_heap_134 (by decide) [(0, .ref o0_), (1, .int (2200 : Int32)), (2, .int v7), (3, .int v12), (4, .int v17), (5, .int v34), (6, .int v41), (7, .int v43), (8, .int (0 : Int32))] rfl ?_
        have LP56 : ∀ (n : Nat) (w57 : va_W) (x55 : Int32), St G S [73] w49 S w57 → Rg (0) (2039) x55 → (2039 - x55.toInt).toNat = n → Rn G mX10_heap 3 70 0 0 136 [(0, .ref o0_), (1, .int (2200 : Int32)), (2, .int v7), (3, .int v12), (4, .int v17), (5, .int v34), (6, .int v41), (7, .int v43), (8, .int x55)] [] w57 (q_t_X10_heap_2200 G S ws ) := by
          intro n
          induction n using Nat.strongRecOn with
          | _ n ih =>
            intro w57 x55 hT58 r59 hm60
            have ht61 := tw_eq (byt_fr hS51.1 hT58 rfl) ht52
            have ht62 := tw_eq (byt_fr hS51.1 hT58 rfl) ht53
            have ht63 := tw_eq (byt_fr hS51.1 hT58 rfl) ht54
            refine rn_iload dX10_heap_136 rfl ?_
            refine rn_iload dX10_heap_138 rfl ?_
            refine rn_icmp_ge (tgt := 167) dX10_heap_140 (by decide) (fun h64 => ?_) (fun h64 => ?_)
            · have ch64 := cv_le h64
              have hS65 := St.tr hS51 hT58 rfl
              refine rn_aload_n (i := 0) dX10_heap_167 rfl rfl ?_
              refine rn_iload_n (i := 1) dX10_heap_168 rfl rfl ?_
              refine rn_callV (a := 0) (b := 0) [.int (2200 : Int32)] kl_SGModel_155 dX10_heap_169 q4 (hT58.fr hq4 rfl (hT51.fr hq4 rfl hl4)) rfl (t_X10_hasMore G S w57 hS65.1 o0_ m0_ (2200 : Int32) (rg_w rk_2200 (by decide) (by decide))) rfl rfl (Nat.le_of_ble_eq_true rfl) (Nat.le_of_ble_eq_true rfl) (Nat.le_of_ble_eq_true rfl) (Nat.le_of_ble_eq_true rfl) (Nat.le_of_ble_eq_true rfl) (Nat.le_of_ble_eq_true rfl) (fun _ _ h => False.elim h) (fun v9 w66 h67 => ?_)
              obtain ⟨rfl, v68, rfl, rv68⟩ := h67
              refine rn_stk [.int v68] rfl ?_
              refine rn_if_ne (tgt := 187) dX10_heap_172 (by decide) (fun h70 => ?_) (fun h70 => ?_)
              · have ch70 := cv_ne h70
                have r71 : Rg (1) (1) v68 := rf_nel ch70 rv68 rk_0 (by decide) (by decide)
                refine rn_aload_n (i := 0) dX10_heap_187 rfl rfl ?_
                refine rn_iload dX10_heap_188 rfl ?_
                refine rn_callV (a := 0) (b := 0) [.int v17] kl_SGModel_304 dX10_heap_190 q4 (hT58.fr hq4 rfl (hT51.fr hq4 rfl hl4)) rfl (t_X10_isFull G S w57 hS65.1 o0_ m0_ v17 r27) rfl rfl (Nat.le_of_ble_eq_true rfl) (Nat.le_of_ble_eq_true rfl) (Nat.le_of_ble_eq_true rfl) (Nat.le_of_ble_eq_true rfl) (Nat.le_of_ble_eq_true rfl) (Nat.le_of_ble_eq_true rfl) (fun _ _ h => False.elim h) (fun v9 w72 h73 => ?_)
                obtain ⟨rfl, v74, rfl, rv74⟩ := h73
                refine rn_stk [.int v74] rfl ?_
                refine rn_if_ne (tgt := 199) dX10_heap_193 (by decide) (fun h76 => ?_) (fun h76 => ?_)
                · have ch76 := cv_ne h76
                  have r77 : Rg (1) (1) v74 := rf_nel ch76 rv74 rk_0 (by decide) (by decide)
                  refine rn_aload_n (i := 0) dX10_heap_199 rfl rfl ?_
                  obtain ⟨o78, hx78, m78⟩ := fs_r hf4 36 rfl
                  refine rn_get q4 kg_SGModel_95 (hT58.fr hq4 rfl (hT51.fr hq4 rfl hl4)) hx78 dX10_heap_200 ?_
                  refine rn_iload dX10_heap_203 rfl ?_
                  refine rn_iconst (v := (0 : Int32)) dX10_heap_205 (by decide) ?_
                  obtain ⟨q79, f79, hq79, hl79, hf79⟩ := ts_ia hS65.1 m78 hk_67
                  refine rs_zast q79 hS65 hq79 hl79 hf79 hk_67 rfl rfl r27 (by decide) (by decide) (by decide) (by decide) dX10_heap_206 (fun w80 f81 hS81 hl81 hf81 hu81 hn81 => ?_)
                  have ht82 := tw_eq (byt_ne hn81 (ts_ne hq79 hob1 rfl)) ht61
                  have ht83 := tw_eq (byt_ne hn81 (ts_ne hq79 hob1 rfl)) ht62
                  have ht84 := tw_eq (byt_ne hn81 (ts_ne hq79 hob1 rfl)) ht63
                  refine rn_aload_n (i := 0) dX10_heap_207 rfl rfl ?_
                  refine rn_iload dX10_heap_208 rfl ?_
                  refine rn_iload_n (i := 1) dX10_heap_210 rfl rfl ?_
                  refine rn_bipush (v := (20 : Int32)) dX10_heap_211 (by decide) ?_
                  refine rn_aload_n (i := 0) dX10_heap_213 rfl rfl ?_
                  obtain ⟨o85, hx85, m85⟩ := fs_r hf4 39 rfl
                  refine rn_get q4 kg_SGModel_104 ((hn81 _ (ts_ne hq79 hq4 rfl)).trans (hT58.fr hq4 rfl (hT51.fr hq4 rfl hl4))) hx85 dX10_heap_214 ?_
                  refine rn_iload dX10_heap_217 rfl ?_
                  obtain ⟨q86, f86, hq86, hl86, hf86⟩ := ts_ia hS81.1 m85 hk_70
                  refine rs_iald q86 hl86 hf86 rfl r27 (by decide) (by decide) dX10_heap_219 (fun v87 ev87 rv87 => ?_)
                  refine rs_addD (19) (2000) rk_20 rv87 dX10_heap_220 (by decide) (fun v88 ev88 rv88 => ?_)
                  refine rn_callV (a := 0) (b := 0) [.int v43, .int (2200 : Int32), .int v88] kl_SGModel_235 dX10_heap_221 q4 ((hn81 _ (ts_ne hq79 hq4 rfl)).trans (hT58.fr hq4 rfl (hT51.fr hq4 rfl hl4))) rfl (t_X10_move G S w80 hS81.1 o0_ m0_ v43 (2200 : Int32) v88 ⟨by have := rv88.1; have := rv88.2; have := rv87.1; have := rv87.2; have := rk_20.1; have := rk_20.2; have := rk_2200.1; have := rk_2200.2; have := rv43.1; have := rv43.2; have := rv42.1; have := rv42.2; have := r27.1; have := r27.2; have := rk_13200.1; have := rk_13200.2; omega, by have := rv88.1; have := rv88.2; have := rv87.1; have := rv87.2; have := rk_20.1; have := rk_20.2; have := rk_2200.1; have := rk_2200.2; have := rv43.1; have := rv43.2; have := rv42.1; have := rv42.2; have := r27.1; have := r27.2; have := rk_13200.1; have := rk_13200.2; omega, by have := rv88.1; have := rv88.2; have := rv87.1; have := rv87.2; have := rk_20.1; have := rk_20.2; have := rk_2200.1; have := rk_2200.2; have := rv43.1; have := rv43.2; have := rv42.1; have := rv42.2; have := r27.1; have := r27.2; have := rk_13200.1; have := rk_13200.2; omega, by have := rv88.1; have := rv88.2; have := rv87.1; have := rv87.2; have := rk_20.1; have := rk_20.2; have := rk_2200.1; have := rk_2200.2; have := rv43.1; have := rv43.2; have := rv42.1; have := rv42.2; have := r27.1; have := r27.2; have := rk_13200.1; have := rk_13200.2; omega⟩) rfl rfl (Nat.le_of_ble_eq_true rfl) (Nat.le_of_ble_eq_true rfl) (Nat.le_of_ble_eq_true rfl) (Nat.le_of_ble_eq_true rfl) (Nat.le_of_ble_eq_true rfl) (Nat.le_of_ble_eq_true rfl) (fun _ _ h => False.elim h) (fun v9 w89 h90 => ?_)
                  obtain ⟨hT91, rfl, xah90⟩ := h90
                  have hS91 := St.tr hS81 hT91 rfl
                  refine rn_stk [] rfl ?_
                  refine rn_aload_n (i := 0) dX10_heap_224 rfl rfl ?_
                  refine rn_iload_n (i := 1) dX10_heap_225 rfl rfl ?_
                  refine rn_iconst (v := (0 : Int32)) dX10_heap_226 (by decide) ?_
                  refine rn_iconst (v := (0 : Int32)) dX10_heap_227 (by decide) ?_
                  refine rn_callV (a := 0) (b := 0) [.int (2200 : Int32), .int (0 : Int32), .int (0 : Int32)] kl_SGModel_239 dX10_heap_228 q4 (hT91.fr hq4 rfl ((hn81 _ (ts_ne hq79 hq4 rfl)).trans (hT58.fr hq4 rfl (hT51.fr hq4 rfl hl4)))) rfl (t_X10_setOffset G S w89 hS91.1 o0_ m0_ (2200 : Int32) (rg_w rk_2200 (by decide) (by decide)) (0 : Int32) (rg_w rk_0 (by decide) (by decide)) (0 : Int32)) rfl rfl (Nat.le_of_ble_eq_true rfl) (Nat.le_of_ble_eq_true rfl) (Nat.le_of_ble_eq_true rfl) (Nat.le_of_ble_eq_true rfl) (Nat.le_of_ble_eq_true rfl) (Nat.le_of_ble_eq_true rfl) (fun _ _ h => False.elim h) (fun v9 w92 h93 => ?_)
                  obtain ⟨hT94, rfl, xah93⟩ := h93
                  have hS94 := St.tr hS91 hT94 rfl
                  refine rn_stk [] rfl ?_
                  refine rn_aload_n (i := 0) dX10_heap_231 rfl rfl ?_
                  refine rn_iload_n (i := 1) dX10_heap_232 rfl rfl ?_
                  refine rn_iconst (v := (2 : Int32)) dX10_heap_233 (by decide) ?_
                  refine rn_iadd dX10_heap_234 (rn_topi (2202 : Int32) (by decide) ?_)
                  refine rn_bipush (v := (20 : Int32)) dX10_heap_235 (by decide) ?_
                  refine rn_aload_n (i := 0) dX10_heap_237 rfl rfl ?_
                  refine rn_get q4 kg_SGModel_104 (hT94.fr hq4 rfl (hT91.fr hq4 rfl ((hn81 _ (ts_ne hq79 hq4 rfl)).trans (hT58.fr hq4 rfl (hT51.fr hq4 rfl hl4))))) hx85 dX10_heap_238 ?_
                  refine rn_iload dX10_heap_241 rfl ?_
                  refine rs_iald q86 (hT94.fr hq86 rfl (hT91.fr hq86 rfl hl86)) hf86 rfl r27 (by decide) (by decide) dX10_heap_243 (fun v96 ev96 rv96 => ?_)
                  refine rs_addD (19) (2000) rk_20 rv96 dX10_heap_244 (by decide) (fun v97 ev97 rv97 => ?_)
                  refine rn_callV (a := 0) (b := 0) [.int (2202 : Int32), .int v97] kl_SGModel_144 dX10_heap_245 q4 (hT94.fr hq4 rfl (hT91.fr hq4 rfl ((hn81 _ (ts_ne hq79 hq4 rfl)).trans (hT58.fr hq4 rfl (hT51.fr hq4 rfl hl4))))) rfl (t_X10_putTwo G S w92 hS94.1 o0_ m0_ (2202 : Int32) (rg_w rk_2202 (by decide) (by decide)) v97) rfl rfl (Nat.le_of_ble_eq_true rfl) (Nat.le_of_ble_eq_true rfl) (Nat.le_of_ble_eq_true rfl) (Nat.le_of_ble_eq_true rfl) (Nat.le_of_ble_eq_true rfl) (Nat.le_of_ble_eq_true rfl) (fun _ _ h => False.elim h) (fun v9 w98 h99 => ?_)
                  obtain ⟨hT100, rfl, xah99⟩ := h99
                  have hS100 := St.tr hS94 hT100 rfl
                  have ht101 : tw (byt w98) 2202 = v97.toInt := xah99.2 2202 (by decide) (by have := rv97.1; omega) (by have := rv97.2; omega)
                  refine rn_stk [] rfl ?_
                  refine rn_iconst (v := (0 : Int32)) dX10_heap_248 (by decide) ?_
                  exact rn_iret dX10_heap_249 rfl rfl (rq_in ⟨hS100, (0 : Int32), rfl, (rg_w rk_0 (by decide) (by decide)), (fun _ => by rw [ht101]; exact ⟨by have := rv97.1; have := rv97.2; have := rv96.1; have := rv96.2; have := rk_20.1; have := rk_20.2; omega, by have := rv97.1; have := rv97.2; have := rv96.1; have := rv96.2; have := rk_20.1; have := rk_20.2; omega⟩)⟩)
                · have ch76 := cv_eq h76
                  have r102 : Rg (0) (0) v74 := rf_eqx ch76 rv74 rk_0 (by decide) (by decide)
                  refine rn_bipush (v := (7 : Int32)) dX10_heap_196 (by decide) ?_
                  exact rn_iret dX10_heap_198 rfl rfl (rq_in ⟨hS65, (7 : Int32), rfl, (rg_w rk_7 (by decide) (by decide)), (fun h => absurd h (by decide))⟩)
              · have ch70 := cv_eq h70
                have r103 : Rg (0) (0) v68 := rf_eqx ch70 rv68 rk_0 (by decide) (by decide)
                refine rn_aload_n (i := 0) dX10_heap_175 rfl rfl ?_
                obtain ⟨o104, hx104, m104⟩ := fs_r hf4 39 rfl
                refine rn_get q4 kg_SGModel_104 (hT58.fr hq4 rfl (hT51.fr hq4 rfl hl4)) hx104 dX10_heap_176 ?_
                refine rn_iload dX10_heap_179 rfl ?_
                refine rn_iload dX10_heap_181 rfl ?_
                refine rn_iload dX10_heap_183 rfl ?_
                refine rs_addR (1) (67555) r45 rv34 dX10_heap_185 (by decide) (fun v105 ev105 rv105 => ?_)
                obtain ⟨q106, f106, hq106, hl106, hf106⟩ := ts_ia hS65.1 m104 hk_70
                have r107 : Rg (-1) (1980) v105 := ⟨by have := rv105.1; have := rv105.2; have := rv34.1; have := rv34.2; have := rk_20.1; have := rk_20.2; have := r33.1; have := r33.2; have := r45.1; have := r45.2; have := rv40.1; have := rv40.2; have := rk_8191.1; have := rk_8191.2; have := rv38.1; have := rv38.2; have := rk_8.1; have := rk_8.2; omega, by have := rv105.1; have := rv105.2; have := rv34.1; have := rv34.2; have := rk_20.1; have := rk_20.2; have := r33.1; have := r33.2; have := r45.1; have := r45.2; have := rv40.1; have := rv40.2; have := rk_8191.1; have := rk_8191.2; have := rv38.1; have := rv38.2; have := rk_8.1; have := rk_8.2; omega⟩
                refine rs_iast q106 hS65 hq106 hl106 hf106 hk_70 rfl rfl r27 (by decide) (by decide) r107 dX10_heap_186 (fun w108 f109 hS109 hl109 hf109 hu109 hn109 => ?_)
                have ht110 := tw_eq (byt_ne hn109 (ts_ne hq106 hob1 rfl)) ht61
                have ht111 := tw_eq (byt_ne hn109 (ts_ne hq106 hob1 rfl)) ht62
                have ht112 := tw_eq (byt_ne hn109 (ts_ne hq106 hob1 rfl)) ht63
                refine rn_aload_n (i := 0) dX10_heap_187 rfl rfl ?_
                refine rn_iload dX10_heap_188 rfl ?_
                refine rn_callV (a := 0) (b := 0) [.int v17] kl_SGModel_304 dX10_heap_190 q4 ((hn109 _ (ts_ne hq106 hq4 rfl)).trans (hT58.fr hq4 rfl (hT51.fr hq4 rfl hl4))) rfl (t_X10_isFull G S w108 hS109.1 o0_ m0_ v17 r27) rfl rfl (Nat.le_of_ble_eq_true rfl) (Nat.le_of_ble_eq_true rfl) (Nat.le_of_ble_eq_true rfl) (Nat.le_of_ble_eq_true rfl) (Nat.le_of_ble_eq_true rfl) (Nat.le_of_ble_eq_true rfl) (fun _ _ h => False.elim h) (fun v9 w113 h114 => ?_)
                obtain ⟨rfl, v115, rfl, rv115⟩ := h114
                refine rn_stk [.int v115] rfl ?_
                refine rn_if_ne (tgt := 199) dX10_heap_193 (by decide) (fun h117 => ?_) (fun h117 => ?_)
                · have ch117 := cv_ne h117
                  have r118 : Rg (1) (1) v115 := rf_nel ch117 rv115 rk_0 (by decide) (by decide)
                  refine rn_aload_n (i := 0) dX10_heap_199 rfl rfl ?_
                  obtain ⟨o119, hx119, m119⟩ := fs_r hf4 36 rfl
                  refine rn_get q4 kg_SGModel_95 ((hn109 _ (ts_ne hq106 hq4 rfl)).trans (hT58.fr hq4 rfl (hT51.fr hq4 rfl hl4))) hx119 dX10_heap_200 ?_
                  refine rn_iload dX10_heap_203 rfl ?_
                  refine rn_iconst (v := (0 : Int32)) dX10_heap_205 (by decide) ?_
                  obtain ⟨q120, f120, hq120, hl120, hf120⟩ := ts_ia hS109.1 m119 hk_67
                  refine rs_zast q120 hS109 hq120 hl120 hf120 hk_67 rfl rfl r27 (by decide) (by decide) (by decide) (by decide) dX10_heap_206 (fun w121 f122 hS122 hl122 hf122 hu122 hn122 => ?_)
                  have ht123 := tw_eq (byt_ne hn122 (ts_ne hq120 hob1 rfl)) ht110
                  have ht124 := tw_eq (byt_ne hn122 (ts_ne hq120 hob1 rfl)) ht111
                  have ht125 := tw_eq (byt_ne hn122 (ts_ne hq120 hob1 rfl)) ht112
                  refine rn_aload_n (i := 0) dX10_heap_207 rfl rfl ?_
                  refine rn_iload dX10_heap_208 rfl ?_
                  refine rn_iload_n (i := 1) dX10_heap_210 rfl rfl ?_
                  refine rn_bipush (v := (20 : Int32)) dX10_heap_211 (by decide) ?_
                  refine rn_aload_n (i := 0) dX10_heap_213 rfl rfl ?_
                  refine rn_get q4 kg_SGModel_104 ((hn122 _ (ts_ne hq120 hq4 rfl)).trans ((hn109 _ (ts_ne hq106 hq4 rfl)).trans (hT58.fr hq4 rfl (hT51.fr hq4 rfl hl4)))) hx104 dX10_heap_214 ?_
                  refine rn_iload dX10_heap_217 rfl ?_
                  refine rs_iald q106 ((hn122 _ (ts_ne hq120 hq106 rfl)).trans hl109) hf109 rfl r27 (by decide) (by decide) dX10_heap_219 (fun v126 ev126 rv126 => ?_)
                  refine rs_addD (19) (2000) rk_20 rv126 dX10_heap_220 (by decide) (fun v127 ev127 rv127 => ?_)
                  refine rn_callV (a := 0) (b := 0) [.int v43, .int (2200 : Int32), .int v127] kl_SGModel_235 dX10_heap_221 q4 ((hn122 _ (ts_ne hq120 hq4 rfl)).trans ((hn109 _ (ts_ne hq106 hq4 rfl)).trans (hT58.fr hq4 rfl (hT51.fr hq4 rfl hl4)))) rfl (t_X10_move G S w121 hS122.1 o0_ m0_ v43 (2200 : Int32) v127 ⟨by have := rv127.1; have := rv127.2; have := rv126.1; have := rv126.2; have := rk_20.1; have := rk_20.2; have := rk_2200.1; have := rk_2200.2; have := rv43.1; have := rv43.2; have := rv42.1; have := rv42.2; have := r27.1; have := r27.2; have := rk_13200.1; have := rk_13200.2; omega, by have := rv127.1; have := rv127.2; have := rv126.1; have := rv126.2; have := rk_20.1; have := rk_20.2; have := rk_2200.1; have := rk_2200.2; have := rv43.1; have := rv43.2; have := rv42.1; have := rv42.2; have := r27.1; have := r27.2; have := rk_13200.1; have := rk_13200.2; omega, by have := rv127.1; have := rv127.2; have := rv126.1; have := rv126.2; have := rk_20.1; have := rk_20.2; have := rk_2200.1; have := rk_2200.2; have := rv43.1; have := rv43.2; have := rv42.1; have := rv42.2; have := r27.1; have := r27.2; have := rk_13200.1; have := rk_13200.2; omega, by have := rv127.1; have := rv127.2; have := rv126.1; have := rv126.2; have := rk_20.1; have := rk_20.2; have := rk_2200.1; have := rk_2200.2; have := rv43.1; have := rv43.2; have := rv42.1; have := rv42.2; have := r27.1; have := r27.2; have := rk_13200.1; have := rk_13200.2; omega⟩) rfl rfl (Nat.le_of_ble_eq_true rfl) (Nat.le_of_ble_eq_true rfl) (Nat.le_of_ble_eq_true rfl) (Nat.le_of_ble_eq_true rfl) (Nat.le_of_ble_eq_true rfl) (Nat.le_of_ble_eq_true rfl) (fun _ _ h => False.elim h) (fun v9 w128 h129 => ?_)
                  obtain ⟨hT130, rfl, xah129⟩ := h129
                  have hS130 := St.tr hS122 hT130 rfl
                  refine rn_stk [] rfl ?_
                  refine rn_aload_n (i := 0) dX10_heap_224 rfl rfl ?_
                  refine rn_iload_n (i := 1) dX10_heap_225 rfl rfl ?_
                  refine rn_iconst (v := (0 : Int32)) dX10_heap_226 (by decide) ?_
                  refine rn_iconst (v := (0 : Int32)) dX10_heap_227 (by decide) ?_
                  refine rn_callV (a := 0) (b := 0) [.int (2200 : Int32), .int (0 : Int32), .int (0 : Int32)] kl_SGModel_239 dX10_heap_228 q4 (hT130.fr hq4 rfl ((hn122 _ (ts_ne hq120 hq4 rfl)).trans ((hn109 _ (ts_ne hq106 hq4 rfl)).trans (hT58.fr hq4 rfl (hT51.fr hq4 rfl hl4))))) rfl (t_X10_setOffset G S w128 hS130.1 o0_ m0_ (2200 : Int32) (rg_w rk_2200 (by decide) (by decide)) (0 : Int32) (rg_w rk_0 (by decide) (by decide)) (0 : Int32)) rfl rfl (Nat.le_of_ble_eq_true rfl) (Nat.le_of_ble_eq_true rfl) (Nat.le_of_ble_eq_true rfl) (Nat.le_of_ble_eq_true rfl) (Nat.le_of_ble_eq_true rfl) (Nat.le_of_ble_eq_true rfl) (fun _ _ h => False.elim h) (fun v9 w131 h132 => ?_)
                  obtain ⟨hT133, rfl, xah132⟩ := h132
                  have hS133 := St.tr hS130 hT133 rfl
                  refine rn_stk [] rfl ?_
                  refine rn_aload_n (i := 0) dX10_heap_231 rfl rfl ?_
                  refine rn_iload_n (i := 1) dX10_heap_232 rfl rfl ?_
                  refine rn_iconst (v := (2 : Int32)) dX10_heap_233 (by decide) ?_
                  refine rn_iadd dX10_heap_234 (rn_topi (2202 : Int32) (by decide) ?_)
                  refine rn_bipush (v := (20 : Int32)) dX10_heap_235 (by decide) ?_
                  refine rn_aload_n (i := 0) dX10_heap_237 rfl rfl ?_
                  refine rn_get q4 kg_SGModel_104 (hT133.fr hq4 rfl (hT130.fr hq4 rfl ((hn122 _ (ts_ne hq120 hq4 rfl)).trans ((hn109 _ (ts_ne hq106 hq4 rfl)).trans (hT58.fr hq4 rfl (hT51.fr hq4 rfl hl4)))))) hx104 dX10_heap_238 ?_
                  refine rn_iload dX10_heap_241 rfl ?_
                  refine rs_iald q106 (hT133.fr hq106 rfl (hT130.fr hq106 rfl ((hn122 _ (ts_ne hq120 hq106 rfl)).trans hl109))) hf109 rfl r27 (by decide) (by decide) dX10_heap_243 (fun v135 ev135 rv135 => ?_)
                  refine rs_addD (19) (2000) rk_20 rv135 dX10_heap_244 (by decide) (fun v136 ev136 rv136 => ?_)
                  refine rn_callV (a := 0) (b := 0) [.int (2202 : Int32), .int v136] kl_SGModel_144 dX10_heap_245 q4 (hT133.fr hq4 rfl (hT130.fr hq4 rfl ((hn122 _ (ts_ne hq120 hq4 rfl)).trans ((hn109 _ (ts_ne hq106 hq4 rfl)).trans (hT58.fr hq4 rfl (hT51.fr hq4 rfl hl4)))))) rfl (t_X10_putTwo G S w131 hS133.1 o0_ m0_ (2202 : Int32) (rg_w rk_2202 (by decide) (by decide)) v136) rfl rfl (Nat.le_of_ble_eq_true rfl) (Nat.le_of_ble_eq_true rfl) (Nat.le_of_ble_eq_true rfl) (Nat.le_of_ble_eq_true rfl) (Nat.le_of_ble_eq_true rfl) (Nat.le_of_ble_eq_true rfl) (fun _ _ h => False.elim h) (fun v9 w137 h138 => ?_)
                  obtain ⟨hT139, rfl, xah138⟩ := h138
                  have hS139 := St.tr hS133 hT139 rfl
                  have ht140 : tw (byt w137) 2202 = v136.toInt := xah138.2 2202 (by decide) (by have := rv136.1; omega) (by have := rv136.2; omega)
                  refine rn_stk [] rfl ?_
                  refine rn_iconst (v := (0 : Int32)) dX10_heap_248 (by decide) ?_
                  exact rn_iret dX10_heap_249 rfl rfl (rq_in ⟨hS139, (0 : Int32), rfl, (rg_w rk_0 (by decide) (by decide)), (fun _ => by rw [ht140]; exact ⟨by have := rv136.1; have := rv136.2; have := rv135.1; have := rv135.2; have := rk_20.1; have := rk_20.2; omega, by have := rv136.1; have := rv136.2; have := rv135.1; have := rv135.2; have := rk_20.1; have := rk_20.2; omega⟩)⟩)
                · have ch117 := cv_eq h117
                  have r141 : Rg (0) (0) v115 := rf_eqx ch117 rv115 rk_0 (by decide) (by decide)
                  refine rn_bipush (v := (7 : Int32)) dX10_heap_196 (by decide) ?_
                  exact rn_iret dX10_heap_198 rfl rfl (rq_in ⟨hS109, (7 : Int32), rfl, (rg_w rk_7 (by decide) (by decide)), (fun h => absurd h (by decide))⟩)
            · have ch64 := cv_nle h64
              have r142 : Rg (0) (2026) x55 := rf_ltx ch64 r59 rv34 (by decide)
              have r143 : Rg (1) (2027) v34 := rf_lty ch64 r59 rv34 (by decide)
              refine rn_aload_n (i := 0) dX10_heap_143 rfl rfl ?_
              obtain ⟨o144, hx144, m144⟩ := fs_r hf4 42 rfl
              refine rn_get q4 kg_SGModel_113 (hT58.fr hq4 rfl (hT51.fr hq4 rfl hl4)) hx144 dX10_heap_144 ?_
              refine rn_sipush (v := (1980 : Int32)) dX10_heap_147 (by decide) ?_
              refine rn_iload dX10_heap_150 rfl ?_
              refine rs_mulD (0) (5940) rk_1980 r27 dX10_heap_152 (by decide) (fun v145 ev145 rv145 => ?_)
              refine rn_iload dX10_heap_153 rfl ?_
              refine rs_addR (1) (71468) rv145 r45 dX10_heap_155 (by decide) (fun v146 ev146 rv146 => ?_)
              refine rn_iload dX10_heap_156 rfl ?_
              refine rs_addR (1) (73494) rv146 r142 dX10_heap_158 (by decide) (fun v147 ev147 rv147 => ?_)
              refine rn_iconst (v := (1 : Int32)) dX10_heap_159 (by decide) ?_
              obtain ⟨q148, f148, hq148, hl148, hf148⟩ := ts_ia hT58.1 m144 hk_73
              have r149 : Rg (0) (7919) v147 := ⟨by have := rv147.1; have := rv147.2; have := r142.1; have := r142.2; have := rv146.1; have := rv146.2; have := r45.1; have := r45.2; have := rv40.1; have := rv40.2; have := rk_8191.1; have := rk_8191.2; have := rv38.1; have := rv38.2; have := rk_8.1; have := rk_8.2; have := rv145.1; have := rv145.2; have := r27.1; have := r27.2; have := rk_1980.1; have := rk_1980.2; omega, by have := rv147.1; have := rv147.2; have := r142.1; have := r142.2; have := rv146.1; have := rv146.2; have := r45.1; have := r45.2; have := rv40.1; have := rv40.2; have := rk_8191.1; have := rk_8191.2; have := rv38.1; have := rv38.2; have := rk_8.1; have := rk_8.2; have := rv145.1; have := rv145.2; have := r27.1; have := r27.2; have := rk_1980.1; have := rk_1980.2; omega⟩
              refine rs_zast q148 hT58 hq148 hl148 hf148 hk_73 rfl rfl r149 (by decide) (by decide) (by decide) (by decide) dX10_heap_160 (fun w150 f151 hS151 hl151 hf151 hu151 hn151 => ?_)
              have ht152 := tw_eq (byt_ne hn151 (ts_ne hq148 hob1 rfl)) ht61
              have ht153 := tw_eq (byt_ne hn151 (ts_ne hq148 hob1 rfl)) ht62
              have ht154 := tw_eq (byt_ne hn151 (ts_ne hq148 hob1 rfl)) ht63
              refine rs_iinc (1) (2027) dX10_heap_161 rfl (by decide) r142 rk_1 (by decide) (fun v155 => [(0, .ref o0_), (1, .int (2200 : Int32)), (2, .int v7), (3, .int v12), (4, .int v17), (5, .int v34), (6, .int v41), (7, .int v43), (8, .int v155)]) (fun _ => rfl) (fun v155 ev155 rv155 => ?_)
              refine rn_goto (tgt := 136) dX10_heap_164 (by decide) ?_
              refine rn_lv [(0, .ref o0_), (1, .int (2200 : Int32)), (2, .int v7), (3, .int v12), (4, .int v17), (5, .int v34), (6, .int v41), (7, .int v43), (8, .int v155)] rfl ?_
              exact ih _ (lp_inc hm60 ev155 rv155 (by decide)) w150 v155 hS151 (rg_w rv155 (by decide) (by decide)) rfl
        exact LP56 _ w49 (0 : Int32) (St.rf hS51.1) (rg_w rk_0 (by decide) (by decide)) rfl
      · have ch44 := cv_eq h44
        have r156 : Rg (0) (0) v41 := rf_eqx ch44 rv41 rk_0 (by decide) (by decide)
        refine rn_aload_n (i := 0) dX10_heap_106 rfl rfl ?_
        refine rn_iload_n (i := 1) dX10_heap_107 rfl rfl ?_
        refine rn_iload dX10_heap_108 rfl ?_
        refine rn_bipush (v := (20 : Int32)) dX10_heap_110 (by decide) ?_
        refine rn_callV (a := 0) (b := 0) [.int (2200 : Int32), .int v43, .int (20 : Int32)] kl_SGModel_235 dX10_heap_112 q4 hl4 rfl (t_X10_move G S ws hS0.1 o0_ m0_ (2200 : Int32) v43 (20 : Int32) ⟨by have := rk_20.1; have := rk_20.2; have := rv43.1; have := rv43.2; have := rv42.1; have := rv42.2; have := r27.1; have := r27.2; have := rk_2200.1; have := rk_2200.2; have := rk_13200.1; have := rk_13200.2; omega, by have := rk_20.1; have := rk_20.2; have := rv43.1; have := rv43.2; have := rv42.1; have := rv42.2; have := r27.1; have := r27.2; have := rk_2200.1; have := rk_2200.2; have := rk_13200.1; have := rk_13200.2; omega, by have := rk_20.1; have := rk_20.2; have := rv43.1; have := rv43.2; have := rv42.1; have := rv42.2; have := r27.1; have := r27.2; have := rk_2200.1; have := rk_2200.2; have := rk_13200.1; have := rk_13200.2; omega, by have := rk_20.1; have := rk_20.2; have := rv43.1; have := rv43.2; have := rv42.1; have := rv42.2; have := r27.1; have := r27.2; have := rk_2200.1; have := rk_2200.2; have := rk_13200.1; have := rk_13200.2; omega⟩) rfl rfl (Nat.le_of_ble_eq_true rfl) (Nat.le_of_ble_eq_true rfl) (Nat.le_of_ble_eq_true rfl) (Nat.le_of_ble_eq_true rfl) (Nat.le_of_ble_eq_true rfl) (Nat.le_of_ble_eq_true rfl) (fun _ _ h => False.elim h) (fun v9 w157 h158 => ?_)
        obtain ⟨hT159, rfl, xah158⟩ := h158
        have hS159 := St.tr hS0 hT159 rfl
        have ht160 := bsame.keep xah158.1 ht2 (by have := rk_20.1; have := rk_20.2; have := rv43.1; have := rv43.2; have := rv42.1; have := rv42.2; have := r27.1; have := r27.2; have := rk_2200.1; have := rk_2200.2; have := rk_13200.1; have := rk_13200.2; omega)
        have ht161 := bsame.keep xah158.1 ht14 (by have := rk_20.1; have := rk_20.2; have := rv43.1; have := rv43.2; have := rv42.1; have := rv42.2; have := r27.1; have := r27.2; have := rk_2200.1; have := rk_2200.2; have := rk_13200.1; have := rk_13200.2; omega)
        have ht162 := bsame.keep xah158.1 ht23 (by have := rk_20.1; have := rk_20.2; have := rv43.1; have := rv43.2; have := rv42.1; have := rv42.2; have := r27.1; have := r27.2; have := rk_2200.1; have := rk_2200.2; have := rk_13200.1; have := rk_13200.2; omega)
        refine rn_stk [] rfl ?_
        refine rn_aload_n (i := 0) dX10_heap_115 rfl rfl ?_
        refine rn_iload_n (i := 1) dX10_heap_116 rfl rfl ?_
        refine rn_bipush (v := (20 : Int32)) dX10_heap_117 (by decide) ?_
        refine rn_iadd dX10_heap_119 (rn_topi (2220 : Int32) (by decide) ?_)
        refine rn_iload dX10_heap_120 rfl ?_
        refine rn_bipush (v := (20 : Int32)) dX10_heap_122 (by decide) ?_
        refine rs_addC (13220) (19820) rv43 rk_20 dX10_heap_124 (by decide) (fun v164 ev164 rv164 => ?_)
        refine rn_iload dX10_heap_125 rfl ?_
        refine rs_addR (13220) (19820) rv164 r156 dX10_heap_127 (by decide) (fun v165 ev165 rv165 => ?_)
        refine rn_iload dX10_heap_128 rfl ?_
        refine rn_callV (a := 0) (b := 0) [.int (2220 : Int32), .int v165, .int v34] kl_SGModel_235 dX10_heap_130 q4 (hT159.fr hq4 rfl hl4) rfl (t_X10_move G S w157 hS159.1 o0_ m0_ (2220 : Int32) v165 v34 ⟨by have := rv34.1; have := rv34.2; have := rk_20.1; have := rk_20.2; have := r33.1; have := r33.2; have := rv165.1; have := rv165.2; have := r156.1; have := r156.2; have := rv40.1; have := rv40.2; have := rk_8191.1; have := rk_8191.2; have := rv38.1; have := rv38.2; have := rk_8.1; have := rk_8.2; have := rv164.1; have := rv164.2; have := rv43.1; have := rv43.2; have := rv42.1; have := rv42.2; have := r27.1; have := r27.2; have := rk_2200.1; have := rk_2200.2; have := rk_13200.1; have := rk_13200.2; have := rk_2220.1; have := rk_2220.2; omega, by have := rv34.1; have := rv34.2; have := rk_20.1; have := rk_20.2; have := r33.1; have := r33.2; have := rv165.1; have := rv165.2; have := r156.1; have := r156.2; have := rv40.1; have := rv40.2; have := rk_8191.1; have := rk_8191.2; have := rv38.1; have := rv38.2; have := rk_8.1; have := rk_8.2; have := rv164.1; have := rv164.2; have := rv43.1; have := rv43.2; have := rv42.1; have := rv42.2; have := r27.1; have := r27.2; have := rk_2200.1; have := rk_2200.2; have := rk_13200.1; have := rk_13200.2; have := rk_2220.1; have := rk_2220.2; omega, by have := rv34.1; have := rv34.2; have := rk_20.1; have := rk_20.2; have := r33.1; have := r33.2; have := rv165.1; have := rv165.2; have := r156.1; have := r156.2; have := rv40.1; have := rv40.2; have := rk_8191.1; have := rk_8191.2; have := rv38.1; have := rv38.2; have := rk_8.1; have := rk_8.2; have := rv164.1; have := rv164.2; have := rv43.1; have := rv43.2; have := rv42.1; have := rv42.2; have := r27.1; have := r27.2; have := rk_2200.1; have := rk_2200.2; have := rk_13200.1; have := rk_13200.2; have := rk_2220.1; have := rk_2220.2; omega, by have := rv34.1; have := rv34.2; have := rk_20.1; have := rk_20.2; have := r33.1; have := r33.2; have := rv165.1; have := rv165.2; have := r156.1; have := r156.2; have := rv40.1; have := rv40.2; have := rk_8191.1; have := rk_8191.2; have := rv38.1; have := rv38.2; have := rk_8.1; have := rk_8.2; have := rv164.1; have := rv164.2; have := rv43.1; have := rv43.2; have := rv42.1; have := rv42.2; have := r27.1; have := r27.2; have := rk_2200.1; have := rk_2200.2; have := rk_13200.1; have := rk_13200.2; have := rk_2220.1; have := rk_2220.2; omega⟩) rfl rfl (Nat.le_of_ble_eq_true rfl) (Nat.le_of_ble_eq_true rfl) (Nat.le_of_ble_eq_true rfl) (Nat.le_of_ble_eq_true rfl) (Nat.le_of_ble_eq_true rfl) (Nat.le_of_ble_eq_true rfl) (fun _ _ h => False.elim h) (fun v9 w166 h167 => ?_)
        obtain ⟨hT168, rfl, xah167⟩ := h167
        have hS168 := St.tr hS159 hT168 rfl
        have ht169 := bsame.keep xah167.1 ht160 (by have := rv34.1; have := rv34.2; have := rk_20.1; have := rk_20.2; have := r33.1; have := r33.2; have := rv165.1; have := rv165.2; have := r156.1; have := r156.2; have := rv40.1; have := rv40.2; have := rk_8191.1; have := rk_8191.2; have := rv38.1; have := rv38.2; have := rk_8.1; have := rk_8.2; have := rv164.1; have := rv164.2; have := rv43.1; have := rv43.2; have := rv42.1; have := rv42.2; have := r27.1; have := r27.2; have := rk_2200.1; have := rk_2200.2; have := rk_13200.1; have := rk_13200.2; have := rk_2220.1; have := rk_2220.2; omega)
        have ht170 := bsame.keep xah167.1 ht161 (by have := rv34.1; have := rv34.2; have := rk_20.1; have := rk_20.2; have := r33.1; have := r33.2; have := rv165.1; have := rv165.2; have := r156.1; have := r156.2; have := rv40.1; have := rv40.2; have := rk_8191.1; have := rk_8191.2; have := rv38.1; have := rv38.2; have := rk_8.1; have := rk_8.2; have := rv164.1; have := rv164.2; have := rv43.1; have := rv43.2; have := rv42.1; have := rv42.2; have := r27.1; have := r27.2; have := rk_2200.1; have := rk_2200.2; have := rk_13200.1; have := rk_13200.2; have := rk_2220.1; have := rk_2220.2; omega)
        have ht171 := bsame.keep xah167.1 ht162 (by have := rv34.1; have := rv34.2; have := rk_20.1; have := rk_20.2; have := r33.1; have := r33.2; have := rv165.1; have := rv165.2; have := r156.1; have := r156.2; have := rv40.1; have := rv40.2; have := rk_8191.1; have := rk_8191.2; have := rv38.1; have := rv38.2; have := rk_8.1; have := rk_8.2; have := rv164.1; have := rv164.2; have := rv43.1; have := rv43.2; have := rv42.1; have := rv42.2; have := r27.1; have := r27.2; have := rk_2200.1; have := rk_2200.2; have := rk_13200.1; have := rk_13200.2; have := rk_2220.1; have := rk_2220.2; omega)
        refine rn_stk [] rfl ?_
        refine rn_iconst (v := (0 : Int32)) dX10_heap_133 (by decide) ?_
        refine rn_istore dX10_heap_134 (by decide) [(0, .ref o0_), (1, .int (2200 : Int32)), (2, .int v7), (3, .int v12), (4, .int v17), (5, .int v34), (6, .int v41), (7, .int v43), (8, .int (0 : Int32))] rfl ?_
        have LP173 : ∀ (n : Nat) (w174 : va_W) (x172 : Int32), St G S [73] w166 S w174 → Rg (0) (2039) x172 → (2039 - x172.toInt).toNat = n → Rn G mX10_heap 3 70 0 0 136 [(0, .ref o0_), (1, .int (2200 : Int32)), (2, .int v7), (3, .int v12), (4, .int v17), (5, .int v34), (6, .int v41), (7, .int v43), (8, .int x172)] [] w174 (q_t_X10_heap_2200 G S ws ) := by
          intro n
          induction n using Nat.strongRecOn with
          | _ n ih =>
            intro w174 x172 hT175 r176 hm177
            have ht178 := tw_eq (byt_fr hS168.1 hT175 rfl) ht169
            have ht179 := tw_eq (byt_fr hS168.1 hT175 rfl) ht170
            have ht180 := tw_eq (byt_fr hS168.1 hT175 rfl) ht171
            refine rn_iload dX10_heap_136 rfl ?_
            refine rn_iload dX10_heap_138 rfl ?_
            refine rn_icmp_ge (tgt := 167) dX10_heap_140 (by decide) (fun h181 => ?_) (fun h181 => ?_)
            · have ch181 := cv_le h181
              have hS182 := St.tr hS168 hT175 rfl
              refine rn_aload_n (i := 0) dX10_heap_167 rfl rfl ?_
              refine rn_iload_n (i := 1) dX10_heap_168 rfl rfl ?_
              refine rn_callV (a := 0) (b := 0) [.int (2200 : Int32)] kl_SGModel_155 dX10_heap_169 q4 (hT175.fr hq4 rfl (hT168.fr hq4 rfl (hT159.fr hq4 rfl hl4))) rfl (t_X10_hasMore G S w174 hS182.1 o0_ m0_ (2200 : Int32) (rg_w rk_2200 (by decide) (by decide))) rfl rfl (Nat.le_of_ble_eq_true rfl) (Nat.le_of_ble_eq_true rfl) (Nat.le_of_ble_eq_true rfl) (Nat.le_of_ble_eq_true rfl) (Nat.le_of_ble_eq_true rfl) (Nat.le_of_ble_eq_true rfl) (fun _ _ h => False.elim h) (fun v9 w183 h184 => ?_)
              obtain ⟨rfl, v185, rfl, rv185⟩ := h184
              refine rn_stk [.int v185] rfl ?_
              refine rn_if_ne (tgt := 187) dX10_heap_172 (by decide) (fun h187 => ?_) (fun h187 => ?_)
              · have ch187 := cv_ne h187
                have r188 : Rg (1) (1) v185 := rf_nel ch187 rv185 rk_0 (by decide) (by decide)
                refine rn_aload_n (i := 0) dX10_heap_187 rfl rfl ?_
                refine rn_iload dX10_heap_188 rfl ?_
                refine rn_callV (a := 0) (b := 0) [.int v17] kl_SGModel_304 dX10_heap_190 q4 (hT175.fr hq4 rfl (hT168.fr hq4 rfl (hT159.fr hq4 rfl hl4))) rfl (t_X10_isFull G S w174 hS182.1 o0_ m0_ v17 r27) rfl rfl (Nat.le_of_ble_eq_true rfl) (Nat.le_of_ble_eq_true rfl) (Nat.le_of_ble_eq_true rfl) (Nat.le_of_ble_eq_true rfl) (Nat.le_of_ble_eq_true rfl) (Nat.le_of_ble_eq_true rfl) (fun _ _ h => False.elim h) (fun v9 w189 h190 => ?_)
                obtain ⟨rfl, v191, rfl, rv191⟩ := h190
                refine rn_stk [.int v191] rfl ?_
                refine rn_if_ne (tgt := 199) dX10_heap_193 (by decide) (fun h193 => ?_) (fun h193 => ?_)
                · have ch193 := cv_ne h193
                  have r194 : Rg (1) (1) v191 := rf_nel ch193 rv191 rk_0 (by decide) (by decide)
                  refine rn_aload_n (i := 0) dX10_heap_199 rfl rfl ?_
                  obtain ⟨o195, hx195, m195⟩ := fs_r hf4 36 rfl
                  refine rn_get q4 kg_SGModel_95 (hT175.fr hq4 rfl (hT168.fr hq4 rfl (hT159.fr hq4 rfl hl4))) hx195 dX10_heap_200 ?_
                  refine rn_iload dX10_heap_203 rfl ?_
                  refine rn_iconst (v := (0 : Int32)) dX10_heap_205 (by decide) ?_
                  obtain ⟨q196, f196, hq196, hl196, hf196⟩ := ts_ia hS182.1 m195 hk_67
                  refine rs_zast q196 hS182 hq196 hl196 hf196 hk_67 rfl rfl r27 (by decide) (by decide) (by decide) (by decide) dX10_heap_206 (fun w197 f198 hS198 hl198 hf198 hu198 hn198 => ?_)
                  have ht199 := tw_eq (byt_ne hn198 (ts_ne hq196 hob1 rfl)) ht178
                  have ht200 := tw_eq (byt_ne hn198 (ts_ne hq196 hob1 rfl)) ht179
                  have ht201 := tw_eq (byt_ne hn198 (ts_ne hq196 hob1 rfl)) ht180
                  refine rn_aload_n (i := 0) dX10_heap_207 rfl rfl ?_
                  refine rn_iload dX10_heap_208 rfl ?_
                  refine rn_iload_n (i := 1) dX10_heap_210 rfl rfl ?_
                  refine rn_bipush (v := (20 : Int32)) dX10_heap_211 (by decide) ?_
                  refine rn_aload_n (i := 0) dX10_heap_213 rfl rfl ?_
                  obtain ⟨o202, hx202, m202⟩ := fs_r hf4 39 rfl
                  refine rn_get q4 kg_SGModel_104 ((hn198 _ (ts_ne hq196 hq4 rfl)).trans (hT175.fr hq4 rfl (hT168.fr hq4 rfl (hT159.fr hq4 rfl hl4)))) hx202 dX10_heap_214 ?_
                  refine rn_iload dX10_heap_217 rfl ?_
                  obtain ⟨q203, f203, hq203, hl203, hf203⟩ := ts_ia hS198.1 m202 hk_70
                  refine rs_iald q203 hl203 hf203 rfl r27 (by decide) (by decide) dX10_heap_219 (fun v204 ev204 rv204 => ?_)
                  refine rs_addD (19) (2000) rk_20 rv204 dX10_heap_220 (by decide) (fun v205 ev205 rv205 => ?_)
                  refine rn_callV (a := 0) (b := 0) [.int v43, .int (2200 : Int32), .int v205] kl_SGModel_235 dX10_heap_221 q4 ((hn198 _ (ts_ne hq196 hq4 rfl)).trans (hT175.fr hq4 rfl (hT168.fr hq4 rfl (hT159.fr hq4 rfl hl4)))) rfl (t_X10_move G S w197 hS198.1 o0_ m0_ v43 (2200 : Int32) v205 ⟨by have := rv205.1; have := rv205.2; have := rv204.1; have := rv204.2; have := rk_20.1; have := rk_20.2; have := rk_2200.1; have := rk_2200.2; have := rv43.1; have := rv43.2; have := rv42.1; have := rv42.2; have := r27.1; have := r27.2; have := rk_13200.1; have := rk_13200.2; omega, by have := rv205.1; have := rv205.2; have := rv204.1; have := rv204.2; have := rk_20.1; have := rk_20.2; have := rk_2200.1; have := rk_2200.2; have := rv43.1; have := rv43.2; have := rv42.1; have := rv42.2; have := r27.1; have := r27.2; have := rk_13200.1; have := rk_13200.2; omega, by have := rv205.1; have := rv205.2; have := rv204.1; have := rv204.2; have := rk_20.1; have := rk_20.2; have := rk_2200.1; have := rk_2200.2; have := rv43.1; have := rv43.2; have := rv42.1; have := rv42.2; have := r27.1; have := r27.2; have := rk_13200.1; have := rk_13200.2; omega, by have := rv205.1; have := rv205.2; have := rv204.1; have := rv204.2; have := rk_20.1; have := rk_20.2; have := rk_2200.1; have := rk_2200.2; have := rv43.1; have := rv43.2; have := rv42.1; have := rv42.2; have := r27.1; have := r27.2; have := rk_13200.1; have := rk_13200.2; omega⟩) rfl rfl (Nat.le_of_ble_eq_true rfl) (Nat.le_of_ble_eq_true rfl) (Nat.le_of_ble_eq_true rfl) (Nat.le_of_ble_eq_true rfl) (Nat.le_of_ble_eq_true rfl) (Nat.le_of_ble_eq_true rfl) (fun _ _ h => False.elim h) (fun v9 w206 h207 => ?_)
                  obtain ⟨hT208, rfl, xah207⟩ := h207
                  have hS208 := St.tr hS198 hT208 rfl
                  refine rn_stk [] rfl ?_
                  refine rn_aload_n (i := 0) dX10_heap_224 rfl rfl ?_
                  refine rn_iload_n (i := 1) dX10_heap_225 rfl rfl ?_
                  refine rn_iconst (v := (0 : Int32)) dX10_heap_226 (by decide) ?_
                  refine rn_iconst (v := (0 : Int32)) dX10_heap_227 (by decide) ?_
                  refine rn_callV (a := 0) (b := 0) [.int (2200 : Int32), .int (0 : Int32), .int (0 : Int32)] kl_SGModel_239 dX10_heap_228 q4 (hT208.fr hq4 rfl ((hn198 _ (ts_ne hq196 hq4 rfl)).trans (hT175.fr hq4 rfl (hT168.fr hq4 rfl (hT159.fr hq4 rfl hl4))))) rfl (t_X10_setOffset G S w206 hS208.1 o0_ m0_ (2200 : Int32) (rg_w rk_2200 (by decide) (by decide)) (0 : Int32) (rg_w rk_0 (by decide) (by decide)) (0 : Int32)) rfl rfl (Nat.le_of_ble_eq_true rfl) (Nat.le_of_ble_eq_true rfl) (Nat.le_of_ble_eq_true rfl) (Nat.le_of_ble_eq_true rfl) (Nat.le_of_ble_eq_true rfl) (Nat.le_of_ble_eq_true rfl) (fun _ _ h => False.elim h) (fun v9 w209 h210 => ?_)
                  obtain ⟨hT211, rfl, xah210⟩ := h210
                  have hS211 := St.tr hS208 hT211 rfl
                  refine rn_stk [] rfl ?_
                  refine rn_aload_n (i := 0) dX10_heap_231 rfl rfl ?_
                  refine rn_iload_n (i := 1) dX10_heap_232 rfl rfl ?_
                  refine rn_iconst (v := (2 : Int32)) dX10_heap_233 (by decide) ?_
                  refine rn_iadd dX10_heap_234 (rn_topi (2202 : Int32) (by decide) ?_)
                  refine rn_bipush (v := (20 : Int32)) dX10_heap_235 (by decide) ?_
                  refine rn_aload_n (i := 0) dX10_heap_237 rfl rfl ?_
                  refine rn_get q4 kg_SGModel_104 (hT211.fr hq4 rfl (hT208.fr hq4 rfl ((hn198 _ (ts_ne hq196 hq4 rfl)).trans (hT175.fr hq4 rfl (hT168.fr hq4 rfl (hT159.fr hq4 rfl hl4)))))) hx202 dX10_heap_238 ?_
                  refine rn_iload dX10_heap_241 rfl ?_
                  refine rs_iald q203 (hT211.fr hq203 rfl (hT208.fr hq203 rfl hl203)) hf203 rfl r27 (by decide) (by decide) dX10_heap_243 (fun v213 ev213 rv213 => ?_)
                  refine rs_addD (19) (2000) rk_20 rv213 dX10_heap_244 (by decide) (fun v214 ev214 rv214 => ?_)
                  refine rn_callV (a := 0) (b := 0) [.int (2202 : Int32), .int v214] kl_SGModel_144 dX10_heap_245 q4 (hT211.fr hq4 rfl (hT208.fr hq4 rfl ((hn198 _ (ts_ne hq196 hq4 rfl)).trans (hT175.fr hq4 rfl (hT168.fr hq4 rfl (hT159.fr hq4 rfl hl4)))))) rfl (t_X10_putTwo G S w209 hS211.1 o0_ m0_ (2202 : Int32) (rg_w rk_2202 (by decide) (by decide)) v214) rfl rfl (Nat.le_of_ble_eq_true rfl) (Nat.le_of_ble_eq_true rfl) (Nat.le_of_ble_eq_true rfl) (Nat.le_of_ble_eq_true rfl) (Nat.le_of_ble_eq_true rfl) (Nat.le_of_ble_eq_true rfl) (fun _ _ h => False.elim h) (fun v9 w215 h216 => ?_)
                  obtain ⟨hT217, rfl, xah216⟩ := h216
                  have hS217 := St.tr hS211 hT217 rfl
                  have ht218 : tw (byt w215) 2202 = v214.toInt := xah216.2 2202 (by decide) (by have := rv214.1; omega) (by have := rv214.2; omega)
                  refine rn_stk [] rfl ?_
                  refine rn_iconst (v := (0 : Int32)) dX10_heap_248 (by decide) ?_
                  exact rn_iret dX10_heap_249 rfl rfl (rq_in ⟨hS217, (0 : Int32), rfl, (rg_w rk_0 (by decide) (by decide)), (fun _ => by rw [ht218]; exact ⟨by have := rv214.1; have := rv214.2; have := rv213.1; have := rv213.2; have := rk_20.1; have := rk_20.2; omega, by have := rv214.1; have := rv214.2; have := rv213.1; have := rv213.2; have := rk_20.1; have := rk_20.2; omega⟩)⟩)
                · have ch193 := cv_eq h193
                  have r219 : Rg (0) (0) v191 := rf_eqx ch193 rv191 rk_0 (by decide) (by decide)
                  refine rn_bipush (v := (7 : Int32)) dX10_heap_196 (by decide) ?_
                  exact rn_iret dX10_heap_198 rfl rfl (rq_in ⟨hS182, (7 : Int32), rfl, (rg_w rk_7 (by decide) (by decide)), (fun h => absurd h (by decide))⟩)
              · have ch187 := cv_eq h187
                have r220 : Rg (0) (0) v185 := rf_eqx ch187 rv185 rk_0 (by decide) (by decide)
                refine rn_aload_n (i := 0) dX10_heap_175 rfl rfl ?_
                obtain ⟨o221, hx221, m221⟩ := fs_r hf4 39 rfl
                refine rn_get q4 kg_SGModel_104 (hT175.fr hq4 rfl (hT168.fr hq4 rfl (hT159.fr hq4 rfl hl4))) hx221 dX10_heap_176 ?_
                refine rn_iload dX10_heap_179 rfl ?_
                refine rn_iload dX10_heap_181 rfl ?_
                refine rn_iload dX10_heap_183 rfl ?_
                refine rs_addR (0) (2027) r156 rv34 dX10_heap_185 (by decide) (fun v222 ev222 rv222 => ?_)
                obtain ⟨q223, f223, hq223, hl223, hf223⟩ := ts_ia hS182.1 m221 hk_70
                have r224 : Rg (-1) (1980) v222 := ⟨by have := rv222.1; have := rv222.2; have := rv34.1; have := rv34.2; have := rk_20.1; have := rk_20.2; have := r33.1; have := r33.2; have := r156.1; have := r156.2; have := rv40.1; have := rv40.2; have := rk_8191.1; have := rk_8191.2; have := rv38.1; have := rv38.2; have := rk_8.1; have := rk_8.2; omega, by have := rv222.1; have := rv222.2; have := rv34.1; have := rv34.2; have := rk_20.1; have := rk_20.2; have := r33.1; have := r33.2; have := r156.1; have := r156.2; have := rv40.1; have := rv40.2; have := rk_8191.1; have := rk_8191.2; have := rv38.1; have := rv38.2; have := rk_8.1; have := rk_8.2; omega⟩
                refine rs_iast q223 hS182 hq223 hl223 hf223 hk_70 rfl rfl r27 (by decide) (by decide) r224 dX10_heap_186 (fun w225 f226 hS226 hl226 hf226 hu226 hn226 => ?_)
                have ht227 := tw_eq (byt_ne hn226 (ts_ne hq223 hob1 rfl)) ht178
                have ht228 := tw_eq (byt_ne hn226 (ts_ne hq223 hob1 rfl)) ht179
                have ht229 := tw_eq (byt_ne hn226 (ts_ne hq223 hob1 rfl)) ht180
                refine rn_aload_n (i := 0) dX10_heap_187 rfl rfl ?_
                refine rn_iload dX10_heap_188 rfl ?_
                refine rn_callV (a := 0) (b := 0) [.int v17] kl_SGModel_304 dX10_heap_190 q4 ((hn226 _ (ts_ne hq223 hq4 rfl)).trans (hT175.fr hq4 rfl (hT168.fr hq4 rfl (hT159.fr hq4 rfl hl4)))) rfl (t_X10_isFull G S w225 hS226.1 o0_ m0_ v17 r27) rfl rfl (Nat.le_of_ble_eq_true rfl) (Nat.le_of_ble_eq_true rfl) (Nat.le_of_ble_eq_true rfl) (Nat.le_of_ble_eq_true rfl) (Nat.le_of_ble_eq_true rfl) (Nat.le_of_ble_eq_true rfl) (fun _ _ h => False.elim h) (fun v9 w230 h231 => ?_)
                obtain ⟨rfl, v232, rfl, rv232⟩ := h231
                refine rn_stk [.int v232] rfl ?_
                refine rn_if_ne (tgt := 199) dX10_heap_193 (by decide) (fun h234 => ?_) (fun h234 => ?_)
                · have ch234 := cv_ne h234
                  have r235 : Rg (1) (1) v232 := rf_nel ch234 rv232 rk_0 (by decide) (by decide)
                  refine rn_aload_n (i := 0) dX10_heap_199 rfl rfl ?_
                  obtain ⟨o236, hx236, m236⟩ := fs_r hf4 36 rfl
                  refine rn_get q4 kg_SGModel_95 ((hn226 _ (ts_ne hq223 hq4 rfl)).trans (hT175.fr hq4 rfl (hT168.fr hq4 rfl (hT159.fr hq4 rfl hl4)))) hx236 dX10_heap_200 ?_
                  refine rn_iload dX10_heap_203 rfl ?_
                  refine rn_iconst (v := (0 : Int32)) dX10_heap_205 (by decide) ?_
                  obtain ⟨q237, f237, hq237, hl237, hf237⟩ := ts_ia hS226.1 m236 hk_67
                  refine rs_zast q237 hS226 hq237 hl237 hf237 hk_67 rfl rfl r27 (by decide) (by decide) (by decide) (by decide) dX10_heap_206 (fun w238 f239 hS239 hl239 hf239 hu239 hn239 => ?_)
                  have ht240 := tw_eq (byt_ne hn239 (ts_ne hq237 hob1 rfl)) ht227
                  have ht241 := tw_eq (byt_ne hn239 (ts_ne hq237 hob1 rfl)) ht228
                  have ht242 := tw_eq (byt_ne hn239 (ts_ne hq237 hob1 rfl)) ht229
                  refine rn_aload_n (i := 0) dX10_heap_207 rfl rfl ?_
                  refine rn_iload dX10_heap_208 rfl ?_
                  refine rn_iload_n (i := 1) dX10_heap_210 rfl rfl ?_
                  refine rn_bipush (v := (20 : Int32)) dX10_heap_211 (by decide) ?_
                  refine rn_aload_n (i := 0) dX10_heap_213 rfl rfl ?_
                  refine rn_get q4 kg_SGModel_104 ((hn239 _ (ts_ne hq237 hq4 rfl)).trans ((hn226 _ (ts_ne hq223 hq4 rfl)).trans (hT175.fr hq4 rfl (hT168.fr hq4 rfl (hT159.fr hq4 rfl hl4))))) hx221 dX10_heap_214 ?_
                  refine rn_iload dX10_heap_217 rfl ?_
                  refine rs_iald q223 ((hn239 _ (ts_ne hq237 hq223 rfl)).trans hl226) hf226 rfl r27 (by decide) (by decide) dX10_heap_219 (fun v243 ev243 rv243 => ?_)
                  refine rs_addD (19) (2000) rk_20 rv243 dX10_heap_220 (by decide) (fun v244 ev244 rv244 => ?_)
                  refine rn_callV (a := 0) (b := 0) [.int v43, .int (2200 : Int32), .int v244] kl_SGModel_235 dX10_heap_221 q4 ((hn239 _ (ts_ne hq237 hq4 rfl)).trans ((hn226 _ (ts_ne hq223 hq4 rfl)).trans (hT175.fr hq4 rfl (hT168.fr hq4 rfl (hT159.fr hq4 rfl hl4))))) rfl (t_X10_move G S w238 hS239.1 o0_ m0_ v43 (2200 : Int32) v244 ⟨by have := rv244.1; have := rv244.2; have := rv243.1; have := rv243.2; have := rk_20.1; have := rk_20.2; have := rk_2200.1; have := rk_2200.2; have := rv43.1; have := rv43.2; have := rv42.1; have := rv42.2; have := r27.1; have := r27.2; have := rk_13200.1; have := rk_13200.2; omega, by have := rv244.1; have := rv244.2; have := rv243.1; have := rv243.2; have := rk_20.1; have := rk_20.2; have := rk_2200.1; have := rk_2200.2; have := rv43.1; have := rv43.2; have := rv42.1; have := rv42.2; have := r27.1; have := r27.2; have := rk_13200.1; have := rk_13200.2; omega, by have := rv244.1; have := rv244.2; have := rv243.1; have := rv243.2; have := rk_20.1; have := rk_20.2; have := rk_2200.1; have := rk_2200.2; have := rv43.1; have := rv43.2; have := rv42.1; have := rv42.2; have := r27.1; have := r27.2; have := rk_13200.1; have := rk_13200.2; omega, by have := rv244.1; have := rv244.2; have := rv243.1; have := rv243.2; have := rk_20.1; have := rk_20.2; have := rk_2200.1; have := rk_2200.2; have := rv43.1; have := rv43.2; have := rv42.1; have := rv42.2; have := r27.1; have := r27.2; have := rk_13200.1; have := rk_13200.2; omega⟩) rfl rfl (Nat.le_of_ble_eq_true rfl) (Nat.le_of_ble_eq_true rfl) (Nat.le_of_ble_eq_true rfl) (Nat.le_of_ble_eq_true rfl) (Nat.le_of_ble_eq_true rfl) (Nat.le_of_ble_eq_true rfl) (fun _ _ h => False.elim h) (fun v9 w245 h246 => ?_)
                  obtain ⟨hT247, rfl, xah246⟩ := h246
                  have hS247 := St.tr hS239 hT247 rfl
                  refine rn_stk [] rfl ?_
                  refine rn_aload_n (i := 0) dX10_heap_224 rfl rfl ?_
                  refine rn_iload_n (i := 1) dX10_heap_225 rfl rfl ?_
                  refine rn_iconst (v := (0 : Int32)) dX10_heap_226 (by decide) ?_
                  refine rn_iconst (v := (0 : Int32)) dX10_heap_227 (by decide) ?_
                  refine rn_callV (a := 0) (b := 0) [.int (2200 : Int32), .int (0 : Int32), .int (0 : Int32)] kl_SGModel_239 dX10_heap_228 q4 (hT247.fr hq4 rfl ((hn239 _ (ts_ne hq237 hq4 rfl)).trans ((hn226 _ (ts_ne hq223 hq4 rfl)).trans (hT175.fr hq4 rfl (hT168.fr hq4 rfl (hT159.fr hq4 rfl hl4)))))) rfl (t_X10_setOffset G S w245 hS247.1 o0_ m0_ (2200 : Int32) (rg_w rk_2200 (by decide) (by decide)) (0 : Int32) (rg_w rk_0 (by decide) (by decide)) (0 : Int32)) rfl rfl (Nat.le_of_ble_eq_true rfl) (Nat.le_of_ble_eq_true rfl) (Nat.le_of_ble_eq_true rfl) (Nat.le_of_ble_eq_true rfl) (Nat.le_of_ble_eq_true rfl) (Nat.le_of_ble_eq_true rfl) (fun _ _ h => False.elim h) (fun v9 w248 h249 => ?_)
                  obtain ⟨hT250, rfl, xah249⟩ := h249
                  have hS250 := St.tr hS247 hT250 rfl
                  refine rn_stk [] rfl ?_
                  refine rn_aload_n (i := 0) dX10_heap_231 rfl rfl ?_
                  refine rn_iload_n (i := 1) dX10_heap_232 rfl rfl ?_
                  refine rn_iconst (v := (2 : Int32)) dX10_heap_233 (by decide) ?_
                  refine rn_iadd dX10_heap_234 (rn_topi (2202 : Int32) (by decide) ?_)
                  refine rn_bipush (v := (20 : Int32)) dX10_heap_235 (by decide) ?_
                  refine rn_aload_n (i := 0) dX10_heap_237 rfl rfl ?_
                  refine rn_get q4 kg_SGModel_104 (hT250.fr hq4 rfl (hT247.fr hq4 rfl ((hn239 _ (ts_ne hq237 hq4 rfl)).trans ((hn226 _ (ts_ne hq223 hq4 rfl)).trans (hT175.fr hq4 rfl (hT168.fr hq4 rfl (hT159.fr hq4 rfl hl4))))))) hx221 dX10_heap_238 ?_
                  refine rn_iload dX10_heap_241 rfl ?_
                  refine rs_iald q223 (hT250.fr hq223 rfl (hT247.fr hq223 rfl ((hn239 _ (ts_ne hq237 hq223 rfl)).trans hl226))) hf226 rfl r27 (by decide) (by decide) dX10_heap_243 (fun v252 ev252 rv252 => ?_)
                  refine rs_addD (19) (2000) rk_20 rv252 dX10_heap_244 (by decide) (fun v253 ev253 rv253 => ?_)
                  refine rn_callV (a := 0) (b := 0) [.int (2202 : Int32), .int v253] kl_SGModel_144 dX10_heap_245 q4 (hT250.fr hq4 rfl (hT247.fr hq4 rfl ((hn239 _ (ts_ne hq237 hq4 rfl)).trans ((hn226 _ (ts_ne hq223 hq4 rfl)).trans (hT175.fr hq4 rfl (hT168.fr hq4 rfl (hT159.fr hq4 rfl hl4))))))) rfl (t_X10_putTwo G S w248 hS250.1 o0_ m0_ (2202 : Int32) (rg_w rk_2202 (by decide) (by decide)) v253) rfl rfl (Nat.le_of_ble_eq_true rfl) (Nat.le_of_ble_eq_true rfl) (Nat.le_of_ble_eq_true rfl) (Nat.le_of_ble_eq_true rfl) (Nat.le_of_ble_eq_true rfl) (Nat.le_of_ble_eq_true rfl) (fun _ _ h => False.elim h) (fun v9 w254 h255 => ?_)
                  obtain ⟨hT256, rfl, xah255⟩ := h255
                  have hS256 := St.tr hS250 hT256 rfl
                  have ht257 : tw (byt w254) 2202 = v253.toInt := xah255.2 2202 (by decide) (by have := rv253.1; omega) (by have := rv253.2; omega)
                  refine rn_stk [] rfl ?_
                  refine rn_iconst (v := (0 : Int32)) dX10_heap_248 (by decide) ?_
                  exact rn_iret dX10_heap_249 rfl rfl (rq_in ⟨hS256, (0 : Int32), rfl, (rg_w rk_0 (by decide) (by decide)), (fun _ => by rw [ht257]; exact ⟨by have := rv253.1; have := rv253.2; have := rv252.1; have := rv252.2; have := rk_20.1; have := rk_20.2; omega, by have := rv253.1; have := rv253.2; have := rv252.1; have := rv252.2; have := rk_20.1; have := rk_20.2; omega⟩)⟩)
                · have ch234 := cv_eq h234
                  have r258 : Rg (0) (0) v232 := rf_eqx ch234 rv232 rk_0 (by decide) (by decide)
                  refine rn_bipush (v := (7 : Int32)) dX10_heap_196 (by decide) ?_
                  exact rn_iret dX10_heap_198 rfl rfl (rq_in ⟨hS226, (7 : Int32), rfl, (rg_w rk_7 (by decide) (by decide)), (fun h => absurd h (by decide))⟩)
            · have ch181 := cv_nle h181
              have r259 : Rg (0) (2026) x172 := rf_ltx ch181 r176 rv34 (by decide)
              have r260 : Rg (1) (2027) v34 := rf_lty ch181 r176 rv34 (by decide)
              refine rn_aload_n (i := 0) dX10_heap_143 rfl rfl ?_
              obtain ⟨o261, hx261, m261⟩ := fs_r hf4 42 rfl
              refine rn_get q4 kg_SGModel_113 (hT175.fr hq4 rfl (hT168.fr hq4 rfl (hT159.fr hq4 rfl hl4))) hx261 dX10_heap_144 ?_
              refine rn_sipush (v := (1980 : Int32)) dX10_heap_147 (by decide) ?_
              refine rn_iload dX10_heap_150 rfl ?_
              refine rs_mulD (0) (5940) rk_1980 r27 dX10_heap_152 (by decide) (fun v262 ev262 rv262 => ?_)
              refine rn_iload dX10_heap_153 rfl ?_
              refine rs_addR (0) (5940) rv262 r156 dX10_heap_155 (by decide) (fun v263 ev263 rv263 => ?_)
              refine rn_iload dX10_heap_156 rfl ?_
              refine rs_addR (0) (7966) rv263 r259 dX10_heap_158 (by decide) (fun v264 ev264 rv264 => ?_)
              refine rn_iconst (v := (1 : Int32)) dX10_heap_159 (by decide) ?_
              obtain ⟨q265, f265, hq265, hl265, hf265⟩ := ts_ia hT175.1 m261 hk_73
              have r266 : Rg (0) (7919) v264 := ⟨by have := rv264.1; have := rv264.2; have := r259.1; have := r259.2; have := rv263.1; have := rv263.2; have := r156.1; have := r156.2; have := rv40.1; have := rv40.2; have := rk_8191.1; have := rk_8191.2; have := rv38.1; have := rv38.2; have := rk_8.1; have := rk_8.2; have := rv262.1; have := rv262.2; have := r27.1; have := r27.2; have := rk_1980.1; have := rk_1980.2; omega, by have := rv264.1; have := rv264.2; have := r259.1; have := r259.2; have := rv263.1; have := rv263.2; have := r156.1; have := r156.2; have := rv40.1; have := rv40.2; have := rk_8191.1; have := rk_8191.2; have := rv38.1; have := rv38.2; have := rk_8.1; have := rk_8.2; have := rv262.1; have := rv262.2; have := r27.1; have := r27.2; have := rk_1980.1; have := rk_1980.2; omega⟩
              refine rs_zast q265 hT175 hq265 hl265 hf265 hk_73 rfl rfl r266 (by decide) (by decide) (by decide) (by decide) dX10_heap_160 (fun w267 f268 hS268 hl268 hf268 hu268 hn268 => ?_)
              have ht269 := tw_eq (byt_ne hn268 (ts_ne hq265 hob1 rfl)) ht178
              have ht270 := tw_eq (byt_ne hn268 (ts_ne hq265 hob1 rfl)) ht179
              have ht271 := tw_eq (byt_ne hn268 (ts_ne hq265 hob1 rfl)) ht180
              refine rs_iinc (1) (2027) dX10_heap_161 rfl (by decide) r259 rk_1 (by decide) (fun v272 => [(0, .ref o0_), (1, .int (2200 : Int32)), (2, .int v7), (3, .int v12), (4, .int v17), (5, .int v34), (6, .int v41), (7, .int v43), (8, .int v272)]) (fun _ => rfl) (fun v272 ev272 rv272 => ?_)
              refine rn_goto (tgt := 136) dX10_heap_164 (by decide) ?_
              refine rn_lv [(0, .ref o0_), (1, .int (2200 : Int32)), (2, .int v7), (3, .int v12), (4, .int v17), (5, .int v34), (6, .int v41), (7, .int v43), (8, .int v272)] rfl ?_
              exact ih _ (lp_inc hm177 ev272 rv272 (by decide)) w267 v272 hS268 (rg_w rv272 (by decide) (by decide)) rfl
        exact LP173 _ w166 (0 : Int32) (St.rf hS168.1) (rg_w rk_0 (by decide) (by decide)) rfl
    · have ch26 := cv_nle h26
      have r273 : Rg (-1) (-1) v17 := rf_ltx ch26 rv17 rk_0 (by decide)
      refine rn_aload_n (i := 0) dX10_heap_56 rfl rfl ?_
      refine rn_iload_n (i := 2) dX10_heap_57 rfl rfl ?_
      refine rn_iload_n (i := 3) dX10_heap_58 rfl rfl ?_
      refine rn_callV (a := 0) (b := 0) [.int v7, .int v12] kl_SGModel_301 dX10_heap_59 q4 hl4 rfl (t_X10_newHeap G S ws hS0.1 o0_ m0_ v7 v12) rfl rfl (Nat.le_of_ble_eq_true rfl) (Nat.le_of_ble_eq_true rfl) (Nat.le_of_ble_eq_true rfl) (Nat.le_of_ble_eq_true rfl) (Nat.le_of_ble_eq_true rfl) (Nat.le_of_ble_eq_true rfl) (fun _ _ h => False.elim h) (fun v9 w274 h275 => ?_)
      obtain ⟨hT277, v276, rfl, rv276⟩ := h275
      have hS277 := St.tr hS0 hT277 rfl
      have ht278 := tw_eq (byt_fr hS0.1 hT277 rfl) ht2
      have ht279 := tw_eq (byt_fr hS0.1 hT277 rfl) ht14
      have ht280 := tw_eq (byt_fr hS0.1 hT277 rfl) ht23
      refine rn_stk [.int v276] rfl ?_
      refine rn_goto (tgt := 67) dX10_heap_62 (by decide) ?_
      refine rn_istore dX10_heap_67 (by decide) [(0, .ref o0_), (1, .int (2200 : Int32)), (2, .int v7), (3, .int v12), (4, .int v276)] rfl ?_
      refine rn_aload_n (i := 0) dX10_heap_69 rfl rfl ?_
      refine rn_iload_n (i := 1) dX10_heap_70 rfl rfl ?_
      obtain ⟨q281, fs281, hq281, hl281, hf281⟩ := ts_obj hS277.1 m0_ hk_30
      refine rn_inV (d' := 1) (z' := 21) [.int (2200 : Int32)] kl_SGModel_165 dX10_heap_71 q281 hl281 rfl rfl rfl (Nat.le_of_ble_eq_true rfl) (Nat.le_of_ble_eq_true rfl) (Nat.le_of_ble_eq_true rfl) (Nat.le_of_ble_eq_true rfl) ?_
      refine rn_lv [(0, .ref o0_), (1, .int (2200 : Int32))] rfl ?_
      refine rn_aload_n (i := 0) dX10_lengthOf_0 rfl rfl ?_
      refine rn_iload_n (i := 1) dX10_lengthOf_1 rfl rfl ?_
      refine rn_iconst (v := (2 : Int32)) dX10_lengthOf_2 (by decide) ?_
      refine rn_iadd dX10_lengthOf_3 (rn_topi (2202 : Int32) (by decide) ?_)
      refine rn_callV (a := 0) (b := 0) [.int (2202 : Int32)] kl_SGModel_140 dX10_lengthOf_4 q281 hl281 rfl (t_X10_two G S w274 hS277.1 o0_ m0_ (2202 : Int32) (rg_w rk_2202 (by decide) (by decide))) rfl rfl (Nat.le_of_ble_eq_true rfl) (Nat.le_of_ble_eq_true rfl) (Nat.le_of_ble_eq_true rfl) (Nat.le_of_ble_eq_true rfl) (Nat.le_of_ble_eq_true rfl) (Nat.le_of_ble_eq_true rfl) (fun _ _ h => False.elim h) (fun v9 w283 h284 => ?_)
      obtain ⟨rfl, v285, rfl, rv285, xah284⟩ := h284
      have ev285 : v285.toInt = T2 := (xah284 2202 (by decide)).trans ht278
      have r287 : Rg (20) (2047) v285 := ⟨by have := rv285.1; have := rv285.2; omega, by have := rv285.1; have := rv285.2; omega⟩
      refine rn_stk [.int v285] rfl ?_
      refine rn_iret dX10_lengthOf_7 rfl rfl (rq_in ?_)
      refine rn_stk [.int v285] rfl ?_
      refine rn_bipush (v := (20 : Int32)) dX10_heap_74 (by decide) ?_
      refine rs_subC (0) (2027) r287 rk_20 dX10_heap_76 (by decide) (fun v288 ev288 rv288 => ?_)
      refine rn_istore dX10_heap_77 (by decide) [(0, .ref o0_), (1, .int (2200 : Int32)), (2, .int v7), (3, .int v12), (4, .int v276), (5, .int v288)] rfl ?_
      refine rn_bipush (v := (8 : Int32)) dX10_heap_79 (by decide) ?_
      refine rn_aload_n (i := 0) dX10_heap_81 rfl rfl ?_
      refine rn_iload_n (i := 1) dX10_heap_82 rfl rfl ?_
      refine rn_inV (d' := 1) (z' := 21) [.int (2200 : Int32)] kl_SGModel_159 dX10_heap_83 q281 hl281 rfl rfl rfl (Nat.le_of_ble_eq_true rfl) (Nat.le_of_ble_eq_true rfl) (Nat.le_of_ble_eq_true rfl) (Nat.le_of_ble_eq_true rfl) ?_
      refine rn_lv [(0, .ref o0_), (1, .int (2200 : Int32))] rfl ?_
      refine rn_aload_n (i := 0) dX10_offsetOf_0 rfl rfl ?_
      refine rn_iload_n (i := 1) dX10_offsetOf_1 rfl rfl ?_
      refine rn_bipush (v := (6 : Int32)) dX10_offsetOf_2 (by decide) ?_
      refine rn_iadd dX10_offsetOf_4 (rn_topi (2206 : Int32) (by decide) ?_)
      refine rn_callV (a := 0) (b := 0) [.int (2206 : Int32)] kl_SGModel_140 dX10_offsetOf_5 q281 hl281 rfl (t_X10_two G S w274 hS277.1 o0_ m0_ (2206 : Int32) (rg_w rk_2206 (by decide) (by decide))) rfl rfl (Nat.le_of_ble_eq_true rfl) (Nat.le_of_ble_eq_true rfl) (Nat.le_of_ble_eq_true rfl) (Nat.le_of_ble_eq_true rfl) (Nat.le_of_ble_eq_true rfl) (Nat.le_of_ble_eq_true rfl) (fun _ _ h => False.elim h) (fun v9 w290 h291 => ?_)
      obtain ⟨rfl, v292, rfl, rv292, xah291⟩ := h291
      have ev292 : v292.toInt = T23 := (xah291 2206 (by decide)).trans ht280
      refine rn_stk [.int v292] rfl ?_
      refine rn_sipush (v := (8191 : Int32)) dX10_offsetOf_8 (by decide) ?_
      refine rn_iand dX10_offsetOf_11 (rn_nmE (rg_mask (hi := 8191) 13 8192 rfl rv292 rk_8191 (by decide)) (fun v294 ev294 rv294 => ?_))
      have fv294 : v294.toInt = T23 % 8192 := ev294.trans (congrArg (fun z => z % ((8192 : Nat) : Int)) ev292)
      refine rn_iret dX10_offsetOf_12 rfl rfl (rq_in ?_)
      refine rn_stk [.int v294, .int (8 : Int32)] rfl ?_
      refine rs_mulD (0) (65528) rk_8 rv294 dX10_heap_86 (by decide) (fun v295 ev295 rv295 => ?_)
      refine rn_istore dX10_heap_87 (by decide) [(0, .ref o0_), (1, .int (2200 : Int32)), (2, .int v7), (3, .int v12), (4, .int v276), (5, .int v288), (6, .int v295)] rfl ?_
      refine rn_sipush (v := (13200 : Int32)) dX10_heap_89 (by decide) ?_
      refine rn_sipush (v := (2200 : Int32)) dX10_heap_92 (by decide) ?_
      refine rn_iload dX10_heap_95 rfl ?_
      refine rs_mulD (0) (6600) rk_2200 rv276 dX10_heap_97 (by decide) (fun v296 ev296 rv296 => ?_)
      refine rs_addD (13200) (19800) rk_13200 rv296 dX10_heap_98 (by decide) (fun v297 ev297 rv297 => ?_)
      refine rn_istore dX10_heap_99 (by decide) [(0, .ref o0_), (1, .int (2200 : Int32)), (2, .int v7), (3, .int v12), (4, .int v276), (5, .int v288), (6, .int v295), (7, .int v297)] rfl ?_
      refine rn_iload dX10_heap_101 rfl ?_
      refine rn_if_ne (tgt := 115) dX10_heap_103 (by decide) (fun h298 => ?_) (fun h298 => ?_)
      · have ch298 := cv_ne h298
        have r299 : Rg (1) (65528) v295 := rf_nel ch298 rv295 rk_0 (by decide) (by decide)
        refine rn_aload_n (i := 0) dX10_heap_115 rfl rfl ?_
        refine rn_iload_n (i := 1) dX10_heap_116 rfl rfl ?_
        refine rn_bipush (v := (20 : Int32)) dX10_heap_117 (by decide) ?_
        refine rn_iadd dX10_heap_119 (rn_topi (2220 : Int32) (by decide) ?_)
        refine rn_iload dX10_heap_120 rfl ?_
        refine rn_bipush (v := (20 : Int32)) dX10_heap_122 (by decide) ?_
        refine rs_addC (13220) (19820) rv297 rk_20 dX10_heap_124 (by decide) (fun v301 ev301 rv301 => ?_)
        refine rn_iload dX10_heap_125 rfl ?_
        refine rs_addR (13221) (85348) rv301 r299 dX10_heap_127 (by decide) (fun v302 ev302 rv302 => ?_)
        refine rn_iload dX10_heap_128 rfl ?_
        refine rn_callV (a := 0) (b := 0) [.int (2220 : Int32), .int v302, .int v288] kl_SGModel_235 dX10_heap_130 q281 hl281 rfl (t_X10_move G S w274 hS277.1 o0_ m0_ (2220 : Int32) v302 v288 ⟨by have := rv288.1; have := rv288.2; have := rk_20.1; have := rk_20.2; have := r287.1; have := r287.2; have := rv302.1; have := rv302.2; have := r299.1; have := r299.2; have := rv294.1; have := rv294.2; have := rk_8191.1; have := rk_8191.2; have := rv292.1; have := rv292.2; have := rk_8.1; have := rk_8.2; have := rv301.1; have := rv301.2; have := rv297.1; have := rv297.2; have := rv296.1; have := rv296.2; have := rv276.1; have := rv276.2; have := rk_2200.1; have := rk_2200.2; have := rk_13200.1; have := rk_13200.2; have := rk_2220.1; have := rk_2220.2; omega, by have := rv288.1; have := rv288.2; have := rk_20.1; have := rk_20.2; have := r287.1; have := r287.2; have := rv302.1; have := rv302.2; have := r299.1; have := r299.2; have := rv294.1; have := rv294.2; have := rk_8191.1; have := rk_8191.2; have := rv292.1; have := rv292.2; have := rk_8.1; have := rk_8.2; have := rv301.1; have := rv301.2; have := rv297.1; have := rv297.2; have := rv296.1; have := rv296.2; have := rv276.1; have := rv276.2; have := rk_2200.1; have := rk_2200.2; have := rk_13200.1; have := rk_13200.2; have := rk_2220.1; have := rk_2220.2; omega, by have := rv288.1; have := rv288.2; have := rk_20.1; have := rk_20.2; have := r287.1; have := r287.2; have := rv302.1; have := rv302.2; have := r299.1; have := r299.2; have := rv294.1; have := rv294.2; have := rk_8191.1; have := rk_8191.2; have := rv292.1; have := rv292.2; have := rk_8.1; have := rk_8.2; have := rv301.1; have := rv301.2; have := rv297.1; have := rv297.2; have := rv296.1; have := rv296.2; have := rv276.1; have := rv276.2; have := rk_2200.1; have := rk_2200.2; have := rk_13200.1; have := rk_13200.2; have := rk_2220.1; have := rk_2220.2; omega, by have := rv288.1; have := rv288.2; have := rk_20.1; have := rk_20.2; have := r287.1; have := r287.2; have := rv302.1; have := rv302.2; have := r299.1; have := r299.2; have := rv294.1; have := rv294.2; have := rk_8191.1; have := rk_8191.2; have := rv292.1; have := rv292.2; have := rk_8.1; have := rk_8.2; have := rv301.1; have := rv301.2; have := rv297.1; have := rv297.2; have := rv296.1; have := rv296.2; have := rv276.1; have := rv276.2; have := rk_2200.1; have := rk_2200.2; have := rk_13200.1; have := rk_13200.2; have := rk_2220.1; have := rk_2220.2; omega⟩) rfl rfl (Nat.le_of_ble_eq_true rfl) (Nat.le_of_ble_eq_true rfl) (Nat.le_of_ble_eq_true rfl) (Nat.le_of_ble_eq_true rfl) (Nat.le_of_ble_eq_true rfl) (Nat.le_of_ble_eq_true rfl) (fun _ _ h => False.elim h) (fun v9 w303 h304 => ?_)
        obtain ⟨hT305, rfl, xah304⟩ := h304
        have hS305 := St.tr hS277 hT305 rfl
        have ht306 := bsame.keep xah304.1 ht278 (by have := rv288.1; have := rv288.2; have := rk_20.1; have := rk_20.2; have := r287.1; have := r287.2; have := rv302.1; have := rv302.2; have := r299.1; have := r299.2; have := rv294.1; have := rv294.2; have := rk_8191.1; have := rk_8191.2; have := rv292.1; have := rv292.2; have := rk_8.1; have := rk_8.2; have := rv301.1; have := rv301.2; have := rv297.1; have := rv297.2; have := rv296.1; have := rv296.2; have := rv276.1; have := rv276.2; have := rk_2200.1; have := rk_2200.2; have := rk_13200.1; have := rk_13200.2; have := rk_2220.1; have := rk_2220.2; omega)
        have ht307 := bsame.keep xah304.1 ht279 (by have := rv288.1; have := rv288.2; have := rk_20.1; have := rk_20.2; have := r287.1; have := r287.2; have := rv302.1; have := rv302.2; have := r299.1; have := r299.2; have := rv294.1; have := rv294.2; have := rk_8191.1; have := rk_8191.2; have := rv292.1; have := rv292.2; have := rk_8.1; have := rk_8.2; have := rv301.1; have := rv301.2; have := rv297.1; have := rv297.2; have := rv296.1; have := rv296.2; have := rv276.1; have := rv276.2; have := rk_2200.1; have := rk_2200.2; have := rk_13200.1; have := rk_13200.2; have := rk_2220.1; have := rk_2220.2; omega)
        have ht308 := bsame.keep xah304.1 ht280 (by have := rv288.1; have := rv288.2; have := rk_20.1; have := rk_20.2; have := r287.1; have := r287.2; have := rv302.1; have := rv302.2; have := r299.1; have := r299.2; have := rv294.1; have := rv294.2; have := rk_8191.1; have := rk_8191.2; have := rv292.1; have := rv292.2; have := rk_8.1; have := rk_8.2; have := rv301.1; have := rv301.2; have := rv297.1; have := rv297.2; have := rv296.1; have := rv296.2; have := rv276.1; have := rv276.2; have := rk_2200.1; have := rk_2200.2; have := rk_13200.1; have := rk_13200.2; have := rk_2220.1; have := rk_2220.2; omega)
        refine rn_stk [] rfl ?_
        refine rn_iconst (v := (0 : Int32)) dX10_heap_133 (by decide) ?_
        refine rn_istore dX10_heap_134 (by decide) [(0, .ref o0_), (1, .int (2200 : Int32)), (2, .int v7), (3, .int v12), (4, .int v276), (5, .int v288), (6, .int v295), (7, .int v297), (8, .int (0 : Int32))] rfl ?_
        have LP310 : ∀ (n : Nat) (w311 : va_W) (x309 : Int32), St G S [73] w303 S w311 → Rg (0) (2039) x309 → (2039 - x309.toInt).toNat = n → Rn G mX10_heap 3 70 0 0 136 [(0, .ref o0_), (1, .int (2200 : Int32)), (2, .int v7), (3, .int v12), (4, .int v276), (5, .int v288), (6, .int v295), (7, .int v297), (8, .int x309)] [] w311 (q_t_X10_heap_2200 G S ws ) := by
          intro n
          induction n using Nat.strongRecOn with
          | _ n ih =>
            intro w311 x309 hT312 r313 hm314
            have ht315 := tw_eq (byt_fr hS305.1 hT312 rfl) ht306
            have ht316 := tw_eq (byt_fr hS305.1 hT312 rfl) ht307
            have ht317 := tw_eq (byt_fr hS305.1 hT312 rfl) ht308
            refine rn_iload dX10_heap_136 rfl ?_
            refine rn_iload dX10_heap_138 rfl ?_
            refine rn_icmp_ge (tgt := 167) dX10_heap_140 (by decide) (fun h318 => ?_) (fun h318 => ?_)
            · have ch318 := cv_le h318
              have hS319 := St.tr hS305 hT312 rfl
              refine rn_aload_n (i := 0) dX10_heap_167 rfl rfl ?_
              refine rn_iload_n (i := 1) dX10_heap_168 rfl rfl ?_
              refine rn_callV (a := 0) (b := 0) [.int (2200 : Int32)] kl_SGModel_155 dX10_heap_169 q281 (hT312.fr hq281 rfl (hT305.fr hq281 rfl hl281)) rfl (t_X10_hasMore G S w311 hS319.1 o0_ m0_ (2200 : Int32) (rg_w rk_2200 (by decide) (by decide))) rfl rfl (Nat.le_of_ble_eq_true rfl) (Nat.le_of_ble_eq_true rfl) (Nat.le_of_ble_eq_true rfl) (Nat.le_of_ble_eq_true rfl) (Nat.le_of_ble_eq_true rfl) (Nat.le_of_ble_eq_true rfl) (fun _ _ h => False.elim h) (fun v9 w320 h321 => ?_)
              obtain ⟨rfl, v322, rfl, rv322⟩ := h321
              refine rn_stk [.int v322] rfl ?_
              refine rn_if_ne (tgt := 187) dX10_heap_172 (by decide) (fun h324 => ?_) (fun h324 => ?_)
              · have ch324 := cv_ne h324
                have r325 : Rg (1) (1) v322 := rf_nel ch324 rv322 rk_0 (by decide) (by decide)
                refine rn_aload_n (i := 0) dX10_heap_187 rfl rfl ?_
                refine rn_iload dX10_heap_188 rfl ?_
                refine rn_callV (a := 0) (b := 0) [.int v276] kl_SGModel_304 dX10_heap_190 q281 (hT312.fr hq281 rfl (hT305.fr hq281 rfl hl281)) rfl (t_X10_isFull G S w311 hS319.1 o0_ m0_ v276 rv276) rfl rfl (Nat.le_of_ble_eq_true rfl) (Nat.le_of_ble_eq_true rfl) (Nat.le_of_ble_eq_true rfl) (Nat.le_of_ble_eq_true rfl) (Nat.le_of_ble_eq_true rfl) (Nat.le_of_ble_eq_true rfl) (fun _ _ h => False.elim h) (fun v9 w326 h327 => ?_)
                obtain ⟨rfl, v328, rfl, rv328⟩ := h327
                refine rn_stk [.int v328] rfl ?_
                refine rn_if_ne (tgt := 199) dX10_heap_193 (by decide) (fun h330 => ?_) (fun h330 => ?_)
                · have ch330 := cv_ne h330
                  have r331 : Rg (1) (1) v328 := rf_nel ch330 rv328 rk_0 (by decide) (by decide)
                  refine rn_aload_n (i := 0) dX10_heap_199 rfl rfl ?_
                  obtain ⟨o332, hx332, m332⟩ := fs_r hf281 36 rfl
                  refine rn_get q281 kg_SGModel_95 (hT312.fr hq281 rfl (hT305.fr hq281 rfl hl281)) hx332 dX10_heap_200 ?_
                  refine rn_iload dX10_heap_203 rfl ?_
                  refine rn_iconst (v := (0 : Int32)) dX10_heap_205 (by decide) ?_
                  obtain ⟨q333, f333, hq333, hl333, hf333⟩ := ts_ia hS319.1 m332 hk_67
                  refine rs_zast q333 hS319 hq333 hl333 hf333 hk_67 rfl rfl rv276 (by decide) (by decide) (by decide) (by decide) dX10_heap_206 (fun w334 f335 hS335 hl335 hf335 hu335 hn335 => ?_)
                  have ht336 := tw_eq (byt_ne hn335 (ts_ne hq333 hob1 rfl)) ht315
                  have ht337 := tw_eq (byt_ne hn335 (ts_ne hq333 hob1 rfl)) ht316
                  have ht338 := tw_eq (byt_ne hn335 (ts_ne hq333 hob1 rfl)) ht317
                  refine rn_aload_n (i := 0) dX10_heap_207 rfl rfl ?_
                  refine rn_iload dX10_heap_208 rfl ?_
                  refine rn_iload_n (i := 1) dX10_heap_210 rfl rfl ?_
                  refine rn_bipush (v := (20 : Int32)) dX10_heap_211 (by decide) ?_
                  refine rn_aload_n (i := 0) dX10_heap_213 rfl rfl ?_
                  obtain ⟨o339, hx339, m339⟩ := fs_r hf281 39 rfl
                  refine rn_get q281 kg_SGModel_104 ((hn335 _ (ts_ne hq333 hq281 rfl)).trans (hT312.fr hq281 rfl (hT305.fr hq281 rfl hl281))) hx339 dX10_heap_214 ?_
                  refine rn_iload dX10_heap_217 rfl ?_
                  obtain ⟨q340, f340, hq340, hl340, hf340⟩ := ts_ia hS335.1 m339 hk_70
                  refine rs_iald q340 hl340 hf340 rfl rv276 (by decide) (by decide) dX10_heap_219 (fun v341 ev341 rv341 => ?_)
                  refine rs_addD (19) (2000) rk_20 rv341 dX10_heap_220 (by decide) (fun v342 ev342 rv342 => ?_)
                  refine rn_callV (a := 0) (b := 0) [.int v297, .int (2200 : Int32), .int v342] kl_SGModel_235 dX10_heap_221 q281 ((hn335 _ (ts_ne hq333 hq281 rfl)).trans (hT312.fr hq281 rfl (hT305.fr hq281 rfl hl281))) rfl (t_X10_move G S w334 hS335.1 o0_ m0_ v297 (2200 : Int32) v342 ⟨by have := rv342.1; have := rv342.2; have := rv341.1; have := rv341.2; have := rk_20.1; have := rk_20.2; have := rk_2200.1; have := rk_2200.2; have := rv297.1; have := rv297.2; have := rv296.1; have := rv296.2; have := rv276.1; have := rv276.2; have := rk_13200.1; have := rk_13200.2; omega, by have := rv342.1; have := rv342.2; have := rv341.1; have := rv341.2; have := rk_20.1; have := rk_20.2; have := rk_2200.1; have := rk_2200.2; have := rv297.1; have := rv297.2; have := rv296.1; have := rv296.2; have := rv276.1; have := rv276.2; have := rk_13200.1; have := rk_13200.2; omega, by have := rv342.1; have := rv342.2; have := rv341.1; have := rv341.2; have := rk_20.1; have := rk_20.2; have := rk_2200.1; have := rk_2200.2; have := rv297.1; have := rv297.2; have := rv296.1; have := rv296.2; have := rv276.1; have := rv276.2; have := rk_13200.1; have := rk_13200.2; omega, by have := rv342.1; have := rv342.2; have := rv341.1; have := rv341.2; have := rk_20.1; have := rk_20.2; have := rk_2200.1; have := rk_2200.2; have := rv297.1; have := rv297.2; have := rv296.1; have := rv296.2; have := rv276.1; have := rv276.2; have := rk_13200.1; have := rk_13200.2; omega⟩) rfl rfl (Nat.le_of_ble_eq_true rfl) (Nat.le_of_ble_eq_true rfl) (Nat.le_of_ble_eq_true rfl) (Nat.le_of_ble_eq_true rfl) (Nat.le_of_ble_eq_true rfl) (Nat.le_of_ble_eq_true rfl) (fun _ _ h => False.elim h) (fun v9 w343 h344 => ?_)
                  obtain ⟨hT345, rfl, xah344⟩ := h344
                  have hS345 := St.tr hS335 hT345 rfl
                  refine rn_stk [] rfl ?_
                  refine rn_aload_n (i := 0) dX10_heap_224 rfl rfl ?_
                  refine rn_iload_n (i := 1) dX10_heap_225 rfl rfl ?_
                  refine rn_iconst (v := (0 : Int32)) dX10_heap_226 (by decide) ?_
                  refine rn_iconst (v := (0 : Int32)) dX10_heap_227 (by decide) ?_
                  refine rn_callV (a := 0) (b := 0) [.int (2200 : Int32), .int (0 : Int32), .int (0 : Int32)] kl_SGModel_239 dX10_heap_228 q281 (hT345.fr hq281 rfl ((hn335 _ (ts_ne hq333 hq281 rfl)).trans (hT312.fr hq281 rfl (hT305.fr hq281 rfl hl281)))) rfl (t_X10_setOffset G S w343 hS345.1 o0_ m0_ (2200 : Int32) (rg_w rk_2200 (by decide) (by decide)) (0 : Int32) (rg_w rk_0 (by decide) (by decide)) (0 : Int32)) rfl rfl (Nat.le_of_ble_eq_true rfl) (Nat.le_of_ble_eq_true rfl) (Nat.le_of_ble_eq_true rfl) (Nat.le_of_ble_eq_true rfl) (Nat.le_of_ble_eq_true rfl) (Nat.le_of_ble_eq_true rfl) (fun _ _ h => False.elim h) (fun v9 w346 h347 => ?_)
                  obtain ⟨hT348, rfl, xah347⟩ := h347
                  have hS348 := St.tr hS345 hT348 rfl
                  refine rn_stk [] rfl ?_
                  refine rn_aload_n (i := 0) dX10_heap_231 rfl rfl ?_
                  refine rn_iload_n (i := 1) dX10_heap_232 rfl rfl ?_
                  refine rn_iconst (v := (2 : Int32)) dX10_heap_233 (by decide) ?_
                  refine rn_iadd dX10_heap_234 (rn_topi (2202 : Int32) (by decide) ?_)
                  refine rn_bipush (v := (20 : Int32)) dX10_heap_235 (by decide) ?_
                  refine rn_aload_n (i := 0) dX10_heap_237 rfl rfl ?_
                  refine rn_get q281 kg_SGModel_104 (hT348.fr hq281 rfl (hT345.fr hq281 rfl ((hn335 _ (ts_ne hq333 hq281 rfl)).trans (hT312.fr hq281 rfl (hT305.fr hq281 rfl hl281))))) hx339 dX10_heap_238 ?_
                  refine rn_iload dX10_heap_241 rfl ?_
                  refine rs_iald q340 (hT348.fr hq340 rfl (hT345.fr hq340 rfl hl340)) hf340 rfl rv276 (by decide) (by decide) dX10_heap_243 (fun v350 ev350 rv350 => ?_)
                  refine rs_addD (19) (2000) rk_20 rv350 dX10_heap_244 (by decide) (fun v351 ev351 rv351 => ?_)
                  refine rn_callV (a := 0) (b := 0) [.int (2202 : Int32), .int v351] kl_SGModel_144 dX10_heap_245 q281 (hT348.fr hq281 rfl (hT345.fr hq281 rfl ((hn335 _ (ts_ne hq333 hq281 rfl)).trans (hT312.fr hq281 rfl (hT305.fr hq281 rfl hl281))))) rfl (t_X10_putTwo G S w346 hS348.1 o0_ m0_ (2202 : Int32) (rg_w rk_2202 (by decide) (by decide)) v351) rfl rfl (Nat.le_of_ble_eq_true rfl) (Nat.le_of_ble_eq_true rfl) (Nat.le_of_ble_eq_true rfl) (Nat.le_of_ble_eq_true rfl) (Nat.le_of_ble_eq_true rfl) (Nat.le_of_ble_eq_true rfl) (fun _ _ h => False.elim h) (fun v9 w352 h353 => ?_)
                  obtain ⟨hT354, rfl, xah353⟩ := h353
                  have hS354 := St.tr hS348 hT354 rfl
                  have ht355 : tw (byt w352) 2202 = v351.toInt := xah353.2 2202 (by decide) (by have := rv351.1; omega) (by have := rv351.2; omega)
                  refine rn_stk [] rfl ?_
                  refine rn_iconst (v := (0 : Int32)) dX10_heap_248 (by decide) ?_
                  exact rn_iret dX10_heap_249 rfl rfl (rq_in ⟨hS354, (0 : Int32), rfl, (rg_w rk_0 (by decide) (by decide)), (fun _ => by rw [ht355]; exact ⟨by have := rv351.1; have := rv351.2; have := rv350.1; have := rv350.2; have := rk_20.1; have := rk_20.2; omega, by have := rv351.1; have := rv351.2; have := rv350.1; have := rv350.2; have := rk_20.1; have := rk_20.2; omega⟩)⟩)
                · have ch330 := cv_eq h330
                  have r356 : Rg (0) (0) v328 := rf_eqx ch330 rv328 rk_0 (by decide) (by decide)
                  refine rn_bipush (v := (7 : Int32)) dX10_heap_196 (by decide) ?_
                  exact rn_iret dX10_heap_198 rfl rfl (rq_in ⟨hS319, (7 : Int32), rfl, (rg_w rk_7 (by decide) (by decide)), (fun h => absurd h (by decide))⟩)
              · have ch324 := cv_eq h324
                have r357 : Rg (0) (0) v322 := rf_eqx ch324 rv322 rk_0 (by decide) (by decide)
                refine rn_aload_n (i := 0) dX10_heap_175 rfl rfl ?_
                obtain ⟨o358, hx358, m358⟩ := fs_r hf281 39 rfl
                refine rn_get q281 kg_SGModel_104 (hT312.fr hq281 rfl (hT305.fr hq281 rfl hl281)) hx358 dX10_heap_176 ?_
                refine rn_iload dX10_heap_179 rfl ?_
                refine rn_iload dX10_heap_181 rfl ?_
                refine rn_iload dX10_heap_183 rfl ?_
                refine rs_addR (1) (67555) r299 rv288 dX10_heap_185 (by decide) (fun v359 ev359 rv359 => ?_)
                obtain ⟨q360, f360, hq360, hl360, hf360⟩ := ts_ia hS319.1 m358 hk_70
                have r361 : Rg (-1) (1980) v359 := ⟨by have := rv359.1; have := rv359.2; have := rv288.1; have := rv288.2; have := rk_20.1; have := rk_20.2; have := r287.1; have := r287.2; have := r299.1; have := r299.2; have := rv294.1; have := rv294.2; have := rk_8191.1; have := rk_8191.2; have := rv292.1; have := rv292.2; have := rk_8.1; have := rk_8.2; omega, by have := rv359.1; have := rv359.2; have := rv288.1; have := rv288.2; have := rk_20.1; have := rk_20.2; have := r287.1; have := r287.2; have := r299.1; have := r299.2; have := rv294.1; have := rv294.2; have := rk_8191.1; have := rk_8191.2; have := rv292.1; have := rv292.2; have := rk_8.1; have := rk_8.2; omega⟩
                refine rs_iast q360 hS319 hq360 hl360 hf360 hk_70 rfl rfl rv276 (by decide) (by decide) r361 dX10_heap_186 (fun w362 f363 hS363 hl363 hf363 hu363 hn363 => ?_)
                have ht364 := tw_eq (byt_ne hn363 (ts_ne hq360 hob1 rfl)) ht315
                have ht365 := tw_eq (byt_ne hn363 (ts_ne hq360 hob1 rfl)) ht316
                have ht366 := tw_eq (byt_ne hn363 (ts_ne hq360 hob1 rfl)) ht317
                refine rn_aload_n (i := 0) dX10_heap_187 rfl rfl ?_
                refine rn_iload dX10_heap_188 rfl ?_
                refine rn_callV (a := 0) (b := 0) [.int v276] kl_SGModel_304 dX10_heap_190 q281 ((hn363 _ (ts_ne hq360 hq281 rfl)).trans (hT312.fr hq281 rfl (hT305.fr hq281 rfl hl281))) rfl (t_X10_isFull G S w362 hS363.1 o0_ m0_ v276 rv276) rfl rfl (Nat.le_of_ble_eq_true rfl) (Nat.le_of_ble_eq_true rfl) (Nat.le_of_ble_eq_true rfl) (Nat.le_of_ble_eq_true rfl) (Nat.le_of_ble_eq_true rfl) (Nat.le_of_ble_eq_true rfl) (fun _ _ h => False.elim h) (fun v9 w367 h368 => ?_)
                obtain ⟨rfl, v369, rfl, rv369⟩ := h368
                refine rn_stk [.int v369] rfl ?_
                refine rn_if_ne (tgt := 199) dX10_heap_193 (by decide) (fun h371 => ?_) (fun h371 => ?_)
                · have ch371 := cv_ne h371
                  have r372 : Rg (1) (1) v369 := rf_nel ch371 rv369 rk_0 (by decide) (by decide)
                  refine rn_aload_n (i := 0) dX10_heap_199 rfl rfl ?_
                  obtain ⟨o373, hx373, m373⟩ := fs_r hf281 36 rfl
                  refine rn_get q281 kg_SGModel_95 ((hn363 _ (ts_ne hq360 hq281 rfl)).trans (hT312.fr hq281 rfl (hT305.fr hq281 rfl hl281))) hx373 dX10_heap_200 ?_
                  refine rn_iload dX10_heap_203 rfl ?_
                  refine rn_iconst (v := (0 : Int32)) dX10_heap_205 (by decide) ?_
                  obtain ⟨q374, f374, hq374, hl374, hf374⟩ := ts_ia hS363.1 m373 hk_67
                  refine rs_zast q374 hS363 hq374 hl374 hf374 hk_67 rfl rfl rv276 (by decide) (by decide) (by decide) (by decide) dX10_heap_206 (fun w375 f376 hS376 hl376 hf376 hu376 hn376 => ?_)
                  have ht377 := tw_eq (byt_ne hn376 (ts_ne hq374 hob1 rfl)) ht364
                  have ht378 := tw_eq (byt_ne hn376 (ts_ne hq374 hob1 rfl)) ht365
                  have ht379 := tw_eq (byt_ne hn376 (ts_ne hq374 hob1 rfl)) ht366
                  refine rn_aload_n (i := 0) dX10_heap_207 rfl rfl ?_
                  refine rn_iload dX10_heap_208 rfl ?_
                  refine rn_iload_n (i := 1) dX10_heap_210 rfl rfl ?_
                  refine rn_bipush (v := (20 : Int32)) dX10_heap_211 (by decide) ?_
                  refine rn_aload_n (i := 0) dX10_heap_213 rfl rfl ?_
                  refine rn_get q281 kg_SGModel_104 ((hn376 _ (ts_ne hq374 hq281 rfl)).trans ((hn363 _ (ts_ne hq360 hq281 rfl)).trans (hT312.fr hq281 rfl (hT305.fr hq281 rfl hl281)))) hx358 dX10_heap_214 ?_
                  refine rn_iload dX10_heap_217 rfl ?_
                  refine rs_iald q360 ((hn376 _ (ts_ne hq374 hq360 rfl)).trans hl363) hf363 rfl rv276 (by decide) (by decide) dX10_heap_219 (fun v380 ev380 rv380 => ?_)
                  refine rs_addD (19) (2000) rk_20 rv380 dX10_heap_220 (by decide) (fun v381 ev381 rv381 => ?_)
                  refine rn_callV (a := 0) (b := 0) [.int v297, .int (2200 : Int32), .int v381] kl_SGModel_235 dX10_heap_221 q281 ((hn376 _ (ts_ne hq374 hq281 rfl)).trans ((hn363 _ (ts_ne hq360 hq281 rfl)).trans (hT312.fr hq281 rfl (hT305.fr hq281 rfl hl281)))) rfl (t_X10_move G S w375 hS376.1 o0_ m0_ v297 (2200 : Int32) v381 ⟨by have := rv381.1; have := rv381.2; have := rv380.1; have := rv380.2; have := rk_20.1; have := rk_20.2; have := rk_2200.1; have := rk_2200.2; have := rv297.1; have := rv297.2; have := rv296.1; have := rv296.2; have := rv276.1; have := rv276.2; have := rk_13200.1; have := rk_13200.2; omega, by have := rv381.1; have := rv381.2; have := rv380.1; have := rv380.2; have := rk_20.1; have := rk_20.2; have := rk_2200.1; have := rk_2200.2; have := rv297.1; have := rv297.2; have := rv296.1; have := rv296.2; have := rv276.1; have := rv276.2; have := rk_13200.1; have := rk_13200.2; omega, by have := rv381.1; have := rv381.2; have := rv380.1; have := rv380.2; have := rk_20.1; have := rk_20.2; have := rk_2200.1; have := rk_2200.2; have := rv297.1; have := rv297.2; have := rv296.1; have := rv296.2; have := rv276.1; have := rv276.2; have := rk_13200.1; have := rk_13200.2; omega, by have := rv381.1; have := rv381.2; have := rv380.1; have := rv380.2; have := rk_20.1; have := rk_20.2; have := rk_2200.1; have := rk_2200.2; have := rv297.1; have := rv297.2; have := rv296.1; have := rv296.2; have := rv276.1; have := rv276.2; have := rk_13200.1; have := rk_13200.2; omega⟩) rfl rfl (Nat.le_of_ble_eq_true rfl) (Nat.le_of_ble_eq_true rfl) (Nat.le_of_ble_eq_true rfl) (Nat.le_of_ble_eq_true rfl) (Nat.le_of_ble_eq_true rfl) (Nat.le_of_ble_eq_true rfl) (fun _ _ h => False.elim h) (fun v9 w382 h383 => ?_)
                  obtain ⟨hT384, rfl, xah383⟩ := h383
                  have hS384 := St.tr hS376 hT384 rfl
                  refine rn_stk [] rfl ?_
                  refine rn_aload_n (i := 0) dX10_heap_224 rfl rfl ?_
                  refine rn_iload_n (i := 1) dX10_heap_225 rfl rfl ?_
                  refine rn_iconst (v := (0 : Int32)) dX10_heap_226 (by decide) ?_
                  refine rn_iconst (v := (0 : Int32)) dX10_heap_227 (by decide) ?_
                  refine rn_callV (a := 0) (b := 0) [.int (2200 : Int32), .int (0 : Int32), .int (0 : Int32)] kl_SGModel_239 dX10_heap_228 q281 (hT384.fr hq281 rfl ((hn376 _ (ts_ne hq374 hq281 rfl)).trans ((hn363 _ (ts_ne hq360 hq281 rfl)).trans (hT312.fr hq281 rfl (hT305.fr hq281 rfl hl281))))) rfl (t_X10_setOffset G S w382 hS384.1 o0_ m0_ (2200 : Int32) (rg_w rk_2200 (by decide) (by decide)) (0 : Int32) (rg_w rk_0 (by decide) (by decide)) (0 : Int32)) rfl rfl (Nat.le_of_ble_eq_true rfl) (Nat.le_of_ble_eq_true rfl) (Nat.le_of_ble_eq_true rfl) (Nat.le_of_ble_eq_true rfl) (Nat.le_of_ble_eq_true rfl) (Nat.le_of_ble_eq_true rfl) (fun _ _ h => False.elim h) (fun v9 w385 h386 => ?_)
                  obtain ⟨hT387, rfl, xah386⟩ := h386
                  have hS387 := St.tr hS384 hT387 rfl
                  refine rn_stk [] rfl ?_
                  refine rn_aload_n (i := 0) dX10_heap_231 rfl rfl ?_
                  refine rn_iload_n (i := 1) dX10_heap_232 rfl rfl ?_
                  refine rn_iconst (v := (2 : Int32)) dX10_heap_233 (by decide) ?_
                  refine rn_iadd dX10_heap_234 (rn_topi (2202 : Int32) (by decide) ?_)
                  refine rn_bipush (v := (20 : Int32)) dX10_heap_235 (by decide) ?_
                  refine rn_aload_n (i := 0) dX10_heap_237 rfl rfl ?_
                  refine rn_get q281 kg_SGModel_104 (hT387.fr hq281 rfl (hT384.fr hq281 rfl ((hn376 _ (ts_ne hq374 hq281 rfl)).trans ((hn363 _ (ts_ne hq360 hq281 rfl)).trans (hT312.fr hq281 rfl (hT305.fr hq281 rfl hl281)))))) hx358 dX10_heap_238 ?_
                  refine rn_iload dX10_heap_241 rfl ?_
                  refine rs_iald q360 (hT387.fr hq360 rfl (hT384.fr hq360 rfl ((hn376 _ (ts_ne hq374 hq360 rfl)).trans hl363))) hf363 rfl rv276 (by decide) (by decide) dX10_heap_243 (fun v389 ev389 rv389 => ?_)
                  refine rs_addD (19) (2000) rk_20 rv389 dX10_heap_244 (by decide) (fun v390 ev390 rv390 => ?_)
                  refine rn_callV (a := 0) (b := 0) [.int (2202 : Int32), .int v390] kl_SGModel_144 dX10_heap_245 q281 (hT387.fr hq281 rfl (hT384.fr hq281 rfl ((hn376 _ (ts_ne hq374 hq281 rfl)).trans ((hn363 _ (ts_ne hq360 hq281 rfl)).trans (hT312.fr hq281 rfl (hT305.fr hq281 rfl hl281)))))) rfl (t_X10_putTwo G S w385 hS387.1 o0_ m0_ (2202 : Int32) (rg_w rk_2202 (by decide) (by decide)) v390) rfl rfl (Nat.le_of_ble_eq_true rfl) (Nat.le_of_ble_eq_true rfl) (Nat.le_of_ble_eq_true rfl) (Nat.le_of_ble_eq_true rfl) (Nat.le_of_ble_eq_true rfl) (Nat.le_of_ble_eq_true rfl) (fun _ _ h => False.elim h) (fun v9 w391 h392 => ?_)
                  obtain ⟨hT393, rfl, xah392⟩ := h392
                  have hS393 := St.tr hS387 hT393 rfl
                  have ht394 : tw (byt w391) 2202 = v390.toInt := xah392.2 2202 (by decide) (by have := rv390.1; omega) (by have := rv390.2; omega)
                  refine rn_stk [] rfl ?_
                  refine rn_iconst (v := (0 : Int32)) dX10_heap_248 (by decide) ?_
                  exact rn_iret dX10_heap_249 rfl rfl (rq_in ⟨hS393, (0 : Int32), rfl, (rg_w rk_0 (by decide) (by decide)), (fun _ => by rw [ht394]; exact ⟨by have := rv390.1; have := rv390.2; have := rv389.1; have := rv389.2; have := rk_20.1; have := rk_20.2; omega, by have := rv390.1; have := rv390.2; have := rv389.1; have := rv389.2; have := rk_20.1; have := rk_20.2; omega⟩)⟩)
                · have ch371 := cv_eq h371
                  have r395 : Rg (0) (0) v369 := rf_eqx ch371 rv369 rk_0 (by decide) (by decide)
                  refine rn_bipush (v := (7 : Int32)) dX10_heap_196 (by decide) ?_
                  exact rn_iret dX10_heap_198 rfl rfl (rq_in ⟨hS363, (7 : Int32), rfl, (rg_w rk_7 (by decide) (by decide)), (fun h => absurd h (by decide))⟩)
            · have ch318 := cv_nle h318
              have r396 : Rg (0) (2026) x309 := rf_ltx ch318 r313 rv288 (by decide)
              have r397 : Rg (1) (2027) v288 := rf_lty ch318 r313 rv288 (by decide)
              refine rn_aload_n (i := 0) dX10_heap_143 rfl rfl ?_
              obtain ⟨o398, hx398, m398⟩ := fs_r hf281 42 rfl
              refine rn_get q281 kg_SGModel_113 (hT312.fr hq281 rfl (hT305.fr hq281 rfl hl281)) hx398 dX10_heap_144 ?_
              refine rn_sipush (v := (1980 : Int32)) dX10_heap_147 (by decide) ?_
              refine rn_iload dX10_heap_150 rfl ?_
              refine rs_mulD (0) (5940) rk_1980 rv276 dX10_heap_152 (by decide) (fun v399 ev399 rv399 => ?_)
              refine rn_iload dX10_heap_153 rfl ?_
              refine rs_addR (1) (71468) rv399 r299 dX10_heap_155 (by decide) (fun v400 ev400 rv400 => ?_)
              refine rn_iload dX10_heap_156 rfl ?_
              refine rs_addR (1) (73494) rv400 r396 dX10_heap_158 (by decide) (fun v401 ev401 rv401 => ?_)
              refine rn_iconst (v := (1 : Int32)) dX10_heap_159 (by decide) ?_
              obtain ⟨q402, f402, hq402, hl402, hf402⟩ := ts_ia hT312.1 m398 hk_73
              have r403 : Rg (0) (7919) v401 := ⟨by have := rv401.1; have := rv401.2; have := r396.1; have := r396.2; have := rv400.1; have := rv400.2; have := r299.1; have := r299.2; have := rv294.1; have := rv294.2; have := rk_8191.1; have := rk_8191.2; have := rv292.1; have := rv292.2; have := rk_8.1; have := rk_8.2; have := rv399.1; have := rv399.2; have := rv276.1; have := rv276.2; have := rk_1980.1; have := rk_1980.2; omega, by have := rv401.1; have := rv401.2; have := r396.1; have := r396.2; have := rv400.1; have := rv400.2; have := r299.1; have := r299.2; have := rv294.1; have := rv294.2; have := rk_8191.1; have := rk_8191.2; have := rv292.1; have := rv292.2; have := rk_8.1; have := rk_8.2; have := rv399.1; have := rv399.2; have := rv276.1; have := rv276.2; have := rk_1980.1; have := rk_1980.2; omega⟩
              refine rs_zast q402 hT312 hq402 hl402 hf402 hk_73 rfl rfl r403 (by decide) (by decide) (by decide) (by decide) dX10_heap_160 (fun w404 f405 hS405 hl405 hf405 hu405 hn405 => ?_)
              have ht406 := tw_eq (byt_ne hn405 (ts_ne hq402 hob1 rfl)) ht315
              have ht407 := tw_eq (byt_ne hn405 (ts_ne hq402 hob1 rfl)) ht316
              have ht408 := tw_eq (byt_ne hn405 (ts_ne hq402 hob1 rfl)) ht317
              refine rs_iinc (1) (2027) dX10_heap_161 rfl (by decide) r396 rk_1 (by decide) (fun v409 => [(0, .ref o0_), (1, .int (2200 : Int32)), (2, .int v7), (3, .int v12), (4, .int v276), (5, .int v288), (6, .int v295), (7, .int v297), (8, .int v409)]) (fun _ => rfl) (fun v409 ev409 rv409 => ?_)
              refine rn_goto (tgt := 136) dX10_heap_164 (by decide) ?_
              refine rn_lv [(0, .ref o0_), (1, .int (2200 : Int32)), (2, .int v7), (3, .int v12), (4, .int v276), (5, .int v288), (6, .int v295), (7, .int v297), (8, .int v409)] rfl ?_
              exact ih _ (lp_inc hm314 ev409 rv409 (by decide)) w404 v409 hS405 (rg_w rv409 (by decide) (by decide)) rfl
        exact LP310 _ w303 (0 : Int32) (St.rf hS305.1) (rg_w rk_0 (by decide) (by decide)) rfl
      · have ch298 := cv_eq h298
        have r410 : Rg (0) (0) v295 := rf_eqx ch298 rv295 rk_0 (by decide) (by decide)
        refine rn_aload_n (i := 0) dX10_heap_106 rfl rfl ?_
        refine rn_iload_n (i := 1) dX10_heap_107 rfl rfl ?_
        refine rn_iload dX10_heap_108 rfl ?_
        refine rn_bipush (v := (20 : Int32)) dX10_heap_110 (by decide) ?_
        refine rn_callV (a := 0) (b := 0) [.int (2200 : Int32), .int v297, .int (20 : Int32)] kl_SGModel_235 dX10_heap_112 q281 hl281 rfl (t_X10_move G S w274 hS277.1 o0_ m0_ (2200 : Int32) v297 (20 : Int32) ⟨by have := rk_20.1; have := rk_20.2; have := rv297.1; have := rv297.2; have := rv296.1; have := rv296.2; have := rv276.1; have := rv276.2; have := rk_2200.1; have := rk_2200.2; have := rk_13200.1; have := rk_13200.2; omega, by have := rk_20.1; have := rk_20.2; have := rv297.1; have := rv297.2; have := rv296.1; have := rv296.2; have := rv276.1; have := rv276.2; have := rk_2200.1; have := rk_2200.2; have := rk_13200.1; have := rk_13200.2; omega, by have := rk_20.1; have := rk_20.2; have := rv297.1; have := rv297.2; have := rv296.1; have := rv296.2; have := rv276.1; have := rv276.2; have := rk_2200.1; have := rk_2200.2; have := rk_13200.1; have := rk_13200.2; omega, by have := rk_20.1; have := rk_20.2; have := rv297.1; have := rv297.2; have := rv296.1; have := rv296.2; have := rv276.1; have := rv276.2; have := rk_2200.1; have := rk_2200.2; have := rk_13200.1; have := rk_13200.2; omega⟩) rfl rfl (Nat.le_of_ble_eq_true rfl) (Nat.le_of_ble_eq_true rfl) (Nat.le_of_ble_eq_true rfl) (Nat.le_of_ble_eq_true rfl) (Nat.le_of_ble_eq_true rfl) (Nat.le_of_ble_eq_true rfl) (fun _ _ h => False.elim h) (fun v9 w411 h412 => ?_)
        obtain ⟨hT413, rfl, xah412⟩ := h412
        have hS413 := St.tr hS277 hT413 rfl
        have ht414 := bsame.keep xah412.1 ht278 (by have := rk_20.1; have := rk_20.2; have := rv297.1; have := rv297.2; have := rv296.1; have := rv296.2; have := rv276.1; have := rv276.2; have := rk_2200.1; have := rk_2200.2; have := rk_13200.1; have := rk_13200.2; omega)
        have ht415 := bsame.keep xah412.1 ht279 (by have := rk_20.1; have := rk_20.2; have := rv297.1; have := rv297.2; have := rv296.1; have := rv296.2; have := rv276.1; have := rv276.2; have := rk_2200.1; have := rk_2200.2; have := rk_13200.1; have := rk_13200.2; omega)
        have ht416 := bsame.keep xah412.1 ht280 (by have := rk_20.1; have := rk_20.2; have := rv297.1; have := rv297.2; have := rv296.1; have := rv296.2; have := rv276.1; have := rv276.2; have := rk_2200.1; have := rk_2200.2; have := rk_13200.1; have := rk_13200.2; omega)
        refine rn_stk [] rfl ?_
        refine rn_aload_n (i := 0) dX10_heap_115 rfl rfl ?_
        refine rn_iload_n (i := 1) dX10_heap_116 rfl rfl ?_
        refine rn_bipush (v := (20 : Int32)) dX10_heap_117 (by decide) ?_
        refine rn_iadd dX10_heap_119 (rn_topi (2220 : Int32) (by decide) ?_)
        refine rn_iload dX10_heap_120 rfl ?_
        refine rn_bipush (v := (20 : Int32)) dX10_heap_122 (by decide) ?_
        refine rs_addC (13220) (19820) rv297 rk_20 dX10_heap_124 (by decide) (fun v418 ev418 rv418 => ?_)
        refine rn_iload dX10_heap_125 rfl ?_
        refine rs_addR (13220) (19820) rv418 r410 dX10_heap_127 (by decide) (fun v419 ev419 rv419 => ?_)
        refine rn_iload dX10_heap_128 rfl ?_
        refine rn_callV (a := 0) (b := 0) [.int (2220 : Int32), .int v419, .int v288] kl_SGModel_235 dX10_heap_130 q281 (hT413.fr hq281 rfl hl281) rfl (t_X10_move G S w411 hS413.1 o0_ m0_ (2220 : Int32) v419 v288 ⟨by have := rv288.1; have := rv288.2; have := rk_20.1; have := rk_20.2; have := r287.1; have := r287.2; have := rv419.1; have := rv419.2; have := r410.1; have := r410.2; have := rv294.1; have := rv294.2; have := rk_8191.1; have := rk_8191.2; have := rv292.1; have := rv292.2; have := rk_8.1; have := rk_8.2; have := rv418.1; have := rv418.2; have := rv297.1; have := rv297.2; have := rv296.1; have := rv296.2; have := rv276.1; have := rv276.2; have := rk_2200.1; have := rk_2200.2; have := rk_13200.1; have := rk_13200.2; have := rk_2220.1; have := rk_2220.2; omega, by have := rv288.1; have := rv288.2; have := rk_20.1; have := rk_20.2; have := r287.1; have := r287.2; have := rv419.1; have := rv419.2; have := r410.1; have := r410.2; have := rv294.1; have := rv294.2; have := rk_8191.1; have := rk_8191.2; have := rv292.1; have := rv292.2; have := rk_8.1; have := rk_8.2; have := rv418.1; have := rv418.2; have := rv297.1; have := rv297.2; have := rv296.1; have := rv296.2; have := rv276.1; have := rv276.2; have := rk_2200.1; have := rk_2200.2; have := rk_13200.1; have := rk_13200.2; have := rk_2220.1; have := rk_2220.2; omega, by have := rv288.1; have := rv288.2; have := rk_20.1; have := rk_20.2; have := r287.1; have := r287.2; have := rv419.1; have := rv419.2; have := r410.1; have := r410.2; have := rv294.1; have := rv294.2; have := rk_8191.1; have := rk_8191.2; have := rv292.1; have := rv292.2; have := rk_8.1; have := rk_8.2; have := rv418.1; have := rv418.2; have := rv297.1; have := rv297.2; have := rv296.1; have := rv296.2; have := rv276.1; have := rv276.2; have := rk_2200.1; have := rk_2200.2; have := rk_13200.1; have := rk_13200.2; have := rk_2220.1; have := rk_2220.2; omega, by have := rv288.1; have := rv288.2; have := rk_20.1; have := rk_20.2; have := r287.1; have := r287.2; have := rv419.1; have := rv419.2; have := r410.1; have := r410.2; have := rv294.1; have := rv294.2; have := rk_8191.1; have := rk_8191.2; have := rv292.1; have := rv292.2; have := rk_8.1; have := rk_8.2; have := rv418.1; have := rv418.2; have := rv297.1; have := rv297.2; have := rv296.1; have := rv296.2; have := rv276.1; have := rv276.2; have := rk_2200.1; have := rk_2200.2; have := rk_13200.1; have := rk_13200.2; have := rk_2220.1; have := rk_2220.2; omega⟩) rfl rfl (Nat.le_of_ble_eq_true rfl) (Nat.le_of_ble_eq_true rfl) (Nat.le_of_ble_eq_true rfl) (Nat.le_of_ble_eq_true rfl) (Nat.le_of_ble_eq_true rfl) (Nat.le_of_ble_eq_true rfl) (fun _ _ h => False.elim h) (fun v9 w420 h421 => ?_)
        obtain ⟨hT422, rfl, xah421⟩ := h421
        have hS422 := St.tr hS413 hT422 rfl
        have ht423 := bsame.keep xah421.1 ht414 (by have := rv288.1; have := rv288.2; have := rk_20.1; have := rk_20.2; have := r287.1; have := r287.2; have := rv419.1; have := rv419.2; have := r410.1; have := r410.2; have := rv294.1; have := rv294.2; have := rk_8191.1; have := rk_8191.2; have := rv292.1; have := rv292.2; have := rk_8.1; have := rk_8.2; have := rv418.1; have := rv418.2; have := rv297.1; have := rv297.2; have := rv296.1; have := rv296.2; have := rv276.1; have := rv276.2; have := rk_2200.1; have := rk_2200.2; have := rk_13200.1; have := rk_13200.2; have := rk_2220.1; have := rk_2220.2; omega)
        have ht424 := bsame.keep xah421.1 ht415 (by have := rv288.1; have := rv288.2; have := rk_20.1; have := rk_20.2; have := r287.1; have := r287.2; have := rv419.1; have := rv419.2; have := r410.1; have := r410.2; have := rv294.1; have := rv294.2; have := rk_8191.1; have := rk_8191.2; have := rv292.1; have := rv292.2; have := rk_8.1; have := rk_8.2; have := rv418.1; have := rv418.2; have := rv297.1; have := rv297.2; have := rv296.1; have := rv296.2; have := rv276.1; have := rv276.2; have := rk_2200.1; have := rk_2200.2; have := rk_13200.1; have := rk_13200.2; have := rk_2220.1; have := rk_2220.2; omega)
        have ht425 := bsame.keep xah421.1 ht416 (by have := rv288.1; have := rv288.2; have := rk_20.1; have := rk_20.2; have := r287.1; have := r287.2; have := rv419.1; have := rv419.2; have := r410.1; have := r410.2; have := rv294.1; have := rv294.2; have := rk_8191.1; have := rk_8191.2; have := rv292.1; have := rv292.2; have := rk_8.1; have := rk_8.2; have := rv418.1; have := rv418.2; have := rv297.1; have := rv297.2; have := rv296.1; have := rv296.2; have := rv276.1; have := rv276.2; have := rk_2200.1; have := rk_2200.2; have := rk_13200.1; have := rk_13200.2; have := rk_2220.1; have := rk_2220.2; omega)
        refine rn_stk [] rfl ?_
        refine rn_iconst (v := (0 : Int32)) dX10_heap_133 (by decide) ?_
        refine rn_istore dX10_heap_134 (by decide) [(0, .ref o0_), (1, .int (2200 : Int32)), (2, .int v7), (3, .int v12), (4, .int v276), (5, .int v288), (6, .int v295), (7, .int v297), (8, .int (0 : Int32))] rfl ?_
        have LP427 : ∀ (n : Nat) (w428 : va_W) (x426 : Int32), St G S [73] w420 S w428 → Rg (0) (2039) x426 → (2039 - x426.toInt).toNat = n → Rn G mX10_heap 3 70 0 0 136 [(0, .ref o0_), (1, .int (2200 : Int32)), (2, .int v7), (3, .int v12), (4, .int v276), (5, .int v288), (6, .int v295), (7, .int v297), (8, .int x426)] [] w428 (q_t_X10_heap_2200 G S ws ) := by
          intro n
          induction n using Nat.strongRecOn with
          | _ n ih =>
            intro w428 x426 hT429 r430 hm431
            have ht432 := tw_eq (byt_fr hS422.1 hT429 rfl) ht423
            have ht433 := tw_eq (byt_fr hS422.1 hT429 rfl) ht424
            have ht434 := tw_eq (byt_fr hS422.1 hT429 rfl) ht425
            refine rn_iload dX10_heap_136 rfl ?_
            refine rn_iload dX10_heap_138 rfl ?_
            refine rn_icmp_ge (tgt := 167) dX10_heap_140 (by decide) (fun h435 => ?_) (fun h435 => ?_)
            · have ch435 := cv_le h435
              have hS436 := St.tr hS422 hT429 rfl
              refine rn_aload_n (i := 0) dX10_heap_167 rfl rfl ?_
              refine rn_iload_n (i := 1) dX10_heap_168 rfl rfl ?_
              refine rn_callV (a := 0) (b := 0) [.int (2200 : Int32)] kl_SGModel_155 dX10_heap_169 q281 (hT429.fr hq281 rfl (hT422.fr hq281 rfl (hT413.fr hq281 rfl hl281))) rfl (t_X10_hasMore G S w428 hS436.1 o0_ m0_ (2200 : Int32) (rg_w rk_2200 (by decide) (by decide))) rfl rfl (Nat.le_of_ble_eq_true rfl) (Nat.le_of_ble_eq_true rfl) (Nat.le_of_ble_eq_true rfl) (Nat.le_of_ble_eq_true rfl) (Nat.le_of_ble_eq_true rfl) (Nat.le_of_ble_eq_true rfl) (fun _ _ h => False.elim h) (fun v9 w437 h438 => ?_)
              obtain ⟨rfl, v439, rfl, rv439⟩ := h438
              refine rn_stk [.int v439] rfl ?_
              refine rn_if_ne (tgt := 187) dX10_heap_172 (by decide) (fun h441 => ?_) (fun h441 => ?_)
              · have ch441 := cv_ne h441
                have r442 : Rg (1) (1) v439 := rf_nel ch441 rv439 rk_0 (by decide) (by decide)
                refine rn_aload_n (i := 0) dX10_heap_187 rfl rfl ?_
                refine rn_iload dX10_heap_188 rfl ?_
                refine rn_callV (a := 0) (b := 0) [.int v276] kl_SGModel_304 dX10_heap_190 q281 (hT429.fr hq281 rfl (hT422.fr hq281 rfl (hT413.fr hq281 rfl hl281))) rfl (t_X10_isFull G S w428 hS436.1 o0_ m0_ v276 rv276) rfl rfl (Nat.le_of_ble_eq_true rfl) (Nat.le_of_ble_eq_true rfl) (Nat.le_of_ble_eq_true rfl) (Nat.le_of_ble_eq_true rfl) (Nat.le_of_ble_eq_true rfl) (Nat.le_of_ble_eq_true rfl) (fun _ _ h => False.elim h) (fun v9 w443 h444 => ?_)
                obtain ⟨rfl, v445, rfl, rv445⟩ := h444
                refine rn_stk [.int v445] rfl ?_
                refine rn_if_ne (tgt := 199) dX10_heap_193 (by decide) (fun h447 => ?_) (fun h447 => ?_)
                · have ch447 := cv_ne h447
                  have r448 : Rg (1) (1) v445 := rf_nel ch447 rv445 rk_0 (by decide) (by decide)
                  refine rn_aload_n (i := 0) dX10_heap_199 rfl rfl ?_
                  obtain ⟨o449, hx449, m449⟩ := fs_r hf281 36 rfl
                  refine rn_get q281 kg_SGModel_95 (hT429.fr hq281 rfl (hT422.fr hq281 rfl (hT413.fr hq281 rfl hl281))) hx449 dX10_heap_200 ?_
                  refine rn_iload dX10_heap_203 rfl ?_
                  refine rn_iconst (v := (0 : Int32)) dX10_heap_205 (by decide) ?_
                  obtain ⟨q450, f450, hq450, hl450, hf450⟩ := ts_ia hS436.1 m449 hk_67
                  refine rs_zast q450 hS436 hq450 hl450 hf450 hk_67 rfl rfl rv276 (by decide) (by decide) (by decide) (by decide) dX10_heap_206 (fun w451 f452 hS452 hl452 hf452 hu452 hn452 => ?_)
                  have ht453 := tw_eq (byt_ne hn452 (ts_ne hq450 hob1 rfl)) ht432
                  have ht454 := tw_eq (byt_ne hn452 (ts_ne hq450 hob1 rfl)) ht433
                  have ht455 := tw_eq (byt_ne hn452 (ts_ne hq450 hob1 rfl)) ht434
                  refine rn_aload_n (i := 0) dX10_heap_207 rfl rfl ?_
                  refine rn_iload dX10_heap_208 rfl ?_
                  refine rn_iload_n (i := 1) dX10_heap_210 rfl rfl ?_
                  refine rn_bipush (v := (20 : Int32)) dX10_heap_211 (by decide) ?_
                  refine rn_aload_n (i := 0) dX10_heap_213 rfl rfl ?_
                  obtain ⟨o456, hx456, m456⟩ := fs_r hf281 39 rfl
                  refine rn_get q281 kg_SGModel_104 ((hn452 _ (ts_ne hq450 hq281 rfl)).trans (hT429.fr hq281 rfl (hT422.fr hq281 rfl (hT413.fr hq281 rfl hl281)))) hx456 dX10_heap_214 ?_
                  refine rn_iload dX10_heap_217 rfl ?_
                  obtain ⟨q457, f457, hq457, hl457, hf457⟩ := ts_ia hS452.1 m456 hk_70
                  refine rs_iald q457 hl457 hf457 rfl rv276 (by decide) (by decide) dX10_heap_219 (fun v458 ev458 rv458 => ?_)
                  refine rs_addD (19) (2000) rk_20 rv458 dX10_heap_220 (by decide) (fun v459 ev459 rv459 => ?_)
                  refine rn_callV (a := 0) (b := 0) [.int v297, .int (2200 : Int32), .int v459] kl_SGModel_235 dX10_heap_221 q281 ((hn452 _ (ts_ne hq450 hq281 rfl)).trans (hT429.fr hq281 rfl (hT422.fr hq281 rfl (hT413.fr hq281 rfl hl281)))) rfl (t_X10_move G S w451 hS452.1 o0_ m0_ v297 (2200 : Int32) v459 ⟨by have := rv459.1; have := rv459.2; have := rv458.1; have := rv458.2; have := rk_20.1; have := rk_20.2; have := rk_2200.1; have := rk_2200.2; have := rv297.1; have := rv297.2; have := rv296.1; have := rv296.2; have := rv276.1; have := rv276.2; have := rk_13200.1; have := rk_13200.2; omega, by have := rv459.1; have := rv459.2; have := rv458.1; have := rv458.2; have := rk_20.1; have := rk_20.2; have := rk_2200.1; have := rk_2200.2; have := rv297.1; have := rv297.2; have := rv296.1; have := rv296.2; have := rv276.1; have := rv276.2; have := rk_13200.1; have := rk_13200.2; omega, by have := rv459.1; have := rv459.2; have := rv458.1; have := rv458.2; have := rk_20.1; have := rk_20.2; have := rk_2200.1; have := rk_2200.2; have := rv297.1; have := rv297.2; have := rv296.1; have := rv296.2; have := rv276.1; have := rv276.2; have := rk_13200.1; have := rk_13200.2; omega, by have := rv459.1; have := rv459.2; have := rv458.1; have := rv458.2; have := rk_20.1; have := rk_20.2; have := rk_2200.1; have := rk_2200.2; have := rv297.1; have := rv297.2; have := rv296.1; have := rv296.2; have := rv276.1; have := rv276.2; have := rk_13200.1; have := rk_13200.2; omega⟩) rfl rfl (Nat.le_of_ble_eq_true rfl) (Nat.le_of_ble_eq_true rfl) (Nat.le_of_ble_eq_true rfl) (Nat.le_of_ble_eq_true rfl) (Nat.le_of_ble_eq_true rfl) (Nat.le_of_ble_eq_true rfl) (fun _ _ h => False.elim h) (fun v9 w460 h461 => ?_)
                  obtain ⟨hT462, rfl, xah461⟩ := h461
                  have hS462 := St.tr hS452 hT462 rfl
                  refine rn_stk [] rfl ?_
                  refine rn_aload_n (i := 0) dX10_heap_224 rfl rfl ?_
                  refine rn_iload_n (i := 1) dX10_heap_225 rfl rfl ?_
                  refine rn_iconst (v := (0 : Int32)) dX10_heap_226 (by decide) ?_
                  refine rn_iconst (v := (0 : Int32)) dX10_heap_227 (by decide) ?_
                  refine rn_callV (a := 0) (b := 0) [.int (2200 : Int32), .int (0 : Int32), .int (0 : Int32)] kl_SGModel_239 dX10_heap_228 q281 (hT462.fr hq281 rfl ((hn452 _ (ts_ne hq450 hq281 rfl)).trans (hT429.fr hq281 rfl (hT422.fr hq281 rfl (hT413.fr hq281 rfl hl281))))) rfl (t_X10_setOffset G S w460 hS462.1 o0_ m0_ (2200 : Int32) (rg_w rk_2200 (by decide) (by decide)) (0 : Int32) (rg_w rk_0 (by decide) (by decide)) (0 : Int32)) rfl rfl (Nat.le_of_ble_eq_true rfl) (Nat.le_of_ble_eq_true rfl) (Nat.le_of_ble_eq_true rfl) (Nat.le_of_ble_eq_true rfl) (Nat.le_of_ble_eq_true rfl) (Nat.le_of_ble_eq_true rfl) (fun _ _ h => False.elim h) (fun v9 w463 h464 => ?_)
                  obtain ⟨hT465, rfl, xah464⟩ := h464
                  have hS465 := St.tr hS462 hT465 rfl
                  refine rn_stk [] rfl ?_
                  refine rn_aload_n (i := 0) dX10_heap_231 rfl rfl ?_
                  refine rn_iload_n (i := 1) dX10_heap_232 rfl rfl ?_
                  refine rn_iconst (v := (2 : Int32)) dX10_heap_233 (by decide) ?_
                  refine rn_iadd dX10_heap_234 (rn_topi (2202 : Int32) (by decide) ?_)
                  refine rn_bipush (v := (20 : Int32)) dX10_heap_235 (by decide) ?_
                  refine rn_aload_n (i := 0) dX10_heap_237 rfl rfl ?_
                  refine rn_get q281 kg_SGModel_104 (hT465.fr hq281 rfl (hT462.fr hq281 rfl ((hn452 _ (ts_ne hq450 hq281 rfl)).trans (hT429.fr hq281 rfl (hT422.fr hq281 rfl (hT413.fr hq281 rfl hl281)))))) hx456 dX10_heap_238 ?_
                  refine rn_iload dX10_heap_241 rfl ?_
                  refine rs_iald q457 (hT465.fr hq457 rfl (hT462.fr hq457 rfl hl457)) hf457 rfl rv276 (by decide) (by decide) dX10_heap_243 (fun v467 ev467 rv467 => ?_)
                  refine rs_addD (19) (2000) rk_20 rv467 dX10_heap_244 (by decide) (fun v468 ev468 rv468 => ?_)
                  refine rn_callV (a := 0) (b := 0) [.int (2202 : Int32), .int v468] kl_SGModel_144 dX10_heap_245 q281 (hT465.fr hq281 rfl (hT462.fr hq281 rfl ((hn452 _ (ts_ne hq450 hq281 rfl)).trans (hT429.fr hq281 rfl (hT422.fr hq281 rfl (hT413.fr hq281 rfl hl281)))))) rfl (t_X10_putTwo G S w463 hS465.1 o0_ m0_ (2202 : Int32) (rg_w rk_2202 (by decide) (by decide)) v468) rfl rfl (Nat.le_of_ble_eq_true rfl) (Nat.le_of_ble_eq_true rfl) (Nat.le_of_ble_eq_true rfl) (Nat.le_of_ble_eq_true rfl) (Nat.le_of_ble_eq_true rfl) (Nat.le_of_ble_eq_true rfl) (fun _ _ h => False.elim h) (fun v9 w469 h470 => ?_)
                  obtain ⟨hT471, rfl, xah470⟩ := h470
                  have hS471 := St.tr hS465 hT471 rfl
                  have ht472 : tw (byt w469) 2202 = v468.toInt := xah470.2 2202 (by decide) (by have := rv468.1; omega) (by have := rv468.2; omega)
                  refine rn_stk [] rfl ?_
                  refine rn_iconst (v := (0 : Int32)) dX10_heap_248 (by decide) ?_
                  exact rn_iret dX10_heap_249 rfl rfl (rq_in ⟨hS471, (0 : Int32), rfl, (rg_w rk_0 (by decide) (by decide)), (fun _ => by rw [ht472]; exact ⟨by have := rv468.1; have := rv468.2; have := rv467.1; have := rv467.2; have := rk_20.1; have := rk_20.2; omega, by have := rv468.1; have := rv468.2; have := rv467.1; have := rv467.2; have := rk_20.1; have := rk_20.2; omega⟩)⟩)
                · have ch447 := cv_eq h447
                  have r473 : Rg (0) (0) v445 := rf_eqx ch447 rv445 rk_0 (by decide) (by decide)
                  refine rn_bipush (v := (7 : Int32)) dX10_heap_196 (by decide) ?_
                  exact rn_iret dX10_heap_198 rfl rfl (rq_in ⟨hS436, (7 : Int32), rfl, (rg_w rk_7 (by decide) (by decide)), (fun h => absurd h (by decide))⟩)
              · have ch441 := cv_eq h441
                have r474 : Rg (0) (0) v439 := rf_eqx ch441 rv439 rk_0 (by decide) (by decide)
                refine rn_aload_n (i := 0) dX10_heap_175 rfl rfl ?_
                obtain ⟨o475, hx475, m475⟩ := fs_r hf281 39 rfl
                refine rn_get q281 kg_SGModel_104 (hT429.fr hq281 rfl (hT422.fr hq281 rfl (hT413.fr hq281 rfl hl281))) hx475 dX10_heap_176 ?_
                refine rn_iload dX10_heap_179 rfl ?_
                refine rn_iload dX10_heap_181 rfl ?_
                refine rn_iload dX10_heap_183 rfl ?_
                refine rs_addR (0) (2027) r410 rv288 dX10_heap_185 (by decide) (fun v476 ev476 rv476 => ?_)
                obtain ⟨q477, f477, hq477, hl477, hf477⟩ := ts_ia hS436.1 m475 hk_70
                have r478 : Rg (-1) (1980) v476 := ⟨by have := rv476.1; have := rv476.2; have := rv288.1; have := rv288.2; have := rk_20.1; have := rk_20.2; have := r287.1; have := r287.2; have := r410.1; have := r410.2; have := rv294.1; have := rv294.2; have := rk_8191.1; have := rk_8191.2; have := rv292.1; have := rv292.2; have := rk_8.1; have := rk_8.2; omega, by have := rv476.1; have := rv476.2; have := rv288.1; have := rv288.2; have := rk_20.1; have := rk_20.2; have := r287.1; have := r287.2; have := r410.1; have := r410.2; have := rv294.1; have := rv294.2; have := rk_8191.1; have := rk_8191.2; have := rv292.1; have := rv292.2; have := rk_8.1; have := rk_8.2; omega⟩
                refine rs_iast q477 hS436 hq477 hl477 hf477 hk_70 rfl rfl rv276 (by decide) (by decide) r478 dX10_heap_186 (fun w479 f480 hS480 hl480 hf480 hu480 hn480 => ?_)
                have ht481 := tw_eq (byt_ne hn480 (ts_ne hq477 hob1 rfl)) ht432
                have ht482 := tw_eq (byt_ne hn480 (ts_ne hq477 hob1 rfl)) ht433
                have ht483 := tw_eq (byt_ne hn480 (ts_ne hq477 hob1 rfl)) ht434
                refine rn_aload_n (i := 0) dX10_heap_187 rfl rfl ?_
                refine rn_iload dX10_heap_188 rfl ?_
                refine rn_callV (a := 0) (b := 0) [.int v276] kl_SGModel_304 dX10_heap_190 q281 ((hn480 _ (ts_ne hq477 hq281 rfl)).trans (hT429.fr hq281 rfl (hT422.fr hq281 rfl (hT413.fr hq281 rfl hl281)))) rfl (t_X10_isFull G S w479 hS480.1 o0_ m0_ v276 rv276) rfl rfl (Nat.le_of_ble_eq_true rfl) (Nat.le_of_ble_eq_true rfl) (Nat.le_of_ble_eq_true rfl) (Nat.le_of_ble_eq_true rfl) (Nat.le_of_ble_eq_true rfl) (Nat.le_of_ble_eq_true rfl) (fun _ _ h => False.elim h) (fun v9 w484 h485 => ?_)
                obtain ⟨rfl, v486, rfl, rv486⟩ := h485
                refine rn_stk [.int v486] rfl ?_
                refine rn_if_ne (tgt := 199) dX10_heap_193 (by decide) (fun h488 => ?_) (fun h488 => ?_)
                · have ch488 := cv_ne h488
                  have r489 : Rg (1) (1) v486 := rf_nel ch488 rv486 rk_0 (by decide) (by decide)
                  refine rn_aload_n (i := 0) dX10_heap_199 rfl rfl ?_
                  obtain ⟨o490, hx490, m490⟩ := fs_r hf281 36 rfl
                  refine rn_get q281 kg_SGModel_95 ((hn480 _ (ts_ne hq477 hq281 rfl)).trans (hT429.fr hq281 rfl (hT422.fr hq281 rfl (hT413.fr hq281 rfl hl281)))) hx490 dX10_heap_200 ?_
                  refine rn_iload dX10_heap_203 rfl ?_
                  refine rn_iconst (v := (0 : Int32)) dX10_heap_205 (by decide) ?_
                  obtain ⟨q491, f491, hq491, hl491, hf491⟩ := ts_ia hS480.1 m490 hk_67
                  refine rs_zast q491 hS480 hq491 hl491 hf491 hk_67 rfl rfl rv276 (by decide) (by decide) (by decide) (by decide) dX10_heap_206 (fun w492 f493 hS493 hl493 hf493 hu493 hn493 => ?_)
                  have ht494 := tw_eq (byt_ne hn493 (ts_ne hq491 hob1 rfl)) ht481
                  have ht495 := tw_eq (byt_ne hn493 (ts_ne hq491 hob1 rfl)) ht482
                  have ht496 := tw_eq (byt_ne hn493 (ts_ne hq491 hob1 rfl)) ht483
                  refine rn_aload_n (i := 0) dX10_heap_207 rfl rfl ?_
                  refine rn_iload dX10_heap_208 rfl ?_
                  refine rn_iload_n (i := 1) dX10_heap_210 rfl rfl ?_
                  refine rn_bipush (v := (20 : Int32)) dX10_heap_211 (by decide) ?_
                  refine rn_aload_n (i := 0) dX10_heap_213 rfl rfl ?_
                  refine rn_get q281 kg_SGModel_104 ((hn493 _ (ts_ne hq491 hq281 rfl)).trans ((hn480 _ (ts_ne hq477 hq281 rfl)).trans (hT429.fr hq281 rfl (hT422.fr hq281 rfl (hT413.fr hq281 rfl hl281))))) hx475 dX10_heap_214 ?_
                  refine rn_iload dX10_heap_217 rfl ?_
                  refine rs_iald q477 ((hn493 _ (ts_ne hq491 hq477 rfl)).trans hl480) hf480 rfl rv276 (by decide) (by decide) dX10_heap_219 (fun v497 ev497 rv497 => ?_)
                  refine rs_addD (19) (2000) rk_20 rv497 dX10_heap_220 (by decide) (fun v498 ev498 rv498 => ?_)
                  refine rn_callV (a := 0) (b := 0) [.int v297, .int (2200 : Int32), .int v498] kl_SGModel_235 dX10_heap_221 q281 ((hn493 _ (ts_ne hq491 hq281 rfl)).trans ((hn480 _ (ts_ne hq477 hq281 rfl)).trans (hT429.fr hq281 rfl (hT422.fr hq281 rfl (hT413.fr hq281 rfl hl281))))) rfl (t_X10_move G S w492 hS493.1 o0_ m0_ v297 (2200 : Int32) v498 ⟨by have := rv498.1; have := rv498.2; have := rv497.1; have := rv497.2; have := rk_20.1; have := rk_20.2; have := rk_2200.1; have := rk_2200.2; have := rv297.1; have := rv297.2; have := rv296.1; have := rv296.2; have := rv276.1; have := rv276.2; have := rk_13200.1; have := rk_13200.2; omega, by have := rv498.1; have := rv498.2; have := rv497.1; have := rv497.2; have := rk_20.1; have := rk_20.2; have := rk_2200.1; have := rk_2200.2; have := rv297.1; have := rv297.2; have := rv296.1; have := rv296.2; have := rv276.1; have := rv276.2; have := rk_13200.1; have := rk_13200.2; omega, by have := rv498.1; have := rv498.2; have := rv497.1; have := rv497.2; have := rk_20.1; have := rk_20.2; have := rk_2200.1; have := rk_2200.2; have := rv297.1; have := rv297.2; have := rv296.1; have := rv296.2; have := rv276.1; have := rv276.2; have := rk_13200.1; have := rk_13200.2; omega, by have := rv498.1; have := rv498.2; have := rv497.1; have := rv497.2; have := rk_20.1; have := rk_20.2; have := rk_2200.1; have := rk_2200.2; have := rv297.1; have := rv297.2; have := rv296.1; have := rv296.2; have := rv276.1; have := rv276.2; have := rk_13200.1; have := rk_13200.2; omega⟩) rfl rfl (Nat.le_of_ble_eq_true rfl) (Nat.le_of_ble_eq_true rfl) (Nat.le_of_ble_eq_true rfl) (Nat.le_of_ble_eq_true rfl) (Nat.le_of_ble_eq_true rfl) (Nat.le_of_ble_eq_true rfl) (fun _ _ h => False.elim h) (fun v9 w499 h500 => ?_)
                  obtain ⟨hT501, rfl, xah500⟩ := h500
                  have hS501 := St.tr hS493 hT501 rfl
                  refine rn_stk [] rfl ?_
                  refine rn_aload_n (i := 0) dX10_heap_224 rfl rfl ?_
                  refine rn_iload_n (i := 1) dX10_heap_225 rfl rfl ?_
                  refine rn_iconst (v := (0 : Int32)) dX10_heap_226 (by decide) ?_
                  refine rn_iconst (v := (0 : Int32)) dX10_heap_227 (by decide) ?_
                  refine rn_callV (a := 0) (b := 0) [.int (2200 : Int32), .int (0 : Int32), .int (0 : Int32)] kl_SGModel_239 dX10_heap_228 q281 (hT501.fr hq281 rfl ((hn493 _ (ts_ne hq491 hq281 rfl)).trans ((hn480 _ (ts_ne hq477 hq281 rfl)).trans (hT429.fr hq281 rfl (hT422.fr hq281 rfl (hT413.fr hq281 rfl hl281)))))) rfl (t_X10_setOffset G S w499 hS501.1 o0_ m0_ (2200 : Int32) (rg_w rk_2200 (by decide) (by decide)) (0 : Int32) (rg_w rk_0 (by decide) (by decide)) (0 : Int32)) rfl rfl (Nat.le_of_ble_eq_true rfl) (Nat.le_of_ble_eq_true rfl) (Nat.le_of_ble_eq_true rfl) (Nat.le_of_ble_eq_true rfl) (Nat.le_of_ble_eq_true rfl) (Nat.le_of_ble_eq_true rfl) (fun _ _ h => False.elim h) (fun v9 w502 h503 => ?_)
                  obtain ⟨hT504, rfl, xah503⟩ := h503
                  have hS504 := St.tr hS501 hT504 rfl
                  refine rn_stk [] rfl ?_
                  refine rn_aload_n (i := 0) dX10_heap_231 rfl rfl ?_
                  refine rn_iload_n (i := 1) dX10_heap_232 rfl rfl ?_
                  refine rn_iconst (v := (2 : Int32)) dX10_heap_233 (by decide) ?_
                  refine rn_iadd dX10_heap_234 (rn_topi (2202 : Int32) (by decide) ?_)
                  refine rn_bipush (v := (20 : Int32)) dX10_heap_235 (by decide) ?_
                  refine rn_aload_n (i := 0) dX10_heap_237 rfl rfl ?_
                  refine rn_get q281 kg_SGModel_104 (hT504.fr hq281 rfl (hT501.fr hq281 rfl ((hn493 _ (ts_ne hq491 hq281 rfl)).trans ((hn480 _ (ts_ne hq477 hq281 rfl)).trans (hT429.fr hq281 rfl (hT422.fr hq281 rfl (hT413.fr hq281 rfl hl281))))))) hx475 dX10_heap_238 ?_
                  refine rn_iload dX10_heap_241 rfl ?_
                  refine rs_iald q477 (hT504.fr hq477 rfl (hT501.fr hq477 rfl ((hn493 _ (ts_ne hq491 hq477 rfl)).trans hl480))) hf480 rfl rv276 (by decide) (by decide) dX10_heap_243 (fun v506 ev506 rv506 => ?_)
                  refine rs_addD (19) (2000) rk_20 rv506 dX10_heap_244 (by decide) (fun v507 ev507 rv507 => ?_)
                  refine rn_callV (a := 0) (b := 0) [.int (2202 : Int32), .int v507] kl_SGModel_144 dX10_heap_245 q281 (hT504.fr hq281 rfl (hT501.fr hq281 rfl ((hn493 _ (ts_ne hq491 hq281 rfl)).trans ((hn480 _ (ts_ne hq477 hq281 rfl)).trans (hT429.fr hq281 rfl (hT422.fr hq281 rfl (hT413.fr hq281 rfl hl281))))))) rfl (t_X10_putTwo G S w502 hS504.1 o0_ m0_ (2202 : Int32) (rg_w rk_2202 (by decide) (by decide)) v507) rfl rfl (Nat.le_of_ble_eq_true rfl) (Nat.le_of_ble_eq_true rfl) (Nat.le_of_ble_eq_true rfl) (Nat.le_of_ble_eq_true rfl) (Nat.le_of_ble_eq_true rfl) (Nat.le_of_ble_eq_true rfl) (fun _ _ h => False.elim h) (fun v9 w508 h509 => ?_)
                  obtain ⟨hT510, rfl, xah509⟩ := h509
                  have hS510 := St.tr hS504 hT510 rfl
                  have ht511 : tw (byt w508) 2202 = v507.toInt := xah509.2 2202 (by decide) (by have := rv507.1; omega) (by have := rv507.2; omega)
                  refine rn_stk [] rfl ?_
                  refine rn_iconst (v := (0 : Int32)) dX10_heap_248 (by decide) ?_
                  exact rn_iret dX10_heap_249 rfl rfl (rq_in ⟨hS510, (0 : Int32), rfl, (rg_w rk_0 (by decide) (by decide)), (fun _ => by rw [ht511]; exact ⟨by have := rv507.1; have := rv507.2; have := rv506.1; have := rv506.2; have := rk_20.1; have := rk_20.2; omega, by have := rv507.1; have := rv507.2; have := rv506.1; have := rv506.2; have := rk_20.1; have := rk_20.2; omega⟩)⟩)
                · have ch488 := cv_eq h488
                  have r512 : Rg (0) (0) v486 := rf_eqx ch488 rv486 rk_0 (by decide) (by decide)
                  refine rn_bipush (v := (7 : Int32)) dX10_heap_196 (by decide) ?_
                  exact rn_iret dX10_heap_198 rfl rfl (rq_in ⟨hS480, (7 : Int32), rfl, (rg_w rk_7 (by decide) (by decide)), (fun h => absurd h (by decide))⟩)
            · have ch435 := cv_nle h435
              have r513 : Rg (0) (2026) x426 := rf_ltx ch435 r430 rv288 (by decide)
              have r514 : Rg (1) (2027) v288 := rf_lty ch435 r430 rv288 (by decide)
              refine rn_aload_n (i := 0) dX10_heap_143 rfl rfl ?_
              obtain ⟨o515, hx515, m515⟩ := fs_r hf281 42 rfl
              refine rn_get q281 kg_SGModel_113 (hT429.fr hq281 rfl (hT422.fr hq281 rfl (hT413.fr hq281 rfl hl281))) hx515 dX10_heap_144 ?_
              refine rn_sipush (v := (1980 : Int32)) dX10_heap_147 (by decide) ?_
              refine rn_iload dX10_heap_150 rfl ?_
              refine rs_mulD (0) (5940) rk_1980 rv276 dX10_heap_152 (by decide) (fun v516 ev516 rv516 => ?_)
              refine rn_iload dX10_heap_153 rfl ?_
              refine rs_addR (0) (5940) rv516 r410 dX10_heap_155 (by decide) (fun v517 ev517 rv517 => ?_)
              refine rn_iload dX10_heap_156 rfl ?_
              refine rs_addR (0) (7966) rv517 r513 dX10_heap_158 (by decide) (fun v518 ev518 rv518 => ?_)
              refine rn_iconst (v := (1 : Int32)) dX10_heap_159 (by decide) ?_
              obtain ⟨q519, f519, hq519, hl519, hf519⟩ := ts_ia hT429.1 m515 hk_73
              have r520 : Rg (0) (7919) v518 := ⟨by have := rv518.1; have := rv518.2; have := r513.1; have := r513.2; have := rv517.1; have := rv517.2; have := r410.1; have := r410.2; have := rv294.1; have := rv294.2; have := rk_8191.1; have := rk_8191.2; have := rv292.1; have := rv292.2; have := rk_8.1; have := rk_8.2; have := rv516.1; have := rv516.2; have := rv276.1; have := rv276.2; have := rk_1980.1; have := rk_1980.2; omega, by have := rv518.1; have := rv518.2; have := r513.1; have := r513.2; have := rv517.1; have := rv517.2; have := r410.1; have := r410.2; have := rv294.1; have := rv294.2; have := rk_8191.1; have := rk_8191.2; have := rv292.1; have := rv292.2; have := rk_8.1; have := rk_8.2; have := rv516.1; have := rv516.2; have := rv276.1; have := rv276.2; have := rk_1980.1; have := rk_1980.2; omega⟩
              refine rs_zast q519 hT429 hq519 hl519 hf519 hk_73 rfl rfl r520 (by decide) (by decide) (by decide) (by decide) dX10_heap_160 (fun w521 f522 hS522 hl522 hf522 hu522 hn522 => ?_)
              have ht523 := tw_eq (byt_ne hn522 (ts_ne hq519 hob1 rfl)) ht432
              have ht524 := tw_eq (byt_ne hn522 (ts_ne hq519 hob1 rfl)) ht433
              have ht525 := tw_eq (byt_ne hn522 (ts_ne hq519 hob1 rfl)) ht434
              refine rs_iinc (1) (2027) dX10_heap_161 rfl (by decide) r513 rk_1 (by decide) (fun v526 => [(0, .ref o0_), (1, .int (2200 : Int32)), (2, .int v7), (3, .int v12), (4, .int v276), (5, .int v288), (6, .int v295), (7, .int v297), (8, .int v526)]) (fun _ => rfl) (fun v526 ev526 rv526 => ?_)
              refine rn_goto (tgt := 136) dX10_heap_164 (by decide) ?_
              refine rn_lv [(0, .ref o0_), (1, .int (2200 : Int32)), (2, .int v7), (3, .int v12), (4, .int v276), (5, .int v288), (6, .int v295), (7, .int v297), (8, .int v526)] rfl ?_
              exact ih _ (lp_inc hm431 ev526 rv526 (by decide)) w521 v526 hS522 (rg_w rv526 (by decide) (by decide)) rfl
        exact LP427 _ w420 (0 : Int32) (St.rf hS422.1) (rg_w rk_0 (by decide) (by decide)) rfl
  · have ch24 := cv_ne h24
    have r527 : Rg (1) (1) v21 := rf_nel ch24 rv21 rk_0 (by decide) (by decide)
    refine rn_iload dX10_heap_35 rfl ?_
    refine rn_if_lt (tgt := 48) dX10_heap_37 (by decide) (fun h528 => ?_) (fun h528 => ?_)
    · have ch528 := cv_lt h528
      have r529 : Rg (-1) (-1) v17 := rf_ltx ch528 rv17 rk_0 (by decide)
      refine rn_bipush (v := (17 : Int32)) dX10_heap_48 (by decide) ?_
      exact rn_iret dX10_heap_50 rfl rfl (rq_in ⟨hS0, (17 : Int32), rfl, (rg_w rk_17 (by decide) (by decide)), (fun h => absurd h (by decide))⟩)
    · have ch528 := cv_nlt h528
      have r530 : Rg (0) (3) v17 := rf_ley ch528 rk_0 rv17 (by decide)
      refine rn_aload_n (i := 0) dX10_heap_40 rfl rfl ?_
      obtain ⟨o531, hx531, m531⟩ := fs_r hf4 36 rfl
      refine rn_get q4 kg_SGModel_95 hl4 hx531 dX10_heap_41 ?_
      refine rn_iload dX10_heap_44 rfl ?_
      refine rn_iconst (v := (0 : Int32)) dX10_heap_46 (by decide) ?_
      obtain ⟨q532, f532, hq532, hl532, hf532⟩ := ts_ia hS0.1 m531 hk_67
      refine rs_zast q532 hS0 hq532 hl532 hf532 hk_67 rfl rfl r530 (by decide) (by decide) (by decide) (by decide) dX10_heap_47 (fun w533 f534 hS534 hl534 hf534 hu534 hn534 => ?_)
      have ht535 := tw_eq (byt_ne hn534 (ts_ne hq532 hob1 rfl)) ht2
      have ht536 := tw_eq (byt_ne hn534 (ts_ne hq532 hob1 rfl)) ht14
      have ht537 := tw_eq (byt_ne hn534 (ts_ne hq532 hob1 rfl)) ht23
      refine rn_bipush (v := (17 : Int32)) dX10_heap_48 (by decide) ?_
      exact rn_iret dX10_heap_50 rfl rfl (rq_in ⟨hS534, (17 : Int32), rfl, (rg_w rk_17 (by decide) (by decide)), (fun h => absurd h (by decide))⟩)
