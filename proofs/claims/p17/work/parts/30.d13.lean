abbrev q_t_X10_isWrong_2200 (G : rn_G) (S : ts_S) (ws : va_W) (x2_ : Int32) : rn_R → va_W → Prop := rQ (fun v w => ws = w ∧ (∃ x : Int32, v = some (.int x) ∧ Rg (0) (1) x ∧ (x = 0 → 8 * (tw (byt ws) 2206 % 8192) + (tw (byt ws) 2202 - 20) ≤ 1980))) (fun E w => False)
set_option maxRecDepth 20000 in
set_option maxHeartbeats 4000000 in
theorem t_X10_isWrong_2200 (G : rn_G) (S : ts_S) (ws : va_W) (hW : ts_W G S ws) (o0_ : Nat) (m0_ : (o0_, 30) ∈ S) (x2_ : Int32) (r2_ : Rg (-1) (3) x2_) (hw2202_ : 20 ≤ tw (byt ws) 2202 ∧ tw (byt ws) 2202 ≤ 2047) : Rn G mX10_isWrong 2 42 0 0 0 (lv_args 0 [.ref o0_, .int (2200 : Int32), .int x2_]) [] ws (q_t_X10_isWrong_2200 G S ws x2_) := by
  obtain ⟨ob1, hob1⟩ := hW.2.1.2
  obtain ⟨T2, ht2⟩ : ∃ t : Int, tw (byt ws) 2202 = t := ⟨_, rfl⟩
  rw [ht2] at hw2202_
  obtain ⟨T3, ht3⟩ : ∃ t : Int, tw (byt ws) 2206 = t := ⟨_, rfl⟩
  refine rn_lv [(0, .ref o0_), (1, .int (2200 : Int32)), (2, .int x2_)] rfl ?_
  refine rn_aload_n (i := 0) dX10_isWrong_0 rfl rfl ?_
  refine rn_iload_n (i := 1) dX10_isWrong_1 rfl rfl ?_
  obtain ⟨q4, fs4, hq4, hl4, hf4⟩ := ts_obj hW m0_ hk_30
  refine rn_inV (d' := 1) (z' := 21) [.int (2200 : Int32)] kl_SGModel_165 dX10_isWrong_2 q4 hl4 rfl rfl rfl (Nat.le_of_ble_eq_true rfl) (Nat.le_of_ble_eq_true rfl) (Nat.le_of_ble_eq_true rfl) (Nat.le_of_ble_eq_true rfl) ?_
  refine rn_lv [(0, .ref o0_), (1, .int (2200 : Int32))] rfl ?_
  refine rn_aload_n (i := 0) dX10_lengthOf_0 rfl rfl ?_
  refine rn_iload_n (i := 1) dX10_lengthOf_1 rfl rfl ?_
  refine rn_iconst (v := (2 : Int32)) dX10_lengthOf_2 (by decide) ?_
  refine rn_iadd dX10_lengthOf_3 (rn_topi (2202 : Int32) (by decide) ?_)
  refine rn_callV (a := 0) (b := 0) [.int (2202 : Int32)] kl_SGModel_140 dX10_lengthOf_4 q4 hl4 rfl (t_X10_two G S ws hW o0_ m0_ (2202 : Int32) (rg_w rk_2202 (by decide) (by decide))) rfl rfl (Nat.le_of_ble_eq_true rfl) (Nat.le_of_ble_eq_true rfl) (Nat.le_of_ble_eq_true rfl) (Nat.le_of_ble_eq_true rfl) (Nat.le_of_ble_eq_true rfl) (Nat.le_of_ble_eq_true rfl) (fun _ _ h => False.elim h) (fun v9 w6 h7 => ?_)
  obtain ⟨rfl, v8, rfl, rv8, xah7⟩ := h7
  have ev8 : v8.toInt = T2 := (xah7 2202 (by decide)).trans ht2
  have r10 : Rg (20) (2047) v8 := ⟨by have := rv8.1; have := rv8.2; omega, by have := rv8.1; have := rv8.2; omega⟩
  refine rn_stk [.int v8] rfl ?_
  refine rn_iret dX10_lengthOf_7 rfl rfl (rq_in ?_)
  refine rn_stk [.int v8] rfl ?_
  refine rn_bipush (v := (20 : Int32)) dX10_isWrong_5 (by decide) ?_
  refine rs_subC (0) (2027) r10 rk_20 dX10_isWrong_7 (by decide) (fun v11 ev11 rv11 => ?_)
  refine rn_istore_n dX10_isWrong_8 rfl (by decide) [(0, .ref o0_), (1, .int (2200 : Int32)), (2, .int x2_), (3, .int v11)] rfl ?_
  refine rn_bipush (v := (8 : Int32)) dX10_isWrong_9 (by decide) ?_
  refine rn_aload_n (i := 0) dX10_isWrong_11 rfl rfl ?_
  refine rn_iload_n (i := 1) dX10_isWrong_12 rfl rfl ?_
  refine rn_inV (d' := 1) (z' := 21) [.int (2200 : Int32)] kl_SGModel_159 dX10_isWrong_13 q4 hl4 rfl rfl rfl (Nat.le_of_ble_eq_true rfl) (Nat.le_of_ble_eq_true rfl) (Nat.le_of_ble_eq_true rfl) (Nat.le_of_ble_eq_true rfl) ?_
  refine rn_lv [(0, .ref o0_), (1, .int (2200 : Int32))] rfl ?_
  refine rn_aload_n (i := 0) dX10_offsetOf_0 rfl rfl ?_
  refine rn_iload_n (i := 1) dX10_offsetOf_1 rfl rfl ?_
  refine rn_bipush (v := (6 : Int32)) dX10_offsetOf_2 (by decide) ?_
  refine rn_iadd dX10_offsetOf_4 (rn_topi (2206 : Int32) (by decide) ?_)
  refine rn_callV (a := 0) (b := 0) [.int (2206 : Int32)] kl_SGModel_140 dX10_offsetOf_5 q4 hl4 rfl (t_X10_two G S ws hW o0_ m0_ (2206 : Int32) (rg_w rk_2206 (by decide) (by decide))) rfl rfl (Nat.le_of_ble_eq_true rfl) (Nat.le_of_ble_eq_true rfl) (Nat.le_of_ble_eq_true rfl) (Nat.le_of_ble_eq_true rfl) (Nat.le_of_ble_eq_true rfl) (Nat.le_of_ble_eq_true rfl) (fun _ _ h => False.elim h) (fun v9 w13 h14 => ?_)
  obtain ⟨rfl, v15, rfl, rv15, xah14⟩ := h14
  have ev15 : v15.toInt = T3 := (xah14 2206 (by decide)).trans ht3
  refine rn_stk [.int v15] rfl ?_
  refine rn_sipush (v := (8191 : Int32)) dX10_offsetOf_8 (by decide) ?_
  refine rn_iand dX10_offsetOf_11 (rn_nmE (rg_mask (hi := 8191) 13 8192 rfl rv15 rk_8191 (by decide)) (fun v17 ev17 rv17 => ?_))
  have fv17 : v17.toInt = T3 % 8192 := ev17.trans (congrArg (fun z => z % ((8192 : Nat) : Int)) ev15)
  refine rn_iret dX10_offsetOf_12 rfl rfl (rq_in ?_)
  refine rn_stk [.int v17, .int (8 : Int32)] rfl ?_
  refine rs_mulD (0) (65528) rk_8 rv17 dX10_isWrong_16 (by decide) (fun v18 ev18 rv18 => ?_)
  refine rn_istore dX10_isWrong_17 (by decide) [(0, .ref o0_), (1, .int (2200 : Int32)), (2, .int x2_), (3, .int v11), (4, .int v18)] rfl ?_
  refine rn_aload_n (i := 0) dX10_isWrong_19 rfl rfl ?_
  refine rn_iload_n (i := 1) dX10_isWrong_20 rfl rfl ?_
  refine rn_callV (a := 0) (b := 0) [.int (2200 : Int32)] kl_SGModel_155 dX10_isWrong_21 q4 hl4 rfl (t_X10_hasMore G S ws hW o0_ m0_ (2200 : Int32) (rg_w rk_2200 (by decide) (by decide))) rfl rfl (Nat.le_of_ble_eq_true rfl) (Nat.le_of_ble_eq_true rfl) (Nat.le_of_ble_eq_true rfl) (Nat.le_of_ble_eq_true rfl) (Nat.le_of_ble_eq_true rfl) (Nat.le_of_ble_eq_true rfl) (fun _ _ h => False.elim h) (fun v9 w19 h20 => ?_)
  obtain ⟨rfl, v21, rfl, rv21⟩ := h20
  refine rn_stk [.int v21] rfl ?_
  refine rn_istore dX10_isWrong_24 (by decide) [(0, .ref o0_), (1, .int (2200 : Int32)), (2, .int x2_), (3, .int v11), (4, .int v18), (5, .int v21)] rfl ?_
  refine rn_iload dX10_isWrong_26 rfl ?_
  refine rn_if_eq (tgt := 42) dX10_isWrong_28 (by decide) (fun h23 => ?_) (fun h23 => ?_)
  · have ch23 := cv_eq h23
    have r24 : Rg (0) (0) v21 := rf_eqx ch23 rv21 rk_0 (by decide) (by decide)
    refine rn_iload dX10_isWrong_42 rfl ?_
    refine rn_iload_n (i := 3) dX10_isWrong_44 rfl rfl ?_
    refine rs_addR (0) (67555) rv18 rv11 dX10_isWrong_45 (by decide) (fun v25 ev25 rv25 => ?_)
    refine rn_sipush (v := (1980 : Int32)) dX10_isWrong_46 (by decide) ?_
    refine rn_icmp_le (tgt := 54) dX10_isWrong_49 (by decide) (fun h26 => ?_) (fun h26 => ?_)
    · have ch26 := cv_le h26
      have r27 : Rg (0) (1980) v25 := rf_lex ch26 rv25 rk_1980 (by decide)
      refine rn_iload_n (i := 2) dX10_isWrong_54 rfl rfl ?_
      refine rn_if_ge (tgt := 60) dX10_isWrong_55 (by decide) (fun h28 => ?_) (fun h28 => ?_)
      · have ch28 := cv_le h28
        have r29 : Rg (0) (3) x2_ := rf_ley ch28 rk_0 r2_ (by decide)
        refine rn_iload dX10_isWrong_60 rfl ?_
        refine rn_if_ne (tgt := 75) dX10_isWrong_62 (by decide) (fun h30 => (cx_ne (cv_ne h30) r24 rk_0 (by decide)).elim) (fun h30 => ?_)
        have ch30 := cv_eq h30
        refine rn_aload_n (i := 0) dX10_isWrong_65 rfl rfl ?_
        obtain ⟨o31, hx31, m31⟩ := fs_r hf4 39 rfl
        refine rn_get q4 kg_SGModel_104 hl4 hx31 dX10_isWrong_66 ?_
        refine rn_iload_n (i := 2) dX10_isWrong_69 rfl rfl ?_
        obtain ⟨q32, f32, hq32, hl32, hf32⟩ := ts_ia hW m31 hk_70
        refine rs_iald q32 hl32 hf32 rfl r29 (by decide) (by decide) dX10_isWrong_70 (fun v33 ev33 rv33 => ?_)
        refine rn_iconst (v := (-1 : Int32)) dX10_isWrong_71 (by decide) ?_
        refine rn_icmp_ne (tgt := 98) dX10_isWrong_72 (by decide) (fun h34 => ?_) (fun h34 => ?_)
        · have ch34 := cv_ne h34
          have r35 : Rg (0) (1980) v33 := rf_nel ch34 rv33 rk_m1 (by decide) (by decide)
          refine rn_iconst (v := (1 : Int32)) dX10_isWrong_98 (by decide) ?_
          refine rn_goto (tgt := 103) dX10_isWrong_99 (by decide) ?_
          refine rn_istore dX10_isWrong_103 (by decide) [(0, .ref o0_), (1, .int (2200 : Int32)), (2, .int x2_), (3, .int v11), (4, .int v18), (5, .int v21), (6, .int (1 : Int32))] rfl ?_
          refine rn_iload dX10_isWrong_105 rfl ?_
          refine rn_istore dX10_isWrong_107 (by decide) [(0, .ref o0_), (1, .int (2200 : Int32)), (2, .int x2_), (3, .int v11), (4, .int v18), (5, .int v21), (6, .int (1 : Int32)), (7, .int v18)] rfl ?_
          have LP38 : ∀ (n : Nat) (x36 : Int32) (x37 : Int32), Rg (0) (1) x36 → Rg (0) (65528) x37 → (65528 - x37.toInt).toNat = n → Rn G mX10_isWrong 2 42 0 0 109 [(0, .ref o0_), (1, .int (2200 : Int32)), (2, .int x2_), (3, .int v11), (4, .int v18), (5, .int v21), (6, .int x36), (7, .int x37)] [] ws (q_t_X10_isWrong_2200 G S ws x2_) := by
            intro n
            induction n using Nat.strongRecOn with
            | _ n ih =>
              intro x36 x37 r40 r41 hm42
              refine rn_iload dX10_isWrong_109 rfl ?_
              refine rn_sipush (v := (1980 : Int32)) dX10_isWrong_111 (by decide) ?_
              refine rn_icmp_ge (tgt := 177) dX10_isWrong_114 (by decide) (fun h43 => ?_) (fun h43 => ?_)
              · have ch43 := cv_le h43
                have r44 : Rg (1980) (65528) x37 := rf_ley ch43 rk_1980 r41 (by decide)
                refine rn_iload dX10_isWrong_177 rfl ?_
                exact rn_iret dX10_isWrong_179 rfl (nb_n r40) (rq_in ⟨rfl, x36, rfl, r40, (fun _ => by rw [ht3, ht2]; have := rk_1980.1; have := rk_1980.2; omega)⟩)
              · have ch43 := cv_nle h43
                have r45 : Rg (0) (1979) x37 := rf_ltx ch43 r41 rk_1980 (by decide)
                refine rn_iload dX10_isWrong_117 rfl ?_
                refine rn_iload dX10_isWrong_119 rfl ?_
                refine rn_iload_n (i := 3) dX10_isWrong_121 rfl rfl ?_
                refine rs_addR (0) (67555) rv18 rv11 dX10_isWrong_122 (by decide) (fun v46 ev46 rv46 => ?_)
                refine rn_icmp_ge (tgt := 130) dX10_isWrong_123 (by decide) (fun h47 => ?_) (fun h47 => ?_)
                · have ch47 := cv_le h47
                  have r48 : Rg (0) (1979) v46 := rf_lex ch47 rv46 r45 (by decide)
                  refine rn_iconst (v := (0 : Int32)) dX10_isWrong_130 (by decide) ?_
                  refine rn_istore dX10_isWrong_131 (by decide) [(0, .ref o0_), (1, .int (2200 : Int32)), (2, .int x2_), (3, .int v11), (4, .int v18), (5, .int v21), (6, .int x36), (7, .int x37), (8, .int (0 : Int32))] rfl ?_
                  refine rn_iload dX10_isWrong_133 rfl ?_
                  refine rn_if_ne (tgt := 164) dX10_isWrong_135 (by decide) (fun h49 => ?_) (fun h49 => ?_)
                  · have ch49 := cv_ne h49
                    have r50 : Rg (1) (1) x36 := rf_nel ch49 r40 rk_0 (by decide) (by decide)
                    refine rn_iconst (v := (1 : Int32)) dX10_isWrong_164 (by decide) ?_
                    refine rn_goto (tgt := 169) dX10_isWrong_165 (by decide) ?_
                    refine rn_istore dX10_isWrong_169 (by decide) [(0, .ref o0_), (1, .int (2200 : Int32)), (2, .int x2_), (3, .int v11), (4, .int v18), (5, .int v21), (6, .int (1 : Int32)), (7, .int x37), (8, .int (0 : Int32))] rfl ?_
                    refine rs_iinc (1) (1980) dX10_isWrong_171 rfl (by decide) r45 rk_1 (by decide) (fun v51 => [(0, .ref o0_), (1, .int (2200 : Int32)), (2, .int x2_), (3, .int v11), (4, .int v18), (5, .int v21), (6, .int (1 : Int32)), (7, .int v51), (8, .int (0 : Int32))]) (fun _ => rfl) (fun v51 ev51 rv51 => ?_)
                    refine rn_goto (tgt := 109) dX10_isWrong_174 (by decide) ?_
                    refine rn_lv [(0, .ref o0_), (1, .int (2200 : Int32)), (2, .int x2_), (3, .int v11), (4, .int v18), (5, .int v21), (6, .int (1 : Int32)), (7, .int v51)] rfl ?_
                    exact ih _ (lp_inc hm42 ev51 rv51 (by decide)) (1 : Int32) v51 (rg_w rk_1 (by decide) (by decide)) (rg_w rv51 (by decide) (by decide)) rfl
                  · have ch49 := cv_eq h49
                    have r52 : Rg (0) (0) x36 := rf_eqx ch49 r40 rk_0 (by decide) (by decide)
                    refine rn_aload_n (i := 0) dX10_isWrong_138 rfl rfl ?_
                    obtain ⟨o53, hx53, m53⟩ := fs_r hf4 42 rfl
                    refine rn_get q4 kg_SGModel_113 hl4 hx53 dX10_isWrong_139 ?_
                    refine rn_sipush (v := (1980 : Int32)) dX10_isWrong_142 (by decide) ?_
                    refine rn_iload_n (i := 2) dX10_isWrong_145 rfl rfl ?_
                    refine rs_mulD (0) (5940) rk_1980 r29 dX10_isWrong_146 (by decide) (fun v54 ev54 rv54 => ?_)
                    refine rn_iload dX10_isWrong_147 rfl ?_
                    refine rs_addR (0) (7919) rv54 r45 dX10_isWrong_149 (by decide) (fun v55 ev55 rv55 => ?_)
                    obtain ⟨q56, f56, hq56, hl56, hf56⟩ := ts_ia hW m53 hk_73
                    refine rs_zald q56 hl56 hf56 rfl rv55 (by decide) (by decide) dX10_isWrong_150 (fun v57 ev57 rv57 => ?_)
                    refine rn_if_eq (tgt := 168) dX10_isWrong_151 (by decide) (fun h58 => ?_) (fun h58 => ?_)
                    · have ch58 := cv_eq h58
                      have r59 : Rg (0) (0) v57 := rf_eqx ch58 rv57 rk_0 (by decide) (by decide)
                      refine rn_iconst (v := (0 : Int32)) dX10_isWrong_168 (by decide) ?_
                      refine rn_istore dX10_isWrong_169 (by decide) [(0, .ref o0_), (1, .int (2200 : Int32)), (2, .int x2_), (3, .int v11), (4, .int v18), (5, .int v21), (6, .int (0 : Int32)), (7, .int x37), (8, .int (0 : Int32))] rfl ?_
                      refine rs_iinc (1) (1980) dX10_isWrong_171 rfl (by decide) r45 rk_1 (by decide) (fun v60 => [(0, .ref o0_), (1, .int (2200 : Int32)), (2, .int x2_), (3, .int v11), (4, .int v18), (5, .int v21), (6, .int (0 : Int32)), (7, .int v60), (8, .int (0 : Int32))]) (fun _ => rfl) (fun v60 ev60 rv60 => ?_)
                      refine rn_goto (tgt := 109) dX10_isWrong_174 (by decide) ?_
                      refine rn_lv [(0, .ref o0_), (1, .int (2200 : Int32)), (2, .int x2_), (3, .int v11), (4, .int v18), (5, .int v21), (6, .int (0 : Int32)), (7, .int v60)] rfl ?_
                      exact ih _ (lp_inc hm42 ev60 rv60 (by decide)) (0 : Int32) v60 (rg_w rk_0 (by decide) (by decide)) (rg_w rv60 (by decide) (by decide)) rfl
                    · have ch58 := cv_ne h58
                      have r61 : Rg (1) (1) v57 := rf_nel ch58 rv57 rk_0 (by decide) (by decide)
                      refine rn_iload dX10_isWrong_154 rfl ?_
                      refine rn_if_ne (tgt := 164) dX10_isWrong_156 (by decide) (fun h62 => (cx_ne (cv_ne h62) rk_0 rk_0 (by decide)).elim) (fun h62 => ?_)
                      refine rn_iload dX10_isWrong_159 rfl ?_
                      refine rn_if_ne (tgt := 168) dX10_isWrong_161 (by decide) (fun h63 => (cx_ne (cv_ne h63) r24 rk_0 (by decide)).elim) (fun h63 => ?_)
                      have ch63 := cv_eq h63
                      refine rn_iconst (v := (1 : Int32)) dX10_isWrong_164 (by decide) ?_
                      refine rn_goto (tgt := 169) dX10_isWrong_165 (by decide) ?_
                      refine rn_istore dX10_isWrong_169 (by decide) [(0, .ref o0_), (1, .int (2200 : Int32)), (2, .int x2_), (3, .int v11), (4, .int v18), (5, .int v21), (6, .int (1 : Int32)), (7, .int x37), (8, .int (0 : Int32))] rfl ?_
                      refine rs_iinc (1) (1980) dX10_isWrong_171 rfl (by decide) r45 rk_1 (by decide) (fun v64 => [(0, .ref o0_), (1, .int (2200 : Int32)), (2, .int x2_), (3, .int v11), (4, .int v18), (5, .int v21), (6, .int (1 : Int32)), (7, .int v64), (8, .int (0 : Int32))]) (fun _ => rfl) (fun v64 ev64 rv64 => ?_)
                      refine rn_goto (tgt := 109) dX10_isWrong_174 (by decide) ?_
                      refine rn_lv [(0, .ref o0_), (1, .int (2200 : Int32)), (2, .int x2_), (3, .int v11), (4, .int v18), (5, .int v21), (6, .int (1 : Int32)), (7, .int v64)] rfl ?_
                      exact ih _ (lp_inc hm42 ev64 rv64 (by decide)) (1 : Int32) v64 (rg_w rk_1 (by decide) (by decide)) (rg_w rv64 (by decide) (by decide)) rfl
                · have ch47 := cv_nle h47
                  have r65 : Rg (1) (67555) v46 := rf_lty ch47 r45 rv46 (by decide)
                  refine rn_iconst (v := (1 : Int32)) dX10_isWrong_126 (by decide) ?_
                  refine rn_goto (tgt := 131) dX10_isWrong_127 (by decide) ?_
                  refine rn_istore dX10_isWrong_131 (by decide) [(0, .ref o0_), (1, .int (2200 : Int32)), (2, .int x2_), (3, .int v11), (4, .int v18), (5, .int v21), (6, .int x36), (7, .int x37), (8, .int (1 : Int32))] rfl ?_
                  refine rn_iload dX10_isWrong_133 rfl ?_
                  refine rn_if_ne (tgt := 164) dX10_isWrong_135 (by decide) (fun h66 => ?_) (fun h66 => ?_)
                  · have ch66 := cv_ne h66
                    have r67 : Rg (1) (1) x36 := rf_nel ch66 r40 rk_0 (by decide) (by decide)
                    refine rn_iconst (v := (1 : Int32)) dX10_isWrong_164 (by decide) ?_
                    refine rn_goto (tgt := 169) dX10_isWrong_165 (by decide) ?_
                    refine rn_istore dX10_isWrong_169 (by decide) [(0, .ref o0_), (1, .int (2200 : Int32)), (2, .int x2_), (3, .int v11), (4, .int v18), (5, .int v21), (6, .int (1 : Int32)), (7, .int x37), (8, .int (1 : Int32))] rfl ?_
                    refine rs_iinc (1) (1980) dX10_isWrong_171 rfl (by decide) r45 rk_1 (by decide) (fun v68 => [(0, .ref o0_), (1, .int (2200 : Int32)), (2, .int x2_), (3, .int v11), (4, .int v18), (5, .int v21), (6, .int (1 : Int32)), (7, .int v68), (8, .int (1 : Int32))]) (fun _ => rfl) (fun v68 ev68 rv68 => ?_)
                    refine rn_goto (tgt := 109) dX10_isWrong_174 (by decide) ?_
                    refine rn_lv [(0, .ref o0_), (1, .int (2200 : Int32)), (2, .int x2_), (3, .int v11), (4, .int v18), (5, .int v21), (6, .int (1 : Int32)), (7, .int v68)] rfl ?_
                    exact ih _ (lp_inc hm42 ev68 rv68 (by decide)) (1 : Int32) v68 (rg_w rk_1 (by decide) (by decide)) (rg_w rv68 (by decide) (by decide)) rfl
                  · have ch66 := cv_eq h66
                    have r69 : Rg (0) (0) x36 := rf_eqx ch66 r40 rk_0 (by decide) (by decide)
                    refine rn_aload_n (i := 0) dX10_isWrong_138 rfl rfl ?_
                    obtain ⟨o70, hx70, m70⟩ := fs_r hf4 42 rfl
                    refine rn_get q4 kg_SGModel_113 hl4 hx70 dX10_isWrong_139 ?_
                    refine rn_sipush (v := (1980 : Int32)) dX10_isWrong_142 (by decide) ?_
                    refine rn_iload_n (i := 2) dX10_isWrong_145 rfl rfl ?_
                    refine rs_mulD (0) (5940) rk_1980 r29 dX10_isWrong_146 (by decide) (fun v71 ev71 rv71 => ?_)
                    refine rn_iload dX10_isWrong_147 rfl ?_
                    refine rs_addR (0) (7919) rv71 r45 dX10_isWrong_149 (by decide) (fun v72 ev72 rv72 => ?_)
                    obtain ⟨q73, f73, hq73, hl73, hf73⟩ := ts_ia hW m70 hk_73
                    refine rs_zald q73 hl73 hf73 rfl rv72 (by decide) (by decide) dX10_isWrong_150 (fun v74 ev74 rv74 => ?_)
                    refine rn_if_eq (tgt := 168) dX10_isWrong_151 (by decide) (fun h75 => ?_) (fun h75 => ?_)
                    · have ch75 := cv_eq h75
                      have r76 : Rg (0) (0) v74 := rf_eqx ch75 rv74 rk_0 (by decide) (by decide)
                      refine rn_iconst (v := (0 : Int32)) dX10_isWrong_168 (by decide) ?_
                      refine rn_istore dX10_isWrong_169 (by decide) [(0, .ref o0_), (1, .int (2200 : Int32)), (2, .int x2_), (3, .int v11), (4, .int v18), (5, .int v21), (6, .int (0 : Int32)), (7, .int x37), (8, .int (1 : Int32))] rfl ?_
                      refine rs_iinc (1) (1980) dX10_isWrong_171 rfl (by decide) r45 rk_1 (by decide) (fun v77 => [(0, .ref o0_), (1, .int (2200 : Int32)), (2, .int x2_), (3, .int v11), (4, .int v18), (5, .int v21), (6, .int (0 : Int32)), (7, .int v77), (8, .int (1 : Int32))]) (fun _ => rfl) (fun v77 ev77 rv77 => ?_)
                      refine rn_goto (tgt := 109) dX10_isWrong_174 (by decide) ?_
                      refine rn_lv [(0, .ref o0_), (1, .int (2200 : Int32)), (2, .int x2_), (3, .int v11), (4, .int v18), (5, .int v21), (6, .int (0 : Int32)), (7, .int v77)] rfl ?_
                      exact ih _ (lp_inc hm42 ev77 rv77 (by decide)) (0 : Int32) v77 (rg_w rk_0 (by decide) (by decide)) (rg_w rv77 (by decide) (by decide)) rfl
                    · have ch75 := cv_ne h75
                      have r78 : Rg (1) (1) v74 := rf_nel ch75 rv74 rk_0 (by decide) (by decide)
                      refine rn_iload dX10_isWrong_154 rfl ?_
                      refine rn_if_ne (tgt := 164) dX10_isWrong_156 (by decide) (fun h79 => ?_) (fun h79 => (cx_eq (cv_eq h79) rk_1 rk_0 (by decide)).elim)
                      refine rn_iconst (v := (1 : Int32)) dX10_isWrong_164 (by decide) ?_
                      refine rn_goto (tgt := 169) dX10_isWrong_165 (by decide) ?_
                      refine rn_istore dX10_isWrong_169 (by decide) [(0, .ref o0_), (1, .int (2200 : Int32)), (2, .int x2_), (3, .int v11), (4, .int v18), (5, .int v21), (6, .int (1 : Int32)), (7, .int x37), (8, .int (1 : Int32))] rfl ?_
                      refine rs_iinc (1) (1980) dX10_isWrong_171 rfl (by decide) r45 rk_1 (by decide) (fun v80 => [(0, .ref o0_), (1, .int (2200 : Int32)), (2, .int x2_), (3, .int v11), (4, .int v18), (5, .int v21), (6, .int (1 : Int32)), (7, .int v80), (8, .int (1 : Int32))]) (fun _ => rfl) (fun v80 ev80 rv80 => ?_)
                      refine rn_goto (tgt := 109) dX10_isWrong_174 (by decide) ?_
                      refine rn_lv [(0, .ref o0_), (1, .int (2200 : Int32)), (2, .int x2_), (3, .int v11), (4, .int v18), (5, .int v21), (6, .int (1 : Int32)), (7, .int v80)] rfl ?_
                      exact ih _ (lp_inc hm42 ev80 rv80 (by decide)) (1 : Int32) v80 (rg_w rk_1 (by decide) (by decide)) (rg_w rv80 (by decide) (by decide)) rfl
          exact LP38 _ (1 : Int32) v18 (rg_w rk_1 (by decide) (by decide)) rv18 rfl
        · have ch34 := cv_eq h34
          have r81 : Rg (-1) (-1) v33 := rf_eqx ch34 rv33 rk_m1 (by decide) (by decide)
          refine rn_aload_n (i := 0) dX10_isWrong_75 rfl rfl ?_
          refine rn_get q4 kg_SGModel_104 hl4 hx31 dX10_isWrong_76 ?_
          refine rn_iload_n (i := 2) dX10_isWrong_79 rfl rfl ?_
          refine rs_iald q32 hl32 hf32 rfl r29 (by decide) (by decide) dX10_isWrong_80 (fun v82 ev82 rv82 => ?_)
          refine rn_iconst (v := (-1 : Int32)) dX10_isWrong_81 (by decide) ?_
          refine rn_icmp_eq (tgt := 102) dX10_isWrong_82 (by decide) (fun h83 => ?_) (fun h83 => ?_)
          · have ch83 := cv_eq h83
            have r84 : Rg (-1) (-1) v82 := rf_eqx ch83 rv82 rk_m1 (by decide) (by decide)
            refine rn_iconst (v := (0 : Int32)) dX10_isWrong_102 (by decide) ?_
            refine rn_istore dX10_isWrong_103 (by decide) [(0, .ref o0_), (1, .int (2200 : Int32)), (2, .int x2_), (3, .int v11), (4, .int v18), (5, .int v21), (6, .int (0 : Int32))] rfl ?_
            refine rn_iload dX10_isWrong_105 rfl ?_
            refine rn_istore dX10_isWrong_107 (by decide) [(0, .ref o0_), (1, .int (2200 : Int32)), (2, .int x2_), (3, .int v11), (4, .int v18), (5, .int v21), (6, .int (0 : Int32)), (7, .int v18)] rfl ?_
            have LP87 : ∀ (n : Nat) (x85 : Int32) (x86 : Int32), Rg (0) (1) x85 → Rg (0) (65528) x86 → (65528 - x86.toInt).toNat = n → Rn G mX10_isWrong 2 42 0 0 109 [(0, .ref o0_), (1, .int (2200 : Int32)), (2, .int x2_), (3, .int v11), (4, .int v18), (5, .int v21), (6, .int x85), (7, .int x86)] [] ws (q_t_X10_isWrong_2200 G S ws x2_) := by
              intro n
              induction n using Nat.strongRecOn with
              | _ n ih =>
                intro x85 x86 r89 r90 hm91
                refine rn_iload dX10_isWrong_109 rfl ?_
                refine rn_sipush (v := (1980 : Int32)) dX10_isWrong_111 (by decide) ?_
                refine rn_icmp_ge (tgt := 177) dX10_isWrong_114 (by decide) (fun h92 => ?_) (fun h92 => ?_)
                · have ch92 := cv_le h92
                  have r93 : Rg (1980) (65528) x86 := rf_ley ch92 rk_1980 r90 (by decide)
                  refine rn_iload dX10_isWrong_177 rfl ?_
                  exact rn_iret dX10_isWrong_179 rfl (nb_n r89) (rq_in ⟨rfl, x85, rfl, r89, (fun _ => by rw [ht3, ht2]; have := rk_1980.1; have := rk_1980.2; omega)⟩)
                · have ch92 := cv_nle h92
                  have r94 : Rg (0) (1979) x86 := rf_ltx ch92 r90 rk_1980 (by decide)
                  refine rn_iload dX10_isWrong_117 rfl ?_
                  refine rn_iload dX10_isWrong_119 rfl ?_
                  refine rn_iload_n (i := 3) dX10_isWrong_121 rfl rfl ?_
                  refine rs_addR (0) (67555) rv18 rv11 dX10_isWrong_122 (by decide) (fun v95 ev95 rv95 => ?_)
                  refine rn_icmp_ge (tgt := 130) dX10_isWrong_123 (by decide) (fun h96 => ?_) (fun h96 => ?_)
                  · have ch96 := cv_le h96
                    have r97 : Rg (0) (1979) v95 := rf_lex ch96 rv95 r94 (by decide)
                    refine rn_iconst (v := (0 : Int32)) dX10_isWrong_130 (by decide) ?_
                    refine rn_istore dX10_isWrong_131 (by decide) [(0, .ref o0_), (1, .int (2200 : Int32)), (2, .int x2_), (3, .int v11), (4, .int v18), (5, .int v21), (6, .int x85), (7, .int x86), (8, .int (0 : Int32))] rfl ?_
                    refine rn_iload dX10_isWrong_133 rfl ?_
                    refine rn_if_ne (tgt := 164) dX10_isWrong_135 (by decide) (fun h98 => ?_) (fun h98 => ?_)
                    · have ch98 := cv_ne h98
                      have r99 : Rg (1) (1) x85 := rf_nel ch98 r89 rk_0 (by decide) (by decide)
                      refine rn_iconst (v := (1 : Int32)) dX10_isWrong_164 (by decide) ?_
                      refine rn_goto (tgt := 169) dX10_isWrong_165 (by decide) ?_
                      refine rn_istore dX10_isWrong_169 (by decide) [(0, .ref o0_), (1, .int (2200 : Int32)), (2, .int x2_), (3, .int v11), (4, .int v18), (5, .int v21), (6, .int (1 : Int32)), (7, .int x86), (8, .int (0 : Int32))] rfl ?_
                      refine rs_iinc (1) (1980) dX10_isWrong_171 rfl (by decide) r94 rk_1 (by decide) (fun v100 => [(0, .ref o0_), (1, .int (2200 : Int32)), (2, .int x2_), (3, .int v11), (4, .int v18), (5, .int v21), (6, .int (1 : Int32)), (7, .int v100), (8, .int (0 : Int32))]) (fun _ => rfl) (fun v100 ev100 rv100 => ?_)
                      refine rn_goto (tgt := 109) dX10_isWrong_174 (by decide) ?_
                      refine rn_lv [(0, .ref o0_), (1, .int (2200 : Int32)), (2, .int x2_), (3, .int v11), (4, .int v18), (5, .int v21), (6, .int (1 : Int32)), (7, .int v100)] rfl ?_
                      exact ih _ (lp_inc hm91 ev100 rv100 (by decide)) (1 : Int32) v100 (rg_w rk_1 (by decide) (by decide)) (rg_w rv100 (by decide) (by decide)) rfl
                    · have ch98 := cv_eq h98
                      have r101 : Rg (0) (0) x85 := rf_eqx ch98 r89 rk_0 (by decide) (by decide)
                      refine rn_aload_n (i := 0) dX10_isWrong_138 rfl rfl ?_
                      obtain ⟨o102, hx102, m102⟩ := fs_r hf4 42 rfl
                      refine rn_get q4 kg_SGModel_113 hl4 hx102 dX10_isWrong_139 ?_
                      refine rn_sipush (v := (1980 : Int32)) dX10_isWrong_142 (by decide) ?_
                      refine rn_iload_n (i := 2) dX10_isWrong_145 rfl rfl ?_
                      refine rs_mulD (0) (5940) rk_1980 r29 dX10_isWrong_146 (by decide) (fun v103 ev103 rv103 => ?_)
                      refine rn_iload dX10_isWrong_147 rfl ?_
                      refine rs_addR (0) (7919) rv103 r94 dX10_isWrong_149 (by decide) (fun v104 ev104 rv104 => ?_)
                      obtain ⟨q105, f105, hq105, hl105, hf105⟩ := ts_ia hW m102 hk_73
                      refine rs_zald q105 hl105 hf105 rfl rv104 (by decide) (by decide) dX10_isWrong_150 (fun v106 ev106 rv106 => ?_)
                      refine rn_if_eq (tgt := 168) dX10_isWrong_151 (by decide) (fun h107 => ?_) (fun h107 => ?_)
                      · have ch107 := cv_eq h107
                        have r108 : Rg (0) (0) v106 := rf_eqx ch107 rv106 rk_0 (by decide) (by decide)
                        refine rn_iconst (v := (0 : Int32)) dX10_isWrong_168 (by decide) ?_
                        refine rn_istore dX10_isWrong_169 (by decide) [(0, .ref o0_), (1, .int (2200 : Int32)), (2, .int x2_), (3, .int v11), (4, .int v18), (5, .int v21), (6, .int (0 : Int32)), (7, .int x86), (8, .int (0 : Int32))] rfl ?_
                        refine rs_iinc (1) (1980) dX10_isWrong_171 rfl (by decide) r94 rk_1 (by decide) (fun v109 => [(0, .ref o0_), (1, .int (2200 : Int32)), (2, .int x2_), (3, .int v11), (4, .int v18), (5, .int v21), (6, .int (0 : Int32)), (7, .int v109), (8, .int (0 : Int32))]) (fun _ => rfl) (fun v109 ev109 rv109 => ?_)
                        refine rn_goto (tgt := 109) dX10_isWrong_174 (by decide) ?_
                        refine rn_lv [(0, .ref o0_), (1, .int (2200 : Int32)), (2, .int x2_), (3, .int v11), (4, .int v18), (5, .int v21), (6, .int (0 : Int32)), (7, .int v109)] rfl ?_
                        exact ih _ (lp_inc hm91 ev109 rv109 (by decide)) (0 : Int32) v109 (rg_w rk_0 (by decide) (by decide)) (rg_w rv109 (by decide) (by decide)) rfl
                      · have ch107 := cv_ne h107
                        have r110 : Rg (1) (1) v106 := rf_nel ch107 rv106 rk_0 (by decide) (by decide)
                        refine rn_iload dX10_isWrong_154 rfl ?_
                        refine rn_if_ne (tgt := 164) dX10_isWrong_156 (by decide) (fun h111 => (cx_ne (cv_ne h111) rk_0 rk_0 (by decide)).elim) (fun h111 => ?_)
                        refine rn_iload dX10_isWrong_159 rfl ?_
                        refine rn_if_ne (tgt := 168) dX10_isWrong_161 (by decide) (fun h112 => (cx_ne (cv_ne h112) r24 rk_0 (by decide)).elim) (fun h112 => ?_)
                        have ch112 := cv_eq h112
                        refine rn_iconst (v := (1 : Int32)) dX10_isWrong_164 (by decide) ?_
                        refine rn_goto (tgt := 169) dX10_isWrong_165 (by decide) ?_
                        refine rn_istore dX10_isWrong_169 (by decide) [(0, .ref o0_), (1, .int (2200 : Int32)), (2, .int x2_), (3, .int v11), (4, .int v18), (5, .int v21), (6, .int (1 : Int32)), (7, .int x86), (8, .int (0 : Int32))] rfl ?_
                        refine rs_iinc (1) (1980) dX10_isWrong_171 rfl (by decide) r94 rk_1 (by decide) (fun v113 => [(0, .ref o0_), (1, .int (2200 : Int32)), (2, .int x2_), (3, .int v11), (4, .int v18), (5, .int v21), (6, .int (1 : Int32)), (7, .int v113), (8, .int (0 : Int32))]) (fun _ => rfl) (fun v113 ev113 rv113 => ?_)
                        refine rn_goto (tgt := 109) dX10_isWrong_174 (by decide) ?_
                        refine rn_lv [(0, .ref o0_), (1, .int (2200 : Int32)), (2, .int x2_), (3, .int v11), (4, .int v18), (5, .int v21), (6, .int (1 : Int32)), (7, .int v113)] rfl ?_
                        exact ih _ (lp_inc hm91 ev113 rv113 (by decide)) (1 : Int32) v113 (rg_w rk_1 (by decide) (by decide)) (rg_w rv113 (by decide) (by decide)) rfl
                  · have ch96 := cv_nle h96
                    have r114 : Rg (1) (67555) v95 := rf_lty ch96 r94 rv95 (by decide)
                    refine rn_iconst (v := (1 : Int32)) dX10_isWrong_126 (by decide) ?_
                    refine rn_goto (tgt := 131) dX10_isWrong_127 (by decide) ?_
                    refine rn_istore dX10_isWrong_131 (by decide) [(0, .ref o0_), (1, .int (2200 : Int32)), (2, .int x2_), (3, .int v11), (4, .int v18), (5, .int v21), (6, .int x85), (7, .int x86), (8, .int (1 : Int32))] rfl ?_
                    refine rn_iload dX10_isWrong_133 rfl ?_
                    refine rn_if_ne (tgt := 164) dX10_isWrong_135 (by decide) (fun h115 => ?_) (fun h115 => ?_)
                    · have ch115 := cv_ne h115
                      have r116 : Rg (1) (1) x85 := rf_nel ch115 r89 rk_0 (by decide) (by decide)
                      refine rn_iconst (v := (1 : Int32)) dX10_isWrong_164 (by decide) ?_
                      refine rn_goto (tgt := 169) dX10_isWrong_165 (by decide) ?_
                      refine rn_istore dX10_isWrong_169 (by decide) [(0, .ref o0_), (1, .int (2200 : Int32)), (2, .int x2_), (3, .int v11), (4, .int v18), (5, .int v21), (6, .int (1 : Int32)), (7, .int x86), (8, .int (1 : Int32))] rfl ?_
                      refine rs_iinc (1) (1980) dX10_isWrong_171 rfl (by decide) r94 rk_1 (by decide) (fun v117 => [(0, .ref o0_), (1, .int (2200 : Int32)), (2, .int x2_), (3, .int v11), (4, .int v18), (5, .int v21), (6, .int (1 : Int32)), (7, .int v117), (8, .int (1 : Int32))]) (fun _ => rfl) (fun v117 ev117 rv117 => ?_)
                      refine rn_goto (tgt := 109) dX10_isWrong_174 (by decide) ?_
                      refine rn_lv [(0, .ref o0_), (1, .int (2200 : Int32)), (2, .int x2_), (3, .int v11), (4, .int v18), (5, .int v21), (6, .int (1 : Int32)), (7, .int v117)] rfl ?_
                      exact ih _ (lp_inc hm91 ev117 rv117 (by decide)) (1 : Int32) v117 (rg_w rk_1 (by decide) (by decide)) (rg_w rv117 (by decide) (by decide)) rfl
                    · have ch115 := cv_eq h115
                      have r118 : Rg (0) (0) x85 := rf_eqx ch115 r89 rk_0 (by decide) (by decide)
                      refine rn_aload_n (i := 0) dX10_isWrong_138 rfl rfl ?_
                      obtain ⟨o119, hx119, m119⟩ := fs_r hf4 42 rfl
                      refine rn_get q4 kg_SGModel_113 hl4 hx119 dX10_isWrong_139 ?_
                      refine rn_sipush (v := (1980 : Int32)) dX10_isWrong_142 (by decide) ?_
                      refine rn_iload_n (i := 2) dX10_isWrong_145 rfl rfl ?_
                      refine rs_mulD (0) (5940) rk_1980 r29 dX10_isWrong_146 (by decide) (fun v120 ev120 rv120 => ?_)
                      refine rn_iload dX10_isWrong_147 rfl ?_
                      refine rs_addR (0) (7919) rv120 r94 dX10_isWrong_149 (by decide) (fun v121 ev121 rv121 => ?_)
                      obtain ⟨q122, f122, hq122, hl122, hf122⟩ := ts_ia hW m119 hk_73
                      refine rs_zald q122 hl122 hf122 rfl rv121 (by decide) (by decide) dX10_isWrong_150 (fun v123 ev123 rv123 => ?_)
                      refine rn_if_eq (tgt := 168) dX10_isWrong_151 (by decide) (fun h124 => ?_) (fun h124 => ?_)
                      · have ch124 := cv_eq h124
                        have r125 : Rg (0) (0) v123 := rf_eqx ch124 rv123 rk_0 (by decide) (by decide)
                        refine rn_iconst (v := (0 : Int32)) dX10_isWrong_168 (by decide) ?_
                        refine rn_istore dX10_isWrong_169 (by decide) [(0, .ref o0_), (1, .int (2200 : Int32)), (2, .int x2_), (3, .int v11), (4, .int v18), (5, .int v21), (6, .int (0 : Int32)), (7, .int x86), (8, .int (1 : Int32))] rfl ?_
                        refine rs_iinc (1) (1980) dX10_isWrong_171 rfl (by decide) r94 rk_1 (by decide) (fun v126 => [(0, .ref o0_), (1, .int (2200 : Int32)), (2, .int x2_), (3, .int v11), (4, .int v18), (5, .int v21), (6, .int (0 : Int32)), (7, .int v126), (8, .int (1 : Int32))]) (fun _ => rfl) (fun v126 ev126 rv126 => ?_)
                        refine rn_goto (tgt := 109) dX10_isWrong_174 (by decide) ?_
                        refine rn_lv [(0, .ref o0_), (1, .int (2200 : Int32)), (2, .int x2_), (3, .int v11), (4, .int v18), (5, .int v21), (6, .int (0 : Int32)), (7, .int v126)] rfl ?_
                        exact ih _ (lp_inc hm91 ev126 rv126 (by decide)) (0 : Int32) v126 (rg_w rk_0 (by decide) (by decide)) (rg_w rv126 (by decide) (by decide)) rfl
                      · have ch124 := cv_ne h124
                        have r127 : Rg (1) (1) v123 := rf_nel ch124 rv123 rk_0 (by decide) (by decide)
                        refine rn_iload dX10_isWrong_154 rfl ?_
                        refine rn_if_ne (tgt := 164) dX10_isWrong_156 (by decide) (fun h128 => ?_) (fun h128 => (cx_eq (cv_eq h128) rk_1 rk_0 (by decide)).elim)
                        refine rn_iconst (v := (1 : Int32)) dX10_isWrong_164 (by decide) ?_
                        refine rn_goto (tgt := 169) dX10_isWrong_165 (by decide) ?_
                        refine rn_istore dX10_isWrong_169 (by decide) [(0, .ref o0_), (1, .int (2200 : Int32)), (2, .int x2_), (3, .int v11), (4, .int v18), (5, .int v21), (6, .int (1 : Int32)), (7, .int x86), (8, .int (1 : Int32))] rfl ?_
                        refine rs_iinc (1) (1980) dX10_isWrong_171 rfl (by decide) r94 rk_1 (by decide) (fun v129 => [(0, .ref o0_), (1, .int (2200 : Int32)), (2, .int x2_), (3, .int v11), (4, .int v18), (5, .int v21), (6, .int (1 : Int32)), (7, .int v129), (8, .int (1 : Int32))]) (fun _ => rfl) (fun v129 ev129 rv129 => ?_)
                        refine rn_goto (tgt := 109) dX10_isWrong_174 (by decide) ?_
                        refine rn_lv [(0, .ref o0_), (1, .int (2200 : Int32)), (2, .int x2_), (3, .int v11), (4, .int v18), (5, .int v21), (6, .int (1 : Int32)), (7, .int v129)] rfl ?_
                        exact ih _ (lp_inc hm91 ev129 rv129 (by decide)) (1 : Int32) v129 (rg_w rk_1 (by decide) (by decide)) (rg_w rv129 (by decide) (by decide)) rfl
            exact LP87 _ (0 : Int32) v18 (rg_w rk_0 (by decide) (by decide)) rv18 rfl
          · have ch83 := cv_ne h83
            have r130 : Rg (0) (1980) v82 := rf_nel ch83 rv82 rk_m1 (by decide) (by decide)
            refine rn_iload dX10_isWrong_85 rfl ?_
            refine rn_iload_n (i := 3) dX10_isWrong_87 rfl rfl ?_
            refine rs_addR (0) (67555) rv18 rv11 dX10_isWrong_88 (by decide) (fun v131 ev131 rv131 => ?_)
            refine rn_aload_n (i := 0) dX10_isWrong_89 rfl rfl ?_
            refine rn_get q4 kg_SGModel_104 hl4 hx31 dX10_isWrong_90 ?_
            refine rn_iload_n (i := 2) dX10_isWrong_93 rfl rfl ?_
            refine rs_iald q32 hl32 hf32 rfl r29 (by decide) (by decide) dX10_isWrong_94 (fun v132 ev132 rv132 => ?_)
            refine rn_icmp_le (tgt := 102) dX10_isWrong_95 (by decide) (fun h133 => ?_) (fun h133 => ?_)
            · have ch133 := cv_le h133
              have r134 : Rg (0) (1980) v131 := rf_lex ch133 rv131 rv132 (by decide)
              have r135 : Rg (0) (1980) v132 := rf_ley ch133 rv131 rv132 (by decide)
              refine rn_iconst (v := (0 : Int32)) dX10_isWrong_102 (by decide) ?_
              refine rn_istore dX10_isWrong_103 (by decide) [(0, .ref o0_), (1, .int (2200 : Int32)), (2, .int x2_), (3, .int v11), (4, .int v18), (5, .int v21), (6, .int (0 : Int32))] rfl ?_
              refine rn_iload dX10_isWrong_105 rfl ?_
              refine rn_istore dX10_isWrong_107 (by decide) [(0, .ref o0_), (1, .int (2200 : Int32)), (2, .int x2_), (3, .int v11), (4, .int v18), (5, .int v21), (6, .int (0 : Int32)), (7, .int v18)] rfl ?_
              have LP138 : ∀ (n : Nat) (x136 : Int32) (x137 : Int32), Rg (0) (1) x136 → Rg (0) (65528) x137 → (65528 - x137.toInt).toNat = n → Rn G mX10_isWrong 2 42 0 0 109 [(0, .ref o0_), (1, .int (2200 : Int32)), (2, .int x2_), (3, .int v11), (4, .int v18), (5, .int v21), (6, .int x136), (7, .int x137)] [] ws (q_t_X10_isWrong_2200 G S ws x2_) := by
                intro n
                induction n using Nat.strongRecOn with
                | _ n ih =>
                  intro x136 x137 r140 r141 hm142
                  refine rn_iload dX10_isWrong_109 rfl ?_
                  refine rn_sipush (v := (1980 : Int32)) dX10_isWrong_111 (by decide) ?_
                  refine rn_icmp_ge (tgt := 177) dX10_isWrong_114 (by decide) (fun h143 => ?_) (fun h143 => ?_)
                  · have ch143 := cv_le h143
                    have r144 : Rg (1980) (65528) x137 := rf_ley ch143 rk_1980 r141 (by decide)
                    refine rn_iload dX10_isWrong_177 rfl ?_
                    exact rn_iret dX10_isWrong_179 rfl (nb_n r140) (rq_in ⟨rfl, x136, rfl, r140, (fun _ => by rw [ht3, ht2]; have := rk_1980.1; have := rk_1980.2; omega)⟩)
                  · have ch143 := cv_nle h143
                    have r145 : Rg (0) (1979) x137 := rf_ltx ch143 r141 rk_1980 (by decide)
                    refine rn_iload dX10_isWrong_117 rfl ?_
                    refine rn_iload dX10_isWrong_119 rfl ?_
                    refine rn_iload_n (i := 3) dX10_isWrong_121 rfl rfl ?_
                    refine rs_addR (0) (67555) rv18 rv11 dX10_isWrong_122 (by decide) (fun v146 ev146 rv146 => ?_)
                    refine rn_icmp_ge (tgt := 130) dX10_isWrong_123 (by decide) (fun h147 => ?_) (fun h147 => ?_)
                    · have ch147 := cv_le h147
                      have r148 : Rg (0) (1979) v146 := rf_lex ch147 rv146 r145 (by decide)
                      refine rn_iconst (v := (0 : Int32)) dX10_isWrong_130 (by decide) ?_
                      refine rn_istore dX10_isWrong_131 (by decide) [(0, .ref o0_), (1, .int (2200 : Int32)), (2, .int x2_), (3, .int v11), (4, .int v18), (5, .int v21), (6, .int x136), (7, .int x137), (8, .int (0 : Int32))] rfl ?_
                      refine rn_iload dX10_isWrong_133 rfl ?_
                      refine rn_if_ne (tgt := 164) dX10_isWrong_135 (by decide) (fun h149 => ?_) (fun h149 => ?_)
                      · have ch149 := cv_ne h149
                        have r150 : Rg (1) (1) x136 := rf_nel ch149 r140 rk_0 (by decide) (by decide)
                        refine rn_iconst (v := (1 : Int32)) dX10_isWrong_164 (by decide) ?_
                        refine rn_goto (tgt := 169) dX10_isWrong_165 (by decide) ?_
                        refine rn_istore dX10_isWrong_169 (by decide) [(0, .ref o0_), (1, .int (2200 : Int32)), (2, .int x2_), (3, .int v11), (4, .int v18), (5, .int v21), (6, .int (1 : Int32)), (7, .int x137), (8, .int (0 : Int32))] rfl ?_
                        refine rs_iinc (1) (1980) dX10_isWrong_171 rfl (by decide) r145 rk_1 (by decide) (fun v151 => [(0, .ref o0_), (1, .int (2200 : Int32)), (2, .int x2_), (3, .int v11), (4, .int v18), (5, .int v21), (6, .int (1 : Int32)), (7, .int v151), (8, .int (0 : Int32))]) (fun _ => rfl) (fun v151 ev151 rv151 => ?_)
                        refine rn_goto (tgt := 109) dX10_isWrong_174 (by decide) ?_
                        refine rn_lv [(0, .ref o0_), (1, .int (2200 : Int32)), (2, .int x2_), (3, .int v11), (4, .int v18), (5, .int v21), (6, .int (1 : Int32)), (7, .int v151)] rfl ?_
                        exact ih _ (lp_inc hm142 ev151 rv151 (by decide)) (1 : Int32) v151 (rg_w rk_1 (by decide) (by decide)) (rg_w rv151 (by decide) (by decide)) rfl
                      · have ch149 := cv_eq h149
                        have r152 : Rg (0) (0) x136 := rf_eqx ch149 r140 rk_0 (by decide) (by decide)
                        refine rn_aload_n (i := 0) dX10_isWrong_138 rfl rfl ?_
                        obtain ⟨o153, hx153, m153⟩ := fs_r hf4 42 rfl
                        refine rn_get q4 kg_SGModel_113 hl4 hx153 dX10_isWrong_139 ?_
                        refine rn_sipush (v := (1980 : Int32)) dX10_isWrong_142 (by decide) ?_
                        refine rn_iload_n (i := 2) dX10_isWrong_145 rfl rfl ?_
                        refine rs_mulD (0) (5940) rk_1980 r29 dX10_isWrong_146 (by decide) (fun v154 ev154 rv154 => ?_)
                        refine rn_iload dX10_isWrong_147 rfl ?_
                        refine rs_addR (0) (7919) rv154 r145 dX10_isWrong_149 (by decide) (fun v155 ev155 rv155 => ?_)
                        obtain ⟨q156, f156, hq156, hl156, hf156⟩ := ts_ia hW m153 hk_73
                        refine rs_zald q156 hl156 hf156 rfl rv155 (by decide) (by decide) dX10_isWrong_150 (fun v157 ev157 rv157 => ?_)
                        refine rn_if_eq (tgt := 168) dX10_isWrong_151 (by decide) (fun h158 => ?_) (fun h158 => ?_)
                        · have ch158 := cv_eq h158
                          have r159 : Rg (0) (0) v157 := rf_eqx ch158 rv157 rk_0 (by decide) (by decide)
                          refine rn_iconst (v := (0 : Int32)) dX10_isWrong_168 (by decide) ?_
                          refine rn_istore dX10_isWrong_169 (by decide) [(0, .ref o0_), (1, .int (2200 : Int32)), (2, .int x2_), (3, .int v11), (4, .int v18), (5, .int v21), (6, .int (0 : Int32)), (7, .int x137), (8, .int (0 : Int32))] rfl ?_
                          refine rs_iinc (1) (1980) dX10_isWrong_171 rfl (by decide) r145 rk_1 (by decide) (fun v160 => [(0, .ref o0_), (1, .int (2200 : Int32)), (2, .int x2_), (3, .int v11), (4, .int v18), (5, .int v21), (6, .int (0 : Int32)), (7, .int v160), (8, .int (0 : Int32))]) (fun _ => rfl) (fun v160 ev160 rv160 => ?_)
                          refine rn_goto (tgt := 109) dX10_isWrong_174 (by decide) ?_
                          refine rn_lv [(0, .ref o0_), (1, .int (2200 : Int32)), (2, .int x2_), (3, .int v11), (4, .int v18), (5, .int v21), (6, .int (0 : Int32)), (7, .int v160)] rfl ?_
                          exact ih _ (lp_inc hm142 ev160 rv160 (by decide)) (0 : Int32) v160 (rg_w rk_0 (by decide) (by decide)) (rg_w rv160 (by decide) (by decide)) rfl
                        · have ch158 := cv_ne h158
                          have r161 : Rg (1) (1) v157 := rf_nel ch158 rv157 rk_0 (by decide) (by decide)
                          refine rn_iload dX10_isWrong_154 rfl ?_
                          refine rn_if_ne (tgt := 164) dX10_isWrong_156 (by decide) (fun h162 => (cx_ne (cv_ne h162) rk_0 rk_0 (by decide)).elim) (fun h162 => ?_)
                          refine rn_iload dX10_isWrong_159 rfl ?_
                          refine rn_if_ne (tgt := 168) dX10_isWrong_161 (by decide) (fun h163 => (cx_ne (cv_ne h163) r24 rk_0 (by decide)).elim) (fun h163 => ?_)
                          have ch163 := cv_eq h163
                          refine rn_iconst (v := (1 : Int32)) dX10_isWrong_164 (by decide) ?_
                          refine rn_goto (tgt := 169) dX10_isWrong_165 (by decide) ?_
                          refine rn_istore dX10_isWrong_169 (by decide) [(0, .ref o0_), (1, .int (2200 : Int32)), (2, .int x2_), (3, .int v11), (4, .int v18), (5, .int v21), (6, .int (1 : Int32)), (7, .int x137), (8, .int (0 : Int32))] rfl ?_
                          refine rs_iinc (1) (1980) dX10_isWrong_171 rfl (by decide) r145 rk_1 (by decide) (fun v164 => [(0, .ref o0_), (1, .int (2200 : Int32)), (2, .int x2_), (3, .int v11), (4, .int v18), (5, .int v21), (6, .int (1 : Int32)), (7, .int v164), (8, .int (0 : Int32))]) (fun _ => rfl) (fun v164 ev164 rv164 => ?_)
                          refine rn_goto (tgt := 109) dX10_isWrong_174 (by decide) ?_
                          refine rn_lv [(0, .ref o0_), (1, .int (2200 : Int32)), (2, .int x2_), (3, .int v11), (4, .int v18), (5, .int v21), (6, .int (1 : Int32)), (7, .int v164)] rfl ?_
                          exact ih _ (lp_inc hm142 ev164 rv164 (by decide)) (1 : Int32) v164 (rg_w rk_1 (by decide) (by decide)) (rg_w rv164 (by decide) (by decide)) rfl
                    · have ch147 := cv_nle h147
                      have r165 : Rg (1) (67555) v146 := rf_lty ch147 r145 rv146 (by decide)
                      refine rn_iconst (v := (1 : Int32)) dX10_isWrong_126 (by decide) ?_
                      refine rn_goto (tgt := 131) dX10_isWrong_127 (by decide) ?_
                      refine rn_istore dX10_isWrong_131 (by decide) [(0, .ref o0_), (1, .int (2200 : Int32)), (2, .int x2_), (3, .int v11), (4, .int v18), (5, .int v21), (6, .int x136), (7, .int x137), (8, .int (1 : Int32))] rfl ?_
                      refine rn_iload dX10_isWrong_133 rfl ?_
                      refine rn_if_ne (tgt := 164) dX10_isWrong_135 (by decide) (fun h166 => ?_) (fun h166 => ?_)
                      · have ch166 := cv_ne h166
                        have r167 : Rg (1) (1) x136 := rf_nel ch166 r140 rk_0 (by decide) (by decide)
                        refine rn_iconst (v := (1 : Int32)) dX10_isWrong_164 (by decide) ?_
                        refine rn_goto (tgt := 169) dX10_isWrong_165 (by decide) ?_
                        refine rn_istore dX10_isWrong_169 (by decide) [(0, .ref o0_), (1, .int (2200 : Int32)), (2, .int x2_), (3, .int v11), (4, .int v18), (5, .int v21), (6, .int (1 : Int32)), (7, .int x137), (8, .int (1 : Int32))] rfl ?_
                        refine rs_iinc (1) (1980) dX10_isWrong_171 rfl (by decide) r145 rk_1 (by decide) (fun v168 => [(0, .ref o0_), (1, .int (2200 : Int32)), (2, .int x2_), (3, .int v11), (4, .int v18), (5, .int v21), (6, .int (1 : Int32)), (7, .int v168), (8, .int (1 : Int32))]) (fun _ => rfl) (fun v168 ev168 rv168 => ?_)
                        refine rn_goto (tgt := 109) dX10_isWrong_174 (by decide) ?_
                        refine rn_lv [(0, .ref o0_), (1, .int (2200 : Int32)), (2, .int x2_), (3, .int v11), (4, .int v18), (5, .int v21), (6, .int (1 : Int32)), (7, .int v168)] rfl ?_
                        exact ih _ (lp_inc hm142 ev168 rv168 (by decide)) (1 : Int32) v168 (rg_w rk_1 (by decide) (by decide)) (rg_w rv168 (by decide) (by decide)) rfl
                      · have ch166 := cv_eq h166
                        have r169 : Rg (0) (0) x136 := rf_eqx ch166 r140 rk_0 (by decide) (by decide)
                        refine rn_aload_n (i := 0) dX10_isWrong_138 rfl rfl ?_
                        obtain ⟨o170, hx170, m170⟩ := fs_r hf4 42 rfl
                        refine rn_get q4 kg_SGModel_113 hl4 hx170 dX10_isWrong_139 ?_
                        refine rn_sipush (v := (1980 : Int32)) dX10_isWrong_142 (by decide) ?_
                        refine rn_iload_n (i := 2) dX10_isWrong_145 rfl rfl ?_
                        refine rs_mulD (0) (5940) rk_1980 r29 dX10_isWrong_146 (by decide) (fun v171 ev171 rv171 => ?_)
                        refine rn_iload dX10_isWrong_147 rfl ?_
                        refine rs_addR (0) (7919) rv171 r145 dX10_isWrong_149 (by decide) (fun v172 ev172 rv172 => ?_)
                        obtain ⟨q173, f173, hq173, hl173, hf173⟩ := ts_ia hW m170 hk_73
                        refine rs_zald q173 hl173 hf173 rfl rv172 (by decide) (by decide) dX10_isWrong_150 (fun v174 ev174 rv174 => ?_)
                        refine rn_if_eq (tgt := 168) dX10_isWrong_151 (by decide) (fun h175 => ?_) (fun h175 => ?_)
                        · have ch175 := cv_eq h175
                          have r176 : Rg (0) (0) v174 := rf_eqx ch175 rv174 rk_0 (by decide) (by decide)
                          refine rn_iconst (v := (0 : Int32)) dX10_isWrong_168 (by decide) ?_
                          refine rn_istore dX10_isWrong_169 (by decide) [(0, .ref o0_), (1, .int (2200 : Int32)), (2, .int x2_), (3, .int v11), (4, .int v18), (5, .int v21), (6, .int (0 : Int32)), (7, .int x137), (8, .int (1 : Int32))] rfl ?_
                          refine rs_iinc (1) (1980) dX10_isWrong_171 rfl (by decide) r145 rk_1 (by decide) (fun v177 => [(0, .ref o0_), (1, .int (2200 : Int32)), (2, .int x2_), (3, .int v11), (4, .int v18), (5, .int v21), (6, .int (0 : Int32)), (7, .int v177), (8, .int (1 : Int32))]) (fun _ => rfl) (fun v177 ev177 rv177 => ?_)
                          refine rn_goto (tgt := 109) dX10_isWrong_174 (by decide) ?_
                          refine rn_lv [(0, .ref o0_), (1, .int (2200 : Int32)), (2, .int x2_), (3, .int v11), (4, .int v18), (5, .int v21), (6, .int (0 : Int32)), (7, .int v177)] rfl ?_
                          exact ih _ (lp_inc hm142 ev177 rv177 (by decide)) (0 : Int32) v177 (rg_w rk_0 (by decide) (by decide)) (rg_w rv177 (by decide) (by decide)) rfl
                        · have ch175 := cv_ne h175
                          have r178 : Rg (1) (1) v174 := rf_nel ch175 rv174 rk_0 (by decide) (by decide)
                          refine rn_iload dX10_isWrong_154 rfl ?_
                          refine rn_if_ne (tgt := 164) dX10_isWrong_156 (by decide) (fun h179 => ?_) (fun h179 => (cx_eq (cv_eq h179) rk_1 rk_0 (by decide)).elim)
                          refine rn_iconst (v := (1 : Int32)) dX10_isWrong_164 (by decide) ?_
                          refine rn_goto (tgt := 169) dX10_isWrong_165 (by decide) ?_
                          refine rn_istore dX10_isWrong_169 (by decide) [(0, .ref o0_), (1, .int (2200 : Int32)), (2, .int x2_), (3, .int v11), (4, .int v18), (5, .int v21), (6, .int (1 : Int32)), (7, .int x137), (8, .int (1 : Int32))] rfl ?_
                          refine rs_iinc (1) (1980) dX10_isWrong_171 rfl (by decide) r145 rk_1 (by decide) (fun v180 => [(0, .ref o0_), (1, .int (2200 : Int32)), (2, .int x2_), (3, .int v11), (4, .int v18), (5, .int v21), (6, .int (1 : Int32)), (7, .int v180), (8, .int (1 : Int32))]) (fun _ => rfl) (fun v180 ev180 rv180 => ?_)
                          refine rn_goto (tgt := 109) dX10_isWrong_174 (by decide) ?_
                          refine rn_lv [(0, .ref o0_), (1, .int (2200 : Int32)), (2, .int x2_), (3, .int v11), (4, .int v18), (5, .int v21), (6, .int (1 : Int32)), (7, .int v180)] rfl ?_
                          exact ih _ (lp_inc hm142 ev180 rv180 (by decide)) (1 : Int32) v180 (rg_w rk_1 (by decide) (by decide)) (rg_w rv180 (by decide) (by decide)) rfl
              exact LP138 _ (0 : Int32) v18 (rg_w rk_0 (by decide) (by decide)) rv18 rfl
            · have ch133 := cv_nle h133
              refine rn_iconst (v := (1 : Int32)) dX10_isWrong_98 (by decide) ?_
              refine rn_goto (tgt := 103) dX10_isWrong_99 (by decide) ?_
              refine rn_istore dX10_isWrong_103 (by decide) [(0, .ref o0_), (1, .int (2200 : Int32)), (2, .int x2_), (3, .int v11), (4, .int v18), (5, .int v21), (6, .int (1 : Int32))] rfl ?_
              refine rn_iload dX10_isWrong_105 rfl ?_
              refine rn_istore dX10_isWrong_107 (by decide) [(0, .ref o0_), (1, .int (2200 : Int32)), (2, .int x2_), (3, .int v11), (4, .int v18), (5, .int v21), (6, .int (1 : Int32)), (7, .int v18)] rfl ?_
              have LP183 : ∀ (n : Nat) (x181 : Int32) (x182 : Int32), Rg (0) (1) x181 → Rg (0) (65528) x182 → (65528 - x182.toInt).toNat = n → Rn G mX10_isWrong 2 42 0 0 109 [(0, .ref o0_), (1, .int (2200 : Int32)), (2, .int x2_), (3, .int v11), (4, .int v18), (5, .int v21), (6, .int x181), (7, .int x182)] [] ws (q_t_X10_isWrong_2200 G S ws x2_) := by
                intro n
                induction n using Nat.strongRecOn with
                | _ n ih =>
                  intro x181 x182 r185 r186 hm187
                  refine rn_iload dX10_isWrong_109 rfl ?_
                  refine rn_sipush (v := (1980 : Int32)) dX10_isWrong_111 (by decide) ?_
                  refine rn_icmp_ge (tgt := 177) dX10_isWrong_114 (by decide) (fun h188 => ?_) (fun h188 => ?_)
                  · have ch188 := cv_le h188
                    have r189 : Rg (1980) (65528) x182 := rf_ley ch188 rk_1980 r186 (by decide)
                    refine rn_iload dX10_isWrong_177 rfl ?_
                    exact rn_iret dX10_isWrong_179 rfl (nb_n r185) (rq_in ⟨rfl, x181, rfl, r185, (fun _ => by rw [ht3, ht2]; have := rk_1980.1; have := rk_1980.2; omega)⟩)
                  · have ch188 := cv_nle h188
                    have r190 : Rg (0) (1979) x182 := rf_ltx ch188 r186 rk_1980 (by decide)
                    refine rn_iload dX10_isWrong_117 rfl ?_
                    refine rn_iload dX10_isWrong_119 rfl ?_
                    refine rn_iload_n (i := 3) dX10_isWrong_121 rfl rfl ?_
                    refine rs_addR (0) (67555) rv18 rv11 dX10_isWrong_122 (by decide) (fun v191 ev191 rv191 => ?_)
                    refine rn_icmp_ge (tgt := 130) dX10_isWrong_123 (by decide) (fun h192 => ?_) (fun h192 => ?_)
                    · have ch192 := cv_le h192
                      have r193 : Rg (0) (1979) v191 := rf_lex ch192 rv191 r190 (by decide)
                      refine rn_iconst (v := (0 : Int32)) dX10_isWrong_130 (by decide) ?_
                      refine rn_istore dX10_isWrong_131 (by decide) [(0, .ref o0_), (1, .int (2200 : Int32)), (2, .int x2_), (3, .int v11), (4, .int v18), (5, .int v21), (6, .int x181), (7, .int x182), (8, .int (0 : Int32))] rfl ?_
                      refine rn_iload dX10_isWrong_133 rfl ?_
                      refine rn_if_ne (tgt := 164) dX10_isWrong_135 (by decide) (fun h194 => ?_) (fun h194 => ?_)
                      · have ch194 := cv_ne h194
                        have r195 : Rg (1) (1) x181 := rf_nel ch194 r185 rk_0 (by decide) (by decide)
                        refine rn_iconst (v := (1 : Int32)) dX10_isWrong_164 (by decide) ?_
                        refine rn_goto (tgt := 169) dX10_isWrong_165 (by decide) ?_
                        refine rn_istore dX10_isWrong_169 (by decide) [(0, .ref o0_), (1, .int (2200 : Int32)), (2, .int x2_), (3, .int v11), (4, .int v18), (5, .int v21), (6, .int (1 : Int32)), (7, .int x182), (8, .int (0 : Int32))] rfl ?_
                        refine rs_iinc (1) (1980) dX10_isWrong_171 rfl (by decide) r190 rk_1 (by decide) (fun v196 => [(0, .ref o0_), (1, .int (2200 : Int32)), (2, .int x2_), (3, .int v11), (4, .int v18), (5, .int v21), (6, .int (1 : Int32)), (7, .int v196), (8, .int (0 : Int32))]) (fun _ => rfl) (fun v196 ev196 rv196 => ?_)
                        refine rn_goto (tgt := 109) dX10_isWrong_174 (by decide) ?_
                        refine rn_lv [(0, .ref o0_), (1, .int (2200 : Int32)), (2, .int x2_), (3, .int v11), (4, .int v18), (5, .int v21), (6, .int (1 : Int32)), (7, .int v196)] rfl ?_
                        exact ih _ (lp_inc hm187 ev196 rv196 (by decide)) (1 : Int32) v196 (rg_w rk_1 (by decide) (by decide)) (rg_w rv196 (by decide) (by decide)) rfl
                      · have ch194 := cv_eq h194
                        have r197 : Rg (0) (0) x181 := rf_eqx ch194 r185 rk_0 (by decide) (by decide)
                        refine rn_aload_n (i := 0) dX10_isWrong_138 rfl rfl ?_
                        obtain ⟨o198, hx198, m198⟩ := fs_r hf4 42 rfl
                        refine rn_get q4 kg_SGModel_113 hl4 hx198 dX10_isWrong_139 ?_
                        refine rn_sipush (v := (1980 : Int32)) dX10_isWrong_142 (by decide) ?_
                        refine rn_iload_n (i := 2) dX10_isWrong_145 rfl rfl ?_
                        refine rs_mulD (0) (5940) rk_1980 r29 dX10_isWrong_146 (by decide) (fun v199 ev199 rv199 => ?_)
                        refine rn_iload dX10_isWrong_147 rfl ?_
                        refine rs_addR (0) (7919) rv199 r190 dX10_isWrong_149 (by decide) (fun v200 ev200 rv200 => ?_)
                        obtain ⟨q201, f201, hq201, hl201, hf201⟩ := ts_ia hW m198 hk_73
                        refine rs_zald q201 hl201 hf201 rfl rv200 (by decide) (by decide) dX10_isWrong_150 (fun v202 ev202 rv202 => ?_)
                        refine rn_if_eq (tgt := 168) dX10_isWrong_151 (by decide) (fun h203 => ?_) (fun h203 => ?_)
                        · have ch203 := cv_eq h203
                          have r204 : Rg (0) (0) v202 := rf_eqx ch203 rv202 rk_0 (by decide) (by decide)
                          refine rn_iconst (v := (0 : Int32)) dX10_isWrong_168 (by decide) ?_
                          refine rn_istore dX10_isWrong_169 (by decide) [(0, .ref o0_), (1, .int (2200 : Int32)), (2, .int x2_), (3, .int v11), (4, .int v18), (5, .int v21), (6, .int (0 : Int32)), (7, .int x182), (8, .int (0 : Int32))] rfl ?_
                          refine rs_iinc (1) (1980) dX10_isWrong_171 rfl (by decide) r190 rk_1 (by decide) (fun v205 => [(0, .ref o0_), (1, .int (2200 : Int32)), (2, .int x2_), (3, .int v11), (4, .int v18), (5, .int v21), (6, .int (0 : Int32)), (7, .int v205), (8, .int (0 : Int32))]) (fun _ => rfl) (fun v205 ev205 rv205 => ?_)
                          refine rn_goto (tgt := 109) dX10_isWrong_174 (by decide) ?_
                          refine rn_lv [(0, .ref o0_), (1, .int (2200 : Int32)), (2, .int x2_), (3, .int v11), (4, .int v18), (5, .int v21), (6, .int (0 : Int32)), (7, .int v205)] rfl ?_
                          exact ih _ (lp_inc hm187 ev205 rv205 (by decide)) (0 : Int32) v205 (rg_w rk_0 (by decide) (by decide)) (rg_w rv205 (by decide) (by decide)) rfl
                        · have ch203 := cv_ne h203
                          have r206 : Rg (1) (1) v202 := rf_nel ch203 rv202 rk_0 (by decide) (by decide)
                          refine rn_iload dX10_isWrong_154 rfl ?_
                          refine rn_if_ne (tgt := 164) dX10_isWrong_156 (by decide) (fun h207 => (cx_ne (cv_ne h207) rk_0 rk_0 (by decide)).elim) (fun h207 => ?_)
                          refine rn_iload dX10_isWrong_159 rfl ?_
                          refine rn_if_ne (tgt := 168) dX10_isWrong_161 (by decide) (fun h208 => (cx_ne (cv_ne h208) r24 rk_0 (by decide)).elim) (fun h208 => ?_)
                          have ch208 := cv_eq h208
                          refine rn_iconst (v := (1 : Int32)) dX10_isWrong_164 (by decide) ?_
                          refine rn_goto (tgt := 169) dX10_isWrong_165 (by decide) ?_
                          refine rn_istore dX10_isWrong_169 (by decide) [(0, .ref o0_), (1, .int (2200 : Int32)), (2, .int x2_), (3, .int v11), (4, .int v18), (5, .int v21), (6, .int (1 : Int32)), (7, .int x182), (8, .int (0 : Int32))] rfl ?_
                          refine rs_iinc (1) (1980) dX10_isWrong_171 rfl (by decide) r190 rk_1 (by decide) (fun v209 => [(0, .ref o0_), (1, .int (2200 : Int32)), (2, .int x2_), (3, .int v11), (4, .int v18), (5, .int v21), (6, .int (1 : Int32)), (7, .int v209), (8, .int (0 : Int32))]) (fun _ => rfl) (fun v209 ev209 rv209 => ?_)
                          refine rn_goto (tgt := 109) dX10_isWrong_174 (by decide) ?_
                          refine rn_lv [(0, .ref o0_), (1, .int (2200 : Int32)), (2, .int x2_), (3, .int v11), (4, .int v18), (5, .int v21), (6, .int (1 : Int32)), (7, .int v209)] rfl ?_
                          exact ih _ (lp_inc hm187 ev209 rv209 (by decide)) (1 : Int32) v209 (rg_w rk_1 (by decide) (by decide)) (rg_w rv209 (by decide) (by decide)) rfl
                    · have ch192 := cv_nle h192
                      have r210 : Rg (1) (67555) v191 := rf_lty ch192 r190 rv191 (by decide)
                      refine rn_iconst (v := (1 : Int32)) dX10_isWrong_126 (by decide) ?_
                      refine rn_goto (tgt := 131) dX10_isWrong_127 (by decide) ?_
                      refine rn_istore dX10_isWrong_131 (by decide) [(0, .ref o0_), (1, .int (2200 : Int32)), (2, .int x2_), (3, .int v11), (4, .int v18), (5, .int v21), (6, .int x181), (7, .int x182), (8, .int (1 : Int32))] rfl ?_
                      refine rn_iload dX10_isWrong_133 rfl ?_
                      refine rn_if_ne (tgt := 164) dX10_isWrong_135 (by decide) (fun h211 => ?_) (fun h211 => ?_)
                      · have ch211 := cv_ne h211
                        have r212 : Rg (1) (1) x181 := rf_nel ch211 r185 rk_0 (by decide) (by decide)
                        refine rn_iconst (v := (1 : Int32)) dX10_isWrong_164 (by decide) ?_
                        refine rn_goto (tgt := 169) dX10_isWrong_165 (by decide) ?_
                        refine rn_istore dX10_isWrong_169 (by decide) [(0, .ref o0_), (1, .int (2200 : Int32)), (2, .int x2_), (3, .int v11), (4, .int v18), (5, .int v21), (6, .int (1 : Int32)), (7, .int x182), (8, .int (1 : Int32))] rfl ?_
                        refine rs_iinc (1) (1980) dX10_isWrong_171 rfl (by decide) r190 rk_1 (by decide) (fun v213 => [(0, .ref o0_), (1, .int (2200 : Int32)), (2, .int x2_), (3, .int v11), (4, .int v18), (5, .int v21), (6, .int (1 : Int32)), (7, .int v213), (8, .int (1 : Int32))]) (fun _ => rfl) (fun v213 ev213 rv213 => ?_)
                        refine rn_goto (tgt := 109) dX10_isWrong_174 (by decide) ?_
                        refine rn_lv [(0, .ref o0_), (1, .int (2200 : Int32)), (2, .int x2_), (3, .int v11), (4, .int v18), (5, .int v21), (6, .int (1 : Int32)), (7, .int v213)] rfl ?_
                        exact ih _ (lp_inc hm187 ev213 rv213 (by decide)) (1 : Int32) v213 (rg_w rk_1 (by decide) (by decide)) (rg_w rv213 (by decide) (by decide)) rfl
                      · have ch211 := cv_eq h211
                        have r214 : Rg (0) (0) x181 := rf_eqx ch211 r185 rk_0 (by decide) (by decide)
                        refine rn_aload_n (i := 0) dX10_isWrong_138 rfl rfl ?_
                        obtain ⟨o215, hx215, m215⟩ := fs_r hf4 42 rfl
                        refine rn_get q4 kg_SGModel_113 hl4 hx215 dX10_isWrong_139 ?_
                        refine rn_sipush (v := (1980 : Int32)) dX10_isWrong_142 (by decide) ?_
                        refine rn_iload_n (i := 2) dX10_isWrong_145 rfl rfl ?_
                        refine rs_mulD (0) (5940) rk_1980 r29 dX10_isWrong_146 (by decide) (fun v216 ev216 rv216 => ?_)
                        refine rn_iload dX10_isWrong_147 rfl ?_
                        refine rs_addR (0) (7919) rv216 r190 dX10_isWrong_149 (by decide) (fun v217 ev217 rv217 => ?_)
                        obtain ⟨q218, f218, hq218, hl218, hf218⟩ := ts_ia hW m215 hk_73
                        refine rs_zald q218 hl218 hf218 rfl rv217 (by decide) (by decide) dX10_isWrong_150 (fun v219 ev219 rv219 => ?_)
                        refine rn_if_eq (tgt := 168) dX10_isWrong_151 (by decide) (fun h220 => ?_) (fun h220 => ?_)
                        · have ch220 := cv_eq h220
                          have r221 : Rg (0) (0) v219 := rf_eqx ch220 rv219 rk_0 (by decide) (by decide)
                          refine rn_iconst (v := (0 : Int32)) dX10_isWrong_168 (by decide) ?_
                          refine rn_istore dX10_isWrong_169 (by decide) [(0, .ref o0_), (1, .int (2200 : Int32)), (2, .int x2_), (3, .int v11), (4, .int v18), (5, .int v21), (6, .int (0 : Int32)), (7, .int x182), (8, .int (1 : Int32))] rfl ?_
                          refine rs_iinc (1) (1980) dX10_isWrong_171 rfl (by decide) r190 rk_1 (by decide) (fun v222 => [(0, .ref o0_), (1, .int (2200 : Int32)), (2, .int x2_), (3, .int v11), (4, .int v18), (5, .int v21), (6, .int (0 : Int32)), (7, .int v222), (8, .int (1 : Int32))]) (fun _ => rfl) (fun v222 ev222 rv222 => ?_)
                          refine rn_goto (tgt := 109) dX10_isWrong_174 (by decide) ?_
                          refine rn_lv [(0, .ref o0_), (1, .int (2200 : Int32)), (2, .int x2_), (3, .int v11), (4, .int v18), (5, .int v21), (6, .int (0 : Int32)), (7, .int v222)] rfl ?_
                          exact ih _ (lp_inc hm187 ev222 rv222 (by decide)) (0 : Int32) v222 (rg_w rk_0 (by decide) (by decide)) (rg_w rv222 (by decide) (by decide)) rfl
                        · have ch220 := cv_ne h220
                          have r223 : Rg (1) (1) v219 := rf_nel ch220 rv219 rk_0 (by decide) (by decide)
                          refine rn_iload dX10_isWrong_154 rfl ?_
                          refine rn_if_ne (tgt := 164) dX10_isWrong_156 (by decide) (fun h224 => ?_) (fun h224 => (cx_eq (cv_eq h224) rk_1 rk_0 (by decide)).elim)
                          refine rn_iconst (v := (1 : Int32)) dX10_isWrong_164 (by decide) ?_
                          refine rn_goto (tgt := 169) dX10_isWrong_165 (by decide) ?_
                          refine rn_istore dX10_isWrong_169 (by decide) [(0, .ref o0_), (1, .int (2200 : Int32)), (2, .int x2_), (3, .int v11), (4, .int v18), (5, .int v21), (6, .int (1 : Int32)), (7, .int x182), (8, .int (1 : Int32))] rfl ?_
                          refine rs_iinc (1) (1980) dX10_isWrong_171 rfl (by decide) r190 rk_1 (by decide) (fun v225 => [(0, .ref o0_), (1, .int (2200 : Int32)), (2, .int x2_), (3, .int v11), (4, .int v18), (5, .int v21), (6, .int (1 : Int32)), (7, .int v225), (8, .int (1 : Int32))]) (fun _ => rfl) (fun v225 ev225 rv225 => ?_)
                          refine rn_goto (tgt := 109) dX10_isWrong_174 (by decide) ?_
                          refine rn_lv [(0, .ref o0_), (1, .int (2200 : Int32)), (2, .int x2_), (3, .int v11), (4, .int v18), (5, .int v21), (6, .int (1 : Int32)), (7, .int v225)] rfl ?_
                          exact ih _ (lp_inc hm187 ev225 rv225 (by decide)) (1 : Int32) v225 (rg_w rk_1 (by decide) (by decide)) (rg_w rv225 (by decide) (by decide)) rfl
              exact LP183 _ (1 : Int32) v18 (rg_w rk_1 (by decide) (by decide)) rv18 rfl
      · have ch28 := cv_nle h28
        have r226 : Rg (-1) (-1) x2_ := rf_ltx ch28 r2_ rk_0 (by decide)
        refine rn_iconst (v := (0 : Int32)) dX10_isWrong_58 (by decide) ?_
        exact rn_iret dX10_isWrong_59 rfl rfl (rq_in ⟨rfl, (0 : Int32), rfl, (rg_w rk_0 (by decide) (by decide)), (fun _ => by rw [ht3, ht2]; have := rk_1980.1; have := rk_1980.2; omega)⟩)
    · have ch26 := cv_nle h26
      have r227 : Rg (1981) (67555) v25 := rf_lty ch26 rk_1980 rv25 (by decide)
      refine rn_iconst (v := (1 : Int32)) dX10_isWrong_52 (by decide) ?_
      exact rn_iret dX10_isWrong_53 rfl rfl (rq_in ⟨rfl, (1 : Int32), rfl, (rg_w rk_1 (by decide) (by decide)), (fun h => absurd h (by decide))⟩)
  · have ch23 := cv_ne h23
    have r228 : Rg (1) (1) v21 := rf_nel ch23 rv21 rk_0 (by decide) (by decide)
    refine rn_iload_n (i := 3) dX10_isWrong_31 rfl rfl ?_
    refine rn_if_eq (tgt := 52) dX10_isWrong_32 (by decide) (fun h229 => ?_) (fun h229 => ?_)
    · have ch229 := cv_eq h229
      have r230 : Rg (0) (0) v11 := rf_eqx ch229 rv11 rk_0 (by decide) (by decide)
      refine rn_iconst (v := (1 : Int32)) dX10_isWrong_52 (by decide) ?_
      exact rn_iret dX10_isWrong_53 rfl rfl (rq_in ⟨rfl, (1 : Int32), rfl, (rg_w rk_1 (by decide) (by decide)), (fun h => absurd h (by decide))⟩)
    · have ch229 := cv_ne h229
      have r231 : Rg (1) (2027) v11 := rf_nel ch229 rv11 rk_0 (by decide) (by decide)
      refine rn_iload_n (i := 3) dX10_isWrong_35 rfl rfl ?_
      refine rn_bipush (v := (8 : Int32)) dX10_isWrong_36 (by decide) ?_
      refine rs_remC (7) r231 rk_8 dX10_isWrong_38 (by decide) (fun v232 ev232 rv232 => ?_)
      refine rn_if_ne (tgt := 52) dX10_isWrong_39 (by decide) (fun h233 => ?_) (fun h233 => ?_)
      · have ch233 := cv_ne h233
        have r234 : Rg (1) (7) v232 := rf_nel ch233 rv232 rk_0 (by decide) (by decide)
        refine rn_iconst (v := (1 : Int32)) dX10_isWrong_52 (by decide) ?_
        exact rn_iret dX10_isWrong_53 rfl rfl (rq_in ⟨rfl, (1 : Int32), rfl, (rg_w rk_1 (by decide) (by decide)), (fun h => absurd h (by decide))⟩)
      · have ch233 := cv_eq h233
        have r235 : Rg (0) (0) v232 := rf_eqx ch233 rv232 rk_0 (by decide) (by decide)
        refine rn_iload dX10_isWrong_42 rfl ?_
        refine rn_iload_n (i := 3) dX10_isWrong_44 rfl rfl ?_
        refine rs_addR (1) (67555) rv18 r231 dX10_isWrong_45 (by decide) (fun v236 ev236 rv236 => ?_)
        refine rn_sipush (v := (1980 : Int32)) dX10_isWrong_46 (by decide) ?_
        refine rn_icmp_le (tgt := 54) dX10_isWrong_49 (by decide) (fun h237 => ?_) (fun h237 => ?_)
        · have ch237 := cv_le h237
          have r238 : Rg (1) (1980) v236 := rf_lex ch237 rv236 rk_1980 (by decide)
          refine rn_iload_n (i := 2) dX10_isWrong_54 rfl rfl ?_
          refine rn_if_ge (tgt := 60) dX10_isWrong_55 (by decide) (fun h239 => ?_) (fun h239 => ?_)
          · have ch239 := cv_le h239
            have r240 : Rg (0) (3) x2_ := rf_ley ch239 rk_0 r2_ (by decide)
            refine rn_iload dX10_isWrong_60 rfl ?_
            refine rn_if_ne (tgt := 75) dX10_isWrong_62 (by decide) (fun h241 => ?_) (fun h241 => (cx_eq (cv_eq h241) r228 rk_0 (by decide)).elim)
            have ch241 := cv_ne h241
            refine rn_aload_n (i := 0) dX10_isWrong_75 rfl rfl ?_
            obtain ⟨o242, hx242, m242⟩ := fs_r hf4 39 rfl
            refine rn_get q4 kg_SGModel_104 hl4 hx242 dX10_isWrong_76 ?_
            refine rn_iload_n (i := 2) dX10_isWrong_79 rfl rfl ?_
            obtain ⟨q243, f243, hq243, hl243, hf243⟩ := ts_ia hW m242 hk_70
            refine rs_iald q243 hl243 hf243 rfl r240 (by decide) (by decide) dX10_isWrong_80 (fun v244 ev244 rv244 => ?_)
            refine rn_iconst (v := (-1 : Int32)) dX10_isWrong_81 (by decide) ?_
            refine rn_icmp_eq (tgt := 102) dX10_isWrong_82 (by decide) (fun h245 => ?_) (fun h245 => ?_)
            · have ch245 := cv_eq h245
              have r246 : Rg (-1) (-1) v244 := rf_eqx ch245 rv244 rk_m1 (by decide) (by decide)
              refine rn_iconst (v := (0 : Int32)) dX10_isWrong_102 (by decide) ?_
              refine rn_istore dX10_isWrong_103 (by decide) [(0, .ref o0_), (1, .int (2200 : Int32)), (2, .int x2_), (3, .int v11), (4, .int v18), (5, .int v21), (6, .int (0 : Int32))] rfl ?_
              refine rn_iload dX10_isWrong_105 rfl ?_
              refine rn_istore dX10_isWrong_107 (by decide) [(0, .ref o0_), (1, .int (2200 : Int32)), (2, .int x2_), (3, .int v11), (4, .int v18), (5, .int v21), (6, .int (0 : Int32)), (7, .int v18)] rfl ?_
              have LP249 : ∀ (n : Nat) (x247 : Int32) (x248 : Int32), Rg (0) (1) x247 → Rg (0) (65528) x248 → (65528 - x248.toInt).toNat = n → Rn G mX10_isWrong 2 42 0 0 109 [(0, .ref o0_), (1, .int (2200 : Int32)), (2, .int x2_), (3, .int v11), (4, .int v18), (5, .int v21), (6, .int x247), (7, .int x248)] [] ws (q_t_X10_isWrong_2200 G S ws x2_) := by
                intro n
                induction n using Nat.strongRecOn with
                | _ n ih =>
                  intro x247 x248 r251 r252 hm253
                  refine rn_iload dX10_isWrong_109 rfl ?_
                  refine rn_sipush (v := (1980 : Int32)) dX10_isWrong_111 (by decide) ?_
                  refine rn_icmp_ge (tgt := 177) dX10_isWrong_114 (by decide) (fun h254 => ?_) (fun h254 => ?_)
                  · have ch254 := cv_le h254
                    have r255 : Rg (1980) (65528) x248 := rf_ley ch254 rk_1980 r252 (by decide)
                    refine rn_iload dX10_isWrong_177 rfl ?_
                    exact rn_iret dX10_isWrong_179 rfl (nb_n r251) (rq_in ⟨rfl, x247, rfl, r251, (fun _ => by rw [ht3, ht2]; have := rk_1980.1; have := rk_1980.2; omega)⟩)
                  · have ch254 := cv_nle h254
                    have r256 : Rg (0) (1979) x248 := rf_ltx ch254 r252 rk_1980 (by decide)
                    refine rn_iload dX10_isWrong_117 rfl ?_
                    refine rn_iload dX10_isWrong_119 rfl ?_
                    refine rn_iload_n (i := 3) dX10_isWrong_121 rfl rfl ?_
                    refine rs_addR (1) (67555) rv18 r231 dX10_isWrong_122 (by decide) (fun v257 ev257 rv257 => ?_)
                    refine rn_icmp_ge (tgt := 130) dX10_isWrong_123 (by decide) (fun h258 => ?_) (fun h258 => ?_)
                    · have ch258 := cv_le h258
                      have r259 : Rg (1) (1979) v257 := rf_lex ch258 rv257 r256 (by decide)
                      have r260 : Rg (1) (1979) x248 := rf_ley ch258 rv257 r256 (by decide)
                      refine rn_iconst (v := (0 : Int32)) dX10_isWrong_130 (by decide) ?_
                      refine rn_istore dX10_isWrong_131 (by decide) [(0, .ref o0_), (1, .int (2200 : Int32)), (2, .int x2_), (3, .int v11), (4, .int v18), (5, .int v21), (6, .int x247), (7, .int x248), (8, .int (0 : Int32))] rfl ?_
                      refine rn_iload dX10_isWrong_133 rfl ?_
                      refine rn_if_ne (tgt := 164) dX10_isWrong_135 (by decide) (fun h261 => ?_) (fun h261 => ?_)
                      · have ch261 := cv_ne h261
                        have r262 : Rg (1) (1) x247 := rf_nel ch261 r251 rk_0 (by decide) (by decide)
                        refine rn_iconst (v := (1 : Int32)) dX10_isWrong_164 (by decide) ?_
                        refine rn_goto (tgt := 169) dX10_isWrong_165 (by decide) ?_
                        refine rn_istore dX10_isWrong_169 (by decide) [(0, .ref o0_), (1, .int (2200 : Int32)), (2, .int x2_), (3, .int v11), (4, .int v18), (5, .int v21), (6, .int (1 : Int32)), (7, .int x248), (8, .int (0 : Int32))] rfl ?_
                        refine rs_iinc (2) (1980) dX10_isWrong_171 rfl (by decide) r260 rk_1 (by decide) (fun v263 => [(0, .ref o0_), (1, .int (2200 : Int32)), (2, .int x2_), (3, .int v11), (4, .int v18), (5, .int v21), (6, .int (1 : Int32)), (7, .int v263), (8, .int (0 : Int32))]) (fun _ => rfl) (fun v263 ev263 rv263 => ?_)
                        refine rn_goto (tgt := 109) dX10_isWrong_174 (by decide) ?_
                        refine rn_lv [(0, .ref o0_), (1, .int (2200 : Int32)), (2, .int x2_), (3, .int v11), (4, .int v18), (5, .int v21), (6, .int (1 : Int32)), (7, .int v263)] rfl ?_
                        exact ih _ (lp_inc hm253 ev263 rv263 (by decide)) (1 : Int32) v263 (rg_w rk_1 (by decide) (by decide)) (rg_w rv263 (by decide) (by decide)) rfl
                      · have ch261 := cv_eq h261
                        have r264 : Rg (0) (0) x247 := rf_eqx ch261 r251 rk_0 (by decide) (by decide)
                        refine rn_aload_n (i := 0) dX10_isWrong_138 rfl rfl ?_
                        obtain ⟨o265, hx265, m265⟩ := fs_r hf4 42 rfl
                        refine rn_get q4 kg_SGModel_113 hl4 hx265 dX10_isWrong_139 ?_
                        refine rn_sipush (v := (1980 : Int32)) dX10_isWrong_142 (by decide) ?_
                        refine rn_iload_n (i := 2) dX10_isWrong_145 rfl rfl ?_
                        refine rs_mulD (0) (5940) rk_1980 r240 dX10_isWrong_146 (by decide) (fun v266 ev266 rv266 => ?_)
                        refine rn_iload dX10_isWrong_147 rfl ?_
                        refine rs_addR (1) (7919) rv266 r260 dX10_isWrong_149 (by decide) (fun v267 ev267 rv267 => ?_)
                        obtain ⟨q268, f268, hq268, hl268, hf268⟩ := ts_ia hW m265 hk_73
                        refine rs_zald q268 hl268 hf268 rfl rv267 (by decide) (by decide) dX10_isWrong_150 (fun v269 ev269 rv269 => ?_)
                        refine rn_if_eq (tgt := 168) dX10_isWrong_151 (by decide) (fun h270 => ?_) (fun h270 => ?_)
                        · have ch270 := cv_eq h270
                          have r271 : Rg (0) (0) v269 := rf_eqx ch270 rv269 rk_0 (by decide) (by decide)
                          refine rn_iconst (v := (0 : Int32)) dX10_isWrong_168 (by decide) ?_
                          refine rn_istore dX10_isWrong_169 (by decide) [(0, .ref o0_), (1, .int (2200 : Int32)), (2, .int x2_), (3, .int v11), (4, .int v18), (5, .int v21), (6, .int (0 : Int32)), (7, .int x248), (8, .int (0 : Int32))] rfl ?_
                          refine rs_iinc (2) (1980) dX10_isWrong_171 rfl (by decide) r260 rk_1 (by decide) (fun v272 => [(0, .ref o0_), (1, .int (2200 : Int32)), (2, .int x2_), (3, .int v11), (4, .int v18), (5, .int v21), (6, .int (0 : Int32)), (7, .int v272), (8, .int (0 : Int32))]) (fun _ => rfl) (fun v272 ev272 rv272 => ?_)
                          refine rn_goto (tgt := 109) dX10_isWrong_174 (by decide) ?_
                          refine rn_lv [(0, .ref o0_), (1, .int (2200 : Int32)), (2, .int x2_), (3, .int v11), (4, .int v18), (5, .int v21), (6, .int (0 : Int32)), (7, .int v272)] rfl ?_
                          exact ih _ (lp_inc hm253 ev272 rv272 (by decide)) (0 : Int32) v272 (rg_w rk_0 (by decide) (by decide)) (rg_w rv272 (by decide) (by decide)) rfl
                        · have ch270 := cv_ne h270
                          have r273 : Rg (1) (1) v269 := rf_nel ch270 rv269 rk_0 (by decide) (by decide)
                          refine rn_iload dX10_isWrong_154 rfl ?_
                          refine rn_if_ne (tgt := 164) dX10_isWrong_156 (by decide) (fun h274 => (cx_ne (cv_ne h274) rk_0 rk_0 (by decide)).elim) (fun h274 => ?_)
                          refine rn_iload dX10_isWrong_159 rfl ?_
                          refine rn_if_ne (tgt := 168) dX10_isWrong_161 (by decide) (fun h275 => ?_) (fun h275 => (cx_eq (cv_eq h275) r228 rk_0 (by decide)).elim)
                          have ch275 := cv_ne h275
                          refine rn_iconst (v := (0 : Int32)) dX10_isWrong_168 (by decide) ?_
                          refine rn_istore dX10_isWrong_169 (by decide) [(0, .ref o0_), (1, .int (2200 : Int32)), (2, .int x2_), (3, .int v11), (4, .int v18), (5, .int v21), (6, .int (0 : Int32)), (7, .int x248), (8, .int (0 : Int32))] rfl ?_
                          refine rs_iinc (2) (1980) dX10_isWrong_171 rfl (by decide) r260 rk_1 (by decide) (fun v276 => [(0, .ref o0_), (1, .int (2200 : Int32)), (2, .int x2_), (3, .int v11), (4, .int v18), (5, .int v21), (6, .int (0 : Int32)), (7, .int v276), (8, .int (0 : Int32))]) (fun _ => rfl) (fun v276 ev276 rv276 => ?_)
                          refine rn_goto (tgt := 109) dX10_isWrong_174 (by decide) ?_
                          refine rn_lv [(0, .ref o0_), (1, .int (2200 : Int32)), (2, .int x2_), (3, .int v11), (4, .int v18), (5, .int v21), (6, .int (0 : Int32)), (7, .int v276)] rfl ?_
                          exact ih _ (lp_inc hm253 ev276 rv276 (by decide)) (0 : Int32) v276 (rg_w rk_0 (by decide) (by decide)) (rg_w rv276 (by decide) (by decide)) rfl
                    · have ch258 := cv_nle h258
                      refine rn_iconst (v := (1 : Int32)) dX10_isWrong_126 (by decide) ?_
                      refine rn_goto (tgt := 131) dX10_isWrong_127 (by decide) ?_
                      refine rn_istore dX10_isWrong_131 (by decide) [(0, .ref o0_), (1, .int (2200 : Int32)), (2, .int x2_), (3, .int v11), (4, .int v18), (5, .int v21), (6, .int x247), (7, .int x248), (8, .int (1 : Int32))] rfl ?_
                      refine rn_iload dX10_isWrong_133 rfl ?_
                      refine rn_if_ne (tgt := 164) dX10_isWrong_135 (by decide) (fun h277 => ?_) (fun h277 => ?_)
                      · have ch277 := cv_ne h277
                        have r278 : Rg (1) (1) x247 := rf_nel ch277 r251 rk_0 (by decide) (by decide)
                        refine rn_iconst (v := (1 : Int32)) dX10_isWrong_164 (by decide) ?_
                        refine rn_goto (tgt := 169) dX10_isWrong_165 (by decide) ?_
                        refine rn_istore dX10_isWrong_169 (by decide) [(0, .ref o0_), (1, .int (2200 : Int32)), (2, .int x2_), (3, .int v11), (4, .int v18), (5, .int v21), (6, .int (1 : Int32)), (7, .int x248), (8, .int (1 : Int32))] rfl ?_
                        refine rs_iinc (1) (1980) dX10_isWrong_171 rfl (by decide) r256 rk_1 (by decide) (fun v279 => [(0, .ref o0_), (1, .int (2200 : Int32)), (2, .int x2_), (3, .int v11), (4, .int v18), (5, .int v21), (6, .int (1 : Int32)), (7, .int v279), (8, .int (1 : Int32))]) (fun _ => rfl) (fun v279 ev279 rv279 => ?_)
                        refine rn_goto (tgt := 109) dX10_isWrong_174 (by decide) ?_
                        refine rn_lv [(0, .ref o0_), (1, .int (2200 : Int32)), (2, .int x2_), (3, .int v11), (4, .int v18), (5, .int v21), (6, .int (1 : Int32)), (7, .int v279)] rfl ?_
                        exact ih _ (lp_inc hm253 ev279 rv279 (by decide)) (1 : Int32) v279 (rg_w rk_1 (by decide) (by decide)) (rg_w rv279 (by decide) (by decide)) rfl
                      · have ch277 := cv_eq h277
                        have r280 : Rg (0) (0) x247 := rf_eqx ch277 r251 rk_0 (by decide) (by decide)
                        refine rn_aload_n (i := 0) dX10_isWrong_138 rfl rfl ?_
                        obtain ⟨o281, hx281, m281⟩ := fs_r hf4 42 rfl
                        refine rn_get q4 kg_SGModel_113 hl4 hx281 dX10_isWrong_139 ?_
                        refine rn_sipush (v := (1980 : Int32)) dX10_isWrong_142 (by decide) ?_
                        refine rn_iload_n (i := 2) dX10_isWrong_145 rfl rfl ?_
                        refine rs_mulD (0) (5940) rk_1980 r240 dX10_isWrong_146 (by decide) (fun v282 ev282 rv282 => ?_)
                        refine rn_iload dX10_isWrong_147 rfl ?_
                        refine rs_addR (0) (7919) rv282 r256 dX10_isWrong_149 (by decide) (fun v283 ev283 rv283 => ?_)
                        obtain ⟨q284, f284, hq284, hl284, hf284⟩ := ts_ia hW m281 hk_73
                        refine rs_zald q284 hl284 hf284 rfl rv283 (by decide) (by decide) dX10_isWrong_150 (fun v285 ev285 rv285 => ?_)
                        refine rn_if_eq (tgt := 168) dX10_isWrong_151 (by decide) (fun h286 => ?_) (fun h286 => ?_)
                        · have ch286 := cv_eq h286
                          have r287 : Rg (0) (0) v285 := rf_eqx ch286 rv285 rk_0 (by decide) (by decide)
                          refine rn_iconst (v := (0 : Int32)) dX10_isWrong_168 (by decide) ?_
                          refine rn_istore dX10_isWrong_169 (by decide) [(0, .ref o0_), (1, .int (2200 : Int32)), (2, .int x2_), (3, .int v11), (4, .int v18), (5, .int v21), (6, .int (0 : Int32)), (7, .int x248), (8, .int (1 : Int32))] rfl ?_
                          refine rs_iinc (1) (1980) dX10_isWrong_171 rfl (by decide) r256 rk_1 (by decide) (fun v288 => [(0, .ref o0_), (1, .int (2200 : Int32)), (2, .int x2_), (3, .int v11), (4, .int v18), (5, .int v21), (6, .int (0 : Int32)), (7, .int v288), (8, .int (1 : Int32))]) (fun _ => rfl) (fun v288 ev288 rv288 => ?_)
                          refine rn_goto (tgt := 109) dX10_isWrong_174 (by decide) ?_
                          refine rn_lv [(0, .ref o0_), (1, .int (2200 : Int32)), (2, .int x2_), (3, .int v11), (4, .int v18), (5, .int v21), (6, .int (0 : Int32)), (7, .int v288)] rfl ?_
                          exact ih _ (lp_inc hm253 ev288 rv288 (by decide)) (0 : Int32) v288 (rg_w rk_0 (by decide) (by decide)) (rg_w rv288 (by decide) (by decide)) rfl
                        · have ch286 := cv_ne h286
                          have r289 : Rg (1) (1) v285 := rf_nel ch286 rv285 rk_0 (by decide) (by decide)
                          refine rn_iload dX10_isWrong_154 rfl ?_
                          refine rn_if_ne (tgt := 164) dX10_isWrong_156 (by decide) (fun h290 => ?_) (fun h290 => (cx_eq (cv_eq h290) rk_1 rk_0 (by decide)).elim)
                          refine rn_iconst (v := (1 : Int32)) dX10_isWrong_164 (by decide) ?_
                          refine rn_goto (tgt := 169) dX10_isWrong_165 (by decide) ?_
                          refine rn_istore dX10_isWrong_169 (by decide) [(0, .ref o0_), (1, .int (2200 : Int32)), (2, .int x2_), (3, .int v11), (4, .int v18), (5, .int v21), (6, .int (1 : Int32)), (7, .int x248), (8, .int (1 : Int32))] rfl ?_
                          refine rs_iinc (1) (1980) dX10_isWrong_171 rfl (by decide) r256 rk_1 (by decide) (fun v291 => [(0, .ref o0_), (1, .int (2200 : Int32)), (2, .int x2_), (3, .int v11), (4, .int v18), (5, .int v21), (6, .int (1 : Int32)), (7, .int v291), (8, .int (1 : Int32))]) (fun _ => rfl) (fun v291 ev291 rv291 => ?_)
                          refine rn_goto (tgt := 109) dX10_isWrong_174 (by decide) ?_
                          refine rn_lv [(0, .ref o0_), (1, .int (2200 : Int32)), (2, .int x2_), (3, .int v11), (4, .int v18), (5, .int v21), (6, .int (1 : Int32)), (7, .int v291)] rfl ?_
                          exact ih _ (lp_inc hm253 ev291 rv291 (by decide)) (1 : Int32) v291 (rg_w rk_1 (by decide) (by decide)) (rg_w rv291 (by decide) (by decide)) rfl
              exact LP249 _ (0 : Int32) v18 (rg_w rk_0 (by decide) (by decide)) rv18 rfl
            · have ch245 := cv_ne h245
              have r292 : Rg (0) (1980) v244 := rf_nel ch245 rv244 rk_m1 (by decide) (by decide)
              refine rn_iload dX10_isWrong_85 rfl ?_
              refine rn_iload_n (i := 3) dX10_isWrong_87 rfl rfl ?_
              refine rs_addR (1) (67555) rv18 r231 dX10_isWrong_88 (by decide) (fun v293 ev293 rv293 => ?_)
              refine rn_aload_n (i := 0) dX10_isWrong_89 rfl rfl ?_
              refine rn_get q4 kg_SGModel_104 hl4 hx242 dX10_isWrong_90 ?_
              refine rn_iload_n (i := 2) dX10_isWrong_93 rfl rfl ?_
              refine rs_iald q243 hl243 hf243 rfl r240 (by decide) (by decide) dX10_isWrong_94 (fun v294 ev294 rv294 => ?_)
              refine rn_icmp_le (tgt := 102) dX10_isWrong_95 (by decide) (fun h295 => ?_) (fun h295 => ?_)
              · have ch295 := cv_le h295
                have r296 : Rg (1) (1980) v293 := rf_lex ch295 rv293 rv294 (by decide)
                have r297 : Rg (1) (1980) v294 := rf_ley ch295 rv293 rv294 (by decide)
                refine rn_iconst (v := (0 : Int32)) dX10_isWrong_102 (by decide) ?_
                refine rn_istore dX10_isWrong_103 (by decide) [(0, .ref o0_), (1, .int (2200 : Int32)), (2, .int x2_), (3, .int v11), (4, .int v18), (5, .int v21), (6, .int (0 : Int32))] rfl ?_
                refine rn_iload dX10_isWrong_105 rfl ?_
                refine rn_istore dX10_isWrong_107 (by decide) [(0, .ref o0_), (1, .int (2200 : Int32)), (2, .int x2_), (3, .int v11), (4, .int v18), (5, .int v21), (6, .int (0 : Int32)), (7, .int v18)] rfl ?_
                have LP300 : ∀ (n : Nat) (x298 : Int32) (x299 : Int32), Rg (0) (1) x298 → Rg (0) (65528) x299 → (65528 - x299.toInt).toNat = n → Rn G mX10_isWrong 2 42 0 0 109 [(0, .ref o0_), (1, .int (2200 : Int32)), (2, .int x2_), (3, .int v11), (4, .int v18), (5, .int v21), (6, .int x298), (7, .int x299)] [] ws (q_t_X10_isWrong_2200 G S ws x2_) := by
                  intro n
                  induction n using Nat.strongRecOn with
                  | _ n ih =>
                    intro x298 x299 r302 r303 hm304
                    refine rn_iload dX10_isWrong_109 rfl ?_
                    refine rn_sipush (v := (1980 : Int32)) dX10_isWrong_111 (by decide) ?_
                    refine rn_icmp_ge (tgt := 177) dX10_isWrong_114 (by decide) (fun h305 => ?_) (fun h305 => ?_)
                    · have ch305 := cv_le h305
                      have r306 : Rg (1980) (65528) x299 := rf_ley ch305 rk_1980 r303 (by decide)
                      refine rn_iload dX10_isWrong_177 rfl ?_
                      exact rn_iret dX10_isWrong_179 rfl (nb_n r302) (rq_in ⟨rfl, x298, rfl, r302, (fun _ => by rw [ht3, ht2]; have := rk_1980.1; have := rk_1980.2; omega)⟩)
                    · have ch305 := cv_nle h305
                      have r307 : Rg (0) (1979) x299 := rf_ltx ch305 r303 rk_1980 (by decide)
                      refine rn_iload dX10_isWrong_117 rfl ?_
                      refine rn_iload dX10_isWrong_119 rfl ?_
                      refine rn_iload_n (i := 3) dX10_isWrong_121 rfl rfl ?_
                      refine rs_addR (1) (67555) rv18 r231 dX10_isWrong_122 (by decide) (fun v308 ev308 rv308 => ?_)
                      refine rn_icmp_ge (tgt := 130) dX10_isWrong_123 (by decide) (fun h309 => ?_) (fun h309 => ?_)
                      · have ch309 := cv_le h309
                        have r310 : Rg (1) (1979) v308 := rf_lex ch309 rv308 r307 (by decide)
                        have r311 : Rg (1) (1979) x299 := rf_ley ch309 rv308 r307 (by decide)
                        refine rn_iconst (v := (0 : Int32)) dX10_isWrong_130 (by decide) ?_
                        refine rn_istore dX10_isWrong_131 (by decide) [(0, .ref o0_), (1, .int (2200 : Int32)), (2, .int x2_), (3, .int v11), (4, .int v18), (5, .int v21), (6, .int x298), (7, .int x299), (8, .int (0 : Int32))] rfl ?_
                        refine rn_iload dX10_isWrong_133 rfl ?_
                        refine rn_if_ne (tgt := 164) dX10_isWrong_135 (by decide) (fun h312 => ?_) (fun h312 => ?_)
                        · have ch312 := cv_ne h312
                          have r313 : Rg (1) (1) x298 := rf_nel ch312 r302 rk_0 (by decide) (by decide)
                          refine rn_iconst (v := (1 : Int32)) dX10_isWrong_164 (by decide) ?_
                          refine rn_goto (tgt := 169) dX10_isWrong_165 (by decide) ?_
                          refine rn_istore dX10_isWrong_169 (by decide) [(0, .ref o0_), (1, .int (2200 : Int32)), (2, .int x2_), (3, .int v11), (4, .int v18), (5, .int v21), (6, .int (1 : Int32)), (7, .int x299), (8, .int (0 : Int32))] rfl ?_
                          refine rs_iinc (2) (1980) dX10_isWrong_171 rfl (by decide) r311 rk_1 (by decide) (fun v314 => [(0, .ref o0_), (1, .int (2200 : Int32)), (2, .int x2_), (3, .int v11), (4, .int v18), (5, .int v21), (6, .int (1 : Int32)), (7, .int v314), (8, .int (0 : Int32))]) (fun _ => rfl) (fun v314 ev314 rv314 => ?_)
                          refine rn_goto (tgt := 109) dX10_isWrong_174 (by decide) ?_
                          refine rn_lv [(0, .ref o0_), (1, .int (2200 : Int32)), (2, .int x2_), (3, .int v11), (4, .int v18), (5, .int v21), (6, .int (1 : Int32)), (7, .int v314)] rfl ?_
                          exact ih _ (lp_inc hm304 ev314 rv314 (by decide)) (1 : Int32) v314 (rg_w rk_1 (by decide) (by decide)) (rg_w rv314 (by decide) (by decide)) rfl
                        · have ch312 := cv_eq h312
                          have r315 : Rg (0) (0) x298 := rf_eqx ch312 r302 rk_0 (by decide) (by decide)
                          refine rn_aload_n (i := 0) dX10_isWrong_138 rfl rfl ?_
                          obtain ⟨o316, hx316, m316⟩ := fs_r hf4 42 rfl
                          refine rn_get q4 kg_SGModel_113 hl4 hx316 dX10_isWrong_139 ?_
                          refine rn_sipush (v := (1980 : Int32)) dX10_isWrong_142 (by decide) ?_
                          refine rn_iload_n (i := 2) dX10_isWrong_145 rfl rfl ?_
                          refine rs_mulD (0) (5940) rk_1980 r240 dX10_isWrong_146 (by decide) (fun v317 ev317 rv317 => ?_)
                          refine rn_iload dX10_isWrong_147 rfl ?_
                          refine rs_addR (1) (7919) rv317 r311 dX10_isWrong_149 (by decide) (fun v318 ev318 rv318 => ?_)
                          obtain ⟨q319, f319, hq319, hl319, hf319⟩ := ts_ia hW m316 hk_73
                          refine rs_zald q319 hl319 hf319 rfl rv318 (by decide) (by decide) dX10_isWrong_150 (fun v320 ev320 rv320 => ?_)
                          refine rn_if_eq (tgt := 168) dX10_isWrong_151 (by decide) (fun h321 => ?_) (fun h321 => ?_)
                          · have ch321 := cv_eq h321
                            have r322 : Rg (0) (0) v320 := rf_eqx ch321 rv320 rk_0 (by decide) (by decide)
                            refine rn_iconst (v := (0 : Int32)) dX10_isWrong_168 (by decide) ?_
                            refine rn_istore dX10_isWrong_169 (by decide) [(0, .ref o0_), (1, .int (2200 : Int32)), (2, .int x2_), (3, .int v11), (4, .int v18), (5, .int v21), (6, .int (0 : Int32)), (7, .int x299), (8, .int (0 : Int32))] rfl ?_
                            refine rs_iinc (2) (1980) dX10_isWrong_171 rfl (by decide) r311 rk_1 (by decide) (fun v323 => [(0, .ref o0_), (1, .int (2200 : Int32)), (2, .int x2_), (3, .int v11), (4, .int v18), (5, .int v21), (6, .int (0 : Int32)), (7, .int v323), (8, .int (0 : Int32))]) (fun _ => rfl) (fun v323 ev323 rv323 => ?_)
                            refine rn_goto (tgt := 109) dX10_isWrong_174 (by decide) ?_
                            refine rn_lv [(0, .ref o0_), (1, .int (2200 : Int32)), (2, .int x2_), (3, .int v11), (4, .int v18), (5, .int v21), (6, .int (0 : Int32)), (7, .int v323)] rfl ?_
                            exact ih _ (lp_inc hm304 ev323 rv323 (by decide)) (0 : Int32) v323 (rg_w rk_0 (by decide) (by decide)) (rg_w rv323 (by decide) (by decide)) rfl
                          · have ch321 := cv_ne h321
                            have r324 : Rg (1) (1) v320 := rf_nel ch321 rv320 rk_0 (by decide) (by decide)
                            refine rn_iload dX10_isWrong_154 rfl ?_
                            refine rn_if_ne (tgt := 164) dX10_isWrong_156 (by decide) (fun h325 => (cx_ne (cv_ne h325) rk_0 rk_0 (by decide)).elim) (fun h325 => ?_)
                            refine rn_iload dX10_isWrong_159 rfl ?_
                            refine rn_if_ne (tgt := 168) dX10_isWrong_161 (by decide) (fun h326 => ?_) (fun h326 => (cx_eq (cv_eq h326) r228 rk_0 (by decide)).elim)
                            have ch326 := cv_ne h326
                            refine rn_iconst (v := (0 : Int32)) dX10_isWrong_168 (by decide) ?_
                            refine rn_istore dX10_isWrong_169 (by decide) [(0, .ref o0_), (1, .int (2200 : Int32)), (2, .int x2_), (3, .int v11), (4, .int v18), (5, .int v21), (6, .int (0 : Int32)), (7, .int x299), (8, .int (0 : Int32))] rfl ?_
                            refine rs_iinc (2) (1980) dX10_isWrong_171 rfl (by decide) r311 rk_1 (by decide) (fun v327 => [(0, .ref o0_), (1, .int (2200 : Int32)), (2, .int x2_), (3, .int v11), (4, .int v18), (5, .int v21), (6, .int (0 : Int32)), (7, .int v327), (8, .int (0 : Int32))]) (fun _ => rfl) (fun v327 ev327 rv327 => ?_)
                            refine rn_goto (tgt := 109) dX10_isWrong_174 (by decide) ?_
                            refine rn_lv [(0, .ref o0_), (1, .int (2200 : Int32)), (2, .int x2_), (3, .int v11), (4, .int v18), (5, .int v21), (6, .int (0 : Int32)), (7, .int v327)] rfl ?_
                            exact ih _ (lp_inc hm304 ev327 rv327 (by decide)) (0 : Int32) v327 (rg_w rk_0 (by decide) (by decide)) (rg_w rv327 (by decide) (by decide)) rfl
                      · have ch309 := cv_nle h309
                        refine rn_iconst (v := (1 : Int32)) dX10_isWrong_126 (by decide) ?_
                        refine rn_goto (tgt := 131) dX10_isWrong_127 (by decide) ?_
                        refine rn_istore dX10_isWrong_131 (by decide) [(0, .ref o0_), (1, .int (2200 : Int32)), (2, .int x2_), (3, .int v11), (4, .int v18), (5, .int v21), (6, .int x298), (7, .int x299), (8, .int (1 : Int32))] rfl ?_
                        refine rn_iload dX10_isWrong_133 rfl ?_
                        refine rn_if_ne (tgt := 164) dX10_isWrong_135 (by decide) (fun h328 => ?_) (fun h328 => ?_)
                        · have ch328 := cv_ne h328
                          have r329 : Rg (1) (1) x298 := rf_nel ch328 r302 rk_0 (by decide) (by decide)
                          refine rn_iconst (v := (1 : Int32)) dX10_isWrong_164 (by decide) ?_
                          refine rn_goto (tgt := 169) dX10_isWrong_165 (by decide) ?_
                          refine rn_istore dX10_isWrong_169 (by decide) [(0, .ref o0_), (1, .int (2200 : Int32)), (2, .int x2_), (3, .int v11), (4, .int v18), (5, .int v21), (6, .int (1 : Int32)), (7, .int x299), (8, .int (1 : Int32))] rfl ?_
                          refine rs_iinc (1) (1980) dX10_isWrong_171 rfl (by decide) r307 rk_1 (by decide) (fun v330 => [(0, .ref o0_), (1, .int (2200 : Int32)), (2, .int x2_), (3, .int v11), (4, .int v18), (5, .int v21), (6, .int (1 : Int32)), (7, .int v330), (8, .int (1 : Int32))]) (fun _ => rfl) (fun v330 ev330 rv330 => ?_)
                          refine rn_goto (tgt := 109) dX10_isWrong_174 (by decide) ?_
                          refine rn_lv [(0, .ref o0_), (1, .int (2200 : Int32)), (2, .int x2_), (3, .int v11), (4, .int v18), (5, .int v21), (6, .int (1 : Int32)), (7, .int v330)] rfl ?_
                          exact ih _ (lp_inc hm304 ev330 rv330 (by decide)) (1 : Int32) v330 (rg_w rk_1 (by decide) (by decide)) (rg_w rv330 (by decide) (by decide)) rfl
                        · have ch328 := cv_eq h328
                          have r331 : Rg (0) (0) x298 := rf_eqx ch328 r302 rk_0 (by decide) (by decide)
                          refine rn_aload_n (i := 0) dX10_isWrong_138 rfl rfl ?_
                          obtain ⟨o332, hx332, m332⟩ := fs_r hf4 42 rfl
                          refine rn_get q4 kg_SGModel_113 hl4 hx332 dX10_isWrong_139 ?_
                          refine rn_sipush (v := (1980 : Int32)) dX10_isWrong_142 (by decide) ?_
                          refine rn_iload_n (i := 2) dX10_isWrong_145 rfl rfl ?_
                          refine rs_mulD (0) (5940) rk_1980 r240 dX10_isWrong_146 (by decide) (fun v333 ev333 rv333 => ?_)
                          refine rn_iload dX10_isWrong_147 rfl ?_
                          refine rs_addR (0) (7919) rv333 r307 dX10_isWrong_149 (by decide) (fun v334 ev334 rv334 => ?_)
                          obtain ⟨q335, f335, hq335, hl335, hf335⟩ := ts_ia hW m332 hk_73
                          refine rs_zald q335 hl335 hf335 rfl rv334 (by decide) (by decide) dX10_isWrong_150 (fun v336 ev336 rv336 => ?_)
                          refine rn_if_eq (tgt := 168) dX10_isWrong_151 (by decide) (fun h337 => ?_) (fun h337 => ?_)
                          · have ch337 := cv_eq h337
                            have r338 : Rg (0) (0) v336 := rf_eqx ch337 rv336 rk_0 (by decide) (by decide)
                            refine rn_iconst (v := (0 : Int32)) dX10_isWrong_168 (by decide) ?_
                            refine rn_istore dX10_isWrong_169 (by decide) [(0, .ref o0_), (1, .int (2200 : Int32)), (2, .int x2_), (3, .int v11), (4, .int v18), (5, .int v21), (6, .int (0 : Int32)), (7, .int x299), (8, .int (1 : Int32))] rfl ?_
                            refine rs_iinc (1) (1980) dX10_isWrong_171 rfl (by decide) r307 rk_1 (by decide) (fun v339 => [(0, .ref o0_), (1, .int (2200 : Int32)), (2, .int x2_), (3, .int v11), (4, .int v18), (5, .int v21), (6, .int (0 : Int32)), (7, .int v339), (8, .int (1 : Int32))]) (fun _ => rfl) (fun v339 ev339 rv339 => ?_)
                            refine rn_goto (tgt := 109) dX10_isWrong_174 (by decide) ?_
                            refine rn_lv [(0, .ref o0_), (1, .int (2200 : Int32)), (2, .int x2_), (3, .int v11), (4, .int v18), (5, .int v21), (6, .int (0 : Int32)), (7, .int v339)] rfl ?_
                            exact ih _ (lp_inc hm304 ev339 rv339 (by decide)) (0 : Int32) v339 (rg_w rk_0 (by decide) (by decide)) (rg_w rv339 (by decide) (by decide)) rfl
                          · have ch337 := cv_ne h337
                            have r340 : Rg (1) (1) v336 := rf_nel ch337 rv336 rk_0 (by decide) (by decide)
                            refine rn_iload dX10_isWrong_154 rfl ?_
                            refine rn_if_ne (tgt := 164) dX10_isWrong_156 (by decide) (fun h341 => ?_) (fun h341 => (cx_eq (cv_eq h341) rk_1 rk_0 (by decide)).elim)
                            refine rn_iconst (v := (1 : Int32)) dX10_isWrong_164 (by decide) ?_
                            refine rn_goto (tgt := 169) dX10_isWrong_165 (by decide) ?_
                            refine rn_istore dX10_isWrong_169 (by decide) [(0, .ref o0_), (1, .int (2200 : Int32)), (2, .int x2_), (3, .int v11), (4, .int v18), (5, .int v21), (6, .int (1 : Int32)), (7, .int x299), (8, .int (1 : Int32))] rfl ?_
                            refine rs_iinc (1) (1980) dX10_isWrong_171 rfl (by decide) r307 rk_1 (by decide) (fun v342 => [(0, .ref o0_), (1, .int (2200 : Int32)), (2, .int x2_), (3, .int v11), (4, .int v18), (5, .int v21), (6, .int (1 : Int32)), (7, .int v342), (8, .int (1 : Int32))]) (fun _ => rfl) (fun v342 ev342 rv342 => ?_)
                            refine rn_goto (tgt := 109) dX10_isWrong_174 (by decide) ?_
                            refine rn_lv [(0, .ref o0_), (1, .int (2200 : Int32)), (2, .int x2_), (3, .int v11), (4, .int v18), (5, .int v21), (6, .int (1 : Int32)), (7, .int v342)] rfl ?_
                            exact ih _ (lp_inc hm304 ev342 rv342 (by decide)) (1 : Int32) v342 (rg_w rk_1 (by decide) (by decide)) (rg_w rv342 (by decide) (by decide)) rfl
                exact LP300 _ (0 : Int32) v18 (rg_w rk_0 (by decide) (by decide)) rv18 rfl
              · have ch295 := cv_nle h295
                refine rn_iconst (v := (1 : Int32)) dX10_isWrong_98 (by decide) ?_
                refine rn_goto (tgt := 103) dX10_isWrong_99 (by decide) ?_
                refine rn_istore dX10_isWrong_103 (by decide) [(0, .ref o0_), (1, .int (2200 : Int32)), (2, .int x2_), (3, .int v11), (4, .int v18), (5, .int v21), (6, .int (1 : Int32))] rfl ?_
                refine rn_iload dX10_isWrong_105 rfl ?_
                refine rn_istore dX10_isWrong_107 (by decide) [(0, .ref o0_), (1, .int (2200 : Int32)), (2, .int x2_), (3, .int v11), (4, .int v18), (5, .int v21), (6, .int (1 : Int32)), (7, .int v18)] rfl ?_
                have LP345 : ∀ (n : Nat) (x343 : Int32) (x344 : Int32), Rg (0) (1) x343 → Rg (0) (65528) x344 → (65528 - x344.toInt).toNat = n → Rn G mX10_isWrong 2 42 0 0 109 [(0, .ref o0_), (1, .int (2200 : Int32)), (2, .int x2_), (3, .int v11), (4, .int v18), (5, .int v21), (6, .int x343), (7, .int x344)] [] ws (q_t_X10_isWrong_2200 G S ws x2_) := by
                  intro n
                  induction n using Nat.strongRecOn with
                  | _ n ih =>
                    intro x343 x344 r347 r348 hm349
                    refine rn_iload dX10_isWrong_109 rfl ?_
                    refine rn_sipush (v := (1980 : Int32)) dX10_isWrong_111 (by decide) ?_
                    refine rn_icmp_ge (tgt := 177) dX10_isWrong_114 (by decide) (fun h350 => ?_) (fun h350 => ?_)
                    · have ch350 := cv_le h350
                      have r351 : Rg (1980) (65528) x344 := rf_ley ch350 rk_1980 r348 (by decide)
                      refine rn_iload dX10_isWrong_177 rfl ?_
                      exact rn_iret dX10_isWrong_179 rfl (nb_n r347) (rq_in ⟨rfl, x343, rfl, r347, (fun _ => by rw [ht3, ht2]; have := rk_1980.1; have := rk_1980.2; omega)⟩)
                    · have ch350 := cv_nle h350
                      have r352 : Rg (0) (1979) x344 := rf_ltx ch350 r348 rk_1980 (by decide)
                      refine rn_iload dX10_isWrong_117 rfl ?_
                      refine rn_iload dX10_isWrong_119 rfl ?_
                      refine rn_iload_n (i := 3) dX10_isWrong_121 rfl rfl ?_
                      refine rs_addR (1) (67555) rv18 r231 dX10_isWrong_122 (by decide) (fun v353 ev353 rv353 => ?_)
                      refine rn_icmp_ge (tgt := 130) dX10_isWrong_123 (by decide) (fun h354 => ?_) (fun h354 => ?_)
                      · have ch354 := cv_le h354
                        have r355 : Rg (1) (1979) v353 := rf_lex ch354 rv353 r352 (by decide)
                        have r356 : Rg (1) (1979) x344 := rf_ley ch354 rv353 r352 (by decide)
                        refine rn_iconst (v := (0 : Int32)) dX10_isWrong_130 (by decide) ?_
                        refine rn_istore dX10_isWrong_131 (by decide) [(0, .ref o0_), (1, .int (2200 : Int32)), (2, .int x2_), (3, .int v11), (4, .int v18), (5, .int v21), (6, .int x343), (7, .int x344), (8, .int (0 : Int32))] rfl ?_
                        refine rn_iload dX10_isWrong_133 rfl ?_
                        refine rn_if_ne (tgt := 164) dX10_isWrong_135 (by decide) (fun h357 => ?_) (fun h357 => ?_)
                        · have ch357 := cv_ne h357
                          have r358 : Rg (1) (1) x343 := rf_nel ch357 r347 rk_0 (by decide) (by decide)
                          refine rn_iconst (v := (1 : Int32)) dX10_isWrong_164 (by decide) ?_
                          refine rn_goto (tgt := 169) dX10_isWrong_165 (by decide) ?_
                          refine rn_istore dX10_isWrong_169 (by decide) [(0, .ref o0_), (1, .int (2200 : Int32)), (2, .int x2_), (3, .int v11), (4, .int v18), (5, .int v21), (6, .int (1 : Int32)), (7, .int x344), (8, .int (0 : Int32))] rfl ?_
                          refine rs_iinc (2) (1980) dX10_isWrong_171 rfl (by decide) r356 rk_1 (by decide) (fun v359 => [(0, .ref o0_), (1, .int (2200 : Int32)), (2, .int x2_), (3, .int v11), (4, .int v18), (5, .int v21), (6, .int (1 : Int32)), (7, .int v359), (8, .int (0 : Int32))]) (fun _ => rfl) (fun v359 ev359 rv359 => ?_)
                          refine rn_goto (tgt := 109) dX10_isWrong_174 (by decide) ?_
                          refine rn_lv [(0, .ref o0_), (1, .int (2200 : Int32)), (2, .int x2_), (3, .int v11), (4, .int v18), (5, .int v21), (6, .int (1 : Int32)), (7, .int v359)] rfl ?_
                          exact ih _ (lp_inc hm349 ev359 rv359 (by decide)) (1 : Int32) v359 (rg_w rk_1 (by decide) (by decide)) (rg_w rv359 (by decide) (by decide)) rfl
                        · have ch357 := cv_eq h357
                          have r360 : Rg (0) (0) x343 := rf_eqx ch357 r347 rk_0 (by decide) (by decide)
                          refine rn_aload_n (i := 0) dX10_isWrong_138 rfl rfl ?_
                          obtain ⟨o361, hx361, m361⟩ := fs_r hf4 42 rfl
                          refine rn_get q4 kg_SGModel_113 hl4 hx361 dX10_isWrong_139 ?_
                          refine rn_sipush (v := (1980 : Int32)) dX10_isWrong_142 (by decide) ?_
                          refine rn_iload_n (i := 2) dX10_isWrong_145 rfl rfl ?_
                          refine rs_mulD (0) (5940) rk_1980 r240 dX10_isWrong_146 (by decide) (fun v362 ev362 rv362 => ?_)
                          refine rn_iload dX10_isWrong_147 rfl ?_
                          refine rs_addR (1) (7919) rv362 r356 dX10_isWrong_149 (by decide) (fun v363 ev363 rv363 => ?_)
                          obtain ⟨q364, f364, hq364, hl364, hf364⟩ := ts_ia hW m361 hk_73
                          refine rs_zald q364 hl364 hf364 rfl rv363 (by decide) (by decide) dX10_isWrong_150 (fun v365 ev365 rv365 => ?_)
                          refine rn_if_eq (tgt := 168) dX10_isWrong_151 (by decide) (fun h366 => ?_) (fun h366 => ?_)
                          · have ch366 := cv_eq h366
                            have r367 : Rg (0) (0) v365 := rf_eqx ch366 rv365 rk_0 (by decide) (by decide)
                            refine rn_iconst (v := (0 : Int32)) dX10_isWrong_168 (by decide) ?_
                            refine rn_istore dX10_isWrong_169 (by decide) [(0, .ref o0_), (1, .int (2200 : Int32)), (2, .int x2_), (3, .int v11), (4, .int v18), (5, .int v21), (6, .int (0 : Int32)), (7, .int x344), (8, .int (0 : Int32))] rfl ?_
                            refine rs_iinc (2) (1980) dX10_isWrong_171 rfl (by decide) r356 rk_1 (by decide) (fun v368 => [(0, .ref o0_), (1, .int (2200 : Int32)), (2, .int x2_), (3, .int v11), (4, .int v18), (5, .int v21), (6, .int (0 : Int32)), (7, .int v368), (8, .int (0 : Int32))]) (fun _ => rfl) (fun v368 ev368 rv368 => ?_)
                            refine rn_goto (tgt := 109) dX10_isWrong_174 (by decide) ?_
                            refine rn_lv [(0, .ref o0_), (1, .int (2200 : Int32)), (2, .int x2_), (3, .int v11), (4, .int v18), (5, .int v21), (6, .int (0 : Int32)), (7, .int v368)] rfl ?_
                            exact ih _ (lp_inc hm349 ev368 rv368 (by decide)) (0 : Int32) v368 (rg_w rk_0 (by decide) (by decide)) (rg_w rv368 (by decide) (by decide)) rfl
                          · have ch366 := cv_ne h366
                            have r369 : Rg (1) (1) v365 := rf_nel ch366 rv365 rk_0 (by decide) (by decide)
                            refine rn_iload dX10_isWrong_154 rfl ?_
                            refine rn_if_ne (tgt := 164) dX10_isWrong_156 (by decide) (fun h370 => (cx_ne (cv_ne h370) rk_0 rk_0 (by decide)).elim) (fun h370 => ?_)
                            refine rn_iload dX10_isWrong_159 rfl ?_
                            refine rn_if_ne (tgt := 168) dX10_isWrong_161 (by decide) (fun h371 => ?_) (fun h371 => (cx_eq (cv_eq h371) r228 rk_0 (by decide)).elim)
                            have ch371 := cv_ne h371
                            refine rn_iconst (v := (0 : Int32)) dX10_isWrong_168 (by decide) ?_
                            refine rn_istore dX10_isWrong_169 (by decide) [(0, .ref o0_), (1, .int (2200 : Int32)), (2, .int x2_), (3, .int v11), (4, .int v18), (5, .int v21), (6, .int (0 : Int32)), (7, .int x344), (8, .int (0 : Int32))] rfl ?_
                            refine rs_iinc (2) (1980) dX10_isWrong_171 rfl (by decide) r356 rk_1 (by decide) (fun v372 => [(0, .ref o0_), (1, .int (2200 : Int32)), (2, .int x2_), (3, .int v11), (4, .int v18), (5, .int v21), (6, .int (0 : Int32)), (7, .int v372), (8, .int (0 : Int32))]) (fun _ => rfl) (fun v372 ev372 rv372 => ?_)
                            refine rn_goto (tgt := 109) dX10_isWrong_174 (by decide) ?_
                            refine rn_lv [(0, .ref o0_), (1, .int (2200 : Int32)), (2, .int x2_), (3, .int v11), (4, .int v18), (5, .int v21), (6, .int (0 : Int32)), (7, .int v372)] rfl ?_
                            exact ih _ (lp_inc hm349 ev372 rv372 (by decide)) (0 : Int32) v372 (rg_w rk_0 (by decide) (by decide)) (rg_w rv372 (by decide) (by decide)) rfl
                      · have ch354 := cv_nle h354
                        refine rn_iconst (v := (1 : Int32)) dX10_isWrong_126 (by decide) ?_
                        refine rn_goto (tgt := 131) dX10_isWrong_127 (by decide) ?_
                        refine rn_istore dX10_isWrong_131 (by decide) [(0, .ref o0_), (1, .int (2200 : Int32)), (2, .int x2_), (3, .int v11), (4, .int v18), (5, .int v21), (6, .int x343), (7, .int x344), (8, .int (1 : Int32))] rfl ?_
                        refine rn_iload dX10_isWrong_133 rfl ?_
                        refine rn_if_ne (tgt := 164) dX10_isWrong_135 (by decide) (fun h373 => ?_) (fun h373 => ?_)
                        · have ch373 := cv_ne h373
                          have r374 : Rg (1) (1) x343 := rf_nel ch373 r347 rk_0 (by decide) (by decide)
                          refine rn_iconst (v := (1 : Int32)) dX10_isWrong_164 (by decide) ?_
                          refine rn_goto (tgt := 169) dX10_isWrong_165 (by decide) ?_
                          refine rn_istore dX10_isWrong_169 (by decide) [(0, .ref o0_), (1, .int (2200 : Int32)), (2, .int x2_), (3, .int v11), (4, .int v18), (5, .int v21), (6, .int (1 : Int32)), (7, .int x344), (8, .int (1 : Int32))] rfl ?_
                          refine rs_iinc (1) (1980) dX10_isWrong_171 rfl (by decide) r352 rk_1 (by decide) (fun v375 => [(0, .ref o0_), (1, .int (2200 : Int32)), (2, .int x2_), (3, .int v11), (4, .int v18), (5, .int v21), (6, .int (1 : Int32)), (7, .int v375), (8, .int (1 : Int32))]) (fun _ => rfl) (fun v375 ev375 rv375 => ?_)
                          refine rn_goto (tgt := 109) dX10_isWrong_174 (by decide) ?_
                          refine rn_lv [(0, .ref o0_), (1, .int (2200 : Int32)), (2, .int x2_), (3, .int v11), (4, .int v18), (5, .int v21), (6, .int (1 : Int32)), (7, .int v375)] rfl ?_
                          exact ih _ (lp_inc hm349 ev375 rv375 (by decide)) (1 : Int32) v375 (rg_w rk_1 (by decide) (by decide)) (rg_w rv375 (by decide) (by decide)) rfl
                        · have ch373 := cv_eq h373
                          have r376 : Rg (0) (0) x343 := rf_eqx ch373 r347 rk_0 (by decide) (by decide)
                          refine rn_aload_n (i := 0) dX10_isWrong_138 rfl rfl ?_
                          obtain ⟨o377, hx377, m377⟩ := fs_r hf4 42 rfl
                          refine rn_get q4 kg_SGModel_113 hl4 hx377 dX10_isWrong_139 ?_
                          refine rn_sipush (v := (1980 : Int32)) dX10_isWrong_142 (by decide) ?_
                          refine rn_iload_n (i := 2) dX10_isWrong_145 rfl rfl ?_
                          refine rs_mulD (0) (5940) rk_1980 r240 dX10_isWrong_146 (by decide) (fun v378 ev378 rv378 => ?_)
                          refine rn_iload dX10_isWrong_147 rfl ?_
                          refine rs_addR (0) (7919) rv378 r352 dX10_isWrong_149 (by decide) (fun v379 ev379 rv379 => ?_)
                          obtain ⟨q380, f380, hq380, hl380, hf380⟩ := ts_ia hW m377 hk_73
                          refine rs_zald q380 hl380 hf380 rfl rv379 (by decide) (by decide) dX10_isWrong_150 (fun v381 ev381 rv381 => ?_)
                          refine rn_if_eq (tgt := 168) dX10_isWrong_151 (by decide) (fun h382 => ?_) (fun h382 => ?_)
                          · have ch382 := cv_eq h382
                            have r383 : Rg (0) (0) v381 := rf_eqx ch382 rv381 rk_0 (by decide) (by decide)
                            refine rn_iconst (v := (0 : Int32)) dX10_isWrong_168 (by decide) ?_
                            refine rn_istore dX10_isWrong_169 (by decide) [(0, .ref o0_), (1, .int (2200 : Int32)), (2, .int x2_), (3, .int v11), (4, .int v18), (5, .int v21), (6, .int (0 : Int32)), (7, .int x344), (8, .int (1 : Int32))] rfl ?_
                            refine rs_iinc (1) (1980) dX10_isWrong_171 rfl (by decide) r352 rk_1 (by decide) (fun v384 => [(0, .ref o0_), (1, .int (2200 : Int32)), (2, .int x2_), (3, .int v11), (4, .int v18), (5, .int v21), (6, .int (0 : Int32)), (7, .int v384), (8, .int (1 : Int32))]) (fun _ => rfl) (fun v384 ev384 rv384 => ?_)
                            refine rn_goto (tgt := 109) dX10_isWrong_174 (by decide) ?_
                            refine rn_lv [(0, .ref o0_), (1, .int (2200 : Int32)), (2, .int x2_), (3, .int v11), (4, .int v18), (5, .int v21), (6, .int (0 : Int32)), (7, .int v384)] rfl ?_
                            exact ih _ (lp_inc hm349 ev384 rv384 (by decide)) (0 : Int32) v384 (rg_w rk_0 (by decide) (by decide)) (rg_w rv384 (by decide) (by decide)) rfl
                          · have ch382 := cv_ne h382
                            have r385 : Rg (1) (1) v381 := rf_nel ch382 rv381 rk_0 (by decide) (by decide)
                            refine rn_iload dX10_isWrong_154 rfl ?_
                            refine rn_if_ne (tgt := 164) dX10_isWrong_156 (by decide) (fun h386 => ?_) (fun h386 => (cx_eq (cv_eq h386) rk_1 rk_0 (by decide)).elim)
                            refine rn_iconst (v := (1 : Int32)) dX10_isWrong_164 (by decide) ?_
                            refine rn_goto (tgt := 169) dX10_isWrong_165 (by decide) ?_
                            refine rn_istore dX10_isWrong_169 (by decide) [(0, .ref o0_), (1, .int (2200 : Int32)), (2, .int x2_), (3, .int v11), (4, .int v18), (5, .int v21), (6, .int (1 : Int32)), (7, .int x344), (8, .int (1 : Int32))] rfl ?_
                            refine rs_iinc (1) (1980) dX10_isWrong_171 rfl (by decide) r352 rk_1 (by decide) (fun v387 => [(0, .ref o0_), (1, .int (2200 : Int32)), (2, .int x2_), (3, .int v11), (4, .int v18), (5, .int v21), (6, .int (1 : Int32)), (7, .int v387), (8, .int (1 : Int32))]) (fun _ => rfl) (fun v387 ev387 rv387 => ?_)
                            refine rn_goto (tgt := 109) dX10_isWrong_174 (by decide) ?_
                            refine rn_lv [(0, .ref o0_), (1, .int (2200 : Int32)), (2, .int x2_), (3, .int v11), (4, .int v18), (5, .int v21), (6, .int (1 : Int32)), (7, .int v387)] rfl ?_
                            exact ih _ (lp_inc hm349 ev387 rv387 (by decide)) (1 : Int32) v387 (rg_w rk_1 (by decide) (by decide)) (rg_w rv387 (by decide) (by decide)) rfl
                exact LP345 _ (1 : Int32) v18 (rg_w rk_1 (by decide) (by decide)) rv18 rfl
          · have ch239 := cv_nle h239
            have r388 : Rg (-1) (-1) x2_ := rf_ltx ch239 r2_ rk_0 (by decide)
            refine rn_iconst (v := (0 : Int32)) dX10_isWrong_58 (by decide) ?_
            exact rn_iret dX10_isWrong_59 rfl rfl (rq_in ⟨rfl, (0 : Int32), rfl, (rg_w rk_0 (by decide) (by decide)), (fun _ => by rw [ht3, ht2]; have := rk_1980.1; have := rk_1980.2; omega)⟩)
        · have ch237 := cv_nle h237
          have r389 : Rg (1981) (67555) v236 := rf_lty ch237 rk_1980 rv236 (by decide)
          refine rn_iconst (v := (1 : Int32)) dX10_isWrong_52 (by decide) ?_
          exact rn_iret dX10_isWrong_53 rfl rfl (rq_in ⟨rfl, (1 : Int32), rfl, (rg_w rk_1 (by decide) (by decide)), (fun h => absurd h (by decide))⟩)
