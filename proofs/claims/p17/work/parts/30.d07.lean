abbrev q_t_X10_isIn (G : rn_G) (S : ts_S) (ws : va_W) : rn_R → va_W → Prop := rQ (fun v w => ws = w ∧ (∃ x : Int32, v = some (.int x) ∧ Rg (0) (1) x)) (fun E w => False)
set_option maxRecDepth 20000 in
set_option maxHeartbeats 4000000 in
theorem t_X10_isIn (G : rn_G) (S : ts_S) (ws : va_W) (hW : ts_W G S ws) (x0_ : Int32) (x1_ : Int32) (x2_ : Int32) : Rn G mX10_isIn 0 0 0 0 0 (lv_args 0 [.int x0_, .int x1_, .int x2_]) [] ws (q_t_X10_isIn G S ws ) := by
  refine rn_lv [(0, .int x0_), (1, .int x1_), (2, .int x2_)] rfl ?_
  refine rn_iload_n (i := 2) dX10_isIn_0 rfl rfl ?_
  refine rn_if_eq (tgt := 15) dX10_isIn_1 (by decide) (fun h1 => ?_) (fun h1 => ?_)
  · have ch1 := cv_eq h1
    have r2 : Rg (0) (0) x2_ := rf_eqx ch1 (rg_any x2_) rk_0 (by decide) (by decide)
    refine rn_iconst (v := (1 : Int32)) dX10_isIn_15 (by decide) ?_
    refine rn_goto (tgt := 20) dX10_isIn_16 (by decide) ?_
    exact rn_iret dX10_isIn_20 rfl rfl (rq_in ⟨rfl, (1 : Int32), rfl, (rg_w rk_1 (by decide) (by decide))⟩)
  · have ch1 := cv_ne h1
    refine rn_iload_n (i := 0) dX10_isIn_4 rfl rfl ?_
    refine rn_iload_n (i := 1) dX10_isIn_5 rfl rfl ?_
    refine rn_ixor dX10_isIn_6 (rn_nmA (fun v3 rv3 => ?_))
    refine rn_bipush (v := (32 : Int32)) dX10_isIn_7 (by decide) ?_
    refine rn_iload_n (i := 2) dX10_isIn_9 rfl rfl ?_
    refine rn_isub dX10_isIn_10 (rn_nmA (fun v4 rv4 => ?_))
    refine rn_iushr dX10_isIn_11 rfl (rn_nmA (fun v5 rv5 => ?_))
    refine rn_if_ne (tgt := 19) dX10_isIn_12 (by decide) (fun h6 => ?_) (fun h6 => ?_)
    · have ch6 := cv_ne h6
      refine rn_iconst (v := (0 : Int32)) dX10_isIn_19 (by decide) ?_
      exact rn_iret dX10_isIn_20 rfl rfl (rq_in ⟨rfl, (0 : Int32), rfl, (rg_w rk_0 (by decide) (by decide))⟩)
    · have ch6 := cv_eq h6
      have r7 : Rg (0) (0) v5 := rf_eqx ch6 rv5 rk_0 (by decide) (by decide)
      refine rn_iconst (v := (1 : Int32)) dX10_isIn_15 (by decide) ?_
      refine rn_goto (tgt := 20) dX10_isIn_16 (by decide) ?_
      exact rn_iret dX10_isIn_20 rfl rfl (rq_in ⟨rfl, (1 : Int32), rfl, (rg_w rk_1 (by decide) (by decide))⟩)
abbrev q_t_X10_routeOf (G : rn_G) (S : ts_S) (ws : va_W) (x1_ : Int32) : rn_R → va_W → Prop := rQ (fun v w => ws = w ∧ (∃ x : Int32, v = some (.int x) ∧ Rg (-2147483648) (2147483647) x ∧ (∀ (n : Nat) (net w9 p : Nat → Int32), TM S ws n net w9 p → (∀ k : Nat, k < n → 0 ≤ (w9 k).toInt) → ∃ x0 : Int32, rtR x1_ net w9 p n x0 x))) (fun E w => False)
set_option maxRecDepth 20000 in
set_option maxHeartbeats 4000000 in
theorem t_X10_routeOf (G : rn_G) (S : ts_S) (ws : va_W) (hW : ts_W G S ws) (o0_ : Nat) (m0_ : (o0_, 30) ∈ S) (x1_ : Int32) : Rn G mX10_routeOf 1 22 0 0 0 (lv_args 0 [.ref o0_, .int x1_]) [] ws (q_t_X10_routeOf G S ws x1_) := by
  obtain ⟨q1, fs1, hq1, hl1, hf1⟩ := ts_obj hW m0_ hk_30
  obtain ⟨x2, hx2, rx2⟩ := fs_i hf1 4 rfl
  refine rn_lv [(0, .ref o0_), (1, .int x1_)] rfl ?_
  refine rn_iconst (v := (-1 : Int32)) dX10_routeOf_0 (by decide) ?_
  refine rn_istore_n dX10_routeOf_1 rfl (by decide) [(0, .ref o0_), (1, .int x1_), (2, .int (-1 : Int32))] rfl ?_
  refine rn_iconst (v := (0 : Int32)) dX10_routeOf_2 (by decide) ?_
  refine rn_istore_n dX10_routeOf_3 rfl (by decide) [(0, .ref o0_), (1, .int x1_), (2, .int (-1 : Int32)), (3, .int (0 : Int32))] rfl ?_
  have LP5 : ∀ (n : Nat) (x3 : Int32) (x4 : Int32), Rg (-1) (15) x3 → Rg (0) (16) x4 → (∀ (n : Nat) (net w9 p : Nat → Int32), TM S ws n net w9 p → (∀ k : Nat, k < n → 0 ≤ (w9 k).toInt) → x4.toInt ≤ n ∧ ((x3 = -1 ∧ rtR x1_ net w9 p x4.toInt.toNat (-1) (-1)) ∨ (0 ≤ x3.toInt ∧ x3.toInt < x4.toInt ∧ rtR x1_ net w9 p x4.toInt.toNat (w9 x3.toInt.toNat) (p x3.toInt.toNat)))) → (16 - x4.toInt).toNat = n → Rn G mX10_routeOf 1 22 0 0 4 [(0, .ref o0_), (1, .int x1_), (2, .int x3), (3, .int x4)] [] ws (q_t_X10_routeOf G S ws x1_) := by
    intro n
    induction n using Nat.strongRecOn with
    | _ n ih =>
      intro x3 x4 r7 r8 LI hm9
      refine rn_iload_n (i := 3) dX10_routeOf_4 rfl rfl ?_
      refine rn_aload_n (i := 0) dX10_routeOf_5 rfl rfl ?_
      refine rn_get q1 kg_SGModel_188 hl1 hx2 dX10_routeOf_6 ?_
      refine rn_icmp_ge (tgt := 58) dX10_routeOf_9 (by decide) (fun h10 => ?_) (fun h10 => ?_)
      · have ch10 := cv_le h10
        refine rn_iload_n (i := 2) dX10_routeOf_58 rfl rfl ?_
        refine rn_if_ge (tgt := 66) dX10_routeOf_59 (by decide) (fun h11 => ?_) (fun h11 => ?_)
        · have ch11 := cv_le h11
          have r12 : Rg (0) (15) x3 := rf_ley ch11 rk_0 r7 (by decide)
          refine rn_aload_n (i := 0) dX10_routeOf_66 rfl rfl ?_
          obtain ⟨o13, hx13, m13⟩ := fs_r hf1 7 rfl
          refine rn_get q1 kg_SGModel_19 hl1 hx13 dX10_routeOf_67 ?_
          refine rn_iload_n (i := 2) dX10_routeOf_70 rfl rfl ?_
          obtain ⟨q14, f14, hq14, hl14, hf14⟩ := ts_ia hW m13 hk_38
          refine rs_iald q14 hl14 hf14 rfl r12 (by decide) (by decide) dX10_routeOf_71 (fun v15 ev15 rv15 => ?_)
          exact rn_iret dX10_routeOf_72 rfl rfl (rq_in ⟨rfl, v15, rfl, rv15, (fun n net w9 p hT hp => by obtain ⟨g1, g2⟩ := LI n net w9 p hT hp; have h3 := mt_n hW hT ⟨q1, o0_, fs1, hq1, hl1, hx2⟩; rcases g2 with ⟨g3, g4⟩ | ⟨g3, g4, g5⟩; exfalso; have z0 := cv_eq g3; have := rk_m1.1; have := rk_m1.2; have := rk_0.1; have := rk_0.2; omega; rw [show x4.toInt.toNat = n by omega] at g5; obtain ⟨-, -, -, m3⟩ := mt_key hW hT ⟨q1, o0_, fs1, hq1, hl1, hx2⟩ g3 (show x3.toInt < x2.toInt by omega); rw [ev15, m3 _ ⟨q14, o13, _, _, hq14, hl14⟩]; exact ⟨_, g5⟩)⟩)
        · have ch11 := cv_nle h11
          have r16 : Rg (-1) (-1) x3 := rf_ltx ch11 r7 rk_0 (by decide)
          refine rn_iconst (v := (-1 : Int32)) dX10_routeOf_62 (by decide) ?_
          refine rn_goto (tgt := 72) dX10_routeOf_63 (by decide) ?_
          exact rn_iret dX10_routeOf_72 rfl rfl (rq_in ⟨rfl, (-1 : Int32), rfl, (rg_w rk_m1 (by decide) (by decide)), (fun n net w9 p hT hp => by obtain ⟨g1, g2⟩ := LI n net w9 p hT hp; have h3 := mt_n hW hT ⟨q1, o0_, fs1, hq1, hl1, hx2⟩; rcases g2 with ⟨g3, g4⟩ | ⟨g3, g4, g5⟩; rw [show x4.toInt.toNat = n by omega] at g4; exact ⟨_, g4⟩; exfalso; have := rk_m1.1; have := rk_m1.2; have := rk_0.1; have := rk_0.2; omega)⟩)
      · have ch10 := cv_nle h10
        have r17 : Rg (0) (15) x4 := rf_ltx ch10 r8 rx2 (by decide)
        have r18 : Rg (1) (16) x2 := rf_lty ch10 r8 rx2 (by decide)
        refine rn_iload_n (i := 1) dX10_routeOf_12 rfl rfl ?_
        refine rn_aload_n (i := 0) dX10_routeOf_13 rfl rfl ?_
        obtain ⟨o19, hx19, m19⟩ := fs_r hf1 5 rfl
        refine rn_get q1 kg_SGModel_13 hl1 hx19 dX10_routeOf_14 ?_
        refine rn_iload_n (i := 3) dX10_routeOf_17 rfl rfl ?_
        obtain ⟨q20, f20, hq20, hl20, hf20⟩ := ts_ia hW m19 hk_36
        refine rs_iald q20 hl20 hf20 rfl r17 (by decide) (by decide) dX10_routeOf_18 (fun v21 ev21 rv21 => ?_)
        refine rn_aload_n (i := 0) dX10_routeOf_19 rfl rfl ?_
        obtain ⟨o22, hx22, m22⟩ := fs_r hf1 6 rfl
        refine rn_get q1 kg_SGModel_16 hl1 hx22 dX10_routeOf_20 ?_
        refine rn_iload_n (i := 3) dX10_routeOf_23 rfl rfl ?_
        obtain ⟨q23, f23, hq23, hl23, hf23⟩ := ts_ia hW m22 hk_37
        refine rs_iald q23 hl23 hf23 rfl r17 (by decide) (by decide) dX10_routeOf_24 (fun v24 ev24 rv24 => ?_)
        refine rn_inS (d' := 0) (z' := 0) [.int x1_, .int v21, .int v24] kl_SGModel_212 dX10_routeOf_25 rfl rfl (Nat.le_of_ble_eq_true rfl) (Nat.le_of_ble_eq_true rfl) (Nat.le_of_ble_eq_true rfl) (Nat.le_of_ble_eq_true rfl) ?_
        refine rn_lv [(0, .int x1_), (1, .int v21), (2, .int v24)] rfl ?_
        refine rn_iload_n (i := 2) dX10_isIn_0 rfl rfl ?_
        refine rn_if_eq (tgt := 15) dX10_isIn_1 (by decide) (fun h25 => ?_) (fun h25 => ?_)
        · have ch25 := cv_eq h25
          have r26 : Rg (0) (0) v24 := rf_eqx ch25 rv24 rk_0 (by decide) (by decide)
          refine rn_iconst (v := (1 : Int32)) dX10_isIn_15 (by decide) ?_
          refine rn_goto (tgt := 20) dX10_isIn_16 (by decide) ?_
          refine rn_iret dX10_isIn_20 rfl rfl (rq_in ?_)
          refine rn_stk [.int (1 : Int32)] rfl ?_
          refine rn_if_eq (tgt := 52) dX10_routeOf_28 (by decide) (fun h27 => (cx_eq (cv_eq h27) rk_1 rk_0 (by decide)).elim) (fun h27 => ?_)
          refine rn_iload_n (i := 2) dX10_routeOf_31 rfl rfl ?_
          refine rn_if_lt (tgt := 50) dX10_routeOf_32 (by decide) (fun h28 => ?_) (fun h28 => ?_)
          · have ch28 := cv_lt h28
            have r29 : Rg (-1) (-1) x3 := rf_ltx ch28 r7 rk_0 (by decide)
            refine rn_iload_n (i := 3) dX10_routeOf_50 rfl rfl ?_
            refine rn_istore_n dX10_routeOf_51 rfl (by decide) [(0, .ref o0_), (1, .int x1_), (2, .int x4), (3, .int x4)] rfl ?_
            refine rs_iinc (1) (16) dX10_routeOf_52 rfl (by decide) r17 rk_1 (by decide) (fun v30 => [(0, .ref o0_), (1, .int x1_), (2, .int x4), (3, .int v30)]) (fun _ => rfl) (fun v30 ev30 rv30 => ?_)
            refine rn_goto (tgt := 4) dX10_routeOf_55 (by decide) ?_
            refine rn_lv [(0, .ref o0_), (1, .int x1_), (2, .int x4), (3, .int v30)] rfl ?_
            exact ih _ (lp_inc hm9 ev30 rv30 (by decide)) x4 v30 (rg_w r17 (by decide) (by decide)) (rg_w rv30 (by decide) (by decide)) (fun n net w9 p hT hp => by obtain ⟨g1, g2⟩ := LI n net w9 p hT hp; obtain ⟨a1, a2, a3, a4⟩ := mt_key hW hT ⟨q1, o0_, fs1, hq1, hl1, hx2⟩ (r17.1) (show x4.toInt < x2.toInt by omega); have b2 := a2 _ ⟨q20, o19, _, _, hq20, hl20⟩; have b3 := a3 _ ⟨q23, o22, _, _, hq23, hl23⟩; have wp := hp _ (show x4.toInt.toNat < n by have := r17.1; omega); refine ⟨by omega, ?_⟩; rw [show v30.toInt.toNat = x4.toInt.toNat + 1 by have := r17.1; omega]; rw [← ev21] at b2; rw [← ev24] at b3; refine Or.inr ⟨r17.1, by omega, ?_⟩; rcases g2 with ⟨g3, g4⟩ | ⟨g3, g4, g5⟩; exact rt_succ ⟨_, _, g4, Or.inl ⟨by rw [← b2, ← b3]; unfold nIn; first | exact Or.inl (by assumption) | exact Or.inr (by assumption), by have := rk_m1.2; omega, rfl, rfl⟩⟩; exfalso; have := rk_m1.1; have := rk_m1.2; have := rk_0.1; have := rk_0.2; omega) rfl
          · have ch28 := cv_nlt h28
            have r31 : Rg (0) (15) x3 := rf_ley ch28 rk_0 r7 (by decide)
            refine rn_aload_n (i := 0) dX10_routeOf_35 rfl rfl ?_
            refine rn_get q1 kg_SGModel_16 hl1 hx22 dX10_routeOf_36 ?_
            refine rn_iload_n (i := 3) dX10_routeOf_39 rfl rfl ?_
            refine rs_iald q23 hl23 hf23 rfl r17 (by decide) (by decide) dX10_routeOf_40 (fun v32 ev32 rv32 => ?_)
            refine rn_aload_n (i := 0) dX10_routeOf_41 rfl rfl ?_
            refine rn_get q1 kg_SGModel_16 hl1 hx22 dX10_routeOf_42 ?_
            refine rn_iload_n (i := 2) dX10_routeOf_45 rfl rfl ?_
            refine rs_iald q23 hl23 hf23 rfl r31 (by decide) (by decide) dX10_routeOf_46 (fun v33 ev33 rv33 => ?_)
            refine rn_icmp_lt (tgt := 52) dX10_routeOf_47 (by decide) (fun h34 => ?_) (fun h34 => ?_)
            · have ch34 := cv_lt h34
              have r35 : Rg (-2147483648) (2147483646) v32 := rf_ltx ch34 rv32 rv33 (by decide)
              have r36 : Rg (-2147483647) (2147483647) v33 := rf_lty ch34 rv32 rv33 (by decide)
              refine rs_iinc (1) (16) dX10_routeOf_52 rfl (by decide) r17 rk_1 (by decide) (fun v37 => [(0, .ref o0_), (1, .int x1_), (2, .int x3), (3, .int v37)]) (fun _ => rfl) (fun v37 ev37 rv37 => ?_)
              refine rn_goto (tgt := 4) dX10_routeOf_55 (by decide) ?_
              refine rn_lv [(0, .ref o0_), (1, .int x1_), (2, .int x3), (3, .int v37)] rfl ?_
              exact ih _ (lp_inc hm9 ev37 rv37 (by decide)) x3 v37 (rg_w r31 (by decide) (by decide)) (rg_w rv37 (by decide) (by decide)) (fun n net w9 p hT hp => by obtain ⟨g1, g2⟩ := LI n net w9 p hT hp; obtain ⟨a1, a2, a3, a4⟩ := mt_key hW hT ⟨q1, o0_, fs1, hq1, hl1, hx2⟩ (r17.1) (show x4.toInt < x2.toInt by omega); have b2 := a2 _ ⟨q20, o19, _, _, hq20, hl20⟩; have b3 := a3 _ ⟨q23, o22, _, _, hq23, hl23⟩; have wp := hp _ (show x4.toInt.toNat < n by have := r17.1; omega); refine ⟨by omega, ?_⟩; rw [show v37.toInt.toNat = x4.toInt.toNat + 1 by have := r17.1; omega]; rw [← ev21] at b2; rw [← ev24] at b3; rcases g2 with ⟨g3, g4⟩ | ⟨g3, g4, g5⟩; exfalso; have z0 := cv_eq g3; have := rk_m1.1; have := rk_m1.2; have := rk_0.1; have := rk_0.2; omega; obtain ⟨-, -, a5, -⟩ := mt_key hW hT ⟨q1, o0_, fs1, hq1, hl1, hx2⟩ g3 (show x3.toInt < x2.toInt by omega); have b5 := a5 _ ⟨q23, o22, _, _, hq23, hl23⟩; rw [← ev33] at b5; exact Or.inr ⟨g3, by omega, rt_succ ⟨_, _, g5, Or.inr ⟨Or.inr (by rw [← b5, ← b3]; have z := cv_eq (show v32 = v24 from ev32.trans ev24.symm); omega), rfl, rfl⟩⟩⟩) rfl
            · have ch34 := cv_nlt h34
              refine rn_iload_n (i := 3) dX10_routeOf_50 rfl rfl ?_
              refine rn_istore_n dX10_routeOf_51 rfl (by decide) [(0, .ref o0_), (1, .int x1_), (2, .int x4), (3, .int x4)] rfl ?_
              refine rs_iinc (1) (16) dX10_routeOf_52 rfl (by decide) r17 rk_1 (by decide) (fun v38 => [(0, .ref o0_), (1, .int x1_), (2, .int x4), (3, .int v38)]) (fun _ => rfl) (fun v38 ev38 rv38 => ?_)
              refine rn_goto (tgt := 4) dX10_routeOf_55 (by decide) ?_
              refine rn_lv [(0, .ref o0_), (1, .int x1_), (2, .int x4), (3, .int v38)] rfl ?_
              exact ih _ (lp_inc hm9 ev38 rv38 (by decide)) x4 v38 (rg_w r17 (by decide) (by decide)) (rg_w rv38 (by decide) (by decide)) (fun n net w9 p hT hp => by obtain ⟨g1, g2⟩ := LI n net w9 p hT hp; obtain ⟨a1, a2, a3, a4⟩ := mt_key hW hT ⟨q1, o0_, fs1, hq1, hl1, hx2⟩ (r17.1) (show x4.toInt < x2.toInt by omega); have b2 := a2 _ ⟨q20, o19, _, _, hq20, hl20⟩; have b3 := a3 _ ⟨q23, o22, _, _, hq23, hl23⟩; have wp := hp _ (show x4.toInt.toNat < n by have := r17.1; omega); refine ⟨by omega, ?_⟩; rw [show v38.toInt.toNat = x4.toInt.toNat + 1 by have := r17.1; omega]; rw [← ev21] at b2; rw [← ev24] at b3; refine Or.inr ⟨r17.1, by omega, ?_⟩; rcases g2 with ⟨g3, g4⟩ | ⟨g3, g4, g5⟩; exact rt_succ ⟨_, _, g4, Or.inl ⟨by rw [← b2, ← b3]; unfold nIn; first | exact Or.inl (by assumption) | exact Or.inr (by assumption), by have := rk_m1.2; omega, rfl, rfl⟩⟩; obtain ⟨-, -, a5, -⟩ := mt_key hW hT ⟨q1, o0_, fs1, hq1, hl1, hx2⟩ g3 (show x3.toInt < x2.toInt by omega); have b5 := a5 _ ⟨q23, o22, _, _, hq23, hl23⟩; rw [← ev33] at b5; exact rt_succ ⟨_, _, g5, Or.inl ⟨by rw [← b2, ← b3]; unfold nIn; first | exact Or.inl (by assumption) | exact Or.inr (by assumption), by rw [← b5, ← b3]; have z := cv_eq (show v32 = v24 from ev32.trans ev24.symm); omega, rfl, rfl⟩⟩) rfl
        · have ch25 := cv_ne h25
          refine rn_iload_n (i := 0) dX10_isIn_4 rfl rfl ?_
          refine rn_iload_n (i := 1) dX10_isIn_5 rfl rfl ?_
          refine rn_ixor dX10_isIn_6 ?_
          refine rn_bipush (v := (32 : Int32)) dX10_isIn_7 (by decide) ?_
          refine rn_iload_n (i := 2) dX10_isIn_9 rfl rfl ?_
          refine rn_isub dX10_isIn_10 ?_
          refine rn_iushr dX10_isIn_11 rfl ?_
          refine rn_if_ne (tgt := 19) dX10_isIn_12 (by decide) (fun h39 => ?_) (fun h39 => ?_)
          · have ch39 := cv_ne h39
            refine rn_iconst (v := (0 : Int32)) dX10_isIn_19 (by decide) ?_
            refine rn_iret dX10_isIn_20 rfl rfl (rq_in ?_)
            refine rn_stk [.int (0 : Int32)] rfl ?_
            refine rn_if_eq (tgt := 52) dX10_routeOf_28 (by decide) (fun h40 => ?_) (fun h40 => (cx_ne (cv_ne h40) rk_0 rk_0 (by decide)).elim)
            refine rs_iinc (1) (16) dX10_routeOf_52 rfl (by decide) r17 rk_1 (by decide) (fun v41 => [(0, .ref o0_), (1, .int x1_), (2, .int x3), (3, .int v41)]) (fun _ => rfl) (fun v41 ev41 rv41 => ?_)
            refine rn_goto (tgt := 4) dX10_routeOf_55 (by decide) ?_
            refine rn_lv [(0, .ref o0_), (1, .int x1_), (2, .int x3), (3, .int v41)] rfl ?_
            exact ih _ (lp_inc hm9 ev41 rv41 (by decide)) x3 v41 r7 (rg_w rv41 (by decide) (by decide)) (fun n net w9 p hT hp => by obtain ⟨g1, g2⟩ := LI n net w9 p hT hp; obtain ⟨a1, a2, a3, a4⟩ := mt_key hW hT ⟨q1, o0_, fs1, hq1, hl1, hx2⟩ (r17.1) (show x4.toInt < x2.toInt by omega); have b2 := a2 _ ⟨q20, o19, _, _, hq20, hl20⟩; have b3 := a3 _ ⟨q23, o22, _, _, hq23, hl23⟩; have wp := hp _ (show x4.toInt.toNat < n by have := r17.1; omega); refine ⟨by omega, ?_⟩; rw [show v41.toInt.toNat = x4.toInt.toNat + 1 by have := r17.1; omega]; rw [← ev21] at b2; rw [← ev24] at b3; rcases g2 with ⟨g3, g4⟩ | ⟨g3, g4, g5⟩; exact Or.inl ⟨g3, rt_succ ⟨_, _, g4, Or.inr ⟨Or.inl (by rw [← b2, ← b3]; unfold nIn; intro h; rcases h with h | h <;> contradiction), rfl, rfl⟩⟩⟩; exact Or.inr ⟨g3, by omega, rt_succ ⟨_, _, g5, Or.inr ⟨Or.inl (by rw [← b2, ← b3]; unfold nIn; intro h; rcases h with h | h <;> contradiction), rfl, rfl⟩⟩⟩) rfl
          · have ch39 := cv_eq h39
            have r42 : Rg (0) (0) (((x1_ ^^^ v21)).toUInt32 >>> ((((32 : Int32) - v24)).toUInt32 &&& Int32.toUInt32 31)).toInt32 := rf_eqx ch39 (rg_any (((x1_ ^^^ v21)).toUInt32 >>> ((((32 : Int32) - v24)).toUInt32 &&& Int32.toUInt32 31)).toInt32) rk_0 (by decide) (by decide)
            refine rn_iconst (v := (1 : Int32)) dX10_isIn_15 (by decide) ?_
            refine rn_goto (tgt := 20) dX10_isIn_16 (by decide) ?_
            refine rn_iret dX10_isIn_20 rfl rfl (rq_in ?_)
            refine rn_stk [.int (1 : Int32)] rfl ?_
            refine rn_if_eq (tgt := 52) dX10_routeOf_28 (by decide) (fun h43 => (cx_eq (cv_eq h43) rk_1 rk_0 (by decide)).elim) (fun h43 => ?_)
            refine rn_iload_n (i := 2) dX10_routeOf_31 rfl rfl ?_
            refine rn_if_lt (tgt := 50) dX10_routeOf_32 (by decide) (fun h44 => ?_) (fun h44 => ?_)
            · have ch44 := cv_lt h44
              have r45 : Rg (-1) (-1) x3 := rf_ltx ch44 r7 rk_0 (by decide)
              refine rn_iload_n (i := 3) dX10_routeOf_50 rfl rfl ?_
              refine rn_istore_n dX10_routeOf_51 rfl (by decide) [(0, .ref o0_), (1, .int x1_), (2, .int x4), (3, .int x4)] rfl ?_
              refine rs_iinc (1) (16) dX10_routeOf_52 rfl (by decide) r17 rk_1 (by decide) (fun v46 => [(0, .ref o0_), (1, .int x1_), (2, .int x4), (3, .int v46)]) (fun _ => rfl) (fun v46 ev46 rv46 => ?_)
              refine rn_goto (tgt := 4) dX10_routeOf_55 (by decide) ?_
              refine rn_lv [(0, .ref o0_), (1, .int x1_), (2, .int x4), (3, .int v46)] rfl ?_
              exact ih _ (lp_inc hm9 ev46 rv46 (by decide)) x4 v46 (rg_w r17 (by decide) (by decide)) (rg_w rv46 (by decide) (by decide)) (fun n net w9 p hT hp => by obtain ⟨g1, g2⟩ := LI n net w9 p hT hp; obtain ⟨a1, a2, a3, a4⟩ := mt_key hW hT ⟨q1, o0_, fs1, hq1, hl1, hx2⟩ (r17.1) (show x4.toInt < x2.toInt by omega); have b2 := a2 _ ⟨q20, o19, _, _, hq20, hl20⟩; have b3 := a3 _ ⟨q23, o22, _, _, hq23, hl23⟩; have wp := hp _ (show x4.toInt.toNat < n by have := r17.1; omega); refine ⟨by omega, ?_⟩; rw [show v46.toInt.toNat = x4.toInt.toNat + 1 by have := r17.1; omega]; rw [← ev21] at b2; rw [← ev24] at b3; refine Or.inr ⟨r17.1, by omega, ?_⟩; rcases g2 with ⟨g3, g4⟩ | ⟨g3, g4, g5⟩; exact rt_succ ⟨_, _, g4, Or.inl ⟨by rw [← b2, ← b3]; unfold nIn; first | exact Or.inl (by assumption) | exact Or.inr (by assumption), by have := rk_m1.2; omega, rfl, rfl⟩⟩; exfalso; have := rk_m1.1; have := rk_m1.2; have := rk_0.1; have := rk_0.2; omega) rfl
            · have ch44 := cv_nlt h44
              have r47 : Rg (0) (15) x3 := rf_ley ch44 rk_0 r7 (by decide)
              refine rn_aload_n (i := 0) dX10_routeOf_35 rfl rfl ?_
              refine rn_get q1 kg_SGModel_16 hl1 hx22 dX10_routeOf_36 ?_
              refine rn_iload_n (i := 3) dX10_routeOf_39 rfl rfl ?_
              refine rs_iald q23 hl23 hf23 rfl r17 (by decide) (by decide) dX10_routeOf_40 (fun v48 ev48 rv48 => ?_)
              refine rn_aload_n (i := 0) dX10_routeOf_41 rfl rfl ?_
              refine rn_get q1 kg_SGModel_16 hl1 hx22 dX10_routeOf_42 ?_
              refine rn_iload_n (i := 2) dX10_routeOf_45 rfl rfl ?_
              refine rs_iald q23 hl23 hf23 rfl r47 (by decide) (by decide) dX10_routeOf_46 (fun v49 ev49 rv49 => ?_)
              refine rn_icmp_lt (tgt := 52) dX10_routeOf_47 (by decide) (fun h50 => ?_) (fun h50 => ?_)
              · have ch50 := cv_lt h50
                have r51 : Rg (-2147483648) (2147483646) v48 := rf_ltx ch50 rv48 rv49 (by decide)
                have r52 : Rg (-2147483647) (2147483647) v49 := rf_lty ch50 rv48 rv49 (by decide)
                refine rs_iinc (1) (16) dX10_routeOf_52 rfl (by decide) r17 rk_1 (by decide) (fun v53 => [(0, .ref o0_), (1, .int x1_), (2, .int x3), (3, .int v53)]) (fun _ => rfl) (fun v53 ev53 rv53 => ?_)
                refine rn_goto (tgt := 4) dX10_routeOf_55 (by decide) ?_
                refine rn_lv [(0, .ref o0_), (1, .int x1_), (2, .int x3), (3, .int v53)] rfl ?_
                exact ih _ (lp_inc hm9 ev53 rv53 (by decide)) x3 v53 (rg_w r47 (by decide) (by decide)) (rg_w rv53 (by decide) (by decide)) (fun n net w9 p hT hp => by obtain ⟨g1, g2⟩ := LI n net w9 p hT hp; obtain ⟨a1, a2, a3, a4⟩ := mt_key hW hT ⟨q1, o0_, fs1, hq1, hl1, hx2⟩ (r17.1) (show x4.toInt < x2.toInt by omega); have b2 := a2 _ ⟨q20, o19, _, _, hq20, hl20⟩; have b3 := a3 _ ⟨q23, o22, _, _, hq23, hl23⟩; have wp := hp _ (show x4.toInt.toNat < n by have := r17.1; omega); refine ⟨by omega, ?_⟩; rw [show v53.toInt.toNat = x4.toInt.toNat + 1 by have := r17.1; omega]; rw [← ev21] at b2; rw [← ev24] at b3; rcases g2 with ⟨g3, g4⟩ | ⟨g3, g4, g5⟩; exfalso; have z0 := cv_eq g3; have := rk_m1.1; have := rk_m1.2; have := rk_0.1; have := rk_0.2; omega; obtain ⟨-, -, a5, -⟩ := mt_key hW hT ⟨q1, o0_, fs1, hq1, hl1, hx2⟩ g3 (show x3.toInt < x2.toInt by omega); have b5 := a5 _ ⟨q23, o22, _, _, hq23, hl23⟩; rw [← ev49] at b5; exact Or.inr ⟨g3, by omega, rt_succ ⟨_, _, g5, Or.inr ⟨Or.inr (by rw [← b5, ← b3]; have z := cv_eq (show v48 = v24 from ev48.trans ev24.symm); omega), rfl, rfl⟩⟩⟩) rfl
              · have ch50 := cv_nlt h50
                refine rn_iload_n (i := 3) dX10_routeOf_50 rfl rfl ?_
                refine rn_istore_n dX10_routeOf_51 rfl (by decide) [(0, .ref o0_), (1, .int x1_), (2, .int x4), (3, .int x4)] rfl ?_
                refine rs_iinc (1) (16) dX10_routeOf_52 rfl (by decide) r17 rk_1 (by decide) (fun v54 => [(0, .ref o0_), (1, .int x1_), (2, .int x4), (3, .int v54)]) (fun _ => rfl) (fun v54 ev54 rv54 => ?_)
                refine rn_goto (tgt := 4) dX10_routeOf_55 (by decide) ?_
                refine rn_lv [(0, .ref o0_), (1, .int x1_), (2, .int x4), (3, .int v54)] rfl ?_
                exact ih _ (lp_inc hm9 ev54 rv54 (by decide)) x4 v54 (rg_w r17 (by decide) (by decide)) (rg_w rv54 (by decide) (by decide)) (fun n net w9 p hT hp => by obtain ⟨g1, g2⟩ := LI n net w9 p hT hp; obtain ⟨a1, a2, a3, a4⟩ := mt_key hW hT ⟨q1, o0_, fs1, hq1, hl1, hx2⟩ (r17.1) (show x4.toInt < x2.toInt by omega); have b2 := a2 _ ⟨q20, o19, _, _, hq20, hl20⟩; have b3 := a3 _ ⟨q23, o22, _, _, hq23, hl23⟩; have wp := hp _ (show x4.toInt.toNat < n by have := r17.1; omega); refine ⟨by omega, ?_⟩; rw [show v54.toInt.toNat = x4.toInt.toNat + 1 by have := r17.1; omega]; rw [← ev21] at b2; rw [← ev24] at b3; refine Or.inr ⟨r17.1, by omega, ?_⟩; rcases g2 with ⟨g3, g4⟩ | ⟨g3, g4, g5⟩; exact rt_succ ⟨_, _, g4, Or.inl ⟨by rw [← b2, ← b3]; unfold nIn; first | exact Or.inl (by assumption) | exact Or.inr (by assumption), by have := rk_m1.2; omega, rfl, rfl⟩⟩; obtain ⟨-, -, a5, -⟩ := mt_key hW hT ⟨q1, o0_, fs1, hq1, hl1, hx2⟩ g3 (show x3.toInt < x2.toInt by omega); have b5 := a5 _ ⟨q23, o22, _, _, hq23, hl23⟩; rw [← ev49] at b5; exact rt_succ ⟨_, _, g5, Or.inl ⟨by rw [← b2, ← b3]; unfold nIn; first | exact Or.inl (by assumption) | exact Or.inr (by assumption), by rw [← b5, ← b3]; have z := cv_eq (show v48 = v24 from ev48.trans ev24.symm); omega, rfl, rfl⟩⟩) rfl
  exact LP5 _ (-1 : Int32) (0 : Int32) (rg_w rk_m1 (by decide) (by decide)) (rg_w rk_0 (by decide) (by decide)) (fun n net w9 p hT hp => ⟨by have := rk_0.2; omega, Or.inl ⟨rfl, show rtR x1_ net w9 p 0 (-1) (-1) from rt_zero⟩⟩) rfl
abbrev q_t_X10_means (G : rn_G) (S : ts_S) (ws : va_W) : rn_R → va_W → Prop := rQ (fun v w => ws = w ∧ (∃ x : Int32, v = some (.int x) ∧ Rg (0) (1) x)) (fun E w => False)
set_option maxRecDepth 20000 in
set_option maxHeartbeats 4000000 in
theorem t_X10_means (G : rn_G) (S : ts_S) (ws : va_W) (hW : ts_W G S ws) (o0_ : Nat) (m0_ : (o0_, 30) ∈ S) (x1_ : Int32) (r1_ : Rg (0) (23) x1_) (x2_ : Int32) (r2_ : Rg (0) (21970) x2_) : Rn G mX10_means 4 85 0 0 0 (lv_args 0 [.ref o0_, .int x1_, .int x2_]) [] ws (q_t_X10_means G S ws ) := by
  refine rn_lv [(0, .ref o0_), (1, .int x1_), (2, .int x2_)] rfl ?_
  refine rn_aload_n (i := 0) dX10_means_0 rfl rfl ?_
  refine rn_iload_n (i := 2) dX10_means_1 rfl rfl ?_
  obtain ⟨q1, fs1, hq1, hl1, hf1⟩ := ts_obj hW m0_ hk_30
  refine rn_callV (a := 0) (b := 0) [.int x2_] kl_SGModel_215 dX10_means_2 q1 hl1 rfl (t_X10_doorOf G S ws hW o0_ m0_ x2_ r2_) rfl rfl (Nat.le_of_ble_eq_true rfl) (Nat.le_of_ble_eq_true rfl) (Nat.le_of_ble_eq_true rfl) (Nat.le_of_ble_eq_true rfl) (Nat.le_of_ble_eq_true rfl) (Nat.le_of_ble_eq_true rfl) (fun _ _ h => False.elim h) (fun v9 w2 h3 => ?_)
  obtain ⟨rfl, v4, rfl, rv4⟩ := h3
  refine rn_stk [.int v4] rfl ?_
  refine rn_istore_n dX10_means_5 rfl (by decide) [(0, .ref o0_), (1, .int x1_), (2, .int x2_), (3, .int v4)] rfl ?_
  refine rn_aload_n (i := 0) dX10_means_6 rfl rfl ?_
  obtain ⟨o6, hx6, m6⟩ := fs_r hf1 16 rfl
  refine rn_get q1 kg_SGModel_43 hl1 hx6 dX10_means_7 ?_
  refine rn_iload_n (i := 1) dX10_means_10 rfl rfl ?_
  obtain ⟨q7, f7, hq7, hl7, hf7⟩ := ts_ia hW m6 hk_47
  refine rs_iald q7 hl7 hf7 rfl r1_ (by decide) (by decide) dX10_means_11 (fun v8 ev8 rv8 => ?_)
  refine rn_if_ne (tgt := 30) dX10_means_12 (by decide) (fun h9 => ?_) (fun h9 => ?_)
  · have ch9 := cv_ne h9
    refine rn_iconst (v := (0 : Int32)) dX10_means_30 (by decide) ?_
    refine rn_istore dX10_means_31 (by decide) [(0, .ref o0_), (1, .int x1_), (2, .int x2_), (3, .int v4), (4, .int (0 : Int32))] rfl ?_
    refine rn_aload_n (i := 0) dX10_means_33 rfl rfl ?_
    obtain ⟨o10, hx10, m10⟩ := fs_r hf1 15 rfl
    refine rn_get q1 kg_SGModel_40 hl1 hx10 dX10_means_34 ?_
    refine rn_iload_n (i := 1) dX10_means_37 rfl rfl ?_
    obtain ⟨q11, f11, hq11, hl11, hf11⟩ := ts_ia hW m10 hk_46
    refine rs_iald q11 hl11 hf11 rfl r1_ (by decide) (by decide) dX10_means_38 (fun v12 ev12 rv12 => ?_)
    refine rn_if_eq (tgt := 60) dX10_means_39 (by decide) (fun h13 => ?_) (fun h13 => ?_)
    · have ch13 := cv_eq h13
      have r14 : Rg (0) (0) v12 := rf_eqx ch13 rv12 rk_0 (by decide) (by decide)
      refine rn_iconst (v := (1 : Int32)) dX10_means_60 (by decide) ?_
      refine rn_goto (tgt := 65) dX10_means_61 (by decide) ?_
      refine rn_istore dX10_means_65 (by decide) [(0, .ref o0_), (1, .int x1_), (2, .int x2_), (3, .int v4), (4, .int (0 : Int32)), (5, .int (1 : Int32))] rfl ?_
      refine rn_aload_n (i := 0) dX10_means_67 rfl rfl ?_
      refine rn_iload_n (i := 2) dX10_means_68 rfl rfl ?_
      refine rn_bipush (v := (12 : Int32)) dX10_means_69 (by decide) ?_
      refine rs_addC (12) (21982) r2_ rk_12 dX10_means_71 (by decide) (fun v15 ev15 rv15 => ?_)
      refine rn_callV (a := 0) (b := 0) [.int v15] kl_SGModel_218 dX10_means_72 q1 hl1 rfl (t_X10_four G S ws hW o0_ m0_ v15 (rg_w rv15 (by decide) (by decide))) rfl rfl (Nat.le_of_ble_eq_true rfl) (Nat.le_of_ble_eq_true rfl) (Nat.le_of_ble_eq_true rfl) (Nat.le_of_ble_eq_true rfl) (Nat.le_of_ble_eq_true rfl) (Nat.le_of_ble_eq_true rfl) (fun _ _ h => False.elim h) (fun v9 w16 h17 => ?_)
      obtain ⟨rfl, v18, rfl, rv18⟩ := h17
      refine rn_stk [.int v18] rfl ?_
      refine rn_aload_n (i := 0) dX10_means_75 rfl rfl ?_
      obtain ⟨o20, hx20, m20⟩ := fs_r hf1 11 rfl
      refine rn_get q1 kg_SGModel_28 hl1 hx20 dX10_means_76 ?_
      refine rn_iload_n (i := 1) dX10_means_79 rfl rfl ?_
      obtain ⟨q21, f21, hq21, hl21, hf21⟩ := ts_ia hW m20 hk_42
      refine rs_iald q21 hl21 hf21 rfl r1_ (by decide) (by decide) dX10_means_80 (fun v22 ev22 rv22 => ?_)
      refine rn_aload_n (i := 0) dX10_means_81 rfl rfl ?_
      obtain ⟨o23, hx23, m23⟩ := fs_r hf1 12 rfl
      refine rn_get q1 kg_SGModel_31 hl1 hx23 dX10_means_82 ?_
      refine rn_iload_n (i := 1) dX10_means_85 rfl rfl ?_
      obtain ⟨q24, f24, hq24, hl24, hf24⟩ := ts_ia hW m23 hk_43
      refine rs_iald q24 hl24 hf24 rfl r1_ (by decide) (by decide) dX10_means_86 (fun v25 ev25 rv25 => ?_)
      refine rn_callS (a := 0) (b := 0) [.int v18, .int v22, .int v25] kl_SGModel_212 dX10_means_87 (t_X10_isIn G S ws hW v18 v22 v25) rfl rfl (Nat.le_of_ble_eq_true rfl) (Nat.le_of_ble_eq_true rfl) (Nat.le_of_ble_eq_true rfl) (Nat.le_of_ble_eq_true rfl) (Nat.le_of_ble_eq_true rfl) (Nat.le_of_ble_eq_true rfl) (fun _ _ h => False.elim h) (fun v9 w26 h27 => ?_)
      obtain ⟨rfl, v28, rfl, rv28⟩ := h27
      refine rn_stk [.int v28] rfl ?_
      refine rn_if_eq (tgt := 123) dX10_means_90 (by decide) (fun h30 => ?_) (fun h30 => ?_)
      · have ch30 := cv_eq h30
        have r31 : Rg (0) (0) v28 := rf_eqx ch30 rv28 rk_0 (by decide) (by decide)
        refine rn_iconst (v := (0 : Int32)) dX10_means_123 (by decide) ?_
        refine rn_istore dX10_means_124 (by decide) [(0, .ref o0_), (1, .int x1_), (2, .int x2_), (3, .int v4), (4, .int (0 : Int32)), (5, .int (1 : Int32)), (6, .int (0 : Int32))] rfl ?_
        refine rn_iload dX10_means_126 rfl ?_
        refine rn_if_eq (tgt := 168) dX10_means_128 (by decide) (fun h32 => (cx_eq (cv_eq h32) rk_1 rk_0 (by decide)).elim) (fun h32 => ?_)
        refine rn_iload dX10_means_131 rfl ?_
        refine rn_if_eq (tgt := 168) dX10_means_133 (by decide) (fun h33 => ?_) (fun h33 => (cx_ne (cv_ne h33) rk_0 rk_0 (by decide)).elim)
        refine rn_iconst (v := (0 : Int32)) dX10_means_168 (by decide) ?_
        exact rn_iret dX10_means_169 rfl rfl (rq_in ⟨rfl, (0 : Int32), rfl, (rg_w rk_0 (by decide) (by decide))⟩)
      · have ch30 := cv_ne h30
        have r34 : Rg (1) (1) v28 := rf_nel ch30 rv28 rk_0 (by decide) (by decide)
        refine rn_aload_n (i := 0) dX10_means_93 rfl rfl ?_
        refine rn_iload_n (i := 2) dX10_means_94 rfl rfl ?_
        refine rn_bipush (v := (16 : Int32)) dX10_means_95 (by decide) ?_
        refine rs_addC (16) (21986) r2_ rk_16 dX10_means_97 (by decide) (fun v35 ev35 rv35 => ?_)
        refine rn_callV (a := 0) (b := 0) [.int v35] kl_SGModel_218 dX10_means_98 q1 hl1 rfl (t_X10_four G S ws hW o0_ m0_ v35 (rg_w rv35 (by decide) (by decide))) rfl rfl (Nat.le_of_ble_eq_true rfl) (Nat.le_of_ble_eq_true rfl) (Nat.le_of_ble_eq_true rfl) (Nat.le_of_ble_eq_true rfl) (Nat.le_of_ble_eq_true rfl) (Nat.le_of_ble_eq_true rfl) (fun _ _ h => False.elim h) (fun v9 w36 h37 => ?_)
        obtain ⟨rfl, v38, rfl, rv38⟩ := h37
        refine rn_stk [.int v38] rfl ?_
        refine rn_aload_n (i := 0) dX10_means_101 rfl rfl ?_
        obtain ⟨o40, hx40, m40⟩ := fs_r hf1 13 rfl
        refine rn_get q1 kg_SGModel_34 hl1 hx40 dX10_means_102 ?_
        refine rn_iload_n (i := 1) dX10_means_105 rfl rfl ?_
        obtain ⟨q41, f41, hq41, hl41, hf41⟩ := ts_ia hW m40 hk_44
        refine rs_iald q41 hl41 hf41 rfl r1_ (by decide) (by decide) dX10_means_106 (fun v42 ev42 rv42 => ?_)
        refine rn_aload_n (i := 0) dX10_means_107 rfl rfl ?_
        obtain ⟨o43, hx43, m43⟩ := fs_r hf1 14 rfl
        refine rn_get q1 kg_SGModel_37 hl1 hx43 dX10_means_108 ?_
        refine rn_iload_n (i := 1) dX10_means_111 rfl rfl ?_
        obtain ⟨q44, f44, hq44, hl44, hf44⟩ := ts_ia hW m43 hk_45
        refine rs_iald q44 hl44 hf44 rfl r1_ (by decide) (by decide) dX10_means_112 (fun v45 ev45 rv45 => ?_)
        refine rn_callS (a := 0) (b := 0) [.int v38, .int v42, .int v45] kl_SGModel_212 dX10_means_113 (t_X10_isIn G S ws hW v38 v42 v45) rfl rfl (Nat.le_of_ble_eq_true rfl) (Nat.le_of_ble_eq_true rfl) (Nat.le_of_ble_eq_true rfl) (Nat.le_of_ble_eq_true rfl) (Nat.le_of_ble_eq_true rfl) (Nat.le_of_ble_eq_true rfl) (fun _ _ h => False.elim h) (fun v9 w46 h47 => ?_)
        obtain ⟨rfl, v48, rfl, rv48⟩ := h47
        refine rn_stk [.int v48] rfl ?_
        refine rn_if_eq (tgt := 123) dX10_means_116 (by decide) (fun h50 => ?_) (fun h50 => ?_)
        · have ch50 := cv_eq h50
          have r51 : Rg (0) (0) v48 := rf_eqx ch50 rv48 rk_0 (by decide) (by decide)
          refine rn_iconst (v := (0 : Int32)) dX10_means_123 (by decide) ?_
          refine rn_istore dX10_means_124 (by decide) [(0, .ref o0_), (1, .int x1_), (2, .int x2_), (3, .int v4), (4, .int (0 : Int32)), (5, .int (1 : Int32)), (6, .int (0 : Int32))] rfl ?_
          refine rn_iload dX10_means_126 rfl ?_
          refine rn_if_eq (tgt := 168) dX10_means_128 (by decide) (fun h52 => (cx_eq (cv_eq h52) rk_1 rk_0 (by decide)).elim) (fun h52 => ?_)
          refine rn_iload dX10_means_131 rfl ?_
          refine rn_if_eq (tgt := 168) dX10_means_133 (by decide) (fun h53 => ?_) (fun h53 => (cx_ne (cv_ne h53) rk_0 rk_0 (by decide)).elim)
          refine rn_iconst (v := (0 : Int32)) dX10_means_168 (by decide) ?_
          exact rn_iret dX10_means_169 rfl rfl (rq_in ⟨rfl, (0 : Int32), rfl, (rg_w rk_0 (by decide) (by decide))⟩)
        · have ch50 := cv_ne h50
          have r54 : Rg (1) (1) v48 := rf_nel ch50 rv48 rk_0 (by decide) (by decide)
          refine rn_iconst (v := (1 : Int32)) dX10_means_119 (by decide) ?_
          refine rn_goto (tgt := 124) dX10_means_120 (by decide) ?_
          refine rn_istore dX10_means_124 (by decide) [(0, .ref o0_), (1, .int x1_), (2, .int x2_), (3, .int v4), (4, .int (0 : Int32)), (5, .int (1 : Int32)), (6, .int (1 : Int32))] rfl ?_
          refine rn_iload dX10_means_126 rfl ?_
          refine rn_if_eq (tgt := 168) dX10_means_128 (by decide) (fun h55 => (cx_eq (cv_eq h55) rk_1 rk_0 (by decide)).elim) (fun h55 => ?_)
          refine rn_iload dX10_means_131 rfl ?_
          refine rn_if_eq (tgt := 168) dX10_means_133 (by decide) (fun h56 => (cx_eq (cv_eq h56) rk_1 rk_0 (by decide)).elim) (fun h56 => ?_)
          refine rn_iload dX10_means_136 rfl ?_
          refine rn_if_ne (tgt := 164) dX10_means_138 (by decide) (fun h57 => (cx_ne (cv_ne h57) rk_0 rk_0 (by decide)).elim) (fun h57 => ?_)
          refine rn_iload_n (i := 3) dX10_means_141 rfl rfl ?_
          refine rn_if_lt (tgt := 168) dX10_means_142 (by decide) (fun h58 => ?_) (fun h58 => ?_)
          · have ch58 := cv_lt h58
            have r59 : Rg (-1) (-1) v4 := rf_ltx ch58 rv4 rk_0 (by decide)
            refine rn_iconst (v := (0 : Int32)) dX10_means_168 (by decide) ?_
            exact rn_iret dX10_means_169 rfl rfl (rq_in ⟨rfl, (0 : Int32), rfl, (rg_w rk_0 (by decide) (by decide))⟩)
          · have ch58 := cv_nlt h58
            have r60 : Rg (0) (65535) v4 := rf_ley ch58 rk_0 rv4 (by decide)
            refine rn_iload_n (i := 3) dX10_means_145 rfl rfl ?_
            refine rn_aload_n (i := 0) dX10_means_146 rfl rfl ?_
            refine rn_get q1 kg_SGModel_43 hl1 hx6 dX10_means_147 ?_
            refine rn_iload_n (i := 1) dX10_means_150 rfl rfl ?_
            refine rs_iald q7 hl7 hf7 rfl r1_ (by decide) (by decide) dX10_means_151 (fun v61 ev61 rv61 => ?_)
            refine rn_aload_n (i := 0) dX10_means_152 rfl rfl ?_
            obtain ⟨o62, hx62, m62⟩ := fs_r hf1 17 rfl
            refine rn_get q1 kg_SGModel_46 hl1 hx62 dX10_means_153 ?_
            refine rn_iload_n (i := 1) dX10_means_156 rfl rfl ?_
            obtain ⟨q63, f63, hq63, hl63, hf63⟩ := ts_ia hW m62 hk_48
            refine rs_iald q63 hl63 hf63 rfl r1_ (by decide) (by decide) dX10_means_157 (fun v64 ev64 rv64 => ?_)
            refine rn_inS (d' := 0) (z' := 0) [.int v4, .int v61, .int v64] kl_SGModel_179 dX10_means_158 rfl rfl (Nat.le_of_ble_eq_true rfl) (Nat.le_of_ble_eq_true rfl) (Nat.le_of_ble_eq_true rfl) (Nat.le_of_ble_eq_true rfl) ?_
            refine rn_lv [(0, .int v4), (1, .int v61), (2, .int v64)] rfl ?_
            refine rn_iload_n (i := 0) dX10_in_0 rfl rfl ?_
            refine rn_iload_n (i := 1) dX10_in_1 rfl rfl ?_
            refine rn_icmp_lt (tgt := 14) dX10_in_2 (by decide) (fun h65 => ?_) (fun h65 => ?_)
            · have ch65 := cv_lt h65
              have r66 : Rg (1) (2147483647) v61 := rf_lty ch65 r60 rv61 (by decide)
              refine rn_iconst (v := (0 : Int32)) dX10_in_14 (by decide) ?_
              refine rn_iret dX10_in_15 rfl rfl (rq_in ?_)
              refine rn_stk [.int (0 : Int32)] rfl ?_
              refine rn_if_eq (tgt := 168) dX10_means_161 (by decide) (fun h67 => ?_) (fun h67 => (cx_ne (cv_ne h67) rk_0 rk_0 (by decide)).elim)
              refine rn_iconst (v := (0 : Int32)) dX10_means_168 (by decide) ?_
              exact rn_iret dX10_means_169 rfl rfl (rq_in ⟨rfl, (0 : Int32), rfl, (rg_w rk_0 (by decide) (by decide))⟩)
            · have ch65 := cv_nlt h65
              have r68 : Rg (-2147483648) (65535) v61 := rf_lex ch65 rv61 r60 (by decide)
              refine rn_iload_n (i := 0) dX10_in_5 rfl rfl ?_
              refine rn_iload_n (i := 2) dX10_in_6 rfl rfl ?_
              refine rn_icmp_gt (tgt := 14) dX10_in_7 (by decide) (fun h69 => ?_) (fun h69 => ?_)
              · have ch69 := cv_lt h69
                have r70 : Rg (-2147483648) (65534) v64 := rf_ltx ch69 rv64 r60 (by decide)
                refine rn_iconst (v := (0 : Int32)) dX10_in_14 (by decide) ?_
                refine rn_iret dX10_in_15 rfl rfl (rq_in ?_)
                refine rn_stk [.int (0 : Int32)] rfl ?_
                refine rn_if_eq (tgt := 168) dX10_means_161 (by decide) (fun h71 => ?_) (fun h71 => (cx_ne (cv_ne h71) rk_0 rk_0 (by decide)).elim)
                refine rn_iconst (v := (0 : Int32)) dX10_means_168 (by decide) ?_
                exact rn_iret dX10_means_169 rfl rfl (rq_in ⟨rfl, (0 : Int32), rfl, (rg_w rk_0 (by decide) (by decide))⟩)
              · have ch69 := cv_nlt h69
                have r72 : Rg (0) (2147483647) v64 := rf_ley ch69 r60 rv64 (by decide)
                refine rn_iconst (v := (1 : Int32)) dX10_in_10 (by decide) ?_
                refine rn_goto (tgt := 15) dX10_in_11 (by decide) ?_
                refine rn_iret dX10_in_15 rfl rfl (rq_in ?_)
                refine rn_stk [.int (1 : Int32)] rfl ?_
                refine rn_if_eq (tgt := 168) dX10_means_161 (by decide) (fun h73 => (cx_eq (cv_eq h73) rk_1 rk_0 (by decide)).elim) (fun h73 => ?_)
                refine rn_iconst (v := (1 : Int32)) dX10_means_164 (by decide) ?_
                refine rn_goto (tgt := 169) dX10_means_165 (by decide) ?_
                exact rn_iret dX10_means_169 rfl rfl (rq_in ⟨rfl, (1 : Int32), rfl, (rg_w rk_1 (by decide) (by decide))⟩)
    · have ch13 := cv_ne h13
      refine rn_aload_n (i := 0) dX10_means_42 rfl rfl ?_
      refine rn_get q1 kg_SGModel_40 hl1 hx10 dX10_means_43 ?_
      refine rn_iload_n (i := 1) dX10_means_46 rfl rfl ?_
      refine rs_iald q11 hl11 hf11 rfl r1_ (by decide) (by decide) dX10_means_47 (fun v74 ev74 rv74 => ?_)
      refine rn_aload_n (i := 0) dX10_means_48 rfl rfl ?_
      obtain ⟨o75, hx75, m75⟩ := fs_r hf1 2 rfl
      refine rn_get q1 kg_SGModel_7 hl1 hx75 dX10_means_49 ?_
      refine rn_iload_n (i := 2) dX10_means_52 rfl rfl ?_
      refine rn_bipush (v := (9 : Int32)) dX10_means_53 (by decide) ?_
      refine rs_addC (9) (21979) r2_ rk_9 dX10_means_55 (by decide) (fun v76 ev76 rv76 => ?_)
      obtain ⟨q77, f77, hq77, hl77, hf77⟩ := ts_ia hW m75 hk_33
      refine rs_iald q77 hl77 hf77 rfl rv76 (by decide) (by decide) dX10_means_56 (fun v78 ev78 rv78 => ?_)
      refine rn_icmp_ne (tgt := 64) dX10_means_57 (by decide) (fun h79 => ?_) (fun h79 => ?_)
      · have ch79 := cv_ne h79
        refine rn_iconst (v := (0 : Int32)) dX10_means_64 (by decide) ?_
        refine rn_istore dX10_means_65 (by decide) [(0, .ref o0_), (1, .int x1_), (2, .int x2_), (3, .int v4), (4, .int (0 : Int32)), (5, .int (0 : Int32))] rfl ?_
        refine rn_aload_n (i := 0) dX10_means_67 rfl rfl ?_
        refine rn_iload_n (i := 2) dX10_means_68 rfl rfl ?_
        refine rn_bipush (v := (12 : Int32)) dX10_means_69 (by decide) ?_
        refine rs_addC (12) (21982) r2_ rk_12 dX10_means_71 (by decide) (fun v80 ev80 rv80 => ?_)
        refine rn_callV (a := 0) (b := 0) [.int v80] kl_SGModel_218 dX10_means_72 q1 hl1 rfl (t_X10_four G S ws hW o0_ m0_ v80 (rg_w rv80 (by decide) (by decide))) rfl rfl (Nat.le_of_ble_eq_true rfl) (Nat.le_of_ble_eq_true rfl) (Nat.le_of_ble_eq_true rfl) (Nat.le_of_ble_eq_true rfl) (Nat.le_of_ble_eq_true rfl) (Nat.le_of_ble_eq_true rfl) (fun _ _ h => False.elim h) (fun v9 w81 h82 => ?_)
        obtain ⟨rfl, v83, rfl, rv83⟩ := h82
        refine rn_stk [.int v83] rfl ?_
        refine rn_aload_n (i := 0) dX10_means_75 rfl rfl ?_
        obtain ⟨o85, hx85, m85⟩ := fs_r hf1 11 rfl
        refine rn_get q1 kg_SGModel_28 hl1 hx85 dX10_means_76 ?_
        refine rn_iload_n (i := 1) dX10_means_79 rfl rfl ?_
        obtain ⟨q86, f86, hq86, hl86, hf86⟩ := ts_ia hW m85 hk_42
        refine rs_iald q86 hl86 hf86 rfl r1_ (by decide) (by decide) dX10_means_80 (fun v87 ev87 rv87 => ?_)
        refine rn_aload_n (i := 0) dX10_means_81 rfl rfl ?_
        obtain ⟨o88, hx88, m88⟩ := fs_r hf1 12 rfl
        refine rn_get q1 kg_SGModel_31 hl1 hx88 dX10_means_82 ?_
        refine rn_iload_n (i := 1) dX10_means_85 rfl rfl ?_
        obtain ⟨q89, f89, hq89, hl89, hf89⟩ := ts_ia hW m88 hk_43
        refine rs_iald q89 hl89 hf89 rfl r1_ (by decide) (by decide) dX10_means_86 (fun v90 ev90 rv90 => ?_)
        refine rn_callS (a := 0) (b := 0) [.int v83, .int v87, .int v90] kl_SGModel_212 dX10_means_87 (t_X10_isIn G S ws hW v83 v87 v90) rfl rfl (Nat.le_of_ble_eq_true rfl) (Nat.le_of_ble_eq_true rfl) (Nat.le_of_ble_eq_true rfl) (Nat.le_of_ble_eq_true rfl) (Nat.le_of_ble_eq_true rfl) (Nat.le_of_ble_eq_true rfl) (fun _ _ h => False.elim h) (fun v9 w91 h92 => ?_)
        obtain ⟨rfl, v93, rfl, rv93⟩ := h92
        refine rn_stk [.int v93] rfl ?_
        refine rn_if_eq (tgt := 123) dX10_means_90 (by decide) (fun h95 => ?_) (fun h95 => ?_)
        · have ch95 := cv_eq h95
          have r96 : Rg (0) (0) v93 := rf_eqx ch95 rv93 rk_0 (by decide) (by decide)
          refine rn_iconst (v := (0 : Int32)) dX10_means_123 (by decide) ?_
          refine rn_istore dX10_means_124 (by decide) [(0, .ref o0_), (1, .int x1_), (2, .int x2_), (3, .int v4), (4, .int (0 : Int32)), (5, .int (0 : Int32)), (6, .int (0 : Int32))] rfl ?_
          refine rn_iload dX10_means_126 rfl ?_
          refine rn_if_eq (tgt := 168) dX10_means_128 (by decide) (fun h97 => ?_) (fun h97 => (cx_ne (cv_ne h97) rk_0 rk_0 (by decide)).elim)
          refine rn_iconst (v := (0 : Int32)) dX10_means_168 (by decide) ?_
          exact rn_iret dX10_means_169 rfl rfl (rq_in ⟨rfl, (0 : Int32), rfl, (rg_w rk_0 (by decide) (by decide))⟩)
        · have ch95 := cv_ne h95
          have r98 : Rg (1) (1) v93 := rf_nel ch95 rv93 rk_0 (by decide) (by decide)
          refine rn_aload_n (i := 0) dX10_means_93 rfl rfl ?_
          refine rn_iload_n (i := 2) dX10_means_94 rfl rfl ?_
          refine rn_bipush (v := (16 : Int32)) dX10_means_95 (by decide) ?_
          refine rs_addC (16) (21986) r2_ rk_16 dX10_means_97 (by decide) (fun v99 ev99 rv99 => ?_)
          refine rn_callV (a := 0) (b := 0) [.int v99] kl_SGModel_218 dX10_means_98 q1 hl1 rfl (t_X10_four G S ws hW o0_ m0_ v99 (rg_w rv99 (by decide) (by decide))) rfl rfl (Nat.le_of_ble_eq_true rfl) (Nat.le_of_ble_eq_true rfl) (Nat.le_of_ble_eq_true rfl) (Nat.le_of_ble_eq_true rfl) (Nat.le_of_ble_eq_true rfl) (Nat.le_of_ble_eq_true rfl) (fun _ _ h => False.elim h) (fun v9 w100 h101 => ?_)
          obtain ⟨rfl, v102, rfl, rv102⟩ := h101
          refine rn_stk [.int v102] rfl ?_
          refine rn_aload_n (i := 0) dX10_means_101 rfl rfl ?_
          obtain ⟨o104, hx104, m104⟩ := fs_r hf1 13 rfl
          refine rn_get q1 kg_SGModel_34 hl1 hx104 dX10_means_102 ?_
          refine rn_iload_n (i := 1) dX10_means_105 rfl rfl ?_
          obtain ⟨q105, f105, hq105, hl105, hf105⟩ := ts_ia hW m104 hk_44
          refine rs_iald q105 hl105 hf105 rfl r1_ (by decide) (by decide) dX10_means_106 (fun v106 ev106 rv106 => ?_)
          refine rn_aload_n (i := 0) dX10_means_107 rfl rfl ?_
          obtain ⟨o107, hx107, m107⟩ := fs_r hf1 14 rfl
          refine rn_get q1 kg_SGModel_37 hl1 hx107 dX10_means_108 ?_
          refine rn_iload_n (i := 1) dX10_means_111 rfl rfl ?_
          obtain ⟨q108, f108, hq108, hl108, hf108⟩ := ts_ia hW m107 hk_45
          refine rs_iald q108 hl108 hf108 rfl r1_ (by decide) (by decide) dX10_means_112 (fun v109 ev109 rv109 => ?_)
          refine rn_callS (a := 0) (b := 0) [.int v102, .int v106, .int v109] kl_SGModel_212 dX10_means_113 (t_X10_isIn G S ws hW v102 v106 v109) rfl rfl (Nat.le_of_ble_eq_true rfl) (Nat.le_of_ble_eq_true rfl) (Nat.le_of_ble_eq_true rfl) (Nat.le_of_ble_eq_true rfl) (Nat.le_of_ble_eq_true rfl) (Nat.le_of_ble_eq_true rfl) (fun _ _ h => False.elim h) (fun v9 w110 h111 => ?_)
          obtain ⟨rfl, v112, rfl, rv112⟩ := h111
          refine rn_stk [.int v112] rfl ?_
          refine rn_if_eq (tgt := 123) dX10_means_116 (by decide) (fun h114 => ?_) (fun h114 => ?_)
          · have ch114 := cv_eq h114
            have r115 : Rg (0) (0) v112 := rf_eqx ch114 rv112 rk_0 (by decide) (by decide)
            refine rn_iconst (v := (0 : Int32)) dX10_means_123 (by decide) ?_
            refine rn_istore dX10_means_124 (by decide) [(0, .ref o0_), (1, .int x1_), (2, .int x2_), (3, .int v4), (4, .int (0 : Int32)), (5, .int (0 : Int32)), (6, .int (0 : Int32))] rfl ?_
            refine rn_iload dX10_means_126 rfl ?_
            refine rn_if_eq (tgt := 168) dX10_means_128 (by decide) (fun h116 => ?_) (fun h116 => (cx_ne (cv_ne h116) rk_0 rk_0 (by decide)).elim)
            refine rn_iconst (v := (0 : Int32)) dX10_means_168 (by decide) ?_
            exact rn_iret dX10_means_169 rfl rfl (rq_in ⟨rfl, (0 : Int32), rfl, (rg_w rk_0 (by decide) (by decide))⟩)
          · have ch114 := cv_ne h114
            have r117 : Rg (1) (1) v112 := rf_nel ch114 rv112 rk_0 (by decide) (by decide)
            refine rn_iconst (v := (1 : Int32)) dX10_means_119 (by decide) ?_
            refine rn_goto (tgt := 124) dX10_means_120 (by decide) ?_
            refine rn_istore dX10_means_124 (by decide) [(0, .ref o0_), (1, .int x1_), (2, .int x2_), (3, .int v4), (4, .int (0 : Int32)), (5, .int (0 : Int32)), (6, .int (1 : Int32))] rfl ?_
            refine rn_iload dX10_means_126 rfl ?_
            refine rn_if_eq (tgt := 168) dX10_means_128 (by decide) (fun h118 => ?_) (fun h118 => (cx_ne (cv_ne h118) rk_0 rk_0 (by decide)).elim)
            refine rn_iconst (v := (0 : Int32)) dX10_means_168 (by decide) ?_
            exact rn_iret dX10_means_169 rfl rfl (rq_in ⟨rfl, (0 : Int32), rfl, (rg_w rk_0 (by decide) (by decide))⟩)
      · have ch79 := cv_eq h79
        have r119 : Rg (0) (255) v74 := rf_eqx ch79 rv74 rv78 (by decide) (by decide)
        refine rn_iconst (v := (1 : Int32)) dX10_means_60 (by decide) ?_
        refine rn_goto (tgt := 65) dX10_means_61 (by decide) ?_
        refine rn_istore dX10_means_65 (by decide) [(0, .ref o0_), (1, .int x1_), (2, .int x2_), (3, .int v4), (4, .int (0 : Int32)), (5, .int (1 : Int32))] rfl ?_
        refine rn_aload_n (i := 0) dX10_means_67 rfl rfl ?_
        refine rn_iload_n (i := 2) dX10_means_68 rfl rfl ?_
        refine rn_bipush (v := (12 : Int32)) dX10_means_69 (by decide) ?_
        refine rs_addC (12) (21982) r2_ rk_12 dX10_means_71 (by decide) (fun v120 ev120 rv120 => ?_)
        refine rn_callV (a := 0) (b := 0) [.int v120] kl_SGModel_218 dX10_means_72 q1 hl1 rfl (t_X10_four G S ws hW o0_ m0_ v120 (rg_w rv120 (by decide) (by decide))) rfl rfl (Nat.le_of_ble_eq_true rfl) (Nat.le_of_ble_eq_true rfl) (Nat.le_of_ble_eq_true rfl) (Nat.le_of_ble_eq_true rfl) (Nat.le_of_ble_eq_true rfl) (Nat.le_of_ble_eq_true rfl) (fun _ _ h => False.elim h) (fun v9 w121 h122 => ?_)
        obtain ⟨rfl, v123, rfl, rv123⟩ := h122
        refine rn_stk [.int v123] rfl ?_
        refine rn_aload_n (i := 0) dX10_means_75 rfl rfl ?_
        obtain ⟨o125, hx125, m125⟩ := fs_r hf1 11 rfl
        refine rn_get q1 kg_SGModel_28 hl1 hx125 dX10_means_76 ?_
        refine rn_iload_n (i := 1) dX10_means_79 rfl rfl ?_
        obtain ⟨q126, f126, hq126, hl126, hf126⟩ := ts_ia hW m125 hk_42
        refine rs_iald q126 hl126 hf126 rfl r1_ (by decide) (by decide) dX10_means_80 (fun v127 ev127 rv127 => ?_)
        refine rn_aload_n (i := 0) dX10_means_81 rfl rfl ?_
        obtain ⟨o128, hx128, m128⟩ := fs_r hf1 12 rfl
        refine rn_get q1 kg_SGModel_31 hl1 hx128 dX10_means_82 ?_
        refine rn_iload_n (i := 1) dX10_means_85 rfl rfl ?_
        obtain ⟨q129, f129, hq129, hl129, hf129⟩ := ts_ia hW m128 hk_43
        refine rs_iald q129 hl129 hf129 rfl r1_ (by decide) (by decide) dX10_means_86 (fun v130 ev130 rv130 => ?_)
        refine rn_callS (a := 0) (b := 0) [.int v123, .int v127, .int v130] kl_SGModel_212 dX10_means_87 (t_X10_isIn G S ws hW v123 v127 v130) rfl rfl (Nat.le_of_ble_eq_true rfl) (Nat.le_of_ble_eq_true rfl) (Nat.le_of_ble_eq_true rfl) (Nat.le_of_ble_eq_true rfl) (Nat.le_of_ble_eq_true rfl) (Nat.le_of_ble_eq_true rfl) (fun _ _ h => False.elim h) (fun v9 w131 h132 => ?_)
        obtain ⟨rfl, v133, rfl, rv133⟩ := h132
        refine rn_stk [.int v133] rfl ?_
        refine rn_if_eq (tgt := 123) dX10_means_90 (by decide) (fun h135 => ?_) (fun h135 => ?_)
        · have ch135 := cv_eq h135
          have r136 : Rg (0) (0) v133 := rf_eqx ch135 rv133 rk_0 (by decide) (by decide)
          refine rn_iconst (v := (0 : Int32)) dX10_means_123 (by decide) ?_
          refine rn_istore dX10_means_124 (by decide) [(0, .ref o0_), (1, .int x1_), (2, .int x2_), (3, .int v4), (4, .int (0 : Int32)), (5, .int (1 : Int32)), (6, .int (0 : Int32))] rfl ?_
          refine rn_iload dX10_means_126 rfl ?_
          refine rn_if_eq (tgt := 168) dX10_means_128 (by decide) (fun h137 => (cx_eq (cv_eq h137) rk_1 rk_0 (by decide)).elim) (fun h137 => ?_)
          refine rn_iload dX10_means_131 rfl ?_
          refine rn_if_eq (tgt := 168) dX10_means_133 (by decide) (fun h138 => ?_) (fun h138 => (cx_ne (cv_ne h138) rk_0 rk_0 (by decide)).elim)
          refine rn_iconst (v := (0 : Int32)) dX10_means_168 (by decide) ?_
          exact rn_iret dX10_means_169 rfl rfl (rq_in ⟨rfl, (0 : Int32), rfl, (rg_w rk_0 (by decide) (by decide))⟩)
        · have ch135 := cv_ne h135
          have r139 : Rg (1) (1) v133 := rf_nel ch135 rv133 rk_0 (by decide) (by decide)
          refine rn_aload_n (i := 0) dX10_means_93 rfl rfl ?_
          refine rn_iload_n (i := 2) dX10_means_94 rfl rfl ?_
          refine rn_bipush (v := (16 : Int32)) dX10_means_95 (by decide) ?_
          refine rs_addC (16) (21986) r2_ rk_16 dX10_means_97 (by decide) (fun v140 ev140 rv140 => ?_)
          refine rn_callV (a := 0) (b := 0) [.int v140] kl_SGModel_218 dX10_means_98 q1 hl1 rfl (t_X10_four G S ws hW o0_ m0_ v140 (rg_w rv140 (by decide) (by decide))) rfl rfl (Nat.le_of_ble_eq_true rfl) (Nat.le_of_ble_eq_true rfl) (Nat.le_of_ble_eq_true rfl) (Nat.le_of_ble_eq_true rfl) (Nat.le_of_ble_eq_true rfl) (Nat.le_of_ble_eq_true rfl) (fun _ _ h => False.elim h) (fun v9 w141 h142 => ?_)
          obtain ⟨rfl, v143, rfl, rv143⟩ := h142
          refine rn_stk [.int v143] rfl ?_
          refine rn_aload_n (i := 0) dX10_means_101 rfl rfl ?_
          obtain ⟨o145, hx145, m145⟩ := fs_r hf1 13 rfl
          refine rn_get q1 kg_SGModel_34 hl1 hx145 dX10_means_102 ?_
          refine rn_iload_n (i := 1) dX10_means_105 rfl rfl ?_
          obtain ⟨q146, f146, hq146, hl146, hf146⟩ := ts_ia hW m145 hk_44
          refine rs_iald q146 hl146 hf146 rfl r1_ (by decide) (by decide) dX10_means_106 (fun v147 ev147 rv147 => ?_)
          refine rn_aload_n (i := 0) dX10_means_107 rfl rfl ?_
          obtain ⟨o148, hx148, m148⟩ := fs_r hf1 14 rfl
          refine rn_get q1 kg_SGModel_37 hl1 hx148 dX10_means_108 ?_
          refine rn_iload_n (i := 1) dX10_means_111 rfl rfl ?_
          obtain ⟨q149, f149, hq149, hl149, hf149⟩ := ts_ia hW m148 hk_45
          refine rs_iald q149 hl149 hf149 rfl r1_ (by decide) (by decide) dX10_means_112 (fun v150 ev150 rv150 => ?_)
          refine rn_callS (a := 0) (b := 0) [.int v143, .int v147, .int v150] kl_SGModel_212 dX10_means_113 (t_X10_isIn G S ws hW v143 v147 v150) rfl rfl (Nat.le_of_ble_eq_true rfl) (Nat.le_of_ble_eq_true rfl) (Nat.le_of_ble_eq_true rfl) (Nat.le_of_ble_eq_true rfl) (Nat.le_of_ble_eq_true rfl) (Nat.le_of_ble_eq_true rfl) (fun _ _ h => False.elim h) (fun v9 w151 h152 => ?_)
          obtain ⟨rfl, v153, rfl, rv153⟩ := h152
          refine rn_stk [.int v153] rfl ?_
          refine rn_if_eq (tgt := 123) dX10_means_116 (by decide) (fun h155 => ?_) (fun h155 => ?_)
          · have ch155 := cv_eq h155
            have r156 : Rg (0) (0) v153 := rf_eqx ch155 rv153 rk_0 (by decide) (by decide)
            refine rn_iconst (v := (0 : Int32)) dX10_means_123 (by decide) ?_
            refine rn_istore dX10_means_124 (by decide) [(0, .ref o0_), (1, .int x1_), (2, .int x2_), (3, .int v4), (4, .int (0 : Int32)), (5, .int (1 : Int32)), (6, .int (0 : Int32))] rfl ?_
            refine rn_iload dX10_means_126 rfl ?_
            refine rn_if_eq (tgt := 168) dX10_means_128 (by decide) (fun h157 => (cx_eq (cv_eq h157) rk_1 rk_0 (by decide)).elim) (fun h157 => ?_)
            refine rn_iload dX10_means_131 rfl ?_
            refine rn_if_eq (tgt := 168) dX10_means_133 (by decide) (fun h158 => ?_) (fun h158 => (cx_ne (cv_ne h158) rk_0 rk_0 (by decide)).elim)
            refine rn_iconst (v := (0 : Int32)) dX10_means_168 (by decide) ?_
            exact rn_iret dX10_means_169 rfl rfl (rq_in ⟨rfl, (0 : Int32), rfl, (rg_w rk_0 (by decide) (by decide))⟩)
          · have ch155 := cv_ne h155
            have r159 : Rg (1) (1) v153 := rf_nel ch155 rv153 rk_0 (by decide) (by decide)
            refine rn_iconst (v := (1 : Int32)) dX10_means_119 (by decide) ?_
            refine rn_goto (tgt := 124) dX10_means_120 (by decide) ?_
            refine rn_istore dX10_means_124 (by decide) [(0, .ref o0_), (1, .int x1_), (2, .int x2_), (3, .int v4), (4, .int (0 : Int32)), (5, .int (1 : Int32)), (6, .int (1 : Int32))] rfl ?_
            refine rn_iload dX10_means_126 rfl ?_
            refine rn_if_eq (tgt := 168) dX10_means_128 (by decide) (fun h160 => (cx_eq (cv_eq h160) rk_1 rk_0 (by decide)).elim) (fun h160 => ?_)
            refine rn_iload dX10_means_131 rfl ?_
            refine rn_if_eq (tgt := 168) dX10_means_133 (by decide) (fun h161 => (cx_eq (cv_eq h161) rk_1 rk_0 (by decide)).elim) (fun h161 => ?_)
            refine rn_iload dX10_means_136 rfl ?_
            refine rn_if_ne (tgt := 164) dX10_means_138 (by decide) (fun h162 => (cx_ne (cv_ne h162) rk_0 rk_0 (by decide)).elim) (fun h162 => ?_)
            refine rn_iload_n (i := 3) dX10_means_141 rfl rfl ?_
            refine rn_if_lt (tgt := 168) dX10_means_142 (by decide) (fun h163 => ?_) (fun h163 => ?_)
            · have ch163 := cv_lt h163
              have r164 : Rg (-1) (-1) v4 := rf_ltx ch163 rv4 rk_0 (by decide)
              refine rn_iconst (v := (0 : Int32)) dX10_means_168 (by decide) ?_
              exact rn_iret dX10_means_169 rfl rfl (rq_in ⟨rfl, (0 : Int32), rfl, (rg_w rk_0 (by decide) (by decide))⟩)
            · have ch163 := cv_nlt h163
              have r165 : Rg (0) (65535) v4 := rf_ley ch163 rk_0 rv4 (by decide)
              refine rn_iload_n (i := 3) dX10_means_145 rfl rfl ?_
              refine rn_aload_n (i := 0) dX10_means_146 rfl rfl ?_
              refine rn_get q1 kg_SGModel_43 hl1 hx6 dX10_means_147 ?_
              refine rn_iload_n (i := 1) dX10_means_150 rfl rfl ?_
              refine rs_iald q7 hl7 hf7 rfl r1_ (by decide) (by decide) dX10_means_151 (fun v166 ev166 rv166 => ?_)
              refine rn_aload_n (i := 0) dX10_means_152 rfl rfl ?_
              obtain ⟨o167, hx167, m167⟩ := fs_r hf1 17 rfl
              refine rn_get q1 kg_SGModel_46 hl1 hx167 dX10_means_153 ?_
              refine rn_iload_n (i := 1) dX10_means_156 rfl rfl ?_
              obtain ⟨q168, f168, hq168, hl168, hf168⟩ := ts_ia hW m167 hk_48
              refine rs_iald q168 hl168 hf168 rfl r1_ (by decide) (by decide) dX10_means_157 (fun v169 ev169 rv169 => ?_)
              refine rn_inS (d' := 0) (z' := 0) [.int v4, .int v166, .int v169] kl_SGModel_179 dX10_means_158 rfl rfl (Nat.le_of_ble_eq_true rfl) (Nat.le_of_ble_eq_true rfl) (Nat.le_of_ble_eq_true rfl) (Nat.le_of_ble_eq_true rfl) ?_
              refine rn_lv [(0, .int v4), (1, .int v166), (2, .int v169)] rfl ?_
              refine rn_iload_n (i := 0) dX10_in_0 rfl rfl ?_
              refine rn_iload_n (i := 1) dX10_in_1 rfl rfl ?_
              refine rn_icmp_lt (tgt := 14) dX10_in_2 (by decide) (fun h170 => ?_) (fun h170 => ?_)
              · have ch170 := cv_lt h170
                have r171 : Rg (1) (2147483647) v166 := rf_lty ch170 r165 rv166 (by decide)
                refine rn_iconst (v := (0 : Int32)) dX10_in_14 (by decide) ?_
                refine rn_iret dX10_in_15 rfl rfl (rq_in ?_)
                refine rn_stk [.int (0 : Int32)] rfl ?_
                refine rn_if_eq (tgt := 168) dX10_means_161 (by decide) (fun h172 => ?_) (fun h172 => (cx_ne (cv_ne h172) rk_0 rk_0 (by decide)).elim)
                refine rn_iconst (v := (0 : Int32)) dX10_means_168 (by decide) ?_
                exact rn_iret dX10_means_169 rfl rfl (rq_in ⟨rfl, (0 : Int32), rfl, (rg_w rk_0 (by decide) (by decide))⟩)
              · have ch170 := cv_nlt h170
                have r173 : Rg (-2147483648) (65535) v166 := rf_lex ch170 rv166 r165 (by decide)
                refine rn_iload_n (i := 0) dX10_in_5 rfl rfl ?_
                refine rn_iload_n (i := 2) dX10_in_6 rfl rfl ?_
                refine rn_icmp_gt (tgt := 14) dX10_in_7 (by decide) (fun h174 => ?_) (fun h174 => ?_)
                · have ch174 := cv_lt h174
                  have r175 : Rg (-2147483648) (65534) v169 := rf_ltx ch174 rv169 r165 (by decide)
                  refine rn_iconst (v := (0 : Int32)) dX10_in_14 (by decide) ?_
                  refine rn_iret dX10_in_15 rfl rfl (rq_in ?_)
                  refine rn_stk [.int (0 : Int32)] rfl ?_
                  refine rn_if_eq (tgt := 168) dX10_means_161 (by decide) (fun h176 => ?_) (fun h176 => (cx_ne (cv_ne h176) rk_0 rk_0 (by decide)).elim)
                  refine rn_iconst (v := (0 : Int32)) dX10_means_168 (by decide) ?_
                  exact rn_iret dX10_means_169 rfl rfl (rq_in ⟨rfl, (0 : Int32), rfl, (rg_w rk_0 (by decide) (by decide))⟩)
                · have ch174 := cv_nlt h174
                  have r177 : Rg (0) (2147483647) v169 := rf_ley ch174 r165 rv169 (by decide)
                  refine rn_iconst (v := (1 : Int32)) dX10_in_10 (by decide) ?_
                  refine rn_goto (tgt := 15) dX10_in_11 (by decide) ?_
                  refine rn_iret dX10_in_15 rfl rfl (rq_in ?_)
                  refine rn_stk [.int (1 : Int32)] rfl ?_
                  refine rn_if_eq (tgt := 168) dX10_means_161 (by decide) (fun h178 => (cx_eq (cv_eq h178) rk_1 rk_0 (by decide)).elim) (fun h178 => ?_)
                  refine rn_iconst (v := (1 : Int32)) dX10_means_164 (by decide) ?_
                  refine rn_goto (tgt := 169) dX10_means_165 (by decide) ?_
                  exact rn_iret dX10_means_169 rfl rfl (rq_in ⟨rfl, (1 : Int32), rfl, (rg_w rk_1 (by decide) (by decide))⟩)
  · have ch9 := cv_eq h9
    have r179 : Rg (0) (0) v8 := rf_eqx ch9 rv8 rk_0 (by decide) (by decide)
    refine rn_aload_n (i := 0) dX10_means_15 rfl rfl ?_
    obtain ⟨o180, hx180, m180⟩ := fs_r hf1 17 rfl
    refine rn_get q1 kg_SGModel_46 hl1 hx180 dX10_means_16 ?_
    refine rn_iload_n (i := 1) dX10_means_19 rfl rfl ?_
    obtain ⟨q181, f181, hq181, hl181, hf181⟩ := ts_ia hW m180 hk_48
    refine rs_iald q181 hl181 hf181 rfl r1_ (by decide) (by decide) dX10_means_20 (fun v182 ev182 rv182 => ?_)
    refine rn_ldc (v := (65535 : Int32)) wd_1093 dX10_means_21 ?_
    refine rn_icmp_ne (tgt := 30) dX10_means_23 (by decide) (fun h183 => ?_) (fun h183 => ?_)
    · have ch183 := cv_ne h183
      refine rn_iconst (v := (0 : Int32)) dX10_means_30 (by decide) ?_
      refine rn_istore dX10_means_31 (by decide) [(0, .ref o0_), (1, .int x1_), (2, .int x2_), (3, .int v4), (4, .int (0 : Int32))] rfl ?_
      refine rn_aload_n (i := 0) dX10_means_33 rfl rfl ?_
      obtain ⟨o184, hx184, m184⟩ := fs_r hf1 15 rfl
      refine rn_get q1 kg_SGModel_40 hl1 hx184 dX10_means_34 ?_
      refine rn_iload_n (i := 1) dX10_means_37 rfl rfl ?_
      obtain ⟨q185, f185, hq185, hl185, hf185⟩ := ts_ia hW m184 hk_46
      refine rs_iald q185 hl185 hf185 rfl r1_ (by decide) (by decide) dX10_means_38 (fun v186 ev186 rv186 => ?_)
      refine rn_if_eq (tgt := 60) dX10_means_39 (by decide) (fun h187 => ?_) (fun h187 => ?_)
      · have ch187 := cv_eq h187
        have r188 : Rg (0) (0) v186 := rf_eqx ch187 rv186 rk_0 (by decide) (by decide)
        refine rn_iconst (v := (1 : Int32)) dX10_means_60 (by decide) ?_
        refine rn_goto (tgt := 65) dX10_means_61 (by decide) ?_
        refine rn_istore dX10_means_65 (by decide) [(0, .ref o0_), (1, .int x1_), (2, .int x2_), (3, .int v4), (4, .int (0 : Int32)), (5, .int (1 : Int32))] rfl ?_
        refine rn_aload_n (i := 0) dX10_means_67 rfl rfl ?_
        refine rn_iload_n (i := 2) dX10_means_68 rfl rfl ?_
        refine rn_bipush (v := (12 : Int32)) dX10_means_69 (by decide) ?_
        refine rs_addC (12) (21982) r2_ rk_12 dX10_means_71 (by decide) (fun v189 ev189 rv189 => ?_)
        refine rn_callV (a := 0) (b := 0) [.int v189] kl_SGModel_218 dX10_means_72 q1 hl1 rfl (t_X10_four G S ws hW o0_ m0_ v189 (rg_w rv189 (by decide) (by decide))) rfl rfl (Nat.le_of_ble_eq_true rfl) (Nat.le_of_ble_eq_true rfl) (Nat.le_of_ble_eq_true rfl) (Nat.le_of_ble_eq_true rfl) (Nat.le_of_ble_eq_true rfl) (Nat.le_of_ble_eq_true rfl) (fun _ _ h => False.elim h) (fun v9 w190 h191 => ?_)
        obtain ⟨rfl, v192, rfl, rv192⟩ := h191
        refine rn_stk [.int v192] rfl ?_
        refine rn_aload_n (i := 0) dX10_means_75 rfl rfl ?_
        obtain ⟨o194, hx194, m194⟩ := fs_r hf1 11 rfl
        refine rn_get q1 kg_SGModel_28 hl1 hx194 dX10_means_76 ?_
        refine rn_iload_n (i := 1) dX10_means_79 rfl rfl ?_
        obtain ⟨q195, f195, hq195, hl195, hf195⟩ := ts_ia hW m194 hk_42
        refine rs_iald q195 hl195 hf195 rfl r1_ (by decide) (by decide) dX10_means_80 (fun v196 ev196 rv196 => ?_)
        refine rn_aload_n (i := 0) dX10_means_81 rfl rfl ?_
        obtain ⟨o197, hx197, m197⟩ := fs_r hf1 12 rfl
        refine rn_get q1 kg_SGModel_31 hl1 hx197 dX10_means_82 ?_
        refine rn_iload_n (i := 1) dX10_means_85 rfl rfl ?_
        obtain ⟨q198, f198, hq198, hl198, hf198⟩ := ts_ia hW m197 hk_43
        refine rs_iald q198 hl198 hf198 rfl r1_ (by decide) (by decide) dX10_means_86 (fun v199 ev199 rv199 => ?_)
        refine rn_callS (a := 0) (b := 0) [.int v192, .int v196, .int v199] kl_SGModel_212 dX10_means_87 (t_X10_isIn G S ws hW v192 v196 v199) rfl rfl (Nat.le_of_ble_eq_true rfl) (Nat.le_of_ble_eq_true rfl) (Nat.le_of_ble_eq_true rfl) (Nat.le_of_ble_eq_true rfl) (Nat.le_of_ble_eq_true rfl) (Nat.le_of_ble_eq_true rfl) (fun _ _ h => False.elim h) (fun v9 w200 h201 => ?_)
        obtain ⟨rfl, v202, rfl, rv202⟩ := h201
        refine rn_stk [.int v202] rfl ?_
        refine rn_if_eq (tgt := 123) dX10_means_90 (by decide) (fun h204 => ?_) (fun h204 => ?_)
        · have ch204 := cv_eq h204
          have r205 : Rg (0) (0) v202 := rf_eqx ch204 rv202 rk_0 (by decide) (by decide)
          refine rn_iconst (v := (0 : Int32)) dX10_means_123 (by decide) ?_
          refine rn_istore dX10_means_124 (by decide) [(0, .ref o0_), (1, .int x1_), (2, .int x2_), (3, .int v4), (4, .int (0 : Int32)), (5, .int (1 : Int32)), (6, .int (0 : Int32))] rfl ?_
          refine rn_iload dX10_means_126 rfl ?_
          refine rn_if_eq (tgt := 168) dX10_means_128 (by decide) (fun h206 => (cx_eq (cv_eq h206) rk_1 rk_0 (by decide)).elim) (fun h206 => ?_)
          refine rn_iload dX10_means_131 rfl ?_
          refine rn_if_eq (tgt := 168) dX10_means_133 (by decide) (fun h207 => ?_) (fun h207 => (cx_ne (cv_ne h207) rk_0 rk_0 (by decide)).elim)
          refine rn_iconst (v := (0 : Int32)) dX10_means_168 (by decide) ?_
          exact rn_iret dX10_means_169 rfl rfl (rq_in ⟨rfl, (0 : Int32), rfl, (rg_w rk_0 (by decide) (by decide))⟩)
        · have ch204 := cv_ne h204
          have r208 : Rg (1) (1) v202 := rf_nel ch204 rv202 rk_0 (by decide) (by decide)
          refine rn_aload_n (i := 0) dX10_means_93 rfl rfl ?_
          refine rn_iload_n (i := 2) dX10_means_94 rfl rfl ?_
          refine rn_bipush (v := (16 : Int32)) dX10_means_95 (by decide) ?_
          refine rs_addC (16) (21986) r2_ rk_16 dX10_means_97 (by decide) (fun v209 ev209 rv209 => ?_)
          refine rn_callV (a := 0) (b := 0) [.int v209] kl_SGModel_218 dX10_means_98 q1 hl1 rfl (t_X10_four G S ws hW o0_ m0_ v209 (rg_w rv209 (by decide) (by decide))) rfl rfl (Nat.le_of_ble_eq_true rfl) (Nat.le_of_ble_eq_true rfl) (Nat.le_of_ble_eq_true rfl) (Nat.le_of_ble_eq_true rfl) (Nat.le_of_ble_eq_true rfl) (Nat.le_of_ble_eq_true rfl) (fun _ _ h => False.elim h) (fun v9 w210 h211 => ?_)
          obtain ⟨rfl, v212, rfl, rv212⟩ := h211
          refine rn_stk [.int v212] rfl ?_
          refine rn_aload_n (i := 0) dX10_means_101 rfl rfl ?_
          obtain ⟨o214, hx214, m214⟩ := fs_r hf1 13 rfl
          refine rn_get q1 kg_SGModel_34 hl1 hx214 dX10_means_102 ?_
          refine rn_iload_n (i := 1) dX10_means_105 rfl rfl ?_
          obtain ⟨q215, f215, hq215, hl215, hf215⟩ := ts_ia hW m214 hk_44
          refine rs_iald q215 hl215 hf215 rfl r1_ (by decide) (by decide) dX10_means_106 (fun v216 ev216 rv216 => ?_)
          refine rn_aload_n (i := 0) dX10_means_107 rfl rfl ?_
          obtain ⟨o217, hx217, m217⟩ := fs_r hf1 14 rfl
          refine rn_get q1 kg_SGModel_37 hl1 hx217 dX10_means_108 ?_
          refine rn_iload_n (i := 1) dX10_means_111 rfl rfl ?_
          obtain ⟨q218, f218, hq218, hl218, hf218⟩ := ts_ia hW m217 hk_45
          refine rs_iald q218 hl218 hf218 rfl r1_ (by decide) (by decide) dX10_means_112 (fun v219 ev219 rv219 => ?_)
          refine rn_callS (a := 0) (b := 0) [.int v212, .int v216, .int v219] kl_SGModel_212 dX10_means_113 (t_X10_isIn G S ws hW v212 v216 v219) rfl rfl (Nat.le_of_ble_eq_true rfl) (Nat.le_of_ble_eq_true rfl) (Nat.le_of_ble_eq_true rfl) (Nat.le_of_ble_eq_true rfl) (Nat.le_of_ble_eq_true rfl) (Nat.le_of_ble_eq_true rfl) (fun _ _ h => False.elim h) (fun v9 w220 h221 => ?_)
          obtain ⟨rfl, v222, rfl, rv222⟩ := h221
          refine rn_stk [.int v222] rfl ?_
          refine rn_if_eq (tgt := 123) dX10_means_116 (by decide) (fun h224 => ?_) (fun h224 => ?_)
          · have ch224 := cv_eq h224
            have r225 : Rg (0) (0) v222 := rf_eqx ch224 rv222 rk_0 (by decide) (by decide)
            refine rn_iconst (v := (0 : Int32)) dX10_means_123 (by decide) ?_
            refine rn_istore dX10_means_124 (by decide) [(0, .ref o0_), (1, .int x1_), (2, .int x2_), (3, .int v4), (4, .int (0 : Int32)), (5, .int (1 : Int32)), (6, .int (0 : Int32))] rfl ?_
            refine rn_iload dX10_means_126 rfl ?_
            refine rn_if_eq (tgt := 168) dX10_means_128 (by decide) (fun h226 => (cx_eq (cv_eq h226) rk_1 rk_0 (by decide)).elim) (fun h226 => ?_)
            refine rn_iload dX10_means_131 rfl ?_
            refine rn_if_eq (tgt := 168) dX10_means_133 (by decide) (fun h227 => ?_) (fun h227 => (cx_ne (cv_ne h227) rk_0 rk_0 (by decide)).elim)
            refine rn_iconst (v := (0 : Int32)) dX10_means_168 (by decide) ?_
            exact rn_iret dX10_means_169 rfl rfl (rq_in ⟨rfl, (0 : Int32), rfl, (rg_w rk_0 (by decide) (by decide))⟩)
          · have ch224 := cv_ne h224
            have r228 : Rg (1) (1) v222 := rf_nel ch224 rv222 rk_0 (by decide) (by decide)
            refine rn_iconst (v := (1 : Int32)) dX10_means_119 (by decide) ?_
            refine rn_goto (tgt := 124) dX10_means_120 (by decide) ?_
            refine rn_istore dX10_means_124 (by decide) [(0, .ref o0_), (1, .int x1_), (2, .int x2_), (3, .int v4), (4, .int (0 : Int32)), (5, .int (1 : Int32)), (6, .int (1 : Int32))] rfl ?_
            refine rn_iload dX10_means_126 rfl ?_
            refine rn_if_eq (tgt := 168) dX10_means_128 (by decide) (fun h229 => (cx_eq (cv_eq h229) rk_1 rk_0 (by decide)).elim) (fun h229 => ?_)
            refine rn_iload dX10_means_131 rfl ?_
            refine rn_if_eq (tgt := 168) dX10_means_133 (by decide) (fun h230 => (cx_eq (cv_eq h230) rk_1 rk_0 (by decide)).elim) (fun h230 => ?_)
            refine rn_iload dX10_means_136 rfl ?_
            refine rn_if_ne (tgt := 164) dX10_means_138 (by decide) (fun h231 => (cx_ne (cv_ne h231) rk_0 rk_0 (by decide)).elim) (fun h231 => ?_)
            refine rn_iload_n (i := 3) dX10_means_141 rfl rfl ?_
            refine rn_if_lt (tgt := 168) dX10_means_142 (by decide) (fun h232 => ?_) (fun h232 => ?_)
            · have ch232 := cv_lt h232
              have r233 : Rg (-1) (-1) v4 := rf_ltx ch232 rv4 rk_0 (by decide)
              refine rn_iconst (v := (0 : Int32)) dX10_means_168 (by decide) ?_
              exact rn_iret dX10_means_169 rfl rfl (rq_in ⟨rfl, (0 : Int32), rfl, (rg_w rk_0 (by decide) (by decide))⟩)
            · have ch232 := cv_nlt h232
              have r234 : Rg (0) (65535) v4 := rf_ley ch232 rk_0 rv4 (by decide)
              refine rn_iload_n (i := 3) dX10_means_145 rfl rfl ?_
              refine rn_aload_n (i := 0) dX10_means_146 rfl rfl ?_
              refine rn_get q1 kg_SGModel_43 hl1 hx6 dX10_means_147 ?_
              refine rn_iload_n (i := 1) dX10_means_150 rfl rfl ?_
              refine rs_iald q7 hl7 hf7 rfl r1_ (by decide) (by decide) dX10_means_151 (fun v235 ev235 rv235 => ?_)
              refine rn_aload_n (i := 0) dX10_means_152 rfl rfl ?_
              refine rn_get q1 kg_SGModel_46 hl1 hx180 dX10_means_153 ?_
              refine rn_iload_n (i := 1) dX10_means_156 rfl rfl ?_
              refine rs_iald q181 hl181 hf181 rfl r1_ (by decide) (by decide) dX10_means_157 (fun v236 ev236 rv236 => ?_)
              refine rn_inS (d' := 0) (z' := 0) [.int v4, .int v235, .int v236] kl_SGModel_179 dX10_means_158 rfl rfl (Nat.le_of_ble_eq_true rfl) (Nat.le_of_ble_eq_true rfl) (Nat.le_of_ble_eq_true rfl) (Nat.le_of_ble_eq_true rfl) ?_
              refine rn_lv [(0, .int v4), (1, .int v235), (2, .int v236)] rfl ?_
              refine rn_iload_n (i := 0) dX10_in_0 rfl rfl ?_
              refine rn_iload_n (i := 1) dX10_in_1 rfl rfl ?_
              refine rn_icmp_lt (tgt := 14) dX10_in_2 (by decide) (fun h237 => ?_) (fun h237 => ?_)
              · have ch237 := cv_lt h237
                have r238 : Rg (1) (2147483647) v235 := rf_lty ch237 r234 rv235 (by decide)
                refine rn_iconst (v := (0 : Int32)) dX10_in_14 (by decide) ?_
                refine rn_iret dX10_in_15 rfl rfl (rq_in ?_)
                refine rn_stk [.int (0 : Int32)] rfl ?_
                refine rn_if_eq (tgt := 168) dX10_means_161 (by decide) (fun h239 => ?_) (fun h239 => (cx_ne (cv_ne h239) rk_0 rk_0 (by decide)).elim)
                refine rn_iconst (v := (0 : Int32)) dX10_means_168 (by decide) ?_
                exact rn_iret dX10_means_169 rfl rfl (rq_in ⟨rfl, (0 : Int32), rfl, (rg_w rk_0 (by decide) (by decide))⟩)
              · have ch237 := cv_nlt h237
                have r240 : Rg (-2147483648) (65535) v235 := rf_lex ch237 rv235 r234 (by decide)
                refine rn_iload_n (i := 0) dX10_in_5 rfl rfl ?_
                refine rn_iload_n (i := 2) dX10_in_6 rfl rfl ?_
                refine rn_icmp_gt (tgt := 14) dX10_in_7 (by decide) (fun h241 => ?_) (fun h241 => ?_)
                · have ch241 := cv_lt h241
                  have r242 : Rg (-2147483648) (65534) v236 := rf_ltx ch241 rv236 r234 (by decide)
                  refine rn_iconst (v := (0 : Int32)) dX10_in_14 (by decide) ?_
                  refine rn_iret dX10_in_15 rfl rfl (rq_in ?_)
                  refine rn_stk [.int (0 : Int32)] rfl ?_
                  refine rn_if_eq (tgt := 168) dX10_means_161 (by decide) (fun h243 => ?_) (fun h243 => (cx_ne (cv_ne h243) rk_0 rk_0 (by decide)).elim)
                  refine rn_iconst (v := (0 : Int32)) dX10_means_168 (by decide) ?_
                  exact rn_iret dX10_means_169 rfl rfl (rq_in ⟨rfl, (0 : Int32), rfl, (rg_w rk_0 (by decide) (by decide))⟩)
                · have ch241 := cv_nlt h241
                  have r244 : Rg (0) (2147483647) v236 := rf_ley ch241 r234 rv236 (by decide)
                  refine rn_iconst (v := (1 : Int32)) dX10_in_10 (by decide) ?_
                  refine rn_goto (tgt := 15) dX10_in_11 (by decide) ?_
                  refine rn_iret dX10_in_15 rfl rfl (rq_in ?_)
                  refine rn_stk [.int (1 : Int32)] rfl ?_
                  refine rn_if_eq (tgt := 168) dX10_means_161 (by decide) (fun h245 => (cx_eq (cv_eq h245) rk_1 rk_0 (by decide)).elim) (fun h245 => ?_)
                  refine rn_iconst (v := (1 : Int32)) dX10_means_164 (by decide) ?_
                  refine rn_goto (tgt := 169) dX10_means_165 (by decide) ?_
                  exact rn_iret dX10_means_169 rfl rfl (rq_in ⟨rfl, (1 : Int32), rfl, (rg_w rk_1 (by decide) (by decide))⟩)
      · have ch187 := cv_ne h187
        refine rn_aload_n (i := 0) dX10_means_42 rfl rfl ?_
        refine rn_get q1 kg_SGModel_40 hl1 hx184 dX10_means_43 ?_
        refine rn_iload_n (i := 1) dX10_means_46 rfl rfl ?_
        refine rs_iald q185 hl185 hf185 rfl r1_ (by decide) (by decide) dX10_means_47 (fun v246 ev246 rv246 => ?_)
        refine rn_aload_n (i := 0) dX10_means_48 rfl rfl ?_
        obtain ⟨o247, hx247, m247⟩ := fs_r hf1 2 rfl
        refine rn_get q1 kg_SGModel_7 hl1 hx247 dX10_means_49 ?_
        refine rn_iload_n (i := 2) dX10_means_52 rfl rfl ?_
        refine rn_bipush (v := (9 : Int32)) dX10_means_53 (by decide) ?_
        refine rs_addC (9) (21979) r2_ rk_9 dX10_means_55 (by decide) (fun v248 ev248 rv248 => ?_)
        obtain ⟨q249, f249, hq249, hl249, hf249⟩ := ts_ia hW m247 hk_33
        refine rs_iald q249 hl249 hf249 rfl rv248 (by decide) (by decide) dX10_means_56 (fun v250 ev250 rv250 => ?_)
        refine rn_icmp_ne (tgt := 64) dX10_means_57 (by decide) (fun h251 => ?_) (fun h251 => ?_)
        · have ch251 := cv_ne h251
          refine rn_iconst (v := (0 : Int32)) dX10_means_64 (by decide) ?_
          refine rn_istore dX10_means_65 (by decide) [(0, .ref o0_), (1, .int x1_), (2, .int x2_), (3, .int v4), (4, .int (0 : Int32)), (5, .int (0 : Int32))] rfl ?_
          refine rn_aload_n (i := 0) dX10_means_67 rfl rfl ?_
          refine rn_iload_n (i := 2) dX10_means_68 rfl rfl ?_
          refine rn_bipush (v := (12 : Int32)) dX10_means_69 (by decide) ?_
          refine rs_addC (12) (21982) r2_ rk_12 dX10_means_71 (by decide) (fun v252 ev252 rv252 => ?_)
          refine rn_callV (a := 0) (b := 0) [.int v252] kl_SGModel_218 dX10_means_72 q1 hl1 rfl (t_X10_four G S ws hW o0_ m0_ v252 (rg_w rv252 (by decide) (by decide))) rfl rfl (Nat.le_of_ble_eq_true rfl) (Nat.le_of_ble_eq_true rfl) (Nat.le_of_ble_eq_true rfl) (Nat.le_of_ble_eq_true rfl) (Nat.le_of_ble_eq_true rfl) (Nat.le_of_ble_eq_true rfl) (fun _ _ h => False.elim h) (fun v9 w253 h254 => ?_)
          obtain ⟨rfl, v255, rfl, rv255⟩ := h254
          refine rn_stk [.int v255] rfl ?_
          refine rn_aload_n (i := 0) dX10_means_75 rfl rfl ?_
          obtain ⟨o257, hx257, m257⟩ := fs_r hf1 11 rfl
          refine rn_get q1 kg_SGModel_28 hl1 hx257 dX10_means_76 ?_
          refine rn_iload_n (i := 1) dX10_means_79 rfl rfl ?_
          obtain ⟨q258, f258, hq258, hl258, hf258⟩ := ts_ia hW m257 hk_42
          refine rs_iald q258 hl258 hf258 rfl r1_ (by decide) (by decide) dX10_means_80 (fun v259 ev259 rv259 => ?_)
          refine rn_aload_n (i := 0) dX10_means_81 rfl rfl ?_
          obtain ⟨o260, hx260, m260⟩ := fs_r hf1 12 rfl
          refine rn_get q1 kg_SGModel_31 hl1 hx260 dX10_means_82 ?_
          refine rn_iload_n (i := 1) dX10_means_85 rfl rfl ?_
          obtain ⟨q261, f261, hq261, hl261, hf261⟩ := ts_ia hW m260 hk_43
          refine rs_iald q261 hl261 hf261 rfl r1_ (by decide) (by decide) dX10_means_86 (fun v262 ev262 rv262 => ?_)
          refine rn_callS (a := 0) (b := 0) [.int v255, .int v259, .int v262] kl_SGModel_212 dX10_means_87 (t_X10_isIn G S ws hW v255 v259 v262) rfl rfl (Nat.le_of_ble_eq_true rfl) (Nat.le_of_ble_eq_true rfl) (Nat.le_of_ble_eq_true rfl) (Nat.le_of_ble_eq_true rfl) (Nat.le_of_ble_eq_true rfl) (Nat.le_of_ble_eq_true rfl) (fun _ _ h => False.elim h) (fun v9 w263 h264 => ?_)
          obtain ⟨rfl, v265, rfl, rv265⟩ := h264
          refine rn_stk [.int v265] rfl ?_
          refine rn_if_eq (tgt := 123) dX10_means_90 (by decide) (fun h267 => ?_) (fun h267 => ?_)
          · have ch267 := cv_eq h267
            have r268 : Rg (0) (0) v265 := rf_eqx ch267 rv265 rk_0 (by decide) (by decide)
            refine rn_iconst (v := (0 : Int32)) dX10_means_123 (by decide) ?_
            refine rn_istore dX10_means_124 (by decide) [(0, .ref o0_), (1, .int x1_), (2, .int x2_), (3, .int v4), (4, .int (0 : Int32)), (5, .int (0 : Int32)), (6, .int (0 : Int32))] rfl ?_
            refine rn_iload dX10_means_126 rfl ?_
            refine rn_if_eq (tgt := 168) dX10_means_128 (by decide) (fun h269 => ?_) (fun h269 => (cx_ne (cv_ne h269) rk_0 rk_0 (by decide)).elim)
            refine rn_iconst (v := (0 : Int32)) dX10_means_168 (by decide) ?_
            exact rn_iret dX10_means_169 rfl rfl (rq_in ⟨rfl, (0 : Int32), rfl, (rg_w rk_0 (by decide) (by decide))⟩)
          · have ch267 := cv_ne h267
            have r270 : Rg (1) (1) v265 := rf_nel ch267 rv265 rk_0 (by decide) (by decide)
            refine rn_aload_n (i := 0) dX10_means_93 rfl rfl ?_
            refine rn_iload_n (i := 2) dX10_means_94 rfl rfl ?_
            refine rn_bipush (v := (16 : Int32)) dX10_means_95 (by decide) ?_
            refine rs_addC (16) (21986) r2_ rk_16 dX10_means_97 (by decide) (fun v271 ev271 rv271 => ?_)
            refine rn_callV (a := 0) (b := 0) [.int v271] kl_SGModel_218 dX10_means_98 q1 hl1 rfl (t_X10_four G S ws hW o0_ m0_ v271 (rg_w rv271 (by decide) (by decide))) rfl rfl (Nat.le_of_ble_eq_true rfl) (Nat.le_of_ble_eq_true rfl) (Nat.le_of_ble_eq_true rfl) (Nat.le_of_ble_eq_true rfl) (Nat.le_of_ble_eq_true rfl) (Nat.le_of_ble_eq_true rfl) (fun _ _ h => False.elim h) (fun v9 w272 h273 => ?_)
            obtain ⟨rfl, v274, rfl, rv274⟩ := h273
            refine rn_stk [.int v274] rfl ?_
            refine rn_aload_n (i := 0) dX10_means_101 rfl rfl ?_
            obtain ⟨o276, hx276, m276⟩ := fs_r hf1 13 rfl
            refine rn_get q1 kg_SGModel_34 hl1 hx276 dX10_means_102 ?_
            refine rn_iload_n (i := 1) dX10_means_105 rfl rfl ?_
            obtain ⟨q277, f277, hq277, hl277, hf277⟩ := ts_ia hW m276 hk_44
            refine rs_iald q277 hl277 hf277 rfl r1_ (by decide) (by decide) dX10_means_106 (fun v278 ev278 rv278 => ?_)
            refine rn_aload_n (i := 0) dX10_means_107 rfl rfl ?_
            obtain ⟨o279, hx279, m279⟩ := fs_r hf1 14 rfl
            refine rn_get q1 kg_SGModel_37 hl1 hx279 dX10_means_108 ?_
            refine rn_iload_n (i := 1) dX10_means_111 rfl rfl ?_
            obtain ⟨q280, f280, hq280, hl280, hf280⟩ := ts_ia hW m279 hk_45
            refine rs_iald q280 hl280 hf280 rfl r1_ (by decide) (by decide) dX10_means_112 (fun v281 ev281 rv281 => ?_)
            refine rn_callS (a := 0) (b := 0) [.int v274, .int v278, .int v281] kl_SGModel_212 dX10_means_113 (t_X10_isIn G S ws hW v274 v278 v281) rfl rfl (Nat.le_of_ble_eq_true rfl) (Nat.le_of_ble_eq_true rfl) (Nat.le_of_ble_eq_true rfl) (Nat.le_of_ble_eq_true rfl) (Nat.le_of_ble_eq_true rfl) (Nat.le_of_ble_eq_true rfl) (fun _ _ h => False.elim h) (fun v9 w282 h283 => ?_)
            obtain ⟨rfl, v284, rfl, rv284⟩ := h283
            refine rn_stk [.int v284] rfl ?_
            refine rn_if_eq (tgt := 123) dX10_means_116 (by decide) (fun h286 => ?_) (fun h286 => ?_)
            · have ch286 := cv_eq h286
              have r287 : Rg (0) (0) v284 := rf_eqx ch286 rv284 rk_0 (by decide) (by decide)
              refine rn_iconst (v := (0 : Int32)) dX10_means_123 (by decide) ?_
              refine rn_istore dX10_means_124 (by decide) [(0, .ref o0_), (1, .int x1_), (2, .int x2_), (3, .int v4), (4, .int (0 : Int32)), (5, .int (0 : Int32)), (6, .int (0 : Int32))] rfl ?_
              refine rn_iload dX10_means_126 rfl ?_
              refine rn_if_eq (tgt := 168) dX10_means_128 (by decide) (fun h288 => ?_) (fun h288 => (cx_ne (cv_ne h288) rk_0 rk_0 (by decide)).elim)
              refine rn_iconst (v := (0 : Int32)) dX10_means_168 (by decide) ?_
              exact rn_iret dX10_means_169 rfl rfl (rq_in ⟨rfl, (0 : Int32), rfl, (rg_w rk_0 (by decide) (by decide))⟩)
            · have ch286 := cv_ne h286
              have r289 : Rg (1) (1) v284 := rf_nel ch286 rv284 rk_0 (by decide) (by decide)
              refine rn_iconst (v := (1 : Int32)) dX10_means_119 (by decide) ?_
              refine rn_goto (tgt := 124) dX10_means_120 (by decide) ?_
              refine rn_istore dX10_means_124 (by decide) [(0, .ref o0_), (1, .int x1_), (2, .int x2_), (3, .int v4), (4, .int (0 : Int32)), (5, .int (0 : Int32)), (6, .int (1 : Int32))] rfl ?_
              refine rn_iload dX10_means_126 rfl ?_
              refine rn_if_eq (tgt := 168) dX10_means_128 (by decide) (fun h290 => ?_) (fun h290 => (cx_ne (cv_ne h290) rk_0 rk_0 (by decide)).elim)
              refine rn_iconst (v := (0 : Int32)) dX10_means_168 (by decide) ?_
              exact rn_iret dX10_means_169 rfl rfl (rq_in ⟨rfl, (0 : Int32), rfl, (rg_w rk_0 (by decide) (by decide))⟩)
        · have ch251 := cv_eq h251
          have r291 : Rg (0) (255) v246 := rf_eqx ch251 rv246 rv250 (by decide) (by decide)
          refine rn_iconst (v := (1 : Int32)) dX10_means_60 (by decide) ?_
          refine rn_goto (tgt := 65) dX10_means_61 (by decide) ?_
          refine rn_istore dX10_means_65 (by decide) [(0, .ref o0_), (1, .int x1_), (2, .int x2_), (3, .int v4), (4, .int (0 : Int32)), (5, .int (1 : Int32))] rfl ?_
          refine rn_aload_n (i := 0) dX10_means_67 rfl rfl ?_
          refine rn_iload_n (i := 2) dX10_means_68 rfl rfl ?_
          refine rn_bipush (v := (12 : Int32)) dX10_means_69 (by decide) ?_
          refine rs_addC (12) (21982) r2_ rk_12 dX10_means_71 (by decide) (fun v292 ev292 rv292 => ?_)
          refine rn_callV (a := 0) (b := 0) [.int v292] kl_SGModel_218 dX10_means_72 q1 hl1 rfl (t_X10_four G S ws hW o0_ m0_ v292 (rg_w rv292 (by decide) (by decide))) rfl rfl (Nat.le_of_ble_eq_true rfl) (Nat.le_of_ble_eq_true rfl) (Nat.le_of_ble_eq_true rfl) (Nat.le_of_ble_eq_true rfl) (Nat.le_of_ble_eq_true rfl) (Nat.le_of_ble_eq_true rfl) (fun _ _ h => False.elim h) (fun v9 w293 h294 => ?_)
          obtain ⟨rfl, v295, rfl, rv295⟩ := h294
          refine rn_stk [.int v295] rfl ?_
          refine rn_aload_n (i := 0) dX10_means_75 rfl rfl ?_
          obtain ⟨o297, hx297, m297⟩ := fs_r hf1 11 rfl
          refine rn_get q1 kg_SGModel_28 hl1 hx297 dX10_means_76 ?_
          refine rn_iload_n (i := 1) dX10_means_79 rfl rfl ?_
          obtain ⟨q298, f298, hq298, hl298, hf298⟩ := ts_ia hW m297 hk_42
          refine rs_iald q298 hl298 hf298 rfl r1_ (by decide) (by decide) dX10_means_80 (fun v299 ev299 rv299 => ?_)
          refine rn_aload_n (i := 0) dX10_means_81 rfl rfl ?_
          obtain ⟨o300, hx300, m300⟩ := fs_r hf1 12 rfl
          refine rn_get q1 kg_SGModel_31 hl1 hx300 dX10_means_82 ?_
          refine rn_iload_n (i := 1) dX10_means_85 rfl rfl ?_
          obtain ⟨q301, f301, hq301, hl301, hf301⟩ := ts_ia hW m300 hk_43
          refine rs_iald q301 hl301 hf301 rfl r1_ (by decide) (by decide) dX10_means_86 (fun v302 ev302 rv302 => ?_)
          refine rn_callS (a := 0) (b := 0) [.int v295, .int v299, .int v302] kl_SGModel_212 dX10_means_87 (t_X10_isIn G S ws hW v295 v299 v302) rfl rfl (Nat.le_of_ble_eq_true rfl) (Nat.le_of_ble_eq_true rfl) (Nat.le_of_ble_eq_true rfl) (Nat.le_of_ble_eq_true rfl) (Nat.le_of_ble_eq_true rfl) (Nat.le_of_ble_eq_true rfl) (fun _ _ h => False.elim h) (fun v9 w303 h304 => ?_)
          obtain ⟨rfl, v305, rfl, rv305⟩ := h304
          refine rn_stk [.int v305] rfl ?_
          refine rn_if_eq (tgt := 123) dX10_means_90 (by decide) (fun h307 => ?_) (fun h307 => ?_)
          · have ch307 := cv_eq h307
            have r308 : Rg (0) (0) v305 := rf_eqx ch307 rv305 rk_0 (by decide) (by decide)
            refine rn_iconst (v := (0 : Int32)) dX10_means_123 (by decide) ?_
            refine rn_istore dX10_means_124 (by decide) [(0, .ref o0_), (1, .int x1_), (2, .int x2_), (3, .int v4), (4, .int (0 : Int32)), (5, .int (1 : Int32)), (6, .int (0 : Int32))] rfl ?_
            refine rn_iload dX10_means_126 rfl ?_
            refine rn_if_eq (tgt := 168) dX10_means_128 (by decide) (fun h309 => (cx_eq (cv_eq h309) rk_1 rk_0 (by decide)).elim) (fun h309 => ?_)
            refine rn_iload dX10_means_131 rfl ?_
            refine rn_if_eq (tgt := 168) dX10_means_133 (by decide) (fun h310 => ?_) (fun h310 => (cx_ne (cv_ne h310) rk_0 rk_0 (by decide)).elim)
            refine rn_iconst (v := (0 : Int32)) dX10_means_168 (by decide) ?_
            exact rn_iret dX10_means_169 rfl rfl (rq_in ⟨rfl, (0 : Int32), rfl, (rg_w rk_0 (by decide) (by decide))⟩)
          · have ch307 := cv_ne h307
            have r311 : Rg (1) (1) v305 := rf_nel ch307 rv305 rk_0 (by decide) (by decide)
            refine rn_aload_n (i := 0) dX10_means_93 rfl rfl ?_
            refine rn_iload_n (i := 2) dX10_means_94 rfl rfl ?_
            refine rn_bipush (v := (16 : Int32)) dX10_means_95 (by decide) ?_
            refine rs_addC (16) (21986) r2_ rk_16 dX10_means_97 (by decide) (fun v312 ev312 rv312 => ?_)
            refine rn_callV (a := 0) (b := 0) [.int v312] kl_SGModel_218 dX10_means_98 q1 hl1 rfl (t_X10_four G S ws hW o0_ m0_ v312 (rg_w rv312 (by decide) (by decide))) rfl rfl (Nat.le_of_ble_eq_true rfl) (Nat.le_of_ble_eq_true rfl) (Nat.le_of_ble_eq_true rfl) (Nat.le_of_ble_eq_true rfl) (Nat.le_of_ble_eq_true rfl) (Nat.le_of_ble_eq_true rfl) (fun _ _ h => False.elim h) (fun v9 w313 h314 => ?_)
            obtain ⟨rfl, v315, rfl, rv315⟩ := h314
            refine rn_stk [.int v315] rfl ?_
            refine rn_aload_n (i := 0) dX10_means_101 rfl rfl ?_
            obtain ⟨o317, hx317, m317⟩ := fs_r hf1 13 rfl
            refine rn_get q1 kg_SGModel_34 hl1 hx317 dX10_means_102 ?_
            refine rn_iload_n (i := 1) dX10_means_105 rfl rfl ?_
            obtain ⟨q318, f318, hq318, hl318, hf318⟩ := ts_ia hW m317 hk_44
            refine rs_iald q318 hl318 hf318 rfl r1_ (by decide) (by decide) dX10_means_106 (fun v319 ev319 rv319 => ?_)
            refine rn_aload_n (i := 0) dX10_means_107 rfl rfl ?_
            obtain ⟨o320, hx320, m320⟩ := fs_r hf1 14 rfl
            refine rn_get q1 kg_SGModel_37 hl1 hx320 dX10_means_108 ?_
            refine rn_iload_n (i := 1) dX10_means_111 rfl rfl ?_
            obtain ⟨q321, f321, hq321, hl321, hf321⟩ := ts_ia hW m320 hk_45
            refine rs_iald q321 hl321 hf321 rfl r1_ (by decide) (by decide) dX10_means_112 (fun v322 ev322 rv322 => ?_)
            refine rn_callS (a := 0) (b := 0) [.int v315, .int v319, .int v322] kl_SGModel_212 dX10_means_113 (t_X10_isIn G S ws hW v315 v319 v322) rfl rfl (Nat.le_of_ble_eq_true rfl) (Nat.le_of_ble_eq_true rfl) (Nat.le_of_ble_eq_true rfl) (Nat.le_of_ble_eq_true rfl) (Nat.le_of_ble_eq_true rfl) (Nat.le_of_ble_eq_true rfl) (fun _ _ h => False.elim h) (fun v9 w323 h324 => ?_)
            obtain ⟨rfl, v325, rfl, rv325⟩ := h324
            refine rn_stk [.int v325] rfl ?_
            refine rn_if_eq (tgt := 123) dX10_means_116 (by decide) (fun h327 => ?_) (fun h327 => ?_)
            · have ch327 := cv_eq h327
              have r328 : Rg (0) (0) v325 := rf_eqx ch327 rv325 rk_0 (by decide) (by decide)
              refine rn_iconst (v := (0 : Int32)) dX10_means_123 (by decide) ?_
              refine rn_istore dX10_means_124 (by decide) [(0, .ref o0_), (1, .int x1_), (2, .int x2_), (3, .int v4), (4, .int (0 : Int32)), (5, .int (1 : Int32)), (6, .int (0 : Int32))] rfl ?_
              refine rn_iload dX10_means_126 rfl ?_
              refine rn_if_eq (tgt := 168) dX10_means_128 (by decide) (fun h329 => (cx_eq (cv_eq h329) rk_1 rk_0 (by decide)).elim) (fun h329 => ?_)
              refine rn_iload dX10_means_131 rfl ?_
              refine rn_if_eq (tgt := 168) dX10_means_133 (by decide) (fun h330 => ?_) (fun h330 => (cx_ne (cv_ne h330) rk_0 rk_0 (by decide)).elim)
              refine rn_iconst (v := (0 : Int32)) dX10_means_168 (by decide) ?_
              exact rn_iret dX10_means_169 rfl rfl (rq_in ⟨rfl, (0 : Int32), rfl, (rg_w rk_0 (by decide) (by decide))⟩)
            · have ch327 := cv_ne h327
              have r331 : Rg (1) (1) v325 := rf_nel ch327 rv325 rk_0 (by decide) (by decide)
              refine rn_iconst (v := (1 : Int32)) dX10_means_119 (by decide) ?_
              refine rn_goto (tgt := 124) dX10_means_120 (by decide) ?_
              refine rn_istore dX10_means_124 (by decide) [(0, .ref o0_), (1, .int x1_), (2, .int x2_), (3, .int v4), (4, .int (0 : Int32)), (5, .int (1 : Int32)), (6, .int (1 : Int32))] rfl ?_
              refine rn_iload dX10_means_126 rfl ?_
              refine rn_if_eq (tgt := 168) dX10_means_128 (by decide) (fun h332 => (cx_eq (cv_eq h332) rk_1 rk_0 (by decide)).elim) (fun h332 => ?_)
              refine rn_iload dX10_means_131 rfl ?_
              refine rn_if_eq (tgt := 168) dX10_means_133 (by decide) (fun h333 => (cx_eq (cv_eq h333) rk_1 rk_0 (by decide)).elim) (fun h333 => ?_)
              refine rn_iload dX10_means_136 rfl ?_
              refine rn_if_ne (tgt := 164) dX10_means_138 (by decide) (fun h334 => (cx_ne (cv_ne h334) rk_0 rk_0 (by decide)).elim) (fun h334 => ?_)
              refine rn_iload_n (i := 3) dX10_means_141 rfl rfl ?_
              refine rn_if_lt (tgt := 168) dX10_means_142 (by decide) (fun h335 => ?_) (fun h335 => ?_)
              · have ch335 := cv_lt h335
                have r336 : Rg (-1) (-1) v4 := rf_ltx ch335 rv4 rk_0 (by decide)
                refine rn_iconst (v := (0 : Int32)) dX10_means_168 (by decide) ?_
                exact rn_iret dX10_means_169 rfl rfl (rq_in ⟨rfl, (0 : Int32), rfl, (rg_w rk_0 (by decide) (by decide))⟩)
              · have ch335 := cv_nlt h335
                have r337 : Rg (0) (65535) v4 := rf_ley ch335 rk_0 rv4 (by decide)
                refine rn_iload_n (i := 3) dX10_means_145 rfl rfl ?_
                refine rn_aload_n (i := 0) dX10_means_146 rfl rfl ?_
                refine rn_get q1 kg_SGModel_43 hl1 hx6 dX10_means_147 ?_
                refine rn_iload_n (i := 1) dX10_means_150 rfl rfl ?_
                refine rs_iald q7 hl7 hf7 rfl r1_ (by decide) (by decide) dX10_means_151 (fun v338 ev338 rv338 => ?_)
                refine rn_aload_n (i := 0) dX10_means_152 rfl rfl ?_
                refine rn_get q1 kg_SGModel_46 hl1 hx180 dX10_means_153 ?_
                refine rn_iload_n (i := 1) dX10_means_156 rfl rfl ?_
                refine rs_iald q181 hl181 hf181 rfl r1_ (by decide) (by decide) dX10_means_157 (fun v339 ev339 rv339 => ?_)
                refine rn_inS (d' := 0) (z' := 0) [.int v4, .int v338, .int v339] kl_SGModel_179 dX10_means_158 rfl rfl (Nat.le_of_ble_eq_true rfl) (Nat.le_of_ble_eq_true rfl) (Nat.le_of_ble_eq_true rfl) (Nat.le_of_ble_eq_true rfl) ?_
                refine rn_lv [(0, .int v4), (1, .int v338), (2, .int v339)] rfl ?_
                refine rn_iload_n (i := 0) dX10_in_0 rfl rfl ?_
                refine rn_iload_n (i := 1) dX10_in_1 rfl rfl ?_
                refine rn_icmp_lt (tgt := 14) dX10_in_2 (by decide) (fun h340 => ?_) (fun h340 => ?_)
                · have ch340 := cv_lt h340
                  have r341 : Rg (1) (2147483647) v338 := rf_lty ch340 r337 rv338 (by decide)
                  refine rn_iconst (v := (0 : Int32)) dX10_in_14 (by decide) ?_
                  refine rn_iret dX10_in_15 rfl rfl (rq_in ?_)
                  refine rn_stk [.int (0 : Int32)] rfl ?_
                  refine rn_if_eq (tgt := 168) dX10_means_161 (by decide) (fun h342 => ?_) (fun h342 => (cx_ne (cv_ne h342) rk_0 rk_0 (by decide)).elim)
                  refine rn_iconst (v := (0 : Int32)) dX10_means_168 (by decide) ?_
                  exact rn_iret dX10_means_169 rfl rfl (rq_in ⟨rfl, (0 : Int32), rfl, (rg_w rk_0 (by decide) (by decide))⟩)
                · have ch340 := cv_nlt h340
                  have r343 : Rg (-2147483648) (65535) v338 := rf_lex ch340 rv338 r337 (by decide)
                  refine rn_iload_n (i := 0) dX10_in_5 rfl rfl ?_
                  refine rn_iload_n (i := 2) dX10_in_6 rfl rfl ?_
                  refine rn_icmp_gt (tgt := 14) dX10_in_7 (by decide) (fun h344 => ?_) (fun h344 => ?_)
                  · have ch344 := cv_lt h344
                    have r345 : Rg (-2147483648) (65534) v339 := rf_ltx ch344 rv339 r337 (by decide)
                    refine rn_iconst (v := (0 : Int32)) dX10_in_14 (by decide) ?_
                    refine rn_iret dX10_in_15 rfl rfl (rq_in ?_)
                    refine rn_stk [.int (0 : Int32)] rfl ?_
                    refine rn_if_eq (tgt := 168) dX10_means_161 (by decide) (fun h346 => ?_) (fun h346 => (cx_ne (cv_ne h346) rk_0 rk_0 (by decide)).elim)
                    refine rn_iconst (v := (0 : Int32)) dX10_means_168 (by decide) ?_
                    exact rn_iret dX10_means_169 rfl rfl (rq_in ⟨rfl, (0 : Int32), rfl, (rg_w rk_0 (by decide) (by decide))⟩)
                  · have ch344 := cv_nlt h344
                    have r347 : Rg (0) (2147483647) v339 := rf_ley ch344 r337 rv339 (by decide)
                    refine rn_iconst (v := (1 : Int32)) dX10_in_10 (by decide) ?_
                    refine rn_goto (tgt := 15) dX10_in_11 (by decide) ?_
                    refine rn_iret dX10_in_15 rfl rfl (rq_in ?_)
                    refine rn_stk [.int (1 : Int32)] rfl ?_
                    refine rn_if_eq (tgt := 168) dX10_means_161 (by decide) (fun h348 => (cx_eq (cv_eq h348) rk_1 rk_0 (by decide)).elim) (fun h348 => ?_)
                    refine rn_iconst (v := (1 : Int32)) dX10_means_164 (by decide) ?_
                    refine rn_goto (tgt := 169) dX10_means_165 (by decide) ?_
                    exact rn_iret dX10_means_169 rfl rfl (rq_in ⟨rfl, (1 : Int32), rfl, (rg_w rk_1 (by decide) (by decide))⟩)
    · have ch183 := cv_eq h183
      have r349 : Rg (65535) (65535) v182 := rf_eqx ch183 rv182 rk_65535 (by decide) (by decide)
      refine rn_iconst (v := (1 : Int32)) dX10_means_26 (by decide) ?_
      refine rn_goto (tgt := 31) dX10_means_27 (by decide) ?_
      refine rn_istore dX10_means_31 (by decide) [(0, .ref o0_), (1, .int x1_), (2, .int x2_), (3, .int v4), (4, .int (1 : Int32))] rfl ?_
      refine rn_aload_n (i := 0) dX10_means_33 rfl rfl ?_
      obtain ⟨o350, hx350, m350⟩ := fs_r hf1 15 rfl
      refine rn_get q1 kg_SGModel_40 hl1 hx350 dX10_means_34 ?_
      refine rn_iload_n (i := 1) dX10_means_37 rfl rfl ?_
      obtain ⟨q351, f351, hq351, hl351, hf351⟩ := ts_ia hW m350 hk_46
      refine rs_iald q351 hl351 hf351 rfl r1_ (by decide) (by decide) dX10_means_38 (fun v352 ev352 rv352 => ?_)
      refine rn_if_eq (tgt := 60) dX10_means_39 (by decide) (fun h353 => ?_) (fun h353 => ?_)
      · have ch353 := cv_eq h353
        have r354 : Rg (0) (0) v352 := rf_eqx ch353 rv352 rk_0 (by decide) (by decide)
        refine rn_iconst (v := (1 : Int32)) dX10_means_60 (by decide) ?_
        refine rn_goto (tgt := 65) dX10_means_61 (by decide) ?_
        refine rn_istore dX10_means_65 (by decide) [(0, .ref o0_), (1, .int x1_), (2, .int x2_), (3, .int v4), (4, .int (1 : Int32)), (5, .int (1 : Int32))] rfl ?_
        refine rn_aload_n (i := 0) dX10_means_67 rfl rfl ?_
        refine rn_iload_n (i := 2) dX10_means_68 rfl rfl ?_
        refine rn_bipush (v := (12 : Int32)) dX10_means_69 (by decide) ?_
        refine rs_addC (12) (21982) r2_ rk_12 dX10_means_71 (by decide) (fun v355 ev355 rv355 => ?_)
        refine rn_callV (a := 0) (b := 0) [.int v355] kl_SGModel_218 dX10_means_72 q1 hl1 rfl (t_X10_four G S ws hW o0_ m0_ v355 (rg_w rv355 (by decide) (by decide))) rfl rfl (Nat.le_of_ble_eq_true rfl) (Nat.le_of_ble_eq_true rfl) (Nat.le_of_ble_eq_true rfl) (Nat.le_of_ble_eq_true rfl) (Nat.le_of_ble_eq_true rfl) (Nat.le_of_ble_eq_true rfl) (fun _ _ h => False.elim h) (fun v9 w356 h357 => ?_)
        obtain ⟨rfl, v358, rfl, rv358⟩ := h357
        refine rn_stk [.int v358] rfl ?_
        refine rn_aload_n (i := 0) dX10_means_75 rfl rfl ?_
        obtain ⟨o360, hx360, m360⟩ := fs_r hf1 11 rfl
        refine rn_get q1 kg_SGModel_28 hl1 hx360 dX10_means_76 ?_
        refine rn_iload_n (i := 1) dX10_means_79 rfl rfl ?_
        obtain ⟨q361, f361, hq361, hl361, hf361⟩ := ts_ia hW m360 hk_42
        refine rs_iald q361 hl361 hf361 rfl r1_ (by decide) (by decide) dX10_means_80 (fun v362 ev362 rv362 => ?_)
        refine rn_aload_n (i := 0) dX10_means_81 rfl rfl ?_
        obtain ⟨o363, hx363, m363⟩ := fs_r hf1 12 rfl
        refine rn_get q1 kg_SGModel_31 hl1 hx363 dX10_means_82 ?_
        refine rn_iload_n (i := 1) dX10_means_85 rfl rfl ?_
        obtain ⟨q364, f364, hq364, hl364, hf364⟩ := ts_ia hW m363 hk_43
        refine rs_iald q364 hl364 hf364 rfl r1_ (by decide) (by decide) dX10_means_86 (fun v365 ev365 rv365 => ?_)
        refine rn_callS (a := 0) (b := 0) [.int v358, .int v362, .int v365] kl_SGModel_212 dX10_means_87 (t_X10_isIn G S ws hW v358 v362 v365) rfl rfl (Nat.le_of_ble_eq_true rfl) (Nat.le_of_ble_eq_true rfl) (Nat.le_of_ble_eq_true rfl) (Nat.le_of_ble_eq_true rfl) (Nat.le_of_ble_eq_true rfl) (Nat.le_of_ble_eq_true rfl) (fun _ _ h => False.elim h) (fun v9 w366 h367 => ?_)
        obtain ⟨rfl, v368, rfl, rv368⟩ := h367
        refine rn_stk [.int v368] rfl ?_
        refine rn_if_eq (tgt := 123) dX10_means_90 (by decide) (fun h370 => ?_) (fun h370 => ?_)
        · have ch370 := cv_eq h370
          have r371 : Rg (0) (0) v368 := rf_eqx ch370 rv368 rk_0 (by decide) (by decide)
          refine rn_iconst (v := (0 : Int32)) dX10_means_123 (by decide) ?_
          refine rn_istore dX10_means_124 (by decide) [(0, .ref o0_), (1, .int x1_), (2, .int x2_), (3, .int v4), (4, .int (1 : Int32)), (5, .int (1 : Int32)), (6, .int (0 : Int32))] rfl ?_
          refine rn_iload dX10_means_126 rfl ?_
          refine rn_if_eq (tgt := 168) dX10_means_128 (by decide) (fun h372 => (cx_eq (cv_eq h372) rk_1 rk_0 (by decide)).elim) (fun h372 => ?_)
          refine rn_iload dX10_means_131 rfl ?_
          refine rn_if_eq (tgt := 168) dX10_means_133 (by decide) (fun h373 => ?_) (fun h373 => (cx_ne (cv_ne h373) rk_0 rk_0 (by decide)).elim)
          refine rn_iconst (v := (0 : Int32)) dX10_means_168 (by decide) ?_
          exact rn_iret dX10_means_169 rfl rfl (rq_in ⟨rfl, (0 : Int32), rfl, (rg_w rk_0 (by decide) (by decide))⟩)
        · have ch370 := cv_ne h370
          have r374 : Rg (1) (1) v368 := rf_nel ch370 rv368 rk_0 (by decide) (by decide)
          refine rn_aload_n (i := 0) dX10_means_93 rfl rfl ?_
          refine rn_iload_n (i := 2) dX10_means_94 rfl rfl ?_
          refine rn_bipush (v := (16 : Int32)) dX10_means_95 (by decide) ?_
          refine rs_addC (16) (21986) r2_ rk_16 dX10_means_97 (by decide) (fun v375 ev375 rv375 => ?_)
          refine rn_callV (a := 0) (b := 0) [.int v375] kl_SGModel_218 dX10_means_98 q1 hl1 rfl (t_X10_four G S ws hW o0_ m0_ v375 (rg_w rv375 (by decide) (by decide))) rfl rfl (Nat.le_of_ble_eq_true rfl) (Nat.le_of_ble_eq_true rfl) (Nat.le_of_ble_eq_true rfl) (Nat.le_of_ble_eq_true rfl) (Nat.le_of_ble_eq_true rfl) (Nat.le_of_ble_eq_true rfl) (fun _ _ h => False.elim h) (fun v9 w376 h377 => ?_)
          obtain ⟨rfl, v378, rfl, rv378⟩ := h377
          refine rn_stk [.int v378] rfl ?_
          refine rn_aload_n (i := 0) dX10_means_101 rfl rfl ?_
          obtain ⟨o380, hx380, m380⟩ := fs_r hf1 13 rfl
          refine rn_get q1 kg_SGModel_34 hl1 hx380 dX10_means_102 ?_
          refine rn_iload_n (i := 1) dX10_means_105 rfl rfl ?_
          obtain ⟨q381, f381, hq381, hl381, hf381⟩ := ts_ia hW m380 hk_44
          refine rs_iald q381 hl381 hf381 rfl r1_ (by decide) (by decide) dX10_means_106 (fun v382 ev382 rv382 => ?_)
          refine rn_aload_n (i := 0) dX10_means_107 rfl rfl ?_
          obtain ⟨o383, hx383, m383⟩ := fs_r hf1 14 rfl
          refine rn_get q1 kg_SGModel_37 hl1 hx383 dX10_means_108 ?_
          refine rn_iload_n (i := 1) dX10_means_111 rfl rfl ?_
          obtain ⟨q384, f384, hq384, hl384, hf384⟩ := ts_ia hW m383 hk_45
          refine rs_iald q384 hl384 hf384 rfl r1_ (by decide) (by decide) dX10_means_112 (fun v385 ev385 rv385 => ?_)
          refine rn_callS (a := 0) (b := 0) [.int v378, .int v382, .int v385] kl_SGModel_212 dX10_means_113 (t_X10_isIn G S ws hW v378 v382 v385) rfl rfl (Nat.le_of_ble_eq_true rfl) (Nat.le_of_ble_eq_true rfl) (Nat.le_of_ble_eq_true rfl) (Nat.le_of_ble_eq_true rfl) (Nat.le_of_ble_eq_true rfl) (Nat.le_of_ble_eq_true rfl) (fun _ _ h => False.elim h) (fun v9 w386 h387 => ?_)
          obtain ⟨rfl, v388, rfl, rv388⟩ := h387
          refine rn_stk [.int v388] rfl ?_
          refine rn_if_eq (tgt := 123) dX10_means_116 (by decide) (fun h390 => ?_) (fun h390 => ?_)
          · have ch390 := cv_eq h390
            have r391 : Rg (0) (0) v388 := rf_eqx ch390 rv388 rk_0 (by decide) (by decide)
            refine rn_iconst (v := (0 : Int32)) dX10_means_123 (by decide) ?_
            refine rn_istore dX10_means_124 (by decide) [(0, .ref o0_), (1, .int x1_), (2, .int x2_), (3, .int v4), (4, .int (1 : Int32)), (5, .int (1 : Int32)), (6, .int (0 : Int32))] rfl ?_
            refine rn_iload dX10_means_126 rfl ?_
            refine rn_if_eq (tgt := 168) dX10_means_128 (by decide) (fun h392 => (cx_eq (cv_eq h392) rk_1 rk_0 (by decide)).elim) (fun h392 => ?_)
            refine rn_iload dX10_means_131 rfl ?_
            refine rn_if_eq (tgt := 168) dX10_means_133 (by decide) (fun h393 => ?_) (fun h393 => (cx_ne (cv_ne h393) rk_0 rk_0 (by decide)).elim)
            refine rn_iconst (v := (0 : Int32)) dX10_means_168 (by decide) ?_
            exact rn_iret dX10_means_169 rfl rfl (rq_in ⟨rfl, (0 : Int32), rfl, (rg_w rk_0 (by decide) (by decide))⟩)
          · have ch390 := cv_ne h390
            have r394 : Rg (1) (1) v388 := rf_nel ch390 rv388 rk_0 (by decide) (by decide)
            refine rn_iconst (v := (1 : Int32)) dX10_means_119 (by decide) ?_
            refine rn_goto (tgt := 124) dX10_means_120 (by decide) ?_
            refine rn_istore dX10_means_124 (by decide) [(0, .ref o0_), (1, .int x1_), (2, .int x2_), (3, .int v4), (4, .int (1 : Int32)), (5, .int (1 : Int32)), (6, .int (1 : Int32))] rfl ?_
            refine rn_iload dX10_means_126 rfl ?_
            refine rn_if_eq (tgt := 168) dX10_means_128 (by decide) (fun h395 => (cx_eq (cv_eq h395) rk_1 rk_0 (by decide)).elim) (fun h395 => ?_)
            refine rn_iload dX10_means_131 rfl ?_
            refine rn_if_eq (tgt := 168) dX10_means_133 (by decide) (fun h396 => (cx_eq (cv_eq h396) rk_1 rk_0 (by decide)).elim) (fun h396 => ?_)
            refine rn_iload dX10_means_136 rfl ?_
            refine rn_if_ne (tgt := 164) dX10_means_138 (by decide) (fun h397 => ?_) (fun h397 => (cx_eq (cv_eq h397) rk_1 rk_0 (by decide)).elim)
            refine rn_iconst (v := (1 : Int32)) dX10_means_164 (by decide) ?_
            refine rn_goto (tgt := 169) dX10_means_165 (by decide) ?_
            exact rn_iret dX10_means_169 rfl rfl (rq_in ⟨rfl, (1 : Int32), rfl, (rg_w rk_1 (by decide) (by decide))⟩)
      · have ch353 := cv_ne h353
        refine rn_aload_n (i := 0) dX10_means_42 rfl rfl ?_
        refine rn_get q1 kg_SGModel_40 hl1 hx350 dX10_means_43 ?_
        refine rn_iload_n (i := 1) dX10_means_46 rfl rfl ?_
        refine rs_iald q351 hl351 hf351 rfl r1_ (by decide) (by decide) dX10_means_47 (fun v398 ev398 rv398 => ?_)
        refine rn_aload_n (i := 0) dX10_means_48 rfl rfl ?_
        obtain ⟨o399, hx399, m399⟩ := fs_r hf1 2 rfl
        refine rn_get q1 kg_SGModel_7 hl1 hx399 dX10_means_49 ?_
        refine rn_iload_n (i := 2) dX10_means_52 rfl rfl ?_
        refine rn_bipush (v := (9 : Int32)) dX10_means_53 (by decide) ?_
        refine rs_addC (9) (21979) r2_ rk_9 dX10_means_55 (by decide) (fun v400 ev400 rv400 => ?_)
        obtain ⟨q401, f401, hq401, hl401, hf401⟩ := ts_ia hW m399 hk_33
        refine rs_iald q401 hl401 hf401 rfl rv400 (by decide) (by decide) dX10_means_56 (fun v402 ev402 rv402 => ?_)
        refine rn_icmp_ne (tgt := 64) dX10_means_57 (by decide) (fun h403 => ?_) (fun h403 => ?_)
        · have ch403 := cv_ne h403
          refine rn_iconst (v := (0 : Int32)) dX10_means_64 (by decide) ?_
          refine rn_istore dX10_means_65 (by decide) [(0, .ref o0_), (1, .int x1_), (2, .int x2_), (3, .int v4), (4, .int (1 : Int32)), (5, .int (0 : Int32))] rfl ?_
          refine rn_aload_n (i := 0) dX10_means_67 rfl rfl ?_
          refine rn_iload_n (i := 2) dX10_means_68 rfl rfl ?_
          refine rn_bipush (v := (12 : Int32)) dX10_means_69 (by decide) ?_
          refine rs_addC (12) (21982) r2_ rk_12 dX10_means_71 (by decide) (fun v404 ev404 rv404 => ?_)
          refine rn_callV (a := 0) (b := 0) [.int v404] kl_SGModel_218 dX10_means_72 q1 hl1 rfl (t_X10_four G S ws hW o0_ m0_ v404 (rg_w rv404 (by decide) (by decide))) rfl rfl (Nat.le_of_ble_eq_true rfl) (Nat.le_of_ble_eq_true rfl) (Nat.le_of_ble_eq_true rfl) (Nat.le_of_ble_eq_true rfl) (Nat.le_of_ble_eq_true rfl) (Nat.le_of_ble_eq_true rfl) (fun _ _ h => False.elim h) (fun v9 w405 h406 => ?_)
          obtain ⟨rfl, v407, rfl, rv407⟩ := h406
          refine rn_stk [.int v407] rfl ?_
          refine rn_aload_n (i := 0) dX10_means_75 rfl rfl ?_
          obtain ⟨o409, hx409, m409⟩ := fs_r hf1 11 rfl
          refine rn_get q1 kg_SGModel_28 hl1 hx409 dX10_means_76 ?_
          refine rn_iload_n (i := 1) dX10_means_79 rfl rfl ?_
          obtain ⟨q410, f410, hq410, hl410, hf410⟩ := ts_ia hW m409 hk_42
          refine rs_iald q410 hl410 hf410 rfl r1_ (by decide) (by decide) dX10_means_80 (fun v411 ev411 rv411 => ?_)
          refine rn_aload_n (i := 0) dX10_means_81 rfl rfl ?_
          obtain ⟨o412, hx412, m412⟩ := fs_r hf1 12 rfl
          refine rn_get q1 kg_SGModel_31 hl1 hx412 dX10_means_82 ?_
          refine rn_iload_n (i := 1) dX10_means_85 rfl rfl ?_
          obtain ⟨q413, f413, hq413, hl413, hf413⟩ := ts_ia hW m412 hk_43
          refine rs_iald q413 hl413 hf413 rfl r1_ (by decide) (by decide) dX10_means_86 (fun v414 ev414 rv414 => ?_)
          refine rn_callS (a := 0) (b := 0) [.int v407, .int v411, .int v414] kl_SGModel_212 dX10_means_87 (t_X10_isIn G S ws hW v407 v411 v414) rfl rfl (Nat.le_of_ble_eq_true rfl) (Nat.le_of_ble_eq_true rfl) (Nat.le_of_ble_eq_true rfl) (Nat.le_of_ble_eq_true rfl) (Nat.le_of_ble_eq_true rfl) (Nat.le_of_ble_eq_true rfl) (fun _ _ h => False.elim h) (fun v9 w415 h416 => ?_)
          obtain ⟨rfl, v417, rfl, rv417⟩ := h416
          refine rn_stk [.int v417] rfl ?_
          refine rn_if_eq (tgt := 123) dX10_means_90 (by decide) (fun h419 => ?_) (fun h419 => ?_)
          · have ch419 := cv_eq h419
            have r420 : Rg (0) (0) v417 := rf_eqx ch419 rv417 rk_0 (by decide) (by decide)
            refine rn_iconst (v := (0 : Int32)) dX10_means_123 (by decide) ?_
            refine rn_istore dX10_means_124 (by decide) [(0, .ref o0_), (1, .int x1_), (2, .int x2_), (3, .int v4), (4, .int (1 : Int32)), (5, .int (0 : Int32)), (6, .int (0 : Int32))] rfl ?_
            refine rn_iload dX10_means_126 rfl ?_
            refine rn_if_eq (tgt := 168) dX10_means_128 (by decide) (fun h421 => ?_) (fun h421 => (cx_ne (cv_ne h421) rk_0 rk_0 (by decide)).elim)
            refine rn_iconst (v := (0 : Int32)) dX10_means_168 (by decide) ?_
            exact rn_iret dX10_means_169 rfl rfl (rq_in ⟨rfl, (0 : Int32), rfl, (rg_w rk_0 (by decide) (by decide))⟩)
          · have ch419 := cv_ne h419
            have r422 : Rg (1) (1) v417 := rf_nel ch419 rv417 rk_0 (by decide) (by decide)
            refine rn_aload_n (i := 0) dX10_means_93 rfl rfl ?_
            refine rn_iload_n (i := 2) dX10_means_94 rfl rfl ?_
            refine rn_bipush (v := (16 : Int32)) dX10_means_95 (by decide) ?_
            refine rs_addC (16) (21986) r2_ rk_16 dX10_means_97 (by decide) (fun v423 ev423 rv423 => ?_)
            refine rn_callV (a := 0) (b := 0) [.int v423] kl_SGModel_218 dX10_means_98 q1 hl1 rfl (t_X10_four G S ws hW o0_ m0_ v423 (rg_w rv423 (by decide) (by decide))) rfl rfl (Nat.le_of_ble_eq_true rfl) (Nat.le_of_ble_eq_true rfl) (Nat.le_of_ble_eq_true rfl) (Nat.le_of_ble_eq_true rfl) (Nat.le_of_ble_eq_true rfl) (Nat.le_of_ble_eq_true rfl) (fun _ _ h => False.elim h) (fun v9 w424 h425 => ?_)
            obtain ⟨rfl, v426, rfl, rv426⟩ := h425
            refine rn_stk [.int v426] rfl ?_
            refine rn_aload_n (i := 0) dX10_means_101 rfl rfl ?_
            obtain ⟨o428, hx428, m428⟩ := fs_r hf1 13 rfl
            refine rn_get q1 kg_SGModel_34 hl1 hx428 dX10_means_102 ?_
            refine rn_iload_n (i := 1) dX10_means_105 rfl rfl ?_
            obtain ⟨q429, f429, hq429, hl429, hf429⟩ := ts_ia hW m428 hk_44
            refine rs_iald q429 hl429 hf429 rfl r1_ (by decide) (by decide) dX10_means_106 (fun v430 ev430 rv430 => ?_)
            refine rn_aload_n (i := 0) dX10_means_107 rfl rfl ?_
            obtain ⟨o431, hx431, m431⟩ := fs_r hf1 14 rfl
            refine rn_get q1 kg_SGModel_37 hl1 hx431 dX10_means_108 ?_
            refine rn_iload_n (i := 1) dX10_means_111 rfl rfl ?_
            obtain ⟨q432, f432, hq432, hl432, hf432⟩ := ts_ia hW m431 hk_45
            refine rs_iald q432 hl432 hf432 rfl r1_ (by decide) (by decide) dX10_means_112 (fun v433 ev433 rv433 => ?_)
            refine rn_callS (a := 0) (b := 0) [.int v426, .int v430, .int v433] kl_SGModel_212 dX10_means_113 (t_X10_isIn G S ws hW v426 v430 v433) rfl rfl (Nat.le_of_ble_eq_true rfl) (Nat.le_of_ble_eq_true rfl) (Nat.le_of_ble_eq_true rfl) (Nat.le_of_ble_eq_true rfl) (Nat.le_of_ble_eq_true rfl) (Nat.le_of_ble_eq_true rfl) (fun _ _ h => False.elim h) (fun v9 w434 h435 => ?_)
            obtain ⟨rfl, v436, rfl, rv436⟩ := h435
            refine rn_stk [.int v436] rfl ?_
            refine rn_if_eq (tgt := 123) dX10_means_116 (by decide) (fun h438 => ?_) (fun h438 => ?_)
            · have ch438 := cv_eq h438
              have r439 : Rg (0) (0) v436 := rf_eqx ch438 rv436 rk_0 (by decide) (by decide)
              refine rn_iconst (v := (0 : Int32)) dX10_means_123 (by decide) ?_
              refine rn_istore dX10_means_124 (by decide) [(0, .ref o0_), (1, .int x1_), (2, .int x2_), (3, .int v4), (4, .int (1 : Int32)), (5, .int (0 : Int32)), (6, .int (0 : Int32))] rfl ?_
              refine rn_iload dX10_means_126 rfl ?_
              refine rn_if_eq (tgt := 168) dX10_means_128 (by decide) (fun h440 => ?_) (fun h440 => (cx_ne (cv_ne h440) rk_0 rk_0 (by decide)).elim)
              refine rn_iconst (v := (0 : Int32)) dX10_means_168 (by decide) ?_
              exact rn_iret dX10_means_169 rfl rfl (rq_in ⟨rfl, (0 : Int32), rfl, (rg_w rk_0 (by decide) (by decide))⟩)
            · have ch438 := cv_ne h438
              have r441 : Rg (1) (1) v436 := rf_nel ch438 rv436 rk_0 (by decide) (by decide)
              refine rn_iconst (v := (1 : Int32)) dX10_means_119 (by decide) ?_
              refine rn_goto (tgt := 124) dX10_means_120 (by decide) ?_
              refine rn_istore dX10_means_124 (by decide) [(0, .ref o0_), (1, .int x1_), (2, .int x2_), (3, .int v4), (4, .int (1 : Int32)), (5, .int (0 : Int32)), (6, .int (1 : Int32))] rfl ?_
              refine rn_iload dX10_means_126 rfl ?_
              refine rn_if_eq (tgt := 168) dX10_means_128 (by decide) (fun h442 => ?_) (fun h442 => (cx_ne (cv_ne h442) rk_0 rk_0 (by decide)).elim)
              refine rn_iconst (v := (0 : Int32)) dX10_means_168 (by decide) ?_
              exact rn_iret dX10_means_169 rfl rfl (rq_in ⟨rfl, (0 : Int32), rfl, (rg_w rk_0 (by decide) (by decide))⟩)
        · have ch403 := cv_eq h403
          have r443 : Rg (0) (255) v398 := rf_eqx ch403 rv398 rv402 (by decide) (by decide)
          refine rn_iconst (v := (1 : Int32)) dX10_means_60 (by decide) ?_
          refine rn_goto (tgt := 65) dX10_means_61 (by decide) ?_
          refine rn_istore dX10_means_65 (by decide) [(0, .ref o0_), (1, .int x1_), (2, .int x2_), (3, .int v4), (4, .int (1 : Int32)), (5, .int (1 : Int32))] rfl ?_
          refine rn_aload_n (i := 0) dX10_means_67 rfl rfl ?_
          refine rn_iload_n (i := 2) dX10_means_68 rfl rfl ?_
          refine rn_bipush (v := (12 : Int32)) dX10_means_69 (by decide) ?_
          refine rs_addC (12) (21982) r2_ rk_12 dX10_means_71 (by decide) (fun v444 ev444 rv444 => ?_)
          refine rn_callV (a := 0) (b := 0) [.int v444] kl_SGModel_218 dX10_means_72 q1 hl1 rfl (t_X10_four G S ws hW o0_ m0_ v444 (rg_w rv444 (by decide) (by decide))) rfl rfl (Nat.le_of_ble_eq_true rfl) (Nat.le_of_ble_eq_true rfl) (Nat.le_of_ble_eq_true rfl) (Nat.le_of_ble_eq_true rfl) (Nat.le_of_ble_eq_true rfl) (Nat.le_of_ble_eq_true rfl) (fun _ _ h => False.elim h) (fun v9 w445 h446 => ?_)
          obtain ⟨rfl, v447, rfl, rv447⟩ := h446
          refine rn_stk [.int v447] rfl ?_
          refine rn_aload_n (i := 0) dX10_means_75 rfl rfl ?_
          obtain ⟨o449, hx449, m449⟩ := fs_r hf1 11 rfl
          refine rn_get q1 kg_SGModel_28 hl1 hx449 dX10_means_76 ?_
          refine rn_iload_n (i := 1) dX10_means_79 rfl rfl ?_
          obtain ⟨q450, f450, hq450, hl450, hf450⟩ := ts_ia hW m449 hk_42
          refine rs_iald q450 hl450 hf450 rfl r1_ (by decide) (by decide) dX10_means_80 (fun v451 ev451 rv451 => ?_)
          refine rn_aload_n (i := 0) dX10_means_81 rfl rfl ?_
          obtain ⟨o452, hx452, m452⟩ := fs_r hf1 12 rfl
          refine rn_get q1 kg_SGModel_31 hl1 hx452 dX10_means_82 ?_
          refine rn_iload_n (i := 1) dX10_means_85 rfl rfl ?_
          obtain ⟨q453, f453, hq453, hl453, hf453⟩ := ts_ia hW m452 hk_43
          refine rs_iald q453 hl453 hf453 rfl r1_ (by decide) (by decide) dX10_means_86 (fun v454 ev454 rv454 => ?_)
          refine rn_callS (a := 0) (b := 0) [.int v447, .int v451, .int v454] kl_SGModel_212 dX10_means_87 (t_X10_isIn G S ws hW v447 v451 v454) rfl rfl (Nat.le_of_ble_eq_true rfl) (Nat.le_of_ble_eq_true rfl) (Nat.le_of_ble_eq_true rfl) (Nat.le_of_ble_eq_true rfl) (Nat.le_of_ble_eq_true rfl) (Nat.le_of_ble_eq_true rfl) (fun _ _ h => False.elim h) (fun v9 w455 h456 => ?_)
          obtain ⟨rfl, v457, rfl, rv457⟩ := h456
          refine rn_stk [.int v457] rfl ?_
          refine rn_if_eq (tgt := 123) dX10_means_90 (by decide) (fun h459 => ?_) (fun h459 => ?_)
          · have ch459 := cv_eq h459
            have r460 : Rg (0) (0) v457 := rf_eqx ch459 rv457 rk_0 (by decide) (by decide)
            refine rn_iconst (v := (0 : Int32)) dX10_means_123 (by decide) ?_
            refine rn_istore dX10_means_124 (by decide) [(0, .ref o0_), (1, .int x1_), (2, .int x2_), (3, .int v4), (4, .int (1 : Int32)), (5, .int (1 : Int32)), (6, .int (0 : Int32))] rfl ?_
            refine rn_iload dX10_means_126 rfl ?_
            refine rn_if_eq (tgt := 168) dX10_means_128 (by decide) (fun h461 => (cx_eq (cv_eq h461) rk_1 rk_0 (by decide)).elim) (fun h461 => ?_)
            refine rn_iload dX10_means_131 rfl ?_
            refine rn_if_eq (tgt := 168) dX10_means_133 (by decide) (fun h462 => ?_) (fun h462 => (cx_ne (cv_ne h462) rk_0 rk_0 (by decide)).elim)
            refine rn_iconst (v := (0 : Int32)) dX10_means_168 (by decide) ?_
            exact rn_iret dX10_means_169 rfl rfl (rq_in ⟨rfl, (0 : Int32), rfl, (rg_w rk_0 (by decide) (by decide))⟩)
          · have ch459 := cv_ne h459
            have r463 : Rg (1) (1) v457 := rf_nel ch459 rv457 rk_0 (by decide) (by decide)
            refine rn_aload_n (i := 0) dX10_means_93 rfl rfl ?_
            refine rn_iload_n (i := 2) dX10_means_94 rfl rfl ?_
            refine rn_bipush (v := (16 : Int32)) dX10_means_95 (by decide) ?_
            refine rs_addC (16) (21986) r2_ rk_16 dX10_means_97 (by decide) (fun v464 ev464 rv464 => ?_)
            refine rn_callV (a := 0) (b := 0) [.int v464] kl_SGModel_218 dX10_means_98 q1 hl1 rfl (t_X10_four G S ws hW o0_ m0_ v464 (rg_w rv464 (by decide) (by decide))) rfl rfl (Nat.le_of_ble_eq_true rfl) (Nat.le_of_ble_eq_true rfl) (Nat.le_of_ble_eq_true rfl) (Nat.le_of_ble_eq_true rfl) (Nat.le_of_ble_eq_true rfl) (Nat.le_of_ble_eq_true rfl) (fun _ _ h => False.elim h) (fun v9 w465 h466 => ?_)
            obtain ⟨rfl, v467, rfl, rv467⟩ := h466
            refine rn_stk [.int v467] rfl ?_
            refine rn_aload_n (i := 0) dX10_means_101 rfl rfl ?_
            obtain ⟨o469, hx469, m469⟩ := fs_r hf1 13 rfl
            refine rn_get q1 kg_SGModel_34 hl1 hx469 dX10_means_102 ?_
            refine rn_iload_n (i := 1) dX10_means_105 rfl rfl ?_
            obtain ⟨q470, f470, hq470, hl470, hf470⟩ := ts_ia hW m469 hk_44
            refine rs_iald q470 hl470 hf470 rfl r1_ (by decide) (by decide) dX10_means_106 (fun v471 ev471 rv471 => ?_)
            refine rn_aload_n (i := 0) dX10_means_107 rfl rfl ?_
            obtain ⟨o472, hx472, m472⟩ := fs_r hf1 14 rfl
            refine rn_get q1 kg_SGModel_37 hl1 hx472 dX10_means_108 ?_
            refine rn_iload_n (i := 1) dX10_means_111 rfl rfl ?_
            obtain ⟨q473, f473, hq473, hl473, hf473⟩ := ts_ia hW m472 hk_45
            refine rs_iald q473 hl473 hf473 rfl r1_ (by decide) (by decide) dX10_means_112 (fun v474 ev474 rv474 => ?_)
            refine rn_callS (a := 0) (b := 0) [.int v467, .int v471, .int v474] kl_SGModel_212 dX10_means_113 (t_X10_isIn G S ws hW v467 v471 v474) rfl rfl (Nat.le_of_ble_eq_true rfl) (Nat.le_of_ble_eq_true rfl) (Nat.le_of_ble_eq_true rfl) (Nat.le_of_ble_eq_true rfl) (Nat.le_of_ble_eq_true rfl) (Nat.le_of_ble_eq_true rfl) (fun _ _ h => False.elim h) (fun v9 w475 h476 => ?_)
            obtain ⟨rfl, v477, rfl, rv477⟩ := h476
            refine rn_stk [.int v477] rfl ?_
            refine rn_if_eq (tgt := 123) dX10_means_116 (by decide) (fun h479 => ?_) (fun h479 => ?_)
            · have ch479 := cv_eq h479
              have r480 : Rg (0) (0) v477 := rf_eqx ch479 rv477 rk_0 (by decide) (by decide)
              refine rn_iconst (v := (0 : Int32)) dX10_means_123 (by decide) ?_
              refine rn_istore dX10_means_124 (by decide) [(0, .ref o0_), (1, .int x1_), (2, .int x2_), (3, .int v4), (4, .int (1 : Int32)), (5, .int (1 : Int32)), (6, .int (0 : Int32))] rfl ?_
              refine rn_iload dX10_means_126 rfl ?_
              refine rn_if_eq (tgt := 168) dX10_means_128 (by decide) (fun h481 => (cx_eq (cv_eq h481) rk_1 rk_0 (by decide)).elim) (fun h481 => ?_)
              refine rn_iload dX10_means_131 rfl ?_
              refine rn_if_eq (tgt := 168) dX10_means_133 (by decide) (fun h482 => ?_) (fun h482 => (cx_ne (cv_ne h482) rk_0 rk_0 (by decide)).elim)
              refine rn_iconst (v := (0 : Int32)) dX10_means_168 (by decide) ?_
              exact rn_iret dX10_means_169 rfl rfl (rq_in ⟨rfl, (0 : Int32), rfl, (rg_w rk_0 (by decide) (by decide))⟩)
            · have ch479 := cv_ne h479
              have r483 : Rg (1) (1) v477 := rf_nel ch479 rv477 rk_0 (by decide) (by decide)
              refine rn_iconst (v := (1 : Int32)) dX10_means_119 (by decide) ?_
              refine rn_goto (tgt := 124) dX10_means_120 (by decide) ?_
              refine rn_istore dX10_means_124 (by decide) [(0, .ref o0_), (1, .int x1_), (2, .int x2_), (3, .int v4), (4, .int (1 : Int32)), (5, .int (1 : Int32)), (6, .int (1 : Int32))] rfl ?_
              refine rn_iload dX10_means_126 rfl ?_
              refine rn_if_eq (tgt := 168) dX10_means_128 (by decide) (fun h484 => (cx_eq (cv_eq h484) rk_1 rk_0 (by decide)).elim) (fun h484 => ?_)
              refine rn_iload dX10_means_131 rfl ?_
              refine rn_if_eq (tgt := 168) dX10_means_133 (by decide) (fun h485 => (cx_eq (cv_eq h485) rk_1 rk_0 (by decide)).elim) (fun h485 => ?_)
              refine rn_iload dX10_means_136 rfl ?_
              refine rn_if_ne (tgt := 164) dX10_means_138 (by decide) (fun h486 => ?_) (fun h486 => (cx_eq (cv_eq h486) rk_1 rk_0 (by decide)).elim)
              refine rn_iconst (v := (1 : Int32)) dX10_means_164 (by decide) ?_
              refine rn_goto (tgt := 169) dX10_means_165 (by decide) ?_
              exact rn_iret dX10_means_169 rfl rfl (rq_in ⟨rfl, (1 : Int32), rfl, (rg_w rk_1 (by decide) (by decide))⟩)
