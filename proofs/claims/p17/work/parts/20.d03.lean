theorem ad_heap {G : rn_G} {S : ts_S} {ws : va_W} (hW : ts_W G S ws) (q p p0 p1 : Nat) : ∃ S9, St G S [] ws S9 (ws ++ [(q, .inr (0, [.ref p, .ref p1, .int 0, .int 0, .int 0, .int 0, .int 0, .int 0])), (p, .inr (4, [.ref p0, .int 0])), (p0, .inl (rn_k G 0, 2040, .inl (fun _ => 0))), (p1, .inl (rn_k G 0, 1980, .inl (fun _ => 0)))]) ∧ (q, 0) ∈ S9 := by
  refine ⟨S ++ [(q, 0), (p, 4), (p0, 11), (p1, 12)], St.apps (St.rf hW) [(q, 0), (p, 4), (p0, 11), (p1, 12)] _ rfl rfl ?_, by simp⟩
  intro i x hi
  have z0 : ∀ j : Nat, j < 2040 → Rg (-128) 127 ((fun _ : Nat => (0 : Int32)) j) := fun j _ => (show Rg (-128) 127 (0 : Int32) by unfold Rg; decide)
  have z1 : ∀ j : Nat, j < 1980 → Rg (-128) 127 ((fun _ : Nat => (0 : Int32)) j) := fun j _ => (show Rg (-128) 127 (0 : Int32) by unfold Rg; decide)
  rcases i with _ | _ | _ | _ | i
  · cases hi
    refine ⟨_, rfl, ?_⟩
    rw [hk_0]
    exact Or.inl ⟨rfl, _, rfl, ts_fs_cons (tv_r (by simp)) (ts_fs_cons (tv_r (by simp)) (ts_fs_cons (tv_i (rg_any _)) (ts_fs_cons (tv_i (rg_any _)) (ts_fs_cons (tv_i (rg_any _)) (ts_fs_cons (tv_i (rg_any _)) (ts_fs_cons (tv_i (rg_any _)) (ts_fs_cons (tv_i (rg_any _)) ts_fs_nil)))))))⟩
  · cases hi
    refine ⟨_, rfl, ?_⟩
    rw [hk_4]
    exact Or.inl ⟨rfl, _, rfl, ts_fs_cons (tv_r (by simp)) (ts_fs_cons (tv_i (by unfold Rg; decide)) ts_fs_nil)⟩
  · cases hi
    refine ⟨_, rfl, ?_⟩
    rw [hk_11]
    exact Or.inr (Or.inl ⟨rfl, _, rfl, z0⟩)
  · cases hi
    refine ⟨_, rfl, ?_⟩
    rw [hk_12]
    exact Or.inr (Or.inl ⟨rfl, _, rfl, z1⟩)
  · cases hi
abbrev q_t_X1_begin (G : rn_G) (S : ts_S) (ws : va_W) : rn_R → va_W → Prop := rQ (fun v w => ∃ S' : ts_S, St G S [0, 1, 4, 12, 13] ws S' w ∧ (∃ o : Nat, v = some (.ref o) ∧ (o, 0) ∈ S')) (fun E w => False)
set_option maxRecDepth 20000 in
set_option maxHeartbeats 4000000 in
theorem t_X1_begin (G : rn_G) (S : ts_S) (ws : va_W) (hW : ts_W G S ws) (o0_ : Nat) (m0_ : (o0_, 1) ∈ S) (o1_ : Nat) (m1_ : (o1_, 4) ∈ S) : Rn G mX1_begin 3 63 5 4030 0 (lv_args 0 [.ref o0_, .ref o1_]) [] ws (q_t_X1_begin G S ws ) := by
  have hS0 : St G S [0, 1, 4, 12, 13] ws S ws := St.rf hW
  refine rn_lv [(0, .ref o0_), (1, .ref o1_)] rfl ?_
  refine rn_aload_n (i := 0) dX1_begin_0 rfl rfl ?_
  obtain ⟨q1, fs1, hq1, hl1, hf1⟩ := ts_obj hS0.1 m0_ hk_1
  obtain ⟨x2, hx2, rx2⟩ := fs_i hf1 1 rfl
  refine rn_get q1 kg_SG_Heaps_17 hl1 hx2 dX1_begin_1 ?_
  refine rn_iconst (v := (4 : Int32)) dX1_begin_4 (by decide) ?_
  refine rn_icmp_lt (tgt := 13) dX1_begin_5 (by decide) (fun h3 => ?_) (fun h3 => ?_)
  · have ch3 := cv_lt h3
    have r4 : Rg (0) (3) x2 := rf_ltx ch3 rx2 rk_4 (by decide)
    refine rn_aload_n (i := 0) dX1_begin_13 rfl rfl ?_
    refine rn_get q1 kg_SG_Heaps_17 hl1 hx2 dX1_begin_14 ?_
    refine rn_if_lt (tgt := 40) dX1_begin_17 (by decide) (fun h5 => (cx_lt (cv_lt h5) r4 rk_0 (by decide)).elim) (fun h5 => ?_)
    have ch5 := cv_nlt h5
    refine rn_aload_n (i := 0) dX1_begin_20 rfl rfl ?_
    refine rn_get q1 kg_SG_Heaps_17 hl1 hx2 dX1_begin_21 ?_
    refine rn_iconst (v := (4 : Int32)) dX1_begin_24 (by decide) ?_
    refine rn_icmp_ge (tgt := 40) dX1_begin_25 (by decide) (fun h6 => (cx_le (cv_le h6) rk_4 r4 (by decide)).elim) (fun h6 => ?_)
    have ch6 := cv_nle h6
    refine rn_aload_n (i := 0) dX1_begin_28 rfl rfl ?_
    obtain ⟨o7, hx7, m7⟩ := fs_r hf1 0 rfl
    refine rn_get q1 kg_SG_Heaps_13 hl1 hx7 dX1_begin_29 ?_
    refine rn_aload_n (i := 0) dX1_begin_32 rfl rfl ?_
    refine rn_get q1 kg_SG_Heaps_17 hl1 hx2 dX1_begin_33 ?_
    obtain ⟨q8, f8, hq8, hl8, hf8⟩ := ts_ra hS0.1 m7 hk_13
    refine rs_aald q8 hl8 hf8 rfl r4 (by decide) (by decide) dX1_begin_36 ?_ (fun o9 mo9 => ?_)
    · refine rn_goto (tgt := 41) dX1_begin_37 (by decide) ?_
      refine rn_astore_nN dX1_begin_41 rfl (by decide) [(0, .ref o0_), (1, .ref o1_), (2, .null)] rfl ?_
      refine rn_aload_nN (i := 2) dX1_begin_42 rfl rfl ?_
      refine rn_ifnonnullN dX1_begin_43 ?_
      refine rn_new (a := 4) (b := 4022) kn_SG_Heaps_11 (Nat.le_of_ble_eq_true rfl) (Nat.le_of_ble_eq_true rfl) dX1_begin_46 (fun q10 => ?_)
      refine rn_dup dX1_begin_49 rfl ?_
      refine rn_callIN (a := 0) (b := 0) [] kl_SG_Heaps_67 dX1_begin_50 (n_X0_init G ws q10 ) rq_no rfl rfl (Nat.le_of_ble_eq_true rfl) (Nat.le_of_ble_eq_true rfl) (Nat.le_of_ble_eq_true rfl) (Nat.le_of_ble_eq_true rfl) (Nat.le_of_ble_eq_true rfl) (Nat.le_of_ble_eq_true rfl) (fun v9 w11 h12 => ?_)
      obtain ⟨rfl, p13_0, p13_1, p13_2, hw13⟩ := h12
      obtain ⟨S13, hT13, m13⟩ : ∃ S9, St G S [] ws S9 w11 ∧ (q10, 0) ∈ S9 := by rw [hw13]; exact ad_heap hS0.1 q10 p13_0 p13_1 p13_2
      have hS13 := St.tr hS0 hT13 rfl
      refine rn_stk [.ref q10] rfl ?_
      refine rn_astore_n dX1_begin_53 rfl (by decide) [(0, .ref o0_), (1, .ref o1_), (2, .ref q10)] rfl ?_
      refine rn_aload_n (i := 0) dX1_begin_54 rfl rfl ?_
      refine rn_get q1 kg_SG_Heaps_17 (hT13.fr hq1 rfl hl1) hx2 dX1_begin_55 ?_
      refine rn_if_lt (tgt := 89) dX1_begin_58 (by decide) (fun h14 => (cx_lt (cv_lt h14) r4 rk_0 (by decide)).elim) (fun h14 => ?_)
      have ch14 := cv_nlt h14
      refine rn_aload_n (i := 0) dX1_begin_61 rfl rfl ?_
      refine rn_get q1 kg_SG_Heaps_17 (hT13.fr hq1 rfl hl1) hx2 dX1_begin_62 ?_
      refine rn_iconst (v := (4 : Int32)) dX1_begin_65 (by decide) ?_
      refine rn_icmp_ge (tgt := 89) dX1_begin_66 (by decide) (fun h15 => (cx_le (cv_le h15) rk_4 r4 (by decide)).elim) (fun h15 => ?_)
      have ch15 := cv_nle h15
      refine rn_aload_n (i := 0) dX1_begin_69 rfl rfl ?_
      refine rn_get q1 kg_SG_Heaps_13 (hT13.fr hq1 rfl hl1) hx7 dX1_begin_70 ?_
      refine rn_aload_n (i := 0) dX1_begin_73 rfl rfl ?_
      refine rn_get q1 kg_SG_Heaps_17 (hT13.fr hq1 rfl hl1) hx2 dX1_begin_74 ?_
      refine rn_aload_n (i := 2) dX1_begin_77 rfl rfl ?_
      obtain ⟨q18, fs18, hq18, hl18, hf18⟩ := ts_obj hS13.1 m13 hk_0
      refine rs_aast q8 hS13 (hT13.pos hq8) (hT13.fr hq8 rfl hl8) (fun j o' hj => hT13.mem (hf8 j o' hj)) hk_13 rfl rfl m13 hl18 rfl r4 (by decide) (by decide) dX1_begin_78 (fun w16 f17 hS17 hl17 hf17 hu17 hn17 => ?_)
      refine rn_aload_n (i := 0) dX1_begin_79 rfl rfl ?_
      refine rn_dup dX1_begin_80 rfl ?_
      refine rn_get q1 kg_SG_Heaps_17 ((hn17 _ (ts_ne (hT13.pos hq8) (hT13.pos hq1) rfl)).trans (hT13.fr hq1 rfl hl1)) hx2 dX1_begin_81 ?_
      refine rn_iconst (v := (1 : Int32)) dX1_begin_84 (by decide) ?_
      refine rs_addC (1) (4) r4 rk_1 dX1_begin_85 (by decide) (fun v19 ev19 rv19 => ?_)
      refine rs_put q1 (kp_SG_Heaps_17 _) hS17 (hT13.pos hq1) ((hn17 _ (ts_ne (hT13.pos hq8) (hT13.pos hq1) rfl)).trans (hT13.fr hq1 rfl hl1)) (ts_fs.mono (fun p hp => hT13.mem hp) hf1) hk_1 rfl rfl (tv_i (rg_w rv19 (by decide) (by decide))) rfl rfl dX1_begin_86 (fun w20 fs21 hS21 hl21 hf21 hx21 ho21 hn21 => ?_)
      refine rn_aload_n (i := 2) dX1_begin_89 rfl rfl ?_
      refine rn_aload_n (i := 1) dX1_begin_90 rfl rfl ?_
      refine rn_callV (a := 0) (b := 0) [.ref o1_] kl_SG_Heaps_68 dX1_begin_91 q18 ((hn21 _ (ts_ne (hT13.pos hq1) hq18 rfl)).trans ((hn17 _ (ts_ne (hT13.pos hq8) hq18 rfl)).trans hl18)) rfl (t_X0_begin G S13 w20 hS21.1 q10 m13 o1_ (hT13.mem m1_)) rfl rfl (Nat.le_of_ble_eq_true rfl) (Nat.le_of_ble_eq_true rfl) (Nat.le_of_ble_eq_true rfl) (Nat.le_of_ble_eq_true rfl) (Nat.le_of_ble_eq_true rfl) (Nat.le_of_ble_eq_true rfl) (fun _ _ h => False.elim h) (fun v9 w22 h23 => ?_)
      obtain ⟨hT24, rfl⟩ := h23
      have hS24 := St.tr hS21 hT24 rfl
      refine rn_stk [] rfl ?_
      refine rn_aload_n (i := 2) dX1_begin_94 rfl rfl ?_
      exact rn_aret dX1_begin_95 rfl (rq_in ⟨S13, hS24, q10, rfl, m13⟩)
    · refine rn_goto (tgt := 41) dX1_begin_37 (by decide) ?_
      refine rn_astore_n dX1_begin_41 rfl (by decide) [(0, .ref o0_), (1, .ref o1_), (2, .ref o9)] rfl ?_
      refine rn_aload_n (i := 2) dX1_begin_42 rfl rfl ?_
      refine rn_ifnonnull (tgt := 54) dX1_begin_43 (by decide) ?_
      refine rn_aload_n (i := 0) dX1_begin_54 rfl rfl ?_
      refine rn_get q1 kg_SG_Heaps_17 hl1 hx2 dX1_begin_55 ?_
      refine rn_if_lt (tgt := 89) dX1_begin_58 (by decide) (fun h25 => (cx_lt (cv_lt h25) r4 rk_0 (by decide)).elim) (fun h25 => ?_)
      have ch25 := cv_nlt h25
      refine rn_aload_n (i := 0) dX1_begin_61 rfl rfl ?_
      refine rn_get q1 kg_SG_Heaps_17 hl1 hx2 dX1_begin_62 ?_
      refine rn_iconst (v := (4 : Int32)) dX1_begin_65 (by decide) ?_
      refine rn_icmp_ge (tgt := 89) dX1_begin_66 (by decide) (fun h26 => (cx_le (cv_le h26) rk_4 r4 (by decide)).elim) (fun h26 => ?_)
      have ch26 := cv_nle h26
      refine rn_aload_n (i := 0) dX1_begin_69 rfl rfl ?_
      refine rn_get q1 kg_SG_Heaps_13 hl1 hx7 dX1_begin_70 ?_
      refine rn_aload_n (i := 0) dX1_begin_73 rfl rfl ?_
      refine rn_get q1 kg_SG_Heaps_17 hl1 hx2 dX1_begin_74 ?_
      refine rn_aload_n (i := 2) dX1_begin_77 rfl rfl ?_
      obtain ⟨q29, fs29, hq29, hl29, hf29⟩ := ts_obj hS0.1 mo9 hk_0
      refine rs_aast q8 hS0 hq8 hl8 hf8 hk_13 rfl rfl mo9 hl29 rfl r4 (by decide) (by decide) dX1_begin_78 (fun w27 f28 hS28 hl28 hf28 hu28 hn28 => ?_)
      refine rn_aload_n (i := 0) dX1_begin_79 rfl rfl ?_
      refine rn_dup dX1_begin_80 rfl ?_
      refine rn_get q1 kg_SG_Heaps_17 ((hn28 _ (ts_ne hq8 hq1 rfl)).trans hl1) hx2 dX1_begin_81 ?_
      refine rn_iconst (v := (1 : Int32)) dX1_begin_84 (by decide) ?_
      refine rs_addC (1) (4) r4 rk_1 dX1_begin_85 (by decide) (fun v30 ev30 rv30 => ?_)
      refine rs_put q1 (kp_SG_Heaps_17 _) hS28 hq1 ((hn28 _ (ts_ne hq8 hq1 rfl)).trans hl1) hf1 hk_1 rfl rfl (tv_i (rg_w rv30 (by decide) (by decide))) rfl rfl dX1_begin_86 (fun w31 fs32 hS32 hl32 hf32 hx32 ho32 hn32 => ?_)
      refine rn_aload_n (i := 2) dX1_begin_89 rfl rfl ?_
      refine rn_aload_n (i := 1) dX1_begin_90 rfl rfl ?_
      refine rn_callV (a := 5) (b := 4030) [.ref o1_] kl_SG_Heaps_68 dX1_begin_91 q29 ((hn32 _ (ts_ne hq1 hq29 rfl)).trans ((hn28 _ (ts_ne hq8 hq29 rfl)).trans hl29)) rfl (t_X0_begin G S w31 hS32.1 o9 mo9 o1_ m1_) rfl rfl (Nat.le_of_ble_eq_true rfl) (Nat.le_of_ble_eq_true rfl) (Nat.le_of_ble_eq_true rfl) (Nat.le_of_ble_eq_true rfl) (Nat.le_of_ble_eq_true rfl) (Nat.le_of_ble_eq_true rfl) (fun _ _ h => False.elim h) (fun v9 w33 h34 => ?_)
      obtain ⟨hT35, rfl⟩ := h34
      have hS35 := St.tr hS32 hT35 rfl
      refine rn_stk [] rfl ?_
      refine rn_aload_n (i := 2) dX1_begin_94 rfl rfl ?_
      exact rn_aret dX1_begin_95 rfl (rq_in ⟨S, hS35, o9, rfl, mo9⟩)
  · have ch3 := cv_nlt h3
    have r36 : Rg (4) (4) x2 := rf_ley ch3 rk_4 rx2 (by decide)
    refine rn_aload_n (i := 0) dX1_begin_8 rfl rfl ?_
    refine rn_iconst (v := (0 : Int32)) dX1_begin_9 (by decide) ?_
    refine rn_callV (a := 5) (b := 4030) [.int (0 : Int32)] kl_SG_Heaps_31 dX1_begin_10 q1 hl1 rfl (t_X1_drop G S ws hS0.1 o0_ m0_ (0 : Int32)) rfl rfl (Nat.le_of_ble_eq_true rfl) (Nat.le_of_ble_eq_true rfl) (Nat.le_of_ble_eq_true rfl) (Nat.le_of_ble_eq_true rfl) (Nat.le_of_ble_eq_true rfl) (Nat.le_of_ble_eq_true rfl) (fun _ _ h => False.elim h) (fun v9 w37 h38 => ?_)
    obtain ⟨hT39, rfl⟩ := h38
    have hS39 := St.tr hS0 hT39 rfl
    refine rn_stk [] rfl ?_
    refine rn_aload_n (i := 0) dX1_begin_13 rfl rfl ?_
    obtain ⟨q40, fs40, hq40, hl40, hf40⟩ := ts_obj hS39.1 m0_ hk_1
    obtain ⟨x41, hx41, rx41⟩ := fs_i hf40 1 rfl
    refine rn_get q40 kg_SG_Heaps_17 hl40 hx41 dX1_begin_14 ?_
    refine rn_if_lt (tgt := 40) dX1_begin_17 (by decide) (fun h42 => (cx_lt (cv_lt h42) rx41 rk_0 (by decide)).elim) (fun h42 => ?_)
    have ch42 := cv_nlt h42
    refine rn_aload_n (i := 0) dX1_begin_20 rfl rfl ?_
    refine rn_get q40 kg_SG_Heaps_17 hl40 hx41 dX1_begin_21 ?_
    refine rn_iconst (v := (4 : Int32)) dX1_begin_24 (by decide) ?_
    refine rn_icmp_ge (tgt := 40) dX1_begin_25 (by decide) (fun h43 => ?_) (fun h43 => ?_)
    · have ch43 := cv_le h43
      have r44 : Rg (4) (4) x41 := rf_ley ch43 rk_4 rx41 (by decide)
      refine rn_null dX1_begin_40 ?_
      refine rn_astore_nN dX1_begin_41 rfl (by decide) [(0, .ref o0_), (1, .ref o1_), (2, .null)] rfl ?_
      refine rn_aload_nN (i := 2) dX1_begin_42 rfl rfl ?_
      refine rn_ifnonnullN dX1_begin_43 ?_
      refine rn_new (a := 4) (b := 4022) kn_SG_Heaps_11 (Nat.le_of_ble_eq_true rfl) (Nat.le_of_ble_eq_true rfl) dX1_begin_46 (fun q45 => ?_)
      refine rn_dup dX1_begin_49 rfl ?_
      refine rn_callIN (a := 0) (b := 0) [] kl_SG_Heaps_67 dX1_begin_50 (n_X0_init G w37 q45 ) rq_no rfl rfl (Nat.le_of_ble_eq_true rfl) (Nat.le_of_ble_eq_true rfl) (Nat.le_of_ble_eq_true rfl) (Nat.le_of_ble_eq_true rfl) (Nat.le_of_ble_eq_true rfl) (Nat.le_of_ble_eq_true rfl) (fun v9 w46 h47 => ?_)
      obtain ⟨rfl, p48_0, p48_1, p48_2, hw48⟩ := h47
      obtain ⟨S48, hT48, m48⟩ : ∃ S9, St G S [] w37 S9 w46 ∧ (q45, 0) ∈ S9 := by rw [hw48]; exact ad_heap hS39.1 q45 p48_0 p48_1 p48_2
      have hS48 := St.tr hS39 hT48 rfl
      refine rn_stk [.ref q45] rfl ?_
      refine rn_astore_n dX1_begin_53 rfl (by decide) [(0, .ref o0_), (1, .ref o1_), (2, .ref q45)] rfl ?_
      refine rn_aload_n (i := 0) dX1_begin_54 rfl rfl ?_
      refine rn_get q40 kg_SG_Heaps_17 (hT48.fr hq40 rfl hl40) hx41 dX1_begin_55 ?_
      refine rn_if_lt (tgt := 89) dX1_begin_58 (by decide) (fun h49 => (cx_lt (cv_lt h49) r44 rk_0 (by decide)).elim) (fun h49 => ?_)
      have ch49 := cv_nlt h49
      refine rn_aload_n (i := 0) dX1_begin_61 rfl rfl ?_
      refine rn_get q40 kg_SG_Heaps_17 (hT48.fr hq40 rfl hl40) hx41 dX1_begin_62 ?_
      refine rn_iconst (v := (4 : Int32)) dX1_begin_65 (by decide) ?_
      refine rn_icmp_ge (tgt := 89) dX1_begin_66 (by decide) (fun h50 => ?_) (fun h50 => (cx_lt (cv_nle h50) r44 rk_4 (by decide)).elim)
      have ch50 := cv_le h50
      refine rn_aload_n (i := 2) dX1_begin_89 rfl rfl ?_
      refine rn_aload_n (i := 1) dX1_begin_90 rfl rfl ?_
      obtain ⟨q51, fs51, hq51, hl51, hf51⟩ := ts_obj hS48.1 m48 hk_0
      refine rn_callV (a := 0) (b := 0) [.ref o1_] kl_SG_Heaps_68 dX1_begin_91 q51 hl51 rfl (t_X0_begin G S48 w46 hS48.1 q45 m48 o1_ (hT48.mem m1_)) rfl rfl (Nat.le_of_ble_eq_true rfl) (Nat.le_of_ble_eq_true rfl) (Nat.le_of_ble_eq_true rfl) (Nat.le_of_ble_eq_true rfl) (Nat.le_of_ble_eq_true rfl) (Nat.le_of_ble_eq_true rfl) (fun _ _ h => False.elim h) (fun v9 w52 h53 => ?_)
      obtain ⟨hT54, rfl⟩ := h53
      have hS54 := St.tr hS48 hT54 rfl
      refine rn_stk [] rfl ?_
      refine rn_aload_n (i := 2) dX1_begin_94 rfl rfl ?_
      exact rn_aret dX1_begin_95 rfl (rq_in ⟨S48, hS54, q45, rfl, m48⟩)
    · have ch43 := cv_nle h43
      have r55 : Rg (0) (3) x41 := rf_ltx ch43 rx41 rk_4 (by decide)
      refine rn_aload_n (i := 0) dX1_begin_28 rfl rfl ?_
      obtain ⟨o56, hx56, m56⟩ := fs_r hf40 0 rfl
      refine rn_get q40 kg_SG_Heaps_13 hl40 hx56 dX1_begin_29 ?_
      refine rn_aload_n (i := 0) dX1_begin_32 rfl rfl ?_
      refine rn_get q40 kg_SG_Heaps_17 hl40 hx41 dX1_begin_33 ?_
      obtain ⟨q57, f57, hq57, hl57, hf57⟩ := ts_ra hS39.1 m56 hk_13
      refine rs_aald q57 hl57 hf57 rfl r55 (by decide) (by decide) dX1_begin_36 ?_ (fun o58 mo58 => ?_)
      · refine rn_goto (tgt := 41) dX1_begin_37 (by decide) ?_
        refine rn_astore_nN dX1_begin_41 rfl (by decide) [(0, .ref o0_), (1, .ref o1_), (2, .null)] rfl ?_
        refine rn_aload_nN (i := 2) dX1_begin_42 rfl rfl ?_
        refine rn_ifnonnullN dX1_begin_43 ?_
        refine rn_new (a := 4) (b := 4022) kn_SG_Heaps_11 (Nat.le_of_ble_eq_true rfl) (Nat.le_of_ble_eq_true rfl) dX1_begin_46 (fun q59 => ?_)
        refine rn_dup dX1_begin_49 rfl ?_
        refine rn_callIN (a := 0) (b := 0) [] kl_SG_Heaps_67 dX1_begin_50 (n_X0_init G w37 q59 ) rq_no rfl rfl (Nat.le_of_ble_eq_true rfl) (Nat.le_of_ble_eq_true rfl) (Nat.le_of_ble_eq_true rfl) (Nat.le_of_ble_eq_true rfl) (Nat.le_of_ble_eq_true rfl) (Nat.le_of_ble_eq_true rfl) (fun v9 w60 h61 => ?_)
        obtain ⟨rfl, p62_0, p62_1, p62_2, hw62⟩ := h61
        obtain ⟨S62, hT62, m62⟩ : ∃ S9, St G S [] w37 S9 w60 ∧ (q59, 0) ∈ S9 := by rw [hw62]; exact ad_heap hS39.1 q59 p62_0 p62_1 p62_2
        have hS62 := St.tr hS39 hT62 rfl
        refine rn_stk [.ref q59] rfl ?_
        refine rn_astore_n dX1_begin_53 rfl (by decide) [(0, .ref o0_), (1, .ref o1_), (2, .ref q59)] rfl ?_
        refine rn_aload_n (i := 0) dX1_begin_54 rfl rfl ?_
        refine rn_get q40 kg_SG_Heaps_17 (hT62.fr hq40 rfl hl40) hx41 dX1_begin_55 ?_
        refine rn_if_lt (tgt := 89) dX1_begin_58 (by decide) (fun h63 => (cx_lt (cv_lt h63) r55 rk_0 (by decide)).elim) (fun h63 => ?_)
        have ch63 := cv_nlt h63
        refine rn_aload_n (i := 0) dX1_begin_61 rfl rfl ?_
        refine rn_get q40 kg_SG_Heaps_17 (hT62.fr hq40 rfl hl40) hx41 dX1_begin_62 ?_
        refine rn_iconst (v := (4 : Int32)) dX1_begin_65 (by decide) ?_
        refine rn_icmp_ge (tgt := 89) dX1_begin_66 (by decide) (fun h64 => (cx_le (cv_le h64) rk_4 r55 (by decide)).elim) (fun h64 => ?_)
        have ch64 := cv_nle h64
        refine rn_aload_n (i := 0) dX1_begin_69 rfl rfl ?_
        refine rn_get q40 kg_SG_Heaps_13 (hT62.fr hq40 rfl hl40) hx56 dX1_begin_70 ?_
        refine rn_aload_n (i := 0) dX1_begin_73 rfl rfl ?_
        refine rn_get q40 kg_SG_Heaps_17 (hT62.fr hq40 rfl hl40) hx41 dX1_begin_74 ?_
        refine rn_aload_n (i := 2) dX1_begin_77 rfl rfl ?_
        obtain ⟨q67, fs67, hq67, hl67, hf67⟩ := ts_obj hS62.1 m62 hk_0
        refine rs_aast q57 hS62 (hT62.pos hq57) (hT62.fr hq57 rfl hl57) (fun j o' hj => hT62.mem (hf57 j o' hj)) hk_13 rfl rfl m62 hl67 rfl r55 (by decide) (by decide) dX1_begin_78 (fun w65 f66 hS66 hl66 hf66 hu66 hn66 => ?_)
        refine rn_aload_n (i := 0) dX1_begin_79 rfl rfl ?_
        refine rn_dup dX1_begin_80 rfl ?_
        refine rn_get q40 kg_SG_Heaps_17 ((hn66 _ (ts_ne (hT62.pos hq57) (hT62.pos hq40) rfl)).trans (hT62.fr hq40 rfl hl40)) hx41 dX1_begin_81 ?_
        refine rn_iconst (v := (1 : Int32)) dX1_begin_84 (by decide) ?_
        refine rs_addC (1) (4) r55 rk_1 dX1_begin_85 (by decide) (fun v68 ev68 rv68 => ?_)
        refine rs_put q40 (kp_SG_Heaps_17 _) hS66 (hT62.pos hq40) ((hn66 _ (ts_ne (hT62.pos hq57) (hT62.pos hq40) rfl)).trans (hT62.fr hq40 rfl hl40)) (ts_fs.mono (fun p hp => hT62.mem hp) hf40) hk_1 rfl rfl (tv_i (rg_w rv68 (by decide) (by decide))) rfl rfl dX1_begin_86 (fun w69 fs70 hS70 hl70 hf70 hx70 ho70 hn70 => ?_)
        refine rn_aload_n (i := 2) dX1_begin_89 rfl rfl ?_
        refine rn_aload_n (i := 1) dX1_begin_90 rfl rfl ?_
        refine rn_callV (a := 0) (b := 0) [.ref o1_] kl_SG_Heaps_68 dX1_begin_91 q67 ((hn70 _ (ts_ne (hT62.pos hq40) hq67 rfl)).trans ((hn66 _ (ts_ne (hT62.pos hq57) hq67 rfl)).trans hl67)) rfl (t_X0_begin G S62 w69 hS70.1 q59 m62 o1_ (hT62.mem m1_)) rfl rfl (Nat.le_of_ble_eq_true rfl) (Nat.le_of_ble_eq_true rfl) (Nat.le_of_ble_eq_true rfl) (Nat.le_of_ble_eq_true rfl) (Nat.le_of_ble_eq_true rfl) (Nat.le_of_ble_eq_true rfl) (fun _ _ h => False.elim h) (fun v9 w71 h72 => ?_)
        obtain ⟨hT73, rfl⟩ := h72
        have hS73 := St.tr hS70 hT73 rfl
        refine rn_stk [] rfl ?_
        refine rn_aload_n (i := 2) dX1_begin_94 rfl rfl ?_
        exact rn_aret dX1_begin_95 rfl (rq_in ⟨S62, hS73, q59, rfl, m62⟩)
      · refine rn_goto (tgt := 41) dX1_begin_37 (by decide) ?_
        refine rn_astore_n dX1_begin_41 rfl (by decide) [(0, .ref o0_), (1, .ref o1_), (2, .ref o58)] rfl ?_
        refine rn_aload_n (i := 2) dX1_begin_42 rfl rfl ?_
        refine rn_ifnonnull (tgt := 54) dX1_begin_43 (by decide) ?_
        refine rn_aload_n (i := 0) dX1_begin_54 rfl rfl ?_
        refine rn_get q40 kg_SG_Heaps_17 hl40 hx41 dX1_begin_55 ?_
        refine rn_if_lt (tgt := 89) dX1_begin_58 (by decide) (fun h74 => (cx_lt (cv_lt h74) r55 rk_0 (by decide)).elim) (fun h74 => ?_)
        have ch74 := cv_nlt h74
        refine rn_aload_n (i := 0) dX1_begin_61 rfl rfl ?_
        refine rn_get q40 kg_SG_Heaps_17 hl40 hx41 dX1_begin_62 ?_
        refine rn_iconst (v := (4 : Int32)) dX1_begin_65 (by decide) ?_
        refine rn_icmp_ge (tgt := 89) dX1_begin_66 (by decide) (fun h75 => (cx_le (cv_le h75) rk_4 r55 (by decide)).elim) (fun h75 => ?_)
        have ch75 := cv_nle h75
        refine rn_aload_n (i := 0) dX1_begin_69 rfl rfl ?_
        refine rn_get q40 kg_SG_Heaps_13 hl40 hx56 dX1_begin_70 ?_
        refine rn_aload_n (i := 0) dX1_begin_73 rfl rfl ?_
        refine rn_get q40 kg_SG_Heaps_17 hl40 hx41 dX1_begin_74 ?_
        refine rn_aload_n (i := 2) dX1_begin_77 rfl rfl ?_
        obtain ⟨q78, fs78, hq78, hl78, hf78⟩ := ts_obj hS39.1 mo58 hk_0
        refine rs_aast q57 hS39 hq57 hl57 hf57 hk_13 rfl rfl mo58 hl78 rfl r55 (by decide) (by decide) dX1_begin_78 (fun w76 f77 hS77 hl77 hf77 hu77 hn77 => ?_)
        refine rn_aload_n (i := 0) dX1_begin_79 rfl rfl ?_
        refine rn_dup dX1_begin_80 rfl ?_
        refine rn_get q40 kg_SG_Heaps_17 ((hn77 _ (ts_ne hq57 hq40 rfl)).trans hl40) hx41 dX1_begin_81 ?_
        refine rn_iconst (v := (1 : Int32)) dX1_begin_84 (by decide) ?_
        refine rs_addC (1) (4) r55 rk_1 dX1_begin_85 (by decide) (fun v79 ev79 rv79 => ?_)
        refine rs_put q40 (kp_SG_Heaps_17 _) hS77 hq40 ((hn77 _ (ts_ne hq57 hq40 rfl)).trans hl40) hf40 hk_1 rfl rfl (tv_i (rg_w rv79 (by decide) (by decide))) rfl rfl dX1_begin_86 (fun w80 fs81 hS81 hl81 hf81 hx81 ho81 hn81 => ?_)
        refine rn_aload_n (i := 2) dX1_begin_89 rfl rfl ?_
        refine rn_aload_n (i := 1) dX1_begin_90 rfl rfl ?_
        refine rn_callV (a := 5) (b := 4030) [.ref o1_] kl_SG_Heaps_68 dX1_begin_91 q78 ((hn81 _ (ts_ne hq40 hq78 rfl)).trans ((hn77 _ (ts_ne hq57 hq78 rfl)).trans hl78)) rfl (t_X0_begin G S w80 hS81.1 o58 mo58 o1_ m1_) rfl rfl (Nat.le_of_ble_eq_true rfl) (Nat.le_of_ble_eq_true rfl) (Nat.le_of_ble_eq_true rfl) (Nat.le_of_ble_eq_true rfl) (Nat.le_of_ble_eq_true rfl) (Nat.le_of_ble_eq_true rfl) (fun _ _ h => False.elim h) (fun v9 w82 h83 => ?_)
        obtain ⟨hT84, rfl⟩ := h83
        have hS84 := St.tr hS81 hT84 rfl
        refine rn_stk [] rfl ?_
        refine rn_aload_n (i := 2) dX1_begin_94 rfl rfl ?_
        exact rn_aret dX1_begin_95 rfl (rq_in ⟨S, hS84, o58, rfl, mo58⟩)
abbrev q_t_X1_accept (G : rn_G) (S : ts_S) (ws : va_W) : rn_R → va_W → Prop := rQ (fun v w => ∃ S' : ts_S, St G S [0, 1, 4, 11, 12, 13] ws S' w ∧ (∃ x : Int32, v = some (.int x) ∧ Rg (0) (1) x)) (fun E w => False)
set_option maxRecDepth 20000 in
set_option maxHeartbeats 4000000 in
theorem t_X1_accept (G : rn_G) (S : ts_S) (ws : va_W) (hW : ts_W G S ws) (o0_ : Nat) (m0_ : (o0_, 1) ∈ S) (o1_ : Nat) (m1_ : (o1_, 4) ∈ S) : Rn G mX1_accept 4 108 5 4030 0 (lv_args 0 [.ref o0_, .ref o1_]) [] ws (q_t_X1_accept G S ws ) := by
  have hS0 : St G S [0, 1, 4, 11, 12, 13] ws S ws := St.rf hW
  refine rn_lv [(0, .ref o0_), (1, .ref o1_)] rfl ?_
  refine rn_aload_n (i := 0) dX1_accept_0 rfl rfl ?_
  refine rn_aload_n (i := 1) dX1_accept_1 rfl rfl ?_
  obtain ⟨q1, fs1, hq1, hl1, hf1⟩ := ts_obj hS0.1 m0_ hk_1
  refine rn_callV (a := 5) (b := 4030) [.ref o1_] kl_SG_Heaps_35 dX1_accept_2 q1 hl1 rfl (t_X1_placeOf G S ws hS0.1 o0_ m0_ o1_ m1_) rfl rfl (Nat.le_of_ble_eq_true rfl) (Nat.le_of_ble_eq_true rfl) (Nat.le_of_ble_eq_true rfl) (Nat.le_of_ble_eq_true rfl) (Nat.le_of_ble_eq_true rfl) (Nat.le_of_ble_eq_true rfl) (fun _ _ h => False.elim h) (fun v9 w2 h3 => ?_)
  obtain ⟨rfl, v4, rfl, rv4⟩ := h3
  refine rn_stk [.int v4] rfl ?_
  refine rn_istore_n dX1_accept_5 rfl (by decide) [(0, .ref o0_), (1, .ref o1_), (2, .int v4)] rfl ?_
  refine rn_aload_n (i := 0) dX1_accept_6 rfl rfl ?_
  refine rn_iload_n (i := 2) dX1_accept_7 rfl rfl ?_
  refine rn_inV (d' := 0) (z' := 0) [.int v4] kl_SG_Heaps_39 dX1_accept_8 q1 hl1 rfl rfl rfl (Nat.le_of_ble_eq_true rfl) (Nat.le_of_ble_eq_true rfl) (Nat.le_of_ble_eq_true rfl) (Nat.le_of_ble_eq_true rfl) ?_
  refine rn_lv [(0, .ref o0_), (1, .int v4)] rfl ?_
  refine rn_iload_n (i := 1) dX1_heapAt_0 rfl rfl ?_
  refine rn_if_lt (tgt := 26) dX1_heapAt_1 (by decide) (fun h6 => ?_) (fun h6 => ?_)
  · have ch6 := cv_lt h6
    have r7 : Rg (-1) (-1) v4 := rf_ltx ch6 rv4 rk_0 (by decide)
    refine rn_null dX1_heapAt_26 ?_
    refine rn_aretN dX1_heapAt_27 rfl (rq_in ?_)
    refine rn_stk [.null] rfl ?_
    refine rn_astore_nN dX1_accept_11 rfl (by decide) [(0, .ref o0_), (1, .ref o1_), (2, .int v4), (3, .null)] rfl ?_
    refine rn_aload_n (i := 1) dX1_accept_12 rfl rfl ?_
    refine rn_callS (a := 5) (b := 4030) [.ref o1_] kl_SG_Heaps_43 dX1_accept_13 (t_X0_isMisshapen G S ws hS0.1 o1_ m1_) rfl rfl (Nat.le_of_ble_eq_true rfl) (Nat.le_of_ble_eq_true rfl) (Nat.le_of_ble_eq_true rfl) (Nat.le_of_ble_eq_true rfl) (Nat.le_of_ble_eq_true rfl) (Nat.le_of_ble_eq_true rfl) (fun _ _ h => False.elim h) (fun v9 w8 h9 => ?_)
    obtain ⟨rfl, v10, rfl, rv10⟩ := h9
    refine rn_stk [.int v10] rfl ?_
    refine rn_if_ne (tgt := 31) dX1_accept_16 (by decide) (fun h12 => ?_) (fun h12 => ?_)
    · have ch12 := cv_ne h12
      have r13 : Rg (1) (1) v10 := rf_nel ch12 rv10 rk_0 (by decide) (by decide)
      refine rn_aload_n (i := 0) dX1_accept_31 rfl rfl ?_
      refine rn_iload_n (i := 2) dX1_accept_32 rfl rfl ?_
      refine rn_callV (a := 5) (b := 4030) [.int v4] kl_SG_Heaps_31 dX1_accept_33 q1 hl1 rfl (t_X1_drop G S ws hS0.1 o0_ m0_ v4) rfl rfl (Nat.le_of_ble_eq_true rfl) (Nat.le_of_ble_eq_true rfl) (Nat.le_of_ble_eq_true rfl) (Nat.le_of_ble_eq_true rfl) (Nat.le_of_ble_eq_true rfl) (Nat.le_of_ble_eq_true rfl) (fun _ _ h => False.elim h) (fun v9 w14 h15 => ?_)
      obtain ⟨hT16, rfl⟩ := h15
      have hS16 := St.tr hS0 hT16 rfl
      refine rn_stk [] rfl ?_
      refine rn_iconst (v := (0 : Int32)) dX1_accept_36 (by decide) ?_
      exact rn_iret dX1_accept_37 rfl rfl (rq_in ⟨S, hS16, (0 : Int32), rfl, (rg_w rk_0 (by decide) (by decide))⟩)
    · have ch12 := cv_eq h12
      have r17 : Rg (0) (0) v10 := rf_eqx ch12 rv10 rk_0 (by decide) (by decide)
      refine rn_aload_nN (i := 3) dX1_accept_19 rfl rfl ?_
      refine rn_ifnullN (tgt := 38) dX1_accept_20 (by decide) ?_
      refine rn_aload_nN (i := 3) dX1_accept_38 rfl rfl ?_
      refine rn_ifnonnullN dX1_accept_39 ?_
      refine rn_aload_n (i := 0) dX1_accept_42 rfl rfl ?_
      refine rn_aload_n (i := 1) dX1_accept_43 rfl rfl ?_
      refine rn_callV (a := 0) (b := 0) [.ref o1_] kl_SG_Heaps_50 dX1_accept_44 q1 hl1 rfl (t_X1_begin G S ws hS0.1 o0_ m0_ o1_ m1_) rfl rfl (Nat.le_of_ble_eq_true rfl) (Nat.le_of_ble_eq_true rfl) (Nat.le_of_ble_eq_true rfl) (Nat.le_of_ble_eq_true rfl) (Nat.le_of_ble_eq_true rfl) (Nat.le_of_ble_eq_true rfl) (fun _ _ h => False.elim h) (fun v9 w18 h19 => ?_)
      obtain ⟨S21, hT21, o20, rfl, mo20⟩ := h19
      have hS21 := St.tr hS0 hT21 rfl
      refine rn_stk [.ref o20] rfl ?_
      refine rn_astore_n dX1_accept_47 rfl (by decide) [(0, .ref o0_), (1, .ref o1_), (2, .int v4), (3, .ref o20)] rfl ?_
      refine rn_aload_n (i := 3) dX1_accept_48 rfl rfl ?_
      refine rn_aload_n (i := 1) dX1_accept_49 rfl rfl ?_
      obtain ⟨q22, fs22, hq22, hl22, hf22⟩ := ts_obj hS21.1 mo20 hk_0
      refine rn_callV (a := 0) (b := 0) [.ref o1_] kl_SG_Heaps_54 dX1_accept_50 q22 hl22 rfl (t_X0_lay G S21 w18 hS21.1 o20 mo20 o1_ (hT21.mem m1_)) rfl rfl (Nat.le_of_ble_eq_true rfl) (Nat.le_of_ble_eq_true rfl) (Nat.le_of_ble_eq_true rfl) (Nat.le_of_ble_eq_true rfl) (Nat.le_of_ble_eq_true rfl) (Nat.le_of_ble_eq_true rfl) (fun _ _ h => False.elim h) (fun v9 w23 h24 => ?_)
      obtain ⟨hT25, rfl⟩ := h24
      have hS25 := St.tr hS21 hT25 rfl
      refine rn_stk [] rfl ?_
      refine rn_iconst (v := (1 : Int32)) dX1_accept_53 (by decide) ?_
      exact rn_iret dX1_accept_54 rfl rfl (rq_in ⟨S21, hS25, (1 : Int32), rfl, (rg_w rk_1 (by decide) (by decide))⟩)
  · have ch6 := cv_nlt h6
    have r26 : Rg (0) (3) v4 := rf_ley ch6 rk_0 rv4 (by decide)
    refine rn_iload_n (i := 1) dX1_heapAt_4 rfl rfl ?_
    refine rn_aload_n (i := 0) dX1_heapAt_5 rfl rfl ?_
    obtain ⟨x27, hx27, rx27⟩ := fs_i hf1 1 rfl
    refine rn_get q1 kg_SG_Heaps_17 hl1 hx27 dX1_heapAt_6 ?_
    refine rn_icmp_ge (tgt := 26) dX1_heapAt_9 (by decide) (fun h28 => ?_) (fun h28 => ?_)
    · have ch28 := cv_le h28
      have r29 : Rg (0) (3) x27 := rf_lex ch28 rx27 r26 (by decide)
      refine rn_null dX1_heapAt_26 ?_
      refine rn_aretN dX1_heapAt_27 rfl (rq_in ?_)
      refine rn_stk [.null] rfl ?_
      refine rn_astore_nN dX1_accept_11 rfl (by decide) [(0, .ref o0_), (1, .ref o1_), (2, .int v4), (3, .null)] rfl ?_
      refine rn_aload_n (i := 1) dX1_accept_12 rfl rfl ?_
      refine rn_callS (a := 5) (b := 4030) [.ref o1_] kl_SG_Heaps_43 dX1_accept_13 (t_X0_isMisshapen G S ws hS0.1 o1_ m1_) rfl rfl (Nat.le_of_ble_eq_true rfl) (Nat.le_of_ble_eq_true rfl) (Nat.le_of_ble_eq_true rfl) (Nat.le_of_ble_eq_true rfl) (Nat.le_of_ble_eq_true rfl) (Nat.le_of_ble_eq_true rfl) (fun _ _ h => False.elim h) (fun v9 w30 h31 => ?_)
      obtain ⟨rfl, v32, rfl, rv32⟩ := h31
      refine rn_stk [.int v32] rfl ?_
      refine rn_if_ne (tgt := 31) dX1_accept_16 (by decide) (fun h34 => ?_) (fun h34 => ?_)
      · have ch34 := cv_ne h34
        have r35 : Rg (1) (1) v32 := rf_nel ch34 rv32 rk_0 (by decide) (by decide)
        refine rn_aload_n (i := 0) dX1_accept_31 rfl rfl ?_
        refine rn_iload_n (i := 2) dX1_accept_32 rfl rfl ?_
        refine rn_callV (a := 5) (b := 4030) [.int v4] kl_SG_Heaps_31 dX1_accept_33 q1 hl1 rfl (t_X1_drop G S ws hS0.1 o0_ m0_ v4) rfl rfl (Nat.le_of_ble_eq_true rfl) (Nat.le_of_ble_eq_true rfl) (Nat.le_of_ble_eq_true rfl) (Nat.le_of_ble_eq_true rfl) (Nat.le_of_ble_eq_true rfl) (Nat.le_of_ble_eq_true rfl) (fun _ _ h => False.elim h) (fun v9 w36 h37 => ?_)
        obtain ⟨hT38, rfl⟩ := h37
        have hS38 := St.tr hS0 hT38 rfl
        refine rn_stk [] rfl ?_
        refine rn_iconst (v := (0 : Int32)) dX1_accept_36 (by decide) ?_
        exact rn_iret dX1_accept_37 rfl rfl (rq_in ⟨S, hS38, (0 : Int32), rfl, (rg_w rk_0 (by decide) (by decide))⟩)
      · have ch34 := cv_eq h34
        have r39 : Rg (0) (0) v32 := rf_eqx ch34 rv32 rk_0 (by decide) (by decide)
        refine rn_aload_nN (i := 3) dX1_accept_19 rfl rfl ?_
        refine rn_ifnullN (tgt := 38) dX1_accept_20 (by decide) ?_
        refine rn_aload_nN (i := 3) dX1_accept_38 rfl rfl ?_
        refine rn_ifnonnullN dX1_accept_39 ?_
        refine rn_aload_n (i := 0) dX1_accept_42 rfl rfl ?_
        refine rn_aload_n (i := 1) dX1_accept_43 rfl rfl ?_
        refine rn_callV (a := 0) (b := 0) [.ref o1_] kl_SG_Heaps_50 dX1_accept_44 q1 hl1 rfl (t_X1_begin G S ws hS0.1 o0_ m0_ o1_ m1_) rfl rfl (Nat.le_of_ble_eq_true rfl) (Nat.le_of_ble_eq_true rfl) (Nat.le_of_ble_eq_true rfl) (Nat.le_of_ble_eq_true rfl) (Nat.le_of_ble_eq_true rfl) (Nat.le_of_ble_eq_true rfl) (fun _ _ h => False.elim h) (fun v9 w40 h41 => ?_)
        obtain ⟨S43, hT43, o42, rfl, mo42⟩ := h41
        have hS43 := St.tr hS0 hT43 rfl
        refine rn_stk [.ref o42] rfl ?_
        refine rn_astore_n dX1_accept_47 rfl (by decide) [(0, .ref o0_), (1, .ref o1_), (2, .int v4), (3, .ref o42)] rfl ?_
        refine rn_aload_n (i := 3) dX1_accept_48 rfl rfl ?_
        refine rn_aload_n (i := 1) dX1_accept_49 rfl rfl ?_
        obtain ⟨q44, fs44, hq44, hl44, hf44⟩ := ts_obj hS43.1 mo42 hk_0
        refine rn_callV (a := 0) (b := 0) [.ref o1_] kl_SG_Heaps_54 dX1_accept_50 q44 hl44 rfl (t_X0_lay G S43 w40 hS43.1 o42 mo42 o1_ (hT43.mem m1_)) rfl rfl (Nat.le_of_ble_eq_true rfl) (Nat.le_of_ble_eq_true rfl) (Nat.le_of_ble_eq_true rfl) (Nat.le_of_ble_eq_true rfl) (Nat.le_of_ble_eq_true rfl) (Nat.le_of_ble_eq_true rfl) (fun _ _ h => False.elim h) (fun v9 w45 h46 => ?_)
        obtain ⟨hT47, rfl⟩ := h46
        have hS47 := St.tr hS43 hT47 rfl
        refine rn_stk [] rfl ?_
        refine rn_iconst (v := (1 : Int32)) dX1_accept_53 (by decide) ?_
        exact rn_iret dX1_accept_54 rfl rfl (rq_in ⟨S43, hS47, (1 : Int32), rfl, (rg_w rk_1 (by decide) (by decide))⟩)
    · have ch28 := cv_nle h28
      have r48 : Rg (1) (4) x27 := rf_lty ch28 r26 rx27 (by decide)
      refine rn_iload_n (i := 1) dX1_heapAt_12 rfl rfl ?_
      refine rn_iconst (v := (4 : Int32)) dX1_heapAt_13 (by decide) ?_
      refine rn_icmp_ge (tgt := 26) dX1_heapAt_14 (by decide) (fun h49 => (cx_le (cv_le h49) rk_4 r26 (by decide)).elim) (fun h49 => ?_)
      have ch49 := cv_nle h49
      refine rn_aload_n (i := 0) dX1_heapAt_17 rfl rfl ?_
      obtain ⟨o50, hx50, m50⟩ := fs_r hf1 0 rfl
      refine rn_get q1 kg_SG_Heaps_13 hl1 hx50 dX1_heapAt_18 ?_
      refine rn_iload_n (i := 1) dX1_heapAt_21 rfl rfl ?_
      obtain ⟨q51, f51, hq51, hl51, hf51⟩ := ts_ra hS0.1 m50 hk_13
      refine rs_aald q51 hl51 hf51 rfl r26 (by decide) (by decide) dX1_heapAt_22 ?_ (fun o52 mo52 => ?_)
      · refine rn_goto (tgt := 27) dX1_heapAt_23 (by decide) ?_
        refine rn_aretN dX1_heapAt_27 rfl (rq_in ?_)
        refine rn_stk [.null] rfl ?_
        refine rn_astore_nN dX1_accept_11 rfl (by decide) [(0, .ref o0_), (1, .ref o1_), (2, .int v4), (3, .null)] rfl ?_
        refine rn_aload_n (i := 1) dX1_accept_12 rfl rfl ?_
        refine rn_callS (a := 5) (b := 4030) [.ref o1_] kl_SG_Heaps_43 dX1_accept_13 (t_X0_isMisshapen G S ws hS0.1 o1_ m1_) rfl rfl (Nat.le_of_ble_eq_true rfl) (Nat.le_of_ble_eq_true rfl) (Nat.le_of_ble_eq_true rfl) (Nat.le_of_ble_eq_true rfl) (Nat.le_of_ble_eq_true rfl) (Nat.le_of_ble_eq_true rfl) (fun _ _ h => False.elim h) (fun v9 w53 h54 => ?_)
        obtain ⟨rfl, v55, rfl, rv55⟩ := h54
        refine rn_stk [.int v55] rfl ?_
        refine rn_if_ne (tgt := 31) dX1_accept_16 (by decide) (fun h57 => ?_) (fun h57 => ?_)
        · have ch57 := cv_ne h57
          have r58 : Rg (1) (1) v55 := rf_nel ch57 rv55 rk_0 (by decide) (by decide)
          refine rn_aload_n (i := 0) dX1_accept_31 rfl rfl ?_
          refine rn_iload_n (i := 2) dX1_accept_32 rfl rfl ?_
          refine rn_callV (a := 5) (b := 4030) [.int v4] kl_SG_Heaps_31 dX1_accept_33 q1 hl1 rfl (t_X1_drop G S ws hS0.1 o0_ m0_ v4) rfl rfl (Nat.le_of_ble_eq_true rfl) (Nat.le_of_ble_eq_true rfl) (Nat.le_of_ble_eq_true rfl) (Nat.le_of_ble_eq_true rfl) (Nat.le_of_ble_eq_true rfl) (Nat.le_of_ble_eq_true rfl) (fun _ _ h => False.elim h) (fun v9 w59 h60 => ?_)
          obtain ⟨hT61, rfl⟩ := h60
          have hS61 := St.tr hS0 hT61 rfl
          refine rn_stk [] rfl ?_
          refine rn_iconst (v := (0 : Int32)) dX1_accept_36 (by decide) ?_
          exact rn_iret dX1_accept_37 rfl rfl (rq_in ⟨S, hS61, (0 : Int32), rfl, (rg_w rk_0 (by decide) (by decide))⟩)
        · have ch57 := cv_eq h57
          have r62 : Rg (0) (0) v55 := rf_eqx ch57 rv55 rk_0 (by decide) (by decide)
          refine rn_aload_nN (i := 3) dX1_accept_19 rfl rfl ?_
          refine rn_ifnullN (tgt := 38) dX1_accept_20 (by decide) ?_
          refine rn_aload_nN (i := 3) dX1_accept_38 rfl rfl ?_
          refine rn_ifnonnullN dX1_accept_39 ?_
          refine rn_aload_n (i := 0) dX1_accept_42 rfl rfl ?_
          refine rn_aload_n (i := 1) dX1_accept_43 rfl rfl ?_
          refine rn_callV (a := 0) (b := 0) [.ref o1_] kl_SG_Heaps_50 dX1_accept_44 q1 hl1 rfl (t_X1_begin G S ws hS0.1 o0_ m0_ o1_ m1_) rfl rfl (Nat.le_of_ble_eq_true rfl) (Nat.le_of_ble_eq_true rfl) (Nat.le_of_ble_eq_true rfl) (Nat.le_of_ble_eq_true rfl) (Nat.le_of_ble_eq_true rfl) (Nat.le_of_ble_eq_true rfl) (fun _ _ h => False.elim h) (fun v9 w63 h64 => ?_)
          obtain ⟨S66, hT66, o65, rfl, mo65⟩ := h64
          have hS66 := St.tr hS0 hT66 rfl
          refine rn_stk [.ref o65] rfl ?_
          refine rn_astore_n dX1_accept_47 rfl (by decide) [(0, .ref o0_), (1, .ref o1_), (2, .int v4), (3, .ref o65)] rfl ?_
          refine rn_aload_n (i := 3) dX1_accept_48 rfl rfl ?_
          refine rn_aload_n (i := 1) dX1_accept_49 rfl rfl ?_
          obtain ⟨q67, fs67, hq67, hl67, hf67⟩ := ts_obj hS66.1 mo65 hk_0
          refine rn_callV (a := 0) (b := 0) [.ref o1_] kl_SG_Heaps_54 dX1_accept_50 q67 hl67 rfl (t_X0_lay G S66 w63 hS66.1 o65 mo65 o1_ (hT66.mem m1_)) rfl rfl (Nat.le_of_ble_eq_true rfl) (Nat.le_of_ble_eq_true rfl) (Nat.le_of_ble_eq_true rfl) (Nat.le_of_ble_eq_true rfl) (Nat.le_of_ble_eq_true rfl) (Nat.le_of_ble_eq_true rfl) (fun _ _ h => False.elim h) (fun v9 w68 h69 => ?_)
          obtain ⟨hT70, rfl⟩ := h69
          have hS70 := St.tr hS66 hT70 rfl
          refine rn_stk [] rfl ?_
          refine rn_iconst (v := (1 : Int32)) dX1_accept_53 (by decide) ?_
          exact rn_iret dX1_accept_54 rfl rfl (rq_in ⟨S66, hS70, (1 : Int32), rfl, (rg_w rk_1 (by decide) (by decide))⟩)
      · refine rn_goto (tgt := 27) dX1_heapAt_23 (by decide) ?_
        refine rn_aret dX1_heapAt_27 rfl (rq_in ?_)
        refine rn_stk [.ref o52] rfl ?_
        refine rn_astore_n dX1_accept_11 rfl (by decide) [(0, .ref o0_), (1, .ref o1_), (2, .int v4), (3, .ref o52)] rfl ?_
        refine rn_aload_n (i := 1) dX1_accept_12 rfl rfl ?_
        refine rn_callS (a := 5) (b := 4030) [.ref o1_] kl_SG_Heaps_43 dX1_accept_13 (t_X0_isMisshapen G S ws hS0.1 o1_ m1_) rfl rfl (Nat.le_of_ble_eq_true rfl) (Nat.le_of_ble_eq_true rfl) (Nat.le_of_ble_eq_true rfl) (Nat.le_of_ble_eq_true rfl) (Nat.le_of_ble_eq_true rfl) (Nat.le_of_ble_eq_true rfl) (fun _ _ h => False.elim h) (fun v9 w71 h72 => ?_)
        obtain ⟨rfl, v73, rfl, rv73⟩ := h72
        refine rn_stk [.int v73] rfl ?_
        refine rn_if_ne (tgt := 31) dX1_accept_16 (by decide) (fun h75 => ?_) (fun h75 => ?_)
        · have ch75 := cv_ne h75
          have r76 : Rg (1) (1) v73 := rf_nel ch75 rv73 rk_0 (by decide) (by decide)
          refine rn_aload_n (i := 0) dX1_accept_31 rfl rfl ?_
          refine rn_iload_n (i := 2) dX1_accept_32 rfl rfl ?_
          refine rn_callV (a := 5) (b := 4030) [.int v4] kl_SG_Heaps_31 dX1_accept_33 q1 hl1 rfl (t_X1_drop G S ws hS0.1 o0_ m0_ v4) rfl rfl (Nat.le_of_ble_eq_true rfl) (Nat.le_of_ble_eq_true rfl) (Nat.le_of_ble_eq_true rfl) (Nat.le_of_ble_eq_true rfl) (Nat.le_of_ble_eq_true rfl) (Nat.le_of_ble_eq_true rfl) (fun _ _ h => False.elim h) (fun v9 w77 h78 => ?_)
          obtain ⟨hT79, rfl⟩ := h78
          have hS79 := St.tr hS0 hT79 rfl
          refine rn_stk [] rfl ?_
          refine rn_iconst (v := (0 : Int32)) dX1_accept_36 (by decide) ?_
          exact rn_iret dX1_accept_37 rfl rfl (rq_in ⟨S, hS79, (0 : Int32), rfl, (rg_w rk_0 (by decide) (by decide))⟩)
        · have ch75 := cv_eq h75
          have r80 : Rg (0) (0) v73 := rf_eqx ch75 rv73 rk_0 (by decide) (by decide)
          refine rn_aload_n (i := 3) dX1_accept_19 rfl rfl ?_
          refine rn_ifnull dX1_accept_20 ?_
          refine rn_aload_n (i := 3) dX1_accept_23 rfl rfl ?_
          refine rn_aload_n (i := 1) dX1_accept_24 rfl rfl ?_
          obtain ⟨q81, fs81, hq81, hl81, hf81⟩ := ts_obj hS0.1 mo52 hk_0
          refine rn_callV (a := 5) (b := 4030) [.ref o1_] kl_SG_Heaps_47 dX1_accept_25 q81 hl81 rfl (t_X0_refuses G S ws hS0.1 o52 mo52 o1_ m1_) rfl rfl (Nat.le_of_ble_eq_true rfl) (Nat.le_of_ble_eq_true rfl) (Nat.le_of_ble_eq_true rfl) (Nat.le_of_ble_eq_true rfl) (Nat.le_of_ble_eq_true rfl) (Nat.le_of_ble_eq_true rfl) (fun _ _ h => False.elim h) (fun v9 w82 h83 => ?_)
          obtain ⟨rfl, v84, rfl, rv84⟩ := h83
          refine rn_stk [.int v84] rfl ?_
          refine rn_if_eq (tgt := 38) dX1_accept_28 (by decide) (fun h86 => ?_) (fun h86 => ?_)
          · have ch86 := cv_eq h86
            have r87 : Rg (0) (0) v84 := rf_eqx ch86 rv84 rk_0 (by decide) (by decide)
            refine rn_aload_n (i := 3) dX1_accept_38 rfl rfl ?_
            refine rn_ifnonnull (tgt := 48) dX1_accept_39 (by decide) ?_
            refine rn_aload_n (i := 3) dX1_accept_48 rfl rfl ?_
            refine rn_aload_n (i := 1) dX1_accept_49 rfl rfl ?_
            refine rn_callV (a := 5) (b := 4030) [.ref o1_] kl_SG_Heaps_54 dX1_accept_50 q81 hl81 rfl (t_X0_lay G S ws hS0.1 o52 mo52 o1_ m1_) rfl rfl (Nat.le_of_ble_eq_true rfl) (Nat.le_of_ble_eq_true rfl) (Nat.le_of_ble_eq_true rfl) (Nat.le_of_ble_eq_true rfl) (Nat.le_of_ble_eq_true rfl) (Nat.le_of_ble_eq_true rfl) (fun _ _ h => False.elim h) (fun v9 w88 h89 => ?_)
            obtain ⟨hT90, rfl⟩ := h89
            have hS90 := St.tr hS0 hT90 rfl
            refine rn_stk [] rfl ?_
            refine rn_iconst (v := (1 : Int32)) dX1_accept_53 (by decide) ?_
            exact rn_iret dX1_accept_54 rfl rfl (rq_in ⟨S, hS90, (1 : Int32), rfl, (rg_w rk_1 (by decide) (by decide))⟩)
          · have ch86 := cv_ne h86
            have r91 : Rg (1) (1) v84 := rf_nel ch86 rv84 rk_0 (by decide) (by decide)
            refine rn_aload_n (i := 0) dX1_accept_31 rfl rfl ?_
            refine rn_iload_n (i := 2) dX1_accept_32 rfl rfl ?_
            refine rn_callV (a := 5) (b := 4030) [.int v4] kl_SG_Heaps_31 dX1_accept_33 q1 hl1 rfl (t_X1_drop G S ws hS0.1 o0_ m0_ v4) rfl rfl (Nat.le_of_ble_eq_true rfl) (Nat.le_of_ble_eq_true rfl) (Nat.le_of_ble_eq_true rfl) (Nat.le_of_ble_eq_true rfl) (Nat.le_of_ble_eq_true rfl) (Nat.le_of_ble_eq_true rfl) (fun _ _ h => False.elim h) (fun v9 w92 h93 => ?_)
            obtain ⟨hT94, rfl⟩ := h93
            have hS94 := St.tr hS0 hT94 rfl
            refine rn_stk [] rfl ?_
            refine rn_iconst (v := (0 : Int32)) dX1_accept_36 (by decide) ?_
            exact rn_iret dX1_accept_37 rfl rfl (rq_in ⟨S, hS94, (0 : Int32), rfl, (rg_w rk_0 (by decide) (by decide))⟩)
