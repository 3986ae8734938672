set_option maxRecDepth 20000 in
set_option maxHeartbeats 4000000 in
theorem lc_12 (G : rn_G) (a b : Nat) (S : ts_S) (ws : va_W) (hW : ts_W G S ws) (ox om oo : Nat) (mx : (ox, 9) ∈ S) (mm : (om, 30) ∈ S) (mo : (oo, 21) ∈ S) (i : Int32) (ri : Rg 1 5121 i) (hi : i.toInt + 10 ≤ (G.2.2.2.2.1.2.1 : Int)) (I : Cpt S ws) (K : ∀ (S' : ts_S) (w : va_W), ts_W G S' w → (∀ p ∈ S, p ∈ S') → Cpt S' w → Rn G mL_law 9 244 a b 1279 [(0, .ref G.2.2.2.2.1.1), (1, .ref ox), (2, .ref om), (3, .ref oo), (4, .int i)] [] w (fun r _ => r = Sum.inl (some (.int 1)))) : Rn G mL_law 9 244 (a + 2) (b + 12) 870 [(0, .ref G.2.2.2.2.1.1), (1, .ref ox), (2, .ref om), (3, .ref oo), (4, .int i)] [] ws (fun r _ => r = Sum.inl (some (.int 1))) := by
  have hS0 : St G S [8, 21, 30, 62, 63] ws S ws := St.rf hW
  obtain ⟨sc1, hs1⟩ : ∃ x : Int32, G.2.2.2.2.1.2.2 (i.toInt.toNat + 1) = x := ⟨_, rfl⟩
  obtain ⟨sc2, hs2⟩ : ∃ x : Int32, G.2.2.2.2.1.2.2 (i.toInt.toNat + 2) = x := ⟨_, rfl⟩
  obtain ⟨sc3, hs3⟩ : ∃ x : Int32, G.2.2.2.2.1.2.2 (i.toInt.toNat + 3) = x := ⟨_, rfl⟩
  refine rn_aload_n (i := 1) dL_law_870 rfl rfl ?_
  refine rn_aload_n (i := 0) dL_law_871 rfl rfl ?_
  refine rn_iload dL_law_872 rfl ?_
  refine rn_iconst (v := (1 : Int32)) dL_law_874 (by decide) ?_
  refine rs_addC (2) (5122) ri rk_1 dL_law_875 (by decide) (fun v1 ev1 rv1 => ?_)
  refine rn_scl 1 ev1 ri hi (by decide) hs1 dL_law_876 ?_
  refine rn_aload_n (i := 0) dL_law_877 rfl rfl ?_
  refine rn_iload dL_law_878 rfl ?_
  refine rn_iconst (v := (2 : Int32)) dL_law_880 (by decide) ?_
  refine rs_addC (3) (5123) ri rk_2 dL_law_881 (by decide) (fun v2 ev2 rv2 => ?_)
  refine rn_scl 2 ev2 ri hi (by decide) hs2 dL_law_882 ?_
  refine rn_i2l dL_law_883 rfl (rn_nmL (fun l3 => ?_))
  refine rn_bipush (v := (32 : Int32)) dL_law_884 (by decide) ?_
  refine rn_lshl dL_law_886 rfl (rn_nmL (fun l4 => ?_))
  refine rn_aload_n (i := 0) dL_law_887 rfl rfl ?_
  refine rn_iload dL_law_888 rfl ?_
  refine rn_iconst (v := (3 : Int32)) dL_law_890 (by decide) ?_
  refine rs_addC (4) (5124) ri rk_3 dL_law_891 (by decide) (fun v5 ev5 rv5 => ?_)
  refine rn_scl 3 ev5 ri hi (by decide) hs3 dL_law_892 ?_
  refine rn_i2l dL_law_893 rfl (rn_nmL (fun l6 => ?_))
  refine rn_ldc2 (v := (4294967295 : Int64)) wd_1561 dL_law_894 ?_
  refine rn_land dL_law_897 (rn_nmL (fun l7 => ?_))
  refine rn_lor dL_law_898 (rn_nmL (fun l8 => ?_))
  refine rn_aload_n (i := 3) dL_law_899 rfl rfl ?_
  refine rn_callSX (a := (a + 0)) (b := (b + 0)) [.ref ox, .int sc1, .long l8, .ref oo] kl_SGLaw_151 dL_law_900 (t_L_count G S ws hS0.1 ox mx sc1 l8 oo mo) rfl rfl (Nat.le_of_ble_eq_true rfl) (Nat.le_of_ble_eq_true rfl) (Nat.le_of_ble_eq_true rfl) (Nat.le_of_ble_eq_true rfl) (bud_le (by decide)) (bud_le (by decide)) (fun _ _ h => False.elim h) (fun v9 w9 h10 => ?_)
  obtain ⟨hT12, v11, rfl, rv11⟩ := h10
  have hS12 := St.tr hS0 hT12 (by decide +kernel)
  have I12 := Cpt.cl I hT12 rfl rfl rfl
  refine rn_stk [.int v11] rfl ?_
  refine rn_istore dL_law_903 (by decide) [(0, .ref G.2.2.2.2.1.1), (1, .ref ox), (2, .ref om), (3, .ref oo), (4, .int i), (5, .int v11)] rfl ?_
  refine rn_aload_n (i := 2) dL_law_905 rfl rfl ?_
  refine rn_aload_n (i := 0) dL_law_906 rfl rfl ?_
  refine rn_iload dL_law_907 rfl ?_
  refine rn_iconst (v := (1 : Int32)) dL_law_909 (by decide) ?_
  refine rs_addC (2) (5122) ri rk_1 dL_law_910 (by decide) (fun v13 ev13 rv13 => ?_)
  refine rn_scl 1 ev13 ri hi (by decide) hs1 dL_law_911 ?_
  refine rn_aload_n (i := 0) dL_law_912 rfl rfl ?_
  refine rn_iload dL_law_913 rfl ?_
  refine rn_iconst (v := (2 : Int32)) dL_law_915 (by decide) ?_
  refine rs_addC (3) (5123) ri rk_2 dL_law_916 (by decide) (fun v14 ev14 rv14 => ?_)
  refine rn_scl 2 ev14 ri hi (by decide) hs2 dL_law_917 ?_
  refine rn_i2l dL_law_918 rfl (rn_nmL (fun l15 => ?_))
  refine rn_bipush (v := (32 : Int32)) dL_law_919 (by decide) ?_
  refine rn_lshl dL_law_921 rfl (rn_nmL (fun l16 => ?_))
  refine rn_aload_n (i := 0) dL_law_922 rfl rfl ?_
  refine rn_iload dL_law_923 rfl ?_
  refine rn_iconst (v := (3 : Int32)) dL_law_925 (by decide) ?_
  refine rs_addC (4) (5124) ri rk_3 dL_law_926 (by decide) (fun v17 ev17 rv17 => ?_)
  refine rn_scl 3 ev17 ri hi (by decide) hs3 dL_law_927 ?_
  refine rn_i2l dL_law_928 rfl (rn_nmL (fun l18 => ?_))
  refine rn_ldc2 (v := (4294967295 : Int64)) wd_1561 dL_law_929 ?_
  refine rn_land dL_law_932 (rn_nmL (fun l19 => ?_))
  refine rn_lor dL_law_933 (rn_nmL (fun l20 => ?_))
  obtain ⟨q21, fs21, hq21, hl21, hf21⟩ := ts_obj hS12.1 mm hk_30
  refine rn_callV (a := (a + 0)) (b := (b + 0)) [.int sc1, .long l20] kl_SGLaw_154 dL_law_934 q21 hl21 rfl (t_X10_count G S w9 hS12.1 om mm sc1 l20) rfl rfl (Nat.le_of_ble_eq_true rfl) (Nat.le_of_ble_eq_true rfl) (Nat.le_of_ble_eq_true rfl) (Nat.le_of_ble_eq_true rfl) (bud_le (by decide)) (bud_le (by decide)) (fun _ _ h => False.elim h) (fun v9 w22 h23 => ?_)
  obtain ⟨hT25, l24, rfl, fkh23⟩ := h23
  have hS25 := St.tr hS12 hT25 (by decide +kernel)
  have I25 := Cpt.rf I12 hT25 rfl rfl fkh23
  refine rn_stk [.long l24] rfl ?_
  refine rn_lstore dL_law_937 (by decide) [(0, .ref G.2.2.2.2.1.1), (1, .ref ox), (2, .ref om), (3, .ref oo), (4, .int i), (5, .int v11), (6, .long l24)] rfl ?_
  refine rn_goto (tgt := 1279) dL_law_939 (by decide) ?_
  refine rn_lv [(0, .ref G.2.2.2.2.1.1), (1, .ref ox), (2, .ref om), (3, .ref oo), (4, .int i)] rfl ?_
  refine rn_room (d' := 9) (z' := 244) (a' := a) (b' := b) ?_ (Nat.le_refl _) (Nat.le_refl _) (Nat.le_add_right _ _) (Nat.le_add_right _ _)
  exact K _ _ hS25.1 (fun p hp => hS25.mem hp) I25
