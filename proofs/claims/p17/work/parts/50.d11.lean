set_option maxRecDepth 20000 in
set_option maxHeartbeats 4000000 in
theorem lc_10 (G : rn_G) (a b : Nat) (S : ts_S) (ws : va_W) (hW : ts_W G S ws) (ox om oo : Nat) (mx : (ox, 9) ∈ S) (mm : (om, 30) ∈ S) (mo : (oo, 21) ∈ S) (i : Int32) (ri : Rg 1 5121 i) (hi : i.toInt + 10 ≤ (G.2.2.2.2.1.2.1 : Int)) (I : Cpt S ws) (K : ∀ (S' : ts_S) (w : va_W), ts_W G S' w → (∀ p ∈ S, p ∈ S') → Cpt S' w → Rn G mL_law 9 244 a b 1279 [(0, .ref G.2.2.2.2.1.1), (1, .ref ox), (2, .ref om), (3, .ref oo), (4, .int i)] [] w (fun r _ => r = Sum.inl (some (.int 1)))) : Rn G mL_law 9 244 (a + 1) (b + 10) 654 [(0, .ref G.2.2.2.2.1.1), (1, .ref ox), (2, .ref om), (3, .ref oo), (4, .int i)] [] ws (fun r _ => r = Sum.inl (some (.int 1))) := by
  have hS0 : St G S [9, 19, 21, 30, 54, 55, 56, 57, 58, 59, 60, 61, 62, 63] ws S ws := St.rf hW
  obtain ⟨sc1, hs1⟩ : ∃ x : Int32, G.2.2.2.2.1.2.2 (i.toInt.toNat + 1) = x := ⟨_, rfl⟩
  obtain ⟨sc2, hs2⟩ : ∃ x : Int32, G.2.2.2.2.1.2.2 (i.toInt.toNat + 2) = x := ⟨_, rfl⟩
  obtain ⟨sc3, hs3⟩ : ∃ x : Int32, G.2.2.2.2.1.2.2 (i.toInt.toNat + 3) = x := ⟨_, rfl⟩
  obtain ⟨sc4, hs4⟩ : ∃ x : Int32, G.2.2.2.2.1.2.2 (i.toInt.toNat + 4) = x := ⟨_, rfl⟩
  obtain ⟨sc5, hs5⟩ : ∃ x : Int32, G.2.2.2.2.1.2.2 (i.toInt.toNat + 5) = x := ⟨_, rfl⟩
  obtain ⟨sc6, hs6⟩ : ∃ x : Int32, G.2.2.2.2.1.2.2 (i.toInt.toNat + 6) = x := ⟨_, rfl⟩
  obtain ⟨sc7, hs7⟩ : ∃ x : Int32, G.2.2.2.2.1.2.2 (i.toInt.toNat + 7) = x := ⟨_, rfl⟩
  obtain ⟨sc8, hs8⟩ : ∃ x : Int32, G.2.2.2.2.1.2.2 (i.toInt.toNat + 8) = x := ⟨_, rfl⟩
  obtain ⟨sc9, hs9⟩ : ∃ x : Int32, G.2.2.2.2.1.2.2 (i.toInt.toNat + 9) = x := ⟨_, rfl⟩
  refine rn_aload_n (i := 1) dL_law_654 rfl rfl ?_
  refine rn_aload_n (i := 0) dL_law_655 rfl rfl ?_
  refine rn_iload dL_law_656 rfl ?_
  refine rn_iconst (v := (1 : Int32)) dL_law_658 (by decide) ?_
  refine rs_addC (2) (5122) ri rk_1 dL_law_659 (by decide) (fun v1 ev1 rv1 => ?_)
  refine rn_scl 1 ev1 ri hi (by decide) hs1 dL_law_660 ?_
  refine rn_aload_n (i := 0) dL_law_661 rfl rfl ?_
  refine rn_iload dL_law_662 rfl ?_
  refine rn_iconst (v := (2 : Int32)) dL_law_664 (by decide) ?_
  refine rs_addC (3) (5123) ri rk_2 dL_law_665 (by decide) (fun v2 ev2 rv2 => ?_)
  refine rn_scl 2 ev2 ri hi (by decide) hs2 dL_law_666 ?_
  refine rn_aload_n (i := 0) dL_law_667 rfl rfl ?_
  refine rn_iload dL_law_668 rfl ?_
  refine rn_iconst (v := (3 : Int32)) dL_law_670 (by decide) ?_
  refine rs_addC (4) (5124) ri rk_3 dL_law_671 (by decide) (fun v3 ev3 rv3 => ?_)
  refine rn_scl 3 ev3 ri hi (by decide) hs3 dL_law_672 ?_
  refine rn_aload_n (i := 0) dL_law_673 rfl rfl ?_
  refine rn_iload dL_law_674 rfl ?_
  refine rn_iconst (v := (4 : Int32)) dL_law_676 (by decide) ?_
  refine rs_addC (5) (5125) ri rk_4 dL_law_677 (by decide) (fun v4 ev4 rv4 => ?_)
  refine rn_scl 4 ev4 ri hi (by decide) hs4 dL_law_678 ?_
  refine rn_i2l dL_law_679 rfl (rn_nmL (fun l5 => ?_))
  refine rn_bipush (v := (32 : Int32)) dL_law_680 (by decide) ?_
  refine rn_lshl dL_law_682 rfl (rn_nmL (fun l6 => ?_))
  refine rn_aload_n (i := 0) dL_law_683 rfl rfl ?_
  refine rn_iload dL_law_684 rfl ?_
  refine rn_iconst (v := (5 : Int32)) dL_law_686 (by decide) ?_
  refine rs_addC (6) (5126) ri rk_5 dL_law_687 (by decide) (fun v7 ev7 rv7 => ?_)
  refine rn_scl 5 ev7 ri hi (by decide) hs5 dL_law_688 ?_
  refine rn_i2l dL_law_689 rfl (rn_nmL (fun l8 => ?_))
  refine rn_ldc2 (v := (4294967295 : Int64)) wd_1561 dL_law_690 ?_
  refine rn_land dL_law_693 (rn_nmL (fun l9 => ?_))
  refine rn_lor dL_law_694 (rn_nmL (fun l10 => ?_))
  refine rn_aload_n (i := 0) dL_law_695 rfl rfl ?_
  refine rn_iload dL_law_696 rfl ?_
  refine rn_bipush (v := (6 : Int32)) dL_law_698 (by decide) ?_
  refine rs_addC (7) (5127) ri rk_6 dL_law_700 (by decide) (fun v11 ev11 rv11 => ?_)
  refine rn_scl 6 ev11 ri hi (by decide) hs6 dL_law_701 ?_
  refine rn_i2l dL_law_702 rfl (rn_nmL (fun l12 => ?_))
  refine rn_bipush (v := (32 : Int32)) dL_law_703 (by decide) ?_
  refine rn_lshl dL_law_705 rfl (rn_nmL (fun l13 => ?_))
  refine rn_aload_n (i := 0) dL_law_706 rfl rfl ?_
  refine rn_iload dL_law_707 rfl ?_
  refine rn_bipush (v := (7 : Int32)) dL_law_709 (by decide) ?_
  refine rs_addC (8) (5128) ri rk_7 dL_law_711 (by decide) (fun v14 ev14 rv14 => ?_)
  refine rn_scl 7 ev14 ri hi (by decide) hs7 dL_law_712 ?_
  refine rn_i2l dL_law_713 rfl (rn_nmL (fun l15 => ?_))
  refine rn_ldc2 (v := (4294967295 : Int64)) wd_1561 dL_law_714 ?_
  refine rn_land dL_law_717 (rn_nmL (fun l16 => ?_))
  refine rn_lor dL_law_718 (rn_nmL (fun l17 => ?_))
  refine rn_aload_n (i := 0) dL_law_719 rfl rfl ?_
  refine rn_iload dL_law_720 rfl ?_
  refine rn_bipush (v := (8 : Int32)) dL_law_722 (by decide) ?_
  refine rs_addC (9) (5129) ri rk_8 dL_law_724 (by decide) (fun v18 ev18 rv18 => ?_)
  refine rn_scl 8 ev18 ri hi (by decide) hs8 dL_law_725 ?_
  refine rn_if_eq (tgt := 733) dL_law_726 (by decide) (fun h19 => ?_) (fun h19 => ?_)
  · have ch19 := cv_eq h19
    have r20 : Rg (0) (0) sc8 := rf_eqx ch19 (rg_any sc8) rk_0 (by decide) (by decide)
    refine rn_iconst (v := (0 : Int32)) dL_law_733 (by decide) ?_
    refine rn_aload_n (i := 0) dL_law_734 rfl rfl ?_
    refine rn_iload dL_law_735 rfl ?_
    refine rn_bipush (v := (9 : Int32)) dL_law_737 (by decide) ?_
    refine rs_addC (10) (5130) ri rk_9 dL_law_739 (by decide) (fun v21 ev21 rv21 => ?_)
    refine rn_scl 9 ev21 ri hi (by decide) hs9 dL_law_740 ?_
    refine rn_aload_n (i := 3) dL_law_741 rfl rfl ?_
    refine rn_callSX (a := (a + 0)) (b := (b + 0)) [.ref ox, .int sc1, .int sc2, .int sc3, .long l10, .long l17, .int (0 : Int32), .int sc9, .ref oo] kl_SGLaw_144 dL_law_742 (t_L_seal G S ws hS0.1 ox mx sc1 sc2 sc3 l10 l17 (0 : Int32) (rg_w rk_0 (by decide) (by decide)) sc9 oo mo) rfl rfl (Nat.le_of_ble_eq_true rfl) (Nat.le_of_ble_eq_true rfl) (Nat.le_of_ble_eq_true rfl) (Nat.le_of_ble_eq_true rfl) (bud_le (by decide)) (bud_le (by decide)) (fun _ _ h => False.elim h) (fun v9 w22 h23 => ?_)
    obtain ⟨S25, hT25, v24, rfl, rv24⟩ := h23
    have hS25 := St.tr hS0 hT25 (by decide +kernel)
    have I25 := Cpt.cl I hT25 rfl rfl rfl
    refine rn_stk [.int v24] rfl ?_
    refine rn_istore dL_law_745 (by decide) [(0, .ref G.2.2.2.2.1.1), (1, .ref ox), (2, .ref om), (3, .ref oo), (4, .int i), (5, .int v24)] rfl ?_
    refine rn_aload_n (i := 2) dL_law_747 rfl rfl ?_
    refine rn_aload_n (i := 0) dL_law_748 rfl rfl ?_
    refine rn_iload dL_law_749 rfl ?_
    refine rn_iconst (v := (1 : Int32)) dL_law_751 (by decide) ?_
    refine rs_addC (2) (5122) ri rk_1 dL_law_752 (by decide) (fun v26 ev26 rv26 => ?_)
    refine rn_scl 1 ev26 ri hi (by decide) hs1 dL_law_753 ?_
    refine rn_aload_n (i := 0) dL_law_754 rfl rfl ?_
    refine rn_iload dL_law_755 rfl ?_
    refine rn_iconst (v := (2 : Int32)) dL_law_757 (by decide) ?_
    refine rs_addC (3) (5123) ri rk_2 dL_law_758 (by decide) (fun v27 ev27 rv27 => ?_)
    refine rn_scl 2 ev27 ri hi (by decide) hs2 dL_law_759 ?_
    refine rn_aload_n (i := 0) dL_law_760 rfl rfl ?_
    refine rn_iload dL_law_761 rfl ?_
    refine rn_iconst (v := (3 : Int32)) dL_law_763 (by decide) ?_
    refine rs_addC (4) (5124) ri rk_3 dL_law_764 (by decide) (fun v28 ev28 rv28 => ?_)
    refine rn_scl 3 ev28 ri hi (by decide) hs3 dL_law_765 ?_
    refine rn_aload_n (i := 0) dL_law_766 rfl rfl ?_
    refine rn_iload dL_law_767 rfl ?_
    refine rn_iconst (v := (4 : Int32)) dL_law_769 (by decide) ?_
    refine rs_addC (5) (5125) ri rk_4 dL_law_770 (by decide) (fun v29 ev29 rv29 => ?_)
    refine rn_scl 4 ev29 ri hi (by decide) hs4 dL_law_771 ?_
    refine rn_i2l dL_law_772 rfl (rn_nmL (fun l30 => ?_))
    refine rn_bipush (v := (32 : Int32)) dL_law_773 (by decide) ?_
    refine rn_lshl dL_law_775 rfl (rn_nmL (fun l31 => ?_))
    refine rn_aload_n (i := 0) dL_law_776 rfl rfl ?_
    refine rn_iload dL_law_777 rfl ?_
    refine rn_iconst (v := (5 : Int32)) dL_law_779 (by decide) ?_
    refine rs_addC (6) (5126) ri rk_5 dL_law_780 (by decide) (fun v32 ev32 rv32 => ?_)
    refine rn_scl 5 ev32 ri hi (by decide) hs5 dL_law_781 ?_
    refine rn_i2l dL_law_782 rfl (rn_nmL (fun l33 => ?_))
    refine rn_ldc2 (v := (4294967295 : Int64)) wd_1561 dL_law_783 ?_
    refine rn_land dL_law_786 (rn_nmL (fun l34 => ?_))
    refine rn_lor dL_law_787 (rn_nmL (fun l35 => ?_))
    refine rn_aload_n (i := 0) dL_law_788 rfl rfl ?_
    refine rn_iload dL_law_789 rfl ?_
    refine rn_bipush (v := (6 : Int32)) dL_law_791 (by decide) ?_
    refine rs_addC (7) (5127) ri rk_6 dL_law_793 (by decide) (fun v36 ev36 rv36 => ?_)
    refine rn_scl 6 ev36 ri hi (by decide) hs6 dL_law_794 ?_
    refine rn_i2l dL_law_795 rfl (rn_nmL (fun l37 => ?_))
    refine rn_bipush (v := (32 : Int32)) dL_law_796 (by decide) ?_
    refine rn_lshl dL_law_798 rfl (rn_nmL (fun l38 => ?_))
    refine rn_aload_n (i := 0) dL_law_799 rfl rfl ?_
    refine rn_iload dL_law_800 rfl ?_
    refine rn_bipush (v := (7 : Int32)) dL_law_802 (by decide) ?_
    refine rs_addC (8) (5128) ri rk_7 dL_law_804 (by decide) (fun v39 ev39 rv39 => ?_)
    refine rn_scl 7 ev39 ri hi (by decide) hs7 dL_law_805 ?_
    refine rn_i2l dL_law_806 rfl (rn_nmL (fun l40 => ?_))
    refine rn_ldc2 (v := (4294967295 : Int64)) wd_1561 dL_law_807 ?_
    refine rn_land dL_law_810 (rn_nmL (fun l41 => ?_))
    refine rn_lor dL_law_811 (rn_nmL (fun l42 => ?_))
    refine rn_aload_n (i := 0) dL_law_812 rfl rfl ?_
    refine rn_iload dL_law_813 rfl ?_
    refine rn_bipush (v := (8 : Int32)) dL_law_815 (by decide) ?_
    refine rs_addC (9) (5129) ri rk_8 dL_law_817 (by decide) (fun v43 ev43 rv43 => ?_)
    refine rn_scl 8 ev43 ri hi (by decide) hs8 dL_law_818 ?_
    refine rn_if_eq (tgt := 826) dL_law_819 (by decide) (fun h44 => ?_) (fun h44 => (cx_ne (cv_ne h44) r20 rk_0 (by decide)).elim)
    have ch44 := cv_eq h44
    refine rn_iconst (v := (0 : Int32)) dL_law_826 (by decide) ?_
    refine rn_aload_n (i := 0) dL_law_827 rfl rfl ?_
    refine rn_iload dL_law_828 rfl ?_
    refine rn_bipush (v := (9 : Int32)) dL_law_830 (by decide) ?_
    refine rs_addC (10) (5130) ri rk_9 dL_law_832 (by decide) (fun v45 ev45 rv45 => ?_)
    refine rn_scl 9 ev45 ri hi (by decide) hs9 dL_law_833 ?_
    obtain ⟨q46, fs46, hq46, hl46, hf46⟩ := ts_obj hS25.1 (hT25.mem mm) hk_30
    refine rn_callV (a := (a + 0)) (b := (b + 0)) [.int sc1, .int sc2, .int sc3, .long l35, .long l42, .int (0 : Int32), .int sc9] kl_SGLaw_147 dL_law_834 q46 hl46 rfl (t_X10_seal G S25 w22 hS25.1 om (hT25.mem mm) sc1 sc2 sc3 l35 l42 (0 : Int32) (rg_w rk_0 (by decide) (by decide)) sc9) rfl rfl (Nat.le_of_ble_eq_true rfl) (Nat.le_of_ble_eq_true rfl) (Nat.le_of_ble_eq_true rfl) (Nat.le_of_ble_eq_true rfl) (bud_le (by decide)) (bud_le (by decide)) (fun _ _ h => False.elim h) (fun v9 w47 h48 => ?_)
    obtain ⟨hT50, v49, rfl, rv49, fkh48⟩ := h48
    have hS50 := St.tr hS25 hT50 (by decide +kernel)
    have I50 := Cpt.rf I25 hT50 rfl rfl fkh48
    refine rn_stk [.int v49] rfl ?_
    refine rn_istore dL_law_837 (by decide) [(0, .ref G.2.2.2.2.1.1), (1, .ref ox), (2, .ref om), (3, .ref oo), (4, .int i), (5, .int v24), (6, .int v49)] rfl ?_
    refine rn_goto (tgt := 1279) dL_law_839 (by decide) ?_
    refine rn_lv [(0, .ref G.2.2.2.2.1.1), (1, .ref ox), (2, .ref om), (3, .ref oo), (4, .int i)] rfl ?_
    refine rn_room (d' := 9) (z' := 244) (a' := a) (b' := b) ?_ (Nat.le_refl _) (Nat.le_refl _) (Nat.le_add_right _ _) (Nat.le_add_right _ _)
    exact K _ _ hS50.1 (fun p hp => hS50.mem hp) I50
  · have ch19 := cv_ne h19
    refine rn_iconst (v := (1 : Int32)) dL_law_729 (by decide) ?_
    refine rn_goto (tgt := 734) dL_law_730 (by decide) ?_
    refine rn_aload_n (i := 0) dL_law_734 rfl rfl ?_
    refine rn_iload dL_law_735 rfl ?_
    refine rn_bipush (v := (9 : Int32)) dL_law_737 (by decide) ?_
    refine rs_addC (10) (5130) ri rk_9 dL_law_739 (by decide) (fun v51 ev51 rv51 => ?_)
    refine rn_scl 9 ev51 ri hi (by decide) hs9 dL_law_740 ?_
    refine rn_aload_n (i := 3) dL_law_741 rfl rfl ?_
    refine rn_callSX (a := (a + 0)) (b := (b + 0)) [.ref ox, .int sc1, .int sc2, .int sc3, .long l10, .long l17, .int (1 : Int32), .int sc9, .ref oo] kl_SGLaw_144 dL_law_742 (t_L_seal G S ws hS0.1 ox mx sc1 sc2 sc3 l10 l17 (1 : Int32) (rg_w rk_1 (by decide) (by decide)) sc9 oo mo) rfl rfl (Nat.le_of_ble_eq_true rfl) (Nat.le_of_ble_eq_true rfl) (Nat.le_of_ble_eq_true rfl) (Nat.le_of_ble_eq_true rfl) (bud_le (by decide)) (bud_le (by decide)) (fun _ _ h => False.elim h) (fun v9 w52 h53 => ?_)
    obtain ⟨S55, hT55, v54, rfl, rv54⟩ := h53
    have hS55 := St.tr hS0 hT55 (by decide +kernel)
    have I55 := Cpt.cl I hT55 rfl rfl rfl
    refine rn_stk [.int v54] rfl ?_
    refine rn_istore dL_law_745 (by decide) [(0, .ref G.2.2.2.2.1.1), (1, .ref ox), (2, .ref om), (3, .ref oo), (4, .int i), (5, .int v54)] rfl ?_
    refine rn_aload_n (i := 2) dL_law_747 rfl rfl ?_
    refine rn_aload_n (i := 0) dL_law_748 rfl rfl ?_
    refine rn_iload dL_law_749 rfl ?_
    refine rn_iconst (v := (1 : Int32)) dL_law_751 (by decide) ?_
    refine rs_addC (2) (5122) ri rk_1 dL_law_752 (by decide) (fun v56 ev56 rv56 => ?_)
    refine rn_scl 1 ev56 ri hi (by decide) hs1 dL_law_753 ?_
    refine rn_aload_n (i := 0) dL_law_754 rfl rfl ?_
    refine rn_iload dL_law_755 rfl ?_
    refine rn_iconst (v := (2 : Int32)) dL_law_757 (by decide) ?_
    refine rs_addC (3) (5123) ri rk_2 dL_law_758 (by decide) (fun v57 ev57 rv57 => ?_)
    refine rn_scl 2 ev57 ri hi (by decide) hs2 dL_law_759 ?_
    refine rn_aload_n (i := 0) dL_law_760 rfl rfl ?_
    refine rn_iload dL_law_761 rfl ?_
    refine rn_iconst (v := (3 : Int32)) dL_law_763 (by decide) ?_
    refine rs_addC (4) (5124) ri rk_3 dL_law_764 (by decide) (fun v58 ev58 rv58 => ?_)
    refine rn_scl 3 ev58 ri hi (by decide) hs3 dL_law_765 ?_
    refine rn_aload_n (i := 0) dL_law_766 rfl rfl ?_
    refine rn_iload dL_law_767 rfl ?_
    refine rn_iconst (v := (4 : Int32)) dL_law_769 (by decide) ?_
    refine rs_addC (5) (5125) ri rk_4 dL_law_770 (by decide) (fun v59 ev59 rv59 => ?_)
    refine rn_scl 4 ev59 ri hi (by decide) hs4 dL_law_771 ?_
    refine rn_i2l dL_law_772 rfl (rn_nmL (fun l60 => ?_))
    refine rn_bipush (v := (32 : Int32)) dL_law_773 (by decide) ?_
    refine rn_lshl dL_law_775 rfl (rn_nmL (fun l61 => ?_))
    refine rn_aload_n (i := 0) dL_law_776 rfl rfl ?_
    refine rn_iload dL_law_777 rfl ?_
    refine rn_iconst (v := (5 : Int32)) dL_law_779 (by decide) ?_
    refine rs_addC (6) (5126) ri rk_5 dL_law_780 (by decide) (fun v62 ev62 rv62 => ?_)
    refine rn_scl 5 ev62 ri hi (by decide) hs5 dL_law_781 ?_
    refine rn_i2l dL_law_782 rfl (rn_nmL (fun l63 => ?_))
    refine rn_ldc2 (v := (4294967295 : Int64)) wd_1561 dL_law_783 ?_
    refine rn_land dL_law_786 (rn_nmL (fun l64 => ?_))
    refine rn_lor dL_law_787 (rn_nmL (fun l65 => ?_))
    refine rn_aload_n (i := 0) dL_law_788 rfl rfl ?_
    refine rn_iload dL_law_789 rfl ?_
    refine rn_bipush (v := (6 : Int32)) dL_law_791 (by decide) ?_
    refine rs_addC (7) (5127) ri rk_6 dL_law_793 (by decide) (fun v66 ev66 rv66 => ?_)
    refine rn_scl 6 ev66 ri hi (by decide) hs6 dL_law_794 ?_
    refine rn_i2l dL_law_795 rfl (rn_nmL (fun l67 => ?_))
    refine rn_bipush (v := (32 : Int32)) dL_law_796 (by decide) ?_
    refine rn_lshl dL_law_798 rfl (rn_nmL (fun l68 => ?_))
    refine rn_aload_n (i := 0) dL_law_799 rfl rfl ?_
    refine rn_iload dL_law_800 rfl ?_
    refine rn_bipush (v := (7 : Int32)) dL_law_802 (by decide) ?_
    refine rs_addC (8) (5128) ri rk_7 dL_law_804 (by decide) (fun v69 ev69 rv69 => ?_)
    refine rn_scl 7 ev69 ri hi (by decide) hs7 dL_law_805 ?_
    refine rn_i2l dL_law_806 rfl (rn_nmL (fun l70 => ?_))
    refine rn_ldc2 (v := (4294967295 : Int64)) wd_1561 dL_law_807 ?_
    refine rn_land dL_law_810 (rn_nmL (fun l71 => ?_))
    refine rn_lor dL_law_811 (rn_nmL (fun l72 => ?_))
    refine rn_aload_n (i := 0) dL_law_812 rfl rfl ?_
    refine rn_iload dL_law_813 rfl ?_
    refine rn_bipush (v := (8 : Int32)) dL_law_815 (by decide) ?_
    refine rs_addC (9) (5129) ri rk_8 dL_law_817 (by decide) (fun v73 ev73 rv73 => ?_)
    refine rn_scl 8 ev73 ri hi (by decide) hs8 dL_law_818 ?_
    refine rn_if_eq (tgt := 826) dL_law_819 (by decide) (fun h74 => ?_) (fun h74 => ?_)
    · have ch74 := cv_eq h74
      have r75 : Rg (0) (0) sc8 := rf_eqx ch74 (rg_any sc8) rk_0 (by decide) (by decide)
      refine rn_iconst (v := (0 : Int32)) dL_law_826 (by decide) ?_
      refine rn_aload_n (i := 0) dL_law_827 rfl rfl ?_
      refine rn_iload dL_law_828 rfl ?_
      refine rn_bipush (v := (9 : Int32)) dL_law_830 (by decide) ?_
      refine rs_addC (10) (5130) ri rk_9 dL_law_832 (by decide) (fun v76 ev76 rv76 => ?_)
      refine rn_scl 9 ev76 ri hi (by decide) hs9 dL_law_833 ?_
      obtain ⟨q77, fs77, hq77, hl77, hf77⟩ := ts_obj hS55.1 (hT55.mem mm) hk_30
      refine rn_callV (a := (a + 0)) (b := (b + 0)) [.int sc1, .int sc2, .int sc3, .long l65, .long l72, .int (0 : Int32), .int sc9] kl_SGLaw_147 dL_law_834 q77 hl77 rfl (t_X10_seal G S55 w52 hS55.1 om (hT55.mem mm) sc1 sc2 sc3 l65 l72 (0 : Int32) (rg_w rk_0 (by decide) (by decide)) sc9) rfl rfl (Nat.le_of_ble_eq_true rfl) (Nat.le_of_ble_eq_true rfl) (Nat.le_of_ble_eq_true rfl) (Nat.le_of_ble_eq_true rfl) (bud_le (by decide)) (bud_le (by decide)) (fun _ _ h => False.elim h) (fun v9 w78 h79 => ?_)
      obtain ⟨hT81, v80, rfl, rv80, fkh79⟩ := h79
      have hS81 := St.tr hS55 hT81 (by decide +kernel)
      have I81 := Cpt.rf I55 hT81 rfl rfl fkh79
      refine rn_stk [.int v80] rfl ?_
      refine rn_istore dL_law_837 (by decide) [(0, .ref G.2.2.2.2.1.1), (1, .ref ox), (2, .ref om), (3, .ref oo), (4, .int i), (5, .int v54), (6, .int v80)] rfl ?_
      refine rn_goto (tgt := 1279) dL_law_839 (by decide) ?_
      refine rn_lv [(0, .ref G.2.2.2.2.1.1), (1, .ref ox), (2, .ref om), (3, .ref oo), (4, .int i)] rfl ?_
      refine rn_room (d' := 9) (z' := 244) (a' := a) (b' := b) ?_ (Nat.le_refl _) (Nat.le_refl _) (Nat.le_add_right _ _) (Nat.le_add_right _ _)
      exact K _ _ hS81.1 (fun p hp => hS81.mem hp) I81
    · have ch74 := cv_ne h74
      refine rn_iconst (v := (1 : Int32)) dL_law_822 (by decide) ?_
      refine rn_goto (tgt := 827) dL_law_823 (by decide) ?_
      refine rn_aload_n (i := 0) dL_law_827 rfl rfl ?_
      refine rn_iload dL_law_828 rfl ?_
      refine rn_bipush (v := (9 : Int32)) dL_law_830 (by decide) ?_
      refine rs_addC (10) (5130) ri rk_9 dL_law_832 (by decide) (fun v82 ev82 rv82 => ?_)
      refine rn_scl 9 ev82 ri hi (by decide) hs9 dL_law_833 ?_
      obtain ⟨q83, fs83, hq83, hl83, hf83⟩ := ts_obj hS55.1 (hT55.mem mm) hk_30
      refine rn_callV (a := (a + 0)) (b := (b + 0)) [.int sc1, .int sc2, .int sc3, .long l65, .long l72, .int (1 : Int32), .int sc9] kl_SGLaw_147 dL_law_834 q83 hl83 rfl (t_X10_seal G S55 w52 hS55.1 om (hT55.mem mm) sc1 sc2 sc3 l65 l72 (1 : Int32) (rg_w rk_1 (by decide) (by decide)) sc9) rfl rfl (Nat.le_of_ble_eq_true rfl) (Nat.le_of_ble_eq_true rfl) (Nat.le_of_ble_eq_true rfl) (Nat.le_of_ble_eq_true rfl) (bud_le (by decide)) (bud_le (by decide)) (fun _ _ h => False.elim h) (fun v9 w84 h85 => ?_)
      obtain ⟨hT87, v86, rfl, rv86, fkh85⟩ := h85
      have hS87 := St.tr hS55 hT87 (by decide +kernel)
      have I87 := Cpt.rf I55 hT87 rfl rfl fkh85
      refine rn_stk [.int v86] rfl ?_
      refine rn_istore dL_law_837 (by decide) [(0, .ref G.2.2.2.2.1.1), (1, .ref ox), (2, .ref om), (3, .ref oo), (4, .int i), (5, .int v54), (6, .int v86)] rfl ?_
      refine rn_goto (tgt := 1279) dL_law_839 (by decide) ?_
      refine rn_lv [(0, .ref G.2.2.2.2.1.1), (1, .ref ox), (2, .ref om), (3, .ref oo), (4, .int i)] rfl ?_
      refine rn_room (d' := 9) (z' := 244) (a' := a) (b' := b) ?_ (Nat.le_refl _) (Nat.le_refl _) (Nat.le_add_right _ _) (Nat.le_add_right _ _)
      exact K _ _ hS87.1 (fun p hp => hS87.mem hp) I87
