set_option maxRecDepth 20000 in
set_option maxHeartbeats 4000000 in
theorem law_10 (G : rn_G) (ws : va_W) (hL : G.2.2.2.2.1.2.1 = 11) (o_sg : Nat) (fs_sg : List Value) (o_seals : Nat) (o_m : Nat) (fs_m : List Value) (a_sealWay : Nat) (a_sealTunnel : Nat) (a_sealName : Nat) (a_sealKey : Nat) (a_sealStamp : Nat) (a_sealLong : Nat) (a_sealLife : Nat) (a_sealStopped : Nat) (a_sealTop : Nat) (a_sealSeen : Nat) (o_out : Nat) (h_sg : ws[0]? = some (o_sg, Sum.inr (9, fs_sg))) (hf_sg_10 : fs_sg[10]? = some (.ref o_seals)) (hf_sg_11 : fs_sg[11]? = some (.int (0 : Int32))) (h_seals : ws[17]? = some (o_seals, Sum.inl (rn_k G 6, 16, Sum.inr (Sum.inr (Sum.inr (Sum.inr (fun _ => none))))))) (h_m : ws[23]? = some (o_m, Sum.inr (10, fs_m))) (hf_m_0 : fs_m[0]? = some (.int (0 : Int32))) (hf_m_22 : fs_m[22]? = some (.int (0 : Int32))) (hf_m_23 : fs_m[23]? = some (.ref a_sealWay)) (hf_m_24 : fs_m[24]? = some (.ref a_sealTunnel)) (hf_m_25 : fs_m[25]? = some (.ref a_sealName)) (hf_m_26 : fs_m[26]? = some (.ref a_sealKey)) (hf_m_27 : fs_m[27]? = some (.ref a_sealStamp)) (hf_m_28 : fs_m[28]? = some (.ref a_sealLong)) (hf_m_29 : fs_m[29]? = some (.ref a_sealLife)) (hf_m_30 : fs_m[30]? = some (.ref a_sealStopped)) (hf_m_31 : fs_m[31]? = some (.ref a_sealTop)) (hf_m_32 : fs_m[32]? = some (.ref a_sealSeen)) (h_m_sealWay : ws[38]? = some (a_sealWay, Sum.inl (rn_k G 1, 16, Sum.inl (fun _ => 0)))) (h_m_sealTunnel : ws[39]? = some (a_sealTunnel, Sum.inl (rn_k G 1, 16, Sum.inl (fun _ => 0)))) (h_m_sealName : ws[40]? = some (a_sealName, Sum.inl (rn_k G 1, 16, Sum.inl (fun _ => 0)))) (h_m_sealKey : ws[41]? = some (a_sealKey, Sum.inl (rn_k G 2, 16, Sum.inr (Sum.inl (fun _ => 0))))) (h_m_sealStamp : ws[42]? = some (a_sealStamp, Sum.inl (rn_k G 2, 16, Sum.inr (Sum.inl (fun _ => 0))))) (h_m_sealLong : ws[43]? = some (a_sealLong, Sum.inl (rn_k G 3, 16, Sum.inl (fun _ => 0)))) (h_m_sealLife : ws[44]? = some (a_sealLife, Sum.inl (rn_k G 1, 16, Sum.inl (fun _ => 0)))) (h_m_sealStopped : ws[45]? = some (a_sealStopped, Sum.inl (rn_k G 3, 16, Sum.inl (fun _ => 0)))) (h_m_sealTop : ws[46]? = some (a_sealTop, Sum.inl (rn_k G 2, 16, Sum.inr (Sum.inl (fun _ => 0))))) (h_m_sealSeen : ws[47]? = some (a_sealSeen, Sum.inl (rn_k G 2, 16, Sum.inr (Sum.inl (fun _ => 0))))) (h_out : ws[62]? = some (o_out, Sum.inl (rn_k G 2, 1, Sum.inr (Sum.inl (fun _ => 0))))) (hlen : ws.length = 63) : Rn G mL_law 8 150 1 10 900 [(0, .ref G.2.2.2.2.1.1), (1, .ref o_sg), (2, .ref o_m), (3, .ref o_out), (4, .int (1 : Int32))] [] ws (fun r _ => r = Sum.inl (some (.int 1))) := by
  obtain ⟨sc2, se2⟩ : ∃ x : Int32, G.2.2.2.2.1.2.2 (2 : Int32).toNatClampNeg = x := ⟨_, rfl⟩
  obtain ⟨sc3, se3⟩ : ∃ x : Int32, G.2.2.2.2.1.2.2 (3 : Int32).toNatClampNeg = x := ⟨_, rfl⟩
  obtain ⟨sc4, se4⟩ : ∃ x : Int32, G.2.2.2.2.1.2.2 (4 : Int32).toNatClampNeg = x := ⟨_, rfl⟩
  obtain ⟨sc5, se5⟩ : ∃ x : Int32, G.2.2.2.2.1.2.2 (5 : Int32).toNatClampNeg = x := ⟨_, rfl⟩
  obtain ⟨sc6, se6⟩ : ∃ x : Int32, G.2.2.2.2.1.2.2 (6 : Int32).toNatClampNeg = x := ⟨_, rfl⟩
  obtain ⟨sc7, se7⟩ : ∃ x : Int32, G.2.2.2.2.1.2.2 (7 : Int32).toNatClampNeg = x := ⟨_, rfl⟩
  obtain ⟨sc8, se8⟩ : ∃ x : Int32, G.2.2.2.2.1.2.2 (8 : Int32).toNatClampNeg = x := ⟨_, rfl⟩
  obtain ⟨sc9, se9⟩ : ∃ x : Int32, G.2.2.2.2.1.2.2 (9 : Int32).toNatClampNeg = x := ⟨_, rfl⟩
  obtain ⟨sc10, se10⟩ : ∃ x : Int32, G.2.2.2.2.1.2.2 (10 : Int32).toNatClampNeg = x := ⟨_, rfl⟩
  refine rn_aload_n (i := 1) dL_law_900 rfl rfl ?_
  refine rn_aload_n (i := 0) dL_law_901 rfl rfl ?_
  refine rn_iload dL_law_902 rfl ?_
  refine rn_iconst (v := (1 : Int32)) dL_law_904 (by decide) ?_
  refine rn_iadd dL_law_905 ?_
  refine rn_topi (2 : Int32) (by decide) ?_
  refine rn_sld (by rw [hL]; unfold vp_in; decide) dL_law_906 ?_
  refine rn_topi sc2 se2 ?_
  refine rn_aload_n (i := 0) dL_law_907 rfl rfl ?_
  refine rn_iload dL_law_908 rfl ?_
  refine rn_iconst (v := (2 : Int32)) dL_law_910 (by decide) ?_
  refine rn_iadd dL_law_911 ?_
  refine rn_topi (3 : Int32) (by decide) ?_
  refine rn_sld (by rw [hL]; unfold vp_in; decide) dL_law_912 ?_
  refine rn_topi sc3 se3 ?_
  refine rn_aload_n (i := 0) dL_law_913 rfl rfl ?_
  refine rn_iload dL_law_914 rfl ?_
  refine rn_iconst (v := (3 : Int32)) dL_law_916 (by decide) ?_
  refine rn_iadd dL_law_917 ?_
  refine rn_topi (4 : Int32) (by decide) ?_
  refine rn_sld (by rw [hL]; unfold vp_in; decide) dL_law_918 ?_
  refine rn_topi sc4 se4 ?_
  refine rn_aload_n (i := 0) dL_law_919 rfl rfl ?_
  refine rn_iload dL_law_920 rfl ?_
  refine rn_iconst (v := (4 : Int32)) dL_law_922 (by decide) ?_
  refine rn_iadd dL_law_923 ?_
  refine rn_topi (5 : Int32) (by decide) ?_
  refine rn_sld (by rw [hL]; unfold vp_in; decide) dL_law_924 ?_
  refine rn_topi sc5 se5 ?_
  refine rn_i2l dL_law_925 rfl ?_
  refine rn_bipush (v := (32 : Int32)) dL_law_926 (by decide) ?_
  refine rn_lshl dL_law_928 rfl ?_
  refine rn_aload_n (i := 0) dL_law_929 rfl rfl ?_
  refine rn_iload dL_law_930 rfl ?_
  refine rn_iconst (v := (5 : Int32)) dL_law_932 (by decide) ?_
  refine rn_iadd dL_law_933 ?_
  refine rn_topi (6 : Int32) (by decide) ?_
  refine rn_sld (by rw [hL]; unfold vp_in; decide) dL_law_934 ?_
  refine rn_topi sc6 se6 ?_
  refine rn_i2l dL_law_935 rfl ?_
  refine rn_ldc2 (v := (4294967295 : Int64)) wd_1565 dL_law_936 ?_
  refine rn_land dL_law_939 ?_
  refine rn_lor dL_law_940 ?_
  refine rn_aload_n (i := 0) dL_law_941 rfl rfl ?_
  refine rn_iload dL_law_942 rfl ?_
  refine rn_bipush (v := (6 : Int32)) dL_law_944 (by decide) ?_
  refine rn_iadd dL_law_946 ?_
  refine rn_topi (7 : Int32) (by decide) ?_
  refine rn_sld (by rw [hL]; unfold vp_in; decide) dL_law_947 ?_
  refine rn_topi sc7 se7 ?_
  refine rn_i2l dL_law_948 rfl ?_
  refine rn_bipush (v := (32 : Int32)) dL_law_949 (by decide) ?_
  refine rn_lshl dL_law_951 rfl ?_
  refine rn_aload_n (i := 0) dL_law_952 rfl rfl ?_
  refine rn_iload dL_law_953 rfl ?_
  refine rn_bipush (v := (7 : Int32)) dL_law_955 (by decide) ?_
  refine rn_iadd dL_law_957 ?_
  refine rn_topi (8 : Int32) (by decide) ?_
  refine rn_sld (by rw [hL]; unfold vp_in; decide) dL_law_958 ?_
  refine rn_topi sc8 se8 ?_
  refine rn_i2l dL_law_959 rfl ?_
  refine rn_ldc2 (v := (4294967295 : Int64)) wd_1565 dL_law_960 ?_
  refine rn_land dL_law_963 ?_
  refine rn_lor dL_law_964 ?_
  refine rn_aload_n (i := 0) dL_law_965 rfl rfl ?_
  refine rn_iload dL_law_966 rfl ?_
  refine rn_bipush (v := (8 : Int32)) dL_law_968 (by decide) ?_
  refine rn_iadd dL_law_970 ?_
  refine rn_topi (9 : Int32) (by decide) ?_
  refine rn_sld (by rw [hL]; unfold vp_in; decide) dL_law_971 ?_
  refine rn_topi sc9 se9 ?_
  refine rn_if_eq (tgt := 979) dL_law_972 (by decide) (fun h1 => ?_) (fun h1 => ?_)
  · refine rn_iconst (v := (0 : Int32)) dL_law_979 (by decide) ?_
    refine rn_aload_n (i := 0) dL_law_980 rfl rfl ?_
    refine rn_iload dL_law_981 rfl ?_
    refine rn_bipush (v := (9 : Int32)) dL_law_983 (by decide) ?_
    refine rn_iadd dL_law_985 ?_
    refine rn_topi (10 : Int32) (by decide) ?_
    refine rn_sld (by rw [hL]; unfold vp_in; decide) dL_law_986 ?_
    refine rn_topi sc10 se10 ?_
    refine rn_aload_n (i := 3) dL_law_987 rfl rfl ?_
    refine rn_callSX (a := 0) (b := 0) [.ref o_sg, .int sc2, .int sc3, .int sc4, .long (((sc5).toInt64 <<< (((32 : Int32)).toInt64 &&& 63)) ||| ((sc6).toInt64 &&& (4294967295 : Int64))), .long (((sc7).toInt64 <<< (((32 : Int32)).toInt64 &&& 63)) ||| ((sc8).toInt64 &&& (4294967295 : Int64))), .int (0 : Int32), .int sc10, .ref o_out] kl_SGLaw_147 dL_law_988 (c_L_seal_0 G _ (o_sg := o_sg) (x := sc2) (y := sc3) (u := sc4) (y1 := (((sc5).toInt64 <<< (((32 : Int32)).toInt64 &&& 63)) ||| ((sc6).toInt64 &&& (4294967295 : Int64)))) (y2 := (((sc7).toInt64 <<< (((32 : Int32)).toInt64 &&& 63)) ||| ((sc8).toInt64 &&& (4294967295 : Int64)))) (x2 := sc10) (o_out := o_out) (fs_sg := fs_sg) (o_seals := o_seals) (L := 63) h_sg hf_sg_10 hf_sg_11 h_seals h_out (by decide) (by decide) (by decide) hlen) rfl rfl (Nat.le_of_ble_eq_true rfl) (Nat.le_of_ble_eq_true rfl) (Nat.le_of_ble_eq_true rfl) (Nat.le_of_ble_eq_true rfl) (Nat.le_of_ble_eq_true rfl) (Nat.le_of_ble_eq_true rfl) (by rintro E w h; rcases h with ⟨_, hr, _⟩ | ⟨_, hr, _⟩ | ⟨_, _, hr, _⟩ <;> cases hr) ?_
    rintro v w h
    rcases h with ⟨hc, hr, hw⟩ | ⟨hc, hr, hw⟩ | ⟨q2, hc, hr, hw⟩
    · have hc3 := hc; clear hc; cases hr; rw [hw]
      refine rn_stk [.int (1 : Int32)] rfl ?_
      refine rn_istore dL_law_991 (by decide) [(0, .ref G.2.2.2.2.1.1), (1, .ref o_sg), (2, .ref o_m), (3, .ref o_out), (4, .int (1 : Int32)), (5, .int (1 : Int32))] rfl ?_
      refine rn_aload_n (i := 2) dL_law_993 rfl rfl ?_
      refine rn_aload_n (i := 0) dL_law_994 rfl rfl ?_
      refine rn_iload dL_law_995 rfl ?_
      refine rn_iconst (v := (1 : Int32)) dL_law_997 (by decide) ?_
      refine rn_iadd dL_law_998 ?_
      refine rn_topi (2 : Int32) (by decide) ?_
      refine rn_sld (by rw [hL]; unfold vp_in; decide) dL_law_999 ?_
      refine rn_topi sc2 se2 ?_
      refine rn_aload_n (i := 0) dL_law_1000 rfl rfl ?_
      refine rn_iload dL_law_1001 rfl ?_
      refine rn_iconst (v := (2 : Int32)) dL_law_1003 (by decide) ?_
      refine rn_iadd dL_law_1004 ?_
      refine rn_topi (3 : Int32) (by decide) ?_
      refine rn_sld (by rw [hL]; unfold vp_in; decide) dL_law_1005 ?_
      refine rn_topi sc3 se3 ?_
      refine rn_aload_n (i := 0) dL_law_1006 rfl rfl ?_
      refine rn_iload dL_law_1007 rfl ?_
      refine rn_iconst (v := (3 : Int32)) dL_law_1009 (by decide) ?_
      refine rn_iadd dL_law_1010 ?_
      refine rn_topi (4 : Int32) (by decide) ?_
      refine rn_sld (by rw [hL]; unfold vp_in; decide) dL_law_1011 ?_
      refine rn_topi sc4 se4 ?_
      refine rn_aload_n (i := 0) dL_law_1012 rfl rfl ?_
      refine rn_iload dL_law_1013 rfl ?_
      refine rn_iconst (v := (4 : Int32)) dL_law_1015 (by decide) ?_
      refine rn_iadd dL_law_1016 ?_
      refine rn_topi (5 : Int32) (by decide) ?_
      refine rn_sld (by rw [hL]; unfold vp_in; decide) dL_law_1017 ?_
      refine rn_topi sc5 se5 ?_
      refine rn_i2l dL_law_1018 rfl ?_
      refine rn_bipush (v := (32 : Int32)) dL_law_1019 (by decide) ?_
      refine rn_lshl dL_law_1021 rfl ?_
      refine rn_aload_n (i := 0) dL_law_1022 rfl rfl ?_
      refine rn_iload dL_law_1023 rfl ?_
      refine rn_iconst (v := (5 : Int32)) dL_law_1025 (by decide) ?_
      refine rn_iadd dL_law_1026 ?_
      refine rn_topi (6 : Int32) (by decide) ?_
      refine rn_sld (by rw [hL]; unfold vp_in; decide) dL_law_1027 ?_
      refine rn_topi sc6 se6 ?_
      refine rn_i2l dL_law_1028 rfl ?_
      refine rn_ldc2 (v := (4294967295 : Int64)) wd_1565 dL_law_1029 ?_
      refine rn_land dL_law_1032 ?_
      refine rn_lor dL_law_1033 ?_
      refine rn_aload_n (i := 0) dL_law_1034 rfl rfl ?_
      refine rn_iload dL_law_1035 rfl ?_
      refine rn_bipush (v := (6 : Int32)) dL_law_1037 (by decide) ?_
      refine rn_iadd dL_law_1039 ?_
      refine rn_topi (7 : Int32) (by decide) ?_
      refine rn_sld (by rw [hL]; unfold vp_in; decide) dL_law_1040 ?_
      refine rn_topi sc7 se7 ?_
      refine rn_i2l dL_law_1041 rfl ?_
      refine rn_bipush (v := (32 : Int32)) dL_law_1042 (by decide) ?_
      refine rn_lshl dL_law_1044 rfl ?_
      refine rn_aload_n (i := 0) dL_law_1045 rfl rfl ?_
      refine rn_iload dL_law_1046 rfl ?_
      refine rn_bipush (v := (7 : Int32)) dL_law_1048 (by decide) ?_
      refine rn_iadd dL_law_1050 ?_
      refine rn_topi (8 : Int32) (by decide) ?_
      refine rn_sld (by rw [hL]; unfold vp_in; decide) dL_law_1051 ?_
      refine rn_topi sc8 se8 ?_
      refine rn_i2l dL_law_1052 rfl ?_
      refine rn_ldc2 (v := (4294967295 : Int64)) wd_1565 dL_law_1053 ?_
      refine rn_land dL_law_1056 ?_
      refine rn_lor dL_law_1057 ?_
      refine rn_aload_n (i := 0) dL_law_1058 rfl rfl ?_
      refine rn_iload dL_law_1059 rfl ?_
      refine rn_bipush (v := (8 : Int32)) dL_law_1061 (by decide) ?_
      refine rn_iadd dL_law_1063 ?_
      refine rn_topi (9 : Int32) (by decide) ?_
      refine rn_sld (by rw [hL]; unfold vp_in; decide) dL_law_1064 ?_
      refine rn_topi sc9 se9 ?_
      refine rn_if_eq (tgt := 1072) dL_law_1065 (by decide) (fun h4 => ?_) (fun h4 => False.elim (by have g0 := i32_rng sc9; have g1 := i32_rng sc3; simp only [Int32.lt_iff_toInt_lt, Int32.le_iff_toInt_le, gt_iff_lt, ge_iff_le, ← Int32.toInt_inj, i32_0, i32_4] at *; omega))
      refine rn_iconst (v := (0 : Int32)) dL_law_1072 (by decide) ?_
      refine rn_aload_n (i := 0) dL_law_1073 rfl rfl ?_
      refine rn_iload dL_law_1074 rfl ?_
      refine rn_bipush (v := (9 : Int32)) dL_law_1076 (by decide) ?_
      refine rn_iadd dL_law_1078 ?_
      refine rn_topi (10 : Int32) (by decide) ?_
      refine rn_sld (by rw [hL]; unfold vp_in; decide) dL_law_1079 ?_
      refine rn_topi sc10 se10 ?_
      refine rn_callV (a := 0) (b := 0) [.int sc2, .int sc3, .int sc4, .long (((sc5).toInt64 <<< (((32 : Int32)).toInt64 &&& 63)) ||| ((sc6).toInt64 &&& (4294967295 : Int64))), .long (((sc7).toInt64 <<< (((32 : Int32)).toInt64 &&& 63)) ||| ((sc8).toInt64 &&& (4294967295 : Int64))), .int (0 : Int32), .int sc10] kl_SGLaw_150 dL_law_1080 23 h_m rfl (c_X10_seal_0 G _ (o_m := o_m) (x := sc2) (y := sc3) (u := sc4) (y1 := (((sc5).toInt64 <<< (((32 : Int32)).toInt64 &&& 63)) ||| ((sc6).toInt64 &&& (4294967295 : Int64)))) (y2 := (((sc7).toInt64 <<< (((32 : Int32)).toInt64 &&& 63)) ||| ((sc8).toInt64 &&& (4294967295 : Int64)))) (x2 := sc10) (fs_m := fs_m) (a_sealWay := a_sealWay) (a_sealTunnel := a_sealTunnel) (a_sealName := a_sealName) (a_sealKey := a_sealKey) (a_sealStamp := a_sealStamp) (a_sealLong := a_sealLong) (a_sealLife := a_sealLife) (a_sealStopped := a_sealStopped) (a_sealTop := a_sealTop) (a_sealSeen := a_sealSeen) h_m hf_m_0 hf_m_22 hf_m_23 hf_m_24 hf_m_25 hf_m_26 hf_m_27 hf_m_28 hf_m_29 hf_m_30 hf_m_31 hf_m_32 h_m_sealWay h_m_sealTunnel h_m_sealName h_m_sealKey h_m_sealStamp h_m_sealLong h_m_sealLife h_m_sealStopped h_m_sealTop h_m_sealSeen) rfl rfl (Nat.le_of_ble_eq_true rfl) (Nat.le_of_ble_eq_true rfl) (Nat.le_of_ble_eq_true rfl) (Nat.le_of_ble_eq_true rfl) (Nat.le_of_ble_eq_true rfl) (Nat.le_of_ble_eq_true rfl) (by rintro E w h; rcases h with ⟨_, hr, _⟩ | ⟨_, hr, _⟩ | ⟨_, hr, _⟩ <;> cases hr) ?_
      rintro v w h
      rcases h with ⟨hc, hr, hw⟩ | ⟨hc, hr, hw⟩ | ⟨hc, hr, hw⟩
      · have hc5 := hc; clear hc; cases hr
        have hw6 : w[23]? = some (o_m, Sum.inr (10, ((fs_m.set 0 (.int (0 : Int32))).set 0 (.int (1 : Int32))))) := by rw [hw, List.getElem?_set_self (by (try simp only [List.length_set, List.length_append, List.length_cons, List.length_nil]); have hq := ls_lt h_m; omega)]
        have hw7 : w[62]? = some (o_out, Sum.inl (rn_k G 2, 1, Sum.inr (Sum.inl (fun _ => 0)))) := by rw [hw, List.getElem?_set_ne (by decide), List.getElem?_set_ne (by decide), h_out]
        refine rn_stk [.int (0 : Int32)] rfl ?_
        refine rn_istore dL_law_1083 (by decide) [(0, .ref G.2.2.2.2.1.1), (1, .ref o_sg), (2, .ref o_m), (3, .ref o_out), (4, .int (1 : Int32)), (5, .int (1 : Int32)), (6, .int (0 : Int32))] rfl ?_
        refine rn_aload_n (i := 2) dL_law_1085 rfl rfl ?_
        refine rn_callV (a := 0) (b := 0) [] kl_SGLaw_110 dL_law_1086 23 hw6 rfl (c_X10_thrown G _ (o_m := o_m) (fs_m := ((fs_m.set 0 (.int (0 : Int32))).set 0 (.int (1 : Int32)))) (th := (1 : Int32)) hw6 (ls_eq (ls_eq hf_m_0))) rfl rfl (Nat.le_of_ble_eq_true rfl) (Nat.le_of_ble_eq_true rfl) (Nat.le_of_ble_eq_true rfl) (Nat.le_of_ble_eq_true rfl) (Nat.le_of_ble_eq_true rfl) (Nat.le_of_ble_eq_true rfl) (by rintro E w h; rcases h with ⟨_, hr, _⟩ <;> cases hr) ?_
        rintro v w h
        obtain ⟨hc8, hr, hw⟩ := h; cases hr; rw [hw]
        refine rn_stk [.int (1 : Int32)] rfl ?_
        refine rn_iload dL_law_1089 rfl ?_
        refine rn_icmp_eq (tgt := 1096) dL_law_1091 (by decide) (fun h9 => ?_) (fun h9 => absurd h9 (by decide))
        refine rn_iload dL_law_1096 rfl ?_
        refine rn_if_ne (tgt := 1113) dL_law_1098 (by decide) (fun h10 => ?_) (fun h10 => absurd h10 (by decide))
        refine rn_goto (tgt := 1865) dL_law_1113 (by decide) ?_
        refine rn_lv [(0, .ref G.2.2.2.2.1.1), (1, .ref o_sg), (2, .ref o_m), (3, .ref o_out), (4, .int (1 : Int32))] rfl ?_
        exact law_end G _ hL _ _ _
      · have hc11 := hc; clear hc; cases hr
        exfalso; have g0 := i32_rng sc9; have g1 := i32_rng sc3; have g2 := i32_rng sc2; have g3 := i32_rng sc4; have g4 := i32_rng sc10; simp only [Int32.lt_iff_toInt_lt, Int32.le_iff_toInt_le, gt_iff_lt, ge_iff_le, ← Int32.toInt_inj, i32_0, i32_1, i32_2, i32_3, i32_4, i32_256, i32_1000000] at *; omega
      · have hc12 := hc; clear hc; cases hr
        exfalso; have g0 := i32_rng sc9; have g1 := i32_rng sc3; have g2 := i32_rng sc2; have g3 := i32_rng sc4; have g4 := i32_rng sc10; simp only [Int32.lt_iff_toInt_lt, Int32.le_iff_toInt_le, gt_iff_lt, ge_iff_le, ← Int32.toInt_inj, i32_0, i32_1, i32_3, i32_4, i32_256, i32_1000000] at *; omega
    · have hc13 := hc; clear hc; cases hr; rw [hw]
      refine rn_stk [.int (2 : Int32)] rfl ?_
      refine rn_istore dL_law_991 (by decide) [(0, .ref G.2.2.2.2.1.1), (1, .ref o_sg), (2, .ref o_m), (3, .ref o_out), (4, .int (1 : Int32)), (5, .int (2 : Int32))] rfl ?_
      refine rn_aload_n (i := 2) dL_law_993 rfl rfl ?_
      refine rn_aload_n (i := 0) dL_law_994 rfl rfl ?_
      refine rn_iload dL_law_995 rfl ?_
      refine rn_iconst (v := (1 : Int32)) dL_law_997 (by decide) ?_
      refine rn_iadd dL_law_998 ?_
      refine rn_topi (2 : Int32) (by decide) ?_
      refine rn_sld (by rw [hL]; unfold vp_in; decide) dL_law_999 ?_
      refine rn_topi sc2 se2 ?_
      refine rn_aload_n (i := 0) dL_law_1000 rfl rfl ?_
      refine rn_iload dL_law_1001 rfl ?_
      refine rn_iconst (v := (2 : Int32)) dL_law_1003 (by decide) ?_
      refine rn_iadd dL_law_1004 ?_
      refine rn_topi (3 : Int32) (by decide) ?_
      refine rn_sld (by rw [hL]; unfold vp_in; decide) dL_law_1005 ?_
      refine rn_topi sc3 se3 ?_
      refine rn_aload_n (i := 0) dL_law_1006 rfl rfl ?_
      refine rn_iload dL_law_1007 rfl ?_
      refine rn_iconst (v := (3 : Int32)) dL_law_1009 (by decide) ?_
      refine rn_iadd dL_law_1010 ?_
      refine rn_topi (4 : Int32) (by decide) ?_
      refine rn_sld (by rw [hL]; unfold vp_in; decide) dL_law_1011 ?_
      refine rn_topi sc4 se4 ?_
      refine rn_aload_n (i := 0) dL_law_1012 rfl rfl ?_
      refine rn_iload dL_law_1013 rfl ?_
      refine rn_iconst (v := (4 : Int32)) dL_law_1015 (by decide) ?_
      refine rn_iadd dL_law_1016 ?_
      refine rn_topi (5 : Int32) (by decide) ?_
      refine rn_sld (by rw [hL]; unfold vp_in; decide) dL_law_1017 ?_
      refine rn_topi sc5 se5 ?_
      refine rn_i2l dL_law_1018 rfl ?_
      refine rn_bipush (v := (32 : Int32)) dL_law_1019 (by decide) ?_
      refine rn_lshl dL_law_1021 rfl ?_
      refine rn_aload_n (i := 0) dL_law_1022 rfl rfl ?_
      refine rn_iload dL_law_1023 rfl ?_
      refine rn_iconst (v := (5 : Int32)) dL_law_1025 (by decide) ?_
      refine rn_iadd dL_law_1026 ?_
      refine rn_topi (6 : Int32) (by decide) ?_
      refine rn_sld (by rw [hL]; unfold vp_in; decide) dL_law_1027 ?_
      refine rn_topi sc6 se6 ?_
      refine rn_i2l dL_law_1028 rfl ?_
      refine rn_ldc2 (v := (4294967295 : Int64)) wd_1565 dL_law_1029 ?_
      refine rn_land dL_law_1032 ?_
      refine rn_lor dL_law_1033 ?_
      refine rn_aload_n (i := 0) dL_law_1034 rfl rfl ?_
      refine rn_iload dL_law_1035 rfl ?_
      refine rn_bipush (v := (6 : Int32)) dL_law_1037 (by decide) ?_
      refine rn_iadd dL_law_1039 ?_
      refine rn_topi (7 : Int32) (by decide) ?_
      refine rn_sld (by rw [hL]; unfold vp_in; decide) dL_law_1040 ?_
      refine rn_topi sc7 se7 ?_
      refine rn_i2l dL_law_1041 rfl ?_
      refine rn_bipush (v := (32 : Int32)) dL_law_1042 (by decide) ?_
      refine rn_lshl dL_law_1044 rfl ?_
      refine rn_aload_n (i := 0) dL_law_1045 rfl rfl ?_
      refine rn_iload dL_law_1046 rfl ?_
      refine rn_bipush (v := (7 : Int32)) dL_law_1048 (by decide) ?_
      refine rn_iadd dL_law_1050 ?_
      refine rn_topi (8 : Int32) (by decide) ?_
      refine rn_sld (by rw [hL]; unfold vp_in; decide) dL_law_1051 ?_
      refine rn_topi sc8 se8 ?_
      refine rn_i2l dL_law_1052 rfl ?_
      refine rn_ldc2 (v := (4294967295 : Int64)) wd_1565 dL_law_1053 ?_
      refine rn_land dL_law_1056 ?_
      refine rn_lor dL_law_1057 ?_
      refine rn_aload_n (i := 0) dL_law_1058 rfl rfl ?_
      refine rn_iload dL_law_1059 rfl ?_
      refine rn_bipush (v := (8 : Int32)) dL_law_1061 (by decide) ?_
      refine rn_iadd dL_law_1063 ?_
      refine rn_topi (9 : Int32) (by decide) ?_
      refine rn_sld (by rw [hL]; unfold vp_in; decide) dL_law_1064 ?_
      refine rn_topi sc9 se9 ?_
      refine rn_if_eq (tgt := 1072) dL_law_1065 (by decide) (fun h14 => ?_) (fun h14 => False.elim (by have g0 := i32_rng sc9; have g1 := i32_rng sc3; have g2 := i32_rng sc2; have g3 := i32_rng sc4; have g4 := i32_rng sc10; simp only [Int32.lt_iff_toInt_lt, Int32.le_iff_toInt_le, gt_iff_lt, ge_iff_le, ← Int32.toInt_inj, i32_0, i32_1, i32_4, i32_256, i32_1000000] at *; omega))
      refine rn_iconst (v := (0 : Int32)) dL_law_1072 (by decide) ?_
      refine rn_aload_n (i := 0) dL_law_1073 rfl rfl ?_
      refine rn_iload dL_law_1074 rfl ?_
      refine rn_bipush (v := (9 : Int32)) dL_law_1076 (by decide) ?_
      refine rn_iadd dL_law_1078 ?_
      refine rn_topi (10 : Int32) (by decide) ?_
      refine rn_sld (by rw [hL]; unfold vp_in; decide) dL_law_1079 ?_
      refine rn_topi sc10 se10 ?_
      refine rn_callV (a := 0) (b := 0) [.int sc2, .int sc3, .int sc4, .long (((sc5).toInt64 <<< (((32 : Int32)).toInt64 &&& 63)) ||| ((sc6).toInt64 &&& (4294967295 : Int64))), .long (((sc7).toInt64 <<< (((32 : Int32)).toInt64 &&& 63)) ||| ((sc8).toInt64 &&& (4294967295 : Int64))), .int (0 : Int32), .int sc10] kl_SGLaw_150 dL_law_1080 23 h_m rfl (c_X10_seal_0 G _ (o_m := o_m) (x := sc2) (y := sc3) (u := sc4) (y1 := (((sc5).toInt64 <<< (((32 : Int32)).toInt64 &&& 63)) ||| ((sc6).toInt64 &&& (4294967295 : Int64)))) (y2 := (((sc7).toInt64 <<< (((32 : Int32)).toInt64 &&& 63)) ||| ((sc8).toInt64 &&& (4294967295 : Int64)))) (x2 := sc10) (fs_m := fs_m) (a_sealWay := a_sealWay) (a_sealTunnel := a_sealTunnel) (a_sealName := a_sealName) (a_sealKey := a_sealKey) (a_sealStamp := a_sealStamp) (a_sealLong := a_sealLong) (a_sealLife := a_sealLife) (a_sealStopped := a_sealStopped) (a_sealTop := a_sealTop) (a_sealSeen := a_sealSeen) h_m hf_m_0 hf_m_22 hf_m_23 hf_m_24 hf_m_25 hf_m_26 hf_m_27 hf_m_28 hf_m_29 hf_m_30 hf_m_31 hf_m_32 h_m_sealWay h_m_sealTunnel h_m_sealName h_m_sealKey h_m_sealStamp h_m_sealLong h_m_sealLife h_m_sealStopped h_m_sealTop h_m_sealSeen) rfl rfl (Nat.le_of_ble_eq_true rfl) (Nat.le_of_ble_eq_true rfl) (Nat.le_of_ble_eq_true rfl) (Nat.le_of_ble_eq_true rfl) (Nat.le_of_ble_eq_true rfl) (Nat.le_of_ble_eq_true rfl) (by rintro E w h; rcases h with ⟨_, hr, _⟩ | ⟨_, hr, _⟩ | ⟨_, hr, _⟩ <;> cases hr) ?_
      rintro v w h
      rcases h with ⟨hc, hr, hw⟩ | ⟨hc, hr, hw⟩ | ⟨hc, hr, hw⟩
      · have hc15 := hc; clear hc; cases hr
        exfalso; have g0 := i32_rng sc9; have g1 := i32_rng sc3; have g2 := i32_rng sc2; have g3 := i32_rng sc4; have g4 := i32_rng sc10; simp only [Int32.lt_iff_toInt_lt, Int32.le_iff_toInt_le, gt_iff_lt, ge_iff_le, ← Int32.toInt_inj, i32_0, i32_1, i32_3, i32_4, i32_256, i32_1000000] at *; omega
      · have hc16 := hc; clear hc; cases hr
        have hw17 : w[23]? = some (o_m, Sum.inr (10, ((fs_m.set 0 (.int (0 : Int32))).set 0 (.int (2 : Int32))))) := by rw [hw, List.getElem?_set_self (by (try simp only [List.length_set, List.length_append, List.length_cons, List.length_nil]); have hq := ls_lt h_m; omega)]
        have hw18 : w[62]? = some (o_out, Sum.inl (rn_k G 2, 1, Sum.inr (Sum.inl (fun _ => 0)))) := by rw [hw, List.getElem?_set_ne (by decide), List.getElem?_set_ne (by decide), h_out]
        refine rn_stk [.int (0 : Int32)] rfl ?_
        refine rn_istore dL_law_1083 (by decide) [(0, .ref G.2.2.2.2.1.1), (1, .ref o_sg), (2, .ref o_m), (3, .ref o_out), (4, .int (1 : Int32)), (5, .int (2 : Int32)), (6, .int (0 : Int32))] rfl ?_
        refine rn_aload_n (i := 2) dL_law_1085 rfl rfl ?_
        refine rn_callV (a := 0) (b := 0) [] kl_SGLaw_110 dL_law_1086 23 hw17 rfl (c_X10_thrown G _ (o_m := o_m) (fs_m := ((fs_m.set 0 (.int (0 : Int32))).set 0 (.int (2 : Int32)))) (th := (2 : Int32)) hw17 (ls_eq (ls_eq hf_m_0))) rfl rfl (Nat.le_of_ble_eq_true rfl) (Nat.le_of_ble_eq_true rfl) (Nat.le_of_ble_eq_true rfl) (Nat.le_of_ble_eq_true rfl) (Nat.le_of_ble_eq_true rfl) (Nat.le_of_ble_eq_true rfl) (by rintro E w h; rcases h with ⟨_, hr, _⟩ <;> cases hr) ?_
        rintro v w h
        obtain ⟨hc19, hr, hw⟩ := h; cases hr; rw [hw]
        refine rn_stk [.int (2 : Int32)] rfl ?_
        refine rn_iload dL_law_1089 rfl ?_
        refine rn_icmp_eq (tgt := 1096) dL_law_1091 (by decide) (fun h20 => ?_) (fun h20 => absurd h20 (by decide))
        refine rn_iload dL_law_1096 rfl ?_
        refine rn_if_ne (tgt := 1113) dL_law_1098 (by decide) (fun h21 => ?_) (fun h21 => absurd h21 (by decide))
        refine rn_goto (tgt := 1865) dL_law_1113 (by decide) ?_
        refine rn_lv [(0, .ref G.2.2.2.2.1.1), (1, .ref o_sg), (2, .ref o_m), (3, .ref o_out), (4, .int (1 : Int32))] rfl ?_
        exact law_end G _ hL _ _ _
      · have hc22 := hc; clear hc; cases hr
        exfalso; have g0 := i32_rng sc9; have g1 := i32_rng sc3; have g2 := i32_rng sc2; have g3 := i32_rng sc4; have g4 := i32_rng sc10; simp only [Int32.lt_iff_toInt_lt, Int32.le_iff_toInt_le, gt_iff_lt, ge_iff_le, ← Int32.toInt_inj, i32_0, i32_1, i32_3, i32_4, i32_256, i32_1000000] at *; omega
    · have hc23 := hc; clear hc; cases hr
      have hw24 : w[23]? = some (o_m, Sum.inr (10, fs_m)) := by rw [hw, List.getElem?_set_ne (by decide), List.getElem?_set_ne (by decide), List.getElem?_set_ne (by decide), List.getElem?_set_ne (by decide), List.getElem?_set_ne (by decide), List.getElem?_set_ne (by decide), List.getElem?_set_ne (by decide), List.getElem?_set_ne (by decide), List.getElem?_set_ne (by decide), List.getElem?_set_ne (by decide), List.getElem?_append_left (by (try simp only [List.length_set, List.length_append, List.length_cons, List.length_nil]); have hq := ls_lt h_m; omega), h_m]
      have hw25 : w[38]? = some (a_sealWay, Sum.inl (rn_k G 1, 16, Sum.inl (fun _ => 0))) := by rw [hw, List.getElem?_set_ne (by decide), List.getElem?_set_ne (by decide), List.getElem?_set_ne (by decide), List.getElem?_set_ne (by decide), List.getElem?_set_ne (by decide), List.getElem?_set_ne (by decide), List.getElem?_set_ne (by decide), List.getElem?_set_ne (by decide), List.getElem?_set_ne (by decide), List.getElem?_set_ne (by decide), List.getElem?_append_left (by (try simp only [List.length_set, List.length_append, List.length_cons, List.length_nil]); have hq := ls_lt h_m_sealWay; omega), h_m_sealWay]
      have hw26 : w[39]? = some (a_sealTunnel, Sum.inl (rn_k G 1, 16, Sum.inl (fun _ => 0))) := by rw [hw, List.getElem?_set_ne (by decide), List.getElem?_set_ne (by decide), List.getElem?_set_ne (by decide), List.getElem?_set_ne (by decide), List.getElem?_set_ne (by decide), List.getElem?_set_ne (by decide), List.getElem?_set_ne (by decide), List.getElem?_set_ne (by decide), List.getElem?_set_ne (by decide), List.getElem?_set_ne (by decide), List.getElem?_append_left (by (try simp only [List.length_set, List.length_append, List.length_cons, List.length_nil]); have hq := ls_lt h_m_sealTunnel; omega), h_m_sealTunnel]
      have hw27 : w[40]? = some (a_sealName, Sum.inl (rn_k G 1, 16, Sum.inl (fun _ => 0))) := by rw [hw, List.getElem?_set_ne (by decide), List.getElem?_set_ne (by decide), List.getElem?_set_ne (by decide), List.getElem?_set_ne (by decide), List.getElem?_set_ne (by decide), List.getElem?_set_ne (by decide), List.getElem?_set_ne (by decide), List.getElem?_set_ne (by decide), List.getElem?_set_ne (by decide), List.getElem?_set_ne (by decide), List.getElem?_append_left (by (try simp only [List.length_set, List.length_append, List.length_cons, List.length_nil]); have hq := ls_lt h_m_sealName; omega), h_m_sealName]
      have hw28 : w[41]? = some (a_sealKey, Sum.inl (rn_k G 2, 16, Sum.inr (Sum.inl (fun _ => 0)))) := by rw [hw, List.getElem?_set_ne (by decide), List.getElem?_set_ne (by decide), List.getElem?_set_ne (by decide), List.getElem?_set_ne (by decide), List.getElem?_set_ne (by decide), List.getElem?_set_ne (by decide), List.getElem?_set_ne (by decide), List.getElem?_set_ne (by decide), List.getElem?_set_ne (by decide), List.getElem?_set_ne (by decide), List.getElem?_append_left (by (try simp only [List.length_set, List.length_append, List.length_cons, List.length_nil]); have hq := ls_lt h_m_sealKey; omega), h_m_sealKey]
      have hw29 : w[42]? = some (a_sealStamp, Sum.inl (rn_k G 2, 16, Sum.inr (Sum.inl (fun _ => 0)))) := by rw [hw, List.getElem?_set_ne (by decide), List.getElem?_set_ne (by decide), List.getElem?_set_ne (by decide), List.getElem?_set_ne (by decide), List.getElem?_set_ne (by decide), List.getElem?_set_ne (by decide), List.getElem?_set_ne (by decide), List.getElem?_set_ne (by decide), List.getElem?_set_ne (by decide), List.getElem?_set_ne (by decide), List.getElem?_append_left (by (try simp only [List.length_set, List.length_append, List.length_cons, List.length_nil]); have hq := ls_lt h_m_sealStamp; omega), h_m_sealStamp]
      have hw30 : w[43]? = some (a_sealLong, Sum.inl (rn_k G 3, 16, Sum.inl (fun _ => 0))) := by rw [hw, List.getElem?_set_ne (by decide), List.getElem?_set_ne (by decide), List.getElem?_set_ne (by decide), List.getElem?_set_ne (by decide), List.getElem?_set_ne (by decide), List.getElem?_set_ne (by decide), List.getElem?_set_ne (by decide), List.getElem?_set_ne (by decide), List.getElem?_set_ne (by decide), List.getElem?_set_ne (by decide), List.getElem?_append_left (by (try simp only [List.length_set, List.length_append, List.length_cons, List.length_nil]); have hq := ls_lt h_m_sealLong; omega), h_m_sealLong]
      have hw31 : w[44]? = some (a_sealLife, Sum.inl (rn_k G 1, 16, Sum.inl (fun _ => 0))) := by rw [hw, List.getElem?_set_ne (by decide), List.getElem?_set_ne (by decide), List.getElem?_set_ne (by decide), List.getElem?_set_ne (by decide), List.getElem?_set_ne (by decide), List.getElem?_set_ne (by decide), List.getElem?_set_ne (by decide), List.getElem?_set_ne (by decide), List.getElem?_set_ne (by decide), List.getElem?_set_ne (by decide), List.getElem?_append_left (by (try simp only [List.length_set, List.length_append, List.length_cons, List.length_nil]); have hq := ls_lt h_m_sealLife; omega), h_m_sealLife]
      have hw32 : w[45]? = some (a_sealStopped, Sum.inl (rn_k G 3, 16, Sum.inl (fun _ => 0))) := by rw [hw, List.getElem?_set_ne (by decide), List.getElem?_set_ne (by decide), List.getElem?_set_ne (by decide), List.getElem?_set_ne (by decide), List.getElem?_set_ne (by decide), List.getElem?_set_ne (by decide), List.getElem?_set_ne (by decide), List.getElem?_set_ne (by decide), List.getElem?_set_ne (by decide), List.getElem?_set_ne (by decide), List.getElem?_append_left (by (try simp only [List.length_set, List.length_append, List.length_cons, List.length_nil]); have hq := ls_lt h_m_sealStopped; omega), h_m_sealStopped]
      have hw33 : w[46]? = some (a_sealTop, Sum.inl (rn_k G 2, 16, Sum.inr (Sum.inl (fun _ => 0)))) := by rw [hw, List.getElem?_set_ne (by decide), List.getElem?_set_ne (by decide), List.getElem?_set_ne (by decide), List.getElem?_set_ne (by decide), List.getElem?_set_ne (by decide), List.getElem?_set_ne (by decide), List.getElem?_set_ne (by decide), List.getElem?_set_ne (by decide), List.getElem?_set_ne (by decide), List.getElem?_set_ne (by decide), List.getElem?_append_left (by (try simp only [List.length_set, List.length_append, List.length_cons, List.length_nil]); have hq := ls_lt h_m_sealTop; omega), h_m_sealTop]
      have hw34 : w[47]? = some (a_sealSeen, Sum.inl (rn_k G 2, 16, Sum.inr (Sum.inl (fun _ => 0)))) := by rw [hw, List.getElem?_set_ne (by decide), List.getElem?_set_ne (by decide), List.getElem?_set_ne (by decide), List.getElem?_set_ne (by decide), List.getElem?_set_ne (by decide), List.getElem?_set_ne (by decide), List.getElem?_set_ne (by decide), List.getElem?_set_ne (by decide), List.getElem?_set_ne (by decide), List.getElem?_set_ne (by decide), List.getElem?_append_left (by (try simp only [List.length_set, List.length_append, List.length_cons, List.length_nil]); have hq := ls_lt h_m_sealSeen; omega), h_m_sealSeen]
      have hw35 : w[62]? = some (o_out, Sum.inl (rn_k G 2, 1, Sum.inr (Sum.inl (vp_updL (fun _ => 0) ((0 : Int32)).toNatClampNeg (0 : Int64))))) := by rw [hw, List.getElem?_set_self (by (try simp only [List.length_set, List.length_append, List.length_cons, List.length_nil]); have hq := ls_lt h_out; omega)]
      refine rn_stk [.int (0 : Int32)] rfl ?_
      refine rn_istore dL_law_991 (by decide) [(0, .ref G.2.2.2.2.1.1), (1, .ref o_sg), (2, .ref o_m), (3, .ref o_out), (4, .int (1 : Int32)), (5, .int (0 : Int32))] rfl ?_
      refine rn_aload_n (i := 2) dL_law_993 rfl rfl ?_
      refine rn_aload_n (i := 0) dL_law_994 rfl rfl ?_
      refine rn_iload dL_law_995 rfl ?_
      refine rn_iconst (v := (1 : Int32)) dL_law_997 (by decide) ?_
      refine rn_iadd dL_law_998 ?_
      refine rn_topi (2 : Int32) (by decide) ?_
      refine rn_sld (by rw [hL]; unfold vp_in; decide) dL_law_999 ?_
      refine rn_topi sc2 se2 ?_
      refine rn_aload_n (i := 0) dL_law_1000 rfl rfl ?_
      refine rn_iload dL_law_1001 rfl ?_
      refine rn_iconst (v := (2 : Int32)) dL_law_1003 (by decide) ?_
      refine rn_iadd dL_law_1004 ?_
      refine rn_topi (3 : Int32) (by decide) ?_
      refine rn_sld (by rw [hL]; unfold vp_in; decide) dL_law_1005 ?_
      refine rn_topi sc3 se3 ?_
      refine rn_aload_n (i := 0) dL_law_1006 rfl rfl ?_
      refine rn_iload dL_law_1007 rfl ?_
      refine rn_iconst (v := (3 : Int32)) dL_law_1009 (by decide) ?_
      refine rn_iadd dL_law_1010 ?_
      refine rn_topi (4 : Int32) (by decide) ?_
      refine rn_sld (by rw [hL]; unfold vp_in; decide) dL_law_1011 ?_
      refine rn_topi sc4 se4 ?_
      refine rn_aload_n (i := 0) dL_law_1012 rfl rfl ?_
      refine rn_iload dL_law_1013 rfl ?_
      refine rn_iconst (v := (4 : Int32)) dL_law_1015 (by decide) ?_
      refine rn_iadd dL_law_1016 ?_
      refine rn_topi (5 : Int32) (by decide) ?_
      refine rn_sld (by rw [hL]; unfold vp_in; decide) dL_law_1017 ?_
      refine rn_topi sc5 se5 ?_
      refine rn_i2l dL_law_1018 rfl ?_
      refine rn_bipush (v := (32 : Int32)) dL_law_1019 (by decide) ?_
      refine rn_lshl dL_law_1021 rfl ?_
      refine rn_aload_n (i := 0) dL_law_1022 rfl rfl ?_
      refine rn_iload dL_law_1023 rfl ?_
      refine rn_iconst (v := (5 : Int32)) dL_law_1025 (by decide) ?_
      refine rn_iadd dL_law_1026 ?_
      refine rn_topi (6 : Int32) (by decide) ?_
      refine rn_sld (by rw [hL]; unfold vp_in; decide) dL_law_1027 ?_
      refine rn_topi sc6 se6 ?_
      refine rn_i2l dL_law_1028 rfl ?_
      refine rn_ldc2 (v := (4294967295 : Int64)) wd_1565 dL_law_1029 ?_
      refine rn_land dL_law_1032 ?_
      refine rn_lor dL_law_1033 ?_
      refine rn_aload_n (i := 0) dL_law_1034 rfl rfl ?_
      refine rn_iload dL_law_1035 rfl ?_
      refine rn_bipush (v := (6 : Int32)) dL_law_1037 (by decide) ?_
      refine rn_iadd dL_law_1039 ?_
      refine rn_topi (7 : Int32) (by decide) ?_
      refine rn_sld (by rw [hL]; unfold vp_in; decide) dL_law_1040 ?_
      refine rn_topi sc7 se7 ?_
      refine rn_i2l dL_law_1041 rfl ?_
      refine rn_bipush (v := (32 : Int32)) dL_law_1042 (by decide) ?_
      refine rn_lshl dL_law_1044 rfl ?_
      refine rn_aload_n (i := 0) dL_law_1045 rfl rfl ?_
      refine rn_iload dL_law_1046 rfl ?_
      refine rn_bipush (v := (7 : Int32)) dL_law_1048 (by decide) ?_
      refine rn_iadd dL_law_1050 ?_
      refine rn_topi (8 : Int32) (by decide) ?_
      refine rn_sld (by rw [hL]; unfold vp_in; decide) dL_law_1051 ?_
      refine rn_topi sc8 se8 ?_
      refine rn_i2l dL_law_1052 rfl ?_
      refine rn_ldc2 (v := (4294967295 : Int64)) wd_1565 dL_law_1053 ?_
      refine rn_land dL_law_1056 ?_
      refine rn_lor dL_law_1057 ?_
      refine rn_aload_n (i := 0) dL_law_1058 rfl rfl ?_
      refine rn_iload dL_law_1059 rfl ?_
      refine rn_bipush (v := (8 : Int32)) dL_law_1061 (by decide) ?_
      refine rn_iadd dL_law_1063 ?_
      refine rn_topi (9 : Int32) (by decide) ?_
      refine rn_sld (by rw [hL]; unfold vp_in; decide) dL_law_1064 ?_
      refine rn_topi sc9 se9 ?_
      refine rn_if_eq (tgt := 1072) dL_law_1065 (by decide) (fun h36 => ?_) (fun h36 => False.elim (by have g0 := i32_rng sc9; have g1 := i32_rng sc3; have g2 := i32_rng sc2; have g3 := i32_rng sc4; have g4 := i32_rng sc10; simp only [Int32.lt_iff_toInt_lt, Int32.le_iff_toInt_le, gt_iff_lt, ge_iff_le, ← Int32.toInt_inj, i32_0, i32_1, i32_4, i32_256, i32_1000000] at *; omega))
      refine rn_iconst (v := (0 : Int32)) dL_law_1072 (by decide) ?_
      refine rn_aload_n (i := 0) dL_law_1073 rfl rfl ?_
      refine rn_iload dL_law_1074 rfl ?_
      refine rn_bipush (v := (9 : Int32)) dL_law_1076 (by decide) ?_
      refine rn_iadd dL_law_1078 ?_
      refine rn_topi (10 : Int32) (by decide) ?_
      refine rn_sld (by rw [hL]; unfold vp_in; decide) dL_law_1079 ?_
      refine rn_topi sc10 se10 ?_
      refine rn_callV (a := 0) (b := 0) [.int sc2, .int sc3, .int sc4, .long (((sc5).toInt64 <<< (((32 : Int32)).toInt64 &&& 63)) ||| ((sc6).toInt64 &&& (4294967295 : Int64))), .long (((sc7).toInt64 <<< (((32 : Int32)).toInt64 &&& 63)) ||| ((sc8).toInt64 &&& (4294967295 : Int64))), .int (0 : Int32), .int sc10] kl_SGLaw_150 dL_law_1080 23 hw24 rfl (c_X10_seal_0 G _ (o_m := o_m) (x := sc2) (y := sc3) (u := sc4) (y1 := (((sc5).toInt64 <<< (((32 : Int32)).toInt64 &&& 63)) ||| ((sc6).toInt64 &&& (4294967295 : Int64)))) (y2 := (((sc7).toInt64 <<< (((32 : Int32)).toInt64 &&& 63)) ||| ((sc8).toInt64 &&& (4294967295 : Int64)))) (x2 := sc10) (fs_m := fs_m) (a_sealWay := a_sealWay) (a_sealTunnel := a_sealTunnel) (a_sealName := a_sealName) (a_sealKey := a_sealKey) (a_sealStamp := a_sealStamp) (a_sealLong := a_sealLong) (a_sealLife := a_sealLife) (a_sealStopped := a_sealStopped) (a_sealTop := a_sealTop) (a_sealSeen := a_sealSeen) hw24 hf_m_0 hf_m_22 hf_m_23 hf_m_24 hf_m_25 hf_m_26 hf_m_27 hf_m_28 hf_m_29 hf_m_30 hf_m_31 hf_m_32 hw25 hw26 hw27 hw28 hw29 hw30 hw31 hw32 hw33 hw34) rfl rfl (Nat.le_of_ble_eq_true rfl) (Nat.le_of_ble_eq_true rfl) (Nat.le_of_ble_eq_true rfl) (Nat.le_of_ble_eq_true rfl) (Nat.le_of_ble_eq_true rfl) (Nat.le_of_ble_eq_true rfl) (by rintro E w h; rcases h with ⟨_, hr, _⟩ | ⟨_, hr, _⟩ | ⟨_, hr, _⟩ <;> cases hr) ?_
      rintro v w h
      rcases h with ⟨hc, hr, hw⟩ | ⟨hc, hr, hw⟩ | ⟨hc, hr, hw⟩
      · have hc37 := hc; clear hc; cases hr
        exfalso; have g0 := i32_rng sc9; have g1 := i32_rng sc3; have g2 := i32_rng sc2; have g3 := i32_rng sc4; have g4 := i32_rng sc10; simp only [Int32.lt_iff_toInt_lt, Int32.le_iff_toInt_le, gt_iff_lt, ge_iff_le, ← Int32.toInt_inj, i32_0, i32_1, i32_3, i32_4, i32_256, i32_1000000] at *; omega
      · have hc38 := hc; clear hc; cases hr
        exfalso; have g0 := i32_rng sc9; have g1 := i32_rng sc3; have g2 := i32_rng sc2; have g3 := i32_rng sc4; have g4 := i32_rng sc10; simp only [Int32.lt_iff_toInt_lt, Int32.le_iff_toInt_le, gt_iff_lt, ge_iff_le, ← Int32.toInt_inj, i32_0, i32_1, i32_2, i32_3, i32_4, i32_256, i32_1000000] at *; omega
      · have hc39 := hc; clear hc; cases hr
        have hw40 : w[23]? = some (o_m, Sum.inr (10, ((fs_m.set 0 (.int (0 : Int32))).set 22 (.int (1 : Int32))))) := by rw [hw, List.getElem?_set_self (by (try simp only [List.length_set, List.length_append, List.length_cons, List.length_nil]); have hq := ls_lt hw24; omega)]
        have hw41 : w[62]? = some (o_out, Sum.inl (rn_k G 2, 1, Sum.inr (Sum.inl (vp_updL (fun _ => 0) ((0 : Int32)).toNatClampNeg (0 : Int64))))) := by rw [hw, List.getElem?_set_ne (by decide), List.getElem?_set_ne (by decide), List.getElem?_set_ne (by decide), List.getElem?_set_ne (by decide), List.getElem?_set_ne (by decide), List.getElem?_set_ne (by decide), List.getElem?_set_ne (by decide), List.getElem?_set_ne (by decide), List.getElem?_set_ne (by decide), List.getElem?_set_ne (by decide), List.getElem?_set_ne (by decide), List.getElem?_set_ne (by decide), hw35]
        refine rn_stk [.int (0 : Int32)] rfl ?_
        refine rn_istore dL_law_1083 (by decide) [(0, .ref G.2.2.2.2.1.1), (1, .ref o_sg), (2, .ref o_m), (3, .ref o_out), (4, .int (1 : Int32)), (5, .int (0 : Int32)), (6, .int (0 : Int32))] rfl ?_
        refine rn_aload_n (i := 2) dL_law_1085 rfl rfl ?_
        refine rn_callV (a := 0) (b := 0) [] kl_SGLaw_110 dL_law_1086 23 hw40 rfl (c_X10_thrown G _ (o_m := o_m) (fs_m := ((fs_m.set 0 (.int (0 : Int32))).set 22 (.int (1 : Int32)))) (th := (0 : Int32)) hw40 (ls_ne (by decide) (ls_eq hf_m_0))) rfl rfl (Nat.le_of_ble_eq_true rfl) (Nat.le_of_ble_eq_true rfl) (Nat.le_of_ble_eq_true rfl) (Nat.le_of_ble_eq_true rfl) (Nat.le_of_ble_eq_true rfl) (Nat.le_of_ble_eq_true rfl) (by rintro E w h; rcases h with ⟨_, hr, _⟩ <;> cases hr) ?_
        rintro v w h
        obtain ⟨hc42, hr, hw⟩ := h; cases hr; rw [hw]
        refine rn_stk [.int (0 : Int32)] rfl ?_
        refine rn_iload dL_law_1089 rfl ?_
        refine rn_icmp_eq (tgt := 1096) dL_law_1091 (by decide) (fun h43 => ?_) (fun h43 => absurd h43 (by decide))
        refine rn_iload dL_law_1096 rfl ?_
        refine rn_if_ne (tgt := 1113) dL_law_1098 (by decide) (fun h44 => absurd h44 (by decide)) (fun h44 => ?_)
        refine rn_aload_n (i := 3) dL_law_1101 rfl rfl ?_
        refine rn_iconst (v := (0 : Int32)) dL_law_1102 (by decide) ?_
        refine rn_lald 62 2 hw41 rfl (by unfold vp_in; decide) dL_law_1103 ?_
        refine rn_topl _ (vp_updL_at _ _ _) ?_
        refine rn_iload dL_law_1104 rfl ?_
        refine rn_i2l dL_law_1106 rfl ?_
        refine rn_topl (0 : Int64) (by decide) ?_
        refine rn_lcmp dL_law_1107 ?_
        refine rn_topi (0 : Int32) (by decide) ?_
        refine rn_if_eq (tgt := 1113) dL_law_1108 (by decide) (fun h45 => ?_) (fun h45 => absurd h45 (by decide))
        refine rn_goto (tgt := 1865) dL_law_1113 (by decide) ?_
        refine rn_lv [(0, .ref G.2.2.2.2.1.1), (1, .ref o_sg), (2, .ref o_m), (3, .ref o_out), (4, .int (1 : Int32))] rfl ?_
        exact law_end G _ hL _ _ _
  · refine rn_iconst (v := (1 : Int32)) dL_law_975 (by decide) ?_
    refine rn_goto (tgt := 980) dL_law_976 (by decide) ?_
    refine rn_aload_n (i := 0) dL_law_980 rfl rfl ?_
    refine rn_iload dL_law_981 rfl ?_
    refine rn_bipush (v := (9 : Int32)) dL_law_983 (by decide) ?_
    refine rn_iadd dL_law_985 ?_
    refine rn_topi (10 : Int32) (by decide) ?_
    refine rn_sld (by rw [hL]; unfold vp_in; decide) dL_law_986 ?_
    refine rn_topi sc10 se10 ?_
    refine rn_aload_n (i := 3) dL_law_987 rfl rfl ?_
    refine rn_callSX (a := 0) (b := 0) [.ref o_sg, .int sc2, .int sc3, .int sc4, .long (((sc5).toInt64 <<< (((32 : Int32)).toInt64 &&& 63)) ||| ((sc6).toInt64 &&& (4294967295 : Int64))), .long (((sc7).toInt64 <<< (((32 : Int32)).toInt64 &&& 63)) ||| ((sc8).toInt64 &&& (4294967295 : Int64))), .int (1 : Int32), .int sc10, .ref o_out] kl_SGLaw_147 dL_law_988 (c_L_seal_1 G _ (o_sg := o_sg) (x := sc2) (y := sc3) (u := sc4) (y1 := (((sc5).toInt64 <<< (((32 : Int32)).toInt64 &&& 63)) ||| ((sc6).toInt64 &&& (4294967295 : Int64)))) (y2 := (((sc7).toInt64 <<< (((32 : Int32)).toInt64 &&& 63)) ||| ((sc8).toInt64 &&& (4294967295 : Int64)))) (x2 := sc10) (o_out := o_out) (fs_sg := fs_sg) (o_seals := o_seals) (L := 63) h_sg hf_sg_10 hf_sg_11 h_seals h_out (by decide) (by decide) (by decide) hlen) rfl rfl (Nat.le_of_ble_eq_true rfl) (Nat.le_of_ble_eq_true rfl) (Nat.le_of_ble_eq_true rfl) (Nat.le_of_ble_eq_true rfl) (Nat.le_of_ble_eq_true rfl) (Nat.le_of_ble_eq_true rfl) (by rintro E w h; rcases h with ⟨_, hr, _⟩ | ⟨_, hr, _⟩ | ⟨_, _, hr, _⟩ <;> cases hr) ?_
    rintro v w h
    rcases h with ⟨hc, hr, hw⟩ | ⟨hc, hr, hw⟩ | ⟨q46, hc, hr, hw⟩
    · have hc47 := hc; clear hc; cases hr; rw [hw]
      refine rn_stk [.int (1 : Int32)] rfl ?_
      refine rn_istore dL_law_991 (by decide) [(0, .ref G.2.2.2.2.1.1), (1, .ref o_sg), (2, .ref o_m), (3, .ref o_out), (4, .int (1 : Int32)), (5, .int (1 : Int32))] rfl ?_
      refine rn_aload_n (i := 2) dL_law_993 rfl rfl ?_
      refine rn_aload_n (i := 0) dL_law_994 rfl rfl ?_
      refine rn_iload dL_law_995 rfl ?_
      refine rn_iconst (v := (1 : Int32)) dL_law_997 (by decide) ?_
      refine rn_iadd dL_law_998 ?_
      refine rn_topi (2 : Int32) (by decide) ?_
      refine rn_sld (by rw [hL]; unfold vp_in; decide) dL_law_999 ?_
      refine rn_topi sc2 se2 ?_
      refine rn_aload_n (i := 0) dL_law_1000 rfl rfl ?_
      refine rn_iload dL_law_1001 rfl ?_
      refine rn_iconst (v := (2 : Int32)) dL_law_1003 (by decide) ?_
      refine rn_iadd dL_law_1004 ?_
      refine rn_topi (3 : Int32) (by decide) ?_
      refine rn_sld (by rw [hL]; unfold vp_in; decide) dL_law_1005 ?_
      refine rn_topi sc3 se3 ?_
      refine rn_aload_n (i := 0) dL_law_1006 rfl rfl ?_
      refine rn_iload dL_law_1007 rfl ?_
      refine rn_iconst (v := (3 : Int32)) dL_law_1009 (by decide) ?_
      refine rn_iadd dL_law_1010 ?_
      refine rn_topi (4 : Int32) (by decide) ?_
      refine rn_sld (by rw [hL]; unfold vp_in; decide) dL_law_1011 ?_
      refine rn_topi sc4 se4 ?_
      refine rn_aload_n (i := 0) dL_law_1012 rfl rfl ?_
      refine rn_iload dL_law_1013 rfl ?_
      refine rn_iconst (v := (4 : Int32)) dL_law_1015 (by decide) ?_
      refine rn_iadd dL_law_1016 ?_
      refine rn_topi (5 : Int32) (by decide) ?_
      refine rn_sld (by rw [hL]; unfold vp_in; decide) dL_law_1017 ?_
      refine rn_topi sc5 se5 ?_
      refine rn_i2l dL_law_1018 rfl ?_
      refine rn_bipush (v := (32 : Int32)) dL_law_1019 (by decide) ?_
      refine rn_lshl dL_law_1021 rfl ?_
      refine rn_aload_n (i := 0) dL_law_1022 rfl rfl ?_
      refine rn_iload dL_law_1023 rfl ?_
      refine rn_iconst (v := (5 : Int32)) dL_law_1025 (by decide) ?_
      refine rn_iadd dL_law_1026 ?_
      refine rn_topi (6 : Int32) (by decide) ?_
      refine rn_sld (by rw [hL]; unfold vp_in; decide) dL_law_1027 ?_
      refine rn_topi sc6 se6 ?_
      refine rn_i2l dL_law_1028 rfl ?_
      refine rn_ldc2 (v := (4294967295 : Int64)) wd_1565 dL_law_1029 ?_
      refine rn_land dL_law_1032 ?_
      refine rn_lor dL_law_1033 ?_
      refine rn_aload_n (i := 0) dL_law_1034 rfl rfl ?_
      refine rn_iload dL_law_1035 rfl ?_
      refine rn_bipush (v := (6 : Int32)) dL_law_1037 (by decide) ?_
      refine rn_iadd dL_law_1039 ?_
      refine rn_topi (7 : Int32) (by decide) ?_
      refine rn_sld (by rw [hL]; unfold vp_in; decide) dL_law_1040 ?_
      refine rn_topi sc7 se7 ?_
      refine rn_i2l dL_law_1041 rfl ?_
      refine rn_bipush (v := (32 : Int32)) dL_law_1042 (by decide) ?_
      refine rn_lshl dL_law_1044 rfl ?_
      refine rn_aload_n (i := 0) dL_law_1045 rfl rfl ?_
      refine rn_iload dL_law_1046 rfl ?_
      refine rn_bipush (v := (7 : Int32)) dL_law_1048 (by decide) ?_
      refine rn_iadd dL_law_1050 ?_
      refine rn_topi (8 : Int32) (by decide) ?_
      refine rn_sld (by rw [hL]; unfold vp_in; decide) dL_law_1051 ?_
      refine rn_topi sc8 se8 ?_
      refine rn_i2l dL_law_1052 rfl ?_
      refine rn_ldc2 (v := (4294967295 : Int64)) wd_1565 dL_law_1053 ?_
      refine rn_land dL_law_1056 ?_
      refine rn_lor dL_law_1057 ?_
      refine rn_aload_n (i := 0) dL_law_1058 rfl rfl ?_
      refine rn_iload dL_law_1059 rfl ?_
      refine rn_bipush (v := (8 : Int32)) dL_law_1061 (by decide) ?_
      refine rn_iadd dL_law_1063 ?_
      refine rn_topi (9 : Int32) (by decide) ?_
      refine rn_sld (by rw [hL]; unfold vp_in; decide) dL_law_1064 ?_
      refine rn_topi sc9 se9 ?_
      refine rn_if_eq (tgt := 1072) dL_law_1065 (by decide) (fun h48 => False.elim (by have g0 := i32_rng sc9; have g1 := i32_rng sc3; simp only [Int32.lt_iff_toInt_lt, Int32.le_iff_toInt_le, gt_iff_lt, ge_iff_le, ← Int32.toInt_inj, i32_0, i32_4] at *; omega)) (fun h48 => ?_)
      refine rn_iconst (v := (1 : Int32)) dL_law_1068 (by decide) ?_
      refine rn_goto (tgt := 1073) dL_law_1069 (by decide) ?_
      refine rn_aload_n (i := 0) dL_law_1073 rfl rfl ?_
      refine rn_iload dL_law_1074 rfl ?_
      refine rn_bipush (v := (9 : Int32)) dL_law_1076 (by decide) ?_
      refine rn_iadd dL_law_1078 ?_
      refine rn_topi (10 : Int32) (by decide) ?_
      refine rn_sld (by rw [hL]; unfold vp_in; decide) dL_law_1079 ?_
      refine rn_topi sc10 se10 ?_
      refine rn_callV (a := 0) (b := 0) [.int sc2, .int sc3, .int sc4, .long (((sc5).toInt64 <<< (((32 : Int32)).toInt64 &&& 63)) ||| ((sc6).toInt64 &&& (4294967295 : Int64))), .long (((sc7).toInt64 <<< (((32 : Int32)).toInt64 &&& 63)) ||| ((sc8).toInt64 &&& (4294967295 : Int64))), .int (1 : Int32), .int sc10] kl_SGLaw_150 dL_law_1080 23 h_m rfl (c_X10_seal_1 G _ (o_m := o_m) (x := sc2) (y := sc3) (u := sc4) (y1 := (((sc5).toInt64 <<< (((32 : Int32)).toInt64 &&& 63)) ||| ((sc6).toInt64 &&& (4294967295 : Int64)))) (y2 := (((sc7).toInt64 <<< (((32 : Int32)).toInt64 &&& 63)) ||| ((sc8).toInt64 &&& (4294967295 : Int64)))) (x2 := sc10) (fs_m := fs_m) (a_sealWay := a_sealWay) (a_sealTunnel := a_sealTunnel) (a_sealName := a_sealName) (a_sealKey := a_sealKey) (a_sealStamp := a_sealStamp) (a_sealLong := a_sealLong) (a_sealLife := a_sealLife) (a_sealStopped := a_sealStopped) (a_sealTop := a_sealTop) (a_sealSeen := a_sealSeen) h_m hf_m_0 hf_m_22 hf_m_23 hf_m_24 hf_m_25 hf_m_26 hf_m_27 hf_m_28 hf_m_29 hf_m_30 hf_m_31 hf_m_32 h_m_sealWay h_m_sealTunnel h_m_sealName h_m_sealKey h_m_sealStamp h_m_sealLong h_m_sealLife h_m_sealStopped h_m_sealTop h_m_sealSeen) rfl rfl (Nat.le_of_ble_eq_true rfl) (Nat.le_of_ble_eq_true rfl) (Nat.le_of_ble_eq_true rfl) (Nat.le_of_ble_eq_true rfl) (Nat.le_of_ble_eq_true rfl) (Nat.le_of_ble_eq_true rfl) (by rintro E w h; rcases h with ⟨_, hr, _⟩ | ⟨_, hr, _⟩ | ⟨_, hr, _⟩ <;> cases hr) ?_
      rintro v w h
      rcases h with ⟨hc, hr, hw⟩ | ⟨hc, hr, hw⟩ | ⟨hc, hr, hw⟩
      · have hc49 := hc; clear hc; cases hr
        have hw50 : w[23]? = some (o_m, Sum.inr (10, ((fs_m.set 0 (.int (0 : Int32))).set 0 (.int (1 : Int32))))) := by rw [hw, List.getElem?_set_self (by (try simp only [List.length_set, List.length_append, List.length_cons, List.length_nil]); have hq := ls_lt h_m; omega)]
        have hw51 : w[62]? = some (o_out, Sum.inl (rn_k G 2, 1, Sum.inr (Sum.inl (fun _ => 0)))) := by rw [hw, List.getElem?_set_ne (by decide), List.getElem?_set_ne (by decide), h_out]
        refine rn_stk [.int (0 : Int32)] rfl ?_
        refine rn_istore dL_law_1083 (by decide) [(0, .ref G.2.2.2.2.1.1), (1, .ref o_sg), (2, .ref o_m), (3, .ref o_out), (4, .int (1 : Int32)), (5, .int (1 : Int32)), (6, .int (0 : Int32))] rfl ?_
        refine rn_aload_n (i := 2) dL_law_1085 rfl rfl ?_
        refine rn_callV (a := 0) (b := 0) [] kl_SGLaw_110 dL_law_1086 23 hw50 rfl (c_X10_thrown G _ (o_m := o_m) (fs_m := ((fs_m.set 0 (.int (0 : Int32))).set 0 (.int (1 : Int32)))) (th := (1 : Int32)) hw50 (ls_eq (ls_eq hf_m_0))) rfl rfl (Nat.le_of_ble_eq_true rfl) (Nat.le_of_ble_eq_true rfl) (Nat.le_of_ble_eq_true rfl) (Nat.le_of_ble_eq_true rfl) (Nat.le_of_ble_eq_true rfl) (Nat.le_of_ble_eq_true rfl) (by rintro E w h; rcases h with ⟨_, hr, _⟩ <;> cases hr) ?_
        rintro v w h
        obtain ⟨hc52, hr, hw⟩ := h; cases hr; rw [hw]
        refine rn_stk [.int (1 : Int32)] rfl ?_
        refine rn_iload dL_law_1089 rfl ?_
        refine rn_icmp_eq (tgt := 1096) dL_law_1091 (by decide) (fun h53 => ?_) (fun h53 => absurd h53 (by decide))
        refine rn_iload dL_law_1096 rfl ?_
        refine rn_if_ne (tgt := 1113) dL_law_1098 (by decide) (fun h54 => ?_) (fun h54 => absurd h54 (by decide))
        refine rn_goto (tgt := 1865) dL_law_1113 (by decide) ?_
        refine rn_lv [(0, .ref G.2.2.2.2.1.1), (1, .ref o_sg), (2, .ref o_m), (3, .ref o_out), (4, .int (1 : Int32))] rfl ?_
        exact law_end G _ hL _ _ _
      · have hc55 := hc; clear hc; cases hr
        exfalso; have g0 := i32_rng sc9; have g1 := i32_rng sc3; have g2 := i32_rng sc2; have g3 := i32_rng sc4; have g4 := i32_rng sc10; simp only [Int32.lt_iff_toInt_lt, Int32.le_iff_toInt_le, gt_iff_lt, ge_iff_le, ← Int32.toInt_inj, i32_0, i32_1, i32_2, i32_3, i32_4, i32_256, i32_1000000] at *; omega
      · have hc56 := hc; clear hc; cases hr
        exfalso; have g0 := i32_rng sc9; have g1 := i32_rng sc3; have g2 := i32_rng sc2; have g3 := i32_rng sc4; have g4 := i32_rng sc10; simp only [Int32.lt_iff_toInt_lt, Int32.le_iff_toInt_le, gt_iff_lt, ge_iff_le, ← Int32.toInt_inj, i32_0, i32_1, i32_3, i32_4, i32_256, i32_1000000] at *; omega
    · have hc57 := hc; clear hc; cases hr; rw [hw]
      refine rn_stk [.int (2 : Int32)] rfl ?_
      refine rn_istore dL_law_991 (by decide) [(0, .ref G.2.2.2.2.1.1), (1, .ref o_sg), (2, .ref o_m), (3, .ref o_out), (4, .int (1 : Int32)), (5, .int (2 : Int32))] rfl ?_
      refine rn_aload_n (i := 2) dL_law_993 rfl rfl ?_
      refine rn_aload_n (i := 0) dL_law_994 rfl rfl ?_
      refine rn_iload dL_law_995 rfl ?_
      refine rn_iconst (v := (1 : Int32)) dL_law_997 (by decide) ?_
      refine rn_iadd dL_law_998 ?_
      refine rn_topi (2 : Int32) (by decide) ?_
      refine rn_sld (by rw [hL]; unfold vp_in; decide) dL_law_999 ?_
      refine rn_topi sc2 se2 ?_
      refine rn_aload_n (i := 0) dL_law_1000 rfl rfl ?_
      refine rn_iload dL_law_1001 rfl ?_
      refine rn_iconst (v := (2 : Int32)) dL_law_1003 (by decide) ?_
      refine rn_iadd dL_law_1004 ?_
      refine rn_topi (3 : Int32) (by decide) ?_
      refine rn_sld (by rw [hL]; unfold vp_in; decide) dL_law_1005 ?_
      refine rn_topi sc3 se3 ?_
      refine rn_aload_n (i := 0) dL_law_1006 rfl rfl ?_
      refine rn_iload dL_law_1007 rfl ?_
      refine rn_iconst (v := (3 : Int32)) dL_law_1009 (by decide) ?_
      refine rn_iadd dL_law_1010 ?_
      refine rn_topi (4 : Int32) (by decide) ?_
      refine rn_sld (by rw [hL]; unfold vp_in; decide) dL_law_1011 ?_
      refine rn_topi sc4 se4 ?_
      refine rn_aload_n (i := 0) dL_law_1012 rfl rfl ?_
      refine rn_iload dL_law_1013 rfl ?_
      refine rn_iconst (v := (4 : Int32)) dL_law_1015 (by decide) ?_
      refine rn_iadd dL_law_1016 ?_
      refine rn_topi (5 : Int32) (by decide) ?_
      refine rn_sld (by rw [hL]; unfold vp_in; decide) dL_law_1017 ?_
      refine rn_topi sc5 se5 ?_
      refine rn_i2l dL_law_1018 rfl ?_
      refine rn_bipush (v := (32 : Int32)) dL_law_1019 (by decide) ?_
      refine rn_lshl dL_law_1021 rfl ?_
      refine rn_aload_n (i := 0) dL_law_1022 rfl rfl ?_
      refine rn_iload dL_law_1023 rfl ?_
      refine rn_iconst (v := (5 : Int32)) dL_law_1025 (by decide) ?_
      refine rn_iadd dL_law_1026 ?_
      refine rn_topi (6 : Int32) (by decide) ?_
      refine rn_sld (by rw [hL]; unfold vp_in; decide) dL_law_1027 ?_
      refine rn_topi sc6 se6 ?_
      refine rn_i2l dL_law_1028 rfl ?_
      refine rn_ldc2 (v := (4294967295 : Int64)) wd_1565 dL_law_1029 ?_
      refine rn_land dL_law_1032 ?_
      refine rn_lor dL_law_1033 ?_
      refine rn_aload_n (i := 0) dL_law_1034 rfl rfl ?_
      refine rn_iload dL_law_1035 rfl ?_
      refine rn_bipush (v := (6 : Int32)) dL_law_1037 (by decide) ?_
      refine rn_iadd dL_law_1039 ?_
      refine rn_topi (7 : Int32) (by decide) ?_
      refine rn_sld (by rw [hL]; unfold vp_in; decide) dL_law_1040 ?_
      refine rn_topi sc7 se7 ?_
      refine rn_i2l dL_law_1041 rfl ?_
      refine rn_bipush (v := (32 : Int32)) dL_law_1042 (by decide) ?_
      refine rn_lshl dL_law_1044 rfl ?_
      refine rn_aload_n (i := 0) dL_law_1045 rfl rfl ?_
      refine rn_iload dL_law_1046 rfl ?_
      refine rn_bipush (v := (7 : Int32)) dL_law_1048 (by decide) ?_
      refine rn_iadd dL_law_1050 ?_
      refine rn_topi (8 : Int32) (by decide) ?_
      refine rn_sld (by rw [hL]; unfold vp_in; decide) dL_law_1051 ?_
      refine rn_topi sc8 se8 ?_
      refine rn_i2l dL_law_1052 rfl ?_
      refine rn_ldc2 (v := (4294967295 : Int64)) wd_1565 dL_law_1053 ?_
      refine rn_land dL_law_1056 ?_
      refine rn_lor dL_law_1057 ?_
      refine rn_aload_n (i := 0) dL_law_1058 rfl rfl ?_
      refine rn_iload dL_law_1059 rfl ?_
      refine rn_bipush (v := (8 : Int32)) dL_law_1061 (by decide) ?_
      refine rn_iadd dL_law_1063 ?_
      refine rn_topi (9 : Int32) (by decide) ?_
      refine rn_sld (by rw [hL]; unfold vp_in; decide) dL_law_1064 ?_
      refine rn_topi sc9 se9 ?_
      refine rn_if_eq (tgt := 1072) dL_law_1065 (by decide) (fun h58 => False.elim (by have g0 := i32_rng sc9; have g1 := i32_rng sc3; have g2 := i32_rng sc2; have g3 := i32_rng sc4; have g4 := i32_rng sc10; simp only [Int32.lt_iff_toInt_lt, Int32.le_iff_toInt_le, gt_iff_lt, ge_iff_le, ← Int32.toInt_inj, i32_0, i32_1, i32_4, i32_256, i32_1000000] at *; omega)) (fun h58 => ?_)
      refine rn_iconst (v := (1 : Int32)) dL_law_1068 (by decide) ?_
      refine rn_goto (tgt := 1073) dL_law_1069 (by decide) ?_
      refine rn_aload_n (i := 0) dL_law_1073 rfl rfl ?_
      refine rn_iload dL_law_1074 rfl ?_
      refine rn_bipush (v := (9 : Int32)) dL_law_1076 (by decide) ?_
      refine rn_iadd dL_law_1078 ?_
      refine rn_topi (10 : Int32) (by decide) ?_
      refine rn_sld (by rw [hL]; unfold vp_in; decide) dL_law_1079 ?_
      refine rn_topi sc10 se10 ?_
      refine rn_callV (a := 0) (b := 0) [.int sc2, .int sc3, .int sc4, .long (((sc5).toInt64 <<< (((32 : Int32)).toInt64 &&& 63)) ||| ((sc6).toInt64 &&& (4294967295 : Int64))), .long (((sc7).toInt64 <<< (((32 : Int32)).toInt64 &&& 63)) ||| ((sc8).toInt64 &&& (4294967295 : Int64))), .int (1 : Int32), .int sc10] kl_SGLaw_150 dL_law_1080 23 h_m rfl (c_X10_seal_1 G _ (o_m := o_m) (x := sc2) (y := sc3) (u := sc4) (y1 := (((sc5).toInt64 <<< (((32 : Int32)).toInt64 &&& 63)) ||| ((sc6).toInt64 &&& (4294967295 : Int64)))) (y2 := (((sc7).toInt64 <<< (((32 : Int32)).toInt64 &&& 63)) ||| ((sc8).toInt64 &&& (4294967295 : Int64)))) (x2 := sc10) (fs_m := fs_m) (a_sealWay := a_sealWay) (a_sealTunnel := a_sealTunnel) (a_sealName := a_sealName) (a_sealKey := a_sealKey) (a_sealStamp := a_sealStamp) (a_sealLong := a_sealLong) (a_sealLife := a_sealLife) (a_sealStopped := a_sealStopped) (a_sealTop := a_sealTop) (a_sealSeen := a_sealSeen) h_m hf_m_0 hf_m_22 hf_m_23 hf_m_24 hf_m_25 hf_m_26 hf_m_27 hf_m_28 hf_m_29 hf_m_30 hf_m_31 hf_m_32 h_m_sealWay h_m_sealTunnel h_m_sealName h_m_sealKey h_m_sealStamp h_m_sealLong h_m_sealLife h_m_sealStopped h_m_sealTop h_m_sealSeen) rfl rfl (Nat.le_of_ble_eq_true rfl) (Nat.le_of_ble_eq_true rfl) (Nat.le_of_ble_eq_true rfl) (Nat.le_of_ble_eq_true rfl) (Nat.le_of_ble_eq_true rfl) (Nat.le_of_ble_eq_true rfl) (by rintro E w h; rcases h with ⟨_, hr, _⟩ | ⟨_, hr, _⟩ | ⟨_, hr, _⟩ <;> cases hr) ?_
      rintro v w h
      rcases h with ⟨hc, hr, hw⟩ | ⟨hc, hr, hw⟩ | ⟨hc, hr, hw⟩
      · have hc59 := hc; clear hc; cases hr
        exfalso; have g0 := i32_rng sc9; have g1 := i32_rng sc3; have g2 := i32_rng sc2; have g3 := i32_rng sc4; have g4 := i32_rng sc10; simp only [Int32.lt_iff_toInt_lt, Int32.le_iff_toInt_le, gt_iff_lt, ge_iff_le, ← Int32.toInt_inj, i32_0, i32_1, i32_3, i32_4, i32_256, i32_1000000] at *; omega
      · have hc60 := hc; clear hc; cases hr
        have hw61 : w[23]? = some (o_m, Sum.inr (10, ((fs_m.set 0 (.int (0 : Int32))).set 0 (.int (2 : Int32))))) := by rw [hw, List.getElem?_set_self (by (try simp only [List.length_set, List.length_append, List.length_cons, List.length_nil]); have hq := ls_lt h_m; omega)]
        have hw62 : w[62]? = some (o_out, Sum.inl (rn_k G 2, 1, Sum.inr (Sum.inl (fun _ => 0)))) := by rw [hw, List.getElem?_set_ne (by decide), List.getElem?_set_ne (by decide), h_out]
        refine rn_stk [.int (0 : Int32)] rfl ?_
        refine rn_istore dL_law_1083 (by decide) [(0, .ref G.2.2.2.2.1.1), (1, .ref o_sg), (2, .ref o_m), (3, .ref o_out), (4, .int (1 : Int32)), (5, .int (2 : Int32)), (6, .int (0 : Int32))] rfl ?_
        refine rn_aload_n (i := 2) dL_law_1085 rfl rfl ?_
        refine rn_callV (a := 0) (b := 0) [] kl_SGLaw_110 dL_law_1086 23 hw61 rfl (c_X10_thrown G _ (o_m := o_m) (fs_m := ((fs_m.set 0 (.int (0 : Int32))).set 0 (.int (2 : Int32)))) (th := (2 : Int32)) hw61 (ls_eq (ls_eq hf_m_0))) rfl rfl (Nat.le_of_ble_eq_true rfl) (Nat.le_of_ble_eq_true rfl) (Nat.le_of_ble_eq_true rfl) (Nat.le_of_ble_eq_true rfl) (Nat.le_of_ble_eq_true rfl) (Nat.le_of_ble_eq_true rfl) (by rintro E w h; rcases h with ⟨_, hr, _⟩ <;> cases hr) ?_
        rintro v w h
        obtain ⟨hc63, hr, hw⟩ := h; cases hr; rw [hw]
        refine rn_stk [.int (2 : Int32)] rfl ?_
        refine rn_iload dL_law_1089 rfl ?_
        refine rn_icmp_eq (tgt := 1096) dL_law_1091 (by decide) (fun h64 => ?_) (fun h64 => absurd h64 (by decide))
        refine rn_iload dL_law_1096 rfl ?_
        refine rn_if_ne (tgt := 1113) dL_law_1098 (by decide) (fun h65 => ?_) (fun h65 => absurd h65 (by decide))
        refine rn_goto (tgt := 1865) dL_law_1113 (by decide) ?_
        refine rn_lv [(0, .ref G.2.2.2.2.1.1), (1, .ref o_sg), (2, .ref o_m), (3, .ref o_out), (4, .int (1 : Int32))] rfl ?_
        exact law_end G _ hL _ _ _
      · have hc66 := hc; clear hc; cases hr
        exfalso; have g0 := i32_rng sc9; have g1 := i32_rng sc3; have g2 := i32_rng sc2; have g3 := i32_rng sc4; have g4 := i32_rng sc10; simp only [Int32.lt_iff_toInt_lt, Int32.le_iff_toInt_le, gt_iff_lt, ge_iff_le, ← Int32.toInt_inj, i32_0, i32_1, i32_3, i32_4, i32_256, i32_1000000] at *; omega
    · have hc67 := hc; clear hc; cases hr
      have hw68 : w[23]? = some (o_m, Sum.inr (10, fs_m)) := by rw [hw, List.getElem?_set_ne (by decide), List.getElem?_set_ne (by decide), List.getElem?_set_ne (by decide), List.getElem?_set_ne (by decide), List.getElem?_set_ne (by decide), List.getElem?_set_ne (by decide), List.getElem?_set_ne (by decide), List.getElem?_set_ne (by decide), List.getElem?_set_ne (by decide), List.getElem?_set_ne (by decide), List.getElem?_append_left (by (try simp only [List.length_set, List.length_append, List.length_cons, List.length_nil]); have hq := ls_lt h_m; omega), h_m]
      have hw69 : w[38]? = some (a_sealWay, Sum.inl (rn_k G 1, 16, Sum.inl (fun _ => 0))) := by rw [hw, List.getElem?_set_ne (by decide), List.getElem?_set_ne (by decide), List.getElem?_set_ne (by decide), List.getElem?_set_ne (by decide), List.getElem?_set_ne (by decide), List.getElem?_set_ne (by decide), List.getElem?_set_ne (by decide), List.getElem?_set_ne (by decide), List.getElem?_set_ne (by decide), List.getElem?_set_ne (by decide), List.getElem?_append_left (by (try simp only [List.length_set, List.length_append, List.length_cons, List.length_nil]); have hq := ls_lt h_m_sealWay; omega), h_m_sealWay]
      have hw70 : w[39]? = some (a_sealTunnel, Sum.inl (rn_k G 1, 16, Sum.inl (fun _ => 0))) := by rw [hw, List.getElem?_set_ne (by decide), List.getElem?_set_ne (by decide), List.getElem?_set_ne (by decide), List.getElem?_set_ne (by decide), List.getElem?_set_ne (by decide), List.getElem?_set_ne (by decide), List.getElem?_set_ne (by decide), List.getElem?_set_ne (by decide), List.getElem?_set_ne (by decide), List.getElem?_set_ne (by decide), List.getElem?_append_left (by (try simp only [List.length_set, List.length_append, List.length_cons, List.length_nil]); have hq := ls_lt h_m_sealTunnel; omega), h_m_sealTunnel]
      have hw71 : w[40]? = some (a_sealName, Sum.inl (rn_k G 1, 16, Sum.inl (fun _ => 0))) := by rw [hw, List.getElem?_set_ne (by decide), List.getElem?_set_ne (by decide), List.getElem?_set_ne (by decide), List.getElem?_set_ne (by decide), List.getElem?_set_ne (by decide), List.getElem?_set_ne (by decide), List.getElem?_set_ne (by decide), List.getElem?_set_ne (by decide), List.getElem?_set_ne (by decide), List.getElem?_set_ne (by decide), List.getElem?_append_left (by (try simp only [List.length_set, List.length_append, List.length_cons, List.length_nil]); have hq := ls_lt h_m_sealName; omega), h_m_sealName]
      have hw72 : w[41]? = some (a_sealKey, Sum.inl (rn_k G 2, 16, Sum.inr (Sum.inl (fun _ => 0)))) := by rw [hw, List.getElem?_set_ne (by decide), List.getElem?_set_ne (by decide), List.getElem?_set_ne (by decide), List.getElem?_set_ne (by decide), List.getElem?_set_ne (by decide), List.getElem?_set_ne (by decide), List.getElem?_set_ne (by decide), List.getElem?_set_ne (by decide), List.getElem?_set_ne (by decide), List.getElem?_set_ne (by decide), List.getElem?_append_left (by (try simp only [List.length_set, List.length_append, List.length_cons, List.length_nil]); have hq := ls_lt h_m_sealKey; omega), h_m_sealKey]
      have hw73 : w[42]? = some (a_sealStamp, Sum.inl (rn_k G 2, 16, Sum.inr (Sum.inl (fun _ => 0)))) := by rw [hw, List.getElem?_set_ne (by decide), List.getElem?_set_ne (by decide), List.getElem?_set_ne (by decide), List.getElem?_set_ne (by decide), List.getElem?_set_ne (by decide), List.getElem?_set_ne (by decide), List.getElem?_set_ne (by decide), List.getElem?_set_ne (by decide), List.getElem?_set_ne (by decide), List.getElem?_set_ne (by decide), List.getElem?_append_left (by (try simp only [List.length_set, List.length_append, List.length_cons, List.length_nil]); have hq := ls_lt h_m_sealStamp; omega), h_m_sealStamp]
      have hw74 : w[43]? = some (a_sealLong, Sum.inl (rn_k G 3, 16, Sum.inl (fun _ => 0))) := by rw [hw, List.getElem?_set_ne (by decide), List.getElem?_set_ne (by decide), List.getElem?_set_ne (by decide), List.getElem?_set_ne (by decide), List.getElem?_set_ne (by decide), List.getElem?_set_ne (by decide), List.getElem?_set_ne (by decide), List.getElem?_set_ne (by decide), List.getElem?_set_ne (by decide), List.getElem?_set_ne (by decide), List.getElem?_append_left (by (try simp only [List.length_set, List.length_append, List.length_cons, List.length_nil]); have hq := ls_lt h_m_sealLong; omega), h_m_sealLong]
      have hw75 : w[44]? = some (a_sealLife, Sum.inl (rn_k G 1, 16, Sum.inl (fun _ => 0))) := by rw [hw, List.getElem?_set_ne (by decide), List.getElem?_set_ne (by decide), List.getElem?_set_ne (by decide), List.getElem?_set_ne (by decide), List.getElem?_set_ne (by decide), List.getElem?_set_ne (by decide), List.getElem?_set_ne (by decide), List.getElem?_set_ne (by decide), List.getElem?_set_ne (by decide), List.getElem?_set_ne (by decide), List.getElem?_append_left (by (try simp only [List.length_set, List.length_append, List.length_cons, List.length_nil]); have hq := ls_lt h_m_sealLife; omega), h_m_sealLife]
      have hw76 : w[45]? = some (a_sealStopped, Sum.inl (rn_k G 3, 16, Sum.inl (fun _ => 0))) := by rw [hw, List.getElem?_set_ne (by decide), List.getElem?_set_ne (by decide), List.getElem?_set_ne (by decide), List.getElem?_set_ne (by decide), List.getElem?_set_ne (by decide), List.getElem?_set_ne (by decide), List.getElem?_set_ne (by decide), List.getElem?_set_ne (by decide), List.getElem?_set_ne (by decide), List.getElem?_set_ne (by decide), List.getElem?_append_left (by (try simp only [List.length_set, List.length_append, List.length_cons, List.length_nil]); have hq := ls_lt h_m_sealStopped; omega), h_m_sealStopped]
      have hw77 : w[46]? = some (a_sealTop, Sum.inl (rn_k G 2, 16, Sum.inr (Sum.inl (fun _ => 0)))) := by rw [hw, List.getElem?_set_ne (by decide), List.getElem?_set_ne (by decide), List.getElem?_set_ne (by decide), List.getElem?_set_ne (by decide), List.getElem?_set_ne (by decide), List.getElem?_set_ne (by decide), List.getElem?_set_ne (by decide), List.getElem?_set_ne (by decide), List.getElem?_set_ne (by decide), List.getElem?_set_ne (by decide), List.getElem?_append_left (by (try simp only [List.length_set, List.length_append, List.length_cons, List.length_nil]); have hq := ls_lt h_m_sealTop; omega), h_m_sealTop]
      have hw78 : w[47]? = some (a_sealSeen, Sum.inl (rn_k G 2, 16, Sum.inr (Sum.inl (fun _ => 0)))) := by rw [hw, List.getElem?_set_ne (by decide), List.getElem?_set_ne (by decide), List.getElem?_set_ne (by decide), List.getElem?_set_ne (by decide), List.getElem?_set_ne (by decide), List.getElem?_set_ne (by decide), List.getElem?_set_ne (by decide), List.getElem?_set_ne (by decide), List.getElem?_set_ne (by decide), List.getElem?_set_ne (by decide), List.getElem?_append_left (by (try simp only [List.length_set, List.length_append, List.length_cons, List.length_nil]); have hq := ls_lt h_m_sealSeen; omega), h_m_sealSeen]
      have hw79 : w[62]? = some (o_out, Sum.inl (rn_k G 2, 1, Sum.inr (Sum.inl (vp_updL (fun _ => 0) ((0 : Int32)).toNatClampNeg (0 : Int64))))) := by rw [hw, List.getElem?_set_self (by (try simp only [List.length_set, List.length_append, List.length_cons, List.length_nil]); have hq := ls_lt h_out; omega)]
      refine rn_stk [.int (0 : Int32)] rfl ?_
      refine rn_istore dL_law_991 (by decide) [(0, .ref G.2.2.2.2.1.1), (1, .ref o_sg), (2, .ref o_m), (3, .ref o_out), (4, .int (1 : Int32)), (5, .int (0 : Int32))] rfl ?_
      refine rn_aload_n (i := 2) dL_law_993 rfl rfl ?_
      refine rn_aload_n (i := 0) dL_law_994 rfl rfl ?_
      refine rn_iload dL_law_995 rfl ?_
      refine rn_iconst (v := (1 : Int32)) dL_law_997 (by decide) ?_
      refine rn_iadd dL_law_998 ?_
      refine rn_topi (2 : Int32) (by decide) ?_
      refine rn_sld (by rw [hL]; unfold vp_in; decide) dL_law_999 ?_
      refine rn_topi sc2 se2 ?_
      refine rn_aload_n (i := 0) dL_law_1000 rfl rfl ?_
      refine rn_iload dL_law_1001 rfl ?_
      refine rn_iconst (v := (2 : Int32)) dL_law_1003 (by decide) ?_
      refine rn_iadd dL_law_1004 ?_
      refine rn_topi (3 : Int32) (by decide) ?_
      refine rn_sld (by rw [hL]; unfold vp_in; decide) dL_law_1005 ?_
      refine rn_topi sc3 se3 ?_
      refine rn_aload_n (i := 0) dL_law_1006 rfl rfl ?_
      refine rn_iload dL_law_1007 rfl ?_
      refine rn_iconst (v := (3 : Int32)) dL_law_1009 (by decide) ?_
      refine rn_iadd dL_law_1010 ?_
      refine rn_topi (4 : Int32) (by decide) ?_
      refine rn_sld (by rw [hL]; unfold vp_in; decide) dL_law_1011 ?_
      refine rn_topi sc4 se4 ?_
      refine rn_aload_n (i := 0) dL_law_1012 rfl rfl ?_
      refine rn_iload dL_law_1013 rfl ?_
      refine rn_iconst (v := (4 : Int32)) dL_law_1015 (by decide) ?_
      refine rn_iadd dL_law_1016 ?_
      refine rn_topi (5 : Int32) (by decide) ?_
      refine rn_sld (by rw [hL]; unfold vp_in; decide) dL_law_1017 ?_
      refine rn_topi sc5 se5 ?_
      refine rn_i2l dL_law_1018 rfl ?_
      refine rn_bipush (v := (32 : Int32)) dL_law_1019 (by decide) ?_
      refine rn_lshl dL_law_1021 rfl ?_
      refine rn_aload_n (i := 0) dL_law_1022 rfl rfl ?_
      refine rn_iload dL_law_1023 rfl ?_
      refine rn_iconst (v := (5 : Int32)) dL_law_1025 (by decide) ?_
      refine rn_iadd dL_law_1026 ?_
      refine rn_topi (6 : Int32) (by decide) ?_
      refine rn_sld (by rw [hL]; unfold vp_in; decide) dL_law_1027 ?_
      refine rn_topi sc6 se6 ?_
      refine rn_i2l dL_law_1028 rfl ?_
      refine rn_ldc2 (v := (4294967295 : Int64)) wd_1565 dL_law_1029 ?_
      refine rn_land dL_law_1032 ?_
      refine rn_lor dL_law_1033 ?_
      refine rn_aload_n (i := 0) dL_law_1034 rfl rfl ?_
      refine rn_iload dL_law_1035 rfl ?_
      refine rn_bipush (v := (6 : Int32)) dL_law_1037 (by decide) ?_
      refine rn_iadd dL_law_1039 ?_
      refine rn_topi (7 : Int32) (by decide) ?_
      refine rn_sld (by rw [hL]; unfold vp_in; decide) dL_law_1040 ?_
      refine rn_topi sc7 se7 ?_
      refine rn_i2l dL_law_1041 rfl ?_
      refine rn_bipush (v := (32 : Int32)) dL_law_1042 (by decide) ?_
      refine rn_lshl dL_law_1044 rfl ?_
      refine rn_aload_n (i := 0) dL_law_1045 rfl rfl ?_
      refine rn_iload dL_law_1046 rfl ?_
      refine rn_bipush (v := (7 : Int32)) dL_law_1048 (by decide) ?_
      refine rn_iadd dL_law_1050 ?_
      refine rn_topi (8 : Int32) (by decide) ?_
      refine rn_sld (by rw [hL]; unfold vp_in; decide) dL_law_1051 ?_
      refine rn_topi sc8 se8 ?_
      refine rn_i2l dL_law_1052 rfl ?_
      refine rn_ldc2 (v := (4294967295 : Int64)) wd_1565 dL_law_1053 ?_
      refine rn_land dL_law_1056 ?_
      refine rn_lor dL_law_1057 ?_
      refine rn_aload_n (i := 0) dL_law_1058 rfl rfl ?_
      refine rn_iload dL_law_1059 rfl ?_
      refine rn_bipush (v := (8 : Int32)) dL_law_1061 (by decide) ?_
      refine rn_iadd dL_law_1063 ?_
      refine rn_topi (9 : Int32) (by decide) ?_
      refine rn_sld (by rw [hL]; unfold vp_in; decide) dL_law_1064 ?_
      refine rn_topi sc9 se9 ?_
      refine rn_if_eq (tgt := 1072) dL_law_1065 (by decide) (fun h80 => False.elim (by have g0 := i32_rng sc9; have g1 := i32_rng sc3; have g2 := i32_rng sc2; have g3 := i32_rng sc4; have g4 := i32_rng sc10; simp only [Int32.lt_iff_toInt_lt, Int32.le_iff_toInt_le, gt_iff_lt, ge_iff_le, ← Int32.toInt_inj, i32_0, i32_1, i32_4, i32_256, i32_1000000] at *; omega)) (fun h80 => ?_)
      refine rn_iconst (v := (1 : Int32)) dL_law_1068 (by decide) ?_
      refine rn_goto (tgt := 1073) dL_law_1069 (by decide) ?_
      refine rn_aload_n (i := 0) dL_law_1073 rfl rfl ?_
      refine rn_iload dL_law_1074 rfl ?_
      refine rn_bipush (v := (9 : Int32)) dL_law_1076 (by decide) ?_
      refine rn_iadd dL_law_1078 ?_
      refine rn_topi (10 : Int32) (by decide) ?_
      refine rn_sld (by rw [hL]; unfold vp_in; decide) dL_law_1079 ?_
      refine rn_topi sc10 se10 ?_
      refine rn_callV (a := 0) (b := 0) [.int sc2, .int sc3, .int sc4, .long (((sc5).toInt64 <<< (((32 : Int32)).toInt64 &&& 63)) ||| ((sc6).toInt64 &&& (4294967295 : Int64))), .long (((sc7).toInt64 <<< (((32 : Int32)).toInt64 &&& 63)) ||| ((sc8).toInt64 &&& (4294967295 : Int64))), .int (1 : Int32), .int sc10] kl_SGLaw_150 dL_law_1080 23 hw68 rfl (c_X10_seal_1 G _ (o_m := o_m) (x := sc2) (y := sc3) (u := sc4) (y1 := (((sc5).toInt64 <<< (((32 : Int32)).toInt64 &&& 63)) ||| ((sc6).toInt64 &&& (4294967295 : Int64)))) (y2 := (((sc7).toInt64 <<< (((32 : Int32)).toInt64 &&& 63)) ||| ((sc8).toInt64 &&& (4294967295 : Int64)))) (x2 := sc10) (fs_m := fs_m) (a_sealWay := a_sealWay) (a_sealTunnel := a_sealTunnel) (a_sealName := a_sealName) (a_sealKey := a_sealKey) (a_sealStamp := a_sealStamp) (a_sealLong := a_sealLong) (a_sealLife := a_sealLife) (a_sealStopped := a_sealStopped) (a_sealTop := a_sealTop) (a_sealSeen := a_sealSeen) hw68 hf_m_0 hf_m_22 hf_m_23 hf_m_24 hf_m_25 hf_m_26 hf_m_27 hf_m_28 hf_m_29 hf_m_30 hf_m_31 hf_m_32 hw69 hw70 hw71 hw72 hw73 hw74 hw75 hw76 hw77 hw78) rfl rfl (Nat.le_of_ble_eq_true rfl) (Nat.le_of_ble_eq_true rfl) (Nat.le_of_ble_eq_true rfl) (Nat.le_of_ble_eq_true rfl) (Nat.le_of_ble_eq_true rfl) (Nat.le_of_ble_eq_true rfl) (by rintro E w h; rcases h with ⟨_, hr, _⟩ | ⟨_, hr, _⟩ | ⟨_, hr, _⟩ <;> cases hr) ?_
      rintro v w h
      rcases h with ⟨hc, hr, hw⟩ | ⟨hc, hr, hw⟩ | ⟨hc, hr, hw⟩
      · have hc81 := hc; clear hc; cases hr
        exfalso; have g0 := i32_rng sc9; have g1 := i32_rng sc3; have g2 := i32_rng sc2; have g3 := i32_rng sc4; have g4 := i32_rng sc10; simp only [Int32.lt_iff_toInt_lt, Int32.le_iff_toInt_le, gt_iff_lt, ge_iff_le, ← Int32.toInt_inj, i32_0, i32_1, i32_3, i32_4, i32_256, i32_1000000] at *; omega
      · have hc82 := hc; clear hc; cases hr
        exfalso; have g0 := i32_rng sc9; have g1 := i32_rng sc3; have g2 := i32_rng sc2; have g3 := i32_rng sc4; have g4 := i32_rng sc10; simp only [Int32.lt_iff_toInt_lt, Int32.le_iff_toInt_le, gt_iff_lt, ge_iff_le, ← Int32.toInt_inj, i32_0, i32_1, i32_2, i32_3, i32_4, i32_256, i32_1000000] at *; omega
      · have hc83 := hc; clear hc; cases hr
        have hw84 : w[23]? = some (o_m, Sum.inr (10, ((fs_m.set 0 (.int (0 : Int32))).set 22 (.int (1 : Int32))))) := by rw [hw, List.getElem?_set_self (by (try simp only [List.length_set, List.length_append, List.length_cons, List.length_nil]); have hq := ls_lt hw68; omega)]
        have hw85 : w[62]? = some (o_out, Sum.inl (rn_k G 2, 1, Sum.inr (Sum.inl (vp_updL (fun _ => 0) ((0 : Int32)).toNatClampNeg (0 : Int64))))) := by rw [hw, List.getElem?_set_ne (by decide), List.getElem?_set_ne (by decide), List.getElem?_set_ne (by decide), List.getElem?_set_ne (by decide), List.getElem?_set_ne (by decide), List.getElem?_set_ne (by decide), List.getElem?_set_ne (by decide), List.getElem?_set_ne (by decide), List.getElem?_set_ne (by decide), List.getElem?_set_ne (by decide), List.getElem?_set_ne (by decide), List.getElem?_set_ne (by decide), hw79]
        refine rn_stk [.int (0 : Int32)] rfl ?_
        refine rn_istore dL_law_1083 (by decide) [(0, .ref G.2.2.2.2.1.1), (1, .ref o_sg), (2, .ref o_m), (3, .ref o_out), (4, .int (1 : Int32)), (5, .int (0 : Int32)), (6, .int (0 : Int32))] rfl ?_
        refine rn_aload_n (i := 2) dL_law_1085 rfl rfl ?_
        refine rn_callV (a := 0) (b := 0) [] kl_SGLaw_110 dL_law_1086 23 hw84 rfl (c_X10_thrown G _ (o_m := o_m) (fs_m := ((fs_m.set 0 (.int (0 : Int32))).set 22 (.int (1 : Int32)))) (th := (0 : Int32)) hw84 (ls_ne (by decide) (ls_eq hf_m_0))) rfl rfl (Nat.le_of_ble_eq_true rfl) (Nat.le_of_ble_eq_true rfl) (Nat.le_of_ble_eq_true rfl) (Nat.le_of_ble_eq_true rfl) (Nat.le_of_ble_eq_true rfl) (Nat.le_of_ble_eq_true rfl) (by rintro E w h; rcases h with ⟨_, hr, _⟩ <;> cases hr) ?_
        rintro v w h
        obtain ⟨hc86, hr, hw⟩ := h; cases hr; rw [hw]
        refine rn_stk [.int (0 : Int32)] rfl ?_
        refine rn_iload dL_law_1089 rfl ?_
        refine rn_icmp_eq (tgt := 1096) dL_law_1091 (by decide) (fun h87 => ?_) (fun h87 => absurd h87 (by decide))
        refine rn_iload dL_law_1096 rfl ?_
        refine rn_if_ne (tgt := 1113) dL_law_1098 (by decide) (fun h88 => absurd h88 (by decide)) (fun h88 => ?_)
        refine rn_aload_n (i := 3) dL_law_1101 rfl rfl ?_
        refine rn_iconst (v := (0 : Int32)) dL_law_1102 (by decide) ?_
        refine rn_lald 62 2 hw85 rfl (by unfold vp_in; decide) dL_law_1103 ?_
        refine rn_topl _ (vp_updL_at _ _ _) ?_
        refine rn_iload dL_law_1104 rfl ?_
        refine rn_i2l dL_law_1106 rfl ?_
        refine rn_topl (0 : Int64) (by decide) ?_
        refine rn_lcmp dL_law_1107 ?_
        refine rn_topi (0 : Int32) (by decide) ?_
        refine rn_if_eq (tgt := 1113) dL_law_1108 (by decide) (fun h89 => ?_) (fun h89 => absurd h89 (by decide))
        refine rn_goto (tgt := 1865) dL_law_1113 (by decide) ?_
        refine rn_lv [(0, .ref G.2.2.2.2.1.1), (1, .ref o_sg), (2, .ref o_m), (3, .ref o_out), (4, .int (1 : Int32))] rfl ?_
        exact law_end G _ hL _ _ _
