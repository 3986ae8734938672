abbrev mX4_size : rn_M := (yX4_size, cX4_size, 1, (some .int), [])
theorem wu_4 : ∀ w ∈ u_ws RX4 TX4 2, w ∈ rn_T := fun w h => by
  have h1 := List.all_eq_true.mp (show ((u_ws RX4 TX4 2).all (fun w => decide (w ∈ lw_tbl) && goodWord w)) = true by decide +kernel) w h
  simp only [Bool.and_eq_true, decide_eq_true_eq] at h1
  exact List.mem_filter.mpr h1
theorem kg_SG_Packet_15 : rn_F "SealedGateway$Packet" 15 4 1 := ⟨RX4, TX4, 2, rfl, wu_4, by decide, wd_36⟩
abbrev mX4_resize : rn_M := (yX4_resize, cX4_resize, 2, none, [])
theorem kl_SG_Packet_19 : rn_mm "SealedGateway$Packet" 19 Lib.Math.min.name Lib.Math.min.code := ⟨wd_213, wd_191, wd_12, wd_192⟩
theorem kp_SG_Packet_15 (mn : String) : rn_FP "SealedGateway$Packet" mn 15 4 1 (tyX4 1) := ⟨RX4, TX4, 2, tyX4, rfl, wu_4, tyX4_ok, nmX4, by decide, wd_36, Or.inl rfl, tyX4_ok 1 (by decide)⟩
abbrev mX4_byteAt : rn_M := (yX4_byteAt, cX4_byteAt, 2, (some .int), [])
theorem kg_SG_Packet_11 : rn_F "SealedGateway$Packet" 11 4 0 := ⟨RX4, TX4, 2, rfl, wu_4, by decide, wd_35⟩
theorem i32_0 : (0 : Int32).toInt = 0 := by decide
theorem i32_2040 : (2040 : Int32).toInt = 2040 := by decide
abbrev mX4_setByte : rn_M := (yX4_setByte, cX4_setByte, 3, none, [])
abbrev mX4_pairAt : rn_M := (yX4_pairAt, cX4_pairAt, 2, (some .int), [])
theorem i32_1 : (1 : Int32).toInt = 1 := by decide
abbrev mX4_setPair : rn_M := (yX4_setPair, cX4_setPair, 3, none, [])
abbrev mX4_setWord : rn_M := (yX4_setWord, cX4_setWord, 3, none, [])
theorem sg_X4_setPair : rn_sg mX4_setPair 2 := ⟨by decide +kernel, ⟨by decide +kernel, by decide +kernel⟩, by decide +kernel⟩
theorem kl_SG_Packet_31 : rn_LV "SealedGateway$Packet" 31 mX4_setPair 2 := ⟨sg_X4_setPair, rfl, wd_330, wd_2, wd_327, wd_328, wd_329⟩
abbrev mX4_setLong : rn_M := (yX4_setLong, cX4_setLong, 4, none, [])
theorem sg_X4_setWord : rn_sg mX4_setWord 2 := ⟨by decide +kernel, ⟨by decide +kernel, by decide +kernel⟩, by decide +kernel⟩
theorem kl_SG_Packet_35 : rn_LV "SealedGateway$Packet" 35 mX4_setWord 2 := ⟨sg_X4_setWord, rfl, wd_326, wd_2, wd_323, wd_324, wd_325⟩
theorem i32_8 : (8 : Int32).toInt = 8 := by decide
theorem i32_2 : (2 : Int32).toInt = 2 := by decide
theorem i32_4 : (4 : Int32).toInt = 4 := by decide
abbrev mX4_copyBytes : rn_M := (yX4_copyBytes, cX4_copyBytes, 5, none, [])
abbrev mX4_copy : rn_M := (yX4_copy, cX4_copy, 2, none, [])
theorem sg_X4_resize : rn_sg mX4_resize 1 := ⟨by decide +kernel, ⟨by decide +kernel, by decide +kernel⟩, by decide +kernel⟩
theorem kl_SG_Packet_38 : rn_LV "SealedGateway$Packet" 38 mX4_resize 1 := ⟨sg_X4_resize, rfl, wd_212, wd_2, wd_646, wd_210, wd_211⟩
theorem sg_X4_copyBytes : rn_sg mX4_copyBytes 4 := ⟨by decide +kernel, ⟨by decide +kernel, by decide +kernel⟩, by decide +kernel⟩
theorem kl_SG_Packet_42 : rn_LV "SealedGateway$Packet" 42 mX4_copyBytes 4 := ⟨sg_X4_copyBytes, rfl, wd_650, wd_2, wd_647, wd_648, wd_649⟩
abbrev mX4_isBroken : rn_M := (yX4_isBroken, cX4_isBroken, 1, (some .boolean), [])
theorem i32_20 : (20 : Int32).toInt = 20 := by decide
abbrev mX9_isByte : rn_M := (yX9_isByte, cX9_isByte, 1, (some .boolean), [])
abbrev mX9_isWidth : rn_M := (yX9_isWidth, cX9_isWidth, 1, (some .boolean), [])
abbrev mX9_isPortOrWay : rn_M := (yX9_isPortOrWay, cX9_isPortOrWay, 1, (some .boolean), [])
abbrev mX9_isTunnel : rn_M := (yX9_isTunnel, cX9_isTunnel, 1, (some .boolean), [])
abbrev mX9_type : rn_M := (yX9_type, cX9_type, 4, (some .int), [])
theorem wu_9 : ∀ w ∈ u_ws RX9 TX9 16, w ∈ rn_T := fun w h => by
  have h1 := List.all_eq_true.mp (show ((u_ws RX9 TX9 16).all (fun w => decide (w ∈ lw_tbl) && goodWord w)) = true by decide +kernel) w h
  simp only [Bool.and_eq_true, decide_eq_true_eq] at h1
  exact List.mem_filter.mpr h1
theorem kg_SG_10 : rn_F "SealedGateway" 10 9 1 := ⟨RX9, TX9, 16, rfl, wu_9, by decide, wd_118⟩
theorem sg_X4_size : rn_sg mX4_size 0 := ⟨by decide +kernel, ⟨by decide +kernel, by decide +kernel⟩, by decide +kernel⟩
theorem kl_SG_76 : rn_LV "SealedGateway" 76 mX4_size 0 := ⟨sg_X4_size, rfl, wd_251, wd_2, wd_248, wd_249, wd_250⟩
theorem kl_SG_87 : rn_LV "SealedGateway" 87 mX4_resize 1 := ⟨sg_X4_resize, rfl, wd_212, wd_2, wd_209, wd_210, wd_211⟩
theorem sg_X4_setLong : rn_sg mX4_setLong 2 := ⟨by decide +kernel, ⟨by decide +kernel, by decide +kernel⟩, by decide +kernel⟩
theorem kl_SG_91 : rn_LV "SealedGateway" 91 mX4_setLong 2 := ⟨sg_X4_setLong, rfl, wd_322, wd_2, wd_319, wd_320, wd_321⟩
abbrev mX9_keep : rn_M := (yX9_keep, cX9_keep, 2, none, [])
theorem at_SG_99 : ∀ w ∈ vx_atS "SealedGateway" 99 "java/lang/IllegalArgumentException" rn_nm, w ∈ rn_T ∨ (w ∈ rn_U ∧ w.onTables = true) := rn_atS (by decide +kernel)
theorem kt_SG_95_97 : rn_LT "SealedGateway" 95 97 99 "java/lang/IllegalArgumentException" := ⟨by decide +kernel, wd_339, wd_13, at_SG_99, 1, "the tape has not so many bytes", rfl⟩
abbrev mX9_at : rn_M := (yX9_at, cX9_at, 2, (some .int), [])
theorem at_SG_118 : ∀ w ∈ vx_atS "SealedGateway" 118 "java/lang/IndexOutOfBoundsException" rn_nm, w ∈ rn_T ∨ (w ∈ rn_U ∧ w.onTables = true) := rn_atS (by decide +kernel)
theorem kt_SG_114_116 : rn_LT "SealedGateway" 114 116 118 "java/lang/IndexOutOfBoundsException" := ⟨by decide +kernel, wd_367, wd_14, at_SG_118, 2, "no such byte", rfl⟩
abbrev mX9_poke : rn_M := (yX9_poke, cX9_poke, 4, (some .int), [])
theorem sg_X9_at : rn_sg mX9_at 1 := ⟨by decide +kernel, ⟨by decide +kernel, by decide +kernel⟩, by decide +kernel⟩
theorem kl_SG_100 : rn_LV "SealedGateway" 100 mX9_at 1 := ⟨sg_X9_at, rfl, wd_366, wd_1, wd_363, wd_364, wd_365⟩
abbrev mX9_sum : rn_M := (yX9_sum, cX9_sum, 1, (some .int), [])
theorem at_SG_84 : ∀ w ∈ vx_atS "SealedGateway" 84 "java/lang/IllegalStateException" rn_nm, w ∈ rn_T ∨ (w ∈ rn_U ∧ w.onTables = true) := rn_atS (by decide +kernel)
theorem kt_SG_80_131 : rn_LT "SealedGateway" 80 131 84 "java/lang/IllegalStateException" := ⟨by decide +kernel, wd_252, wd_11, at_SG_84, 5, "the tape has no head", rfl⟩
abbrev mX7_isFull : rn_M := (yX7_isFull, cX7_isFull, 1, (some .boolean), [])
theorem wu_7 : ∀ w ∈ u_ws RX7 TX7 3, w ∈ rn_T := fun w h => by
  have h1 := List.all_eq_true.mp (show ((u_ws RX7 TX7 3).all (fun w => decide (w ∈ lw_tbl) && goodWord w)) = true by decide +kernel) w h
  simp only [Bool.and_eq_true, decide_eq_true_eq] at h1
  exact List.mem_filter.mpr h1
theorem kg_SG_Routes_21 : rn_F "SealedGateway$Routes" 21 7 2 := ⟨RX7, TX7, 3, rfl, wu_7, by decide, wd_53⟩
abbrev mX3_init : rn_M := (yX3_init, cX3_init, 3, none, [])
theorem wu_3 : ∀ w ∈ u_ws RX3 TX3 2, w ∈ rn_T := fun w h => by
  have h1 := List.all_eq_true.mp (show ((u_ws RX3 TX3 2).all (fun w => decide (w ∈ lw_tbl) && goodWord w)) = true by decide +kernel) w h
  simp only [Bool.and_eq_true, decide_eq_true_eq] at h1
  exact List.mem_filter.mpr h1
theorem kp_SG_Net_7 : rn_FP "SealedGateway$Net" "<init>" 7 3 0 (tyX3 0) := ⟨RX3, TX3, 2, tyX3, rfl, wu_3, tyX3_ok, nmX3, by decide, wd_458, Or.inr ⟨rfl, rfl, rfl⟩, tyX3_ok 0 (by decide)⟩
theorem kp_SG_Net_13 : rn_FP "SealedGateway$Net" "<init>" 13 3 1 (tyX3 1) := ⟨RX3, TX3, 2, tyX3, rfl, wu_3, tyX3_ok, nmX3, by decide, wd_459, Or.inr ⟨rfl, rfl, rfl⟩, tyX3_ok 1 (by decide)⟩
abbrev mX7_append : rn_M := (yX7_append, cX7_append, 3, (some .int), [])
theorem kg_SG_Routes_13 : rn_F "SealedGateway$Routes" 13 7 0 := ⟨RX7, TX7, 3, rfl, wu_7, by decide, wd_51⟩
theorem kg_SG_Routes_17 : rn_F "SealedGateway$Routes" 17 7 1 := ⟨RX7, TX7, 3, rfl, wu_7, by decide, wd_52⟩
theorem kp_SG_Routes_21 (mn : String) : rn_FP "SealedGateway$Routes" mn 21 7 2 (tyX7 2) := ⟨RX7, TX7, 3, tyX7, rfl, wu_7, tyX7_ok, nmX7, by decide, wd_53, Or.inl rfl, tyX7_ok 2 (by decide)⟩
abbrev mX9_route : rn_M := (yX9_route, cX9_route, 4, (some .int), [])
theorem sg_X9_isWidth : rn_sg mX9_isWidth 1 := ⟨by decide +kernel, ⟨by decide +kernel, by decide +kernel⟩, by decide +kernel⟩
theorem kl_SG_133 : rn_LS "SealedGateway" 133 mX9_isWidth 1 := ⟨sg_X9_isWidth, rfl, wd_442, wd_1, wd_440, wd_441⟩
theorem kt_SG_95_139 : rn_LT "SealedGateway" 95 139 99 "java/lang/IllegalArgumentException" := ⟨by decide +kernel, wd_339, wd_13, at_SG_99, 6, "no such route", rfl⟩
theorem sg_X9_isPortOrWay : rn_sg mX9_isPortOrWay 1 := ⟨by decide +kernel, ⟨by decide +kernel, by decide +kernel⟩, by decide +kernel⟩
theorem kl_SG_136 : rn_LS "SealedGateway" 136 mX9_isPortOrWay 1 := ⟨sg_X9_isPortOrWay, rfl, wd_445, wd_1, wd_443, wd_444⟩
theorem kg_SG_35 : rn_F "SealedGateway" 35 9 7 := ⟨RX9, TX9, 16, rfl, wu_9, by decide, wd_124⟩
theorem sg_X7_isFull : rn_sg mX7_isFull 0 := ⟨by decide +kernel, ⟨by decide +kernel, by decide +kernel⟩, by decide +kernel⟩
theorem kl_SG_141 : rn_LV "SealedGateway" 141 mX7_isFull 0 := ⟨sg_X7_isFull, rfl, wd_450, wd_3, wd_447, wd_448, wd_449⟩
abbrev fs0_3 : List Value := [.int 0, .int 0]
theorem kn_SG_147 : rn_N "SealedGateway" 147 3 fs0_3 := ⟨RX3, TX3, 2, tyX3, rfl, wu_3, tyX3_ok, wd_452, wd_453, wd_15, by decide +kernel, rfl⟩
theorem sg_X3_init : rn_sg mX3_init 2 := ⟨by decide +kernel, ⟨by decide +kernel, by decide +kernel⟩, by decide +kernel⟩
theorem kl_SG_149 : rn_LI "SealedGateway" 149 mX3_init 2 := ⟨sg_X3_init, rfl, wd_456, wd_15, wd_454, wd_455, rfl, rfl⟩
theorem sg_X7_append : rn_sg mX7_append 2 := ⟨by decide +kernel, ⟨by decide +kernel, by decide +kernel⟩, by decide +kernel⟩
theorem kl_SG_151 : rn_LV "SealedGateway" 151 mX7_append 2 := ⟨sg_X7_append, rfl, wd_468, wd_3, wd_465, wd_466, wd_467⟩
abbrev mX9_peer : rn_M := (yX9_peer, cX9_peer, 4, (some .int), [])
theorem sg_X9_isTunnel : rn_sg mX9_isTunnel 1 := ⟨by decide +kernel, ⟨by decide +kernel, by decide +kernel⟩, by decide +kernel⟩
theorem kl_SG_155 : rn_LS "SealedGateway" 155 mX9_isTunnel 1 := ⟨sg_X9_isTunnel, rfl, wd_478, wd_1, wd_476, wd_477⟩
theorem kt_SG_114_158 : rn_LT "SealedGateway" 114 158 118 "java/lang/IndexOutOfBoundsException" := ⟨by decide +kernel, wd_367, wd_14, at_SG_118, 8, "no such tunnel", rfl⟩
theorem kg_SG_46 : rn_F "SealedGateway" 46 9 9 := ⟨RX9, TX9, 16, rfl, wu_9, by decide, wd_126⟩
abbrev mX5_nextMeans : rn_M := (yX5_nextMeans, cX5_nextMeans, 4, none, [])
theorem wu_5 : ∀ w ∈ u_ws RX5 TX5 5, w ∈ rn_T := fun w h => by
  have h1 := List.all_eq_true.mp (show ((u_ws RX5 TX5 5).all (fun w => decide (w ∈ lw_tbl) && goodWord w)) = true by decide +kernel) w h
  simp only [Bool.and_eq_true, decide_eq_true_eq] at h1
  exact List.mem_filter.mpr h1
theorem kp_SG_Policies_25 (mn : String) : rn_FP "SealedGateway$Policies" mn 25 5 2 (tyX5 2) := ⟨RX5, TX5, 5, tyX5, rfl, wu_5, tyX5_ok, nmX5, by decide, wd_73, Or.inl rfl, tyX5_ok 2 (by decide)⟩
theorem kp_SG_Policies_28 (mn : String) : rn_FP "SealedGateway$Policies" mn 28 5 3 (tyX5 3) := ⟨RX5, TX5, 5, tyX5, rfl, wu_5, tyX5_ok, nmX5, by decide, wd_74, Or.inl rfl, tyX5_ok 3 (by decide)⟩
theorem kp_SG_Policies_18 (mn : String) : rn_FP "SealedGateway$Policies" mn 18 5 4 (tyX5 4) := ⟨RX5, TX5, 5, tyX5, rfl, wu_5, tyX5_ok, nmX5, by decide, wd_75, Or.inl rfl, tyX5_ok 4 (by decide)⟩
abbrev mX9_meant : rn_M := (yX9_meant, cX9_meant, 4, none, [])
theorem sg_X9_isByte : rn_sg mX9_isByte 1 := ⟨by decide +kernel, ⟨by decide +kernel, by decide +kernel⟩, by decide +kernel⟩
theorem kl_SG_104 : rn_LS "SealedGateway" 104 mX9_isByte 1 := ⟨sg_X9_isByte, rfl, wd_389, wd_1, wd_387, wd_388⟩
theorem kt_SG_95_161 : rn_LT "SealedGateway" 95 161 99 "java/lang/IllegalArgumentException" := ⟨by decide +kernel, wd_339, wd_13, at_SG_99, 9, "no such kind or doors", rfl⟩
theorem kg_SG_42 : rn_F "SealedGateway" 42 9 8 := ⟨RX9, TX9, 16, rfl, wu_9, by decide, wd_125⟩
theorem sg_X5_nextMeans : rn_sg mX5_nextMeans 3 := ⟨by decide +kernel, ⟨by decide +kernel, by decide +kernel⟩, by decide +kernel⟩
theorem kl_SG_163 : rn_LV "SealedGateway" 163 mX5_nextMeans 3 := ⟨sg_X5_nextMeans, rfl, wd_225, wd_4, wd_489, wd_223, wd_224⟩
abbrev mX5_isFull : rn_M := (yX5_isFull, cX5_isFull, 1, (some .boolean), [])
theorem kg_SG_Policies_22 : rn_F "SealedGateway$Policies" 22 5 1 := ⟨RX5, TX5, 5, rfl, wu_5, by decide, wd_72⟩
abbrev mX6_init : rn_M := (yX6_init, cX6_init, 8, none, [])
theorem wu_6 : ∀ w ∈ u_ws RX6 TX6 7, w ∈ rn_T := fun w h => by
  have h1 := List.all_eq_true.mp (show ((u_ws RX6 TX6 7).all (fun w => decide (w ∈ lw_tbl) && goodWord w)) = true by decide +kernel) w h
  simp only [Bool.and_eq_true, decide_eq_true_eq] at h1
  exact List.mem_filter.mpr h1
theorem kp_SG_Policy_9 : rn_FP "SealedGateway$Policy" "<init>" 9 6 0 (tyX6 0) := ⟨RX6, TX6, 7, tyX6, rfl, wu_6, tyX6_ok, nmX6, by decide, wd_512, Or.inr ⟨rfl, rfl, rfl⟩, tyX6_ok 0 (by decide)⟩
theorem kp_SG_Policy_15 : rn_FP "SealedGateway$Policy" "<init>" 15 6 1 (tyX6 1) := ⟨RX6, TX6, 7, tyX6, rfl, wu_6, tyX6_ok, nmX6, by decide, wd_513, Or.inr ⟨rfl, rfl, rfl⟩, tyX6_ok 1 (by decide)⟩
theorem kp_SG_Policy_19 : rn_FP "SealedGateway$Policy" "<init>" 19 6 2 (tyX6 2) := ⟨RX6, TX6, 7, tyX6, rfl, wu_6, tyX6_ok, nmX6, by decide, wd_514, Or.inr ⟨rfl, rfl, rfl⟩, tyX6_ok 2 (by decide)⟩
theorem kp_SG_Policy_22 : rn_FP "SealedGateway$Policy" "<init>" 22 6 3 (tyX6 3) := ⟨RX6, TX6, 7, tyX6, rfl, wu_6, tyX6_ok, nmX6, by decide, wd_515, Or.inr ⟨rfl, rfl, rfl⟩, tyX6_ok 3 (by decide)⟩
theorem kp_SG_Policy_25 : rn_FP "SealedGateway$Policy" "<init>" 25 6 4 (tyX6 4) := ⟨RX6, TX6, 7, tyX6, rfl, wu_6, tyX6_ok, nmX6, by decide, wd_516, Or.inr ⟨rfl, rfl, rfl⟩, tyX6_ok 4 (by decide)⟩
theorem kp_SG_Policy_28 : rn_FP "SealedGateway$Policy" "<init>" 28 6 5 (tyX6 5) := ⟨RX6, TX6, 7, tyX6, rfl, wu_6, tyX6_ok, nmX6, by decide, wd_517, Or.inr ⟨rfl, rfl, rfl⟩, tyX6_ok 5 (by decide)⟩
theorem kp_SG_Policy_31 : rn_FP "SealedGateway$Policy" "<init>" 31 6 6 (tyX6 6) := ⟨RX6, TX6, 7, tyX6, rfl, wu_6, tyX6_ok, nmX6, by decide, wd_518, Or.inr ⟨rfl, rfl, rfl⟩, tyX6_ok 6 (by decide)⟩
abbrev mX5_append : rn_M := (yX5_append, cX5_append, 5, (some .int), [])
theorem kg_SG_Policies_13 : rn_F "SealedGateway$Policies" 13 5 0 := ⟨RX5, TX5, 5, rfl, wu_5, by decide, wd_71⟩
abbrev fs0_6 : List Value := [.int 0, .null, .null, .int 0, .int 0, .int 0, .int 0]
theorem kn_SG_Policies_11 : rn_N "SealedGateway$Policies" 11 6 fs0_6 := ⟨RX6, TX6, 7, tyX6, rfl, wu_6, tyX6_ok, wd_68, wd_507, wd_16, by decide +kernel, rfl⟩
theorem kg_SG_Policies_25 : rn_F "SealedGateway$Policies" 25 5 2 := ⟨RX5, TX5, 5, rfl, wu_5, by decide, wd_73⟩
theorem kg_SG_Policies_28 : rn_F "SealedGateway$Policies" 28 5 3 := ⟨RX5, TX5, 5, rfl, wu_5, by decide, wd_74⟩
theorem kg_SG_Policies_18 : rn_F "SealedGateway$Policies" 18 5 4 := ⟨RX5, TX5, 5, rfl, wu_5, by decide, wd_75⟩
theorem sg_X6_init : rn_sg mX6_init 7 := ⟨by decide +kernel, ⟨by decide +kernel, by decide +kernel⟩, by decide +kernel⟩
theorem kl_SG_Policies_31 : rn_LI "SealedGateway$Policies" 31 mX6_init 7 := ⟨sg_X6_init, rfl, wd_510, wd_16, wd_508, wd_509, rfl, rfl⟩
theorem kp_SG_Policies_22 (mn : String) : rn_FP "SealedGateway$Policies" mn 22 5 1 (tyX5 1) := ⟨RX5, TX5, 5, tyX5, rfl, wu_5, tyX5_ok, nmX5, by decide, wd_72, Or.inl rfl, tyX5_ok 1 (by decide)⟩
theorem kl_SG_Policies_34 : rn_LV "SealedGateway$Policies" 34 mX5_nextMeans 3 := ⟨sg_X5_nextMeans, rfl, wd_225, wd_4, wd_222, wd_223, wd_224⟩
abbrev mX9_policy : rn_M := (yX9_policy, cX9_policy, 7, (some .int), [])
theorem kt_SG_95_167 : rn_LT "SealedGateway" 95 167 99 "java/lang/IllegalArgumentException" := ⟨by decide +kernel, wd_339, wd_13, at_SG_99, 10, "no such policy", rfl⟩
theorem sg_X5_isFull : rn_sg mX5_isFull 0 := ⟨by decide +kernel, ⟨by decide +kernel, by decide +kernel⟩, by decide +kernel⟩
theorem kl_SG_169 : rn_LV "SealedGateway" 169 mX5_isFull 0 := ⟨sg_X5_isFull, rfl, wd_501, wd_4, wd_498, wd_499, wd_500⟩
theorem sg_X5_append : rn_sg mX5_append 4 := ⟨by decide +kernel, ⟨by decide +kernel, by decide +kernel⟩, by decide +kernel⟩
theorem kl_SG_172 : rn_LV "SealedGateway" 172 mX5_append 4 := ⟨sg_X5_append, rfl, wd_506, wd_4, wd_503, wd_504, wd_505⟩
abbrev mX9_sealNamed : rn_M := (yX9_sealNamed, cX9_sealNamed, 4, (some (.object "SealedGateway$Seal")), [])
theorem kg_SG_178 : rn_F "SealedGateway" 178 9 11 := ⟨RX9, TX9, 16, rfl, wu_9, by decide, wd_128⟩
abbrev mX8_init : rn_M := (yX8_init, cX8_init, 10, none, [])
theorem wu_8 : ∀ w ∈ u_ws RX8 TX8 10, w ∈ rn_T := fun w h => by
  have h1 := List.all_eq_true.mp (show ((u_ws RX8 TX8 10).all (fun w => decide (w ∈ lw_tbl) && goodWord w)) = true by decide +kernel) w h
  simp only [Bool.and_eq_true, decide_eq_true_eq] at h1
  exact List.mem_filter.mpr h1
theorem kp_SG_Seal_11 : rn_FP "SealedGateway$Seal" "<init>" 11 8 0 (tyX8 0) := ⟨RX8, TX8, 10, tyX8, rfl, wu_8, tyX8_ok, nmX8, by decide, wd_561, Or.inr ⟨rfl, rfl, rfl⟩, tyX8_ok 0 (by decide)⟩
theorem kp_SG_Seal_15 : rn_FP "SealedGateway$Seal" "<init>" 15 8 1 (tyX8 1) := ⟨RX8, TX8, 10, tyX8, rfl, wu_8, tyX8_ok, nmX8, by decide, wd_562, Or.inr ⟨rfl, rfl, rfl⟩, tyX8_ok 1 (by decide)⟩
theorem kp_SG_Seal_18 : rn_FP "SealedGateway$Seal" "<init>" 18 8 2 (tyX8 2) := ⟨RX8, TX8, 10, tyX8, rfl, wu_8, tyX8_ok, nmX8, by decide, wd_563, Or.inr ⟨rfl, rfl, rfl⟩, tyX8_ok 2 (by decide)⟩
theorem kp_SG_Seal_21 : rn_FP "SealedGateway$Seal" "<init>" 21 8 3 (tyX8 3) := ⟨RX8, TX8, 10, tyX8, rfl, wu_8, tyX8_ok, nmX8, by decide, wd_564, Or.inr ⟨rfl, rfl, rfl⟩, tyX8_ok 3 (by decide)⟩
theorem kp_SG_Seal_25 : rn_FP "SealedGateway$Seal" "<init>" 25 8 4 (tyX8 4) := ⟨RX8, TX8, 10, tyX8, rfl, wu_8, tyX8_ok, nmX8, by decide, wd_565, Or.inr ⟨rfl, rfl, rfl⟩, tyX8_ok 4 (by decide)⟩
theorem kp_SG_Seal_28 : rn_FP "SealedGateway$Seal" "<init>" 28 8 5 (tyX8 5) := ⟨RX8, TX8, 10, tyX8, rfl, wu_8, tyX8_ok, nmX8, by decide, wd_566, Or.inr ⟨rfl, rfl, rfl⟩, tyX8_ok 5 (by decide)⟩
theorem kp_SG_Seal_32 (mn : String) : rn_FP "SealedGateway$Seal" mn 32 8 6 (tyX8 6) := ⟨RX8, TX8, 10, tyX8, rfl, wu_8, tyX8_ok, nmX8, by decide, wd_567, Or.inl rfl, tyX8_ok 6 (by decide)⟩
abbrev mX9_seal : rn_M := (yX9_seal, cX9_seal, 10, (some .int), [])
theorem kt_SG_95_176 : rn_LT "SealedGateway" 95 176 99 "java/lang/IllegalArgumentException" := ⟨by decide +kernel, wd_339, wd_13, at_SG_99, 12, "no such way, name or life", rfl⟩
theorem sg_X9_sealNamed : rn_sg mX9_sealNamed 1 := ⟨by decide +kernel, ⟨by decide +kernel, by decide +kernel⟩, by decide +kernel⟩
theorem kl_SG_181 : rn_LV "SealedGateway" 181 mX9_sealNamed 1 := ⟨sg_X9_sealNamed, rfl, wd_546, wd_1, wd_543, wd_545, (rn_ws (i := 4) (by decide +kernel) (by decide +kernel))⟩
theorem kg_SG_52 : rn_F "SealedGateway" 52 9 10 := ⟨RX9, TX9, 16, rfl, wu_9, by decide, wd_127⟩
abbrev fs0_8 : List Value := [.int 0, .int 0, .int 0, .long 0, .long 0, .int 0, .int 0, .int 0, .long 0, .long 0]
theorem kn_SG_50 : rn_N "SealedGateway" 50 8 fs0_8 := ⟨RX8, TX8, 10, tyX8, rfl, wu_8, tyX8_ok, wd_87, wd_556, wd_17, by decide +kernel, rfl⟩
theorem sg_X8_init : rn_sg mX8_init 7 := ⟨by decide +kernel, ⟨by decide +kernel, by decide +kernel⟩, by decide +kernel⟩
theorem kl_SG_187 : rn_LI "SealedGateway" 187 mX8_init 7 := ⟨sg_X8_init, rfl, wd_559, wd_17, wd_557, wd_558, rfl, rfl⟩
theorem kp_SG_178 (mn : String) : rn_FP "SealedGateway" mn 178 9 11 (tyX9 11) := ⟨RX9, TX9, 16, tyX9, rfl, wu_9, tyX9_ok, nmX9, by decide, wd_128, Or.inl rfl, tyX9_ok 11 (by decide)⟩
abbrev mX9_sealAt : rn_M := (yX9_sealAt, cX9_sealAt, 3, (some (.object "SealedGateway$Seal")), [])
theorem kt_SG_114_422 : rn_LT "SealedGateway" 114 422 118 "java/lang/IndexOutOfBoundsException" := ⟨by decide +kernel, wd_367, wd_14, at_SG_118, 14, "no such seal", rfl⟩
abbrev mX9_stop : rn_M := (yX9_stop, cX9_stop, 4, (some .boolean), [])
theorem sg_X9_sealAt : rn_sg mX9_sealAt 1 := ⟨by decide +kernel, ⟨by decide +kernel, by decide +kernel⟩, by decide +kernel⟩
theorem kl_SG_190 : rn_LV "SealedGateway" 190 mX9_sealAt 1 := ⟨sg_X9_sealAt, rfl, wd_602, wd_1, wd_599, wd_601, (rn_ws (i := 5) (by decide +kernel) (by decide +kernel))⟩
abbrev mX9_top : rn_M := (yX9_top, cX9_top, 2, (some .long), [])
abbrev mX9_seen : rn_M := (yX9_seen, cX9_seen, 2, (some .long), [])
abbrev mX9_count : rn_M := (yX9_count, cX9_count, 7, (some .long), [])
abbrev mX9_told : rn_M := (yX9_told, cX9_told, 4, (some .int), [])
abbrev mX9_throughInner : rn_M := (yX9_throughInner, cX9_throughInner, 2, (some .int), [])
theorem kg_SG_16 : rn_F "SealedGateway" 16 9 2 := ⟨RX9, TX9, 16, rfl, wu_9, by decide, wd_119⟩
theorem sg_X4_isBroken : rn_sg mX4_isBroken 0 := ⟨by decide +kernel, ⟨by decide +kernel, by decide +kernel⟩, by decide +kernel⟩
theorem kl_SG_226 : rn_LV "SealedGateway" 226 mX4_isBroken 0 := ⟨sg_X4_isBroken, rfl, wd_661, wd_2, wd_658, wd_659, wd_660⟩
abbrev mX9_throughOuter : rn_M := (yX9_throughOuter, cX9_throughOuter, 5, (some .int), [])
abbrev mX9_come : rn_M := (yX9_come, cX9_come, 3, (some .int), [])
theorem sg_X4_copy : rn_sg mX4_copy 1 := ⟨by decide +kernel, ⟨by decide +kernel, by decide +kernel⟩, by decide +kernel⟩
theorem kl_SG_214 : rn_LV "SealedGateway" 214 mX4_copy 1 := ⟨sg_X4_copy, rfl, wd_645, wd_2, wd_642, wd_643, wd_644⟩
theorem sg_X9_throughOuter : rn_sg mX9_throughOuter 0 := ⟨by decide +kernel, ⟨by decide +kernel, by decide +kernel⟩, by decide +kernel⟩
theorem kl_SG_221 : rn_LV "SealedGateway" 221 mX9_throughOuter 0 := ⟨sg_X9_throughOuter, rfl, wd_811, wd_1, wd_808, wd_810, (rn_ws (i := 15) (by decide +kernel) (by decide +kernel))⟩
theorem kg_SG_70 : rn_F "SealedGateway" 70 9 15 := ⟨RX9, TX9, 16, rfl, wu_9, by decide, wd_132⟩
theorem sg_X9_throughInner : rn_sg mX9_throughInner 0 := ⟨by decide +kernel, ⟨by decide +kernel, by decide +kernel⟩, by decide +kernel⟩
theorem kl_SG_218 : rn_LV "SealedGateway" 218 mX9_throughInner 0 := ⟨sg_X9_throughInner, rfl, wd_657, wd_1, wd_654, wd_656, (rn_ws (i := 6) (by decide +kernel) (by decide +kernel))⟩
theorem kt_SG_95_212 : rn_LT "SealedGateway" 95 212 99 "java/lang/IllegalArgumentException" := ⟨by decide +kernel, wd_339, wd_13, at_SG_99, 16, "no such port", rfl⟩
abbrev mX9_meaning : rn_M := (yX9_meaning, cX9_meaning, 2, (some .int), [])
theorem kt_SG_95_224 : rn_LT "SealedGateway" 95 224 99 "java/lang/IllegalArgumentException" := ⟨by decide +kernel, wd_339, wd_13, at_SG_99, 17, "no such way", rfl⟩
abbrev mX7_portOf : rn_M := (yX7_portOf, cX7_portOf, 6, (some .int), [])
abbrev mX9_routed : rn_M := (yX9_routed, cX9_routed, 2, (some .int), [])
theorem sg_X7_portOf : rn_sg mX7_portOf 1 := ⟨by decide +kernel, ⟨by decide +kernel, by decide +kernel⟩, by decide +kernel⟩
theorem kl_SG_236 : rn_LV "SealedGateway" 236 mX7_portOf 1 := ⟨sg_X7_portOf, rfl, wd_173, wd_3, wd_170, wd_171, wd_172⟩
abbrev mX9_sentPacket : rn_M := (yX9_sentPacket, cX9_sentPacket, 2, (some (.object "SealedGateway$Packet")), [])
theorem kg_SG_22 : rn_F "SealedGateway" 22 9 4 := ⟨RX9, TX9, 16, rfl, wu_9, by decide, wd_121⟩
theorem kg_SG_25 : rn_F "SealedGateway" 25 9 5 := ⟨RX9, TX9, 16, rfl, wu_9, by decide, wd_122⟩
theorem kt_SG_114_122 : rn_LT "SealedGateway" 114 122 118 "java/lang/IndexOutOfBoundsException" := ⟨by decide +kernel, wd_367, wd_14, at_SG_118, 4, "no such packet", rfl⟩
abbrev mX9_sent : rn_M := (yX9_sent, cX9_sent, 4, (some .int), [])
theorem sg_X9_sentPacket : rn_sg mX9_sentPacket 1 := ⟨by decide +kernel, ⟨by decide +kernel, by decide +kernel⟩, by decide +kernel⟩
theorem kl_SG_239 : rn_LV "SealedGateway" 239 mX9_sentPacket 1 := ⟨sg_X9_sentPacket, rfl, wd_1016, wd_1, wd_1013, wd_1015, (rn_ws (i := 21) (by decide +kernel) (by decide +kernel))⟩
theorem i32_m2 : (-2 : Int32).toInt = -2 := by decide
theorem i32_m1 : (-1 : Int32).toInt = -1 := by decide
abbrev mX9_take : rn_M := (yX9_take, cX9_take, 3, (some .int), [])
theorem kt_SG_80_243 : rn_LT "SealedGateway" 80 243 84 "java/lang/IllegalStateException" := ⟨by decide +kernel, wd_252, wd_11, at_SG_84, 18, "no such packet was sent", rfl⟩
abbrev mX1_hearTick : rn_M := (yX1_hearTick, cX1_hearTick, 4, (some .int), [])
theorem wu_1 : ∀ w ∈ u_ws RX1 TX1 2, w ∈ rn_T := fun w h => by
  have h1 := List.all_eq_true.mp (show ((u_ws RX1 TX1 2).all (fun w => decide (w ∈ lw_tbl) && goodWord w)) = true by decide +kernel) w h
  simp only [Bool.and_eq_true, decide_eq_true_eq] at h1
  exact List.mem_filter.mpr h1
theorem kg_SG_Heaps_17 : rn_F "SealedGateway$Heaps" 17 1 1 := ⟨RX1, TX1, 2, rfl, wu_1, by decide, wd_98⟩
theorem kl_SG_Heaps_21 : rn_mm "SealedGateway$Heaps" 21 Lib.Math.min.name Lib.Math.min.code := ⟨wd_190, wd_191, wd_12, wd_192⟩
abbrev mX9_tick : rn_M := (yX9_tick, cX9_tick, 1, (some .int), [])
theorem kg_SG_59 : rn_F "SealedGateway" 59 9 13 := ⟨RX9, TX9, 16, rfl, wu_9, by decide, wd_130⟩
theorem sg_X1_hearTick : rn_sg mX1_hearTick 0 := ⟨by decide +kernel, ⟨by decide +kernel, by decide +kernel⟩, by decide +kernel⟩
theorem kl_SG_265 : rn_LV "SealedGateway" 265 mX1_hearTick 0 := ⟨sg_X1_hearTick, rfl, wd_189, wd_5, wd_186, wd_187, wd_188⟩
abbrev mX2_size : rn_M := (yX2_size, cX2_size, 1, (some .int), [])
theorem wu_2 : ∀ w ∈ u_ws RX2 TX2 2, w ∈ rn_T := fun w h => by
  have h1 := List.all_eq_true.mp (show ((u_ws RX2 TX2 2).all (fun w => decide (w ∈ lw_tbl) && goodWord w)) = true by decide +kernel) w h
  simp only [Bool.and_eq_true, decide_eq_true_eq] at h1
  exact List.mem_filter.mpr h1
theorem kg_SG_Log_13 : rn_F "SealedGateway$Log" 13 2 1 := ⟨RX2, TX2, 2, rfl, wu_2, by decide, wd_111⟩
abbrev mX9_log : rn_M := (yX9_log, cX9_log, 3, (some .int), [])
theorem kt_SG_114_269 : rn_LT "SealedGateway" 114 269 118 "java/lang/IndexOutOfBoundsException" := ⟨by decide +kernel, wd_367, wd_14, at_SG_118, 20, "nothing such is in the log", rfl⟩
theorem kg_SG_66 : rn_F "SealedGateway" 66 9 14 := ⟨RX9, TX9, 16, rfl, wu_9, by decide, wd_131⟩
theorem sg_X2_size : rn_sg mX2_size 0 := ⟨by decide +kernel, ⟨by decide +kernel, by decide +kernel⟩, by decide +kernel⟩
theorem kl_SG_268 : rn_LV "SealedGateway" 268 mX2_size 0 := ⟨sg_X2_size, rfl, wd_1069, wd_6, wd_1066, wd_1067, wd_1068⟩
abbrev mX1_size : rn_M := (yX1_size, cX1_size, 1, (some .int), [])
abbrev mX9_ended : rn_M := (yX9_ended, cX9_ended, 2, (some .int), [])
theorem i32_18 : (18 : Int32).toInt = 18 := by decide
theorem kt_SG_114_279 : rn_LT "SealedGateway" 114 279 118 "java/lang/IndexOutOfBoundsException" := ⟨by decide +kernel, wd_367, wd_14, at_SG_118, 21, "no such reason", rfl⟩
theorem kg_SG_275 : rn_F "SealedGateway" 275 9 12 := ⟨RX9, TX9, 16, rfl, wu_9, by decide, wd_129⟩
theorem sg_X1_size : rn_sg mX1_size 0 := ⟨by decide +kernel, ⟨by decide +kernel, by decide +kernel⟩, by decide +kernel⟩
theorem kl_SG_278 : rn_LV "SealedGateway" 278 mX1_size 0 := ⟨sg_X1_size, rfl, wd_1085, wd_5, wd_1082, wd_1083, wd_1084⟩
theorem i32_19 : (19 : Int32).toInt = 19 := by decide
abbrev mX7_empty : rn_M := (yX7_empty, cX7_empty, 1, none, [])
abbrev mX5_empty : rn_M := (yX5_empty, cX5_empty, 1, none, [])
abbrev mX1_empty : rn_M := (yX1_empty, cX1_empty, 1, none, [])
theorem kp_SG_Heaps_17 (mn : String) : rn_FP "SealedGateway$Heaps" mn 17 1 1 (tyX1 1) := ⟨RX1, TX1, 2, tyX1, rfl, wu_1, tyX1_ok, nmX1, by decide, wd_98, Or.inl rfl, tyX1_ok 1 (by decide)⟩
abbrev mX2_empty : rn_M := (yX2_empty, cX2_empty, 1, none, [])
theorem kp_SG_Log_13 (mn : String) : rn_FP "SealedGateway$Log" mn 13 2 1 (tyX2 1) := ⟨RX2, TX2, 2, tyX2, rfl, wu_2, tyX2_ok, nmX2, by decide, wd_111, Or.inl rfl, tyX2_ok 1 (by decide)⟩
abbrev mJ7_fill_53178 : rn_M := (yJ7_fill_53178, cJ7_fill_53178, 4, none, [])
abbrev mX9_clear : rn_M := (yX9_clear, cX9_clear, 1, none, [])
theorem kp_SG_28 (mn : String) : rn_FP "SealedGateway" mn 28 9 6 (tyX9 6) := ⟨RX9, TX9, 16, tyX9, rfl, wu_9, tyX9_ok, nmX9, by decide, wd_123, Or.inl rfl, tyX9_ok 6 (by decide)⟩
theorem sg_X7_empty : rn_sg mX7_empty 0 := ⟨by decide +kernel, ⟨by decide +kernel, by decide +kernel⟩, by decide +kernel⟩
theorem kl_SG_281 : rn_LV "SealedGateway" 281 mX7_empty 0 := ⟨sg_X7_empty, rfl, wd_217, wd_3, wd_214, wd_215, wd_216⟩
theorem sg_X5_empty : rn_sg mX5_empty 0 := ⟨by decide +kernel, ⟨by decide +kernel, by decide +kernel⟩, by decide +kernel⟩
theorem kl_SG_284 : rn_LV "SealedGateway" 284 mX5_empty 0 := ⟨sg_X5_empty, rfl, wd_221, wd_4, wd_218, wd_219, wd_220⟩
theorem sg_J7_fill_53178 : rn_sg mJ7_fill_53178 2 := ⟨by decide +kernel, ⟨by decide +kernel, by decide +kernel⟩, by decide +kernel⟩
theorem kl_SG_285 : rn_LS "SealedGateway" 285 mJ7_fill_53178 2 := ⟨sg_J7_fill_53178, rfl, wd_228, wd_20, wd_226, wd_227⟩
theorem kp_SG_275 (mn : String) : rn_FP "SealedGateway" mn 275 9 12 (tyX9 12) := ⟨RX9, TX9, 16, tyX9, rfl, wu_9, tyX9_ok, nmX9, by decide, wd_129, Or.inl rfl, tyX9_ok 12 (by decide)⟩
theorem sg_X1_empty : rn_sg mX1_empty 0 := ⟨by decide +kernel, ⟨by decide +kernel, by decide +kernel⟩, by decide +kernel⟩
theorem kl_SG_291 : rn_LV "SealedGateway" 291 mX1_empty 0 := ⟨sg_X1_empty, rfl, wd_232, wd_5, wd_229, wd_230, wd_231⟩
theorem sg_X2_empty : rn_sg mX2_empty 0 := ⟨by decide +kernel, ⟨by decide +kernel, by decide +kernel⟩, by decide +kernel⟩
theorem kl_SG_292 : rn_LV "SealedGateway" 292 mX2_empty 0 := ⟨sg_X2_empty, rfl, wd_236, wd_6, wd_233, wd_234, wd_235⟩
abbrev mX10_in : rn_M := (yX10_in, cX10_in, 3, (some .boolean), [])
abbrev mX10_refuses : rn_M := (yX10_refuses, cX10_refuses, 3, (some .boolean), [])
theorem wu_10 : ∀ w ∈ u_ws RX10 TX10 54, w ∈ rn_T := fun w h => by
  have h1 := List.all_eq_true.mp (show ((u_ws RX10 TX10 54).all (fun w => decide (w ∈ lw_tbl) && goodWord w)) = true by decide +kernel) w h
  simp only [Bool.and_eq_true, decide_eq_true_eq] at h1
  exact List.mem_filter.mpr h1
theorem kg_SGModel_137 : rn_F "SealedGatewayModel" 137 10 0 := ⟨RX10, TX10, 54, rfl, wu_10, by decide, wd_1094⟩
theorem kp_SGModel_137 (mn : String) : rn_FP "SealedGatewayModel" mn 137 10 0 (tyX10 0) := ⟨RX10, TX10, 54, tyX10, rfl, wu_10, tyX10_ok, nmX10, by decide, wd_1094, Or.inl rfl, tyX10_ok 0 (by decide)⟩
abbrev mX10_thrown : rn_M := (yX10_thrown, cX10_thrown, 1, (some .int), [])
abbrev mX10_putTwo : rn_M := (yX10_putTwo, cX10_putTwo, 3, none, [])
theorem kg_SGModel_7 : rn_F "SealedGatewayModel" 7 10 2 := ⟨RX10, TX10, 54, rfl, wu_10, by decide, wd_1096⟩
theorem i32_21990 : (21990 : Int32).toInt = 21990 := by decide
abbrev mX10_putFour : rn_M := (yX10_putFour, cX10_putFour, 3, none, [])
theorem sg_X10_putTwo : rn_sg mX10_putTwo 2 := ⟨by decide +kernel, ⟨by decide +kernel, by decide +kernel⟩, by decide +kernel⟩
theorem kl_SGModel_144 : rn_LV "SealedGatewayModel" 144 mX10_putTwo 2 := ⟨sg_X10_putTwo, rfl, wd_1281, wd_7, wd_1278, wd_1280, (rn_ws (i := 25) (by decide +kernel) (by decide +kernel))⟩
theorem i32_21980 : (21980 : Int32).toInt = 21980 := by decide
abbrev mX10_putEight : rn_M := (yX10_putEight, cX10_putEight, 4, none, [])
theorem sg_X10_putFour : rn_sg mX10_putFour 2 := ⟨by decide +kernel, ⟨by decide +kernel, by decide +kernel⟩, by decide +kernel⟩
theorem kl_SGModel_148 : rn_LV "SealedGatewayModel" 148 mX10_putFour 2 := ⟨sg_X10_putFour, rfl, wd_1277, wd_7, wd_1274, wd_1276, (rn_ws (i := 24) (by decide +kernel) (by decide +kernel))⟩
theorem i32_21970 : (21970 : Int32).toInt = 21970 := by decide
abbrev mX10_isBroken : rn_M := (yX10_isBroken, cX10_isBroken, 3, (some .boolean), [])
abbrev mX10_ends : rn_M := (yX10_ends, cX10_ends, 2, (some .int), [])
theorem kg_SGModel_116 : rn_F "SealedGatewayModel" 116 10 44 := ⟨RX10, TX10, 54, rfl, wu_10, by decide, wd_1138⟩
abbrev mX10_sealNamed : rn_M := (yX10_sealNamed, cX10_sealNamed, 3, (some .int), [])
theorem kg_SGModel_200 : rn_F "SealedGatewayModel" 200 10 22 := ⟨RX10, TX10, 54, rfl, wu_10, by decide, wd_1116⟩
abbrev mX10_routeOf : rn_M := (yX10_routeOf, cX10_routeOf, 4, (some .int), [])
theorem kg_SGModel_188 : rn_F "SealedGatewayModel" 188 10 4 := ⟨RX10, TX10, 54, rfl, wu_10, by decide, wd_1098⟩
abbrev mX10_type : rn_M := (yX10_type, cX10_type, 3, (some .int), [])
theorem kg_SGModel_168 : rn_F "SealedGatewayModel" 168 10 3 := ⟨RX10, TX10, 54, rfl, wu_10, by decide, wd_1097⟩
theorem sg_X10_refuses : rn_sg mX10_refuses 2 := ⟨by decide +kernel, ⟨by decide +kernel, by decide +kernel⟩, by decide +kernel⟩
theorem kl_SGModel_171 : rn_LV "SealedGatewayModel" 171 mX10_refuses 2 := ⟨sg_X10_refuses, rfl, wd_1269, wd_7, wd_1266, wd_1268, (rn_ws (i := 22) (by decide +kernel) (by decide +kernel))⟩
theorem sg_X10_putEight : rn_sg mX10_putEight 2 := ⟨by decide +kernel, ⟨by decide +kernel, by decide +kernel⟩, by decide +kernel⟩
theorem kl_SGModel_175 : rn_LV "SealedGatewayModel" 175 mX10_putEight 2 := ⟨sg_X10_putEight, rfl, wd_1273, wd_7, wd_1270, wd_1272, (rn_ws (i := 23) (by decide +kernel) (by decide +kernel))⟩
theorem kp_SGModel_168 (mn : String) : rn_FP "SealedGatewayModel" mn 168 10 3 (tyX10 3) := ⟨RX10, TX10, 54, tyX10, rfl, wu_10, tyX10_ok, nmX10, by decide, wd_1097, Or.inl rfl, tyX10_ok 3 (by decide)⟩
abbrev mX10_keep : rn_M := (yX10_keep, cX10_keep, 2, none, [])
theorem sg_X10_in : rn_sg mX10_in 3 := ⟨by decide +kernel, ⟨by decide +kernel, by decide +kernel⟩, by decide +kernel⟩
theorem kl_SGModel_179 : rn_LS "SealedGatewayModel" 179 mX10_in 3 := ⟨sg_X10_in, rfl, wd_1288, wd_7, wd_1286, wd_1287⟩
abbrev mX10_poke : rn_M := (yX10_poke, cX10_poke, 4, (some .int), [])
abbrev mX10_at : rn_M := (yX10_at, cX10_at, 2, (some .int), [])
abbrev mX10_sum : rn_M := (yX10_sum, cX10_sum, 1, (some .int), [])
abbrev mX10_route : rn_M := (yX10_route, cX10_route, 4, (some .int), [])
theorem kg_SGModel_13 : rn_F "SealedGatewayModel" 13 10 5 := ⟨RX10, TX10, 54, rfl, wu_10, by decide, wd_1099⟩
theorem kg_SGModel_16 : rn_F "SealedGatewayModel" 16 10 6 := ⟨RX10, TX10, 54, rfl, wu_10, by decide, wd_1100⟩
theorem kg_SGModel_19 : rn_F "SealedGatewayModel" 19 10 7 := ⟨RX10, TX10, 54, rfl, wu_10, by decide, wd_1101⟩
theorem kp_SGModel_188 (mn : String) : rn_FP "SealedGatewayModel" mn 188 10 4 (tyX10 4) := ⟨RX10, TX10, 54, tyX10, rfl, wu_10, tyX10_ok, nmX10, by decide, wd_1098, Or.inl rfl, tyX10_ok 4 (by decide)⟩
abbrev mX10_peer : rn_M := (yX10_peer, cX10_peer, 4, (some .int), [])
theorem kg_SGModel_22 : rn_F "SealedGatewayModel" 22 10 8 := ⟨RX10, TX10, 54, rfl, wu_10, by decide, wd_1102⟩
theorem i32_3 : (3 : Int32).toInt = 3 := by decide
abbrev mX10_meant : rn_M := (yX10_meant, cX10_meant, 4, none, [])
theorem kp_SGModel_191 (mn : String) : rn_FP "SealedGatewayModel" mn 191 10 19 (tyX10 19) := ⟨RX10, TX10, 54, tyX10, rfl, wu_10, tyX10_ok, nmX10, by decide, wd_1113, Or.inl rfl, tyX10_ok 19 (by decide)⟩
theorem kp_SGModel_194 (mn : String) : rn_FP "SealedGatewayModel" mn 194 10 20 (tyX10 20) := ⟨RX10, TX10, 54, tyX10, rfl, wu_10, tyX10_ok, nmX10, by decide, wd_1114, Or.inl rfl, tyX10_ok 20 (by decide)⟩
theorem kp_SGModel_53 (mn : String) : rn_FP "SealedGatewayModel" mn 53 10 21 (tyX10 21) := ⟨RX10, TX10, 54, tyX10, rfl, wu_10, tyX10_ok, nmX10, by decide, wd_1115, Or.inl rfl, tyX10_ok 21 (by decide)⟩
abbrev mX10_policy : rn_M := (yX10_policy, cX10_policy, 8, (some .int), [])
theorem kg_SGModel_197 : rn_F "SealedGatewayModel" 197 10 9 := ⟨RX10, TX10, 54, rfl, wu_10, by decide, wd_1103⟩
theorem kg_SGModel_25 : rn_F "SealedGatewayModel" 25 10 10 := ⟨RX10, TX10, 54, rfl, wu_10, by decide, wd_1104⟩
theorem kg_SGModel_28 : rn_F "SealedGatewayModel" 28 10 11 := ⟨RX10, TX10, 54, rfl, wu_10, by decide, wd_1105⟩
theorem kg_SGModel_31 : rn_F "SealedGatewayModel" 31 10 12 := ⟨RX10, TX10, 54, rfl, wu_10, by decide, wd_1106⟩
theorem kg_SGModel_34 : rn_F "SealedGatewayModel" 34 10 13 := ⟨RX10, TX10, 54, rfl, wu_10, by decide, wd_1107⟩
theorem kg_SGModel_37 : rn_F "SealedGatewayModel" 37 10 14 := ⟨RX10, TX10, 54, rfl, wu_10, by decide, wd_1108⟩
theorem kg_SGModel_49 : rn_F "SealedGatewayModel" 49 10 18 := ⟨RX10, TX10, 54, rfl, wu_10, by decide, wd_1112⟩
theorem kg_SGModel_40 : rn_F "SealedGatewayModel" 40 10 15 := ⟨RX10, TX10, 54, rfl, wu_10, by decide, wd_1109⟩
theorem kg_SGModel_191 : rn_F "SealedGatewayModel" 191 10 19 := ⟨RX10, TX10, 54, rfl, wu_10, by decide, wd_1113⟩
theorem kg_SGModel_43 : rn_F "SealedGatewayModel" 43 10 16 := ⟨RX10, TX10, 54, rfl, wu_10, by decide, wd_1110⟩
theorem kg_SGModel_194 : rn_F "SealedGatewayModel" 194 10 20 := ⟨RX10, TX10, 54, rfl, wu_10, by decide, wd_1114⟩
theorem kg_SGModel_46 : rn_F "SealedGatewayModel" 46 10 17 := ⟨RX10, TX10, 54, rfl, wu_10, by decide, wd_1111⟩
theorem kg_SGModel_53 : rn_F "SealedGatewayModel" 53 10 21 := ⟨RX10, TX10, 54, rfl, wu_10, by decide, wd_1115⟩
theorem kp_SGModel_197 (mn : String) : rn_FP "SealedGatewayModel" mn 197 10 9 (tyX10 9) := ⟨RX10, TX10, 54, tyX10, rfl, wu_10, tyX10_ok, nmX10, by decide, wd_1103, Or.inl rfl, tyX10_ok 9 (by decide)⟩
abbrev mX10_seal : rn_M := (yX10_seal, cX10_seal, 11, (some .int), [])
theorem kg_SGModel_57 : rn_F "SealedGatewayModel" 57 10 23 := ⟨RX10, TX10, 54, rfl, wu_10, by decide, wd_1117⟩
theorem kg_SGModel_60 : rn_F "SealedGatewayModel" 60 10 24 := ⟨RX10, TX10, 54, rfl, wu_10, by decide, wd_1118⟩
theorem kg_SGModel_63 : rn_F "SealedGatewayModel" 63 10 25 := ⟨RX10, TX10, 54, rfl, wu_10, by decide, wd_1119⟩
theorem kg_SGModel_66 : rn_F "SealedGatewayModel" 66 10 26 := ⟨RX10, TX10, 54, rfl, wu_10, by decide, wd_1120⟩
theorem kg_SGModel_70 : rn_F "SealedGatewayModel" 70 10 27 := ⟨RX10, TX10, 54, rfl, wu_10, by decide, wd_1121⟩
theorem kg_SGModel_73 : rn_F "SealedGatewayModel" 73 10 28 := ⟨RX10, TX10, 54, rfl, wu_10, by decide, wd_1122⟩
theorem kg_SGModel_77 : rn_F "SealedGatewayModel" 77 10 29 := ⟨RX10, TX10, 54, rfl, wu_10, by decide, wd_1123⟩
theorem kg_SGModel_80 : rn_F "SealedGatewayModel" 80 10 30 := ⟨RX10, TX10, 54, rfl, wu_10, by decide, wd_1124⟩
theorem kg_SGModel_83 : rn_F "SealedGatewayModel" 83 10 31 := ⟨RX10, TX10, 54, rfl, wu_10, by decide, wd_1125⟩
theorem kg_SGModel_86 : rn_F "SealedGatewayModel" 86 10 32 := ⟨RX10, TX10, 54, rfl, wu_10, by decide, wd_1126⟩
theorem kp_SGModel_200 (mn : String) : rn_FP "SealedGatewayModel" mn 200 10 22 (tyX10 22) := ⟨RX10, TX10, 54, tyX10, rfl, wu_10, tyX10_ok, nmX10, by decide, wd_1116, Or.inl rfl, tyX10_ok 22 (by decide)⟩
theorem sg_X10_sealNamed : rn_sg mX10_sealNamed 1 := ⟨by decide +kernel, ⟨by decide +kernel, by decide +kernel⟩, by decide +kernel⟩
theorem kl_SGModel_204 : rn_LV "SealedGatewayModel" 204 mX10_sealNamed 1 := ⟨sg_X10_sealNamed, rfl, wd_1342, wd_7, wd_1339, wd_1341, (rn_ws (i := 29) (by decide +kernel) (by decide +kernel))⟩
abbrev mX10_stop : rn_M := (yX10_stop, cX10_stop, 3, (some .boolean), [])
abbrev mX10_top : rn_M := (yX10_top, cX10_top, 2, (some .long), [])
abbrev mX10_seen : rn_M := (yX10_seen, cX10_seen, 2, (some .long), [])
abbrev mX10_count : rn_M := (yX10_count, cX10_count, 6, (some .long), [])
abbrev mX10_told : rn_M := (yX10_told, cX10_told, 3, (some .int), [])
abbrev mX10_come : rn_M := (yX10_come, cX10_come, 2, (some .int), [])
theorem sg_X10_isBroken : rn_sg mX10_isBroken 2 := ⟨by decide +kernel, ⟨by decide +kernel, by decide +kernel⟩, by decide +kernel⟩
theorem kl_SGModel_225 : rn_LV "SealedGatewayModel" 225 mX10_isBroken 2 := ⟨sg_X10_isBroken, rfl, wd_1363, wd_7, wd_1360, wd_1362, (rn_ws (i := 31) (by decide +kernel) (by decide +kernel))⟩
theorem sg_X10_ends : rn_sg mX10_ends 1 := ⟨by decide +kernel, ⟨by decide +kernel, by decide +kernel⟩, by decide +kernel⟩
theorem kl_SGModel_353 : rn_LV "SealedGatewayModel" 353 mX10_ends 1 := ⟨sg_X10_ends, rfl, wd_1418, wd_7, wd_1415, wd_1417, (rn_ws (i := 41) (by decide +kernel) (by decide +kernel))⟩
abbrev mX10_meaning : rn_M := (yX10_meaning, cX10_meaning, 2, (some .int), [])
abbrev mX10_routed : rn_M := (yX10_routed, cX10_routed, 2, (some .int), [])
theorem sg_X10_routeOf : rn_sg mX10_routeOf 1 := ⟨by decide +kernel, ⟨by decide +kernel, by decide +kernel⟩, by decide +kernel⟩
theorem kl_SGModel_232 : rn_LV "SealedGatewayModel" 232 mX10_routeOf 1 := ⟨sg_X10_routeOf, rfl, wd_1406, wd_7, wd_1403, wd_1405, (rn_ws (i := 40) (by decide +kernel) (by decide +kernel))⟩
abbrev mX10_sent : rn_M := (yX10_sent, cX10_sent, 4, (some .int), [])
theorem kg_SGModel_89 : rn_F "SealedGatewayModel" 89 10 34 := ⟨RX10, TX10, 54, rfl, wu_10, by decide, wd_1128⟩
abbrev mX10_take : rn_M := (yX10_take, cX10_take, 2, (some .int), [])
abbrev mX10_tick : rn_M := (yX10_tick, cX10_tick, 3, (some .int), [])
theorem kg_SGModel_95 : rn_F "SealedGatewayModel" 95 10 36 := ⟨RX10, TX10, 54, rfl, wu_10, by decide, wd_1130⟩
abbrev mX10_log : rn_M := (yX10_log, cX10_log, 3, (some .int), [])
theorem kg_SGModel_243 : rn_F "SealedGatewayModel" 243 10 51 := ⟨RX10, TX10, 54, rfl, wu_10, by decide, wd_1144⟩
abbrev mX10_ended : rn_M := (yX10_ended, cX10_ended, 4, (some .int), [])
theorem kg_SGModel_267 : rn_F "SealedGatewayModel" 267 10 33 := ⟨RX10, TX10, 54, rfl, wu_10, by decide, wd_1127⟩
abbrev mX10_clear : rn_M := (yX10_clear, cX10_clear, 2, none, [])
theorem kp_SGModel_267 (mn : String) : rn_FP "SealedGatewayModel" mn 267 10 33 (tyX10 33) := ⟨RX10, TX10, 54, tyX10, rfl, wu_10, tyX10_ok, nmX10, by decide, wd_1127, Or.inl rfl, tyX10_ok 33 (by decide)⟩
theorem kp_SGModel_243 (mn : String) : rn_FP "SealedGatewayModel" mn 243 10 51 (tyX10 51) := ⟨RX10, TX10, 54, tyX10, rfl, wu_10, tyX10_ok, nmX10, by decide, wd_1144, Or.inl rfl, tyX10_ok 51 (by decide)⟩
theorem kp_SGModel_92 (mn : String) : rn_FP "SealedGatewayModel" mn 92 10 35 (tyX10 35) := ⟨RX10, TX10, 54, tyX10, rfl, wu_10, tyX10_ok, nmX10, by decide, wd_1129, Or.inl rfl, tyX10_ok 35 (by decide)⟩
abbrev mX4_writeHead : rn_M := (yX4_writeHead, cX4_writeHead, 5, none, [])
theorem i32_6 : (6 : Int32).toInt = 6 := by decide
theorem sg_X4_setByte : rn_sg mX4_setByte 2 := ⟨by decide +kernel, ⟨by decide +kernel, by decide +kernel⟩, by decide +kernel⟩
theorem kl_SG_Packet_76 : rn_LV "SealedGateway$Packet" 76 mX4_setByte 2 := ⟨sg_X4_setByte, rfl, wd_394, wd_2, wd_411, wd_392, wd_393⟩
theorem i32_9 : (9 : Int32).toInt = 9 := by decide
theorem i32_12 : (12 : Int32).toInt = 12 := by decide
theorem i32_16 : (16 : Int32).toInt = 16 := by decide
abbrev mX4_addHead : rn_M := (yX4_addHead, cX4_addHead, 3, (some .int), [])
theorem sg_X4_pairAt : rn_sg mX4_pairAt 1 := ⟨by decide +kernel, ⟨by decide +kernel, by decide +kernel⟩, by decide +kernel⟩
theorem kl_SG_Packet_52 : rn_LV "SealedGateway$Packet" 52 mX4_pairAt 1 := ⟨sg_X4_pairAt, rfl, wd_424, wd_2, wd_421, wd_422, wd_423⟩
theorem i32_10 : (10 : Int32).toInt = 10 := by decide
theorem i32_14 : (14 : Int32).toInt = 14 := by decide
abbrev mX4_mendSum : rn_M := (yX4_mendSum, cX4_mendSum, 2, (some .int), [])
theorem sg_X4_addHead : rn_sg mX4_addHead 0 := ⟨by decide +kernel, ⟨by decide +kernel, by decide +kernel⟩, by decide +kernel⟩
theorem kl_SG_Packet_69 : rn_LV "SealedGateway$Packet" 69 mX4_addHead 0 := ⟨sg_X4_addHead, rfl, wd_420, wd_2, wd_417, wd_419, (rn_ws (i := 3) (by decide +kernel) (by decide +kernel))⟩
abbrev mX9_make : rn_M := (yX9_make, cX9_make, 8, (some .int), [])
theorem i32_1480 : (1480 : Int32).toInt = 1480 := by decide
theorem sg_X4_mendSum : rn_sg mX4_mendSum 0 := ⟨by decide +kernel, ⟨by decide +kernel, by decide +kernel⟩, by decide +kernel⟩
theorem kl_SG_128 : rn_LV "SealedGateway" 128 mX4_mendSum 0 := ⟨sg_X4_mendSum, rfl, wd_415, wd_2, wd_412, wd_413, wd_414⟩
theorem kl_SG_110 : rn_LV "SealedGateway" 110 mX4_setByte 2 := ⟨sg_X4_setByte, rfl, wd_394, wd_2, wd_391, wd_392, wd_393⟩
theorem kt_SG_95_122 : rn_LT "SealedGateway" 95 122 99 "java/lang/IllegalArgumentException" := ⟨by decide +kernel, wd_339, wd_13, at_SG_99, 4, "no such packet", rfl⟩
theorem sg_X4_writeHead : rn_sg mX4_writeHead 4 := ⟨by decide +kernel, ⟨by decide +kernel, by decide +kernel⟩, by decide +kernel⟩
theorem kl_SG_124 : rn_LV "SealedGateway" 124 mX4_writeHead 4 := ⟨sg_X4_writeHead, rfl, wd_410, wd_2, wd_407, wd_408, wd_409⟩
theorem i32_255 : (255 : Int32).toInt = 255 := by decide
abbrev mX10_two : rn_M := (yX10_two, cX10_two, 2, (some .int), [])
abbrev mX10_fold : rn_M := (yX10_fold, cX10_fold, 5, (some .int), [])
theorem sg_X10_two : rn_sg mX10_two 1 := ⟨by decide +kernel, ⟨by decide +kernel, by decide +kernel⟩, by decide +kernel⟩
theorem kl_SGModel_140 : rn_LV "SealedGatewayModel" 140 mX10_two 1 := ⟨sg_X10_two, rfl, wd_1313, wd_7, wd_1310, wd_1312, (rn_ws (i := 28) (by decide +kernel) (by decide +kernel))⟩
theorem i32_21900 : (21900 : Int32).toInt = 21900 := by decide
abbrev mX10_setSum : rn_M := (yX10_setSum, cX10_setSum, 2, none, [])
theorem sg_X10_fold : rn_sg mX10_fold 2 := ⟨by decide +kernel, ⟨by decide +kernel, by decide +kernel⟩, by decide +kernel⟩
theorem kl_SGModel_151 : rn_LV "SealedGatewayModel" 151 mX10_fold 2 := ⟨sg_X10_fold, rfl, wd_1309, wd_7, wd_1306, wd_1308, (rn_ws (i := 27) (by decide +kernel) (by decide +kernel))⟩
abbrev mX10_make : rn_M := (yX10_make, cX10_make, 8, (some .int), [])
theorem sg_X10_setSum : rn_sg mX10_setSum 1 := ⟨by decide +kernel, ⟨by decide +kernel, by decide +kernel⟩, by decide +kernel⟩
theorem kl_SGModel_184 : rn_LV "SealedGatewayModel" 184 mX10_setSum 1 := ⟨sg_X10_setSum, rfl, wd_1305, wd_7, wd_1302, wd_1304, (rn_ws (i := 26) (by decide +kernel) (by decide +kernel))⟩
abbrev fs0_4 : List Value := [.null, .int 0]
theorem kn_SG_7 : rn_N "SealedGateway" 7 4 fs0_4 := ⟨RX4, TX4, 2, tyX4, rfl, wu_4, tyX4_ok, wd_29, wd_30, wd_2, by decide +kernel, rfl⟩
abbrev fs0_7 : List Value := [.null, .null, .int 0]
theorem kn_SG_32 : rn_N "SealedGateway" 32 7 fs0_7 := ⟨RX7, TX7, 3, tyX7, rfl, wu_7, tyX7_ok, wd_43, wd_44, wd_3, by decide +kernel, rfl⟩
abbrev fs0_5 : List Value := [.null, .int 0, .int 0, .int 0, .int 0]
theorem kn_SG_39 : rn_N "SealedGateway" 39 5 fs0_5 := ⟨RX5, TX5, 5, tyX5, rfl, wu_5, tyX5_ok, wd_62, wd_63, wd_4, by decide +kernel, rfl⟩
abbrev fs0_1 : List Value := [.null, .int 0]
theorem kn_SG_56 : rn_N "SealedGateway" 56 1 fs0_1 := ⟨RX1, TX1, 2, tyX1, rfl, wu_1, tyX1_ok, wd_89, wd_90, wd_5, by decide +kernel, rfl⟩
abbrev fs0_2 : List Value := [.null, .int 0]
theorem kn_SG_63 : rn_N "SealedGateway" 63 2 fs0_2 := ⟨RX2, TX2, 2, tyX2, rfl, wu_2, tyX2_ok, wd_104, wd_105, wd_6, by decide +kernel, rfl⟩
abbrev fs0_9 : List Value := [.int 0, .null, .null, .null, .null, .null, .int 0, .null, .null, .null, .null, .int 0, .int 0, .null, .null, .null]
theorem kn_SGLaw_8 : rn_N "SealedGatewayLaw" 8 9 fs0_9 := ⟨RX9, TX9, 16, tyX9, rfl, wu_9, tyX9_ok, wd_21, wd_22, wd_1, by decide +kernel, rfl⟩
abbrev fs0_10 : List Value := [.int 0, .int 0, .null, .int 0, .int 0, .null, .null, .null, .null, .int 0, .null, .null, .null, .null, .null, .null, .null, .null, .null, .int 0, .int 0, .int 0, .int 0, .null, .null, .null, .null, .null, .null, .null, .null, .null, .null, .int 0, .null, .int 0, .null, .null, .null, .null, .null, .null, .null, .int 0, .null, .int 0, .null, .null, .null, .null, .null, .int 0, .int 0, .int 0]
theorem kn_SGLaw_101 : rn_N "SealedGatewayLaw" 101 10 fs0_10 := ⟨RX10, TX10, 54, tyX10, rfl, wu_10, tyX10_ok, wd_1087, wd_1088, wd_7, by decide +kernel, rfl⟩
abbrev mX4_init : rn_M := (yX4_init, cX4_init, 1, none, [])
theorem kp_SG_Packet_11 : rn_FP "SealedGateway$Packet" "<init>" 11 4 0 (tyX4 0) := ⟨RX4, TX4, 2, tyX4, rfl, wu_4, tyX4_ok, nmX4, by decide, wd_35, Or.inr ⟨rfl, rfl, rfl⟩, tyX4_ok 0 (by decide)⟩
abbrev mX7_init : rn_M := (yX7_init, cX7_init, 1, none, [])
theorem kp_SG_Routes_13 : rn_FP "SealedGateway$Routes" "<init>" 13 7 0 (tyX7 0) := ⟨RX7, TX7, 3, tyX7, rfl, wu_7, tyX7_ok, nmX7, by decide, wd_51, Or.inr ⟨rfl, rfl, rfl⟩, tyX7_ok 0 (by decide)⟩
theorem kp_SG_Routes_17 : rn_FP "SealedGateway$Routes" "<init>" 17 7 1 (tyX7 1) := ⟨RX7, TX7, 3, tyX7, rfl, wu_7, tyX7_ok, nmX7, by decide, wd_52, Or.inr ⟨rfl, rfl, rfl⟩, tyX7_ok 1 (by decide)⟩
abbrev mX5_init : rn_M := (yX5_init, cX5_init, 1, none, [])
theorem kp_SG_Policies_13 : rn_FP "SealedGateway$Policies" "<init>" 13 5 0 (tyX5 0) := ⟨RX5, TX5, 5, tyX5, rfl, wu_5, tyX5_ok, nmX5, by decide, wd_71, Or.inr ⟨rfl, rfl, rfl⟩, tyX5_ok 0 (by decide)⟩
abbrev mX1_init : rn_M := (yX1_init, cX1_init, 1, none, [])
theorem kp_SG_Heaps_13 : rn_FP "SealedGateway$Heaps" "<init>" 13 1 0 (tyX1 0) := ⟨RX1, TX1, 2, tyX1, rfl, wu_1, tyX1_ok, nmX1, by decide, wd_97, Or.inr ⟨rfl, rfl, rfl⟩, tyX1_ok 0 (by decide)⟩
abbrev mX2_init : rn_M := (yX2_init, cX2_init, 1, none, [])
theorem kp_SG_Log_9 : rn_FP "SealedGateway$Log" "<init>" 9 2 0 (tyX2 0) := ⟨RX2, TX2, 2, tyX2, rfl, wu_2, tyX2_ok, nmX2, by decide, wd_110, Or.inr ⟨rfl, rfl, rfl⟩, tyX2_ok 0 (by decide)⟩
abbrev mX9_init : rn_M := (yX9_init, cX9_init, 2, none, [])
theorem sg_X4_init : rn_sg mX4_init 0 := ⟨by decide +kernel, ⟨by decide +kernel, by decide +kernel⟩, by decide +kernel⟩
theorem kl_SG_9 : rn_LIN "SealedGateway" 9 mX4_init 0 "SealedGateway" := ⟨sg_X4_init, rfl, wd_33, wd_2, wd_31, wd_32, rfl, rfl⟩
theorem kp_SG_10 : rn_FP "SealedGateway" "<init>" 10 9 1 (tyX9 1) := ⟨RX9, TX9, 16, tyX9, rfl, wu_9, tyX9_ok, nmX9, by decide, wd_118, Or.inr ⟨rfl, rfl, rfl⟩, tyX9_ok 1 (by decide)⟩
theorem kp_SG_16 : rn_FP "SealedGateway" "<init>" 16 9 2 (tyX9 2) := ⟨RX9, TX9, 16, tyX9, rfl, wu_9, tyX9_ok, nmX9, by decide, wd_119, Or.inr ⟨rfl, rfl, rfl⟩, tyX9_ok 2 (by decide)⟩
theorem kp_SG_19 : rn_FP "SealedGateway" "<init>" 19 9 3 (tyX9 3) := ⟨RX9, TX9, 16, tyX9, rfl, wu_9, tyX9_ok, nmX9, by decide, wd_120, Or.inr ⟨rfl, rfl, rfl⟩, tyX9_ok 3 (by decide)⟩
theorem kp_SG_22 : rn_FP "SealedGateway" "<init>" 22 9 4 (tyX9 4) := ⟨RX9, TX9, 16, tyX9, rfl, wu_9, tyX9_ok, nmX9, by decide, wd_121, Or.inr ⟨rfl, rfl, rfl⟩, tyX9_ok 4 (by decide)⟩
theorem kp_SG_25 : rn_FP "SealedGateway" "<init>" 25 9 5 (tyX9 5) := ⟨RX9, TX9, 16, tyX9, rfl, wu_9, tyX9_ok, nmX9, by decide, wd_122, Or.inr ⟨rfl, rfl, rfl⟩, tyX9_ok 5 (by decide)⟩
theorem sg_X7_init : rn_sg mX7_init 0 := ⟨by decide +kernel, ⟨by decide +kernel, by decide +kernel⟩, by decide +kernel⟩
theorem kl_SG_34 : rn_LIN "SealedGateway" 34 mX7_init 0 "SealedGateway" := ⟨sg_X7_init, rfl, wd_47, wd_3, wd_45, wd_46, rfl, rfl⟩
theorem kp_SG_35 : rn_FP "SealedGateway" "<init>" 35 9 7 (tyX9 7) := ⟨RX9, TX9, 16, tyX9, rfl, wu_9, tyX9_ok, nmX9, by decide, wd_124, Or.inr ⟨rfl, rfl, rfl⟩, tyX9_ok 7 (by decide)⟩
theorem sg_X5_init : rn_sg mX5_init 0 := ⟨by decide +kernel, ⟨by decide +kernel, by decide +kernel⟩, by decide +kernel⟩
theorem kl_SG_41 : rn_LIN "SealedGateway" 41 mX5_init 0 "SealedGateway" := ⟨sg_X5_init, rfl, wd_66, wd_4, wd_64, wd_65, rfl, rfl⟩
theorem kp_SG_42 : rn_FP "SealedGateway" "<init>" 42 9 8 (tyX9 8) := ⟨RX9, TX9, 16, tyX9, rfl, wu_9, tyX9_ok, nmX9, by decide, wd_125, Or.inr ⟨rfl, rfl, rfl⟩, tyX9_ok 8 (by decide)⟩
theorem kp_SG_46 : rn_FP "SealedGateway" "<init>" 46 9 9 (tyX9 9) := ⟨RX9, TX9, 16, tyX9, rfl, wu_9, tyX9_ok, nmX9, by decide, wd_126, Or.inr ⟨rfl, rfl, rfl⟩, tyX9_ok 9 (by decide)⟩
theorem kp_SG_52 : rn_FP "SealedGateway" "<init>" 52 9 10 (tyX9 10) := ⟨RX9, TX9, 16, tyX9, rfl, wu_9, tyX9_ok, nmX9, by decide, wd_127, Or.inr ⟨rfl, rfl, rfl⟩, tyX9_ok 10 (by decide)⟩
theorem sg_X1_init : rn_sg mX1_init 0 := ⟨by decide +kernel, ⟨by decide +kernel, by decide +kernel⟩, by decide +kernel⟩
theorem kl_SG_58 : rn_LIN "SealedGateway" 58 mX1_init 0 "SealedGateway" := ⟨sg_X1_init, rfl, wd_93, wd_5, wd_91, wd_92, rfl, rfl⟩
theorem kp_SG_59 : rn_FP "SealedGateway" "<init>" 59 9 13 (tyX9 13) := ⟨RX9, TX9, 16, tyX9, rfl, wu_9, tyX9_ok, nmX9, by decide, wd_130, Or.inr ⟨rfl, rfl, rfl⟩, tyX9_ok 13 (by decide)⟩
theorem sg_X2_init : rn_sg mX2_init 0 := ⟨by decide +kernel, ⟨by decide +kernel, by decide +kernel⟩, by decide +kernel⟩
theorem kl_SG_65 : rn_LIN "SealedGateway" 65 mX2_init 0 "SealedGateway" := ⟨sg_X2_init, rfl, wd_108, wd_6, wd_106, wd_107, rfl, rfl⟩
theorem kp_SG_66 : rn_FP "SealedGateway" "<init>" 66 9 14 (tyX9 14) := ⟨RX9, TX9, 16, tyX9, rfl, wu_9, tyX9_ok, nmX9, by decide, wd_131, Or.inr ⟨rfl, rfl, rfl⟩, tyX9_ok 14 (by decide)⟩
theorem kp_SG_70 : rn_FP "SealedGateway" "<init>" 70 9 15 (tyX9 15) := ⟨RX9, TX9, 16, tyX9, rfl, wu_9, tyX9_ok, nmX9, by decide, wd_132, Or.inr ⟨rfl, rfl, rfl⟩, tyX9_ok 15 (by decide)⟩
theorem kp_SG_73 : rn_FP "SealedGateway" "<init>" 73 9 0 (tyX9 0) := ⟨RX9, TX9, 16, tyX9, rfl, wu_9, tyX9_ok, nmX9, by decide, wd_117, Or.inr ⟨rfl, rfl, rfl⟩, tyX9_ok 0 (by decide)⟩
abbrev mX10_init : rn_M := (yX10_init, cX10_init, 2, none, [])
theorem kp_SGModel_7 (mn : String) : rn_FP "SealedGatewayModel" mn 7 10 2 (tyX10 2) := ⟨RX10, TX10, 54, tyX10, rfl, wu_10, tyX10_ok, nmX10, by decide, wd_1096, Or.inl rfl, tyX10_ok 2 (by decide)⟩
theorem kp_SGModel_13 (mn : String) : rn_FP "SealedGatewayModel" mn 13 10 5 (tyX10 5) := ⟨RX10, TX10, 54, tyX10, rfl, wu_10, tyX10_ok, nmX10, by decide, wd_1099, Or.inl rfl, tyX10_ok 5 (by decide)⟩
theorem kp_SGModel_16 (mn : String) : rn_FP "SealedGatewayModel" mn 16 10 6 (tyX10 6) := ⟨RX10, TX10, 54, tyX10, rfl, wu_10, tyX10_ok, nmX10, by decide, wd_1100, Or.inl rfl, tyX10_ok 6 (by decide)⟩
theorem kp_SGModel_19 (mn : String) : rn_FP "SealedGatewayModel" mn 19 10 7 (tyX10 7) := ⟨RX10, TX10, 54, tyX10, rfl, wu_10, tyX10_ok, nmX10, by decide, wd_1101, Or.inl rfl, tyX10_ok 7 (by decide)⟩
theorem kp_SGModel_22 (mn : String) : rn_FP "SealedGatewayModel" mn 22 10 8 (tyX10 8) := ⟨RX10, TX10, 54, tyX10, rfl, wu_10, tyX10_ok, nmX10, by decide, wd_1102, Or.inl rfl, tyX10_ok 8 (by decide)⟩
theorem kp_SGModel_25 (mn : String) : rn_FP "SealedGatewayModel" mn 25 10 10 (tyX10 10) := ⟨RX10, TX10, 54, tyX10, rfl, wu_10, tyX10_ok, nmX10, by decide, wd_1104, Or.inl rfl, tyX10_ok 10 (by decide)⟩
theorem kp_SGModel_28 (mn : String) : rn_FP "SealedGatewayModel" mn 28 10 11 (tyX10 11) := ⟨RX10, TX10, 54, tyX10, rfl, wu_10, tyX10_ok, nmX10, by decide, wd_1105, Or.inl rfl, tyX10_ok 11 (by decide)⟩
theorem kp_SGModel_31 (mn : String) : rn_FP "SealedGatewayModel" mn 31 10 12 (tyX10 12) := ⟨RX10, TX10, 54, tyX10, rfl, wu_10, tyX10_ok, nmX10, by decide, wd_1106, Or.inl rfl, tyX10_ok 12 (by decide)⟩
theorem kp_SGModel_34 (mn : String) : rn_FP "SealedGatewayModel" mn 34 10 13 (tyX10 13) := ⟨RX10, TX10, 54, tyX10, rfl, wu_10, tyX10_ok, nmX10, by decide, wd_1107, Or.inl rfl, tyX10_ok 13 (by decide)⟩
theorem kp_SGModel_37 (mn : String) : rn_FP "SealedGatewayModel" mn 37 10 14 (tyX10 14) := ⟨RX10, TX10, 54, tyX10, rfl, wu_10, tyX10_ok, nmX10, by decide, wd_1108, Or.inl rfl, tyX10_ok 14 (by decide)⟩
theorem kp_SGModel_40 (mn : String) : rn_FP "SealedGatewayModel" mn 40 10 15 (tyX10 15) := ⟨RX10, TX10, 54, tyX10, rfl, wu_10, tyX10_ok, nmX10, by decide, wd_1109, Or.inl rfl, tyX10_ok 15 (by decide)⟩
theorem kp_SGModel_43 (mn : String) : rn_FP "SealedGatewayModel" mn 43 10 16 (tyX10 16) := ⟨RX10, TX10, 54, tyX10, rfl, wu_10, tyX10_ok, nmX10, by decide, wd_1110, Or.inl rfl, tyX10_ok 16 (by decide)⟩
theorem kp_SGModel_46 (mn : String) : rn_FP "SealedGatewayModel" mn 46 10 17 (tyX10 17) := ⟨RX10, TX10, 54, tyX10, rfl, wu_10, tyX10_ok, nmX10, by decide, wd_1111, Or.inl rfl, tyX10_ok 17 (by decide)⟩
theorem kp_SGModel_49 (mn : String) : rn_FP "SealedGatewayModel" mn 49 10 18 (tyX10 18) := ⟨RX10, TX10, 54, tyX10, rfl, wu_10, tyX10_ok, nmX10, by decide, wd_1112, Or.inl rfl, tyX10_ok 18 (by decide)⟩
theorem kp_SGModel_57 (mn : String) : rn_FP "SealedGatewayModel" mn 57 10 23 (tyX10 23) := ⟨RX10, TX10, 54, tyX10, rfl, wu_10, tyX10_ok, nmX10, by decide, wd_1117, Or.inl rfl, tyX10_ok 23 (by decide)⟩
theorem kp_SGModel_60 (mn : String) : rn_FP "SealedGatewayModel" mn 60 10 24 (tyX10 24) := ⟨RX10, TX10, 54, tyX10, rfl, wu_10, tyX10_ok, nmX10, by decide, wd_1118, Or.inl rfl, tyX10_ok 24 (by decide)⟩
theorem kp_SGModel_63 (mn : String) : rn_FP "SealedGatewayModel" mn 63 10 25 (tyX10 25) := ⟨RX10, TX10, 54, tyX10, rfl, wu_10, tyX10_ok, nmX10, by decide, wd_1119, Or.inl rfl, tyX10_ok 25 (by decide)⟩
theorem kp_SGModel_66 (mn : String) : rn_FP "SealedGatewayModel" mn 66 10 26 (tyX10 26) := ⟨RX10, TX10, 54, tyX10, rfl, wu_10, tyX10_ok, nmX10, by decide, wd_1120, Or.inl rfl, tyX10_ok 26 (by decide)⟩
theorem kp_SGModel_70 (mn : String) : rn_FP "SealedGatewayModel" mn 70 10 27 (tyX10 27) := ⟨RX10, TX10, 54, tyX10, rfl, wu_10, tyX10_ok, nmX10, by decide, wd_1121, Or.inl rfl, tyX10_ok 27 (by decide)⟩
theorem kp_SGModel_73 (mn : String) : rn_FP "SealedGatewayModel" mn 73 10 28 (tyX10 28) := ⟨RX10, TX10, 54, tyX10, rfl, wu_10, tyX10_ok, nmX10, by decide, wd_1122, Or.inl rfl, tyX10_ok 28 (by decide)⟩
theorem kp_SGModel_77 (mn : String) : rn_FP "SealedGatewayModel" mn 77 10 29 (tyX10 29) := ⟨RX10, TX10, 54, tyX10, rfl, wu_10, tyX10_ok, nmX10, by decide, wd_1123, Or.inl rfl, tyX10_ok 29 (by decide)⟩
theorem kp_SGModel_80 (mn : String) : rn_FP "SealedGatewayModel" mn 80 10 30 (tyX10 30) := ⟨RX10, TX10, 54, tyX10, rfl, wu_10, tyX10_ok, nmX10, by decide, wd_1124, Or.inl rfl, tyX10_ok 30 (by decide)⟩
theorem kp_SGModel_83 (mn : String) : rn_FP "SealedGatewayModel" mn 83 10 31 (tyX10 31) := ⟨RX10, TX10, 54, tyX10, rfl, wu_10, tyX10_ok, nmX10, by decide, wd_1125, Or.inl rfl, tyX10_ok 31 (by decide)⟩
theorem kp_SGModel_86 (mn : String) : rn_FP "SealedGatewayModel" mn 86 10 32 (tyX10 32) := ⟨RX10, TX10, 54, tyX10, rfl, wu_10, tyX10_ok, nmX10, by decide, wd_1126, Or.inl rfl, tyX10_ok 32 (by decide)⟩
theorem kp_SGModel_89 (mn : String) : rn_FP "SealedGatewayModel" mn 89 10 34 (tyX10 34) := ⟨RX10, TX10, 54, tyX10, rfl, wu_10, tyX10_ok, nmX10, by decide, wd_1128, Or.inl rfl, tyX10_ok 34 (by decide)⟩
theorem kp_SGModel_95 (mn : String) : rn_FP "SealedGatewayModel" mn 95 10 36 (tyX10 36) := ⟨RX10, TX10, 54, tyX10, rfl, wu_10, tyX10_ok, nmX10, by decide, wd_1130, Or.inl rfl, tyX10_ok 36 (by decide)⟩
theorem kp_SGModel_98 (mn : String) : rn_FP "SealedGatewayModel" mn 98 10 37 (tyX10 37) := ⟨RX10, TX10, 54, tyX10, rfl, wu_10, tyX10_ok, nmX10, by decide, wd_1131, Or.inl rfl, tyX10_ok 37 (by decide)⟩
theorem kp_SGModel_101 (mn : String) : rn_FP "SealedGatewayModel" mn 101 10 38 (tyX10 38) := ⟨RX10, TX10, 54, tyX10, rfl, wu_10, tyX10_ok, nmX10, by decide, wd_1132, Or.inl rfl, tyX10_ok 38 (by decide)⟩
theorem kp_SGModel_104 (mn : String) : rn_FP "SealedGatewayModel" mn 104 10 39 (tyX10 39) := ⟨RX10, TX10, 54, tyX10, rfl, wu_10, tyX10_ok, nmX10, by decide, wd_1133, Or.inl rfl, tyX10_ok 39 (by decide)⟩
theorem kp_SGModel_107 (mn : String) : rn_FP "SealedGatewayModel" mn 107 10 40 (tyX10 40) := ⟨RX10, TX10, 54, tyX10, rfl, wu_10, tyX10_ok, nmX10, by decide, wd_1134, Or.inl rfl, tyX10_ok 40 (by decide)⟩
theorem kp_SGModel_110 (mn : String) : rn_FP "SealedGatewayModel" mn 110 10 41 (tyX10 41) := ⟨RX10, TX10, 54, tyX10, rfl, wu_10, tyX10_ok, nmX10, by decide, wd_1135, Or.inl rfl, tyX10_ok 41 (by decide)⟩
theorem kp_SGModel_113 (mn : String) : rn_FP "SealedGatewayModel" mn 113 10 42 (tyX10 42) := ⟨RX10, TX10, 54, tyX10, rfl, wu_10, tyX10_ok, nmX10, by decide, wd_1136, Or.inl rfl, tyX10_ok 42 (by decide)⟩
theorem kp_SGModel_116 (mn : String) : rn_FP "SealedGatewayModel" mn 116 10 44 (tyX10 44) := ⟨RX10, TX10, 54, tyX10, rfl, wu_10, tyX10_ok, nmX10, by decide, wd_1138, Or.inl rfl, tyX10_ok 44 (by decide)⟩
theorem kp_SGModel_119 (mn : String) : rn_FP "SealedGatewayModel" mn 119 10 46 (tyX10 46) := ⟨RX10, TX10, 54, tyX10, rfl, wu_10, tyX10_ok, nmX10, by decide, wd_1139, Or.inl rfl, tyX10_ok 46 (by decide)⟩
theorem kp_SGModel_122 (mn : String) : rn_FP "SealedGatewayModel" mn 122 10 47 (tyX10 47) := ⟨RX10, TX10, 54, tyX10, rfl, wu_10, tyX10_ok, nmX10, by decide, wd_1140, Or.inl rfl, tyX10_ok 47 (by decide)⟩
theorem kp_SGModel_125 (mn : String) : rn_FP "SealedGatewayModel" mn 125 10 48 (tyX10 48) := ⟨RX10, TX10, 54, tyX10, rfl, wu_10, tyX10_ok, nmX10, by decide, wd_1141, Or.inl rfl, tyX10_ok 48 (by decide)⟩
theorem kp_SGModel_128 (mn : String) : rn_FP "SealedGatewayModel" mn 128 10 49 (tyX10 49) := ⟨RX10, TX10, 54, tyX10, rfl, wu_10, tyX10_ok, nmX10, by decide, wd_1142, Or.inl rfl, tyX10_ok 49 (by decide)⟩
theorem kp_SGModel_131 (mn : String) : rn_FP "SealedGatewayModel" mn 131 10 50 (tyX10 50) := ⟨RX10, TX10, 54, tyX10, rfl, wu_10, tyX10_ok, nmX10, by decide, wd_1143, Or.inl rfl, tyX10_ok 50 (by decide)⟩
theorem kp_SGModel_134 (mn : String) : rn_FP "SealedGatewayModel" mn 134 10 1 (tyX10 1) := ⟨RX10, TX10, 54, tyX10, rfl, wu_10, tyX10_ok, nmX10, by decide, wd_1095, Or.inl rfl, tyX10_ok 1 (by decide)⟩
abbrev mL_type : rn_M := (yL_type, cL_type, 5, (some .int), [(0, 9, 12, 13)])
theorem sg_X9_type : rn_sg mX9_type 1 := ⟨by decide +kernel, ⟨by decide +kernel, by decide +kernel⟩, by decide +kernel⟩
theorem kl_SGLaw_7 : rn_LV "SealedGatewayLaw" 7 mX9_type 1 := ⟨sg_X9_type, rfl, wd_247, wd_1, wd_244, wd_245, wd_246⟩
abbrev mL_keep : rn_M := (yL_keep, cL_keep, 3, (some .int), [(0, 5, 8, 19)])
theorem sg_X9_keep : rn_sg mX9_keep 1 := ⟨by decide +kernel, ⟨by decide +kernel, by decide +kernel⟩, by decide +kernel⟩
theorem kl_SGLaw_15 : rn_LV "SealedGatewayLaw" 15 mX9_keep 1 := ⟨sg_X9_keep, rfl, wd_338, wd_1, wd_335, wd_336, wd_337⟩
abbrev mL_poke : rn_M := (yL_poke, cL_poke, 5, (some .int), [(0, 10, 13, 25), (0, 10, 17, 19)])
theorem sg_X9_poke : rn_sg mX9_poke 2 := ⟨by decide +kernel, ⟨by decide +kernel, by decide +kernel⟩, by decide +kernel⟩
theorem kl_SGLaw_21 : rn_LV "SealedGatewayLaw" 21 mX9_poke 2 := ⟨sg_X9_poke, rfl, wd_362, wd_1, wd_359, wd_360, wd_361⟩
abbrev mL_at : rn_M := (yL_at, cL_at, 4, (some .int), [(0, 9, 12, 25)])
theorem kl_SGLaw_27 : rn_LV "SealedGatewayLaw" 27 mX9_at 1 := ⟨sg_X9_at, rfl, wd_366, wd_1, wd_398, wd_364, wd_365⟩
abbrev mL_sum : rn_M := (yL_sum, cL_sum, 3, (some .int), [(0, 8, 11, 13)])
theorem sg_X9_sum : rn_sg mX9_sum 0 := ⟨by decide +kernel, ⟨by decide +kernel, by decide +kernel⟩, by decide +kernel⟩
theorem kl_SGLaw_35 : rn_LV "SealedGatewayLaw" 35 mX9_sum 0 := ⟨sg_X9_sum, rfl, wd_431, wd_1, wd_428, wd_429, wd_430⟩
abbrev mL_route : rn_M := (yL_route, cL_route, 6, (some .int), [(0, 12, 15, 19), (0, 12, 19, 13)])
theorem sg_X9_route : rn_sg mX9_route 3 := ⟨by decide +kernel, ⟨by decide +kernel, by decide +kernel⟩, by decide +kernel⟩
theorem kl_SGLaw_39 : rn_LV "SealedGatewayLaw" 39 mX9_route 3 := ⟨sg_X9_route, rfl, wd_439, wd_1, wd_436, wd_437, wd_438⟩
abbrev mL_peer : rn_M := (yL_peer, cL_peer, 5, (some .int), [(0, 10, 13, 25)])
theorem sg_X9_peer : rn_sg mX9_peer 2 := ⟨by decide +kernel, ⟨by decide +kernel, by decide +kernel⟩, by decide +kernel⟩
theorem kl_SGLaw_43 : rn_LV "SealedGatewayLaw" 43 mX9_peer 2 := ⟨sg_X9_peer, rfl, wd_475, wd_1, wd_472, wd_473, wd_474⟩
abbrev mL_meant : rn_M := (yL_meant, cL_meant, 5, (some .int), [(0, 7, 10, 19)])
theorem sg_X9_meant : rn_sg mX9_meant 3 := ⟨by decide +kernel, ⟨by decide +kernel, by decide +kernel⟩, by decide +kernel⟩
theorem kl_SGLaw_46 : rn_LV "SealedGatewayLaw" 46 mX9_meant 3 := ⟨sg_X9_meant, rfl, wd_486, wd_1, wd_483, wd_484, wd_485⟩
abbrev mL_policy : rn_M := (yL_policy, cL_policy, 9, (some .int), [(0, 18, 21, 19), (0, 18, 25, 13)])
theorem sg_X9_policy : rn_sg mX9_policy 6 := ⟨by decide +kernel, ⟨by decide +kernel, by decide +kernel⟩, by decide +kernel⟩
theorem kl_SGLaw_50 : rn_LV "SealedGatewayLaw" 50 mX9_policy 6 := ⟨sg_X9_policy, rfl, wd_496, wd_1, wd_493, wd_494, wd_495⟩
abbrev mL_seal : rn_M := (yL_seal, cL_seal, 12, (some .int), [(0, 20, 23, 25), (0, 20, 27, 19), (0, 20, 31, 13)])
theorem sg_X9_seal : rn_sg mX9_seal 7 := ⟨by decide +kernel, ⟨by decide +kernel, by decide +kernel⟩, by decide +kernel⟩
theorem kl_SGLaw_53 : rn_LV "SealedGatewayLaw" 53 mX9_seal 7 := ⟨sg_X9_seal, rfl, wd_540, wd_1, wd_537, wd_538, wd_539⟩
abbrev mL_stop : rn_M := (yL_stop, cL_stop, 4, (some .int), [(0, 16, 19, 25)])
theorem sg_X9_stop : rn_sg mX9_stop 1 := ⟨by decide +kernel, ⟨by decide +kernel, by decide +kernel⟩, by decide +kernel⟩
theorem kl_SGLaw_57 : rn_LV "SealedGatewayLaw" 57 mX9_stop 1 := ⟨sg_X9_stop, rfl, wd_598, wd_1, wd_595, wd_596, wd_597⟩
abbrev mL_count : rn_M := (yL_count, cL_count, 6, (some .int), [(0, 10, 13, 25), (0, 10, 17, 19)])
theorem sg_X9_count : rn_sg mX9_count 2 := ⟨by decide +kernel, ⟨by decide +kernel, by decide +kernel⟩, by decide +kernel⟩
theorem kl_SGLaw_61 : rn_LV "SealedGatewayLaw" 61 mX9_count 2 := ⟨sg_X9_count, rfl, wd_618, wd_1, wd_615, wd_616, wd_617⟩
abbrev mL_come : rn_M := (yL_come, cL_come, 4, (some .int), [(0, 9, 12, 19)])
theorem sg_X9_come : rn_sg mX9_come 1 := ⟨by decide +kernel, ⟨by decide +kernel, by decide +kernel⟩, by decide +kernel⟩
theorem kl_SGLaw_65 : rn_LV "SealedGatewayLaw" 65 mX9_come 1 := ⟨sg_X9_come, rfl, wd_640, wd_1, wd_637, wd_638, wd_639⟩
abbrev mL_meaning : rn_M := (yL_meaning, cL_meaning, 4, (some .int), [(0, 9, 12, 19)])
theorem sg_X9_meaning : rn_sg mX9_meaning 1 := ⟨by decide +kernel, ⟨by decide +kernel, by decide +kernel⟩, by decide +kernel⟩
theorem kl_SGLaw_68 : rn_LV "SealedGatewayLaw" 68 mX9_meaning 1 := ⟨sg_X9_meaning, rfl, wd_1003, wd_1, wd_1000, wd_1001, wd_1002⟩
abbrev mL_take : rn_M := (yL_take, cL_take, 4, (some .int), [(0, 9, 12, 25), (0, 9, 15, 13)])
theorem sg_X9_take : rn_sg mX9_take 1 := ⟨by decide +kernel, ⟨by decide +kernel, by decide +kernel⟩, by decide +kernel⟩
theorem kl_SGLaw_74 : rn_LV "SealedGatewayLaw" 74 mX9_take 1 := ⟨sg_X9_take, rfl, wd_1023, wd_1, wd_1020, wd_1021, wd_1022⟩
abbrev mL_top : rn_M := (yL_top, cL_top, 4, (some .int), [(0, 8, 11, 25)])
theorem sg_X9_top : rn_sg mX9_top 1 := ⟨by decide +kernel, ⟨by decide +kernel, by decide +kernel⟩, by decide +kernel⟩
theorem kl_SGLaw_80 : rn_LV "SealedGatewayLaw" 80 mX9_top 1 := ⟨sg_X9_top, rfl, wd_1047, wd_1, wd_1044, wd_1045, wd_1046⟩
abbrev mL_seen : rn_M := (yL_seen, cL_seen, 4, (some .int), [(0, 8, 11, 25)])
theorem sg_X9_seen : rn_sg mX9_seen 1 := ⟨by decide +kernel, ⟨by decide +kernel, by decide +kernel⟩, by decide +kernel⟩
theorem kl_SGLaw_84 : rn_LV "SealedGatewayLaw" 84 mX9_seen 1 := ⟨sg_X9_seen, rfl, wd_1054, wd_1, wd_1051, wd_1052, wd_1053⟩
abbrev mL_ended : rn_M := (yL_ended, cL_ended, 4, (some .int), [(0, 9, 12, 25)])
theorem sg_X9_ended : rn_sg mX9_ended 1 := ⟨by decide +kernel, ⟨by decide +kernel, by decide +kernel⟩, by decide +kernel⟩
theorem kl_SGLaw_90 : rn_LV "SealedGatewayLaw" 90 mX9_ended 1 := ⟨sg_X9_ended, rfl, wd_1081, wd_1, wd_1078, wd_1079, wd_1080⟩
abbrev mL_sent : rn_M := (yL_sent, cL_sent, 5, (some .int), [(0, 10, 13, 25)])
theorem sg_X9_sent : rn_sg mX9_sent 2 := ⟨by decide +kernel, ⟨by decide +kernel, by decide +kernel⟩, by decide +kernel⟩
theorem kl_SGLaw_71 : rn_LV "SealedGatewayLaw" 71 mX9_sent 2 := ⟨sg_X9_sent, rfl, wd_1012, wd_1, wd_1009, wd_1010, wd_1011⟩
abbrev mL_told : rn_M := (yL_told, cL_told, 5, (some .int), [(0, 10, 13, 25)])
theorem sg_X9_told : rn_sg mX9_told 2 := ⟨by decide +kernel, ⟨by decide +kernel, by decide +kernel⟩, by decide +kernel⟩
theorem kl_SGLaw_77 : rn_LV "SealedGatewayLaw" 77 mX9_told 2 := ⟨sg_X9_told, rfl, wd_1031, wd_1, wd_1028, wd_1029, wd_1030⟩
abbrev mL_log : rn_M := (yL_log, cL_log, 5, (some .int), [(0, 10, 13, 25)])
theorem sg_X9_log : rn_sg mX9_log 2 := ⟨by decide +kernel, ⟨by decide +kernel, by decide +kernel⟩, by decide +kernel⟩
theorem kl_SGLaw_87 : rn_LV "SealedGatewayLaw" 87 mX9_log 2 := ⟨sg_X9_log, rfl, wd_1065, wd_1, wd_1062, wd_1063, wd_1064⟩
abbrev mL_make : rn_M := (yL_make, cL_make, 9, (some .int), [(0, 18, 21, 19)])
theorem sg_X9_make : rn_sg mX9_make 6 := ⟨by decide +kernel, ⟨by decide +kernel, by decide +kernel⟩, by decide +kernel⟩
theorem kl_SGLaw_31 : rn_LV "SealedGatewayLaw" 31 mX9_make 6 := ⟨sg_X9_make, rfl, wd_405, wd_1, wd_402, wd_403, wd_404⟩
abbrev mL_law : rn_M := (yL_law, cL_law, 8, (some .boolean), [])
theorem sg_L_type : rn_sg mL_type 3 := ⟨by decide +kernel, ⟨by decide +kernel, by decide +kernel⟩, by decide +kernel⟩
theorem kl_SGLaw_106 : rn_LSX "SealedGatewayLaw" 106 mL_type 3 := ⟨sg_L_type, trivial, wd_242, wd_0, wd_240, wd_241⟩
theorem sg_X10_type : rn_sg mX10_type 1 := ⟨by decide +kernel, ⟨by decide +kernel, by decide +kernel⟩, by decide +kernel⟩
theorem kl_SGLaw_109 : rn_LV "SealedGatewayLaw" 109 mX10_type 1 := ⟨sg_X10_type, rfl, wd_1265, wd_7, wd_1262, wd_1263, wd_1264⟩
theorem sg_X10_thrown : rn_sg mX10_thrown 0 := ⟨by decide +kernel, ⟨by decide +kernel, by decide +kernel⟩, by decide +kernel⟩
theorem kl_SGLaw_110 : rn_LV "SealedGatewayLaw" 110 mX10_thrown 0 := ⟨sg_X10_thrown, rfl, wd_1261, wd_7, wd_1258, wd_1259, wd_1260⟩
theorem vp_updL_at (f : Nat → Int64) (k : Nat) (x : Int64) : vp_updL f k x k = x := by simp [vp_updL]
theorem sg_L_keep : rn_sg mL_keep 2 := ⟨by decide +kernel, ⟨by decide +kernel, by decide +kernel⟩, by decide +kernel⟩
theorem kl_SGLaw_113 : rn_LSX "SealedGatewayLaw" 113 mL_keep 2 := ⟨sg_L_keep, trivial, wd_333, wd_0, wd_331, wd_332⟩
theorem sg_X10_keep : rn_sg mX10_keep 1 := ⟨by decide +kernel, ⟨by decide +kernel, by decide +kernel⟩, by decide +kernel⟩
theorem kl_SGLaw_116 : rn_LV "SealedGatewayLaw" 116 mX10_keep 1 := ⟨sg_X10_keep, rfl, wd_1285, wd_7, wd_1282, wd_1283, wd_1284⟩
theorem sg_L_poke : rn_sg mL_poke 4 := ⟨by decide +kernel, ⟨by decide +kernel, by decide +kernel⟩, by decide +kernel⟩
theorem kl_SGLaw_117 : rn_LSX "SealedGatewayLaw" 117 mL_poke 4 := ⟨sg_L_poke, trivial, wd_357, wd_0, wd_355, wd_356⟩
theorem sg_X10_poke : rn_sg mX10_poke 2 := ⟨by decide +kernel, ⟨by decide +kernel, by decide +kernel⟩, by decide +kernel⟩
theorem kl_SGLaw_120 : rn_LV "SealedGatewayLaw" 120 mX10_poke 2 := ⟨sg_X10_poke, rfl, wd_1292, wd_7, wd_1289, wd_1290, wd_1291⟩
theorem sg_L_at : rn_sg mL_at 3 := ⟨by decide +kernel, ⟨by decide +kernel, by decide +kernel⟩, by decide +kernel⟩
theorem kl_SGLaw_121 : rn_LSX "SealedGatewayLaw" 121 mL_at 3 := ⟨sg_L_at, trivial, wd_397, wd_0, wd_395, wd_396⟩
theorem sg_X10_at : rn_sg mX10_at 1 := ⟨by decide +kernel, ⟨by decide +kernel, by decide +kernel⟩, by decide +kernel⟩
theorem kl_SGLaw_124 : rn_LV "SealedGatewayLaw" 124 mX10_at 1 := ⟨sg_X10_at, rfl, wd_1296, wd_7, wd_1293, wd_1294, wd_1295⟩
theorem sg_L_make : rn_sg mL_make 8 := ⟨by decide +kernel, ⟨by decide +kernel, by decide +kernel⟩, by decide +kernel⟩
theorem kl_SGLaw_125 : rn_LSX "SealedGatewayLaw" 125 mL_make 8 := ⟨sg_L_make, trivial, wd_401, wd_0, wd_399, wd_400⟩
theorem sg_X10_make : rn_sg mX10_make 6 := ⟨by decide +kernel, ⟨by decide +kernel, by decide +kernel⟩, by decide +kernel⟩
theorem kl_SGLaw_128 : rn_LV "SealedGatewayLaw" 128 mX10_make 6 := ⟨sg_X10_make, rfl, wd_1300, wd_7, wd_1297, wd_1298, wd_1299⟩
theorem lg_self (x : Int64) : lg_cmp x x = 0 := by simp [lg_cmp]
theorem i32_5 : (5 : Int32).toInt = 5 := by decide
theorem sg_L_sum : rn_sg mL_sum 2 := ⟨by decide +kernel, ⟨by decide +kernel, by decide +kernel⟩, by decide +kernel⟩
theorem kl_SGLaw_129 : rn_LSX "SealedGatewayLaw" 129 mL_sum 2 := ⟨sg_L_sum, trivial, wd_427, wd_0, wd_425, wd_426⟩
theorem sg_X10_sum : rn_sg mX10_sum 0 := ⟨by decide +kernel, ⟨by decide +kernel, by decide +kernel⟩, by decide +kernel⟩
theorem kl_SGLaw_132 : rn_LV "SealedGatewayLaw" 132 mX10_sum 0 := ⟨sg_X10_sum, rfl, wd_1317, wd_7, wd_1314, wd_1315, wd_1316⟩
theorem sg_L_route : rn_sg mL_route 5 := ⟨by decide +kernel, ⟨by decide +kernel, by decide +kernel⟩, by decide +kernel⟩
theorem kl_SGLaw_133 : rn_LSX "SealedGatewayLaw" 133 mL_route 5 := ⟨sg_L_route, trivial, wd_435, wd_0, wd_433, wd_434⟩
theorem sg_X10_route : rn_sg mX10_route 3 := ⟨by decide +kernel, ⟨by decide +kernel, by decide +kernel⟩, by decide +kernel⟩
theorem kl_SGLaw_136 : rn_LV "SealedGatewayLaw" 136 mX10_route 3 := ⟨sg_X10_route, rfl, wd_1321, wd_7, wd_1318, wd_1319, wd_1320⟩
theorem i32_32 : (32 : Int32).toInt = 32 := by decide
theorem sg_L_peer : rn_sg mL_peer 4 := ⟨by decide +kernel, ⟨by decide +kernel, by decide +kernel⟩, by decide +kernel⟩
theorem kl_SGLaw_137 : rn_LSX "SealedGatewayLaw" 137 mL_peer 4 := ⟨sg_L_peer, trivial, wd_471, wd_0, wd_469, wd_470⟩
theorem sg_X10_peer : rn_sg mX10_peer 2 := ⟨by decide +kernel, ⟨by decide +kernel, by decide +kernel⟩, by decide +kernel⟩
theorem kl_SGLaw_139 : rn_LV "SealedGatewayLaw" 139 mX10_peer 2 := ⟨sg_X10_peer, rfl, wd_1325, wd_7, wd_1322, wd_1323, wd_1324⟩
theorem sg_L_meant : rn_sg mL_meant 4 := ⟨by decide +kernel, ⟨by decide +kernel, by decide +kernel⟩, by decide +kernel⟩
theorem kl_SGLaw_140 : rn_LSX "SealedGatewayLaw" 140 mL_meant 4 := ⟨sg_L_meant, trivial, wd_482, wd_0, wd_480, wd_481⟩
theorem sg_X10_meant : rn_sg mX10_meant 3 := ⟨by decide +kernel, ⟨by decide +kernel, by decide +kernel⟩, by decide +kernel⟩
theorem kl_SGLaw_143 : rn_LV "SealedGatewayLaw" 143 mX10_meant 3 := ⟨sg_X10_meant, rfl, wd_1329, wd_7, wd_1326, wd_1327, wd_1328⟩
theorem i32_65535 : (65535 : Int32).toInt = 65535 := by decide
theorem sg_L_policy : rn_sg mL_policy 8 := ⟨by decide +kernel, ⟨by decide +kernel, by decide +kernel⟩, by decide +kernel⟩
theorem kl_SGLaw_144 : rn_LSX "SealedGatewayLaw" 144 mL_policy 8 := ⟨sg_L_policy, trivial, wd_492, wd_0, wd_490, wd_491⟩
theorem sg_X10_policy : rn_sg mX10_policy 6 := ⟨by decide +kernel, ⟨by decide +kernel, by decide +kernel⟩, by decide +kernel⟩
theorem kl_SGLaw_146 : rn_LV "SealedGatewayLaw" 146 mX10_policy 6 := ⟨sg_X10_policy, rfl, wd_1333, wd_7, wd_1330, wd_1331, wd_1332⟩
theorem i32_7 : (7 : Int32).toInt = 7 := by decide
theorem sg_L_seal : rn_sg mL_seal 9 := ⟨by decide +kernel, ⟨by decide +kernel, by decide +kernel⟩, by decide +kernel⟩
theorem kl_SGLaw_147 : rn_LSX "SealedGatewayLaw" 147 mL_seal 9 := ⟨sg_L_seal, trivial, wd_536, wd_0, wd_534, wd_535⟩
theorem sg_X10_seal : rn_sg mX10_seal 7 := ⟨by decide +kernel, ⟨by decide +kernel, by decide +kernel⟩, by decide +kernel⟩
theorem kl_SGLaw_150 : rn_LV "SealedGatewayLaw" 150 mX10_seal 7 := ⟨sg_X10_seal, rfl, wd_1337, wd_7, wd_1334, wd_1335, wd_1336⟩
theorem i32_256 : (256 : Int32).toInt = 256 := by decide
theorem i32_1000000 : (1000000 : Int32).toInt = 1000000 := by decide
theorem sg_L_stop : rn_sg mL_stop 3 := ⟨by decide +kernel, ⟨by decide +kernel, by decide +kernel⟩, by decide +kernel⟩
theorem kl_SGLaw_151 : rn_LSX "SealedGatewayLaw" 151 mL_stop 3 := ⟨sg_L_stop, trivial, wd_594, wd_0, wd_592, wd_593⟩
theorem sg_X10_stop : rn_sg mX10_stop 1 := ⟨by decide +kernel, ⟨by decide +kernel, by decide +kernel⟩, by decide +kernel⟩
theorem kl_SGLaw_153 : rn_LV "SealedGatewayLaw" 153 mX10_stop 1 := ⟨sg_X10_stop, rfl, wd_1346, wd_7, wd_1343, wd_1344, wd_1345⟩
theorem sg_L_count : rn_sg mL_count 4 := ⟨by decide +kernel, ⟨by decide +kernel, by decide +kernel⟩, by decide +kernel⟩
theorem kl_SGLaw_154 : rn_LSX "SealedGatewayLaw" 154 mL_count 4 := ⟨sg_L_count, trivial, wd_614, wd_0, wd_612, wd_613⟩
theorem sg_X10_count : rn_sg mX10_count 2 := ⟨by decide +kernel, ⟨by decide +kernel, by decide +kernel⟩, by decide +kernel⟩
theorem kl_SGLaw_157 : rn_LV "SealedGatewayLaw" 157 mX10_count 2 := ⟨sg_X10_count, rfl, wd_1354, wd_7, wd_1351, wd_1352, wd_1353⟩
theorem sg_L_come : rn_sg mL_come 3 := ⟨by decide +kernel, ⟨by decide +kernel, by decide +kernel⟩, by decide +kernel⟩
theorem kl_SGLaw_158 : rn_LSX "SealedGatewayLaw" 158 mL_come 3 := ⟨sg_L_come, trivial, wd_636, wd_0, wd_634, wd_635⟩
theorem sg_X10_come : rn_sg mX10_come 1 := ⟨by decide +kernel, ⟨by decide +kernel, by decide +kernel⟩, by decide +kernel⟩
theorem kl_SGLaw_160 : rn_LV "SealedGatewayLaw" 160 mX10_come 1 := ⟨sg_X10_come, rfl, wd_1414, wd_7, wd_1411, wd_1412, wd_1413⟩
theorem sg_L_meaning : rn_sg mL_meaning 3 := ⟨by decide +kernel, ⟨by decide +kernel, by decide +kernel⟩, by decide +kernel⟩
theorem kl_SGLaw_161 : rn_LSX "SealedGatewayLaw" 161 mL_meaning 3 := ⟨sg_L_meaning, trivial, wd_999, wd_0, wd_997, wd_998⟩
theorem sg_X10_meaning : rn_sg mX10_meaning 1 := ⟨by decide +kernel, ⟨by decide +kernel, by decide +kernel⟩, by decide +kernel⟩
theorem kl_SGLaw_163 : rn_LV "SealedGatewayLaw" 163 mX10_meaning 1 := ⟨sg_X10_meaning, rfl, wd_1359, wd_7, wd_1356, wd_1357, wd_1358⟩
theorem sg_X9_routed : rn_sg mX9_routed 1 := ⟨by decide +kernel, ⟨by decide +kernel, by decide +kernel⟩, by decide +kernel⟩
theorem kl_SGLaw_164 : rn_LV "SealedGatewayLaw" 164 mX9_routed 1 := ⟨sg_X9_routed, rfl, wd_169, wd_1, wd_166, wd_167, wd_168⟩
theorem sg_X10_routed : rn_sg mX10_routed 1 := ⟨by decide +kernel, ⟨by decide +kernel, by decide +kernel⟩, by decide +kernel⟩
theorem kl_SGLaw_167 : rn_LV "SealedGatewayLaw" 167 mX10_routed 1 := ⟨sg_X10_routed, rfl, wd_1402, wd_7, wd_1399, wd_1400, wd_1401⟩
theorem sg_L_sent : rn_sg mL_sent 4 := ⟨by decide +kernel, ⟨by decide +kernel, by decide +kernel⟩, by decide +kernel⟩
theorem kl_SGLaw_168 : rn_LSX "SealedGatewayLaw" 168 mL_sent 4 := ⟨sg_L_sent, trivial, wd_1008, wd_0, wd_1006, wd_1007⟩
theorem sg_X10_sent : rn_sg mX10_sent 2 := ⟨by decide +kernel, ⟨by decide +kernel, by decide +kernel⟩, by decide +kernel⟩
theorem kl_SGLaw_170 : rn_LV "SealedGatewayLaw" 170 mX10_sent 2 := ⟨sg_X10_sent, rfl, wd_1536, wd_7, wd_1533, wd_1534, wd_1535⟩
theorem sg_L_take : rn_sg mL_take 3 := ⟨by decide +kernel, ⟨by decide +kernel, by decide +kernel⟩, by decide +kernel⟩
theorem kl_SGLaw_171 : rn_LSX "SealedGatewayLaw" 171 mL_take 3 := ⟨sg_L_take, trivial, wd_1019, wd_0, wd_1017, wd_1018⟩
theorem sg_X10_take : rn_sg mX10_take 1 := ⟨by decide +kernel, ⟨by decide +kernel, by decide +kernel⟩, by decide +kernel⟩
theorem kl_SGLaw_173 : rn_LV "SealedGatewayLaw" 173 mX10_take 1 := ⟨sg_X10_take, rfl, wd_1540, wd_7, wd_1537, wd_1538, wd_1539⟩
theorem sg_L_told : rn_sg mL_told 4 := ⟨by decide +kernel, ⟨by decide +kernel, by decide +kernel⟩, by decide +kernel⟩
theorem kl_SGLaw_174 : rn_LSX "SealedGatewayLaw" 174 mL_told 4 := ⟨sg_L_told, trivial, wd_1027, wd_0, wd_1025, wd_1026⟩
theorem sg_X10_told : rn_sg mX10_told 2 := ⟨by decide +kernel, ⟨by decide +kernel, by decide +kernel⟩, by decide +kernel⟩
theorem kl_SGLaw_176 : rn_LV "SealedGatewayLaw" 176 mX10_told 2 := ⟨sg_X10_told, rfl, wd_1544, wd_7, wd_1541, wd_1542, wd_1543⟩
theorem sg_L_top : rn_sg mL_top 3 := ⟨by decide +kernel, ⟨by decide +kernel, by decide +kernel⟩, by decide +kernel⟩
theorem kl_SGLaw_177 : rn_LSX "SealedGatewayLaw" 177 mL_top 3 := ⟨sg_L_top, trivial, wd_1043, wd_0, wd_1041, wd_1042⟩
theorem sg_X10_top : rn_sg mX10_top 1 := ⟨by decide +kernel, ⟨by decide +kernel, by decide +kernel⟩, by decide +kernel⟩
theorem kl_SGLaw_179 : rn_LV "SealedGatewayLaw" 179 mX10_top 1 := ⟨sg_X10_top, rfl, wd_1548, wd_7, wd_1545, wd_1546, wd_1547⟩
theorem sg_L_seen : rn_sg mL_seen 3 := ⟨by decide +kernel, ⟨by decide +kernel, by decide +kernel⟩, by decide +kernel⟩
theorem kl_SGLaw_180 : rn_LSX "SealedGatewayLaw" 180 mL_seen 3 := ⟨sg_L_seen, trivial, wd_1050, wd_0, wd_1048, wd_1049⟩
theorem sg_X10_seen : rn_sg mX10_seen 1 := ⟨by decide +kernel, ⟨by decide +kernel, by decide +kernel⟩, by decide +kernel⟩
theorem kl_SGLaw_182 : rn_LV "SealedGatewayLaw" 182 mX10_seen 1 := ⟨sg_X10_seen, rfl, wd_1552, wd_7, wd_1549, wd_1550, wd_1551⟩
theorem sg_X9_tick : rn_sg mX9_tick 0 := ⟨by decide +kernel, ⟨by decide +kernel, by decide +kernel⟩, by decide +kernel⟩
theorem kl_SGLaw_183 : rn_LV "SealedGatewayLaw" 183 mX9_tick 0 := ⟨sg_X9_tick, rfl, wd_185, wd_1, wd_182, wd_183, wd_184⟩
theorem sg_X10_tick : rn_sg mX10_tick 0 := ⟨by decide +kernel, ⟨by decide +kernel, by decide +kernel⟩, by decide +kernel⟩
theorem kl_SGLaw_186 : rn_LV "SealedGatewayLaw" 186 mX10_tick 0 := ⟨sg_X10_tick, rfl, wd_1410, wd_7, wd_1407, wd_1408, wd_1409⟩
theorem sg_L_log : rn_sg mL_log 4 := ⟨by decide +kernel, ⟨by decide +kernel, by decide +kernel⟩, by decide +kernel⟩
theorem kl_SGLaw_187 : rn_LSX "SealedGatewayLaw" 187 mL_log 4 := ⟨sg_L_log, trivial, wd_1061, wd_0, wd_1059, wd_1060⟩
theorem sg_X10_log : rn_sg mX10_log 2 := ⟨by decide +kernel, ⟨by decide +kernel, by decide +kernel⟩, by decide +kernel⟩
theorem kl_SGLaw_189 : rn_LV "SealedGatewayLaw" 189 mX10_log 2 := ⟨sg_X10_log, rfl, wd_1556, wd_7, wd_1553, wd_1554, wd_1555⟩
theorem sg_L_ended : rn_sg mL_ended 3 := ⟨by decide +kernel, ⟨by decide +kernel, by decide +kernel⟩, by decide +kernel⟩
theorem kl_SGLaw_190 : rn_LSX "SealedGatewayLaw" 190 mL_ended 3 := ⟨sg_L_ended, trivial, wd_1077, wd_0, wd_1075, wd_1076⟩
theorem sg_X10_ended : rn_sg mX10_ended 1 := ⟨by decide +kernel, ⟨by decide +kernel, by decide +kernel⟩, by decide +kernel⟩
theorem kl_SGLaw_192 : rn_LV "SealedGatewayLaw" 192 mX10_ended 1 := ⟨sg_X10_ended, rfl, wd_1560, wd_7, wd_1557, wd_1558, wd_1559⟩
theorem sg_X9_clear : rn_sg mX9_clear 0 := ⟨by decide +kernel, ⟨by decide +kernel, by decide +kernel⟩, by decide +kernel⟩
theorem kl_SGLaw_193 : rn_LV "SealedGatewayLaw" 193 mX9_clear 0 := ⟨sg_X9_clear, rfl, wd_208, wd_1, wd_205, wd_206, wd_207⟩
theorem sg_X10_clear : rn_sg mX10_clear 0 := ⟨by decide +kernel, ⟨by decide +kernel, by decide +kernel⟩, by decide +kernel⟩
theorem kl_SGLaw_196 : rn_LV "SealedGatewayLaw" 196 mX10_clear 0 := ⟨sg_X10_clear, rfl, wd_1564, wd_7, wd_1561, wd_1562, wd_1563⟩
