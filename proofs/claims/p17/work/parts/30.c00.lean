abbrev mX10_two : rn_M := (yX10_two, cX10_two, 2, (some .int), [])
theorem wu_10 : ∀ w ∈ u_ws RX10 TX10 54, w ∈ rn_T := fun w h => by
  have h1 := List.all_eq_true.mp (show ((u_ws RX10 TX10 54).all (fun w => decide (w ∈ lw_tbl) && goodWord w)) = true by decide +kernel) w h
  simp only [Bool.and_eq_true, decide_eq_true_eq] at h1
  exact List.mem_filter.mpr h1
theorem kg_SGModel_7 : rn_F "SealedGatewayModel" 7 10 2 := ⟨RX10, TX10, 54, rfl, wu_10, by decide, wd_1096⟩
abbrev mX10_four : rn_M := (yX10_four, cX10_four, 2, (some .int), [])
theorem sg_X10_two : rn_sg mX10_two 1 := ⟨by decide +kernel, ⟨by decide +kernel, by decide +kernel⟩, by decide +kernel⟩
theorem kl_SGModel_140 : rn_LV "SealedGatewayModel" 140 mX10_two 1 := ⟨sg_X10_two, rfl, wd_1309, wd_7, wd_1306, wd_1308, (rn_ws (i := 28) (by decide +kernel) (by decide +kernel))⟩
abbrev mX10_putTwo : rn_M := (yX10_putTwo, cX10_putTwo, 3, none, [])
abbrev mX10_putFour : rn_M := (yX10_putFour, cX10_putFour, 3, none, [])
theorem sg_X10_putTwo : rn_sg mX10_putTwo 2 := ⟨by decide +kernel, ⟨by decide +kernel, by decide +kernel⟩, by decide +kernel⟩
theorem kl_SGModel_144 : rn_LV "SealedGatewayModel" 144 mX10_putTwo 2 := ⟨sg_X10_putTwo, rfl, wd_1277, wd_7, wd_1274, wd_1276, (rn_ws (i := 25) (by decide +kernel) (by decide +kernel))⟩
abbrev mX10_putEight : rn_M := (yX10_putEight, cX10_putEight, 4, none, [])
theorem sg_X10_putFour : rn_sg mX10_putFour 2 := ⟨by decide +kernel, ⟨by decide +kernel, by decide +kernel⟩, by decide +kernel⟩
theorem kl_SGModel_148 : rn_LV "SealedGatewayModel" 148 mX10_putFour 2 := ⟨sg_X10_putFour, rfl, wd_1273, wd_7, wd_1270, wd_1272, (rn_ws (i := 24) (by decide +kernel) (by decide +kernel))⟩
abbrev mX10_move : rn_M := (yX10_move, cX10_move, 5, none, [])
abbrev mX10_fold : rn_M := (yX10_fold, cX10_fold, 5, (some .int), [])
abbrev mX10_setSum : rn_M := (yX10_setSum, cX10_setSum, 2, none, [])
theorem sg_X10_fold : rn_sg mX10_fold 2 := ⟨by decide +kernel, ⟨by decide +kernel, by decide +kernel⟩, by decide +kernel⟩
theorem kl_SGModel_151 : rn_LV "SealedGatewayModel" 151 mX10_fold 2 := ⟨sg_X10_fold, rfl, wd_1305, wd_7, wd_1302, wd_1304, (rn_ws (i := 27) (by decide +kernel) (by decide +kernel))⟩
abbrev mX10_hasDont : rn_M := (yX10_hasDont, cX10_hasDont, 2, (some .boolean), [])
theorem rk_64 : Rg (64) (64) (64 : Int32) := by unfold Rg; decide
abbrev mX10_hasMore : rn_M := (yX10_hasMore, cX10_hasMore, 2, (some .boolean), [])
abbrev mX10_setOffset : rn_M := (yX10_setOffset, cX10_setOffset, 5, none, [])
theorem rk_192 : Rg (192) (192) (192 : Int32) := by unfold Rg; decide
abbrev mX10_isPart : rn_M := (yX10_isPart, cX10_isPart, 2, (some .boolean), [])
theorem sg_X10_hasMore : rn_sg mX10_hasMore 1 := ⟨by decide +kernel, ⟨by decide +kernel, by decide +kernel⟩, by decide +kernel⟩
theorem kl_SGModel_155 : rn_LV "SealedGatewayModel" 155 mX10_hasMore 1 := ⟨sg_X10_hasMore, rfl, wd_1379, wd_7, wd_1376, wd_1378, (rn_ws (i := 36) (by decide +kernel) (by decide +kernel))⟩
abbrev mX10_offsetOf : rn_M := (yX10_offsetOf, cX10_offsetOf, 2, (some .int), [])
theorem sg_X10_offsetOf : rn_sg mX10_offsetOf 1 := ⟨by decide +kernel, ⟨by decide +kernel, by decide +kernel⟩, by decide +kernel⟩
theorem kl_SGModel_159 : rn_LV "SealedGatewayModel" 159 mX10_offsetOf 1 := ⟨sg_X10_offsetOf, rfl, wd_1383, wd_7, wd_1380, wd_1382, (rn_ws (i := 37) (by decide +kernel) (by decide +kernel))⟩
abbrev mX10_doorOf : rn_M := (yX10_doorOf, cX10_doorOf, 3, (some .int), [])
theorem sg_X10_isPart : rn_sg mX10_isPart 1 := ⟨by decide +kernel, ⟨by decide +kernel, by decide +kernel⟩, by decide +kernel⟩
theorem kl_SGModel_162 : rn_LV "SealedGatewayModel" 162 mX10_isPart 1 := ⟨sg_X10_isPart, rfl, wd_1375, wd_7, wd_1372, wd_1374, (rn_ws (i := 35) (by decide +kernel) (by decide +kernel))⟩
abbrev mX10_lengthOf : rn_M := (yX10_lengthOf, cX10_lengthOf, 2, (some .int), [])
theorem sg_X10_lengthOf : rn_sg mX10_lengthOf 1 := ⟨by decide +kernel, ⟨by decide +kernel, by decide +kernel⟩, by decide +kernel⟩
theorem kl_SGModel_165 : rn_LV "SealedGatewayModel" 165 mX10_lengthOf 1 := ⟨sg_X10_lengthOf, rfl, wd_1387, wd_7, wd_1384, wd_1386, (rn_ws (i := 38) (by decide +kernel) (by decide +kernel))⟩
theorem rk_22 : Rg (22) (22) (22 : Int32) := by unfold Rg; decide
abbrev mX10_type : rn_M := (yX10_type, cX10_type, 3, (some .int), [])
theorem kp_SGModel_137 (mn : String) : rn_FP "SealedGatewayModel" mn 137 10 0 (tyX10 0) := ⟨RX10, TX10, 54, tyX10, rfl, wu_10, tyX10_ok, nmX10, by decide, wd_1094, Or.inl rfl, tyX10_ok 0 (by decide)⟩
theorem kg_SGModel_168 : rn_F "SealedGatewayModel" 168 10 3 := ⟨RX10, TX10, 54, rfl, wu_10, by decide, wd_1097⟩
abbrev mX10_refuses : rn_M := (yX10_refuses, cX10_refuses, 3, (some .boolean), [])
theorem sg_X10_refuses : rn_sg mX10_refuses 2 := ⟨by decide +kernel, ⟨by decide +kernel, by decide +kernel⟩, by decide +kernel⟩
theorem kl_SGModel_171 : rn_LV "SealedGatewayModel" 171 mX10_refuses 2 := ⟨sg_X10_refuses, rfl, wd_1265, wd_7, wd_1262, wd_1264, (rn_ws (i := 22) (by decide +kernel) (by decide +kernel))⟩
theorem kg_SGModel_137 : rn_F "SealedGatewayModel" 137 10 0 := ⟨RX10, TX10, 54, rfl, wu_10, by decide, wd_1094⟩
theorem sg_X10_putEight : rn_sg mX10_putEight 2 := ⟨by decide +kernel, ⟨by decide +kernel, by decide +kernel⟩, by decide +kernel⟩
theorem kl_SGModel_175 : rn_LV "SealedGatewayModel" 175 mX10_putEight 2 := ⟨sg_X10_putEight, rfl, wd_1269, wd_7, wd_1266, wd_1268, (rn_ws (i := 23) (by decide +kernel) (by decide +kernel))⟩
theorem kp_SGModel_168 (mn : String) : rn_FP "SealedGatewayModel" mn 168 10 3 (tyX10 3) := ⟨RX10, TX10, 54, tyX10, rfl, wu_10, tyX10_ok, nmX10, by decide, wd_1097, Or.inl rfl, tyX10_ok 3 (by decide)⟩
abbrev mX10_keep : rn_M := (yX10_keep, cX10_keep, 2, none, [])
abbrev mX10_in : rn_M := (yX10_in, cX10_in, 3, (some .boolean), [])
theorem sg_X10_in : rn_sg mX10_in 3 := ⟨by decide +kernel, ⟨by decide +kernel, by decide +kernel⟩, by decide +kernel⟩
theorem kl_SGModel_179 : rn_LS "SealedGatewayModel" 179 mX10_in 3 := ⟨sg_X10_in, rfl, wd_1284, wd_7, wd_1282, wd_1283⟩
abbrev mX10_poke : rn_M := (yX10_poke, cX10_poke, 4, (some .int), [])
abbrev mX10_at : rn_M := (yX10_at, cX10_at, 2, (some .int), [])
abbrev mX10_make : rn_M := (yX10_make, cX10_make, 8, (some .int), [])
theorem rk_1157627904 : Rg (1157627904) (1157627904) (1157627904 : Int32) := by unfold Rg; decide
theorem sg_X10_setSum : rn_sg mX10_setSum 1 := ⟨by decide +kernel, ⟨by decide +kernel, by decide +kernel⟩, by decide +kernel⟩
theorem kl_SGModel_184 : rn_LV "SealedGatewayModel" 184 mX10_setSum 1 := ⟨sg_X10_setSum, rfl, wd_1301, wd_7, wd_1298, wd_1300, (rn_ws (i := 26) (by decide +kernel) (by decide +kernel))⟩
abbrev mX10_sum : rn_M := (yX10_sum, cX10_sum, 1, (some .int), [])
abbrev mX10_route : rn_M := (yX10_route, cX10_route, 4, (some .int), [])
theorem kg_SGModel_188 : rn_F "SealedGatewayModel" 188 10 4 := ⟨RX10, TX10, 54, rfl, wu_10, by decide, wd_1098⟩
theorem kg_SGModel_13 : rn_F "SealedGatewayModel" 13 10 5 := ⟨RX10, TX10, 54, rfl, wu_10, by decide, wd_1099⟩
theorem kg_SGModel_16 : rn_F "SealedGatewayModel" 16 10 6 := ⟨RX10, TX10, 54, rfl, wu_10, by decide, wd_1100⟩
theorem kg_SGModel_19 : rn_F "SealedGatewayModel" 19 10 7 := ⟨RX10, TX10, 54, rfl, wu_10, by decide, wd_1101⟩
theorem kp_SGModel_188 (mn : String) : rn_FP "SealedGatewayModel" mn 188 10 4 (tyX10 4) := ⟨RX10, TX10, 54, tyX10, rfl, wu_10, tyX10_ok, nmX10, by decide, wd_1098, Or.inl rfl, tyX10_ok 4 (by decide)⟩
abbrev mX10_peer : rn_M := (yX10_peer, cX10_peer, 4, (some .int), [])
theorem kg_SGModel_22 : rn_F "SealedGatewayModel" 22 10 8 := ⟨RX10, TX10, 54, rfl, wu_10, by decide, wd_1102⟩
abbrev mX10_meant : rn_M := (yX10_meant, cX10_meant, 4, none, [])
theorem kp_SGModel_191 (mn : String) : rn_FP "SealedGatewayModel" mn 191 10 19 (tyX10 19) := ⟨RX10, TX10, 54, tyX10, rfl, wu_10, tyX10_ok, nmX10, by decide, wd_1113, Or.inl rfl, tyX10_ok 19 (by decide)⟩
theorem kp_SGModel_194 (mn : String) : rn_FP "SealedGatewayModel" mn 194 10 20 (tyX10 20) := ⟨RX10, TX10, 54, tyX10, rfl, wu_10, tyX10_ok, nmX10, by decide, wd_1114, Or.inl rfl, tyX10_ok 20 (by decide)⟩
theorem kp_SGModel_53 (mn : String) : rn_FP "SealedGatewayModel" mn 53 10 21 (tyX10 21) := ⟨RX10, TX10, 54, tyX10, rfl, wu_10, tyX10_ok, nmX10, by decide, wd_1115, Or.inl rfl, tyX10_ok 21 (by decide)⟩
abbrev mX10_policy : rn_M := (yX10_policy, cX10_policy, 8, (some .int), [])
theorem kg_SGModel_197 : rn_F "SealedGatewayModel" 197 10 9 := ⟨RX10, TX10, 54, rfl, wu_10, by decide, wd_1103⟩
theorem kg_SGModel_25 : rn_F "SealedGatewayModel" 25 10 10 := ⟨RX10, TX10, 54, rfl, wu_10, by decide, wd_1104⟩
theorem kg_SGModel_28 : rn_F "SealedGatewayModel" 28 10 11 := ⟨RX10, TX10, 54, rfl, wu_10, by decide, wd_1105⟩
theorem kg_SGModel_31 : rn_F "SealedGatewayModel" 31 10 12 := ⟨RX10, TX10, 54, rfl, wu_10, by decide, wd_1106⟩
theorem kg_SGModel_34 : rn_F "SealedGatewayModel" 34 10 13 := ⟨RX10, TX10, 54, rfl, wu_10, by decide, wd_1107⟩
theorem kg_SGModel_37 : rn_F "SealedGatewayModel" 37 10 14 := ⟨RX10, TX10, 54, rfl, wu_10, by decide, wd_1108⟩
theorem kg_SGModel_49 : rn_F "SealedGatewayModel" 49 10 18 := ⟨RX10, TX10, 54, rfl, wu_10, by decide, wd_1112⟩
theorem kg_SGModel_40 : rn_F "SealedGatewayModel" 40 10 15 := ⟨RX10, TX10, 54, rfl, wu_10, by decide, wd_1109⟩
theorem kg_SGModel_191 : rn_F "SealedGatewayModel" 191 10 19 := ⟨RX10, TX10, 54, rfl, wu_10, by decide, wd_1113⟩
theorem kg_SGModel_43 : rn_F "SealedGatewayModel" 43 10 16 := ⟨RX10, TX10, 54, rfl, wu_10, by decide, wd_1110⟩
theorem kg_SGModel_194 : rn_F "SealedGatewayModel" 194 10 20 := ⟨RX10, TX10, 54, rfl, wu_10, by decide, wd_1114⟩
theorem kg_SGModel_46 : rn_F "SealedGatewayModel" 46 10 17 := ⟨RX10, TX10, 54, rfl, wu_10, by decide, wd_1111⟩
theorem kg_SGModel_53 : rn_F "SealedGatewayModel" 53 10 21 := ⟨RX10, TX10, 54, rfl, wu_10, by decide, wd_1115⟩
theorem kp_SGModel_197 (mn : String) : rn_FP "SealedGatewayModel" mn 197 10 9 (tyX10 9) := ⟨RX10, TX10, 54, tyX10, rfl, wu_10, tyX10_ok, nmX10, by decide, wd_1103, Or.inl rfl, tyX10_ok 9 (by decide)⟩
abbrev mX10_sealNamed : rn_M := (yX10_sealNamed, cX10_sealNamed, 3, (some .int), [])
theorem kg_SGModel_200 : rn_F "SealedGatewayModel" 200 10 22 := ⟨RX10, TX10, 54, rfl, wu_10, by decide, wd_1116⟩
theorem kg_SGModel_57 : rn_F "SealedGatewayModel" 57 10 23 := ⟨RX10, TX10, 54, rfl, wu_10, by decide, wd_1117⟩
theorem kg_SGModel_63 : rn_F "SealedGatewayModel" 63 10 25 := ⟨RX10, TX10, 54, rfl, wu_10, by decide, wd_1119⟩
abbrev mX10_seal : rn_M := (yX10_seal, cX10_seal, 11, (some .int), [])
theorem kg_SGModel_60 : rn_F "SealedGatewayModel" 60 10 24 := ⟨RX10, TX10, 54, rfl, wu_10, by decide, wd_1118⟩
theorem kg_SGModel_66 : rn_F "SealedGatewayModel" 66 10 26 := ⟨RX10, TX10, 54, rfl, wu_10, by decide, wd_1120⟩
theorem kg_SGModel_70 : rn_F "SealedGatewayModel" 70 10 27 := ⟨RX10, TX10, 54, rfl, wu_10, by decide, wd_1121⟩
theorem kg_SGModel_73 : rn_F "SealedGatewayModel" 73 10 28 := ⟨RX10, TX10, 54, rfl, wu_10, by decide, wd_1122⟩
theorem kg_SGModel_77 : rn_F "SealedGatewayModel" 77 10 29 := ⟨RX10, TX10, 54, rfl, wu_10, by decide, wd_1123⟩
theorem kg_SGModel_80 : rn_F "SealedGatewayModel" 80 10 30 := ⟨RX10, TX10, 54, rfl, wu_10, by decide, wd_1124⟩
theorem kg_SGModel_83 : rn_F "SealedGatewayModel" 83 10 31 := ⟨RX10, TX10, 54, rfl, wu_10, by decide, wd_1125⟩
theorem kg_SGModel_86 : rn_F "SealedGatewayModel" 86 10 32 := ⟨RX10, TX10, 54, rfl, wu_10, by decide, wd_1126⟩
theorem kp_SGModel_200 (mn : String) : rn_FP "SealedGatewayModel" mn 200 10 22 (tyX10 22) := ⟨RX10, TX10, 54, tyX10, rfl, wu_10, tyX10_ok, nmX10, by decide, wd_1116, Or.inl rfl, tyX10_ok 22 (by decide)⟩
theorem sg_X10_sealNamed : rn_sg mX10_sealNamed 1 := ⟨by decide +kernel, ⟨by decide +kernel, by decide +kernel⟩, by decide +kernel⟩
theorem kl_SGModel_204 : rn_LV "SealedGatewayModel" 204 mX10_sealNamed 1 := ⟨sg_X10_sealNamed, rfl, wd_1338, wd_7, wd_1335, wd_1337, (rn_ws (i := 29) (by decide +kernel) (by decide +kernel))⟩
abbrev mX10_isDead : rn_M := (yX10_isDead, cX10_isDead, 2, (some .boolean), [])
abbrev mX10_stop : rn_M := (yX10_stop, cX10_stop, 3, (some .boolean), [])
theorem sg_X10_isDead : rn_sg mX10_isDead 1 := ⟨by decide +kernel, ⟨by decide +kernel, by decide +kernel⟩, by decide +kernel⟩
theorem kl_SGModel_207 : rn_LV "SealedGatewayModel" 207 mX10_isDead 1 := ⟨sg_X10_isDead, rfl, wd_1346, wd_7, wd_1343, wd_1345, (rn_ws (i := 30) (by decide +kernel) (by decide +kernel))⟩
abbrev mX10_count : rn_M := (yX10_count, cX10_count, 6, (some .long), [])
abbrev mX10_isIn : rn_M := (yX10_isIn, cX10_isIn, 3, (some .boolean), [])
abbrev mX10_routeOf : rn_M := (yX10_routeOf, cX10_routeOf, 4, (some .int), [])
theorem sg_X10_isIn : rn_sg mX10_isIn 3 := ⟨by decide +kernel, ⟨by decide +kernel, by decide +kernel⟩, by decide +kernel⟩
theorem kl_SGModel_212 : rn_LS "SealedGatewayModel" 212 mX10_isIn 3 := ⟨sg_X10_isIn, rfl, wd_1394, wd_7, wd_1392, wd_1393⟩
abbrev mX10_means : rn_M := (yX10_means, cX10_means, 7, (some .boolean), [])
theorem sg_X10_doorOf : rn_sg mX10_doorOf 1 := ⟨by decide +kernel, ⟨by decide +kernel, by decide +kernel⟩, by decide +kernel⟩
theorem kl_SGModel_215 : rn_LV "SealedGatewayModel" 215 mX10_doorOf 1 := ⟨sg_X10_doorOf, rfl, wd_1371, wd_7, wd_1368, wd_1370, (rn_ws (i := 34) (by decide +kernel) (by decide +kernel))⟩
theorem sg_X10_four : rn_sg mX10_four 1 := ⟨by decide +kernel, ⟨by decide +kernel, by decide +kernel⟩, by decide +kernel⟩
theorem kl_SGModel_218 : rn_LV "SealedGatewayModel" 218 mX10_four 1 := ⟨sg_X10_four, rfl, wd_1391, wd_7, wd_1388, wd_1390, (rn_ws (i := 39) (by decide +kernel) (by decide +kernel))⟩
abbrev mX10_policyOf : rn_M := (yX10_policyOf, cX10_policyOf, 4, (some .int), [])
theorem sg_X10_means : rn_sg mX10_means 2 := ⟨by decide +kernel, ⟨by decide +kernel, by decide +kernel⟩, by decide +kernel⟩
theorem kl_SGModel_221 : rn_LV "SealedGatewayModel" 221 mX10_means 2 := ⟨sg_X10_means, rfl, wd_1367, wd_7, wd_1364, wd_1366, (rn_ws (i := 33) (by decide +kernel) (by decide +kernel))⟩
abbrev mX10_meaning : rn_M := (yX10_meaning, cX10_meaning, 2, (some .int), [])
abbrev mX10_isBroken : rn_M := (yX10_isBroken, cX10_isBroken, 3, (some .boolean), [])
theorem sg_X10_isBroken : rn_sg mX10_isBroken 2 := ⟨by decide +kernel, ⟨by decide +kernel, by decide +kernel⟩, by decide +kernel⟩
theorem kl_SGModel_225 : rn_LV "SealedGatewayModel" 225 mX10_isBroken 2 := ⟨sg_X10_isBroken, rfl, wd_1359, wd_7, wd_1356, wd_1358, (rn_ws (i := 31) (by decide +kernel) (by decide +kernel))⟩
theorem sg_X10_policyOf : rn_sg mX10_policyOf 2 := ⟨by decide +kernel, ⟨by decide +kernel, by decide +kernel⟩, by decide +kernel⟩
theorem kl_SGModel_228 : rn_LV "SealedGatewayModel" 228 mX10_policyOf 2 := ⟨sg_X10_policyOf, rfl, wd_1363, wd_7, wd_1360, wd_1362, (rn_ws (i := 32) (by decide +kernel) (by decide +kernel))⟩
abbrev mX10_routed : rn_M := (yX10_routed, cX10_routed, 2, (some .int), [])
theorem sg_X10_routeOf : rn_sg mX10_routeOf 1 := ⟨by decide +kernel, ⟨by decide +kernel, by decide +kernel⟩, by decide +kernel⟩
theorem kl_SGModel_232 : rn_LV "SealedGatewayModel" 232 mX10_routeOf 1 := ⟨sg_X10_routeOf, rfl, wd_1402, wd_7, wd_1399, wd_1401, (rn_ws (i := 40) (by decide +kernel) (by decide +kernel))⟩
abbrev mX10_isTooMuch : rn_M := (yX10_isTooMuch, cX10_isTooMuch, 3, (some .boolean), [])
abbrev mX10_ends : rn_M := (yX10_ends, cX10_ends, 2, (some .int), [])
theorem kg_SGModel_116 : rn_F "SealedGatewayModel" 116 10 44 := ⟨RX10, TX10, 54, rfl, wu_10, by decide, wd_1138⟩
abbrev mX10_note : rn_M := (yX10_note, cX10_note, 6, (some .int), [])
theorem kg_SGModel_119 : rn_F "SealedGatewayModel" 119 10 46 := ⟨RX10, TX10, 54, rfl, wu_10, by decide, wd_1139⟩
theorem kg_SGModel_122 : rn_F "SealedGatewayModel" 122 10 47 := ⟨RX10, TX10, 54, rfl, wu_10, by decide, wd_1140⟩
theorem kg_SGModel_125 : rn_F "SealedGatewayModel" 125 10 48 := ⟨RX10, TX10, 54, rfl, wu_10, by decide, wd_1141⟩
theorem kg_SGModel_128 : rn_F "SealedGatewayModel" 128 10 49 := ⟨RX10, TX10, 54, rfl, wu_10, by decide, wd_1142⟩
theorem kg_SGModel_131 : rn_F "SealedGatewayModel" 131 10 50 := ⟨RX10, TX10, 54, rfl, wu_10, by decide, wd_1143⟩
theorem kg_SGModel_243 : rn_F "SealedGatewayModel" 243 10 51 := ⟨RX10, TX10, 54, rfl, wu_10, by decide, wd_1144⟩
theorem kp_SGModel_243 (mn : String) : rn_FP "SealedGatewayModel" mn 243 10 51 (tyX10 51) := ⟨RX10, TX10, 54, tyX10, rfl, wu_10, tyX10_ok, nmX10, by decide, wd_1144, Or.inl rfl, tyX10_ok 51 (by decide)⟩
abbrev mX10_stream : rn_M := (yX10_stream, cX10_stream, 9, none, [])
abbrev mX10_stampOf : rn_M := (yX10_stampOf, cX10_stampOf, 9, (some .long), [])
abbrev mX10_fillOf : rn_M := (yX10_fillOf, cX10_fillOf, 1, (some .int), [])
abbrev mX10_sealFor : rn_M := (yX10_sealFor, cX10_sealFor, 5, (some .int), [])
abbrev mX10_heapOf : rn_M := (yX10_heapOf, cX10_heapOf, 4, (some .int), [])
theorem kg_SGModel_95 : rn_F "SealedGatewayModel" 95 10 36 := ⟨RX10, TX10, 54, rfl, wu_10, by decide, wd_1130⟩
theorem kg_SGModel_98 : rn_F "SealedGatewayModel" 98 10 37 := ⟨RX10, TX10, 54, rfl, wu_10, by decide, wd_1131⟩
theorem kg_SGModel_101 : rn_F "SealedGatewayModel" 101 10 38 := ⟨RX10, TX10, 54, rfl, wu_10, by decide, wd_1132⟩
abbrev mX10_newHeap : rn_M := (yX10_newHeap, cX10_newHeap, 5, (some .int), [])
theorem kg_SGModel_104 : rn_F "SealedGatewayModel" 104 10 39 := ⟨RX10, TX10, 54, rfl, wu_10, by decide, wd_1133⟩
theorem kg_SGModel_107 : rn_F "SealedGatewayModel" 107 10 40 := ⟨RX10, TX10, 54, rfl, wu_10, by decide, wd_1134⟩
theorem kg_SGModel_292 : rn_F "SealedGatewayModel" 292 10 43 := ⟨RX10, TX10, 54, rfl, wu_10, by decide, wd_1137⟩
theorem kp_SGModel_292 (mn : String) : rn_FP "SealedGatewayModel" mn 292 10 43 (tyX10 43) := ⟨RX10, TX10, 54, tyX10, rfl, wu_10, tyX10_ok, nmX10, by decide, wd_1137, Or.inl rfl, tyX10_ok 43 (by decide)⟩
theorem kg_SGModel_110 : rn_F "SealedGatewayModel" 110 10 41 := ⟨RX10, TX10, 54, rfl, wu_10, by decide, wd_1135⟩
theorem kg_SGModel_113 : rn_F "SealedGatewayModel" 113 10 42 := ⟨RX10, TX10, 54, rfl, wu_10, by decide, wd_1136⟩
abbrev mX10_isFull : rn_M := (yX10_isFull, cX10_isFull, 4, (some .boolean), [])
abbrev mX10_tick : rn_M := (yX10_tick, cX10_tick, 3, (some .int), [])
abbrev mX10_numberOf : rn_M := (yX10_numberOf, cX10_numberOf, 8, (some .long), [])
abbrev mX10_isOld : rn_M := (yX10_isOld, cX10_isOld, 4, (some .boolean), [])
abbrev mX10_wasSeen : rn_M := (yX10_wasSeen, cX10_wasSeen, 6, (some .boolean), [])
abbrev mX10_see : rn_M := (yX10_see, cX10_see, 6, none, [])
abbrev mX10_isFilled : rn_M := (yX10_isFilled, cX10_isFilled, 6, (some .boolean), [])
abbrev mX10_come : rn_M := (yX10_come, cX10_come, 2, (some .int), [])
theorem sg_X10_move : rn_sg mX10_move 3 := ⟨by decide +kernel, ⟨by decide +kernel, by decide +kernel⟩, by decide +kernel⟩
theorem kl_SGModel_235 : rn_LV "SealedGatewayModel" 235 mX10_move 3 := ⟨sg_X10_move, rfl, wd_1418, wd_7, wd_1415, wd_1417, (rn_ws (i := 42) (by decide +kernel) (by decide +kernel))⟩
theorem rk_2200 : Rg (2200) (2200) (2200 : Int32) := by unfold Rg; decide
abbrev mX10_comeOuter : rn_M := (yX10_comeOuter, cX10_comeOuter, 3, (some .int), [])
theorem sg_X10_comeOuter : rn_sg mX10_comeOuter 1 := ⟨by decide +kernel, ⟨by decide +kernel, by decide +kernel⟩, by decide +kernel⟩
theorem kl_SGModel_359 : rn_LV "SealedGatewayModel" 359 mX10_comeOuter 1 := ⟨sg_X10_comeOuter, rfl, wd_1471, wd_7, wd_1468, wd_1470, (rn_ws (i := 53) (by decide +kernel) (by decide +kernel))⟩
theorem rk_2209 : Rg (2209) (2209) (2209 : Int32) := by unfold Rg; decide
theorem sg_X10_note : rn_sg mX10_note 4 := ⟨by decide +kernel, ⟨by decide +kernel, by decide +kernel⟩, by decide +kernel⟩
theorem kl_SGModel_323 : rn_LV "SealedGatewayModel" 323 mX10_note 4 := ⟨sg_X10_note, rfl, wd_1499, wd_7, wd_1496, wd_1498, (rn_ws (i := 60) (by decide +kernel) (by decide +kernel))⟩
abbrev mX10_goIn : rn_M := (yX10_goIn, cX10_goIn, 2, (some .int), [])
theorem sg_X10_goIn : rn_sg mX10_goIn 1 := ⟨by decide +kernel, ⟨by decide +kernel, by decide +kernel⟩, by decide +kernel⟩
theorem kl_SGModel_344 : rn_LV "SealedGatewayModel" 344 mX10_goIn 1 := ⟨sg_X10_goIn, rfl, wd_1528, wd_7, wd_1525, wd_1527, (rn_ws (i := 66) (by decide +kernel) (by decide +kernel))⟩
theorem rk_2208 : Rg (2208) (2208) (2208 : Int32) := by unfold Rg; decide
theorem rk_2216 : Rg (2216) (2216) (2216 : Int32) := by unfold Rg; decide
theorem rk_2202 : Rg (2202) (2202) (2202 : Int32) := by unfold Rg; decide
theorem sg_X10_hasDont : rn_sg mX10_hasDont 1 := ⟨by decide +kernel, ⟨by decide +kernel, by decide +kernel⟩, by decide +kernel⟩
theorem kl_SGModel_270 : rn_LV "SealedGatewayModel" 270 mX10_hasDont 1 := ⟨sg_X10_hasDont, rfl, wd_1426, wd_7, wd_1423, wd_1425, (rn_ws (i := 44) (by decide +kernel) (by decide +kernel))⟩
theorem sg_X10_isTooMuch : rn_sg mX10_isTooMuch 2 := ⟨by decide +kernel, ⟨by decide +kernel, by decide +kernel⟩, by decide +kernel⟩
theorem kl_SGModel_275 : rn_LV "SealedGatewayModel" 275 mX10_isTooMuch 2 := ⟨sg_X10_isTooMuch, rfl, wd_1430, wd_7, wd_1427, wd_1429, (rn_ws (i := 45) (by decide +kernel) (by decide +kernel))⟩
abbrev mX10_hop : rn_M := (yX10_hop, cX10_hop, 2, none, [])
theorem sg_X10_hop : rn_sg mX10_hop 1 := ⟨by decide +kernel, ⟨by decide +kernel, by decide +kernel⟩, by decide +kernel⟩
theorem kl_SGModel_279 : rn_LV "SealedGatewayModel" 279 mX10_hop 1 := ⟨sg_X10_hop, rfl, wd_1434, wd_7, wd_1431, wd_1433, (rn_ws (i := 46) (by decide +kernel) (by decide +kernel))⟩
abbrev mX10_send : rn_M := (yX10_send, cX10_send, 7, (some .int), [])
theorem sg_X10_send : rn_sg mX10_send 2 := ⟨by decide +kernel, ⟨by decide +kernel, by decide +kernel⟩, by decide +kernel⟩
theorem kl_SGModel_282 : rn_LV "SealedGatewayModel" 282 mX10_send 2 := ⟨sg_X10_send, rfl, wd_1438, wd_7, wd_1435, wd_1437, (rn_ws (i := 47) (by decide +kernel) (by decide +kernel))⟩
theorem kp_SGModel_92 (mn : String) : rn_FP "SealedGatewayModel" mn 92 10 35 (tyX10 35) := ⟨RX10, TX10, 54, tyX10, rfl, wu_10, tyX10_ok, nmX10, by decide, wd_1129, Or.inl rfl, tyX10_ok 35 (by decide)⟩
theorem kg_SGModel_89 : rn_F "SealedGatewayModel" 89 10 34 := ⟨RX10, TX10, 54, rfl, wu_10, by decide, wd_1128⟩
theorem rk_2206 : Rg (2206) (2206) (2206 : Int32) := by unfold Rg; decide
theorem rk_8800 : Rg (8800) (8800) (8800 : Int32) := by unfold Rg; decide
theorem rk_8802 : Rg (8802) (8802) (8802 : Int32) := by unfold Rg; decide
theorem sg_X10_setOffset : rn_sg mX10_setOffset 3 := ⟨by decide +kernel, ⟨by decide +kernel, by decide +kernel⟩, by decide +kernel⟩
theorem kl_SGModel_239 : rn_LV "SealedGatewayModel" 239 mX10_setOffset 3 := ⟨sg_X10_setOffset, rfl, wd_1442, wd_7, wd_1439, wd_1441, (rn_ws (i := 48) (by decide +kernel) (by decide +kernel))⟩
theorem rk_11000 : Rg (11000) (11000) (11000 : Int32) := by unfold Rg; decide
theorem rk_11020 : Rg (11020) (11020) (11020 : Int32) := by unfold Rg; decide
theorem rk_3700 : Rg (3700) (3700) (3700 : Int32) := by unfold Rg; decide
theorem rk_11002 : Rg (11002) (11002) (11002 : Int32) := by unfold Rg; decide
theorem rk_185 : Rg (185) (185) (185 : Int32) := by unfold Rg; decide
theorem kg_SGModel_134 : rn_F "SealedGatewayModel" 134 10 1 := ⟨RX10, TX10, 54, rfl, wu_10, by decide, wd_1095⟩
abbrev mX10_open : rn_M := (yX10_open, cX10_open, 13, (some .int), [])
theorem sg_X10_open : rn_sg mX10_open 1 := ⟨by decide +kernel, ⟨by decide +kernel, by decide +kernel⟩, by decide +kernel⟩
theorem kl_SGModel_350 : rn_LV "SealedGatewayModel" 350 mX10_open 1 := ⟨sg_X10_open, rfl, wd_1495, wd_7, wd_1492, wd_1494, (rn_ws (i := 59) (by decide +kernel) (by decide +kernel))⟩
theorem rk_2220 : Rg (2220) (2220) (2220 : Int32) := by unfold Rg; decide
theorem kp_SGModel_317 (mn : String) : rn_FP "SealedGatewayModel" mn 317 10 52 (tyX10 52) := ⟨RX10, TX10, 54, tyX10, rfl, wu_10, tyX10_ok, nmX10, by decide, wd_1145, Or.inl rfl, tyX10_ok 52 (by decide)⟩
theorem rk_2224 : Rg (2224) (2224) (2224 : Int32) := by unfold Rg; decide
theorem kp_SGModel_320 (mn : String) : rn_FP "SealedGatewayModel" mn 320 10 53 (tyX10 53) := ⟨RX10, TX10, 54, tyX10, rfl, wu_10, tyX10_ok, nmX10, by decide, wd_1146, Or.inl rfl, tyX10_ok 53 (by decide)⟩
theorem kg_SGModel_317 : rn_F "SealedGatewayModel" 317 10 52 := ⟨RX10, TX10, 54, rfl, wu_10, by decide, wd_1145⟩
theorem kg_SGModel_320 : rn_F "SealedGatewayModel" 320 10 53 := ⟨RX10, TX10, 54, rfl, wu_10, by decide, wd_1146⟩
theorem rk_2212 : Rg (2212) (2212) (2212 : Int32) := by unfold Rg; decide
theorem sg_X10_numberOf : rn_sg mX10_numberOf 2 := ⟨by decide +kernel, ⟨by decide +kernel, by decide +kernel⟩, by decide +kernel⟩
theorem kl_SGModel_327 : rn_LV "SealedGatewayModel" 327 mX10_numberOf 2 := ⟨sg_X10_numberOf, rfl, wd_1503, wd_7, wd_1500, wd_1502, (rn_ws (i := 61) (by decide +kernel) (by decide +kernel))⟩
theorem sg_X10_isOld : rn_sg mX10_isOld 2 := ⟨by decide +kernel, ⟨by decide +kernel, by decide +kernel⟩, by decide +kernel⟩
theorem kl_SGModel_331 : rn_LV "SealedGatewayModel" 331 mX10_isOld 2 := ⟨sg_X10_isOld, rfl, wd_1511, wd_7, wd_1508, wd_1510, (rn_ws (i := 62) (by decide +kernel) (by decide +kernel))⟩
theorem sg_X10_wasSeen : rn_sg mX10_wasSeen 2 := ⟨by decide +kernel, ⟨by decide +kernel, by decide +kernel⟩, by decide +kernel⟩
theorem kl_SGModel_335 : rn_LV "SealedGatewayModel" 335 mX10_wasSeen 2 := ⟨sg_X10_wasSeen, rfl, wd_1516, wd_7, wd_1513, wd_1515, (rn_ws (i := 63) (by decide +kernel) (by decide +kernel))⟩
theorem sg_X10_stampOf : rn_sg mX10_stampOf 4 := ⟨by decide +kernel, ⟨by decide +kernel, by decide +kernel⟩, by decide +kernel⟩
theorem kl_SGModel_263 : rn_LV "SealedGatewayModel" 263 mX10_stampOf 4 := ⟨sg_X10_stampOf, rfl, wd_1465, wd_7, wd_1462, wd_1464, (rn_ws (i := 52) (by decide +kernel) (by decide +kernel))⟩
theorem sg_X10_see : rn_sg mX10_see 2 := ⟨by decide +kernel, ⟨by decide +kernel, by decide +kernel⟩, by decide +kernel⟩
theorem kl_SGModel_338 : rn_LV "SealedGatewayModel" 338 mX10_see 2 := ⟨sg_X10_see, rfl, wd_1520, wd_7, wd_1517, wd_1519, (rn_ws (i := 64) (by decide +kernel) (by decide +kernel))⟩
theorem rk_6600 : Rg (6600) (6600) (6600 : Int32) := by unfold Rg; decide
theorem rk_2228 : Rg (2228) (2228) (2228 : Int32) := by unfold Rg; decide
theorem sg_X10_stream : rn_sg mX10_stream 4 := ⟨by decide +kernel, ⟨by decide +kernel, by decide +kernel⟩, by decide +kernel⟩
theorem kl_SGModel_259 : rn_LV "SealedGatewayModel" 259 mX10_stream 4 := ⟨sg_X10_stream, rfl, wd_1458, wd_7, wd_1455, wd_1457, (rn_ws (i := 51) (by decide +kernel) (by decide +kernel))⟩
theorem sg_X10_isFilled : rn_sg mX10_isFilled 3 := ⟨by decide +kernel, ⟨by decide +kernel, by decide +kernel⟩, by decide +kernel⟩
theorem kl_SGModel_341 : rn_LV "SealedGatewayModel" 341 mX10_isFilled 3 := ⟨sg_X10_isFilled, rfl, wd_1524, wd_7, wd_1521, wd_1523, (rn_ws (i := 65) (by decide +kernel) (by decide +kernel))⟩
theorem rk_6602 : Rg (6602) (6602) (6602 : Int32) := by unfold Rg; decide
theorem rk_6608 : Rg (6608) (6608) (6608 : Int32) := by unfold Rg; decide
theorem rk_6616 : Rg (6616) (6616) (6616 : Int32) := by unfold Rg; decide
theorem rk_6606 : Rg (6606) (6606) (6606 : Int32) := by unfold Rg; decide
theorem rk_8100 : Rg (8100) (8100) (8100 : Int32) := by unfold Rg; decide
abbrev mX10_heap : rn_M := (yX10_heap, cX10_heap, 9, (some .int), [])
theorem sg_X10_heap : rn_sg mX10_heap 1 := ⟨by decide +kernel, ⟨by decide +kernel, by decide +kernel⟩, by decide +kernel⟩
theorem kl_SGModel_347 : rn_LV "SealedGatewayModel" 347 mX10_heap 1 := ⟨sg_X10_heap, rfl, wd_1475, wd_7, wd_1472, wd_1474, (rn_ws (i := 54) (by decide +kernel) (by decide +kernel))⟩
theorem rk_2204 : Rg (2204) (2204) (2204 : Int32) := by unfold Rg; decide
theorem sg_X10_heapOf : rn_sg mX10_heapOf 2 := ⟨by decide +kernel, ⟨by decide +kernel, by decide +kernel⟩, by decide +kernel⟩
theorem kl_SGModel_295 : rn_LV "SealedGatewayModel" 295 mX10_heapOf 2 := ⟨sg_X10_heapOf, rfl, wd_1479, wd_7, wd_1476, wd_1478, (rn_ws (i := 55) (by decide +kernel) (by decide +kernel))⟩
abbrev mX10_isWrong : rn_M := (yX10_isWrong, cX10_isWrong, 9, (some .boolean), [])
theorem sg_X10_isWrong : rn_sg mX10_isWrong 2 := ⟨by decide +kernel, ⟨by decide +kernel, by decide +kernel⟩, by decide +kernel⟩
theorem kl_SGModel_298 : rn_LV "SealedGatewayModel" 298 mX10_isWrong 2 := ⟨sg_X10_isWrong, rfl, wd_1483, wd_7, wd_1480, wd_1482, (rn_ws (i := 56) (by decide +kernel) (by decide +kernel))⟩
theorem rk_13200 : Rg (13200) (13200) (13200 : Int32) := by unfold Rg; decide
theorem sg_X10_isFull : rn_sg mX10_isFull 1 := ⟨by decide +kernel, ⟨by decide +kernel, by decide +kernel⟩, by decide +kernel⟩
theorem kl_SGModel_304 : rn_LV "SealedGatewayModel" 304 mX10_isFull 1 := ⟨sg_X10_isFull, rfl, wd_1491, wd_7, wd_1488, wd_1490, (rn_ws (i := 58) (by decide +kernel) (by decide +kernel))⟩
theorem sg_X10_newHeap : rn_sg mX10_newHeap 2 := ⟨by decide +kernel, ⟨by decide +kernel, by decide +kernel⟩, by decide +kernel⟩
theorem kl_SGModel_301 : rn_LV "SealedGatewayModel" 301 mX10_newHeap 2 := ⟨sg_X10_newHeap, rfl, wd_1487, wd_7, wd_1484, wd_1486, (rn_ws (i := 57) (by decide +kernel) (by decide +kernel))⟩
theorem sg_X10_ends : rn_sg mX10_ends 1 := ⟨by decide +kernel, ⟨by decide +kernel, by decide +kernel⟩, by decide +kernel⟩
theorem kl_SGModel_353 : rn_LV "SealedGatewayModel" 353 mX10_ends 1 := ⟨sg_X10_ends, rfl, wd_1414, wd_7, wd_1411, wd_1413, (rn_ws (i := 41) (by decide +kernel) (by decide +kernel))⟩
abbrev mX10_goOut : rn_M := (yX10_goOut, cX10_goOut, 5, (some .int), [])
theorem sg_X10_goOut : rn_sg mX10_goOut 1 := ⟨by decide +kernel, ⟨by decide +kernel, by decide +kernel⟩, by decide +kernel⟩
theorem kl_SGModel_356 : rn_LV "SealedGatewayModel" 356 mX10_goOut 1 := ⟨sg_X10_goOut, rfl, wd_1422, wd_7, wd_1419, wd_1421, (rn_ws (i := 43) (by decide +kernel) (by decide +kernel))⟩
theorem sg_X10_sealFor : rn_sg mX10_sealFor 1 := ⟨by decide +kernel, ⟨by decide +kernel, by decide +kernel⟩, by decide +kernel⟩
theorem kl_SGModel_285 : rn_LV "SealedGatewayModel" 285 mX10_sealFor 1 := ⟨sg_X10_sealFor, rfl, wd_1446, wd_7, wd_1443, wd_1445, (rn_ws (i := 49) (by decide +kernel) (by decide +kernel))⟩
theorem sg_X10_fillOf : rn_sg mX10_fillOf 1 := ⟨by decide +kernel, ⟨by decide +kernel, by decide +kernel⟩, by decide +kernel⟩
theorem kl_SGModel_256 : rn_LS "SealedGatewayModel" 256 mX10_fillOf 1 := ⟨sg_X10_fillOf, rfl, wd_1450, wd_7, wd_1448, wd_1449⟩
theorem rk_38 : Rg (38) (38) (38 : Int32) := by unfold Rg; decide
abbrev mX10_sealIt : rn_M := (yX10_sealIt, cX10_sealIt, 10, none, [])
theorem sg_X10_sealIt : rn_sg mX10_sealIt 3 := ⟨by decide +kernel, ⟨by decide +kernel, by decide +kernel⟩, by decide +kernel⟩
theorem kl_SGModel_288 : rn_LV "SealedGatewayModel" 288 mX10_sealIt 3 := ⟨sg_X10_sealIt, rfl, wd_1454, wd_7, wd_1451, wd_1453, (rn_ws (i := 50) (by decide +kernel) (by decide +kernel))⟩
theorem rk_4428 : Rg (4428) (4428) (4428 : Int32) := by unfold Rg; decide
theorem rk_4420 : Rg (4420) (4420) (4420 : Int32) := by unfold Rg; decide
theorem rk_4424 : Rg (4424) (4424) (4424 : Int32) := by unfold Rg; decide
theorem rk_4400 : Rg (4400) (4400) (4400 : Int32) := by unfold Rg; decide
theorem rk_2201 : Rg (2201) (2201) (2201 : Int32) := by unfold Rg; decide
theorem rk_4401 : Rg (4401) (4401) (4401 : Int32) := by unfold Rg; decide
theorem rk_4402 : Rg (4402) (4402) (4402 : Int32) := by unfold Rg; decide
theorem kg_SGModel_267 : rn_F "SealedGatewayModel" 267 10 33 := ⟨RX10, TX10, 54, rfl, wu_10, by decide, wd_1127⟩
theorem rk_4404 : Rg (4404) (4404) (4404 : Int32) := by unfold Rg; decide
theorem rk_4406 : Rg (4406) (4406) (4406 : Int32) := by unfold Rg; decide
theorem rk_4408 : Rg (4408) (4408) (4408 : Int32) := by unfold Rg; decide
theorem rk_4409 : Rg (4409) (4409) (4409 : Int32) := by unfold Rg; decide
theorem rk_4412 : Rg (4412) (4412) (4412 : Int32) := by unfold Rg; decide
theorem rk_4416 : Rg (4416) (4416) (4416 : Int32) := by unfold Rg; decide
theorem kp_SGModel_267 (mn : String) : rn_FP "SealedGatewayModel" mn 267 10 33 (tyX10 33) := ⟨RX10, TX10, 54, tyX10, rfl, wu_10, tyX10_ok, nmX10, by decide, wd_1127, Or.inl rfl, tyX10_ok 33 (by decide)⟩
theorem rk_5900 : Rg (5900) (5900) (5900 : Int32) := by unfold Rg; decide
abbrev mX10_sent : rn_M := (yX10_sent, cX10_sent, 4, (some .int), [])
theorem kg_SGModel_92 : rn_F "SealedGatewayModel" 92 10 35 := ⟨RX10, TX10, 54, rfl, wu_10, by decide, wd_1129⟩
abbrev mX10_take : rn_M := (yX10_take, cX10_take, 2, (some .int), [])
abbrev mX10_told : rn_M := (yX10_told, cX10_told, 3, (some .int), [])
abbrev mX10_top : rn_M := (yX10_top, cX10_top, 2, (some .long), [])
abbrev mX10_seen : rn_M := (yX10_seen, cX10_seen, 2, (some .long), [])
abbrev mX10_log : rn_M := (yX10_log, cX10_log, 3, (some .int), [])
abbrev mX10_ended : rn_M := (yX10_ended, cX10_ended, 4, (some .int), [])
theorem rk_19 : Rg (19) (19) (19 : Int32) := by unfold Rg; decide
abbrev mX10_clear : rn_M := (yX10_clear, cX10_clear, 2, none, [])
