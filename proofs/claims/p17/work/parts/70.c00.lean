abbrev mL_cell : rn_M := (yL_cell, cL_cell, 2, (some .int), [])
theorem sg_L_cell : rn_sg mL_cell 2 := ⟨by decide +kernel, ⟨by decide +kernel, by decide +kernel⟩, by decide +kernel⟩
theorem kl_SGLaw_93 : rn_LS "SealedGatewayLaw" 93 mL_cell 2 := ⟨sg_L_cell, rfl, wd_239, wd_0, wd_237, wd_238⟩
theorem sg_X9_init : rn_sg mX9_init 1 := ⟨by decide +kernel, ⟨by decide +kernel, by decide +kernel⟩, by decide +kernel⟩
theorem kl_SGLaw_99 : rn_LI "SealedGatewayLaw" 99 mX9_init 1 := ⟨sg_X9_init, rfl, wd_25, wd_1, wd_23, wd_24, rfl, rfl⟩
theorem sg_X10_init : rn_sg mX10_init 1 := ⟨by decide +kernel, ⟨by decide +kernel, by decide +kernel⟩, by decide +kernel⟩
theorem kl_SGLaw_103 : rn_LI "SealedGatewayLaw" 103 mX10_init 1 := ⟨sg_X10_init, rfl, wd_1091, wd_7, wd_1089, wd_1090, rfl, rfl⟩
