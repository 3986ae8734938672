theorem wd_23 : (Jvm.Cond.methodLink "SealedGatewayLaw" (99 : Nat) ({ cls := "SealedGateway", name := "<init>", desc := "(I)V" } : Jvm.MethodName)) ∈ rn_T := rn_w (i := 23) (by decide +kernel) (by decide +kernel)
theorem wd_24 : (Jvm.Cond.instanceMethod ({ cls := "SealedGateway", name := "<init>", desc := "(I)V" } : Jvm.MethodName)) ∈ rn_T := rn_w (i := 24) (by decide +kernel) (by decide +kernel)
theorem wd_25 : (Jvm.Cond.code ({ cls := "SealedGateway", name := "<init>", desc := "(I)V" } : Jvm.MethodName) prog_1_method_1_code (2 : Nat) (Option.none : Option Jvm.ClassFile.FieldType)) ∈ rn_T := rn_w (i := 25) (by decide +kernel) (by decide +kernel)
theorem wd_237 : (Jvm.Cond.methodLink "SealedGatewayLaw" (93 : Nat) ({ cls := "SealedGatewayLaw", name := "cell", desc := "([II)I" } : Jvm.MethodName)) ∈ rn_T := rn_w (i := 237) (by decide +kernel) (by decide +kernel)
theorem wd_238 : (Jvm.Cond.static ({ cls := "SealedGatewayLaw", name := "cell", desc := "([II)I" } : Jvm.MethodName)) ∈ rn_T := rn_w (i := 238) (by decide +kernel) (by decide +kernel)
theorem wd_239 : (Jvm.Cond.code ({ cls := "SealedGatewayLaw", name := "cell", desc := "([II)I" } : Jvm.MethodName) method_2_code (2 : Nat) (Option.some Jvm.ClassFile.FieldType.int)) ∈ rn_T := rn_w (i := 239) (by decide +kernel) (by decide +kernel)
theorem wd_1089 : (Jvm.Cond.methodLink "SealedGatewayLaw" (103 : Nat) ({ cls := "SealedGatewayModel", name := "<init>", desc := "(I)V" } : Jvm.MethodName)) ∈ rn_T := rn_w (i := 1089) (by decide +kernel) (by decide +kernel)
theorem wd_1090 : (Jvm.Cond.instanceMethod ({ cls := "SealedGatewayModel", name := "<init>", desc := "(I)V" } : Jvm.MethodName)) ∈ rn_T := rn_w (i := 1090) (by decide +kernel) (by decide +kernel)
theorem wd_1091 : (Jvm.Cond.code ({ cls := "SealedGatewayModel", name := "<init>", desc := "(I)V" } : Jvm.MethodName) prog_12_method_1_code (2 : Nat) (Option.none : Option Jvm.ClassFile.FieldType)) ∈ rn_T := rn_w (i := 1091) (by decide +kernel) (by decide +kernel)
theorem dL_law_43 : decode cL_law 43 = .ok (.aload_n 0, 1) := by decide +kernel
theorem dL_law_44 : decode cL_law 44 = .ok (.iload 4, 2) := by decide +kernel
theorem dL_law_46 : decode cL_law 46 = .ok (.iaload, 1) := by decide +kernel
theorem dL_law_47 : decode cL_law 47 = .ok (.bipush 31, 2) := by decide +kernel
theorem dL_law_49 : decode cL_law 49 = .ok (.iand, 1) := by decide +kernel
theorem dL_law_50 : decode cL_law 50 = .ok (.tableswitch 1815 0 24 #[114, 202, 238, 306, 362, 480, 524, 604, 672, 732, 850, 1066, 1129, 1228, 1284, 1340, 1365, 1433, 1489, 1557, 1612, 1667, 1680, 1748, 1804], 114) := by decide +kernel
theorem dL_cell_0 : decode cL_cell 0 = .ok (.iload_n 1, 1) := by decide +kernel
theorem dL_cell_1 : decode cL_cell 1 = .ok (.aload_n 0, 1) := by decide +kernel
theorem dL_cell_2 : decode cL_cell 2 = .ok (.arraylength, 1) := by decide +kernel
theorem dL_cell_3 : decode cL_cell 3 = .ok (.if_icmp .ge 9, 3) := by decide +kernel
theorem dL_cell_12 : decode cL_cell 12 = .ok (.iconst 0, 1) := by decide +kernel
theorem dL_cell_13 : decode cL_cell 13 = .ok (.ireturn, 1) := by decide +kernel
theorem dL_cell_6 : decode cL_cell 6 = .ok (.aload_n 0, 1) := by decide +kernel
theorem dL_cell_7 : decode cL_cell 7 = .ok (.iload_n 1, 1) := by decide +kernel
theorem dL_cell_8 : decode cL_cell 8 = .ok (.iaload, 1) := by decide +kernel
theorem dL_cell_9 : decode cL_cell 9 = .ok (.goto 4, 3) := by decide +kernel
theorem dL_law_0 : decode cL_law 0 = .ok (.new 8, 3) := by decide +kernel
theorem dL_law_3 : decode cL_law 3 = .ok (.dup, 1) := by decide +kernel
theorem dL_law_4 : decode cL_law 4 = .ok (.aload_n 0, 1) := by decide +kernel
theorem dL_law_5 : decode cL_law 5 = .ok (.iconst 0, 1) := by decide +kernel
theorem dL_law_6 : decode cL_law 6 = .ok (.invokestatic 93, 3) := by decide +kernel
theorem dL_law_9 : decode cL_law 9 = .ok (.invokespecial 99, 3) := by decide +kernel
theorem dL_law_12 : decode cL_law 12 = .ok (.astore_n 1, 1) := by decide +kernel
theorem dL_law_13 : decode cL_law 13 = .ok (.new 101, 3) := by decide +kernel
theorem dL_law_16 : decode cL_law 16 = .ok (.dup, 1) := by decide +kernel
theorem dL_law_17 : decode cL_law 17 = .ok (.aload_n 0, 1) := by decide +kernel
theorem dL_law_18 : decode cL_law 18 = .ok (.iconst 0, 1) := by decide +kernel
theorem dL_law_19 : decode cL_law 19 = .ok (.invokestatic 93, 3) := by decide +kernel
theorem dL_law_22 : decode cL_law 22 = .ok (.invokespecial 103, 3) := by decide +kernel
theorem dL_law_25 : decode cL_law 25 = .ok (.astore_n 2, 1) := by decide +kernel
theorem dL_law_26 : decode cL_law 26 = .ok (.iconst 1, 1) := by decide +kernel
theorem dL_law_27 : decode cL_law 27 = .ok (.newarray .long, 2) := by decide +kernel
theorem dL_law_29 : decode cL_law 29 = .ok (.astore_n 3, 1) := by decide +kernel
theorem dL_law_30 : decode cL_law 30 = .ok (.iconst 1, 1) := by decide +kernel
theorem dL_law_31 : decode cL_law 31 = .ok (.istore 4, 2) := by decide +kernel
theorem i32_11 : (11 : Int32).toInt = 11 := by decide
theorem i32_13 : (13 : Int32).toInt = 13 := by decide
theorem i32_15 : (15 : Int32).toInt = 15 := by decide
theorem i32_17 : (17 : Int32).toInt = 17 := by decide
theorem i32_21 : (21 : Int32).toInt = 21 := by decide
theorem i32_22 : (22 : Int32).toInt = 22 := by decide
theorem i32_23 : (23 : Int32).toInt = 23 := by decide
theorem i32_24 : (24 : Int32).toInt = 24 := by decide
abbrev mL_cell : rn_M := (yL_cell, cL_cell, 2, (some .int), [])
theorem sg_L_cell : rn_sg mL_cell 2 := ⟨by decide +kernel, ⟨by decide +kernel, by decide +kernel⟩, by decide +kernel⟩
theorem kl_SGLaw_93 : rn_LS "SealedGatewayLaw" 93 mL_cell 2 := ⟨sg_L_cell, rfl, wd_239, wd_0, wd_237, wd_238⟩
theorem sg_X9_init : rn_sg mX9_init 1 := ⟨by decide +kernel, ⟨by decide +kernel, by decide +kernel⟩, by decide +kernel⟩
theorem kl_SGLaw_99 : rn_LI "SealedGatewayLaw" 99 mX9_init 1 := ⟨sg_X9_init, rfl, wd_25, wd_1, wd_23, wd_24, rfl, rfl⟩
theorem sg_X10_init : rn_sg mX10_init 1 := ⟨by decide +kernel, ⟨by decide +kernel, by decide +kernel⟩, by decide +kernel⟩
theorem kl_SGLaw_103 : rn_LI "SealedGatewayLaw" 103 mX10_init 1 := ⟨sg_X10_init, rfl, wd_1091, wd_7, wd_1089, wd_1090, rfl, rfl⟩
theorem wu_0 : ∀ w ∈ u_ws RX0 TX0 8, w ∈ rn_T := fun w h => by
  have h1 := List.all_eq_true.mp (show ((u_ws RX0 TX0 8).all (fun w => decide (w ∈ lw_tbl) && goodWord w)) = true by decide +kernel) w h
  simp only [Bool.and_eq_true, decide_eq_true_eq] at h1
  exact List.mem_filter.mpr h1
