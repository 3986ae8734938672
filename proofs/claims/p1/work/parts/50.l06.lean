set_option maxRecDepth 20000 in
set_option maxHeartbeats 4000000 in
theorem law_11 (G : rn_G) (ws : va_W) (hL : G.2.2.2.2.1.2.1 = 11) (o_sg : Nat) (fs_sg : List Value) (o_m : Nat) (fs_m : List Value) (o_out : Nat) (h_sg : ws[0]? = some (o_sg, Sum.inr (9, fs_sg))) (hf_sg_11 : fs_sg[11]? = some (.int (0 : Int32))) (h_m : ws[23]? = some (o_m, Sum.inr (10, fs_m))) (hf_m_0 : fs_m[0]? = some (.int (0 : Int32))) (hf_m_22 : fs_m[22]? = some (.int (0 : Int32))) (h_out : ws[62]? = some (o_out, Sum.inl (rn_k G 2, 1, Sum.inr (Sum.inl (fun _ => 0))))) : Rn G mL_law 9 158 1 6 1116 [(0, .ref G.2.2.2.2.1.1), (1, .ref o_sg), (2, .ref o_m), (3, .ref o_out), (4, .int (1 : Int32))] [] ws (fun r _ => r = Sum.inl (some (.int 1))) := by
  obtain ⟨sc2, se2⟩ : ∃ x : Int32, G.2.2.2.2.1.2.2 (2 : Int32).toNatClampNeg = x := ⟨_, rfl⟩
  refine rn_aload_n (i := 1) dL_law_1116 rfl rfl ?_
  refine rn_aload_n (i := 0) dL_law_1117 rfl rfl ?_
  refine rn_iload dL_law_1118 rfl ?_
  refine rn_iconst (v := (1 : Int32)) dL_law_1120 (by decide) ?_
  refine rn_iadd dL_law_1121 ?_
  refine rn_topi (2 : Int32) (by decide) ?_
  refine rn_sld (by rw [hL]; unfold vp_in; decide) dL_law_1122 ?_
  refine rn_topi sc2 se2 ?_
  refine rn_aload_n (i := 3) dL_law_1123 rfl rfl ?_
  refine rn_callSX (a := 0) (b := 0) [.ref o_sg, .int sc2, .ref o_out] kl_SGLaw_151 dL_law_1124 (c_L_stop G _ (o_sg := o_sg) (x := sc2) (o_out := o_out) (fs_sg := fs_sg) h_sg hf_sg_11) rfl rfl (Nat.le_of_ble_eq_true rfl) (Nat.le_of_ble_eq_true rfl) (Nat.le_of_ble_eq_true rfl) (Nat.le_of_ble_eq_true rfl) (Nat.le_of_ble_eq_true rfl) (Nat.le_of_ble_eq_true rfl) (by rintro E w h; rcases h with ⟨_, hr, _⟩ <;> cases hr) ?_
  rintro v w h
  obtain ⟨hc1, hr, hw⟩ := h; cases hr; rw [hw]
  refine rn_stk [.int (1 : Int32)] rfl ?_
  refine rn_istore dL_law_1127 (by decide) [(0, .ref G.2.2.2.2.1.1), (1, .ref o_sg), (2, .ref o_m), (3, .ref o_out), (4, .int (1 : Int32)), (5, .int (1 : Int32))] rfl ?_
  refine rn_aload_n (i := 2) dL_law_1129 rfl rfl ?_
  refine rn_aload_n (i := 0) dL_law_1130 rfl rfl ?_
  refine rn_iload dL_law_1131 rfl ?_
  refine rn_iconst (v := (1 : Int32)) dL_law_1133 (by decide) ?_
  refine rn_iadd dL_law_1134 ?_
  refine rn_topi (2 : Int32) (by decide) ?_
  refine rn_sld (by rw [hL]; unfold vp_in; decide) dL_law_1135 ?_
  refine rn_topi sc2 se2 ?_
  refine rn_callV (a := 0) (b := 0) [.int sc2] kl_SGLaw_153 dL_law_1136 23 h_m rfl (c_X10_stop G _ (o_m := o_m) (k := sc2) (fs_m := fs_m) h_m hf_m_0 hf_m_22) rfl rfl (Nat.le_of_ble_eq_true rfl) (Nat.le_of_ble_eq_true rfl) (Nat.le_of_ble_eq_true rfl) (Nat.le_of_ble_eq_true rfl) (Nat.le_of_ble_eq_true rfl) (Nat.le_of_ble_eq_true rfl) (by rintro E w h; rcases h with ⟨_, hr, _⟩ <;> cases hr) ?_
  rintro v w h
  obtain ⟨hc2, hr, hw⟩ := h; cases hr
  have hw3 : w[23]? = some (o_m, Sum.inr (10, ((fs_m.set 0 (.int (0 : Int32))).set 0 (.int (1 : Int32))))) := by rw [hw, List.getElem?_set_self (by (try simp only [List.length_set, List.length_append, List.length_cons, List.length_nil]); have hq := ls_lt h_m; omega)]
  have hw4 : w[62]? = some (o_out, Sum.inl (rn_k G 2, 1, Sum.inr (Sum.inl (fun _ => 0)))) := by rw [hw, List.getElem?_set_ne (by decide), List.getElem?_set_ne (by decide), h_out]
  refine rn_stk [.int (0 : Int32)] rfl ?_
  refine rn_istore dL_law_1139 (by decide) [(0, .ref G.2.2.2.2.1.1), (1, .ref o_sg), (2, .ref o_m), (3, .ref o_out), (4, .int (1 : Int32)), (5, .int (1 : Int32)), (6, .int (0 : Int32))] rfl ?_
  refine rn_aload_n (i := 2) dL_law_1141 rfl rfl ?_
  refine rn_callV (a := 0) (b := 0) [] kl_SGLaw_110 dL_law_1142 23 hw3 rfl (c_X10_thrown G _ (o_m := o_m) (fs_m := ((fs_m.set 0 (.int (0 : Int32))).set 0 (.int (1 : Int32)))) (th := (1 : Int32)) hw3 (ls_eq (ls_eq hf_m_0))) rfl rfl (Nat.le_of_ble_eq_true rfl) (Nat.le_of_ble_eq_true rfl) (Nat.le_of_ble_eq_true rfl) (Nat.le_of_ble_eq_true rfl) (Nat.le_of_ble_eq_true rfl) (Nat.le_of_ble_eq_true rfl) (by rintro E w h; rcases h with ⟨_, hr, _⟩ <;> cases hr) ?_
  rintro v w h
  obtain ⟨hc5, hr, hw⟩ := h; cases hr; rw [hw]
  refine rn_stk [.int (1 : Int32)] rfl ?_
  refine rn_iload dL_law_1145 rfl ?_
  refine rn_icmp_eq (tgt := 1152) dL_law_1147 (by decide) (fun h6 => ?_) (fun h6 => absurd h6 (by decide))
  refine rn_iload dL_law_1152 rfl ?_
  refine rn_if_ne (tgt := 1176) dL_law_1154 (by decide) (fun h7 => ?_) (fun h7 => absurd h7 (by decide))
  refine rn_goto (tgt := 1865) dL_law_1176 (by decide) ?_
  refine rn_lv [(0, .ref G.2.2.2.2.1.1), (1, .ref o_sg), (2, .ref o_m), (3, .ref o_out), (4, .int (1 : Int32))] rfl ?_
  exact law_end G _ hL _ _ _
set_option maxRecDepth 20000 in
set_option maxHeartbeats 4000000 in
theorem law_12 (G : rn_G) (ws : va_W) (hL : G.2.2.2.2.1.2.1 = 11) (o_sg : Nat) (fs_sg : List Value) (o_m : Nat) (fs_m : List Value) (o_out : Nat) (h_sg : ws[0]? = some (o_sg, Sum.inr (9, fs_sg))) (hf_sg_11 : fs_sg[11]? = some (.int (0 : Int32))) (h_m : ws[23]? = some (o_m, Sum.inr (10, fs_m))) (hf_m_0 : fs_m[0]? = some (.int (0 : Int32))) (hf_m_22 : fs_m[22]? = some (.int (0 : Int32))) (h_out : ws[62]? = some (o_out, Sum.inl (rn_k G 2, 1, Sum.inr (Sum.inl (fun _ => 0))))) : Rn G mL_law 9 163 1 6 1179 [(0, .ref G.2.2.2.2.1.1), (1, .ref o_sg), (2, .ref o_m), (3, .ref o_out), (4, .int (1 : Int32))] [] ws (fun r _ => r = Sum.inl (some (.int 1))) := by
  obtain ⟨sc2, se2⟩ : ∃ x : Int32, G.2.2.2.2.1.2.2 (2 : Int32).toNatClampNeg = x := ⟨_, rfl⟩
  obtain ⟨sc3, se3⟩ : ∃ x : Int32, G.2.2.2.2.1.2.2 (3 : Int32).toNatClampNeg = x := ⟨_, rfl⟩
  obtain ⟨sc4, se4⟩ : ∃ x : Int32, G.2.2.2.2.1.2.2 (4 : Int32).toNatClampNeg = x := ⟨_, rfl⟩
  refine rn_aload_n (i := 1) dL_law_1179 rfl rfl ?_
  refine rn_aload_n (i := 0) dL_law_1180 rfl rfl ?_
  refine rn_iload dL_law_1181 rfl ?_
  refine rn_iconst (v := (1 : Int32)) dL_law_1183 (by decide) ?_
  refine rn_iadd dL_law_1184 ?_
  refine rn_topi (2 : Int32) (by decide) ?_
  refine rn_sld (by rw [hL]; unfold vp_in; decide) dL_law_1185 ?_
  refine rn_topi sc2 se2 ?_
  refine rn_aload_n (i := 0) dL_law_1186 rfl rfl ?_
  refine rn_iload dL_law_1187 rfl ?_
  refine rn_iconst (v := (2 : Int32)) dL_law_1189 (by decide) ?_
  refine rn_iadd dL_law_1190 ?_
  refine rn_topi (3 : Int32) (by decide) ?_
  refine rn_sld (by rw [hL]; unfold vp_in; decide) dL_law_1191 ?_
  refine rn_topi sc3 se3 ?_
  refine rn_i2l dL_law_1192 rfl ?_
  refine rn_bipush (v := (32 : Int32)) dL_law_1193 (by decide) ?_
  refine rn_lshl dL_law_1195 rfl ?_
  refine rn_aload_n (i := 0) dL_law_1196 rfl rfl ?_
  refine rn_iload dL_law_1197 rfl ?_
  refine rn_iconst (v := (3 : Int32)) dL_law_1199 (by decide) ?_
  refine rn_iadd dL_law_1200 ?_
  refine rn_topi (4 : Int32) (by decide) ?_
  refine rn_sld (by rw [hL]; unfold vp_in; decide) dL_law_1201 ?_
  refine rn_topi sc4 se4 ?_
  refine rn_i2l dL_law_1202 rfl ?_
  refine rn_ldc2 (v := (4294967295 : Int64)) wd_1565 dL_law_1203 ?_
  refine rn_land dL_law_1206 ?_
  refine rn_lor dL_law_1207 ?_
  refine rn_aload_n (i := 3) dL_law_1208 rfl rfl ?_
  refine rn_callSX (a := 0) (b := 0) [.ref o_sg, .int sc2, .long (((sc3).toInt64 <<< (((32 : Int32)).toInt64 &&& 63)) ||| ((sc4).toInt64 &&& (4294967295 : Int64))), .ref o_out] kl_SGLaw_154 dL_law_1209 (c_L_count G _ (o_sg := o_sg) (x := sc2) (y := (((sc3).toInt64 <<< (((32 : Int32)).toInt64 &&& 63)) ||| ((sc4).toInt64 &&& (4294967295 : Int64)))) (o_out := o_out) (fs_sg := fs_sg) h_sg hf_sg_11) rfl rfl (Nat.le_of_ble_eq_true rfl) (Nat.le_of_ble_eq_true rfl) (Nat.le_of_ble_eq_true rfl) (Nat.le_of_ble_eq_true rfl) (Nat.le_of_ble_eq_true rfl) (Nat.le_of_ble_eq_true rfl) (by rintro E w h; rcases h with ⟨_, hr, _⟩ <;> cases hr) ?_
  rintro v w h
  obtain ⟨hc1, hr, hw⟩ := h; cases hr; rw [hw]
  refine rn_stk [.int (1 : Int32)] rfl ?_
  refine rn_istore dL_law_1212 (by decide) [(0, .ref G.2.2.2.2.1.1), (1, .ref o_sg), (2, .ref o_m), (3, .ref o_out), (4, .int (1 : Int32)), (5, .int (1 : Int32))] rfl ?_
  refine rn_aload_n (i := 2) dL_law_1214 rfl rfl ?_
  refine rn_aload_n (i := 0) dL_law_1215 rfl rfl ?_
  refine rn_iload dL_law_1216 rfl ?_
  refine rn_iconst (v := (1 : Int32)) dL_law_1218 (by decide) ?_
  refine rn_iadd dL_law_1219 ?_
  refine rn_topi (2 : Int32) (by decide) ?_
  refine rn_sld (by rw [hL]; unfold vp_in; decide) dL_law_1220 ?_
  refine rn_topi sc2 se2 ?_
  refine rn_aload_n (i := 0) dL_law_1221 rfl rfl ?_
  refine rn_iload dL_law_1222 rfl ?_
  refine rn_iconst (v := (2 : Int32)) dL_law_1224 (by decide) ?_
  refine rn_iadd dL_law_1225 ?_
  refine rn_topi (3 : Int32) (by decide) ?_
  refine rn_sld (by rw [hL]; unfold vp_in; decide) dL_law_1226 ?_
  refine rn_topi sc3 se3 ?_
  refine rn_i2l dL_law_1227 rfl ?_
  refine rn_bipush (v := (32 : Int32)) dL_law_1228 (by decide) ?_
  refine rn_lshl dL_law_1230 rfl ?_
  refine rn_aload_n (i := 0) dL_law_1231 rfl rfl ?_
  refine rn_iload dL_law_1232 rfl ?_
  refine rn_iconst (v := (3 : Int32)) dL_law_1234 (by decide) ?_
  refine rn_iadd dL_law_1235 ?_
  refine rn_topi (4 : Int32) (by decide) ?_
  refine rn_sld (by rw [hL]; unfold vp_in; decide) dL_law_1236 ?_
  refine rn_topi sc4 se4 ?_
  refine rn_i2l dL_law_1237 rfl ?_
  refine rn_ldc2 (v := (4294967295 : Int64)) wd_1565 dL_law_1238 ?_
  refine rn_land dL_law_1241 ?_
  refine rn_lor dL_law_1242 ?_
  refine rn_callV (a := 0) (b := 0) [.int sc2, .long (((sc3).toInt64 <<< (((32 : Int32)).toInt64 &&& 63)) ||| ((sc4).toInt64 &&& (4294967295 : Int64)))] kl_SGLaw_157 dL_law_1243 23 h_m rfl (c_X10_count G _ (o_m := o_m) (k := sc2) (y := (((sc3).toInt64 <<< (((32 : Int32)).toInt64 &&& 63)) ||| ((sc4).toInt64 &&& (4294967295 : Int64)))) (fs_m := fs_m) h_m hf_m_0 hf_m_22) rfl rfl (Nat.le_of_ble_eq_true rfl) (Nat.le_of_ble_eq_true rfl) (Nat.le_of_ble_eq_true rfl) (Nat.le_of_ble_eq_true rfl) (Nat.le_of_ble_eq_true rfl) (Nat.le_of_ble_eq_true rfl) (by rintro E w h; rcases h with ⟨_, hr, _⟩ <;> cases hr) ?_
  rintro v w h
  obtain ⟨hc2, hr, hw⟩ := h; cases hr
  have hw3 : w[23]? = some (o_m, Sum.inr (10, ((fs_m.set 0 (.int (0 : Int32))).set 0 (.int (1 : Int32))))) := by rw [hw, List.getElem?_set_self (by (try simp only [List.length_set, List.length_append, List.length_cons, List.length_nil]); have hq := ls_lt h_m; omega)]
  have hw4 : w[62]? = some (o_out, Sum.inl (rn_k G 2, 1, Sum.inr (Sum.inl (fun _ => 0)))) := by rw [hw, List.getElem?_set_ne (by decide), List.getElem?_set_ne (by decide), h_out]
  refine rn_stk [.long (0 : Int64)] rfl ?_
  refine rn_lstore dL_law_1246 (by decide) [(0, .ref G.2.2.2.2.1.1), (1, .ref o_sg), (2, .ref o_m), (3, .ref o_out), (4, .int (1 : Int32)), (5, .int (1 : Int32)), (6, .long (0 : Int64))] rfl ?_
  refine rn_aload_n (i := 2) dL_law_1248 rfl rfl ?_
  refine rn_callV (a := 0) (b := 0) [] kl_SGLaw_110 dL_law_1249 23 hw3 rfl (c_X10_thrown G _ (o_m := o_m) (fs_m := ((fs_m.set 0 (.int (0 : Int32))).set 0 (.int (1 : Int32)))) (th := (1 : Int32)) hw3 (ls_eq (ls_eq hf_m_0))) rfl rfl (Nat.le_of_ble_eq_true rfl) (Nat.le_of_ble_eq_true rfl) (Nat.le_of_ble_eq_true rfl) (Nat.le_of_ble_eq_true rfl) (Nat.le_of_ble_eq_true rfl) (Nat.le_of_ble_eq_true rfl) (by rintro E w h; rcases h with ⟨_, hr, _⟩ <;> cases hr) ?_
  rintro v w h
  obtain ⟨hc5, hr, hw⟩ := h; cases hr; rw [hw]
  refine rn_stk [.int (1 : Int32)] rfl ?_
  refine rn_iload dL_law_1252 rfl ?_
  refine rn_icmp_eq (tgt := 1259) dL_law_1254 (by decide) (fun h6 => ?_) (fun h6 => absurd h6 (by decide))
  refine rn_iload dL_law_1259 rfl ?_
  refine rn_if_ne (tgt := 1275) dL_law_1261 (by decide) (fun h7 => ?_) (fun h7 => absurd h7 (by decide))
  refine rn_goto (tgt := 1865) dL_law_1275 (by decide) ?_
  refine rn_lv [(0, .ref G.2.2.2.2.1.1), (1, .ref o_sg), (2, .ref o_m), (3, .ref o_out), (4, .int (1 : Int32))] rfl ?_
  exact law_end G _ hL _ _ _
set_option maxRecDepth 20000 in
set_option maxHeartbeats 4000000 in
theorem law_13 (G : rn_G) (ws : va_W) (hL : G.2.2.2.2.1.2.1 = 11) (o_sg : Nat) (fs_sg : List Value) (o_tape : Nat) (o_coming : Nat) (o_ends : Nat) (fs_tape : List Value) (fs_coming : List Value) (o_m : Nat) (fs_m : List Value) (a_endings : Nat) (o_out : Nat) (h_sg : ws[0]? = some (o_sg, Sum.inr (9, fs_sg))) (hf_sg_1 : fs_sg[1]? = some (.ref o_tape)) (hf_sg_2 : fs_sg[2]? = some (.ref o_coming)) (hf_sg_15 : fs_sg[15]? = some (.ref o_ends)) (h_tape : ws[1]? = some (o_tape, Sum.inr (4, fs_tape))) (hf_tape_1 : fs_tape[1]? = some (.int (0 : Int32))) (h_coming : ws[3]? = some (o_coming, Sum.inr (4, fs_coming))) (hf_coming_1 : fs_coming[1]? = some (.int (0 : Int32))) (h_ends : ws[22]? = some (o_ends, Sum.inl (rn_k G 1, 18, Sum.inl (fun _ => 0)))) (h_m : ws[23]? = some (o_m, Sum.inr (10, fs_m))) (hf_m_0 : fs_m[0]? = some (.int (0 : Int32))) (hf_m_3 : fs_m[3]? = some (.int (0 : Int32))) (hf_m_44 : fs_m[44]? = some (.ref a_endings)) (h_m_endings : ws[56]? = some (a_endings, Sum.inl (rn_k G 1, 18, Sum.inl (fun _ => 0)))) (h_out : ws[62]? = some (o_out, Sum.inl (rn_k G 2, 1, Sum.inr (Sum.inl (fun _ => 0))))) : Rn G mL_law 8 135 1 6 1278 [(0, .ref G.2.2.2.2.1.1), (1, .ref o_sg), (2, .ref o_m), (3, .ref o_out), (4, .int (1 : Int32))] [] ws (fun r _ => r = Sum.inl (some (.int 1))) := by
  obtain ⟨sc2, se2⟩ : ∃ x : Int32, G.2.2.2.2.1.2.2 (2 : Int32).toNatClampNeg = x := ⟨_, rfl⟩
  refine rn_aload_n (i := 1) dL_law_1278 rfl rfl ?_
  refine rn_aload_n (i := 0) dL_law_1279 rfl rfl ?_
  refine rn_iload dL_law_1280 rfl ?_
  refine rn_iconst (v := (1 : Int32)) dL_law_1282 (by decide) ?_
  refine rn_iadd dL_law_1283 ?_
  refine rn_topi (2 : Int32) (by decide) ?_
  refine rn_sld (by rw [hL]; unfold vp_in; decide) dL_law_1284 ?_
  refine rn_topi sc2 se2 ?_
  refine rn_aload_n (i := 3) dL_law_1285 rfl rfl ?_
  refine rn_callSX (a := 0) (b := 0) [.ref o_sg, .int sc2, .ref o_out] kl_SGLaw_158 dL_law_1286 (c_L_come G _ (o_sg := o_sg) (x := sc2) (o_out := o_out) (fs_sg := fs_sg) (o_tape := o_tape) (o_coming := o_coming) (o_ends := o_ends) (fs_tape := fs_tape) (fs_coming := fs_coming) h_sg hf_sg_1 hf_sg_2 hf_sg_15 h_tape hf_tape_1 h_coming hf_coming_1 h_ends h_out) rfl rfl (Nat.le_of_ble_eq_true rfl) (Nat.le_of_ble_eq_true rfl) (Nat.le_of_ble_eq_true rfl) (Nat.le_of_ble_eq_true rfl) (Nat.le_of_ble_eq_true rfl) (Nat.le_of_ble_eq_true rfl) (by rintro E w h; rcases h with ⟨_, hr, _⟩ | ⟨_, hr, _⟩ <;> cases hr) ?_
  rintro v w h
  rcases h with ⟨hc, hr, hw⟩ | ⟨hc, hr, hw⟩
  · have hc1 := hc; clear hc; cases hr; rw [hw]
    refine rn_stk [.int (1 : Int32)] rfl ?_
    refine rn_istore dL_law_1289 (by decide) [(0, .ref G.2.2.2.2.1.1), (1, .ref o_sg), (2, .ref o_m), (3, .ref o_out), (4, .int (1 : Int32)), (5, .int (1 : Int32))] rfl ?_
    refine rn_aload_n (i := 2) dL_law_1291 rfl rfl ?_
    refine rn_aload_n (i := 0) dL_law_1292 rfl rfl ?_
    refine rn_iload dL_law_1293 rfl ?_
    refine rn_iconst (v := (1 : Int32)) dL_law_1295 (by decide) ?_
    refine rn_iadd dL_law_1296 ?_
    refine rn_topi (2 : Int32) (by decide) ?_
    refine rn_sld (by rw [hL]; unfold vp_in; decide) dL_law_1297 ?_
    refine rn_topi sc2 se2 ?_
    refine rn_callV (a := 0) (b := 0) [.int sc2] kl_SGLaw_160 dL_law_1298 23 h_m rfl (c_X10_come G _ (o_m := o_m) (k := sc2) (fs_m := fs_m) (a_endings := a_endings) h_m hf_m_0 hf_m_3 hf_m_44 h_m_endings) rfl rfl (Nat.le_of_ble_eq_true rfl) (Nat.le_of_ble_eq_true rfl) (Nat.le_of_ble_eq_true rfl) (Nat.le_of_ble_eq_true rfl) (Nat.le_of_ble_eq_true rfl) (Nat.le_of_ble_eq_true rfl) (by rintro E w h; rcases h with ⟨_, hr, _⟩ | ⟨_, hr, _⟩ <;> cases hr) ?_
    rintro v w h
    rcases h with ⟨hc, hr, hw⟩ | ⟨hc, hr, hw⟩
    · have hc2 := hc; clear hc; cases hr
      have hw3 : w[23]? = some (o_m, Sum.inr (10, ((fs_m.set 0 (.int (0 : Int32))).set 0 (.int (1 : Int32))))) := by rw [hw, List.getElem?_set_self (by (try simp only [List.length_set, List.length_append, List.length_cons, List.length_nil]); have hq := ls_lt h_m; omega)]
      have hw4 : w[62]? = some (o_out, Sum.inl (rn_k G 2, 1, Sum.inr (Sum.inl (fun _ => 0)))) := by rw [hw, List.getElem?_set_ne (by decide), List.getElem?_set_ne (by decide), h_out]
      refine rn_stk [.int (0 : Int32)] rfl ?_
      refine rn_istore dL_law_1301 (by decide) [(0, .ref G.2.2.2.2.1.1), (1, .ref o_sg), (2, .ref o_m), (3, .ref o_out), (4, .int (1 : Int32)), (5, .int (1 : Int32)), (6, .int (0 : Int32))] rfl ?_
      refine rn_aload_n (i := 2) dL_law_1303 rfl rfl ?_
      refine rn_callV (a := 0) (b := 0) [] kl_SGLaw_110 dL_law_1304 23 hw3 rfl (c_X10_thrown G _ (o_m := o_m) (fs_m := ((fs_m.set 0 (.int (0 : Int32))).set 0 (.int (1 : Int32)))) (th := (1 : Int32)) hw3 (ls_eq (ls_eq hf_m_0))) rfl rfl (Nat.le_of_ble_eq_true rfl) (Nat.le_of_ble_eq_true rfl) (Nat.le_of_ble_eq_true rfl) (Nat.le_of_ble_eq_true rfl) (Nat.le_of_ble_eq_true rfl) (Nat.le_of_ble_eq_true rfl) (by rintro E w h; rcases h with ⟨_, hr, _⟩ <;> cases hr) ?_
      rintro v w h
      obtain ⟨hc5, hr, hw⟩ := h; cases hr; rw [hw]
      refine rn_stk [.int (1 : Int32)] rfl ?_
      refine rn_iload dL_law_1307 rfl ?_
      refine rn_icmp_eq (tgt := 1314) dL_law_1309 (by decide) (fun h6 => ?_) (fun h6 => absurd h6 (by decide))
      refine rn_iload dL_law_1314 rfl ?_
      refine rn_if_ne (tgt := 1331) dL_law_1316 (by decide) (fun h7 => ?_) (fun h7 => absurd h7 (by decide))
      refine rn_goto (tgt := 1865) dL_law_1331 (by decide) ?_
      refine rn_lv [(0, .ref G.2.2.2.2.1.1), (1, .ref o_sg), (2, .ref o_m), (3, .ref o_out), (4, .int (1 : Int32))] rfl ?_
      exact law_end G _ hL _ _ _
    · have hc8 := hc; clear hc; cases hr
      exfalso; have g0 := i32_rng sc2; simp only [Int32.lt_iff_toInt_lt, Int32.le_iff_toInt_le, gt_iff_lt, ge_iff_le, ← Int32.toInt_inj, i32_0, i32_1, i32_20] at *; omega
  · have hc9 := hc; clear hc; cases hr
    have hw10 : w[23]? = some (o_m, Sum.inr (10, fs_m)) := by rw [hw, List.getElem?_set_ne (by decide), List.getElem?_set_ne (by decide), List.getElem?_set_ne (by decide), h_m]
    have hw11 : w[56]? = some (a_endings, Sum.inl (rn_k G 1, 18, Sum.inl (fun _ => 0))) := by rw [hw, List.getElem?_set_ne (by decide), List.getElem?_set_ne (by decide), List.getElem?_set_ne (by decide), h_m_endings]
    have hw12 : w[62]? = some (o_out, Sum.inl (rn_k G 2, 1, Sum.inr (Sum.inl (vp_updL (fun _ => 0) ((0 : Int32)).toNatClampNeg (1 : Int64))))) := by rw [hw, List.getElem?_set_self (by (try simp only [List.length_set, List.length_append, List.length_cons, List.length_nil]); have hq := ls_lt h_out; omega)]
    refine rn_stk [.int (0 : Int32)] rfl ?_
    refine rn_istore dL_law_1289 (by decide) [(0, .ref G.2.2.2.2.1.1), (1, .ref o_sg), (2, .ref o_m), (3, .ref o_out), (4, .int (1 : Int32)), (5, .int (0 : Int32))] rfl ?_
    refine rn_aload_n (i := 2) dL_law_1291 rfl rfl ?_
    refine rn_aload_n (i := 0) dL_law_1292 rfl rfl ?_
    refine rn_iload dL_law_1293 rfl ?_
    refine rn_iconst (v := (1 : Int32)) dL_law_1295 (by decide) ?_
    refine rn_iadd dL_law_1296 ?_
    refine rn_topi (2 : Int32) (by decide) ?_
    refine rn_sld (by rw [hL]; unfold vp_in; decide) dL_law_1297 ?_
    refine rn_topi sc2 se2 ?_
    refine rn_callV (a := 0) (b := 0) [.int sc2] kl_SGLaw_160 dL_law_1298 23 hw10 rfl (c_X10_come G _ (o_m := o_m) (k := sc2) (fs_m := fs_m) (a_endings := a_endings) hw10 hf_m_0 hf_m_3 hf_m_44 hw11) rfl rfl (Nat.le_of_ble_eq_true rfl) (Nat.le_of_ble_eq_true rfl) (Nat.le_of_ble_eq_true rfl) (Nat.le_of_ble_eq_true rfl) (Nat.le_of_ble_eq_true rfl) (Nat.le_of_ble_eq_true rfl) (by rintro E w h; rcases h with ⟨_, hr, _⟩ | ⟨_, hr, _⟩ <;> cases hr) ?_
    rintro v w h
    rcases h with ⟨hc, hr, hw⟩ | ⟨hc, hr, hw⟩
    · have hc13 := hc; clear hc; cases hr
      exfalso; have m0 := i32_min (0 : Int32) (2040 : Int32); have g0 := i32_rng sc2; simp only [Int32.lt_iff_toInt_lt, Int32.le_iff_toInt_le, gt_iff_lt, ge_iff_le, ← Int32.toInt_inj, i32_0, i32_1, i32_20, i32_2040] at *; omega
    · have hc14 := hc; clear hc; cases hr
      have hw15 : w[23]? = some (o_m, Sum.inr (10, (fs_m.set 0 (.int (0 : Int32))))) := by rw [hw, List.getElem?_set_ne (by decide), List.getElem?_set_self (by (try simp only [List.length_set, List.length_append, List.length_cons, List.length_nil]); have hq := ls_lt hw10; omega)]
      have hw16 : w[62]? = some (o_out, Sum.inl (rn_k G 2, 1, Sum.inr (Sum.inl (vp_updL (fun _ => 0) ((0 : Int32)).toNatClampNeg (1 : Int64))))) := by rw [hw, List.getElem?_set_ne (by decide), List.getElem?_set_ne (by decide), hw12]
      refine rn_stk [.int (1 : Int32)] rfl ?_
      refine rn_istore dL_law_1301 (by decide) [(0, .ref G.2.2.2.2.1.1), (1, .ref o_sg), (2, .ref o_m), (3, .ref o_out), (4, .int (1 : Int32)), (5, .int (0 : Int32)), (6, .int (1 : Int32))] rfl ?_
      refine rn_aload_n (i := 2) dL_law_1303 rfl rfl ?_
      refine rn_callV (a := 0) (b := 0) [] kl_SGLaw_110 dL_law_1304 23 hw15 rfl (c_X10_thrown G _ (o_m := o_m) (fs_m := (fs_m.set 0 (.int (0 : Int32)))) (th := (0 : Int32)) hw15 (ls_eq hf_m_0)) rfl rfl (Nat.le_of_ble_eq_true rfl) (Nat.le_of_ble_eq_true rfl) (Nat.le_of_ble_eq_true rfl) (Nat.le_of_ble_eq_true rfl) (Nat.le_of_ble_eq_true rfl) (Nat.le_of_ble_eq_true rfl) (by rintro E w h; rcases h with ⟨_, hr, _⟩ <;> cases hr) ?_
      rintro v w h
      obtain ⟨hc17, hr, hw⟩ := h; cases hr; rw [hw]
      refine rn_stk [.int (0 : Int32)] rfl ?_
      refine rn_iload dL_law_1307 rfl ?_
      refine rn_icmp_eq (tgt := 1314) dL_law_1309 (by decide) (fun h18 => ?_) (fun h18 => absurd h18 (by decide))
      refine rn_iload dL_law_1314 rfl ?_
      refine rn_if_ne (tgt := 1331) dL_law_1316 (by decide) (fun h19 => absurd h19 (by decide)) (fun h19 => ?_)
      refine rn_aload_n (i := 3) dL_law_1319 rfl rfl ?_
      refine rn_iconst (v := (0 : Int32)) dL_law_1320 (by decide) ?_
      refine rn_lald 62 2 hw16 rfl (by unfold vp_in; decide) dL_law_1321 ?_
      refine rn_topl _ (vp_updL_at _ _ _) ?_
      refine rn_iload dL_law_1322 rfl ?_
      refine rn_i2l dL_law_1324 rfl ?_
      refine rn_topl (1 : Int64) (by decide) ?_
      refine rn_lcmp dL_law_1325 ?_
      refine rn_topi (0 : Int32) (by decide) ?_
      refine rn_if_eq (tgt := 1331) dL_law_1326 (by decide) (fun h20 => ?_) (fun h20 => absurd h20 (by decide))
      refine rn_goto (tgt := 1865) dL_law_1331 (by decide) ?_
      refine rn_lv [(0, .ref G.2.2.2.2.1.1), (1, .ref o_sg), (2, .ref o_m), (3, .ref o_out), (4, .int (1 : Int32))] rfl ?_
      exact law_end G _ hL _ _ _
