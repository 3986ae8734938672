/-- behind the one call: the loop ends, the law answers true -/
theorem law_end (G : rn_G) (ws : va_W) (hL : G.2.2.2.2.1.2.1 = 11) (o1 o2 o3 : Nat) {d z a b : Nat} : Rn G mL_law d z a b 1865 [(0, .ref G.2.2.2.2.1.1), (1, .ref o1), (2, .ref o2), (3, .ref o3), (4, .int (1 : Int32))] [] ws (fun r _ => r = Sum.inl (some (.int 1))) := by
  refine rn_iinc (v := (11 : Int32)) dL_law_1865 rfl (by decide) (by decide) [(0, .ref G.2.2.2.2.1.1), (4, .int (11 : Int32))] rfl ?_
  refine rn_goto (tgt := 33) dL_law_1868 (by decide) ?_
  refine rn_iload dL_law_33 rfl ?_
  refine rn_aload_n (i := 0) dL_law_35 rfl rfl ?_
  refine rn_slen dL_law_36 ?_
  refine rn_topi (11 : Int32) (by rw [hL]; decide) ?_
  refine rn_bipush (v := (10 : Int32)) dL_law_37 (by decide) ?_
  refine rn_isub dL_law_39 ?_
  refine rn_topi (1 : Int32) (by decide) ?_
  refine rn_icmp_gt (tgt := 1871) dL_law_40 (by decide) (fun h => ?_) (fun h => absurd h (by decide))
  refine rn_iconst (v := (1 : Int32)) dL_law_1871 (by decide) ?_
  exact rn_iret dL_law_1872 rfl rfl rfl
/-- of the world so far only this is wanted -/
theorem rn_opq {G : rn_G} {M : rn_M} {d z a b pc : Nat} {lv : List (Nat × Value)} {st : List Value} {ws : va_W} {Q : rn_R → va_W → Prop} (P : va_W → Prop) (h : P ws) (k : ∀ w : va_W, P w → Rn G M d z a b pc lv st w Q) : Rn G M d z a b pc lv st ws Q := k ws h

set_option maxRecDepth 20000 in
set_option maxHeartbeats 4000000 in
theorem law_0 (G : rn_G) (ws : va_W) (hL : G.2.2.2.2.1.2.1 = 11) (o_sg : Nat) (fs_sg : List Value) (o_tape : Nat) (fs_tape : List Value) (r_tape : Nat) (f_tape : Nat → Int32) (o_m : Nat) (fs_m : List Value) (a_bytes : Nat) (o_out : Nat) (h_sg : ws[0]? = some (o_sg, Sum.inr (9, fs_sg))) (hf_sg_1 : fs_sg[1]? = some (.ref o_tape)) (h_tape : ws[1]? = some (o_tape, Sum.inr (4, fs_tape))) (hf_tape_0 : fs_tape[0]? = some (.ref r_tape)) (hf_tape_1 : fs_tape[1]? = some (.int (0 : Int32))) (h_taper : ws[2]? = some (r_tape, Sum.inl (rn_k G 0, 2040, Sum.inl f_tape))) (h_m : ws[23]? = some (o_m, Sum.inr (10, fs_m))) (hf_m_0 : fs_m[0]? = some (.int (0 : Int32))) (hf_m_2 : fs_m[2]? = some (.ref a_bytes)) (hf_m_3 : fs_m[3]? = some (.int (0 : Int32))) (h_m_bytes : ws[24]? = some (a_bytes, Sum.inl (rn_k G 1, 22000, Sum.inl (fun _ => 0)))) (h_out : ws[62]? = some (o_out, Sum.inl (rn_k G 2, 1, Sum.inr (Sum.inl (fun _ => 0))))) : Rn G mL_law 5 114 0 0 164 [(0, .ref G.2.2.2.2.1.1), (1, .ref o_sg), (2, .ref o_m), (3, .ref o_out), (4, .int (1 : Int32))] [] ws (fun r _ => r = Sum.inl (some (.int 1))) := by
  obtain ⟨sc2, se2⟩ : ∃ x : Int32, G.2.2.2.2.1.2.2 (2 : Int32).toNatClampNeg = x := ⟨_, rfl⟩
  obtain ⟨sc3, se3⟩ : ∃ x : Int32, G.2.2.2.2.1.2.2 (3 : Int32).toNatClampNeg = x := ⟨_, rfl⟩
  refine rn_aload_n (i := 1) dL_law_164 rfl rfl ?_
  refine rn_aload_n (i := 0) dL_law_165 rfl rfl ?_
  refine rn_iload dL_law_166 rfl ?_
  refine rn_iconst (v := (1 : Int32)) dL_law_168 (by decide) ?_
  refine rn_iadd dL_law_169 ?_
  refine rn_topi (2 : Int32) (by decide) ?_
  refine rn_sld (by rw [hL]; unfold vp_in; decide) dL_law_170 ?_
  refine rn_topi sc2 se2 ?_
  refine rn_i2l dL_law_171 rfl ?_
  refine rn_bipush (v := (32 : Int32)) dL_law_172 (by decide) ?_
  refine rn_lshl dL_law_174 rfl ?_
  refine rn_aload_n (i := 0) dL_law_175 rfl rfl ?_
  refine rn_iload dL_law_176 rfl ?_
  refine rn_iconst (v := (2 : Int32)) dL_law_178 (by decide) ?_
  refine rn_iadd dL_law_179 ?_
  refine rn_topi (3 : Int32) (by decide) ?_
  refine rn_sld (by rw [hL]; unfold vp_in; decide) dL_law_180 ?_
  refine rn_topi sc3 se3 ?_
  refine rn_i2l dL_law_181 rfl ?_
  refine rn_ldc2 (v := (4294967295 : Int64)) wd_1565 dL_law_182 ?_
  refine rn_land dL_law_185 ?_
  refine rn_lor dL_law_186 ?_
  refine rn_aload_n (i := 3) dL_law_187 rfl rfl ?_
  refine rn_callSX (a := 0) (b := 0) [.ref o_sg, .long (((sc2).toInt64 <<< (((32 : Int32)).toInt64 &&& 63)) ||| ((sc3).toInt64 &&& (4294967295 : Int64))), .ref o_out] kl_SGLaw_106 dL_law_188 (c_L_type G _ (o_sg := o_sg) (y := (((sc2).toInt64 <<< (((32 : Int32)).toInt64 &&& 63)) ||| ((sc3).toInt64 &&& (4294967295 : Int64)))) (o_out := o_out) (fs_sg := fs_sg) (o_tape := o_tape) (fs_tape := fs_tape) (r_tape := r_tape) (f_tape := f_tape) h_sg hf_sg_1 h_tape hf_tape_0 hf_tape_1 h_taper h_out) rfl rfl (Nat.le_of_ble_eq_true rfl) (Nat.le_of_ble_eq_true rfl) (Nat.le_of_ble_eq_true rfl) (Nat.le_of_ble_eq_true rfl) (Nat.le_of_ble_eq_true rfl) (Nat.le_of_ble_eq_true rfl) (by rintro E w h; rcases h with ⟨_, hr, _⟩ <;> cases hr) ?_
  rintro v w h
  obtain ⟨hc1, hr, hw⟩ := h; cases hr
  have hw2 : w[23]? = some (o_m, Sum.inr (10, fs_m)) := by rw [hw, List.getElem?_set_ne (by decide), List.getElem?_set_ne (by decide), List.getElem?_set_ne (by decide), List.getElem?_set_ne (by decide), List.getElem?_set_ne (by decide), List.getElem?_set_ne (by decide), List.getElem?_set_ne (by decide), List.getElem?_set_ne (by decide), List.getElem?_set_ne (by decide), List.getElem?_set_ne (by decide), h_m]
  have hw3 : w[24]? = some (a_bytes, Sum.inl (rn_k G 1, 22000, Sum.inl (fun _ => 0))) := by rw [hw, List.getElem?_set_ne (by decide), List.getElem?_set_ne (by decide), List.getElem?_set_ne (by decide), List.getElem?_set_ne (by decide), List.getElem?_set_ne (by decide), List.getElem?_set_ne (by decide), List.getElem?_set_ne (by decide), List.getElem?_set_ne (by decide), List.getElem?_set_ne (by decide), List.getElem?_set_ne (by decide), h_m_bytes]
  have hw4 : w[62]? = some (o_out, Sum.inl (rn_k G 2, 1, Sum.inr (Sum.inl (vp_updL (fun _ => 0) ((0 : Int32)).toNatClampNeg (8 : Int64))))) := by rw [hw, List.getElem?_set_self (by (try simp only [List.length_set, List.length_append, List.length_cons, List.length_nil]); have hq := ls_lt h_out; omega)]
  refine rn_stk [.int (0 : Int32)] rfl ?_
  refine rn_istore dL_law_191 (by decide) [(0, .ref G.2.2.2.2.1.1), (1, .ref o_sg), (2, .ref o_m), (3, .ref o_out), (4, .int (1 : Int32)), (5, .int (0 : Int32))] rfl ?_
  refine rn_aload_n (i := 2) dL_law_193 rfl rfl ?_
  refine rn_aload_n (i := 0) dL_law_194 rfl rfl ?_
  refine rn_iload dL_law_195 rfl ?_
  refine rn_iconst (v := (1 : Int32)) dL_law_197 (by decide) ?_
  refine rn_iadd dL_law_198 ?_
  refine rn_topi (2 : Int32) (by decide) ?_
  refine rn_sld (by rw [hL]; unfold vp_in; decide) dL_law_199 ?_
  refine rn_topi sc2 se2 ?_
  refine rn_i2l dL_law_200 rfl ?_
  refine rn_bipush (v := (32 : Int32)) dL_law_201 (by decide) ?_
  refine rn_lshl dL_law_203 rfl ?_
  refine rn_aload_n (i := 0) dL_law_204 rfl rfl ?_
  refine rn_iload dL_law_205 rfl ?_
  refine rn_iconst (v := (2 : Int32)) dL_law_207 (by decide) ?_
  refine rn_iadd dL_law_208 ?_
  refine rn_topi (3 : Int32) (by decide) ?_
  refine rn_sld (by rw [hL]; unfold vp_in; decide) dL_law_209 ?_
  refine rn_topi sc3 se3 ?_
  refine rn_i2l dL_law_210 rfl ?_
  refine rn_ldc2 (v := (4294967295 : Int64)) wd_1565 dL_law_211 ?_
  refine rn_land dL_law_214 ?_
  refine rn_lor dL_law_215 ?_
  refine rn_callV (a := 0) (b := 0) [.long (((sc2).toInt64 <<< (((32 : Int32)).toInt64 &&& 63)) ||| ((sc3).toInt64 &&& (4294967295 : Int64)))] kl_SGLaw_109 dL_law_216 23 hw2 rfl (c_X10_type G _ (o_m := o_m) (y := (((sc2).toInt64 <<< (((32 : Int32)).toInt64 &&& 63)) ||| ((sc3).toInt64 &&& (4294967295 : Int64)))) (fs_m := fs_m) (a_bytes := a_bytes) hw2 hf_m_0 hf_m_2 hf_m_3 hw3) rfl rfl (Nat.le_of_ble_eq_true rfl) (Nat.le_of_ble_eq_true rfl) (Nat.le_of_ble_eq_true rfl) (Nat.le_of_ble_eq_true rfl) (Nat.le_of_ble_eq_true rfl) (Nat.le_of_ble_eq_true rfl) (by rintro E w h; rcases h with ⟨_, hr, _⟩ <;> cases hr) ?_
  rintro v w h
  obtain ⟨hc5, hr, hw⟩ := h; cases hr
  have hw6 : w[23]? = some (o_m, Sum.inr (10, ((fs_m.set 0 (.int (0 : Int32))).set 3 (.int (8 : Int32))))) := by rw [hw, List.getElem?_set_self (by (try simp only [List.length_set, List.length_append, List.length_cons, List.length_nil]); have hq := ls_lt hw2; omega)]
  have hw7 : w[62]? = some (o_out, Sum.inl (rn_k G 2, 1, Sum.inr (Sum.inl (vp_updL (fun _ => 0) ((0 : Int32)).toNatClampNeg (8 : Int64))))) := by rw [hw, List.getElem?_set_ne (by decide), List.getElem?_set_ne (by decide), List.getElem?_set_ne (by decide), List.getElem?_set_ne (by decide), List.getElem?_set_ne (by decide), List.getElem?_set_ne (by decide), List.getElem?_set_ne (by decide), List.getElem?_set_ne (by decide), List.getElem?_set_ne (by decide), List.getElem?_set_ne (by decide), hw4]
  refine rn_stk [.int (8 : Int32)] rfl ?_
  refine rn_istore dL_law_219 (by decide) [(0, .ref G.2.2.2.2.1.1), (1, .ref o_sg), (2, .ref o_m), (3, .ref o_out), (4, .int (1 : Int32)), (5, .int (0 : Int32)), (6, .int (8 : Int32))] rfl ?_
  refine rn_aload_n (i := 2) dL_law_221 rfl rfl ?_
  refine rn_callV (a := 0) (b := 0) [] kl_SGLaw_110 dL_law_222 23 hw6 rfl (c_X10_thrown G _ (o_m := o_m) (fs_m := ((fs_m.set 0 (.int (0 : Int32))).set 3 (.int (8 : Int32)))) (th := (0 : Int32)) hw6 (ls_ne (by decide) (ls_eq hf_m_0))) rfl rfl (Nat.le_of_ble_eq_true rfl) (Nat.le_of_ble_eq_true rfl) (Nat.le_of_ble_eq_true rfl) (Nat.le_of_ble_eq_true rfl) (Nat.le_of_ble_eq_true rfl) (Nat.le_of_ble_eq_true rfl) (by rintro E w h; rcases h with ⟨_, hr, _⟩ <;> cases hr) ?_
  rintro v w h
  obtain ⟨hc8, hr, hw⟩ := h; cases hr; rw [hw]
  refine rn_stk [.int (0 : Int32)] rfl ?_
  refine rn_iload dL_law_225 rfl ?_
  refine rn_icmp_eq (tgt := 232) dL_law_227 (by decide) (fun h9 => ?_) (fun h9 => absurd h9 (by decide))
  refine rn_iload dL_law_232 rfl ?_
  refine rn_if_ne (tgt := 249) dL_law_234 (by decide) (fun h10 => absurd h10 (by decide)) (fun h10 => ?_)
  refine rn_aload_n (i := 3) dL_law_237 rfl rfl ?_
  refine rn_iconst (v := (0 : Int32)) dL_law_238 (by decide) ?_
  refine rn_lald 62 2 hw7 rfl (by unfold vp_in; decide) dL_law_239 ?_
  refine rn_topl _ (vp_updL_at _ _ _) ?_
  refine rn_iload dL_law_240 rfl ?_
  refine rn_i2l dL_law_242 rfl ?_
  refine rn_topl (8 : Int64) (by decide) ?_
  refine rn_lcmp dL_law_243 ?_
  refine rn_topi (0 : Int32) (by decide) ?_
  refine rn_if_eq (tgt := 249) dL_law_244 (by decide) (fun h11 => ?_) (fun h11 => absurd h11 (by decide))
  refine rn_goto (tgt := 1865) dL_law_249 (by decide) ?_
  refine rn_lv [(0, .ref G.2.2.2.2.1.1), (1, .ref o_sg), (2, .ref o_m), (3, .ref o_out), (4, .int (1 : Int32))] rfl ?_
  exact law_end G _ hL _ _ _
set_option maxRecDepth 20000 in
set_option maxHeartbeats 4000000 in
theorem law_1 (G : rn_G) (ws : va_W) (hL : G.2.2.2.2.1.2.1 = 11) (o_sg : Nat) (fs_sg : List Value) (o_tape : Nat) (fs_tape : List Value) (o_m : Nat) (fs_m : List Value) (o_out : Nat) (h_sg : ws[0]? = some (o_sg, Sum.inr (9, fs_sg))) (hf_sg_1 : fs_sg[1]? = some (.ref o_tape)) (h_tape : ws[1]? = some (o_tape, Sum.inr (4, fs_tape))) (hf_tape_1 : fs_tape[1]? = some (.int (0 : Int32))) (h_m : ws[23]? = some (o_m, Sum.inr (10, fs_m))) (hf_m_0 : fs_m[0]? = some (.int (0 : Int32))) (hf_m_3 : fs_m[3]? = some (.int (0 : Int32))) (h_out : ws[62]? = some (o_out, Sum.inl (rn_k G 2, 1, Sum.inr (Sum.inl (fun _ => 0))))) : Rn G mL_law 8 133 1 6 252 [(0, .ref G.2.2.2.2.1.1), (1, .ref o_sg), (2, .ref o_m), (3, .ref o_out), (4, .int (1 : Int32))] [] ws (fun r _ => r = Sum.inl (some (.int 1))) := by
  obtain ⟨sc2, se2⟩ : ∃ x : Int32, G.2.2.2.2.1.2.2 (2 : Int32).toNatClampNeg = x := ⟨_, rfl⟩
  refine rn_aload_n (i := 1) dL_law_252 rfl rfl ?_
  refine rn_aload_n (i := 0) dL_law_253 rfl rfl ?_
  refine rn_iload dL_law_254 rfl ?_
  refine rn_iconst (v := (1 : Int32)) dL_law_256 (by decide) ?_
  refine rn_iadd dL_law_257 ?_
  refine rn_topi (2 : Int32) (by decide) ?_
  refine rn_sld (by rw [hL]; unfold vp_in; decide) dL_law_258 ?_
  refine rn_topi sc2 se2 ?_
  refine rn_callSX (a := 0) (b := 0) [.ref o_sg, .int sc2] kl_SGLaw_113 dL_law_259 (c_L_keep G _ (o_sg := o_sg) (x := sc2) (fs_sg := fs_sg) (o_tape := o_tape) (fs_tape := fs_tape) h_sg hf_sg_1 h_tape hf_tape_1) rfl rfl (Nat.le_of_ble_eq_true rfl) (Nat.le_of_ble_eq_true rfl) (Nat.le_of_ble_eq_true rfl) (Nat.le_of_ble_eq_true rfl) (Nat.le_of_ble_eq_true rfl) (Nat.le_of_ble_eq_true rfl) (by rintro E w h; rcases h with ⟨_, hr, _⟩ | ⟨_, hr, _⟩ <;> cases hr) ?_
  rintro v w h
  rcases h with ⟨hc, hr, hw⟩ | ⟨hc, hr, hw⟩
  · have hc1 := hc; clear hc; cases hr; rw [hw]
    refine rn_stk [.int (1 : Int32)] rfl ?_
    refine rn_istore dL_law_262 (by decide) [(0, .ref G.2.2.2.2.1.1), (1, .ref o_sg), (2, .ref o_m), (3, .ref o_out), (4, .int (1 : Int32)), (5, .int (1 : Int32))] rfl ?_
    refine rn_aload_n (i := 2) dL_law_264 rfl rfl ?_
    refine rn_aload_n (i := 0) dL_law_265 rfl rfl ?_
    refine rn_iload dL_law_266 rfl ?_
    refine rn_iconst (v := (1 : Int32)) dL_law_268 (by decide) ?_
    refine rn_iadd dL_law_269 ?_
    refine rn_topi (2 : Int32) (by decide) ?_
    refine rn_sld (by rw [hL]; unfold vp_in; decide) dL_law_270 ?_
    refine rn_topi sc2 se2 ?_
    refine rn_callV (a := 0) (b := 0) [.int sc2] kl_SGLaw_116 dL_law_271 23 h_m rfl (c_X10_keep G _ (o_m := o_m) (n := sc2) (fs_m := fs_m) h_m hf_m_0 hf_m_3) rfl rfl (Nat.le_of_ble_eq_true rfl) (Nat.le_of_ble_eq_true rfl) (Nat.le_of_ble_eq_true rfl) (Nat.le_of_ble_eq_true rfl) (Nat.le_of_ble_eq_true rfl) (Nat.le_of_ble_eq_true rfl) (by rintro E w h; rcases h with ⟨_, hr, _⟩ | ⟨_, hr, _⟩ <;> cases hr) ?_
    rintro v w h
    rcases h with ⟨hc, hr, hw⟩ | ⟨hc, hr, hw⟩
    · have hc2 := hc; clear hc; cases hr
      have hw3 : w[23]? = some (o_m, Sum.inr (10, ((fs_m.set 0 (.int (0 : Int32))).set 0 (.int (1 : Int32))))) := by rw [hw, List.getElem?_set_self (by (try simp only [List.length_set, List.length_append, List.length_cons, List.length_nil]); have hq := ls_lt h_m; omega)]
      have hw4 : w[62]? = some (o_out, Sum.inl (rn_k G 2, 1, Sum.inr (Sum.inl (fun _ => 0)))) := by rw [hw, List.getElem?_set_ne (by decide), List.getElem?_set_ne (by decide), h_out]
      refine rn_stk [] rfl ?_
      refine rn_aload_n (i := 2) dL_law_274 rfl rfl ?_
      refine rn_callV (a := 0) (b := 0) [] kl_SGLaw_110 dL_law_275 23 hw3 rfl (c_X10_thrown G _ (o_m := o_m) (fs_m := ((fs_m.set 0 (.int (0 : Int32))).set 0 (.int (1 : Int32)))) (th := (1 : Int32)) hw3 (ls_eq (ls_eq hf_m_0))) rfl rfl (Nat.le_of_ble_eq_true rfl) (Nat.le_of_ble_eq_true rfl) (Nat.le_of_ble_eq_true rfl) (Nat.le_of_ble_eq_true rfl) (Nat.le_of_ble_eq_true rfl) (Nat.le_of_ble_eq_true rfl) (by rintro E w h; rcases h with ⟨_, hr, _⟩ <;> cases hr) ?_
      rintro v w h
      obtain ⟨hc5, hr, hw⟩ := h; cases hr; rw [hw]
      refine rn_stk [.int (1 : Int32)] rfl ?_
      refine rn_iload dL_law_278 rfl ?_
      refine rn_icmp_eq (tgt := 285) dL_law_280 (by decide) (fun h6 => ?_) (fun h6 => absurd h6 (by decide))
      refine rn_goto (tgt := 1865) dL_law_285 (by decide) ?_
      refine rn_lv [(0, .ref G.2.2.2.2.1.1), (1, .ref o_sg), (2, .ref o_m), (3, .ref o_out), (4, .int (1 : Int32))] rfl ?_
      exact law_end G _ hL _ _ _
    · have hc7 := hc; clear hc; cases hr
      exfalso; have g0 := i32_rng sc2; simp only [Int32.lt_iff_toInt_lt, Int32.le_iff_toInt_le, gt_iff_lt, ge_iff_le, ← Int32.toInt_inj, i32_0] at *; omega
  · have hc8 := hc; clear hc; cases hr
    have hw9 : w[23]? = some (o_m, Sum.inr (10, fs_m)) := by rw [hw, List.getElem?_set_ne (by decide), h_m]
    have hw10 : w[62]? = some (o_out, Sum.inl (rn_k G 2, 1, Sum.inr (Sum.inl (fun _ => 0)))) := by rw [hw, List.getElem?_set_ne (by decide), h_out]
    refine rn_stk [.int (0 : Int32)] rfl ?_
    refine rn_istore dL_law_262 (by decide) [(0, .ref G.2.2.2.2.1.1), (1, .ref o_sg), (2, .ref o_m), (3, .ref o_out), (4, .int (1 : Int32)), (5, .int (0 : Int32))] rfl ?_
    refine rn_aload_n (i := 2) dL_law_264 rfl rfl ?_
    refine rn_aload_n (i := 0) dL_law_265 rfl rfl ?_
    refine rn_iload dL_law_266 rfl ?_
    refine rn_iconst (v := (1 : Int32)) dL_law_268 (by decide) ?_
    refine rn_iadd dL_law_269 ?_
    refine rn_topi (2 : Int32) (by decide) ?_
    refine rn_sld (by rw [hL]; unfold vp_in; decide) dL_law_270 ?_
    refine rn_topi sc2 se2 ?_
    refine rn_callV (a := 0) (b := 0) [.int sc2] kl_SGLaw_116 dL_law_271 23 hw9 rfl (c_X10_keep G _ (o_m := o_m) (n := sc2) (fs_m := fs_m) hw9 hf_m_0 hf_m_3) rfl rfl (Nat.le_of_ble_eq_true rfl) (Nat.le_of_ble_eq_true rfl) (Nat.le_of_ble_eq_true rfl) (Nat.le_of_ble_eq_true rfl) (Nat.le_of_ble_eq_true rfl) (Nat.le_of_ble_eq_true rfl) (by rintro E w h; rcases h with ⟨_, hr, _⟩ | ⟨_, hr, _⟩ <;> cases hr) ?_
    rintro v w h
    rcases h with ⟨hc, hr, hw⟩ | ⟨hc, hr, hw⟩
    · have hc11 := hc; clear hc; cases hr
      exfalso; have g0 := i32_rng sc2; simp only [Int32.lt_iff_toInt_lt, Int32.le_iff_toInt_le, gt_iff_lt, ge_iff_le, ← Int32.toInt_inj, i32_0, i32_1] at *; omega
    · have hc12 := hc; clear hc; cases hr
      have hw13 : w[23]? = some (o_m, Sum.inr (10, ((fs_m.set 0 (.int (0 : Int32))).set 3 (.int sc2)))) := by rw [hw, List.getElem?_set_self (by (try simp only [List.length_set, List.length_append, List.length_cons, List.length_nil]); have hq := ls_lt hw9; omega)]
      have hw14 : w[62]? = some (o_out, Sum.inl (rn_k G 2, 1, Sum.inr (Sum.inl (fun _ => 0)))) := by rw [hw, List.getElem?_set_ne (by decide), List.getElem?_set_ne (by decide), hw10]
      refine rn_stk [] rfl ?_
      refine rn_aload_n (i := 2) dL_law_274 rfl rfl ?_
      refine rn_callV (a := 0) (b := 0) [] kl_SGLaw_110 dL_law_275 23 hw13 rfl (c_X10_thrown G _ (o_m := o_m) (fs_m := ((fs_m.set 0 (.int (0 : Int32))).set 3 (.int sc2))) (th := (0 : Int32)) hw13 (ls_ne (by decide) (ls_eq hf_m_0))) rfl rfl (Nat.le_of_ble_eq_true rfl) (Nat.le_of_ble_eq_true rfl) (Nat.le_of_ble_eq_true rfl) (Nat.le_of_ble_eq_true rfl) (Nat.le_of_ble_eq_true rfl) (Nat.le_of_ble_eq_true rfl) (by rintro E w h; rcases h with ⟨_, hr, _⟩ <;> cases hr) ?_
      rintro v w h
      obtain ⟨hc15, hr, hw⟩ := h; cases hr; rw [hw]
      refine rn_stk [.int (0 : Int32)] rfl ?_
      refine rn_iload dL_law_278 rfl ?_
      refine rn_icmp_eq (tgt := 285) dL_law_280 (by decide) (fun h16 => ?_) (fun h16 => absurd h16 (by decide))
      refine rn_goto (tgt := 1865) dL_law_285 (by decide) ?_
      refine rn_lv [(0, .ref G.2.2.2.2.1.1), (1, .ref o_sg), (2, .ref o_m), (3, .ref o_out), (4, .int (1 : Int32))] rfl ?_
      exact law_end G _ hL _ _ _
