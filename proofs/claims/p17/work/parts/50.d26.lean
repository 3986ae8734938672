theorem law33 (G : rn_G) (hLe : G.2.2.2.2.1.2.1 ≤ 5121) (ox om oo : Nat) (a b : Nat) (w : va_W) (i : Int32) (h1 : 1 ≤ i.toInt) (h2 : i.toInt ≤ 5131) (K : i.toInt + 10 ≤ (G.2.2.2.2.1.2.1 : Int) → Rn G mL_law 9 244 a b 43 [(0, .ref G.2.2.2.2.1.1), (1, .ref ox), (2, .ref om), (3, .ref oo), (4, .int i)] [] w (fun r _ => r = Sum.inl (some (.int 1)))) : Rn G mL_law 9 244 a b 33 [(0, .ref G.2.2.2.2.1.1), (1, .ref ox), (2, .ref om), (3, .ref oo), (4, .int i)] [] w (fun r _ => r = Sum.inl (some (.int 1))) := by
  have e1 : (Int32.ofNat G.2.2.2.2.1.2.1).toInt = (G.2.2.2.2.1.2.1 : Int) := nI_toInt (by omega)
  refine rn_iload dL_law_33 rfl ?_
  refine rn_aload_n (i := 0) dL_law_35 rfl rfl ?_
  refine rn_slen dL_law_36 ?_
  refine rn_bipush (v := (10 : Int32)) dL_law_37 (by decide) ?_
  refine rs_subC (-10) 5111 (show Rg 0 5121 (Int32.ofNat G.2.2.2.2.1.2.1) from ⟨by omega, by omega⟩) rk_10 dL_law_39 (by decide) (fun v e r => ?_)
  refine rn_icmp_gt (tgt := 1285) dL_law_40 (by decide) (fun h => ?_) (fun h => ?_)
  · refine rn_iconst (v := (1 : Int32)) dL_law_1285 (by decide) ?_
    exact rn_iret dL_law_1286 rfl rfl rfl
  · have c := cv_nlt h
    exact K (by omega)
theorem law_next (G : rn_G) (ox om oo : Nat) (a b : Nat) (w : va_W) (i : Int32) (h1 : 1 ≤ i.toInt) (h2 : i.toInt ≤ 5121) (K : ∀ v : Int32, v.toInt = i.toInt + 10 → Rn G mL_law 9 244 a b 33 [(0, .ref G.2.2.2.2.1.1), (1, .ref ox), (2, .ref om), (3, .ref oo), (4, .int v)] [] w (fun r _ => r = Sum.inl (some (.int 1)))) : Rn G mL_law 9 244 a b 1279 [(0, .ref G.2.2.2.2.1.1), (1, .ref ox), (2, .ref om), (3, .ref oo), (4, .int i)] [] w (fun r _ => r = Sum.inl (some (.int 1))) := by
  refine rs_iinc 11 5131 dL_law_1279 rfl (by decide) (show Rg 1 5121 i from ⟨h1, h2⟩) rk_10 (by decide) (fun v => [(0, .ref G.2.2.2.2.1.1), (1, .ref ox), (2, .ref om), (3, .ref oo), (4, .int v)]) (fun _ => rfl) (fun v e r => ?_)
  refine rn_goto (tgt := 33) dL_law_1282 (by decide) ?_
  exact K v e
