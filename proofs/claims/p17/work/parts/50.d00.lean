theorem bud_le {a x y z : Nat} (h : x + y ≤ z) : x + (a + y) ≤ a + z := by omega
theorem rn_scl {G : rn_G} {M : rn_M} {d z a b pc : Nat} {lv : List (Nat × Value)} {st : List Value} {ws : va_W} {Q : rn_R → va_W → Prop} (c : Nat) {v i sc : Int32} (hv : v.toInt = i.toInt + c) (ri : Rg 1 5121 i) (hi : i.toInt + 10 ≤ (G.2.2.2.2.1.2.1 : Int)) (h9 : c ≤ 9) (hs : G.2.2.2.2.1.2.2 (i.toInt.toNat + c) = sc) (hdg : decode M.2.1 pc = .ok (.iaload, 1)) (k : Rn G M d z a b (pc + 1) lv (.int sc :: st) ws Q) : Rn G M d z a b pc lv (.int v :: .ref G.2.2.2.2.1.1 :: st) ws Q := by
  have h1 := ri.1
  refine rn_sld (rn_in ⟨by omega, by omega⟩) hdg ?_
  have e : v.toNatClampNeg = i.toInt.toNat + c := tnc (by omega)
  rw [e, hs]
  exact k
