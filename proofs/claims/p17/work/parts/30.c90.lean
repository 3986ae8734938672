/-! two bytes as a number, and the number's two bytes -/
section
theorem nx_shl8 (a : Nat) : nI a <<< ((8 : Int32) &&& 31) = nI (a * 256) := by
  have h : ((8 : Int32) &&& 31) = 8 := by decide
  rw [h]
  apply Int32.toBitVec_inj.1
  show (BitVec.ofNat 32 a) <<< ((8 : Int32).toBitVec.smod 32#32) = BitVec.ofNat 32 (a * 256)
  have h2 : ((8 : Int32).toBitVec.smod 32#32) = 8#32 := by decide
  rw [h2]
  apply BitVec.eq_of_toNat_eq
  show ((BitVec.ofNat 32 a) <<< (8#32).toNat).toNat = _
  rw [BitVec.toNat_shiftLeft, BitVec.toNat_ofNat, BitVec.toNat_ofNat, Nat.shiftLeft_eq]
  show a % 2 ^ 32 * 2 ^ 8 % 2 ^ 32 = a * 256 % 2 ^ 32
  omega
theorem sh8 (s : Int32) : (s >>> ((8 : Int32) &&& 31)).toInt = s.toInt / 256 := by
  have h : ((8 : Int32) &&& 31) = 8 := by decide
  rw [h]
  show (BitVec.sshiftRight' s.toBitVec ((8 : Int32).toBitVec.smod 32#32)).toInt = _
  have h2 : ((8 : Int32).toBitVec.smod 32#32) = 8#32 := by decide
  rw [h2]
  show (BitVec.sshiftRight s.toBitVec (8#32).toNat).toInt = _
  rw [BitVec.toInt_sshiftRight, Int.shiftRight_eq_div_pow]
  rfl
theorem two_val {x y : Int32} (hx : Rg 0 255 x) (hy : Rg 0 255 y) : ((x <<< ((8 : Int32) &&& 31)) ||| y).toInt = x.toInt * 256 + y.toInt ∧ Rg 0 65535 ((x <<< ((8 : Int32) &&& 31)) ||| y) := by
  have g1 := hx.1; have g2 := hx.2; have g3 := hy.1; have g4 := hy.2
  have e : (x <<< ((8 : Int32) &&& 31)) ||| y = nI (x.toInt.toNat * 256 + y.toInt.toNat) := by
    conv => lhs; rw [i32_nn (x := x) (by omega), i32_nn (x := y) (by omega)]
    rw [nx_shl8, nx_or]
    congr 1
    have h := Nat.shiftLeft_add_eq_or_of_lt (i := 8) (b := y.toInt.toNat) (show y.toInt.toNat < 2 ^ 8 by omega) x.toInt.toNat
    rw [Nat.shiftLeft_eq] at h
    exact h.symm
  have e2 : ((x <<< ((8 : Int32) &&& 31)) ||| y).toInt = x.toInt * 256 + y.toInt := by
    rw [e, nI_toInt (by omega)]
    omega
  exact ⟨e2, by rw [e2]; omega, by rw [e2]; omega⟩
theorem pt_val {v : Int32} (h1 : 0 ≤ v.toInt) (h2 : v.toInt ≤ 65535) : ((v >>> ((8 : Int32) &&& 31)) &&& (255 : Int32)).toInt * 256 + (v &&& (255 : Int32)).toInt = v.toInt := by
  have k : Rg 255 255 (255 : Int32) := by unfold Rg; decide
  have e0 := sh8 v
  have a1 := (rg_mask (hi := 255) 8 256 rfl (show Rg 0 255 (v >>> ((8 : Int32) &&& 31)) from ⟨by omega, by omega⟩) k (by decide)).1
  have a2 := (rg_mask (hi := 255) 8 256 rfl (show Rg 0 65535 v from ⟨h1, h2⟩) k (by decide)).1
  rw [a1, a2, e0]
  omega
theorem tnc {x : Int32} {k : Nat} (h : x.toInt = k) : x.toNatClampNeg = k := by
  have e : x.toNatClampNeg = x.toInt.toNat := rfl
  omega
theorem rg_tw {v x : Int32} {T lo a b hi : Int} (e : v.toInt = T) (k : lo ≤ T ∧ T ≤ x.toInt) (rx : Rg a b x) (h : b ≤ hi) : Rg lo hi v := ⟨by omega, by have := rx.2; omega⟩
theorem gv_tw {x : Int32} {T lo a b lo' hi' : Int} (k : lo ≤ T ∧ T ≤ x.toInt) (rx : Rg a b x) (h1 : lo' ≤ lo) (h2 : b ≤ hi') : lo' ≤ T ∧ T ≤ hi' := ⟨by omega, by have := rx.2; omega⟩
end
