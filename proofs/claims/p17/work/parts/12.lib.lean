/-! ranges of ints -/
section
theorem rg_any (x : Int32) : Rg (-2147483648) 2147483647 x := ⟨(i32_rng x).1, by have := (i32_rng x).2; omega⟩
theorem rg_w {a b lo hi : Int} {x : Int32} (h : Rg a b x) (h1 : lo ≤ a) (h2 : b ≤ hi) : Rg lo hi x := ⟨Int.le_trans h1 h.1, Int.le_trans h.2 h2⟩
theorem rg_in {a b : Int} {n : Nat} {i : Int32} (h : Rg a b i) (h1 : 0 ≤ a) (h2 : b < n) : vp_in i n := rn_in ⟨Int.le_trans h1 h.1, Int.lt_of_le_of_lt h.2 h2⟩
theorem rg_nat {a b : Int} {n : Nat} {i : Int32} (h : Rg a b i) (h1 : 0 ≤ a) (h2 : b < n) : i.toNatClampNeg < n := by
  have e : i.toNatClampNeg = i.toInt.toNat := rfl
  have g1 := h.1
  have g2 := h.2
  omega
theorem cv_lt {x y : Int32} (h : x < y) : x.toInt < y.toInt := Int32.lt_iff_toInt_lt.mp h
theorem cv_nlt {x y : Int32} (h : ¬ x < y) : y.toInt ≤ x.toInt := by rw [Int32.lt_iff_toInt_lt] at h; omega
theorem cv_le {x y : Int32} (h : x ≤ y) : x.toInt ≤ y.toInt := Int32.le_iff_toInt_le.mp h
theorem cv_nle {x y : Int32} (h : ¬ x ≤ y) : y.toInt < x.toInt := by rw [Int32.le_iff_toInt_le] at h; omega
theorem cv_eq {x y : Int32} (h : x = y) : x.toInt = y.toInt := by rw [h]
theorem cv_ne {x y : Int32} (h : ¬ x = y) : x.toInt ≠ y.toInt := fun e => h (Int32.toInt_inj.mp e)
theorem rf_ltx {a b c e hi : Int} {x y : Int32} (h : x.toInt < y.toInt) (hx : Rg a b x) (hy : Rg c e y) (hd : e - 1 ≤ hi) : Rg a hi x := ⟨hx.1, by have := hy.2; omega⟩
theorem rf_lty {a b c e lo : Int} {x y : Int32} (h : x.toInt < y.toInt) (hx : Rg a b x) (hy : Rg c e y) (hd : lo ≤ a + 1) : Rg lo e y := ⟨by have := hx.1; omega, hy.2⟩
theorem rf_lex {a b c e hi : Int} {x y : Int32} (h : x.toInt ≤ y.toInt) (hx : Rg a b x) (hy : Rg c e y) (hd : e ≤ hi) : Rg a hi x := ⟨hx.1, by have := hy.2; omega⟩
theorem rf_ley {a b c e lo : Int} {x y : Int32} (h : x.toInt ≤ y.toInt) (hx : Rg a b x) (hy : Rg c e y) (hd : lo ≤ a) : Rg lo e y := ⟨by have := hx.1; omega, hy.2⟩
theorem rf_eqx {a b c e lo hi : Int} {x y : Int32} (h : x.toInt = y.toInt) (hx : Rg a b x) (hy : Rg c e y) (h1 : lo ≤ a ∨ lo ≤ c) (h2 : b ≤ hi ∨ e ≤ hi) : Rg lo hi x := by
  have := hx.1; have := hx.2; have := hy.1; have := hy.2
  exact ⟨by omega, by omega⟩
theorem rf_eqy {a b c e lo hi : Int} {x y : Int32} (h : x.toInt = y.toInt) (hx : Rg a b x) (hy : Rg c e y) (h1 : lo ≤ a ∨ lo ≤ c) (h2 : b ≤ hi ∨ e ≤ hi) : Rg lo hi y := by
  have := hx.1; have := hx.2; have := hy.1; have := hy.2
  exact ⟨by omega, by omega⟩
theorem rf_nel {a b c lo : Int} {x y : Int32} (h : x.toInt ≠ y.toInt) (hx : Rg a b x) (hy : Rg c c y) (h1 : a = c) (h2 : lo = a + 1) : Rg lo b x := by
  have := hx.1; have := hx.2; have := hy.1; have := hy.2
  exact ⟨by omega, by omega⟩
theorem rf_neh {a b c hi : Int} {x y : Int32} (h : x.toInt ≠ y.toInt) (hx : Rg a b x) (hy : Rg c c y) (h1 : b = c) (h2 : hi = b - 1) : Rg a hi x := by
  have := hx.1; have := hx.2; have := hy.1; have := hy.2
  exact ⟨by omega, by omega⟩
theorem cx_lt {a b c e : Int} {x y : Int32} (h : x.toInt < y.toInt) (hx : Rg a b x) (hy : Rg c e y) (hd : e ≤ a) : False := by
  have := hx.1; have := hy.2
  omega
theorem cx_le {a b c e : Int} {x y : Int32} (h : x.toInt ≤ y.toInt) (hx : Rg a b x) (hy : Rg c e y) (hd : e < a) : False := by
  have := hx.1; have := hy.2
  omega
theorem cx_eq {a b c e : Int} {x y : Int32} (h : x.toInt = y.toInt) (hx : Rg a b x) (hy : Rg c e y) (hd : e < a ∨ b < c) : False := by
  have := hx.1; have := hx.2; have := hy.1; have := hy.2
  omega
theorem cx_ne {a c : Int} {x y : Int32} (h : x.toInt ≠ y.toInt) (hx : Rg a a x) (hy : Rg c c y) (hd : a = c) : False := by
  have := hx.1; have := hx.2; have := hy.1; have := hy.2
  omega
theorem rg_add {x y : Int32} {a b c e lo hi : Int} (hx : Rg a b x) (hy : Rg c e y) (h : -2147483648 ≤ a + c ∧ b + e ≤ 2147483647 ∧ lo ≤ a + c ∧ b + e ≤ hi) : (x + y).toInt = x.toInt + y.toInt ∧ Rg lo hi (x + y) := by
  obtain ⟨k, e1, e2, e3⟩ := i32_add x y
  have g1 := hx.1; have g2 := hx.2; have g3 := hy.1; have g4 := hy.2
  have hk : k = 0 := by omega
  subst hk
  exact ⟨by omega, by omega, by omega⟩
theorem rg_sub {x y : Int32} {a b c e lo hi : Int} (hx : Rg a b x) (hy : Rg c e y) (h : -2147483648 ≤ a - e ∧ b - c ≤ 2147483647 ∧ lo ≤ a - e ∧ b - c ≤ hi) : (x - y).toInt = x.toInt - y.toInt ∧ Rg lo hi (x - y) := by
  obtain ⟨k, e1, e2, e3⟩ := i32_sub x y
  have g1 := hx.1; have g2 := hx.2; have g3 := hy.1; have g4 := hy.2
  have hk : k = 0 := by omega
  subst hk
  exact ⟨by omega, by omega, by omega⟩
theorem rg_mulc {x y : Int32} {a b c lo hi : Int} (hx : Rg a b x) (hy : Rg c c y) (h : 0 ≤ a ∧ 0 ≤ c ∧ b * c ≤ 2147483647 ∧ lo ≤ 0 ∧ b * c ≤ hi) : (x * y).toInt = x.toInt * c ∧ Rg lo hi (x * y) := by
  have g1 := hx.1; have g2 := hx.2
  have hyc : y.toInt = c := by have := hy.1; have := hy.2; omega
  have h1 := Int32.toInt_mul x y
  rw [hyc] at h1
  have m1 : 0 ≤ x.toInt * c := Int.mul_nonneg (by omega) h.2.1
  have m2 : x.toInt * c ≤ b * c := Int.mul_le_mul_of_nonneg_right g2 h.2.1
  rw [Int.bmod_eq_of_le (by omega) (by omega)] at h1
  exact ⟨h1, by omega, by omega⟩
theorem rg_min {x y : Int32} {a b c e lo hi : Int} (hx : Rg a b x) (hy : Rg c e y) (h : lo ≤ a ∧ lo ≤ c ∧ (b ≤ hi ∨ e ≤ hi)) : Rg lo hi (if y < x then y else x) := by
  have g1 := hx.1; have g2 := hx.2; have g3 := hy.1; have g4 := hy.2
  rcases i32_min x y with ⟨e1, e2⟩ | ⟨e1, e2⟩
  · exact ⟨by omega, by omega⟩
  · exact ⟨by omega, by omega⟩
theorem rg_max {x y : Int32} {a b c e lo hi : Int} (hx : Rg a b x) (hy : Rg c e y) (h : b ≤ hi ∧ e ≤ hi ∧ (lo ≤ a ∨ lo ≤ c)) : Rg lo hi (if x < y then y else x) := by
  have g1 := hx.1; have g2 := hx.2; have g3 := hy.1; have g4 := hy.2
  rcases i32_max x y with ⟨e1, e2⟩ | ⟨e1, e2⟩
  · exact ⟨by omega, by omega⟩
  · exact ⟨by omega, by omega⟩
theorem i32_nI (x : Int32) : x = nI x.toBitVec.toNat := by
  apply Int32.toBitVec_inj.1
  show x.toBitVec = BitVec.ofNat 32 x.toBitVec.toNat
  simp
theorem i32_nn {x : Int32} (h : 0 ≤ x.toInt) : x = nI x.toInt.toNat := by
  apply Int32.toInt_inj.mp
  have r := i32_rng x
  rw [nI_toInt (by omega)]
  omega
theorem rg_nI {n : Nat} {hi : Int} (h : (n : Int) ≤ hi) (h2 : hi ≤ 2147483647) : Rg 0 hi (nI n) := by
  unfold Rg
  rw [nI_toInt (by omega)]
  omega
theorem rg_andr {x y : Int32} {c e hi : Int} (hy : Rg c e y) (h : 0 ≤ c ∧ e ≤ hi ∧ hi ≤ 2147483647) : Rg 0 hi (x &&& y) := by
  have g1 := hy.1; have g2 := hy.2
  rw [i32_nI x, i32_nn (x := y) (by omega), nx_and]
  refine rg_nI ?_ h.2.2
  have := Nat.and_le_right (n := x.toBitVec.toNat) (m := y.toInt.toNat)
  omega
theorem rg_andl {x y : Int32} {c e hi : Int} (hx : Rg c e x) (h : 0 ≤ c ∧ e ≤ hi ∧ hi ≤ 2147483647) : Rg 0 hi (x &&& y) := by
  have g1 := hx.1; have g2 := hx.2
  rw [i32_nI y, i32_nn (x := x) (by omega), nx_and]
  refine rg_nI ?_ h.2.2
  have := Nat.and_le_left (n := x.toInt.toNat) (m := y.toBitVec.toNat)
  omega
theorem nx_or (a b : Nat) : nI a ||| nI b = nI (a ||| b) := by
  apply Int32.toBitVec_inj.1
  show BitVec.ofNat 32 a ||| BitVec.ofNat 32 b = BitVec.ofNat 32 (a ||| b)
  apply BitVec.eq_of_getLsbD_eq
  intro i hi
  simp [hi]
theorem nx_xor (a b : Nat) : nI a ^^^ nI b = nI (a ^^^ b) := by
  apply Int32.toBitVec_inj.1
  show BitVec.ofNat 32 a ^^^ BitVec.ofNat 32 b = BitVec.ofNat 32 (a ^^^ b)
  apply BitVec.eq_of_getLsbD_eq
  intro i hi
  simp [hi]
theorem rg_or {x y : Int32} {a b c e hi : Int} (n P : Nat) (hP : 2 ^ n = P) (hx : Rg a b x) (hy : Rg c e y) (h : 0 ≤ a ∧ 0 ≤ c ∧ b < P ∧ e < P ∧ (P : Int) ≤ 2147483648 ∧ hi = P - 1) : Rg 0 hi (x ||| y) := by
  have g1 := hx.1; have g2 := hx.2; have g3 := hy.1; have g4 := hy.2
  obtain ⟨h1, h2, h3, h4, h5, h6⟩ := h
  rw [i32_nn (x := x) (by omega), i32_nn (x := y) (by omega), nx_or]
  have k1 : x.toInt.toNat < 2 ^ n := by rw [hP]; omega
  have k2 : y.toInt.toNat < 2 ^ n := by rw [hP]; omega
  have k3 := Nat.or_lt_two_pow k1 k2
  rw [hP] at k3
  exact rg_nI (by omega) (by omega)
theorem rg_xor {x y : Int32} {a b c e hi : Int} (n P : Nat) (hP : 2 ^ n = P) (hx : Rg a b x) (hy : Rg c e y) (h : 0 ≤ a ∧ 0 ≤ c ∧ b < P ∧ e < P ∧ (P : Int) ≤ 2147483648 ∧ hi = P - 1) : Rg 0 hi (x ^^^ y) := by
  have g1 := hx.1; have g2 := hx.2; have g3 := hy.1; have g4 := hy.2
  obtain ⟨h1, h2, h3, h4, h5, h6⟩ := h
  rw [i32_nn (x := x) (by omega), i32_nn (x := y) (by omega), nx_xor]
  have k1 : x.toInt.toNat < 2 ^ n := by rw [hP]; omega
  have k2 : y.toInt.toNat < 2 ^ n := by rw [hP]; omega
  have k3 := Nat.xor_lt_two_pow k1 k2
  rw [hP] at k3
  exact rg_nI (by omega) (by omega)
theorem rg_rem {x y : Int32} {a b c hi : Int} (hx : Rg a b x) (hy : Rg c c y) (h : 0 ≤ a ∧ 0 < c ∧ c - 1 ≤ hi) : (x - x / y * y).toInt = x.toInt % c ∧ Rg 0 hi (x - x / y * y) := by
  have g1 := hx.1; have g2 := hx.2
  have r := i32_rng x
  have hyc : y.toInt = c := by have := hy.1; have := hy.2; omega
  have ry := i32_rng y
  have d1 : 0 ≤ x.toInt / c := Int.ediv_nonneg (by omega) (by omega)
  have d2 : x.toInt / c ≤ x.toInt := Int.ediv_le_self _ (by omega)
  have h1 : (x / y).toInt = x.toInt / c := by
    have h2 := Int32.toInt_div x y
    rw [hyc, Int.tdiv_eq_ediv_of_nonneg (by omega), Int.bmod_eq_of_le (by omega) (by omega)] at h2
    exact h2
  have m0 := Int.emod_add_mul_ediv x.toInt c
  have m1 : 0 ≤ x.toInt % c := Int.emod_nonneg _ (by omega)
  have m2 : x.toInt % c < c := Int.emod_lt_of_pos _ (by omega)
  have m3 : x.toInt / c * c = x.toInt - x.toInt % c := by rw [Int.mul_comm]; omega
  have h3 : (x / y * y).toInt = x.toInt - x.toInt % c := by
    have h4 := Int32.toInt_mul (x / y) y
    rw [h1, hyc, m3, Int.bmod_eq_of_le (by omega) (by omega)] at h4
    exact h4
  obtain ⟨k, e1, e2, e3⟩ := i32_sub x (x / y * y)
  rw [h3] at e1
  have hk : k = 0 := by omega
  subst hk
  exact ⟨by omega, by omega, by omega⟩
theorem rg_lcmp (x y : Int64) : Rg (-1) 1 (lg_cmp x y) := by
  unfold lg_cmp Rg
  split
  · decide
  · split <;> decide
theorem rg_nb (x : Int32) {lo hi : Int} (h1 : lo ≤ -128) (h2 : 127 ≤ hi) : Rg lo hi (vp_nar .byte x) := by
  have e : (vp_nar .byte x).toInt = x.toInt8.toInt := by show (x.toInt8.toInt32).toInt = _; simp
  have g1 := Int8.le_toInt x.toInt8
  have g2 := Int8.toInt_lt x.toInt8
  exact ⟨by omega, by omega⟩
theorem rg_nz (x : Int32) {lo hi : Int} (h1 : lo ≤ 0) (h2 : 1 ≤ hi) : Rg lo hi (vp_nar .boolean x) := by
  have h : Rg 0 1 (x &&& 1) := rg_andr (c := 1) (e := 1) (by unfold Rg; decide) (by decide)
  exact rg_w (show Rg 0 1 (vp_nar .boolean x) from h) h1 h2
theorem i32_01 {x : Int32} (h : Rg 0 1 x) : x = 0 ∨ x = 1 := by
  have g1 := h.1; have g2 := h.2
  rcases (show x.toInt = 0 ∨ x.toInt = 1 by omega) with e | e
  · exact Or.inl (Int32.toInt_inj.mp (by rw [e]; decide))
  · exact Or.inr (Int32.toInt_inj.mp (by rw [e]; decide))
theorem nb_n {x : Int32} (h : Rg 0 1 x) : narrow .boolean (.int x) = .int x := by
  rcases i32_01 h with rfl | rfl <;> rfl
theorem nb_f {x : Int32} (h : Rg 0 1 x) : fits .boolean (.int x) = true := by
  rcases i32_01 h with rfl | rfl <;> rfl
theorem ft_b {x : Int32} (h : Rg (-128) 127 x) : fits .byte (.int x) = true := by
  have g1 : (-128 : Int32) ≤ x := Int32.le_iff_toInt_le.mpr h.1
  have g2 : x ≤ (127 : Int32) := Int32.le_iff_toInt_le.mpr h.2
  simp [fits, g1, g2]
theorem upd_rg {f : Nat → Int32} {n i : Nat} {x : Int32} {lo hi : Int} (hf : ∀ j, j < n → Rg lo hi (f j)) (hx : Rg lo hi x) : ∀ j, j < n → Rg lo hi (upd f i x j) := by
  intro j hj
  unfold upd
  split
  · exact hx
  · exact hf j hj
theorem cpy_rg {f g : Nat → Int32} {n m sp dp k : Nat} {lo hi : Int} (hf : ∀ j, j < m → Rg lo hi (f j)) (hg : ∀ j, j < n → Rg lo hi (g j)) (h : sp + k ≤ m) : ∀ j, j < n → Rg lo hi (va_cpy f g sp dp k j) := by
  intro j hj
  unfold va_cpy
  split
  · exact hf _ (by omega)
  · exact hg j hj
theorem rg_u56 (x : Int64) : Rg 0 255 ((x.toUInt64 >>> ((56 : Int32).toInt64.toUInt64 &&& Int64.toUInt64 63)).toInt64).toInt32 := by
  have h0 : ((56 : Int32).toInt64.toUInt64 &&& Int64.toUInt64 63) = 56 := by decide
  rw [h0]
  have h1 : ((x.toUInt64 >>> 56).toInt64).toInt32 = nI (x.toUInt64.toNat / 2 ^ 56) := by
    apply Int32.toBitVec_inj.1
    show BitVec.signExtend 32 (x.toUInt64 >>> 56).toBitVec = BitVec.ofNat 32 _
    apply BitVec.eq_of_toNat_eq
    rw [BitVec.signExtend_eq_setWidth_of_le _ (by decide), BitVec.toNat_setWidth, BitVec.toNat_ofNat]
    congr 1
    show (x.toUInt64 >>> 56).toNat = _
    rw [UInt64.toNat_shiftRight]
    show x.toUInt64.toNat >>> (56 % 64) = _
    rw [Nat.shiftRight_eq_div_pow]
  rw [h1]
  have h2 : x.toUInt64.toNat < 2 ^ 64 := x.toUInt64.toNat_lt
  exact rg_nI (by omega) (by decide)
theorem lp_inc {x v : Int32} {n : Nat} {HI c lo hi : Int} (hm : (HI - x.toInt).toNat = n) (e : v.toInt = x.toInt + c) (r : Rg lo hi v) (h : 0 < c ∧ hi ≤ HI) : (HI - v.toInt).toNat < n := by
  have := r.2
  omega
theorem lp_dec {x v : Int32} {n : Nat} {LO c lo hi : Int} (hm : (x.toInt - LO).toNat = n) (e : v.toInt = x.toInt + c) (r : Rg lo hi v) (h : c < 0 ∧ LO ≤ lo) : (v.toInt - LO).toNat < n := by
  have := r.1
  omega
end
