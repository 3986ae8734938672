/-! masks, and what stays of the reference's bytes -/
section
theorem rg_mask {x y : Int32} {a b c hi : Int} (n P : Nat) (hP : 2 ^ n = P) (hx : Rg a b x) (hy : Rg c c y) (h : 0 ≤ a ∧ c = P - 1 ∧ 1 ≤ (P : Int) ∧ (P : Int) ≤ 2147483648 ∧ c ≤ hi ∧ hi ≤ 2147483647) : (x &&& y).toInt = x.toInt % P ∧ Rg 0 hi (x &&& y) := by
  have g1 := hx.1; have g2 := hx.2; have g3 := hy.1; have g4 := hy.2
  obtain ⟨h1, h2, h3, h4, h5, h6⟩ := h
  have ey : y = nI (2 ^ n - 1) := by
    rw [i32_nn (x := y) (by omega), hP]
    congr 1
    omega
  have ex := i32_nn (x := x) (by omega)
  have e : x &&& y = nI (x.toInt.toNat % P) := by
    rw [ey]
    conv => lhs; rw [ex]
    rw [nx_and, Nat.and_two_pow_sub_one_eq_mod, hP]
  have m1 : x.toInt.toNat % P < P := Nat.mod_lt _ (by omega)
  have e2 : (x &&& y).toInt = ((x.toInt.toNat % P : Nat) : Int) := by rw [e, nI_toInt (by omega)]
  have e3 : ((x.toInt.toNat % P : Nat) : Int) = x.toInt % P := by
    rw [Int.natCast_emod]
    congr 1
    omega
  refine ⟨by rw [e2, e3], ?_, ?_⟩
  · rw [e2]; omega
  · rw [e2]; omega
theorem rf_bk {a b lo hi lo' hi' c : Int} {x v : Int32} (e : v.toInt = x.toInt + c) (rv : Rg lo hi v) (rx : Rg a b x) (h1 : lo' ≤ lo - c ∨ lo' ≤ a) (h2 : hi - c ≤ hi' ∨ b ≤ hi') : Rg lo' hi' x := by
  have := rv.1; have := rv.2; have := rx.1; have := rx.2
  exact ⟨by omega, by omega⟩
theorem mv_tw {ws w : va_W} {x1 x2 x3 : Int32} {t : Int} (h : x1.toInt + x3.toInt ≤ x2.toInt → ∀ j : Nat, (j : Int) < x3.toInt → byt w (x2.toInt.toNat + j) = byt ws (x1.toInt.toNat + j)) (ht : tw (byt ws) 2 = t) (h1 : x1.toInt.toNat = 0) (h2 : x2.toInt.toNat = 2200) (h3 : 4 ≤ x3.toInt) (h4 : x1.toInt + x3.toInt ≤ x2.toInt) : tw (byt w) 2202 = t := by
  have a2 := h h4 2 (by omega)
  have a3 := h h4 3 (by omega)
  rw [h1, h2] at a2 a3
  rw [← ht]
  unfold tw
  rw [a2, a3]
theorem tw_two {ws w : va_W} {k : Nat} {t : Int} (h1 : byt w k = byt ws k) (h2 : byt w (k + 1) = byt ws (k + 1)) (ht : tw (byt ws) k = t) : tw (byt w) k = t := by
  unfold tw
  rw [h1, h2]
  exact ht
theorem byt_st {G : rn_G} {S : ts_S} {ws w : va_W} {q o n n' : Nat} {c c' : ClassId} {f f' : Nat → Int32} {i x : Int32} (hW : ts_W G S ws) (hW' : ts_W G S w) (hq : S[q]? = some (o, 33)) (hl : ws[q]? = some (o, .inl (c, n, .inl f))) (hl' : w[q]? = some (o, .inl (c', n', .inl f'))) (hu : f' = upd f i.toNatClampNeg x) (h0 : 0 ≤ i.toInt) (j : Nat) (hj : (j : Int) ≠ i.toInt) : byt w j = byt ws j := by
  rw [byt_of hW hq hl, byt_of hW' hq hl', hu]
  unfold upd
  rw [if_neg]
  intro e
  have e2 : i.toNatClampNeg = i.toInt.toNat := rfl
  omega
theorem bs_st {G : rn_G} {S : ts_S} {ws0 ws w : va_W} {a b : Int} {q o n n' : Nat} {c c' : ClassId} {f f' : Nat → Int32} {i x : Int32} (h : bsame a b ws0 ws) (hW : ts_W G S ws) (hW' : ts_W G S w) (hq : S[q]? = some (o, 33)) (hl : ws[q]? = some (o, .inl (c, n, .inl f))) (hl' : w[q]? = some (o, .inl (c', n', .inl f'))) (hu : f' = upd f i.toNatClampNeg x) (h0 : 0 ≤ i.toInt) (h1 : a ≤ i.toInt ∧ i.toInt < b) : bsame a b ws0 w := fun j hj => by
  rw [byt_st hW hW' hq hl hl' hu h0 j (by omega)]
  exact h j hj
theorem bs_rf {a b : Int} {ws : va_W} : bsame a b ws ws := fun _ _ => rfl
theorem bs_eq {a b : Int} {ws w w' : va_W} (h : bsame a b ws w) (e : byt w' = byt w) : bsame a b ws w' := fun j hj => by rw [e]; exact h j hj
theorem bs_tr {a b c e : Int} {ws w w' : va_W} (h : bsame a b ws w) (h2 : bsame c e w w') (h3 : a ≤ c) (h4 : e ≤ b) : bsame a b ws w' := fun j hj => by
  rw [h2 j (by omega)]
  exact h j hj
end
section
variable {G : rn_G} {M : rn_M} {d z a b pc : Nat} {lv : List (Nat × Value)} {st : List Value} {ws : va_W} {Q : rn_R → va_W → Prop}
theorem rs_acpy {S0 S : ts_S} {L : List Nat} {ws0 : va_W} {o0 o k n n0 tg kx index : Nat} {ss : List ts_P} {f g : Nat → Int32} {sp dp nn : Int32} (q0 q : Nat) (A : rn_ac M.1.cls index) (hS : St G S0 L ws0 S ws) (hl0 : ws[q0]? = some (o0, .inl (rn_k G 0, n0, .inl f))) (hf0 : ∀ j, j < n0 → Rg (-128) 127 (f j)) (hq : S[q]? = some (o, k)) (hl : ws[q]? = some (o, .inl (rn_k G 0, n, .inl g))) (hf : ∀ j, j < n → Rg (-128) 127 (g j)) (hk : ts_k k = (1, 0, n, (tg, kx, -128, 127), ss)) (hL : L.contains k = true) (h1 : 0 ≤ sp.toInt) (h2 : 0 ≤ dp.toInt) (h3 : 0 ≤ nn.toInt) (h4 : sp.toInt + nn.toInt ≤ n0) (h5 : dp.toInt + nn.toInt ≤ n) (hd1 : 1 ≤ d) (hz1 : 60 ≤ z) (hst : (st.map fun v => v.category).sum ≤ 8) (hdg : decode M.2.1 pc = .ok (.invokestatic index, 3))
    (kk : ∀ w : va_W, St G S0 L ws0 S w → (∀ q' : Nat, q' ≠ q → w[q']? = ws[q']?) → Rn G M d z a b (pc + 3) lv st w Q) : Rn G M d z a b pc lv (.int nn :: .int dp :: .ref o :: .int sp :: .ref o0 :: st) ws Q := by
  intro p e R s m args below meth c H locs ls cells slots C hl9 hP hD hS9 hf9 ho hc hs
  have hts := C.2.2.2.2.2.1
  have tn : ∀ x : Int32, 0 ≤ x.toInt → (x.toNatClampNeg : Int) = x.toInt := fun x hx => by
    have e : x.toNatClampNeg = x.toInt.toNat := rfl
    omega
  have nl : ∀ x : Int32, 0 ≤ x.toInt → ¬ x < 0 := fun x hx h => by
    have := Int32.lt_iff_toInt_lt.mp h
    have e0 : (0 : Int32).toInt = 0 := by decide
    omega
  have e1 := tn sp h1
  have e2 := tn dp h2
  have e3 := tn nn h3
  have hK := rn_K_of (t := 0) (ty := .byte) C.2.2.2.2.2.2.2.2.2.2 rfl
  have e9 : nativeFrameWords "java/lang/System" "arraycopy" 5 ≤ 41 := by decide
  refine va_copyi C.1 C.2.1 (C.2.2.2.1.trans hl9.1.symm) C.2.2.2.2.1 (hts _ A.1) (hts _ A.2.1) (hts _ A.2.2.1) (hts _ A.2.2.2) C.2.2.2.2.2.2.2.2.2.1 hP hD hS9 q0 q 0 0 hl0 hl hK hK rfl (nl sp h1) (nl dp h2) (nl nn h3) (by omega) (by omega) (fun i hi => ft_b (hf0 _ (by omega))) (by omega) (by omega) hdg (fun H1 locs1 hP1 hD1 hS1 => ?_)
  exact kk _ (hS.cell hq hL (by rw [hk]; exact Or.inr (Or.inl ⟨rfl, _, rfl, cpy_rg hf0 hf (by omega)⟩))) (fun q' hq' => List.getElem?_set_ne (Ne.symm hq')) p e R s m args below meth c H1 locs1 ls cells slots C hl9 hP1 hD1 hS1 hf9 ho hc hs
end
def mok (a b c : Int32) : Prop := 0 ≤ a.toInt ∧ a.toInt ≤ 255 ∧ 0 ≤ b.toInt ∧ b.toInt ≤ c.toInt ∧ c.toInt ≤ 65535
