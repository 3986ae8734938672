section
variable {G : rn_G} {M : rn_M} {d z a b pc : Nat} {lv : List (Nat × Value)} {st : List Value} {ws : va_W} {Q : rn_R → va_W → Prop}
/-! stores whose contents nobody asks for later -/
theorem rn_iastF {o : Nat} (q0 t0 : Nat) {n : Nat} {f : Nat → Int32} {i x : Int32} (ha : ws[q0]? = some (o, .inl (rn_k G t0, n, .inl f))) (ht : rn_tys[t0]? = some .int) (hin : vp_in i n) (hdg : decode M.2.1 pc = .ok (.iastore, 1)) (kk : ∀ f' : Nat → Int32, Rn G M d z a b (pc + 1) lv st (ws.set q0 (o, .inl (rn_k G t0, n, .inl f'))) Q) : Rn G M d z a b pc lv (.int x :: .int i :: .ref o :: st) ws Q := rn_iast q0 t0 ha ht hin hdg (kk _)
theorem rn_zastF {o : Nat} (q0 t0 : Nat) {n : Nat} {f : Nat → Int32} {i x : Int32} (ha : ws[q0]? = some (o, .inl (rn_k G t0, n, .inl f))) (ht : rn_tys[t0]? = some .boolean) (hin : vp_in i n) (hdg : decode M.2.1 pc = .ok (.bastore, 1)) (kk : ∀ f' : Nat → Int32, Rn G M d z a b (pc + 1) lv st (ws.set q0 (o, .inl (rn_k G t0, n, .inl f'))) Q) : Rn G M d z a b pc lv (.int x :: .int i :: .ref o :: st) ws Q := rn_zast q0 t0 ha ht hin hdg (kk _)
theorem rn_iastC {o : Nat} (q0 t0 : Nat) {n : Nat} {f : Nat → Int32} {i x : Int32} {c9 : Nat × va_E} (ha : (ws.set q0 c9)[q0]? = some (o, .inl (rn_k G t0, n, .inl f))) (ht : rn_tys[t0]? = some .int) (hin : vp_in i n) (hdg : decode M.2.1 pc = .ok (.iastore, 1)) (kk : ∀ f' : Nat → Int32, Rn G M d z a b (pc + 1) lv st (ws.set q0 (o, .inl (rn_k G t0, n, .inl f'))) Q) : Rn G M d z a b pc lv (.int x :: .int i :: .ref o :: st) (ws.set q0 c9) Q := rn_iast q0 t0 ha ht hin hdg (by rw [List.set_set]; exact kk _)
end
section
theorem la_mid {α : Type} {pre t : List α} {n : Nat} {x : α} (h : pre.length = n) : (pre ++ x :: t)[n]? = some x := by subst h; simp
theorem set_mid {α : Type} {pre t : List α} {n : Nat} {x y : α} (h : pre.length = n) : (pre ++ x :: t).set n y = pre ++ y :: t := by subst h; simp
theorem rn_world {G : rn_G} {M : rn_M} {d z a b pc : Nat} {lv : List (Nat × Value)} {st : List Value} {ws : va_W} {Q : rn_R → va_W → Prop} (ws' : va_W) (h : ws = ws') (k : Rn G M d z a b pc lv st ws' Q) : Rn G M d z a b pc lv st ws Q := by rw [h]; exact k
end
/-! numbers: folding makes a sum smaller (nx_and, nx_mod are of the kit's BITS.to-paste) -/
theorem nx_and (a b : Nat) : nI a &&& nI b = nI (a &&& b) := by
  apply Int32.toBitVec_inj.1
  show BitVec.ofNat 32 a &&& BitVec.ofNat 32 b = BitVec.ofNat 32 (a &&& b)
  apply BitVec.eq_of_getLsbD_eq
  intro i hi
  simp [hi]
theorem nx_mod (k : Nat) : nI k &&& 65535 = nI (k % 65536) := by
  show nI k &&& nI 65535 = _
  rw [nx_and, show (65535 : Nat) = 2 ^ 16 - 1 from rfl, Nat.and_two_pow_sub_one_eq_mod]
theorem sh16 (s : Int32) : (s >>> ((16 : Int32) &&& 31)).toInt = s.toInt / 65536 := by
  have h : ((16 : Int32) &&& 31) = 16 := by decide
  rw [h]
  show (BitVec.sshiftRight' s.toBitVec ((16 : Int32).toBitVec.smod 32#32)).toInt = _
  have h2 : ((16 : Int32).toBitVec.smod 32#32) = 16#32 := by decide
  rw [h2]
  show (BitVec.sshiftRight s.toBitVec (16#32).toNat).toInt = _
  rw [BitVec.toInt_sshiftRight, Int.shiftRight_eq_div_pow]
  rfl
theorem fold_dec (s : Int32) (h : 65535 < s.toInt) : ((s &&& 65535) + (s >>> ((16 : Int32) &&& 31))).toInt.toNat < s.toInt.toNat := by
  have r := i32_rng s
  obtain ⟨m, hm⟩ : ∃ m : Nat, s.toInt = m := ⟨s.toInt.toNat, by omega⟩
  have hs : s = nI m := by
    apply Int32.toInt_inj.mp
    rw [nI_toInt (by omega), hm]
  have e1 : (s &&& 65535).toInt = ((m % 65536 : Nat) : Int) := by
    rw [hs, nx_mod, nI_toInt (by omega)]
  have e2 : (s >>> ((16 : Int32) &&& 31)).toInt = ((m / 65536 : Nat) : Int) := by rw [sh16 s, hm]; omega
  obtain ⟨k, e3, e4, e5⟩ := i32_add (s &&& 65535) (s >>> ((16 : Int32) &&& 31))
  have d1 := Nat.div_add_mod m 65536
  have d2 := Nat.mod_lt m (show 65536 > 0 by omega)
  generalize m / 65536 = q at *
  generalize m % 65536 = r9 at *
  rw [e1, e2] at e3
  generalize ((s &&& 65535) + s >>> ((16 : Int32) &&& 31)).toInt = t at *
  have hk : k = 0 := by omega
  subst hk
  omega
