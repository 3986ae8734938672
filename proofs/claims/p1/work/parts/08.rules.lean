section
variable {G : rn_G} {M : rn_M} {d z a b pc : Nat} {lv : List (Nat × Value)} {st : List Value} {ws : va_W} {Q : rn_R → va_W → Prop}
/-! stores whose contents nobody asks for later -/
theorem rn_iastF {o : Nat} (q0 t0 : Nat) {n : Nat} {f : Nat → Int32} {i x : Int32} (ha : ws[q0]? = some (o, .inl (rn_k G t0, n, .inl f))) (ht : rn_tys[t0]? = some .int) (hin : vp_in i n) (hdg : decode M.2.1 pc = .ok (.iastore, 1)) (kk : ∀ f' : Nat → Int32, Rn G M d z a b (pc + 1) lv st (ws.set q0 (o, .inl (rn_k G t0, n, .inl f'))) Q) : Rn G M d z a b pc lv (.int x :: .int i :: .ref o :: st) ws Q := rn_iast q0 t0 ha ht hin hdg (kk _)
theorem rn_zastF {o : Nat} (q0 t0 : Nat) {n : Nat} {f : Nat → Int32} {i x : Int32} (ha : ws[q0]? = some (o, .inl (rn_k G t0, n, .inl f))) (ht : rn_tys[t0]? = some .boolean) (hin : vp_in i n) (hdg : decode M.2.1 pc = .ok (.bastore, 1)) (kk : ∀ f' : Nat → Int32, Rn G M d z a b (pc + 1) lv st (ws.set q0 (o, .inl (rn_k G t0, n, .inl f'))) Q) : Rn G M d z a b pc lv (.int x :: .int i :: .ref o :: st) ws Q := rn_zast q0 t0 ha ht hin hdg (kk _)
theorem rn_iastC {o : Nat} (q0 t0 : Nat) {n : Nat} {f : Nat → Int32} {i x : Int32} {c9 : Nat × va_E} (ha : (ws.set q0 c9)[q0]? = some (o, .inl (rn_k G t0, n, .inl f))) (ht : rn_tys[t0]? = some .int) (hin : vp_in i n) (hdg : decode M.2.1 pc = .ok (.iastore, 1)) (kk : ∀ f' : Nat → Int32, Rn G M d z a b (pc + 1) lv st (ws.set q0 (o, .inl (rn_k G t0, n, .inl f'))) Q) : Rn G M d z a b pc lv (.int x :: .int i :: .ref o :: st) (ws.set q0 c9) Q := rn_iast q0 t0 ha ht hin hdg (by rw [List.set_set]; exact kk _)
end
section
theorem la_mid {α : Type} {pre t : List α} {n : Nat} {x : α} (h : pre.length = n) : (pre ++ x :: t)[n]? = some x := by subst h; simp
theorem set_mid {α : Type} {pre t : List α} {n : Nat} {x y : α} (h : pre.length = n) : (pre ++ x :: t).set n y = pre ++ y :: t := by subst h; simp
theorem rn_world {G : rn_G} {M : rn_M} {d z a b pc : Nat} {lv : List (Nat × Value)} {st : List Value} {ws : va_W} {Q : rn_R → va_W → Prop} (ws' : va_W) (h : ws = ws') (k : Rn G M d z a b pc lv st ws' Q) : Rn G M d z a b pc lv st ws Q := by rw [h]; exact k
end
