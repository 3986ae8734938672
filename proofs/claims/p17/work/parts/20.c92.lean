/-! the tables of routes, and what a look into them answers -/
section
def nIn (a net w : Int32) : Prop := w = 0 ∨ ((a ^^^ net).toUInt32 >>> ((32 - w).toUInt32 &&& Int32.toUInt32 31)).toInt32 = 0
def rtR (a : Int32) (net w p : Nat → Int32) : Nat → Int32 → Int32 → Prop
  | 0, x, y => x = -1 ∧ y = -1
  | k + 1, x, y => ∃ x0 y0 : Int32, rtR a net w p k x0 y0 ∧ ((nIn a (net k) (w k) ∧ x0.toInt ≤ (w k).toInt ∧ x = w k ∧ y = p k) ∨ ((¬ nIn a (net k) (w k) ∨ (w k).toInt < x0.toInt) ∧ x = x0 ∧ y = y0))
theorem rt_zero {a : Int32} {net w p : Nat → Int32} : rtR a net w p 0 (-1) (-1) := And.intro rfl rfl
theorem rt_succ {a : Int32} {net w p : Nat → Int32} {k : Nat} {x y : Int32} (h : ∃ x0 y0 : Int32, rtR a net w p k x0 y0 ∧ ((nIn a (net k) (w k) ∧ x0.toInt ≤ (w k).toInt ∧ x = w k ∧ y = p k) ∨ ((¬ nIn a (net k) (w k) ∨ (w k).toInt < x0.toInt) ∧ x = x0 ∧ y = y0))) : rtR a net w p (k + 1) x y := h
theorem rt_u {a : Int32} {net w p : Nat → Int32} : ∀ {n : Nat} {x y x' y' : Int32}, rtR a net w p n x y → rtR a net w p n x' y' → x = x' ∧ y = y'
  | 0, x, y, x', y', h1, h2 => ⟨h1.1.trans h2.1.symm, h1.2.trans h2.2.symm⟩
  | k + 1, x, y, x', y', h1, h2 => by
    obtain ⟨x0, y0, a1, a2⟩ := h1
    obtain ⟨x1, y1, b1, b2⟩ := h2
    obtain ⟨e1, e2⟩ := rt_u a1 b1
    subst e1
    subst e2
    rcases a2 with ⟨a2, a3, a4, a5⟩ | ⟨a2, a4, a5⟩ <;> rcases b2 with ⟨b2, b3, b4, b5⟩ | ⟨b2, b4, b5⟩
    · exact ⟨a4.trans b4.symm, a5.trans b5.symm⟩
    · rcases b2 with b2 | b2
      · exact absurd a2 b2
      · omega
    · rcases a2 with a2 | a2
      · exact absurd b2 a2
      · omega
    · exact ⟨a4.trans b4.symm, a5.trans b5.symm⟩
theorem rt_c {a : Int32} {net w p net' w' p' : Nat → Int32} : ∀ {n : Nat} {x y : Int32}, (∀ k : Nat, k < n → net' k = net k ∧ w' k = w k ∧ p' k = p k) → rtR a net w p n x y → rtR a net' w' p' n x y
  | 0, x, y, h, h1 => h1
  | k + 1, x, y, h, h1 => by
    obtain ⟨x0, y0, a1, a2⟩ := h1
    obtain ⟨e1, e2, e3⟩ := h k (Nat.lt_succ_self k)
    refine rt_succ ⟨x0, y0, rt_c (fun j hj => h j (Nat.lt_succ_of_lt hj)) a1, ?_⟩
    rw [e1, e2, e3]
    exact a2
def cr (S : ts_S) (ws : va_W) (k : Nat) (f : Nat → Option Nat) : Prop := ∃ (q o n : Nat) (c : ClassId), S[q]? = some (o, k) ∧ ws[q]? = some (o, .inl (c, n, .inr (.inr (.inr (.inr f)))))
theorem cr_u {G : rn_G} {S : ts_S} {ws : va_W} {k : Nat} {f g : Nat → Option Nat} (hW : ts_W G S ws) (hd : ts_dyn.contains k = false) (h1 : cr S ws k f) (h2 : cr S ws k g) : f = g := by
  obtain ⟨q, o, n, c, a1, a2⟩ := h1
  obtain ⟨q', o', n', c', b1, b2⟩ := h2
  have e := hW.2.1.1 q q' o o' k hd a1 b1
  subst e
  rw [a2] at b2
  cases b2
  rfl
theorem cr.fr {G : rn_G} {S S' : ts_S} {ws w : va_W} {L : List Nat} {k : Nat} {f : Nat → Option Nat} (h : cr S ws k f) (hT : St G S L ws S' w) (hL : L.contains k = false) : cr S' w k f := by
  obtain ⟨q, o, n, c, a1, a2⟩ := h
  exact ⟨q, o, n, c, hT.pos a1, hT.fr a1 hL a2⟩
/-- the net k of the class's table -/
def nt (S : ts_S) (ws : va_W) (f : Nat → Option Nat) (k : Nat) (a b : Int32) : Prop := ∃ (o q : Nat), f k = some o ∧ S[q]? = some (o, 3) ∧ ws[q]? = some (o, .inr (3, [.int a, .int b]))
theorem nt.fr {G : rn_G} {S S' : ts_S} {ws w : va_W} {L : List Nat} {f : Nat → Option Nat} {k : Nat} {a b : Int32} (h : nt S ws f k a b) (hT : St G S L ws S' w) (hL : L.contains 3 = false) : nt S' w f k a b := by
  obtain ⟨o, q, h1, h2, h3⟩ := h
  exact ⟨o, q, h1, hT.pos h2, hT.fr h2 hL h3⟩
def Tb (S : ts_S) (ws : va_W) (n : Nat) (net w p : Nat → Int32) : Prop := ∃ (u : Int32) (f : Nat → Option Nat) (fp : Nat → Int32), cf S ws 7 7 2 (.int u) ∧ u.toInt = n ∧ cr S ws 16 f ∧ ct S ws 17 fp ∧ ∀ k : Nat, k < n → fp k = p k ∧ nt S ws f k (net k) (w k)
def TM (S : ts_S) (ws : va_W) (n : Nat) (net w p : Nat → Int32) : Prop := ∃ (u : Int32) (fn fw fp : Nat → Int32), cf S ws 30 10 4 (.int u) ∧ u.toInt = n ∧ ct S ws 36 fn ∧ ct S ws 37 fw ∧ ct S ws 38 fp ∧ ∀ k : Nat, k < n → fn k = net k ∧ fw k = w k ∧ fp k = p k
theorem Tb.fr {G : rn_G} {S S' : ts_S} {ws w : va_W} {L : List Nat} {n : Nat} {a b c : Nat → Int32} (h : Tb S ws n a b c) (hT : St G S L ws S' w) (hL : (L.all (fun k => !([3, 7, 16, 17].contains k))) = true) : Tb S' w n a b c := by
  have no : ∀ k : Nat, [3, 7, 16, 17].contains k = true → L.contains k = false := fun k hk => by
    cases h4 : L.contains k with
    | false => rfl
    | true =>
      have h5 := List.all_eq_true.mp hL k (List.contains_iff_mem.mp h4)
      rw [hk] at h5
      cases h5
  obtain ⟨u, f, fp, h1, h2, h3, h4, h5⟩ := h
  exact ⟨u, f, fp, h1.fr hT (no 7 rfl), h2, h3.fr hT (no 16 rfl), h4.fr hT (no 17 rfl), fun k hk => ⟨(h5 k hk).1, (h5 k hk).2.fr hT (no 3 rfl)⟩⟩
theorem TM.fk {G : rn_G} {S S' : ts_S} {ws w : va_W} {L : List Nat} {n : Nat} {a b c : Nat → Int32} (h : TM S ws n a b c) (hT : St G S L ws S' w) (hL : (L.all (fun k => !([36, 37, 38].contains k))) = true) (hk : ∀ v : Value, cf S ws 30 10 4 v → cf S' w 30 10 4 v) : TM S' w n a b c := by
  have no : ∀ k : Nat, [36, 37, 38].contains k = true → L.contains k = false := fun k hk => by
    cases h4 : L.contains k with
    | false => rfl
    | true =>
      have h5 := List.all_eq_true.mp hL k (List.contains_iff_mem.mp h4)
      rw [hk] at h5
      cases h5
  obtain ⟨u, fn, fw, fp, h1, h2, h3, h4, h5, h6⟩ := h
  exact ⟨u, fn, fw, fp, hk _ h1, h2, h3.fr hT (no 36 rfl), h4.fr hT (no 37 rfl), h5.fr hT (no 38 rfl), h6⟩
def Cpt (S : ts_S) (ws : va_W) : Prop := ∃ (n : Nat) (net w p : Nat → Int32), Tb S ws n net w p ∧ TM S ws n net w p ∧ ∀ k : Nat, k < n → 0 ≤ (w k).toInt
theorem Cpt.cl {G : rn_G} {S S' : ts_S} {ws w : va_W} {L : List Nat} (h : Cpt S ws) (hT : St G S L ws S' w) (h1 : (L.all (fun k => !([3, 7, 16, 17].contains k))) = true) (h2 : (L.all (fun k => !([36, 37, 38].contains k))) = true) (h3 : L.contains 30 = false) : Cpt S' w := by
  obtain ⟨n, a, b, c, t1, t2, t3⟩ := h
  exact ⟨n, a, b, c, t1.fr hT h1, t2.fk hT h2 (fun v hv => hv.fr hT h3), t3⟩
theorem Cpt.rf {G : rn_G} {S : ts_S} {ws w : va_W} {L : List Nat} (h : Cpt S ws) (hT : St G S L ws S w) (h1 : (L.all (fun k => !([3, 7, 16, 17].contains k))) = true) (h2 : (L.all (fun k => !([36, 37, 38].contains k))) = true) (h3 : fK1 4 S ws w) : Cpt S w := by
  obtain ⟨n, a, b, c, t1, t2, t3⟩ := h
  exact ⟨n, a, b, c, t1.fr hT h1, t2.fk hT h2 h3, t3⟩
theorem va_D_u {A : Nat → Prop} {ws : va_W} (hD : va_D A ws) {q q' o : Nat} {e e' : va_E} (h1 : ws[q]? = some (o, e)) (h2 : ws[q']? = some (o, e')) : e = e' := by
  have h := hD.1 q q' _ _ h1 h2 rfl
  subst h
  rw [h1] at h2
  cases h2
  rfl
theorem rn_D {G : rn_G} {M : rn_M} {d z a b pc : Nat} {lv : List (Nat × Value)} {st : List Value} {ws : va_W} {Q : rn_R → va_W → Prop} (k : va_D (rn_A G) ws → Rn G M d z a b pc lv st ws Q) : Rn G M d z a b pc lv st ws Q :=
  fun p e R s m args below meth c H locs ls cells slots C hl hP hD hS hf ho hc hs => k hD p e R s m args below meth c H locs ls cells slots C hl hP hD hS hf ho hc hs
theorem rs_aaldE {G : rn_G} {M : rn_M} {d z a b pc : Nat} {lv : List (Nat × Value)} {st : List Value} {ws : va_W} {Q : rn_R → va_W → Prop} {S : ts_S} {o t n k : Nat} {C9 : String} {f : Nat → Option Nat} {i : Int32} {a1 b1 : Int} (q : Nat) (hl : ws[q]? = some (o, .inl (rn_k G t, n, .inr (.inr (.inr (.inr f)))))) (hf : ∀ (j o' : Nat), f j = some o' → (o', k) ∈ S) (ht : rn_tys[t]? = some (.object C9)) (r : Rg a1 b1 i) (h1 : 0 ≤ a1) (h2 : b1 < n) (hdg : decode M.2.1 pc = .ok (.aaload, 1)) (kn : f i.toNatClampNeg = none → Rn G M d z a b (pc + 1) lv (.null :: st) ws Q) (kr : ∀ o' : Nat, f i.toNatClampNeg = some o' → (o', k) ∈ S → Rn G M d z a b (pc + 1) lv (.ref o' :: st) ws Q) : Rn G M d z a b pc lv (.int i :: .ref o :: st) ws Q := by
  refine rn_aald q t hl ht (rg_in r h1 h2) hdg ?_
  cases e : f i.toNatClampNeg with
  | none => exact kn e
  | some o' => exact kr o' e (hf _ _ e)
theorem ad_net {G : rn_G} {S : ts_S} {ws : va_W} (hW : ts_W G S ws) (q : Nat) (x y : Int32) : ∃ S9, St G S [] ws S9 (ws ++ [(q, .inr (3, [.int x, .int y]))]) ∧ (q, 3) ∈ S9 ∧ ∃ q9 : Nat, S9[q9]? = some (q, 3) ∧ (ws ++ [(q, Sum.inr (3, [Value.int x, Value.int y]))])[q9]? = some (q, .inr (3, [.int x, .int y])) :=
  ⟨_, St.app (St.rf hW) rfl (by rw [hk_3]; exact Or.inl ⟨rfl, _, rfl, ts_fs_cons (tv_i (rg_any _)) (ts_fs_cons (tv_i (rg_any _)) ts_fs_nil)⟩), List.mem_append_right _ (List.mem_singleton.mpr rfl), S.length, la_new rfl, la_new hW.1⟩
/-- what the tables say of the net that is looked at -/
theorem pt_key {G : rn_G} {A : Nat → Prop} {S : ts_S} {ws : va_W} {m : Nat} {net w p : Nat → Int32} {u i : Int32} {f2 : Nat → Option Nat} (hW : ts_W G S ws) (hD : va_D A ws) (hT : Tb S ws m net w p) (hu : cf S ws 7 7 2 (.int u)) (hf : cr S ws 16 f2) (h0 : 0 ≤ i.toInt) (hi : i.toInt < u.toInt) : i.toInt < m ∧ f2 i.toNatClampNeg ≠ none ∧ (∀ f3, ct S ws 17 f3 → f3 i.toNatClampNeg = p i.toInt.toNat) ∧ ∀ (o q : Nat) (fs : List Value) (na nw : Int32), f2 i.toNatClampNeg = some o → ws[q]? = some (o, .inr (3, fs)) → fs[0]? = some (.int na) → fs[1]? = some (.int nw) → net i.toInt.toNat = na ∧ w i.toInt.toNat = nw := by
  obtain ⟨u', f, fp, t1, t2, t3, t4, t5⟩ := hT
  have e1 := cf_u hW rfl t1 hu
  cases e1
  have e2 := cr_u hW rfl t3 hf
  subst e2
  have en : i.toNatClampNeg = i.toInt.toNat := rfl
  have hlt : i.toInt.toNat < m := by omega
  obtain ⟨s1, o, q, s2, s3, s4⟩ := t5 _ hlt
  refine ⟨by omega, ?_, ?_, ?_⟩
  · rw [en, s2]
    intro h
    cases h
  · intro f3 h3
    rw [ct_u hW rfl h3 t4, en]
    exact s1
  · intro o' q' fs na nw g1 g2 g3 g4
    rw [en, s2] at g1
    cases g1
    have e3 := va_D_u hD g2 s4
    cases e3
    cases g3
    cases g4
    exact ⟨rfl, rfl⟩
theorem nIn_c {a net w : Int32} : nIn a net w ↔ (w = 0 ∨ ((net ^^^ a).toUInt32 >>> ((32 - w).toUInt32 &&& Int32.toUInt32 31)).toInt32 = 0) := by
  unfold nIn
  rw [Int32.xor_comm]
theorem mt_key {G : rn_G} {S : ts_S} {ws : va_W} {m : Nat} {net w p : Nat → Int32} {u i : Int32} (hW : ts_W G S ws) (hT : TM S ws m net w p) (hu : cf S ws 30 10 4 (.int u)) (h0 : 0 ≤ i.toInt) (hi : i.toInt < u.toInt) : i.toInt < m ∧ (∀ f, ct S ws 36 f → f i.toNatClampNeg = net i.toInt.toNat) ∧ (∀ f, ct S ws 37 f → f i.toNatClampNeg = w i.toInt.toNat) ∧ (∀ f, ct S ws 38 f → f i.toNatClampNeg = p i.toInt.toNat) := by
  obtain ⟨u', fn, fw, fp, t1, t2, t3, t4, t5, t6⟩ := hT
  have e1 := cf_u hW rfl t1 hu
  cases e1
  have en : i.toNatClampNeg = i.toInt.toNat := rfl
  have hlt : i.toInt.toNat < m := by omega
  obtain ⟨s1, s2, s3⟩ := t6 _ hlt
  refine ⟨by omega, fun f h => ?_, fun f h => ?_, fun f h => ?_⟩
  · rw [ct_u hW rfl h t3, en]; exact s1
  · rw [ct_u hW rfl h t4, en]; exact s2
  · rw [ct_u hW rfl h t5, en]; exact s3
theorem mt_n {G : rn_G} {S : ts_S} {ws : va_W} {m : Nat} {net w p : Nat → Int32} {u : Int32} (hW : ts_W G S ws) (hT : TM S ws m net w p) (hu : cf S ws 30 10 4 (.int u)) : u.toInt = m := by
  obtain ⟨u', fn, fw, fp, t1, t2, t3⟩ := hT
  have e1 := cf_u hW rfl t1 hu
  cases e1
  exact t2
theorem pt_n {G : rn_G} {S : ts_S} {ws : va_W} {m : Nat} {net w p : Nat → Int32} {u : Int32} (hW : ts_W G S ws) (hT : Tb S ws m net w p) (hu : cf S ws 7 7 2 (.int u)) : u.toInt = m := by
  obtain ⟨u', f, fp, t1, t2, t3⟩ := hT
  have e1 := cf_u hW rfl t1 hu
  cases e1
  exact t2
theorem upd_s {f : Nat → Int32} {k : Nat} {x : Int32} : upd f k x k = x := if_pos rfl
theorem upd_o {f : Nat → Int32} {k j : Nat} {x : Int32} (h : j ≠ k) : upd f k x j = f j := if_neg h
theorem tb_add {G : rn_G} {S S' : ts_S} {ws w' : va_W} {L : List Nat} {n q : Nat} {net w p : Nat → Int32} {u x x1 x2 x3 : Int32} {f0 f : Nat → Option Nat} {g0 g : Nat → Int32} (hW : ts_W G S ws) (hT : Tb S ws n net w p) (h1 : cf S ws 7 7 2 (.int u)) (h2 : cr S ws 16 f0) (h3 : ct S ws 17 g0) (k1 : cf S' w' 7 7 2 (.int x)) (k2 : cr S' w' 16 f) (k3 : ct S' w' 17 g) (hS : St G S L ws S' w') (hu : 0 ≤ u.toInt) (hx : x.toInt = u.toInt + 1) (hf : f = va_up f0 u.toNatClampNeg (some q)) (hg : g = upd g0 u.toNatClampNeg x3) (hn : nt S' w' f u.toInt.toNat x1 x2) (hL : L.contains 3 = false := by rfl) : Tb S' w' (n + 1) (upd net n x1) (upd w n x2) (upd p n x3) := by
  obtain ⟨u', f', fp', t1, t2, t3, t4, t5⟩ := hT
  have e1 := cf_u hW rfl t1 h1
  cases e1
  have e2 := cr_u hW rfl t3 h2
  subst e2
  have e3 := ct_u hW rfl t4 h3
  subst e3
  have en : u.toNatClampNeg = n := tn6 t2
  have en2 : u.toInt.toNat = n := by omega
  rw [en] at hf hg
  rw [en2] at hn
  refine ⟨x, f, g, k1, by omega, k2, k3, fun k hk => ?_⟩
  by_cases hkn : k = n
  · subst hkn
    rw [upd_s, upd_s, upd_s]
    exact ⟨by rw [hg, upd_s], hn⟩
  · obtain ⟨a1, o, q', a2, a3, a4⟩ := t5 k (by omega)
    rw [upd_o hkn, upd_o hkn, upd_o hkn]
    exact ⟨by rw [hg, upd_o hkn]; exact a1, o, q', by rw [hf, va_up_ne _ _ hkn]; exact a2, hS.pos a3, hS.fr a3 hL a4⟩
theorem tm_add {G : rn_G} {S : ts_S} {ws w' : va_W} {n : Nat} {net w p : Nat → Int32} {u x x1 x2 x3 : Int32} {a0 a b0 b c0 c : Nat → Int32} (hW : ts_W G S ws) (hT : TM S ws n net w p) (h1 : cf S ws 30 10 4 (.int u)) (h2 : ct S ws 36 a0) (h3 : ct S ws 37 b0) (h4 : ct S ws 38 c0) (k1 : cf S w' 30 10 4 (.int x)) (k2 : ct S w' 36 a) (k3 : ct S w' 37 b) (k4 : ct S w' 38 c) (hx : x.toInt = u.toInt + 1) (hu : 0 ≤ u.toInt) (ha : a = upd a0 u.toNatClampNeg x1) (hb : b = upd b0 u.toNatClampNeg x2) (hc : c = upd c0 u.toNatClampNeg x3) : TM S w' (n + 1) (upd net n x1) (upd w n x2) (upd p n x3) := by
  obtain ⟨u', fn, fw, fp, t1, t2, t3, t4, t5, t6⟩ := hT
  have e1 := cf_u hW rfl t1 h1
  cases e1
  have e2 := ct_u hW rfl t3 h2
  subst e2
  have e3 := ct_u hW rfl t4 h3
  subst e3
  have e4 := ct_u hW rfl t5 h4
  subst e4
  have en : u.toNatClampNeg = n := tn6 t2
  rw [en] at ha hb hc
  refine ⟨x, a, b, c, k1, by omega, k2, k3, k4, fun k hk => ?_⟩
  by_cases hkn : k = n
  · subst hkn
    rw [ha, hb, hc, upd_s, upd_s, upd_s, upd_s, upd_s, upd_s]
    exact ⟨rfl, rfl, rfl⟩
  · rw [ha, hb, hc, upd_o hkn, upd_o hkn, upd_o hkn, upd_o hkn, upd_o hkn, upd_o hkn]
    exact t6 k (by omega)
theorem tm_keep {G : rn_G} {S : ts_S} {ws w' : va_W} {n : Nat} {net w p : Nat → Int32} {u : Int32} {a0 b0 c0 : Nat → Int32} (hW : ts_W G S ws) (hT : TM S ws n net w p) (h1 : cf S ws 30 10 4 (.int u)) (h2 : ct S ws 36 a0) (h3 : ct S ws 37 b0) (h4 : ct S ws 38 c0) (k1 : cf S w' 30 10 4 (.int u)) (k2 : ct S w' 36 a0) (k3 : ct S w' 37 b0) (k4 : ct S w' 38 c0) : TM S w' n net w p := by
  obtain ⟨u', fn, fw, fp, t1, t2, t3, t4, t5, t6⟩ := hT
  have e1 := cf_u hW rfl t1 h1
  cases e1
  have e2 := ct_u hW rfl t3 h2
  subst e2
  have e3 := ct_u hW rfl t4 h3
  subst e3
  have e4 := ct_u hW rfl t5 h4
  subst e4
  exact ⟨u, fn, fw, fp, k1, t2, k2, k3, k4, t6⟩
theorem upd_pos {n : Nat} {w : Nat → Int32} {x : Int32} (h : ∀ k : Nat, k < n → 0 ≤ (w k).toInt) (hx : 0 ≤ x.toInt) : ∀ k : Nat, k < n + 1 → 0 ≤ (upd w n x k).toInt := fun k hk => by
  by_cases hkn : k = n
  · subst hkn
    rw [upd_s]
    exact hx
  · rw [upd_o hkn]
    exact h k (by omega)
theorem Tb.ne {S : ts_S} {ws w' : va_W} {n q o k' : Nat} {net w p : Nat → Int32} (h : Tb S ws n net w p) (hn : ∀ q' : Nat, q' ≠ q → w'[q']? = ws[q']?) (hq : S[q]? = some (o, k')) (h1 : (k' == 7) = false) (h2 : (k' == 16) = false) (h3 : (k' == 17) = false) (h4 : (k' == 3) = false) : Tb S w' n net w p := by
  obtain ⟨u', f', fp', t1, t2, t3, t4, t5⟩ := h
  obtain ⟨q1, o1, n1, c1, a1, a2⟩ := t3
  refine ⟨u', f', fp', t1.ne hn hq h1, t2, ⟨q1, o1, n1, c1, a1, (hn q1 (ts_ne hq a1 h2)).trans a2⟩, t4.ne hn hq h3, fun k hk => ?_⟩
  obtain ⟨s1, o2, q2, s2, s3, s4⟩ := t5 k hk
  exact ⟨s1, o2, q2, s2, s3, (hn q2 (ts_ne hq s3 h4)).trans s4⟩
end
