/-! what lies in the one cell of a kind -/
section
def ct (S : ts_S) (ws : va_W) (k : Nat) (f : Nat → Int32) : Prop := ∃ (q o n : Nat) (c : ClassId), S[q]? = some (o, k) ∧ ws[q]? = some (o, .inl (c, n, .inl f))
def cl (S : ts_S) (ws : va_W) (k : Nat) (f : Nat → Int64) : Prop := ∃ (q o n : Nat) (c : ClassId), S[q]? = some (o, k) ∧ ws[q]? = some (o, .inl (c, n, .inr (.inl f)))
def cf (S : ts_S) (ws : va_W) (k ci i : Nat) (v : Value) : Prop := ∃ (q o : Nat) (fs : List Value), S[q]? = some (o, k) ∧ ws[q]? = some (o, .inr (ci, fs)) ∧ fs[i]? = some v
theorem ct_u {G : rn_G} {S : ts_S} {ws : va_W} {k : Nat} {f g : Nat → Int32} (hW : ts_W G S ws) (hd : ts_dyn.contains k = false) (h1 : ct S ws k f) (h2 : ct S ws k g) : f = g := by
  obtain ⟨q, o, n, c, a1, a2⟩ := h1
  obtain ⟨q', o', n', c', b1, b2⟩ := h2
  have e := hW.2.1.1 q q' o o' k hd a1 b1
  subst e
  rw [a2] at b2
  cases b2
  rfl
theorem cl_u {G : rn_G} {S : ts_S} {ws : va_W} {k : Nat} {f g : Nat → Int64} (hW : ts_W G S ws) (hd : ts_dyn.contains k = false) (h1 : cl S ws k f) (h2 : cl S ws k g) : f = g := by
  obtain ⟨q, o, n, c, a1, a2⟩ := h1
  obtain ⟨q', o', n', c', b1, b2⟩ := h2
  have e := hW.2.1.1 q q' o o' k hd a1 b1
  subst e
  rw [a2] at b2
  cases b2
  rfl
theorem cf_u {G : rn_G} {S : ts_S} {ws : va_W} {k ci ci' i : Nat} {v v' : Value} (hW : ts_W G S ws) (hd : ts_dyn.contains k = false) (h1 : cf S ws k ci i v) (h2 : cf S ws k ci' i v') : v = v' := by
  obtain ⟨q, o, fs, a1, a2, a3⟩ := h1
  obtain ⟨q', o', fs', b1, b2, b3⟩ := h2
  have e := hW.2.1.1 q q' o o' k hd a1 b1
  subst e
  rw [a2] at b2
  cases b2
  rw [a3] at b3
  cases b3
  rfl
theorem ct.fr {G : rn_G} {S S' : ts_S} {ws w : va_W} {L : List Nat} {k : Nat} {f : Nat → Int32} (h : ct S ws k f) (hT : St G S L ws S' w) (hL : L.contains k = false) : ct S' w k f := by
  obtain ⟨q, o, n, c, a1, a2⟩ := h
  exact ⟨q, o, n, c, hT.pos a1, hT.fr a1 hL a2⟩
theorem ct.ne {S : ts_S} {ws w : va_W} {k k' q o : Nat} {f : Nat → Int32} (h : ct S ws k f) (hn : ∀ q' : Nat, q' ≠ q → w[q']? = ws[q']?) (hq : S[q]? = some (o, k')) (hk : (k' == k) = false) : ct S w k f := by
  obtain ⟨q1, o1, n, c, a1, a2⟩ := h
  exact ⟨q1, o1, n, c, a1, (hn q1 (ts_ne hq a1 hk)).trans a2⟩
theorem cl.fr {G : rn_G} {S S' : ts_S} {ws w : va_W} {L : List Nat} {k : Nat} {f : Nat → Int64} (h : cl S ws k f) (hT : St G S L ws S' w) (hL : L.contains k = false) : cl S' w k f := by
  obtain ⟨q, o, n, c, a1, a2⟩ := h
  exact ⟨q, o, n, c, hT.pos a1, hT.fr a1 hL a2⟩
theorem cf.fr {G : rn_G} {S S' : ts_S} {ws w : va_W} {L : List Nat} {k ci i : Nat} {v : Value} (h : cf S ws k ci i v) (hT : St G S L ws S' w) (hL : L.contains k = false) : cf S' w k ci i v := by
  obtain ⟨q, o, fs, a1, a2, a3⟩ := h
  exact ⟨q, o, fs, hT.pos a1, hT.fr a1 hL a2, a3⟩
theorem mn_l {x y : Int32} {a b c e : Int} (hx : Rg a b x) (hy : Rg c e y) (h : b ≤ c) : (if y < x then y else x) = x := by
  rw [if_neg]
  intro h1
  have := cv_lt h1; have := hx.2; have := hy.1
  omega
theorem tn6 {x : Int32} {k : Nat} (h : x.toInt = k) : x.toNatClampNeg = k := by
  have e : x.toNatClampNeg = x.toInt.toNat := rfl
  omega
theorem lg_self (x : Int64) : lg_cmp x x = 0 := by simp [lg_cmp]
theorem i32_ext {x y : Int32} (h : x.toInt = y.toInt) : x = y := Int32.toInt_inj.mp h
def mkok (a b c : Int32) : Prop := 0 ≤ a.toInt ∧ a.toInt ≤ 255 ∧ 0 ≤ b.toInt ∧ b.toInt ≤ 255 ∧ 0 ≤ c.toInt ∧ c.toInt ≤ 1480
def tok (a : Int32) : Prop := 0 ≤ a.toInt ∧ a.toInt ≤ 3
/-- the peers of both sides -/
def Cp9 (S : ts_S) (ws : va_W) : Prop := ∃ f g : Nat → Int32, ct S ws 18 f ∧ ct S ws 39 g ∧ ∀ j : Nat, j < 4 → f j = g j
theorem Cp9.fr {G : rn_G} {S S' : ts_S} {ws w : va_W} {L : List Nat} (h : Cp9 S ws) (hT : St G S L ws S' w) (h1 : L.contains 18 = false) (h2 : L.contains 39 = false) : Cp9 S' w := by
  obtain ⟨f, g, a1, a2, a3⟩ := h
  exact ⟨f, g, a1.fr hT h1, a2.fr hT h2, a3⟩
def Zf (S : ts_S) (w : va_W) (k : Nat) (x : Int32) : Prop := ∃ f : Nat → Int32, ct S w k f ∧ ∀ j : Nat, j < 4 → f j = x
theorem zf.fr {G : rn_G} {S S' : ts_S} {ws w : va_W} {L : List Nat} {k : Nat} {x : Int32} (h : Zf S ws k x) (hT : St G S L ws S' w) (hL : L.contains k = false) : Zf S' w k x := by
  obtain ⟨f, a1, a2⟩ := h
  exact ⟨f, a1.fr hT hL, a2⟩
theorem zf.ne {S : ts_S} {ws w : va_W} {k k' q o : Nat} {x : Int32} (h : Zf S ws k x) (hn : ∀ q' : Nat, q' ≠ q → w[q']? = ws[q']?) (hq : S[q]? = some (o, k')) (hk : (k' == k) = false) : Zf S w k x := by
  obtain ⟨f, a1, a2⟩ := h
  exact ⟨f, a1.ne hn hq hk, a2⟩
theorem cp9_z {S : ts_S} {w : va_W} {x : Int32} (h1 : Zf S w 18 x) (h2 : Zf S w 39 x) : Cp9 S w := by
  obtain ⟨f, a1, a2⟩ := h1
  obtain ⟨g, b1, b2⟩ := h2
  exact ⟨f, g, a1, b1, fun j hj => by rw [a2 j hj, b2 j hj]⟩
theorem cp9_st {S : ts_S} {w : va_W} {f f0 f2 g0 h h2 : Nat → Int32} {n : Nat} {x : Int32} (e1 : f = f0) (e2 : h = g0) (i3 : ∀ j : Nat, j < 4 → f0 j = g0 j) (d3 : f2 = upd f n x) (e4 : h2 = upd h n x) (a1 : ct S w 18 f2) (a2 : ct S w 39 h2) : Cp9 S w := by
  refine ⟨f2, h2, a1, a2, fun j hj => ?_⟩
  rw [d3, e4, e1, e2]
  unfold upd
  split
  · rfl
  · exact i3 j hj
theorem cp9_eq {G : rn_G} {S S' : ts_S} {ws w1 w : va_W} {L : List Nat} {f0 g0 h : Nat → Int32} (d1 : ws = w1) (e2 : h = g0) (i3 : ∀ j : Nat, j < 4 → f0 j = g0 j) (i1 : ct S ws 18 f0) (hT : St G S L w1 S' w) (a2 : ct S' w 39 h) (hL : L.contains 18 = false := by rfl) : Cp9 S' w := by
  subst d1
  exact ⟨f0, h, i1.fr hT hL, a2, fun j hj => by rw [e2]; exact i3 j hj⟩
/-- a field of the reference that stays -/
def fK1 (i : Nat) (S : ts_S) (ws w : va_W) : Prop := ∀ v : Value, cf S ws 30 10 i v → cf S w 30 10 i v
theorem cf.ne {S : ts_S} {ws w : va_W} {k k' ci i q o : Nat} {v : Value} (h : cf S ws k ci i v) (hn : ∀ q' : Nat, q' ≠ q → w[q']? = ws[q']?) (hq : S[q]? = some (o, k')) (hk : (k' == k) = false) : cf S w k ci i v := by
  obtain ⟨q1, o1, fs, a1, a2, a3⟩ := h
  exact ⟨q1, o1, fs, a1, (hn q1 (ts_ne hq a1 hk)).trans a2, a3⟩
theorem fk_ne {i : Nat} {S : ts_S} {ws w1 w : va_W} {k' q o : Nat} (h : fK1 i S ws w1) (hn : ∀ q' : Nat, q' ≠ q → w[q']? = w1[q']?) (hq : S[q]? = some (o, k')) (hk : (k' == 30) = false) : fK1 i S ws w := fun v g => (h v g).ne hn hq hk
theorem fk_fr {G : rn_G} {i : Nat} {S : ts_S} {ws w1 w : va_W} {L : List Nat} (h : fK1 i S ws w1) (hT : St G S L w1 S w) (hL : L.contains 30 = false) : fK1 i S ws w := fun v g => (h v g).fr hT hL
theorem fk_tr {i : Nat} {S : ts_S} {ws w1 w : va_W} (h : fK1 i S ws w1) (h2 : fK1 i S w1 w) : fK1 i S ws w := fun v g => h2 v (h v g)
theorem fk_put {G : rn_G} {i k : Nat} {S : ts_S} {ws w1 w : va_W} {q o ci ci' : Nat} {fs fs' : List Value} (h : fK1 i S ws w1) (hW : ts_W G S w1) (hq : S[q]? = some (o, 30)) (hl : w1[q]? = some (o, .inr (ci, fs))) (hl' : w[q]? = some (o, .inr (ci', fs'))) (ho : ∀ j : Nat, j ≠ k → fs'[j]? = fs[j]?) (hk : i ≠ k) (hc : ci' = 10 := by rfl) : fK1 i S ws w := fun v g => by
  obtain ⟨q1, o1, fs1, a1, a2, a3⟩ := h v g
  have e := hW.2.1.1 q1 q o1 o 30 rfl a1 hq
  subst e
  rw [hl] at a2
  cases a2
  subst hc
  exact ⟨q1, o, fs', hq, hl', (ho i hk).trans a3⟩
/-- a count of the class and one of the reference -/
def Cpc (k ci f m : Nat) (S : ts_S) (ws : va_W) : Prop := ∃ c : Int32, cf S ws k ci f (.int c) ∧ cf S ws 30 10 m (.int c)
theorem Cpc.fr {G : rn_G} {k ci f m : Nat} {S S' : ts_S} {ws w : va_W} {L : List Nat} (h : Cpc k ci f m S ws) (hT : St G S L ws S' w) (h1 : L.contains k = false) (h2 : L.contains 30 = false) : Cpc k ci f m S' w := by
  obtain ⟨c, a, b⟩ := h
  exact ⟨c, a.fr hT h1, b.fr hT h2⟩
theorem Cpc.fk {G : rn_G} {k ci f m : Nat} {S : ts_S} {ws w : va_W} {L : List Nat} (h : Cpc k ci f m S ws) (hT : St G S L ws S w) (h1 : L.contains k = false) (h2 : fK1 m S ws w) : Cpc k ci f m S w := by
  obtain ⟨c, a, b⟩ := h
  exact ⟨c, a.fr hT h1, h2 _ b⟩
theorem Cpc.cl {G : rn_G} {k ci f m : Nat} {S : ts_S} {ws w : va_W} {L : List Nat} (h : Cpc k ci f m S ws) (hW : ts_W G S ws) (hd : ts_dyn.contains k = false) (hT : St G S L ws S w) (h2 : L.contains 30 = false) (x : ∃ u : Int32, cf S ws k ci f (.int u) ∧ cf S w k ci f (.int u)) : Cpc k ci f m S w := by
  obtain ⟨c, a, b⟩ := h
  obtain ⟨u, a1, a2⟩ := x
  have e := cf_u hW hd a a1
  cases e
  exact ⟨c, a2, b.fr hT h2⟩
def rok (a b : Int32) : Prop := 0 ≤ a.toInt ∧ a.toInt ≤ 32 ∧ 0 ≤ b.toInt ∧ b.toInt ≤ 1
def pok (a b c e : Int32) : Prop := 0 ≤ a.toInt ∧ a.toInt ≤ 1 ∧ 0 ≤ b.toInt ∧ b.toInt ≤ 32 ∧ 0 ≤ c.toInt ∧ c.toInt ≤ 32 ∧ -2 ≤ e.toInt ∧ e.toInt ≤ 3
end
