/-! TYPED WORLDS: S tells address and kind of every cell; a kind tells what its fields or elements may be -/
section
abbrev ts_S : Type := List (Nat × Nat)
def Rg (lo hi : Int) (x : Int32) : Prop := lo ≤ x.toInt ∧ x.toInt ≤ hi
def ts_V (S : ts_S) (s : ts_P) (v : Value) : Prop :=
  (s.1 = 0 ∧ ∃ x : Int32, v = .int x ∧ Rg s.2.2.1 s.2.2.2 x) ∨ (s.1 = 1 ∧ ∃ x : Int64, v = .long x) ∨ (s.1 = 2 ∧ ∃ o : Nat, v = .ref o ∧ (o, s.2.1) ∈ S)
theorem ts_V.mono {S S' : ts_S} {s : ts_P} {v : Value} (h : ∀ p ∈ S, p ∈ S') (hv : ts_V S s v) : ts_V S' s v := by
  rcases hv with h1 | h1 | ⟨h1, o, h2, h3⟩
  · exact Or.inl h1
  · exact Or.inr (Or.inl h1)
  · exact Or.inr (Or.inr ⟨h1, o, h2, h _ h3⟩)
theorem tv_i {S : ts_S} {k : Nat} {lo hi : Int} {x : Int32} (h : Rg lo hi x) : ts_V S (0, k, lo, hi) (.int x) := Or.inl ⟨rfl, x, rfl, h⟩
theorem tv_l {S : ts_S} {k : Nat} {lo hi : Int} {x : Int64} : ts_V S (1, k, lo, hi) (.long x) := Or.inr (Or.inl ⟨rfl, x, rfl⟩)
theorem tv_r {S : ts_S} {k o : Nat} {lo hi : Int} (h : (o, k) ∈ S) : ts_V S (2, k, lo, hi) (.ref o) := Or.inr (Or.inr ⟨rfl, o, rfl, h⟩)
def ts_fs (S : ts_S) (ss : List ts_P) (fs : List Value) : Prop := ∀ (i : Nat) (s : ts_P), ss[i]? = some s → ∃ v : Value, fs[i]? = some v ∧ ts_V S s v
theorem ts_fs.mono {S S' : ts_S} {ss : List ts_P} {fs : List Value} (h : ∀ p ∈ S, p ∈ S') (hv : ts_fs S ss fs) : ts_fs S' ss fs := fun i s hi => by
  obtain ⟨v, h1, h2⟩ := hv i s hi
  exact ⟨v, h1, h2.mono h⟩
theorem fs_i {S : ts_S} {ss : List ts_P} {fs : List Value} (h : ts_fs S ss fs) (i : Nat) {k : Nat} {lo hi : Int} (hs : ss[i]? = some (0, k, lo, hi)) : ∃ x : Int32, fs[i]? = some (.int x) ∧ Rg lo hi x := by
  obtain ⟨v, h1, h2⟩ := h i _ hs
  rcases h2 with ⟨-, x, h3, h4⟩ | ⟨h3, -⟩ | ⟨h3, -⟩
  · exact ⟨x, by rw [h1, h3], h4⟩
  · cases h3
  · cases h3
theorem fs_l {S : ts_S} {ss : List ts_P} {fs : List Value} (h : ts_fs S ss fs) (i : Nat) {k : Nat} {lo hi : Int} (hs : ss[i]? = some (1, k, lo, hi)) : ∃ x : Int64, fs[i]? = some (.long x) := by
  obtain ⟨v, h1, h2⟩ := h i _ hs
  rcases h2 with ⟨h3, -⟩ | ⟨-, x, h3⟩ | ⟨h3, -⟩
  · cases h3
  · exact ⟨x, by rw [h1, h3]⟩
  · cases h3
theorem fs_r {S : ts_S} {ss : List ts_P} {fs : List Value} (h : ts_fs S ss fs) (i : Nat) {k : Nat} {lo hi : Int} (hs : ss[i]? = some (2, k, lo, hi)) : ∃ o : Nat, fs[i]? = some (.ref o) ∧ (o, k) ∈ S := by
  obtain ⟨v, h1, h2⟩ := h i _ hs
  rcases h2 with ⟨h3, -⟩ | ⟨h3, -⟩ | ⟨-, o, h3, h4⟩
  · cases h3
  · cases h3
  · exact ⟨o, by rw [h1, h3], h4⟩
theorem fs_put {S : ts_S} {ss : List ts_P} {fs : List Value} {i : Nat} {s : ts_P} {v : Value} (h : ts_fs S ss fs) (hi : ss[i]? = some s) (hv : ts_V S s v) : ts_fs S ss (fs.set i v) := by
  intro j s' hj
  obtain ⟨u, h1, h2⟩ := h j s' hj
  by_cases e : i = j
  · subst e
    rw [hi] at hj
    cases hj
    exact ⟨v, ls_eq h1, hv⟩
  · exact ⟨u, ls_ne e h1, h2⟩
theorem ts_fs_nil {S : ts_S} {fs : List Value} : ts_fs S [] fs := fun i s h => by cases h
theorem ts_fs_cons {S : ts_S} {s : ts_P} {ss : List ts_P} {v : Value} {fs : List Value} (h1 : ts_V S s v) (h2 : ts_fs S ss fs) : ts_fs S (s :: ss) (v :: fs) := fun i s' h => by
  cases i with
  | zero => cases h; exact ⟨v, rfl, h1⟩
  | succ i => exact h2 i s' h
def ts_E (G : rn_G) (S : ts_S) (K : ts_K) (e : va_E) : Prop :=
  (K.1 = 0 ∧ ∃ fs : List Value, e = .inr (K.2.1, fs) ∧ ts_fs S K.2.2.2.2 fs) ∨
  (K.1 = 1 ∧ ∃ f : Nat → Int32, e = .inl (rn_k G K.2.1, K.2.2.1, .inl f) ∧ ∀ j, j < K.2.2.1 → Rg K.2.2.2.1.2.2.1 K.2.2.2.1.2.2.2 (f j)) ∨
  (K.1 = 2 ∧ ∃ f : Nat → Int64, e = .inl (rn_k G K.2.1, K.2.2.1, .inr (.inl f))) ∨
  (K.1 = 3 ∧ ∃ f : Nat → Option Nat, e = .inl (rn_k G K.2.1, K.2.2.1, .inr (.inr (.inr (.inr f)))) ∧ ∀ (j o : Nat), f j = some o → (o, K.2.2.2.1.2.1) ∈ S)
theorem ts_E.mono {G : rn_G} {S S' : ts_S} {K : ts_K} {e : va_E} (h : ∀ p ∈ S, p ∈ S') (hv : ts_E G S K e) : ts_E G S' K e := by
  rcases hv with ⟨h1, fs, h2, h3⟩ | h1 | h1 | ⟨h1, f, h2, h3⟩
  · exact Or.inl ⟨h1, fs, h2, h3.mono h⟩
  · exact Or.inr (Or.inl h1)
  · exact Or.inr (Or.inr (Or.inl h1))
  · exact Or.inr (Or.inr (Or.inr ⟨h1, f, h2, fun j o hj => h _ (h3 j o hj)⟩))
def ts_dyn : List Nat := [0, 3, 4, 6, 8, 11, 12]
/-- of the other kinds there is one cell at most -/
def ts_U (S : ts_S) : Prop := (∀ (q q' o o' k : Nat), ts_dyn.contains k = false → S[q]? = some (o, k) → S[q']? = some (o', k) → q = q') ∧ ∃ o : Nat, S[24]? = some (o, 33)
def ts_W (G : rn_G) (S : ts_S) (ws : va_W) : Prop := ws.length = S.length ∧ ts_U S ∧ ∀ (q : Nat) (p : Nat × Nat), S[q]? = some p → ∃ e : va_E, ws[q]? = some (p.1, e) ∧ ts_E G S (ts_k p.2) e
/-- the cells of S whose kind is not in L are as they were -/
def ts_F (S : ts_S) (L : List Nat) (ws w : va_W) : Prop := ∀ (q : Nat) (p : Nat × Nat), S[q]? = some p → L.contains p.2 = false → w[q]? = ws[q]?
def St (G : rn_G) (S0 : ts_S) (L : List Nat) (ws0 : va_W) (S : ts_S) (ws : va_W) : Prop := ts_W G S ws ∧ (∃ T : ts_S, S = S0 ++ T) ∧ ts_F S0 L ws0 ws
theorem St.rf {G : rn_G} {S : ts_S} {L : List Nat} {ws : va_W} (h : ts_W G S ws) : St G S L ws S ws := ⟨h, ⟨[], by simp⟩, fun _ _ _ _ => rfl⟩
theorem St.mem {G : rn_G} {S0 S : ts_S} {L : List Nat} {ws0 ws : va_W} (h : St G S0 L ws0 S ws) {p : Nat × Nat} (hp : p ∈ S0) : p ∈ S := by
  obtain ⟨-, ⟨T, h2⟩, -⟩ := h
  rw [h2]
  exact List.mem_append_left _ hp
theorem St.pos {G : rn_G} {S0 S : ts_S} {L : List Nat} {ws0 ws : va_W} (h : St G S0 L ws0 S ws) {q : Nat} {p : Nat × Nat} (hp : S0[q]? = some p) : S[q]? = some p := by
  obtain ⟨-, ⟨T, h2⟩, -⟩ := h
  rw [h2]
  exact la_old hp
theorem St.fr {G : rn_G} {S0 S : ts_S} {L : List Nat} {ws0 ws : va_W} (h : St G S0 L ws0 S ws) {q : Nat} {p : Nat × Nat} {c : Nat × va_E} (hp : S0[q]? = some p) (hn : L.contains p.2 = false) (hl : ws0[q]? = some c) : ws[q]? = some c := (h.2.2 q p hp hn).trans hl
theorem St.tr {G : rn_G} {S0 S S' : ts_S} {L L' : List Nat} {ws0 ws w : va_W} (h : St G S0 L ws0 S ws) (h2 : St G S L' ws S' w) (hL : (L'.all (fun k => L.contains k)) = true) : St G S0 L ws0 S' w := by
  refine ⟨h2.1, ?_, ?_⟩
  · obtain ⟨-, ⟨T, e1⟩, -⟩ := h
    obtain ⟨-, ⟨T', e2⟩, -⟩ := h2
    exact ⟨T ++ T', by rw [e2, e1, List.append_assoc]⟩
  · intro q p hp hn
    have h3 := h2.2.2 q p (h.pos hp) (by
      cases h4 : L'.contains p.2 with
      | false => rfl
      | true =>
        have h5 := List.all_eq_true.mp hL p.2 (List.contains_iff_mem.mp h4)
        rw [hn] at h5
        cases h5)
    rw [h3]
    exact h.2.2 q p hp hn
theorem ts_lt {G : rn_G} {S : ts_S} {ws : va_W} (h : ts_W G S ws) {q : Nat} {p : Nat × Nat} (hq : S[q]? = some p) : q < ws.length := by
  have := ls_lt hq
  have := h.1
  omega
theorem St.cell {G : rn_G} {S0 S : ts_S} {L : List Nat} {ws0 ws : va_W} (h : St G S0 L ws0 S ws) {q o k : Nat} {e : va_E} (hq : S[q]? = some (o, k)) (hL : L.contains k = true) (he : ts_E G S (ts_k k) e) : St G S0 L ws0 S (ws.set q (o, e)) := by
  have hlt := ts_lt h.1 hq
  refine ⟨⟨by rw [List.length_set]; exact h.1.1, h.1.2.1, ?_⟩, h.2.1, ?_⟩
  · intro q' p hp
    by_cases e1 : q = q'
    · subst e1
      rw [hq] at hp
      cases hp
      exact ⟨e, by rw [List.getElem?_set_self hlt], he⟩
    · obtain ⟨e', h1, h2⟩ := h.1.2.2 q' p hp
      exact ⟨e', ls_ne e1 h1, h2⟩
  · intro q' p hp hn
    by_cases e1 : q = q'
    · subst e1
      have h1 := h.pos hp
      rw [hq] at h1
      cases h1
      rw [hL] at hn
      cases hn
    · rw [List.getElem?_set_ne e1]
      exact h.2.2 q' p hp hn
theorem St.app {G : rn_G} {S0 S : ts_S} {L : List Nat} {ws0 ws : va_W} (h : St G S0 L ws0 S ws) {o k : Nat} {e : va_E} (hk : ts_dyn.contains k = true) (he : ts_E G (S ++ [(o, k)]) (ts_k k) e) : St G S0 L ws0 (S ++ [(o, k)]) (ws ++ [(o, e)]) := by
  have hm : ∀ p ∈ S, p ∈ S ++ [(o, k)] := fun p hp => List.mem_append_left _ hp
  refine ⟨⟨by rw [List.length_append, List.length_append, h.1.1]; rfl, ?_, ?_⟩, ?_, ?_⟩
  · refine ⟨?_, h.1.2.1.2.elim (fun o9 h9 => ⟨o9, la_old h9⟩)⟩
    intro q q' o1 o2 k1 hd h1 h2
    by_cases g1 : q < S.length
    · by_cases g2 : q' < S.length
      · rw [List.getElem?_append_left g1] at h1
        rw [List.getElem?_append_left g2] at h2
        exact h.1.2.1.1 q q' o1 o2 k1 hd h1 h2
      · rw [List.getElem?_append_right (by omega)] at h2
        have h3 := List.mem_of_getElem? h2
        rw [List.mem_singleton] at h3
        cases h3
        rw [hk] at hd
        cases hd
    · rw [List.getElem?_append_right (by omega)] at h1
      have h3 := List.mem_of_getElem? h1
      rw [List.mem_singleton] at h3
      cases h3
      rw [hk] at hd
      cases hd
  · intro q p hp
    by_cases g1 : q < S.length
    · rw [List.getElem?_append_left g1] at hp
      obtain ⟨e', h1, h2⟩ := h.1.2.2 q p hp
      exact ⟨e', la_old h1, h2.mono hm⟩
    · have h2 := ls_lt hp
      rw [List.length_append, List.length_singleton] at h2
      have h3 : q = S.length := by omega
      subst h3
      rw [la_new rfl] at hp
      cases hp
      exact ⟨e, la_new h.1.1, he⟩
  · obtain ⟨-, ⟨T, e1⟩, -⟩ := h
    exact ⟨T ++ [(o, k)], by rw [e1, List.append_assoc]⟩
  · intro q p hp hn
    have h1 := h.2.2 q p hp hn
    have h2 := ts_lt h.1 (h.pos hp)
    rw [List.getElem?_append_left h2]
    exact h1
theorem St.apps {G : rn_G} {S0 S : ts_S} {L : List Nat} {ws0 ws : va_W} (h : St G S0 L ws0 S ws) (N : ts_S) (W' : va_W) (hl : W'.length = N.length) (hd : (N.all (fun p => ts_dyn.contains p.2)) = true) (he : ∀ (i : Nat) (p : Nat × Nat), N[i]? = some p → ∃ e : va_E, W'[i]? = some (p.1, e) ∧ ts_E G (S ++ N) (ts_k p.2) e) : St G S0 L ws0 (S ++ N) (ws ++ W') := by
  have hm : ∀ p ∈ S, p ∈ S ++ N := fun p hp => List.mem_append_left _ hp
  refine ⟨⟨by rw [List.length_append, List.length_append, h.1.1, hl], ?_, ?_⟩, ?_, ?_⟩
  · refine ⟨?_, h.1.2.1.2.elim (fun o9 h9 => ⟨o9, la_old h9⟩)⟩
    intro q q' o1 o2 k1 hd1 h1 h2
    have no : ∀ (i o k : Nat), ts_dyn.contains k = false → N[i]? = some (o, k) → False := fun i o k g1 g2 => by
      have g3 := List.all_eq_true.mp hd (o, k) (List.mem_of_getElem? g2)
      simp only [g1] at g3
      cases g3
    by_cases g1 : q < S.length
    · by_cases g2 : q' < S.length
      · rw [List.getElem?_append_left g1] at h1
        rw [List.getElem?_append_left g2] at h2
        exact h.1.2.1.1 q q' o1 o2 k1 hd1 h1 h2
      · rw [List.getElem?_append_right (by omega)] at h2
        exact (no _ _ _ hd1 h2).elim
    · rw [List.getElem?_append_right (by omega)] at h1
      exact (no _ _ _ hd1 h1).elim
  · intro q p hp
    by_cases g1 : q < S.length
    · rw [List.getElem?_append_left g1] at hp
      obtain ⟨e', h1, h2⟩ := h.1.2.2 q p hp
      exact ⟨e', la_old h1, h2.mono hm⟩
    · rw [List.getElem?_append_right (by omega)] at hp
      obtain ⟨e, h1, h2⟩ := he _ _ hp
      refine ⟨e, ?_, h2⟩
      rw [List.getElem?_append_right (by have := h.1.1; omega), h.1.1]
      exact h1
  · obtain ⟨-, ⟨T, e1⟩, -⟩ := h
    exact ⟨T ++ N, by rw [e1, List.append_assoc]⟩
  · intro q p hp hn
    have h1 := h.2.2 q p hp hn
    have h2 := ts_lt h.1 (h.pos hp)
    rw [List.getElem?_append_left h2]
    exact h1
theorem ts_obj {G : rn_G} {S : ts_S} {ws : va_W} {o k ci n : Nat} {es : ts_P} {ss : List ts_P} (hW : ts_W G S ws) (ho : (o, k) ∈ S) (hk : ts_k k = (0, ci, n, es, ss)) : ∃ (q : Nat) (fs : List Value), S[q]? = some (o, k) ∧ ws[q]? = some (o, .inr (ci, fs)) ∧ ts_fs S ss fs := by
  obtain ⟨q, hq⟩ := List.getElem?_of_mem ho
  obtain ⟨e, h1, h2⟩ := hW.2.2 q _ hq
  simp only [hk] at h2
  rcases h2 with ⟨-, fs, h3, h4⟩ | ⟨h3, -⟩ | ⟨h3, -⟩ | ⟨h3, -⟩
  · exact ⟨q, fs, hq, by rw [h1, h3], h4⟩
  · cases h3
  · cases h3
  · cases h3
theorem ts_ia {G : rn_G} {S : ts_S} {ws : va_W} {o k t n tg kk : Nat} {lo hi : Int} {ss : List ts_P} (hW : ts_W G S ws) (ho : (o, k) ∈ S) (hk : ts_k k = (1, t, n, (tg, kk, lo, hi), ss)) : ∃ (q : Nat) (f : Nat → Int32), S[q]? = some (o, k) ∧ ws[q]? = some (o, .inl (rn_k G t, n, .inl f)) ∧ ∀ j, j < n → Rg lo hi (f j) := by
  obtain ⟨q, hq⟩ := List.getElem?_of_mem ho
  obtain ⟨e, h1, h2⟩ := hW.2.2 q _ hq
  simp only [hk] at h2
  rcases h2 with ⟨h3, -⟩ | ⟨-, f, h3, h4⟩ | ⟨h3, -⟩ | ⟨h3, -⟩
  · cases h3
  · exact ⟨q, f, hq, by rw [h1, h3], h4⟩
  · cases h3
  · cases h3
theorem ts_la {G : rn_G} {S : ts_S} {ws : va_W} {o k t n : Nat} {es : ts_P} {ss : List ts_P} (hW : ts_W G S ws) (ho : (o, k) ∈ S) (hk : ts_k k = (2, t, n, es, ss)) : ∃ (q : Nat) (f : Nat → Int64), S[q]? = some (o, k) ∧ ws[q]? = some (o, .inl (rn_k G t, n, .inr (.inl f))) := by
  obtain ⟨q, hq⟩ := List.getElem?_of_mem ho
  obtain ⟨e, h1, h2⟩ := hW.2.2 q _ hq
  simp only [hk] at h2
  rcases h2 with ⟨h3, -⟩ | ⟨h3, -⟩ | ⟨-, f, h3⟩ | ⟨h3, -⟩
  · cases h3
  · cases h3
  · exact ⟨q, f, hq, by rw [h1, h3]⟩
  · cases h3
theorem ts_ra {G : rn_G} {S : ts_S} {ws : va_W} {o k t n tg kk : Nat} {lo hi : Int} {ss : List ts_P} (hW : ts_W G S ws) (ho : (o, k) ∈ S) (hk : ts_k k = (3, t, n, (tg, kk, lo, hi), ss)) : ∃ (q : Nat) (f : Nat → Option Nat), S[q]? = some (o, k) ∧ ws[q]? = some (o, .inl (rn_k G t, n, .inr (.inr (.inr (.inr f))))) ∧ ∀ (j o' : Nat), f j = some o' → (o', kk) ∈ S := by
  obtain ⟨q, hq⟩ := List.getElem?_of_mem ho
  obtain ⟨e, h1, h2⟩ := hW.2.2 q _ hq
  simp only [hk] at h2
  rcases h2 with ⟨h3, -⟩ | ⟨h3, -⟩ | ⟨h3, -⟩ | ⟨-, f, h3, h4⟩
  · cases h3
  · cases h3
  · cases h3
  · exact ⟨q, f, hq, by rw [h1, h3], h4⟩
theorem ts_ne {S : ts_S} {q q' o o' k k' : Nat} (h1 : S[q]? = some (o, k)) (h2 : S[q']? = some (o', k')) (hk : (k == k') = false) : q' ≠ q := by
  intro e
  subst e
  rw [h1] at h2
  cases h2
  rw [beq_self_eq_true] at hk
  cases hk
def rQ (N : Option Value → va_W → Prop) (X : String → va_W → Prop) : rn_R → va_W → Prop := fun r w => match r with
  | .inl v => N v w
  | .inr E => X E w
theorem rq_in {N : Option Value → va_W → Prop} {X : String → va_W → Prop} {v : Option Value} {w : va_W} (h : N v w) : rQ N X (.inl v) w := h
theorem rq_ex {N : Option Value → va_W → Prop} {X : String → va_W → Prop} {E : String} {w : va_W} (h : X E w) : rQ N X (.inr E) w := h
theorem rq_no {N : Option Value → va_W → Prop} : ∀ (E : String) (w : va_W), ¬ rQ N (fun _ _ => False) (.inr E) w := fun _ _ h => h
/-! the reference's bytes: the one array of kind 33, at place 24 -/
def byt (ws : va_W) : Nat → Int32 := match (ws[24]? : Option (Nat × va_E)) with
  | some (_, Sum.inl (_, _, Sum.inl f)) => f
  | _ => fun _ => 0
theorem byt_eq {ws : va_W} {o n : Nat} {c : ClassId} {f : Nat → Int32} (h : ws[24]? = some (o, .inl (c, n, .inl f))) : byt ws = f := by
  unfold byt
  rw [h]
theorem byt_at {G : rn_G} {S : ts_S} {ws : va_W} (hW : ts_W G S ws) {q o : Nat} (hq : S[q]? = some (o, 33)) : q = 24 := by
  obtain ⟨o', h⟩ := hW.2.1.2
  exact hW.2.1.1 q 24 o o' 33 rfl hq h
theorem byt_of {G : rn_G} {S : ts_S} {ws : va_W} (hW : ts_W G S ws) {q o n : Nat} {c : ClassId} {f : Nat → Int32} (hq : S[q]? = some (o, 33)) (h : ws[q]? = some (o, .inl (c, n, .inl f))) : byt ws = f := by
  rw [byt_at hW hq] at h
  exact byt_eq h
theorem byt_fr {G : rn_G} {S0 S : ts_S} {L : List Nat} {ws w : va_W} (hW : ts_W G S0 ws) (h : St G S0 L ws S w) (hL : L.contains 33 = false) : byt w = byt ws := by
  obtain ⟨o, h1⟩ := hW.2.1.2
  have h2 := h.2.2 24 _ h1 hL
  unfold byt
  rw [h2]
theorem byt_ne {ws w : va_W} {q : Nat} (h : ∀ q' : Nat, q' ≠ q → w[q']? = ws[q']?) (hq : 24 ≠ q) : byt w = byt ws := by
  unfold byt
  rw [h 24 hq]
theorem byt_rg {G : rn_G} {S : ts_S} {ws : va_W} (hW : ts_W G S ws) : ∀ j, j < 22000 → Rg 0 255 (byt ws j) := by
  obtain ⟨o, h1⟩ := hW.2.1.2
  obtain ⟨q, f, h2, h3, h4⟩ := ts_ia hW (List.mem_of_getElem? h1) hk_33
  rw [byt_of hW h2 h3]
  exact h4
def tw (f : Nat → Int32) (k : Nat) : Int := (f k).toInt * 256 + (f (k + 1)).toInt
/-- all bytes but those from a to b are as they were -/
def bsame (a b : Int) (ws w : va_W) : Prop := ∀ j : Nat, ((j : Int) < a ∨ b ≤ j) → byt w j = byt ws j
theorem bsame.keep {a b : Int} {ws w : va_W} (h : bsame a b ws w) {k : Nat} {t : Int} (ht : tw (byt ws) k = t) (hk : (k : Int) + 1 < a ∨ b ≤ k) : tw (byt w) k = t := by
  unfold tw
  rw [h k (by omega), h (k + 1) (by omega)]
  exact ht
theorem tw_eq {ws w : va_W} (h : byt w = byt ws) {k : Nat} {t : Int} (ht : tw (byt ws) k = t) : tw (byt w) k = t := by rw [h]; exact ht
end
