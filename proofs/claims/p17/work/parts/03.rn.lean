/-! THE JUDGEMENT Rn: a method, from a point of its body, in any caller, with the whole world known -/
section
abbrev rn_M : Type := MethodName × ByteArray × Nat × Option FieldType × List (Nat × Nat × Nat × Nat)
abbrev rn_G : Type := Launch × va_G × List (ClassId × FieldType) × Nat × (Nat × Nat × (Nat → Int32)) × (Nat → Nat)
abbrev rn_R : Type := Option Value ⊕ String
def rn_A (G : rn_G) : Nat → Prop := fun q => G.2.2.2.1 ≤ q
/-- what stays of the law's own start: the two statics of Throwable, the texts, the script -/
def rn_B (G : rn_G) (U : State) (H : Heap) : Prop :=
  vx_Zq Bundle.tN "UNASSIGNED_STACK" Bundle.steD (rn_A G) U H ∧ vx_Zq Bundle.tN "SUPPRESSED_SENTINEL" Bundle.listD (rn_A G) U H ∧
  (∀ (i : Nat) (q : String × Nat × String), rn_S[i]? = some q → vk_R q.1 q.2.1 q.2.2 (G.2.2.2.2.2 i) U) ∧
  va_X G.2.2.2.2.1.1 G.2.2.2.2.1.2.1 G.2.2.2.2.1.2.2 U H ∧ G.2.2.2.2.1.1 < G.2.2.2.1 ∧ G.2.2.2.1 ≤ H.size ∧ G.1.stackTraces = false ∧ G.2.2.1.map (fun q => q.2) = rn_tys ∧ (∀ q ∈ rn_NC, va_Nc q.1 q.2 U) ∧ (∀ w ∈ rn_U, va_Nw w U)
def rn_k (G : rn_G) (t : Nat) : ClassId := match G.2.2.1[t]? with
  | some q => q.1
  | none => 0
theorem rn_B.kept {G : rn_G} {U : State} {H H1 : Heap} (hz : H.size ≤ H1.size) (hq : ∀ q : Nat, q < H.size → ¬ rn_A G q → H1[q]? = H[q]?) (h : rn_B G U H) : rn_B G U H1 := by
  obtain ⟨h1, h2, h3, h4, h5, h6, h7, h8, h9, h10⟩ := h
  exact ⟨h1.kept hq, h2.kept hq, h3, h4.kept (hq _ (by omega) (by unfold rn_A; omega)), h5, by omega, h7, h8, h9, h10⟩
theorem rn_B.warm {G : rn_G} {u U : State} {H : Heap} (hW : u.WarmedH U.vm) (h : rn_B G u H) : rn_B G U H := by
  obtain ⟨h1, h2, h3, h4, h5, h6, h7, h8, h9, h10⟩ := h
  exact ⟨h1.moved hW.alike, h2.moved hW.alike, fun i q hi => (h3 i q hi).warm hW, h4.moved hW.alike, h5, h6, h7, h8, fun q hq => (h9 q hq).moved hW.alike, fun w hw => rn_U_warm hw hW (h10 w hw)⟩
theorem rn_B.same {G : rn_G} {u U : State} {H : Heap} (hv : U.vm = u.vm) (h : rn_B G u H) : rn_B G U H := by
  obtain ⟨h1, h2, h3, h4, h5, h6, h7, h8, h9, h10⟩ := h
  have ha : u.vm.Alike U.vm := by rw [hv]; exact Vm.Alike.refl _
  exact ⟨h1.moved ha, h2.moved ha, fun i q hi => (h3 i q hi).same hv, h4.moved ha, h5, h6, h7, h8, fun q hq => (h9 q hq).moved ha, fun w hw => rn_U_same hw hv (h10 w hw)⟩
/-- where a walk stands -/
def rn_C (G : rn_G) (M : rn_M) (p : Program) (s : State) (m : MethodId) (args : Array Value) (meth : Method) (c : Code) : Prop :=
  p.tables.exec = Jvm.exec ∧ c.code = M.2.1 ∧ meth.sig.returnType = M.2.2.2.1 ∧ c.maxLocals = M.2.2.1 ∧ s.vm.findClass M.1.cls = some m.cls ∧
  (∀ w ∈ rn_T, w.before args s = true) ∧ meth.locks = false ∧ c.exceptionTable.toList = tableOf M.2.2.2.2 ∧ meth.name = M.1.name ∧ va_K G.2.1 vwCl G.2.2.1 s ∧ rn_B G s s.heap
def rn_Q (G : rn_G) (Q : rn_R → va_W → Prop) : Array Value → State → Outcome → State → Prop := fun _ st oc t =>
  ∃ (v : Option Value) (w : va_W), oc = .returned v ∧ Q (.inl v) w ∧ va_P G.2.1 vwCl w t.heap ∧ va_D (rn_A G) w ∧ va_F (rn_A G) st t
def rn_X (G : rn_G) (Q : rn_R → va_W → Prop) : String → State → State → Prop := fun E st t =>
  ∃ w : va_W, Q (.inr E) w ∧ va_P G.2.1 vwCl w t.heap ∧ va_D (rn_A G) w ∧ va_F (rn_A G) st t
def Rn (G : rn_G) (M : rn_M) (d z a b pc : Nat) (lv : List (Nat × Value)) (st : List Value) (ws : va_W) (Q : rn_R → va_W → Prop) : Prop :=
  ∀ (p : Program) (e : Env) (R : Room) (s : State) (m : MethodId) (args : Array Value) (below : List Frame) (meth : Method) (c : Code) (H : Heap) (locs : List Loc) (ls : Array Slot) (cells slots : Nat),
    rn_C G M p s m args meth c → lv_has ls M.2.2.1 lv → va_P G.2.1 vwCl ws H → va_D (rn_A G) ws → va_S (rn_A G) s.heap H locs →
    d ≤ R.frames → z ≤ R.locals → cells + a ≤ R.cells → slots + b ≤ R.slots →
    W p G.1 e R s m args below meth c H locs cells slots (vx_MQ below (rn_Q G Q) (rn_X G Q) args s R.cells R.slots (rn_A G)) (F0 m pc ls st)
/-- .. and where E has been thrown over the frame -/
def RnX (G : rn_G) (M : rn_M) (d z a b pc : Nat) (lv : List (Nat × Value)) (st : List Value) (ws : va_W) (Q : rn_R → va_W → Prop) (E : String) : Prop :=
  ∀ (p : Program) (e : Env) (R : Room) (s : State) (m : MethodId) (args : Array Value) (below : List Frame) (meth : Method) (c : Code) (H : Heap) (locs : List Loc) (ls : Array Slot) (cells slots : Nat) (q : Addr) (ce : Cell),
    rn_C G M p s m args meth c → lv_has ls M.2.2.1 lv → va_P G.2.1 vwCl ws H → va_D (rn_A G) ws → va_S (rn_A G) s.heap H locs →
    d ≤ R.frames → z ≤ R.locals → cells + a ≤ R.cells → slots + b ≤ R.slots → H[q]? = some ce → ce.vm = .none → s.vm.findClass E = some ce.cls →
    vx_W p G.1 e R s m args below meth c H locs cells slots (vx_MQ below (rn_Q G Q) (rn_X G Q) args s R.cells R.slots (rn_A G)) (F0 m pc ls st) q
def rn_lk (lv : List (Nat × Value)) (i : Nat) : Option Value := (lv.find? (fun q => q.1 == i)).map (fun q => q.2)
theorem rn_lk_at {ls : Array Slot} {n i : Nat} {lv : List (Nat × Value)} {v : Value} (hl : lv_has ls n lv) (h : rn_lk lv i = some v) : ls[i]? = some (.val v) := by
  unfold rn_lk at h
  cases hf : lv.find? (fun q => q.1 == i) with
  | none => rw [hf] at h; cases h
  | some q =>
    rw [hf] at h
    have h1 := List.mem_of_find?_eq_some hf
    have h2 := List.find?_some hf
    have h3 : q.1 = i := by simpa using h2
    have h4 : q.2 = v := by simpa using h
    have h5 := hl.2.2 q h1
    rw [h3, h4] at h5
    exact h5
def rn_to (lv lv' : List (Nat × Value)) : Prop := lv'.map (fun q => rn_lk lv q.1) = lv'.map (fun q => some q.2)
theorem rn_to_has {ls : Array Slot} {n : Nat} {lv lv' : List (Nat × Value)} (hl : lv_has ls n lv) (h : rn_to lv lv') : lv_has ls n lv' := by
  refine ⟨hl.1, hl.2.1, fun q hq => rn_lk_at hl ?_⟩
  obtain ⟨k, hk⟩ := List.getElem?_of_mem hq
  have h1 : (lv'.map (fun q => rn_lk lv q.1))[k]? = (lv'.map (fun q => some q.2))[k]? := by rw [h]
  rw [List.getElem?_map, List.getElem?_map, hk] at h1
  exact Option.some.inj h1
variable {G : rn_G} {M : rn_M} {d z a b pc : Nat} {lv : List (Nat × Value)} {st : List Value} {ws : va_W} {Q : rn_R → va_W → Prop}
/-- other words for the same locals -/
theorem rn_lv (lv' : List (Nat × Value)) (h : rn_to lv lv') (k : Rn G M d z a b pc lv' st ws Q) : Rn G M d z a b pc lv st ws Q :=
  fun p e R s m args below meth c H locs ls cells slots C hl hP hD hS hf ho hc hs => k p e R s m args below meth c H locs ls cells slots C (rn_to_has hl h) hP hD hS hf ho hc hs
theorem rn_mono {Q' : rn_R → va_W → Prop} (k : Rn G M d z a b pc lv st ws Q') (h : ∀ r w, Q' r w → Q r w) : Rn G M d z a b pc lv st ws Q := by
  intro p e R s m args below meth c H locs ls cells slots C hl hP hD hS hf ho hc hs T hT X
  obtain ⟨t, a1, o, b1, b2, b3⟩ := k p e R s m args below meth c H locs ls cells slots C hl hP hD hS hf ho hc hs T hT X
  refine ⟨t, a1, o, b1, b2, ?_⟩
  rcases b3 with ⟨⟨v, w, h1, h2, h3⟩, h4⟩ | ⟨q, h1, E, ce, L, ⟨w, h2, h3⟩, h4⟩
  · exact Or.inl ⟨⟨v, w, h1, h _ _ h2, h3⟩, h4⟩
  · exact Or.inr ⟨q, h1, E, ce, L, ⟨w, h _ _ h2, h3⟩, h4⟩
/-- less room will do -/
theorem rn_room {d' z' a' b' : Nat} (k : Rn G M d' z' a' b' pc lv st ws Q) (h1 : d' ≤ d) (h4 : z' ≤ z) (h2 : a' ≤ a) (h3 : b' ≤ b) : Rn G M d z a b pc lv st ws Q :=
  fun p e R s m args below meth c H locs ls cells slots C hl hP hD hS hf ho hc hs => k p e R s m args below meth c H locs ls cells slots C hl hP hD hS (by omega) (by omega) (by omega) (by omega)
theorem rn_vret (h : decode M.2.1 pc = .ok (.return_, 1)) (hr : M.2.2.2.1 = none) (k : Q (.inl none) ws) : Rn G M d z a b pc lv [] ws Q := by
  intro p e R s m args below meth c H locs ls cells slots C hl hP hD hS hf ho hc hs
  refine vx_ret (W.widen (k := R.cells) (n := R.slots) (by omega) (by omega) ?_)
  exact W.vret C.1 C.2.1 (C.2.2.1.trans hr) (fun t ht _ => ⟨none, ws, rfl, k, by rw [ht]; exact hP, hD, hS.F ht⟩) hS.2.2 h C.2.2.2.2.2.2.1
theorem rn_iret {x : Int32} {ty : FieldType} (h : decode M.2.1 pc = .ok (.ireturn, 1)) (hr : M.2.2.2.1 = some ty) (hn : narrow ty (.int x) = .int x) (k : Q (.inl (some (.int x))) ws) : Rn G M d z a b pc lv [.int x] ws Q := by
  intro p e R s m args below meth c H locs ls cells slots C hl hP hD hS hf ho hc hs
  refine vx_ret (W.widen (k := R.cells) (n := R.slots) (by omega) (by omega) ?_)
  exact W.zret C.1 C.2.1 (C.2.2.1.trans hr) hn (fun t ht _ => ⟨some (.int x), ws, rfl, k, by rw [ht]; exact hP, hD, hS.F ht⟩) hS.2.2 h C.2.2.2.2.2.2.1
theorem rn_lret {x : Int64} (h : decode M.2.1 pc = .ok (.lreturn, 1)) (hr : M.2.2.2.1 = some .long) (k : Q (.inl (some (.long x))) ws) : Rn G M d z a b pc lv [.long x] ws Q := by
  intro p e R s m args below meth c H locs ls cells slots C hl hP hD hS hf ho hc hs
  refine vx_ret (W.widen (k := R.cells) (n := R.slots) (by omega) (by omega) ?_)
  exact W.lret C.1 C.2.1 (C.2.2.1.trans hr) (fun t ht _ => ⟨some (.long x), ws, rfl, k, by rw [ht]; exact hP, hD, hS.F ht⟩) hS.2.2 h C.2.2.2.2.2.2.1
theorem rn_iconst {n : Int} {v : Int32} (hdg : decode M.2.1 pc = .ok (.iconst n, 1)) (hv : Int32.ofInt n = v) (k : Rn G M d z a b (pc + 1) lv (.int v :: st) ws Q) : Rn G M d z a b pc lv (st) ws Q :=
  fun p e R s m args below meth c H locs ls cells slots C hl hP hD hS hf ho hc hs => lv_iconst C.1 C.2.1 hdg hv (k p e R s m args below meth c H locs ls cells slots C hl hP hD hS hf ho hc hs)
theorem rn_bipush {n : Int} {v : Int32} (hdg : decode M.2.1 pc = .ok (.bipush n, 2)) (hv : (Int8.ofInt n).toInt32 = v) (k : Rn G M d z a b (pc + 2) lv (.int v :: st) ws Q) : Rn G M d z a b pc lv (st) ws Q :=
  fun p e R s m args below meth c H locs ls cells slots C hl hP hD hS hf ho hc hs => lv_bipush C.1 C.2.1 hdg hv (k p e R s m args below meth c H locs ls cells slots C hl hP hD hS hf ho hc hs)
theorem rn_sipush {n : Int} {v : Int32} (hdg : decode M.2.1 pc = .ok (.sipush n, 3)) (hv : (Int16.ofInt n).toInt32 = v) (k : Rn G M d z a b (pc + 3) lv (.int v :: st) ws Q) : Rn G M d z a b pc lv (st) ws Q :=
  fun p e R s m args below meth c H locs ls cells slots C hl hP hD hS hf ho hc hs => lv_sipush C.1 C.2.1 hdg hv (k p e R s m args below meth c H locs ls cells slots C hl hP hD hS hf ho hc hs)
theorem rn_lconst {n : Fin 2} {v : Int64} (hdg : decode M.2.1 pc = .ok (.lconst n, 1)) (hv : Int64.ofNat (n : Nat) = v) (k : Rn G M d z a b (pc + 1) lv (.long v :: st) ws Q) : Rn G M d z a b pc lv (st) ws Q :=
  fun p e R s m args below meth c H locs ls cells slots C hl hP hD hS hf ho hc hs => lv_lconst C.1 C.2.1 hdg hv (k p e R s m args below meth c H locs ls cells slots C hl hP hD hS hf ho hc hs)
theorem rn_iload_n {k : Fin 4} {i : Nat} {x : Int32} (hdg : decode M.2.1 pc = .ok (.iload_n k, 1)) (hi : (k : Nat) = i) (hlk : rn_lk lv i = some (.int x)) (k : Rn G M d z a b (pc + 1) lv (.int x :: st) ws Q) : Rn G M d z a b pc lv (st) ws Q :=
  fun p e R s m args below meth c H locs ls cells slots C hl hP hD hS hf ho hc hs => lv_iload_n C.1 C.2.1 hdg hi (rn_lk_at hl hlk) (k p e R s m args below meth c H locs ls cells slots C hl hP hD hS hf ho hc hs)
theorem rn_iload {i : Nat} {x : Int32} (hdg : decode M.2.1 pc = .ok (.iload i, 2)) (hlk : rn_lk lv i = some (.int x)) (k : Rn G M d z a b (pc + 2) lv (.int x :: st) ws Q) : Rn G M d z a b pc lv (st) ws Q :=
  fun p e R s m args below meth c H locs ls cells slots C hl hP hD hS hf ho hc hs => lv_iload C.1 C.2.1 hdg (rn_lk_at hl hlk) (k p e R s m args below meth c H locs ls cells slots C hl hP hD hS hf ho hc hs)
theorem rn_lload_n {k : Fin 4} {i : Nat} {x : Int64} (hdg : decode M.2.1 pc = .ok (.lload_n k, 1)) (hi : (k : Nat) = i) (hlk : rn_lk lv i = some (.long x)) (k : Rn G M d z a b (pc + 1) lv (.long x :: st) ws Q) : Rn G M d z a b pc lv (st) ws Q :=
  fun p e R s m args below meth c H locs ls cells slots C hl hP hD hS hf ho hc hs => lv_lload_n C.1 C.2.1 hdg hi (rn_lk_at hl hlk) (k p e R s m args below meth c H locs ls cells slots C hl hP hD hS hf ho hc hs)
theorem rn_lload {i : Nat} {x : Int64} (hdg : decode M.2.1 pc = .ok (.lload i, 2)) (hlk : rn_lk lv i = some (.long x)) (k : Rn G M d z a b (pc + 2) lv (.long x :: st) ws Q) : Rn G M d z a b pc lv (st) ws Q :=
  fun p e R s m args below meth c H locs ls cells slots C hl hP hD hS hf ho hc hs => lv_lload C.1 C.2.1 hdg (rn_lk_at hl hlk) (k p e R s m args below meth c H locs ls cells slots C hl hP hD hS hf ho hc hs)
theorem rn_aload_n {k : Fin 4} {i : Nat} {x : Nat} (hdg : decode M.2.1 pc = .ok (.aload_n k, 1)) (hi : (k : Nat) = i) (hlk : rn_lk lv i = some (.ref x)) (k : Rn G M d z a b (pc + 1) lv (.ref x :: st) ws Q) : Rn G M d z a b pc lv (st) ws Q :=
  fun p e R s m args below meth c H locs ls cells slots C hl hP hD hS hf ho hc hs => lv_aload_n C.1 C.2.1 hdg hi (rn_lk_at hl hlk) (k p e R s m args below meth c H locs ls cells slots C hl hP hD hS hf ho hc hs)
theorem rn_aload {i : Nat} {x : Nat} (hdg : decode M.2.1 pc = .ok (.aload i, 2)) (hlk : rn_lk lv i = some (.ref x)) (k : Rn G M d z a b (pc + 2) lv (.ref x :: st) ws Q) : Rn G M d z a b pc lv (st) ws Q :=
  fun p e R s m args below meth c H locs ls cells slots C hl hP hD hS hf ho hc hs => lv_aload C.1 C.2.1 hdg (rn_lk_at hl hlk) (k p e R s m args below meth c H locs ls cells slots C hl hP hD hS hf ho hc hs)
theorem rn_aload_nN {k : Fin 4} {i : Nat} (hdg : decode M.2.1 pc = .ok (.aload_n k, 1)) (hi : (k : Nat) = i) (hlk : rn_lk lv i = some (.null)) (k : Rn G M d z a b (pc + 1) lv (.null :: st) ws Q) : Rn G M d z a b pc lv (st) ws Q :=
  fun p e R s m args below meth c H locs ls cells slots C hl hP hD hS hf ho hc hs => lv_aload_nN C.1 C.2.1 hdg hi (rn_lk_at hl hlk) (k p e R s m args below meth c H locs ls cells slots C hl hP hD hS hf ho hc hs)
theorem rn_aloadN {i : Nat} (hdg : decode M.2.1 pc = .ok (.aload i, 2)) (hlk : rn_lk lv i = some (.null)) (k : Rn G M d z a b (pc + 2) lv (.null :: st) ws Q) : Rn G M d z a b pc lv (st) ws Q :=
  fun p e R s m args below meth c H locs ls cells slots C hl hP hD hS hf ho hc hs => lv_aloadN C.1 C.2.1 hdg (rn_lk_at hl hlk) (k p e R s m args below meth c H locs ls cells slots C hl hP hD hS hf ho hc hs)
theorem rn_iadd {x y : Int32} (hdg : decode M.2.1 pc = .ok (.iadd, 1)) (k : Rn G M d z a b (pc + 1) lv (.int (x + y) :: st) ws Q) : Rn G M d z a b pc lv (.int y :: .int x :: st) ws Q :=
  fun p e R s m args below meth c H locs ls cells slots C hl hP hD hS hf ho hc hs => lv_iadd C.1 C.2.1 hdg (k p e R s m args below meth c H locs ls cells slots C hl hP hD hS hf ho hc hs)
theorem rn_isub {x y : Int32} (hdg : decode M.2.1 pc = .ok (.isub, 1)) (k : Rn G M d z a b (pc + 1) lv (.int (x - y) :: st) ws Q) : Rn G M d z a b pc lv (.int y :: .int x :: st) ws Q :=
  fun p e R s m args below meth c H locs ls cells slots C hl hP hD hS hf ho hc hs => lv_isub C.1 C.2.1 hdg (k p e R s m args below meth c H locs ls cells slots C hl hP hD hS hf ho hc hs)
theorem rn_imul {x y : Int32} (hdg : decode M.2.1 pc = .ok (.imul, 1)) (k : Rn G M d z a b (pc + 1) lv (.int (x * y) :: st) ws Q) : Rn G M d z a b pc lv (.int y :: .int x :: st) ws Q :=
  fun p e R s m args below meth c H locs ls cells slots C hl hP hD hS hf ho hc hs => lv_imul C.1 C.2.1 hdg (k p e R s m args below meth c H locs ls cells slots C hl hP hD hS hf ho hc hs)
theorem rn_iand {x y : Int32} (hdg : decode M.2.1 pc = .ok (.iand, 1)) (k : Rn G M d z a b (pc + 1) lv (.int (x &&& y) :: st) ws Q) : Rn G M d z a b pc lv (.int y :: .int x :: st) ws Q :=
  fun p e R s m args below meth c H locs ls cells slots C hl hP hD hS hf ho hc hs => lv_iand C.1 C.2.1 hdg (k p e R s m args below meth c H locs ls cells slots C hl hP hD hS hf ho hc hs)
theorem rn_ior {x y : Int32} (hdg : decode M.2.1 pc = .ok (.ior, 1)) (k : Rn G M d z a b (pc + 1) lv (.int (x ||| y) :: st) ws Q) : Rn G M d z a b pc lv (.int y :: .int x :: st) ws Q :=
  fun p e R s m args below meth c H locs ls cells slots C hl hP hD hS hf ho hc hs => lv_ior C.1 C.2.1 hdg (k p e R s m args below meth c H locs ls cells slots C hl hP hD hS hf ho hc hs)
theorem rn_ixor {x y : Int32} (hdg : decode M.2.1 pc = .ok (.ixor, 1)) (k : Rn G M d z a b (pc + 1) lv (.int (x ^^^ y) :: st) ws Q) : Rn G M d z a b pc lv (.int y :: .int x :: st) ws Q :=
  fun p e R s m args below meth c H locs ls cells slots C hl hP hD hS hf ho hc hs => lv_ixor C.1 C.2.1 hdg (k p e R s m args below meth c H locs ls cells slots C hl hP hD hS hf ho hc hs)
theorem rn_ineg {x : Int32} (hdg : decode M.2.1 pc = .ok (.ineg, 1)) (k : Rn G M d z a b (pc + 1) lv (.int (-x) :: st) ws Q) : Rn G M d z a b pc lv (.int x :: st) ws Q :=
  fun p e R s m args below meth c H locs ls cells slots C hl hP hD hS hf ho hc hs => lv_ineg C.1 C.2.1 hdg (k p e R s m args below meth c H locs ls cells slots C hl hP hD hS hf ho hc hs)
theorem rn_ladd {x y : Int64} (hdg : decode M.2.1 pc = .ok (.ladd, 1)) (k : Rn G M d z a b (pc + 1) lv (.long (x + y) :: st) ws Q) : Rn G M d z a b pc lv (.long y :: .long x :: st) ws Q :=
  fun p e R s m args below meth c H locs ls cells slots C hl hP hD hS hf ho hc hs => lv_ladd C.1 C.2.1 hdg (k p e R s m args below meth c H locs ls cells slots C hl hP hD hS hf ho hc hs)
theorem rn_lsub {x y : Int64} (hdg : decode M.2.1 pc = .ok (.lsub, 1)) (k : Rn G M d z a b (pc + 1) lv (.long (x - y) :: st) ws Q) : Rn G M d z a b pc lv (.long y :: .long x :: st) ws Q :=
  fun p e R s m args below meth c H locs ls cells slots C hl hP hD hS hf ho hc hs => lv_lsub C.1 C.2.1 hdg (k p e R s m args below meth c H locs ls cells slots C hl hP hD hS hf ho hc hs)
theorem rn_lmul {x y : Int64} (hdg : decode M.2.1 pc = .ok (.lmul, 1)) (k : Rn G M d z a b (pc + 1) lv (.long (x * y) :: st) ws Q) : Rn G M d z a b pc lv (.long y :: .long x :: st) ws Q :=
  fun p e R s m args below meth c H locs ls cells slots C hl hP hD hS hf ho hc hs => lv_lmul C.1 C.2.1 hdg (k p e R s m args below meth c H locs ls cells slots C hl hP hD hS hf ho hc hs)
theorem rn_land {x y : Int64} (hdg : decode M.2.1 pc = .ok (.land, 1)) (k : Rn G M d z a b (pc + 1) lv (.long (x &&& y) :: st) ws Q) : Rn G M d z a b pc lv (.long y :: .long x :: st) ws Q :=
  fun p e R s m args below meth c H locs ls cells slots C hl hP hD hS hf ho hc hs => lv_land C.1 C.2.1 hdg (k p e R s m args below meth c H locs ls cells slots C hl hP hD hS hf ho hc hs)
theorem rn_lor {x y : Int64} (hdg : decode M.2.1 pc = .ok (.lor, 1)) (k : Rn G M d z a b (pc + 1) lv (.long (x ||| y) :: st) ws Q) : Rn G M d z a b pc lv (.long y :: .long x :: st) ws Q :=
  fun p e R s m args below meth c H locs ls cells slots C hl hP hD hS hf ho hc hs => lv_lor C.1 C.2.1 hdg (k p e R s m args below meth c H locs ls cells slots C hl hP hD hS hf ho hc hs)
theorem rn_lxor {x y : Int64} (hdg : decode M.2.1 pc = .ok (.lxor, 1)) (k : Rn G M d z a b (pc + 1) lv (.long (x ^^^ y) :: st) ws Q) : Rn G M d z a b pc lv (.long y :: .long x :: st) ws Q :=
  fun p e R s m args below meth c H locs ls cells slots C hl hP hD hS hf ho hc hs => lv_lxor C.1 C.2.1 hdg (k p e R s m args below meth c H locs ls cells slots C hl hP hD hS hf ho hc hs)
theorem rn_lneg {x : Int64} (hdg : decode M.2.1 pc = .ok (.lneg, 1)) (k : Rn G M d z a b (pc + 1) lv (.long (-x) :: st) ws Q) : Rn G M d z a b pc lv (.long x :: st) ws Q :=
  fun p e R s m args below meth c H locs ls cells slots C hl hP hD hS hf ho hc hs => lv_lneg C.1 C.2.1 hdg (k p e R s m args below meth c H locs ls cells slots C hl hP hD hS hf ho hc hs)
theorem rn_ishl {x y : Int32} (hdg : decode M.2.1 pc = .ok (.ishl, 1)) (k : Rn G M d z a b (pc + 1) lv (.int (x <<< (y &&& 31)) :: st) ws Q) : Rn G M d z a b pc lv (.int y :: .int x :: st) ws Q :=
  fun p e R s m args below meth c H locs ls cells slots C hl hP hD hS hf ho hc hs => lv_ishl C.1 C.2.1 hdg (k p e R s m args below meth c H locs ls cells slots C hl hP hD hS hf ho hc hs)
theorem rn_ishr {x y : Int32} (hdg : decode M.2.1 pc = .ok (.ishr, 1)) (k : Rn G M d z a b (pc + 1) lv (.int (x >>> (y &&& 31)) :: st) ws Q) : Rn G M d z a b pc lv (.int y :: .int x :: st) ws Q :=
  fun p e R s m args below meth c H locs ls cells slots C hl hP hD hS hf ho hc hs => lv_ishr C.1 C.2.1 hdg (k p e R s m args below meth c H locs ls cells slots C hl hP hD hS hf ho hc hs)
theorem rn_i2l {x : Int32} {v : Int64} (hdg : decode M.2.1 pc = .ok (.i2l, 1)) (hv : x.toInt64 = v) (k : Rn G M d z a b (pc + 1) lv (.long v :: st) ws Q) : Rn G M d z a b pc lv (.int x :: st) ws Q :=
  fun p e R s m args below meth c H locs ls cells slots C hl hP hD hS hf ho hc hs => lv_i2l C.1 C.2.1 hdg hv (k p e R s m args below meth c H locs ls cells slots C hl hP hD hS hf ho hc hs)
theorem rn_l2i {x : Int64} {v : Int32} (hdg : decode M.2.1 pc = .ok (.l2i, 1)) (hv : x.toInt32 = v) (k : Rn G M d z a b (pc + 1) lv (.int v :: st) ws Q) : Rn G M d z a b pc lv (.long x :: st) ws Q :=
  fun p e R s m args below meth c H locs ls cells slots C hl hP hD hS hf ho hc hs => lv_l2i C.1 C.2.1 hdg hv (k p e R s m args below meth c H locs ls cells slots C hl hP hD hS hf ho hc hs)
theorem rn_i2b {x : Int32} {v : Int32} (hdg : decode M.2.1 pc = .ok (.i2b, 1)) (hv : x.toInt8.toInt32 = v) (k : Rn G M d z a b (pc + 1) lv (.int v :: st) ws Q) : Rn G M d z a b pc lv (.int x :: st) ws Q :=
  fun p e R s m args below meth c H locs ls cells slots C hl hP hD hS hf ho hc hs => lv_i2b C.1 C.2.1 hdg hv (k p e R s m args below meth c H locs ls cells slots C hl hP hD hS hf ho hc hs)
theorem rn_i2s {x : Int32} {v : Int32} (hdg : decode M.2.1 pc = .ok (.i2s, 1)) (hv : x.toInt16.toInt32 = v) (k : Rn G M d z a b (pc + 1) lv (.int v :: st) ws Q) : Rn G M d z a b pc lv (.int x :: st) ws Q :=
  fun p e R s m args below meth c H locs ls cells slots C hl hP hD hS hf ho hc hs => lv_i2s C.1 C.2.1 hdg hv (k p e R s m args below meth c H locs ls cells slots C hl hP hD hS hf ho hc hs)
theorem rn_i2c {x : Int32} {v : Int32} (hdg : decode M.2.1 pc = .ok (.i2c, 1)) (hv : (x.toUInt32 % 65536).toInt32 = v) (k : Rn G M d z a b (pc + 1) lv (.int v :: st) ws Q) : Rn G M d z a b pc lv (.int x :: st) ws Q :=
  fun p e R s m args below meth c H locs ls cells slots C hl hP hD hS hf ho hc hs => lv_i2c C.1 C.2.1 hdg hv (k p e R s m args below meth c H locs ls cells slots C hl hP hD hS hf ho hc hs)
theorem rn_iushr {x y v : Int32} (hdg : decode M.2.1 pc = .ok (.iushr, 1)) (hv : (x.toUInt32 >>> (y.toUInt32 &&& Int32.toUInt32 31)).toInt32 = v) (k : Rn G M d z a b (pc + 1) lv (.int v :: st) ws Q) : Rn G M d z a b pc lv (.int y :: .int x :: st) ws Q :=
  fun p e R s m args below meth c H locs ls cells slots C hl hP hD hS hf ho hc hs => lv_iushr C.1 C.2.1 hdg hv (k p e R s m args below meth c H locs ls cells slots C hl hP hD hS hf ho hc hs)
theorem rn_lushr {x v : Int64} {y : Int32} (hdg : decode M.2.1 pc = .ok (.lushr, 1)) (hv : (x.toUInt64 >>> (y.toInt64.toUInt64 &&& Int64.toUInt64 63)).toInt64 = v) (k : Rn G M d z a b (pc + 1) lv (.long v :: st) ws Q) : Rn G M d z a b pc lv (.int y :: .long x :: st) ws Q :=
  fun p e R s m args below meth c H locs ls cells slots C hl hP hD hS hf ho hc hs => lv_lushr C.1 C.2.1 hdg hv (k p e R s m args below meth c H locs ls cells slots C hl hP hD hS hf ho hc hs)
theorem rn_lshl {x v : Int64} {y : Int32} (hdg : decode M.2.1 pc = .ok (.lshl, 1)) (hv : x <<< (y.toInt64 &&& 63) = v) (k : Rn G M d z a b (pc + 1) lv (.long v :: st) ws Q) : Rn G M d z a b pc lv (.int y :: .long x :: st) ws Q :=
  fun p e R s m args below meth c H locs ls cells slots C hl hP hD hS hf ho hc hs => lv_lshl C.1 C.2.1 hdg hv (k p e R s m args below meth c H locs ls cells slots C hl hP hD hS hf ho hc hs)
theorem rn_lshr {x v : Int64} {y : Int32} (hdg : decode M.2.1 pc = .ok (.lshr, 1)) (hv : x >>> (y.toInt64 &&& 63) = v) (k : Rn G M d z a b (pc + 1) lv (.long v :: st) ws Q) : Rn G M d z a b pc lv (.int y :: .long x :: st) ws Q :=
  fun p e R s m args below meth c H locs ls cells slots C hl hP hD hS hf ho hc hs => lv_lshr C.1 C.2.1 hdg hv (k p e R s m args below meth c H locs ls cells slots C hl hP hD hS hf ho hc hs)
theorem rn_dup {va : Value} (hdg : decode M.2.1 pc = .ok (.dup, 1)) (hva : va.category = 1) (k : Rn G M d z a b (pc + 1) lv (va :: va :: st) ws Q) : Rn G M d z a b pc lv (va :: st) ws Q :=
  fun p e R s m args below meth c H locs ls cells slots C hl hP hD hS hf ho hc hs => lv_dup C.1 C.2.1 hdg hva (k p e R s m args below meth c H locs ls cells slots C hl hP hD hS hf ho hc hs)
theorem rn_pop {va : Value} (hdg : decode M.2.1 pc = .ok (.pop, 1)) (hva : va.category = 1) (k : Rn G M d z a b (pc + 1) lv (st) ws Q) : Rn G M d z a b pc lv (va :: st) ws Q :=
  fun p e R s m args below meth c H locs ls cells slots C hl hP hD hS hf ho hc hs => lv_pop C.1 C.2.1 hdg hva (k p e R s m args below meth c H locs ls cells slots C hl hP hD hS hf ho hc hs)
theorem rn_dup_x1 {va vb : Value} (hdg : decode M.2.1 pc = .ok (.dup_x1, 1)) (hva : va.category = 1) (hvb : vb.category = 1) (k : Rn G M d z a b (pc + 1) lv (va :: vb :: va :: st) ws Q) : Rn G M d z a b pc lv (va :: vb :: st) ws Q :=
  fun p e R s m args below meth c H locs ls cells slots C hl hP hD hS hf ho hc hs => lv_dup_x1 C.1 C.2.1 hdg hva hvb (k p e R s m args below meth c H locs ls cells slots C hl hP hD hS hf ho hc hs)
theorem rn_dup_x2 {va vb vd : Value} (hdg : decode M.2.1 pc = .ok (.dup_x2, 1)) (hva : va.category = 1) (hvb : vb.category = 1) (hvd : vd.category = 1) (k : Rn G M d z a b (pc + 1) lv (va :: vb :: vd :: va :: st) ws Q) : Rn G M d z a b pc lv (va :: vb :: vd :: st) ws Q :=
  fun p e R s m args below meth c H locs ls cells slots C hl hP hD hS hf ho hc hs => lv_dup_x2 C.1 C.2.1 hdg hva hvb hvd (k p e R s m args below meth c H locs ls cells slots C hl hP hD hS hf ho hc hs)
theorem rn_dup2_11 {va vb : Value} (hdg : decode M.2.1 pc = .ok (.dup2, 1)) (hva : va.category = 1) (hvb : vb.category = 1) (k : Rn G M d z a b (pc + 1) lv (va :: vb :: va :: vb :: st) ws Q) : Rn G M d z a b pc lv (va :: vb :: st) ws Q :=
  fun p e R s m args below meth c H locs ls cells slots C hl hP hD hS hf ho hc hs => lv_dup2_11 C.1 C.2.1 hdg hva hvb (k p e R s m args below meth c H locs ls cells slots C hl hP hD hS hf ho hc hs)
theorem rn_dup2_2 {va : Value} (hdg : decode M.2.1 pc = .ok (.dup2, 1)) (hva : va.category = 2) (k : Rn G M d z a b (pc + 1) lv (va :: va :: st) ws Q) : Rn G M d z a b pc lv (va :: st) ws Q :=
  fun p e R s m args below meth c H locs ls cells slots C hl hP hD hS hf ho hc hs => lv_dup2_2 C.1 C.2.1 hdg hva (k p e R s m args below meth c H locs ls cells slots C hl hP hD hS hf ho hc hs)
theorem rn_pop2_2 {va : Value} (hdg : decode M.2.1 pc = .ok (.pop2, 1)) (hva : va.category = 2) (k : Rn G M d z a b (pc + 1) lv (st) ws Q) : Rn G M d z a b pc lv (va :: st) ws Q :=
  fun p e R s m args below meth c H locs ls cells slots C hl hP hD hS hf ho hc hs => lv_pop2_2 C.1 C.2.1 hdg hva (k p e R s m args below meth c H locs ls cells slots C hl hP hD hS hf ho hc hs)
theorem rn_pop2_11 {va vb : Value} (hdg : decode M.2.1 pc = .ok (.pop2, 1)) (hva : va.category = 1) (hvb : vb.category = 1) (k : Rn G M d z a b (pc + 1) lv (st) ws Q) : Rn G M d z a b pc lv (va :: vb :: st) ws Q :=
  fun p e R s m args below meth c H locs ls cells slots C hl hP hD hS hf ho hc hs => lv_pop2_11 C.1 C.2.1 hdg hva hvb (k p e R s m args below meth c H locs ls cells slots C hl hP hD hS hf ho hc hs)
theorem rn_dup2_x1_2 {va vb : Value} (hdg : decode M.2.1 pc = .ok (.dup2_x1, 1)) (hva : va.category = 2) (hvb : vb.category = 1) (k : Rn G M d z a b (pc + 1) lv (va :: vb :: va :: st) ws Q) : Rn G M d z a b pc lv (va :: vb :: st) ws Q :=
  fun p e R s m args below meth c H locs ls cells slots C hl hP hD hS hf ho hc hs => lv_dup2_x1_2 C.1 C.2.1 hdg hva hvb (k p e R s m args below meth c H locs ls cells slots C hl hP hD hS hf ho hc hs)
theorem rn_null (hdg : decode M.2.1 pc = .ok (.aconst_null, 1)) (k : Rn G M d z a b (pc + 1) lv (.null :: st) ws Q) : Rn G M d z a b pc lv st ws Q :=
  fun p e R s m args below meth c H locs ls cells slots C hl hP hD hS hf ho hc hs => lv_null C.1 C.2.1 hdg (k p e R s m args below meth c H locs ls cells slots C hl hP hD hS hf ho hc hs)
theorem rn_ifnull {x : Nat} {off : Int} (hdg : decode M.2.1 pc = .ok (.ifnull off, 3)) (k : Rn G M d z a b (pc + 3) lv st ws Q) : Rn G M d z a b pc lv (.ref x :: st) ws Q :=
  fun p e R s m args below meth c H locs ls cells slots C hl hP hD hS hf ho hc hs => lv_ifnull C.1 C.2.1 hdg (k p e R s m args below meth c H locs ls cells slots C hl hP hD hS hf ho hc hs)
theorem rn_ifnonnullN {off : Int} (hdg : decode M.2.1 pc = .ok (.ifnonnull off, 3)) (k : Rn G M d z a b (pc + 3) lv st ws Q) : Rn G M d z a b pc lv (.null :: st) ws Q :=
  fun p e R s m args below meth c H locs ls cells slots C hl hP hD hS hf ho hc hs => lv_ifnonnullN C.1 C.2.1 hdg (k p e R s m args below meth c H locs ls cells slots C hl hP hD hS hf ho hc hs)
theorem rn_goto {off : Int} {tgt : Nat} (hdg : decode M.2.1 pc = .ok (.goto off, 3)) (ht : (pc : Int) + off = (tgt : Int)) (k : Rn G M d z a b tgt lv st ws Q) : Rn G M d z a b pc lv st ws Q :=
  fun p e R s m args below meth c H locs ls cells slots C hl hP hD hS hf ho hc hs => lv_goto C.1 C.2.1 hdg ht (k p e R s m args below meth c H locs ls cells slots C hl hP hD hS hf ho hc hs)
theorem rn_ifnonnull {x : Nat} {off : Int} {tgt : Nat} (hdg : decode M.2.1 pc = .ok (.ifnonnull off, 3)) (ht : (pc : Int) + off = (tgt : Int)) (k : Rn G M d z a b tgt lv st ws Q) : Rn G M d z a b pc lv (.ref x :: st) ws Q :=
  fun p e R s m args below meth c H locs ls cells slots C hl hP hD hS hf ho hc hs => lv_ifnonnull C.1 C.2.1 hdg ht (k p e R s m args below meth c H locs ls cells slots C hl hP hD hS hf ho hc hs)
theorem rn_ifnullN {off : Int} {tgt : Nat} (hdg : decode M.2.1 pc = .ok (.ifnull off, 3)) (ht : (pc : Int) + off = (tgt : Int)) (k : Rn G M d z a b tgt lv st ws Q) : Rn G M d z a b pc lv (.null :: st) ws Q :=
  fun p e R s m args below meth c H locs ls cells slots C hl hP hD hS hf ho hc hs => lv_ifnullN C.1 C.2.1 hdg ht (k p e R s m args below meth c H locs ls cells slots C hl hP hD hS hf ho hc hs)
theorem rn_if_eq {x : Int32} {off : Int} {tgt : Nat} (hdg : decode M.2.1 pc = .ok (.ifCond .eq off, 3)) (ht : (pc : Int) + off = (tgt : Int)) (kt : x = 0 → Rn G M d z a b tgt lv st ws Q) (kf : ¬ x = 0 → Rn G M d z a b (pc + 3) lv st ws Q) : Rn G M d z a b pc lv (.int x :: st) ws Q :=
  fun p e R s m args below meth c H locs ls cells slots C hl hP hD hS hf ho hc hs => lv_if_eq C.1 C.2.1 hdg ht (fun z => kt z p e R s m args below meth c H locs ls cells slots C hl hP hD hS hf ho hc hs) (fun z => kf z p e R s m args below meth c H locs ls cells slots C hl hP hD hS hf ho hc hs)
theorem rn_icmp_eq {x y : Int32} {off : Int} {tgt : Nat} (hdg : decode M.2.1 pc = .ok (.if_icmp .eq off, 3)) (ht : (pc : Int) + off = (tgt : Int)) (kt : x = y → Rn G M d z a b tgt lv st ws Q) (kf : ¬ x = y → Rn G M d z a b (pc + 3) lv st ws Q) : Rn G M d z a b pc lv (.int y :: .int x :: st) ws Q :=
  fun p e R s m args below meth c H locs ls cells slots C hl hP hD hS hf ho hc hs => lv_icmp_eq C.1 C.2.1 hdg ht (fun z => kt z p e R s m args below meth c H locs ls cells slots C hl hP hD hS hf ho hc hs) (fun z => kf z p e R s m args below meth c H locs ls cells slots C hl hP hD hS hf ho hc hs)
theorem rn_if_ne {x : Int32} {off : Int} {tgt : Nat} (hdg : decode M.2.1 pc = .ok (.ifCond .ne off, 3)) (ht : (pc : Int) + off = (tgt : Int)) (kt : ¬ x = 0 → Rn G M d z a b tgt lv st ws Q) (kf : x = 0 → Rn G M d z a b (pc + 3) lv st ws Q) : Rn G M d z a b pc lv (.int x :: st) ws Q :=
  fun p e R s m args below meth c H locs ls cells slots C hl hP hD hS hf ho hc hs => lv_if_ne C.1 C.2.1 hdg ht (fun z => kt z p e R s m args below meth c H locs ls cells slots C hl hP hD hS hf ho hc hs) (fun z => kf z p e R s m args below meth c H locs ls cells slots C hl hP hD hS hf ho hc hs)
theorem rn_icmp_ne {x y : Int32} {off : Int} {tgt : Nat} (hdg : decode M.2.1 pc = .ok (.if_icmp .ne off, 3)) (ht : (pc : Int) + off = (tgt : Int)) (kt : ¬ x = y → Rn G M d z a b tgt lv st ws Q) (kf : x = y → Rn G M d z a b (pc + 3) lv st ws Q) : Rn G M d z a b pc lv (.int y :: .int x :: st) ws Q :=
  fun p e R s m args below meth c H locs ls cells slots C hl hP hD hS hf ho hc hs => lv_icmp_ne C.1 C.2.1 hdg ht (fun z => kt z p e R s m args below meth c H locs ls cells slots C hl hP hD hS hf ho hc hs) (fun z => kf z p e R s m args below meth c H locs ls cells slots C hl hP hD hS hf ho hc hs)
theorem rn_if_lt {x : Int32} {off : Int} {tgt : Nat} (hdg : decode M.2.1 pc = .ok (.ifCond .lt off, 3)) (ht : (pc : Int) + off = (tgt : Int)) (kt : x < 0 → Rn G M d z a b tgt lv st ws Q) (kf : ¬ x < 0 → Rn G M d z a b (pc + 3) lv st ws Q) : Rn G M d z a b pc lv (.int x :: st) ws Q :=
  fun p e R s m args below meth c H locs ls cells slots C hl hP hD hS hf ho hc hs => lv_if_lt C.1 C.2.1 hdg ht (fun z => kt z p e R s m args below meth c H locs ls cells slots C hl hP hD hS hf ho hc hs) (fun z => kf z p e R s m args below meth c H locs ls cells slots C hl hP hD hS hf ho hc hs)
theorem rn_icmp_lt {x y : Int32} {off : Int} {tgt : Nat} (hdg : decode M.2.1 pc = .ok (.if_icmp .lt off, 3)) (ht : (pc : Int) + off = (tgt : Int)) (kt : x < y → Rn G M d z a b tgt lv st ws Q) (kf : ¬ x < y → Rn G M d z a b (pc + 3) lv st ws Q) : Rn G M d z a b pc lv (.int y :: .int x :: st) ws Q :=
  fun p e R s m args below meth c H locs ls cells slots C hl hP hD hS hf ho hc hs => lv_icmp_lt C.1 C.2.1 hdg ht (fun z => kt z p e R s m args below meth c H locs ls cells slots C hl hP hD hS hf ho hc hs) (fun z => kf z p e R s m args below meth c H locs ls cells slots C hl hP hD hS hf ho hc hs)
theorem rn_if_ge {x : Int32} {off : Int} {tgt : Nat} (hdg : decode M.2.1 pc = .ok (.ifCond .ge off, 3)) (ht : (pc : Int) + off = (tgt : Int)) (kt : 0 ≤ x → Rn G M d z a b tgt lv st ws Q) (kf : ¬ 0 ≤ x → Rn G M d z a b (pc + 3) lv st ws Q) : Rn G M d z a b pc lv (.int x :: st) ws Q :=
  fun p e R s m args below meth c H locs ls cells slots C hl hP hD hS hf ho hc hs => lv_if_ge C.1 C.2.1 hdg ht (fun z => kt z p e R s m args below meth c H locs ls cells slots C hl hP hD hS hf ho hc hs) (fun z => kf z p e R s m args below meth c H locs ls cells slots C hl hP hD hS hf ho hc hs)
theorem rn_icmp_ge {x y : Int32} {off : Int} {tgt : Nat} (hdg : decode M.2.1 pc = .ok (.if_icmp .ge off, 3)) (ht : (pc : Int) + off = (tgt : Int)) (kt : y ≤ x → Rn G M d z a b tgt lv st ws Q) (kf : ¬ y ≤ x → Rn G M d z a b (pc + 3) lv st ws Q) : Rn G M d z a b pc lv (.int y :: .int x :: st) ws Q :=
  fun p e R s m args below meth c H locs ls cells slots C hl hP hD hS hf ho hc hs => lv_icmp_ge C.1 C.2.1 hdg ht (fun z => kt z p e R s m args below meth c H locs ls cells slots C hl hP hD hS hf ho hc hs) (fun z => kf z p e R s m args below meth c H locs ls cells slots C hl hP hD hS hf ho hc hs)
theorem rn_if_gt {x : Int32} {off : Int} {tgt : Nat} (hdg : decode M.2.1 pc = .ok (.ifCond .gt off, 3)) (ht : (pc : Int) + off = (tgt : Int)) (kt : 0 < x → Rn G M d z a b tgt lv st ws Q) (kf : ¬ 0 < x → Rn G M d z a b (pc + 3) lv st ws Q) : Rn G M d z a b pc lv (.int x :: st) ws Q :=
  fun p e R s m args below meth c H locs ls cells slots C hl hP hD hS hf ho hc hs => lv_if_gt C.1 C.2.1 hdg ht (fun z => kt z p e R s m args below meth c H locs ls cells slots C hl hP hD hS hf ho hc hs) (fun z => kf z p e R s m args below meth c H locs ls cells slots C hl hP hD hS hf ho hc hs)
theorem rn_icmp_gt {x y : Int32} {off : Int} {tgt : Nat} (hdg : decode M.2.1 pc = .ok (.if_icmp .gt off, 3)) (ht : (pc : Int) + off = (tgt : Int)) (kt : y < x → Rn G M d z a b tgt lv st ws Q) (kf : ¬ y < x → Rn G M d z a b (pc + 3) lv st ws Q) : Rn G M d z a b pc lv (.int y :: .int x :: st) ws Q :=
  fun p e R s m args below meth c H locs ls cells slots C hl hP hD hS hf ho hc hs => lv_icmp_gt C.1 C.2.1 hdg ht (fun z => kt z p e R s m args below meth c H locs ls cells slots C hl hP hD hS hf ho hc hs) (fun z => kf z p e R s m args below meth c H locs ls cells slots C hl hP hD hS hf ho hc hs)
theorem rn_if_le {x : Int32} {off : Int} {tgt : Nat} (hdg : decode M.2.1 pc = .ok (.ifCond .le off, 3)) (ht : (pc : Int) + off = (tgt : Int)) (kt : x ≤ 0 → Rn G M d z a b tgt lv st ws Q) (kf : ¬ x ≤ 0 → Rn G M d z a b (pc + 3) lv st ws Q) : Rn G M d z a b pc lv (.int x :: st) ws Q :=
  fun p e R s m args below meth c H locs ls cells slots C hl hP hD hS hf ho hc hs => lv_if_le C.1 C.2.1 hdg ht (fun z => kt z p e R s m args below meth c H locs ls cells slots C hl hP hD hS hf ho hc hs) (fun z => kf z p e R s m args below meth c H locs ls cells slots C hl hP hD hS hf ho hc hs)
theorem rn_icmp_le {x y : Int32} {off : Int} {tgt : Nat} (hdg : decode M.2.1 pc = .ok (.if_icmp .le off, 3)) (ht : (pc : Int) + off = (tgt : Int)) (kt : x ≤ y → Rn G M d z a b tgt lv st ws Q) (kf : ¬ x ≤ y → Rn G M d z a b (pc + 3) lv st ws Q) : Rn G M d z a b pc lv (.int y :: .int x :: st) ws Q :=
  fun p e R s m args below meth c H locs ls cells slots C hl hP hD hS hf ho hc hs => lv_icmp_le C.1 C.2.1 hdg ht (fun z => kt z p e R s m args below meth c H locs ls cells slots C hl hP hD hS hf ho hc hs) (fun z => kf z p e R s m args below meth c H locs ls cells slots C hl hP hD hS hf ho hc hs)
theorem rn_istore_n {k : Fin 4} {i : Nat} {x : Int32} (hdg : decode M.2.1 pc = .ok (.istore_n k, 1)) (hi : (k : Nat) = i) (hn : i < M.2.2.1) (lv' : List (Nat × Value)) (hl' : rn_to ((i, Value.int x) :: lv.filter (fun q => !(q.1 == i) && !(q.1 + 1 == i && q.2.category == 2))) lv') (k : Rn G M d z a b (pc + 1) lv' st ws Q) : Rn G M d z a b pc lv (.int x :: st) ws Q :=
  fun p e R s m args below meth c H locs ls cells slots C hl hP hD hS hf ho hc hs => lv_istore_n C.1 C.2.1 hdg hi hl hn rfl (fun ls' hl2 => k p e R s m args below meth c H locs ls' cells slots C (rn_to_has hl2 hl') hP hD hS hf ho hc hs)
theorem rn_istore {i : Nat} {x : Int32} (hdg : decode M.2.1 pc = .ok (.istore i, 2)) (hn : i < M.2.2.1) (lv' : List (Nat × Value)) (hl' : rn_to ((i, Value.int x) :: lv.filter (fun q => !(q.1 == i) && !(q.1 + 1 == i && q.2.category == 2))) lv') (k : Rn G M d z a b (pc + 2) lv' st ws Q) : Rn G M d z a b pc lv (.int x :: st) ws Q :=
  fun p e R s m args below meth c H locs ls cells slots C hl hP hD hS hf ho hc hs => lv_istore C.1 C.2.1 hdg hl hn rfl (fun ls' hl2 => k p e R s m args below meth c H locs ls' cells slots C (rn_to_has hl2 hl') hP hD hS hf ho hc hs)
theorem rn_lstore_n {k : Fin 4} {i : Nat} {x : Int64} (hdg : decode M.2.1 pc = .ok (.lstore_n k, 1)) (hi : (k : Nat) = i) (hn : i + 1 < M.2.2.1) (lv' : List (Nat × Value)) (hl' : rn_to ((i, Value.long x) :: lv.filter (fun q => !(q.1 == i) && (!(q.1 == i + 1) && !(q.1 + 1 == i && q.2.category == 2)))) lv') (k : Rn G M d z a b (pc + 1) lv' st ws Q) : Rn G M d z a b pc lv (.long x :: st) ws Q :=
  fun p e R s m args below meth c H locs ls cells slots C hl hP hD hS hf ho hc hs => lv_lstore_n C.1 C.2.1 hdg hi hl hn rfl (fun ls' hl2 => k p e R s m args below meth c H locs ls' cells slots C (rn_to_has hl2 hl') hP hD hS hf ho hc hs)
theorem rn_lstore {i : Nat} {x : Int64} (hdg : decode M.2.1 pc = .ok (.lstore i, 2)) (hn : i + 1 < M.2.2.1) (lv' : List (Nat × Value)) (hl' : rn_to ((i, Value.long x) :: lv.filter (fun q => !(q.1 == i) && (!(q.1 == i + 1) && !(q.1 + 1 == i && q.2.category == 2)))) lv') (k : Rn G M d z a b (pc + 2) lv' st ws Q) : Rn G M d z a b pc lv (.long x :: st) ws Q :=
  fun p e R s m args below meth c H locs ls cells slots C hl hP hD hS hf ho hc hs => lv_lstore C.1 C.2.1 hdg hl hn rfl (fun ls' hl2 => k p e R s m args below meth c H locs ls' cells slots C (rn_to_has hl2 hl') hP hD hS hf ho hc hs)
theorem rn_astore_n {k : Fin 4} {i : Nat} {x : Nat} (hdg : decode M.2.1 pc = .ok (.astore_n k, 1)) (hi : (k : Nat) = i) (hn : i < M.2.2.1) (lv' : List (Nat × Value)) (hl' : rn_to ((i, Value.ref x) :: lv.filter (fun q => !(q.1 == i) && !(q.1 + 1 == i && q.2.category == 2))) lv') (k : Rn G M d z a b (pc + 1) lv' st ws Q) : Rn G M d z a b pc lv (.ref x :: st) ws Q :=
  fun p e R s m args below meth c H locs ls cells slots C hl hP hD hS hf ho hc hs => lv_astore_n C.1 C.2.1 hdg hi hl hn rfl (fun ls' hl2 => k p e R s m args below meth c H locs ls' cells slots C (rn_to_has hl2 hl') hP hD hS hf ho hc hs)
theorem rn_astore {i : Nat} {x : Nat} (hdg : decode M.2.1 pc = .ok (.astore i, 2)) (hn : i < M.2.2.1) (lv' : List (Nat × Value)) (hl' : rn_to ((i, Value.ref x) :: lv.filter (fun q => !(q.1 == i) && !(q.1 + 1 == i && q.2.category == 2))) lv') (k : Rn G M d z a b (pc + 2) lv' st ws Q) : Rn G M d z a b pc lv (.ref x :: st) ws Q :=
  fun p e R s m args below meth c H locs ls cells slots C hl hP hD hS hf ho hc hs => lv_astore C.1 C.2.1 hdg hl hn rfl (fun ls' hl2 => k p e R s m args below meth c H locs ls' cells slots C (rn_to_has hl2 hl') hP hD hS hf ho hc hs)
theorem rn_astore_nN {k : Fin 4} {i : Nat} (hdg : decode M.2.1 pc = .ok (.astore_n k, 1)) (hi : (k : Nat) = i) (hn : i < M.2.2.1) (lv' : List (Nat × Value)) (hl' : rn_to ((i, Value.null) :: lv.filter (fun q => !(q.1 == i) && !(q.1 + 1 == i && q.2.category == 2))) lv') (k : Rn G M d z a b (pc + 1) lv' st ws Q) : Rn G M d z a b pc lv (.null :: st) ws Q :=
  fun p e R s m args below meth c H locs ls cells slots C hl hP hD hS hf ho hc hs => lv_astore_nN C.1 C.2.1 hdg hi hl hn rfl (fun ls' hl2 => k p e R s m args below meth c H locs ls' cells slots C (rn_to_has hl2 hl') hP hD hS hf ho hc hs)
theorem rn_astoreN {i : Nat} (hdg : decode M.2.1 pc = .ok (.astore i, 2)) (hn : i < M.2.2.1) (lv' : List (Nat × Value)) (hl' : rn_to ((i, Value.null) :: lv.filter (fun q => !(q.1 == i) && !(q.1 + 1 == i && q.2.category == 2))) lv') (k : Rn G M d z a b (pc + 2) lv' st ws Q) : Rn G M d z a b pc lv (.null :: st) ws Q :=
  fun p e R s m args below meth c H locs ls cells slots C hl hP hD hS hf ho hc hs => lv_astoreN C.1 C.2.1 hdg hl hn rfl (fun ls' hl2 => k p e R s m args below meth c H locs ls' cells slots C (rn_to_has hl2 hl') hP hD hS hf ho hc hs)
theorem rn_iinc {i : Nat} {n : Int} {x v : Int32} (hdg : decode M.2.1 pc = .ok (.iinc i n, 3)) (hlk : rn_lk lv i = some (.int x)) (hv : x + Int32.ofInt n = v) (hn : i < M.2.2.1) (lv' : List (Nat × Value)) (hl' : rn_to ((i, Value.int v) :: lv.filter (fun q => !(q.1 == i) && !(q.1 + 1 == i && q.2.category == 2))) lv') (k : Rn G M d z a b (pc + 3) lv' st ws Q) : Rn G M d z a b pc lv st ws Q := by
  intro p e R s m args below meth c H locs ls cells slots C hl hP hD hS hf ho hc hs
  have h1 : lv_has ls M.2.2.1 [(i, .int x)] := ⟨hl.1, hl.2.1, fun q hq => by rw [List.mem_singleton.mp hq]; exact rn_lk_at hl hlk⟩
  have h2 : lv_has ls M.2.2.1 ((i, .int x) :: lv.filter (fun q => !(q.1 == i) && !(q.1 + 1 == i && q.2.category == 2))) := ⟨hl.1, hl.2.1, fun q hq => by
    rcases List.mem_cons.mp hq with rfl | hq
    · exact rn_lk_at hl hlk
    · exact hl.2.2 q (List.mem_filter.mp hq).1⟩
  refine lv_iinc (k := 0) C.1 C.2.1 hdg h2 rfl hv hn rfl (fun ls' hl2 => k p e R s m args below meth c H locs ls' cells slots C (rn_to_has (lv := (i, .int v) :: lv.filter (fun q => !(q.1 == i) && !(q.1 + 1 == i && q.2.category == 2))) ⟨hl2.1, hl2.2.1, fun q hq => hl2.2.2 q ?_⟩ hl') hP hD hS hf ho hc hs)
  rcases List.mem_cons.mp hq with rfl | hq
  · exact List.mem_cons_self
  · exact List.mem_cons_of_mem _ (List.mem_filter.mpr ⟨List.mem_cons_of_mem _ hq, (List.mem_filter.mp hq).2⟩)
theorem rn_ldc {index : Nat} {v : Int32} (hw : Jvm.Cond.constant M.1.cls index v ∈ rn_T) (hdg : decode M.2.1 pc = .ok (.ldc index, 2)) (k : Rn G M d z a b (pc + 2) lv (.int v :: st) ws Q) : Rn G M d z a b pc lv st ws Q :=
  fun p e R s m args below meth c H locs ls cells slots C hl hP hD hS hf ho hc hs => lv_ldc C.1 C.2.1 C.2.2.2.2.1 (C.2.2.2.2.2.1 _ hw) hdg (k p e R s m args below meth c H locs ls cells slots C hl hP hD hS hf ho hc hs)
theorem rn_ldcw {index : Nat} {v : Int32} (hw : Jvm.Cond.constant M.1.cls index v ∈ rn_T) (hdg : decode M.2.1 pc = .ok (.ldc_w index, 3)) (k : Rn G M d z a b (pc + 3) lv (.int v :: st) ws Q) : Rn G M d z a b pc lv st ws Q :=
  fun p e R s m args below meth c H locs ls cells slots C hl hP hD hS hf ho hc hs => lv_ldcw C.1 C.2.1 C.2.2.2.2.1 (C.2.2.2.2.2.1 _ hw) hdg (k p e R s m args below meth c H locs ls cells slots C hl hP hD hS hf ho hc hs)
theorem rn_ldc2 {index : Nat} {v : Int64} (hw : Jvm.Cond.constantLong M.1.cls index v ∈ rn_T) (hdg : decode M.2.1 pc = .ok (.ldc2_w index, 3)) (k : Rn G M d z a b (pc + 3) lv (.long v :: st) ws Q) : Rn G M d z a b pc lv st ws Q :=
  fun p e R s m args below meth c H locs ls cells slots C hl hP hD hS hf ho hc hs => lv_ldc2 C.1 C.2.1 C.2.2.2.2.1 (C.2.2.2.2.2.1 _ hw) hdg (k p e R s m args below meth c H locs ls cells slots C hl hP hD hS hf ho hc hs)
theorem rn_lcmp {x y : Int64} (hdg : decode M.2.1 pc = .ok (.lcmp, 1)) (k : Rn G M d z a b (pc + 1) lv (.int (lg_cmp x y) :: st) ws Q) : Rn G M d z a b pc lv (.long y :: .long x :: st) ws Q :=
  fun p e R s m args below meth c H locs ls cells slots C hl hP hD hS hf ho hc hs => W.lcmp C.1 C.2.1 hdg (k p e R s m args below meth c H locs ls cells slots C hl hP hD hS hf ho hc hs)
theorem rn_K_of {G : rn_G} {U : State} {H : Heap} {t : Nat} {ty : FieldType} (h : rn_B G U H) (ht : rn_tys[t]? = some ty) : G.2.2.1[t]? = some (rn_k G t, ty) := by
  have h1 : G.2.2.1.map (fun q => q.2) = rn_tys := h.2.2.2.2.2.2.2.1
  rw [← h1, List.getElem?_map] at ht
  cases hq : G.2.2.1[t]? with
  | none => rw [hq] at ht; cases ht
  | some q =>
    rw [hq] at ht
    have h2 : q.2 = ty := Option.some.inj ht
    unfold rn_k
    rw [hq, ← h2]
def rn_F (own : String) (index ci k : Nat) : Prop := ∃ (C : String) (T : u_T) (N : Nat), vwCl[ci]? = some (C, T, N) ∧ (∀ w ∈ u_ws C T N, w ∈ rn_T) ∧ k < N ∧ Cond.fieldLink own index (T k).1 (T k).2.1 (T k).2.2.1 ∈ rn_T
theorem rn_get {index ci k o : Nat} (q0 : Nat) {fs : List Value} {v : Value} (F : rn_F M.1.cls index ci k) (he : ws[q0]? = some (o, .inr (ci, fs))) (hv : fs[k]? = some v) (hdg : decode M.2.1 pc = .ok (.getfield index, 3)) (kk : Rn G M d z a b (pc + 3) lv (v :: st) ws Q) : Rn G M d z a b pc lv (.ref o :: st) ws Q := by
  intro p e R s m args below meth c H locs ls cells slots C hl hP hD hS hf ho hc hs
  obtain ⟨C9, T, N, hc9, hin, hk, hlk⟩ := F
  exact va_get C.1 C.2.1 C.2.2.2.2.2.1 hin C.2.2.2.2.1 C.2.2.2.2.2.2.2.2.2.1 hP q0 he hc9 k hk (C.2.2.2.2.2.1 _ hlk) (fun x h => h) hv hdg (kk p e R s m args below meth c H locs ls cells slots C hl hP hD hS hf ho hc hs)
def rn_FP (own mn : String) (index ci k : Nat) (ty : FieldType) : Prop := ∃ (C : String) (T : u_T) (N : Nat) (ty0 : Nat → FieldType), vwCl[ci]? = some (C, T, N) ∧ (∀ w ∈ u_ws C T N, w ∈ rn_T) ∧ (∀ j, j < N → parseFieldDescriptor (T j).2.2.1 = some (ty0 j)) ∧ (∀ x, x < N → ∀ y, y < N → x ≠ y → (T x).2.1 ≠ (T y).2.1) ∧ k < N ∧ Cond.fieldLink own index (T k).1 (T k).2.1 (T k).2.2.1 ∈ rn_T ∧ ((T k).2.2.2 = false ∨ ((T k).2.2.2 = true ∧ mn = "<init>" ∧ (T k).1 = own)) ∧ parseFieldDescriptor (T k).2.2.1 = some ty
theorem rn_put {index ci k o : Nat} (q0 : Nat) {fs : List Value} {v : Value} {ty : FieldType} (F : rn_FP M.1.cls M.1.name index ci k ty) (he : ws[q0]? = some (o, .inr (ci, fs))) (hk9 : k < fs.length) (hn : narrow ty v = v) (hfit : fits ty v = true) (hdg : decode M.2.1 pc = .ok (.putfield index, 3)) (kk : Rn G M d z a b (pc + 3) lv st (ws.set q0 (o, .inr (ci, fs.set k v))) Q) : Rn G M d z a b pc lv (v :: .ref o :: st) ws Q := by
  intro p e R s m args below meth c H locs ls cells slots C hl hP hD hS hf ho hc hs
  obtain ⟨C9, T, N, ty0, hc9, hin, hty, hnm, hk, hlk, hfin, hd⟩ := F
  rcases hfin with hfin | ⟨hfin, hi, hdecl⟩
  · exact va_put C.1 C.2.1 C.2.2.2.2.2.1 hin ty0 hty hnm C.2.2.2.2.1 C.2.2.2.2.2.2.2.2.2.1 hP hD hS q0 he hc9 k hk (C.2.2.2.2.2.1 _ hlk) (fun x h => h) hfin hd hn hfit hk9 hdg (fun H1 locs1 hP1 hD1 hS1 => kk p e R s m args below meth c H1 locs1 ls cells slots C hl hP1 hD1 hS1 hf ho hc hs)
  · exact va_putF C.1 C.2.1 C.2.2.2.2.2.1 hin ty0 hty hnm C.2.2.2.2.1 C.2.2.2.2.2.2.2.2.2.1 hP hD hS q0 he hc9 k hk (C.2.2.2.2.2.1 _ hlk) (fun x h => h) hfin (C.2.2.2.2.2.2.2.2.1.trans hi) hdecl hd hn hfit hk9 hdg (fun H1 locs1 hP1 hD1 hS1 => kk p e R s m args below meth c H1 locs1 ls cells slots C hl hP1 hD1 hS1 hf ho hc hs)
def rn_N (own : String) (index ci : Nat) (fs : List Value) : Prop := ∃ (C : String) (T : u_T) (N : Nat) (ty : Nat → FieldType), vwCl[ci]? = some (C, T, N) ∧ (∀ w ∈ u_ws C T N, w ∈ rn_T) ∧ (∀ k, k < N → parseFieldDescriptor (T k).2.2.1 = some (ty k)) ∧ Cond.classLink own index C ∈ rn_T ∧ Cond.instantiable C N ∈ rn_T ∧ Cond.initialized C ∈ rn_T ∧ (∀ j, j < N → defaultValue (ty j) = vp_V fs j) ∧ N = fs.length
theorem rn_A_of {G : rn_G} {M : rn_M} {p : Program} {s : State} {m : MethodId} {args : Array Value} {meth : Method} {c : Code} (C : rn_C G M p s m args meth c) : ∀ q, s.heap.size ≤ q → rn_A G q := fun q h => Nat.le_trans C.2.2.2.2.2.2.2.2.2.2.2.2.2.2.2.1 h
theorem rn_new {index ci a0 b0 : Nat} {fs : List Value} (F : rn_N M.1.cls index ci fs) (ha : a + 1 ≤ a0) (hb : b + fs.length ≤ b0) (hdg : decode M.2.1 pc = .ok (.new index, 3)) (kk : ∀ q : Nat, Rn G M d z a b (pc + 3) lv (.ref q :: st) (ws ++ [(q, .inr (ci, fs))]) Q) : Rn G M d z a0 b0 pc lv st ws Q := by
  intro p e R s m args below meth c H locs ls cells slots C hl hP hD hS hf ho hc hs
  obtain ⟨C9, T, N, ty, hc9, hin, hty, w1, w2, w3, hfs, hN⟩ := F
  subst hN
  exact va_new C.1 C.2.1 C.2.2.2.2.2.1 hin ty hty C.2.2.2.2.1 (C.2.2.2.2.2.1 _ w1) (C.2.2.2.2.2.1 _ w2) (C.2.2.2.2.2.1 _ w3) C.2.2.2.2.2.2.2.2.2.1 hP hD hS (rn_A_of C) hc9 hfs (by omega) (by omega) hdg (fun q H1 hP1 hD1 hS1 => kk q p e R s m args below meth c H1 locs ls (cells + 1) (slots + fs.length) C hl hP1 hD1 hS1 hf ho (by omega) (by omega))
theorem rn_iald {o : Nat} (q0 t0 : Nat) {n : Nat} {f : Nat → Int32} {i : Int32} (ha : ws[q0]? = some (o, .inl (rn_k G t0, n, .inl f))) (ht : rn_tys[t0]? = some .int) (hin : vp_in i n) (hdg : decode M.2.1 pc = .ok (.iaload, 1)) (kk : Rn G M d z a b (pc + 1) lv (.int (f i.toNatClampNeg) :: st) ws Q) : Rn G M d z a b pc lv (.int i :: .ref o :: st) ws Q :=
  fun p e R s m args below meth c H locs ls cells slots C hl hP hD hS hf ho hc hs => va_iald C.1 C.2.1 C.2.2.2.2.2.2.2.2.2.1 hP q0 t0 ha (rn_K_of C.2.2.2.2.2.2.2.2.2.2 ht) hin hdg (kk p e R s m args below meth c H locs ls cells slots C hl hP hD hS hf ho hc hs)
theorem rn_bald {o : Nat} (q0 t0 : Nat) {n : Nat} {f : Nat → Int32} {i : Int32} (ha : ws[q0]? = some (o, .inl (rn_k G t0, n, .inl f))) (ht : rn_tys[t0]? = some .byte) (hin : vp_in i n) (hdg : decode M.2.1 pc = .ok (.baload, 1)) (kk : Rn G M d z a b (pc + 1) lv (.int (f i.toNatClampNeg) :: st) ws Q) : Rn G M d z a b pc lv (.int i :: .ref o :: st) ws Q :=
  fun p e R s m args below meth c H locs ls cells slots C hl hP hD hS hf ho hc hs => va_bald C.1 C.2.1 C.2.2.2.2.2.2.2.2.2.1 hP q0 t0 ha (rn_K_of C.2.2.2.2.2.2.2.2.2.2 ht) hin hdg (kk p e R s m args below meth c H locs ls cells slots C hl hP hD hS hf ho hc hs)
theorem rn_lald {o : Nat} (q0 t0 : Nat) {n : Nat} {f : Nat → Int64} {i : Int32} (ha : ws[q0]? = some (o, .inl (rn_k G t0, n, .inr (.inl f)))) (ht : rn_tys[t0]? = some .long) (hin : vp_in i n) (hdg : decode M.2.1 pc = .ok (.laload, 1)) (kk : Rn G M d z a b (pc + 1) lv (.long (f i.toNatClampNeg) :: st) ws Q) : Rn G M d z a b pc lv (.int i :: .ref o :: st) ws Q :=
  fun p e R s m args below meth c H locs ls cells slots C hl hP hD hS hf ho hc hs => va_lald C.1 C.2.1 C.2.2.2.2.2.2.2.2.2.1 hP q0 t0 ha (rn_K_of C.2.2.2.2.2.2.2.2.2.2 ht) hin hdg (kk p e R s m args below meth c H locs ls cells slots C hl hP hD hS hf ho hc hs)
theorem rn_aald {o : Nat} (q0 t0 : Nat) {C9 : String} {n : Nat} {f : Nat → Option Nat} {i : Int32} (ha : ws[q0]? = some (o, .inl (rn_k G t0, n, .inr (.inr (.inr (.inr f)))))) (ht : rn_tys[t0]? = some (.object C9)) (hin : vp_in i n) (hdg : decode M.2.1 pc = .ok (.aaload, 1)) (kk : Rn G M d z a b (pc + 1) lv (va_rf (f i.toNatClampNeg) :: st) ws Q) : Rn G M d z a b pc lv (.int i :: .ref o :: st) ws Q :=
  fun p e R s m args below meth c H locs ls cells slots C hl hP hD hS hf ho hc hs => va_aldq C.1 C.2.1 C.2.2.2.2.2.2.2.2.2.1 hP q0 t0 ha (rn_K_of C.2.2.2.2.2.2.2.2.2.2 ht) hin hdg (kk p e R s m args below meth c H locs ls cells slots C hl hP hD hS hf ho hc hs)
theorem rn_iast {o : Nat} (q0 t0 : Nat) {n : Nat} {f : Nat → Int32} {i x : Int32} (ha : ws[q0]? = some (o, .inl (rn_k G t0, n, .inl f))) (ht : rn_tys[t0]? = some .int) (hin : vp_in i n) (hdg : decode M.2.1 pc = .ok (.iastore, 1)) (kk : Rn G M d z a b (pc + 1) lv st (ws.set q0 (o, .inl (rn_k G t0, n, .inl (upd f i.toNatClampNeg x)))) Q) : Rn G M d z a b pc lv (.int x :: .int i :: .ref o :: st) ws Q :=
  fun p e R s m args below meth c H locs ls cells slots C hl hP hD hS hf ho hc hs => va_iast C.1 C.2.1 C.2.2.2.2.2.2.2.2.2.1 hP hD hS q0 t0 ha (rn_K_of C.2.2.2.2.2.2.2.2.2.2 ht) hin hdg (fun H1 locs1 hP1 hD1 hS1 => kk p e R s m args below meth c H1 locs1 ls cells slots C hl hP1 hD1 hS1 hf ho hc hs)
theorem rn_bast {o : Nat} (q0 t0 : Nat) {n : Nat} {f : Nat → Int32} {i x : Int32} (ha : ws[q0]? = some (o, .inl (rn_k G t0, n, .inl f))) (ht : rn_tys[t0]? = some .byte) (hin : vp_in i n) (hdg : decode M.2.1 pc = .ok (.bastore, 1)) (kk : Rn G M d z a b (pc + 1) lv st (ws.set q0 (o, .inl (rn_k G t0, n, .inl (upd f i.toNatClampNeg (vp_nar .byte x))))) Q) : Rn G M d z a b pc lv (.int x :: .int i :: .ref o :: st) ws Q :=
  fun p e R s m args below meth c H locs ls cells slots C hl hP hD hS hf ho hc hs => va_bast C.1 C.2.1 C.2.2.2.2.2.2.2.2.2.1 hP hD hS q0 t0 ha (rn_K_of C.2.2.2.2.2.2.2.2.2.2 ht) hin hdg (fun H1 locs1 hP1 hD1 hS1 => kk p e R s m args below meth c H1 locs1 ls cells slots C hl hP1 hD1 hS1 hf ho hc hs)
theorem rn_last {o : Nat} (q0 t0 : Nat) {n : Nat} {f : Nat → Int64} {i : Int32} {x : Int64} (ha : ws[q0]? = some (o, .inl (rn_k G t0, n, .inr (.inl f)))) (ht : rn_tys[t0]? = some .long) (hin : vp_in i n) (hdg : decode M.2.1 pc = .ok (.lastore, 1)) (kk : Rn G M d z a b (pc + 1) lv st (ws.set q0 (o, .inl (rn_k G t0, n, .inr (.inl (vp_updL f i.toNatClampNeg x))))) Q) : Rn G M d z a b pc lv (.long x :: .int i :: .ref o :: st) ws Q :=
  fun p e R s m args below meth c H locs ls cells slots C hl hP hD hS hf ho hc hs => va_last C.1 C.2.1 C.2.2.2.2.2.2.2.2.2.1 hP hD hS q0 t0 ha (rn_K_of C.2.2.2.2.2.2.2.2.2.2 ht) hin hdg (fun H1 locs1 hP1 hD1 hS1 => kk p e R s m args below meth c H1 locs1 ls cells slots C hl hP1 hD1 hS1 hf ho hc hs)
theorem rn_aast {o v : Nat} (q0 t0 qk ci : Nat) {C9 : String} {T9 : u_T} {N9 : Nat} {n : Nat} {vs : List Value} {f : Nat → Option Nat} {i : Int32} (ha : ws[q0]? = some (o, .inl (rn_k G t0, n, .inr (.inr (.inr (.inr f)))))) (ht : rn_tys[t0]? = some (.object C9)) (hv : ws[qk]? = some (v, .inr (ci, vs))) (hc9 : vwCl[ci]? = some (C9, T9, N9)) (hin : vp_in i n) (hdg : decode M.2.1 pc = .ok (.aastore, 1)) (kk : Rn G M d z a b (pc + 1) lv st (ws.set q0 (o, .inl (rn_k G t0, n, .inr (.inr (.inr (.inr (va_up f i.toNatClampNeg (some v)))))))) Q) : Rn G M d z a b pc lv (.ref v :: .int i :: .ref o :: st) ws Q :=
  fun p e R s m args below meth c H locs ls cells slots C hl hP hD hS hf ho hc hs => va_astq C.1 C.2.1 C.2.2.2.2.2.2.2.2.2.1 hP hD hS q0 t0 qk ci (r := (C9, T9, N9)) ha (rn_K_of C.2.2.2.2.2.2.2.2.2.2 ht) hv hc9 hin hdg (fun H1 locs1 hP1 hD1 hS1 => kk p e R s m args below meth c H1 locs1 ls cells slots C hl hP1 hD1 hS1 hf ho hc hs)
theorem rn_alen {o : Nat} (q0 t0 : Nat) {x : vp_A} {ty : FieldType} {v : Int32} (ha : ws[q0]? = some (o, .inl (rn_k G t0, x))) (ht : rn_tys[t0]? = some ty) (hv : Int32.ofNat x.1 = v) (hdg : decode M.2.1 pc = .ok (.arraylength, 1)) (kk : Rn G M d z a b (pc + 1) lv (.int v :: st) ws Q) : Rn G M d z a b pc lv (.ref o :: st) ws Q :=
  fun p e R s m args below meth c H locs ls cells slots C hl hP hD hS hf ho hc hs => va_alen C.1 C.2.1 C.2.2.2.2.2.2.2.2.2.1 hP q0 t0 ha (rn_K_of C.2.2.2.2.2.2.2.2.2.2 ht) hv hdg (kk p e R s m args below meth c H locs ls cells slots C hl hP hD hS hf ho hc hs)
theorem rn_sld {i : Int32} (hin : vp_in i G.2.2.2.2.1.2.1) (hdg : decode M.2.1 pc = .ok (.iaload, 1)) (kk : Rn G M d z a b (pc + 1) lv (.int (G.2.2.2.2.1.2.2 i.toNatClampNeg) :: st) ws Q) : Rn G M d z a b pc lv (.int i :: .ref G.2.2.2.2.1.1 :: st) ws Q :=
  fun p e R s m args below meth c H locs ls cells slots C hl hP hD hS hf ho hc hs => va_sld C.1 C.2.1 C.2.2.2.2.2.2.2.2.2.2.2.2.2.1 (Nat.lt_of_lt_of_le C.2.2.2.2.2.2.2.2.2.2.2.2.2.2.1 C.2.2.2.2.2.2.2.2.2.2.2.2.2.2.2.1) (Nat.not_le.mpr C.2.2.2.2.2.2.2.2.2.2.2.2.2.2.1) hS hin hdg (kk p e R s m args below meth c H locs ls cells slots C hl hP hD hS hf ho hc hs)
theorem rn_slen (hdg : decode M.2.1 pc = .ok (.arraylength, 1)) (kk : Rn G M d z a b (pc + 1) lv (.int (Int32.ofNat G.2.2.2.2.1.2.1) :: st) ws Q) : Rn G M d z a b pc lv (.ref G.2.2.2.2.1.1 :: st) ws Q :=
  fun p e R s m args below meth c H locs ls cells slots C hl hP hD hS hf ho hc hs => va_slen C.1 C.2.1 C.2.2.2.2.2.2.2.2.2.2.2.2.2.1 (Nat.lt_of_lt_of_le C.2.2.2.2.2.2.2.2.2.2.2.2.2.2.1 C.2.2.2.2.2.2.2.2.2.2.2.2.2.2.2.1) (Nat.not_le.mpr C.2.2.2.2.2.2.2.2.2.2.2.2.2.2.1) hS hdg (kk p e R s m args below meth c H locs ls cells slots C hl hP hD hS hf ho hc hs)
theorem rn_newa {atype : ArrayType} {ty : FieldType} {t0 a0 b0 : Nat} (ha0 : a + 1 ≤ a0) {n : Int32} {N' : Nat} {av : vp_A} (hb0 : b + N' ≤ b0) (hty : newarray.typeOf atype = ty) (ht : rn_tys[t0]? = some ty) (hprim : ∀ C9, ty ≠ .object C9) (hw : Cond.arrayClass ty ∈ rn_T) (ha : ∀ cA : ClassId, vp_cell cA av = arrV cA N' (fun _ => defaultValue ty)) (hn : ¬ n < 0) (hN : n.toNatClampNeg = N') (hbytes : N' * componentBytes ty ≤ 536870912) (hdg : decode M.2.1 pc = .ok (.newarray atype, 2)) (kk : ∀ q : Nat, Rn G M d z a b (pc + 2) lv (.ref q :: st) (ws ++ [(q, .inl (rn_k G t0, av))]) Q) : Rn G M d z a0 b0 pc lv (.int n :: st) ws Q := by
  intro p e R s m args below meth c H locs ls cells slots C hl hP hD hS hf ho hc hs
  have hK := C.2.2.2.2.2.2.2.2.2.1
  have hk0 := rn_K_of C.2.2.2.2.2.2.2.2.2.2 ht
  refine va_newa C.1 C.2.1 (by rw [hty]; exact C.2.2.2.2.2.1 _ hw) hty hK hP hD hS (rn_A_of C) ha hn hN hbytes (by omega) (by omega) hdg (fun q cA H1 hK1 hP1 hD1 hS1 => ?_)
  have h1 := (hK1.2 G.2.2.1.length (cA, ty) (by rw [List.getElem?_append_right (Nat.le_refl _)]; simp)).2
  have h2 := (hK.2 t0 _ hk0).2
  have h3 : cA = rn_k G t0 := by
    cases ty with
    | object C9 => exact absurd rfl (hprim C9)
    | _ => exact Option.some.inj (h1.symm.trans h2)
  subst h3
  exact kk q p e R s m args below meth c H1 locs ls (cells + 1) (slots + N') C hl hP1 hD1 hS1 hf ho (by omega) (by omega)
theorem rn_anew {index t0 a0 b0 : Nat} {C9 : String} {n : Int32} {N' : Nat} (ha0 : a + 1 ≤ a0) (hb0 : b + N' ≤ b0) (ht : rn_tys[t0]? = some (.object C9)) (w1 : Cond.classLink M.1.cls index C9 ∈ rn_T) (w2 : Cond.arrayOver (.object C9) ∈ rn_U) (hn : ¬ n < 0) (hN : n.toNatClampNeg = N') (hbytes : N' * 4 ≤ 536870912) (hdg : decode M.2.1 pc = .ok (.anewarray index, 3)) (kk : ∀ q : Nat, Rn G M d z a b (pc + 3) lv (.ref q :: st) (ws ++ [(q, .inl (rn_k G t0, N', .inr (.inr (.inr (.inr (fun _ => none))))))]) Q) : Rn G M d z a0 b0 pc lv (.int n :: st) ws Q := by
  intro p e R s m args below meth c H locs ls cells slots C hl hP hD hS hf ho hc hs
  have hK := C.2.2.2.2.2.2.2.2.2.1
  have hk0 := rn_K_of C.2.2.2.2.2.2.2.2.2.2 ht
  refine va_newq C.1 C.2.1 C.2.2.2.2.1 (C.2.2.2.2.2.1 _ w1) (show va_AO C9 s from C.2.2.2.2.2.2.2.2.2.2.2.2.2.2.2.2.2.2.2 _ w2) hK hP hD hS (rn_A_of C) hn hN hbytes (by omega) (by omega) hdg (fun q cA H1 hK1 hP1 hD1 hS1 => ?_)
  obtain ⟨kA1, comp1, e1, e2, e3, h1⟩ := (hK1.2 G.2.2.1.length (cA, .object C9) (by rw [List.getElem?_append_right (Nat.le_refl _)]; simp)).2
  obtain ⟨kA2, comp2, e4, e5, e6, h2⟩ := (hK.2 t0 _ hk0).2
  have h3 : cA = rn_k G t0 := Option.some.inj (h1.symm.trans h2)
  subst h3
  exact kk q p e R s m args below meth c H1 locs ls (cells + 1) (slots + N') C hl hP1 hD1 hS1 hf ho (by omega) (by omega)
/-- Object.<init> -/
theorem rn_objInit {index o : Nat} (w1 : Cond.methodLink M.1.cls index Lib.objectInit ∈ rn_T) (w2 : Cond.instanceMethod Lib.objectInit ∈ rn_T) (w3 : Cond.code Lib.objectInit ⟨#[0xb1]⟩ 1 none ∈ rn_T) (hdg : decode M.2.1 pc = .ok (.invokespecial index, 3)) (hd1 : 1 ≤ d) (hz1 : 20 ≤ z) (hst : (st.map fun v => v.category).sum ≤ 8) (kk : Rn G M d z a b (pc + 3) lv st ws Q) : Rn G M d z a b pc lv (.ref o :: st) ws Q := by
  intro p e R s m args below meth c H locs ls cells slots C hl hP hD hS hf ho hc hs
  exact W.objInit C.1 C.2.1 C.2.2.2.2.1 (C.2.2.2.2.2.1 _ w1) (C.2.2.2.2.2.1 _ w2) (C.2.2.2.2.2.1 _ w3) rfl (hl.1.trans C.2.2.2.1.symm) rfl hdg (by omega) (by have := lv_room (m := m) (pc := pc) (ls := ls) (rest := .ref o :: st) hst; omega) (kk p e R s m args below meth c H locs ls cells slots C hl hP hD hS hf ho hc hs)
theorem rn_topi {x : Int32} (v : Int32) (h : x = v) (k : Rn G M d z a b pc lv (.int v :: st) ws Q) : Rn G M d z a b pc lv (.int x :: st) ws Q := by rw [h]; exact k
theorem rn_topl {x : Int64} (v : Int64) (h : x = v) (k : Rn G M d z a b pc lv (.long v :: st) ws Q) : Rn G M d z a b pc lv (.long x :: st) ws Q := by rw [h]; exact k
theorem rn_top {x : Value} (v : Value) (h : x = v) (k : Rn G M d z a b pc lv (v :: st) ws Q) : Rn G M d z a b pc lv (x :: st) ws Q := by rw [h]; exact k
theorem ls_eq {α : Type} {l : List α} {i : Nat} {x y : α} (h : l[i]? = some x) : (l.set i y)[i]? = some y := by
  rw [List.getElem?_set_self (List.getElem?_eq_some_iff.mp h).1]
theorem ls_ne {α : Type} {l : List α} {i j : Nat} {x y : α} (hne : i ≠ j) (h : l[j]? = some x) : (l.set i y)[j]? = some x := by
  rw [List.getElem?_set_ne hne]; exact h
theorem ls_lt {α : Type} {l : List α} {i : Nat} {x : α} (h : l[i]? = some x) : i < l.length := (List.getElem?_eq_some_iff.mp h).1
theorem la_new {α : Type} {l : List α} {n : Nat} {x : α} (h : l.length = n) : (l ++ [x])[n]? = some x := by subst h; simp
theorem la_old {α : Type} {l t : List α} {i : Nat} {x : α} (h : l[i]? = some x) : (l ++ t)[i]? = some x := by
  rw [List.getElem?_append_left (ls_lt h)]; exact h
theorem la_len {α : Type} {l : List α} {n : Nat} {x : α} (h : l.length = n) : (l ++ [x]).length = n + 1 := by simp [h]
theorem la_set {α : Type} {l : List α} {n i : Nat} {x : α} (h : l.length = n) : (l.set i x).length = n := by simp [h]
theorem rn_in {i : Int32} {n : Nat} (h : 0 ≤ i.toInt ∧ i.toInt < n) : vp_in i n := by
  intro q
  rcases q with q | q
  · rw [Int32.lt_iff_toInt_lt, Int32.toInt_zero] at q; omega
  · have h1 : i.toNatClampNeg = i.toInt.toNat := rfl
    omega
theorem rn_stk (st' : List Value) (h : st = st') (k : Rn G M d z a b pc lv st' ws Q) : Rn G M d z a b pc lv st ws Q := by rw [h]; exact k
theorem i32_rng (x : Int32) : -2147483648 ≤ x.toInt ∧ x.toInt < 2147483648 := ⟨Int32.le_toInt x, Int32.toInt_lt x⟩
theorem i32_add (x y : Int32) : ∃ k : Int, (x + y).toInt = x.toInt + y.toInt - 4294967296 * k ∧ -2147483648 ≤ (x + y).toInt ∧ (x + y).toInt < 2147483648 := by
  have h := Int32.toInt_add x y
  have r := i32_rng (x + y)
  rw [Int.bmod_def] at h
  split at h <;> exact ⟨(x.toInt + y.toInt - (x + y).toInt) / 4294967296, by omega, r.1, r.2⟩
theorem i32_sub (x y : Int32) : ∃ k : Int, (x - y).toInt = x.toInt - y.toInt - 4294967296 * k ∧ -2147483648 ≤ (x - y).toInt ∧ (x - y).toInt < 2147483648 := by
  have h := Int32.toInt_sub x y
  have r := i32_rng (x - y)
  rw [Int.bmod_def] at h
  split at h <;> exact ⟨(x.toInt - y.toInt - (x - y).toInt) / 4294967296, by omega, r.1, r.2⟩
theorem i32_min (x y : Int32) : ((if y < x then y else x).toInt = y.toInt ∧ y.toInt < x.toInt) ∨ ((if y < x then y else x).toInt = x.toInt ∧ x.toInt ≤ y.toInt) := by
  by_cases h : y < x
  · rw [if_pos h]; exact Or.inl ⟨rfl, Int32.lt_iff_toInt_lt.mp h⟩
  · rw [if_neg h]; rw [Int32.lt_iff_toInt_lt] at h; exact Or.inr ⟨rfl, by omega⟩
theorem i32_max (x y : Int32) : ((if x < y then y else x).toInt = y.toInt ∧ x.toInt < y.toInt) ∨ ((if x < y then y else x).toInt = x.toInt ∧ y.toInt ≤ x.toInt) := by
  by_cases h : x < y
  · rw [if_pos h]; exact Or.inl ⟨rfl, Int32.lt_iff_toInt_lt.mp h⟩
  · rw [if_neg h]; rw [Int32.lt_iff_toInt_lt] at h; exact Or.inr ⟨rfl, by omega⟩
theorem rn_goodT : GoodIn rn_T rn_T := fun w h => ⟨h, good_of_word (List.all_eq_true.mp rn_T_good w h)⟩
abbrev rn_cw (N : rn_M) : Cond := Cond.code N.1 N.2.1 N.2.2.1 N.2.2.2.1
abbrev rn_cwH (N : rn_M) : Cond := Cond.codeWith N.1 N.2.1 N.2.2.1 N.2.2.2.1 N.2.2.2.2
abbrev rn_rm (d z a b : Nat) : Room := { frames := d, cells := a, slots := b, locals := z }
def rn_P (G : rn_G) (As : List Value) (ws : va_W) : Array Value → State → Prop := va_Pc As (fun U => va_P G.2.1 vwCl ws U.heap ∧ va_D (rn_A G) ws ∧ va_K G.2.1 vwCl G.2.2.1 U ∧ rn_B G U U.heap)
theorem rn_blind (G : rn_G) (As : List Value) (ws : va_W) : FrameBlind (rn_P G As ws) := fun a U g mk q => by
  obtain ⟨q0, qP, qD, qK, qB⟩ := q
  exact ⟨q0, qP, qD, va_K.moved (u := U) (U := U.calling g mk a) (Vm.Alike.refl U.vm) qK, rn_B.same (u := U) (U := U.calling g mk a) rfl qB⟩
theorem rn_met {N : rn_M} {As : List Value} (hy : plainName N.1.cls = true) (hh : N.2.2.2.2 = []) (hlen : (lg_sl As).length ≤ N.2.2.1) (h : Rn G N d z a b 0 (lv_args 0 As) [] ws Q) : vx_Met G.1 N.1 (rn_cw N :: rn_T) (rn_rm d z a b) (rn_P G As ws) (rn_Q G Q) (rn_X G Q) a b (rn_A G) := by
  refine vx_ofW (cc := N.2.1) (maxL := N.2.2.1) (ret := N.2.2.2.1) hy rfl ?_
  intro p e s m args below meth c s₁ B hml hex hv
  obtain ⟨rfl, hP, hD, hK, hB⟩ := hv
  have hl := lv_entry As hlen
  rw [lg_entry_eq]
  generalize (lg_sl As ++ List.replicate (N.2.2.1 - (lg_sl As).length) Slot.unset).toArray = ls at hl ⊢
  have ht : c.exceptionTable.toList = tableOf N.2.2.2.2 := by
    rw [hh]
    exact List.eq_nil_iff_forall_not_mem.mpr (fun x hx => hex x hx)
  exact h p e _ s m _ below meth c s.heap [] ls 0 0 ⟨B.exec, B.bytes, B.returns, hml, findClass_of_methodNamed B.named, fun w hw => atoms_spec (ws := rn_cw N :: rn_T) B.pre w (List.mem_cons_of_mem _ hw), B.notSynchronized, ht, (name_of_methodNamed B.named B.method).1, hK, hB⟩ hl hP hD va_S.rf (Nat.le_refl _) (Nat.le_refl _) (by show 0 + a ≤ a; omega) (by show 0 + b ≤ b; omega)
theorem rn_metH {N : rn_M} {As : List Value} (hy : plainName N.1.cls = true) (hlen : (lg_sl As).length ≤ N.2.2.1) (h : Rn G N d z a b 0 (lv_args 0 As) [] ws Q) : vx_Met G.1 N.1 (rn_cwH N :: rn_T) (rn_rm d z a b) (rn_P G As ws) (rn_Q G Q) (rn_X G Q) a b (rn_A G) := by
  refine vx_ofWH (cc := N.2.1) (maxL := N.2.2.1) (ret := N.2.2.2.1) (hh := N.2.2.2.2) hy rfl ?_
  intro p e s m args below meth c s₁ B hml hv
  obtain ⟨rfl, hP, hD, hK, hB⟩ := hv
  have hl := lv_entry As hlen
  rw [lg_entry_eq]
  generalize (lg_sl As ++ List.replicate (N.2.2.1 - (lg_sl As).length) Slot.unset).toArray = ls at hl ⊢
  have hts := atoms_spec (ws := rn_cwH N :: rn_T) B.pre
  have ht : c.exceptionTable.toList = tableOf N.2.2.2.2 := vx_table (x := N.1) B (hts (rn_cwH N) List.mem_cons_self)
  exact h p e _ s m _ below meth c s.heap [] ls 0 0 ⟨B.exec, B.bytes, B.returns, hml, findClass_of_methodNamed B.named, fun w hw => hts w (List.mem_cons_of_mem _ hw), B.notSynchronized, ht, (name_of_methodNamed B.named B.method).1, hK, hB⟩ hl hP hD va_S.rf (Nat.le_refl _) (Nat.le_refl _) (by show 0 + a ≤ a; omega) (by show 0 + b ≤ b; omega)
theorem rn_of_run {p : Program} {e : Env} {R : Room} {s : State} {m : MethodId} {args : Array Value} {below : List Frame} {meth : Method} {c : Code} {H : Heap} {locs : List Loc} {ls : Array Slot} {cells slots mc ms : Nat} {st0 rest : List Value} {a9 : Array Value} {Q' : rn_R → va_W → Prop} {Qf : State → Prop}
    (hr : vx_Run p G.1 e R s m args below meth c H locs cells slots mc ms (F0 m pc ls st0) rest (rn_Q G Q' a9) (rn_X G Q') (rn_A G)) (hS : va_S (rn_A G) s.heap H locs)
    (kx : ∀ (E : String) (ce : Cell) (q9 : Addr) (w : va_W) (H1 : Heap) (locs1 : List Loc), Q' (.inr E) w → va_P G.2.1 vwCl w H1 → va_D (rn_A G) w → va_S (rn_A G) s.heap H1 locs1 → H1[q9]? = some ce → ce.vm = .none → s.vm.findClass E = some ce.cls → vx_W p G.1 e R s m args below meth c H1 locs1 (cells + mc) (slots + ms) Qf (F0 m pc ls rest) q9)
    (kk : ∀ (v : Option Value) (w : va_W) (H1 : Heap) (locs1 : List Loc), Q' (.inl v) w → va_P G.2.1 vwCl w H1 → va_D (rn_A G) w → va_S (rn_A G) s.heap H1 locs1 → W p G.1 e R s m args below meth c H1 locs1 (cells + mc) (slots + ms) Qf (F0 m (pc + 3) ls (v.toList ++ rest))) :
    W p G.1 e R s m args below meth c H locs cells slots Qf (F0 m pc ls st0) := by
  intro T hT X
  rcases hr T hT X with ⟨v, st₀, t, T', L, h0, X', hL, e1, e2, ⟨v', w, hv, hq, hPw, hDw, hF⟩, st⟩ | ⟨q, st₀, t, T', L, E, ce, h0, X', hL, e1, e2, ⟨w, hq, hPw, hDw, hF⟩, hce, hcv, hcl, st⟩
  · cases hv
    obtain ⟨k1, k2, k3⟩ := vx_keep h0 e1 hS (fun q _ h => h) (fun q h => h) hL hF
    obtain ⟨t2, a1, b1⟩ := kk v w T'.heap (locs ++ L) hq (by rw [e1]; exact hPw) hDw k3 T' rfl X'
    exact ⟨t2, st t2 a1, b1⟩
  · obtain ⟨k1, k2, k3⟩ := vx_keep h0 e1 hS (fun q _ h => h) (fun q h => h) hL hF
    obtain ⟨t2, a1, b1⟩ := kx E ce q w T'.heap (locs ++ L) hq (by rw [e1]; exact hPw) hDw k3 (by rw [e1]; exact hce) hcv hcl T' rfl X'
    exact ⟨t2, st.trans a1, b1⟩
theorem rn_pre {M : rn_M} {As : List Value} {p : Program} {s : State} {m : MethodId} {args : Array Value} {meth : Method} {c : Code} {H : Heap} {locs : List Loc} (C : rn_C G M p s m args meth c) (hP : va_P G.2.1 vwCl ws H) (hD : va_D (rn_A G) ws) (hS : va_S (rn_A G) s.heap H locs) : ∀ U : State, U.heap = H → s.WarmedH U.vm → rn_P G As ws As.toArray U := fun U hU hW =>
  ⟨rfl, by rw [hU]; exact hP, hD, va_K.moved hW.alike C.2.2.2.2.2.2.2.2.2.1, by rw [hU]; exact (C.2.2.2.2.2.2.2.2.2.2.warm hW).kept hS.1 hS.2.1⟩
def rn_sg (N : rn_M) (n : Nat) : Prop := plainName N.1.cls = true ∧ (N.1.cls ≠ "java/lang/invoke/MethodHandle" ∧ N.1.cls ≠ "java/lang/invoke/VarHandle") ∧ (parseMethodDescriptor N.1.desc).map (fun d => d.parameters.length) = some n
theorem rn_sg_n {N : rn_M} {n : Nat} (h : rn_sg N n) : ∀ sig, parseMethodDescriptor N.1.desc = some sig → n = sig.parameters.length := fun sig h1 => by
  have h2 := h.2.2
  rw [h1] at h2
  exact (Option.some.inj h2).symm
theorem rn_pay {N : rn_M} {M : rn_M} {p : Program} {s : State} {m : MethodId} {args : Array Value} {meth : Method} {c : Code} (C : rn_C G M p s m args meth c) (h : rn_cw N ∈ rn_T) : ∀ w ∈ rn_cw N :: rn_T, ∀ (a' : Array Value) (U : State), s.WarmedH U.vm → w.before a' U = true :=
  pay_in C.2.2.2.2.2.1 (fun w hw => rn_goodT w ((List.mem_cons.mp hw).elim (fun q => by rw [q]; exact h) (fun q => q)))
theorem rn_payH {N : rn_M} {M : rn_M} {p : Program} {s : State} {m : MethodId} {args : Array Value} {meth : Method} {c : Code} (C : rn_C G M p s m args meth c) (h : rn_cwH N ∈ rn_T) : ∀ w ∈ rn_cwH N :: rn_T, ∀ (a' : Array Value) (U : State), s.WarmedH U.vm → w.before a' U = true :=
  pay_in C.2.2.2.2.2.1 (fun w hw => rn_goodT w ((List.mem_cons.mp hw).elim (fun q => by rw [q]; exact h) (fun q => q)))

def rn_LV (own : String) (index : Nat) (N : rn_M) (n : Nat) : Prop := rn_sg N n ∧ N.2.2.2.2 = [] ∧ rn_cw N ∈ rn_T ∧ Cond.initialized N.1.cls ∈ rn_T ∧ Cond.methodLink own index N.1 ∈ rn_T ∧ Cond.instanceMethod N.1 ∈ rn_T ∧ Cond.selects N.1.cls N.1 N.1 ∈ rn_T
theorem rn_callV {N : rn_M} {index n d' z' a' b' a0 b0 : Nat} {o : Nat} (As : List Value) {rest : List Value} {Q' : rn_R → va_W → Prop} (L : rn_LV M.1.cls index N n) (hdg : decode M.2.1 pc = .ok (.invokevirtual index, 3)) (q0 : Nat) {ci : Nat} {fs : List Value} {T9 : u_T} {N9 : Nat} (he : ws[q0]? = some (o, .inr (ci, fs))) (hci : vwCl[ci]? = some (N.1.cls, T9, N9)) (hN : Rn G N d' z' a' b' 0 (lv_args 0 (.ref o :: As)) [] ws Q') (hst : st = As.reverse ++ .ref o :: rest) (hn : As.length = n) (hlen : (lg_sl (.ref o :: As)).length ≤ N.2.2.1) (hrest : (rest.map fun v => v.category).sum ≤ 8) (hd : d' + 1 ≤ d) (hz : 19 + N.2.2.1 + z' ≤ z) (ha : a' + a ≤ a0) (hb : b' + b ≤ b0)
    (kx : ∀ (E : String) (w : va_W), Q' (.inr E) w → RnX G M d z a b pc lv rest w Q E) (kk : ∀ (v : Option Value) (w : va_W), Q' (.inl v) w → Rn G M d z a b (pc + 3) lv (v.toList ++ rest) w Q) : Rn G M d z a0 b0 pc lv st ws Q := by
  intro p e R s m args below meth c H locs ls cells slots C hl hP hD hS hf ho hc hs
  subst hst
  obtain ⟨sg, hh, w0, w1, w2, w3, w4⟩ := L
  have hts := C.2.2.2.2.2.1
  have hM := rn_met sg.1 hh hlen hN
  have hloc : 8 + (N.2.2.1 + 11) + z' ≤ R.locals := by omega
  have hpre := rn_pre (As := (.ref o :: As)) C hP hD hS
  have hr := vx_runV (e := e) (below := below) (meth := meth) (locs := locs) (cells := cells) (slots := slots) (g := F0 m pc ls (As.reverse ++ .ref o :: rest)) (rest := rest) (As := As) (C := N.1.cls) (bytes := N.2.1) (maxL := N.2.2.1) (ret := N.2.2.2.1) ⟨C.1, C.2.1, C.2.2.2.1, C.2.2.2.2.1, hts⟩ hM ⟨⟨rfl, rfl, by show d' + 1 ≤ R.frames; omega, hloc, rn_pay C w0, List.mem_cons_self, hts _ w0, hts _ w1, sg.2.1, rn_sg_n sg, hts _ w2⟩, hts _ w3, hts _ w4⟩ ⟨rn_blind _ _ _, va_recv C.2.2.2.2.2.2.2.2.2.1 hP hci he, hpre⟩ rfl hn hl.1 rfl (lv_room hrest) hdg ⟨by show cells + a' ≤ R.cells; omega, by show slots + b' ≤ R.slots; omega⟩
  exact rn_of_run hr hS (fun E ce q9 w H1 locs1 hq hP1 hD1 hS1 h1 h2 h3 => kx E w hq p e R s m args below meth c H1 locs1 ls (cells + a') (slots + b') q9 ce C hl hP1 hD1 hS1 hf ho (by omega) (by omega) h1 h2 h3) (fun v w H1 locs1 hq hP1 hD1 hS1 => kk v w hq p e R s m args below meth c H1 locs1 ls (cells + a') (slots + b') C hl hP1 hD1 hS1 hf ho (by omega) (by omega))
def rn_LS (own : String) (index : Nat) (N : rn_M) (n : Nat) : Prop := rn_sg N n ∧ N.2.2.2.2 = [] ∧ rn_cw N ∈ rn_T ∧ Cond.initialized N.1.cls ∈ rn_T ∧ Cond.methodLink own index N.1 ∈ rn_T ∧ Cond.static N.1 ∈ rn_T
theorem rn_callS {N : rn_M} {index n d' z' a' b' a0 b0 : Nat} (As : List Value) {rest : List Value} {Q' : rn_R → va_W → Prop} (L : rn_LS M.1.cls index N n) (hdg : decode M.2.1 pc = .ok (.invokestatic index, 3)) (hN : Rn G N d' z' a' b' 0 (lv_args 0 As) [] ws Q') (hst : st = As.reverse ++ rest) (hn : As.length = n) (hlen : (lg_sl As).length ≤ N.2.2.1) (hrest : (rest.map fun v => v.category).sum ≤ 8) (hd : d' + 1 ≤ d) (hz : 19 + N.2.2.1 + z' ≤ z) (ha : a' + a ≤ a0) (hb : b' + b ≤ b0)
    (kx : ∀ (E : String) (w : va_W), Q' (.inr E) w → RnX G M d z a b pc lv rest w Q E) (kk : ∀ (v : Option Value) (w : va_W), Q' (.inl v) w → Rn G M d z a b (pc + 3) lv (v.toList ++ rest) w Q) : Rn G M d z a0 b0 pc lv st ws Q := by
  intro p e R s m args below meth c H locs ls cells slots C hl hP hD hS hf ho hc hs
  subst hst
  obtain ⟨sg, hh, w0, w1, w2, w3⟩ := L
  have hts := C.2.2.2.2.2.1
  have hM := rn_met sg.1 hh hlen hN
  have hloc : 8 + (N.2.2.1 + 11) + z' ≤ R.locals := by omega
  have hpre := rn_pre (As := As) C hP hD hS
  have hr := vx_runS (e := e) (below := below) (meth := meth) (locs := locs) (cells := cells) (slots := slots) (g := F0 m pc ls (As.reverse ++ rest)) (rest := rest) (As := As) (bytes := N.2.1) (maxL := N.2.2.1) (ret := N.2.2.2.1) ⟨C.1, C.2.1, C.2.2.2.1, C.2.2.2.2.1, hts⟩ hM ⟨⟨rfl, rfl, by show d' + 1 ≤ R.frames; omega, hloc, rn_pay C w0, List.mem_cons_self, hts _ w0, hts _ w1, sg.2.1, rn_sg_n sg, hts _ w2⟩, hts _ w3⟩ ⟨rn_blind _ _ _, hpre⟩ rfl hn hl.1 rfl (lv_room hrest) hdg ⟨by show cells + a' ≤ R.cells; omega, by show slots + b' ≤ R.slots; omega⟩
  exact rn_of_run hr hS (fun E ce q9 w H1 locs1 hq hP1 hD1 hS1 h1 h2 h3 => kx E w hq p e R s m args below meth c H1 locs1 ls (cells + a') (slots + b') q9 ce C hl hP1 hD1 hS1 hf ho (by omega) (by omega) h1 h2 h3) (fun v w H1 locs1 hq hP1 hD1 hS1 => kk v w hq p e R s m args below meth c H1 locs1 ls (cells + a') (slots + b') C hl hP1 hD1 hS1 hf ho (by omega) (by omega))
def rn_LSX (own : String) (index : Nat) (N : rn_M) (n : Nat) : Prop := rn_sg N n ∧ True ∧ rn_cwH N ∈ rn_T ∧ Cond.initialized N.1.cls ∈ rn_T ∧ Cond.methodLink own index N.1 ∈ rn_T ∧ Cond.static N.1 ∈ rn_T
theorem rn_callSX {N : rn_M} {index n d' z' a' b' a0 b0 : Nat} (As : List Value) {rest : List Value} {Q' : rn_R → va_W → Prop} (L : rn_LSX M.1.cls index N n) (hdg : decode M.2.1 pc = .ok (.invokestatic index, 3)) (hN : Rn G N d' z' a' b' 0 (lv_args 0 As) [] ws Q') (hst : st = As.reverse ++ rest) (hn : As.length = n) (hlen : (lg_sl As).length ≤ N.2.2.1) (hrest : (rest.map fun v => v.category).sum ≤ 8) (hd : d' + 1 ≤ d) (hz : 19 + N.2.2.1 + z' ≤ z) (ha : a' + a ≤ a0) (hb : b' + b ≤ b0)
    (kx : ∀ (E : String) (w : va_W), Q' (.inr E) w → RnX G M d z a b pc lv rest w Q E) (kk : ∀ (v : Option Value) (w : va_W), Q' (.inl v) w → Rn G M d z a b (pc + 3) lv (v.toList ++ rest) w Q) : Rn G M d z a0 b0 pc lv st ws Q := by
  intro p e R s m args below meth c H locs ls cells slots C hl hP hD hS hf ho hc hs
  subst hst
  obtain ⟨sg, hh, w0, w1, w2, w3⟩ := L
  have hts := C.2.2.2.2.2.1
  have hM := rn_metH sg.1 hlen hN
  have hloc : 8 + (N.2.2.1 + 11) + z' ≤ R.locals := by omega
  have hpre := rn_pre (As := As) C hP hD hS
  have hr := vx_runSX (e := e) (below := below) (meth := meth) (locs := locs) (cells := cells) (slots := slots) (g := F0 m pc ls (As.reverse ++ rest)) (rest := rest) (As := As) (bytes := N.2.1) (maxL := N.2.2.1) (ret := N.2.2.2.1) (hh := N.2.2.2.2) ⟨C.1, C.2.1, C.2.2.2.1, C.2.2.2.2.1, hts⟩ hM ⟨⟨rfl, rfl, by show d' + 1 ≤ R.frames; omega, hloc, rn_payH C w0, List.mem_cons_self⟩, hts _ w0, hts _ w1, sg.2.1, rn_sg_n sg, hts _ w2, hts _ w3⟩ ⟨rn_blind _ _ _, hpre⟩ rfl hn hl.1 rfl (lv_room hrest) hdg ⟨by show cells + a' ≤ R.cells; omega, by show slots + b' ≤ R.slots; omega⟩
  exact rn_of_run hr hS (fun E ce q9 w H1 locs1 hq hP1 hD1 hS1 h1 h2 h3 => kx E w hq p e R s m args below meth c H1 locs1 ls (cells + a') (slots + b') q9 ce C hl hP1 hD1 hS1 hf ho (by omega) (by omega) h1 h2 h3) (fun v w H1 locs1 hq hP1 hD1 hS1 => kk v w hq p e R s m args below meth c H1 locs1 ls (cells + a') (slots + b') C hl hP1 hD1 hS1 hf ho (by omega) (by omega))
theorem rn_metN {N : rn_M} {As : List Value} (hy : plainName N.1.cls = true) (hh : N.2.2.2.2 = []) (hlen : (lg_sl As).length ≤ N.2.2.1) (hno : ∀ (E : String) (w : va_W), ¬ Q (.inr E) w) (h : Rn G N d z a b 0 (lv_args 0 As) [] ws Q) : Met G.1 N.1 (rn_cw N :: rn_T) (rn_rm d z a b) (rn_P G As ws) (rn_Q G Q) a b (rn_A G) := by
  intro p e h1 h2 h3 s m args below h4 h5 h6 h7
  obtain ⟨n, o, g1, g2, g3, g4⟩ := rn_met hy hh hlen h p e h1 h2 h3 s m args below h4 h5 h6 h7
  refine ⟨n, o, g1, g2, g3, ?_⟩
  rcases g4 with g4 | ⟨q, -, E, ce, L, ⟨w, hw, -⟩, -⟩
  · exact g4
  · exact absurd hw (hno E w)
def rn_LI (own : String) (index : Nat) (N : rn_M) (n : Nat) : Prop := rn_sg N n ∧ N.2.2.2.2 = [] ∧ rn_cw N ∈ rn_T ∧ Cond.initialized N.1.cls ∈ rn_T ∧ Cond.methodLink own index N.1 ∈ rn_T ∧ Cond.instanceMethod N.1 ∈ rn_T ∧ N.1.name = "<init>" ∧ N.2.2.2.1 = none
theorem rn_callI {N : rn_M} {index n d' z' a' b' a0 b0 : Nat} {o : Nat} (As : List Value) {rest : List Value} {Q' : rn_R → va_W → Prop} (L : rn_LI M.1.cls index N n) (hdg : decode M.2.1 pc = .ok (.invokespecial index, 3)) (hN : Rn G N d' z' a' b' 0 (lv_args 0 (.ref o :: As)) [] ws Q') (hno : ∀ (E : String) (w : va_W), ¬ Q' (.inr E) w) (hst : st = As.reverse ++ .ref o :: rest) (hn : As.length = n) (hlen : (lg_sl (.ref o :: As)).length ≤ N.2.2.1) (hrest : (rest.map fun v => v.category).sum ≤ 8) (hd : d' + 1 ≤ d) (hz : 19 + N.2.2.1 + z' ≤ z) (ha : a' + a ≤ a0) (hb : b' + b ≤ b0)
    (kk : ∀ (v : Option Value) (w : va_W), Q' (.inl v) w → Rn G M d z a b (pc + 3) lv (v.toList ++ rest) w Q) : Rn G M d z a0 b0 pc lv st ws Q := by
  intro p e R s m args below meth c H locs ls cells slots C hl hP hD hS hf ho hc hs
  subst hst
  obtain ⟨yN, bN, lN, rN, hhN⟩ := N
  obtain ⟨sg, hh, w0, w1, w2, w3, hi, hnone⟩ := L
  dsimp only at hnone hz
  subst hnone
  have hts := C.2.2.2.2.2.1
  have hM := rn_metN sg.1 hh hlen hno hN
  have hloc : 8 + (lN + 11) + z' ≤ R.locals := by omega
  have hpre := rn_pre (As := (.ref o :: As)) C hP hD hS
  have hr := va_runI (e := e) (below := below) (meth := meth) (locs := locs) (cells := cells) (slots := slots) (g := F0 m pc ls (As.reverse ++ .ref o :: rest)) (rest := rest) (As := As) (bytes := bN) (maxL := lN) ⟨C.1, C.2.1, C.2.2.2.1, C.2.2.2.2.1, hts⟩ hM ⟨⟨rfl, rfl, by show d' + 1 ≤ R.frames; omega, hloc, rn_pay C w0, List.mem_cons_self, hts _ w0, hts _ w1, sg.2.1, rn_sg_n sg, hts _ w2⟩, hi, hts _ w3⟩ ⟨rn_blind _ _ _, hpre⟩ rfl hn hl.1 rfl (lv_room hrest) hdg ⟨by show cells + a' ≤ R.cells; omega, by show slots + b' ≤ R.slots; omega⟩
  exact rn_of_run (Q' := Q') (fun T hT X => Or.inl (hr T hT X)) hS (fun E ce q9 w H1 locs1 hq => absurd hq (hno E w)) (fun v w H1 locs1 hq hP1 hD1 hS1 => kk v w hq p e R s m args below meth c H1 locs1 ls (cells + a') (slots + b') C hl hP1 hD1 hS1 hf ho (by omega) (by omega))
def rn_LIN (own : String) (index : Nat) (N : rn_M) (n : Nat) (host : String) : Prop := rn_sg N n ∧ N.2.2.2.2 = [] ∧ rn_cw N ∈ rn_T ∧ Cond.initialized N.1.cls ∈ rn_T ∧ Cond.methodLinkNest own index N.1 host ∈ rn_U ∧ Cond.instanceMethod N.1 ∈ rn_T ∧ N.1.name = "<init>" ∧ N.2.2.2.1 = none
theorem rn_callIN {N : rn_M} {index n d' z' a' b' a0 b0 : Nat} {host : String} {o : Nat} (As : List Value) {rest : List Value} {Q' : rn_R → va_W → Prop} (L : rn_LIN M.1.cls index N n host) (hdg : decode M.2.1 pc = .ok (.invokespecial index, 3)) (hN : Rn G N d' z' a' b' 0 (lv_args 0 (.ref o :: As)) [] ws Q') (hno : ∀ (E : String) (w : va_W), ¬ Q' (.inr E) w) (hst : st = As.reverse ++ .ref o :: rest) (hn : As.length = n) (hlen : (lg_sl (.ref o :: As)).length ≤ N.2.2.1) (hrest : (rest.map fun v => v.category).sum ≤ 8) (hd : d' + 1 ≤ d) (hz : 19 + N.2.2.1 + z' ≤ z) (ha : a' + a ≤ a0) (hb : b' + b ≤ b0)
    (kk : ∀ (v : Option Value) (w : va_W), Q' (.inl v) w → Rn G M d z a b (pc + 3) lv (v.toList ++ rest) w Q) : Rn G M d z a0 b0 pc lv st ws Q := by
  intro p e R s m args below meth c H locs ls cells slots C hl hP hD hS hf ho hc hs
  subst hst
  obtain ⟨yN, bN, lN, rN, hhN⟩ := N
  obtain ⟨sg, hh, w0, w1, w2, w3, hi, hnone⟩ := L
  dsimp only at hnone hz
  subst hnone
  have hts := C.2.2.2.2.2.1
  have hM := rn_metN sg.1 hh hlen hno hN
  have hloc : 8 + (lN + 11) + z' ≤ R.locals := by omega
  have hpre := rn_pre (As := (.ref o :: As)) C hP hD hS
  have hr := va_runIN (e := e) (below := below) (meth := meth) (locs := locs) (cells := cells) (slots := slots) (g := F0 m pc ls (As.reverse ++ .ref o :: rest)) (rest := rest) (As := As) (bytes := bN) (maxL := lN) ⟨C.1, C.2.1, C.2.2.2.1, C.2.2.2.2.1, hts⟩ hM ⟨⟨⟨rfl, rfl, by show d' + 1 ≤ R.frames; omega, hloc, rn_pay C w0, List.mem_cons_self⟩, hts _ w0, hts _ w1, sg.2.1, rn_sg_n sg, rn_U_use w2 (C.2.2.2.2.2.2.2.2.2.2.2.2.2.2.2.2.2.2.2 _ w2)⟩, hi, hts _ w3⟩ ⟨rn_blind _ _ _, hpre⟩ rfl hn hl.1 rfl (lv_room hrest) hdg ⟨by show cells + a' ≤ R.cells; omega, by show slots + b' ≤ R.slots; omega⟩
  exact rn_of_run (Q' := Q') (fun T hT X => Or.inl (hr T hT X)) hS (fun E ce q9 w H1 locs1 hq => absurd hq (hno E w)) (fun v w H1 locs1 hq hP1 hD1 hS1 => kk v w hq p e R s m args below meth c H1 locs1 ls (cells + a') (slots + b') C hl hP1 hD1 hS1 hf ho (by omega) (by omega))
theorem rn_aret {x : Nat} {n : String} (h : decode M.2.1 pc = .ok (.areturn, 1)) (hr : M.2.2.2.1 = some (.object n)) (k : Q (.inl (some (.ref x))) ws) : Rn G M d z a b pc lv [.ref x] ws Q := by
  intro p e R s m args below meth c H locs ls cells slots C hl hP hD hS hf ho hc hs
  refine vx_ret (W.widen (k := R.cells) (n := R.slots) (by omega) (by omega) ?_)
  exact W.aret C.1 C.2.1 (C.2.2.1.trans hr) (Or.inl ⟨n, rfl⟩) (Or.inr ⟨x, rfl⟩) (fun t ht _ => ⟨some (.ref x), ws, rfl, k, by rw [ht]; exact hP, hD, hS.F ht⟩) hS.2.2 h C.2.2.2.2.2.2.1
theorem rn_aretN {n : String} (h : decode M.2.1 pc = .ok (.areturn, 1)) (hr : M.2.2.2.1 = some (.object n)) (k : Q (.inl (some .null)) ws) : Rn G M d z a b pc lv [.null] ws Q := by
  intro p e R s m args below meth c H locs ls cells slots C hl hP hD hS hf ho hc hs
  refine vx_ret (W.widen (k := R.cells) (n := R.slots) (by omega) (by omega) ?_)
  exact W.aret C.1 C.2.1 (C.2.2.1.trans hr) (Or.inl ⟨n, rfl⟩) (Or.inl rfl) (fun t ht _ => ⟨some .null, ws, rfl, k, by rw [ht]; exact hP, hD, hS.F ht⟩) hS.2.2 h C.2.2.2.2.2.2.1
theorem rn_zald {o : Nat} (q0 t0 : Nat) {n : Nat} {f : Nat → Int32} {i : Int32} (ha : ws[q0]? = some (o, .inl (rn_k G t0, n, .inl f))) (ht : rn_tys[t0]? = some .boolean) (hin : vp_in i n) (hdg : decode M.2.1 pc = .ok (.baload, 1)) (kk : Rn G M d z a b (pc + 1) lv (.int (f i.toNatClampNeg) :: st) ws Q) : Rn G M d z a b pc lv (.int i :: .ref o :: st) ws Q :=
  fun p e R s m args below meth c H locs ls cells slots C hl hP hD hS hf ho hc hs => va_zald C.1 C.2.1 C.2.2.2.2.2.2.2.2.2.1 hP q0 t0 ha (rn_K_of C.2.2.2.2.2.2.2.2.2.2 ht) hin hdg (kk p e R s m args below meth c H locs ls cells slots C hl hP hD hS hf ho hc hs)
theorem rn_zast {o : Nat} (q0 t0 : Nat) {n : Nat} {f : Nat → Int32} {i x : Int32} (ha : ws[q0]? = some (o, .inl (rn_k G t0, n, .inl f))) (ht : rn_tys[t0]? = some .boolean) (hin : vp_in i n) (hdg : decode M.2.1 pc = .ok (.bastore, 1)) (kk : Rn G M d z a b (pc + 1) lv st (ws.set q0 (o, .inl (rn_k G t0, n, .inl (upd f i.toNatClampNeg (vp_nar .boolean x))))) Q) : Rn G M d z a b pc lv (.int x :: .int i :: .ref o :: st) ws Q :=
  fun p e R s m args below meth c H locs ls cells slots C hl hP hD hS hf ho hc hs => va_zast C.1 C.2.1 C.2.2.2.2.2.2.2.2.2.1 hP hD hS q0 t0 ha (rn_K_of C.2.2.2.2.2.2.2.2.2.2 ht) hin hdg (fun H1 locs1 hP1 hD1 hS1 => kk p e R s m args below meth c H1 locs1 ls cells slots C hl hP1 hD1 hS1 hf ho hc hs)
theorem rn_tableOut {dflt lo hi : Int} {offs : Array Int} {len : Nat} {x : Int32} {tgt : Nat} (hdg : decode M.2.1 pc = .ok (.tableswitch dflt lo hi offs, len)) (h : x.toInt < lo ∨ hi < x.toInt) (ht : (pc : Int) + dflt = (tgt : Int)) (k : Rn G M d z a b tgt lv st ws Q) : Rn G M d z a b pc lv (.int x :: st) ws Q :=
  fun p e R s m args below meth c H locs ls cells slots C hl hP hD hS hf ho hc hs => lv_tableOut C.1 C.2.1 hdg h ht (k p e R s m args below meth c H locs ls cells slots C hl hP hD hS hf ho hc hs)
theorem rn_tableIn {dflt lo hi : Int} {offs : Array Int} {len : Nat} {x : Int32} {off : Int} {tgt : Nat} (hdg : decode M.2.1 pc = .ok (.tableswitch dflt lo hi offs, len)) (h1 : ¬ x.toInt < lo) (h2 : ¬ hi < x.toInt) (h3 : offs[(x.toInt - lo).toNat]? = some off) (ht : (pc : Int) + off = (tgt : Int)) (k : Rn G M d z a b tgt lv st ws Q) : Rn G M d z a b pc lv (.int x :: st) ws Q :=
  fun p e R s m args below meth c H locs ls cells slots C hl hP hD hS hf ho hc hs => lv_tableIn C.1 C.2.1 hdg h1 h2 h3 ht (k p e R s m args below meth c H locs ls cells slots C hl hP hD hS hf ho hc hs)
def rn_mm (own : String) (index : Nat) (y : MethodName) (cc : ByteArray) : Prop := Cond.methodLink own index y ∈ rn_T ∧ Cond.static y ∈ rn_T ∧ Cond.initialized "java/lang/Math" ∈ rn_T ∧ Cond.code y cc 2 (some .int) ∈ rn_T
theorem rn_mmin {index : Nat} {x y : Int32} (L : rn_mm M.1.cls index Lib.Math.min.name Lib.Math.min.code) (hdg : decode M.2.1 pc = .ok (.invokestatic index, 3)) (hd1 : 1 ≤ d) (hz1 : 21 ≤ z) (hst : (st.map fun v => v.category).sum ≤ 8) (kk : Rn G M d z a b (pc + 3) lv (.int (if y < x then y else x) :: st) ws Q) : Rn G M d z a b pc lv (.int y :: .int x :: st) ws Q := by
  intro p e R s m args below meth c H locs ls cells slots C hl hP hD hS hf ho hc hs
  obtain ⟨w1, w2, w3, w4⟩ := L
  have hts := C.2.2.2.2.2.1
  exact va_mmin C.1 C.2.1 (C.2.2.2.1.trans hl.1.symm) C.2.2.2.2.1 (hts _ w1) (hts _ w2) (hts _ w3) (hts _ w4) (by omega) (by omega) (by omega) (by omega) hdg (kk p e R s m args below meth c H locs ls cells slots C hl hP hD hS hf ho hc hs)
theorem rn_mmax {index : Nat} {x y : Int32} (L : rn_mm M.1.cls index Lib.Math.max.name Lib.Math.max.code) (hdg : decode M.2.1 pc = .ok (.invokestatic index, 3)) (hd1 : 1 ≤ d) (hz1 : 21 ≤ z) (hst : (st.map fun v => v.category).sum ≤ 8) (kk : Rn G M d z a b (pc + 3) lv (.int (if x < y then y else x) :: st) ws Q) : Rn G M d z a b pc lv (.int y :: .int x :: st) ws Q := by
  intro p e R s m args below meth c H locs ls cells slots C hl hP hD hS hf ho hc hs
  obtain ⟨w1, w2, w3, w4⟩ := L
  have hts := C.2.2.2.2.2.1
  exact va_mmax C.1 C.2.1 (C.2.2.2.1.trans hl.1.symm) C.2.2.2.2.1 (hts _ w1) (hts _ w2) (hts _ w3) (hts _ w4) (by omega) (by omega) (by omega) (by omega) hdg (kk p e R s m args below meth c H locs ls cells slots C hl hP hD hS hf ho hc hs)
/-- what a throw needs: E's class by the entry ik, its constructor by ic, the text by is (the i-th of rn_S) -/
abbrev rn_nm : List String := ["java/lang/RuntimeException", "java/lang/Exception"]
def rn_LT (own : String) (ik is ic : Nat) (E : String) : Prop := Bundle.fit E = true ∧ Cond.classLink own ik E ∈ rn_T ∧ Cond.initialized E ∈ rn_T ∧ (∀ w ∈ vx_atS own ic E rn_nm, w ∈ rn_T ∨ (w ∈ rn_U ∧ w.onTables = true)) ∧ ∃ (i : Nat) (tx : String), rn_S[i]? = some (own, is, tx)
theorem rn_ot {w : Cond} (h : w ∈ rn_T) : vx_ot w = true := by
  have h1 := (List.mem_filter.mp h).2
  unfold vx_ot
  rw [h1, Bool.or_true]
theorem rn_throw {ik is ic : Nat} {E : String} (L : rn_LT M.1.cls ik is ic E) (hh : M.2.2.2.2 = []) (d0 : decode M.2.1 pc = .ok (.new ik, 3)) (d3 : decode M.2.1 (pc + 3) = .ok (.dup, 1)) (d4 : decode M.2.1 (pc + 4) = .ok (.ldc is, 2)) (d6 : decode M.2.1 (pc + 6) = .ok (.invokespecial ic, 3)) (d9 : decode M.2.1 (pc + 9) = .ok (.athrow, 1)) (hd1 : 6 ≤ d) (hz1 : 90 ≤ z) (ha1 : 1 ≤ a) (hb1 : 6 ≤ b) (hst : (st.map fun v => v.category).sum ≤ 8) (k : Q (.inr E) ws) : Rn G M d z a b pc lv st ws Q := by
  intro p e R s m args below meth c H locs ls cells slots C hl hP hD hS hf ho hc hs
  obtain ⟨hfit, w1, w2, w3, i, tx, htx⟩ := L
  have hts := C.2.2.2.2.2.1
  have hB := C.2.2.2.2.2.2.2.2.2.2
  refine vx_throwS (names := rn_nm) (text := tx) (sa := G.2.2.2.2.2 i) C.1 C.2.1 hB.2.2.2.2.2.2.1 C.2.2.2.2.1 hfit (by decide +kernel) (hts _ w1) (hts _ w2) (hB.2.2.1 i _ htx) (fun w hw => (w3 w hw).elim (fun h => hts _ h) (fun h => rn_U_use h.1 (hB.2.2.2.2.2.2.2.2.2 w h.1))) ?_ hB.1 hB.2.1 hS (hl.1.trans C.2.2.2.1.symm) d0 d3 d4 d6 d9 ?_ (by show 2 + 3 < R.frames; omega) (by show _ + (13 * (2 + 1) + 43) ≤ R.locals; omega) (by omega) (by omega) C.2.2.2.2.2.2.1 ?_ hS.2.2 (by omega) (by omega)
  · intro w hw
    rcases List.mem_cons.mp hw with rfl | hw
    · exact rn_ot w1
    · rcases List.mem_cons.mp hw with rfl | hw
      · exact rn_ot w2
      · rcases w3 w hw with h | h
        · exact rn_ot h
        · unfold vx_ot; rw [h.2]; rfl
  · intro x hx
    rw [C.2.2.2.2.2.2.2.1, hh] at hx
    cases hx
  · intro t ht hz hq
    refine ⟨ws, k, fun i9 q9 h9 => (hP i9 q9 h9).kept (hq q9.1 ((hP i9 q9 h9).lt)), hD, Nat.le_trans hS.1 hz, fun q h1 h2 => ?_⟩
    rw [hq q (Nat.lt_of_lt_of_le h1 hS.1)]
    exact hS.2.1 q h1 h2
theorem rn_throwW {ik is ic : Nat} {E : String} (L : rn_LT M.1.cls ik is ic E) (hh : M.2.2.2.2 = []) (d0 : decode M.2.1 pc = .ok (.new ik, 3)) (d3 : decode M.2.1 (pc + 3) = .ok (.dup, 1)) (d4 : decode M.2.1 (pc + 4) = .ok (.ldc_w is, 3)) (d6 : decode M.2.1 (pc + 7) = .ok (.invokespecial ic, 3)) (d9 : decode M.2.1 (pc + 10) = .ok (.athrow, 1)) (hd1 : 6 ≤ d) (hz1 : 90 ≤ z) (ha1 : 1 ≤ a) (hb1 : 6 ≤ b) (hst : (st.map fun v => v.category).sum ≤ 8) (k : Q (.inr E) ws) : Rn G M d z a b pc lv st ws Q := by
  intro p e R s m args below meth c H locs ls cells slots C hl hP hD hS hf ho hc hs
  obtain ⟨hfit, w1, w2, w3, i, tx, htx⟩ := L
  have hts := C.2.2.2.2.2.1
  have hB := C.2.2.2.2.2.2.2.2.2.2
  refine vx_throwSW (names := rn_nm) (text := tx) (sa := G.2.2.2.2.2 i) C.1 C.2.1 hB.2.2.2.2.2.2.1 C.2.2.2.2.1 hfit (by decide +kernel) (hts _ w1) (hts _ w2) (hB.2.2.1 i _ htx) (fun w hw => (w3 w hw).elim (fun h => hts _ h) (fun h => rn_U_use h.1 (hB.2.2.2.2.2.2.2.2.2 w h.1))) ?_ hB.1 hB.2.1 hS (hl.1.trans C.2.2.2.1.symm) d0 d3 d4 d6 d9 ?_ (by show 2 + 3 < R.frames; omega) (by show _ + (13 * (2 + 1) + 43) ≤ R.locals; omega) (by omega) (by omega) C.2.2.2.2.2.2.1 ?_ hS.2.2 (by omega) (by omega)
  · intro w hw
    rcases List.mem_cons.mp hw with rfl | hw
    · exact rn_ot w1
    · rcases List.mem_cons.mp hw with rfl | hw
      · exact rn_ot w2
      · rcases w3 w hw with h | h
        · exact rn_ot h
        · unfold vx_ot; rw [h.2]; rfl
  · intro x hx
    rw [C.2.2.2.2.2.2.2.1, hh] at hx
    cases hx
  · intro t ht hz hq
    refine ⟨ws, k, fun i9 q9 h9 => (hP i9 q9 h9).kept (hq q9.1 ((hP i9 q9 h9).lt)), hD, Nat.le_trans hS.1 hz, fun q h1 h2 => ?_⟩
    rw [hq q (Nat.lt_of_lt_of_le h1 hS.1)]
    exact hS.2.1 q h1 h2
/-- it goes on to the caller: the method has no handler -/
theorem rnx_out {E : String} (hh : M.2.2.2.2 = []) (k : Q (.inr E) ws) : RnX G M d z a b pc lv st ws Q E := by
  intro p e R s m args below meth c H locs ls cells slots q ce C hl hP hD hS hf ho hc hs h1 h2 h3
  refine vx_out (fun x hx => ?_) C.2.2.2.2.2.2.1 h1 h2 h3 (fun t ht _ => ⟨ws, k, by rw [ht]; exact hP, hD, hS.F ht⟩) hS.2.2 (by omega) (by omega)
  rw [C.2.2.2.2.2.2.2.1, hh] at hx
  cases hx
/-- the row x of the method's own table takes it; those ahead name other classes -/
theorem rnx_catch {E : String} (pre : List ExceptionTableEntry) (x : ExceptionTableEntry) (suf : List ExceptionTableEntry) (hsplit : tableOf M.2.2.2.2 = pre ++ x :: suf) (hpass : ∀ y ∈ pre, y.catchType ≠ 0 ∧ ∃ nm : String, Cond.classLink M.1.cls y.catchType nm ∈ rn_T ∧ (E, nm) ∈ rn_NC) (hx : covers x pc = true) (h0 : x.catchType ≠ 0) (hlink : Cond.classLink M.1.cls x.catchType E ∈ rn_T) (hcast : Cond.castable E E ∈ rn_U) (kk : ∀ q : Nat, Rn G M d z a b x.handlerPc lv [.ref q] ws Q) : RnX G M d z a b pc lv st ws Q E := by
  intro p e R s m args below meth c H locs ls cells slots q ce C hl hP hD hS hf ho hc hs h1 h2 h3
  have hts := C.2.2.2.2.2.1
  have hB := C.2.2.2.2.2.2.2.2.2.2
  refine vx_catch C.2.2.2.2.1 pre x suf (C.2.2.2.2.2.2.2.1.trans hsplit) (fun y hy => ?_) hx h0 (hts _ hlink) (rn_U_use hcast (hB.2.2.2.2.2.2.2.2.2 _ hcast)) h1 h2 h3 (kk q p e R s m args below meth c H locs ls cells slots C hl hP hD hS hf ho hc hs)
  obtain ⟨g1, nm, g2, g3⟩ := hpass y hy
  exact Or.inr ⟨g1, nm, hts _ g2, hB.2.2.2.2.2.2.2.2.1 (E, nm) g3⟩
theorem rn_atS {own : String} {ic : Nat} {E : String} (h : ((vx_atS own ic E rn_nm).all (fun w => decide (w ∈ lw_tbl) && (goodWord w || (rn_kd w && w.onTables)))) = true) : ∀ w ∈ vx_atS own ic E rn_nm, w ∈ rn_T ∨ (w ∈ rn_U ∧ w.onTables = true) := by
  intro w hw
  have h1 := List.all_eq_true.mp h w hw
  simp only [Bool.and_eq_true, Bool.or_eq_true, decide_eq_true_eq] at h1
  rcases h1.2 with g | g
  · exact Or.inl (List.mem_filter.mpr ⟨h1.1, g⟩)
  · exact Or.inr ⟨List.mem_filter.mpr ⟨h1.1, g.1⟩, g.2⟩
end
