/-! THE CLAIM OUT OF ONE WALK OF THE LAW'S BODY. Your part is whole_start (and what it stands on); all else here is the same for every law, but numbers. -/
def R_law : String := "SealedGatewayLaw"
def lw_P (b : Addr) (xs : List Int32) (args : Array Value) (s : State) : Prop := args = #[.ref b] ∧ s.IntsAt b xs ∧ xs.length ≤ 5121 ∧ (Jvm.Cond.and given_1 narrow_1).before args s = true
def lw_Q (_ : Array Value) (s : State) (o : Outcome) (t : State) : Prop := o = .returned (some (.int 1)) ∧ Framed s o t [] 601024 7293000
def lw_Z (below : List Frame) (a : Array Value) (s : State) : State → Prop := fun t => ∃ o, t.status = .running ∧ Ended t below o ∧ lw_Q a s o t
/-- the law's own end, with 1 on the stack, nothing written that was there before, its room as the claim has it -/
theorem lw_ret {p : Program} {l : Launch} {e : Env} {s : State} {m : MethodId} {below : List Frame} {meth : Method} {c : Code} {b : Nat} (hx : p.tables.exec = Jvm.exec) (hb : c.code = code) (hr : meth.sig.returnType = ret) (hlocks : meth.locks = false) {pc : Nat} {H : Heap} {ls : Array Slot} (hdg : decode code pc = .ok (.ireturn, 1)) : W p l e room_1 s m #[Value.ref b] below meth c H [] 601024 7293000 (lw_Z below #[Value.ref b] s) (F0 m pc ls [.int 1]) := by
  intro T hT X
  obtain ⟨fs, hret, hrun, hended, hW, hframe⟩ := X.leave (v := some (.int 1)) (hlocks := hlocks) (fun h => by rw [hr] at h; cases h)
  have hmeth' : T.vm.method? m = some meth := X.method'
  refine ⟨T.setFrames fs, ?_, .returned (some (.int 1)), hrun, hended, rfl, ⟨_, rfl⟩, hW, hframe⟩
  jvm_step X.here [X.here.top, hx, hb, hdg, hmeth', hr, ret, narrow_b1]
  (try refine ⟨rfl, ?_⟩); (try refine ⟨rfl, ?_⟩)
  first | (intro acts; rw [hret _ acts rfl rfl rfl]) | rw [hret _ _ rfl rfl rfl]
  exact Steps.refl _
/-- what holds at the law's entry: the machine, the code, the tables' words (any of lw_tbl by 'hts w (by decide +kernel)'), the script of L ints xs at the cell b, what the Statement gives of the start (any of its parts by flat_of_before) -/
def lw_At (p : Program) (s : State) (m : MethodId) (meth : Method) (c : Code) (b L : Nat) (xs : Nat → Int32) : Prop :=
  p.tables.exec = Jvm.exec ∧ c.code = code ∧ meth.sig.returnType = ret ∧ c.maxLocals = 8 ∧ s.vm.findClass R_law = some m.cls ∧ (∀ w ∈ lw_tbl, w.before #[Value.ref b] s = true) ∧ va_X b L xs s s.heap ∧ b < s.heap.size ∧ meth.locks = false ∧ (Jvm.Cond.and given_1 narrow_1).before #[Value.ref b] s = true
theorem rn_U_of {w : Cond} (hw : w ∈ rn_U) {A : Array Value} {U : State} (h : w.before A U = true) : va_Nw w U := by
  have hk := (List.mem_filter.mp hw).2
  cases w with
  | castable C T => exact va_Nw.of rfl h
  | declares x => exact va_Nw.of rfl h
  | methodLinkNest a i x h9 => exact va_Nw.of rfl h
  | arrayOver ty =>
    cases ty with
    | object C => exact va_AO.of h
    | _ => cases hk
  | _ => cases hk
set_option maxRecDepth 100000 in
set_option maxHeartbeats 8000000 in
theorem whole_start {p : Program} {e : Env} {s : State} {m : MethodId} {below : List Frame} {meth : Method} {c : Code} (l : Launch) (hst : l.stackTraces = false) {b L : Nat} {xs : Nat → Int32} (hL : L ≤ 5121) (hex : c.exceptionTable.toList = []) (hnm : meth.name = "law") (C0 : lw_At p s m meth c b L xs) : W p l e room_1 s m #[Value.ref b] below meth c s.heap [] 0 0 (lw_Z below #[Value.ref b] s) (entryFrame m ([Value.ref b] : List Value).toArray 8) := by
  obtain ⟨hx, hb, hr, hml, hown, hts, hX, hbl, hlocks, hgv⟩ := id C0
  have hs := flat_of_before _ hgv
  obtain ⟨c0, iS0, hK0⟩ := u_known (C := RX0) (T := TX0) (N := 8) (n := 8) hts (fun w h => (List.mem_filter.mp (wu_0 w h)).1) (hts (.instantiable RX0 8) (List.mem_append_right _ (List.mem_of_getElem? (i := 865) (by decide +kernel))))
  obtain ⟨c1, iS1, hK1⟩ := u_known (C := RX1) (T := TX1) (N := 2) (n := 2) hts (fun w h => (List.mem_filter.mp (wu_1 w h)).1) (hts (.instantiable RX1 2) (List.mem_append_right _ (List.mem_of_getElem? (i := 90) (by decide +kernel))))
  obtain ⟨c2, iS2, hK2⟩ := u_known (C := RX2) (T := TX2) (N := 2) (n := 2) hts (fun w h => (List.mem_filter.mp (wu_2 w h)).1) (hts (.instantiable RX2 2) (List.mem_append_right _ (List.mem_of_getElem? (i := 105) (by decide +kernel))))
  obtain ⟨c3, iS3, hK3⟩ := u_known (C := RX3) (T := TX3) (N := 2) (n := 2) hts (fun w h => (List.mem_filter.mp (wu_3 w h)).1) (hts (.instantiable RX3 2) (List.mem_append_right _ (List.mem_of_getElem? (i := 453) (by decide +kernel))))
  obtain ⟨c4, iS4, hK4⟩ := u_known (C := RX4) (T := TX4) (N := 2) (n := 2) hts (fun w h => (List.mem_filter.mp (wu_4 w h)).1) (hts (.instantiable RX4 2) (List.mem_append_right _ (List.mem_of_getElem? (i := 30) (by decide +kernel))))
  obtain ⟨c5, iS5, hK5⟩ := u_known (C := RX5) (T := TX5) (N := 5) (n := 5) hts (fun w h => (List.mem_filter.mp (wu_5 w h)).1) (hts (.instantiable RX5 5) (List.mem_append_right _ (List.mem_of_getElem? (i := 63) (by decide +kernel))))
  obtain ⟨c6, iS6, hK6⟩ := u_known (C := RX6) (T := TX6) (N := 7) (n := 7) hts (fun w h => (List.mem_filter.mp (wu_6 w h)).1) (hts (.instantiable RX6 7) (List.mem_append_right _ (List.mem_of_getElem? (i := 507) (by decide +kernel))))
  obtain ⟨c7, iS7, hK7⟩ := u_known (C := RX7) (T := TX7) (N := 3) (n := 3) hts (fun w h => (List.mem_filter.mp (wu_7 w h)).1) (hts (.instantiable RX7 3) (List.mem_append_right _ (List.mem_of_getElem? (i := 44) (by decide +kernel))))
  obtain ⟨c8, iS8, hK8⟩ := u_known (C := RX8) (T := TX8) (N := 10) (n := 10) hts (fun w h => (List.mem_filter.mp (wu_8 w h)).1) (hts (.instantiable RX8 10) (List.mem_append_right _ (List.mem_of_getElem? (i := 556) (by decide +kernel))))
  obtain ⟨c9, iS9, hK9⟩ := u_known (C := RX9) (T := TX9) (N := 16) (n := 16) hts (fun w h => (List.mem_filter.mp (wu_9 w h)).1) (hts (.instantiable RX9 16) (List.mem_append_right _ (List.mem_of_getElem? (i := 22) (by decide +kernel))))
  obtain ⟨c10, iS10, hK10⟩ := u_known (C := RX10) (T := TX10) (N := 54) (n := 54) hts (fun w h => (List.mem_filter.mp (wu_10 w h)).1) (hts (.instantiable RX10 54) (List.mem_append_right _ (List.mem_of_getElem? (i := 1088) (by decide +kernel))))
  have hKc : ∀ (k : Nat) (q : vw_C), vwCl[k]? = some q → u_Kn s q.1 q.2.1 q.2.2 ((fun k => ([c0, c1, c2, c3, c4, c5, c6, c7, c8, c9, c10] : List ClassId).getD k 0) k) ((fun k => ([iS0, iS1, iS2, iS3, iS4, iS5, iS6, iS7, iS8, iS9, iS10] : List (Nat → Nat)).getD k (fun _ => 0)) k) := by
    intro k q hq
    match k, hq with
    | 0, hq => cases hq; exact hK0
    | 1, hq => cases hq; exact hK1
    | 2, hq => cases hq; exact hK2
    | 3, hq => cases hq; exact hK3
    | 4, hq => cases hq; exact hK4
    | 5, hq => cases hq; exact hK5
    | 6, hq => cases hq; exact hK6
    | 7, hq => cases hq; exact hK7
    | 8, hq => cases hq; exact hK8
    | 9, hq => cases hq; exact hK9
    | 10, hq => cases hq; exact hK10
    | k + 11, hq => simp [vwCl] at hq
  obtain ⟨t0, tk0, tc0, ta0, tb0, td0⟩ := Cond.arrayClass_spec (hts (.arrayClass .byte) (List.mem_append_right _ (List.mem_of_getElem? (i := 42) (by decide +kernel))))
  have ts0 : ArrOfT s t0 .byte ∧ va_RA s t0 .byte := ⟨fun n z => ⟨fun k h => (by cases h), tk0, tb0, tc0, td0⟩, ta0⟩
  obtain ⟨t1, tk1, tc1, ta1, tb1, td1⟩ := Cond.arrayClass_spec (hts (.arrayClass .int) (List.mem_append_right _ (List.mem_of_getElem? (i := 61) (by decide +kernel))))
  have ts1 : ArrOfT s t1 .int ∧ va_RA s t1 .int := ⟨fun n z => ⟨fun k h => (by cases h), tk1, tb1, tc1, td1⟩, ta1⟩
  obtain ⟨t2, tk2, tc2, ta2, tb2, td2⟩ := Cond.arrayClass_spec (hts (.arrayClass .long) (List.mem_append_right _ (List.mem_of_getElem? (i := 1256) (by decide +kernel))))
  have ts2 : ArrOfT s t2 .long ∧ va_RA s t2 .long := ⟨fun n z => ⟨fun k h => (by cases h), tk2, tb2, tc2, td2⟩, ta2⟩
  obtain ⟨t3, tk3, tc3, ta3, tb3, td3⟩ := Cond.arrayClass_spec (hts (.arrayClass .boolean) (List.mem_append_right _ (List.mem_of_getElem? (i := 1257) (by decide +kernel))))
  have ts3 : ArrOfT s t3 .boolean ∧ va_RA s t3 .boolean := ⟨fun n z => ⟨fun k h => (by cases h), tk3, tb3, tc3, td3⟩, ta3⟩
  obtain ⟨tc4, t4, tk4, t04, ti4, t24, t34, t44⟩ := Cond.arrayOver_spec (hts (.arrayOver (.object "SealedGateway$Net")) (List.mem_append_right _ (List.mem_of_getElem? (i := 50) (by decide +kernel))))
  have ts4 : ArrOfT s t4 (.object "SealedGateway$Net") ∧ va_RA s t4 (.object "SealedGateway$Net") := ⟨fun n z => ⟨fun k h => (by cases h), tk4, t24, tc4, t34⟩, tk4, tc4, t24, t34, t04, t44⟩
  obtain ⟨tc5, t5, tk5, t05, ti5, t25, t35, t45⟩ := Cond.arrayOver_spec (hts (.arrayOver (.object "SealedGateway$Policy")) (List.mem_append_right _ (List.mem_of_getElem? (i := 69) (by decide +kernel))))
  have ts5 : ArrOfT s t5 (.object "SealedGateway$Policy") ∧ va_RA s t5 (.object "SealedGateway$Policy") := ⟨fun n z => ⟨fun k h => (by cases h), tk5, t25, tc5, t35⟩, tk5, tc5, t25, t35, t05, t45⟩
  obtain ⟨tc6, t6, tk6, t06, ti6, t26, t36, t46⟩ := Cond.arrayOver_spec (hts (.arrayOver (.object "SealedGateway$Seal")) (List.mem_append_right _ (List.mem_of_getElem? (i := 88) (by decide +kernel))))
  have ts6 : ArrOfT s t6 (.object "SealedGateway$Seal") ∧ va_RA s t6 (.object "SealedGateway$Seal") := ⟨fun n z => ⟨fun k h => (by cases h), tk6, t26, tc6, t36⟩, tk6, tc6, t26, t36, t06, t46⟩
  obtain ⟨tc7, t7, tk7, t07, ti7, t27, t37, t47⟩ := Cond.arrayOver_spec (hts (.arrayOver (.object "SealedGateway$Heap")) (List.mem_append_right _ (List.mem_of_getElem? (i := 96) (by decide +kernel))))
  have ts7 : ArrOfT s t7 (.object "SealedGateway$Heap") ∧ va_RA s t7 (.object "SealedGateway$Heap") := ⟨fun n z => ⟨fun k h => (by cases h), tk7, t27, tc7, t37⟩, tk7, tc7, t27, t37, t07, t47⟩
  have hKt : ∀ (k : Nat) (q : ClassId × FieldType), ([(t0, .byte), (t1, .int), (t2, .long), (t3, .boolean), (t4, .object "SealedGateway$Net"), (t5, .object "SealedGateway$Policy"), (t6, .object "SealedGateway$Seal"), (t7, .object "SealedGateway$Heap")] : List (ClassId × FieldType))[k]? = some q → ArrOfT s q.1 q.2 ∧ va_RA s q.1 q.2 := by
    intro k q hq
    match k, hq with
    | 0, hq => cases hq; exact ts0
    | 1, hq => cases hq; exact ts1
    | 2, hq => cases hq; exact ts2
    | 3, hq => cases hq; exact ts3
    | 4, hq => cases hq; exact ts4
    | 5, hq => cases hq; exact ts5
    | 6, hq => cases hq; exact ts6
    | 7, hq => cases hq; exact ts7
    | k + 8, hq => simp at hq
  obtain ⟨ad0, _, _, _, ev0, _⟩ := Cond.exactly_spec (hs (.exactly (.string "SealedGateway" 82) "java/lang/String") (by decide +kernel))
  obtain ⟨ad1, _, _, _, ev1, _⟩ := Cond.exactly_spec (hs (.exactly (.string "SealedGateway" 97) "java/lang/String") (by decide +kernel))
  obtain ⟨ad2, _, _, _, ev2, _⟩ := Cond.exactly_spec (hs (.exactly (.string "SealedGateway" 116) "java/lang/String") (by decide +kernel))
  obtain ⟨ad3, _, _, _, ev3, _⟩ := Cond.exactly_spec (hs (.exactly (.string "SealedGateway" 108) "java/lang/String") (by decide +kernel))
  obtain ⟨ad4, _, _, _, ev4, _⟩ := Cond.exactly_spec (hs (.exactly (.string "SealedGateway" 122) "java/lang/String") (by decide +kernel))
  obtain ⟨ad5, _, _, _, ev5, _⟩ := Cond.exactly_spec (hs (.exactly (.string "SealedGateway" 131) "java/lang/String") (by decide +kernel))
  obtain ⟨ad6, _, _, _, ev6, _⟩ := Cond.exactly_spec (hs (.exactly (.string "SealedGateway" 139) "java/lang/String") (by decide +kernel))
  obtain ⟨ad7, _, _, _, ev7, _⟩ := Cond.exactly_spec (hs (.exactly (.string "SealedGateway" 145) "java/lang/String") (by decide +kernel))
  obtain ⟨ad8, _, _, _, ev8, _⟩ := Cond.exactly_spec (hs (.exactly (.string "SealedGateway" 158) "java/lang/String") (by decide +kernel))
  obtain ⟨ad9, _, _, _, ev9, _⟩ := Cond.exactly_spec (hs (.exactly (.string "SealedGateway" 161) "java/lang/String") (by decide +kernel))
  obtain ⟨ad10, _, _, _, ev10, _⟩ := Cond.exactly_spec (hs (.exactly (.string "SealedGateway" 167) "java/lang/String") (by decide +kernel))
  obtain ⟨ad11, _, _, _, ev11, _⟩ := Cond.exactly_spec (hs (.exactly (.string "SealedGateway" 170) "java/lang/String") (by decide +kernel))
  obtain ⟨ad12, _, _, _, ev12, _⟩ := Cond.exactly_spec (hs (.exactly (.string "SealedGateway" 176) "java/lang/String") (by decide +kernel))
  obtain ⟨ad13, _, _, _, ev13, _⟩ := Cond.exactly_spec (hs (.exactly (.string "SealedGateway" 185) "java/lang/String") (by decide +kernel))
  obtain ⟨ad14, _, _, _, ev14, _⟩ := Cond.exactly_spec (hs (.exactly (.string "SealedGateway" 422) "java/lang/String") (by decide +kernel))
  obtain ⟨ad15, _, _, _, ev15, _⟩ := Cond.exactly_spec (hs (.exactly (.string "SealedGateway" 203) "java/lang/String") (by decide +kernel))
  obtain ⟨ad16, _, _, _, ev16, _⟩ := Cond.exactly_spec (hs (.exactly (.string "SealedGateway" 212) "java/lang/String") (by decide +kernel))
  obtain ⟨ad17, _, _, _, ev17, _⟩ := Cond.exactly_spec (hs (.exactly (.string "SealedGateway" 224) "java/lang/String") (by decide +kernel))
  obtain ⟨ad18, _, _, _, ev18, _⟩ := Cond.exactly_spec (hs (.exactly (.string "SealedGateway" 243) "java/lang/String") (by decide +kernel))
  obtain ⟨ad19, _, _, _, ev19, _⟩ := Cond.exactly_spec (hs (.exactly (.string "SealedGateway" 260) "java/lang/String") (by decide +kernel))
  obtain ⟨ad20, _, _, _, ev20, _⟩ := Cond.exactly_spec (hs (.exactly (.string "SealedGateway" 269) "java/lang/String") (by decide +kernel))
  obtain ⟨ad21, _, _, _, ev21, _⟩ := Cond.exactly_spec (hs (.exactly (.string "SealedGateway" 279) "java/lang/String") (by decide +kernel))
  have hstr : ∀ (i : Nat) (q : String × Nat × String), rn_S[i]? = some q → vk_R q.1 q.2.1 q.2.2 ((fun i => ([ad0, ad1, ad2, ad3, ad4, ad5, ad6, ad7, ad8, ad9, ad10, ad11, ad12, ad13, ad14, ad15, ad16, ad17, ad18, ad19, ad20, ad21] : List Nat).getD i 0) i) s := by
    intro i q hq
    match i, hq with
    | 0, hq => cases hq; exact vk_R.of (hts (.stringRef "SealedGateway" 82 "the tape is full") (List.mem_append_right _ (List.mem_of_getElem? (i := 293) (by decide +kernel)))) ev0
    | 1, hq => cases hq; exact vk_R.of (hts (.stringRef "SealedGateway" 97 "the tape has not so many bytes") (List.mem_append_right _ (List.mem_of_getElem? (i := 348) (by decide +kernel)))) ev1
    | 2, hq => cases hq; exact vk_R.of (hts (.stringRef "SealedGateway" 116 "no such byte") (List.mem_append_right _ (List.mem_of_getElem? (i := 376) (by decide +kernel)))) ev2
    | 3, hq => cases hq; exact vk_R.of (hts (.stringRef "SealedGateway" 108 "no byte") (List.mem_append_right _ (List.mem_of_getElem? (i := 390) (by decide +kernel)))) ev3
    | 4, hq => cases hq; exact vk_R.of (hts (.stringRef "SealedGateway" 122 "no such packet") (List.mem_append_right _ (List.mem_of_getElem? (i := 406) (by decide +kernel)))) ev4
    | 5, hq => cases hq; exact vk_R.of (hts (.stringRef "SealedGateway" 131 "the tape has no head") (List.mem_append_right _ (List.mem_of_getElem? (i := 432) (by decide +kernel)))) ev5
    | 6, hq => cases hq; exact vk_R.of (hts (.stringRef "SealedGateway" 139 "no such route") (List.mem_append_right _ (List.mem_of_getElem? (i := 446) (by decide +kernel)))) ev6
    | 7, hq => cases hq; exact vk_R.of (hts (.stringRef "SealedGateway" 145 "there are 16 routes") (List.mem_append_right _ (List.mem_of_getElem? (i := 451) (by decide +kernel)))) ev7
    | 8, hq => cases hq; exact vk_R.of (hts (.stringRef "SealedGateway" 158 "no such tunnel") (List.mem_append_right _ (List.mem_of_getElem? (i := 479) (by decide +kernel)))) ev8
    | 9, hq => cases hq; exact vk_R.of (hts (.stringRef "SealedGateway" 161 "no such kind or doors") (List.mem_append_right _ (List.mem_of_getElem? (i := 488) (by decide +kernel)))) ev9
    | 10, hq => cases hq; exact vk_R.of (hts (.stringRef "SealedGateway" 167 "no such policy") (List.mem_append_right _ (List.mem_of_getElem? (i := 497) (by decide +kernel)))) ev10
    | 11, hq => cases hq; exact vk_R.of (hts (.stringRef "SealedGateway" 170 "there are 24 policies") (List.mem_append_right _ (List.mem_of_getElem? (i := 502) (by decide +kernel)))) ev11
    | 12, hq => cases hq; exact vk_R.of (hts (.stringRef "SealedGateway" 176 "no such way, name or life") (List.mem_append_right _ (List.mem_of_getElem? (i := 542) (by decide +kernel)))) ev12
    | 13, hq => cases hq; exact vk_R.of (hts (.stringRef "SealedGateway" 185 "there are 16 seals, or one of the way in has that name") (List.mem_append_right _ (List.mem_of_getElem? (i := 555) (by decide +kernel)))) ev13
    | 14, hq => cases hq; exact vk_R.of (hts (.stringRef "SealedGateway" 422 "no such seal") (List.mem_append_right _ (List.mem_of_getElem? (i := 603) (by decide +kernel)))) ev14
    | 15, hq => cases hq; exact vk_R.of (hts (.stringRef "SealedGateway" 203 "no such number") (List.mem_append_right _ (List.mem_of_getElem? (i := 625) (by decide +kernel)))) ev15
    | 16, hq => cases hq; exact vk_R.of (hts (.stringRef "SealedGateway" 212 "no such port") (List.mem_append_right _ (List.mem_of_getElem? (i := 641) (by decide +kernel)))) ev16
    | 17, hq => cases hq; exact vk_R.of (hts (.stringRef "SealedGateway" 224 "no such way") (List.mem_append_right _ (List.mem_of_getElem? (i := 1004) (by decide +kernel)))) ev17
    | 18, hq => cases hq; exact vk_R.of (hts (.stringRef "SealedGateway" 243 "no such packet was sent") (List.mem_append_right _ (List.mem_of_getElem? (i := 1024) (by decide +kernel)))) ev18
    | 19, hq => cases hq; exact vk_R.of (hts (.stringRef "SealedGateway" 260 "nothing such is told of a seal") (List.mem_append_right _ (List.mem_of_getElem? (i := 1040) (by decide +kernel)))) ev19
    | 20, hq => cases hq; exact vk_R.of (hts (.stringRef "SealedGateway" 269 "nothing such is in the log") (List.mem_append_right _ (List.mem_of_getElem? (i := 1070) (by decide +kernel)))) ev20
    | 21, hq => cases hq; exact vk_R.of (hts (.stringRef "SealedGateway" 279 "no such reason") (List.mem_append_right _ (List.mem_of_getElem? (i := 1086) (by decide +kernel)))) ev21
    | i + 22, hq => simp [rn_S] at hq
  obtain ⟨G, hG⟩ : ∃ G : rn_G, G = (l, ((fun k => ([c0, c1, c2, c3, c4, c5, c6, c7, c8, c9, c10] : List ClassId).getD k 0), (fun k => ([iS0, iS1, iS2, iS3, iS4, iS5, iS6, iS7, iS8, iS9, iS10] : List (Nat → Nat)).getD k (fun _ => 0))), ([(t0, .byte), (t1, .int), (t2, .long), (t3, .boolean), (t4, .object "SealedGateway$Net"), (t5, .object "SealedGateway$Policy"), (t6, .object "SealedGateway$Seal"), (t7, .object "SealedGateway$Heap")] : List (ClassId × FieldType)), s.heap.size, (b, L, xs), (fun i => ([ad0, ad1, ad2, ad3, ad4, ad5, ad6, ad7, ad8, ad9, ad10, ad11, ad12, ad13, ad14, ad15, ad16, ad17, ad18, ad19, ad20, ad21] : List Nat).getD i 0)) := ⟨_, rfl⟩
  have hNC : ∀ q ∈ rn_NC, va_Nc q.1 q.2 s := by
    intro q hq
    simp only [rn_NC, List.mem_cons, List.not_mem_nil, or_false] at hq
    rcases hq with rfl | rfl | rfl | rfl | rfl | rfl <;> exact va_Nc.of (hs _ (by decide +kernel))
  have hB : rn_B G s s.heap := by
    subst hG
    exact ⟨(vx_Zqof (hts (.laysStatic Bundle.tN "UNASSIGNED_STACK" Bundle.steD) (List.mem_append_right _ (List.mem_of_getElem? (i := 279) (by decide +kernel)))) (hts (.initialized Bundle.tN) (List.mem_append_right _ (List.mem_of_getElem? (i := 8) (by decide +kernel)))) (hs (.isRef (.static Bundle.tN "UNASSIGNED_STACK" Bundle.steD)) (by decide +kernel)) (fun a h => Nat.not_le.mpr h)), (vx_Zqof (hts (.laysStatic Bundle.tN "SUPPRESSED_SENTINEL" Bundle.listD) (List.mem_append_right _ (List.mem_of_getElem? (i := 281) (by decide +kernel)))) (hts (.initialized Bundle.tN) (List.mem_append_right _ (List.mem_of_getElem? (i := 8) (by decide +kernel)))) (hs (.isRef (.static Bundle.tN "SUPPRESSED_SENTINEL" Bundle.listD)) (by decide +kernel)) (fun a h => Nat.not_le.mpr h)), hstr, hX, hbl, Nat.le_refl _, hst, rfl, hNC, fun w hw => rn_U_of hw (hts w (List.mem_filter.mp hw).1)⟩
  have hK : va_K G.2.1 vwCl G.2.2.1 s := by
    subst hG
    exact ⟨hKc, hKt⟩
  have hC : rn_C G mL_law p s m #[Value.ref b] meth c := ⟨hx, hb, hr, hml, hown, fun w hw => hts w (List.mem_filter.mp hw).1, hlocks, hex, hnm, hK, hB⟩
  have hLe : G.2.2.2.2.1.2.1 ≤ 5121 := by subst hG; exact hL
  have hsc : G.2.2.2.2.1.1 = b := by subst hG; rfl
  have hl1 : G.1 = l := by subst hG; rfl
  have hA1 : ∀ q, rn_A G q ↔ s.heap.size ≤ q := by subst hG; exact fun q => Iff.rfl
  have K := law_start G hLe
  have hl := lv_entry ([.ref b]) (n := 8) (Nat.le_of_ble_eq_true rfl)
  rw [lg_entry_eq]
  generalize (lg_sl ([.ref b]) ++ List.replicate (8 - (lg_sl ([.ref b])).length) Slot.unset).toArray = ls at hl ⊢
  have hl2 : lv_has ls 8 [(0, .ref G.2.2.2.2.1.1)] := by rw [hsc]; exact hl
  have W1 := K p e room_1 s m #[Value.ref b] below meth c s.heap [] ls 0 0 hC hl2 (fun k q h => by simp at h) ⟨fun i j p q h => by simp at h, fun k q h => by simp at h⟩ va_S.rf (by decide) (by decide) (by decide) (by decide)
  rw [hl1] at W1
  intro T hT X
  obtain ⟨t, a1, o, b1, b2, b3⟩ := W1 T hT X
  rcases b3 with ⟨⟨v, w, h1, h2, h3, h4, h5⟩, Lc, hF, hA⟩ | ⟨q, h1, E, ce, Lc, ⟨w, hq, h9⟩, h8⟩
  · cases h2
    obtain ⟨g1, g2, g3⟩ := hF
    exact ⟨t, a1, o, b1, b2, h1, g1, g2, g3.weaken (fun y hy hlt => absurd hlt (Nat.not_lt.mpr ((hA1 _).mp (hA y hy)))) (Nat.le_refl _) (Nat.le_refl _)⟩
  · cases hq
set_option maxHeartbeats 4000000 in
theorem lw_walk (l : Launch) (hst : l.stackTraces = false) (b : Addr) (xs : List Int32) : MetFree l x (headSpec (Jvm.Cond.code x code maxLocals ret :: tables_1) room_1) (lw_P b xs) (fun _ _ _ _ _ => True) lw_Q := by
  refine MetFree.of_bodyS (code := code) (maxLocals := maxLocals) (ret := ret) (by decide) ?_ ?_
  · intro args s m h hn
    obtain ⟨meth, c, h1, h2, h3, h4, h5, h6, -, -⟩ := Cond.code_spec hn (atoms_spec (ws := Jvm.Cond.code x code maxLocals ret :: tables_1) h _ List.mem_cons_self)
    exact ⟨meth, c, h1, h2, h3, h4, h5, h6⟩
  · intro p e s m args below meth c s₁ B hml0 hP _
    obtain ⟨rfl, hx, hbd, hgv⟩ := hP
    obtain ⟨scr, harrAt, hlist, hof, hsmall⟩ := hx
    obtain ⟨hcb, hkn, -, -⟩ := State.arrayAt?_spec harrAt
    have hown : s.vm.findClass R_law = some m.cls := findClass_of_methodNamed B.named
    have hts0 : ∀ c ∈ (Jvm.Cond.code x code maxLocals ret :: tables_1), c.before #[Value.ref b] s = true := atoms_spec (ws := Jvm.Cond.code x code maxLocals ret :: tables_1) B.pre
    have hts : ∀ w ∈ lw_tbl, w.before #[Value.ref b] s = true := k2_hts_sels lw_privs (fun w hw => hts0 w (List.mem_cons_of_mem _ hw)) lw_privs_ok
    have hml : c.maxLocals = 8 := B.maxLocals_eq (hts0 _ List.mem_cons_self)
    have X₀ : Stand p l e room_1 s m #[Value.ref b] below meth c s₁ [] 0 0 := Stand.of_body B
    have hh0 : s₁.heap = s.heap := by rw [B.state]; rfl
    have hsz : scr.slots.size = xs.length := by rw [← Array.length_toList, hlist, List.length_map]
    have hval : ∀ j : Nat, j < xs.length → scr.slots[j]? = some (.int (xs.getD j 0)) := fun j hj => by
      rw [← Array.getElem?_toList, hlist]
      simp [hj]
    have hbl : b < s.heap.size := (Array.getElem?_eq_some_iff.mp hcb).1
    have hX : va_X b xs.length (fun j => xs.getD j 0) s s.heap := ⟨scr, hcb, hof, hkn, hsz, hval⟩
    have hex : c.exceptionTable.toList = [] := by
      obtain ⟨meth9, c9, h1, h2, -, -, -, -, h7, -⟩ := Cond.code_spec B.named (hts0 _ List.mem_cons_self)
      cases Option.some.inj (h1.symm.trans B.method)
      cases Option.some.inj (h2.symm.trans (Stand.of_body B).code)
      rw [Array.isEmpty_iff.mp h7]
    have K : W p l e room_1 s m #[Value.ref b] below meth c s₁.heap [] 0 0 (lw_Z below #[Value.ref b] s) (entryFrame m ([Value.ref b] : List Value).toArray 8) := by
      rw [hh0]
      exact whole_start l hst hbd hex (name_of_methodNamed B.named B.method).1 ⟨B.exec, B.bytes, B.returns, hml, hown, hts, hX, hbl, B.notSynchronized, hgv⟩
    obtain ⟨t, a1, o, b1, b2, b3⟩ := K s₁ rfl X₀
    exact ⟨t, o, a1, b1, b2, b3⟩
theorem lw_pre_spec {args : Array Value} {s : State} (h : (Jvm.Cond.and given_1 narrow_1).before args s = true) (hr : rest_1_c.before args s = true) : ∃ (b : Addr) (xs : List Int32), lw_P b xs args s := by
  have hs := flat_of_before _ h
  have hq := flat_of_before _ hr
  have hc : (Cond.count 1).before args s = true := hs _ (by decide +kernel)
  have harr : (Cond.arrayOf (.arg 0) .int).before args s = true := hs _ (by decide +kernel)
  have hle : (Cond.le (.length (.arg 0)) (.int 5121)).before args s = true := hs _ (by decide +kernel)
  have hlen : (Cond.isInt (.length (.arg 0))).before args s = true := hq _ (by decide +kernel)
  have hall : (Cond.all (.arg 0) (.isInt (.elem (.arg 0) (.index 0)))).before args s = true := hq _ (by decide +kernel)
  obtain ⟨b, xs, hb, hx⟩ := State.ints_of_pre rfl harr hlen hall
  have hsm : xs.length < 2 ^ 31 := hx.choose_spec.2.2.2
  have hev : (Term.length (.arg 0)).eval args s none [] s = some (.int xs.length.toInt32) := hx.length_eval hb
  have hv := Cond.le_ints hev (show (Term.int 5121).eval args s none [] s = some (.int 5121) from rfl)
  have hd : xs.length.toInt32 ≤ 5121 := by
    simpa [Cond.before, Cond.holds, hv] using hle
  have hN : xs.length ≤ 5121 := (Int32.ofNat_le_ofNat hsm (by decide)).mp (show Int32.ofNat xs.length ≤ Int32.ofNat 5121 from hd)
  exact ⟨b, xs, Cond.one_arg hc (show args[0]? = some (.ref b) from hb), hx, hN, h⟩
theorem lw_comes (l : Launch) (hst : l.stackTraces = false) : Comes l x (Jvm.Cond.code x code maxLocals ret :: tables_1) room_1 (fun tb e args s => Calls_1 tb e args s ∧ rest_1 tb e args s ∧ Pre_1 tb e args s)
    (fun _ _ args s o t => lw_Q args s o t) := by
  intro p e ha hc hk s m args below hf hfit hheap happ hpre
  obtain ⟨b, xs, hP⟩ := lw_pre_spec hpre.2.2 hpre.2.1
  obtain ⟨k, o, h1, h2, h3, hQ⟩ := lw_walk l hst b xs p e ha hc hk s m args below hf ((Spec.applies_iff_loose hf).mp happ).1 hP trivial
  exact ⟨k, o, h1, h2, h3, hQ⟩
theorem lw_frame {s t : State} {o : Outcome} {args : Array Value} (h : Framed s o t [] 601024 7293000) :
    Framed s o t (fieldLocs frame_1_writes args s ++ arrayLocs frame_1_arrays args s ++ staticLocs frame_1_statics s) 601024 7293000 := h
theorem lw_limb (L : Cond) (hL : ∀ (args : Array Value) (s t : State), L.after args s (.returned (some (.int 1))) t = true) :
    ArmFor flags0 classFile x code maxLocals ret World_1 tables_1 room_1 Calls_1 rest_1 Pre_1
      (fun tb e a s o t => postC L tb e a s o t ∧ Framed s o t (fieldLocs frame_1_writes a s ++ arrayLocs frame_1_arrays a s ++ staticLocs frame_1_statics s) 601024 7293000) := by
  intro l hfl _ _ p e ha hc hk s m args below hf hfit hheap happ hpre
  obtain ⟨k, o, h1, h2, h3, rfl, hF⟩ := lw_comes l (by unfold Launch.stackTraces; rw [hfl]; decide +kernel) p e ha hc hk s m args below hf hfit hheap happ hpre
  exact ⟨k, _, h1, h2, h3, hL args s _, lw_frame hF⟩
theorem i_vc : Claimed_1_1 ∧ Claimed_1_2 := ⟨lw_limb limb_1_1 (fun args s t => by simp [limb_1_1, Cond.after, Cond.holds, Cond.value]), lw_limb limb_1_2 (fun args s t => Cond.after_iff.mpr (by
  first | (rw [show limb_1_2 = Cond.eq .result (.int 1) from rfl, Cond.eq_ints (x := 1) (y := 1) rfl rfl]; simp; done) | (simp [limb_1_2, Cond.value, Term.eval]; done)))⟩
