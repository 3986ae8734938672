section
/-- the words of the tables that a caller can hand on -/
def rn_T : List Cond := lw_tbl.filter goodWord
theorem rn_T_good : rn_T.all goodWord = true := List.all_eq_true.mpr (fun w h => (List.mem_filter.mp h).2)
/-- words of the tables that stay by rows of their own -/
def rn_kd : Cond → Bool
  | .castable .. => true
  | .declares _ => true
  | .methodLinkNest .. => true
  | .arrayOver (.object _) => true
  | _ => false
def rn_U : List Cond := lw_tbl.filter rn_kd
theorem rn_u {w : Cond} {i : Nat} (h : tables_1[i]? = some w) (hg : rn_kd w = true) : w ∈ rn_U := List.mem_filter.mpr ⟨List.mem_append_right _ (List.mem_of_getElem? h), hg⟩
theorem rn_U_warm {w : Cond} (hw : w ∈ rn_U) {s U : State} (hW : s.WarmedH U.vm) (h : va_Nw w s) : va_Nw w U := by
  have hk := (List.mem_filter.mp hw).2
  cases w with
  | castable C T => exact va_Nw.warmC hW h
  | declares x => exact va_Nw.warmD hW h
  | methodLinkNest a i x h9 => exact va_Nw.warmM hW h
  | arrayOver ty =>
    cases ty with
    | object C => exact va_AO.moved hW.alike h
    | _ => cases hk
  | _ => cases hk
theorem rn_U_same {w : Cond} (hw : w ∈ rn_U) {u U : State} (hv : U.vm = u.vm) (h : va_Nw w u) : va_Nw w U := by
  have hk := (List.mem_filter.mp hw).2
  cases w with
  | castable C T => exact va_Nw.same rfl hv.symm h
  | declares x => exact va_Nw.same rfl hv.symm h
  | methodLinkNest a i x h9 => exact va_Nw.same rfl hv.symm h
  | arrayOver ty =>
    cases ty with
    | object C => exact va_AO.moved (by rw [hv]; exact Vm.Alike.refl _) h
    | _ => cases hk
  | _ => cases hk
theorem rn_U_use {w : Cond} (hw : w ∈ rn_U) {A : Array Value} {U : State} (h : va_Nw w U) : w.before A U = true := by
  have hk := (List.mem_filter.mp hw).2
  cases w with
  | castable C T => exact va_Nw.use rfl h
  | declares x => exact va_Nw.use rfl h
  | methodLinkNest a i x h9 => exact va_Nw.use rfl h
  | arrayOver ty =>
    cases ty with
    | object C => exact va_AO.use h
    | _ => cases hk
  | _ => cases hk
theorem rn_w {w : Cond} {i : Nat} (h : tables_1[i]? = some w) (hg : goodWord w = true) : w ∈ rn_T := List.mem_filter.mpr ⟨List.mem_append_right _ (List.mem_of_getElem? h), hg⟩
theorem rn_ws {w : Cond} {i : Nat} (h : (k2_sels lw_privs)[i]? = some w) (hg : goodWord w = true) : w ∈ rn_T := List.mem_filter.mpr ⟨List.mem_append_left _ (List.mem_of_getElem? h), hg⟩
def rn_S : List (String × Nat × String) := [("SealedGateway", 82, "the tape is full"), ("SealedGateway", 97, "the tape has not so many bytes"), ("SealedGateway", 116, "no such byte"), ("SealedGateway", 108, "no byte"), ("SealedGateway", 122, "no such packet"), ("SealedGateway", 131, "the tape has no head"), ("SealedGateway", 139, "no such route"), ("SealedGateway", 145, "there are 16 routes"), ("SealedGateway", 158, "no such tunnel"), ("SealedGateway", 161, "no such kind or doors"), ("SealedGateway", 167, "no such policy"), ("SealedGateway", 170, "there are 24 policies"), ("SealedGateway", 176, "no such way, name or life"), ("SealedGateway", 185, "there are 16 seals, or one of the way in has that name"), ("SealedGateway", 422, "no such seal"), ("SealedGateway", 203, "no such number"), ("SealedGateway", 212, "no such port"), ("SealedGateway", 224, "no such way"), ("SealedGateway", 243, "no such packet was sent"), ("SealedGateway", 260, "nothing such is told of a seal"), ("SealedGateway", 269, "nothing such is in the log"), ("SealedGateway", 279, "no such reason")]
def rn_tys : List FieldType := [.byte, .int, .long, .boolean, .object "SealedGateway$Net", .object "SealedGateway$Policy", .object "SealedGateway$Seal", .object "SealedGateway$Heap"]
def rn_NC : List (String × String) := [("java/lang/IndexOutOfBoundsException", "java/lang/IllegalArgumentException"), ("java/lang/IndexOutOfBoundsException", "java/lang/IllegalStateException"), ("java/lang/IllegalArgumentException", "java/lang/IndexOutOfBoundsException"), ("java/lang/IllegalArgumentException", "java/lang/IllegalStateException"), ("java/lang/IllegalStateException", "java/lang/IndexOutOfBoundsException"), ("java/lang/IllegalStateException", "java/lang/IllegalArgumentException")]
end
