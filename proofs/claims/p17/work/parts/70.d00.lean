abbrev fz_sg (own1 own2 : Int32) (A : Nat → Nat) : List Value := [.int own1, .ref (A 1), .ref (A 3), .ref (A 5), .ref (A 7), .ref (A 9), .int (-1 : Int32), .ref (A 11), .ref (A 14), .ref (A 16), .ref (A 17), .int (0 : Int32), .int (0 : Int32), .ref (A 18), .ref (A 20), .ref (A 22)]
abbrev fz_tape (own1 own2 : Int32) (A : Nat → Nat) : List Value := [.ref (A 2), .int (0 : Int32)]
abbrev fz_coming (own1 own2 : Int32) (A : Nat → Nat) : List Value := [.ref (A 4), .int (0 : Int32)]
abbrev fz_remade (own1 own2 : Int32) (A : Nat → Nat) : List Value := [.ref (A 6), .int (0 : Int32)]
abbrev fz_sentF (own1 own2 : Int32) (A : Nat → Nat) : List Value := [.ref (A 8), .int (0 : Int32)]
abbrev fz_sentS (own1 own2 : Int32) (A : Nat → Nat) : List Value := [.ref (A 10), .int (0 : Int32)]
abbrev fz_routes (own1 own2 : Int32) (A : Nat → Nat) : List Value := [.ref (A 12), .ref (A 13), .int (0 : Int32)]
abbrev fz_pols (own1 own2 : Int32) (A : Nat → Nat) : List Value := [.ref (A 15), .int (0 : Int32), .int (0 : Int32), .int (0 : Int32), .int (65535 : Int32)]
abbrev fz_heaps (own1 own2 : Int32) (A : Nat → Nat) : List Value := [.ref (A 19), .int (0 : Int32)]
abbrev fz_logs (own1 own2 : Int32) (A : Nat → Nat) : List Value := [.ref (A 21), .int (0 : Int32)]
abbrev fz_m (own1 own2 : Int32) (A : Nat → Nat) : List Value := [.int (0 : Int32), .int own2, .ref (A 24), .int (0 : Int32), .int (0 : Int32), .ref (A 25), .ref (A 26), .ref (A 27), .ref (A 28), .int (0 : Int32), .ref (A 29), .ref (A 30), .ref (A 31), .ref (A 32), .ref (A 33), .ref (A 34), .ref (A 35), .ref (A 36), .ref (A 37), .int (0 : Int32), .int (0 : Int32), .int (65535 : Int32), .int (0 : Int32), .ref (A 38), .ref (A 39), .ref (A 40), .ref (A 41), .ref (A 42), .ref (A 43), .ref (A 44), .ref (A 45), .ref (A 46), .ref (A 47), .int (0 : Int32), .ref (A 48), .int (-1 : Int32), .ref (A 49), .ref (A 50), .ref (A 51), .ref (A 52), .ref (A 53), .ref (A 54), .ref (A 55), .int (0 : Int32), .ref (A 56), .int (0 : Int32), .ref (A 57), .ref (A 58), .ref (A 59), .ref (A 60), .ref (A 61), .int (0 : Int32), .int (0 : Int32), .int (0 : Int32)]
def w0 (G : rn_G) (own1 own2 : Int32) (A : Nat → Nat) : va_W := [(A 0, Sum.inr (9, fz_sg own1 own2 A)), (A 1, Sum.inr (4, fz_tape own1 own2 A)), (A 2, Sum.inl (rn_k G 0, 2040, Sum.inl (fun _ => 0))), (A 3, Sum.inr (4, fz_coming own1 own2 A)), (A 4, Sum.inl (rn_k G 0, 2040, Sum.inl (fun _ => 0))), (A 5, Sum.inr (4, fz_remade own1 own2 A)), (A 6, Sum.inl (rn_k G 0, 2040, Sum.inl (fun _ => 0))), (A 7, Sum.inr (4, fz_sentF own1 own2 A)), (A 8, Sum.inl (rn_k G 0, 2040, Sum.inl (fun _ => 0))), (A 9, Sum.inr (4, fz_sentS own1 own2 A)), (A 10, Sum.inl (rn_k G 0, 2040, Sum.inl (fun _ => 0))), (A 11, Sum.inr (7, fz_routes own1 own2 A)), (A 12, Sum.inl (rn_k G 4, 16, Sum.inr (Sum.inr (Sum.inr (Sum.inr (fun _ => none)))))), (A 13, Sum.inl (rn_k G 1, 16, Sum.inl (fun _ => 0))), (A 14, Sum.inr (5, fz_pols own1 own2 A)), (A 15, Sum.inl (rn_k G 5, 24, Sum.inr (Sum.inr (Sum.inr (Sum.inr (fun _ => none)))))), (A 16, Sum.inl (rn_k G 1, 4, Sum.inl (fun _ => 0))), (A 17, Sum.inl (rn_k G 6, 16, Sum.inr (Sum.inr (Sum.inr (Sum.inr (fun _ => none)))))), (A 18, Sum.inr (1, fz_heaps own1 own2 A)), (A 19, Sum.inl (rn_k G 7, 4, Sum.inr (Sum.inr (Sum.inr (Sum.inr (fun _ => none)))))), (A 20, Sum.inr (2, fz_logs own1 own2 A)), (A 21, Sum.inl (rn_k G 1, 80, Sum.inl (fun _ => 0))), (A 22, Sum.inl (rn_k G 1, 18, Sum.inl (fun _ => 0))), (A 23, Sum.inr (10, fz_m own1 own2 A)), (A 24, Sum.inl (rn_k G 1, 22000, Sum.inl (fun _ => 0))), (A 25, Sum.inl (rn_k G 1, 16, Sum.inl (fun _ => 0))), (A 26, Sum.inl (rn_k G 1, 16, Sum.inl (fun _ => 0))), (A 27, Sum.inl (rn_k G 1, 16, Sum.inl (fun _ => 0))), (A 28, Sum.inl (rn_k G 1, 4, Sum.inl (fun _ => 0))), (A 29, Sum.inl (rn_k G 1, 24, Sum.inl (fun _ => 0))), (A 30, Sum.inl (rn_k G 1, 24, Sum.inl (fun _ => 0))), (A 31, Sum.inl (rn_k G 1, 24, Sum.inl (fun _ => 0))), (A 32, Sum.inl (rn_k G 1, 24, Sum.inl (fun _ => 0))), (A 33, Sum.inl (rn_k G 1, 24, Sum.inl (fun _ => 0))), (A 34, Sum.inl (rn_k G 1, 24, Sum.inl (fun _ => 0))), (A 35, Sum.inl (rn_k G 1, 24, Sum.inl (fun _ => 0))), (A 36, Sum.inl (rn_k G 1, 24, Sum.inl (fun _ => 0))), (A 37, Sum.inl (rn_k G 1, 24, Sum.inl (fun _ => 0))), (A 38, Sum.inl (rn_k G 1, 16, Sum.inl (fun _ => 0))), (A 39, Sum.inl (rn_k G 1, 16, Sum.inl (fun _ => 0))), (A 40, Sum.inl (rn_k G 1, 16, Sum.inl (fun _ => 0))), (A 41, Sum.inl (rn_k G 2, 16, Sum.inr (Sum.inl (fun _ => 0)))), (A 42, Sum.inl (rn_k G 2, 16, Sum.inr (Sum.inl (fun _ => 0)))), (A 43, Sum.inl (rn_k G 3, 16, Sum.inl (fun _ => 0))), (A 44, Sum.inl (rn_k G 1, 16, Sum.inl (fun _ => 0))), (A 45, Sum.inl (rn_k G 3, 16, Sum.inl (fun _ => 0))), (A 46, Sum.inl (rn_k G 2, 16, Sum.inr (Sum.inl (fun _ => 0)))), (A 47, Sum.inl (rn_k G 2, 16, Sum.inr (Sum.inl (fun _ => 0)))), (A 48, Sum.inl (rn_k G 1, 2, Sum.inl (fun _ => 0))), (A 49, Sum.inl (rn_k G 3, 4, Sum.inl (fun _ => 0))), (A 50, Sum.inl (rn_k G 1, 4, Sum.inl (fun _ => 0))), (A 51, Sum.inl (rn_k G 1, 4, Sum.inl (fun _ => 0))), (A 52, Sum.inl (rn_k G 1, 4, Sum.inl (fun _ => 0))), (A 53, Sum.inl (rn_k G 1, 4, Sum.inl (fun _ => 0))), (A 54, Sum.inl (rn_k G 1, 4, Sum.inl (fun _ => 0))), (A 55, Sum.inl (rn_k G 3, 7920, Sum.inl (fun _ => 0))), (A 56, Sum.inl (rn_k G 1, 18, Sum.inl (fun _ => 0))), (A 57, Sum.inl (rn_k G 1, 16, Sum.inl (fun _ => 0))), (A 58, Sum.inl (rn_k G 1, 16, Sum.inl (fun _ => 0))), (A 59, Sum.inl (rn_k G 1, 16, Sum.inl (fun _ => 0))), (A 60, Sum.inl (rn_k G 1, 16, Sum.inl (fun _ => 0))), (A 61, Sum.inl (rn_k G 1, 16, Sum.inl (fun _ => 0))), (A 62, Sum.inl (rn_k G 2, 1, Sum.inr (Sum.inl (fun _ => 0))))]
def S0k : List Nat := [9, 4, 11, 4, 11, 4, 11, 4, 11, 4, 11, 7, 16, 17, 5, 15, 18, 19, 1, 13, 2, 14, 20, 30, 33, 36, 37, 38, 39, 41, 42, 43, 44, 45, 46, 47, 48, 49, 54, 55, 56, 57, 58, 59, 60, 61, 62, 63, 65, 67, 68, 69, 70, 71, 72, 73, 75, 77, 78, 79, 80, 81, 21]
def S0 (A : Nat → Nat) : ts_S := [(A 0, 9), (A 1, 4), (A 2, 11), (A 3, 4), (A 4, 11), (A 5, 4), (A 6, 11), (A 7, 4), (A 8, 11), (A 9, 4), (A 10, 11), (A 11, 7), (A 12, 16), (A 13, 17), (A 14, 5), (A 15, 15), (A 16, 18), (A 17, 19), (A 18, 1), (A 19, 13), (A 20, 2), (A 21, 14), (A 22, 20), (A 23, 30), (A 24, 33), (A 25, 36), (A 26, 37), (A 27, 38), (A 28, 39), (A 29, 41), (A 30, 42), (A 31, 43), (A 32, 44), (A 33, 45), (A 34, 46), (A 35, 47), (A 36, 48), (A 37, 49), (A 38, 54), (A 39, 55), (A 40, 56), (A 41, 57), (A 42, 58), (A 43, 59), (A 44, 60), (A 45, 61), (A 46, 62), (A 47, 63), (A 48, 65), (A 49, 67), (A 50, 68), (A 51, 69), (A 52, 70), (A 53, 71), (A 54, 72), (A 55, 73), (A 56, 75), (A 57, 77), (A 58, 78), (A 59, 79), (A 60, 80), (A 61, 81), (A 62, 21)]
theorem S0_k (A : Nat → Nat) : (S0 A).map (fun p => p.2) = S0k := rfl
theorem S0_u : ((List.range 63).all (fun q => (List.range 63).all (fun r => !(S0k[q]? == S0k[r]?) || (match S0k[q]? with | some k => ts_dyn.contains k | none => true) || q == r))) = true := by decide +kernel
theorem S0_U (A : Nat → Nat) : ts_U (S0 A) := by
  refine ⟨?_, A 24, rfl⟩
  intro q q' o o' k hd h1 h2
  have l1 := ls_lt h1
  have l2 := ls_lt h2
  have a1 : S0k[q]? = some k := by rw [← S0_k A, List.getElem?_map, h1]; rfl
  have a2 : S0k[q']? = some k := by rw [← S0_k A, List.getElem?_map, h2]; rfl
  have b := List.all_eq_true.mp (List.all_eq_true.mp S0_u q (List.mem_range.mpr l1)) q' (List.mem_range.mpr l2)
  rw [a1, a2] at b
  simp only [beq_self_eq_true, hd, Bool.not_true, Bool.false_or, beq_iff_eq] at b
  exact b
set_option maxRecDepth 20000 in
set_option maxHeartbeats 8000000 in
theorem w0_W (G : rn_G) (own1 own2 : Int32) (A : Nat → Nat) : ts_W G (S0 A) (w0 G own1 own2 A) := by
  refine ⟨rfl, S0_U A, ?_⟩
  intro q p hq
  match q, hq with
  | 0, hq => cases hq; exact ⟨_, rfl, by rw [hk_9]; exact Or.inl ⟨rfl, _, rfl, (ts_fs_cons (tv_i (rg_any _)) (ts_fs_cons (tv_r (List.mem_of_getElem? (i := 1) rfl)) (ts_fs_cons (tv_r (List.mem_of_getElem? (i := 3) rfl)) (ts_fs_cons (tv_r (List.mem_of_getElem? (i := 5) rfl)) (ts_fs_cons (tv_r (List.mem_of_getElem? (i := 7) rfl)) (ts_fs_cons (tv_r (List.mem_of_getElem? (i := 9) rfl)) (ts_fs_cons (tv_i (rg_any _)) (ts_fs_cons (tv_r (List.mem_of_getElem? (i := 11) rfl)) (ts_fs_cons (tv_r (List.mem_of_getElem? (i := 14) rfl)) (ts_fs_cons (tv_r (List.mem_of_getElem? (i := 16) rfl)) (ts_fs_cons (tv_r (List.mem_of_getElem? (i := 17) rfl)) (ts_fs_cons (tv_i (by unfold Rg; decide)) (ts_fs_cons (tv_i (rg_any _)) (ts_fs_cons (tv_r (List.mem_of_getElem? (i := 18) rfl)) (ts_fs_cons (tv_r (List.mem_of_getElem? (i := 20) rfl)) (ts_fs_cons (tv_r (List.mem_of_getElem? (i := 22) rfl)) ts_fs_nil))))))))))))))))⟩⟩
  | 1, hq => cases hq; exact ⟨_, rfl, by rw [hk_4]; exact Or.inl ⟨rfl, _, rfl, (ts_fs_cons (tv_r (List.mem_of_getElem? (i := 2) rfl)) (ts_fs_cons (tv_i (by unfold Rg; decide)) ts_fs_nil))⟩⟩
  | 2, hq => cases hq; exact ⟨_, rfl, by rw [hk_11]; exact Or.inr (Or.inl ⟨rfl, _, rfl, (fun _ _ => (show Rg (-128) (127) (0 : Int32) by unfold Rg; decide))⟩)⟩
  | 3, hq => cases hq; exact ⟨_, rfl, by rw [hk_4]; exact Or.inl ⟨rfl, _, rfl, (ts_fs_cons (tv_r (List.mem_of_getElem? (i := 4) rfl)) (ts_fs_cons (tv_i (by unfold Rg; decide)) ts_fs_nil))⟩⟩
  | 4, hq => cases hq; exact ⟨_, rfl, by rw [hk_11]; exact Or.inr (Or.inl ⟨rfl, _, rfl, (fun _ _ => (show Rg (-128) (127) (0 : Int32) by unfold Rg; decide))⟩)⟩
  | 5, hq => cases hq; exact ⟨_, rfl, by rw [hk_4]; exact Or.inl ⟨rfl, _, rfl, (ts_fs_cons (tv_r (List.mem_of_getElem? (i := 6) rfl)) (ts_fs_cons (tv_i (by unfold Rg; decide)) ts_fs_nil))⟩⟩
  | 6, hq => cases hq; exact ⟨_, rfl, by rw [hk_11]; exact Or.inr (Or.inl ⟨rfl, _, rfl, (fun _ _ => (show Rg (-128) (127) (0 : Int32) by unfold Rg; decide))⟩)⟩
  | 7, hq => cases hq; exact ⟨_, rfl, by rw [hk_4]; exact Or.inl ⟨rfl, _, rfl, (ts_fs_cons (tv_r (List.mem_of_getElem? (i := 8) rfl)) (ts_fs_cons (tv_i (by unfold Rg; decide)) ts_fs_nil))⟩⟩
  | 8, hq => cases hq; exact ⟨_, rfl, by rw [hk_11]; exact Or.inr (Or.inl ⟨rfl, _, rfl, (fun _ _ => (show Rg (-128) (127) (0 : Int32) by unfold Rg; decide))⟩)⟩
  | 9, hq => cases hq; exact ⟨_, rfl, by rw [hk_4]; exact Or.inl ⟨rfl, _, rfl, (ts_fs_cons (tv_r (List.mem_of_getElem? (i := 10) rfl)) (ts_fs_cons (tv_i (by unfold Rg; decide)) ts_fs_nil))⟩⟩
  | 10, hq => cases hq; exact ⟨_, rfl, by rw [hk_11]; exact Or.inr (Or.inl ⟨rfl, _, rfl, (fun _ _ => (show Rg (-128) (127) (0 : Int32) by unfold Rg; decide))⟩)⟩
  | 11, hq => cases hq; exact ⟨_, rfl, by rw [hk_7]; exact Or.inl ⟨rfl, _, rfl, (ts_fs_cons (tv_r (List.mem_of_getElem? (i := 12) rfl)) (ts_fs_cons (tv_r (List.mem_of_getElem? (i := 13) rfl)) (ts_fs_cons (tv_i (by unfold Rg; decide)) ts_fs_nil)))⟩⟩
  | 12, hq => cases hq; exact ⟨_, rfl, by rw [hk_16]; exact Or.inr (Or.inr (Or.inr ⟨rfl, _, rfl, fun _ _ h => nomatch h⟩))⟩
  | 13, hq => cases hq; exact ⟨_, rfl, by rw [hk_17]; exact Or.inr (Or.inl ⟨rfl, _, rfl, (fun _ _ => rg_any _)⟩)⟩
  | 14, hq => cases hq; exact ⟨_, rfl, by rw [hk_5]; exact Or.inl ⟨rfl, _, rfl, (ts_fs_cons (tv_r (List.mem_of_getElem? (i := 15) rfl)) (ts_fs_cons (tv_i (by unfold Rg; decide)) (ts_fs_cons (tv_i (rg_any _)) (ts_fs_cons (tv_i (rg_any _)) (ts_fs_cons (tv_i (rg_any _)) ts_fs_nil)))))⟩⟩
  | 15, hq => cases hq; exact ⟨_, rfl, by rw [hk_15]; exact Or.inr (Or.inr (Or.inr ⟨rfl, _, rfl, fun _ _ h => nomatch h⟩))⟩
  | 16, hq => cases hq; exact ⟨_, rfl, by rw [hk_18]; exact Or.inr (Or.inl ⟨rfl, _, rfl, (fun _ _ => rg_any _)⟩)⟩
  | 17, hq => cases hq; exact ⟨_, rfl, by rw [hk_19]; exact Or.inr (Or.inr (Or.inr ⟨rfl, _, rfl, fun _ _ h => nomatch h⟩))⟩
  | 18, hq => cases hq; exact ⟨_, rfl, by rw [hk_1]; exact Or.inl ⟨rfl, _, rfl, (ts_fs_cons (tv_r (List.mem_of_getElem? (i := 19) rfl)) (ts_fs_cons (tv_i (by unfold Rg; decide)) ts_fs_nil))⟩⟩
  | 19, hq => cases hq; exact ⟨_, rfl, by rw [hk_13]; exact Or.inr (Or.inr (Or.inr ⟨rfl, _, rfl, fun _ _ h => nomatch h⟩))⟩
  | 20, hq => cases hq; exact ⟨_, rfl, by rw [hk_2]; exact Or.inl ⟨rfl, _, rfl, (ts_fs_cons (tv_r (List.mem_of_getElem? (i := 21) rfl)) (ts_fs_cons (tv_i (by unfold Rg; decide)) ts_fs_nil))⟩⟩
  | 21, hq => cases hq; exact ⟨_, rfl, by rw [hk_14]; exact Or.inr (Or.inl ⟨rfl, _, rfl, (fun _ _ => rg_any _)⟩)⟩
  | 22, hq => cases hq; exact ⟨_, rfl, by rw [hk_20]; exact Or.inr (Or.inl ⟨rfl, _, rfl, (fun _ _ => rg_any _)⟩)⟩
  | 23, hq => cases hq; exact ⟨_, rfl, by rw [hk_30]; exact Or.inl ⟨rfl, _, rfl, (ts_fs_cons (tv_i (by unfold Rg; decide)) (ts_fs_cons (tv_i (rg_any _)) (ts_fs_cons (tv_r (List.mem_of_getElem? (i := 24) rfl)) (ts_fs_cons (tv_i (by unfold Rg; decide)) (ts_fs_cons (tv_i (by unfold Rg; decide)) (ts_fs_cons (tv_r (List.mem_of_getElem? (i := 25) rfl)) (ts_fs_cons (tv_r (List.mem_of_getElem? (i := 26) rfl)) (ts_fs_cons (tv_r (List.mem_of_getElem? (i := 27) rfl)) (ts_fs_cons (tv_r (List.mem_of_getElem? (i := 28) rfl)) (ts_fs_cons (tv_i (by unfold Rg; decide)) (ts_fs_cons (tv_r (List.mem_of_getElem? (i := 29) rfl)) (ts_fs_cons (tv_r (List.mem_of_getElem? (i := 30) rfl)) (ts_fs_cons (tv_r (List.mem_of_getElem? (i := 31) rfl)) (ts_fs_cons (tv_r (List.mem_of_getElem? (i := 32) rfl)) (ts_fs_cons (tv_r (List.mem_of_getElem? (i := 33) rfl)) (ts_fs_cons (tv_r (List.mem_of_getElem? (i := 34) rfl)) (ts_fs_cons (tv_r (List.mem_of_getElem? (i := 35) rfl)) (ts_fs_cons (tv_r (List.mem_of_getElem? (i := 36) rfl)) (ts_fs_cons (tv_r (List.mem_of_getElem? (i := 37) rfl)) (ts_fs_cons (tv_i (rg_any _)) (ts_fs_cons (tv_i (rg_any _)) (ts_fs_cons (tv_i (rg_any _)) (ts_fs_cons (tv_i (by unfold Rg; decide)) (ts_fs_cons (tv_r (List.mem_of_getElem? (i := 38) rfl)) (ts_fs_cons (tv_r (List.mem_of_getElem? (i := 39) rfl)) (ts_fs_cons (tv_r (List.mem_of_getElem? (i := 40) rfl)) (ts_fs_cons (tv_r (List.mem_of_getElem? (i := 41) rfl)) (ts_fs_cons (tv_r (List.mem_of_getElem? (i := 42) rfl)) (ts_fs_cons (tv_r (List.mem_of_getElem? (i := 43) rfl)) (ts_fs_cons (tv_r (List.mem_of_getElem? (i := 44) rfl)) (ts_fs_cons (tv_r (List.mem_of_getElem? (i := 45) rfl)) (ts_fs_cons (tv_r (List.mem_of_getElem? (i := 46) rfl)) (ts_fs_cons (tv_r (List.mem_of_getElem? (i := 47) rfl)) (ts_fs_cons (tv_i (rg_any _)) (ts_fs_cons (tv_r (List.mem_of_getElem? (i := 48) rfl)) (ts_fs_cons (tv_i (rg_any _)) (ts_fs_cons (tv_r (List.mem_of_getElem? (i := 49) rfl)) (ts_fs_cons (tv_r (List.mem_of_getElem? (i := 50) rfl)) (ts_fs_cons (tv_r (List.mem_of_getElem? (i := 51) rfl)) (ts_fs_cons (tv_r (List.mem_of_getElem? (i := 52) rfl)) (ts_fs_cons (tv_r (List.mem_of_getElem? (i := 53) rfl)) (ts_fs_cons (tv_r (List.mem_of_getElem? (i := 54) rfl)) (ts_fs_cons (tv_r (List.mem_of_getElem? (i := 55) rfl)) (ts_fs_cons (tv_i (rg_any _)) (ts_fs_cons (tv_r (List.mem_of_getElem? (i := 56) rfl)) (ts_fs_cons (tv_i (rg_any _)) (ts_fs_cons (tv_r (List.mem_of_getElem? (i := 57) rfl)) (ts_fs_cons (tv_r (List.mem_of_getElem? (i := 58) rfl)) (ts_fs_cons (tv_r (List.mem_of_getElem? (i := 59) rfl)) (ts_fs_cons (tv_r (List.mem_of_getElem? (i := 60) rfl)) (ts_fs_cons (tv_r (List.mem_of_getElem? (i := 61) rfl)) (ts_fs_cons (tv_i (by unfold Rg; decide)) (ts_fs_cons (tv_i (rg_any _)) (ts_fs_cons (tv_i (rg_any _)) ts_fs_nil))))))))))))))))))))))))))))))))))))))))))))))))))))))⟩⟩
  | 24, hq => cases hq; exact ⟨_, rfl, by rw [hk_33]; exact Or.inr (Or.inl ⟨rfl, _, rfl, (fun _ _ => (show Rg (0) (255) (0 : Int32) by unfold Rg; decide))⟩)⟩
  | 25, hq => cases hq; exact ⟨_, rfl, by rw [hk_36]; exact Or.inr (Or.inl ⟨rfl, _, rfl, (fun _ _ => rg_any _)⟩)⟩
  | 26, hq => cases hq; exact ⟨_, rfl, by rw [hk_37]; exact Or.inr (Or.inl ⟨rfl, _, rfl, (fun _ _ => rg_any _)⟩)⟩
  | 27, hq => cases hq; exact ⟨_, rfl, by rw [hk_38]; exact Or.inr (Or.inl ⟨rfl, _, rfl, (fun _ _ => rg_any _)⟩)⟩
  | 28, hq => cases hq; exact ⟨_, rfl, by rw [hk_39]; exact Or.inr (Or.inl ⟨rfl, _, rfl, (fun _ _ => rg_any _)⟩)⟩
  | 29, hq => cases hq; exact ⟨_, rfl, by rw [hk_41]; exact Or.inr (Or.inl ⟨rfl, _, rfl, (fun _ _ => rg_any _)⟩)⟩
  | 30, hq => cases hq; exact ⟨_, rfl, by rw [hk_42]; exact Or.inr (Or.inl ⟨rfl, _, rfl, (fun _ _ => rg_any _)⟩)⟩
  | 31, hq => cases hq; exact ⟨_, rfl, by rw [hk_43]; exact Or.inr (Or.inl ⟨rfl, _, rfl, (fun _ _ => rg_any _)⟩)⟩
  | 32, hq => cases hq; exact ⟨_, rfl, by rw [hk_44]; exact Or.inr (Or.inl ⟨rfl, _, rfl, (fun _ _ => rg_any _)⟩)⟩
  | 33, hq => cases hq; exact ⟨_, rfl, by rw [hk_45]; exact Or.inr (Or.inl ⟨rfl, _, rfl, (fun _ _ => rg_any _)⟩)⟩
  | 34, hq => cases hq; exact ⟨_, rfl, by rw [hk_46]; exact Or.inr (Or.inl ⟨rfl, _, rfl, (fun _ _ => rg_any _)⟩)⟩
  | 35, hq => cases hq; exact ⟨_, rfl, by rw [hk_47]; exact Or.inr (Or.inl ⟨rfl, _, rfl, (fun _ _ => rg_any _)⟩)⟩
  | 36, hq => cases hq; exact ⟨_, rfl, by rw [hk_48]; exact Or.inr (Or.inl ⟨rfl, _, rfl, (fun _ _ => rg_any _)⟩)⟩
  | 37, hq => cases hq; exact ⟨_, rfl, by rw [hk_49]; exact Or.inr (Or.inl ⟨rfl, _, rfl, (fun _ _ => rg_any _)⟩)⟩
  | 38, hq => cases hq; exact ⟨_, rfl, by rw [hk_54]; exact Or.inr (Or.inl ⟨rfl, _, rfl, (fun _ _ => rg_any _)⟩)⟩
  | 39, hq => cases hq; exact ⟨_, rfl, by rw [hk_55]; exact Or.inr (Or.inl ⟨rfl, _, rfl, (fun _ _ => (show Rg (0) (3) (0 : Int32) by unfold Rg; decide))⟩)⟩
  | 40, hq => cases hq; exact ⟨_, rfl, by rw [hk_56]; exact Or.inr (Or.inl ⟨rfl, _, rfl, (fun _ _ => rg_any _)⟩)⟩
  | 41, hq => cases hq; exact ⟨_, rfl, by rw [hk_57]; exact Or.inr (Or.inr (Or.inl ⟨rfl, _, rfl⟩))⟩
  | 42, hq => cases hq; exact ⟨_, rfl, by rw [hk_58]; exact Or.inr (Or.inr (Or.inl ⟨rfl, _, rfl⟩))⟩
  | 43, hq => cases hq; exact ⟨_, rfl, by rw [hk_59]; exact Or.inr (Or.inl ⟨rfl, _, rfl, (fun _ _ => (show Rg (0) (1) (0 : Int32) by unfold Rg; decide))⟩)⟩
  | 44, hq => cases hq; exact ⟨_, rfl, by rw [hk_60]; exact Or.inr (Or.inl ⟨rfl, _, rfl, (fun _ _ => rg_any _)⟩)⟩
  | 45, hq => cases hq; exact ⟨_, rfl, by rw [hk_61]; exact Or.inr (Or.inl ⟨rfl, _, rfl, (fun _ _ => (show Rg (0) (1) (0 : Int32) by unfold Rg; decide))⟩)⟩
  | 46, hq => cases hq; exact ⟨_, rfl, by rw [hk_62]; exact Or.inr (Or.inr (Or.inl ⟨rfl, _, rfl⟩))⟩
  | 47, hq => cases hq; exact ⟨_, rfl, by rw [hk_63]; exact Or.inr (Or.inr (Or.inl ⟨rfl, _, rfl⟩))⟩
  | 48, hq => cases hq; exact ⟨_, rfl, by rw [hk_65]; exact Or.inr (Or.inl ⟨rfl, _, rfl, (fun _ _ => (show Rg (0) (1500) (0 : Int32) by unfold Rg; decide))⟩)⟩
  | 49, hq => cases hq; exact ⟨_, rfl, by rw [hk_67]; exact Or.inr (Or.inl ⟨rfl, _, rfl, (fun _ _ => (show Rg (0) (1) (0 : Int32) by unfold Rg; decide))⟩)⟩
  | 50, hq => cases hq; exact ⟨_, rfl, by rw [hk_68]; exact Or.inr (Or.inl ⟨rfl, _, rfl, (fun _ _ => rg_any _)⟩)⟩
  | 51, hq => cases hq; exact ⟨_, rfl, by rw [hk_69]; exact Or.inr (Or.inl ⟨rfl, _, rfl, (fun _ _ => rg_any _)⟩)⟩
  | 52, hq => cases hq; exact ⟨_, rfl, by rw [hk_70]; exact Or.inr (Or.inl ⟨rfl, _, rfl, (fun _ _ => (show Rg (-1) (1980) (0 : Int32) by unfold Rg; decide))⟩)⟩
  | 53, hq => cases hq; exact ⟨_, rfl, by rw [hk_71]; exact Or.inr (Or.inl ⟨rfl, _, rfl, (fun _ _ => rg_any _)⟩)⟩
  | 54, hq => cases hq; exact ⟨_, rfl, by rw [hk_72]; exact Or.inr (Or.inl ⟨rfl, _, rfl, (fun _ _ => rg_any _)⟩)⟩
  | 55, hq => cases hq; exact ⟨_, rfl, by rw [hk_73]; exact Or.inr (Or.inl ⟨rfl, _, rfl, (fun _ _ => (show Rg (0) (1) (0 : Int32) by unfold Rg; decide))⟩)⟩
  | 56, hq => cases hq; exact ⟨_, rfl, by rw [hk_75]; exact Or.inr (Or.inl ⟨rfl, _, rfl, (fun _ _ => rg_any _)⟩)⟩
  | 57, hq => cases hq; exact ⟨_, rfl, by rw [hk_77]; exact Or.inr (Or.inl ⟨rfl, _, rfl, (fun _ _ => rg_any _)⟩)⟩
  | 58, hq => cases hq; exact ⟨_, rfl, by rw [hk_78]; exact Or.inr (Or.inl ⟨rfl, _, rfl, (fun _ _ => rg_any _)⟩)⟩
  | 59, hq => cases hq; exact ⟨_, rfl, by rw [hk_79]; exact Or.inr (Or.inl ⟨rfl, _, rfl, (fun _ _ => rg_any _)⟩)⟩
  | 60, hq => cases hq; exact ⟨_, rfl, by rw [hk_80]; exact Or.inr (Or.inl ⟨rfl, _, rfl, (fun _ _ => rg_any _)⟩)⟩
  | 61, hq => cases hq; exact ⟨_, rfl, by rw [hk_81]; exact Or.inr (Or.inl ⟨rfl, _, rfl, (fun _ _ => rg_any _)⟩)⟩
  | 62, hq => cases hq; exact ⟨_, rfl, by rw [hk_21]; exact Or.inr (Or.inr (Or.inl ⟨rfl, _, rfl⟩))⟩
  | q + 63, hq => exact absurd (ls_lt hq) (by show ¬ q + 63 < 63; omega)
theorem law_at33 (G : rn_G) (hLe : G.2.2.2.2.1.2.1 ≤ 5121) (own1 own2 : Int32) (A : Nat → Nat) : Rn G mL_law 9 244 2560 2063360 33 [(0, .ref G.2.2.2.2.1.1), (1, .ref (A 0)), (2, .ref (A 23)), (3, .ref (A 62)), (4, .int (1 : Int32))] [] (w0 G own1 own2 A) (fun r _ => r = Sum.inl (some (.int 1))) := law_loop G hLe (A 0) (A 23) (A 62) 512 (S0 A) _ (1 : Int32) (w0_W G own1 own2 A) (List.mem_of_getElem? (i := 0) rfl) (List.mem_of_getElem? (i := 23) rfl) (List.mem_of_getElem? (i := 62) rfl) ⟨0, (fun _ => 0), (fun _ => 0), (fun _ => 0), ⟨0, fun _ => none, (fun _ => 0), ⟨11, A 11, _, rfl, rfl, rfl⟩, rfl, ⟨12, A 12, _, _, rfl, rfl⟩, ⟨13, A 13, _, _, rfl, rfl⟩, fun k hk => absurd hk (Nat.not_lt_zero k)⟩, ⟨0, (fun _ => 0), (fun _ => 0), (fun _ => 0), ⟨23, A 23, _, rfl, rfl, rfl⟩, rfl, ⟨25, A 25, _, _, rfl, rfl⟩, ⟨26, A 26, _, _, rfl, rfl⟩, ⟨27, A 27, _, _, rfl, rfl⟩, fun k hk => absurd hk (Nat.not_lt_zero k)⟩, fun k hk => absurd hk (Nat.not_lt_zero k)⟩ (by decide) (by decide) (by decide)
theorem c_L_cell (G : rn_G) (ws : va_W) (hLe : G.2.2.2.2.1.2.1 ≤ 5121) : Rn G mL_cell 0 0 0 0 0 (lv_args 0 [.ref G.2.2.2.2.1.1, .int (0 : Int32)]) [] ws (fun r w => (∃ hv0 : Int32, True ∧ r = Sum.inl (some (.int hv0)) ∧ w = ws)) := by
  refine rn_lv [(0, .ref G.2.2.2.2.1.1), (1, .int (0 : Int32))] rfl ?_
  refine rn_iload_n (i := 1) dL_cell_0 rfl rfl ?_
  refine rn_aload_n (i := 0) dL_cell_1 rfl rfl ?_
  refine rn_slen dL_cell_2 ?_
  refine rn_icmp_ge (tgt := 12) dL_cell_3 (by decide) (fun h => ?_) (fun h => ?_)
  · refine rn_iconst (v := (0 : Int32)) dL_cell_12 (by decide) ?_
    exact rn_iret dL_cell_13 rfl rfl ⟨_, trivial, rfl, rfl⟩
  · refine rn_aload_n (i := 0) dL_cell_6 rfl rfl ?_
    refine rn_iload_n (i := 1) dL_cell_7 rfl rfl ?_
    refine rn_sld (rn_in ⟨by decide, by
      have e1 : (Int32.ofNat G.2.2.2.2.1.2.1).toInt = (G.2.2.2.2.1.2.1 : Int) := nI_toInt (by omega)
      rw [Int32.le_iff_toInt_le, e1] at h
      simp only [Int32.toInt_zero] at *
      omega⟩) dL_cell_8 ?_
    refine rn_goto (tgt := 13) dL_cell_9 (by decide) ?_
    exact rn_iret dL_cell_13 rfl rfl ⟨_, trivial, rfl, rfl⟩
set_option maxRecDepth 50000 in
set_option maxHeartbeats 8000000 in
theorem law_start (G : rn_G) (hLe : G.2.2.2.2.1.2.1 ≤ 5121) : Rn G mL_law 9 244 2623 2104303 0 [(0, .ref G.2.2.2.2.1.1)] [] ([] : va_W) (fun r _ => r = Sum.inl (some (.int 1))) := by
  refine rn_new (a := 2622) (b := 2104287) kn_SGLaw_8 (Nat.le_of_ble_eq_true rfl) (Nat.le_of_ble_eq_true rfl) dL_law_0 (fun q1 => ?_)
  refine rn_dup dL_law_3 rfl ?_
  refine rn_aload_n (i := 0) dL_law_4 rfl rfl ?_
  refine rn_iconst (v := (0 : Int32)) dL_law_5 (by decide) ?_
  refine rn_callS (a := 2622) (b := 2104287) [.ref G.2.2.2.2.1.1, .int (0 : Int32)] kl_SGLaw_93 dL_law_6 (c_L_cell G _ hLe) rfl rfl (Nat.le_of_ble_eq_true rfl) (Nat.le_of_ble_eq_true rfl) (Nat.le_of_ble_eq_true rfl) (Nat.le_of_ble_eq_true rfl) (Nat.le_of_ble_eq_true rfl) (Nat.le_of_ble_eq_true rfl) (by rintro E w h; rcases h with ⟨_, _, hr, _⟩ <;> cases hr) ?_
  rintro v w h
  obtain ⟨hv2, hc3, hr, hw⟩ := h; cases hr; subst hw
  refine rn_stk [.int hv2, .ref q1, .ref q1] rfl ?_
  refine rn_callI (a := 2600) (b := 2093887) [.int hv2] kl_SGLaw_99 dL_law_9 (c_X9_init G q1 hv2) (by rintro E w h; rcases h with ⟨_, _, _, _, _, _, _, _, _, _, _, _, _, _, _, _, _, _, _, _, _, _, _, hr, _⟩ <;> cases hr) rfl rfl (Nat.le_of_ble_eq_true rfl) (Nat.le_of_ble_eq_true rfl) (Nat.le_of_ble_eq_true rfl) (Nat.le_of_ble_eq_true rfl) (Nat.le_of_ble_eq_true rfl) (Nat.le_of_ble_eq_true rfl) ?_
  rintro v w h
  obtain ⟨q4, q5, q6, q7, q8, q9, q10, q11, q12, q13, q14, q15, q16, q17, q18, q19, q20, q21, q22, q23, q24, q25, hc26, hr, hw⟩ := h; cases hr; subst hw
  refine rn_stk [.ref q1] rfl ?_
  refine rn_astore_n dL_law_12 rfl (by decide) [(0, .ref G.2.2.2.2.1.1), (1, .ref q1)] rfl ?_
  refine rn_new (a := 2599) (b := 2093833) kn_SGLaw_101 (Nat.le_of_ble_eq_true rfl) (Nat.le_of_ble_eq_true rfl) dL_law_13 (fun q27 => ?_)
  refine rn_dup dL_law_16 rfl ?_
  refine rn_aload_n (i := 0) dL_law_17 rfl rfl ?_
  refine rn_iconst (v := (0 : Int32)) dL_law_18 (by decide) ?_
  refine rn_callS (a := 2599) (b := 2093833) [.ref G.2.2.2.2.1.1, .int (0 : Int32)] kl_SGLaw_93 dL_law_19 (c_L_cell G _ hLe) rfl rfl (Nat.le_of_ble_eq_true rfl) (Nat.le_of_ble_eq_true rfl) (Nat.le_of_ble_eq_true rfl) (Nat.le_of_ble_eq_true rfl) (Nat.le_of_ble_eq_true rfl) (Nat.le_of_ble_eq_true rfl) (by rintro E w h; rcases h with ⟨_, _, hr, _⟩ <;> cases hr) ?_
  rintro v w h
  obtain ⟨hv28, hc29, hr, hw⟩ := h; cases hr; subst hw
  refine rn_stk [.int hv28, .ref q27, .ref q27] rfl ?_
  refine rn_callI (a := 2561) (b := 2063361) [.int hv28] kl_SGLaw_103 dL_law_22 (c_X10_init G _ rfl q27 hv28) (by rintro E w h; rcases h with ⟨_, _, _, _, _, _, _, _, _, _, _, _, _, _, _, _, _, _, _, _, _, _, _, _, _, _, _, _, _, _, _, _, _, _, _, _, _, _, _, hr, _⟩ <;> cases hr) rfl rfl (Nat.le_of_ble_eq_true rfl) (Nat.le_of_ble_eq_true rfl) (Nat.le_of_ble_eq_true rfl) (Nat.le_of_ble_eq_true rfl) (Nat.le_of_ble_eq_true rfl) (Nat.le_of_ble_eq_true rfl) ?_
  rintro v w h
  obtain ⟨q30, q31, q32, q33, q34, q35, q36, q37, q38, q39, q40, q41, q42, q43, q44, q45, q46, q47, q48, q49, q50, q51, q52, q53, q54, q55, q56, q57, q58, q59, q60, q61, q62, q63, q64, q65, q66, q67, hc68, hr, hw⟩ := h; cases hr; subst hw
  refine rn_stk [.ref q27] rfl ?_
  refine rn_astore_n dL_law_25 rfl (by decide) [(0, .ref G.2.2.2.2.1.1), (1, .ref q1), (2, .ref q27)] rfl ?_
  refine rn_iconst (v := (1 : Int32)) dL_law_26 (by decide) ?_
  refine rn_newa (a := 2560) (b := 2063360) (t0 := 2) (N' := 1) (av := (1, .inr (.inl (fun _ => 0)))) (ty := .long) (Nat.le_of_ble_eq_true rfl) (Nat.le_of_ble_eq_true rfl) rfl rfl (by intro C9 h; cases h) wd_1256 (fun _ => rfl) (by decide) (by decide) (by decide) dL_law_27 (fun q69 => ?_)
  refine rn_astore_n dL_law_29 rfl (by decide) [(0, .ref G.2.2.2.2.1.1), (1, .ref q1), (2, .ref q27), (3, .ref q69)] rfl ?_
  refine rn_iconst (v := (1 : Int32)) dL_law_30 (by decide) ?_
  refine rn_istore dL_law_31 (by decide) [(0, .ref G.2.2.2.2.1.1), (1, .ref q1), (2, .ref q27), (3, .ref q69), (4, .int (1 : Int32))] rfl ?_
  refine rn_world (w0 G hv2 hv28 (fun i => ([q1, q4, q5, q6, q7, q8, q9, q10, q11, q12, q13, q14, q15, q16, q17, q18, q19, q20, q21, q22, q23, q24, q25, q27, q30, q31, q32, q33, q34, q35, q36, q37, q38, q39, q40, q41, q42, q43, q44, q45, q46, q47, q48, q49, q50, q51, q52, q53, q54, q55, q56, q57, q58, q59, q60, q61, q62, q63, q64, q65, q66, q67, q69] : List Nat).getD i 0)) rfl ?_
  exact rn_room (law_at33 G hLe hv2 hv28 (fun i => ([q1, q4, q5, q6, q7, q8, q9, q10, q11, q12, q13, q14, q15, q16, q17, q18, q19, q20, q21, q22, q23, q24, q25, q27, q30, q31, q32, q33, q34, q35, q36, q37, q38, q39, q40, q41, q42, q43, q44, q45, q46, q47, q48, q49, q50, q51, q52, q53, q54, q55, q56, q57, q58, q59, q60, q61, q62, q63, q64, q65, q66, q67, q69] : List Nat).getD i 0)) (Nat.le_of_ble_eq_true rfl) (Nat.le_of_ble_eq_true rfl) (Nat.le_of_ble_eq_true rfl) (Nat.le_of_ble_eq_true rfl)
