def fz_sg (own1 own2 : Int32) (A : Nat → Nat) : List Value := [.int own1, .ref (A 1), .ref (A 3), .ref (A 5), .ref (A 7), .ref (A 9), .int (-1 : Int32), .ref (A 11), .ref (A 14), .ref (A 16), .ref (A 17), .int (0 : Int32), .int (0 : Int32), .ref (A 18), .ref (A 20), .ref (A 22)]
def fz_tape (own1 own2 : Int32) (A : Nat → Nat) : List Value := [.ref (A 2), .int (0 : Int32)]
def fz_coming (own1 own2 : Int32) (A : Nat → Nat) : List Value := [.ref (A 4), .int (0 : Int32)]
def fz_remade (own1 own2 : Int32) (A : Nat → Nat) : List Value := [.ref (A 6), .int (0 : Int32)]
def fz_sentF (own1 own2 : Int32) (A : Nat → Nat) : List Value := [.ref (A 8), .int (0 : Int32)]
def fz_sentS (own1 own2 : Int32) (A : Nat → Nat) : List Value := [.ref (A 10), .int (0 : Int32)]
def fz_routes (own1 own2 : Int32) (A : Nat → Nat) : List Value := [.ref (A 12), .ref (A 13), .int (0 : Int32)]
def fz_pols (own1 own2 : Int32) (A : Nat → Nat) : List Value := [.ref (A 15), .int (0 : Int32), .int (0 : Int32), .int (0 : Int32), .int (65535 : Int32)]
def fz_heaps (own1 own2 : Int32) (A : Nat → Nat) : List Value := [.ref (A 19), .int (0 : Int32)]
def fz_logs (own1 own2 : Int32) (A : Nat → Nat) : List Value := [.ref (A 21), .int (0 : Int32)]
def fz_m (own1 own2 : Int32) (A : Nat → Nat) : List Value := [.int (0 : Int32), .int own2, .ref (A 24), .int (0 : Int32), .int (0 : Int32), .ref (A 25), .ref (A 26), .ref (A 27), .ref (A 28), .int (0 : Int32), .ref (A 29), .ref (A 30), .ref (A 31), .ref (A 32), .ref (A 33), .ref (A 34), .ref (A 35), .ref (A 36), .ref (A 37), .int (0 : Int32), .int (0 : Int32), .int (65535 : Int32), .int (0 : Int32), .ref (A 38), .ref (A 39), .ref (A 40), .ref (A 41), .ref (A 42), .ref (A 43), .ref (A 44), .ref (A 45), .ref (A 46), .ref (A 47), .int (0 : Int32), .ref (A 48), .int (-1 : Int32), .ref (A 49), .ref (A 50), .ref (A 51), .ref (A 52), .ref (A 53), .ref (A 54), .ref (A 55), .int (0 : Int32), .ref (A 56), .int (0 : Int32), .ref (A 57), .ref (A 58), .ref (A 59), .ref (A 60), .ref (A 61), .int (0 : Int32), .int (0 : Int32), .int (0 : Int32)]
def w0 (G : rn_G) (own1 own2 : Int32) (A : Nat → Nat) : va_W := [(A 0, Sum.inr (9, fz_sg own1 own2 A)), (A 1, Sum.inr (4, fz_tape own1 own2 A)), (A 2, Sum.inl (rn_k G 0, 2040, Sum.inl (fun _ => 0))), (A 3, Sum.inr (4, fz_coming own1 own2 A)), (A 4, Sum.inl (rn_k G 0, 2040, Sum.inl (fun _ => 0))), (A 5, Sum.inr (4, fz_remade own1 own2 A)), (A 6, Sum.inl (rn_k G 0, 2040, Sum.inl (fun _ => 0))), (A 7, Sum.inr (4, fz_sentF own1 own2 A)), (A 8, Sum.inl (rn_k G 0, 2040, Sum.inl (fun _ => 0))), (A 9, Sum.inr (4, fz_sentS own1 own2 A)), (A 10, Sum.inl (rn_k G 0, 2040, Sum.inl (fun _ => 0))), (A 11, Sum.inr (7, fz_routes own1 own2 A)), (A 12, Sum.inl (rn_k G 4, 16, Sum.inr (Sum.inr (Sum.inr (Sum.inr (fun _ => none)))))), (A 13, Sum.inl (rn_k G 1, 16, Sum.inl (fun _ => 0))), (A 14, Sum.inr (5, fz_pols own1 own2 A)), (A 15, Sum.inl (rn_k G 5, 24, Sum.inr (Sum.inr (Sum.inr (Sum.inr (fun _ => none)))))), (A 16, Sum.inl (rn_k G 1, 4, Sum.inl (fun _ => 0))), (A 17, Sum.inl (rn_k G 6, 16, Sum.inr (Sum.inr (Sum.inr (Sum.inr (fun _ => none)))))), (A 18, Sum.inr (1, fz_heaps own1 own2 A)), (A 19, Sum.inl (rn_k G 7, 4, Sum.inr (Sum.inr (Sum.inr (Sum.inr (fun _ => none)))))), (A 20, Sum.inr (2, fz_logs own1 own2 A)), (A 21, Sum.inl (rn_k G 1, 80, Sum.inl (fun _ => 0))), (A 22, Sum.inl (rn_k G 1, 18, Sum.inl (fun _ => 0))), (A 23, Sum.inr (10, fz_m own1 own2 A)), (A 24, Sum.inl (rn_k G 1, 22000, Sum.inl (fun _ => 0))), (A 25, Sum.inl (rn_k G 1, 16, Sum.inl (fun _ => 0))), (A 26, Sum.inl (rn_k G 1, 16, Sum.inl (fun _ => 0))), (A 27, Sum.inl (rn_k G 1, 16, Sum.inl (fun _ => 0))), (A 28, Sum.inl (rn_k G 1, 4, Sum.inl (fun _ => 0))), (A 29, Sum.inl (rn_k G 1, 24, Sum.inl (fun _ => 0))), (A 30, Sum.inl (rn_k G 1, 24, Sum.inl (fun _ => 0))), (A 31, Sum.inl (rn_k G 1, 24, Sum.inl (fun _ => 0))), (A 32, Sum.inl (rn_k G 1, 24, Sum.inl (fun _ => 0))), (A 33, Sum.inl (rn_k G 1, 24, Sum.inl (fun _ => 0))), (A 34, Sum.inl (rn_k G 1, 24, Sum.inl (fun _ => 0))), (A 35, Sum.inl (rn_k G 1, 24, Sum.inl (fun _ => 0))), (A 36, Sum.inl (rn_k G 1, 24, Sum.inl (fun _ => 0))), (A 37, Sum.inl (rn_k G 1, 24, Sum.inl (fun _ => 0))), (A 38, Sum.inl (rn_k G 1, 16, Sum.inl (fun _ => 0))), (A 39, Sum.inl (rn_k G 1, 16, Sum.inl (fun _ => 0))), (A 40, Sum.inl (rn_k G 1, 16, Sum.inl (fun _ => 0))), (A 41, Sum.inl (rn_k G 2, 16, Sum.inr (Sum.inl (fun _ => 0)))), (A 42, Sum.inl (rn_k G 2, 16, Sum.inr (Sum.inl (fun _ => 0)))), (A 43, Sum.inl (rn_k G 3, 16, Sum.inl (fun _ => 0))), (A 44, Sum.inl (rn_k G 1, 16, Sum.inl (fun _ => 0))), (A 45, Sum.inl (rn_k G 3, 16, Sum.inl (fun _ => 0))), (A 46, Sum.inl (rn_k G 2, 16, Sum.inr (Sum.inl (fun _ => 0)))), (A 47, Sum.inl (rn_k G 2, 16, Sum.inr (Sum.inl (fun _ => 0)))), (A 48, Sum.inl (rn_k G 1, 2, Sum.inl (fun _ => 0))), (A 49, Sum.inl (rn_k G 3, 4, Sum.inl (fun _ => 0))), (A 50, Sum.inl (rn_k G 1, 4, Sum.inl (fun _ => 0))), (A 51, Sum.inl (rn_k G 1, 4, Sum.inl (fun _ => 0))), (A 52, Sum.inl (rn_k G 1, 4, Sum.inl (fun _ => 0))), (A 53, Sum.inl (rn_k G 1, 4, Sum.inl (fun _ => 0))), (A 54, Sum.inl (rn_k G 1, 4, Sum.inl (fun _ => 0))), (A 55, Sum.inl (rn_k G 3, 7920, Sum.inl (fun _ => 0))), (A 56, Sum.inl (rn_k G 1, 18, Sum.inl (fun _ => 0))), (A 57, Sum.inl (rn_k G 1, 16, Sum.inl (fun _ => 0))), (A 58, Sum.inl (rn_k G 1, 16, Sum.inl (fun _ => 0))), (A 59, Sum.inl (rn_k G 1, 16, Sum.inl (fun _ => 0))), (A 60, Sum.inl (rn_k G 1, 16, Sum.inl (fun _ => 0))), (A 61, Sum.inl (rn_k G 1, 16, Sum.inl (fun _ => 0))), (A 62, Sum.inl (rn_k G 2, 1, Sum.inr (Sum.inl (fun _ => 0))))]
set_option maxRecDepth 20000 in
set_option maxHeartbeats 8000000 in
theorem law_at33 (G : rn_G) (hLe : G.2.2.2.2.1.2.1 ≤ 11) (own1 own2 : Int32) (A : Nat → Nat) : Rn G mL_law 9 163 3 12 33 [(0, .ref G.2.2.2.2.1.1), (1, .ref (A 0)), (2, .ref (A 23)), (3, .ref (A 62)), (4, .int (1 : Int32))] [] (w0 G own1 own2 A) (fun r _ => r = Sum.inl (some (.int 1))) := by
  refine rn_iload dL_law_33 rfl ?_
  refine rn_aload_n (i := 0) dL_law_35 rfl rfl ?_
  refine rn_slen dL_law_36 ?_
  refine rn_bipush (v := (10 : Int32)) dL_law_37 (by decide) ?_
  refine rn_isub dL_law_39 ?_
  rcases Nat.lt_or_ge G.2.2.2.2.1.2.1 11 with hl | hl
  · have e1 : (Int32.ofNat G.2.2.2.2.1.2.1).toInt = (G.2.2.2.2.1.2.1 : Int) := nI_toInt (by omega)
    refine rn_icmp_gt (tgt := 1871) dL_law_40 (by decide) (fun h => ?_) (fun h => False.elim (by obtain ⟨k0, e0⟩ := i32_sub (Int32.ofNat G.2.2.2.2.1.2.1) (10 : Int32); simp only [Int32.lt_iff_toInt_lt, i32_10, i32_1, e1] at *; omega))
    refine rn_iconst (v := (1 : Int32)) dL_law_1871 (by decide) ?_
    exact rn_iret dL_law_1872 rfl rfl rfl
  · have hL : G.2.2.2.2.1.2.1 = 11 := by omega
    refine rn_topi (1 : Int32) (by rw [hL]; decide) ?_
    refine rn_icmp_gt (tgt := 1871) dL_law_40 (by decide) (fun h => absurd h (by decide)) (fun h => ?_)
    refine rn_aload_n (i := 0) dL_law_43 rfl rfl ?_
    refine rn_iload dL_law_44 rfl ?_
    refine rn_sld (by rw [hL]; unfold vp_in; decide) dL_law_46 ?_
    refine rn_bipush (v := (31 : Int32)) dL_law_47 (by decide) ?_
    refine rn_iand dL_law_49 ?_
    by_cases h0 : (G.2.2.2.2.1.2.2 (1 : Int32).toNatClampNeg &&& 31) = (0 : Int32)
    · refine rn_topi (0 : Int32) h0 ?_
      refine rn_tableIn (off := 114) (tgt := 164) dL_law_50 (by decide) (by decide) (by decide) (by decide) ?_
      exact rn_room (law_0 G _ hL (o_sg := (A 0)) (fs_sg := fz_sg own1 own2 A) (o_tape := (A 1)) (fs_tape := fz_tape own1 own2 A) (r_tape := (A 2)) (f_tape := fun _ => 0) (o_m := (A 23)) (fs_m := fz_m own1 own2 A) (a_bytes := (A 24)) (o_out := (A 62)) rfl rfl rfl rfl rfl rfl rfl rfl rfl rfl rfl rfl) (Nat.le_of_ble_eq_true rfl) (Nat.le_of_ble_eq_true rfl) (Nat.le_of_ble_eq_true rfl) (Nat.le_of_ble_eq_true rfl)
    by_cases h1 : (G.2.2.2.2.1.2.2 (1 : Int32).toNatClampNeg &&& 31) = (1 : Int32)
    · refine rn_topi (1 : Int32) h1 ?_
      refine rn_tableIn (off := 202) (tgt := 252) dL_law_50 (by decide) (by decide) (by decide) (by decide) ?_
      exact rn_room (law_1 G _ hL (o_sg := (A 0)) (fs_sg := fz_sg own1 own2 A) (o_tape := (A 1)) (fs_tape := fz_tape own1 own2 A) (o_m := (A 23)) (fs_m := fz_m own1 own2 A) (o_out := (A 62)) rfl rfl rfl rfl rfl rfl rfl rfl) (Nat.le_of_ble_eq_true rfl) (Nat.le_of_ble_eq_true rfl) (Nat.le_of_ble_eq_true rfl) (Nat.le_of_ble_eq_true rfl)
    by_cases h2 : (G.2.2.2.2.1.2.2 (1 : Int32).toNatClampNeg &&& 31) = (2 : Int32)
    · refine rn_topi (2 : Int32) h2 ?_
      refine rn_tableIn (off := 238) (tgt := 288) dL_law_50 (by decide) (by decide) (by decide) (by decide) ?_
      exact rn_room (law_2 G _ hL (o_sg := (A 0)) (fs_sg := fz_sg own1 own2 A) (o_tape := (A 1)) (fs_tape := fz_tape own1 own2 A) (o_m := (A 23)) (fs_m := fz_m own1 own2 A) (o_out := (A 62)) rfl rfl rfl rfl rfl rfl rfl rfl) (Nat.le_of_ble_eq_true rfl) (Nat.le_of_ble_eq_true rfl) (Nat.le_of_ble_eq_true rfl) (Nat.le_of_ble_eq_true rfl)
    by_cases h3 : (G.2.2.2.2.1.2.2 (1 : Int32).toNatClampNeg &&& 31) = (3 : Int32)
    · refine rn_topi (3 : Int32) h3 ?_
      refine rn_tableIn (off := 306) (tgt := 356) dL_law_50 (by decide) (by decide) (by decide) (by decide) ?_
      exact rn_room (law_3 G _ hL (o_sg := (A 0)) (fs_sg := fz_sg own1 own2 A) (o_tape := (A 1)) (fs_tape := fz_tape own1 own2 A) (o_m := (A 23)) (fs_m := fz_m own1 own2 A) (o_out := (A 62)) rfl rfl rfl rfl rfl rfl rfl rfl) (Nat.le_of_ble_eq_true rfl) (Nat.le_of_ble_eq_true rfl) (Nat.le_of_ble_eq_true rfl) (Nat.le_of_ble_eq_true rfl)
    by_cases h4 : (G.2.2.2.2.1.2.2 (1 : Int32).toNatClampNeg &&& 31) = (4 : Int32)
    · refine rn_topi (4 : Int32) h4 ?_
      refine rn_tableIn (off := 362) (tgt := 412) dL_law_50 (by decide) (by decide) (by decide) (by decide) ?_
      exact rn_room (law_4 G _ hL (o_sg := (A 0)) (fs_sg := fz_sg own1 own2 A) (o_tape := (A 1)) (fs_tape := fz_tape own1 own2 A) (r_tape := (A 2)) (f_tape := fun _ => 0) (o_m := (A 23)) (fs_m := fz_m own1 own2 A) (a_bytes := (A 24)) (o_out := (A 62)) rfl rfl rfl rfl rfl rfl rfl rfl rfl rfl rfl rfl) (Nat.le_of_ble_eq_true rfl) (Nat.le_of_ble_eq_true rfl) (Nat.le_of_ble_eq_true rfl) (Nat.le_of_ble_eq_true rfl)
    by_cases h5 : (G.2.2.2.2.1.2.2 (1 : Int32).toNatClampNeg &&& 31) = (5 : Int32)
    · refine rn_topi (5 : Int32) h5 ?_
      refine rn_tableIn (off := 480) (tgt := 530) dL_law_50 (by decide) (by decide) (by decide) (by decide) ?_
      exact rn_room (law_5 G _ hL (o_sg := (A 0)) (fs_sg := fz_sg own1 own2 A) (o_tape := (A 1)) (fs_tape := fz_tape own1 own2 A) (o_m := (A 23)) (fs_m := fz_m own1 own2 A) (o_out := (A 62)) rfl rfl rfl rfl rfl rfl rfl rfl) (Nat.le_of_ble_eq_true rfl) (Nat.le_of_ble_eq_true rfl) (Nat.le_of_ble_eq_true rfl) (Nat.le_of_ble_eq_true rfl)
    by_cases h6 : (G.2.2.2.2.1.2.2 (1 : Int32).toNatClampNeg &&& 31) = (6 : Int32)
    · refine rn_topi (6 : Int32) h6 ?_
      refine rn_tableIn (off := 524) (tgt := 574) dL_law_50 (by decide) (by decide) (by decide) (by decide) ?_
      exact rn_room (law_6 G _ hL (o_sg := (A 0)) (fs_sg := fz_sg own1 own2 A) (o_routes := (A 11)) (o_nets := (A 12)) (o_ports := (A 13)) (fs_routes := fz_routes own1 own2 A) (o_m := (A 23)) (fs_m := fz_m own1 own2 A) (a_routeNet := (A 25)) (a_routeWidth := (A 26)) (a_routePort := (A 27)) (o_out := (A 62)) rfl rfl rfl rfl rfl rfl rfl rfl rfl rfl rfl rfl rfl rfl rfl rfl rfl rfl rfl) (Nat.le_of_ble_eq_true rfl) (Nat.le_of_ble_eq_true rfl) (Nat.le_of_ble_eq_true rfl) (Nat.le_of_ble_eq_true rfl)
    by_cases h7 : (G.2.2.2.2.1.2.2 (1 : Int32).toNatClampNeg &&& 31) = (7 : Int32)
    · refine rn_topi (7 : Int32) h7 ?_
      refine rn_tableIn (off := 604) (tgt := 654) dL_law_50 (by decide) (by decide) (by decide) (by decide) ?_
      exact rn_room (law_7 G _ hL (o_sg := (A 0)) (fs_sg := fz_sg own1 own2 A) (o_peers := (A 16)) (o_m := (A 23)) (fs_m := fz_m own1 own2 A) (a_peers := (A 28)) (o_out := (A 62)) rfl rfl rfl rfl rfl rfl rfl rfl) (Nat.le_of_ble_eq_true rfl) (Nat.le_of_ble_eq_true rfl) (Nat.le_of_ble_eq_true rfl) (Nat.le_of_ble_eq_true rfl)
    by_cases h8 : (G.2.2.2.2.1.2.2 (1 : Int32).toNatClampNeg &&& 31) = (8 : Int32)
    · refine rn_topi (8 : Int32) h8 ?_
      refine rn_tableIn (off := 672) (tgt := 722) dL_law_50 (by decide) (by decide) (by decide) (by decide) ?_
      exact rn_room (law_8 G _ hL (o_sg := (A 0)) (fs_sg := fz_sg own1 own2 A) (o_pols := (A 14)) (fs_pols := fz_pols own1 own2 A) (o_m := (A 23)) (fs_m := fz_m own1 own2 A) (o_out := (A 62)) rfl rfl rfl rfl rfl rfl rfl rfl rfl rfl rfl rfl) (Nat.le_of_ble_eq_true rfl) (Nat.le_of_ble_eq_true rfl) (Nat.le_of_ble_eq_true rfl) (Nat.le_of_ble_eq_true rfl)
    by_cases h9 : (G.2.2.2.2.1.2.2 (1 : Int32).toNatClampNeg &&& 31) = (9 : Int32)
    · refine rn_topi (9 : Int32) h9 ?_
      refine rn_tableIn (off := 732) (tgt := 782) dL_law_50 (by decide) (by decide) (by decide) (by decide) ?_
      exact rn_room (law_9 G _ hL (o_sg := (A 0)) (fs_sg := fz_sg own1 own2 A) (o_pols := (A 14)) (o_prow := (A 15)) (fs_pols := fz_pols own1 own2 A) (o_m := (A 23)) (fs_m := fz_m own1 own2 A) (a_policyWay := (A 29)) (a_policyFrom := (A 30)) (a_policyFromWidth := (A 31)) (a_policyTo := (A 32)) (a_policyToWidth := (A 33)) (a_policyKind := (A 34)) (a_policyLow := (A 35)) (a_policyHigh := (A 36)) (a_policyDone := (A 37)) (o_out := (A 62)) rfl rfl rfl rfl rfl rfl rfl rfl rfl rfl rfl rfl rfl rfl rfl rfl rfl rfl rfl rfl rfl rfl rfl rfl rfl rfl rfl rfl rfl rfl rfl rfl rfl rfl rfl) (Nat.le_of_ble_eq_true rfl) (Nat.le_of_ble_eq_true rfl) (Nat.le_of_ble_eq_true rfl) (Nat.le_of_ble_eq_true rfl)
    by_cases h10 : (G.2.2.2.2.1.2.2 (1 : Int32).toNatClampNeg &&& 31) = (10 : Int32)
    · refine rn_topi (10 : Int32) h10 ?_
      refine rn_tableIn (off := 850) (tgt := 900) dL_law_50 (by decide) (by decide) (by decide) (by decide) ?_
      exact rn_room (law_10 G _ hL (o_sg := (A 0)) (fs_sg := fz_sg own1 own2 A) (o_seals := (A 17)) (o_m := (A 23)) (fs_m := fz_m own1 own2 A) (a_sealWay := (A 38)) (a_sealTunnel := (A 39)) (a_sealName := (A 40)) (a_sealKey := (A 41)) (a_sealStamp := (A 42)) (a_sealLong := (A 43)) (a_sealLife := (A 44)) (a_sealStopped := (A 45)) (a_sealTop := (A 46)) (a_sealSeen := (A 47)) (o_out := (A 62)) rfl rfl rfl rfl rfl rfl rfl rfl rfl rfl rfl rfl rfl rfl rfl rfl rfl rfl rfl rfl rfl rfl rfl rfl rfl rfl rfl rfl rfl) (Nat.le_of_ble_eq_true rfl) (Nat.le_of_ble_eq_true rfl) (Nat.le_of_ble_eq_true rfl) (Nat.le_of_ble_eq_true rfl)
    by_cases h11 : (G.2.2.2.2.1.2.2 (1 : Int32).toNatClampNeg &&& 31) = (11 : Int32)
    · refine rn_topi (11 : Int32) h11 ?_
      refine rn_tableIn (off := 1066) (tgt := 1116) dL_law_50 (by decide) (by decide) (by decide) (by decide) ?_
      exact rn_room (law_11 G _ hL (o_sg := (A 0)) (fs_sg := fz_sg own1 own2 A) (o_m := (A 23)) (fs_m := fz_m own1 own2 A) (o_out := (A 62)) rfl rfl rfl rfl rfl rfl) (Nat.le_of_ble_eq_true rfl) (Nat.le_of_ble_eq_true rfl) (Nat.le_of_ble_eq_true rfl) (Nat.le_of_ble_eq_true rfl)
    by_cases h12 : (G.2.2.2.2.1.2.2 (1 : Int32).toNatClampNeg &&& 31) = (12 : Int32)
    · refine rn_topi (12 : Int32) h12 ?_
      refine rn_tableIn (off := 1129) (tgt := 1179) dL_law_50 (by decide) (by decide) (by decide) (by decide) ?_
      exact rn_room (law_12 G _ hL (o_sg := (A 0)) (fs_sg := fz_sg own1 own2 A) (o_m := (A 23)) (fs_m := fz_m own1 own2 A) (o_out := (A 62)) rfl rfl rfl rfl rfl rfl) (Nat.le_of_ble_eq_true rfl) (Nat.le_of_ble_eq_true rfl) (Nat.le_of_ble_eq_true rfl) (Nat.le_of_ble_eq_true rfl)
    by_cases h13 : (G.2.2.2.2.1.2.2 (1 : Int32).toNatClampNeg &&& 31) = (13 : Int32)
    · refine rn_topi (13 : Int32) h13 ?_
      refine rn_tableIn (off := 1228) (tgt := 1278) dL_law_50 (by decide) (by decide) (by decide) (by decide) ?_
      exact rn_room (law_13 G _ hL (o_sg := (A 0)) (fs_sg := fz_sg own1 own2 A) (o_tape := (A 1)) (o_coming := (A 3)) (o_ends := (A 22)) (fs_tape := fz_tape own1 own2 A) (fs_coming := fz_coming own1 own2 A) (o_m := (A 23)) (fs_m := fz_m own1 own2 A) (a_endings := (A 56)) (o_out := (A 62)) rfl rfl rfl rfl rfl rfl rfl rfl rfl rfl rfl rfl rfl rfl rfl) (Nat.le_of_ble_eq_true rfl) (Nat.le_of_ble_eq_true rfl) (Nat.le_of_ble_eq_true rfl) (Nat.le_of_ble_eq_true rfl)
    by_cases h14 : (G.2.2.2.2.1.2.2 (1 : Int32).toNatClampNeg &&& 31) = (14 : Int32)
    · refine rn_topi (14 : Int32) h14 ?_
      refine rn_tableIn (off := 1284) (tgt := 1334) dL_law_50 (by decide) (by decide) (by decide) (by decide) ?_
      exact rn_room (law_14 G _ hL (o_sg := (A 0)) (fs_sg := fz_sg own1 own2 A) (o_tape := (A 1)) (o_coming := (A 3)) (fs_tape := fz_tape own1 own2 A) (fs_coming := fz_coming own1 own2 A) (o_m := (A 23)) (fs_m := fz_m own1 own2 A) (o_out := (A 62)) rfl rfl rfl rfl rfl rfl rfl rfl rfl rfl rfl) (Nat.le_of_ble_eq_true rfl) (Nat.le_of_ble_eq_true rfl) (Nat.le_of_ble_eq_true rfl) (Nat.le_of_ble_eq_true rfl)
    by_cases h15 : (G.2.2.2.2.1.2.2 (1 : Int32).toNatClampNeg &&& 31) = (15 : Int32)
    · refine rn_topi (15 : Int32) h15 ?_
      refine rn_tableIn (off := 1340) (tgt := 1390) dL_law_50 (by decide) (by decide) (by decide) (by decide) ?_
      exact rn_room (law_15 G _ hL (o_sg := (A 0)) (fs_sg := fz_sg own1 own2 A) (o_routes := (A 11)) (fs_routes := fz_routes own1 own2 A) (o_m := (A 23)) (fs_m := fz_m own1 own2 A) (o_out := (A 62)) rfl rfl rfl rfl rfl rfl rfl rfl) (Nat.le_of_ble_eq_true rfl) (Nat.le_of_ble_eq_true rfl) (Nat.le_of_ble_eq_true rfl) (Nat.le_of_ble_eq_true rfl)
    by_cases h16 : (G.2.2.2.2.1.2.2 (1 : Int32).toNatClampNeg &&& 31) = (16 : Int32)
    · refine rn_topi (16 : Int32) h16 ?_
      refine rn_tableIn (off := 1365) (tgt := 1415) dL_law_50 (by decide) (by decide) (by decide) (by decide) ?_
      exact rn_room (law_16 G _ hL (o_sg := (A 0)) (fs_sg := fz_sg own1 own2 A) (o_sentF := (A 7)) (o_sentS := (A 9)) (fs_sentF := fz_sentF own1 own2 A) (fs_sentS := fz_sentS own1 own2 A) (o_m := (A 23)) (fs_m := fz_m own1 own2 A) (a_sentSize := (A 48)) (o_out := (A 62)) rfl rfl rfl rfl rfl rfl rfl rfl rfl rfl rfl rfl) (Nat.le_of_ble_eq_true rfl) (Nat.le_of_ble_eq_true rfl) (Nat.le_of_ble_eq_true rfl) (Nat.le_of_ble_eq_true rfl)
    by_cases h17 : (G.2.2.2.2.1.2.2 (1 : Int32).toNatClampNeg &&& 31) = (17 : Int32)
    · refine rn_topi (17 : Int32) h17 ?_
      refine rn_tableIn (off := 1433) (tgt := 1483) dL_law_50 (by decide) (by decide) (by decide) (by decide) ?_
      exact rn_room (law_17 G _ hL (o_sg := (A 0)) (fs_sg := fz_sg own1 own2 A) (o_sentF := (A 7)) (o_sentS := (A 9)) (fs_sentF := fz_sentF own1 own2 A) (fs_sentS := fz_sentS own1 own2 A) (o_m := (A 23)) (fs_m := fz_m own1 own2 A) (a_sentSize := (A 48)) (o_out := (A 62)) rfl rfl rfl rfl rfl rfl rfl rfl rfl rfl rfl rfl) (Nat.le_of_ble_eq_true rfl) (Nat.le_of_ble_eq_true rfl) (Nat.le_of_ble_eq_true rfl) (Nat.le_of_ble_eq_true rfl)
    by_cases h18 : (G.2.2.2.2.1.2.2 (1 : Int32).toNatClampNeg &&& 31) = (18 : Int32)
    · refine rn_topi (18 : Int32) h18 ?_
      refine rn_tableIn (off := 1489) (tgt := 1539) dL_law_50 (by decide) (by decide) (by decide) (by decide) ?_
      exact rn_room (law_18 G _ hL (o_sg := (A 0)) (fs_sg := fz_sg own1 own2 A) (o_m := (A 23)) (fs_m := fz_m own1 own2 A) (o_out := (A 62)) rfl rfl rfl rfl rfl rfl) (Nat.le_of_ble_eq_true rfl) (Nat.le_of_ble_eq_true rfl) (Nat.le_of_ble_eq_true rfl) (Nat.le_of_ble_eq_true rfl)
    by_cases h19 : (G.2.2.2.2.1.2.2 (1 : Int32).toNatClampNeg &&& 31) = (19 : Int32)
    · refine rn_topi (19 : Int32) h19 ?_
      refine rn_tableIn (off := 1557) (tgt := 1607) dL_law_50 (by decide) (by decide) (by decide) (by decide) ?_
      exact rn_room (law_19 G _ hL (o_sg := (A 0)) (fs_sg := fz_sg own1 own2 A) (o_m := (A 23)) (fs_m := fz_m own1 own2 A) (o_out := (A 62)) rfl rfl rfl rfl rfl rfl) (Nat.le_of_ble_eq_true rfl) (Nat.le_of_ble_eq_true rfl) (Nat.le_of_ble_eq_true rfl) (Nat.le_of_ble_eq_true rfl)
    by_cases h20 : (G.2.2.2.2.1.2.2 (1 : Int32).toNatClampNeg &&& 31) = (20 : Int32)
    · refine rn_topi (20 : Int32) h20 ?_
      refine rn_tableIn (off := 1612) (tgt := 1662) dL_law_50 (by decide) (by decide) (by decide) (by decide) ?_
      exact rn_room (law_20 G _ hL (o_sg := (A 0)) (fs_sg := fz_sg own1 own2 A) (o_m := (A 23)) (fs_m := fz_m own1 own2 A) (o_out := (A 62)) rfl rfl rfl rfl rfl rfl) (Nat.le_of_ble_eq_true rfl) (Nat.le_of_ble_eq_true rfl) (Nat.le_of_ble_eq_true rfl) (Nat.le_of_ble_eq_true rfl)
    by_cases h21 : (G.2.2.2.2.1.2.2 (1 : Int32).toNatClampNeg &&& 31) = (21 : Int32)
    · refine rn_topi (21 : Int32) h21 ?_
      refine rn_tableIn (off := 1667) (tgt := 1717) dL_law_50 (by decide) (by decide) (by decide) (by decide) ?_
      exact rn_room (law_21 G _ hL (o_sg := (A 0)) (fs_sg := fz_sg own1 own2 A) (o_heaps := (A 18)) (fs_heaps := fz_heaps own1 own2 A) (o_m := (A 23)) (fs_m := fz_m own1 own2 A) (a_heapIs := (A 49)) (o_out := (A 62)) rfl rfl rfl rfl rfl rfl rfl rfl rfl) (Nat.le_of_ble_eq_true rfl) (Nat.le_of_ble_eq_true rfl) (Nat.le_of_ble_eq_true rfl) (Nat.le_of_ble_eq_true rfl)
    by_cases h22 : (G.2.2.2.2.1.2.2 (1 : Int32).toNatClampNeg &&& 31) = (22 : Int32)
    · refine rn_topi (22 : Int32) h22 ?_
      refine rn_tableIn (off := 1680) (tgt := 1730) dL_law_50 (by decide) (by decide) (by decide) (by decide) ?_
      exact rn_room (law_22 G _ hL (o_sg := (A 0)) (fs_sg := fz_sg own1 own2 A) (o_logs := (A 20)) (fs_logs := fz_logs own1 own2 A) (o_m := (A 23)) (fs_m := fz_m own1 own2 A) (o_out := (A 62)) rfl rfl rfl rfl rfl rfl rfl rfl) (Nat.le_of_ble_eq_true rfl) (Nat.le_of_ble_eq_true rfl) (Nat.le_of_ble_eq_true rfl) (Nat.le_of_ble_eq_true rfl)
    by_cases h23 : (G.2.2.2.2.1.2.2 (1 : Int32).toNatClampNeg &&& 31) = (23 : Int32)
    · refine rn_topi (23 : Int32) h23 ?_
      refine rn_tableIn (off := 1748) (tgt := 1798) dL_law_50 (by decide) (by decide) (by decide) (by decide) ?_
      exact rn_room (law_23 G _ hL (o_sg := (A 0)) (fs_sg := fz_sg own1 own2 A) (o_heaps := (A 18)) (o_ends := (A 22)) (fs_heaps := fz_heaps own1 own2 A) (o_m := (A 23)) (fs_m := fz_m own1 own2 A) (a_heapIs := (A 49)) (a_endings := (A 56)) (o_out := (A 62)) rfl rfl rfl rfl rfl rfl rfl rfl rfl rfl rfl rfl rfl rfl rfl rfl rfl) (Nat.le_of_ble_eq_true rfl) (Nat.le_of_ble_eq_true rfl) (Nat.le_of_ble_eq_true rfl) (Nat.le_of_ble_eq_true rfl)
    by_cases h24 : (G.2.2.2.2.1.2.2 (1 : Int32).toNatClampNeg &&& 31) = (24 : Int32)
    · refine rn_topi (24 : Int32) h24 ?_
      refine rn_tableIn (off := 1804) (tgt := 1854) dL_law_50 (by decide) (by decide) (by decide) (by decide) ?_
      exact rn_room (law_24 G _ hL (o_sg := (A 0)) (fs_sg := fz_sg own1 own2 A) (o_tape := (A 1)) (o_sentF := (A 7)) (o_sentS := (A 9)) (o_routes := (A 11)) (o_pols := (A 14)) (o_peers := (A 16)) (o_heaps := (A 18)) (o_logs := (A 20)) (o_ends := (A 22)) (fs_tape := fz_tape own1 own2 A) (fs_sentF := fz_sentF own1 own2 A) (fs_sentS := fz_sentS own1 own2 A) (fs_routes := fz_routes own1 own2 A) (fs_pols := fz_pols own1 own2 A) (fs_heaps := fz_heaps own1 own2 A) (fs_logs := fz_logs own1 own2 A) (o_m := (A 23)) (fs_m := fz_m own1 own2 A) (a_peers := (A 28)) (a_sentSize := (A 48)) (a_heapIs := (A 49)) (a_endings := (A 56)) (a_bytes := (A 24)) (a_routeNet := (A 25)) (a_routeWidth := (A 26)) (a_routePort := (A 27)) (a_policyWay := (A 29)) (a_policyFrom := (A 30)) (a_policyFromWidth := (A 31)) (a_policyTo := (A 32)) (a_policyToWidth := (A 33)) (a_policyKind := (A 34)) (a_policyLow := (A 35)) (a_policyHigh := (A 36)) (a_policyDone := (A 37)) (a_sealWay := (A 38)) (a_sealTunnel := (A 39)) (a_sealName := (A 40)) (a_sealKey := (A 41)) (a_sealStamp := (A 42)) (a_sealLong := (A 43)) (a_sealLife := (A 44)) (a_sealStopped := (A 45)) (a_sealTop := (A 46)) (a_sealSeen := (A 47)) (a_heapFrom := (A 50)) (a_heapNumber := (A 51)) (a_heapEnd := (A 52)) (a_heapTurn := (A 53)) (a_heapTicks := (A 54)) (a_heapHas := (A 55)) (a_logReason := (A 57)) (a_logFrom := (A 58)) (a_logTo := (A 59)) (a_logName := (A 60)) (a_logNumber := (A 61)) (o_out := (A 62)) rfl rfl rfl rfl rfl rfl rfl rfl rfl rfl rfl rfl rfl rfl rfl rfl rfl rfl rfl rfl rfl rfl rfl rfl rfl rfl rfl rfl rfl rfl rfl rfl rfl rfl rfl rfl rfl rfl rfl rfl rfl rfl rfl rfl rfl rfl rfl rfl rfl rfl rfl rfl rfl rfl rfl rfl rfl rfl rfl rfl rfl rfl rfl rfl rfl rfl rfl rfl rfl rfl rfl rfl rfl rfl rfl rfl rfl rfl rfl rfl rfl rfl rfl rfl rfl rfl rfl) (Nat.le_of_ble_eq_true rfl) (Nat.le_of_ble_eq_true rfl) (Nat.le_of_ble_eq_true rfl) (Nat.le_of_ble_eq_true rfl)
    refine rn_tableOut (tgt := 1865) dL_law_50 (by simp only [← Int32.toInt_inj, i32_0, i32_1, i32_2, i32_3, i32_4, i32_5, i32_6, i32_7, i32_8, i32_9, i32_10, i32_11, i32_12, i32_13, i32_14, i32_15, i32_16, i32_17, i32_18, i32_19, i32_20, i32_21, i32_22, i32_23, i32_24] at *; omega) (by decide) ?_
    exact law_end G _ hL _ _ _
theorem c_L_cell (G : rn_G) (ws : va_W) (hLe : G.2.2.2.2.1.2.1 ≤ 11) : Rn G mL_cell 0 0 0 0 0 (lv_args 0 [.ref G.2.2.2.2.1.1, .int (0 : Int32)]) [] ws (fun r w => (∃ hv0 : Int32, True ∧ r = Sum.inl (some (.int hv0)) ∧ w = ws)) := by
  refine rn_lv [(0, .ref G.2.2.2.2.1.1), (1, .int (0 : Int32))] rfl ?_
  refine rn_iload_n (i := 1) dL_cell_0 rfl rfl ?_
  refine rn_aload_n (i := 0) dL_cell_1 rfl rfl ?_
  refine rn_slen dL_cell_2 ?_
  refine rn_icmp_ge (tgt := 12) dL_cell_3 (by decide) (fun h => ?_) (fun h => ?_)
  · refine rn_iconst (v := (0 : Int32)) dL_cell_12 (by decide) ?_
    exact rn_iret dL_cell_13 rfl rfl ⟨_, trivial, rfl, rfl⟩
  · refine rn_aload_n (i := 0) dL_cell_6 rfl rfl ?_
    refine rn_iload_n (i := 1) dL_cell_7 rfl rfl ?_
    refine rn_sld (rn_in ⟨by decide, by
      have e1 : (Int32.ofNat G.2.2.2.2.1.2.1).toInt = (G.2.2.2.2.1.2.1 : Int) := nI_toInt (by omega)
      rw [Int32.le_iff_toInt_le, e1] at h
      simp only [Int32.toInt_zero] at *
      omega⟩) dL_cell_8 ?_
    refine rn_goto (tgt := 13) dL_cell_9 (by decide) ?_
    exact rn_iret dL_cell_13 rfl rfl ⟨_, trivial, rfl, rfl⟩
set_option maxRecDepth 50000 in
set_option maxHeartbeats 8000000 in
theorem law_start (G : rn_G) (hLe : G.2.2.2.2.1.2.1 ≤ 11) : Rn G mL_law 9 163 66 40955 0 [(0, .ref G.2.2.2.2.1.1)] [] ([] : va_W) (fun r _ => r = Sum.inl (some (.int 1))) := by
  refine rn_new (a := 65) (b := 40939) kn_SGLaw_8 (Nat.le_of_ble_eq_true rfl) (Nat.le_of_ble_eq_true rfl) dL_law_0 (fun q1 => ?_)
  refine rn_dup dL_law_3 rfl ?_
  refine rn_aload_n (i := 0) dL_law_4 rfl rfl ?_
  refine rn_iconst (v := (0 : Int32)) dL_law_5 (by decide) ?_
  refine rn_callS (a := 65) (b := 40939) [.ref G.2.2.2.2.1.1, .int (0 : Int32)] kl_SGLaw_93 dL_law_6 (c_L_cell G _ hLe) rfl rfl (Nat.le_of_ble_eq_true rfl) (Nat.le_of_ble_eq_true rfl) (Nat.le_of_ble_eq_true rfl) (Nat.le_of_ble_eq_true rfl) (Nat.le_of_ble_eq_true rfl) (Nat.le_of_ble_eq_true rfl) (by rintro E w h; rcases h with ⟨_, _, hr, _⟩ <;> cases hr) ?_
  rintro v w h
  obtain ⟨hv2, hc3, hr, hw⟩ := h; cases hr; subst hw
  refine rn_stk [.int hv2, .ref q1, .ref q1] rfl ?_
  refine rn_callI (a := 43) (b := 30539) [.int hv2] kl_SGLaw_99 dL_law_9 (c_X9_init G q1 hv2) (by rintro E w h; rcases h with ⟨_, _, _, _, _, _, _, _, _, _, _, _, _, _, _, _, _, _, _, _, _, _, _, hr, _⟩ <;> cases hr) rfl rfl (Nat.le_of_ble_eq_true rfl) (Nat.le_of_ble_eq_true rfl) (Nat.le_of_ble_eq_true rfl) (Nat.le_of_ble_eq_true rfl) (Nat.le_of_ble_eq_true rfl) (Nat.le_of_ble_eq_true rfl) ?_
  rintro v w h
  obtain ⟨q4, q5, q6, q7, q8, q9, q10, q11, q12, q13, q14, q15, q16, q17, q18, q19, q20, q21, q22, q23, q24, q25, hc26, hr, hw⟩ := h; cases hr; subst hw
  refine rn_stk [.ref q1] rfl ?_
  refine rn_astore_n dL_law_12 rfl (by decide) [(0, .ref G.2.2.2.2.1.1), (1, .ref q1)] rfl ?_
  refine rn_new (a := 42) (b := 30485) kn_SGLaw_101 (Nat.le_of_ble_eq_true rfl) (Nat.le_of_ble_eq_true rfl) dL_law_13 (fun q27 => ?_)
  refine rn_dup dL_law_16 rfl ?_
  refine rn_aload_n (i := 0) dL_law_17 rfl rfl ?_
  refine rn_iconst (v := (0 : Int32)) dL_law_18 (by decide) ?_
  refine rn_callS (a := 42) (b := 30485) [.ref G.2.2.2.2.1.1, .int (0 : Int32)] kl_SGLaw_93 dL_law_19 (c_L_cell G _ hLe) rfl rfl (Nat.le_of_ble_eq_true rfl) (Nat.le_of_ble_eq_true rfl) (Nat.le_of_ble_eq_true rfl) (Nat.le_of_ble_eq_true rfl) (Nat.le_of_ble_eq_true rfl) (Nat.le_of_ble_eq_true rfl) (by rintro E w h; rcases h with ⟨_, _, hr, _⟩ <;> cases hr) ?_
  rintro v w h
  obtain ⟨hv28, hc29, hr, hw⟩ := h; cases hr; subst hw
  refine rn_stk [.int hv28, .ref q27, .ref q27] rfl ?_
  refine rn_callI (a := 4) (b := 13) [.int hv28] kl_SGLaw_103 dL_law_22 (c_X10_init G _ rfl q27 hv28) (by rintro E w h; rcases h with ⟨_, _, _, _, _, _, _, _, _, _, _, _, _, _, _, _, _, _, _, _, _, _, _, _, _, _, _, _, _, _, _, _, _, _, _, _, _, _, _, hr, _⟩ <;> cases hr) rfl rfl (Nat.le_of_ble_eq_true rfl) (Nat.le_of_ble_eq_true rfl) (Nat.le_of_ble_eq_true rfl) (Nat.le_of_ble_eq_true rfl) (Nat.le_of_ble_eq_true rfl) (Nat.le_of_ble_eq_true rfl) ?_
  rintro v w h
  obtain ⟨q30, q31, q32, q33, q34, q35, q36, q37, q38, q39, q40, q41, q42, q43, q44, q45, q46, q47, q48, q49, q50, q51, q52, q53, q54, q55, q56, q57, q58, q59, q60, q61, q62, q63, q64, q65, q66, q67, hc68, hr, hw⟩ := h; cases hr; subst hw
  refine rn_stk [.ref q27] rfl ?_
  refine rn_astore_n dL_law_25 rfl (by decide) [(0, .ref G.2.2.2.2.1.1), (1, .ref q1), (2, .ref q27)] rfl ?_
  refine rn_iconst (v := (1 : Int32)) dL_law_26 (by decide) ?_
  refine rn_newa (a := 3) (b := 12) (t0 := 2) (N' := 1) (av := (1, .inr (.inl (fun _ => 0)))) (ty := .long) (Nat.le_of_ble_eq_true rfl) (Nat.le_of_ble_eq_true rfl) rfl rfl (by intro C9 h; cases h) wd_1256 (fun _ => rfl) (by decide) (by decide) (by decide) dL_law_27 (fun q69 => ?_)
  refine rn_astore_n dL_law_29 rfl (by decide) [(0, .ref G.2.2.2.2.1.1), (1, .ref q1), (2, .ref q27), (3, .ref q69)] rfl ?_
  refine rn_iconst (v := (1 : Int32)) dL_law_30 (by decide) ?_
  refine rn_istore dL_law_31 (by decide) [(0, .ref G.2.2.2.2.1.1), (1, .ref q1), (2, .ref q27), (3, .ref q69), (4, .int (1 : Int32))] rfl ?_
  refine rn_world (w0 G hv2 hv28 (fun i => ([q1, q4, q5, q6, q7, q8, q9, q10, q11, q12, q13, q14, q15, q16, q17, q18, q19, q20, q21, q22, q23, q24, q25, q27, q30, q31, q32, q33, q34, q35, q36, q37, q38, q39, q40, q41, q42, q43, q44, q45, q46, q47, q48, q49, q50, q51, q52, q53, q54, q55, q56, q57, q58, q59, q60, q61, q62, q63, q64, q65, q66, q67, q69] : List Nat).getD i 0)) rfl ?_
  exact rn_room (law_at33 G hLe hv2 hv28 (fun i => ([q1, q4, q5, q6, q7, q8, q9, q10, q11, q12, q13, q14, q15, q16, q17, q18, q19, q20, q21, q22, q23, q24, q25, q27, q30, q31, q32, q33, q34, q35, q36, q37, q38, q39, q40, q41, q42, q43, q44, q45, q46, q47, q48, q49, q50, q51, q52, q53, q54, q55, q56, q57, q58, q59, q60, q61, q62, q63, q64, q65, q66, q67, q69] : List Nat).getD i 0)) (Nat.le_of_ble_eq_true rfl) (Nat.le_of_ble_eq_true rfl) (Nat.le_of_ble_eq_true rfl) (Nat.le_of_ble_eq_true rfl)
