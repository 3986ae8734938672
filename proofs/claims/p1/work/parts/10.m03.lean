set_option maxRecDepth 20000 in
set_option maxHeartbeats 4000000 in
theorem c_J7_fill_53178_ends (G : rn_G) (ws : va_W) (o_ends : Nat) (x : Int32) (h_ends : ws[22]? = some (o_ends, Sum.inl (rn_k G 1, 18, Sum.inl (fun _ => 0)))) : Rn G mJ7_fill_53178 0 0 0 0 0 (lv_args 0 [.ref o_ends, .int x]) [] ws (fun r w => (∃ hg36 : Nat → Int32, True ∧ r = Sum.inl none ∧ w = (ws.set 22 (o_ends, Sum.inl (rn_k G 1, 18, Sum.inl hg36))))) := by
  refine rn_lv [(0, .ref o_ends), (1, .int x)] rfl ?_
  refine rn_iconst (v := (0 : Int32)) dJ7_fill_53178_0 (by decide) ?_
  refine rn_istore_n dJ7_fill_53178_1 rfl (by decide) [(0, .ref o_ends), (1, .int x), (2, .int (0 : Int32))] rfl ?_
  refine rn_aload_n (i := 0) dJ7_fill_53178_2 rfl rfl ?_
  refine rn_alen 22 1 (v := (18 : Int32)) h_ends rfl (by decide) dJ7_fill_53178_3 ?_
  refine rn_istore_n dJ7_fill_53178_4 rfl (by decide) [(0, .ref o_ends), (1, .int x), (2, .int (0 : Int32)), (3, .int (18 : Int32))] rfl ?_
  refine rn_iload_n (i := 2) dJ7_fill_53178_5 rfl rfl ?_
  refine rn_iload_n (i := 3) dJ7_fill_53178_6 rfl rfl ?_
  refine rn_icmp_ge (tgt := 20) dJ7_fill_53178_7 (by decide) (fun h1 => absurd h1 (by decide)) (fun h1 => ?_)
  refine rn_aload_n (i := 0) dJ7_fill_53178_10 rfl rfl ?_
  refine rn_iload_n (i := 2) dJ7_fill_53178_11 rfl rfl ?_
  refine rn_iload_n (i := 1) dJ7_fill_53178_12 rfl rfl ?_
  refine rn_iastF 22 1 h_ends rfl (by unfold vp_in; decide) dJ7_fill_53178_13 (fun hg2 => ?_)
  refine rn_iinc (v := (1 : Int32)) dJ7_fill_53178_14 rfl (by decide) (by decide) [(0, .ref o_ends), (1, .int x), (2, .int (1 : Int32)), (3, .int (18 : Int32))] rfl ?_
  refine rn_goto (tgt := 5) dJ7_fill_53178_17 (by decide) ?_
  refine rn_iload_n (i := 2) dJ7_fill_53178_5 rfl rfl ?_
  refine rn_iload_n (i := 3) dJ7_fill_53178_6 rfl rfl ?_
  refine rn_icmp_ge (tgt := 20) dJ7_fill_53178_7 (by decide) (fun h3 => absurd h3 (by decide)) (fun h3 => ?_)
  refine rn_aload_n (i := 0) dJ7_fill_53178_10 rfl rfl ?_
  refine rn_iload_n (i := 2) dJ7_fill_53178_11 rfl rfl ?_
  refine rn_iload_n (i := 1) dJ7_fill_53178_12 rfl rfl ?_
  refine rn_iastC 22 1 (ls_eq h_ends) rfl (by unfold vp_in; decide) dJ7_fill_53178_13 (fun hg4 => ?_)
  refine rn_iinc (v := (2 : Int32)) dJ7_fill_53178_14 rfl (by decide) (by decide) [(0, .ref o_ends), (1, .int x), (2, .int (2 : Int32)), (3, .int (18 : Int32))] rfl ?_
  refine rn_goto (tgt := 5) dJ7_fill_53178_17 (by decide) ?_
  refine rn_iload_n (i := 2) dJ7_fill_53178_5 rfl rfl ?_
  refine rn_iload_n (i := 3) dJ7_fill_53178_6 rfl rfl ?_
  refine rn_icmp_ge (tgt := 20) dJ7_fill_53178_7 (by decide) (fun h5 => absurd h5 (by decide)) (fun h5 => ?_)
  refine rn_aload_n (i := 0) dJ7_fill_53178_10 rfl rfl ?_
  refine rn_iload_n (i := 2) dJ7_fill_53178_11 rfl rfl ?_
  refine rn_iload_n (i := 1) dJ7_fill_53178_12 rfl rfl ?_
  refine rn_iastC 22 1 (ls_eq h_ends) rfl (by unfold vp_in; decide) dJ7_fill_53178_13 (fun hg6 => ?_)
  refine rn_iinc (v := (3 : Int32)) dJ7_fill_53178_14 rfl (by decide) (by decide) [(0, .ref o_ends), (1, .int x), (2, .int (3 : Int32)), (3, .int (18 : Int32))] rfl ?_
  refine rn_goto (tgt := 5) dJ7_fill_53178_17 (by decide) ?_
  refine rn_iload_n (i := 2) dJ7_fill_53178_5 rfl rfl ?_
  refine rn_iload_n (i := 3) dJ7_fill_53178_6 rfl rfl ?_
  refine rn_icmp_ge (tgt := 20) dJ7_fill_53178_7 (by decide) (fun h7 => absurd h7 (by decide)) (fun h7 => ?_)
  refine rn_aload_n (i := 0) dJ7_fill_53178_10 rfl rfl ?_
  refine rn_iload_n (i := 2) dJ7_fill_53178_11 rfl rfl ?_
  refine rn_iload_n (i := 1) dJ7_fill_53178_12 rfl rfl ?_
  refine rn_iastC 22 1 (ls_eq h_ends) rfl (by unfold vp_in; decide) dJ7_fill_53178_13 (fun hg8 => ?_)
  refine rn_iinc (v := (4 : Int32)) dJ7_fill_53178_14 rfl (by decide) (by decide) [(0, .ref o_ends), (1, .int x), (2, .int (4 : Int32)), (3, .int (18 : Int32))] rfl ?_
  refine rn_goto (tgt := 5) dJ7_fill_53178_17 (by decide) ?_
  refine rn_iload_n (i := 2) dJ7_fill_53178_5 rfl rfl ?_
  refine rn_iload_n (i := 3) dJ7_fill_53178_6 rfl rfl ?_
  refine rn_icmp_ge (tgt := 20) dJ7_fill_53178_7 (by decide) (fun h9 => absurd h9 (by decide)) (fun h9 => ?_)
  refine rn_aload_n (i := 0) dJ7_fill_53178_10 rfl rfl ?_
  refine rn_iload_n (i := 2) dJ7_fill_53178_11 rfl rfl ?_
  refine rn_iload_n (i := 1) dJ7_fill_53178_12 rfl rfl ?_
  refine rn_iastC 22 1 (ls_eq h_ends) rfl (by unfold vp_in; decide) dJ7_fill_53178_13 (fun hg10 => ?_)
  refine rn_iinc (v := (5 : Int32)) dJ7_fill_53178_14 rfl (by decide) (by decide) [(0, .ref o_ends), (1, .int x), (2, .int (5 : Int32)), (3, .int (18 : Int32))] rfl ?_
  refine rn_goto (tgt := 5) dJ7_fill_53178_17 (by decide) ?_
  refine rn_iload_n (i := 2) dJ7_fill_53178_5 rfl rfl ?_
  refine rn_iload_n (i := 3) dJ7_fill_53178_6 rfl rfl ?_
  refine rn_icmp_ge (tgt := 20) dJ7_fill_53178_7 (by decide) (fun h11 => absurd h11 (by decide)) (fun h11 => ?_)
  refine rn_aload_n (i := 0) dJ7_fill_53178_10 rfl rfl ?_
  refine rn_iload_n (i := 2) dJ7_fill_53178_11 rfl rfl ?_
  refine rn_iload_n (i := 1) dJ7_fill_53178_12 rfl rfl ?_
  refine rn_iastC 22 1 (ls_eq h_ends) rfl (by unfold vp_in; decide) dJ7_fill_53178_13 (fun hg12 => ?_)
  refine rn_iinc (v := (6 : Int32)) dJ7_fill_53178_14 rfl (by decide) (by decide) [(0, .ref o_ends), (1, .int x), (2, .int (6 : Int32)), (3, .int (18 : Int32))] rfl ?_
  refine rn_goto (tgt := 5) dJ7_fill_53178_17 (by decide) ?_
  refine rn_iload_n (i := 2) dJ7_fill_53178_5 rfl rfl ?_
  refine rn_iload_n (i := 3) dJ7_fill_53178_6 rfl rfl ?_
  refine rn_icmp_ge (tgt := 20) dJ7_fill_53178_7 (by decide) (fun h13 => absurd h13 (by decide)) (fun h13 => ?_)
  refine rn_aload_n (i := 0) dJ7_fill_53178_10 rfl rfl ?_
  refine rn_iload_n (i := 2) dJ7_fill_53178_11 rfl rfl ?_
  refine rn_iload_n (i := 1) dJ7_fill_53178_12 rfl rfl ?_
  refine rn_iastC 22 1 (ls_eq h_ends) rfl (by unfold vp_in; decide) dJ7_fill_53178_13 (fun hg14 => ?_)
  refine rn_iinc (v := (7 : Int32)) dJ7_fill_53178_14 rfl (by decide) (by decide) [(0, .ref o_ends), (1, .int x), (2, .int (7 : Int32)), (3, .int (18 : Int32))] rfl ?_
  refine rn_goto (tgt := 5) dJ7_fill_53178_17 (by decide) ?_
  refine rn_iload_n (i := 2) dJ7_fill_53178_5 rfl rfl ?_
  refine rn_iload_n (i := 3) dJ7_fill_53178_6 rfl rfl ?_
  refine rn_icmp_ge (tgt := 20) dJ7_fill_53178_7 (by decide) (fun h15 => absurd h15 (by decide)) (fun h15 => ?_)
  refine rn_aload_n (i := 0) dJ7_fill_53178_10 rfl rfl ?_
  refine rn_iload_n (i := 2) dJ7_fill_53178_11 rfl rfl ?_
  refine rn_iload_n (i := 1) dJ7_fill_53178_12 rfl rfl ?_
  refine rn_iastC 22 1 (ls_eq h_ends) rfl (by unfold vp_in; decide) dJ7_fill_53178_13 (fun hg16 => ?_)
  refine rn_iinc (v := (8 : Int32)) dJ7_fill_53178_14 rfl (by decide) (by decide) [(0, .ref o_ends), (1, .int x), (2, .int (8 : Int32)), (3, .int (18 : Int32))] rfl ?_
  refine rn_goto (tgt := 5) dJ7_fill_53178_17 (by decide) ?_
  refine rn_iload_n (i := 2) dJ7_fill_53178_5 rfl rfl ?_
  refine rn_iload_n (i := 3) dJ7_fill_53178_6 rfl rfl ?_
  refine rn_icmp_ge (tgt := 20) dJ7_fill_53178_7 (by decide) (fun h17 => absurd h17 (by decide)) (fun h17 => ?_)
  refine rn_aload_n (i := 0) dJ7_fill_53178_10 rfl rfl ?_
  refine rn_iload_n (i := 2) dJ7_fill_53178_11 rfl rfl ?_
  refine rn_iload_n (i := 1) dJ7_fill_53178_12 rfl rfl ?_
  refine rn_iastC 22 1 (ls_eq h_ends) rfl (by unfold vp_in; decide) dJ7_fill_53178_13 (fun hg18 => ?_)
  refine rn_iinc (v := (9 : Int32)) dJ7_fill_53178_14 rfl (by decide) (by decide) [(0, .ref o_ends), (1, .int x), (2, .int (9 : Int32)), (3, .int (18 : Int32))] rfl ?_
  refine rn_goto (tgt := 5) dJ7_fill_53178_17 (by decide) ?_
  refine rn_iload_n (i := 2) dJ7_fill_53178_5 rfl rfl ?_
  refine rn_iload_n (i := 3) dJ7_fill_53178_6 rfl rfl ?_
  refine rn_icmp_ge (tgt := 20) dJ7_fill_53178_7 (by decide) (fun h19 => absurd h19 (by decide)) (fun h19 => ?_)
  refine rn_aload_n (i := 0) dJ7_fill_53178_10 rfl rfl ?_
  refine rn_iload_n (i := 2) dJ7_fill_53178_11 rfl rfl ?_
  refine rn_iload_n (i := 1) dJ7_fill_53178_12 rfl rfl ?_
  refine rn_iastC 22 1 (ls_eq h_ends) rfl (by unfold vp_in; decide) dJ7_fill_53178_13 (fun hg20 => ?_)
  refine rn_iinc (v := (10 : Int32)) dJ7_fill_53178_14 rfl (by decide) (by decide) [(0, .ref o_ends), (1, .int x), (2, .int (10 : Int32)), (3, .int (18 : Int32))] rfl ?_
  refine rn_goto (tgt := 5) dJ7_fill_53178_17 (by decide) ?_
  refine rn_iload_n (i := 2) dJ7_fill_53178_5 rfl rfl ?_
  refine rn_iload_n (i := 3) dJ7_fill_53178_6 rfl rfl ?_
  refine rn_icmp_ge (tgt := 20) dJ7_fill_53178_7 (by decide) (fun h21 => absurd h21 (by decide)) (fun h21 => ?_)
  refine rn_aload_n (i := 0) dJ7_fill_53178_10 rfl rfl ?_
  refine rn_iload_n (i := 2) dJ7_fill_53178_11 rfl rfl ?_
  refine rn_iload_n (i := 1) dJ7_fill_53178_12 rfl rfl ?_
  refine rn_iastC 22 1 (ls_eq h_ends) rfl (by unfold vp_in; decide) dJ7_fill_53178_13 (fun hg22 => ?_)
  refine rn_iinc (v := (11 : Int32)) dJ7_fill_53178_14 rfl (by decide) (by decide) [(0, .ref o_ends), (1, .int x), (2, .int (11 : Int32)), (3, .int (18 : Int32))] rfl ?_
  refine rn_goto (tgt := 5) dJ7_fill_53178_17 (by decide) ?_
  refine rn_iload_n (i := 2) dJ7_fill_53178_5 rfl rfl ?_
  refine rn_iload_n (i := 3) dJ7_fill_53178_6 rfl rfl ?_
  refine rn_icmp_ge (tgt := 20) dJ7_fill_53178_7 (by decide) (fun h23 => absurd h23 (by decide)) (fun h23 => ?_)
  refine rn_aload_n (i := 0) dJ7_fill_53178_10 rfl rfl ?_
  refine rn_iload_n (i := 2) dJ7_fill_53178_11 rfl rfl ?_
  refine rn_iload_n (i := 1) dJ7_fill_53178_12 rfl rfl ?_
  refine rn_iastC 22 1 (ls_eq h_ends) rfl (by unfold vp_in; decide) dJ7_fill_53178_13 (fun hg24 => ?_)
  refine rn_iinc (v := (12 : Int32)) dJ7_fill_53178_14 rfl (by decide) (by decide) [(0, .ref o_ends), (1, .int x), (2, .int (12 : Int32)), (3, .int (18 : Int32))] rfl ?_
  refine rn_goto (tgt := 5) dJ7_fill_53178_17 (by decide) ?_
  refine rn_iload_n (i := 2) dJ7_fill_53178_5 rfl rfl ?_
  refine rn_iload_n (i := 3) dJ7_fill_53178_6 rfl rfl ?_
  refine rn_icmp_ge (tgt := 20) dJ7_fill_53178_7 (by decide) (fun h25 => absurd h25 (by decide)) (fun h25 => ?_)
  refine rn_aload_n (i := 0) dJ7_fill_53178_10 rfl rfl ?_
  refine rn_iload_n (i := 2) dJ7_fill_53178_11 rfl rfl ?_
  refine rn_iload_n (i := 1) dJ7_fill_53178_12 rfl rfl ?_
  refine rn_iastC 22 1 (ls_eq h_ends) rfl (by unfold vp_in; decide) dJ7_fill_53178_13 (fun hg26 => ?_)
  refine rn_iinc (v := (13 : Int32)) dJ7_fill_53178_14 rfl (by decide) (by decide) [(0, .ref o_ends), (1, .int x), (2, .int (13 : Int32)), (3, .int (18 : Int32))] rfl ?_
  refine rn_goto (tgt := 5) dJ7_fill_53178_17 (by decide) ?_
  refine rn_iload_n (i := 2) dJ7_fill_53178_5 rfl rfl ?_
  refine rn_iload_n (i := 3) dJ7_fill_53178_6 rfl rfl ?_
  refine rn_icmp_ge (tgt := 20) dJ7_fill_53178_7 (by decide) (fun h27 => absurd h27 (by decide)) (fun h27 => ?_)
  refine rn_aload_n (i := 0) dJ7_fill_53178_10 rfl rfl ?_
  refine rn_iload_n (i := 2) dJ7_fill_53178_11 rfl rfl ?_
  refine rn_iload_n (i := 1) dJ7_fill_53178_12 rfl rfl ?_
  refine rn_iastC 22 1 (ls_eq h_ends) rfl (by unfold vp_in; decide) dJ7_fill_53178_13 (fun hg28 => ?_)
  refine rn_iinc (v := (14 : Int32)) dJ7_fill_53178_14 rfl (by decide) (by decide) [(0, .ref o_ends), (1, .int x), (2, .int (14 : Int32)), (3, .int (18 : Int32))] rfl ?_
  refine rn_goto (tgt := 5) dJ7_fill_53178_17 (by decide) ?_
  refine rn_iload_n (i := 2) dJ7_fill_53178_5 rfl rfl ?_
  refine rn_iload_n (i := 3) dJ7_fill_53178_6 rfl rfl ?_
  refine rn_icmp_ge (tgt := 20) dJ7_fill_53178_7 (by decide) (fun h29 => absurd h29 (by decide)) (fun h29 => ?_)
  refine rn_aload_n (i := 0) dJ7_fill_53178_10 rfl rfl ?_
  refine rn_iload_n (i := 2) dJ7_fill_53178_11 rfl rfl ?_
  refine rn_iload_n (i := 1) dJ7_fill_53178_12 rfl rfl ?_
  refine rn_iastC 22 1 (ls_eq h_ends) rfl (by unfold vp_in; decide) dJ7_fill_53178_13 (fun hg30 => ?_)
  refine rn_iinc (v := (15 : Int32)) dJ7_fill_53178_14 rfl (by decide) (by decide) [(0, .ref o_ends), (1, .int x), (2, .int (15 : Int32)), (3, .int (18 : Int32))] rfl ?_
  refine rn_goto (tgt := 5) dJ7_fill_53178_17 (by decide) ?_
  refine rn_iload_n (i := 2) dJ7_fill_53178_5 rfl rfl ?_
  refine rn_iload_n (i := 3) dJ7_fill_53178_6 rfl rfl ?_
  refine rn_icmp_ge (tgt := 20) dJ7_fill_53178_7 (by decide) (fun h31 => absurd h31 (by decide)) (fun h31 => ?_)
  refine rn_aload_n (i := 0) dJ7_fill_53178_10 rfl rfl ?_
  refine rn_iload_n (i := 2) dJ7_fill_53178_11 rfl rfl ?_
  refine rn_iload_n (i := 1) dJ7_fill_53178_12 rfl rfl ?_
  refine rn_iastC 22 1 (ls_eq h_ends) rfl (by unfold vp_in; decide) dJ7_fill_53178_13 (fun hg32 => ?_)
  refine rn_iinc (v := (16 : Int32)) dJ7_fill_53178_14 rfl (by decide) (by decide) [(0, .ref o_ends), (1, .int x), (2, .int (16 : Int32)), (3, .int (18 : Int32))] rfl ?_
  refine rn_goto (tgt := 5) dJ7_fill_53178_17 (by decide) ?_
  refine rn_iload_n (i := 2) dJ7_fill_53178_5 rfl rfl ?_
  refine rn_iload_n (i := 3) dJ7_fill_53178_6 rfl rfl ?_
  refine rn_icmp_ge (tgt := 20) dJ7_fill_53178_7 (by decide) (fun h33 => absurd h33 (by decide)) (fun h33 => ?_)
  refine rn_aload_n (i := 0) dJ7_fill_53178_10 rfl rfl ?_
  refine rn_iload_n (i := 2) dJ7_fill_53178_11 rfl rfl ?_
  refine rn_iload_n (i := 1) dJ7_fill_53178_12 rfl rfl ?_
  refine rn_iastC 22 1 (ls_eq h_ends) rfl (by unfold vp_in; decide) dJ7_fill_53178_13 (fun hg34 => ?_)
  refine rn_iinc (v := (17 : Int32)) dJ7_fill_53178_14 rfl (by decide) (by decide) [(0, .ref o_ends), (1, .int x), (2, .int (17 : Int32)), (3, .int (18 : Int32))] rfl ?_
  refine rn_goto (tgt := 5) dJ7_fill_53178_17 (by decide) ?_
  refine rn_iload_n (i := 2) dJ7_fill_53178_5 rfl rfl ?_
  refine rn_iload_n (i := 3) dJ7_fill_53178_6 rfl rfl ?_
  refine rn_icmp_ge (tgt := 20) dJ7_fill_53178_7 (by decide) (fun h35 => absurd h35 (by decide)) (fun h35 => ?_)
  refine rn_aload_n (i := 0) dJ7_fill_53178_10 rfl rfl ?_
  refine rn_iload_n (i := 2) dJ7_fill_53178_11 rfl rfl ?_
  refine rn_iload_n (i := 1) dJ7_fill_53178_12 rfl rfl ?_
  refine rn_iastC 22 1 (ls_eq h_ends) rfl (by unfold vp_in; decide) dJ7_fill_53178_13 (fun hg36 => ?_)
  refine rn_iinc (v := (18 : Int32)) dJ7_fill_53178_14 rfl (by decide) (by decide) [(0, .ref o_ends), (1, .int x), (2, .int (18 : Int32)), (3, .int (18 : Int32))] rfl ?_
  refine rn_goto (tgt := 5) dJ7_fill_53178_17 (by decide) ?_
  refine rn_iload_n (i := 2) dJ7_fill_53178_5 rfl rfl ?_
  refine rn_iload_n (i := 3) dJ7_fill_53178_6 rfl rfl ?_
  refine rn_icmp_ge (tgt := 20) dJ7_fill_53178_7 (by decide) (fun h37 => ?_) (fun h37 => absurd h37 (by decide))
  exact rn_vret dJ7_fill_53178_20 rfl ⟨hg36, trivial, rfl, rfl⟩
set_option maxRecDepth 20000 in
set_option maxHeartbeats 4000000 in
theorem c_X9_clear (G : rn_G) (ws : va_W) (o_sg : Nat) (fs_sg : List Value) (o_tape : Nat) (o_sentF : Nat) (o_sentS : Nat) (o_routes : Nat) (o_pols : Nat) (o_peers : Nat) (o_heaps : Nat) (o_logs : Nat) (o_ends : Nat) (fs_tape : List Value) (fs_sentF : List Value) (fs_sentS : List Value) (fs_routes : List Value) (fs_pols : List Value) (fs_heaps : List Value) (fs_logs : List Value) (h_sg : ws[0]? = some (o_sg, Sum.inr (9, fs_sg))) (hf_sg_1 : fs_sg[1]? = some (.ref o_tape)) (hf_sg_4 : fs_sg[4]? = some (.ref o_sentF)) (hf_sg_5 : fs_sg[5]? = some (.ref o_sentS)) (hf_sg_6 : fs_sg[6]? = some (.int (-1 : Int32))) (hf_sg_7 : fs_sg[7]? = some (.ref o_routes)) (hf_sg_8 : fs_sg[8]? = some (.ref o_pols)) (hf_sg_9 : fs_sg[9]? = some (.ref o_peers)) (hf_sg_11 : fs_sg[11]? = some (.int (0 : Int32))) (hf_sg_12 : fs_sg[12]? = some (.int (0 : Int32))) (hf_sg_13 : fs_sg[13]? = some (.ref o_heaps)) (hf_sg_14 : fs_sg[14]? = some (.ref o_logs)) (hf_sg_15 : fs_sg[15]? = some (.ref o_ends)) (h_tape : ws[1]? = some (o_tape, Sum.inr (4, fs_tape))) (hf_tape_1 : fs_tape[1]? = some (.int (0 : Int32))) (h_sentF : ws[7]? = some (o_sentF, Sum.inr (4, fs_sentF))) (hf_sentF_1 : fs_sentF[1]? = some (.int (0 : Int32))) (h_sentS : ws[9]? = some (o_sentS, Sum.inr (4, fs_sentS))) (hf_sentS_1 : fs_sentS[1]? = some (.int (0 : Int32))) (h_routes : ws[11]? = some (o_routes, Sum.inr (7, fs_routes))) (hf_routes_2 : fs_routes[2]? = some (.int (0 : Int32))) (h_pols : ws[14]? = some (o_pols, Sum.inr (5, fs_pols))) (hf_pols_1 : fs_pols[1]? = some (.int (0 : Int32))) (hf_pols_2 : fs_pols[2]? = some (.int (0 : Int32))) (hf_pols_3 : fs_pols[3]? = some (.int (0 : Int32))) (hf_pols_4 : fs_pols[4]? = some (.int (65535 : Int32))) (h_peers : ws[16]? = some (o_peers, Sum.inl (rn_k G 1, 4, Sum.inl (fun _ => 0)))) (h_heaps : ws[18]? = some (o_heaps, Sum.inr (1, fs_heaps))) (hf_heaps_1 : fs_heaps[1]? = some (.int (0 : Int32))) (h_logs : ws[20]? = some (o_logs, Sum.inr (2, fs_logs))) (hf_logs_1 : fs_logs[1]? = some (.int (0 : Int32))) (h_ends : ws[22]? = some (o_ends, Sum.inl (rn_k G 1, 18, Sum.inl (fun _ => 0)))) : Rn G mX9_clear 2 43 0 0 0 (lv_args 0 [.ref o_sg]) [] ws (fun r w => (True ∧ r = Sum.inl none ∧ ∀ p : Nat, 23 ≤ p → w[p]? = ws[p]?)) := by
  refine rn_lv [(0, .ref o_sg)] rfl ?_
  refine rn_aload_n (i := 0) dX9_clear_0 rfl rfl ?_
  refine rn_get 0 kg_SG_10 h_sg hf_sg_1 dX9_clear_1 ?_
  refine rn_iconst (v := (0 : Int32)) dX9_clear_4 (by decide) ?_
  refine rn_callV (a := 0) (b := 0) [.int (0 : Int32)] kl_SG_87 dX9_clear_5 1 h_tape rfl (c_X4_resize G _ (o_p := o_tape) (n := (0 : Int32)) (i_p := 1) (fs_p := fs_tape) (sz_p := (0 : Int32)) h_tape hf_tape_1) rfl rfl (Nat.le_of_ble_eq_true rfl) (Nat.le_of_ble_eq_true rfl) (Nat.le_of_ble_eq_true rfl) (Nat.le_of_ble_eq_true rfl) (Nat.le_of_ble_eq_true rfl) (Nat.le_of_ble_eq_true rfl) (by rintro E w h; rcases h with ⟨_, hr, _⟩ | ⟨_, hr, _⟩ <;> cases hr) ?_
  rintro v w h
  rcases h with ⟨hc, hr, hw⟩ | ⟨hc, hr, hw⟩
  · have hc1 := hc; clear hc; cases hr; subst hw
    refine rn_stk [] rfl ?_
    refine rn_aload_n (i := 0) dX9_clear_8 rfl rfl ?_
    refine rn_get 0 kg_SG_22 (ls_ne (by decide) h_sg) hf_sg_4 dX9_clear_9 ?_
    refine rn_iconst (v := (0 : Int32)) dX9_clear_12 (by decide) ?_
    refine rn_callV (a := 0) (b := 0) [.int (0 : Int32)] kl_SG_87 dX9_clear_13 7 (ls_ne (by decide) h_sentF) rfl (c_X4_resize G _ (o_p := o_sentF) (n := (0 : Int32)) (i_p := 7) (fs_p := fs_sentF) (sz_p := (0 : Int32)) (ls_ne (by decide) h_sentF) hf_sentF_1) rfl rfl (Nat.le_of_ble_eq_true rfl) (Nat.le_of_ble_eq_true rfl) (Nat.le_of_ble_eq_true rfl) (Nat.le_of_ble_eq_true rfl) (Nat.le_of_ble_eq_true rfl) (Nat.le_of_ble_eq_true rfl) (by rintro E w h; rcases h with ⟨_, hr, _⟩ | ⟨_, hr, _⟩ <;> cases hr) ?_
    rintro v w h
    rcases h with ⟨hc, hr, hw⟩ | ⟨hc, hr, hw⟩
    · have hc2 := hc; clear hc; cases hr; subst hw
      refine rn_stk [] rfl ?_
      refine rn_aload_n (i := 0) dX9_clear_16 rfl rfl ?_
      refine rn_get 0 kg_SG_25 (ls_ne (by decide) (ls_ne (by decide) h_sg)) hf_sg_5 dX9_clear_17 ?_
      refine rn_iconst (v := (0 : Int32)) dX9_clear_20 (by decide) ?_
      refine rn_callV (a := 0) (b := 0) [.int (0 : Int32)] kl_SG_87 dX9_clear_21 9 (ls_ne (by decide) (ls_ne (by decide) h_sentS)) rfl (c_X4_resize G _ (o_p := o_sentS) (n := (0 : Int32)) (i_p := 9) (fs_p := fs_sentS) (sz_p := (0 : Int32)) (ls_ne (by decide) (ls_ne (by decide) h_sentS)) hf_sentS_1) rfl rfl (Nat.le_of_ble_eq_true rfl) (Nat.le_of_ble_eq_true rfl) (Nat.le_of_ble_eq_true rfl) (Nat.le_of_ble_eq_true rfl) (Nat.le_of_ble_eq_true rfl) (Nat.le_of_ble_eq_true rfl) (by rintro E w h; rcases h with ⟨_, hr, _⟩ | ⟨_, hr, _⟩ <;> cases hr) ?_
      rintro v w h
      rcases h with ⟨hc, hr, hw⟩ | ⟨hc, hr, hw⟩
      · have hc3 := hc; clear hc; cases hr; subst hw
        refine rn_stk [] rfl ?_
        refine rn_aload_n (i := 0) dX9_clear_24 rfl rfl ?_
        refine rn_iconst (v := (-1 : Int32)) dX9_clear_25 (by decide) ?_
        refine rn_put 0 (kp_SG_28 _) (ls_ne (by decide) (ls_ne (by decide) (ls_ne (by decide) h_sg))) (ls_lt hf_sg_6) rfl rfl dX9_clear_26 ?_
        refine rn_aload_n (i := 0) dX9_clear_29 rfl rfl ?_
        refine rn_get 0 kg_SG_35 (ls_eq (ls_ne (by decide) (ls_ne (by decide) (ls_ne (by decide) h_sg)))) (ls_ne (by decide) hf_sg_7) dX9_clear_30 ?_
        refine rn_callV (a := 0) (b := 0) [] kl_SG_281 dX9_clear_33 11 (ls_ne (by decide) (ls_ne (by decide) (ls_ne (by decide) (ls_ne (by decide) h_routes)))) rfl (c_X7_empty G _ (o_routes := o_routes) (fs_routes := fs_routes) (ls_ne (by decide) (ls_ne (by decide) (ls_ne (by decide) (ls_ne (by decide) h_routes)))) hf_routes_2) rfl rfl (Nat.le_of_ble_eq_true rfl) (Nat.le_of_ble_eq_true rfl) (Nat.le_of_ble_eq_true rfl) (Nat.le_of_ble_eq_true rfl) (Nat.le_of_ble_eq_true rfl) (Nat.le_of_ble_eq_true rfl) (by rintro E w h; rcases h with ⟨_, hr, _⟩ <;> cases hr) ?_
        rintro v w h
        obtain ⟨hc4, hr, hw⟩ := h; cases hr; subst hw
        refine rn_stk [] rfl ?_
        refine rn_aload_n (i := 0) dX9_clear_36 rfl rfl ?_
        refine rn_get 0 kg_SG_42 (ls_ne (by decide) (ls_eq (ls_ne (by decide) (ls_ne (by decide) (ls_ne (by decide) h_sg))))) (ls_ne (by decide) hf_sg_8) dX9_clear_37 ?_
        refine rn_callV (a := 0) (b := 0) [] kl_SG_284 dX9_clear_40 14 (ls_ne (by decide) (ls_ne (by decide) (ls_ne (by decide) (ls_ne (by decide) (ls_ne (by decide) h_pols))))) rfl (c_X5_empty G _ (o_pols := o_pols) (fs_pols := fs_pols) (ls_ne (by decide) (ls_ne (by decide) (ls_ne (by decide) (ls_ne (by decide) (ls_ne (by decide) h_pols))))) hf_pols_1 hf_pols_2 hf_pols_3 hf_pols_4) rfl rfl (Nat.le_of_ble_eq_true rfl) (Nat.le_of_ble_eq_true rfl) (Nat.le_of_ble_eq_true rfl) (Nat.le_of_ble_eq_true rfl) (Nat.le_of_ble_eq_true rfl) (Nat.le_of_ble_eq_true rfl) (by rintro E w h; rcases h with ⟨_, hr, _⟩ <;> cases hr) ?_
        rintro v w h
        obtain ⟨hc5, hr, hw⟩ := h; cases hr; subst hw
        refine rn_stk [] rfl ?_
        refine rn_aload_n (i := 0) dX9_clear_43 rfl rfl ?_
        refine rn_get 0 kg_SG_46 (ls_ne (by decide) (ls_ne (by decide) (ls_ne (by decide) (ls_ne (by decide) (ls_ne (by decide) (ls_eq (ls_ne (by decide) (ls_ne (by decide) (ls_ne (by decide) h_sg))))))))) (ls_ne (by decide) hf_sg_9) dX9_clear_44 ?_
        refine rn_iconst (v := (0 : Int32)) dX9_clear_47 (by decide) ?_
        refine rn_callS (a := 0) (b := 0) [.ref o_peers, .int (0 : Int32)] kl_SG_285 dX9_clear_48 (c_J7_fill_53178_peers G _ (o_peers := o_peers) (x := (0 : Int32)) (ls_ne (by decide) (ls_ne (by decide) (ls_ne (by decide) (ls_ne (by decide) (ls_ne (by decide) (ls_ne (by decide) (ls_ne (by decide) (ls_ne (by decide) (ls_ne (by decide) h_peers)))))))))) rfl rfl (Nat.le_of_ble_eq_true rfl) (Nat.le_of_ble_eq_true rfl) (Nat.le_of_ble_eq_true rfl) (Nat.le_of_ble_eq_true rfl) (Nat.le_of_ble_eq_true rfl) (Nat.le_of_ble_eq_true rfl) (by rintro E w h; rcases h with ⟨_, _, hr, _⟩ <;> cases hr) ?_
        rintro v w h
        obtain ⟨hg6, hc7, hr, hw⟩ := h; cases hr; subst hw
        refine rn_stk [] rfl ?_
        refine rn_aload_n (i := 0) dX9_clear_51 rfl rfl ?_
        refine rn_iconst (v := (0 : Int32)) dX9_clear_52 (by decide) ?_
        refine rn_put 0 (kp_SG_178 _) (ls_ne (by decide) (ls_ne (by decide) (ls_ne (by decide) (ls_ne (by decide) (ls_ne (by decide) (ls_ne (by decide) (ls_eq (ls_ne (by decide) (ls_ne (by decide) (ls_ne (by decide) h_sg)))))))))) (ls_lt (ls_ne (by decide) hf_sg_11)) rfl rfl dX9_clear_53 ?_
        refine rn_aload_n (i := 0) dX9_clear_56 rfl rfl ?_
        refine rn_iconst (v := (0 : Int32)) dX9_clear_57 (by decide) ?_
        refine rn_put 0 (kp_SG_275 _) (ls_eq (ls_ne (by decide) (ls_ne (by decide) (ls_ne (by decide) (ls_ne (by decide) (ls_ne (by decide) (ls_ne (by decide) (ls_eq (ls_ne (by decide) (ls_ne (by decide) (ls_ne (by decide) h_sg))))))))))) (ls_lt (ls_ne (by decide) (ls_ne (by decide) hf_sg_12))) rfl rfl dX9_clear_58 ?_
        refine rn_aload_n (i := 0) dX9_clear_61 rfl rfl ?_
        refine rn_get 0 kg_SG_59 (ls_eq (ls_eq (ls_ne (by decide) (ls_ne (by decide) (ls_ne (by decide) (ls_ne (by decide) (ls_ne (by decide) (ls_ne (by decide) (ls_eq (ls_ne (by decide) (ls_ne (by decide) (ls_ne (by decide) h_sg)))))))))))) (ls_ne (by decide) (ls_ne (by decide) (ls_ne (by decide) hf_sg_13))) dX9_clear_62 ?_
        refine rn_callV (a := 0) (b := 0) [] kl_SG_291 dX9_clear_65 18 (ls_ne (by decide) (ls_ne (by decide) (ls_ne (by decide) (ls_ne (by decide) (ls_ne (by decide) (ls_ne (by decide) (ls_ne (by decide) (ls_ne (by decide) (ls_ne (by decide) (ls_ne (by decide) (ls_ne (by decide) (ls_ne (by decide) h_heaps)))))))))))) rfl (c_X1_empty G _ (o_heaps := o_heaps) (fs_heaps := fs_heaps) (ls_ne (by decide) (ls_ne (by decide) (ls_ne (by decide) (ls_ne (by decide) (ls_ne (by decide) (ls_ne (by decide) (ls_ne (by decide) (ls_ne (by decide) (ls_ne (by decide) (ls_ne (by decide) (ls_ne (by decide) (ls_ne (by decide) h_heaps)))))))))))) hf_heaps_1) rfl rfl (Nat.le_of_ble_eq_true rfl) (Nat.le_of_ble_eq_true rfl) (Nat.le_of_ble_eq_true rfl) (Nat.le_of_ble_eq_true rfl) (Nat.le_of_ble_eq_true rfl) (Nat.le_of_ble_eq_true rfl) (by rintro E w h; rcases h with ⟨_, hr, _⟩ <;> cases hr) ?_
        rintro v w h
        obtain ⟨hc8, hr, hw⟩ := h; cases hr; subst hw
        refine rn_stk [] rfl ?_
        refine rn_aload_n (i := 0) dX9_clear_68 rfl rfl ?_
        refine rn_get 0 kg_SG_66 (ls_ne (by decide) (ls_eq (ls_eq (ls_ne (by decide) (ls_ne (by decide) (ls_ne (by decide) (ls_ne (by decide) (ls_ne (by decide) (ls_ne (by decide) (ls_eq (ls_ne (by decide) (ls_ne (by decide) (ls_ne (by decide) h_sg))))))))))))) (ls_ne (by decide) (ls_ne (by decide) (ls_ne (by decide) hf_sg_14))) dX9_clear_69 ?_
        refine rn_callV (a := 0) (b := 0) [] kl_SG_292 dX9_clear_72 20 (ls_ne (by decide) (ls_ne (by decide) (ls_ne (by decide) (ls_ne (by decide) (ls_ne (by decide) (ls_ne (by decide) (ls_ne (by decide) (ls_ne (by decide) (ls_ne (by decide) (ls_ne (by decide) (ls_ne (by decide) (ls_ne (by decide) (ls_ne (by decide) h_logs))))))))))))) rfl (c_X2_empty G _ (o_logs := o_logs) (fs_logs := fs_logs) (ls_ne (by decide) (ls_ne (by decide) (ls_ne (by decide) (ls_ne (by decide) (ls_ne (by decide) (ls_ne (by decide) (ls_ne (by decide) (ls_ne (by decide) (ls_ne (by decide) (ls_ne (by decide) (ls_ne (by decide) (ls_ne (by decide) (ls_ne (by decide) h_logs))))))))))))) hf_logs_1) rfl rfl (Nat.le_of_ble_eq_true rfl) (Nat.le_of_ble_eq_true rfl) (Nat.le_of_ble_eq_true rfl) (Nat.le_of_ble_eq_true rfl) (Nat.le_of_ble_eq_true rfl) (Nat.le_of_ble_eq_true rfl) (by rintro E w h; rcases h with ⟨_, hr, _⟩ <;> cases hr) ?_
        rintro v w h
        obtain ⟨hc9, hr, hw⟩ := h; cases hr; subst hw
        refine rn_stk [] rfl ?_
        refine rn_aload_n (i := 0) dX9_clear_75 rfl rfl ?_
        refine rn_get 0 kg_SG_70 (ls_ne (by decide) (ls_ne (by decide) (ls_eq (ls_eq (ls_ne (by decide) (ls_ne (by decide) (ls_ne (by decide) (ls_ne (by decide) (ls_ne (by decide) (ls_ne (by decide) (ls_eq (ls_ne (by decide) (ls_ne (by decide) (ls_ne (by decide) h_sg)))))))))))))) (ls_ne (by decide) (ls_ne (by decide) (ls_ne (by decide) hf_sg_15))) dX9_clear_76 ?_
        refine rn_iconst (v := (0 : Int32)) dX9_clear_79 (by decide) ?_
        refine rn_callS (a := 0) (b := 0) [.ref o_ends, .int (0 : Int32)] kl_SG_285 dX9_clear_80 (c_J7_fill_53178_ends G _ (o_ends := o_ends) (x := (0 : Int32)) (ls_ne (by decide) (ls_ne (by decide) (ls_ne (by decide) (ls_ne (by decide) (ls_ne (by decide) (ls_ne (by decide) (ls_ne (by decide) (ls_ne (by decide) (ls_ne (by decide) (ls_ne (by decide) (ls_ne (by decide) (ls_ne (by decide) (ls_ne (by decide) (ls_ne (by decide) h_ends))))))))))))))) rfl rfl (Nat.le_of_ble_eq_true rfl) (Nat.le_of_ble_eq_true rfl) (Nat.le_of_ble_eq_true rfl) (Nat.le_of_ble_eq_true rfl) (Nat.le_of_ble_eq_true rfl) (Nat.le_of_ble_eq_true rfl) (by rintro E w h; rcases h with ⟨_, _, hr, _⟩ <;> cases hr) ?_
        rintro v w h
        obtain ⟨hg10, hc11, hr, hw⟩ := h; cases hr; subst hw
        refine rn_stk [] rfl ?_
        exact rn_vret dX9_clear_83 rfl ⟨trivial, rfl, fun p hp => by rw [List.getElem?_set_ne (by omega), List.getElem?_set_ne (by omega), List.getElem?_set_ne (by omega), List.getElem?_set_ne (by omega), List.getElem?_set_ne (by omega), List.getElem?_set_ne (by omega), List.getElem?_set_ne (by omega), List.getElem?_set_ne (by omega), List.getElem?_set_ne (by omega), List.getElem?_set_ne (by omega), List.getElem?_set_ne (by omega), List.getElem?_set_ne (by omega), List.getElem?_set_ne (by omega), List.getElem?_set_ne (by omega), List.getElem?_set_ne (by omega)]⟩
      · have hc12 := hc; clear hc; cases hr; subst hw
        exact absurd hc12 (by decide)
    · have hc13 := hc; clear hc; cases hr; subst hw
      exact absurd hc13 (by decide)
  · have hc14 := hc; clear hc; cases hr; subst hw
    exact absurd hc14 (by decide)
set_option maxRecDepth 20000 in
set_option maxHeartbeats 4000000 in
theorem c_X10_in (G : rn_G) (ws : va_W) (x : Int32) (y : Int32) (u : Int32)  : Rn G mX10_in 0 0 0 0 0 (lv_args 0 [.int x, .int y, .int u]) [] ws (fun r w => (((x < y) ∨ (¬ (x < y) ∧ u < x)) ∧ r = Sum.inl (some (.int (0 : Int32))) ∧ w = ws) ∨ ((¬ (x < y) ∧ ¬ (u < x)) ∧ r = Sum.inl (some (.int (1 : Int32))) ∧ w = ws)) := by
  refine rn_lv [(0, .int x), (1, .int y), (2, .int u)] rfl ?_
  refine rn_iload_n (i := 0) dX10_in_0 rfl rfl ?_
  refine rn_iload_n (i := 1) dX10_in_1 rfl rfl ?_
  refine rn_icmp_lt (tgt := 14) dX10_in_2 (by decide) (fun h1 => ?_) (fun h1 => ?_)
  · refine rn_iconst (v := (0 : Int32)) dX10_in_14 (by decide) ?_
    exact rn_iret dX10_in_15 rfl rfl (Or.inl ⟨(Or.inl h1), rfl, rfl⟩)
  · refine rn_iload_n (i := 0) dX10_in_5 rfl rfl ?_
    refine rn_iload_n (i := 2) dX10_in_6 rfl rfl ?_
    refine rn_icmp_gt (tgt := 14) dX10_in_7 (by decide) (fun h2 => ?_) (fun h2 => ?_)
    · refine rn_iconst (v := (0 : Int32)) dX10_in_14 (by decide) ?_
      exact rn_iret dX10_in_15 rfl rfl (Or.inl ⟨(Or.inr ⟨h1, h2⟩), rfl, rfl⟩)
    · refine rn_iconst (v := (1 : Int32)) dX10_in_10 (by decide) ?_
      refine rn_goto (tgt := 15) dX10_in_11 (by decide) ?_
      exact rn_iret dX10_in_15 rfl rfl (Or.inr ⟨⟨h1, h2⟩, rfl, rfl⟩)
set_option maxRecDepth 20000 in
set_option maxHeartbeats 4000000 in
theorem c_X10_refuses (G : rn_G) (ws : va_W) (o_m : Nat) (x : Int32) (y : Int32) (fs_m : List Value) (th : Int32) (h_m : ws[23]? = some (o_m, Sum.inr (10, fs_m))) (hf_m_0 : fs_m[0]? = some (.int th)) : Rn G mX10_refuses 0 0 0 0 0 (lv_args 0 [.ref o_m, .int x, .int y]) [] ws (fun r w => (((¬ (th = (0 : Int32)) ∧ th ≤ (0 : Int32)) ∨ (th = (0 : Int32) ∧ x = (0 : Int32) ∧ th ≤ (0 : Int32))) ∧ r = Sum.inl (some (.int (0 : Int32))) ∧ w = ws) ∨ ((¬ (th = (0 : Int32)) ∧ ¬ (th ≤ (0 : Int32))) ∧ r = Sum.inl (some (.int (1 : Int32))) ∧ w = ws) ∨ ((th = (0 : Int32) ∧ ¬ (x = (0 : Int32)) ∧ y ≤ (0 : Int32)) ∧ r = Sum.inl (some (.int (0 : Int32))) ∧ w = (ws.set 23 (o_m, Sum.inr (10, (fs_m.set 0 (.int y)))))) ∨ ((th = (0 : Int32) ∧ ¬ (x = (0 : Int32)) ∧ ¬ (y ≤ (0 : Int32))) ∧ r = Sum.inl (some (.int (1 : Int32))) ∧ w = (ws.set 23 (o_m, Sum.inr (10, (fs_m.set 0 (.int y))))))) := by
  refine rn_lv [(0, .ref o_m), (1, .int x), (2, .int y)] rfl ?_
  refine rn_aload_n (i := 0) dX10_refuses_0 rfl rfl ?_
  refine rn_get 23 kg_SGModel_137 h_m hf_m_0 dX10_refuses_1 ?_
  refine rn_if_ne (tgt := 16) dX10_refuses_4 (by decide) (fun h1 => ?_) (fun h1 => ?_)
  · refine rn_aload_n (i := 0) dX10_refuses_16 rfl rfl ?_
    refine rn_get 23 kg_SGModel_137 h_m hf_m_0 dX10_refuses_17 ?_
    refine rn_if_le (tgt := 27) dX10_refuses_20 (by decide) (fun h2 => ?_) (fun h2 => ?_)
    · refine rn_iconst (v := (0 : Int32)) dX10_refuses_27 (by decide) ?_
      exact rn_iret dX10_refuses_28 rfl rfl (Or.inl ⟨(Or.inl ⟨h1, h2⟩), rfl, rfl⟩)
    · refine rn_iconst (v := (1 : Int32)) dX10_refuses_23 (by decide) ?_
      refine rn_goto (tgt := 28) dX10_refuses_24 (by decide) ?_
      exact rn_iret dX10_refuses_28 rfl rfl (Or.inr (Or.inl ⟨⟨h1, h2⟩, rfl, rfl⟩))
  · refine rn_iload_n (i := 1) dX10_refuses_7 rfl rfl ?_
    refine rn_if_eq (tgt := 16) dX10_refuses_8 (by decide) (fun h3 => ?_) (fun h3 => ?_)
    · refine rn_aload_n (i := 0) dX10_refuses_16 rfl rfl ?_
      refine rn_get 23 kg_SGModel_137 h_m hf_m_0 dX10_refuses_17 ?_
      refine rn_if_le (tgt := 27) dX10_refuses_20 (by decide) (fun h4 => ?_) (fun h4 => False.elim (by have g0 := i32_rng th; have g1 := i32_rng x; simp only [Int32.lt_iff_toInt_lt, Int32.le_iff_toInt_le, gt_iff_lt, ge_iff_le, ← Int32.toInt_inj, i32_0] at *; omega))
      refine rn_iconst (v := (0 : Int32)) dX10_refuses_27 (by decide) ?_
      exact rn_iret dX10_refuses_28 rfl rfl (Or.inl ⟨(Or.inr ⟨h1, h3, h4⟩), rfl, rfl⟩)
    · refine rn_aload_n (i := 0) dX10_refuses_11 rfl rfl ?_
      refine rn_iload_n (i := 2) dX10_refuses_12 rfl rfl ?_
      refine rn_put 23 (kp_SGModel_137 _) h_m (ls_lt hf_m_0) rfl rfl dX10_refuses_13 ?_
      refine rn_aload_n (i := 0) dX10_refuses_16 rfl rfl ?_
      refine rn_get 23 kg_SGModel_137 (ls_eq h_m) (ls_eq hf_m_0) dX10_refuses_17 ?_
      refine rn_if_le (tgt := 27) dX10_refuses_20 (by decide) (fun h5 => ?_) (fun h5 => ?_)
      · refine rn_iconst (v := (0 : Int32)) dX10_refuses_27 (by decide) ?_
        exact rn_iret dX10_refuses_28 rfl rfl (Or.inr (Or.inr (Or.inl ⟨⟨h1, h3, h5⟩, rfl, rfl⟩)))
      · refine rn_iconst (v := (1 : Int32)) dX10_refuses_23 (by decide) ?_
        refine rn_goto (tgt := 28) dX10_refuses_24 (by decide) ?_
        exact rn_iret dX10_refuses_28 rfl rfl (Or.inr (Or.inr (Or.inr ⟨⟨h1, h3, h5⟩, rfl, rfl⟩)))
set_option maxRecDepth 20000 in
set_option maxHeartbeats 4000000 in
theorem c_X10_thrown (G : rn_G) (ws : va_W) (o_m : Nat) (fs_m : List Value) (th : Int32) (h_m : ws[23]? = some (o_m, Sum.inr (10, fs_m))) (hf_m_0 : fs_m[0]? = some (.int th)) : Rn G mX10_thrown 0 0 0 0 0 (lv_args 0 [.ref o_m]) [] ws (fun r w => (True ∧ r = Sum.inl (some (.int th)) ∧ w = ws)) := by
  refine rn_lv [(0, .ref o_m)] rfl ?_
  refine rn_aload_n (i := 0) dX10_thrown_0 rfl rfl ?_
  refine rn_get 23 kg_SGModel_137 h_m hf_m_0 dX10_thrown_1 ?_
  exact rn_iret dX10_thrown_4 rfl rfl ⟨trivial, rfl, rfl⟩
set_option maxRecDepth 20000 in
set_option maxHeartbeats 4000000 in
theorem c_X10_putTwo (G : rn_G) (ws : va_W) (o_m : Nat) (p : Int32) (x : Int32) (fs_m : List Value) (a_bytes : Nat) (g_bytes : Nat → Int32) (h_m : ws[23]? = some (o_m, Sum.inr (10, fs_m))) (hf_m_2 : fs_m[2]? = some (.ref a_bytes)) (h_m_bytes : ws[24]? = some (a_bytes, Sum.inl (rn_k G 1, 22000, Sum.inl g_bytes))) (hp0 : (0 : Int32) ≤ p) (hp1 : p ≤ (21990 : Int32)) : Rn G mX10_putTwo 0 0 0 0 0 (lv_args 0 [.ref o_m, .int p, .int x]) [] ws (fun r w => (True ∧ r = Sum.inl none ∧ w = ((ws.set 24 (a_bytes, Sum.inl (rn_k G 1, 22000, Sum.inl (upd g_bytes (p).toNatClampNeg ((x >>> ((8 : Int32) &&& 31)) &&& (255 : Int32)))))).set 24 (a_bytes, Sum.inl (rn_k G 1, 22000, Sum.inl (upd (upd g_bytes (p).toNatClampNeg ((x >>> ((8 : Int32) &&& 31)) &&& (255 : Int32))) ((p + (1 : Int32))).toNatClampNeg (x &&& (255 : Int32)))))))) := by
  refine rn_lv [(0, .ref o_m), (1, .int p), (2, .int x)] rfl ?_
  refine rn_aload_n (i := 0) dX10_putTwo_0 rfl rfl ?_
  refine rn_get 23 kg_SGModel_7 h_m hf_m_2 dX10_putTwo_1 ?_
  refine rn_iload_n (i := 1) dX10_putTwo_4 rfl rfl ?_
  refine rn_iload_n (i := 2) dX10_putTwo_5 rfl rfl ?_
  refine rn_bipush (v := (8 : Int32)) dX10_putTwo_6 (by decide) ?_
  refine rn_ishr dX10_putTwo_8 ?_
  refine rn_sipush (v := (255 : Int32)) dX10_putTwo_9 (by decide) ?_
  refine rn_iand dX10_putTwo_12 ?_
  refine rn_iast 24 1 h_m_bytes rfl (rn_in (by have g0 := i32_rng p; simp only [Int32.lt_iff_toInt_lt, Int32.le_iff_toInt_le, gt_iff_lt, ge_iff_le, ← Int32.toInt_inj, i32_0, i32_21990] at *; omega)) dX10_putTwo_13 ?_
  refine rn_aload_n (i := 0) dX10_putTwo_14 rfl rfl ?_
  refine rn_get 23 kg_SGModel_7 (ls_ne (by decide) h_m) hf_m_2 dX10_putTwo_15 ?_
  refine rn_iload_n (i := 1) dX10_putTwo_18 rfl rfl ?_
  refine rn_iconst (v := (1 : Int32)) dX10_putTwo_19 (by decide) ?_
  refine rn_iadd dX10_putTwo_20 ?_
  refine rn_iload_n (i := 2) dX10_putTwo_21 rfl rfl ?_
  refine rn_sipush (v := (255 : Int32)) dX10_putTwo_22 (by decide) ?_
  refine rn_iand dX10_putTwo_25 ?_
  refine rn_iast 24 1 (ls_eq h_m_bytes) rfl (rn_in (by obtain ⟨k0, e0⟩ := i32_add p (1 : Int32); have g0 := i32_rng p; simp only [Int32.lt_iff_toInt_lt, Int32.le_iff_toInt_le, gt_iff_lt, ge_iff_le, ← Int32.toInt_inj, i32_0, i32_1, i32_21990] at *; omega)) dX10_putTwo_26 ?_
  exact rn_vret dX10_putTwo_27 rfl ⟨trivial, rfl, rfl⟩
set_option maxRecDepth 20000 in
set_option maxHeartbeats 4000000 in
theorem c_X10_putFour (G : rn_G) (ws : va_W) (o_m : Nat) (p : Int32) (x : Int32) (fs_m : List Value) (a_bytes : Nat) (g_bytes : Nat → Int32) (h_m : ws[23]? = some (o_m, Sum.inr (10, fs_m))) (hf_m_2 : fs_m[2]? = some (.ref a_bytes)) (h_m_bytes : ws[24]? = some (a_bytes, Sum.inl (rn_k G 1, 22000, Sum.inl g_bytes))) (hp0 : (0 : Int32) ≤ p) (hp1 : p ≤ (21980 : Int32)) : Rn G mX10_putFour 1 22 0 0 0 (lv_args 0 [.ref o_m, .int p, .int x]) [] ws (fun r w => (True ∧ r = Sum.inl none ∧ w = ((((ws.set 24 (a_bytes, Sum.inl (rn_k G 1, 22000, Sum.inl (upd g_bytes (p).toNatClampNeg ((((x).toUInt32 >>> (((16 : Int32)).toUInt32 &&& Int32.toUInt32 31)).toInt32 >>> ((8 : Int32) &&& 31)) &&& (255 : Int32)))))).set 24 (a_bytes, Sum.inl (rn_k G 1, 22000, Sum.inl (upd (upd g_bytes (p).toNatClampNeg ((((x).toUInt32 >>> (((16 : Int32)).toUInt32 &&& Int32.toUInt32 31)).toInt32 >>> ((8 : Int32) &&& 31)) &&& (255 : Int32))) ((p + (1 : Int32))).toNatClampNeg (((x).toUInt32 >>> (((16 : Int32)).toUInt32 &&& Int32.toUInt32 31)).toInt32 &&& (255 : Int32)))))).set 24 (a_bytes, Sum.inl (rn_k G 1, 22000, Sum.inl (upd (upd (upd g_bytes (p).toNatClampNeg ((((x).toUInt32 >>> (((16 : Int32)).toUInt32 &&& Int32.toUInt32 31)).toInt32 >>> ((8 : Int32) &&& 31)) &&& (255 : Int32))) ((p + (1 : Int32))).toNatClampNeg (((x).toUInt32 >>> (((16 : Int32)).toUInt32 &&& Int32.toUInt32 31)).toInt32 &&& (255 : Int32))) ((p + (2 : Int32))).toNatClampNeg (((x &&& (65535 : Int32)) >>> ((8 : Int32) &&& 31)) &&& (255 : Int32)))))).set 24 (a_bytes, Sum.inl (rn_k G 1, 22000, Sum.inl (upd (upd (upd (upd g_bytes (p).toNatClampNeg ((((x).toUInt32 >>> (((16 : Int32)).toUInt32 &&& Int32.toUInt32 31)).toInt32 >>> ((8 : Int32) &&& 31)) &&& (255 : Int32))) ((p + (1 : Int32))).toNatClampNeg (((x).toUInt32 >>> (((16 : Int32)).toUInt32 &&& Int32.toUInt32 31)).toInt32 &&& (255 : Int32))) ((p + (2 : Int32))).toNatClampNeg (((x &&& (65535 : Int32)) >>> ((8 : Int32) &&& 31)) &&& (255 : Int32))) (((p + (2 : Int32)) + (1 : Int32))).toNatClampNeg ((x &&& (65535 : Int32)) &&& (255 : Int32)))))))) := by
  refine rn_lv [(0, .ref o_m), (1, .int p), (2, .int x)] rfl ?_
  refine rn_aload_n (i := 0) dX10_putFour_0 rfl rfl ?_
  refine rn_iload_n (i := 1) dX10_putFour_1 rfl rfl ?_
  refine rn_iload_n (i := 2) dX10_putFour_2 rfl rfl ?_
  refine rn_bipush (v := (16 : Int32)) dX10_putFour_3 (by decide) ?_
  refine rn_iushr dX10_putFour_5 rfl ?_
  refine rn_callV (a := 0) (b := 0) [.int p, .int ((x).toUInt32 >>> (((16 : Int32)).toUInt32 &&& Int32.toUInt32 31)).toInt32] kl_SGModel_144 dX10_putFour_6 23 h_m rfl (c_X10_putTwo G _ (o_m := o_m) (p := p) (x := ((x).toUInt32 >>> (((16 : Int32)).toUInt32 &&& Int32.toUInt32 31)).toInt32) (fs_m := fs_m) (a_bytes := a_bytes) (g_bytes := g_bytes) h_m hf_m_2 h_m_bytes (by have g0 := i32_rng p; simp only [Int32.lt_iff_toInt_lt, Int32.le_iff_toInt_le, gt_iff_lt, ge_iff_le, ← Int32.toInt_inj, i32_0, i32_21980] at *; omega) (by have g0 := i32_rng p; simp only [Int32.lt_iff_toInt_lt, Int32.le_iff_toInt_le, gt_iff_lt, ge_iff_le, ← Int32.toInt_inj, i32_0, i32_21980, i32_21990] at *; omega)) rfl rfl (Nat.le_of_ble_eq_true rfl) (Nat.le_of_ble_eq_true rfl) (Nat.le_of_ble_eq_true rfl) (Nat.le_of_ble_eq_true rfl) (Nat.le_of_ble_eq_true rfl) (Nat.le_of_ble_eq_true rfl) (by rintro E w h; rcases h with ⟨_, hr, _⟩ <;> cases hr) ?_
  rintro v w h
  obtain ⟨hc1, hr, hw⟩ := h; cases hr; subst hw
  refine rn_stk [] rfl ?_
  refine rn_aload_n (i := 0) dX10_putFour_9 rfl rfl ?_
  refine rn_iload_n (i := 1) dX10_putFour_10 rfl rfl ?_
  refine rn_iconst (v := (2 : Int32)) dX10_putFour_11 (by decide) ?_
  refine rn_iadd dX10_putFour_12 ?_
  refine rn_iload_n (i := 2) dX10_putFour_13 rfl rfl ?_
  refine rn_ldc (v := (65535 : Int32)) wd_1093 dX10_putFour_14 ?_
  refine rn_iand dX10_putFour_16 ?_
  refine rn_callV (a := 0) (b := 0) [.int (p + (2 : Int32)), .int (x &&& (65535 : Int32))] kl_SGModel_144 dX10_putFour_17 23 (ls_ne (by decide) (ls_ne (by decide) h_m)) rfl (c_X10_putTwo G _ (o_m := o_m) (p := (p + (2 : Int32))) (x := (x &&& (65535 : Int32))) (fs_m := fs_m) (a_bytes := a_bytes) (g_bytes := (upd (upd g_bytes (p).toNatClampNeg ((((x).toUInt32 >>> (((16 : Int32)).toUInt32 &&& Int32.toUInt32 31)).toInt32 >>> ((8 : Int32) &&& 31)) &&& (255 : Int32))) ((p + (1 : Int32))).toNatClampNeg (((x).toUInt32 >>> (((16 : Int32)).toUInt32 &&& Int32.toUInt32 31)).toInt32 &&& (255 : Int32)))) (ls_ne (by decide) (ls_ne (by decide) h_m)) hf_m_2 (ls_eq (ls_eq h_m_bytes)) (by obtain ⟨k0, e0⟩ := i32_add p (2 : Int32); have g0 := i32_rng p; simp only [Int32.lt_iff_toInt_lt, Int32.le_iff_toInt_le, gt_iff_lt, ge_iff_le, ← Int32.toInt_inj, i32_0, i32_2, i32_21980] at *; omega) (by obtain ⟨k0, e0⟩ := i32_add p (2 : Int32); have g0 := i32_rng p; simp only [Int32.lt_iff_toInt_lt, Int32.le_iff_toInt_le, gt_iff_lt, ge_iff_le, ← Int32.toInt_inj, i32_0, i32_2, i32_21980, i32_21990] at *; omega)) rfl rfl (Nat.le_of_ble_eq_true rfl) (Nat.le_of_ble_eq_true rfl) (Nat.le_of_ble_eq_true rfl) (Nat.le_of_ble_eq_true rfl) (Nat.le_of_ble_eq_true rfl) (Nat.le_of_ble_eq_true rfl) (by rintro E w h; rcases h with ⟨_, hr, _⟩ <;> cases hr) ?_
  rintro v w h
  obtain ⟨hc2, hr, hw⟩ := h; cases hr; subst hw
  refine rn_stk [] rfl ?_
  exact rn_vret dX10_putFour_20 rfl ⟨trivial, rfl, rfl⟩
set_option maxRecDepth 20000 in
set_option maxHeartbeats 4000000 in
theorem c_X10_putEight (G : rn_G) (ws : va_W) (o_m : Nat) (p : Int32) (y : Int64) (fs_m : List Value) (a_bytes : Nat) (g_bytes : Nat → Int32) (h_m : ws[23]? = some (o_m, Sum.inr (10, fs_m))) (hf_m_2 : fs_m[2]? = some (.ref a_bytes)) (h_m_bytes : ws[24]? = some (a_bytes, Sum.inl (rn_k G 1, 22000, Sum.inl g_bytes))) (hp0 : (0 : Int32) ≤ p) (hp1 : p ≤ (21970 : Int32)) : Rn G mX10_putEight 2 44 0 0 0 (lv_args 0 [.ref o_m, .int p, .long y]) [] ws (fun r w => (True ∧ r = Sum.inl none ∧ w = ((((((((ws.set 24 (a_bytes, Sum.inl (rn_k G 1, 22000, Sum.inl (upd g_bytes (p).toNatClampNeg (((((((y).toUInt64 >>> (((32 : Int32)).toInt64.toUInt64 &&& Int64.toUInt64 63)).toInt64).toInt32).toUInt32 >>> (((16 : Int32)).toUInt32 &&& Int32.toUInt32 31)).toInt32 >>> ((8 : Int32) &&& 31)) &&& (255 : Int32)))))).set 24 (a_bytes, Sum.inl (rn_k G 1, 22000, Sum.inl (upd (upd g_bytes (p).toNatClampNeg (((((((y).toUInt64 >>> (((32 : Int32)).toInt64.toUInt64 &&& Int64.toUInt64 63)).toInt64).toInt32).toUInt32 >>> (((16 : Int32)).toUInt32 &&& Int32.toUInt32 31)).toInt32 >>> ((8 : Int32) &&& 31)) &&& (255 : Int32))) ((p + (1 : Int32))).toNatClampNeg ((((((y).toUInt64 >>> (((32 : Int32)).toInt64.toUInt64 &&& Int64.toUInt64 63)).toInt64).toInt32).toUInt32 >>> (((16 : Int32)).toUInt32 &&& Int32.toUInt32 31)).toInt32 &&& (255 : Int32)))))).set 24 (a_bytes, Sum.inl (rn_k G 1, 22000, Sum.inl (upd (upd (upd g_bytes (p).toNatClampNeg (((((((y).toUInt64 >>> (((32 : Int32)).toInt64.toUInt64 &&& Int64.toUInt64 63)).toInt64).toInt32).toUInt32 >>> (((16 : Int32)).toUInt32 &&& Int32.toUInt32 31)).toInt32 >>> ((8 : Int32) &&& 31)) &&& (255 : Int32))) ((p + (1 : Int32))).toNatClampNeg ((((((y).toUInt64 >>> (((32 : Int32)).toInt64.toUInt64 &&& Int64.toUInt64 63)).toInt64).toInt32).toUInt32 >>> (((16 : Int32)).toUInt32 &&& Int32.toUInt32 31)).toInt32 &&& (255 : Int32))) ((p + (2 : Int32))).toNatClampNeg ((((((y).toUInt64 >>> (((32 : Int32)).toInt64.toUInt64 &&& Int64.toUInt64 63)).toInt64).toInt32 &&& (65535 : Int32)) >>> ((8 : Int32) &&& 31)) &&& (255 : Int32)))))).set 24 (a_bytes, Sum.inl (rn_k G 1, 22000, Sum.inl (upd (upd (upd (upd g_bytes (p).toNatClampNeg (((((((y).toUInt64 >>> (((32 : Int32)).toInt64.toUInt64 &&& Int64.toUInt64 63)).toInt64).toInt32).toUInt32 >>> (((16 : Int32)).toUInt32 &&& Int32.toUInt32 31)).toInt32 >>> ((8 : Int32) &&& 31)) &&& (255 : Int32))) ((p + (1 : Int32))).toNatClampNeg ((((((y).toUInt64 >>> (((32 : Int32)).toInt64.toUInt64 &&& Int64.toUInt64 63)).toInt64).toInt32).toUInt32 >>> (((16 : Int32)).toUInt32 &&& Int32.toUInt32 31)).toInt32 &&& (255 : Int32))) ((p + (2 : Int32))).toNatClampNeg ((((((y).toUInt64 >>> (((32 : Int32)).toInt64.toUInt64 &&& Int64.toUInt64 63)).toInt64).toInt32 &&& (65535 : Int32)) >>> ((8 : Int32) &&& 31)) &&& (255 : Int32))) (((p + (2 : Int32)) + (1 : Int32))).toNatClampNeg (((((y).toUInt64 >>> (((32 : Int32)).toInt64.toUInt64 &&& Int64.toUInt64 63)).toInt64).toInt32 &&& (65535 : Int32)) &&& (255 : Int32)))))).set 24 (a_bytes, Sum.inl (rn_k G 1, 22000, Sum.inl (upd (upd (upd (upd (upd g_bytes (p).toNatClampNeg (((((((y).toUInt64 >>> (((32 : Int32)).toInt64.toUInt64 &&& Int64.toUInt64 63)).toInt64).toInt32).toUInt32 >>> (((16 : Int32)).toUInt32 &&& Int32.toUInt32 31)).toInt32 >>> ((8 : Int32) &&& 31)) &&& (255 : Int32))) ((p + (1 : Int32))).toNatClampNeg ((((((y).toUInt64 >>> (((32 : Int32)).toInt64.toUInt64 &&& Int64.toUInt64 63)).toInt64).toInt32).toUInt32 >>> (((16 : Int32)).toUInt32 &&& Int32.toUInt32 31)).toInt32 &&& (255 : Int32))) ((p + (2 : Int32))).toNatClampNeg ((((((y).toUInt64 >>> (((32 : Int32)).toInt64.toUInt64 &&& Int64.toUInt64 63)).toInt64).toInt32 &&& (65535 : Int32)) >>> ((8 : Int32) &&& 31)) &&& (255 : Int32))) (((p + (2 : Int32)) + (1 : Int32))).toNatClampNeg (((((y).toUInt64 >>> (((32 : Int32)).toInt64.toUInt64 &&& Int64.toUInt64 63)).toInt64).toInt32 &&& (65535 : Int32)) &&& (255 : Int32))) ((p + (4 : Int32))).toNatClampNeg (((((y).toInt32).toUInt32 >>> (((16 : Int32)).toUInt32 &&& Int32.toUInt32 31)).toInt32 >>> ((8 : Int32) &&& 31)) &&& (255 : Int32)))))).set 24 (a_bytes, Sum.inl (rn_k G 1, 22000, Sum.inl (upd (upd (upd (upd (upd (upd g_bytes (p).toNatClampNeg (((((((y).toUInt64 >>> (((32 : Int32)).toInt64.toUInt64 &&& Int64.toUInt64 63)).toInt64).toInt32).toUInt32 >>> (((16 : Int32)).toUInt32 &&& Int32.toUInt32 31)).toInt32 >>> ((8 : Int32) &&& 31)) &&& (255 : Int32))) ((p + (1 : Int32))).toNatClampNeg ((((((y).toUInt64 >>> (((32 : Int32)).toInt64.toUInt64 &&& Int64.toUInt64 63)).toInt64).toInt32).toUInt32 >>> (((16 : Int32)).toUInt32 &&& Int32.toUInt32 31)).toInt32 &&& (255 : Int32))) ((p + (2 : Int32))).toNatClampNeg ((((((y).toUInt64 >>> (((32 : Int32)).toInt64.toUInt64 &&& Int64.toUInt64 63)).toInt64).toInt32 &&& (65535 : Int32)) >>> ((8 : Int32) &&& 31)) &&& (255 : Int32))) (((p + (2 : Int32)) + (1 : Int32))).toNatClampNeg (((((y).toUInt64 >>> (((32 : Int32)).toInt64.toUInt64 &&& Int64.toUInt64 63)).toInt64).toInt32 &&& (65535 : Int32)) &&& (255 : Int32))) ((p + (4 : Int32))).toNatClampNeg (((((y).toInt32).toUInt32 >>> (((16 : Int32)).toUInt32 &&& Int32.toUInt32 31)).toInt32 >>> ((8 : Int32) &&& 31)) &&& (255 : Int32))) (((p + (4 : Int32)) + (1 : Int32))).toNatClampNeg ((((y).toInt32).toUInt32 >>> (((16 : Int32)).toUInt32 &&& Int32.toUInt32 31)).toInt32 &&& (255 : Int32)))))).set 24 (a_bytes, Sum.inl (rn_k G 1, 22000, Sum.inl (upd (upd (upd (upd (upd (upd (upd g_bytes (p).toNatClampNeg (((((((y).toUInt64 >>> (((32 : Int32)).toInt64.toUInt64 &&& Int64.toUInt64 63)).toInt64).toInt32).toUInt32 >>> (((16 : Int32)).toUInt32 &&& Int32.toUInt32 31)).toInt32 >>> ((8 : Int32) &&& 31)) &&& (255 : Int32))) ((p + (1 : Int32))).toNatClampNeg ((((((y).toUInt64 >>> (((32 : Int32)).toInt64.toUInt64 &&& Int64.toUInt64 63)).toInt64).toInt32).toUInt32 >>> (((16 : Int32)).toUInt32 &&& Int32.toUInt32 31)).toInt32 &&& (255 : Int32))) ((p + (2 : Int32))).toNatClampNeg ((((((y).toUInt64 >>> (((32 : Int32)).toInt64.toUInt64 &&& Int64.toUInt64 63)).toInt64).toInt32 &&& (65535 : Int32)) >>> ((8 : Int32) &&& 31)) &&& (255 : Int32))) (((p + (2 : Int32)) + (1 : Int32))).toNatClampNeg (((((y).toUInt64 >>> (((32 : Int32)).toInt64.toUInt64 &&& Int64.toUInt64 63)).toInt64).toInt32 &&& (65535 : Int32)) &&& (255 : Int32))) ((p + (4 : Int32))).toNatClampNeg (((((y).toInt32).toUInt32 >>> (((16 : Int32)).toUInt32 &&& Int32.toUInt32 31)).toInt32 >>> ((8 : Int32) &&& 31)) &&& (255 : Int32))) (((p + (4 : Int32)) + (1 : Int32))).toNatClampNeg ((((y).toInt32).toUInt32 >>> (((16 : Int32)).toUInt32 &&& Int32.toUInt32 31)).toInt32 &&& (255 : Int32))) (((p + (4 : Int32)) + (2 : Int32))).toNatClampNeg ((((y).toInt32 &&& (65535 : Int32)) >>> ((8 : Int32) &&& 31)) &&& (255 : Int32)))))).set 24 (a_bytes, Sum.inl (rn_k G 1, 22000, Sum.inl (upd (upd (upd (upd (upd (upd (upd (upd g_bytes (p).toNatClampNeg (((((((y).toUInt64 >>> (((32 : Int32)).toInt64.toUInt64 &&& Int64.toUInt64 63)).toInt64).toInt32).toUInt32 >>> (((16 : Int32)).toUInt32 &&& Int32.toUInt32 31)).toInt32 >>> ((8 : Int32) &&& 31)) &&& (255 : Int32))) ((p + (1 : Int32))).toNatClampNeg ((((((y).toUInt64 >>> (((32 : Int32)).toInt64.toUInt64 &&& Int64.toUInt64 63)).toInt64).toInt32).toUInt32 >>> (((16 : Int32)).toUInt32 &&& Int32.toUInt32 31)).toInt32 &&& (255 : Int32))) ((p + (2 : Int32))).toNatClampNeg ((((((y).toUInt64 >>> (((32 : Int32)).toInt64.toUInt64 &&& Int64.toUInt64 63)).toInt64).toInt32 &&& (65535 : Int32)) >>> ((8 : Int32) &&& 31)) &&& (255 : Int32))) (((p + (2 : Int32)) + (1 : Int32))).toNatClampNeg (((((y).toUInt64 >>> (((32 : Int32)).toInt64.toUInt64 &&& Int64.toUInt64 63)).toInt64).toInt32 &&& (65535 : Int32)) &&& (255 : Int32))) ((p + (4 : Int32))).toNatClampNeg (((((y).toInt32).toUInt32 >>> (((16 : Int32)).toUInt32 &&& Int32.toUInt32 31)).toInt32 >>> ((8 : Int32) &&& 31)) &&& (255 : Int32))) (((p + (4 : Int32)) + (1 : Int32))).toNatClampNeg ((((y).toInt32).toUInt32 >>> (((16 : Int32)).toUInt32 &&& Int32.toUInt32 31)).toInt32 &&& (255 : Int32))) (((p + (4 : Int32)) + (2 : Int32))).toNatClampNeg ((((y).toInt32 &&& (65535 : Int32)) >>> ((8 : Int32) &&& 31)) &&& (255 : Int32))) ((((p + (4 : Int32)) + (2 : Int32)) + (1 : Int32))).toNatClampNeg (((y).toInt32 &&& (65535 : Int32)) &&& (255 : Int32)))))))) := by
  refine rn_lv [(0, .ref o_m), (1, .int p), (2, .long y)] rfl ?_
  refine rn_aload_n (i := 0) dX10_putEight_0 rfl rfl ?_
  refine rn_iload_n (i := 1) dX10_putEight_1 rfl rfl ?_
  refine rn_lload_n (i := 2) dX10_putEight_2 rfl rfl ?_
  refine rn_bipush (v := (32 : Int32)) dX10_putEight_3 (by decide) ?_
  refine rn_lushr dX10_putEight_5 rfl ?_
  refine rn_l2i dX10_putEight_6 rfl ?_
  refine rn_callV (a := 0) (b := 0) [.int p, .int (((y).toUInt64 >>> (((32 : Int32)).toInt64.toUInt64 &&& Int64.toUInt64 63)).toInt64).toInt32] kl_SGModel_148 dX10_putEight_7 23 h_m rfl (c_X10_putFour G _ (o_m := o_m) (p := p) (x := (((y).toUInt64 >>> (((32 : Int32)).toInt64.toUInt64 &&& Int64.toUInt64 63)).toInt64).toInt32) (fs_m := fs_m) (a_bytes := a_bytes) (g_bytes := g_bytes) h_m hf_m_2 h_m_bytes (by have g0 := i32_rng p; simp only [Int32.lt_iff_toInt_lt, Int32.le_iff_toInt_le, gt_iff_lt, ge_iff_le, ← Int32.toInt_inj, i32_0, i32_21970] at *; omega) (by have g0 := i32_rng p; simp only [Int32.lt_iff_toInt_lt, Int32.le_iff_toInt_le, gt_iff_lt, ge_iff_le, ← Int32.toInt_inj, i32_0, i32_21970, i32_21980] at *; omega)) rfl rfl (Nat.le_of_ble_eq_true rfl) (Nat.le_of_ble_eq_true rfl) (Nat.le_of_ble_eq_true rfl) (Nat.le_of_ble_eq_true rfl) (Nat.le_of_ble_eq_true rfl) (Nat.le_of_ble_eq_true rfl) (by rintro E w h; rcases h with ⟨_, hr, _⟩ <;> cases hr) ?_
  rintro v w h
  obtain ⟨hc1, hr, hw⟩ := h; cases hr; subst hw
  refine rn_stk [] rfl ?_
  refine rn_aload_n (i := 0) dX10_putEight_10 rfl rfl ?_
  refine rn_iload_n (i := 1) dX10_putEight_11 rfl rfl ?_
  refine rn_iconst (v := (4 : Int32)) dX10_putEight_12 (by decide) ?_
  refine rn_iadd dX10_putEight_13 ?_
  refine rn_lload_n (i := 2) dX10_putEight_14 rfl rfl ?_
  refine rn_l2i dX10_putEight_15 rfl ?_
  refine rn_callV (a := 0) (b := 0) [.int (p + (4 : Int32)), .int (y).toInt32] kl_SGModel_148 dX10_putEight_16 23 (ls_ne (by decide) (ls_ne (by decide) (ls_ne (by decide) (ls_ne (by decide) h_m)))) rfl (c_X10_putFour G _ (o_m := o_m) (p := (p + (4 : Int32))) (x := (y).toInt32) (fs_m := fs_m) (a_bytes := a_bytes) (g_bytes := (upd (upd (upd (upd g_bytes (p).toNatClampNeg (((((((y).toUInt64 >>> (((32 : Int32)).toInt64.toUInt64 &&& Int64.toUInt64 63)).toInt64).toInt32).toUInt32 >>> (((16 : Int32)).toUInt32 &&& Int32.toUInt32 31)).toInt32 >>> ((8 : Int32) &&& 31)) &&& (255 : Int32))) ((p + (1 : Int32))).toNatClampNeg ((((((y).toUInt64 >>> (((32 : Int32)).toInt64.toUInt64 &&& Int64.toUInt64 63)).toInt64).toInt32).toUInt32 >>> (((16 : Int32)).toUInt32 &&& Int32.toUInt32 31)).toInt32 &&& (255 : Int32))) ((p + (2 : Int32))).toNatClampNeg ((((((y).toUInt64 >>> (((32 : Int32)).toInt64.toUInt64 &&& Int64.toUInt64 63)).toInt64).toInt32 &&& (65535 : Int32)) >>> ((8 : Int32) &&& 31)) &&& (255 : Int32))) (((p + (2 : Int32)) + (1 : Int32))).toNatClampNeg (((((y).toUInt64 >>> (((32 : Int32)).toInt64.toUInt64 &&& Int64.toUInt64 63)).toInt64).toInt32 &&& (65535 : Int32)) &&& (255 : Int32)))) (ls_ne (by decide) (ls_ne (by decide) (ls_ne (by decide) (ls_ne (by decide) h_m)))) hf_m_2 (ls_eq (ls_eq (ls_eq (ls_eq h_m_bytes)))) (by obtain ⟨k0, e0⟩ := i32_add p (4 : Int32); have g0 := i32_rng p; simp only [Int32.lt_iff_toInt_lt, Int32.le_iff_toInt_le, gt_iff_lt, ge_iff_le, ← Int32.toInt_inj, i32_0, i32_4, i32_21970] at *; omega) (by obtain ⟨k0, e0⟩ := i32_add p (4 : Int32); have g0 := i32_rng p; simp only [Int32.lt_iff_toInt_lt, Int32.le_iff_toInt_le, gt_iff_lt, ge_iff_le, ← Int32.toInt_inj, i32_0, i32_4, i32_21970, i32_21980] at *; omega)) rfl rfl (Nat.le_of_ble_eq_true rfl) (Nat.le_of_ble_eq_true rfl) (Nat.le_of_ble_eq_true rfl) (Nat.le_of_ble_eq_true rfl) (Nat.le_of_ble_eq_true rfl) (Nat.le_of_ble_eq_true rfl) (by rintro E w h; rcases h with ⟨_, hr, _⟩ <;> cases hr) ?_
  rintro v w h
  obtain ⟨hc2, hr, hw⟩ := h; cases hr; subst hw
  refine rn_stk [] rfl ?_
  exact rn_vret dX10_putEight_19 rfl ⟨trivial, rfl, rfl⟩
set_option maxRecDepth 20000 in
set_option maxHeartbeats 4000000 in
theorem c_X10_isBroken (G : rn_G) (ws : va_W) (o_m : Nat) (p : Int32) (n : Int32) (hn : n < (20 : Int32)) : Rn G mX10_isBroken 0 0 0 0 0 (lv_args 0 [.ref o_m, .int p, .int n]) [] ws (fun r w => ((n < (20 : Int32)) ∧ r = Sum.inl (some (.int (1 : Int32))) ∧ w = ws)) := by
  refine rn_lv [(0, .ref o_m), (1, .int p), (2, .int n)] rfl ?_
  refine rn_iload_n (i := 2) dX10_isBroken_0 rfl rfl ?_
  refine rn_bipush (v := (20 : Int32)) dX10_isBroken_1 (by decide) ?_
  refine rn_icmp_lt (tgt := 51) dX10_isBroken_3 (by decide) (fun h1 => ?_) (fun h1 => False.elim (by have g0 := i32_rng n; simp only [Int32.lt_iff_toInt_lt, Int32.le_iff_toInt_le, gt_iff_lt, ge_iff_le, ← Int32.toInt_inj, i32_0, i32_20] at *; omega))
  refine rn_iconst (v := (1 : Int32)) dX10_isBroken_51 (by decide) ?_
  refine rn_goto (tgt := 56) dX10_isBroken_52 (by decide) ?_
  exact rn_iret dX10_isBroken_56 rfl rfl ⟨h1, rfl, rfl⟩
set_option maxRecDepth 20000 in
set_option maxHeartbeats 4000000 in
theorem c_X10_ends (G : rn_G) (ws : va_W) (o_m : Nat) (p : Int32) (fs_m : List Value) (a_endings : Nat) (h_m : ws[23]? = some (o_m, Sum.inr (10, fs_m))) (hf_m_44 : fs_m[44]? = some (.ref a_endings)) (h_m_endings : ws[56]? = some (a_endings, Sum.inl (rn_k G 1, 18, Sum.inl (fun _ => 0)))) (hp0 : (0 : Int32) ≤ p) (hp1 : p < (18 : Int32)) : Rn G mX10_ends 0 0 0 0 0 (lv_args 0 [.ref o_m, .int p]) [] ws (fun r w => (True ∧ r = Sum.inl (some (.int p)) ∧ w = (ws.set 56 (a_endings, Sum.inl (rn_k G 1, 18, Sum.inl (upd (fun _ => 0) (p).toNatClampNeg (1 : Int32))))))) := by
  refine rn_lv [(0, .ref o_m), (1, .int p)] rfl ?_
  refine rn_aload_n (i := 0) dX10_ends_0 rfl rfl ?_
  refine rn_get 23 kg_SGModel_116 h_m hf_m_44 dX10_ends_1 ?_
  refine rn_iload_n (i := 1) dX10_ends_4 rfl rfl ?_
  refine rn_dup2_11 dX10_ends_5 rfl rfl ?_
  refine rn_iald 56 1 h_m_endings rfl (rn_in (by have g0 := i32_rng p; simp only [Int32.lt_iff_toInt_lt, Int32.le_iff_toInt_le, gt_iff_lt, ge_iff_le, ← Int32.toInt_inj, i32_0, i32_18] at *; omega)) dX10_ends_6 ?_
  refine rn_topi (0 : Int32) rfl ?_
  refine rn_iconst (v := (1 : Int32)) dX10_ends_7 (by decide) ?_
  refine rn_iadd dX10_ends_8 ?_
  refine rn_topi (1 : Int32) (by decide) ?_
  refine rn_iast 56 1 h_m_endings rfl (rn_in (by have g0 := i32_rng p; simp only [Int32.lt_iff_toInt_lt, Int32.le_iff_toInt_le, gt_iff_lt, ge_iff_le, ← Int32.toInt_inj, i32_0, i32_18] at *; omega)) dX10_ends_9 ?_
  refine rn_iload_n (i := 1) dX10_ends_10 rfl rfl ?_
  exact rn_iret dX10_ends_11 rfl rfl ⟨trivial, rfl, rfl⟩
set_option maxRecDepth 20000 in
set_option maxHeartbeats 4000000 in
theorem c_X10_sealNamed (G : rn_G) (ws : va_W) (o_m : Nat) (x : Int32) (fs_m : List Value) (h_m : ws[23]? = some (o_m, Sum.inr (10, fs_m))) (hf_m_22 : fs_m[22]? = some (.int (0 : Int32))) : Rn G mX10_sealNamed 0 0 0 0 0 (lv_args 0 [.ref o_m, .int x]) [] ws (fun r w => (True ∧ r = Sum.inl (some (.int (-1 : Int32))) ∧ w = ws)) := by
  refine rn_lv [(0, .ref o_m), (1, .int x)] rfl ?_
  refine rn_iconst (v := (0 : Int32)) dX10_sealNamed_0 (by decide) ?_
  refine rn_istore_n dX10_sealNamed_1 rfl (by decide) [(0, .ref o_m), (1, .int x), (2, .int (0 : Int32))] rfl ?_
  refine rn_iload_n (i := 2) dX10_sealNamed_2 rfl rfl ?_
  refine rn_aload_n (i := 0) dX10_sealNamed_3 rfl rfl ?_
  refine rn_get 23 kg_SGModel_200 h_m hf_m_22 dX10_sealNamed_4 ?_
  refine rn_icmp_ge (tgt := 38) dX10_sealNamed_7 (by decide) (fun h1 => ?_) (fun h1 => absurd h1 (by decide))
  refine rn_iconst (v := (-1 : Int32)) dX10_sealNamed_38 (by decide) ?_
  exact rn_iret dX10_sealNamed_39 rfl rfl ⟨trivial, rfl, rfl⟩
set_option maxRecDepth 20000 in
set_option maxHeartbeats 4000000 in
theorem c_X10_routeOf (G : rn_G) (ws : va_W) (o_m : Nat) (x : Int32) (fs_m : List Value) (h_m : ws[23]? = some (o_m, Sum.inr (10, fs_m))) (hf_m_4 : fs_m[4]? = some (.int (0 : Int32))) : Rn G mX10_routeOf 0 0 0 0 0 (lv_args 0 [.ref o_m, .int x]) [] ws (fun r w => (True ∧ r = Sum.inl (some (.int (-1 : Int32))) ∧ w = ws)) := by
  refine rn_lv [(0, .ref o_m), (1, .int x)] rfl ?_
  refine rn_iconst (v := (-1 : Int32)) dX10_routeOf_0 (by decide) ?_
  refine rn_istore_n dX10_routeOf_1 rfl (by decide) [(0, .ref o_m), (1, .int x), (2, .int (-1 : Int32))] rfl ?_
  refine rn_iconst (v := (0 : Int32)) dX10_routeOf_2 (by decide) ?_
  refine rn_istore_n dX10_routeOf_3 rfl (by decide) [(0, .ref o_m), (1, .int x), (2, .int (-1 : Int32)), (3, .int (0 : Int32))] rfl ?_
  refine rn_iload_n (i := 3) dX10_routeOf_4 rfl rfl ?_
  refine rn_aload_n (i := 0) dX10_routeOf_5 rfl rfl ?_
  refine rn_get 23 kg_SGModel_188 h_m hf_m_4 dX10_routeOf_6 ?_
  refine rn_icmp_ge (tgt := 58) dX10_routeOf_9 (by decide) (fun h1 => ?_) (fun h1 => absurd h1 (by decide))
  refine rn_iload_n (i := 2) dX10_routeOf_58 rfl rfl ?_
  refine rn_if_ge (tgt := 66) dX10_routeOf_59 (by decide) (fun h2 => absurd h2 (by decide)) (fun h2 => ?_)
  refine rn_iconst (v := (-1 : Int32)) dX10_routeOf_62 (by decide) ?_
  refine rn_goto (tgt := 72) dX10_routeOf_63 (by decide) ?_
  exact rn_iret dX10_routeOf_72 rfl rfl ⟨trivial, rfl, rfl⟩
set_option maxRecDepth 20000 in
set_option maxHeartbeats 4000000 in
theorem c_X10_type (G : rn_G) (ws : va_W) (o_m : Nat) (y : Int64) (fs_m : List Value) (a_bytes : Nat) (h_m : ws[23]? = some (o_m, Sum.inr (10, fs_m))) (hf_m_0 : fs_m[0]? = some (.int (0 : Int32))) (hf_m_2 : fs_m[2]? = some (.ref a_bytes)) (hf_m_3 : fs_m[3]? = some (.int (0 : Int32))) (h_m_bytes : ws[24]? = some (a_bytes, Sum.inl (rn_k G 1, 22000, Sum.inl (fun _ => 0)))) : Rn G mX10_type 3 67 0 0 0 (lv_args 0 [.ref o_m, .long y]) [] ws (fun r w => ((((¬ ((0 : Int32) = (0 : Int32)) ∧ (0 : Int32) ≤ (0 : Int32)) ∨ ((0 : Int32) = (0 : Int32) ∧ (0 : Int32) = (0 : Int32) ∧ (0 : Int32) ≤ (0 : Int32)))) ∧ r = Sum.inl (some (.int (8 : Int32))) ∧ w = ((((((((((ws.set 23 (o_m, Sum.inr (10, (fs_m.set 0 (.int (0 : Int32)))))).set 24 (a_bytes, Sum.inl (rn_k G 1, 22000, Sum.inl (upd (fun _ => 0) ((0 : Int32)).toNatClampNeg (((((((y).toUInt64 >>> (((32 : Int32)).toInt64.toUInt64 &&& Int64.toUInt64 63)).toInt64).toInt32).toUInt32 >>> (((16 : Int32)).toUInt32 &&& Int32.toUInt32 31)).toInt32 >>> ((8 : Int32) &&& 31)) &&& (255 : Int32)))))).set 24 (a_bytes, Sum.inl (rn_k G 1, 22000, Sum.inl (upd (upd (fun _ => 0) ((0 : Int32)).toNatClampNeg (((((((y).toUInt64 >>> (((32 : Int32)).toInt64.toUInt64 &&& Int64.toUInt64 63)).toInt64).toInt32).toUInt32 >>> (((16 : Int32)).toUInt32 &&& Int32.toUInt32 31)).toInt32 >>> ((8 : Int32) &&& 31)) &&& (255 : Int32))) (((0 : Int32) + (1 : Int32))).toNatClampNeg ((((((y).toUInt64 >>> (((32 : Int32)).toInt64.toUInt64 &&& Int64.toUInt64 63)).toInt64).toInt32).toUInt32 >>> (((16 : Int32)).toUInt32 &&& Int32.toUInt32 31)).toInt32 &&& (255 : Int32)))))).set 24 (a_bytes, Sum.inl (rn_k G 1, 22000, Sum.inl (upd (upd (upd (fun _ => 0) ((0 : Int32)).toNatClampNeg (((((((y).toUInt64 >>> (((32 : Int32)).toInt64.toUInt64 &&& Int64.toUInt64 63)).toInt64).toInt32).toUInt32 >>> (((16 : Int32)).toUInt32 &&& Int32.toUInt32 31)).toInt32 >>> ((8 : Int32) &&& 31)) &&& (255 : Int32))) (((0 : Int32) + (1 : Int32))).toNatClampNeg ((((((y).toUInt64 >>> (((32 : Int32)).toInt64.toUInt64 &&& Int64.toUInt64 63)).toInt64).toInt32).toUInt32 >>> (((16 : Int32)).toUInt32 &&& Int32.toUInt32 31)).toInt32 &&& (255 : Int32))) (((0 : Int32) + (2 : Int32))).toNatClampNeg ((((((y).toUInt64 >>> (((32 : Int32)).toInt64.toUInt64 &&& Int64.toUInt64 63)).toInt64).toInt32 &&& (65535 : Int32)) >>> ((8 : Int32) &&& 31)) &&& (255 : Int32)))))).set 24 (a_bytes, Sum.inl (rn_k G 1, 22000, Sum.inl (upd (upd (upd (upd (fun _ => 0) ((0 : Int32)).toNatClampNeg (((((((y).toUInt64 >>> (((32 : Int32)).toInt64.toUInt64 &&& Int64.toUInt64 63)).toInt64).toInt32).toUInt32 >>> (((16 : Int32)).toUInt32 &&& Int32.toUInt32 31)).toInt32 >>> ((8 : Int32) &&& 31)) &&& (255 : Int32))) (((0 : Int32) + (1 : Int32))).toNatClampNeg ((((((y).toUInt64 >>> (((32 : Int32)).toInt64.toUInt64 &&& Int64.toUInt64 63)).toInt64).toInt32).toUInt32 >>> (((16 : Int32)).toUInt32 &&& Int32.toUInt32 31)).toInt32 &&& (255 : Int32))) (((0 : Int32) + (2 : Int32))).toNatClampNeg ((((((y).toUInt64 >>> (((32 : Int32)).toInt64.toUInt64 &&& Int64.toUInt64 63)).toInt64).toInt32 &&& (65535 : Int32)) >>> ((8 : Int32) &&& 31)) &&& (255 : Int32))) ((((0 : Int32) + (2 : Int32)) + (1 : Int32))).toNatClampNeg (((((y).toUInt64 >>> (((32 : Int32)).toInt64.toUInt64 &&& Int64.toUInt64 63)).toInt64).toInt32 &&& (65535 : Int32)) &&& (255 : Int32)))))).set 24 (a_bytes, Sum.inl (rn_k G 1, 22000, Sum.inl (upd (upd (upd (upd (upd (fun _ => 0) ((0 : Int32)).toNatClampNeg (((((((y).toUInt64 >>> (((32 : Int32)).toInt64.toUInt64 &&& Int64.toUInt64 63)).toInt64).toInt32).toUInt32 >>> (((16 : Int32)).toUInt32 &&& Int32.toUInt32 31)).toInt32 >>> ((8 : Int32) &&& 31)) &&& (255 : Int32))) (((0 : Int32) + (1 : Int32))).toNatClampNeg ((((((y).toUInt64 >>> (((32 : Int32)).toInt64.toUInt64 &&& Int64.toUInt64 63)).toInt64).toInt32).toUInt32 >>> (((16 : Int32)).toUInt32 &&& Int32.toUInt32 31)).toInt32 &&& (255 : Int32))) (((0 : Int32) + (2 : Int32))).toNatClampNeg ((((((y).toUInt64 >>> (((32 : Int32)).toInt64.toUInt64 &&& Int64.toUInt64 63)).toInt64).toInt32 &&& (65535 : Int32)) >>> ((8 : Int32) &&& 31)) &&& (255 : Int32))) ((((0 : Int32) + (2 : Int32)) + (1 : Int32))).toNatClampNeg (((((y).toUInt64 >>> (((32 : Int32)).toInt64.toUInt64 &&& Int64.toUInt64 63)).toInt64).toInt32 &&& (65535 : Int32)) &&& (255 : Int32))) (((0 : Int32) + (4 : Int32))).toNatClampNeg (((((y).toInt32).toUInt32 >>> (((16 : Int32)).toUInt32 &&& Int32.toUInt32 31)).toInt32 >>> ((8 : Int32) &&& 31)) &&& (255 : Int32)))))).set 24 (a_bytes, Sum.inl (rn_k G 1, 22000, Sum.inl (upd (upd (upd (upd (upd (upd (fun _ => 0) ((0 : Int32)).toNatClampNeg (((((((y).toUInt64 >>> (((32 : Int32)).toInt64.toUInt64 &&& Int64.toUInt64 63)).toInt64).toInt32).toUInt32 >>> (((16 : Int32)).toUInt32 &&& Int32.toUInt32 31)).toInt32 >>> ((8 : Int32) &&& 31)) &&& (255 : Int32))) (((0 : Int32) + (1 : Int32))).toNatClampNeg ((((((y).toUInt64 >>> (((32 : Int32)).toInt64.toUInt64 &&& Int64.toUInt64 63)).toInt64).toInt32).toUInt32 >>> (((16 : Int32)).toUInt32 &&& Int32.toUInt32 31)).toInt32 &&& (255 : Int32))) (((0 : Int32) + (2 : Int32))).toNatClampNeg ((((((y).toUInt64 >>> (((32 : Int32)).toInt64.toUInt64 &&& Int64.toUInt64 63)).toInt64).toInt32 &&& (65535 : Int32)) >>> ((8 : Int32) &&& 31)) &&& (255 : Int32))) ((((0 : Int32) + (2 : Int32)) + (1 : Int32))).toNatClampNeg (((((y).toUInt64 >>> (((32 : Int32)).toInt64.toUInt64 &&& Int64.toUInt64 63)).toInt64).toInt32 &&& (65535 : Int32)) &&& (255 : Int32))) (((0 : Int32) + (4 : Int32))).toNatClampNeg (((((y).toInt32).toUInt32 >>> (((16 : Int32)).toUInt32 &&& Int32.toUInt32 31)).toInt32 >>> ((8 : Int32) &&& 31)) &&& (255 : Int32))) ((((0 : Int32) + (4 : Int32)) + (1 : Int32))).toNatClampNeg ((((y).toInt32).toUInt32 >>> (((16 : Int32)).toUInt32 &&& Int32.toUInt32 31)).toInt32 &&& (255 : Int32)))))).set 24 (a_bytes, Sum.inl (rn_k G 1, 22000, Sum.inl (upd (upd (upd (upd (upd (upd (upd (fun _ => 0) ((0 : Int32)).toNatClampNeg (((((((y).toUInt64 >>> (((32 : Int32)).toInt64.toUInt64 &&& Int64.toUInt64 63)).toInt64).toInt32).toUInt32 >>> (((16 : Int32)).toUInt32 &&& Int32.toUInt32 31)).toInt32 >>> ((8 : Int32) &&& 31)) &&& (255 : Int32))) (((0 : Int32) + (1 : Int32))).toNatClampNeg ((((((y).toUInt64 >>> (((32 : Int32)).toInt64.toUInt64 &&& Int64.toUInt64 63)).toInt64).toInt32).toUInt32 >>> (((16 : Int32)).toUInt32 &&& Int32.toUInt32 31)).toInt32 &&& (255 : Int32))) (((0 : Int32) + (2 : Int32))).toNatClampNeg ((((((y).toUInt64 >>> (((32 : Int32)).toInt64.toUInt64 &&& Int64.toUInt64 63)).toInt64).toInt32 &&& (65535 : Int32)) >>> ((8 : Int32) &&& 31)) &&& (255 : Int32))) ((((0 : Int32) + (2 : Int32)) + (1 : Int32))).toNatClampNeg (((((y).toUInt64 >>> (((32 : Int32)).toInt64.toUInt64 &&& Int64.toUInt64 63)).toInt64).toInt32 &&& (65535 : Int32)) &&& (255 : Int32))) (((0 : Int32) + (4 : Int32))).toNatClampNeg (((((y).toInt32).toUInt32 >>> (((16 : Int32)).toUInt32 &&& Int32.toUInt32 31)).toInt32 >>> ((8 : Int32) &&& 31)) &&& (255 : Int32))) ((((0 : Int32) + (4 : Int32)) + (1 : Int32))).toNatClampNeg ((((y).toInt32).toUInt32 >>> (((16 : Int32)).toUInt32 &&& Int32.toUInt32 31)).toInt32 &&& (255 : Int32))) ((((0 : Int32) + (4 : Int32)) + (2 : Int32))).toNatClampNeg ((((y).toInt32 &&& (65535 : Int32)) >>> ((8 : Int32) &&& 31)) &&& (255 : Int32)))))).set 24 (a_bytes, Sum.inl (rn_k G 1, 22000, Sum.inl (upd (upd (upd (upd (upd (upd (upd (upd (fun _ => 0) ((0 : Int32)).toNatClampNeg (((((((y).toUInt64 >>> (((32 : Int32)).toInt64.toUInt64 &&& Int64.toUInt64 63)).toInt64).toInt32).toUInt32 >>> (((16 : Int32)).toUInt32 &&& Int32.toUInt32 31)).toInt32 >>> ((8 : Int32) &&& 31)) &&& (255 : Int32))) (((0 : Int32) + (1 : Int32))).toNatClampNeg ((((((y).toUInt64 >>> (((32 : Int32)).toInt64.toUInt64 &&& Int64.toUInt64 63)).toInt64).toInt32).toUInt32 >>> (((16 : Int32)).toUInt32 &&& Int32.toUInt32 31)).toInt32 &&& (255 : Int32))) (((0 : Int32) + (2 : Int32))).toNatClampNeg ((((((y).toUInt64 >>> (((32 : Int32)).toInt64.toUInt64 &&& Int64.toUInt64 63)).toInt64).toInt32 &&& (65535 : Int32)) >>> ((8 : Int32) &&& 31)) &&& (255 : Int32))) ((((0 : Int32) + (2 : Int32)) + (1 : Int32))).toNatClampNeg (((((y).toUInt64 >>> (((32 : Int32)).toInt64.toUInt64 &&& Int64.toUInt64 63)).toInt64).toInt32 &&& (65535 : Int32)) &&& (255 : Int32))) (((0 : Int32) + (4 : Int32))).toNatClampNeg (((((y).toInt32).toUInt32 >>> (((16 : Int32)).toUInt32 &&& Int32.toUInt32 31)).toInt32 >>> ((8 : Int32) &&& 31)) &&& (255 : Int32))) ((((0 : Int32) + (4 : Int32)) + (1 : Int32))).toNatClampNeg ((((y).toInt32).toUInt32 >>> (((16 : Int32)).toUInt32 &&& Int32.toUInt32 31)).toInt32 &&& (255 : Int32))) ((((0 : Int32) + (4 : Int32)) + (2 : Int32))).toNatClampNeg ((((y).toInt32 &&& (65535 : Int32)) >>> ((8 : Int32) &&& 31)) &&& (255 : Int32))) (((((0 : Int32) + (4 : Int32)) + (2 : Int32)) + (1 : Int32))).toNatClampNeg (((y).toInt32 &&& (65535 : Int32)) &&& (255 : Int32)))))).set 23 (o_m, Sum.inr (10, ((fs_m.set 0 (.int (0 : Int32))).set 3 (.int (8 : Int32)))))))) := by
  refine rn_lv [(0, .ref o_m), (1, .long y)] rfl ?_
  refine rn_aload_n (i := 0) dX10_type_0 rfl rfl ?_
  refine rn_iconst (v := (0 : Int32)) dX10_type_1 (by decide) ?_
  refine rn_put 23 (kp_SGModel_137 _) h_m (ls_lt hf_m_0) rfl rfl dX10_type_2 ?_
  refine rn_aload_n (i := 0) dX10_type_5 rfl rfl ?_
  refine rn_aload_n (i := 0) dX10_type_6 rfl rfl ?_
  refine rn_get 23 kg_SGModel_168 (ls_eq h_m) (ls_ne (by decide) hf_m_3) dX10_type_7 ?_
  refine rn_bipush (v := (8 : Int32)) dX10_type_10 (by decide) ?_
  refine rn_iadd dX10_type_12 ?_
  refine rn_topi (8 : Int32) (by decide) ?_
  refine rn_sipush (v := (2000 : Int32)) dX10_type_13 (by decide) ?_
  refine rn_icmp_le (tgt := 23) dX10_type_16 (by decide) (fun h1 => ?_) (fun h1 => absurd h1 (by decide))
  refine rn_iconst (v := (0 : Int32)) dX10_type_23 (by decide) ?_
  refine rn_iconst (v := (1 : Int32)) dX10_type_24 (by decide) ?_
  refine rn_callV (a := 0) (b := 0) [.int (0 : Int32), .int (1 : Int32)] kl_SGModel_171 dX10_type_25 23 (ls_eq h_m) rfl (c_X10_refuses G _ (o_m := o_m) (x := (0 : Int32)) (y := (1 : Int32)) (fs_m := (fs_m.set 0 (.int (0 : Int32)))) (th := (0 : Int32)) (ls_eq h_m) (ls_eq hf_m_0)) rfl rfl (Nat.le_of_ble_eq_true rfl) (Nat.le_of_ble_eq_true rfl) (Nat.le_of_ble_eq_true rfl) (Nat.le_of_ble_eq_true rfl) (Nat.le_of_ble_eq_true rfl) (Nat.le_of_ble_eq_true rfl) (by rintro E w h; rcases h with ⟨_, hr, _⟩ | ⟨_, hr, _⟩ | ⟨_, hr, _⟩ | ⟨_, hr, _⟩ <;> cases hr) ?_
  rintro v w h
  rcases h with ⟨hc, hr, hw⟩ | ⟨hc, hr, hw⟩ | ⟨hc, hr, hw⟩ | ⟨hc, hr, hw⟩
  · have hc2 := hc; clear hc; cases hr; subst hw
    refine rn_stk [.int (0 : Int32)] rfl ?_
    refine rn_if_eq (tgt := 33) dX10_type_28 (by decide) (fun h3 => ?_) (fun h3 => absurd h3 (by decide))
    refine rn_aload_n (i := 0) dX10_type_33 rfl rfl ?_
    refine rn_iconst (v := (0 : Int32)) dX10_type_34 (by decide) ?_
    refine rn_aload_n (i := 0) dX10_type_35 rfl rfl ?_
    refine rn_get 23 kg_SGModel_168 (ls_eq h_m) (ls_ne (by decide) hf_m_3) dX10_type_36 ?_
    refine rn_iadd dX10_type_39 ?_
    refine rn_topi (0 : Int32) (by decide) ?_
    refine rn_lload_n (i := 1) dX10_type_40 rfl rfl ?_
    refine rn_callV (a := 0) (b := 0) [.int (0 : Int32), .long y] kl_SGModel_175 dX10_type_41 23 (ls_eq h_m) rfl (c_X10_putEight G _ (o_m := o_m) (p := (0 : Int32)) (y := y) (fs_m := (fs_m.set 0 (.int (0 : Int32)))) (a_bytes := a_bytes) (g_bytes := (fun _ => 0)) (ls_eq h_m) (ls_ne (by decide) hf_m_2) (ls_ne (by decide) h_m_bytes) (by decide) (by decide)) rfl rfl (Nat.le_of_ble_eq_true rfl) (Nat.le_of_ble_eq_true rfl) (Nat.le_of_ble_eq_true rfl) (Nat.le_of_ble_eq_true rfl) (Nat.le_of_ble_eq_true rfl) (Nat.le_of_ble_eq_true rfl) (by rintro E w h; rcases h with ⟨_, hr, _⟩ <;> cases hr) ?_
    rintro v w h
    obtain ⟨hc4, hr, hw⟩ := h; cases hr; subst hw
    refine rn_stk [] rfl ?_
    refine rn_aload_n (i := 0) dX10_type_44 rfl rfl ?_
    refine rn_dup dX10_type_45 rfl ?_
    refine rn_get 23 kg_SGModel_168 (ls_ne (by decide) (ls_ne (by decide) (ls_ne (by decide) (ls_ne (by decide) (ls_ne (by decide) (ls_ne (by decide) (ls_ne (by decide) (ls_ne (by decide) (ls_eq h_m))))))))) (ls_ne (by decide) hf_m_3) dX10_type_46 ?_
    refine rn_bipush (v := (8 : Int32)) dX10_type_49 (by decide) ?_
    refine rn_iadd dX10_type_51 ?_
    refine rn_topi (8 : Int32) (by decide) ?_
    refine rn_put 23 (kp_SGModel_168 _) (ls_ne (by decide) (ls_ne (by decide) (ls_ne (by decide) (ls_ne (by decide) (ls_ne (by decide) (ls_ne (by decide) (ls_ne (by decide) (ls_ne (by decide) (ls_eq h_m))))))))) (ls_lt (ls_ne (by decide) hf_m_3)) rfl rfl dX10_type_52 ?_
    refine rn_aload_n (i := 0) dX10_type_55 rfl rfl ?_
    refine rn_get 23 kg_SGModel_168 (ls_eq (ls_ne (by decide) (ls_ne (by decide) (ls_ne (by decide) (ls_ne (by decide) (ls_ne (by decide) (ls_ne (by decide) (ls_ne (by decide) (ls_ne (by decide) (ls_eq h_m)))))))))) (ls_eq (ls_ne (by decide) hf_m_3)) dX10_type_56 ?_
    exact rn_iret dX10_type_59 rfl rfl ⟨hc2, rfl, rfl⟩
  · have hc5 := hc; clear hc; cases hr; subst hw
    exact absurd hc5 (by decide)
  · have hc6 := hc; clear hc; cases hr; subst hw
    exact absurd hc6 (by decide)
  · have hc7 := hc; clear hc; cases hr; subst hw
    exact absurd hc7 (by decide)
set_option maxRecDepth 20000 in
set_option maxHeartbeats 4000000 in
theorem c_X10_keep (G : rn_G) (ws : va_W) (o_m : Nat) (n : Int32) (fs_m : List Value) (h_m : ws[23]? = some (o_m, Sum.inr (10, fs_m))) (hf_m_0 : fs_m[0]? = some (.int (0 : Int32))) (hf_m_3 : fs_m[3]? = some (.int (0 : Int32))) : Rn G mX10_keep 1 22 0 0 0 (lv_args 0 [.ref o_m, .int n]) [] ws (fun r w => ((((n < (0 : Int32)) ∨ (¬ (n < (0 : Int32)) ∧ (0 : Int32) < n)) ∧ ((0 : Int32) = (0 : Int32) ∧ ¬ ((1 : Int32) = (0 : Int32)) ∧ ¬ ((1 : Int32) ≤ (0 : Int32)))) ∧ r = Sum.inl none ∧ w = ((ws.set 23 (o_m, Sum.inr (10, (fs_m.set 0 (.int (0 : Int32)))))).set 23 (o_m, Sum.inr (10, ((fs_m.set 0 (.int (0 : Int32))).set 0 (.int (1 : Int32))))))) ∨ (((¬ (n < (0 : Int32)) ∧ ¬ ((0 : Int32) < n)) ∧ ((¬ ((0 : Int32) = (0 : Int32)) ∧ (0 : Int32) ≤ (0 : Int32)) ∨ ((0 : Int32) = (0 : Int32) ∧ (0 : Int32) = (0 : Int32) ∧ (0 : Int32) ≤ (0 : Int32)))) ∧ r = Sum.inl none ∧ w = ((ws.set 23 (o_m, Sum.inr (10, (fs_m.set 0 (.int (0 : Int32)))))).set 23 (o_m, Sum.inr (10, ((fs_m.set 0 (.int (0 : Int32))).set 3 (.int n))))))) := by
  refine rn_lv [(0, .ref o_m), (1, .int n)] rfl ?_
  refine rn_aload_n (i := 0) dX10_keep_0 rfl rfl ?_
  refine rn_iconst (v := (0 : Int32)) dX10_keep_1 (by decide) ?_
  refine rn_put 23 (kp_SGModel_137 _) h_m (ls_lt hf_m_0) rfl rfl dX10_keep_2 ?_
  refine rn_aload_n (i := 0) dX10_keep_5 rfl rfl ?_
  refine rn_iload_n (i := 1) dX10_keep_6 rfl rfl ?_
  refine rn_iconst (v := (0 : Int32)) dX10_keep_7 (by decide) ?_
  refine rn_aload_n (i := 0) dX10_keep_8 rfl rfl ?_
  refine rn_get 23 kg_SGModel_168 (ls_eq h_m) (ls_ne (by decide) hf_m_3) dX10_keep_9 ?_
  refine rn_callS (a := 0) (b := 0) [.int n, .int (0 : Int32), .int (0 : Int32)] kl_SGModel_179 dX10_keep_12 (c_X10_in G _ (x := n) (y := (0 : Int32)) (u := (0 : Int32))) rfl rfl (Nat.le_of_ble_eq_true rfl) (Nat.le_of_ble_eq_true rfl) (Nat.le_of_ble_eq_true rfl) (Nat.le_of_ble_eq_true rfl) (Nat.le_of_ble_eq_true rfl) (Nat.le_of_ble_eq_true rfl) (by rintro E w h; rcases h with ⟨_, hr, _⟩ | ⟨_, hr, _⟩ <;> cases hr) ?_
  rintro v w h
  rcases h with ⟨hc, hr, hw⟩ | ⟨hc, hr, hw⟩
  · have hc1 := hc; clear hc; cases hr; subst hw
    refine rn_stk [.int (0 : Int32), .ref o_m] rfl ?_
    refine rn_if_ne (tgt := 22) dX10_keep_15 (by decide) (fun h2 => absurd h2 (by decide)) (fun h2 => ?_)
    refine rn_iconst (v := (1 : Int32)) dX10_keep_18 (by decide) ?_
    refine rn_goto (tgt := 23) dX10_keep_19 (by decide) ?_
    refine rn_iconst (v := (1 : Int32)) dX10_keep_23 (by decide) ?_
    refine rn_callV (a := 0) (b := 0) [.int (1 : Int32), .int (1 : Int32)] kl_SGModel_171 dX10_keep_24 23 (ls_eq h_m) rfl (c_X10_refuses G _ (o_m := o_m) (x := (1 : Int32)) (y := (1 : Int32)) (fs_m := (fs_m.set 0 (.int (0 : Int32)))) (th := (0 : Int32)) (ls_eq h_m) (ls_eq hf_m_0)) rfl rfl (Nat.le_of_ble_eq_true rfl) (Nat.le_of_ble_eq_true rfl) (Nat.le_of_ble_eq_true rfl) (Nat.le_of_ble_eq_true rfl) (Nat.le_of_ble_eq_true rfl) (Nat.le_of_ble_eq_true rfl) (by rintro E w h; rcases h with ⟨_, hr, _⟩ | ⟨_, hr, _⟩ | ⟨_, hr, _⟩ | ⟨_, hr, _⟩ <;> cases hr) ?_
    rintro v w h
    rcases h with ⟨hc, hr, hw⟩ | ⟨hc, hr, hw⟩ | ⟨hc, hr, hw⟩ | ⟨hc, hr, hw⟩
    · have hc3 := hc; clear hc; cases hr; subst hw
      exact absurd hc3 (by decide)
    · have hc4 := hc; clear hc; cases hr; subst hw
      exact absurd hc4 (by decide)
    · have hc5 := hc; clear hc; cases hr; subst hw
      exact absurd hc5 (by decide)
    · have hc6 := hc; clear hc; cases hr; subst hw
      refine rn_stk [.int (1 : Int32)] rfl ?_
      refine rn_if_ne (tgt := 35) dX10_keep_27 (by decide) (fun h7 => ?_) (fun h7 => absurd h7 (by decide))
      exact rn_vret dX10_keep_35 rfl (Or.inl ⟨⟨hc1, hc6⟩, rfl, rfl⟩)
  · have hc8 := hc; clear hc; cases hr; subst hw
    refine rn_stk [.int (1 : Int32), .ref o_m] rfl ?_
    refine rn_if_ne (tgt := 22) dX10_keep_15 (by decide) (fun h9 => ?_) (fun h9 => absurd h9 (by decide))
    refine rn_iconst (v := (0 : Int32)) dX10_keep_22 (by decide) ?_
    refine rn_iconst (v := (1 : Int32)) dX10_keep_23 (by decide) ?_
    refine rn_callV (a := 0) (b := 0) [.int (0 : Int32), .int (1 : Int32)] kl_SGModel_171 dX10_keep_24 23 (ls_eq h_m) rfl (c_X10_refuses G _ (o_m := o_m) (x := (0 : Int32)) (y := (1 : Int32)) (fs_m := (fs_m.set 0 (.int (0 : Int32)))) (th := (0 : Int32)) (ls_eq h_m) (ls_eq hf_m_0)) rfl rfl (Nat.le_of_ble_eq_true rfl) (Nat.le_of_ble_eq_true rfl) (Nat.le_of_ble_eq_true rfl) (Nat.le_of_ble_eq_true rfl) (Nat.le_of_ble_eq_true rfl) (Nat.le_of_ble_eq_true rfl) (by rintro E w h; rcases h with ⟨_, hr, _⟩ | ⟨_, hr, _⟩ | ⟨_, hr, _⟩ | ⟨_, hr, _⟩ <;> cases hr) ?_
    rintro v w h
    rcases h with ⟨hc, hr, hw⟩ | ⟨hc, hr, hw⟩ | ⟨hc, hr, hw⟩ | ⟨hc, hr, hw⟩
    · have hc10 := hc; clear hc; cases hr; subst hw
      refine rn_stk [.int (0 : Int32)] rfl ?_
      refine rn_if_ne (tgt := 35) dX10_keep_27 (by decide) (fun h11 => absurd h11 (by decide)) (fun h11 => ?_)
      refine rn_aload_n (i := 0) dX10_keep_30 rfl rfl ?_
      refine rn_iload_n (i := 1) dX10_keep_31 rfl rfl ?_
      refine rn_put 23 (kp_SGModel_168 _) (ls_eq h_m) (ls_lt (ls_ne (by decide) hf_m_3)) rfl rfl dX10_keep_32 ?_
      exact rn_vret dX10_keep_35 rfl (Or.inr ⟨⟨hc8, hc10⟩, rfl, rfl⟩)
    · have hc12 := hc; clear hc; cases hr; subst hw
      exact absurd hc12 (by decide)
    · have hc13 := hc; clear hc; cases hr; subst hw
      exact absurd hc13 (by decide)
    · have hc14 := hc; clear hc; cases hr; subst hw
      exact absurd hc14 (by decide)
