set_option maxRecDepth 20000 in
set_option maxHeartbeats 8000000 in
theorem law_loop (G : rn_G) (hLe : G.2.2.2.2.1.2.1 ≤ 5121) (ox om oo : Nat) : ∀ (n : Nat) (S : ts_S) (w : va_W) (i : Int32), ts_W G S w → (ox, 9) ∈ S → (om, 30) ∈ S → (oo, 21) ∈ S → Cpt S w → 1 ≤ i.toInt → i.toInt ≤ 5131 → 5112 ≤ i.toInt + 10 * n → Rn G mL_law 9 244 (n * 5) (n * 4030) 33 [(0, .ref G.2.2.2.2.1.1), (1, .ref ox), (2, .ref om), (3, .ref oo), (4, .int i)] [] w (fun r _ => r = Sum.inl (some (.int 1))) := by
  intro n
  induction n with
  | zero =>
    intro S w i hW mx mm mo I h1 h2 h3
    exact law33 G hLe ox om oo _ _ w i h1 h2 (fun h => absurd h (by omega))
  | succ n ih =>
    intro S w i hW mx mm mo I h1 h2 h3
    refine law33 G hLe ox om oo _ _ w i h1 h2 (fun hi => ?_)
    have ri : Rg 1 5121 i := ⟨h1, by omega⟩
    have K : ∀ (S' : ts_S) (w' : va_W), ts_W G S' w' → (∀ p ∈ S, p ∈ S') → Cpt S' w' → Rn G mL_law 9 244 (n * 5) (n * 4030) 1279 [(0, .ref G.2.2.2.2.1.1), (1, .ref ox), (2, .ref om), (3, .ref oo), (4, .int i)] [] w' (fun r _ => r = Sum.inl (some (.int 1))) := fun S' w' hW' hm I => law_next G ox om oo _ _ w' i h1 ri.2 (fun v e => ih S' w' v hW' (hm _ mx) (hm _ mm) (hm _ mo) I (by omega) (by omega) (by omega))
    refine rn_aload_n (i := 0) dL_law_43 rfl rfl ?_
    refine rn_iload dL_law_44 rfl ?_
    refine rn_sld (rn_in ⟨by omega, by omega⟩) dL_law_46 ?_
    refine rn_bipush (v := (31 : Int32)) dL_law_47 (by decide) ?_
    refine rn_iand dL_law_49 (rn_tn 0 31 (rg_andr rk_31 (by decide)) (fun v rv => ?_))
    by_cases c0 : v = (0 : Int32)
    · refine rn_topi (0 : Int32) c0 ?_
      refine rn_tableIn (off := 114) (tgt := 164) dL_law_50 (by decide) (by decide) (by decide) (by decide) ?_
      exact rn_room (lc_0 G (n * 5) (n * 4030) S w hW ox om oo mx mm mo i ri hi I K) (Nat.le_refl _) (Nat.le_refl _) (by omega) (by omega)
    by_cases c1 : v = (1 : Int32)
    · refine rn_topi (1 : Int32) c1 ?_
      refine rn_tableIn (off := 174) (tgt := 224) dL_law_50 (by decide) (by decide) (by decide) (by decide) ?_
      exact rn_room (lc_1 G (n * 5) (n * 4030) S w hW ox om oo mx mm mo i ri hi I K) (Nat.le_refl _) (Nat.le_refl _) (by omega) (by omega)
    by_cases c2 : v = (2 : Int32)
    · refine rn_topi (2 : Int32) c2 ?_
      refine rn_tableIn (off := 199) (tgt := 249) dL_law_50 (by decide) (by decide) (by decide) (by decide) ?_
      exact rn_room (lc_2 G (n * 5) (n * 4030) S w hW ox om oo mx mm mo i ri hi I K) (Nat.le_refl _) (Nat.le_refl _) (by omega) (by omega)
    by_cases c3 : v = (3 : Int32)
    · refine rn_topi (3 : Int32) c3 ?_
      refine rn_tableIn (off := 239) (tgt := 289) dL_law_50 (by decide) (by decide) (by decide) (by decide) ?_
      exact rn_room (lc_3 G (n * 5) (n * 4030) S w hW ox om oo mx mm mo i ri hi I K) (Nat.le_refl _) (Nat.le_refl _) (by omega) (by omega)
    by_cases c4 : v = (4 : Int32)
    · refine rn_topi (4 : Int32) c4 ?_
      refine rn_tableIn (off := 267) (tgt := 317) dL_law_50 (by decide) (by decide) (by decide) (by decide) ?_
      exact rn_room (lc_4 G (n * 5) (n * 4030) S w hW ox om oo mx mm mo i ri hi I K) (Nat.le_refl _) (Nat.le_refl _) (by omega) (by omega)
    by_cases c5 : v = (5 : Int32)
    · refine rn_topi (5 : Int32) c5 ?_
      refine rn_tableIn (off := 357) (tgt := 407) dL_law_50 (by decide) (by decide) (by decide) (by decide) ?_
      exact rn_room (lc_5 G (n * 5) (n * 4030) S w hW ox om oo mx mm mo i ri hi I K) (Nat.le_refl _) (Nat.le_refl _) (by omega) (by omega)
    by_cases c6 : v = (6 : Int32)
    · refine rn_topi (6 : Int32) c6 ?_
      refine rn_tableIn (off := 373) (tgt := 423) dL_law_50 (by decide) (by decide) (by decide) (by decide) ?_
      exact rn_room (lc_6 G (n * 5) (n * 4030) S w hW ox om oo mx mm mo i ri hi I K) (Nat.le_refl _) (Nat.le_refl _) (by omega) (by omega)
    by_cases c7 : v = (7 : Int32)
    · refine rn_topi (7 : Int32) c7 ?_
      refine rn_tableIn (off := 425) (tgt := 475) dL_law_50 (by decide) (by decide) (by decide) (by decide) ?_
      exact rn_room (lc_7 G (n * 5) (n * 4030) S w hW ox om oo mx mm mo i ri hi I K) (Nat.le_refl _) (Nat.le_refl _) (by omega) (by omega)
    by_cases c8 : v = (8 : Int32)
    · refine rn_topi (8 : Int32) c8 ?_
      refine rn_tableIn (off := 465) (tgt := 515) dL_law_50 (by decide) (by decide) (by decide) (by decide) ?_
      exact rn_room (lc_8 G (n * 5) (n * 4030) S w hW ox om oo mx mm mo i ri hi I K) (Nat.le_refl _) (Nat.le_refl _) (by omega) (by omega)
    by_cases c9 : v = (9 : Int32)
    · refine rn_topi (9 : Int32) c9 ?_
      refine rn_tableIn (off := 514) (tgt := 564) dL_law_50 (by decide) (by decide) (by decide) (by decide) ?_
      exact rn_room (lc_9 G (n * 5) (n * 4030) S w hW ox om oo mx mm mo i ri hi I K) (Nat.le_refl _) (Nat.le_refl _) (by omega) (by omega)
    by_cases c10 : v = (10 : Int32)
    · refine rn_topi (10 : Int32) c10 ?_
      refine rn_tableIn (off := 604) (tgt := 654) dL_law_50 (by decide) (by decide) (by decide) (by decide) ?_
      exact rn_room (lc_10 G (n * 5) (n * 4030) S w hW ox om oo mx mm mo i ri hi I K) (Nat.le_refl _) (Nat.le_refl _) (by omega) (by omega)
    by_cases c11 : v = (11 : Int32)
    · refine rn_topi (11 : Int32) c11 ?_
      refine rn_tableIn (off := 792) (tgt := 842) dL_law_50 (by decide) (by decide) (by decide) (by decide) ?_
      exact rn_room (lc_11 G (n * 5) (n * 4030) S w hW ox om oo mx mm mo i ri hi I K) (Nat.le_refl _) (Nat.le_refl _) (by omega) (by omega)
    by_cases c12 : v = (12 : Int32)
    · refine rn_topi (12 : Int32) c12 ?_
      refine rn_tableIn (off := 820) (tgt := 870) dL_law_50 (by decide) (by decide) (by decide) (by decide) ?_
      exact rn_room (lc_12 G (n * 5) (n * 4030) S w hW ox om oo mx mm mo i ri hi I K) (Nat.le_refl _) (Nat.le_refl _) (by omega) (by omega)
    by_cases c13 : v = (13 : Int32)
    · refine rn_topi (13 : Int32) c13 ?_
      refine rn_tableIn (off := 892) (tgt := 942) dL_law_50 (by decide) (by decide) (by decide) (by decide) ?_
      exact rn_room (lc_13 G (n * 5) (n * 4030) S w hW ox om oo mx mm mo i ri hi I K) (Nat.le_refl _) (Nat.le_refl _) (by omega) (by omega)
    by_cases c14 : v = (14 : Int32)
    · refine rn_topi (14 : Int32) c14 ?_
      refine rn_tableIn (off := 920) (tgt := 970) dL_law_50 (by decide) (by decide) (by decide) (by decide) ?_
      exact rn_room (lc_14 G (n * 5) (n * 4030) S w hW ox om oo mx mm mo i ri hi I K) (Nat.le_refl _) (Nat.le_refl _) (by omega) (by omega)
    by_cases c15 : v = (15 : Int32)
    · refine rn_topi (15 : Int32) c15 ?_
      refine rn_tableIn (off := 948) (tgt := 998) dL_law_50 (by decide) (by decide) (by decide) (by decide) ?_
      exact rn_room (lc_15 G (n * 5) (n * 4030) S w hW ox om oo mx mm mo i ri hi I K) (Nat.le_refl _) (Nat.le_refl _) (by omega) (by omega)
    by_cases c16 : v = (16 : Int32)
    · refine rn_topi (16 : Int32) c16 ?_
      refine rn_tableIn (off := 973) (tgt := 1023) dL_law_50 (by decide) (by decide) (by decide) (by decide) ?_
      exact rn_room (lc_16 G (n * 5) (n * 4030) S w hW ox om oo mx mm mo i ri hi I K) (Nat.le_refl _) (Nat.le_refl _) (by omega) (by omega)
    by_cases c17 : v = (17 : Int32)
    · refine rn_topi (17 : Int32) c17 ?_
      refine rn_tableIn (off := 1013) (tgt := 1063) dL_law_50 (by decide) (by decide) (by decide) (by decide) ?_
      exact rn_room (lc_17 G (n * 5) (n * 4030) S w hW ox om oo mx mm mo i ri hi I K) (Nat.le_refl _) (Nat.le_refl _) (by omega) (by omega)
    by_cases c18 : v = (18 : Int32)
    · refine rn_topi (18 : Int32) c18 ?_
      refine rn_tableIn (off := 1041) (tgt := 1091) dL_law_50 (by decide) (by decide) (by decide) (by decide) ?_
      exact rn_room (lc_18 G (n * 5) (n * 4030) S w hW ox om oo mx mm mo i ri hi I K) (Nat.le_refl _) (Nat.le_refl _) (by omega) (by omega)
    by_cases c19 : v = (19 : Int32)
    · refine rn_topi (19 : Int32) c19 ?_
      refine rn_tableIn (off := 1081) (tgt := 1131) dL_law_50 (by decide) (by decide) (by decide) (by decide) ?_
      exact rn_room (lc_19 G (n * 5) (n * 4030) S w hW ox om oo mx mm mo i ri hi I K) (Nat.le_refl _) (Nat.le_refl _) (by omega) (by omega)
    by_cases c20 : v = (20 : Int32)
    · refine rn_topi (20 : Int32) c20 ?_
      refine rn_tableIn (off := 1109) (tgt := 1159) dL_law_50 (by decide) (by decide) (by decide) (by decide) ?_
      exact rn_room (lc_20 G (n * 5) (n * 4030) S w hW ox om oo mx mm mo i ri hi I K) (Nat.le_refl _) (Nat.le_refl _) (by omega) (by omega)
    by_cases c21 : v = (21 : Int32)
    · refine rn_topi (21 : Int32) c21 ?_
      refine rn_tableIn (off := 1137) (tgt := 1187) dL_law_50 (by decide) (by decide) (by decide) (by decide) ?_
      exact rn_room (lc_21 G (n * 5) (n * 4030) S w hW ox om oo mx mm mo i ri hi I K) (Nat.le_refl _) (Nat.le_refl _) (by omega) (by omega)
    by_cases c22 : v = (22 : Int32)
    · refine rn_topi (22 : Int32) c22 ?_
      refine rn_tableIn (off := 1150) (tgt := 1200) dL_law_50 (by decide) (by decide) (by decide) (by decide) ?_
      exact rn_room (lc_22 G (n * 5) (n * 4030) S w hW ox om oo mx mm mo i ri hi I K) (Nat.le_refl _) (Nat.le_refl _) (by omega) (by omega)
    by_cases c23 : v = (23 : Int32)
    · refine rn_topi (23 : Int32) c23 ?_
      refine rn_tableIn (off := 1190) (tgt := 1240) dL_law_50 (by decide) (by decide) (by decide) (by decide) ?_
      exact rn_room (lc_23 G (n * 5) (n * 4030) S w hW ox om oo mx mm mo i ri hi I K) (Nat.le_refl _) (Nat.le_refl _) (by omega) (by omega)
    by_cases c24 : v = (24 : Int32)
    · refine rn_topi (24 : Int32) c24 ?_
      refine rn_tableIn (off := 1218) (tgt := 1268) dL_law_50 (by decide) (by decide) (by decide) (by decide) ?_
      exact rn_room (lc_24 G (n * 5) (n * 4030) S w hW ox om oo mx mm mo i ri hi I K) (Nat.le_refl _) (Nat.le_refl _) (by omega) (by omega)
    have e0 := cv_ne c0; rw [show (0 : Int32).toInt = 0 by decide] at e0
    have e1 := cv_ne c1; rw [show (1 : Int32).toInt = 1 by decide] at e1
    have e2 := cv_ne c2; rw [show (2 : Int32).toInt = 2 by decide] at e2
    have e3 := cv_ne c3; rw [show (3 : Int32).toInt = 3 by decide] at e3
    have e4 := cv_ne c4; rw [show (4 : Int32).toInt = 4 by decide] at e4
    have e5 := cv_ne c5; rw [show (5 : Int32).toInt = 5 by decide] at e5
    have e6 := cv_ne c6; rw [show (6 : Int32).toInt = 6 by decide] at e6
    have e7 := cv_ne c7; rw [show (7 : Int32).toInt = 7 by decide] at e7
    have e8 := cv_ne c8; rw [show (8 : Int32).toInt = 8 by decide] at e8
    have e9 := cv_ne c9; rw [show (9 : Int32).toInt = 9 by decide] at e9
    have e10 := cv_ne c10; rw [show (10 : Int32).toInt = 10 by decide] at e10
    have e11 := cv_ne c11; rw [show (11 : Int32).toInt = 11 by decide] at e11
    have e12 := cv_ne c12; rw [show (12 : Int32).toInt = 12 by decide] at e12
    have e13 := cv_ne c13; rw [show (13 : Int32).toInt = 13 by decide] at e13
    have e14 := cv_ne c14; rw [show (14 : Int32).toInt = 14 by decide] at e14
    have e15 := cv_ne c15; rw [show (15 : Int32).toInt = 15 by decide] at e15
    have e16 := cv_ne c16; rw [show (16 : Int32).toInt = 16 by decide] at e16
    have e17 := cv_ne c17; rw [show (17 : Int32).toInt = 17 by decide] at e17
    have e18 := cv_ne c18; rw [show (18 : Int32).toInt = 18 by decide] at e18
    have e19 := cv_ne c19; rw [show (19 : Int32).toInt = 19 by decide] at e19
    have e20 := cv_ne c20; rw [show (20 : Int32).toInt = 20 by decide] at e20
    have e21 := cv_ne c21; rw [show (21 : Int32).toInt = 21 by decide] at e21
    have e22 := cv_ne c22; rw [show (22 : Int32).toInt = 22 by decide] at e22
    have e23 := cv_ne c23; rw [show (23 : Int32).toInt = 23 by decide] at e23
    have e24 := cv_ne c24; rw [show (24 : Int32).toInt = 24 by decide] at e24
    have g1 := rv.1; have g2 := rv.2
    refine rn_tableOut (tgt := 1279) dL_law_50 (by omega) (by decide) ?_
    exact rn_room (K S w hW (fun _ h => h) I) (Nat.le_refl _) (Nat.le_refl _) (by omega) (by omega)
