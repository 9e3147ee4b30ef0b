/-! the contracts of BreakLines, its inner ones -/
noncomputable section
set_option maxHeartbeats 4000000 in
set_option maxRecDepth 100000 in
theorem kX3_findBest (l : Launch) (D : va_G) (cI cJ cZ : ClassId) (q : Nat → Nat) (σ : Sg) (la wa : Int → Int) (mk : Nat → Int32) (hok : okP σ la wa mk) (lp tp rk od : Int → Int) (fr fo : Int) (ex : Prop) (to ln pg : Int) (fb fl pl lb : Int → Int) (kn : Prop) (hI : clsI σ kn ex to ln pg fb fl pl lb) : MuV l yX3_findBest wsX3_findBest 5 135 D (tyc cI cJ cZ) (wPc q cI (sNb σ) (sWd σ) (sPp σ) (sCt σ) (sCs σ) mk la wa ++ wSe q cJ lp tp rk od fr fo ++ wSt q cI ex to ln pg fb fl pl lb ++ wBl q kn) [.ref (q 15)] (fun (u : (Int → Int) × (Int → Int) × (Int → Int) × (Int → Int) × Int × Int × Prop × Int × Int × Int × (Int → Int) × (Int → Int) × (Int → Int) × (Int → Int) × Prop) => u.2.2.2.2.2.2.2.2.2.2.2.2.2.2 ∧ clsI σ u.2.2.2.2.2.2.2.2.2.2.2.2.2.2 u.2.2.2.2.2.2.1 u.2.2.2.2.2.2.2.1 u.2.2.2.2.2.2.2.2.1 u.2.2.2.2.2.2.2.2.2.1 u.2.2.2.2.2.2.2.2.2.2.1 u.2.2.2.2.2.2.2.2.2.2.2.1 u.2.2.2.2.2.2.2.2.2.2.2.2.1 u.2.2.2.2.2.2.2.2.2.2.2.2.2.1) (fun u => wPc q cI (sNb σ) (sWd σ) (sPp σ) (sCt σ) (sCs σ) mk la wa ++ wSe q cJ u.1 u.2.1 u.2.2.1 u.2.2.2.1 u.2.2.2.2.1 u.2.2.2.2.2.1 ++ wSt q cI u.2.2.2.2.2.2.1 u.2.2.2.2.2.2.2.1 u.2.2.2.2.2.2.2.2.1 u.2.2.2.2.2.2.2.2.2.1 u.2.2.2.2.2.2.2.2.2.2.1 u.2.2.2.2.2.2.2.2.2.2.2.1 u.2.2.2.2.2.2.2.2.2.2.2.2.1 u.2.2.2.2.2.2.2.2.2.2.2.2.2.1 ++ wBl q u.2.2.2.2.2.2.2.2.2.2.2.2.2.2) := by
  intro sz
  refine j_start RX3 rfl (by decide) rfl (Nat.le_of_ble_eq_true rfl) ?_
  intro p e s m below meth c ls hx hb hr hlocks hml hown hts hnm hl ⟨hsz, hP, hK, hD0⟩
  subst hsz
  have hD := hD0.self (sz := s.heap.size)
  generalize hAe : va_A (wPc q cI (sNb σ) (sWd σ) (sPp σ) (sCt σ) (sCs σ) mk la wa ++ wSe q cJ lp tp rk od fr fo ++ wSt q cI ex to ln pg fb fl pl lb ++ wBl q kn) s.heap.size = A at hD ⊢
  have hA : ∀ q : Nat, s.heap.size ≤ q → A q := fun q h => by rw [← hAe]; exact Or.inr h
  refine j_gen (fun H locs hHe hLe => ?_)
  have hS : va_S A s.heap H locs := by rw [hHe, hLe]; exact va_S.rf
  have hP : va_P D vwCl (wPc q cI (sNb σ) (sWd σ) (sPp σ) (sCt σ) (sCs σ) mk la wa ++ wSe q cJ lp tp rk od fr fo ++ wSt q cI ex to ln pg fb fl pl lb ++ wBl q kn) H := by rw [hHe]; exact hP
  have hD : va_D A (wPc q cI (sNb σ) (sWd σ) (sPp σ) (sCt σ) (sCs σ) mk la wa ++ wSe q cJ lp tp rk od fr fo ++ wSt q cI ex to ln pg fb fl pl lb ++ wBl q kn) := hD
  have hl : lv_has ls 1 [(0, .ref (q 15))] := hl
  have hinX0 : ∀ w ∈ u_ws RX0 TX0 8, w ∈ wsX3_findBest := by decide +kernel
  have hinX3 : ∀ w ∈ u_ws RX3 TX3 4, w ∈ wsX3_findBest := by decide +kernel
  have hS0 := hok.1
  have hnb := hS0.1
  have hwd := hS0.2.1
  have hpp := hS0.2.2.1
  refine lv_aload_n hx hb dX3_findBest_0 rfl (lv_at hl 0 rfl) ?_
  refine va_get (D := D) (ci := 3) (v := .int (jZ kn)) (C := RX3) (T := TX3) (N := 4) hx hb hts hinX3 hown hK hP 15 rfl rfl 3 (by decide) (hts (.fieldLink RX3 38 "BreakLines" "bestIsKnown" "Z") (by decide +kernel)) (fun _ h9 => h9) rfl dX3_findBest_1 ?_
  refine j_ifeqZ (tgt := 8) hx hb dX3_findBest_4 (by decide) (fun c4 => ?_) (fun c4 => ?_)
  · skip
    refine lv_aload_n hx hb dX3_findBest_8 rfl (lv_at hl 0 rfl) ?_
    refine va_get (D := D) (ci := 3) (v := .ref (q 5)) (C := RX3) (T := TX3) (N := 4) hx hb hts hinX3 hown hK hP 15 rfl rfl 1 (by decide) (hts (.fieldLink RX3 27 "BreakLines" "search" "LBreakLines$Search;") (by decide +kernel)) (fun _ h9 => h9) rfl dX3_findBest_9 ?_
    refine j_mVV (As := []) (rest := []) ⟨hx, hb, hml, hown, hts⟩ (kX1_run l D cI cJ cZ q σ la wa mk hok lp tp rk od fr fo) (cwV 0 hts gX3_findBest_X1_run rfl rfl rfl (by decide +kernel) ⟨Nat.le_of_ble_eq_true rfl, Nat.le_of_ble_eq_true rfl⟩) hK hP hD hS hA (va_recv hK hP (ci := 1) (q0 := 5) rfl rfl) rfl hl.1 rfl (Nat.le_of_ble_eq_true rfl) ⟨Nat.zero_le _, Nat.zero_le _⟩ dX3_findBest_12 [0, 1, 2, 3, 4, 5, 6, 7, 8, 9] [10, 11, 12, 13, 14, 15] [6, 7, 8, 9, 10, 11, 12, 13, 14, 15, 0, 1, 2, 3, 4, 5] rfl (by decide) (wr := (wSt q cI ex to ln pg fb fl pl lb ++ wBl q kn)) rfl (by decide) (by decide) (fun _ => rfl) (fun u => wPc q cI (sNb σ) (sWd σ) (sPp σ) (sCt σ) (sCs σ) mk la wa ++ wSe q cJ u.1 u.2.1 u.2.2.1 u.2.2.2.1 u.2.2.2.2.1 u.2.2.2.2.2 ++ wSt q cI ex to ln pg fb fl pl lb ++ wBl q kn) (fun _ => rfl) (fun _ => rfl) (fun ⟨lpc1, tpc1, rkc1, odc1, frc1, foc1⟩ H locs hu1 hP hD hS => ?_)
    have hP : va_P D vwCl (wPc q cI (sNb σ) (sWd σ) (sPp σ) (sCt σ) (sCs σ) mk la wa ++ wSe q cJ lpc1 tpc1 rkc1 odc1 frc1 foc1 ++ wSt q cI ex to ln pg fb fl pl lb ++ wBl q kn) H := hP
    have hD : va_D A (wPc q cI (sNb σ) (sWd σ) (sPp σ) (sCt σ) (sCs σ) mk la wa ++ wSe q cJ lpc1 tpc1 rkc1 odc1 frc1 foc1 ++ wSt q cI ex to ln pg fb fl pl lb ++ wBl q kn) := hD
    refine lv_aload_n hx hb dX3_findBest_15 rfl (lv_at hl 0 rfl) ?_
    refine va_get (D := D) (ci := 3) (v := .ref (q 10)) (C := RX3) (T := TX3) (N := 4) hx hb hts hinX3 hown hK hP 15 rfl rfl 2 (by decide) (hts (.fieldLink RX3 34 "BreakLines" "best" "LBreakLines$Setting;") (by decide +kernel)) (fun _ h9 => h9) rfl dX3_findBest_16 ?_
    refine lv_aload_n hx hb dX3_findBest_19 rfl (lv_at hl 0 rfl) ?_
    refine va_get (D := D) (ci := 3) (v := .ref (q 5)) (C := RX3) (T := TX3) (N := 4) hx hb hts hinX3 hown hK hP 15 rfl rfl 1 (by decide) (hts (.fieldLink RX3 27 "BreakLines" "search" "LBreakLines$Search;") (by decide +kernel)) (fun _ h9 => h9) rfl dX3_findBest_20 ?_
    refine lv_aload_n hx hb dX3_findBest_23 rfl (lv_at hl 0 rfl) ?_
    refine va_get (D := D) (ci := 3) (v := .ref (q 0)) (C := RX3) (T := TX3) (N := 4) hx hb hts hinX3 hown hK hP 15 rfl rfl 0 (by decide) (hts (.fieldLink RX3 18 "BreakLines" "piece" "LBreakLines$Piece;") (by decide +kernel)) (fun _ h9 => h9) rfl dX3_findBest_24 ?_
    refine va_get (D := D) (ci := 0) (v := .int (jI (sNb σ))) (C := RX0) (T := TX0) (N := 8) hx hb hts hinX0 hown hK hP 0 rfl rfl 0 (by decide) (hts (.fieldLink RX3 46 "BreakLines$Piece" "bars" "I") (by decide +kernel)) (fun _ h9 => h9) rfl dX3_findBest_27 ?_
    refine j_mVV (As := [.ref (q 5), .int (jI (sNb σ))]) (rest := []) ⟨hx, hb, hml, hown, hts⟩ (kX2_take l D cI cJ cZ q σ la wa mk hok lpc1 tpc1 rkc1 odc1 frc1 foc1 ex to ln pg fb fl pl lb (hu1.okC hS0 (by omega) (by omega) (by omega)) hI.1) (cwV 2 hts gX3_findBest_X2_take rfl rfl rfl (by decide +kernel) ⟨Nat.le_of_ble_eq_true rfl, Nat.le_of_ble_eq_true rfl⟩) hK hP hD hS hA (va_recv hK hP (ci := 2) (q0 := 10) rfl rfl) rfl hl.1 rfl (Nat.le_of_ble_eq_true rfl) ⟨Nat.zero_le _, Nat.zero_le _⟩ dX3_findBest_30 [0, 1, 2, 3, 4, 5, 6, 7, 8, 9, 10, 11, 12, 13, 14] [15] [1, 2, 3, 4, 5, 6, 7, 8, 9, 10, 11, 12, 13, 14, 15, 0] rfl (by decide) (wr := (wBl q kn)) rfl (by decide) (by decide) (fun _ => rfl) (fun u => wPc q cI (sNb σ) (sWd σ) (sPp σ) (sCt σ) (sCs σ) mk la wa ++ wSe q cJ lpc1 tpc1 rkc1 odc1 frc1 foc1 ++ wSt q cI (frc1 ≠ 9223372036854775807) (if frc1 = 9223372036854775807 then -1 else frc1 / 1024) u.1 u.2.1 u.2.2.1 u.2.2.2.1 u.2.2.2.2.1 u.2.2.2.2.2 ++ wBl q kn) (fun _ => rfl) (fun _ => rfl) (fun ⟨lnc2, pgc2, fbc2, flc2, plc2, lbc2⟩ H locs hu2 hP hD hS => ?_)
    have hP : va_P D vwCl (wPc q cI (sNb σ) (sWd σ) (sPp σ) (sCt σ) (sCs σ) mk la wa ++ wSe q cJ lpc1 tpc1 rkc1 odc1 frc1 foc1 ++ wSt q cI (frc1 ≠ 9223372036854775807) (if frc1 = 9223372036854775807 then -1 else frc1 / 1024) lnc2 pgc2 fbc2 flc2 plc2 lbc2 ++ wBl q kn) H := hP
    have hD : va_D A (wPc q cI (sNb σ) (sWd σ) (sPp σ) (sCt σ) (sCs σ) mk la wa ++ wSe q cJ lpc1 tpc1 rkc1 odc1 frc1 foc1 ++ wSt q cI (frc1 ≠ 9223372036854775807) (if frc1 = 9223372036854775807 then -1 else frc1 / 1024) lnc2 pgc2 fbc2 flc2 plc2 lbc2 ++ wBl q kn) := hD
    refine lv_aload_n hx hb dX3_findBest_33 rfl (lv_at hl 0 rfl) ?_
    refine j_iconst hx hb dX3_findBest_34 ?_
    refine j_topi (y := jZ True) ((jZ_t trivial).symm) ?_
    refine va_put (D := D) (ci := 3) (v := .int (jZ True)) (ty := .boolean) (C := RX3) (T := TX3) (N := 4) hx hb hts hinX3 tyX3 tyX3_ok nmX3 hown hK hP hD hS 15 rfl rfl 3 (by decide) (hts (.fieldLink RX3 38 "BreakLines" "bestIsKnown" "Z") (by decide +kernel)) (fun _ h9 => h9) rfl (by decide +kernel) (jZ_narrow _) (jZ_fits _) (Nat.le_of_ble_eq_true rfl) dX3_findBest_35 (fun H locs hP hD hS => ?_)
    have hP : va_P D vwCl (wPc q cI (sNb σ) (sWd σ) (sPp σ) (sCt σ) (sCs σ) mk la wa ++ wSe q cJ lpc1 tpc1 rkc1 odc1 frc1 foc1 ++ wSt q cI (frc1 ≠ 9223372036854775807) (if frc1 = 9223372036854775807 then -1 else frc1 / 1024) lnc2 pgc2 fbc2 flc2 plc2 lbc2 ++ wBl q True) H := hP
    have hD : va_D A (wPc q cI (sNb σ) (sWd σ) (sPp σ) (sCt σ) (sCs σ) mk la wa ++ wSe q cJ lpc1 tpc1 rkc1 odc1 frc1 foc1 ++ wSt q cI (frc1 ≠ 9223372036854775807) (if frc1 = 9223372036854775807 then -1 else frc1 / 1024) lnc2 pgc2 fbc2 flc2 plc2 lbc2 ++ wBl q True) := hD
    exact j_mretV hx hb hr hlocks hS dX3_findBest_38 (lpc1, tpc1, rkc1, odc1, frc1, foc1, frc1 ≠ 9223372036854775807, if frc1 = 9223372036854775807 then -1 else frc1 / 1024, lnc2, pgc2, fbc2, flc2, plc2, lbc2, True) ⟨trivial, hu2.1, fun _ => ⟨frc1, foc1, hu1, Iff.rfl, rfl, hu2.2⟩⟩ hP
  · skip
    exact j_mretV hx hb hr hlocks hS dX3_findBest_7 (lp, tp, rk, od, fr, fo, ex, to, ln, pg, fb, fl, pl, lb, kn) ⟨c4, hI⟩ hP
set_option maxHeartbeats 4000000 in
set_option maxRecDepth 100000 in
theorem kX3_isWithin (l : Launch) (D : va_G) (cI cJ cZ : ClassId) (x a b : Int) (h : i32 x ∧ i32 a ∧ i32 b) : RoI l yX3_isWithin wsX3_isWithin 0 0 D (tyc cI cJ cZ) ([]) [.int (jI x), .int (jI a), .int (jI b)] (jZ (a ≤ x ∧ x ≤ b)) := by
  refine j_start RX3 rfl (by decide) rfl (Nat.le_of_ble_eq_true rfl) ?_
  intro p e s m below meth c ls hx hb hr hlocks hml hown hts hnm hl ⟨hP, hK⟩
  have hP : va_P D vwCl ([]) s.heap := hP
  have hl : lv_has ls 3 [(0, .int (jI x)), (1, .int (jI a)), (2, .int (jI b))] := hl
  unfold i32 at h
  refine lv_iload_n hx hb dX3_isWithin_0 rfl (lv_at hl 0 rfl) ?_
  refine lv_iload_n hx hb dX3_isWithin_1 rfl (lv_at hl 1 rfl) ?_
  refine j_icmp_lt (tgt := 14) hx hb (by unfold i32; omega) dX3_isWithin_2 (by decide) (fun c2 => ?_) (fun c2 => ?_)
  · skip
    refine j_iconst hx hb dX3_isWithin_14 ?_
    exact j_retZ hx hb hr (by decide) hlocks dX3_isWithin_15 ((jZ_f (by omega)).symm)
  · skip
    refine lv_iload_n hx hb dX3_isWithin_5 rfl (lv_at hl 0 rfl) ?_
    refine lv_iload_n hx hb dX3_isWithin_6 rfl (lv_at hl 2 rfl) ?_
    refine j_icmp_gt (tgt := 14) hx hb (by unfold i32; omega) dX3_isWithin_7 (by decide) (fun c7 => ?_) (fun c7 => ?_)
    · skip
      refine j_iconst hx hb dX3_isWithin_14 ?_
      exact j_retZ hx hb hr (by decide) hlocks dX3_isWithin_15 ((jZ_f (by omega)).symm)
    · skip
      refine j_iconst hx hb dX3_isWithin_10 ?_
      refine lv_goto (tgt := 15) hx hb dX3_isWithin_11 (by decide) ?_
      exact j_retZ hx hb hr (by decide) hlocks dX3_isWithin_15 ((jZ_t (by omega)).symm)
set_option maxHeartbeats 4000000 in
set_option maxRecDepth 100000 in
theorem kX3_areWidths (l : Launch) (D : va_G) (cI cJ cZ : ClassId) (x y : Int) (h : i32 x ∧ i32 y) : RoI l yX3_areWidths wsX3_areWidths 1 22 D (tyc cI cJ cZ) ([]) [.int (jI x), .int (jI y)] (jZ (1 ≤ x ∧ x ≤ y ∧ y ≤ 400)) := by
  refine j_start RX3 rfl (by decide) rfl (Nat.le_of_ble_eq_true rfl) ?_
  intro p e s m below meth c ls hx hb hr hlocks hml hown hts hnm hl ⟨hP, hK⟩
  have hP : va_P D vwCl ([]) s.heap := hP
  have hl : lv_has ls 2 [(0, .int (jI x)), (1, .int (jI y))] := hl
  unfold i32 at h
  refine lv_iload_n hx hb dX3_areWidths_0 rfl (lv_at hl 1 rfl) ?_
  refine j_iconst hx hb dX3_areWidths_1 ?_
  refine j_sipush hx hb dX3_areWidths_2 (by decide) ?_
  refine j_cSI (As := [.int (jI y), .int (jI 1), .int (jI 400)]) (rest := []) ⟨hx, hb, hml, hown, hts⟩ (kX3_isWithin l D cI cJ cZ y 1 400 (by unfold i32; omega)) (va_cwS 3 hts gX3_areWidths_X3_isWithin rfl rfl rfl (by decide +kernel) ⟨Nat.le_of_ble_eq_true rfl, Nat.le_of_ble_eq_true rfl⟩) hK (hP.sub [] rfl) rfl hl.1 rfl (Nat.le_of_ble_eq_true rfl) ⟨Nat.zero_le _, Nat.zero_le _⟩ dX3_areWidths_5 ?_
  refine j_ifeqZ (tgt := 24) hx hb dX3_areWidths_8 (by decide) (fun c8 => ?_) (fun c8 => ?_)
  · skip
    refine j_iconst hx hb dX3_areWidths_24 ?_
    exact j_retZ hx hb hr (by decide) hlocks dX3_areWidths_25 ((jZ_f (by omega)).symm)
  · skip
    refine lv_iload_n hx hb dX3_areWidths_11 rfl (lv_at hl 0 rfl) ?_
    refine j_iconst hx hb dX3_areWidths_12 ?_
    refine lv_iload_n hx hb dX3_areWidths_13 rfl (lv_at hl 1 rfl) ?_
    refine j_cSI (As := [.int (jI x), .int (jI 1), .int (jI y)]) (rest := []) ⟨hx, hb, hml, hown, hts⟩ (kX3_isWithin l D cI cJ cZ x 1 y (by unfold i32; omega)) (va_cwS 3 hts gX3_areWidths_X3_isWithin rfl rfl rfl (by decide +kernel) ⟨Nat.le_of_ble_eq_true rfl, Nat.le_of_ble_eq_true rfl⟩) hK (hP.sub [] rfl) rfl hl.1 rfl (Nat.le_of_ble_eq_true rfl) ⟨Nat.zero_le _, Nat.zero_le _⟩ dX3_areWidths_14 ?_
    refine j_ifeqZ (tgt := 24) hx hb dX3_areWidths_17 (by decide) (fun c17 => ?_) (fun c17 => ?_)
    · skip
      refine j_iconst hx hb dX3_areWidths_24 ?_
      exact j_retZ hx hb hr (by decide) hlocks dX3_areWidths_25 ((jZ_f (by omega)).symm)
    · skip
      refine j_iconst hx hb dX3_areWidths_20 ?_
      refine lv_goto (tgt := 25) hx hb dX3_areWidths_21 (by decide) ?_
      exact j_retZ hx hb hr (by decide) hlocks dX3_areWidths_25 ((jZ_t (by omega)).symm)
set_option maxHeartbeats 4000000 in
set_option maxRecDepth 100000 in
theorem kX3_nearest (l : Launch) (D : va_G) (cI cJ cZ : ClassId) (x a b : Int) (h : i32 x ∧ i32 a ∧ i32 b) : RoI l yX3_nearest wsX3_nearest 1 14 D (tyc cI cJ cZ) ([]) [.int (jI x), .int (jI a), .int (jI b)] (jI (max a (min b x))) := by
  refine j_start RX3 rfl (by decide) rfl (Nat.le_of_ble_eq_true rfl) ?_
  intro p e s m below meth c ls hx hb hr hlocks hml hown hts hnm hl ⟨hP, hK⟩
  have hP : va_P D vwCl ([]) s.heap := hP
  have hl : lv_has ls 3 [(0, .int (jI x)), (1, .int (jI a)), (2, .int (jI b))] := hl
  unfold i32 at h
  refine lv_iload_n hx hb dX3_nearest_0 rfl (lv_at hl 1 rfl) ?_
  refine lv_iload_n hx hb dX3_nearest_1 rfl (lv_at hl 2 rfl) ?_
  refine lv_iload_n hx hb dX3_nearest_2 rfl (lv_at hl 0 rfl) ?_
  refine va_mmin hx hb (hml.trans hl.1.symm) hown (hts (.methodLink RX3 151 Lib.Math.min.name) (by decide +kernel)) (hts (.static Lib.Math.min.name) (by decide +kernel)) (hts (.initialized "java/lang/Math") (by decide +kernel)) (hts (.code Lib.Math.min.name Lib.Math.min.code 2 (some .int)) (by decide +kernel)) (Nat.le_of_ble_eq_true rfl) (Nat.le_of_ble_eq_true rfl) (Nat.zero_le _) (Nat.zero_le _) dX3_nearest_3 ?_
  refine j_topi (y := jI (min b x)) (j_min (by unfold i32; omega)) ?_
  refine va_mmax hx hb (hml.trans hl.1.symm) hown (hts (.methodLink RX3 156 Lib.Math.max.name) (by decide +kernel)) (hts (.static Lib.Math.max.name) (by decide +kernel)) (hts (.initialized "java/lang/Math") (by decide +kernel)) (hts (.code Lib.Math.max.name Lib.Math.max.code 2 (some .int)) (by decide +kernel)) (Nat.le_of_ble_eq_true rfl) (Nat.le_of_ble_eq_true rfl) (Nat.zero_le _) (Nat.zero_le _) dX3_nearest_6 ?_
  refine j_topi (y := jI (max a (min b x))) (j_max (by unfold i32; omega)) ?_
  exact j_retI hx hb hr hlocks dX3_nearest_9 rfl
end
