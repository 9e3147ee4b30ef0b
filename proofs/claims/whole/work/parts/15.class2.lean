/-! the contracts of BreakLines: what changes the state -/
noncomputable section
set_option maxHeartbeats 4000000 in
set_option maxRecDepth 100000 in
theorem kX3_bar (l : Launch) (D : va_G) (cI cJ cZ : ClassId) (q : Nat → Nat) (σ : Sg) (la wa : Int → Int) (mk : Nat → Int32) (hok : okP σ la wa mk) (lp tp rk od : Int → Int) (fr fo : Int) (ex : Prop) (to ln pg : Int) (fb fl pl lb : Int → Int) (kn : Prop) (hI : clsI σ kn ex to ln pg fb fl pl lb) (x y : Int) (hi : i32 x ∧ i32 y) : MuI l yX3_bar wsX3_bar 2 43 D (tyc cI cJ cZ) (wPc q cI (sNb σ) (sWd σ) (sPp σ) (sCt σ) (sCs σ) mk la wa ++ wSe q cJ lp tp rk od fr fo ++ wSt q cI ex to ln pg fb fl pl lb ++ wBl q kn) [.ref (q 15), .int (jI x), .int (jI y)] (fun (r : Int32) (u : CU) => r = jI (barR σ x y) ∧ cInv u ∧ u.1 = barS σ x y) (fun u => wCU q cI cJ u) := by
  intro sz
  refine j_start RX3 rfl (by decide) rfl (Nat.le_of_ble_eq_true rfl) ?_
  intro p e s m below meth c ls hx hb hr hlocks hml hown hts hnm hl ⟨hsz, hP, hK, hD0⟩
  subst hsz
  have hD := hD0.self (sz := s.heap.size)
  generalize hAe : va_A (wPc q cI (sNb σ) (sWd σ) (sPp σ) (sCt σ) (sCs σ) mk la wa ++ wSe q cJ lp tp rk od fr fo ++ wSt q cI ex to ln pg fb fl pl lb ++ wBl q kn) s.heap.size = A at hD ⊢
  have hA : ∀ q : Nat, s.heap.size ≤ q → A q := fun q h => by rw [← hAe]; exact Or.inr h
  refine j_gen (fun H locs hHe hLe => ?_)
  have hS : va_S A s.heap H locs := by rw [hHe, hLe]; exact va_S.rf
  have hP : va_P D vwCl (wPc q cI (sNb σ) (sWd σ) (sPp σ) (sCt σ) (sCs σ) mk la wa ++ wSe q cJ lp tp rk od fr fo ++ wSt q cI ex to ln pg fb fl pl lb ++ wBl q kn) H := by rw [hHe]; exact hP
  have hD : va_D A (wPc q cI (sNb σ) (sWd σ) (sPp σ) (sCt σ) (sCs σ) mk la wa ++ wSe q cJ lp tp rk od fr fo ++ wSt q cI ex to ln pg fb fl pl lb ++ wBl q kn) := hD
  have hl : lv_has ls 3 [(0, .ref (q 15)), (1, .int (jI x)), (2, .int (jI y))] := hl
  have hinX0 : ∀ w ∈ u_ws RX0 TX0 8, w ∈ wsX3_bar := by decide +kernel
  have hinX3 : ∀ w ∈ u_ws RX3 TX3 4, w ∈ wsX3_bar := by decide +kernel
  have hS0 := hok.1
  have hnb := hS0.1
  have hwd := hS0.2.1
  have hpp := hS0.2.2.1
  have hct := hS0.2.2.2.1
  unfold i32 at hi
  refine lv_iload_n hx hb dX3_bar_0 rfl (lv_at hl 1 rfl) ?_
  refine lv_iload_n hx hb dX3_bar_1 rfl (lv_at hl 2 rfl) ?_
  refine j_cSI (As := [.int (jI x), .int (jI y)]) (rest := []) ⟨hx, hb, hml, hown, hts⟩ (kX3_areWidths l D cI cJ cZ x y (by unfold i32; omega)) (va_cwS 2 hts gX3_bar_X3_areWidths rfl rfl rfl (by decide +kernel) ⟨Nat.le_of_ble_eq_true rfl, Nat.le_of_ble_eq_true rfl⟩) hK (hP.sub [] rfl) rfl hl.1 rfl (Nat.le_of_ble_eq_true rfl) ⟨Nat.zero_le _, Nat.zero_le _⟩ dX3_bar_2 ?_
  refine j_ifneZ (tgt := 11) hx hb dX3_bar_5 (by decide) (fun c5 => ?_) (fun c5 => ?_)
  · skip
    refine lv_aload_n hx hb dX3_bar_11 rfl (lv_at hl 0 rfl) ?_
    refine va_get (D := D) (ci := 3) (v := .ref (q 0)) (C := RX3) (T := TX3) (N := 4) hx hb hts hinX3 hown hK hP 15 rfl rfl 0 (by decide) (hts (.fieldLink RX3 18 "BreakLines" "piece" "LBreakLines$Piece;") (by decide +kernel)) (fun _ h9 => h9) rfl dX3_bar_12 ?_
    refine va_get (D := D) (ci := 0) (v := .int (jI (sNb σ))) (C := RX0) (T := TX0) (N := 8) hx hb hts hinX0 hown hK hP 0 rfl rfl 0 (by decide) (hts (.fieldLink RX3 46 "BreakLines$Piece" "bars" "I") (by decide +kernel)) (fun _ h9 => h9) rfl dX3_bar_15 ?_
    refine j_bipush hx hb dX3_bar_18 (by decide) ?_
    refine j_icmp_lt (tgt := 26) hx hb (by unfold i32; omega) dX3_bar_20 (by decide) (fun c20 => ?_) (fun c20 => ?_)
    · skip
      refine lv_aload_n hx hb dX3_bar_26 rfl (lv_at hl 0 rfl) ?_
      refine j_iconst hx hb dX3_bar_27 ?_
      refine j_topi (y := jZ False) ((jZ_f id).symm) ?_
      refine va_put (D := D) (ci := 3) (v := .int (jZ False)) (ty := .boolean) (C := RX3) (T := TX3) (N := 4) hx hb hts hinX3 tyX3 tyX3_ok nmX3 hown hK hP hD hS 15 rfl rfl 3 (by decide) (hts (.fieldLink RX3 38 "BreakLines" "bestIsKnown" "Z") (by decide +kernel)) (fun _ h9 => h9) rfl (by decide +kernel) (jZ_narrow _) (jZ_fits _) (Nat.le_of_ble_eq_true rfl) dX3_bar_28 (fun H locs hP hD hS => ?_)
      have hP : va_P D vwCl (wPc q cI (sNb σ) (sWd σ) (sPp σ) (sCt σ) (sCs σ) mk la wa ++ wSe q cJ lp tp rk od fr fo ++ wSt q cI ex to ln pg fb fl pl lb ++ wBl q False) H := hP
      have hD : va_D A (wPc q cI (sNb σ) (sWd σ) (sPp σ) (sCt σ) (sCs σ) mk la wa ++ wSe q cJ lp tp rk od fr fo ++ wSt q cI ex to ln pg fb fl pl lb ++ wBl q False) := hD
      refine lv_aload_n hx hb dX3_bar_31 rfl (lv_at hl 0 rfl) ?_
      refine va_get (D := D) (ci := 3) (v := .ref (q 0)) (C := RX3) (T := TX3) (N := 4) hx hb hts hinX3 hown hK hP 15 rfl rfl 0 (by decide) (hts (.fieldLink RX3 18 "BreakLines" "piece" "LBreakLines$Piece;") (by decide +kernel)) (fun _ h9 => h9) rfl dX3_bar_32 ?_
      refine lv_iload_n hx hb dX3_bar_35 rfl (lv_at hl 1 rfl) ?_
      refine lv_iload_n hx hb dX3_bar_36 rfl (lv_at hl 2 rfl) ?_
      refine j_mVI (As := [.int (jI x), .int (jI y)]) (rest := []) ⟨hx, hb, hml, hown, hts⟩ (kX0_addBar l D cI cJ cZ q σ la wa mk hok x y (by omega)) (cwV 2 hts gX3_bar_X0_addBar rfl rfl rfl (by decide +kernel) ⟨Nat.le_of_ble_eq_true rfl, Nat.le_of_ble_eq_true rfl⟩) hK hP hD hS hA (va_recv hK hP (ci := 0) (q0 := 0) rfl rfl) rfl hl.1 rfl (Nat.le_of_ble_eq_true rfl) ⟨Nat.zero_le _, Nat.zero_le _⟩ dX3_bar_37 [0, 1, 2, 3, 4] [5, 6, 7, 8, 9, 10, 11, 12, 13, 14, 15] [11, 12, 13, 14, 15, 0, 1, 2, 3, 4, 5, 6, 7, 8, 9, 10] rfl (by decide) (wr := (wSe q cJ lp tp rk od fr fo ++ wSt q cI ex to ln pg fb fl pl lb ++ wBl q False)) rfl (by decide) (by decide) (fun _ => rfl) (fun _ => wPc q cI (sNb σ + 1) (sWd σ) (sPp σ) (sCt σ) (sCs σ) mk (updI la (sNb σ + 1) (la (sNb σ) + x)) (updI wa (sNb σ + 1) (wa (sNb σ) + y)) ++ wSe q cJ lp tp rk od fr fo ++ wSt q cI ex to ln pg fb fl pl lb ++ wBl q False) (fun _ => rfl) (fun _ => rfl) (fun rr1 _ H locs hu1 hP hD hS => ?_)
      have hP : va_P D vwCl (wPc q cI (sNb σ + 1) (sWd σ) (sPp σ) (sCt σ) (sCs σ) mk (updI la (sNb σ + 1) (la (sNb σ) + x)) (updI wa (sNb σ + 1) (wa (sNb σ) + y)) ++ wSe q cJ lp tp rk od fr fo ++ wSt q cI ex to ln pg fb fl pl lb ++ wBl q False) H := hP
      have hD : va_D A (wPc q cI (sNb σ + 1) (sWd σ) (sPp σ) (sCt σ) (sCs σ) mk (updI la (sNb σ + 1) (la (sNb σ) + x)) (updI wa (sNb σ + 1) (wa (sNb σ) + y)) ++ wSe q cJ lp tp rk od fr fo ++ wSt q cI ex to ln pg fb fl pl lb ++ wBl q False) := hD
      exact j_mretI hx hb hr hlocks hS dX3_bar_40 (upBar σ x y, updI la (sNb σ + 1) (la (sNb σ) + x), updI wa (sNb σ + 1) (wa (sNb σ) + y), mk, lp, tp, rk, od, fr, fo, ex, to, ln, pg, fb, fl, pl, lb, False) ⟨hu1.trans (congrArg jI (by unfold barR; rw [if_pos c5, if_pos c20])), ⟨okP_bar hok c5 c20, ⟨hI.1, fun w => w.elim⟩⟩, (by unfold barS; rw [if_pos c5, if_pos c20])⟩ hP
    · skip
      refine j_bipush hx hb dX3_bar_23 (by decide) ?_
      exact j_mretI hx hb hr hlocks hS dX3_bar_25 (σ, la, wa, mk, lp, tp, rk, od, fr, fo, ex, to, ln, pg, fb, fl, pl, lb, kn) ⟨(congrArg jI (by unfold barR; rw [if_pos c5, if_neg (by omega)])), ⟨hok, hI⟩, (by unfold barS; rw [if_pos c5, if_neg (by omega)])⟩ hP
  · skip
    refine j_bipush hx hb dX3_bar_8 (by decide) ?_
    exact j_mretI hx hb hr hlocks hS dX3_bar_10 (σ, la, wa, mk, lp, tp, rk, od, fr, fo, ex, to, ln, pg, fb, fl, pl, lb, kn) ⟨(congrArg jI (by unfold barR; rw [if_neg c5])), ⟨hok, hI⟩, (by unfold barS; rw [if_neg c5])⟩ hP
set_option maxHeartbeats 4000000 in
set_option maxRecDepth 100000 in
theorem kX3_change (l : Launch) (D : va_G) (cI cJ cZ : ClassId) (q : Nat → Nat) (σ : Sg) (la wa : Int → Int) (mk : Nat → Int32) (hok : okP σ la wa mk) (lp tp rk od : Int → Int) (fr fo : Int) (ex : Prop) (to ln pg : Int) (fb fl pl lb : Int → Int) (kn : Prop) (hI : clsI σ kn ex to ln pg fb fl pl lb) (a x y : Int) (hi : i32 a ∧ i32 x ∧ i32 y) : MuI l yX3_change wsX3_change 2 48 D (tyc cI cJ cZ) (wPc q cI (sNb σ) (sWd σ) (sPp σ) (sCt σ) (sCs σ) mk la wa ++ wSe q cJ lp tp rk od fr fo ++ wSt q cI ex to ln pg fb fl pl lb ++ wBl q kn) [.ref (q 15), .int (jI a), .int (jI x), .int (jI y)] (fun (r : Int32) (u : CU) => r = jI (chgR σ a x y) ∧ cInv u ∧ u.1 = chgS σ a x y) (fun u => wCU q cI cJ u) := by
  intro sz
  refine j_start RX3 rfl (by decide) rfl (Nat.le_of_ble_eq_true rfl) ?_
  intro p e s m below meth c ls hx hb hr hlocks hml hown hts hnm hl ⟨hsz, hP, hK, hD0⟩
  subst hsz
  have hD := hD0.self (sz := s.heap.size)
  generalize hAe : va_A (wPc q cI (sNb σ) (sWd σ) (sPp σ) (sCt σ) (sCs σ) mk la wa ++ wSe q cJ lp tp rk od fr fo ++ wSt q cI ex to ln pg fb fl pl lb ++ wBl q kn) s.heap.size = A at hD ⊢
  have hA : ∀ q : Nat, s.heap.size ≤ q → A q := fun q h => by rw [← hAe]; exact Or.inr h
  refine j_gen (fun H locs hHe hLe => ?_)
  have hS : va_S A s.heap H locs := by rw [hHe, hLe]; exact va_S.rf
  have hP : va_P D vwCl (wPc q cI (sNb σ) (sWd σ) (sPp σ) (sCt σ) (sCs σ) mk la wa ++ wSe q cJ lp tp rk od fr fo ++ wSt q cI ex to ln pg fb fl pl lb ++ wBl q kn) H := by rw [hHe]; exact hP
  have hD : va_D A (wPc q cI (sNb σ) (sWd σ) (sPp σ) (sCt σ) (sCs σ) mk la wa ++ wSe q cJ lp tp rk od fr fo ++ wSt q cI ex to ln pg fb fl pl lb ++ wBl q kn) := hD
  have hl : lv_has ls 4 [(0, .ref (q 15)), (1, .int (jI a)), (2, .int (jI x)), (3, .int (jI y))] := hl
  have hinX3 : ∀ w ∈ u_ws RX3 TX3 4, w ∈ wsX3_change := by decide +kernel
  have hS0 := hok.1
  have hnb := hS0.1
  have hwd := hS0.2.1
  have hpp := hS0.2.2.1
  have hct := hS0.2.2.2.1
  unfold i32 at hi
  refine lv_aload_n hx hb dX3_change_0 rfl (lv_at hl 0 rfl) ?_
  refine va_get (D := D) (ci := 3) (v := .ref (q 0)) (C := RX3) (T := TX3) (N := 4) hx hb hts hinX3 hown hK hP 15 rfl rfl 0 (by decide) (hts (.fieldLink RX3 18 "BreakLines" "piece" "LBreakLines$Piece;") (by decide +kernel)) (fun _ h9 => h9) rfl dX3_change_1 ?_
  refine lv_iload_n hx hb dX3_change_4 rfl (lv_at hl 1 rfl) ?_
  refine j_cVI (As := [.int (jI a)]) (rest := []) ⟨hx, hb, hml, hown, hts⟩ (kX0_hasBar l D cI cJ cZ q σ la wa mk hok a (by unfold i32; omega)) (cwV 1 hts gX3_change_X0_hasBar rfl rfl rfl (by decide +kernel) ⟨Nat.le_of_ble_eq_true rfl, Nat.le_of_ble_eq_true rfl⟩) hK (hP.sub [0, 1, 2, 3, 4] rfl) (va_recv hK hP (ci := 0) (q0 := 0) rfl rfl) rfl hl.1 rfl (Nat.le_of_ble_eq_true rfl) ⟨Nat.zero_le _, Nat.zero_le _⟩ dX3_change_5 ?_
  refine j_ifneZ (tgt := 13) hx hb dX3_change_8 (by decide) (fun c8 => ?_) (fun c8 => ?_)
  · skip
    refine lv_iload_n hx hb dX3_change_13 rfl (lv_at hl 2 rfl) ?_
    refine lv_iload_n hx hb dX3_change_14 rfl (lv_at hl 3 rfl) ?_
    refine j_cSI (As := [.int (jI x), .int (jI y)]) (rest := []) ⟨hx, hb, hml, hown, hts⟩ (kX3_areWidths l D cI cJ cZ x y (by unfold i32; omega)) (va_cwS 2 hts gX3_change_X3_areWidths rfl rfl rfl (by decide +kernel) ⟨Nat.le_of_ble_eq_true rfl, Nat.le_of_ble_eq_true rfl⟩) hK (hP.sub [] rfl) rfl hl.1 rfl (Nat.le_of_ble_eq_true rfl) ⟨Nat.zero_le _, Nat.zero_le _⟩ dX3_change_15 ?_
    refine j_ifneZ (tgt := 24) hx hb dX3_change_18 (by decide) (fun c18 => ?_) (fun c18 => ?_)
    · skip
      refine lv_aload_n hx hb dX3_change_24 rfl (lv_at hl 0 rfl) ?_
      refine j_iconst hx hb dX3_change_25 ?_
      refine j_topi (y := jZ False) ((jZ_f id).symm) ?_
      refine va_put (D := D) (ci := 3) (v := .int (jZ False)) (ty := .boolean) (C := RX3) (T := TX3) (N := 4) hx hb hts hinX3 tyX3 tyX3_ok nmX3 hown hK hP hD hS 15 rfl rfl 3 (by decide) (hts (.fieldLink RX3 38 "BreakLines" "bestIsKnown" "Z") (by decide +kernel)) (fun _ h9 => h9) rfl (by decide +kernel) (jZ_narrow _) (jZ_fits _) (Nat.le_of_ble_eq_true rfl) dX3_change_26 (fun H locs hP hD hS => ?_)
      have hP : va_P D vwCl (wPc q cI (sNb σ) (sWd σ) (sPp σ) (sCt σ) (sCs σ) mk la wa ++ wSe q cJ lp tp rk od fr fo ++ wSt q cI ex to ln pg fb fl pl lb ++ wBl q False) H := hP
      have hD : va_D A (wPc q cI (sNb σ) (sWd σ) (sPp σ) (sCt σ) (sCs σ) mk la wa ++ wSe q cJ lp tp rk od fr fo ++ wSt q cI ex to ln pg fb fl pl lb ++ wBl q False) := hD
      refine lv_aload_n hx hb dX3_change_29 rfl (lv_at hl 0 rfl) ?_
      refine va_get (D := D) (ci := 3) (v := .ref (q 0)) (C := RX3) (T := TX3) (N := 4) hx hb hts hinX3 hown hK hP 15 rfl rfl 0 (by decide) (hts (.fieldLink RX3 18 "BreakLines" "piece" "LBreakLines$Piece;") (by decide +kernel)) (fun _ h9 => h9) rfl dX3_change_30 ?_
      refine lv_iload_n hx hb dX3_change_33 rfl (lv_at hl 1 rfl) ?_
      refine lv_iload_n hx hb dX3_change_34 rfl (lv_at hl 2 rfl) ?_
      refine lv_iload_n hx hb dX3_change_35 rfl (lv_at hl 3 rfl) ?_
      refine j_mVV (As := [.int (jI a), .int (jI x), .int (jI y)]) (rest := []) ⟨hx, hb, hml, hown, hts⟩ (kX0_putWidths l D cI cJ cZ q σ la wa mk hok a x y (by omega)) (cwV 3 hts gX3_change_X0_putWidths rfl rfl rfl (by decide +kernel) ⟨Nat.le_of_ble_eq_true rfl, Nat.le_of_ble_eq_true rfl⟩) hK hP hD hS hA (va_recv hK hP (ci := 0) (q0 := 0) rfl rfl) rfl hl.1 rfl (Nat.le_of_ble_eq_true rfl) ⟨Nat.zero_le _, Nat.zero_le _⟩ dX3_change_36 [0, 1, 2, 3, 4] [5, 6, 7, 8, 9, 10, 11, 12, 13, 14, 15] [11, 12, 13, 14, 15, 0, 1, 2, 3, 4, 5, 6, 7, 8, 9, 10] rfl (by decide) (wr := (wSe q cJ lp tp rk od fr fo ++ wSt q cI ex to ln pg fb fl pl lb ++ wBl q False)) rfl (by decide) (by decide) (fun _ => rfl) (fun u => wPc q cI (sNb σ) (sWd σ) (sPp σ) (sCt σ) (sCs σ) mk u.1 u.2 ++ wSe q cJ lp tp rk od fr fo ++ wSt q cI ex to ln pg fb fl pl lb ++ wBl q False) (fun _ => rfl) (fun _ => rfl) (fun ⟨lac1, wac1⟩ H locs hu1 hP hD hS => ?_)
      have hP : va_P D vwCl (wPc q cI (sNb σ) (sWd σ) (sPp σ) (sCt σ) (sCs σ) mk lac1 wac1 ++ wSe q cJ lp tp rk od fr fo ++ wSt q cI ex to ln pg fb fl pl lb ++ wBl q False) H := hP
      have hD : va_D A (wPc q cI (sNb σ) (sWd σ) (sPp σ) (sCt σ) (sCs σ) mk lac1 wac1 ++ wSe q cJ lp tp rk od fr fo ++ wSt q cI ex to ln pg fb fl pl lb ++ wBl q False) := hD
      refine j_iconst hx hb dX3_change_39 ?_
      exact j_mretI hx hb hr hlocks hS dX3_change_40 (upChg σ a x y, lac1, wac1, mk, lp, tp, rk, od, fr, fo, ex, to, ln, pg, fb, fl, pl, lb, False) ⟨(congrArg jI (by unfold chgR; rw [if_pos c8, if_pos c18])), ⟨okP_chg hok c8 c18 hu1, ⟨hI.1, fun w => w.elim⟩⟩, (by unfold chgS; rw [if_pos c8, if_pos c18])⟩ hP
    · skip
      refine j_bipush hx hb dX3_change_21 (by decide) ?_
      exact j_mretI hx hb hr hlocks hS dX3_change_23 (σ, la, wa, mk, lp, tp, rk, od, fr, fo, ex, to, ln, pg, fb, fl, pl, lb, kn) ⟨(congrArg jI (by unfold chgR; rw [if_pos c8, if_neg c18])), ⟨hok, hI⟩, (by unfold chgS; rw [if_pos c8, if_neg c18])⟩ hP
  · skip
    refine j_iconst hx hb dX3_change_11 ?_
    exact j_mretI hx hb hr hlocks hS dX3_change_12 (σ, la, wa, mk, lp, tp, rk, od, fr, fo, ex, to, ln, pg, fb, fl, pl, lb, kn) ⟨(congrArg jI (by unfold chgR; rw [if_neg c8])), ⟨hok, hI⟩, (by unfold chgS; rw [if_neg c8])⟩ hP
set_option maxHeartbeats 4000000 in
set_option maxRecDepth 100000 in
theorem kX3_mark (l : Launch) (D : va_G) (cI cJ cZ : ClassId) (q : Nat → Nat) (σ : Sg) (la wa : Int → Int) (mk : Nat → Int32) (hok : okP σ la wa mk) (lp tp rk od : Int → Int) (fr fo : Int) (ex : Prop) (to ln pg : Int) (fb fl pl lb : Int → Int) (kn : Prop) (hI : clsI σ kn ex to ln pg fb fl pl lb) (a m0 : Int) (on : Bool) (hi : i32 a ∧ i32 m0) : MuI l yX3_mark wsX3_mark 1 24 D (tyc cI cJ cZ) (wPc q cI (sNb σ) (sWd σ) (sPp σ) (sCt σ) (sCs σ) mk la wa ++ wSe q cJ lp tp rk od fr fo ++ wSt q cI ex to ln pg fb fl pl lb ++ wBl q kn) [.ref (q 15), .int (jI a), .int (jI m0), .int (jZ (on = true))] (fun (r : Int32) (u : CU) => r = jI (mrkR σ a m0) ∧ cInv u ∧ u.1 = mrkS σ a m0 on) (fun u => wCU q cI cJ u) := by
  intro sz
  refine j_start RX3 rfl (by decide) rfl (Nat.le_of_ble_eq_true rfl) ?_
  intro p e s m below meth c ls hx hb hr hlocks hml hown hts hnm hl ⟨hsz, hP, hK, hD0⟩
  subst hsz
  have hD := hD0.self (sz := s.heap.size)
  generalize hAe : va_A (wPc q cI (sNb σ) (sWd σ) (sPp σ) (sCt σ) (sCs σ) mk la wa ++ wSe q cJ lp tp rk od fr fo ++ wSt q cI ex to ln pg fb fl pl lb ++ wBl q kn) s.heap.size = A at hD ⊢
  have hA : ∀ q : Nat, s.heap.size ≤ q → A q := fun q h => by rw [← hAe]; exact Or.inr h
  refine j_gen (fun H locs hHe hLe => ?_)
  have hS : va_S A s.heap H locs := by rw [hHe, hLe]; exact va_S.rf
  have hP : va_P D vwCl (wPc q cI (sNb σ) (sWd σ) (sPp σ) (sCt σ) (sCs σ) mk la wa ++ wSe q cJ lp tp rk od fr fo ++ wSt q cI ex to ln pg fb fl pl lb ++ wBl q kn) H := by rw [hHe]; exact hP
  have hD : va_D A (wPc q cI (sNb σ) (sWd σ) (sPp σ) (sCt σ) (sCs σ) mk la wa ++ wSe q cJ lp tp rk od fr fo ++ wSt q cI ex to ln pg fb fl pl lb ++ wBl q kn) := hD
  have hl : lv_has ls 5 [(0, .ref (q 15)), (1, .int (jI a)), (2, .int (jI m0)), (3, .int (jZ (on = true)))] := hl
  have hinX3 : ∀ w ∈ u_ws RX3 TX3 4, w ∈ wsX3_mark := by decide +kernel
  have hS0 := hok.1
  have hnb := hS0.1
  have hwd := hS0.2.1
  have hpp := hS0.2.2.1
  have hct := hS0.2.2.2.1
  unfold i32 at hi
  refine lv_aload_n hx hb dX3_mark_0 rfl (lv_at hl 0 rfl) ?_
  refine va_get (D := D) (ci := 3) (v := .ref (q 0)) (C := RX3) (T := TX3) (N := 4) hx hb hts hinX3 hown hK hP 15 rfl rfl 0 (by decide) (hts (.fieldLink RX3 18 "BreakLines" "piece" "LBreakLines$Piece;") (by decide +kernel)) (fun _ h9 => h9) rfl dX3_mark_1 ?_
  refine lv_iload_n hx hb dX3_mark_4 rfl (lv_at hl 1 rfl) ?_
  refine j_cVI (As := [.int (jI a)]) (rest := []) ⟨hx, hb, hml, hown, hts⟩ (kX0_hasBar l D cI cJ cZ q σ la wa mk hok a (by unfold i32; omega)) (cwV 1 hts gX3_mark_X0_hasBar rfl rfl rfl (by decide +kernel) ⟨Nat.le_of_ble_eq_true rfl, Nat.le_of_ble_eq_true rfl⟩) hK (hP.sub [0, 1, 2, 3, 4] rfl) (va_recv hK hP (ci := 0) (q0 := 0) rfl rfl) rfl hl.1 rfl (Nat.le_of_ble_eq_true rfl) ⟨Nat.zero_le _, Nat.zero_le _⟩ dX3_mark_5 ?_
  refine j_ifneZ (tgt := 13) hx hb dX3_mark_8 (by decide) (fun c8 => ?_) (fun c8 => ?_)
  · skip
    refine lv_iload_n hx hb dX3_mark_13 rfl (lv_at hl 2 rfl) ?_
    refine j_iconst hx hb dX3_mark_14 ?_
    refine j_iconst hx hb dX3_mark_15 ?_
    refine j_cSI (As := [.int (jI m0), .int (jI 0), .int (jI 2)]) (rest := []) ⟨hx, hb, hml, hown, hts⟩ (kX3_isWithin l D cI cJ cZ m0 0 2 (by unfold i32; omega)) (va_cwS 3 hts gX3_mark_X3_isWithin rfl rfl rfl (by decide +kernel) ⟨Nat.le_of_ble_eq_true rfl, Nat.le_of_ble_eq_true rfl⟩) hK (hP.sub [] rfl) rfl hl.1 rfl (Nat.le_of_ble_eq_true rfl) ⟨Nat.zero_le _, Nat.zero_le _⟩ dX3_mark_16 ?_
    refine j_ifneZ (tgt := 25) hx hb dX3_mark_19 (by decide) (fun c19 => ?_) (fun c19 => ?_)
    · skip
      refine lv_aload_n hx hb dX3_mark_25 rfl (lv_at hl 0 rfl) ?_
      refine j_iconst hx hb dX3_mark_26 ?_
      refine j_topi (y := jZ False) ((jZ_f id).symm) ?_
      refine va_put (D := D) (ci := 3) (v := .int (jZ False)) (ty := .boolean) (C := RX3) (T := TX3) (N := 4) hx hb hts hinX3 tyX3 tyX3_ok nmX3 hown hK hP hD hS 15 rfl rfl 3 (by decide) (hts (.fieldLink RX3 38 "BreakLines" "bestIsKnown" "Z") (by decide +kernel)) (fun _ h9 => h9) rfl (by decide +kernel) (jZ_narrow _) (jZ_fits _) (Nat.le_of_ble_eq_true rfl) dX3_mark_27 (fun H locs hP hD hS => ?_)
      have hP : va_P D vwCl (wPc q cI (sNb σ) (sWd σ) (sPp σ) (sCt σ) (sCs σ) mk la wa ++ wSe q cJ lp tp rk od fr fo ++ wSt q cI ex to ln pg fb fl pl lb ++ wBl q False) H := hP
      have hD : va_D A (wPc q cI (sNb σ) (sWd σ) (sPp σ) (sCt σ) (sCs σ) mk la wa ++ wSe q cJ lp tp rk od fr fo ++ wSt q cI ex to ln pg fb fl pl lb ++ wBl q False) := hD
      refine lv_aload_n hx hb dX3_mark_30 rfl (lv_at hl 0 rfl) ?_
      refine va_get (D := D) (ci := 3) (v := .ref (q 0)) (C := RX3) (T := TX3) (N := 4) hx hb hts hinX3 hown hK hP 15 rfl rfl 0 (by decide) (hts (.fieldLink RX3 18 "BreakLines" "piece" "LBreakLines$Piece;") (by decide +kernel)) (fun _ h9 => h9) rfl dX3_mark_31 ?_
      refine lv_iload_n hx hb dX3_mark_34 rfl (lv_at hl 1 rfl) ?_
      refine lv_iload_n hx hb dX3_mark_35 rfl (lv_at hl 2 rfl) ?_
      refine j_cVI (As := [.int (jI a), .int (jI m0)]) (rest := []) ⟨hx, hb, hml, hown, hts⟩ (kX0_isMarked l D cI cJ cZ q σ la wa mk hok a m0 (by omega)) (cwV 2 hts gX3_mark_X0_isMarked rfl rfl rfl (by decide +kernel) ⟨Nat.le_of_ble_eq_true rfl, Nat.le_of_ble_eq_true rfl⟩) hK (hP.sub [0, 1, 2, 3, 4] rfl) (va_recv hK hP (ci := 0) (q0 := 0) rfl rfl) rfl hl.1 rfl (Nat.le_of_ble_eq_true rfl) ⟨Nat.zero_le _, Nat.zero_le _⟩ dX3_mark_36 ?_
      refine lv_istore (lv' := [(4, .int (jZ (sM σ (3 * a + m0) = true))), (0, .ref (q 15)), (1, .int (jI a)), (2, .int (jI m0)), (3, .int (jZ (on = true)))]) hx hb dX3_mark_39 hl (by decide) rfl (fun ls hl => ?_)
      refine lv_aload_n hx hb dX3_mark_41 rfl (lv_at hl 1 rfl) ?_
      refine va_get (D := D) (ci := 3) (v := .ref (q 0)) (C := RX3) (T := TX3) (N := 4) hx hb hts hinX3 hown hK hP 15 rfl rfl 0 (by decide) (hts (.fieldLink RX3 18 "BreakLines" "piece" "LBreakLines$Piece;") (by decide +kernel)) (fun _ h9 => h9) rfl dX3_mark_42 ?_
      refine lv_iload_n hx hb dX3_mark_45 rfl (lv_at hl 2 rfl) ?_
      refine lv_iload_n hx hb dX3_mark_46 rfl (lv_at hl 3 rfl) ?_
      refine lv_iload_n hx hb dX3_mark_47 rfl (lv_at hl 4 rfl) ?_
      refine j_mVV (As := [.int (jI a), .int (jI m0), .int (jZ (on = true))]) (rest := []) ⟨hx, hb, hml, hown, hts⟩ (kX0_putMark l D cI cJ cZ q σ la wa mk hok a m0 on (by omega)) (cwV 3 hts gX3_mark_X0_putMark rfl rfl rfl (by decide +kernel) ⟨Nat.le_of_ble_eq_true rfl, Nat.le_of_ble_eq_true rfl⟩) hK hP hD hS hA (va_recv hK hP (ci := 0) (q0 := 0) rfl rfl) rfl hl.1 rfl (Nat.le_of_ble_eq_true rfl) ⟨Nat.zero_le _, Nat.zero_le _⟩ dX3_mark_48 [0, 1, 2, 3, 4] [5, 6, 7, 8, 9, 10, 11, 12, 13, 14, 15] [11, 12, 13, 14, 15, 0, 1, 2, 3, 4, 5, 6, 7, 8, 9, 10] rfl (by decide) (wr := (wSe q cJ lp tp rk od fr fo ++ wSt q cI ex to ln pg fb fl pl lb ++ wBl q False)) rfl (by decide) (by decide) (fun _ => rfl) (fun u => wPc q cI (sNb σ) (sWd σ) (sPp σ) (sCt σ) (sCs σ) (upd mk (Int.toNat m0) u) la wa ++ wSe q cJ lp tp rk od fr fo ++ wSt q cI ex to ln pg fb fl pl lb ++ wBl q False) (fun _ => rfl) (fun _ => rfl) (fun mkc1 H locs hu1 hP hD hS => ?_)
      have hP : va_P D vwCl (wPc q cI (sNb σ) (sWd σ) (sPp σ) (sCt σ) (sCs σ) (upd mk (Int.toNat m0) mkc1) la wa ++ wSe q cJ lp tp rk od fr fo ++ wSt q cI ex to ln pg fb fl pl lb ++ wBl q False) H := hP
      have hD : va_D A (wPc q cI (sNb σ) (sWd σ) (sPp σ) (sCt σ) (sCs σ) (upd mk (Int.toNat m0) mkc1) la wa ++ wSe q cJ lp tp rk od fr fo ++ wSt q cI ex to ln pg fb fl pl lb ++ wBl q False) := hD
      refine lv_iload hx hb dX3_mark_51 (lv_at hl 0 rfl) ?_
      refine j_ifeqZ (tgt := 60) hx hb dX3_mark_53 (by decide) (fun c53 => ?_) (fun c53 => ?_)
      · skip
        refine j_iconst hx hb dX3_mark_60 ?_
        exact j_mretI hx hb hr hlocks hS dX3_mark_61 (upMk σ a m0 on, la, wa, upd mk (Int.toNat m0) mkc1, lp, tp, rk, od, fr, fo, ex, to, ln, pg, fb, fl, pl, lb, False) ⟨(congrArg jI (by unfold mrkR; rw [if_pos c8, if_pos c19, if_neg c53])), ⟨okP_mk hok (by omega) hu1, ⟨hI.1, fun w => w.elim⟩⟩, (by unfold mrkS; rw [if_pos c8, if_pos c19])⟩ hP
      · skip
        refine j_iconst hx hb dX3_mark_56 ?_
        refine lv_goto (tgt := 61) hx hb dX3_mark_57 (by decide) ?_
        exact j_mretI hx hb hr hlocks hS dX3_mark_61 (upMk σ a m0 on, la, wa, upd mk (Int.toNat m0) mkc1, lp, tp, rk, od, fr, fo, ex, to, ln, pg, fb, fl, pl, lb, False) ⟨(congrArg jI (by unfold mrkR; rw [if_pos c8, if_pos c19, if_pos c53])), ⟨okP_mk hok (by omega) hu1, ⟨hI.1, fun w => w.elim⟩⟩, (by unfold mrkS; rw [if_pos c8, if_pos c19])⟩ hP
    · skip
      refine j_bipush hx hb dX3_mark_22 (by decide) ?_
      exact j_mretI hx hb hr hlocks hS dX3_mark_24 (σ, la, wa, mk, lp, tp, rk, od, fr, fo, ex, to, ln, pg, fb, fl, pl, lb, kn) ⟨(congrArg jI (by unfold mrkR; rw [if_pos c8, if_neg c19])), ⟨hok, hI⟩, (by unfold mrkS; rw [if_pos c8, if_neg c19])⟩ hP
  · skip
    refine j_iconst hx hb dX3_mark_11 ?_
    exact j_mretI hx hb hr hlocks hS dX3_mark_12 (σ, la, wa, mk, lp, tp, rk, od, fr, fo, ex, to, ln, pg, fb, fl, pl, lb, kn) ⟨(congrArg jI (by unfold mrkR; rw [if_neg c8])), ⟨hok, hI⟩, (by unfold mrkS; rw [if_neg c8])⟩ hP
set_option maxHeartbeats 4000000 in
set_option maxRecDepth 100000 in
theorem kX3_cost (l : Launch) (D : va_G) (cI cJ cZ : ClassId) (q : Nat → Nat) (σ : Sg) (la wa : Int → Int) (mk : Nat → Int32) (hok : okP σ la wa mk) (lp tp rk od : Int → Int) (fr fo : Int) (ex : Prop) (to ln pg : Int) (fb fl pl lb : Int → Int) (kn : Prop) (hI : clsI σ kn ex to ln pg fb fl pl lb) (k v : Int) (hi : i32 k ∧ i32 v) : MuI l yX3_cost wsX3_cost 1 22 D (tyc cI cJ cZ) (wPc q cI (sNb σ) (sWd σ) (sPp σ) (sCt σ) (sCs σ) mk la wa ++ wSe q cJ lp tp rk od fr fo ++ wSt q cI ex to ln pg fb fl pl lb ++ wBl q kn) [.ref (q 15), .int (jI k), .int (jI v)] (fun (r : Int32) (u : CU) => r = jI (cosR σ k v) ∧ cInv u ∧ u.1 = cosS σ k v) (fun u => wCU q cI cJ u) := by
  intro sz
  refine j_start RX3 rfl (by decide) rfl (Nat.le_of_ble_eq_true rfl) ?_
  intro p e s m below meth c ls hx hb hr hlocks hml hown hts hnm hl ⟨hsz, hP, hK, hD0⟩
  subst hsz
  have hD := hD0.self (sz := s.heap.size)
  generalize hAe : va_A (wPc q cI (sNb σ) (sWd σ) (sPp σ) (sCt σ) (sCs σ) mk la wa ++ wSe q cJ lp tp rk od fr fo ++ wSt q cI ex to ln pg fb fl pl lb ++ wBl q kn) s.heap.size = A at hD ⊢
  have hA : ∀ q : Nat, s.heap.size ≤ q → A q := fun q h => by rw [← hAe]; exact Or.inr h
  refine j_gen (fun H locs hHe hLe => ?_)
  have hS : va_S A s.heap H locs := by rw [hHe, hLe]; exact va_S.rf
  have hP : va_P D vwCl (wPc q cI (sNb σ) (sWd σ) (sPp σ) (sCt σ) (sCs σ) mk la wa ++ wSe q cJ lp tp rk od fr fo ++ wSt q cI ex to ln pg fb fl pl lb ++ wBl q kn) H := by rw [hHe]; exact hP
  have hD : va_D A (wPc q cI (sNb σ) (sWd σ) (sPp σ) (sCt σ) (sCs σ) mk la wa ++ wSe q cJ lp tp rk od fr fo ++ wSt q cI ex to ln pg fb fl pl lb ++ wBl q kn) := hD
  have hl : lv_has ls 4 [(0, .ref (q 15)), (1, .int (jI k)), (2, .int (jI v))] := hl
  have hinX0 : ∀ w ∈ u_ws RX0 TX0 8, w ∈ wsX3_cost := by decide +kernel
  have hinX3 : ∀ w ∈ u_ws RX3 TX3 4, w ∈ wsX3_cost := by decide +kernel
  have hS0 := hok.1
  have hnb := hS0.1
  have hwd := hS0.2.1
  have hpp := hS0.2.2.1
  have hct := hS0.2.2.2.1
  unfold i32 at hi
  refine lv_iload_n hx hb dX3_cost_0 rfl (lv_at hl 1 rfl) ?_
  refine j_iconst hx hb dX3_cost_1 ?_
  refine j_iconst hx hb dX3_cost_2 ?_
  refine j_cSI (As := [.int (jI k), .int (jI 0), .int (jI 4)]) (rest := []) ⟨hx, hb, hml, hown, hts⟩ (kX3_isWithin l D cI cJ cZ k 0 4 (by unfold i32; omega)) (va_cwS 3 hts gX3_cost_X3_isWithin rfl rfl rfl (by decide +kernel) ⟨Nat.le_of_ble_eq_true rfl, Nat.le_of_ble_eq_true rfl⟩) hK (hP.sub [] rfl) rfl hl.1 rfl (Nat.le_of_ble_eq_true rfl) ⟨Nat.zero_le _, Nat.zero_le _⟩ dX3_cost_3 ?_
  refine j_ifeqZ (tgt := 19) hx hb dX3_cost_6 (by decide) (fun c6 => ?_) (fun c6 => ?_)
  · skip
    refine j_bipush hx hb dX3_cost_19 (by decide) ?_
    exact j_mretI hx hb hr hlocks hS dX3_cost_21 (σ, la, wa, mk, lp, tp, rk, od, fr, fo, ex, to, ln, pg, fb, fl, pl, lb, kn) ⟨(congrArg jI (by unfold cosR; rw [if_neg (by omega)])), ⟨hok, hI⟩, (by unfold cosS; rw [if_neg (by omega)])⟩ hP
  · skip
    refine lv_iload_n hx hb dX3_cost_9 rfl (lv_at hl 2 rfl) ?_
    refine j_iconst hx hb dX3_cost_10 ?_
    refine lv_ldc (v := jI 1000000) hx hb hown (hts (.constant RX3 73 (1000000)) (by decide +kernel)) dX3_cost_11 ?_
    refine j_cSI (As := [.int (jI v), .int (jI 0), .int (jI 1000000)]) (rest := []) ⟨hx, hb, hml, hown, hts⟩ (kX3_isWithin l D cI cJ cZ v 0 1000000 (by unfold i32; omega)) (va_cwS 3 hts gX3_cost_X3_isWithin rfl rfl rfl (by decide +kernel) ⟨Nat.le_of_ble_eq_true rfl, Nat.le_of_ble_eq_true rfl⟩) hK (hP.sub [] rfl) rfl hl.1 rfl (Nat.le_of_ble_eq_true rfl) ⟨Nat.zero_le _, Nat.zero_le _⟩ dX3_cost_13 ?_
    refine j_ifneZ (tgt := 22) hx hb dX3_cost_16 (by decide) (fun c16 => ?_) (fun c16 => ?_)
    · skip
      refine lv_aload_n hx hb dX3_cost_22 rfl (lv_at hl 0 rfl) ?_
      refine j_iconst hx hb dX3_cost_23 ?_
      refine j_topi (y := jZ False) ((jZ_f id).symm) ?_
      refine va_put (D := D) (ci := 3) (v := .int (jZ False)) (ty := .boolean) (C := RX3) (T := TX3) (N := 4) hx hb hts hinX3 tyX3 tyX3_ok nmX3 hown hK hP hD hS 15 rfl rfl 3 (by decide) (hts (.fieldLink RX3 38 "BreakLines" "bestIsKnown" "Z") (by decide +kernel)) (fun _ h9 => h9) rfl (by decide +kernel) (jZ_narrow _) (jZ_fits _) (Nat.le_of_ble_eq_true rfl) dX3_cost_24 (fun H locs hP hD hS => ?_)
      have hP : va_P D vwCl (wPc q cI (sNb σ) (sWd σ) (sPp σ) (sCt σ) (sCs σ) mk la wa ++ wSe q cJ lp tp rk od fr fo ++ wSt q cI ex to ln pg fb fl pl lb ++ wBl q False) H := hP
      have hD : va_D A (wPc q cI (sNb σ) (sWd σ) (sPp σ) (sCt σ) (sCs σ) mk la wa ++ wSe q cJ lp tp rk od fr fo ++ wSt q cI ex to ln pg fb fl pl lb ++ wBl q False) := hD
      refine lv_aload_n hx hb dX3_cost_27 rfl (lv_at hl 0 rfl) ?_
      refine va_get (D := D) (ci := 3) (v := .ref (q 0)) (C := RX3) (T := TX3) (N := 4) hx hb hts hinX3 hown hK hP 15 rfl rfl 0 (by decide) (hts (.fieldLink RX3 18 "BreakLines" "piece" "LBreakLines$Piece;") (by decide +kernel)) (fun _ h9 => h9) rfl dX3_cost_28 ?_
      refine va_get (D := D) (ci := 0) (v := .ref (q 1)) (C := RX0) (T := TX0) (N := 8) hx hb hts hinX0 hown hK hP 0 rfl rfl 4 (by decide) (hts (.fieldLink RX3 74 "BreakLines$Piece" "costs" "[I") (by decide +kernel)) (fun _ h9 => h9) rfl dX3_cost_31 ?_
      refine lv_iload_n hx hb dX3_cost_34 rfl (lv_at hl 1 rfl) ?_
      refine j_iald hx hb hK hP 1 0 rfl rfl (i := k) (by omega) (by decide) dX3_cost_35 ?_
      refine lv_istore_n (lv' := [(3, .int (jI ((sCs σ) k))), (0, .ref (q 15)), (1, .int (jI k)), (2, .int (jI v))]) hx hb dX3_cost_36 rfl hl (by decide) rfl (fun ls hl => ?_)
      refine lv_aload_n hx hb dX3_cost_37 rfl (lv_at hl 1 rfl) ?_
      refine va_get (D := D) (ci := 3) (v := .ref (q 0)) (C := RX3) (T := TX3) (N := 4) hx hb hts hinX3 hown hK hP 15 rfl rfl 0 (by decide) (hts (.fieldLink RX3 18 "BreakLines" "piece" "LBreakLines$Piece;") (by decide +kernel)) (fun _ h9 => h9) rfl dX3_cost_38 ?_
      refine va_get (D := D) (ci := 0) (v := .ref (q 1)) (C := RX0) (T := TX0) (N := 8) hx hb hts hinX0 hown hK hP 0 rfl rfl 4 (by decide) (hts (.fieldLink RX3 74 "BreakLines$Piece" "costs" "[I") (by decide +kernel)) (fun _ h9 => h9) rfl dX3_cost_41 ?_
      refine lv_iload_n hx hb dX3_cost_44 rfl (lv_at hl 2 rfl) ?_
      refine lv_iload_n hx hb dX3_cost_45 rfl (lv_at hl 3 rfl) ?_
      refine j_iast hx hb hK hP hD hS 1 0 rfl rfl (i := k) (by omega) (by decide) dX3_cost_46 (fun H locs hP hD hS => ?_)
      have hP : va_P D vwCl (wPc q cI (sNb σ) (sWd σ) (sPp σ) (sCt σ) (updI (sCs σ) k v) mk la wa ++ wSe q cJ lp tp rk od fr fo ++ wSt q cI ex to ln pg fb fl pl lb ++ wBl q False) H := hP
      have hD : va_D A (wPc q cI (sNb σ) (sWd σ) (sPp σ) (sCt σ) (updI (sCs σ) k v) mk la wa ++ wSe q cJ lp tp rk od fr fo ++ wSt q cI ex to ln pg fb fl pl lb ++ wBl q False) := hD
      refine lv_iload_n hx hb dX3_cost_47 rfl (lv_at hl 0 rfl) ?_
      exact j_mretI hx hb hr hlocks hS dX3_cost_48 (upCost σ k v, la, wa, mk, lp, tp, rk, od, fr, fo, ex, to, ln, pg, fb, fl, pl, lb, False) ⟨(congrArg jI (by unfold cosR; rw [if_pos ⟨c6, c16⟩])), ⟨okP_same hok (okS_cost hS0 c16) rfl rfl rfl rfl, ⟨hI.1, fun w => w.elim⟩⟩, (by unfold cosS; rw [if_pos ⟨c6, c16⟩])⟩ hP
    · skip
      refine j_bipush hx hb dX3_cost_19 (by decide) ?_
      exact j_mretI hx hb hr hlocks hS dX3_cost_21 (σ, la, wa, mk, lp, tp, rk, od, fr, fo, ex, to, ln, pg, fb, fl, pl, lb, kn) ⟨(congrArg jI (by unfold cosR; rw [if_neg (by omega)])), ⟨hok, hI⟩, (by unfold cosS; rw [if_neg (by omega)])⟩ hP
set_option maxHeartbeats 4000000 in
set_option maxRecDepth 100000 in
theorem kX3_count (l : Launch) (D : va_G) (cI cJ cZ : ClassId) (q : Nat → Nat) (σ : Sg) (la wa : Int → Int) (mk : Nat → Int32) (hok : okP σ la wa mk) (lp tp rk od : Int → Int) (fr fo : Int) (ex : Prop) (to ln pg : Int) (fb fl pl lb : Int → Int) (kn : Prop) (hI : clsI σ kn ex to ln pg fb fl pl lb) (n : Int) (hi : i32 n) : MuI l yX3_count wsX3_count 1 22 D (tyc cI cJ cZ) (wPc q cI (sNb σ) (sWd σ) (sPp σ) (sCt σ) (sCs σ) mk la wa ++ wSe q cJ lp tp rk od fr fo ++ wSt q cI ex to ln pg fb fl pl lb ++ wBl q kn) [.ref (q 15), .int (jI n)] (fun (r : Int32) (u : CU) => r = jI (ctR σ n) ∧ cInv u ∧ u.1 = ctS σ n) (fun u => wCU q cI cJ u) := by
  intro sz
  refine j_start RX3 rfl (by decide) rfl (Nat.le_of_ble_eq_true rfl) ?_
  intro p e s m below meth c ls hx hb hr hlocks hml hown hts hnm hl ⟨hsz, hP, hK, hD0⟩
  subst hsz
  have hD := hD0.self (sz := s.heap.size)
  generalize hAe : va_A (wPc q cI (sNb σ) (sWd σ) (sPp σ) (sCt σ) (sCs σ) mk la wa ++ wSe q cJ lp tp rk od fr fo ++ wSt q cI ex to ln pg fb fl pl lb ++ wBl q kn) s.heap.size = A at hD ⊢
  have hA : ∀ q : Nat, s.heap.size ≤ q → A q := fun q h => by rw [← hAe]; exact Or.inr h
  refine j_gen (fun H locs hHe hLe => ?_)
  have hS : va_S A s.heap H locs := by rw [hHe, hLe]; exact va_S.rf
  have hP : va_P D vwCl (wPc q cI (sNb σ) (sWd σ) (sPp σ) (sCt σ) (sCs σ) mk la wa ++ wSe q cJ lp tp rk od fr fo ++ wSt q cI ex to ln pg fb fl pl lb ++ wBl q kn) H := by rw [hHe]; exact hP
  have hD : va_D A (wPc q cI (sNb σ) (sWd σ) (sPp σ) (sCt σ) (sCs σ) mk la wa ++ wSe q cJ lp tp rk od fr fo ++ wSt q cI ex to ln pg fb fl pl lb ++ wBl q kn) := hD
  have hl : lv_has ls 3 [(0, .ref (q 15)), (1, .int (jI n))] := hl
  have hinX0 : ∀ w ∈ u_ws RX0 TX0 8, w ∈ wsX3_count := by decide +kernel
  have hinX3 : ∀ w ∈ u_ws RX3 TX3 4, w ∈ wsX3_count := by decide +kernel
  have hS0 := hok.1
  have hnb := hS0.1
  have hwd := hS0.2.1
  have hpp := hS0.2.2.1
  have hct := hS0.2.2.2.1
  unfold i32 at hi
  refine lv_iload_n hx hb dX3_count_0 rfl (lv_at hl 1 rfl) ?_
  refine j_iconst hx hb dX3_count_1 ?_
  refine j_bipush hx hb dX3_count_2 (by decide) ?_
  refine j_cSI (As := [.int (jI n), .int (jI 0), .int (jI 24)]) (rest := []) ⟨hx, hb, hml, hown, hts⟩ (kX3_isWithin l D cI cJ cZ n 0 24 (by unfold i32; omega)) (va_cwS 3 hts gX3_count_X3_isWithin rfl rfl rfl (by decide +kernel) ⟨Nat.le_of_ble_eq_true rfl, Nat.le_of_ble_eq_true rfl⟩) hK (hP.sub [] rfl) rfl hl.1 rfl (Nat.le_of_ble_eq_true rfl) ⟨Nat.zero_le _, Nat.zero_le _⟩ dX3_count_4 ?_
  refine j_ifneZ (tgt := 13) hx hb dX3_count_7 (by decide) (fun c7 => ?_) (fun c7 => ?_)
  · skip
    refine lv_aload_n hx hb dX3_count_13 rfl (lv_at hl 0 rfl) ?_
    refine j_iconst hx hb dX3_count_14 ?_
    refine j_topi (y := jZ False) ((jZ_f id).symm) ?_
    refine va_put (D := D) (ci := 3) (v := .int (jZ False)) (ty := .boolean) (C := RX3) (T := TX3) (N := 4) hx hb hts hinX3 tyX3 tyX3_ok nmX3 hown hK hP hD hS 15 rfl rfl 3 (by decide) (hts (.fieldLink RX3 38 "BreakLines" "bestIsKnown" "Z") (by decide +kernel)) (fun _ h9 => h9) rfl (by decide +kernel) (jZ_narrow _) (jZ_fits _) (Nat.le_of_ble_eq_true rfl) dX3_count_15 (fun H locs hP hD hS => ?_)
    have hP : va_P D vwCl (wPc q cI (sNb σ) (sWd σ) (sPp σ) (sCt σ) (sCs σ) mk la wa ++ wSe q cJ lp tp rk od fr fo ++ wSt q cI ex to ln pg fb fl pl lb ++ wBl q False) H := hP
    have hD : va_D A (wPc q cI (sNb σ) (sWd σ) (sPp σ) (sCt σ) (sCs σ) mk la wa ++ wSe q cJ lp tp rk od fr fo ++ wSt q cI ex to ln pg fb fl pl lb ++ wBl q False) := hD
    refine lv_aload_n hx hb dX3_count_18 rfl (lv_at hl 0 rfl) ?_
    refine va_get (D := D) (ci := 3) (v := .ref (q 0)) (C := RX3) (T := TX3) (N := 4) hx hb hts hinX3 hown hK hP 15 rfl rfl 0 (by decide) (hts (.fieldLink RX3 18 "BreakLines" "piece" "LBreakLines$Piece;") (by decide +kernel)) (fun _ h9 => h9) rfl dX3_count_19 ?_
    refine va_get (D := D) (ci := 0) (v := .int (jI (sCt σ))) (C := RX0) (T := TX0) (N := 8) hx hb hts hinX0 hown hK hP 0 rfl rfl 3 (by decide) (hts (.fieldLink RX3 78 "BreakLines$Piece" "count" "I") (by decide +kernel)) (fun _ h9 => h9) rfl dX3_count_22 ?_
    refine lv_istore_n (lv' := [(2, .int (jI (sCt σ))), (0, .ref (q 15)), (1, .int (jI n))]) hx hb dX3_count_25 rfl hl (by decide) rfl (fun ls hl => ?_)
    refine lv_aload_n hx hb dX3_count_26 rfl (lv_at hl 1 rfl) ?_
    refine va_get (D := D) (ci := 3) (v := .ref (q 0)) (C := RX3) (T := TX3) (N := 4) hx hb hts hinX3 hown hK hP 15 rfl rfl 0 (by decide) (hts (.fieldLink RX3 18 "BreakLines" "piece" "LBreakLines$Piece;") (by decide +kernel)) (fun _ h9 => h9) rfl dX3_count_27 ?_
    refine lv_iload_n hx hb dX3_count_30 rfl (lv_at hl 2 rfl) ?_
    refine va_put (D := D) (ci := 0) (v := .int (jI n)) (ty := .int) (C := RX0) (T := TX0) (N := 8) hx hb hts hinX0 tyX0 tyX0_ok nmX0 hown hK hP hD hS 0 rfl rfl 3 (by decide) (hts (.fieldLink RX3 78 "BreakLines$Piece" "count" "I") (by decide +kernel)) (fun _ h9 => h9) rfl (by decide +kernel) rfl rfl (Nat.le_of_ble_eq_true rfl) dX3_count_31 (fun H locs hP hD hS => ?_)
    have hP : va_P D vwCl (wPc q cI (sNb σ) (sWd σ) (sPp σ) n (sCs σ) mk la wa ++ wSe q cJ lp tp rk od fr fo ++ wSt q cI ex to ln pg fb fl pl lb ++ wBl q False) H := hP
    have hD : va_D A (wPc q cI (sNb σ) (sWd σ) (sPp σ) n (sCs σ) mk la wa ++ wSe q cJ lp tp rk od fr fo ++ wSt q cI ex to ln pg fb fl pl lb ++ wBl q False) := hD
    refine lv_iload_n hx hb dX3_count_34 rfl (lv_at hl 0 rfl) ?_
    exact j_mretI hx hb hr hlocks hS dX3_count_35 (upCt σ n, la, wa, mk, lp, tp, rk, od, fr, fo, ex, to, ln, pg, fb, fl, pl, lb, False) ⟨(congrArg jI (by unfold ctR; rw [if_pos c7])), ⟨okP_same hok (okS_ct hS0 c7) rfl rfl rfl rfl, ⟨hI.1, fun w => w.elim⟩⟩, (by unfold ctS; rw [if_pos c7])⟩ hP
  · skip
    refine j_bipush hx hb dX3_count_10 (by decide) ?_
    exact j_mretI hx hb hr hlocks hS dX3_count_12 (σ, la, wa, mk, lp, tp, rk, od, fr, fo, ex, to, ln, pg, fb, fl, pl, lb, kn) ⟨(congrArg jI (by unfold ctR; rw [if_neg c7])), ⟨hok, hI⟩, (by unfold ctS; rw [if_neg c7])⟩ hP
set_option maxHeartbeats 4000000 in
set_option maxRecDepth 100000 in
theorem kX3_size (l : Launch) (D : va_G) (cI cJ cZ : ClassId) (q : Nat → Nat) (σ : Sg) (la wa : Int → Int) (mk : Nat → Int32) (hok : okP σ la wa mk) (lp tp rk od : Int → Int) (fr fo : Int) (ex : Prop) (to ln pg : Int) (fb fl pl lb : Int → Int) (kn : Prop) (hI : clsI σ kn ex to ln pg fb fl pl lb) (w v : Int) (hi : i32 w ∧ i32 v) : MuI l yX3_size wsX3_size 1 22 D (tyc cI cJ cZ) (wPc q cI (sNb σ) (sWd σ) (sPp σ) (sCt σ) (sCs σ) mk la wa ++ wSe q cJ lp tp rk od fr fo ++ wSt q cI ex to ln pg fb fl pl lb ++ wBl q kn) [.ref (q 15), .int (jI w), .int (jI v)] (fun (r : Int32) (u : CU) => r = jI (szR σ w v) ∧ cInv u ∧ u.1 = szS σ w v) (fun u => wCU q cI cJ u) := by
  intro sz
  refine j_start RX3 rfl (by decide) rfl (Nat.le_of_ble_eq_true rfl) ?_
  intro p e s m below meth c ls hx hb hr hlocks hml hown hts hnm hl ⟨hsz, hP, hK, hD0⟩
  subst hsz
  have hD := hD0.self (sz := s.heap.size)
  generalize hAe : va_A (wPc q cI (sNb σ) (sWd σ) (sPp σ) (sCt σ) (sCs σ) mk la wa ++ wSe q cJ lp tp rk od fr fo ++ wSt q cI ex to ln pg fb fl pl lb ++ wBl q kn) s.heap.size = A at hD ⊢
  have hA : ∀ q : Nat, s.heap.size ≤ q → A q := fun q h => by rw [← hAe]; exact Or.inr h
  refine j_gen (fun H locs hHe hLe => ?_)
  have hS : va_S A s.heap H locs := by rw [hHe, hLe]; exact va_S.rf
  have hP : va_P D vwCl (wPc q cI (sNb σ) (sWd σ) (sPp σ) (sCt σ) (sCs σ) mk la wa ++ wSe q cJ lp tp rk od fr fo ++ wSt q cI ex to ln pg fb fl pl lb ++ wBl q kn) H := by rw [hHe]; exact hP
  have hD : va_D A (wPc q cI (sNb σ) (sWd σ) (sPp σ) (sCt σ) (sCs σ) mk la wa ++ wSe q cJ lp tp rk od fr fo ++ wSt q cI ex to ln pg fb fl pl lb ++ wBl q kn) := hD
  have hl : lv_has ls 4 [(0, .ref (q 15)), (1, .int (jI w)), (2, .int (jI v))] := hl
  have hinX0 : ∀ w ∈ u_ws RX0 TX0 8, w ∈ wsX3_size := by decide +kernel
  have hinX3 : ∀ w ∈ u_ws RX3 TX3 4, w ∈ wsX3_size := by decide +kernel
  have hS0 := hok.1
  have hnb := hS0.1
  have hwd := hS0.2.1
  have hpp := hS0.2.2.1
  have hct := hS0.2.2.2.1
  unfold i32 at hi
  refine lv_iload_n hx hb dX3_size_0 rfl (lv_at hl 1 rfl) ?_
  refine j_if_ne (tgt := 39) hx hb (by unfold i32; omega) dX3_size_1 (by decide) (fun c1 => ?_) (fun c1 => ?_)
  · skip
    refine lv_iload_n hx hb dX3_size_39 rfl (lv_at hl 1 rfl) ?_
    refine j_iconst hx hb dX3_size_40 ?_
    refine j_icmp_ne (tgt := 77) hx hb (by unfold i32; omega) dX3_size_41 (by decide) (fun c41 => ?_) (fun c41 => ?_)
    · skip
      refine j_bipush hx hb dX3_size_77 (by decide) ?_
      exact j_mretI hx hb hr hlocks hS dX3_size_79 (σ, la, wa, mk, lp, tp, rk, od, fr, fo, ex, to, ln, pg, fb, fl, pl, lb, kn) ⟨(congrArg jI (by unfold szR; rw [if_neg (by omega), if_neg (by omega)])), ⟨hok, hI⟩, (by unfold szS; rw [if_neg (by omega), if_neg (by omega)])⟩ hP
    · skip
      refine lv_iload_n hx hb dX3_size_44 rfl (lv_at hl 2 rfl) ?_
      refine j_iconst hx hb dX3_size_45 ?_
      refine j_bipush hx hb dX3_size_46 (by decide) ?_
      refine j_cSI (As := [.int (jI v), .int (jI 1), .int (jI 8)]) (rest := []) ⟨hx, hb, hml, hown, hts⟩ (kX3_isWithin l D cI cJ cZ v 1 8 (by unfold i32; omega)) (va_cwS 3 hts gX3_size_X3_isWithin rfl rfl rfl (by decide +kernel) ⟨Nat.le_of_ble_eq_true rfl, Nat.le_of_ble_eq_true rfl⟩) hK (hP.sub [] rfl) rfl hl.1 rfl (Nat.le_of_ble_eq_true rfl) ⟨Nat.zero_le _, Nat.zero_le _⟩ dX3_size_48 ?_
      refine j_ifeqZ (tgt := 77) hx hb dX3_size_51 (by decide) (fun c51 => ?_) (fun c51 => ?_)
      · skip
        refine j_bipush hx hb dX3_size_77 (by decide) ?_
        exact j_mretI hx hb hr hlocks hS dX3_size_79 (σ, la, wa, mk, lp, tp, rk, od, fr, fo, ex, to, ln, pg, fb, fl, pl, lb, kn) ⟨(congrArg jI (by unfold szR; rw [if_neg (by omega), if_neg (by omega)])), ⟨hok, hI⟩, (by unfold szS; rw [if_neg (by omega), if_neg (by omega)])⟩ hP
      · skip
        refine lv_aload_n hx hb dX3_size_54 rfl (lv_at hl 0 rfl) ?_
        refine j_iconst hx hb dX3_size_55 ?_
        refine j_topi (y := jZ False) ((jZ_f id).symm) ?_
        refine va_put (D := D) (ci := 3) (v := .int (jZ False)) (ty := .boolean) (C := RX3) (T := TX3) (N := 4) hx hb hts hinX3 tyX3 tyX3_ok nmX3 hown hK hP hD hS 15 rfl rfl 3 (by decide) (hts (.fieldLink RX3 38 "BreakLines" "bestIsKnown" "Z") (by decide +kernel)) (fun _ h9 => h9) rfl (by decide +kernel) (jZ_narrow _) (jZ_fits _) (Nat.le_of_ble_eq_true rfl) dX3_size_56 (fun H locs hP hD hS => ?_)
        have hP : va_P D vwCl (wPc q cI (sNb σ) (sWd σ) (sPp σ) (sCt σ) (sCs σ) mk la wa ++ wSe q cJ lp tp rk od fr fo ++ wSt q cI ex to ln pg fb fl pl lb ++ wBl q False) H := hP
        have hD : va_D A (wPc q cI (sNb σ) (sWd σ) (sPp σ) (sCt σ) (sCs σ) mk la wa ++ wSe q cJ lp tp rk od fr fo ++ wSt q cI ex to ln pg fb fl pl lb ++ wBl q False) := hD
        refine lv_aload_n hx hb dX3_size_59 rfl (lv_at hl 0 rfl) ?_
        refine va_get (D := D) (ci := 3) (v := .ref (q 0)) (C := RX3) (T := TX3) (N := 4) hx hb hts hinX3 hown hK hP 15 rfl rfl 0 (by decide) (hts (.fieldLink RX3 18 "BreakLines" "piece" "LBreakLines$Piece;") (by decide +kernel)) (fun _ h9 => h9) rfl dX3_size_60 ?_
        refine va_get (D := D) (ci := 0) (v := .int (jI (sPp σ))) (C := RX0) (T := TX0) (N := 8) hx hb hts hinX0 hown hK hP 0 rfl rfl 2 (by decide) (hts (.fieldLink RX3 84 "BreakLines$Piece" "perPage" "I") (by decide +kernel)) (fun _ h9 => h9) rfl dX3_size_63 ?_
        refine lv_istore_n (lv' := [(3, .int (jI (sPp σ))), (0, .ref (q 15)), (1, .int (jI w)), (2, .int (jI v))]) hx hb dX3_size_66 rfl hl (by decide) rfl (fun ls hl => ?_)
        refine lv_aload_n hx hb dX3_size_67 rfl (lv_at hl 1 rfl) ?_
        refine va_get (D := D) (ci := 3) (v := .ref (q 0)) (C := RX3) (T := TX3) (N := 4) hx hb hts hinX3 hown hK hP 15 rfl rfl 0 (by decide) (hts (.fieldLink RX3 18 "BreakLines" "piece" "LBreakLines$Piece;") (by decide +kernel)) (fun _ h9 => h9) rfl dX3_size_68 ?_
        refine lv_iload_n hx hb dX3_size_71 rfl (lv_at hl 3 rfl) ?_
        refine va_put (D := D) (ci := 0) (v := .int (jI v)) (ty := .int) (C := RX0) (T := TX0) (N := 8) hx hb hts hinX0 tyX0 tyX0_ok nmX0 hown hK hP hD hS 0 rfl rfl 2 (by decide) (hts (.fieldLink RX3 84 "BreakLines$Piece" "perPage" "I") (by decide +kernel)) (fun _ h9 => h9) rfl (by decide +kernel) rfl rfl (Nat.le_of_ble_eq_true rfl) dX3_size_72 (fun H locs hP hD hS => ?_)
        have hP : va_P D vwCl (wPc q cI (sNb σ) (sWd σ) v (sCt σ) (sCs σ) mk la wa ++ wSe q cJ lp tp rk od fr fo ++ wSt q cI ex to ln pg fb fl pl lb ++ wBl q False) H := hP
        have hD : va_D A (wPc q cI (sNb σ) (sWd σ) v (sCt σ) (sCs σ) mk la wa ++ wSe q cJ lp tp rk od fr fo ++ wSt q cI ex to ln pg fb fl pl lb ++ wBl q False) := hD
        refine lv_iload_n hx hb dX3_size_75 rfl (lv_at hl 0 rfl) ?_
        exact j_mretI hx hb hr hlocks hS dX3_size_76 (upPp σ v, la, wa, mk, lp, tp, rk, od, fr, fo, ex, to, ln, pg, fb, fl, pl, lb, False) ⟨(congrArg jI (by unfold szR; rw [if_neg (by omega), if_pos ⟨c41, c51⟩])), ⟨okP_same hok (okS_pp hS0 c51) rfl rfl rfl rfl, ⟨hI.1, fun w => w.elim⟩⟩, (by unfold szS; rw [if_neg (by omega), if_pos ⟨c41, c51⟩])⟩ hP
  · skip
    refine lv_iload_n hx hb dX3_size_4 rfl (lv_at hl 2 rfl) ?_
    refine j_bipush hx hb dX3_size_5 (by decide) ?_
    refine j_sipush hx hb dX3_size_7 (by decide) ?_
    refine j_cSI (As := [.int (jI v), .int (jI 100), .int (jI 5000)]) (rest := []) ⟨hx, hb, hml, hown, hts⟩ (kX3_isWithin l D cI cJ cZ v 100 5000 (by unfold i32; omega)) (va_cwS 3 hts gX3_size_X3_isWithin rfl rfl rfl (by decide +kernel) ⟨Nat.le_of_ble_eq_true rfl, Nat.le_of_ble_eq_true rfl⟩) hK (hP.sub [] rfl) rfl hl.1 rfl (Nat.le_of_ble_eq_true rfl) ⟨Nat.zero_le _, Nat.zero_le _⟩ dX3_size_10 ?_
    refine j_ifeqZ (tgt := 39) hx hb dX3_size_13 (by decide) (fun c13 => ?_) (fun c13 => ?_)
    · skip
      refine lv_iload_n hx hb dX3_size_39 rfl (lv_at hl 1 rfl) ?_
      refine j_iconst hx hb dX3_size_40 ?_
      refine j_icmp_ne (tgt := 77) hx hb (by unfold i32; omega) dX3_size_41 (by decide) (fun c41 => ?_) (fun c41 => ?_)
      · skip
        refine j_bipush hx hb dX3_size_77 (by decide) ?_
        exact j_mretI hx hb hr hlocks hS dX3_size_79 (σ, la, wa, mk, lp, tp, rk, od, fr, fo, ex, to, ln, pg, fb, fl, pl, lb, kn) ⟨(congrArg jI (by unfold szR; rw [if_neg (by omega), if_neg (by omega)])), ⟨hok, hI⟩, (by unfold szS; rw [if_neg (by omega), if_neg (by omega)])⟩ hP
      · skip
        refine lv_iload_n hx hb dX3_size_44 rfl (lv_at hl 2 rfl) ?_
        refine j_iconst hx hb dX3_size_45 ?_
        refine j_bipush hx hb dX3_size_46 (by decide) ?_
        refine j_cSI (As := [.int (jI v), .int (jI 1), .int (jI 8)]) (rest := []) ⟨hx, hb, hml, hown, hts⟩ (kX3_isWithin l D cI cJ cZ v 1 8 (by unfold i32; omega)) (va_cwS 3 hts gX3_size_X3_isWithin rfl rfl rfl (by decide +kernel) ⟨Nat.le_of_ble_eq_true rfl, Nat.le_of_ble_eq_true rfl⟩) hK (hP.sub [] rfl) rfl hl.1 rfl (Nat.le_of_ble_eq_true rfl) ⟨Nat.zero_le _, Nat.zero_le _⟩ dX3_size_48 ?_
        refine j_ifeqZ (tgt := 77) hx hb dX3_size_51 (by decide) (fun c51 => ?_) (fun c51 => ?_)
        · skip
          refine j_bipush hx hb dX3_size_77 (by decide) ?_
          exact j_mretI hx hb hr hlocks hS dX3_size_79 (σ, la, wa, mk, lp, tp, rk, od, fr, fo, ex, to, ln, pg, fb, fl, pl, lb, kn) ⟨(congrArg jI (by unfold szR; rw [if_neg (by omega), if_neg (by omega)])), ⟨hok, hI⟩, (by unfold szS; rw [if_neg (by omega), if_neg (by omega)])⟩ hP
        · skip
          refine lv_aload_n hx hb dX3_size_54 rfl (lv_at hl 0 rfl) ?_
          refine j_iconst hx hb dX3_size_55 ?_
          refine j_topi (y := jZ False) ((jZ_f id).symm) ?_
          refine va_put (D := D) (ci := 3) (v := .int (jZ False)) (ty := .boolean) (C := RX3) (T := TX3) (N := 4) hx hb hts hinX3 tyX3 tyX3_ok nmX3 hown hK hP hD hS 15 rfl rfl 3 (by decide) (hts (.fieldLink RX3 38 "BreakLines" "bestIsKnown" "Z") (by decide +kernel)) (fun _ h9 => h9) rfl (by decide +kernel) (jZ_narrow _) (jZ_fits _) (Nat.le_of_ble_eq_true rfl) dX3_size_56 (fun H locs hP hD hS => ?_)
          have hP : va_P D vwCl (wPc q cI (sNb σ) (sWd σ) (sPp σ) (sCt σ) (sCs σ) mk la wa ++ wSe q cJ lp tp rk od fr fo ++ wSt q cI ex to ln pg fb fl pl lb ++ wBl q False) H := hP
          have hD : va_D A (wPc q cI (sNb σ) (sWd σ) (sPp σ) (sCt σ) (sCs σ) mk la wa ++ wSe q cJ lp tp rk od fr fo ++ wSt q cI ex to ln pg fb fl pl lb ++ wBl q False) := hD
          refine lv_aload_n hx hb dX3_size_59 rfl (lv_at hl 0 rfl) ?_
          refine va_get (D := D) (ci := 3) (v := .ref (q 0)) (C := RX3) (T := TX3) (N := 4) hx hb hts hinX3 hown hK hP 15 rfl rfl 0 (by decide) (hts (.fieldLink RX3 18 "BreakLines" "piece" "LBreakLines$Piece;") (by decide +kernel)) (fun _ h9 => h9) rfl dX3_size_60 ?_
          refine va_get (D := D) (ci := 0) (v := .int (jI (sPp σ))) (C := RX0) (T := TX0) (N := 8) hx hb hts hinX0 hown hK hP 0 rfl rfl 2 (by decide) (hts (.fieldLink RX3 84 "BreakLines$Piece" "perPage" "I") (by decide +kernel)) (fun _ h9 => h9) rfl dX3_size_63 ?_
          refine lv_istore_n (lv' := [(3, .int (jI (sPp σ))), (0, .ref (q 15)), (1, .int (jI w)), (2, .int (jI v))]) hx hb dX3_size_66 rfl hl (by decide) rfl (fun ls hl => ?_)
          refine lv_aload_n hx hb dX3_size_67 rfl (lv_at hl 1 rfl) ?_
          refine va_get (D := D) (ci := 3) (v := .ref (q 0)) (C := RX3) (T := TX3) (N := 4) hx hb hts hinX3 hown hK hP 15 rfl rfl 0 (by decide) (hts (.fieldLink RX3 18 "BreakLines" "piece" "LBreakLines$Piece;") (by decide +kernel)) (fun _ h9 => h9) rfl dX3_size_68 ?_
          refine lv_iload_n hx hb dX3_size_71 rfl (lv_at hl 3 rfl) ?_
          refine va_put (D := D) (ci := 0) (v := .int (jI v)) (ty := .int) (C := RX0) (T := TX0) (N := 8) hx hb hts hinX0 tyX0 tyX0_ok nmX0 hown hK hP hD hS 0 rfl rfl 2 (by decide) (hts (.fieldLink RX3 84 "BreakLines$Piece" "perPage" "I") (by decide +kernel)) (fun _ h9 => h9) rfl (by decide +kernel) rfl rfl (Nat.le_of_ble_eq_true rfl) dX3_size_72 (fun H locs hP hD hS => ?_)
          have hP : va_P D vwCl (wPc q cI (sNb σ) (sWd σ) v (sCt σ) (sCs σ) mk la wa ++ wSe q cJ lp tp rk od fr fo ++ wSt q cI ex to ln pg fb fl pl lb ++ wBl q False) H := hP
          have hD : va_D A (wPc q cI (sNb σ) (sWd σ) v (sCt σ) (sCs σ) mk la wa ++ wSe q cJ lp tp rk od fr fo ++ wSt q cI ex to ln pg fb fl pl lb ++ wBl q False) := hD
          refine lv_iload_n hx hb dX3_size_75 rfl (lv_at hl 0 rfl) ?_
          exact j_mretI hx hb hr hlocks hS dX3_size_76 (upPp σ v, la, wa, mk, lp, tp, rk, od, fr, fo, ex, to, ln, pg, fb, fl, pl, lb, False) ⟨(congrArg jI (by unfold szR; rw [if_neg (by omega), if_pos ⟨c41, c51⟩])), ⟨okP_same hok (okS_pp hS0 c51) rfl rfl rfl rfl, ⟨hI.1, fun w => w.elim⟩⟩, (by unfold szS; rw [if_neg (by omega), if_pos ⟨c41, c51⟩])⟩ hP
    · skip
      refine lv_aload_n hx hb dX3_size_16 rfl (lv_at hl 0 rfl) ?_
      refine j_iconst hx hb dX3_size_17 ?_
      refine j_topi (y := jZ False) ((jZ_f id).symm) ?_
      refine va_put (D := D) (ci := 3) (v := .int (jZ False)) (ty := .boolean) (C := RX3) (T := TX3) (N := 4) hx hb hts hinX3 tyX3 tyX3_ok nmX3 hown hK hP hD hS 15 rfl rfl 3 (by decide) (hts (.fieldLink RX3 38 "BreakLines" "bestIsKnown" "Z") (by decide +kernel)) (fun _ h9 => h9) rfl (by decide +kernel) (jZ_narrow _) (jZ_fits _) (Nat.le_of_ble_eq_true rfl) dX3_size_18 (fun H locs hP hD hS => ?_)
      have hP : va_P D vwCl (wPc q cI (sNb σ) (sWd σ) (sPp σ) (sCt σ) (sCs σ) mk la wa ++ wSe q cJ lp tp rk od fr fo ++ wSt q cI ex to ln pg fb fl pl lb ++ wBl q False) H := hP
      have hD : va_D A (wPc q cI (sNb σ) (sWd σ) (sPp σ) (sCt σ) (sCs σ) mk la wa ++ wSe q cJ lp tp rk od fr fo ++ wSt q cI ex to ln pg fb fl pl lb ++ wBl q False) := hD
      refine lv_aload_n hx hb dX3_size_21 rfl (lv_at hl 0 rfl) ?_
      refine va_get (D := D) (ci := 3) (v := .ref (q 0)) (C := RX3) (T := TX3) (N := 4) hx hb hts hinX3 hown hK hP 15 rfl rfl 0 (by decide) (hts (.fieldLink RX3 18 "BreakLines" "piece" "LBreakLines$Piece;") (by decide +kernel)) (fun _ h9 => h9) rfl dX3_size_22 ?_
      refine va_get (D := D) (ci := 0) (v := .int (jI (sWd σ))) (C := RX0) (T := TX0) (N := 8) hx hb hts hinX0 hown hK hP 0 rfl rfl 1 (by decide) (hts (.fieldLink RX3 81 "BreakLines$Piece" "width" "I") (by decide +kernel)) (fun _ h9 => h9) rfl dX3_size_25 ?_
      refine lv_istore_n (lv' := [(3, .int (jI (sWd σ))), (0, .ref (q 15)), (1, .int (jI w)), (2, .int (jI v))]) hx hb dX3_size_28 rfl hl (by decide) rfl (fun ls hl => ?_)
      refine lv_aload_n hx hb dX3_size_29 rfl (lv_at hl 1 rfl) ?_
      refine va_get (D := D) (ci := 3) (v := .ref (q 0)) (C := RX3) (T := TX3) (N := 4) hx hb hts hinX3 hown hK hP 15 rfl rfl 0 (by decide) (hts (.fieldLink RX3 18 "BreakLines" "piece" "LBreakLines$Piece;") (by decide +kernel)) (fun _ h9 => h9) rfl dX3_size_30 ?_
      refine lv_iload_n hx hb dX3_size_33 rfl (lv_at hl 3 rfl) ?_
      refine va_put (D := D) (ci := 0) (v := .int (jI v)) (ty := .int) (C := RX0) (T := TX0) (N := 8) hx hb hts hinX0 tyX0 tyX0_ok nmX0 hown hK hP hD hS 0 rfl rfl 1 (by decide) (hts (.fieldLink RX3 81 "BreakLines$Piece" "width" "I") (by decide +kernel)) (fun _ h9 => h9) rfl (by decide +kernel) rfl rfl (Nat.le_of_ble_eq_true rfl) dX3_size_34 (fun H locs hP hD hS => ?_)
      have hP : va_P D vwCl (wPc q cI (sNb σ) v (sPp σ) (sCt σ) (sCs σ) mk la wa ++ wSe q cJ lp tp rk od fr fo ++ wSt q cI ex to ln pg fb fl pl lb ++ wBl q False) H := hP
      have hD : va_D A (wPc q cI (sNb σ) v (sPp σ) (sCt σ) (sCs σ) mk la wa ++ wSe q cJ lp tp rk od fr fo ++ wSt q cI ex to ln pg fb fl pl lb ++ wBl q False) := hD
      refine lv_iload_n hx hb dX3_size_37 rfl (lv_at hl 0 rfl) ?_
      exact j_mretI hx hb hr hlocks hS dX3_size_38 (upWd σ v, la, wa, mk, lp, tp, rk, od, fr, fo, ex, to, ln, pg, fb, fl, pl, lb, False) ⟨(congrArg jI (by unfold szR; rw [if_pos ⟨c1, c13⟩])), ⟨okP_same hok (okS_wd hS0 c13) rfl rfl rfl rfl, ⟨hI.1, fun w => w.elim⟩⟩, (by unfold szS; rw [if_pos ⟨c1, c13⟩])⟩ hP
set_option maxHeartbeats 4000000 in
set_option maxRecDepth 100000 in
theorem kX3_bars (l : Launch) (D : va_G) (cI cJ cZ : ClassId) (q : Nat → Nat) (σ : Sg) (la wa : Int → Int) (mk : Nat → Int32) (hok : okP σ la wa mk) (lp tp rk od : Int → Int) (fr fo : Int) (ex : Prop) (to ln pg : Int) (fb fl pl lb : Int → Int) (kn : Prop) (hI : clsI σ kn ex to ln pg fb fl pl lb)  : MuI l yX3_bars wsX3_bars 0 0 D (tyc cI cJ cZ) (wPc q cI (sNb σ) (sWd σ) (sPp σ) (sCt σ) (sCs σ) mk la wa ++ wSe q cJ lp tp rk od fr fo ++ wSt q cI ex to ln pg fb fl pl lb ++ wBl q kn) [.ref (q 15)] (fun (r : Int32) (u : CU) => r = jI (sNb σ) ∧ cInv u ∧ u.1 = σ) (fun u => wCU q cI cJ u) := by
  intro sz
  refine j_start RX3 rfl (by decide) rfl (Nat.le_of_ble_eq_true rfl) ?_
  intro p e s m below meth c ls hx hb hr hlocks hml hown hts hnm hl ⟨hsz, hP, hK, hD0⟩
  subst hsz
  have hD := hD0.self (sz := s.heap.size)
  generalize hAe : va_A (wPc q cI (sNb σ) (sWd σ) (sPp σ) (sCt σ) (sCs σ) mk la wa ++ wSe q cJ lp tp rk od fr fo ++ wSt q cI ex to ln pg fb fl pl lb ++ wBl q kn) s.heap.size = A at hD ⊢
  have hA : ∀ q : Nat, s.heap.size ≤ q → A q := fun q h => by rw [← hAe]; exact Or.inr h
  refine j_gen (fun H locs hHe hLe => ?_)
  have hS : va_S A s.heap H locs := by rw [hHe, hLe]; exact va_S.rf
  have hP : va_P D vwCl (wPc q cI (sNb σ) (sWd σ) (sPp σ) (sCt σ) (sCs σ) mk la wa ++ wSe q cJ lp tp rk od fr fo ++ wSt q cI ex to ln pg fb fl pl lb ++ wBl q kn) H := by rw [hHe]; exact hP
  have hD : va_D A (wPc q cI (sNb σ) (sWd σ) (sPp σ) (sCt σ) (sCs σ) mk la wa ++ wSe q cJ lp tp rk od fr fo ++ wSt q cI ex to ln pg fb fl pl lb ++ wBl q kn) := hD
  have hl : lv_has ls 1 [(0, .ref (q 15))] := hl
  have hinX0 : ∀ w ∈ u_ws RX0 TX0 8, w ∈ wsX3_bars := by decide +kernel
  have hinX3 : ∀ w ∈ u_ws RX3 TX3 4, w ∈ wsX3_bars := by decide +kernel
  have hS0 := hok.1
  have hnb := hS0.1
  have hwd := hS0.2.1
  have hpp := hS0.2.2.1
  have hct := hS0.2.2.2.1
  refine lv_aload_n hx hb dX3_bars_0 rfl (lv_at hl 0 rfl) ?_
  refine va_get (D := D) (ci := 3) (v := .ref (q 0)) (C := RX3) (T := TX3) (N := 4) hx hb hts hinX3 hown hK hP 15 rfl rfl 0 (by decide) (hts (.fieldLink RX3 18 "BreakLines" "piece" "LBreakLines$Piece;") (by decide +kernel)) (fun _ h9 => h9) rfl dX3_bars_1 ?_
  refine va_get (D := D) (ci := 0) (v := .int (jI (sNb σ))) (C := RX0) (T := TX0) (N := 8) hx hb hts hinX0 hown hK hP 0 rfl rfl 0 (by decide) (hts (.fieldLink RX3 46 "BreakLines$Piece" "bars" "I") (by decide +kernel)) (fun _ h9 => h9) rfl dX3_bars_4 ?_
  exact j_mretI hx hb hr hlocks hS dX3_bars_7 (σ, la, wa, mk, lp, tp, rk, od, fr, fo, ex, to, ln, pg, fb, fl, pl, lb, kn) ⟨rfl, ⟨hok, hI⟩, rfl⟩ hP
end
