/-! the contracts of BreakLines: what is asked of the best setting -/
noncomputable section
set_option maxHeartbeats 4000000 in
set_option maxRecDepth 100000 in
theorem kX3_lines (l : Launch) (D : va_G) (cI cJ cZ : ClassId) (q : Nat → Nat) (σ : Sg) (la wa : Int → Int) (mk : Nat → Int32) (hok : okP σ la wa mk) (lp tp rk od : Int → Int) (fr fo : Int) (ex : Prop) (to ln pg : Int) (fb fl pl lb : Int → Int) (kn : Prop) (hI : clsI σ kn ex to ln pg fb fl pl lb)  : MuI l yX3_lines wsX3_lines 6 155 D (tyc cI cJ cZ) (wPc q cI (sNb σ) (sWd σ) (sPp σ) (sCt σ) (sCs σ) mk la wa ++ wSe q cJ lp tp rk od fr fo ++ wSt q cI ex to ln pg fb fl pl lb ++ wBl q kn) [.ref (q 15)] (fun (r : Int32) (u : CU) => r = jI (iteP (cEx u) (cLn u) (-3)) ∧ cInv u ∧ u.1 = σ ∧ cKn u) (fun u => wCU q cI cJ u) := by
  intro sz
  refine j_start RX3 rfl (by decide) rfl (Nat.le_of_ble_eq_true rfl) ?_
  intro p e s m below meth c ls hx hb hr hlocks hml hown hts hnm hl ⟨hsz, hP, hK, hD0⟩
  subst hsz
  have hD := hD0.self (sz := s.heap.size)
  generalize hAe : va_A (wPc q cI (sNb σ) (sWd σ) (sPp σ) (sCt σ) (sCs σ) mk la wa ++ wSe q cJ lp tp rk od fr fo ++ wSt q cI ex to ln pg fb fl pl lb ++ wBl q kn) s.heap.size = A at hD ⊢
  have hA : ∀ q : Nat, s.heap.size ≤ q → A q := fun q h => by rw [← hAe]; exact Or.inr h
  refine j_gen (fun H locs hHe hLe => ?_)
  have hS : va_S A s.heap H locs := by rw [hHe, hLe]; exact va_S.rf
  have hP : va_P D vwCl (wPc q cI (sNb σ) (sWd σ) (sPp σ) (sCt σ) (sCs σ) mk la wa ++ wSe q cJ lp tp rk od fr fo ++ wSt q cI ex to ln pg fb fl pl lb ++ wBl q kn) H := by rw [hHe]; exact hP
  have hD : va_D A (wPc q cI (sNb σ) (sWd σ) (sPp σ) (sCt σ) (sCs σ) mk la wa ++ wSe q cJ lp tp rk od fr fo ++ wSt q cI ex to ln pg fb fl pl lb ++ wBl q kn) := hD
  have hl : lv_has ls 1 [(0, .ref (q 15))] := hl
  have hinX2 : ∀ w ∈ u_ws RX2 TX2 8, w ∈ wsX3_lines := by decide +kernel
  have hinX3 : ∀ w ∈ u_ws RX3 TX3 4, w ∈ wsX3_lines := by decide +kernel
  have hS0 := hok.1
  have hnb := hS0.1
  have hwd := hS0.2.1
  have hpp := hS0.2.2.1
  have hct := hS0.2.2.2.1
  refine lv_aload_n hx hb dX3_lines_0 rfl (lv_at hl 0 rfl) ?_
  refine j_mVV (As := []) (rest := []) ⟨hx, hb, hml, hown, hts⟩ (kX3_findBest l D cI cJ cZ q σ la wa mk hok lp tp rk od fr fo ex to ln pg fb fl pl lb kn hI) (cwV 0 hts gX3_lines_X3_findBest rfl rfl rfl (by decide +kernel) ⟨Nat.le_of_ble_eq_true rfl, Nat.le_of_ble_eq_true rfl⟩) hK hP hD hS hA (va_recv hK hP (ci := 3) (q0 := 15) rfl rfl) rfl hl.1 rfl (Nat.le_of_ble_eq_true rfl) ⟨Nat.zero_le _, Nat.zero_le _⟩ dX3_lines_1 [0, 1, 2, 3, 4, 5, 6, 7, 8, 9, 10, 11, 12, 13, 14, 15] [] [0, 1, 2, 3, 4, 5, 6, 7, 8, 9, 10, 11, 12, 13, 14, 15] rfl (by decide) (wr := ([] : va_W)) rfl (by decide) (by decide) (fun _ => rfl) (fun u => wPc q cI (sNb σ) (sWd σ) (sPp σ) (sCt σ) (sCs σ) mk la wa ++ wSe q cJ u.1 u.2.1 u.2.2.1 u.2.2.2.1 u.2.2.2.2.1 u.2.2.2.2.2.1 ++ wSt q cI u.2.2.2.2.2.2.1 u.2.2.2.2.2.2.2.1 u.2.2.2.2.2.2.2.2.1 u.2.2.2.2.2.2.2.2.2.1 u.2.2.2.2.2.2.2.2.2.2.1 u.2.2.2.2.2.2.2.2.2.2.2.1 u.2.2.2.2.2.2.2.2.2.2.2.2.1 u.2.2.2.2.2.2.2.2.2.2.2.2.2.1 ++ wBl q u.2.2.2.2.2.2.2.2.2.2.2.2.2.2) (fun _ => rfl) (fun _ => rfl) (fun ⟨lpc1, tpc1, rkc1, odc1, frc1, foc1, exc1, toc1, lnc1, pgc1, fbc1, flc1, plc1, lbc1, knc1⟩ H locs hu1 hP hD hS => ?_)
  have hkn1 : knc1 := hu1.1
  have hI1 : clsI σ knc1 exc1 toc1 lnc1 pgc1 fbc1 flc1 plc1 lbc1 := hu1.2
  have hbs1 := bstS_of hS0 (hI1.2 hkn1)
  have hP : va_P D vwCl (wPc q cI (sNb σ) (sWd σ) (sPp σ) (sCt σ) (sCs σ) mk la wa ++ wSe q cJ lpc1 tpc1 rkc1 odc1 frc1 foc1 ++ wSt q cI exc1 toc1 lnc1 pgc1 fbc1 flc1 plc1 lbc1 ++ wBl q knc1) H := hP
  have hD : va_D A (wPc q cI (sNb σ) (sWd σ) (sPp σ) (sCt σ) (sCs σ) mk la wa ++ wSe q cJ lpc1 tpc1 rkc1 odc1 frc1 foc1 ++ wSt q cI exc1 toc1 lnc1 pgc1 fbc1 flc1 plc1 lbc1 ++ wBl q knc1) := hD
  refine lv_aload_n hx hb dX3_lines_4 rfl (lv_at hl 0 rfl) ?_
  refine va_get (D := D) (ci := 3) (v := .ref (q 10)) (C := RX3) (T := TX3) (N := 4) hx hb hts hinX3 hown hK hP 15 rfl rfl 2 (by decide) (hts (.fieldLink RX3 34 "BreakLines" "best" "LBreakLines$Setting;") (by decide +kernel)) (fun _ h9 => h9) rfl dX3_lines_5 ?_
  refine va_get (D := D) (ci := 2) (v := .int (jZ exc1)) (C := RX2) (T := TX2) (N := 8) hx hb hts hinX2 hown hK hP 10 rfl rfl 0 (by decide) (hts (.fieldLink RX3 90 "BreakLines$Setting" "exists" "Z") (by decide +kernel)) (fun _ h9 => h9) rfl dX3_lines_8 ?_
  refine j_ifeqZ (tgt := 24) hx hb dX3_lines_11 (by decide) (fun c11 => ?_) (fun c11 => ?_)
  · skip
    refine j_bipush hx hb dX3_lines_24 (by decide) ?_
    exact j_mretI hx hb hr hlocks hS dX3_lines_26 (σ, la, wa, mk, lpc1, tpc1, rkc1, odc1, frc1, foc1, exc1, toc1, lnc1, pgc1, fbc1, flc1, plc1, lbc1, knc1) ⟨congrArg jI (iteP_f c11 _ _).symm, ⟨hok, hI1⟩, rfl, hkn1⟩ hP
  · skip
    refine lv_aload_n hx hb dX3_lines_14 rfl (lv_at hl 0 rfl) ?_
    refine va_get (D := D) (ci := 3) (v := .ref (q 10)) (C := RX3) (T := TX3) (N := 4) hx hb hts hinX3 hown hK hP 15 rfl rfl 2 (by decide) (hts (.fieldLink RX3 34 "BreakLines" "best" "LBreakLines$Setting;") (by decide +kernel)) (fun _ h9 => h9) rfl dX3_lines_15 ?_
    refine va_get (D := D) (ci := 2) (v := .int (jI lnc1)) (C := RX2) (T := TX2) (N := 8) hx hb hts hinX2 hown hK hP 10 rfl rfl 2 (by decide) (hts (.fieldLink RX3 93 "BreakLines$Setting" "lines" "I") (by decide +kernel)) (fun _ h9 => h9) rfl dX3_lines_18 ?_
    refine lv_goto (tgt := 26) hx hb dX3_lines_21 (by decide) ?_
    exact j_mretI hx hb hr hlocks hS dX3_lines_26 (σ, la, wa, mk, lpc1, tpc1, rkc1, odc1, frc1, foc1, exc1, toc1, lnc1, pgc1, fbc1, flc1, plc1, lbc1, knc1) ⟨congrArg jI (iteP_t c11 _ _).symm, ⟨hok, hI1⟩, rfl, hkn1⟩ hP
set_option maxHeartbeats 4000000 in
set_option maxRecDepth 100000 in
theorem kX3_pages (l : Launch) (D : va_G) (cI cJ cZ : ClassId) (q : Nat → Nat) (σ : Sg) (la wa : Int → Int) (mk : Nat → Int32) (hok : okP σ la wa mk) (lp tp rk od : Int → Int) (fr fo : Int) (ex : Prop) (to ln pg : Int) (fb fl pl lb : Int → Int) (kn : Prop) (hI : clsI σ kn ex to ln pg fb fl pl lb)  : MuI l yX3_pages wsX3_pages 6 155 D (tyc cI cJ cZ) (wPc q cI (sNb σ) (sWd σ) (sPp σ) (sCt σ) (sCs σ) mk la wa ++ wSe q cJ lp tp rk od fr fo ++ wSt q cI ex to ln pg fb fl pl lb ++ wBl q kn) [.ref (q 15)] (fun (r : Int32) (u : CU) => r = jI (iteP (cEx u) (cPg u) (-3)) ∧ cInv u ∧ u.1 = σ ∧ cKn u) (fun u => wCU q cI cJ u) := by
  intro sz
  refine j_start RX3 rfl (by decide) rfl (Nat.le_of_ble_eq_true rfl) ?_
  intro p e s m below meth c ls hx hb hr hlocks hml hown hts hnm hl ⟨hsz, hP, hK, hD0⟩
  subst hsz
  have hD := hD0.self (sz := s.heap.size)
  generalize hAe : va_A (wPc q cI (sNb σ) (sWd σ) (sPp σ) (sCt σ) (sCs σ) mk la wa ++ wSe q cJ lp tp rk od fr fo ++ wSt q cI ex to ln pg fb fl pl lb ++ wBl q kn) s.heap.size = A at hD ⊢
  have hA : ∀ q : Nat, s.heap.size ≤ q → A q := fun q h => by rw [← hAe]; exact Or.inr h
  refine j_gen (fun H locs hHe hLe => ?_)
  have hS : va_S A s.heap H locs := by rw [hHe, hLe]; exact va_S.rf
  have hP : va_P D vwCl (wPc q cI (sNb σ) (sWd σ) (sPp σ) (sCt σ) (sCs σ) mk la wa ++ wSe q cJ lp tp rk od fr fo ++ wSt q cI ex to ln pg fb fl pl lb ++ wBl q kn) H := by rw [hHe]; exact hP
  have hD : va_D A (wPc q cI (sNb σ) (sWd σ) (sPp σ) (sCt σ) (sCs σ) mk la wa ++ wSe q cJ lp tp rk od fr fo ++ wSt q cI ex to ln pg fb fl pl lb ++ wBl q kn) := hD
  have hl : lv_has ls 1 [(0, .ref (q 15))] := hl
  have hinX2 : ∀ w ∈ u_ws RX2 TX2 8, w ∈ wsX3_pages := by decide +kernel
  have hinX3 : ∀ w ∈ u_ws RX3 TX3 4, w ∈ wsX3_pages := by decide +kernel
  have hS0 := hok.1
  have hnb := hS0.1
  have hwd := hS0.2.1
  have hpp := hS0.2.2.1
  have hct := hS0.2.2.2.1
  refine lv_aload_n hx hb dX3_pages_0 rfl (lv_at hl 0 rfl) ?_
  refine j_mVV (As := []) (rest := []) ⟨hx, hb, hml, hown, hts⟩ (kX3_findBest l D cI cJ cZ q σ la wa mk hok lp tp rk od fr fo ex to ln pg fb fl pl lb kn hI) (cwV 0 hts gX3_pages_X3_findBest rfl rfl rfl (by decide +kernel) ⟨Nat.le_of_ble_eq_true rfl, Nat.le_of_ble_eq_true rfl⟩) hK hP hD hS hA (va_recv hK hP (ci := 3) (q0 := 15) rfl rfl) rfl hl.1 rfl (Nat.le_of_ble_eq_true rfl) ⟨Nat.zero_le _, Nat.zero_le _⟩ dX3_pages_1 [0, 1, 2, 3, 4, 5, 6, 7, 8, 9, 10, 11, 12, 13, 14, 15] [] [0, 1, 2, 3, 4, 5, 6, 7, 8, 9, 10, 11, 12, 13, 14, 15] rfl (by decide) (wr := ([] : va_W)) rfl (by decide) (by decide) (fun _ => rfl) (fun u => wPc q cI (sNb σ) (sWd σ) (sPp σ) (sCt σ) (sCs σ) mk la wa ++ wSe q cJ u.1 u.2.1 u.2.2.1 u.2.2.2.1 u.2.2.2.2.1 u.2.2.2.2.2.1 ++ wSt q cI u.2.2.2.2.2.2.1 u.2.2.2.2.2.2.2.1 u.2.2.2.2.2.2.2.2.1 u.2.2.2.2.2.2.2.2.2.1 u.2.2.2.2.2.2.2.2.2.2.1 u.2.2.2.2.2.2.2.2.2.2.2.1 u.2.2.2.2.2.2.2.2.2.2.2.2.1 u.2.2.2.2.2.2.2.2.2.2.2.2.2.1 ++ wBl q u.2.2.2.2.2.2.2.2.2.2.2.2.2.2) (fun _ => rfl) (fun _ => rfl) (fun ⟨lpc1, tpc1, rkc1, odc1, frc1, foc1, exc1, toc1, lnc1, pgc1, fbc1, flc1, plc1, lbc1, knc1⟩ H locs hu1 hP hD hS => ?_)
  have hkn1 : knc1 := hu1.1
  have hI1 : clsI σ knc1 exc1 toc1 lnc1 pgc1 fbc1 flc1 plc1 lbc1 := hu1.2
  have hbs1 := bstS_of hS0 (hI1.2 hkn1)
  have hP : va_P D vwCl (wPc q cI (sNb σ) (sWd σ) (sPp σ) (sCt σ) (sCs σ) mk la wa ++ wSe q cJ lpc1 tpc1 rkc1 odc1 frc1 foc1 ++ wSt q cI exc1 toc1 lnc1 pgc1 fbc1 flc1 plc1 lbc1 ++ wBl q knc1) H := hP
  have hD : va_D A (wPc q cI (sNb σ) (sWd σ) (sPp σ) (sCt σ) (sCs σ) mk la wa ++ wSe q cJ lpc1 tpc1 rkc1 odc1 frc1 foc1 ++ wSt q cI exc1 toc1 lnc1 pgc1 fbc1 flc1 plc1 lbc1 ++ wBl q knc1) := hD
  refine lv_aload_n hx hb dX3_pages_4 rfl (lv_at hl 0 rfl) ?_
  refine va_get (D := D) (ci := 3) (v := .ref (q 10)) (C := RX3) (T := TX3) (N := 4) hx hb hts hinX3 hown hK hP 15 rfl rfl 2 (by decide) (hts (.fieldLink RX3 34 "BreakLines" "best" "LBreakLines$Setting;") (by decide +kernel)) (fun _ h9 => h9) rfl dX3_pages_5 ?_
  refine va_get (D := D) (ci := 2) (v := .int (jZ exc1)) (C := RX2) (T := TX2) (N := 8) hx hb hts hinX2 hown hK hP 10 rfl rfl 0 (by decide) (hts (.fieldLink RX3 90 "BreakLines$Setting" "exists" "Z") (by decide +kernel)) (fun _ h9 => h9) rfl dX3_pages_8 ?_
  refine j_ifeqZ (tgt := 24) hx hb dX3_pages_11 (by decide) (fun c11 => ?_) (fun c11 => ?_)
  · skip
    refine j_bipush hx hb dX3_pages_24 (by decide) ?_
    exact j_mretI hx hb hr hlocks hS dX3_pages_26 (σ, la, wa, mk, lpc1, tpc1, rkc1, odc1, frc1, foc1, exc1, toc1, lnc1, pgc1, fbc1, flc1, plc1, lbc1, knc1) ⟨congrArg jI (iteP_f c11 _ _).symm, ⟨hok, hI1⟩, rfl, hkn1⟩ hP
  · skip
    refine lv_aload_n hx hb dX3_pages_14 rfl (lv_at hl 0 rfl) ?_
    refine va_get (D := D) (ci := 3) (v := .ref (q 10)) (C := RX3) (T := TX3) (N := 4) hx hb hts hinX3 hown hK hP 15 rfl rfl 2 (by decide) (hts (.fieldLink RX3 34 "BreakLines" "best" "LBreakLines$Setting;") (by decide +kernel)) (fun _ h9 => h9) rfl dX3_pages_15 ?_
    refine va_get (D := D) (ci := 2) (v := .int (jI pgc1)) (C := RX2) (T := TX2) (N := 8) hx hb hts hinX2 hown hK hP 10 rfl rfl 3 (by decide) (hts (.fieldLink RX3 96 "BreakLines$Setting" "pages" "I") (by decide +kernel)) (fun _ h9 => h9) rfl dX3_pages_18 ?_
    refine lv_goto (tgt := 26) hx hb dX3_pages_21 (by decide) ?_
    exact j_mretI hx hb hr hlocks hS dX3_pages_26 (σ, la, wa, mk, lpc1, tpc1, rkc1, odc1, frc1, foc1, exc1, toc1, lnc1, pgc1, fbc1, flc1, plc1, lbc1, knc1) ⟨congrArg jI (iteP_t c11 _ _).symm, ⟨hok, hI1⟩, rfl, hkn1⟩ hP
set_option maxHeartbeats 4000000 in
set_option maxRecDepth 100000 in
theorem kX3_sum (l : Launch) (D : va_G) (cI cJ cZ : ClassId) (q : Nat → Nat) (σ : Sg) (la wa : Int → Int) (mk : Nat → Int32) (hok : okP σ la wa mk) (lp tp rk od : Int → Int) (fr fo : Int) (ex : Prop) (to ln pg : Int) (fb fl pl lb : Int → Int) (kn : Prop) (hI : clsI σ kn ex to ln pg fb fl pl lb)  : MuL l yX3_sum wsX3_sum 6 155 D (tyc cI cJ cZ) (wPc q cI (sNb σ) (sWd σ) (sPp σ) (sCt σ) (sCs σ) mk la wa ++ wSe q cJ lp tp rk od fr fo ++ wSt q cI ex to ln pg fb fl pl lb ++ wBl q kn) [.ref (q 15)] (fun (r : Int64) (u : CU) => r = jL (iteP (cEx u) (cTo u) (-1)) ∧ cInv u ∧ u.1 = σ ∧ cKn u) (fun u => wCU q cI cJ u) := by
  intro sz
  refine j_start RX3 rfl (by decide) rfl (Nat.le_of_ble_eq_true rfl) ?_
  intro p e s m below meth c ls hx hb hr hlocks hml hown hts hnm hl ⟨hsz, hP, hK, hD0⟩
  subst hsz
  have hD := hD0.self (sz := s.heap.size)
  generalize hAe : va_A (wPc q cI (sNb σ) (sWd σ) (sPp σ) (sCt σ) (sCs σ) mk la wa ++ wSe q cJ lp tp rk od fr fo ++ wSt q cI ex to ln pg fb fl pl lb ++ wBl q kn) s.heap.size = A at hD ⊢
  have hA : ∀ q : Nat, s.heap.size ≤ q → A q := fun q h => by rw [← hAe]; exact Or.inr h
  refine j_gen (fun H locs hHe hLe => ?_)
  have hS : va_S A s.heap H locs := by rw [hHe, hLe]; exact va_S.rf
  have hP : va_P D vwCl (wPc q cI (sNb σ) (sWd σ) (sPp σ) (sCt σ) (sCs σ) mk la wa ++ wSe q cJ lp tp rk od fr fo ++ wSt q cI ex to ln pg fb fl pl lb ++ wBl q kn) H := by rw [hHe]; exact hP
  have hD : va_D A (wPc q cI (sNb σ) (sWd σ) (sPp σ) (sCt σ) (sCs σ) mk la wa ++ wSe q cJ lp tp rk od fr fo ++ wSt q cI ex to ln pg fb fl pl lb ++ wBl q kn) := hD
  have hl : lv_has ls 1 [(0, .ref (q 15))] := hl
  have hinX2 : ∀ w ∈ u_ws RX2 TX2 8, w ∈ wsX3_sum := by decide +kernel
  have hinX3 : ∀ w ∈ u_ws RX3 TX3 4, w ∈ wsX3_sum := by decide +kernel
  have hS0 := hok.1
  have hnb := hS0.1
  have hwd := hS0.2.1
  have hpp := hS0.2.2.1
  have hct := hS0.2.2.2.1
  refine lv_aload_n hx hb dX3_sum_0 rfl (lv_at hl 0 rfl) ?_
  refine j_mVV (As := []) (rest := []) ⟨hx, hb, hml, hown, hts⟩ (kX3_findBest l D cI cJ cZ q σ la wa mk hok lp tp rk od fr fo ex to ln pg fb fl pl lb kn hI) (cwV 0 hts gX3_sum_X3_findBest rfl rfl rfl (by decide +kernel) ⟨Nat.le_of_ble_eq_true rfl, Nat.le_of_ble_eq_true rfl⟩) hK hP hD hS hA (va_recv hK hP (ci := 3) (q0 := 15) rfl rfl) rfl hl.1 rfl (Nat.le_of_ble_eq_true rfl) ⟨Nat.zero_le _, Nat.zero_le _⟩ dX3_sum_1 [0, 1, 2, 3, 4, 5, 6, 7, 8, 9, 10, 11, 12, 13, 14, 15] [] [0, 1, 2, 3, 4, 5, 6, 7, 8, 9, 10, 11, 12, 13, 14, 15] rfl (by decide) (wr := ([] : va_W)) rfl (by decide) (by decide) (fun _ => rfl) (fun u => wPc q cI (sNb σ) (sWd σ) (sPp σ) (sCt σ) (sCs σ) mk la wa ++ wSe q cJ u.1 u.2.1 u.2.2.1 u.2.2.2.1 u.2.2.2.2.1 u.2.2.2.2.2.1 ++ wSt q cI u.2.2.2.2.2.2.1 u.2.2.2.2.2.2.2.1 u.2.2.2.2.2.2.2.2.1 u.2.2.2.2.2.2.2.2.2.1 u.2.2.2.2.2.2.2.2.2.2.1 u.2.2.2.2.2.2.2.2.2.2.2.1 u.2.2.2.2.2.2.2.2.2.2.2.2.1 u.2.2.2.2.2.2.2.2.2.2.2.2.2.1 ++ wBl q u.2.2.2.2.2.2.2.2.2.2.2.2.2.2) (fun _ => rfl) (fun _ => rfl) (fun ⟨lpc1, tpc1, rkc1, odc1, frc1, foc1, exc1, toc1, lnc1, pgc1, fbc1, flc1, plc1, lbc1, knc1⟩ H locs hu1 hP hD hS => ?_)
  have hkn1 : knc1 := hu1.1
  have hI1 : clsI σ knc1 exc1 toc1 lnc1 pgc1 fbc1 flc1 plc1 lbc1 := hu1.2
  have hbs1 := bstS_of hS0 (hI1.2 hkn1)
  have hP : va_P D vwCl (wPc q cI (sNb σ) (sWd σ) (sPp σ) (sCt σ) (sCs σ) mk la wa ++ wSe q cJ lpc1 tpc1 rkc1 odc1 frc1 foc1 ++ wSt q cI exc1 toc1 lnc1 pgc1 fbc1 flc1 plc1 lbc1 ++ wBl q knc1) H := hP
  have hD : va_D A (wPc q cI (sNb σ) (sWd σ) (sPp σ) (sCt σ) (sCs σ) mk la wa ++ wSe q cJ lpc1 tpc1 rkc1 odc1 frc1 foc1 ++ wSt q cI exc1 toc1 lnc1 pgc1 fbc1 flc1 plc1 lbc1 ++ wBl q knc1) := hD
  refine lv_aload_n hx hb dX3_sum_4 rfl (lv_at hl 0 rfl) ?_
  refine va_get (D := D) (ci := 3) (v := .ref (q 10)) (C := RX3) (T := TX3) (N := 4) hx hb hts hinX3 hown hK hP 15 rfl rfl 2 (by decide) (hts (.fieldLink RX3 34 "BreakLines" "best" "LBreakLines$Setting;") (by decide +kernel)) (fun _ h9 => h9) rfl dX3_sum_5 ?_
  refine va_get (D := D) (ci := 2) (v := .int (jZ exc1)) (C := RX2) (T := TX2) (N := 8) hx hb hts hinX2 hown hK hP 10 rfl rfl 0 (by decide) (hts (.fieldLink RX3 90 "BreakLines$Setting" "exists" "Z") (by decide +kernel)) (fun _ h9 => h9) rfl dX3_sum_8 ?_
  refine j_ifeqZ (tgt := 24) hx hb dX3_sum_11 (by decide) (fun c11 => ?_) (fun c11 => ?_)
  · skip
    refine lv_ldc2 (v := jL (-1)) hx hb hown (hts (.constantLong RX3 103 (-1)) (by decide +kernel)) dX3_sum_24 ?_
    exact j_mretL hx hb hr hlocks hS dX3_sum_27 (σ, la, wa, mk, lpc1, tpc1, rkc1, odc1, frc1, foc1, exc1, toc1, lnc1, pgc1, fbc1, flc1, plc1, lbc1, knc1) ⟨congrArg jL (iteP_f c11 _ _).symm, ⟨hok, hI1⟩, rfl, hkn1⟩ hP
  · skip
    refine lv_aload_n hx hb dX3_sum_14 rfl (lv_at hl 0 rfl) ?_
    refine va_get (D := D) (ci := 3) (v := .ref (q 10)) (C := RX3) (T := TX3) (N := 4) hx hb hts hinX3 hown hK hP 15 rfl rfl 2 (by decide) (hts (.fieldLink RX3 34 "BreakLines" "best" "LBreakLines$Setting;") (by decide +kernel)) (fun _ h9 => h9) rfl dX3_sum_15 ?_
    refine va_get (D := D) (ci := 2) (v := .long (jL toc1)) (C := RX2) (T := TX2) (N := 8) hx hb hts hinX2 hown hK hP 10 rfl rfl 1 (by decide) (hts (.fieldLink RX3 99 "BreakLines$Setting" "total" "J") (by decide +kernel)) (fun _ h9 => h9) rfl dX3_sum_18 ?_
    refine lv_goto (tgt := 27) hx hb dX3_sum_21 (by decide) ?_
    exact j_mretL hx hb hr hlocks hS dX3_sum_27 (σ, la, wa, mk, lpc1, tpc1, rkc1, odc1, frc1, foc1, exc1, toc1, lnc1, pgc1, fbc1, flc1, plc1, lbc1, knc1) ⟨congrArg jL (iteP_t c11 _ _).symm, ⟨hok, hI1⟩, rfl, hkn1⟩ hP
set_option maxHeartbeats 4000000 in
set_option maxRecDepth 100000 in
theorem kX3_line (l : Launch) (D : va_G) (cI cJ cZ : ClassId) (q : Nat → Nat) (σ : Sg) (la wa : Int → Int) (mk : Nat → Int32) (hok : okP σ la wa mk) (lp tp rk od : Int → Int) (fr fo : Int) (ex : Prop) (to ln pg : Int) (fb fl pl lb : Int → Int) (kn : Prop) (hI : clsI σ kn ex to ln pg fb fl pl lb) (k w : Int) (hi : i32 k ∧ i32 w) : MuI l yX3_line wsX3_line 6 155 D (tyc cI cJ cZ) (wPc q cI (sNb σ) (sWd σ) (sPp σ) (sCt σ) (sCs σ) mk la wa ++ wSe q cJ lp tp rk od fr fo ++ wSt q cI ex to ln pg fb fl pl lb ++ wBl q kn) [.ref (q 15), .int (jI k), .int (jI w)] (fun (r : Int32) (u : CU) => r = jI (lineR σ (cEx u) (cLn u) (cFb u) (cPl u) k w) ∧ cInv u ∧ u.1 = σ ∧ cKn u) (fun u => wCU q cI cJ u) := by
  intro sz
  refine j_start RX3 rfl (by decide) rfl (Nat.le_of_ble_eq_true rfl) ?_
  intro p e s m below meth c ls hx hb hr hlocks hml hown hts hnm hl ⟨hsz, hP, hK, hD0⟩
  subst hsz
  have hD := hD0.self (sz := s.heap.size)
  generalize hAe : va_A (wPc q cI (sNb σ) (sWd σ) (sPp σ) (sCt σ) (sCs σ) mk la wa ++ wSe q cJ lp tp rk od fr fo ++ wSt q cI ex to ln pg fb fl pl lb ++ wBl q kn) s.heap.size = A at hD ⊢
  have hA : ∀ q : Nat, s.heap.size ≤ q → A q := fun q h => by rw [← hAe]; exact Or.inr h
  refine j_gen (fun H locs hHe hLe => ?_)
  have hS : va_S A s.heap H locs := by rw [hHe, hLe]; exact va_S.rf
  have hP : va_P D vwCl (wPc q cI (sNb σ) (sWd σ) (sPp σ) (sCt σ) (sCs σ) mk la wa ++ wSe q cJ lp tp rk od fr fo ++ wSt q cI ex to ln pg fb fl pl lb ++ wBl q kn) H := by rw [hHe]; exact hP
  have hD : va_D A (wPc q cI (sNb σ) (sWd σ) (sPp σ) (sCt σ) (sCs σ) mk la wa ++ wSe q cJ lp tp rk od fr fo ++ wSt q cI ex to ln pg fb fl pl lb ++ wBl q kn) := hD
  have hl : lv_has ls 3 [(0, .ref (q 15)), (1, .int (jI k)), (2, .int (jI w))] := hl
  have hinX2 : ∀ w ∈ u_ws RX2 TX2 8, w ∈ wsX3_line := by decide +kernel
  have hinX3 : ∀ w ∈ u_ws RX3 TX3 4, w ∈ wsX3_line := by decide +kernel
  have hS0 := hok.1
  have hnb := hS0.1
  have hwd := hS0.2.1
  have hpp := hS0.2.2.1
  have hct := hS0.2.2.2.1
  unfold i32 at hi
  refine lv_aload_n hx hb dX3_line_0 rfl (lv_at hl 0 rfl) ?_
  refine j_mVV (As := []) (rest := []) ⟨hx, hb, hml, hown, hts⟩ (kX3_findBest l D cI cJ cZ q σ la wa mk hok lp tp rk od fr fo ex to ln pg fb fl pl lb kn hI) (cwV 0 hts gX3_line_X3_findBest rfl rfl rfl (by decide +kernel) ⟨Nat.le_of_ble_eq_true rfl, Nat.le_of_ble_eq_true rfl⟩) hK hP hD hS hA (va_recv hK hP (ci := 3) (q0 := 15) rfl rfl) rfl hl.1 rfl (Nat.le_of_ble_eq_true rfl) ⟨Nat.zero_le _, Nat.zero_le _⟩ dX3_line_1 [0, 1, 2, 3, 4, 5, 6, 7, 8, 9, 10, 11, 12, 13, 14, 15] [] [0, 1, 2, 3, 4, 5, 6, 7, 8, 9, 10, 11, 12, 13, 14, 15] rfl (by decide) (wr := ([] : va_W)) rfl (by decide) (by decide) (fun _ => rfl) (fun u => wPc q cI (sNb σ) (sWd σ) (sPp σ) (sCt σ) (sCs σ) mk la wa ++ wSe q cJ u.1 u.2.1 u.2.2.1 u.2.2.2.1 u.2.2.2.2.1 u.2.2.2.2.2.1 ++ wSt q cI u.2.2.2.2.2.2.1 u.2.2.2.2.2.2.2.1 u.2.2.2.2.2.2.2.2.1 u.2.2.2.2.2.2.2.2.2.1 u.2.2.2.2.2.2.2.2.2.2.1 u.2.2.2.2.2.2.2.2.2.2.2.1 u.2.2.2.2.2.2.2.2.2.2.2.2.1 u.2.2.2.2.2.2.2.2.2.2.2.2.2.1 ++ wBl q u.2.2.2.2.2.2.2.2.2.2.2.2.2.2) (fun _ => rfl) (fun _ => rfl) (fun ⟨lpc1, tpc1, rkc1, odc1, frc1, foc1, exc1, toc1, lnc1, pgc1, fbc1, flc1, plc1, lbc1, knc1⟩ H locs hu1 hP hD hS => ?_)
  have hkn1 : knc1 := hu1.1
  have hI1 : clsI σ knc1 exc1 toc1 lnc1 pgc1 fbc1 flc1 plc1 lbc1 := hu1.2
  have hbs1 := bstS_of hS0 (hI1.2 hkn1)
  have hP : va_P D vwCl (wPc q cI (sNb σ) (sWd σ) (sPp σ) (sCt σ) (sCs σ) mk la wa ++ wSe q cJ lpc1 tpc1 rkc1 odc1 frc1 foc1 ++ wSt q cI exc1 toc1 lnc1 pgc1 fbc1 flc1 plc1 lbc1 ++ wBl q knc1) H := hP
  have hD : va_D A (wPc q cI (sNb σ) (sWd σ) (sPp σ) (sCt σ) (sCs σ) mk la wa ++ wSe q cJ lpc1 tpc1 rkc1 odc1 frc1 foc1 ++ wSt q cI exc1 toc1 lnc1 pgc1 fbc1 flc1 plc1 lbc1 ++ wBl q knc1) := hD
  refine lv_aload_n hx hb dX3_line_4 rfl (lv_at hl 0 rfl) ?_
  refine va_get (D := D) (ci := 3) (v := .ref (q 10)) (C := RX3) (T := TX3) (N := 4) hx hb hts hinX3 hown hK hP 15 rfl rfl 2 (by decide) (hts (.fieldLink RX3 34 "BreakLines" "best" "LBreakLines$Setting;") (by decide +kernel)) (fun _ h9 => h9) rfl dX3_line_5 ?_
  refine va_get (D := D) (ci := 2) (v := .int (jZ exc1)) (C := RX2) (T := TX2) (N := 8) hx hb hts hinX2 hown hK hP 10 rfl rfl 0 (by decide) (hts (.fieldLink RX3 90 "BreakLines$Setting" "exists" "Z") (by decide +kernel)) (fun _ h9 => h9) rfl dX3_line_8 ?_
  refine j_ifneZ (tgt := 17) hx hb dX3_line_11 (by decide) (fun c11 => ?_) (fun c11 => ?_)
  · skip
    obtain ⟨s0, hb0, hto0, hst0⟩ := (hbs1.resolve_left (fun w => w.1 c11)).2
    have hln0 := setOK_ln hst0 (by omega)
    refine lv_iload_n hx hb dX3_line_17 rfl (lv_at hl 1 rfl) ?_
    refine j_iconst hx hb dX3_line_18 ?_
    refine lv_aload_n hx hb dX3_line_19 rfl (lv_at hl 0 rfl) ?_
    refine va_get (D := D) (ci := 3) (v := .ref (q 10)) (C := RX3) (T := TX3) (N := 4) hx hb hts hinX3 hown hK hP 15 rfl rfl 2 (by decide) (hts (.fieldLink RX3 34 "BreakLines" "best" "LBreakLines$Setting;") (by decide +kernel)) (fun _ h9 => h9) rfl dX3_line_20 ?_
    refine va_get (D := D) (ci := 2) (v := .int (jI lnc1)) (C := RX2) (T := TX2) (N := 8) hx hb hts hinX2 hown hK hP 10 rfl rfl 2 (by decide) (hts (.fieldLink RX3 93 "BreakLines$Setting" "lines" "I") (by decide +kernel)) (fun _ h9 => h9) rfl dX3_line_23 ?_
    refine j_iconst hx hb dX3_line_26 ?_
    refine j_isub hx hb dX3_line_27 ?_
    refine j_cSI (As := [.int (jI k), .int (jI 0), .int (jI (lnc1 - 1))]) (rest := []) ⟨hx, hb, hml, hown, hts⟩ (kX3_isWithin l D cI cJ cZ k 0 (lnc1 - 1) (by unfold i32; omega)) (va_cwS 3 hts gX3_line_X3_isWithin rfl rfl rfl (by decide +kernel) ⟨Nat.le_of_ble_eq_true rfl, Nat.le_of_ble_eq_true rfl⟩) hK (hP.sub [] rfl) rfl hl.1 rfl (Nat.le_of_ble_eq_true rfl) ⟨Nat.zero_le _, Nat.zero_le _⟩ dX3_line_28 ?_
    refine j_ifneZ (tgt := 36) hx hb dX3_line_31 (by decide) (fun c31 => ?_) (fun c31 => ?_)
    · skip
      refine lv_iload_n hx hb dX3_line_36 rfl (lv_at hl 2 rfl) ?_
      rcases (show w = 0 ∨ w = 1 ∨ w = 2 ∨ w = 3 ∨ (w < 0 ∨ 3 < w) by omega) with c37 | c37 | c37 | c37 | c37
      · refine j_tabIn (tgt := 68) hx hb (by unfold i32; omega) 0 c37 dX3_line_37 (by decide) (by decide) rfl (by decide) ?_
        refine lv_aload_n hx hb dX3_line_68 rfl (lv_at hl 0 rfl) ?_
        refine va_get (D := D) (ci := 3) (v := .ref (q 10)) (C := RX3) (T := TX3) (N := 4) hx hb hts hinX3 hown hK hP 15 rfl rfl 2 (by decide) (hts (.fieldLink RX3 34 "BreakLines" "best" "LBreakLines$Setting;") (by decide +kernel)) (fun _ h9 => h9) rfl dX3_line_69 ?_
        refine va_get (D := D) (ci := 2) (v := .ref (q 11)) (C := RX2) (T := TX2) (N := 8) hx hb hts hinX2 hown hK hP 10 rfl rfl 4 (by decide) (hts (.fieldLink RX3 105 "BreakLines$Setting" "firstBar" "[I") (by decide +kernel)) (fun _ h9 => h9) rfl dX3_line_72 ?_
        refine lv_iload_n hx hb dX3_line_75 rfl (lv_at hl 1 rfl) ?_
        refine j_iald hx hb hK hP 11 0 rfl rfl (i := k) (by omega) (by decide) dX3_line_76 ?_
        exact j_mretI hx hb hr hlocks hS dX3_line_77 (σ, la, wa, mk, lpc1, tpc1, rkc1, odc1, frc1, foc1, exc1, toc1, lnc1, pgc1, fbc1, flc1, plc1, lbc1, knc1) ⟨congrArg jI (lineR_0 c11 c31 c37), ⟨hok, hI1⟩, rfl, hkn1⟩ hP
      · refine j_tabIn (tgt := 78) hx hb (by unfold i32; omega) 1 c37 dX3_line_37 (by decide) (by decide) rfl (by decide) ?_
        refine lv_aload_n hx hb dX3_line_78 rfl (lv_at hl 0 rfl) ?_
        refine va_get (D := D) (ci := 3) (v := .ref (q 10)) (C := RX3) (T := TX3) (N := 4) hx hb hts hinX3 hown hK hP 15 rfl rfl 2 (by decide) (hts (.fieldLink RX3 34 "BreakLines" "best" "LBreakLines$Setting;") (by decide +kernel)) (fun _ h9 => h9) rfl dX3_line_79 ?_
        refine lv_iload_n hx hb dX3_line_82 rfl (lv_at hl 1 rfl) ?_
        refine j_cVI (As := [.int (jI k)]) (rest := []) ⟨hx, hb, hml, hown, hts⟩ (kX2_lastBar l D cI cJ cZ q exc1 toc1 lnc1 pgc1 fbc1 flc1 plc1 lbc1 k (by omega)) (cwV 1 hts gX3_line_X2_lastBar rfl rfl rfl (by decide +kernel) ⟨Nat.le_of_ble_eq_true rfl, Nat.le_of_ble_eq_true rfl⟩) hK (hP.sub [10, 11, 12, 13, 14] rfl) (va_recv hK hP (ci := 2) (q0 := 10) rfl rfl) rfl hl.1 rfl (Nat.le_of_ble_eq_true rfl) ⟨Nat.zero_le _, Nat.zero_le _⟩ dX3_line_83 ?_
        exact j_mretI hx hb hr hlocks hS dX3_line_86 (σ, la, wa, mk, lpc1, tpc1, rkc1, odc1, frc1, foc1, exc1, toc1, lnc1, pgc1, fbc1, flc1, plc1, lbc1, knc1) ⟨congrArg jI (lineR_1 c11 c31 c37), ⟨hok, hI1⟩, rfl, hkn1⟩ hP
      · refine j_tabIn (tgt := 87) hx hb (by unfold i32; omega) 2 c37 dX3_line_37 (by decide) (by decide) rfl (by decide) ?_
        refine lv_aload_n hx hb dX3_line_87 rfl (lv_at hl 0 rfl) ?_
        refine va_get (D := D) (ci := 3) (v := .ref (q 10)) (C := RX3) (T := TX3) (N := 4) hx hb hts hinX3 hown hK hP 15 rfl rfl 2 (by decide) (hts (.fieldLink RX3 34 "BreakLines" "best" "LBreakLines$Setting;") (by decide +kernel)) (fun _ h9 => h9) rfl dX3_line_88 ?_
        refine va_get (D := D) (ci := 2) (v := .ref (q 13)) (C := RX2) (T := TX2) (N := 8) hx hb hts hinX2 hown hK hP 10 rfl rfl 6 (by decide) (hts (.fieldLink RX3 112 "BreakLines$Setting" "pageOfLine" "[I") (by decide +kernel)) (fun _ h9 => h9) rfl dX3_line_91 ?_
        refine lv_iload_n hx hb dX3_line_94 rfl (lv_at hl 1 rfl) ?_
        refine j_iald hx hb hK hP 13 0 rfl rfl (i := k) (by omega) (by decide) dX3_line_95 ?_
        exact j_mretI hx hb hr hlocks hS dX3_line_96 (σ, la, wa, mk, lpc1, tpc1, rkc1, odc1, frc1, foc1, exc1, toc1, lnc1, pgc1, fbc1, flc1, plc1, lbc1, knc1) ⟨congrArg jI (lineR_2 c11 c31 c37), ⟨hok, hI1⟩, rfl, hkn1⟩ hP
      · refine j_tabIn (tgt := 97) hx hb (by unfold i32; omega) 3 c37 dX3_line_37 (by decide) (by decide) rfl (by decide) ?_
        have hrow := row_at (n := sNb σ) (by omega) hst0.2.2.1 (setOK_F hst0) (k := k) (by omega) (by rw [← hst0.1]; omega)
        refine lv_ldc (v := jI 1000000) hx hb hown (hts (.constant RX3 73 (1000000)) (by decide +kernel)) dX3_line_97 ?_
        refine lv_aload_n hx hb dX3_line_99 rfl (lv_at hl 0 rfl) ?_
        refine va_get (D := D) (ci := 3) (v := .ref (q 0)) (C := RX3) (T := TX3) (N := 4) hx hb hts hinX3 hown hK hP 15 rfl rfl 0 (by decide) (hts (.fieldLink RX3 18 "BreakLines" "piece" "LBreakLines$Piece;") (by decide +kernel)) (fun _ h9 => h9) rfl dX3_line_100 ?_
        refine lv_aload_n hx hb dX3_line_103 rfl (lv_at hl 0 rfl) ?_
        refine va_get (D := D) (ci := 3) (v := .ref (q 10)) (C := RX3) (T := TX3) (N := 4) hx hb hts hinX3 hown hK hP 15 rfl rfl 2 (by decide) (hts (.fieldLink RX3 34 "BreakLines" "best" "LBreakLines$Setting;") (by decide +kernel)) (fun _ h9 => h9) rfl dX3_line_104 ?_
        refine va_get (D := D) (ci := 2) (v := .ref (q 11)) (C := RX2) (T := TX2) (N := 8) hx hb hts hinX2 hown hK hP 10 rfl rfl 4 (by decide) (hts (.fieldLink RX3 105 "BreakLines$Setting" "firstBar" "[I") (by decide +kernel)) (fun _ h9 => h9) rfl dX3_line_107 ?_
        refine lv_iload_n hx hb dX3_line_110 rfl (lv_at hl 1 rfl) ?_
        refine j_iald hx hb hK hP 11 0 rfl rfl (i := k) (by omega) (by decide) dX3_line_111 ?_
        refine lv_aload_n hx hb dX3_line_112 rfl (lv_at hl 0 rfl) ?_
        refine va_get (D := D) (ci := 3) (v := .ref (q 10)) (C := RX3) (T := TX3) (N := 4) hx hb hts hinX3 hown hK hP 15 rfl rfl 2 (by decide) (hts (.fieldLink RX3 34 "BreakLines" "best" "LBreakLines$Setting;") (by decide +kernel)) (fun _ h9 => h9) rfl dX3_line_113 ?_
        refine lv_iload_n hx hb dX3_line_116 rfl (lv_at hl 1 rfl) ?_
        refine j_cVI (As := [.int (jI k)]) (rest := [.int (jI (fbc1 k)), .ref (q 0), .int (jI 1000000)]) ⟨hx, hb, hml, hown, hts⟩ (kX2_lastBar l D cI cJ cZ q exc1 toc1 lnc1 pgc1 fbc1 flc1 plc1 lbc1 k (by omega)) (cwV 1 hts gX3_line_X2_lastBar rfl rfl rfl (by decide +kernel) ⟨Nat.le_of_ble_eq_true rfl, Nat.le_of_ble_eq_true rfl⟩) hK (hP.sub [10, 11, 12, 13, 14] rfl) (va_recv hK hP (ci := 2) (q0 := 10) rfl rfl) rfl hl.1 rfl (Nat.le_of_ble_eq_true rfl) ⟨Nat.zero_le _, Nat.zero_le _⟩ dX3_line_117 ?_
        refine j_cVI (As := [.int (jI (fbc1 k)), .int (jI (fbc1 (k + 1) - 1))]) (rest := [.int (jI 1000000)]) ⟨hx, hb, hml, hown, hts⟩ (kX0_spare l D cI cJ cZ q σ la wa mk hok (fbc1 k) (fbc1 (k + 1) - 1) (by omega)) (cwV 2 hts gX3_line_X0_spare rfl rfl rfl (by decide +kernel) ⟨Nat.le_of_ble_eq_true rfl, Nat.le_of_ble_eq_true rfl⟩) hK (hP.sub [0, 1, 2, 3, 4] rfl) (va_recv hK hP (ci := 0) (q0 := 0) rfl rfl) rfl hl.1 rfl (Nat.le_of_ble_eq_true rfl) ⟨Nat.zero_le _, Nat.zero_le _⟩ dX3_line_120 ?_
        refine j_iadd hx hb dX3_line_123 ?_
        exact j_mretI hx hb hr hlocks hS dX3_line_124 (σ, la, wa, mk, lpc1, tpc1, rkc1, odc1, frc1, foc1, exc1, toc1, lnc1, pgc1, fbc1, flc1, plc1, lbc1, knc1) ⟨congrArg jI (lineR_3 c11 c31 c37), ⟨hok, hI1⟩, rfl, hkn1⟩ hP
      · refine j_tabOut (tgt := 125) hx hb (by unfold i32; omega) c37 dX3_line_37 (by decide) ?_
        refine j_bipush hx hb dX3_line_125 (by decide) ?_
        exact j_mretI hx hb hr hlocks hS dX3_line_127 (σ, la, wa, mk, lpc1, tpc1, rkc1, odc1, frc1, foc1, exc1, toc1, lnc1, pgc1, fbc1, flc1, plc1, lbc1, knc1) ⟨congrArg jI (lineR_x c11 c31 c37), ⟨hok, hI1⟩, rfl, hkn1⟩ hP
    · skip
      refine j_iconst hx hb dX3_line_34 ?_
      exact j_mretI hx hb hr hlocks hS dX3_line_35 (σ, la, wa, mk, lpc1, tpc1, rkc1, odc1, frc1, foc1, exc1, toc1, lnc1, pgc1, fbc1, flc1, plc1, lbc1, knc1) ⟨congrArg jI (lineR_m c11 c31), ⟨hok, hI1⟩, rfl, hkn1⟩ hP
  · skip
    refine j_bipush hx hb dX3_line_14 (by decide) ?_
    exact j_mretI hx hb hr hlocks hS dX3_line_16 (σ, la, wa, mk, lpc1, tpc1, rkc1, odc1, frc1, foc1, exc1, toc1, lnc1, pgc1, fbc1, flc1, plc1, lbc1, knc1) ⟨congrArg jI (lineR_n c11), ⟨hok, hI1⟩, rfl, hkn1⟩ hP
set_option maxHeartbeats 4000000 in
set_option maxRecDepth 100000 in
theorem kX3_pagePrice (l : Launch) (D : va_G) (cI cJ cZ : ClassId) (q : Nat → Nat) (σ : Sg) (la wa : Int → Int) (mk : Nat → Int32) (hok : okP σ la wa mk) (lp tp rk od : Int → Int) (fr fo : Int) (ex : Prop) (to ln pg : Int) (fb fl pl lb : Int → Int) (kn : Prop) (k : Int) (h : (0 ≤ k ∧ k < pg ∧ pg ≤ 24) ∧ (1 ≤ fl (k + 1) ∧ fl (k + 1) ≤ 24 ∧ 1 ≤ fb (fl (k + 1)) ∧ fb (fl (k + 1)) ≤ sNb σ) ∧ 0 ≤ fl k ∧ fl k ≤ 24) : RoI l yX3_pagePrice wsX3_pagePrice 2 43 D (tyc cI cJ cZ) (wPc q cI (sNb σ) (sWd σ) (sPp σ) (sCt σ) (sCs σ) mk la wa ++ wSe q cJ lp tp rk od fr fo ++ wSt q cI ex to ln pg fb fl pl lb ++ wBl q kn) [.ref (q 15), .int (jI k)] (jI (ppR σ pg fb fl k)) := by
  refine j_start RX3 rfl (by decide) rfl (Nat.le_of_ble_eq_true rfl) ?_
  intro p e s m below meth c ls hx hb hr hlocks hml hown hts hnm hl ⟨hP, hK⟩
  have hP : va_P D vwCl (wPc q cI (sNb σ) (sWd σ) (sPp σ) (sCt σ) (sCs σ) mk la wa ++ wSe q cJ lp tp rk od fr fo ++ wSt q cI ex to ln pg fb fl pl lb ++ wBl q kn) s.heap := hP
  have hl : lv_has ls 2 [(0, .ref (q 15)), (1, .int (jI k))] := hl
  have hinX0 : ∀ w ∈ u_ws RX0 TX0 8, w ∈ wsX3_pagePrice := by decide +kernel
  have hinX2 : ∀ w ∈ u_ws RX2 TX2 8, w ∈ wsX3_pagePrice := by decide +kernel
  have hinX3 : ∀ w ∈ u_ws RX3 TX3 4, w ∈ wsX3_pagePrice := by decide +kernel
  have hS0 := hok.1
  have hnb := hS0.1
  have hwd := hS0.2.1
  have hpp := hS0.2.2.1
  refine lv_iload_n hx hb dX3_pagePrice_0 rfl (lv_at hl 1 rfl) ?_
  refine lv_aload_n hx hb dX3_pagePrice_1 rfl (lv_at hl 0 rfl) ?_
  refine va_get (D := D) (ci := 3) (v := .ref (q 10)) (C := RX3) (T := TX3) (N := 4) hx hb hts hinX3 hown hK hP 15 rfl rfl 2 (by decide) (hts (.fieldLink RX3 34 "BreakLines" "best" "LBreakLines$Setting;") (by decide +kernel)) (fun _ h9 => h9) rfl dX3_pagePrice_2 ?_
  refine va_get (D := D) (ci := 2) (v := .int (jI pg)) (C := RX2) (T := TX2) (N := 8) hx hb hts hinX2 hown hK hP 10 rfl rfl 3 (by decide) (hts (.fieldLink RX3 96 "BreakLines$Setting" "pages" "I") (by decide +kernel)) (fun _ h9 => h9) rfl dX3_pagePrice_5 ?_
  refine j_iconst hx hb dX3_pagePrice_8 ?_
  refine j_isub hx hb dX3_pagePrice_9 ?_
  refine j_icmp_ge (tgt := 41) hx hb (by unfold i32; omega) dX3_pagePrice_10 (by decide) (fun c10 => ?_) (fun c10 => ?_)
  · skip
    refine lv_iload_n hx hb dX3_pagePrice_41 rfl (lv_at hl 1 rfl) ?_
    refine j_if_le (tgt := 69) hx hb (by unfold i32; omega) dX3_pagePrice_42 (by decide) (fun c42 => ?_) (fun c42 => ?_)
    · skip
      refine j_iconst hx hb dX3_pagePrice_69 ?_
      exact j_retI hx hb hr hlocks dX3_pagePrice_70 (congrArg jI (by unfold ppR; rw [if_neg (by omega), if_neg (by omega)]))
    · skip
      refine lv_aload_n hx hb dX3_pagePrice_45 rfl (lv_at hl 0 rfl) ?_
      refine va_get (D := D) (ci := 3) (v := .ref (q 10)) (C := RX3) (T := TX3) (N := 4) hx hb hts hinX3 hown hK hP 15 rfl rfl 2 (by decide) (hts (.fieldLink RX3 34 "BreakLines" "best" "LBreakLines$Setting;") (by decide +kernel)) (fun _ h9 => h9) rfl dX3_pagePrice_46 ?_
      refine lv_iload_n hx hb dX3_pagePrice_49 rfl (lv_at hl 1 rfl) ?_
      refine j_cVI (As := [.int (jI k)]) (rest := []) ⟨hx, hb, hml, hown, hts⟩ (kX2_linesOnPage l D cI cJ cZ q ex to ln pg fb fl pl lb k (by omega)) (cwV 1 hts gX3_pagePrice_X2_linesOnPage rfl rfl rfl (by decide +kernel) ⟨Nat.le_of_ble_eq_true rfl, Nat.le_of_ble_eq_true rfl⟩) hK (hP.sub [10, 11, 12, 13, 14] rfl) (va_recv hK hP (ci := 2) (q0 := 10) rfl rfl) rfl hl.1 rfl (Nat.le_of_ble_eq_true rfl) ⟨Nat.zero_le _, Nat.zero_le _⟩ dX3_pagePrice_50 ?_
      refine j_iconst hx hb dX3_pagePrice_53 ?_
      refine j_icmp_ne (tgt := 69) hx hb (by unfold i32; omega) dX3_pagePrice_54 (by decide) (fun c54 => ?_) (fun c54 => ?_)
      · skip
        refine j_iconst hx hb dX3_pagePrice_69 ?_
        exact j_retI hx hb hr hlocks dX3_pagePrice_70 (congrArg jI (by unfold ppR; rw [if_neg (by omega), if_neg (by omega)]))
      · skip
        refine lv_aload_n hx hb dX3_pagePrice_57 rfl (lv_at hl 0 rfl) ?_
        refine va_get (D := D) (ci := 3) (v := .ref (q 0)) (C := RX3) (T := TX3) (N := 4) hx hb hts hinX3 hown hK hP 15 rfl rfl 0 (by decide) (hts (.fieldLink RX3 18 "BreakLines" "piece" "LBreakLines$Piece;") (by decide +kernel)) (fun _ h9 => h9) rfl dX3_pagePrice_58 ?_
        refine va_get (D := D) (ci := 0) (v := .ref (q 1)) (C := RX0) (T := TX0) (N := 8) hx hb hts hinX0 hown hK hP 0 rfl rfl 4 (by decide) (hts (.fieldLink RX3 74 "BreakLines$Piece" "costs" "[I") (by decide +kernel)) (fun _ h9 => h9) rfl dX3_pagePrice_61 ?_
        refine j_iconst hx hb dX3_pagePrice_64 ?_
        refine j_iald hx hb hK hP 1 0 rfl rfl (i := 2) (by omega) (by decide) dX3_pagePrice_65 ?_
        refine lv_goto (tgt := 70) hx hb dX3_pagePrice_66 (by decide) ?_
        exact j_retI hx hb hr hlocks dX3_pagePrice_70 (congrArg jI (by unfold ppR; rw [if_neg (by omega), if_pos ⟨c42, c54⟩]))
  · skip
    refine lv_aload_n hx hb dX3_pagePrice_13 rfl (lv_at hl 0 rfl) ?_
    refine va_get (D := D) (ci := 3) (v := .ref (q 0)) (C := RX3) (T := TX3) (N := 4) hx hb hts hinX3 hown hK hP 15 rfl rfl 0 (by decide) (hts (.fieldLink RX3 18 "BreakLines" "piece" "LBreakLines$Piece;") (by decide +kernel)) (fun _ h9 => h9) rfl dX3_pagePrice_14 ?_
    refine lv_aload_n hx hb dX3_pagePrice_17 rfl (lv_at hl 0 rfl) ?_
    refine va_get (D := D) (ci := 3) (v := .ref (q 10)) (C := RX3) (T := TX3) (N := 4) hx hb hts hinX3 hown hK hP 15 rfl rfl 2 (by decide) (hts (.fieldLink RX3 34 "BreakLines" "best" "LBreakLines$Setting;") (by decide +kernel)) (fun _ h9 => h9) rfl dX3_pagePrice_18 ?_
    refine lv_aload_n hx hb dX3_pagePrice_21 rfl (lv_at hl 0 rfl) ?_
    refine va_get (D := D) (ci := 3) (v := .ref (q 10)) (C := RX3) (T := TX3) (N := 4) hx hb hts hinX3 hown hK hP 15 rfl rfl 2 (by decide) (hts (.fieldLink RX3 34 "BreakLines" "best" "LBreakLines$Setting;") (by decide +kernel)) (fun _ h9 => h9) rfl dX3_pagePrice_22 ?_
    refine va_get (D := D) (ci := 2) (v := .ref (q 12)) (C := RX2) (T := TX2) (N := 8) hx hb hts hinX2 hown hK hP 10 rfl rfl 5 (by decide) (hts (.fieldLink RX3 118 "BreakLines$Setting" "firstLine" "[I") (by decide +kernel)) (fun _ h9 => h9) rfl dX3_pagePrice_25 ?_
    refine lv_iload_n hx hb dX3_pagePrice_28 rfl (lv_at hl 1 rfl) ?_
    refine j_iconst hx hb dX3_pagePrice_29 ?_
    refine j_iadd hx hb dX3_pagePrice_30 ?_
    refine j_iald hx hb hK hP 12 0 rfl rfl (i := k + 1) (by omega) (by decide) dX3_pagePrice_31 ?_
    refine j_iconst hx hb dX3_pagePrice_32 ?_
    refine j_isub hx hb dX3_pagePrice_33 ?_
    refine j_cVI (As := [.int (jI ((fl (k + 1)) - 1))]) (rest := [.ref (q 0)]) ⟨hx, hb, hml, hown, hts⟩ (kX2_lastBar l D cI cJ cZ q ex to ln pg fb fl pl lb ((fl (k + 1)) - 1) (by omega)) (cwV 1 hts gX3_pagePrice_X2_lastBar rfl rfl rfl (by decide +kernel) ⟨Nat.le_of_ble_eq_true rfl, Nat.le_of_ble_eq_true rfl⟩) hK (hP.sub [10, 11, 12, 13, 14] rfl) (va_recv hK hP (ci := 2) (q0 := 10) rfl rfl) rfl hl.1 rfl (Nat.le_of_ble_eq_true rfl) ⟨Nat.zero_le _, Nat.zero_le _⟩ dX3_pagePrice_34 ?_
    refine j_topi (y := (jI (fb (fl (k + 1)) - 1))) (congrArg jI (by rw [show fl (k + 1) - 1 + 1 = fl (k + 1) by omega])) ?_
    refine j_cVI (As := [.int (jI (fb (fl (k + 1)) - 1))]) (rest := []) ⟨hx, hb, hml, hown, hts⟩ (kX0_turnPrice l D cI cJ cZ q σ la wa mk hok (fb (fl (k + 1)) - 1) (by omega)) (cwV 1 hts gX3_pagePrice_X0_turnPrice rfl rfl rfl (by decide +kernel) ⟨Nat.le_of_ble_eq_true rfl, Nat.le_of_ble_eq_true rfl⟩) hK (hP.sub [0, 1, 2, 3, 4] rfl) (va_recv hK hP (ci := 0) (q0 := 0) rfl rfl) rfl hl.1 rfl (Nat.le_of_ble_eq_true rfl) ⟨Nat.zero_le _, Nat.zero_le _⟩ dX3_pagePrice_37 ?_
    exact j_retI hx hb hr hlocks dX3_pagePrice_40 (congrArg jI (by unfold ppR; rw [if_pos c10]))
set_option maxHeartbeats 4000000 in
set_option maxRecDepth 100000 in
theorem kX3_page (l : Launch) (D : va_G) (cI cJ cZ : ClassId) (q : Nat → Nat) (σ : Sg) (la wa : Int → Int) (mk : Nat → Int32) (hok : okP σ la wa mk) (lp tp rk od : Int → Int) (fr fo : Int) (ex : Prop) (to ln pg : Int) (fb fl pl lb : Int → Int) (kn : Prop) (hI : clsI σ kn ex to ln pg fb fl pl lb) (k w : Int) (hi : i32 k ∧ i32 w) : MuI l yX3_page wsX3_page 6 155 D (tyc cI cJ cZ) (wPc q cI (sNb σ) (sWd σ) (sPp σ) (sCt σ) (sCs σ) mk la wa ++ wSe q cJ lp tp rk od fr fo ++ wSt q cI ex to ln pg fb fl pl lb ++ wBl q kn) [.ref (q 15), .int (jI k), .int (jI w)] (fun (r : Int32) (u : CU) => r = jI (pageR σ (cEx u) (cPg u) (cFb u) (cFl u) k w) ∧ cInv u ∧ u.1 = σ ∧ cKn u) (fun u => wCU q cI cJ u) := by
  intro sz
  refine j_start RX3 rfl (by decide) rfl (Nat.le_of_ble_eq_true rfl) ?_
  intro p e s m below meth c ls hx hb hr hlocks hml hown hts hnm hl ⟨hsz, hP, hK, hD0⟩
  subst hsz
  have hD := hD0.self (sz := s.heap.size)
  generalize hAe : va_A (wPc q cI (sNb σ) (sWd σ) (sPp σ) (sCt σ) (sCs σ) mk la wa ++ wSe q cJ lp tp rk od fr fo ++ wSt q cI ex to ln pg fb fl pl lb ++ wBl q kn) s.heap.size = A at hD ⊢
  have hA : ∀ q : Nat, s.heap.size ≤ q → A q := fun q h => by rw [← hAe]; exact Or.inr h
  refine j_gen (fun H locs hHe hLe => ?_)
  have hS : va_S A s.heap H locs := by rw [hHe, hLe]; exact va_S.rf
  have hP : va_P D vwCl (wPc q cI (sNb σ) (sWd σ) (sPp σ) (sCt σ) (sCs σ) mk la wa ++ wSe q cJ lp tp rk od fr fo ++ wSt q cI ex to ln pg fb fl pl lb ++ wBl q kn) H := by rw [hHe]; exact hP
  have hD : va_D A (wPc q cI (sNb σ) (sWd σ) (sPp σ) (sCt σ) (sCs σ) mk la wa ++ wSe q cJ lp tp rk od fr fo ++ wSt q cI ex to ln pg fb fl pl lb ++ wBl q kn) := hD
  have hl : lv_has ls 3 [(0, .ref (q 15)), (1, .int (jI k)), (2, .int (jI w))] := hl
  have hinX2 : ∀ w ∈ u_ws RX2 TX2 8, w ∈ wsX3_page := by decide +kernel
  have hinX3 : ∀ w ∈ u_ws RX3 TX3 4, w ∈ wsX3_page := by decide +kernel
  have hS0 := hok.1
  have hnb := hS0.1
  have hwd := hS0.2.1
  have hpp := hS0.2.2.1
  have hct := hS0.2.2.2.1
  unfold i32 at hi
  refine lv_aload_n hx hb dX3_page_0 rfl (lv_at hl 0 rfl) ?_
  refine j_mVV (As := []) (rest := []) ⟨hx, hb, hml, hown, hts⟩ (kX3_findBest l D cI cJ cZ q σ la wa mk hok lp tp rk od fr fo ex to ln pg fb fl pl lb kn hI) (cwV 0 hts gX3_page_X3_findBest rfl rfl rfl (by decide +kernel) ⟨Nat.le_of_ble_eq_true rfl, Nat.le_of_ble_eq_true rfl⟩) hK hP hD hS hA (va_recv hK hP (ci := 3) (q0 := 15) rfl rfl) rfl hl.1 rfl (Nat.le_of_ble_eq_true rfl) ⟨Nat.zero_le _, Nat.zero_le _⟩ dX3_page_1 [0, 1, 2, 3, 4, 5, 6, 7, 8, 9, 10, 11, 12, 13, 14, 15] [] [0, 1, 2, 3, 4, 5, 6, 7, 8, 9, 10, 11, 12, 13, 14, 15] rfl (by decide) (wr := ([] : va_W)) rfl (by decide) (by decide) (fun _ => rfl) (fun u => wPc q cI (sNb σ) (sWd σ) (sPp σ) (sCt σ) (sCs σ) mk la wa ++ wSe q cJ u.1 u.2.1 u.2.2.1 u.2.2.2.1 u.2.2.2.2.1 u.2.2.2.2.2.1 ++ wSt q cI u.2.2.2.2.2.2.1 u.2.2.2.2.2.2.2.1 u.2.2.2.2.2.2.2.2.1 u.2.2.2.2.2.2.2.2.2.1 u.2.2.2.2.2.2.2.2.2.2.1 u.2.2.2.2.2.2.2.2.2.2.2.1 u.2.2.2.2.2.2.2.2.2.2.2.2.1 u.2.2.2.2.2.2.2.2.2.2.2.2.2.1 ++ wBl q u.2.2.2.2.2.2.2.2.2.2.2.2.2.2) (fun _ => rfl) (fun _ => rfl) (fun ⟨lpc1, tpc1, rkc1, odc1, frc1, foc1, exc1, toc1, lnc1, pgc1, fbc1, flc1, plc1, lbc1, knc1⟩ H locs hu1 hP hD hS => ?_)
  have hkn1 : knc1 := hu1.1
  have hI1 : clsI σ knc1 exc1 toc1 lnc1 pgc1 fbc1 flc1 plc1 lbc1 := hu1.2
  have hbs1 := bstS_of hS0 (hI1.2 hkn1)
  have hP : va_P D vwCl (wPc q cI (sNb σ) (sWd σ) (sPp σ) (sCt σ) (sCs σ) mk la wa ++ wSe q cJ lpc1 tpc1 rkc1 odc1 frc1 foc1 ++ wSt q cI exc1 toc1 lnc1 pgc1 fbc1 flc1 plc1 lbc1 ++ wBl q knc1) H := hP
  have hD : va_D A (wPc q cI (sNb σ) (sWd σ) (sPp σ) (sCt σ) (sCs σ) mk la wa ++ wSe q cJ lpc1 tpc1 rkc1 odc1 frc1 foc1 ++ wSt q cI exc1 toc1 lnc1 pgc1 fbc1 flc1 plc1 lbc1 ++ wBl q knc1) := hD
  refine lv_aload_n hx hb dX3_page_4 rfl (lv_at hl 0 rfl) ?_
  refine va_get (D := D) (ci := 3) (v := .ref (q 10)) (C := RX3) (T := TX3) (N := 4) hx hb hts hinX3 hown hK hP 15 rfl rfl 2 (by decide) (hts (.fieldLink RX3 34 "BreakLines" "best" "LBreakLines$Setting;") (by decide +kernel)) (fun _ h9 => h9) rfl dX3_page_5 ?_
  refine va_get (D := D) (ci := 2) (v := .int (jZ exc1)) (C := RX2) (T := TX2) (N := 8) hx hb hts hinX2 hown hK hP 10 rfl rfl 0 (by decide) (hts (.fieldLink RX3 90 "BreakLines$Setting" "exists" "Z") (by decide +kernel)) (fun _ h9 => h9) rfl dX3_page_8 ?_
  refine j_ifneZ (tgt := 17) hx hb dX3_page_11 (by decide) (fun c11 => ?_) (fun c11 => ?_)
  · skip
    obtain ⟨s0, hb0, hto0, hst0⟩ := (hbs1.resolve_left (fun w => w.1 c11)).2
    have hln0 := setOK_ln hst0 (by omega)
    refine lv_iload_n hx hb dX3_page_17 rfl (lv_at hl 1 rfl) ?_
    refine j_iconst hx hb dX3_page_18 ?_
    refine lv_aload_n hx hb dX3_page_19 rfl (lv_at hl 0 rfl) ?_
    refine va_get (D := D) (ci := 3) (v := .ref (q 10)) (C := RX3) (T := TX3) (N := 4) hx hb hts hinX3 hown hK hP 15 rfl rfl 2 (by decide) (hts (.fieldLink RX3 34 "BreakLines" "best" "LBreakLines$Setting;") (by decide +kernel)) (fun _ h9 => h9) rfl dX3_page_20 ?_
    refine va_get (D := D) (ci := 2) (v := .int (jI pgc1)) (C := RX2) (T := TX2) (N := 8) hx hb hts hinX2 hown hK hP 10 rfl rfl 3 (by decide) (hts (.fieldLink RX3 96 "BreakLines$Setting" "pages" "I") (by decide +kernel)) (fun _ h9 => h9) rfl dX3_page_23 ?_
    refine j_iconst hx hb dX3_page_26 ?_
    refine j_isub hx hb dX3_page_27 ?_
    refine j_cSI (As := [.int (jI k), .int (jI 0), .int (jI (pgc1 - 1))]) (rest := []) ⟨hx, hb, hml, hown, hts⟩ (kX3_isWithin l D cI cJ cZ k 0 (pgc1 - 1) (by unfold i32; omega)) (va_cwS 3 hts gX3_page_X3_isWithin rfl rfl rfl (by decide +kernel) ⟨Nat.le_of_ble_eq_true rfl, Nat.le_of_ble_eq_true rfl⟩) hK (hP.sub [] rfl) rfl hl.1 rfl (Nat.le_of_ble_eq_true rfl) ⟨Nat.zero_le _, Nat.zero_le _⟩ dX3_page_28 ?_
    refine j_ifneZ (tgt := 36) hx hb dX3_page_31 (by decide) (fun c31 => ?_) (fun c31 => ?_)
    · skip
      refine lv_iload_n hx hb dX3_page_36 rfl (lv_at hl 2 rfl) ?_
      rcases (show w = 0 ∨ w = 1 ∨ w = 2 ∨ (w < 0 ∨ 2 < w) by omega) with c37 | c37 | c37 | c37
      · refine j_tabIn (tgt := 64) hx hb (by unfold i32; omega) 0 c37 dX3_page_37 (by decide) (by decide) rfl (by decide) ?_
        refine lv_aload_n hx hb dX3_page_64 rfl (lv_at hl 0 rfl) ?_
        refine va_get (D := D) (ci := 3) (v := .ref (q 10)) (C := RX3) (T := TX3) (N := 4) hx hb hts hinX3 hown hK hP 15 rfl rfl 2 (by decide) (hts (.fieldLink RX3 34 "BreakLines" "best" "LBreakLines$Setting;") (by decide +kernel)) (fun _ h9 => h9) rfl dX3_page_65 ?_
        refine va_get (D := D) (ci := 2) (v := .ref (q 12)) (C := RX2) (T := TX2) (N := 8) hx hb hts hinX2 hown hK hP 10 rfl rfl 5 (by decide) (hts (.fieldLink RX3 118 "BreakLines$Setting" "firstLine" "[I") (by decide +kernel)) (fun _ h9 => h9) rfl dX3_page_68 ?_
        refine lv_iload_n hx hb dX3_page_71 rfl (lv_at hl 1 rfl) ?_
        refine j_iald hx hb hK hP 12 0 rfl rfl (i := k) (by omega) (by decide) dX3_page_72 ?_
        exact j_mretI hx hb hr hlocks hS dX3_page_73 (σ, la, wa, mk, lpc1, tpc1, rkc1, odc1, frc1, foc1, exc1, toc1, lnc1, pgc1, fbc1, flc1, plc1, lbc1, knc1) ⟨congrArg jI (pageR_0 c11 c31 c37), ⟨hok, hI1⟩, rfl, hkn1⟩ hP
      · refine j_tabIn (tgt := 74) hx hb (by unfold i32; omega) 1 c37 dX3_page_37 (by decide) (by decide) rfl (by decide) ?_
        refine lv_aload_n hx hb dX3_page_74 rfl (lv_at hl 0 rfl) ?_
        refine va_get (D := D) (ci := 3) (v := .ref (q 10)) (C := RX3) (T := TX3) (N := 4) hx hb hts hinX3 hown hK hP 15 rfl rfl 2 (by decide) (hts (.fieldLink RX3 34 "BreakLines" "best" "LBreakLines$Setting;") (by decide +kernel)) (fun _ h9 => h9) rfl dX3_page_75 ?_
        refine lv_iload_n hx hb dX3_page_78 rfl (lv_at hl 1 rfl) ?_
        refine j_cVI (As := [.int (jI k)]) (rest := []) ⟨hx, hb, hml, hown, hts⟩ (kX2_linesOnPage l D cI cJ cZ q exc1 toc1 lnc1 pgc1 fbc1 flc1 plc1 lbc1 k (by omega)) (cwV 1 hts gX3_page_X2_linesOnPage rfl rfl rfl (by decide +kernel) ⟨Nat.le_of_ble_eq_true rfl, Nat.le_of_ble_eq_true rfl⟩) hK (hP.sub [10, 11, 12, 13, 14] rfl) (va_recv hK hP (ci := 2) (q0 := 10) rfl rfl) rfl hl.1 rfl (Nat.le_of_ble_eq_true rfl) ⟨Nat.zero_le _, Nat.zero_le _⟩ dX3_page_79 ?_
        exact j_mretI hx hb hr hlocks hS dX3_page_82 (σ, la, wa, mk, lpc1, tpc1, rkc1, odc1, frc1, foc1, exc1, toc1, lnc1, pgc1, fbc1, flc1, plc1, lbc1, knc1) ⟨congrArg jI (pageR_1 c11 c31 c37), ⟨hok, hI1⟩, rfl, hkn1⟩ hP
      · refine j_tabIn (tgt := 83) hx hb (by unfold i32; omega) 2 c37 dX3_page_37 (by decide) (by decide) rfl (by decide) ?_
        refine lv_aload_n hx hb dX3_page_83 rfl (lv_at hl 0 rfl) ?_
        refine lv_iload_n hx hb dX3_page_84 rfl (lv_at hl 1 rfl) ?_
        refine j_cVI (As := [.int (jI k)]) (rest := []) ⟨hx, hb, hml, hown, hts⟩ (kX3_pagePrice l D cI cJ cZ q σ la wa mk hok lpc1 tpc1 rkc1 odc1 frc1 foc1 exc1 toc1 lnc1 pgc1 fbc1 flc1 plc1 lbc1 knc1 k (by have z := page_at hst0 (by omega) (fun b w => endP_sub w) (k := k) (by omega) (by omega); have z2 := page_lo hst0 (by omega) (fun b w => endP_sub w) (k := k) (by omega) (by omega); omega)) (cwV 1 hts gX3_page_X3_pagePrice rfl rfl rfl (by decide +kernel) ⟨Nat.le_of_ble_eq_true rfl, Nat.le_of_ble_eq_true rfl⟩) hK hP (va_recv hK hP (ci := 3) (q0 := 15) rfl rfl) rfl hl.1 rfl (Nat.le_of_ble_eq_true rfl) ⟨Nat.zero_le _, Nat.zero_le _⟩ dX3_page_85 ?_
        exact j_mretI hx hb hr hlocks hS dX3_page_88 (σ, la, wa, mk, lpc1, tpc1, rkc1, odc1, frc1, foc1, exc1, toc1, lnc1, pgc1, fbc1, flc1, plc1, lbc1, knc1) ⟨congrArg jI (pageR_2 c11 c31 c37), ⟨hok, hI1⟩, rfl, hkn1⟩ hP
      · refine j_tabOut (tgt := 89) hx hb (by unfold i32; omega) c37 dX3_page_37 (by decide) ?_
        refine j_bipush hx hb dX3_page_89 (by decide) ?_
        exact j_mretI hx hb hr hlocks hS dX3_page_91 (σ, la, wa, mk, lpc1, tpc1, rkc1, odc1, frc1, foc1, exc1, toc1, lnc1, pgc1, fbc1, flc1, plc1, lbc1, knc1) ⟨congrArg jI (pageR_x c11 c31 c37), ⟨hok, hI1⟩, rfl, hkn1⟩ hP
    · skip
      refine j_iconst hx hb dX3_page_34 ?_
      exact j_mretI hx hb hr hlocks hS dX3_page_35 (σ, la, wa, mk, lpc1, tpc1, rkc1, odc1, frc1, foc1, exc1, toc1, lnc1, pgc1, fbc1, flc1, plc1, lbc1, knc1) ⟨congrArg jI (pageR_m c11 c31), ⟨hok, hI1⟩, rfl, hkn1⟩ hP
  · skip
    refine j_bipush hx hb dX3_page_14 (by decide) ?_
    exact j_mretI hx hb hr hlocks hS dX3_page_16 (σ, la, wa, mk, lpc1, tpc1, rkc1, odc1, frc1, foc1, exc1, toc1, lnc1, pgc1, fbc1, flc1, plc1, lbc1, knc1) ⟨congrArg jI (pageR_n c11), ⟨hok, hI1⟩, rfl, hkn1⟩ hP
set_option maxHeartbeats 4000000 in
set_option maxRecDepth 100000 in
theorem kX3_set (l : Launch) (D : va_G) (cI cJ cZ : ClassId) (q : Nat → Nat) (σ : Sg) (la wa : Int → Int) (mk : Nat → Int32) (hok : okP σ la wa mk) (lp tp rk od : Int → Int) (fr fo : Int) (ex : Prop) (to ln pg : Int) (fb fl pl lb : Int → Int) (kn : Prop) (hI : clsI σ kn ex to ln pg fb fl pl lb) (b w : Int) (hi : i32 b ∧ i32 w) : MuI l yX3_set wsX3_set 6 155 D (tyc cI cJ cZ) (wPc q cI (sNb σ) (sWd σ) (sPp σ) (sCt σ) (sCs σ) mk la wa ++ wSe q cJ lp tp rk od fr fo ++ wSt q cI ex to ln pg fb fl pl lb ++ wBl q kn) [.ref (q 15), .int (jI b), .int (jI w)] (fun (r : Int32) (u : CU) => r = jI (setR σ (cEx u) (cFb u) (cLb u) b w) ∧ cInv u ∧ u.1 = σ ∧ ((0 ≤ b ∧ b < sNb σ) → (0 ≤ w ∧ w ≤ 2) → cKn u)) (fun u => wCU q cI cJ u) := by
  intro sz
  refine j_start RX3 rfl (by decide) rfl (Nat.le_of_ble_eq_true rfl) ?_
  intro p e s m below meth c ls hx hb hr hlocks hml hown hts hnm hl ⟨hsz, hP, hK, hD0⟩
  subst hsz
  have hD := hD0.self (sz := s.heap.size)
  generalize hAe : va_A (wPc q cI (sNb σ) (sWd σ) (sPp σ) (sCt σ) (sCs σ) mk la wa ++ wSe q cJ lp tp rk od fr fo ++ wSt q cI ex to ln pg fb fl pl lb ++ wBl q kn) s.heap.size = A at hD ⊢
  have hA : ∀ q : Nat, s.heap.size ≤ q → A q := fun q h => by rw [← hAe]; exact Or.inr h
  refine j_gen (fun H locs hHe hLe => ?_)
  have hS : va_S A s.heap H locs := by rw [hHe, hLe]; exact va_S.rf
  have hP : va_P D vwCl (wPc q cI (sNb σ) (sWd σ) (sPp σ) (sCt σ) (sCs σ) mk la wa ++ wSe q cJ lp tp rk od fr fo ++ wSt q cI ex to ln pg fb fl pl lb ++ wBl q kn) H := by rw [hHe]; exact hP
  have hD : va_D A (wPc q cI (sNb σ) (sWd σ) (sPp σ) (sCt σ) (sCs σ) mk la wa ++ wSe q cJ lp tp rk od fr fo ++ wSt q cI ex to ln pg fb fl pl lb ++ wBl q kn) := hD
  have hl : lv_has ls 7 [(0, .ref (q 15)), (1, .int (jI b)), (2, .int (jI w))] := hl
  have hinX2 : ∀ w ∈ u_ws RX2 TX2 8, w ∈ wsX3_set := by decide +kernel
  have hinX3 : ∀ w ∈ u_ws RX3 TX3 4, w ∈ wsX3_set := by decide +kernel
  have hS0 := hok.1
  have hnb := hS0.1
  have hwd := hS0.2.1
  have hpp := hS0.2.2.1
  have hct := hS0.2.2.2.1
  unfold i32 at hi
  refine lv_aload_n hx hb dX3_set_0 rfl (lv_at hl 0 rfl) ?_
  refine va_get (D := D) (ci := 3) (v := .ref (q 0)) (C := RX3) (T := TX3) (N := 4) hx hb hts hinX3 hown hK hP 15 rfl rfl 0 (by decide) (hts (.fieldLink RX3 18 "BreakLines" "piece" "LBreakLines$Piece;") (by decide +kernel)) (fun _ h9 => h9) rfl dX3_set_1 ?_
  refine lv_iload_n hx hb dX3_set_4 rfl (lv_at hl 1 rfl) ?_
  refine j_cVI (As := [.int (jI b)]) (rest := []) ⟨hx, hb, hml, hown, hts⟩ (kX0_hasBar l D cI cJ cZ q σ la wa mk hok b (by unfold i32; omega)) (cwV 1 hts gX3_set_X0_hasBar rfl rfl rfl (by decide +kernel) ⟨Nat.le_of_ble_eq_true rfl, Nat.le_of_ble_eq_true rfl⟩) hK (hP.sub [0, 1, 2, 3, 4] rfl) (va_recv hK hP (ci := 0) (q0 := 0) rfl rfl) rfl hl.1 rfl (Nat.le_of_ble_eq_true rfl) ⟨Nat.zero_le _, Nat.zero_le _⟩ dX3_set_5 ?_
  refine j_ifneZ (tgt := 13) hx hb dX3_set_8 (by decide) (fun c8 => ?_) (fun c8 => ?_)
  · skip
    refine lv_iload_n hx hb dX3_set_13 rfl (lv_at hl 2 rfl) ?_
    refine j_iconst hx hb dX3_set_14 ?_
    refine j_iconst hx hb dX3_set_15 ?_
    refine j_cSI (As := [.int (jI w), .int (jI 0), .int (jI 2)]) (rest := []) ⟨hx, hb, hml, hown, hts⟩ (kX3_isWithin l D cI cJ cZ w 0 2 (by unfold i32; omega)) (va_cwS 3 hts gX3_set_X3_isWithin rfl rfl rfl (by decide +kernel) ⟨Nat.le_of_ble_eq_true rfl, Nat.le_of_ble_eq_true rfl⟩) hK (hP.sub [] rfl) rfl hl.1 rfl (Nat.le_of_ble_eq_true rfl) ⟨Nat.zero_le _, Nat.zero_le _⟩ dX3_set_16 ?_
    refine j_ifneZ (tgt := 25) hx hb dX3_set_19 (by decide) (fun c19 => ?_) (fun c19 => ?_)
    · skip
      refine lv_aload_n hx hb dX3_set_25 rfl (lv_at hl 0 rfl) ?_
      refine j_mVV (As := []) (rest := []) ⟨hx, hb, hml, hown, hts⟩ (kX3_findBest l D cI cJ cZ q σ la wa mk hok lp tp rk od fr fo ex to ln pg fb fl pl lb kn hI) (cwV 0 hts gX3_set_X3_findBest rfl rfl rfl (by decide +kernel) ⟨Nat.le_of_ble_eq_true rfl, Nat.le_of_ble_eq_true rfl⟩) hK hP hD hS hA (va_recv hK hP (ci := 3) (q0 := 15) rfl rfl) rfl hl.1 rfl (Nat.le_of_ble_eq_true rfl) ⟨Nat.zero_le _, Nat.zero_le _⟩ dX3_set_26 [0, 1, 2, 3, 4, 5, 6, 7, 8, 9, 10, 11, 12, 13, 14, 15] [] [0, 1, 2, 3, 4, 5, 6, 7, 8, 9, 10, 11, 12, 13, 14, 15] rfl (by decide) (wr := ([] : va_W)) rfl (by decide) (by decide) (fun _ => rfl) (fun u => wPc q cI (sNb σ) (sWd σ) (sPp σ) (sCt σ) (sCs σ) mk la wa ++ wSe q cJ u.1 u.2.1 u.2.2.1 u.2.2.2.1 u.2.2.2.2.1 u.2.2.2.2.2.1 ++ wSt q cI u.2.2.2.2.2.2.1 u.2.2.2.2.2.2.2.1 u.2.2.2.2.2.2.2.2.1 u.2.2.2.2.2.2.2.2.2.1 u.2.2.2.2.2.2.2.2.2.2.1 u.2.2.2.2.2.2.2.2.2.2.2.1 u.2.2.2.2.2.2.2.2.2.2.2.2.1 u.2.2.2.2.2.2.2.2.2.2.2.2.2.1 ++ wBl q u.2.2.2.2.2.2.2.2.2.2.2.2.2.2) (fun _ => rfl) (fun _ => rfl) (fun ⟨lpc1, tpc1, rkc1, odc1, frc1, foc1, exc1, toc1, lnc1, pgc1, fbc1, flc1, plc1, lbc1, knc1⟩ H locs hu1 hP hD hS => ?_)
      have hkn1 : knc1 := hu1.1
      have hI1 : clsI σ knc1 exc1 toc1 lnc1 pgc1 fbc1 flc1 plc1 lbc1 := hu1.2
      have hbs1 := bstS_of hS0 (hI1.2 hkn1)
      have hP : va_P D vwCl (wPc q cI (sNb σ) (sWd σ) (sPp σ) (sCt σ) (sCs σ) mk la wa ++ wSe q cJ lpc1 tpc1 rkc1 odc1 frc1 foc1 ++ wSt q cI exc1 toc1 lnc1 pgc1 fbc1 flc1 plc1 lbc1 ++ wBl q knc1) H := hP
      have hD : va_D A (wPc q cI (sNb σ) (sWd σ) (sPp σ) (sCt σ) (sCs σ) mk la wa ++ wSe q cJ lpc1 tpc1 rkc1 odc1 frc1 foc1 ++ wSt q cI exc1 toc1 lnc1 pgc1 fbc1 flc1 plc1 lbc1 ++ wBl q knc1) := hD
      refine lv_aload_n hx hb dX3_set_29 rfl (lv_at hl 0 rfl) ?_
      refine va_get (D := D) (ci := 3) (v := .ref (q 10)) (C := RX3) (T := TX3) (N := 4) hx hb hts hinX3 hown hK hP 15 rfl rfl 2 (by decide) (hts (.fieldLink RX3 34 "BreakLines" "best" "LBreakLines$Setting;") (by decide +kernel)) (fun _ h9 => h9) rfl dX3_set_30 ?_
      refine va_get (D := D) (ci := 2) (v := .int (jZ exc1)) (C := RX2) (T := TX2) (N := 8) hx hb hts hinX2 hown hK hP 10 rfl rfl 0 (by decide) (hts (.fieldLink RX3 90 "BreakLines$Setting" "exists" "Z") (by decide +kernel)) (fun _ h9 => h9) rfl dX3_set_33 ?_
      refine j_ifneZ (tgt := 42) hx hb dX3_set_36 (by decide) (fun c36 => ?_) (fun c36 => ?_)
      · skip
        obtain ⟨s0, hb0, hto0, hst0⟩ := (hbs1.resolve_left (fun w => w.1 c36)).2
        have hln0 := setOK_ln hst0 (by omega)
        have hlst := isBest_last hb0 (by omega)
        have hrb := row_bar (n := sNb σ) (by omega) hst0.2.2.1 (setOK_F hst0) hlst.1 (b := b) (by omega) (by omega)
        have hrow := row_at (n := sNb σ) (by omega) hst0.2.2.1 (setOK_F hst0) hrb.1.1 hrb.1.2
        have hlb := (hst0.2.2.2.2 b (by omega) (by omega)).1
        rw [← hlb] at hrb hrow
        have hcn := cntB (fun b => b ∈ endL s0) (a := b) (by omega)
        rw [← hlb] at hcn
        refine lv_aload_n hx hb dX3_set_42 rfl (lv_at hl 0 rfl) ?_
        refine va_get (D := D) (ci := 3) (v := .ref (q 10)) (C := RX3) (T := TX3) (N := 4) hx hb hts hinX3 hown hK hP 15 rfl rfl 2 (by decide) (hts (.fieldLink RX3 34 "BreakLines" "best" "LBreakLines$Setting;") (by decide +kernel)) (fun _ h9 => h9) rfl dX3_set_43 ?_
        refine va_get (D := D) (ci := 2) (v := .ref (q 14)) (C := RX2) (T := TX2) (N := 8) hx hb hts hinX2 hown hK hP 10 rfl rfl 7 (by decide) (hts (.fieldLink RX3 127 "BreakLines$Setting" "lineOfBar" "[I") (by decide +kernel)) (fun _ h9 => h9) rfl dX3_set_46 ?_
        refine lv_iload_n hx hb dX3_set_49 rfl (lv_at hl 1 rfl) ?_
        refine j_iald hx hb hK hP 14 0 rfl rfl (i := b) (by omega) (by decide) dX3_set_50 ?_
        refine lv_istore_n (lv' := [(3, .int (jI (lbc1 b))), (0, .ref (q 15)), (1, .int (jI b)), (2, .int (jI w))]) hx hb dX3_set_51 rfl hl (by decide) rfl (fun ls hl => ?_)
        refine lv_iload_n hx hb dX3_set_52 rfl (lv_at hl 3 rfl) ?_
        refine j_if_ne (tgt := 58) hx hb (by unfold i32; omega) dX3_set_53 (by decide) (fun c53 => ?_) (fun c53 => ?_)
        · skip
          refine lv_aload_n hx hb dX3_set_58 rfl (lv_at hl 1 rfl) ?_
          refine va_get (D := D) (ci := 3) (v := .ref (q 10)) (C := RX3) (T := TX3) (N := 4) hx hb hts hinX3 hown hK hP 15 rfl rfl 2 (by decide) (hts (.fieldLink RX3 34 "BreakLines" "best" "LBreakLines$Setting;") (by decide +kernel)) (fun _ h9 => h9) rfl dX3_set_59 ?_
          refine va_get (D := D) (ci := 2) (v := .ref (q 11)) (C := RX2) (T := TX2) (N := 8) hx hb hts hinX2 hown hK hP 10 rfl rfl 4 (by decide) (hts (.fieldLink RX3 105 "BreakLines$Setting" "firstBar" "[I") (by decide +kernel)) (fun _ h9 => h9) rfl dX3_set_62 ?_
          refine lv_iload_n hx hb dX3_set_65 rfl (lv_at hl 0 rfl) ?_
          refine j_iald hx hb hK hP 11 0 rfl rfl (i := lbc1 b) (by omega) (by decide) dX3_set_66 ?_
          refine lv_istore (lv' := [(4, .int (jI (fbc1 (lbc1 b)))), (3, .int (jI (lbc1 b))), (0, .ref (q 15)), (1, .int (jI b)), (2, .int (jI w))]) hx hb dX3_set_67 hl (by decide) rfl (fun ls hl => ?_)
          refine lv_aload_n hx hb dX3_set_69 rfl (lv_at hl 2 rfl) ?_
          refine va_get (D := D) (ci := 3) (v := .ref (q 10)) (C := RX3) (T := TX3) (N := 4) hx hb hts hinX3 hown hK hP 15 rfl rfl 2 (by decide) (hts (.fieldLink RX3 34 "BreakLines" "best" "LBreakLines$Setting;") (by decide +kernel)) (fun _ h9 => h9) rfl dX3_set_70 ?_
          refine lv_iload_n hx hb dX3_set_73 rfl (lv_at hl 1 rfl) ?_
          refine j_cVI (As := [.int (jI (lbc1 b))]) (rest := []) ⟨hx, hb, hml, hown, hts⟩ (kX2_lastBar l D cI cJ cZ q exc1 toc1 lnc1 pgc1 fbc1 flc1 plc1 lbc1 (lbc1 b) (by omega)) (cwV 1 hts gX3_set_X2_lastBar rfl rfl rfl (by decide +kernel) ⟨Nat.le_of_ble_eq_true rfl, Nat.le_of_ble_eq_true rfl⟩) hK (hP.sub [10, 11, 12, 13, 14] rfl) (va_recv hK hP (ci := 2) (q0 := 10) rfl rfl) rfl hl.1 rfl (Nat.le_of_ble_eq_true rfl) ⟨Nat.zero_le _, Nat.zero_le _⟩ dX3_set_74 ?_
          refine lv_istore (lv' := [(5, .int (jI (fbc1 ((lbc1 b) + 1) - 1))), (4, .int (jI (fbc1 (lbc1 b)))), (3, .int (jI (lbc1 b))), (0, .ref (q 15)), (1, .int (jI b)), (2, .int (jI w))]) hx hb dX3_set_77 hl (by decide) rfl (fun ls hl => ?_)
          refine lv_aload_n hx hb dX3_set_79 rfl (lv_at hl 3 rfl) ?_
          refine va_get (D := D) (ci := 3) (v := .ref (q 0)) (C := RX3) (T := TX3) (N := 4) hx hb hts hinX3 hown hK hP 15 rfl rfl 0 (by decide) (hts (.fieldLink RX3 18 "BreakLines" "piece" "LBreakLines$Piece;") (by decide +kernel)) (fun _ h9 => h9) rfl dX3_set_80 ?_
          refine lv_iload hx hb dX3_set_83 (lv_at hl 1 rfl) ?_
          refine lv_iload hx hb dX3_set_85 (lv_at hl 0 rfl) ?_
          refine lv_iload_n hx hb dX3_set_87 rfl (lv_at hl 4 rfl) ?_
          refine j_cVI (As := [.int (jI (fbc1 (lbc1 b))), .int (jI (fbc1 ((lbc1 b) + 1) - 1)), .int (jI b)]) (rest := []) ⟨hx, hb, hml, hown, hts⟩ (kX0_setAhead l D cI cJ cZ q σ la wa mk hok (fbc1 (lbc1 b)) (fbc1 ((lbc1 b) + 1) - 1) b (by omega)) (cwV 3 hts gX3_set_X0_setAhead rfl rfl rfl (by decide +kernel) ⟨Nat.le_of_ble_eq_true rfl, Nat.le_of_ble_eq_true rfl⟩) hK (hP.sub [0, 1, 2, 3, 4] rfl) (va_recv hK hP (ci := 0) (q0 := 0) rfl rfl) rfl hl.1 rfl (Nat.le_of_ble_eq_true rfl) ⟨Nat.zero_le _, Nat.zero_le _⟩ dX3_set_88 ?_
          refine lv_istore (lv' := [(6, .int (jI (ahd σ (fbc1 (lbc1 b)) (fbc1 ((lbc1 b) + 1) - 1) b))), (5, .int (jI (fbc1 ((lbc1 b) + 1) - 1))), (4, .int (jI (fbc1 (lbc1 b)))), (3, .int (jI (lbc1 b))), (0, .ref (q 15)), (1, .int (jI b)), (2, .int (jI w))]) hx hb dX3_set_91 hl (by decide) rfl (fun ls hl => ?_)
          refine lv_iload_n hx hb dX3_set_93 rfl (lv_at hl 6 rfl) ?_
          refine j_iconst hx hb dX3_set_94 ?_
          refine j_icmp_ne (tgt := 103) hx hb (by unfold i32; omega) dX3_set_95 (by decide) (fun c95 => ?_) (fun c95 => ?_)
          · skip
            refine lv_aload_n hx hb dX3_set_103 rfl (lv_at hl 4 rfl) ?_
            refine va_get (D := D) (ci := 3) (v := .ref (q 0)) (C := RX3) (T := TX3) (N := 4) hx hb hts hinX3 hown hK hP 15 rfl rfl 0 (by decide) (hts (.fieldLink RX3 18 "BreakLines" "piece" "LBreakLines$Piece;") (by decide +kernel)) (fun _ h9 => h9) rfl dX3_set_104 ?_
            refine lv_iload hx hb dX3_set_107 (lv_at hl 2 rfl) ?_
            refine lv_iload hx hb dX3_set_109 (lv_at hl 1 rfl) ?_
            refine lv_iload_n hx hb dX3_set_111 rfl (lv_at hl 5 rfl) ?_
            refine j_iconst hx hb dX3_set_112 ?_
            refine j_iadd hx hb dX3_set_113 ?_
            refine j_cVI (As := [.int (jI (fbc1 (lbc1 b))), .int (jI (fbc1 ((lbc1 b) + 1) - 1)), .int (jI (b + 1))]) (rest := []) ⟨hx, hb, hml, hown, hts⟩ (kX0_setAhead l D cI cJ cZ q σ la wa mk hok (fbc1 (lbc1 b)) (fbc1 ((lbc1 b) + 1) - 1) (b + 1) (by omega)) (cwV 3 hts gX3_set_X0_setAhead rfl rfl rfl (by decide +kernel) ⟨Nat.le_of_ble_eq_true rfl, Nat.le_of_ble_eq_true rfl⟩) hK (hP.sub [0, 1, 2, 3, 4] rfl) (va_recv hK hP (ci := 0) (q0 := 0) rfl rfl) rfl hl.1 rfl (Nat.le_of_ble_eq_true rfl) ⟨Nat.zero_le _, Nat.zero_le _⟩ dX3_set_114 ?_
            refine lv_iload hx hb dX3_set_117 (lv_at hl 0 rfl) ?_
            refine j_isub hx hb dX3_set_119 ?_
            exact j_mretI hx hb hr hlocks hS dX3_set_120 (σ, la, wa, mk, lpc1, tpc1, rkc1, odc1, frc1, foc1, exc1, toc1, lnc1, pgc1, fbc1, flc1, plc1, lbc1, knc1) ⟨congrArg jI (setR_1 c8 c19 c36 c53 c95), ⟨hok, hI1⟩, rfl, fun _ _ => hkn1⟩ hP
          · skip
            refine lv_iload hx hb dX3_set_98 (lv_at hl 0 rfl) ?_
            refine lv_goto (tgt := 120) hx hb dX3_set_100 (by decide) ?_
            exact j_mretI hx hb hr hlocks hS dX3_set_120 (σ, la, wa, mk, lpc1, tpc1, rkc1, odc1, frc1, foc1, exc1, toc1, lnc1, pgc1, fbc1, flc1, plc1, lbc1, knc1) ⟨congrArg jI (setR_2 c8 c19 c36 c95), ⟨hok, hI1⟩, rfl, fun _ _ => hkn1⟩ hP
        · skip
          refine lv_iload_n hx hb dX3_set_56 rfl (lv_at hl 0 rfl) ?_
          exact j_mretI hx hb hr hlocks hS dX3_set_57 (σ, la, wa, mk, lpc1, tpc1, rkc1, odc1, frc1, foc1, exc1, toc1, lnc1, pgc1, fbc1, flc1, plc1, lbc1, knc1) ⟨congrArg jI (setR_0 c8 c19 c36 c53), ⟨hok, hI1⟩, rfl, fun _ _ => hkn1⟩ hP
      · skip
        refine j_bipush hx hb dX3_set_39 (by decide) ?_
        exact j_mretI hx hb hr hlocks hS dX3_set_41 (σ, la, wa, mk, lpc1, tpc1, rkc1, odc1, frc1, foc1, exc1, toc1, lnc1, pgc1, fbc1, flc1, plc1, lbc1, knc1) ⟨congrArg jI (setR_n c8 c19 c36), ⟨hok, hI1⟩, rfl, fun _ _ => hkn1⟩ hP
    · skip
      refine j_bipush hx hb dX3_set_22 (by decide) ?_
      exact j_mretI hx hb hr hlocks hS dX3_set_24 (σ, la, wa, mk, lp, tp, rk, od, fr, fo, ex, to, ln, pg, fb, fl, pl, lb, kn) ⟨congrArg jI (setR_w c8 c19), ⟨hok, hI⟩, rfl, fun _ z => absurd z c19⟩ hP
  · skip
    refine j_iconst hx hb dX3_set_11 ?_
    exact j_mretI hx hb hr hlocks hS dX3_set_12 (σ, la, wa, mk, lp, tp, rk, od, fr, fo, ex, to, ln, pg, fb, fl, pl, lb, kn) ⟨congrArg jI (setR_b c8), ⟨hok, hI⟩, rfl, fun z => absurd z c8⟩ hP
set_option maxHeartbeats 4000000 in
set_option maxRecDepth 100000 in
theorem kX3_ends (l : Launch) (D : va_G) (cI cJ cZ : ClassId) (q : Nat → Nat) (σ : Sg) (la wa : Int → Int) (mk : Nat → Int32) (hok : okP σ la wa mk) (lp tp rk od : Int → Int) (fr fo : Int) (ex : Prop) (to ln pg : Int) (fb fl pl lb : Int → Int) (kn : Prop) (hI : clsI σ kn ex to ln pg fb fl pl lb) (b : Int) (hi : i32 b) : MuI l yX3_ends wsX3_ends 6 155 D (tyc cI cJ cZ) (wPc q cI (sNb σ) (sWd σ) (sPp σ) (sCt σ) (sCs σ) mk la wa ++ wSe q cJ lp tp rk od fr fo ++ wSt q cI ex to ln pg fb fl pl lb ++ wBl q kn) [.ref (q 15), .int (jI b)] (fun (r : Int32) (u : CU) => r = jZ (endR σ (cEx u) (cFb u) (cLb u) b) ∧ cInv u ∧ u.1 = σ ∧ ((0 ≤ b ∧ b < sNb σ) → cKn u)) (fun u => wCU q cI cJ u) := by
  intro sz
  refine j_start RX3 rfl (by decide) rfl (Nat.le_of_ble_eq_true rfl) ?_
  intro p e s m below meth c ls hx hb hr hlocks hml hown hts hnm hl ⟨hsz, hP, hK, hD0⟩
  subst hsz
  have hD := hD0.self (sz := s.heap.size)
  generalize hAe : va_A (wPc q cI (sNb σ) (sWd σ) (sPp σ) (sCt σ) (sCs σ) mk la wa ++ wSe q cJ lp tp rk od fr fo ++ wSt q cI ex to ln pg fb fl pl lb ++ wBl q kn) s.heap.size = A at hD ⊢
  have hA : ∀ q : Nat, s.heap.size ≤ q → A q := fun q h => by rw [← hAe]; exact Or.inr h
  refine j_gen (fun H locs hHe hLe => ?_)
  have hS : va_S A s.heap H locs := by rw [hHe, hLe]; exact va_S.rf
  have hP : va_P D vwCl (wPc q cI (sNb σ) (sWd σ) (sPp σ) (sCt σ) (sCs σ) mk la wa ++ wSe q cJ lp tp rk od fr fo ++ wSt q cI ex to ln pg fb fl pl lb ++ wBl q kn) H := by rw [hHe]; exact hP
  have hD : va_D A (wPc q cI (sNb σ) (sWd σ) (sPp σ) (sCt σ) (sCs σ) mk la wa ++ wSe q cJ lp tp rk od fr fo ++ wSt q cI ex to ln pg fb fl pl lb ++ wBl q kn) := hD
  have hl : lv_has ls 2 [(0, .ref (q 15)), (1, .int (jI b))] := hl
  have hinX2 : ∀ w ∈ u_ws RX2 TX2 8, w ∈ wsX3_ends := by decide +kernel
  have hinX3 : ∀ w ∈ u_ws RX3 TX3 4, w ∈ wsX3_ends := by decide +kernel
  have hS0 := hok.1
  have hnb := hS0.1
  have hwd := hS0.2.1
  have hpp := hS0.2.2.1
  have hct := hS0.2.2.2.1
  unfold i32 at hi
  refine lv_aload_n hx hb dX3_ends_0 rfl (lv_at hl 0 rfl) ?_
  refine va_get (D := D) (ci := 3) (v := .ref (q 0)) (C := RX3) (T := TX3) (N := 4) hx hb hts hinX3 hown hK hP 15 rfl rfl 0 (by decide) (hts (.fieldLink RX3 18 "BreakLines" "piece" "LBreakLines$Piece;") (by decide +kernel)) (fun _ h9 => h9) rfl dX3_ends_1 ?_
  refine lv_iload_n hx hb dX3_ends_4 rfl (lv_at hl 1 rfl) ?_
  refine j_cVI (As := [.int (jI b)]) (rest := []) ⟨hx, hb, hml, hown, hts⟩ (kX0_hasBar l D cI cJ cZ q σ la wa mk hok b (by unfold i32; omega)) (cwV 1 hts gX3_ends_X0_hasBar rfl rfl rfl (by decide +kernel) ⟨Nat.le_of_ble_eq_true rfl, Nat.le_of_ble_eq_true rfl⟩) hK (hP.sub [0, 1, 2, 3, 4] rfl) (va_recv hK hP (ci := 0) (q0 := 0) rfl rfl) rfl hl.1 rfl (Nat.le_of_ble_eq_true rfl) ⟨Nat.zero_le _, Nat.zero_le _⟩ dX3_ends_5 ?_
  refine j_ifneZ (tgt := 13) hx hb dX3_ends_8 (by decide) (fun c8 => ?_) (fun c8 => ?_)
  · skip
    refine lv_aload_n hx hb dX3_ends_13 rfl (lv_at hl 0 rfl) ?_
    refine j_mVV (As := []) (rest := []) ⟨hx, hb, hml, hown, hts⟩ (kX3_findBest l D cI cJ cZ q σ la wa mk hok lp tp rk od fr fo ex to ln pg fb fl pl lb kn hI) (cwV 0 hts gX3_ends_X3_findBest rfl rfl rfl (by decide +kernel) ⟨Nat.le_of_ble_eq_true rfl, Nat.le_of_ble_eq_true rfl⟩) hK hP hD hS hA (va_recv hK hP (ci := 3) (q0 := 15) rfl rfl) rfl hl.1 rfl (Nat.le_of_ble_eq_true rfl) ⟨Nat.zero_le _, Nat.zero_le _⟩ dX3_ends_14 [0, 1, 2, 3, 4, 5, 6, 7, 8, 9, 10, 11, 12, 13, 14, 15] [] [0, 1, 2, 3, 4, 5, 6, 7, 8, 9, 10, 11, 12, 13, 14, 15] rfl (by decide) (wr := ([] : va_W)) rfl (by decide) (by decide) (fun _ => rfl) (fun u => wPc q cI (sNb σ) (sWd σ) (sPp σ) (sCt σ) (sCs σ) mk la wa ++ wSe q cJ u.1 u.2.1 u.2.2.1 u.2.2.2.1 u.2.2.2.2.1 u.2.2.2.2.2.1 ++ wSt q cI u.2.2.2.2.2.2.1 u.2.2.2.2.2.2.2.1 u.2.2.2.2.2.2.2.2.1 u.2.2.2.2.2.2.2.2.2.1 u.2.2.2.2.2.2.2.2.2.2.1 u.2.2.2.2.2.2.2.2.2.2.2.1 u.2.2.2.2.2.2.2.2.2.2.2.2.1 u.2.2.2.2.2.2.2.2.2.2.2.2.2.1 ++ wBl q u.2.2.2.2.2.2.2.2.2.2.2.2.2.2) (fun _ => rfl) (fun _ => rfl) (fun ⟨lpc1, tpc1, rkc1, odc1, frc1, foc1, exc1, toc1, lnc1, pgc1, fbc1, flc1, plc1, lbc1, knc1⟩ H locs hu1 hP hD hS => ?_)
    have hkn1 : knc1 := hu1.1
    have hI1 : clsI σ knc1 exc1 toc1 lnc1 pgc1 fbc1 flc1 plc1 lbc1 := hu1.2
    have hbs1 := bstS_of hS0 (hI1.2 hkn1)
    have hP : va_P D vwCl (wPc q cI (sNb σ) (sWd σ) (sPp σ) (sCt σ) (sCs σ) mk la wa ++ wSe q cJ lpc1 tpc1 rkc1 odc1 frc1 foc1 ++ wSt q cI exc1 toc1 lnc1 pgc1 fbc1 flc1 plc1 lbc1 ++ wBl q knc1) H := hP
    have hD : va_D A (wPc q cI (sNb σ) (sWd σ) (sPp σ) (sCt σ) (sCs σ) mk la wa ++ wSe q cJ lpc1 tpc1 rkc1 odc1 frc1 foc1 ++ wSt q cI exc1 toc1 lnc1 pgc1 fbc1 flc1 plc1 lbc1 ++ wBl q knc1) := hD
    refine lv_aload_n hx hb dX3_ends_17 rfl (lv_at hl 0 rfl) ?_
    refine va_get (D := D) (ci := 3) (v := .ref (q 10)) (C := RX3) (T := TX3) (N := 4) hx hb hts hinX3 hown hK hP 15 rfl rfl 2 (by decide) (hts (.fieldLink RX3 34 "BreakLines" "best" "LBreakLines$Setting;") (by decide +kernel)) (fun _ h9 => h9) rfl dX3_ends_18 ?_
    refine va_get (D := D) (ci := 2) (v := .int (jZ exc1)) (C := RX2) (T := TX2) (N := 8) hx hb hts hinX2 hown hK hP 10 rfl rfl 0 (by decide) (hts (.fieldLink RX3 90 "BreakLines$Setting" "exists" "Z") (by decide +kernel)) (fun _ h9 => h9) rfl dX3_ends_21 ?_
    refine j_ifeqZ (tgt := 51) hx hb dX3_ends_24 (by decide) (fun c24 => ?_) (fun c24 => ?_)
    · skip
      refine j_iconst hx hb dX3_ends_51 ?_
      exact j_mretZ hx hb hr (by decide) hlocks hS dX3_ends_52 (σ, la, wa, mk, lpc1, tpc1, rkc1, odc1, frc1, foc1, exc1, toc1, lnc1, pgc1, fbc1, flc1, plc1, lbc1, knc1) ⟨(jZ_f (fun z => by first | exact c44 z.2.2 | exact c24 z.2.1)).symm, ⟨hok, hI1⟩, rfl, fun _ => hkn1⟩ hP
    · skip
      obtain ⟨s0, hb0, hto0, hst0⟩ := (hbs1.resolve_left (fun w => w.1 c24)).2
      have hln0 := setOK_ln hst0 (by omega)
      have hlst := isBest_last hb0 (by omega)
      have hrb := row_bar (n := sNb σ) (by omega) hst0.2.2.1 (setOK_F hst0) hlst.1 (b := b) (by omega) (by omega)
      have hrow := row_at (n := sNb σ) (by omega) hst0.2.2.1 (setOK_F hst0) hrb.1.1 hrb.1.2
      have hlb := (hst0.2.2.2.2 b (by omega) (by omega)).1
      rw [← hlb] at hrb hrow
      have hcn := cntB (fun b => b ∈ endL s0) (a := b) (by omega)
      rw [← hlb] at hcn
      refine lv_aload_n hx hb dX3_ends_27 rfl (lv_at hl 0 rfl) ?_
      refine va_get (D := D) (ci := 3) (v := .ref (q 10)) (C := RX3) (T := TX3) (N := 4) hx hb hts hinX3 hown hK hP 15 rfl rfl 2 (by decide) (hts (.fieldLink RX3 34 "BreakLines" "best" "LBreakLines$Setting;") (by decide +kernel)) (fun _ h9 => h9) rfl dX3_ends_28 ?_
      refine lv_aload_n hx hb dX3_ends_31 rfl (lv_at hl 0 rfl) ?_
      refine va_get (D := D) (ci := 3) (v := .ref (q 10)) (C := RX3) (T := TX3) (N := 4) hx hb hts hinX3 hown hK hP 15 rfl rfl 2 (by decide) (hts (.fieldLink RX3 34 "BreakLines" "best" "LBreakLines$Setting;") (by decide +kernel)) (fun _ h9 => h9) rfl dX3_ends_32 ?_
      refine va_get (D := D) (ci := 2) (v := .ref (q 14)) (C := RX2) (T := TX2) (N := 8) hx hb hts hinX2 hown hK hP 10 rfl rfl 7 (by decide) (hts (.fieldLink RX3 127 "BreakLines$Setting" "lineOfBar" "[I") (by decide +kernel)) (fun _ h9 => h9) rfl dX3_ends_35 ?_
      refine lv_iload_n hx hb dX3_ends_38 rfl (lv_at hl 1 rfl) ?_
      refine j_iald hx hb hK hP 14 0 rfl rfl (i := b) (by omega) (by decide) dX3_ends_39 ?_
      refine j_cVI (As := [.int (jI (lbc1 b))]) (rest := []) ⟨hx, hb, hml, hown, hts⟩ (kX2_lastBar l D cI cJ cZ q exc1 toc1 lnc1 pgc1 fbc1 flc1 plc1 lbc1 (lbc1 b) (by omega)) (cwV 1 hts gX3_ends_X2_lastBar rfl rfl rfl (by decide +kernel) ⟨Nat.le_of_ble_eq_true rfl, Nat.le_of_ble_eq_true rfl⟩) hK (hP.sub [10, 11, 12, 13, 14] rfl) (va_recv hK hP (ci := 2) (q0 := 10) rfl rfl) rfl hl.1 rfl (Nat.le_of_ble_eq_true rfl) ⟨Nat.zero_le _, Nat.zero_le _⟩ dX3_ends_40 ?_
      refine lv_iload_n hx hb dX3_ends_43 rfl (lv_at hl 1 rfl) ?_
      refine j_icmp_ne (tgt := 51) hx hb (by unfold i32; omega) dX3_ends_44 (by decide) (fun c44 => ?_) (fun c44 => ?_)
      · skip
        refine j_iconst hx hb dX3_ends_51 ?_
        exact j_mretZ hx hb hr (by decide) hlocks hS dX3_ends_52 (σ, la, wa, mk, lpc1, tpc1, rkc1, odc1, frc1, foc1, exc1, toc1, lnc1, pgc1, fbc1, flc1, plc1, lbc1, knc1) ⟨(jZ_f (fun z => by first | exact c44 z.2.2 | exact c24 z.2.1)).symm, ⟨hok, hI1⟩, rfl, fun _ => hkn1⟩ hP
      · skip
        refine j_iconst hx hb dX3_ends_47 ?_
        refine lv_goto (tgt := 52) hx hb dX3_ends_48 (by decide) ?_
        exact j_mretZ hx hb hr (by decide) hlocks hS dX3_ends_52 (σ, la, wa, mk, lpc1, tpc1, rkc1, odc1, frc1, foc1, exc1, toc1, lnc1, pgc1, fbc1, flc1, plc1, lbc1, knc1) ⟨(jZ_t ⟨c8, c24, c44⟩).symm, ⟨hok, hI1⟩, rfl, fun _ => hkn1⟩ hP
  · skip
    refine j_iconst hx hb dX3_ends_11 ?_
    exact j_mretZ hx hb hr (by decide) hlocks hS dX3_ends_12 (σ, la, wa, mk, lp, tp, rk, od, fr, fo, ex, to, ln, pg, fb, fl, pl, lb, kn) ⟨(jZ_f (fun z => c8 z.1)).symm, ⟨hok, hI⟩, rfl, fun z => absurd z c8⟩ hP
set_option maxHeartbeats 4000000 in
set_option maxRecDepth 100000 in
theorem kX3_badness (l : Launch) (D : va_G) (cI cJ cZ : ClassId) (q : Nat → Nat) (σ : Sg) (la wa : Int → Int) (mk : Nat → Int32) (hok : okP σ la wa mk) (lp tp rk od : Int → Int) (fr fo : Int) (ex : Prop) (to ln pg : Int) (fb fl pl lb : Int → Int) (kn : Prop) (hI : clsI σ kn ex to ln pg fb fl pl lb) (a b : Int) (hi : i32 a ∧ i32 b) : MuL l yX3_badness wsX3_badness 3 69 D (tyc cI cJ cZ) (wPc q cI (sNb σ) (sWd σ) (sPp σ) (sCt σ) (sCs σ) mk la wa ++ wSe q cJ lp tp rk od fr fo ++ wSt q cI ex to ln pg fb fl pl lb ++ wBl q kn) [.ref (q 15), .int (jI a), .int (jI b)] (fun (r : Int64) (u : CU) => r = jL (badR σ a b) ∧ cInv u ∧ u.1 = σ) (fun u => wCU q cI cJ u) := by
  intro sz
  refine j_start RX3 rfl (by decide) rfl (Nat.le_of_ble_eq_true rfl) ?_
  intro p e s m below meth c ls hx hb hr hlocks hml hown hts hnm hl ⟨hsz, hP, hK, hD0⟩
  subst hsz
  have hD := hD0.self (sz := s.heap.size)
  generalize hAe : va_A (wPc q cI (sNb σ) (sWd σ) (sPp σ) (sCt σ) (sCs σ) mk la wa ++ wSe q cJ lp tp rk od fr fo ++ wSt q cI ex to ln pg fb fl pl lb ++ wBl q kn) s.heap.size = A at hD ⊢
  have hA : ∀ q : Nat, s.heap.size ≤ q → A q := fun q h => by rw [← hAe]; exact Or.inr h
  refine j_gen (fun H locs hHe hLe => ?_)
  have hS : va_S A s.heap H locs := by rw [hHe, hLe]; exact va_S.rf
  have hP : va_P D vwCl (wPc q cI (sNb σ) (sWd σ) (sPp σ) (sCt σ) (sCs σ) mk la wa ++ wSe q cJ lp tp rk od fr fo ++ wSt q cI ex to ln pg fb fl pl lb ++ wBl q kn) H := by rw [hHe]; exact hP
  have hD : va_D A (wPc q cI (sNb σ) (sWd σ) (sPp σ) (sCt σ) (sCs σ) mk la wa ++ wSe q cJ lp tp rk od fr fo ++ wSt q cI ex to ln pg fb fl pl lb ++ wBl q kn) := hD
  have hl : lv_has ls 3 [(0, .ref (q 15)), (1, .int (jI a)), (2, .int (jI b))] := hl
  have hinX3 : ∀ w ∈ u_ws RX3 TX3 4, w ∈ wsX3_badness := by decide +kernel
  have hS0 := hok.1
  have hnb := hS0.1
  have hwd := hS0.2.1
  have hpp := hS0.2.2.1
  have hct := hS0.2.2.2.1
  unfold i32 at hi
  refine lv_aload_n hx hb dX3_badness_0 rfl (lv_at hl 0 rfl) ?_
  refine va_get (D := D) (ci := 3) (v := .ref (q 0)) (C := RX3) (T := TX3) (N := 4) hx hb hts hinX3 hown hK hP 15 rfl rfl 0 (by decide) (hts (.fieldLink RX3 18 "BreakLines" "piece" "LBreakLines$Piece;") (by decide +kernel)) (fun _ h9 => h9) rfl dX3_badness_1 ?_
  refine lv_iload_n hx hb dX3_badness_4 rfl (lv_at hl 1 rfl) ?_
  refine j_cVI (As := [.int (jI a)]) (rest := []) ⟨hx, hb, hml, hown, hts⟩ (kX0_hasBar l D cI cJ cZ q σ la wa mk hok a (by unfold i32; omega)) (cwV 1 hts gX3_badness_X0_hasBar rfl rfl rfl (by decide +kernel) ⟨Nat.le_of_ble_eq_true rfl, Nat.le_of_ble_eq_true rfl⟩) hK (hP.sub [0, 1, 2, 3, 4] rfl) (va_recv hK hP (ci := 0) (q0 := 0) rfl rfl) rfl hl.1 rfl (Nat.le_of_ble_eq_true rfl) ⟨Nat.zero_le _, Nat.zero_le _⟩ dX3_badness_5 ?_
  refine j_ifeqZ (tgt := 27) hx hb dX3_badness_8 (by decide) (fun c8 => ?_) (fun c8 => ?_)
  · skip
    refine lv_ldc2 (v := jL (-1)) hx hb hown (hts (.constantLong RX3 103 (-1)) (by decide +kernel)) dX3_badness_27 ?_
    exact j_mretL hx hb hr hlocks hS dX3_badness_30 (σ, la, wa, mk, lp, tp, rk, od, fr, fo, ex, to, ln, pg, fb, fl, pl, lb, kn) ⟨congrArg jL (if_neg (by omega)).symm, ⟨hok, hI⟩, rfl⟩ hP
  · skip
    refine lv_aload_n hx hb dX3_badness_11 rfl (lv_at hl 0 rfl) ?_
    refine va_get (D := D) (ci := 3) (v := .ref (q 0)) (C := RX3) (T := TX3) (N := 4) hx hb hts hinX3 hown hK hP 15 rfl rfl 0 (by decide) (hts (.fieldLink RX3 18 "BreakLines" "piece" "LBreakLines$Piece;") (by decide +kernel)) (fun _ h9 => h9) rfl dX3_badness_12 ?_
    refine lv_iload_n hx hb dX3_badness_15 rfl (lv_at hl 2 rfl) ?_
    refine j_cVI (As := [.int (jI b)]) (rest := []) ⟨hx, hb, hml, hown, hts⟩ (kX0_hasBar l D cI cJ cZ q σ la wa mk hok b (by unfold i32; omega)) (cwV 1 hts gX3_badness_X0_hasBar rfl rfl rfl (by decide +kernel) ⟨Nat.le_of_ble_eq_true rfl, Nat.le_of_ble_eq_true rfl⟩) hK (hP.sub [0, 1, 2, 3, 4] rfl) (va_recv hK hP (ci := 0) (q0 := 0) rfl rfl) rfl hl.1 rfl (Nat.le_of_ble_eq_true rfl) ⟨Nat.zero_le _, Nat.zero_le _⟩ dX3_badness_16 ?_
    refine j_ifeqZ (tgt := 27) hx hb dX3_badness_19 (by decide) (fun c19 => ?_) (fun c19 => ?_)
    · skip
      refine lv_ldc2 (v := jL (-1)) hx hb hown (hts (.constantLong RX3 103 (-1)) (by decide +kernel)) dX3_badness_27 ?_
      exact j_mretL hx hb hr hlocks hS dX3_badness_30 (σ, la, wa, mk, lp, tp, rk, od, fr, fo, ex, to, ln, pg, fb, fl, pl, lb, kn) ⟨congrArg jL (if_neg (by omega)).symm, ⟨hok, hI⟩, rfl⟩ hP
    · skip
      refine lv_iload_n hx hb dX3_badness_22 rfl (lv_at hl 2 rfl) ?_
      refine lv_iload_n hx hb dX3_badness_23 rfl (lv_at hl 1 rfl) ?_
      refine j_icmp_ge (tgt := 31) hx hb (by unfold i32; omega) dX3_badness_24 (by decide) (fun c24 => ?_) (fun c24 => ?_)
      · skip
        refine lv_aload_n hx hb dX3_badness_31 rfl (lv_at hl 0 rfl) ?_
        refine va_get (D := D) (ci := 3) (v := .ref (q 0)) (C := RX3) (T := TX3) (N := 4) hx hb hts hinX3 hown hK hP 15 rfl rfl 0 (by decide) (hts (.fieldLink RX3 18 "BreakLines" "piece" "LBreakLines$Piece;") (by decide +kernel)) (fun _ h9 => h9) rfl dX3_badness_32 ?_
        refine lv_iload_n hx hb dX3_badness_35 rfl (lv_at hl 1 rfl) ?_
        refine lv_iload_n hx hb dX3_badness_36 rfl (lv_at hl 2 rfl) ?_
        refine j_cVL (As := [.int (jI a), .int (jI b)]) (rest := []) ⟨hx, hb, hml, hown, hts⟩ (kX0_linePrice l D cI cJ cZ q σ la wa mk hok a b (by omega)) (cwV 2 hts gX3_badness_X0_linePrice rfl rfl rfl (by decide +kernel) ⟨Nat.le_of_ble_eq_true rfl, Nat.le_of_ble_eq_true rfl⟩) hK (hP.sub [0, 1, 2, 3, 4] rfl) (va_recv hK hP (ci := 0) (q0 := 0) rfl rfl) rfl hl.1 rfl (Nat.le_of_ble_eq_true rfl) ⟨Nat.zero_le _, Nat.zero_le _⟩ dX3_badness_37 ?_
        exact j_mretL hx hb hr hlocks hS dX3_badness_40 (σ, la, wa, mk, lp, tp, rk, od, fr, fo, ex, to, ln, pg, fb, fl, pl, lb, kn) ⟨congrArg jL (if_pos (by omega)).symm, ⟨hok, hI⟩, rfl⟩ hP
      · skip
        refine lv_ldc2 (v := jL (-1)) hx hb hown (hts (.constantLong RX3 103 (-1)) (by decide +kernel)) dX3_badness_27 ?_
        exact j_mretL hx hb hr hlocks hS dX3_badness_30 (σ, la, wa, mk, lp, tp, rk, od, fr, fo, ex, to, ln, pg, fb, fl, pl, lb, kn) ⟨congrArg jL (if_neg (by omega)).symm, ⟨hok, hI⟩, rfl⟩ hP
set_option maxHeartbeats 4000000 in
set_option maxRecDepth 100000 in
theorem kX3_would (l : Launch) (D : va_G) (cI cJ cZ : ClassId) (q : Nat → Nat) (σ : Sg) (la wa : Int → Int) (mk : Nat → Int32) (hok : okP σ la wa mk) (lp tp rk od : Int → Int) (fr fo : Int) (ex : Prop) (to ln pg : Int) (fb fl pl lb : Int → Int) (kn : Prop) (hI : clsI σ kn ex to ln pg fb fl pl lb) (a m0 : Int) (hi : i32 a ∧ i32 m0) : MuL l yX3_would wsX3_would 5 135 D (tyc cI cJ cZ) (wPc q cI (sNb σ) (sWd σ) (sPp σ) (sCt σ) (sCs σ) mk la wa ++ wSe q cJ lp tp rk od fr fo ++ wSt q cI ex to ln pg fb fl pl lb ++ wBl q kn) [.ref (q 15), .int (jI a), .int (jI m0)] (fun (r : Int64) (u : CU) => wldP σ a m0 r ∧ cInv u ∧ u.1 = σ) (fun u => wCU q cI cJ u) := by
  intro sz
  refine j_start RX3 rfl (by decide) rfl (Nat.le_of_ble_eq_true rfl) ?_
  intro p e s m below meth c ls hx hb hr hlocks hml hown hts hnm hl ⟨hsz, hP, hK, hD0⟩
  subst hsz
  have hD := hD0.self (sz := s.heap.size)
  generalize hAe : va_A (wPc q cI (sNb σ) (sWd σ) (sPp σ) (sCt σ) (sCs σ) mk la wa ++ wSe q cJ lp tp rk od fr fo ++ wSt q cI ex to ln pg fb fl pl lb ++ wBl q kn) s.heap.size = A at hD ⊢
  have hA : ∀ q : Nat, s.heap.size ≤ q → A q := fun q h => by rw [← hAe]; exact Or.inr h
  refine j_gen (fun H locs hHe hLe => ?_)
  have hS : va_S A s.heap H locs := by rw [hHe, hLe]; exact va_S.rf
  have hP : va_P D vwCl (wPc q cI (sNb σ) (sWd σ) (sPp σ) (sCt σ) (sCs σ) mk la wa ++ wSe q cJ lp tp rk od fr fo ++ wSt q cI ex to ln pg fb fl pl lb ++ wBl q kn) H := by rw [hHe]; exact hP
  have hD : va_D A (wPc q cI (sNb σ) (sWd σ) (sPp σ) (sCt σ) (sCs σ) mk la wa ++ wSe q cJ lp tp rk od fr fo ++ wSt q cI ex to ln pg fb fl pl lb ++ wBl q kn) := hD
  have hl : lv_has ls 4 [(0, .ref (q 15)), (1, .int (jI a)), (2, .int (jI m0))] := hl
  have hinX3 : ∀ w ∈ u_ws RX3 TX3 4, w ∈ wsX3_would := by decide +kernel
  have hS0 := hok.1
  have hnb := hS0.1
  have hwd := hS0.2.1
  have hpp := hS0.2.2.1
  have hct := hS0.2.2.2.1
  unfold i32 at hi
  refine lv_aload_n hx hb dX3_would_0 rfl (lv_at hl 0 rfl) ?_
  refine va_get (D := D) (ci := 3) (v := .ref (q 0)) (C := RX3) (T := TX3) (N := 4) hx hb hts hinX3 hown hK hP 15 rfl rfl 0 (by decide) (hts (.fieldLink RX3 18 "BreakLines" "piece" "LBreakLines$Piece;") (by decide +kernel)) (fun _ h9 => h9) rfl dX3_would_1 ?_
  refine lv_iload_n hx hb dX3_would_4 rfl (lv_at hl 1 rfl) ?_
  refine j_cVI (As := [.int (jI a)]) (rest := []) ⟨hx, hb, hml, hown, hts⟩ (kX0_hasBar l D cI cJ cZ q σ la wa mk hok a (by unfold i32; omega)) (cwV 1 hts gX3_would_X0_hasBar rfl rfl rfl (by decide +kernel) ⟨Nat.le_of_ble_eq_true rfl, Nat.le_of_ble_eq_true rfl⟩) hK (hP.sub [0, 1, 2, 3, 4] rfl) (va_recv hK hP (ci := 0) (q0 := 0) rfl rfl) rfl hl.1 rfl (Nat.le_of_ble_eq_true rfl) ⟨Nat.zero_le _, Nat.zero_le _⟩ dX3_would_5 ?_
  refine j_ifeqZ (tgt := 20) hx hb dX3_would_8 (by decide) (fun c8 => ?_) (fun c8 => ?_)
  · skip
    refine lv_ldc2 (v := jL (-1)) hx hb hown (hts (.constantLong RX3 103 (-1)) (by decide +kernel)) dX3_would_20 ?_
    exact j_mretL hx hb hr hlocks hS dX3_would_23 (σ, la, wa, mk, lp, tp, rk, od, fr, fo, ex, to, ln, pg, fb, fl, pl, lb, kn) ⟨Or.inr ⟨by omega, rfl⟩, ⟨hok, hI⟩, rfl⟩ hP
  · skip
    refine lv_iload_n hx hb dX3_would_11 rfl (lv_at hl 2 rfl) ?_
    refine j_iconst hx hb dX3_would_12 ?_
    refine j_iconst hx hb dX3_would_13 ?_
    refine j_cSI (As := [.int (jI m0), .int (jI 0), .int (jI 2)]) (rest := []) ⟨hx, hb, hml, hown, hts⟩ (kX3_isWithin l D cI cJ cZ m0 0 2 (by unfold i32; omega)) (va_cwS 3 hts gX3_would_X3_isWithin rfl rfl rfl (by decide +kernel) ⟨Nat.le_of_ble_eq_true rfl, Nat.le_of_ble_eq_true rfl⟩) hK (hP.sub [] rfl) rfl hl.1 rfl (Nat.le_of_ble_eq_true rfl) ⟨Nat.zero_le _, Nat.zero_le _⟩ dX3_would_14 ?_
    refine j_ifneZ (tgt := 24) hx hb dX3_would_17 (by decide) (fun c17 => ?_) (fun c17 => ?_)
    · skip
      refine lv_aload_n hx hb dX3_would_24 rfl (lv_at hl 0 rfl) ?_
      refine va_get (D := D) (ci := 3) (v := .ref (q 0)) (C := RX3) (T := TX3) (N := 4) hx hb hts hinX3 hown hK hP 15 rfl rfl 0 (by decide) (hts (.fieldLink RX3 18 "BreakLines" "piece" "LBreakLines$Piece;") (by decide +kernel)) (fun _ h9 => h9) rfl dX3_would_25 ?_
      refine lv_iload_n hx hb dX3_would_28 rfl (lv_at hl 1 rfl) ?_
      refine lv_iload_n hx hb dX3_would_29 rfl (lv_at hl 2 rfl) ?_
      refine j_cVI (As := [.int (jI a), .int (jI m0)]) (rest := []) ⟨hx, hb, hml, hown, hts⟩ (kX0_isMarked l D cI cJ cZ q σ la wa mk hok a m0 (by omega)) (cwV 2 hts gX3_would_X0_isMarked rfl rfl rfl (by decide +kernel) ⟨Nat.le_of_ble_eq_true rfl, Nat.le_of_ble_eq_true rfl⟩) hK (hP.sub [0, 1, 2, 3, 4] rfl) (va_recv hK hP (ci := 0) (q0 := 0) rfl rfl) rfl hl.1 rfl (Nat.le_of_ble_eq_true rfl) ⟨Nat.zero_le _, Nat.zero_le _⟩ dX3_would_30 ?_
      refine lv_istore_n (lv' := [(3, .int (jZ (sM σ (3 * a + m0) = true))), (0, .ref (q 15)), (1, .int (jI a)), (2, .int (jI m0))]) hx hb dX3_would_33 rfl hl (by decide) rfl (fun ls hl => ?_)
      refine lv_aload_n hx hb dX3_would_34 rfl (lv_at hl 1 rfl) ?_
      refine va_get (D := D) (ci := 3) (v := .ref (q 0)) (C := RX3) (T := TX3) (N := 4) hx hb hts hinX3 hown hK hP 15 rfl rfl 0 (by decide) (hts (.fieldLink RX3 18 "BreakLines" "piece" "LBreakLines$Piece;") (by decide +kernel)) (fun _ h9 => h9) rfl dX3_would_35 ?_
      refine lv_iload_n hx hb dX3_would_38 rfl (lv_at hl 2 rfl) ?_
      refine lv_iload_n hx hb dX3_would_39 rfl (lv_at hl 3 rfl) ?_
      refine j_iconst hx hb dX3_would_40 ?_
      refine j_topi (y := (jZ (true = true))) ((jZ_t rfl).symm) ?_
      refine j_mVV (As := [.int (jI a), .int (jI m0), .int (jZ (true = true))]) (rest := []) ⟨hx, hb, hml, hown, hts⟩ (kX0_putMark l D cI cJ cZ q σ la wa mk hok a m0 true (by omega)) (cwV 3 hts gX3_would_X0_putMark rfl rfl rfl (by decide +kernel) ⟨Nat.le_of_ble_eq_true rfl, Nat.le_of_ble_eq_true rfl⟩) hK hP hD hS hA (va_recv hK hP (ci := 0) (q0 := 0) rfl rfl) rfl hl.1 rfl (Nat.le_of_ble_eq_true rfl) ⟨Nat.zero_le _, Nat.zero_le _⟩ dX3_would_41 [0, 1, 2, 3, 4] [5, 6, 7, 8, 9, 10, 11, 12, 13, 14, 15] [11, 12, 13, 14, 15, 0, 1, 2, 3, 4, 5, 6, 7, 8, 9, 10] rfl (by decide) (wr := (wSe q cJ lp tp rk od fr fo ++ wSt q cI ex to ln pg fb fl pl lb ++ wBl q kn)) rfl (by decide) (by decide) (fun _ => rfl) (fun u => wPc q cI (sNb σ) (sWd σ) (sPp σ) (sCt σ) (sCs σ) (upd mk (Int.toNat m0) u) la wa ++ wSe q cJ lp tp rk od fr fo ++ wSt q cI ex to ln pg fb fl pl lb ++ wBl q kn) (fun _ => rfl) (fun _ => rfl) (fun mkc1 H locs hu1 hP hD hS => ?_)
      have hok1 := okP_mk hok (by omega) hu1
      have hP : va_P D vwCl (wPc q cI (sNb σ) (sWd σ) (sPp σ) (sCt σ) (sCs σ) (upd mk (Int.toNat m0) mkc1) la wa ++ wSe q cJ lp tp rk od fr fo ++ wSt q cI ex to ln pg fb fl pl lb ++ wBl q kn) H := hP
      have hD : va_D A (wPc q cI (sNb σ) (sWd σ) (sPp σ) (sCt σ) (sCs σ) (upd mk (Int.toNat m0) mkc1) la wa ++ wSe q cJ lp tp rk od fr fo ++ wSt q cI ex to ln pg fb fl pl lb ++ wBl q kn) := hD
      refine lv_aload_n hx hb dX3_would_44 rfl (lv_at hl 1 rfl) ?_
      refine va_get (D := D) (ci := 3) (v := .ref (q 5)) (C := RX3) (T := TX3) (N := 4) hx hb hts hinX3 hown hK hP 15 rfl rfl 1 (by decide) (hts (.fieldLink RX3 27 "BreakLines" "search" "LBreakLines$Search;") (by decide +kernel)) (fun _ h9 => h9) rfl dX3_would_45 ?_
      refine j_mVV (As := []) (rest := []) ⟨hx, hb, hml, hown, hts⟩ (kX1_run l D cI cJ cZ q (upMk σ a m0 true) la wa (upd mk (Int.toNat m0) mkc1) hok1 lp tp rk od fr fo) (cwV 0 hts gX3_would_X1_run rfl rfl rfl (by decide +kernel) ⟨Nat.le_of_ble_eq_true rfl, Nat.le_of_ble_eq_true rfl⟩) hK hP hD hS hA (va_recv hK hP (ci := 1) (q0 := 5) rfl rfl) rfl hl.1 rfl (Nat.le_of_ble_eq_true rfl) ⟨Nat.zero_le _, Nat.zero_le _⟩ dX3_would_48 [0, 1, 2, 3, 4, 5, 6, 7, 8, 9] [10, 11, 12, 13, 14, 15] [6, 7, 8, 9, 10, 11, 12, 13, 14, 15, 0, 1, 2, 3, 4, 5] rfl (by decide) (wr := (wSt q cI ex to ln pg fb fl pl lb ++ wBl q kn)) rfl (by decide) (by decide) (fun _ => rfl) (fun u => wPc q cI (sNb σ) (sWd σ) (sPp σ) (sCt σ) (sCs σ) (upd mk (Int.toNat m0) mkc1) la wa ++ wSe q cJ u.1 u.2.1 u.2.2.1 u.2.2.2.1 u.2.2.2.2.1 u.2.2.2.2.2 ++ wSt q cI ex to ln pg fb fl pl lb ++ wBl q kn) (fun _ => rfl) (fun _ => rfl) (fun ⟨lpc2, tpc2, rkc2, odc2, frc2, foc2⟩ H locs hu2 hP hD hS => ?_)
      have hP : va_P D vwCl (wPc q cI (sNb σ) (sWd σ) (sPp σ) (sCt σ) (sCs σ) (upd mk (Int.toNat m0) mkc1) la wa ++ wSe q cJ lpc2 tpc2 rkc2 odc2 frc2 foc2 ++ wSt q cI ex to ln pg fb fl pl lb ++ wBl q kn) H := hP
      have hD : va_D A (wPc q cI (sNb σ) (sWd σ) (sPp σ) (sCt σ) (sCs σ) (upd mk (Int.toNat m0) mkc1) la wa ++ wSe q cJ lpc2 tpc2 rkc2 odc2 frc2 foc2 ++ wSt q cI ex to ln pg fb fl pl lb ++ wBl q kn) := hD
      refine lv_aload_n hx hb dX3_would_51 rfl (lv_at hl 1 rfl) ?_
      refine va_get (D := D) (ci := 3) (v := .ref (q 0)) (C := RX3) (T := TX3) (N := 4) hx hb hts hinX3 hown hK hP 15 rfl rfl 0 (by decide) (hts (.fieldLink RX3 18 "BreakLines" "piece" "LBreakLines$Piece;") (by decide +kernel)) (fun _ h9 => h9) rfl dX3_would_52 ?_
      refine lv_iload_n hx hb dX3_would_55 rfl (lv_at hl 2 rfl) ?_
      refine lv_iload_n hx hb dX3_would_56 rfl (lv_at hl 3 rfl) ?_
      refine lv_iload_n hx hb dX3_would_57 rfl (lv_at hl 0 rfl) ?_
      refine j_mVV (As := [.int (jI a), .int (jI m0), .int (jZ (sM σ (3 * a + m0) = true))]) (rest := []) ⟨hx, hb, hml, hown, hts⟩ (kX0_putMark l D cI cJ cZ q (upMk σ a m0 true) la wa (upd mk (Int.toNat m0) mkc1) hok1 a m0 (sM σ (3 * a + m0)) (by omega)) (cwV 3 hts gX3_would_X0_putMark rfl rfl rfl (by decide +kernel) ⟨Nat.le_of_ble_eq_true rfl, Nat.le_of_ble_eq_true rfl⟩) hK hP hD hS hA (va_recv hK hP (ci := 0) (q0 := 0) rfl rfl) rfl hl.1 rfl (Nat.le_of_ble_eq_true rfl) ⟨Nat.zero_le _, Nat.zero_le _⟩ dX3_would_58 [0, 1, 2, 3, 4] [5, 6, 7, 8, 9, 10, 11, 12, 13, 14, 15] [11, 12, 13, 14, 15, 0, 1, 2, 3, 4, 5, 6, 7, 8, 9, 10] rfl (by decide) (wr := (wSe q cJ lpc2 tpc2 rkc2 odc2 frc2 foc2 ++ wSt q cI ex to ln pg fb fl pl lb ++ wBl q kn)) rfl (by decide) (by decide) (fun _ => rfl) (fun u => wPc q cI (sNb σ) (sWd σ) (sPp σ) (sCt σ) (sCs σ) (upd (upd mk (Int.toNat m0) mkc1) (Int.toNat m0) u) la wa ++ wSe q cJ lpc2 tpc2 rkc2 odc2 frc2 foc2 ++ wSt q cI ex to ln pg fb fl pl lb ++ wBl q kn) (fun _ => rfl) (fun _ => rfl) (fun mkc3 H locs hu3 hP hD hS => ?_)
      have hok3 := okP_back hok (by omega) hu1 hu3
      have hP : va_P D vwCl (wPc q cI (sNb σ) (sWd σ) (sPp σ) (sCt σ) (sCs σ) (upd (upd mk (Int.toNat m0) mkc1) (Int.toNat m0) mkc3) la wa ++ wSe q cJ lpc2 tpc2 rkc2 odc2 frc2 foc2 ++ wSt q cI ex to ln pg fb fl pl lb ++ wBl q kn) H := hP
      have hD : va_D A (wPc q cI (sNb σ) (sWd σ) (sPp σ) (sCt σ) (sCs σ) (upd (upd mk (Int.toNat m0) mkc1) (Int.toNat m0) mkc3) la wa ++ wSe q cJ lpc2 tpc2 rkc2 odc2 frc2 foc2 ++ wSt q cI ex to ln pg fb fl pl lb ++ wBl q kn) := hD
      refine lv_aload_n hx hb dX3_would_61 rfl (lv_at hl 1 rfl) ?_
      refine va_get (D := D) (ci := 3) (v := .ref (q 5)) (C := RX3) (T := TX3) (N := 4) hx hb hts hinX3 hown hK hP 15 rfl rfl 1 (by decide) (hts (.fieldLink RX3 27 "BreakLines" "search" "LBreakLines$Search;") (by decide +kernel)) (fun _ h9 => h9) rfl dX3_would_62 ?_
      refine j_cVL (As := []) (rest := []) ⟨hx, hb, hml, hown, hts⟩ (kX1_foundTotal l D cI cJ cZ q σ la wa (upd (upd mk (Int.toNat m0) mkc1) (Int.toNat m0) mkc3) hok3 lpc2 tpc2 rkc2 odc2 frc2 foc2  (by have z : okC frc2 foc2 := hu2.okC (okS_mk hS0 a m0 true) (by omega) (show (0 : Int) ≤ sNb σ by omega) (by omega); unfold okC at z; omega)) (cwV 0 hts gX3_would_X1_foundTotal rfl rfl rfl (by decide +kernel) ⟨Nat.le_of_ble_eq_true rfl, Nat.le_of_ble_eq_true rfl⟩) hK (hP.sub [0, 1, 2, 3, 4, 5, 6, 7, 8, 9] rfl) (va_recv hK hP (ci := 1) (q0 := 5) rfl rfl) rfl hl.1 rfl (Nat.le_of_ble_eq_true rfl) ⟨Nat.zero_le _, Nat.zero_le _⟩ dX3_would_65 ?_
      exact j_mretL hx hb hr hlocks hS dX3_would_68 (σ, la, wa, upd (upd mk (Int.toNat m0) mkc1) (Int.toNat m0) mkc3, lpc2, tpc2, rkc2, odc2, frc2, foc2, ex, to, ln, pg, fb, fl, pl, lb, kn) ⟨Or.inl ⟨c8, c17.1, c17.2, frc2, foc2, hu2, rfl⟩, ⟨hok3, hI⟩, rfl⟩ hP
    · skip
      refine lv_ldc2 (v := jL (-1)) hx hb hown (hts (.constantLong RX3 103 (-1)) (by decide +kernel)) dX3_would_20 ?_
      exact j_mretL hx hb hr hlocks hS dX3_would_23 (σ, la, wa, mk, lp, tp, rk, od, fr, fo, ex, to, ln, pg, fb, fl, pl, lb, kn) ⟨Or.inr ⟨by omega, rfl⟩, ⟨hok, hI⟩, rfl⟩ hP
end
