/-! the contracts of BreakLines$Setting -/
noncomputable section
set_option maxHeartbeats 4000000 in
set_option maxRecDepth 100000 in
theorem kX2_lastBar (l : Launch) (D : va_G) (cI cJ cZ : ClassId) (q : Nat → Nat) (ex : Prop) (to ln pg : Int) (fb fl pl lb : Int → Int) (k : Int) (h : 0 ≤ k ∧ k < 24) : RoI l yX2_lastBar wsX2_lastBar 0 0 D (tyc cI cJ cZ) (wSt q cI ex to ln pg fb fl pl lb) [.ref (q 10), .int (jI k)] (jI (fb (k + 1) - 1)) := by
  refine j_start RX2 rfl (by decide) rfl (Nat.le_of_ble_eq_true rfl) ?_
  intro p e s m below meth c ls hx hb hr hlocks hml hown hts hnm hl ⟨hP, hK⟩
  have hP : va_P D vwCl (wSt q cI ex to ln pg fb fl pl lb) s.heap := hP
  have hl : lv_has ls 2 [(0, .ref (q 10)), (1, .int (jI k))] := hl
  have hinX2 : ∀ w ∈ u_ws RX2 TX2 8, w ∈ wsX2_lastBar := by decide +kernel
  refine lv_aload_n hx hb dX2_lastBar_0 rfl (lv_at hl 0 rfl) ?_
  refine va_get (D := D) (ci := 2) (v := .ref (q 11)) (C := RX2) (T := TX2) (N := 8) hx hb hts hinX2 hown hK hP 0 rfl rfl 4 (by decide) (hts (.fieldLink RX2 26 "BreakLines$Setting" "firstBar" "[I") (by decide +kernel)) (fun _ h9 => h9) rfl dX2_lastBar_1 ?_
  refine lv_iload_n hx hb dX2_lastBar_4 rfl (lv_at hl 1 rfl) ?_
  refine j_iconst hx hb dX2_lastBar_5 ?_
  refine j_iadd hx hb dX2_lastBar_6 ?_
  refine j_iald hx hb hK hP 1 0 rfl rfl (i := k + 1) (by omega) (by decide) dX2_lastBar_7 ?_
  refine j_iconst hx hb dX2_lastBar_8 ?_
  refine j_isub hx hb dX2_lastBar_9 ?_
  exact j_retI hx hb hr hlocks dX2_lastBar_10 rfl
set_option maxHeartbeats 4000000 in
set_option maxRecDepth 100000 in
theorem kX2_linesOnPage (l : Launch) (D : va_G) (cI cJ cZ : ClassId) (q : Nat → Nat) (ex : Prop) (to ln pg : Int) (fb fl pl lb : Int → Int) (k : Int) (h : 0 ≤ k ∧ k < 24) : RoI l yX2_linesOnPage wsX2_linesOnPage 0 0 D (tyc cI cJ cZ) (wSt q cI ex to ln pg fb fl pl lb) [.ref (q 10), .int (jI k)] (jI (fl (k + 1) - fl k)) := by
  refine j_start RX2 rfl (by decide) rfl (Nat.le_of_ble_eq_true rfl) ?_
  intro p e s m below meth c ls hx hb hr hlocks hml hown hts hnm hl ⟨hP, hK⟩
  have hP : va_P D vwCl (wSt q cI ex to ln pg fb fl pl lb) s.heap := hP
  have hl : lv_has ls 2 [(0, .ref (q 10)), (1, .int (jI k))] := hl
  have hinX2 : ∀ w ∈ u_ws RX2 TX2 8, w ∈ wsX2_linesOnPage := by decide +kernel
  refine lv_aload_n hx hb dX2_linesOnPage_0 rfl (lv_at hl 0 rfl) ?_
  refine va_get (D := D) (ci := 2) (v := .ref (q 12)) (C := RX2) (T := TX2) (N := 8) hx hb hts hinX2 hown hK hP 0 rfl rfl 5 (by decide) (hts (.fieldLink RX2 30 "BreakLines$Setting" "firstLine" "[I") (by decide +kernel)) (fun _ h9 => h9) rfl dX2_linesOnPage_1 ?_
  refine lv_iload_n hx hb dX2_linesOnPage_4 rfl (lv_at hl 1 rfl) ?_
  refine j_iconst hx hb dX2_linesOnPage_5 ?_
  refine j_iadd hx hb dX2_linesOnPage_6 ?_
  refine j_iald hx hb hK hP 2 0 rfl rfl (i := k + 1) (by omega) (by decide) dX2_linesOnPage_7 ?_
  refine lv_aload_n hx hb dX2_linesOnPage_8 rfl (lv_at hl 0 rfl) ?_
  refine va_get (D := D) (ci := 2) (v := .ref (q 12)) (C := RX2) (T := TX2) (N := 8) hx hb hts hinX2 hown hK hP 0 rfl rfl 5 (by decide) (hts (.fieldLink RX2 30 "BreakLines$Setting" "firstLine" "[I") (by decide +kernel)) (fun _ h9 => h9) rfl dX2_linesOnPage_9 ?_
  refine lv_iload_n hx hb dX2_linesOnPage_12 rfl (lv_at hl 1 rfl) ?_
  refine j_iald hx hb hK hP 2 0 rfl rfl (i := k) (by omega) (by decide) dX2_linesOnPage_13 ?_
  refine j_isub hx hb dX2_linesOnPage_14 ?_
  exact j_retI hx hb hr hlocks dX2_linesOnPage_15 rfl
set_option maxHeartbeats 4000000 in
set_option maxRecDepth 100000 in
theorem kX2_take (l : Launch) (D : va_G) (cI cJ cZ : ClassId) (q : Nat → Nat) (σ : Sg) (la wa : Int → Int) (mk : Nat → Int32) (hok : okP σ la wa mk) (lp tp rk od : Int → Int) (fr fo : Int) (ex : Prop) (to ln pg : Int) (fb fl pl lb : Int → Int) (h : okC fr fo) (h0 : fb 0 = 0 ∧ fl 0 = 0) : MuV l yX2_take wsX2_take 2 41 D (tyc cI cJ cZ) (wPc q cI (sNb σ) (sWd σ) (sPp σ) (sCt σ) (sCs σ) mk la wa ++ wSe q cJ lp tp rk od fr fo ++ wSt q cI ex to ln pg fb fl pl lb) [.ref (q 10), .ref (q 5), .int (jI (sNb σ))] (fun (u : Int × Int × (Int → Int) × (Int → Int) × (Int → Int) × (Int → Int)) => (u.2.2.1 0 = 0 ∧ u.2.2.2.1 0 = 0) ∧ (fr ≠ 9223372036854775807 → setOK (fun b => fo / leB b % 2 = 1) (fun b => fo / peB b % 2 = 1) (sNb σ) u.1 u.2.1 u.2.2.1 u.2.2.2.1 u.2.2.2.2.1 u.2.2.2.2.2)) (fun u => wPc q cI (sNb σ) (sWd σ) (sPp σ) (sCt σ) (sCs σ) mk la wa ++ wSe q cJ lp tp rk od fr fo ++ wSt q cI (fr ≠ 9223372036854775807) (if fr = 9223372036854775807 then -1 else fr / 1024) u.1 u.2.1 u.2.2.1 u.2.2.2.1 u.2.2.2.2.1 u.2.2.2.2.2) := by
  intro sz
  refine j_start RX2 rfl (by decide) rfl (Nat.le_of_ble_eq_true rfl) ?_
  intro p e s m below meth c ls hx hb hr hlocks hml hown hts hnm hl ⟨hsz, hP, hK, hD0⟩
  subst hsz
  have hD := hD0.self (sz := s.heap.size)
  generalize hAe : va_A (wPc q cI (sNb σ) (sWd σ) (sPp σ) (sCt σ) (sCs σ) mk la wa ++ wSe q cJ lp tp rk od fr fo ++ wSt q cI ex to ln pg fb fl pl lb) s.heap.size = A at hD ⊢
  have hA : ∀ q : Nat, s.heap.size ≤ q → A q := fun q h => by rw [← hAe]; exact Or.inr h
  refine j_gen (fun H locs hHe hLe => ?_)
  have hS : va_S A s.heap H locs := by rw [hHe, hLe]; exact va_S.rf
  have hP : va_P D vwCl (wPc q cI (sNb σ) (sWd σ) (sPp σ) (sCt σ) (sCs σ) mk la wa ++ wSe q cJ lp tp rk od fr fo ++ wSt q cI ex to ln pg fb fl pl lb) H := by rw [hHe]; exact hP
  have hD : va_D A (wPc q cI (sNb σ) (sWd σ) (sPp σ) (sCt σ) (sCs σ) mk la wa ++ wSe q cJ lp tp rk od fr fo ++ wSt q cI ex to ln pg fb fl pl lb) := hD
  have hl : lv_has ls 4 [(0, .ref (q 10)), (1, .ref (q 5)), (2, .int (jI (sNb σ)))] := hl
  have hinX2 : ∀ w ∈ u_ws RX2 TX2 8, w ∈ wsX2_take := by decide +kernel
  have hS0 := hok.1
  have hnb := hS0.1
  have hwd := hS0.2.1
  have hpp := hS0.2.2.1
  have hc := h
  unfold okC at hc
  refine lv_aload_n hx hb dX2_take_0 rfl (lv_at hl 0 rfl) ?_
  refine lv_aload_n hx hb dX2_take_1 rfl (lv_at hl 1 rfl) ?_
  refine j_cVI (As := []) (rest := [.ref (q 10)]) ⟨hx, hb, hml, hown, hts⟩ (kX1_hasFound l D cI cJ cZ q σ la wa mk hok lp tp rk od fr fo  (by unfold i64; omega)) (cwV 0 hts gX2_take_X1_hasFound rfl rfl rfl (by decide +kernel) ⟨Nat.le_of_ble_eq_true rfl, Nat.le_of_ble_eq_true rfl⟩) hK (hP.sub [0, 1, 2, 3, 4, 5, 6, 7, 8, 9] rfl) (va_recv hK hP (ci := 1) (q0 := 5) rfl rfl) rfl hl.1 rfl (Nat.le_of_ble_eq_true rfl) ⟨Nat.zero_le _, Nat.zero_le _⟩ dX2_take_2 ?_
  refine va_put (D := D) (ci := 2) (v := .int (jZ (fr ≠ 9223372036854775807))) (ty := .boolean) (C := RX2) (T := TX2) (N := 8) hx hb hts hinX2 tyX2 tyX2_ok nmX2 hown hK hP hD hS 10 rfl rfl 0 (by decide) (hts (.fieldLink RX2 9 "BreakLines$Setting" "exists" "Z") (by decide +kernel)) (fun _ h9 => h9) rfl (by decide +kernel) (jZ_narrow _) (jZ_fits _) (Nat.le_of_ble_eq_true rfl) dX2_take_5 (fun H locs hP hD hS => ?_)
  have hP : va_P D vwCl (wPc q cI (sNb σ) (sWd σ) (sPp σ) (sCt σ) (sCs σ) mk la wa ++ wSe q cJ lp tp rk od fr fo ++ wSt q cI (fr ≠ 9223372036854775807) to ln pg fb fl pl lb) H := hP
  have hD : va_D A (wPc q cI (sNb σ) (sWd σ) (sPp σ) (sCt σ) (sCs σ) mk la wa ++ wSe q cJ lp tp rk od fr fo ++ wSt q cI (fr ≠ 9223372036854775807) to ln pg fb fl pl lb) := hD
  refine lv_aload_n hx hb dX2_take_8 rfl (lv_at hl 0 rfl) ?_
  refine lv_aload_n hx hb dX2_take_9 rfl (lv_at hl 1 rfl) ?_
  refine j_cVL (As := []) (rest := [.ref (q 10)]) ⟨hx, hb, hml, hown, hts⟩ (kX1_foundTotal l D cI cJ cZ q σ la wa mk hok lp tp rk od fr fo  (by omega)) (cwV 0 hts gX2_take_X1_foundTotal rfl rfl rfl (by decide +kernel) ⟨Nat.le_of_ble_eq_true rfl, Nat.le_of_ble_eq_true rfl⟩) hK (hP.sub [0, 1, 2, 3, 4, 5, 6, 7, 8, 9] rfl) (va_recv hK hP (ci := 1) (q0 := 5) rfl rfl) rfl hl.1 rfl (Nat.le_of_ble_eq_true rfl) ⟨Nat.zero_le _, Nat.zero_le _⟩ dX2_take_10 ?_
  refine va_put (D := D) (ci := 2) (v := .long (jL (if fr = 9223372036854775807 then -1 else fr / 1024))) (ty := .long) (C := RX2) (T := TX2) (N := 8) hx hb hts hinX2 tyX2 tyX2_ok nmX2 hown hK hP hD hS 10 rfl rfl 1 (by decide) (hts (.fieldLink RX2 15 "BreakLines$Setting" "total" "J") (by decide +kernel)) (fun _ h9 => h9) rfl (by decide +kernel) rfl rfl (Nat.le_of_ble_eq_true rfl) dX2_take_13 (fun H locs hP hD hS => ?_)
  have hP : va_P D vwCl (wPc q cI (sNb σ) (sWd σ) (sPp σ) (sCt σ) (sCs σ) mk la wa ++ wSe q cJ lp tp rk od fr fo ++ wSt q cI (fr ≠ 9223372036854775807) (if fr = 9223372036854775807 then -1 else fr / 1024) ln pg fb fl pl lb) H := hP
  have hD : va_D A (wPc q cI (sNb σ) (sWd σ) (sPp σ) (sCt σ) (sCs σ) mk la wa ++ wSe q cJ lp tp rk od fr fo ++ wSt q cI (fr ≠ 9223372036854775807) (if fr = 9223372036854775807 then -1 else fr / 1024) ln pg fb fl pl lb) := hD
  refine lv_aload_n hx hb dX2_take_16 rfl (lv_at hl 0 rfl) ?_
  refine j_iconst hx hb dX2_take_17 ?_
  refine va_put (D := D) (ci := 2) (v := .int (jI 0)) (ty := .int) (C := RX2) (T := TX2) (N := 8) hx hb hts hinX2 tyX2 tyX2_ok nmX2 hown hK hP hD hS 10 rfl rfl 2 (by decide) (hts (.fieldLink RX2 19 "BreakLines$Setting" "lines" "I") (by decide +kernel)) (fun _ h9 => h9) rfl (by decide +kernel) rfl rfl (Nat.le_of_ble_eq_true rfl) dX2_take_18 (fun H locs hP hD hS => ?_)
  have hP : va_P D vwCl (wPc q cI (sNb σ) (sWd σ) (sPp σ) (sCt σ) (sCs σ) mk la wa ++ wSe q cJ lp tp rk od fr fo ++ wSt q cI (fr ≠ 9223372036854775807) (if fr = 9223372036854775807 then -1 else fr / 1024) 0 pg fb fl pl lb) H := hP
  have hD : va_D A (wPc q cI (sNb σ) (sWd σ) (sPp σ) (sCt σ) (sCs σ) mk la wa ++ wSe q cJ lp tp rk od fr fo ++ wSt q cI (fr ≠ 9223372036854775807) (if fr = 9223372036854775807 then -1 else fr / 1024) 0 pg fb fl pl lb) := hD
  refine lv_aload_n hx hb dX2_take_21 rfl (lv_at hl 0 rfl) ?_
  refine j_iconst hx hb dX2_take_22 ?_
  refine va_put (D := D) (ci := 2) (v := .int (jI 0)) (ty := .int) (C := RX2) (T := TX2) (N := 8) hx hb hts hinX2 tyX2 tyX2_ok nmX2 hown hK hP hD hS 10 rfl rfl 3 (by decide) (hts (.fieldLink RX2 23 "BreakLines$Setting" "pages" "I") (by decide +kernel)) (fun _ h9 => h9) rfl (by decide +kernel) rfl rfl (Nat.le_of_ble_eq_true rfl) dX2_take_23 (fun H locs hP hD hS => ?_)
  have hP : va_P D vwCl (wPc q cI (sNb σ) (sWd σ) (sPp σ) (sCt σ) (sCs σ) mk la wa ++ wSe q cJ lp tp rk od fr fo ++ wSt q cI (fr ≠ 9223372036854775807) (if fr = 9223372036854775807 then -1 else fr / 1024) 0 0 fb fl pl lb) H := hP
  have hD : va_D A (wPc q cI (sNb σ) (sWd σ) (sPp σ) (sCt σ) (sCs σ) mk la wa ++ wSe q cJ lp tp rk od fr fo ++ wSt q cI (fr ≠ 9223372036854775807) (if fr = 9223372036854775807 then -1 else fr / 1024) 0 0 fb fl pl lb) := hD
  refine lv_aload_n hx hb dX2_take_26 rfl (lv_at hl 0 rfl) ?_
  refine va_get (D := D) (ci := 2) (v := .int (jZ (fr ≠ 9223372036854775807))) (C := RX2) (T := TX2) (N := 8) hx hb hts hinX2 hown hK hP 10 rfl rfl 0 (by decide) (hts (.fieldLink RX2 9 "BreakLines$Setting" "exists" "Z") (by decide +kernel)) (fun _ h9 => h9) rfl dX2_take_27 ?_
  refine j_ifneZ (tgt := 34) hx hb dX2_take_30 (by decide) (fun c30 => ?_) (fun c30 => ?_)
  · skip
    refine j_iconst hx hb dX2_take_34 ?_
    refine lv_istore_n (lv' := [(3, .int (jI 0)), (0, .ref (q 10)), (1, .ref (q 5)), (2, .int (jI (sNb σ)))]) hx hb dX2_take_35 rfl hl (by decide) rfl (fun ls hl => ?_)
    refine j_loop (α := Int × Int × Int × (Int → Int) × (Int → Int) × (Int → Int) × (Int → Int) × Array Slot × Heap × List Loc) (h := fun z => match z with | (i, ln0, pg0, fb0, fl0, pl0, lb0, ls, H, locs) => H) (lc := fun z => match z with | (i, ln0, pg0, fb0, fl0, pl0, lb0, ls, H, locs) => locs) (f := fun z => match z with | (i, ln0, pg0, fb0, fl0, pl0, lb0, ls, H, locs) => F0 m 36 ls []) (P := fun nn z => match z with | (i, ln0, pg0, fb0, fl0, pl0, lb0, ls, H, locs) => ((0 ≤ i ∧ i ≤ sNb σ) ∧ setOK (fun b => fo / leB b % 2 = 1) (fun b => fo / peB b % 2 = 1) i ln0 pg0 fb0 fl0 pl0 lb0) ∧ (sNb σ - i).toNat < nn ∧ lv_has ls 4 [(0, .ref (q 10)), (1, .ref (q 5)), (2, .int (jI (sNb σ))), (3, .int (jI i))] ∧ va_P D vwCl (wPc q cI (sNb σ) (sWd σ) (sPp σ) (sCt σ) (sCs σ) mk la wa ++ wSe q cJ lp tp rk od fr fo ++ wSt q cI (fr ≠ 9223372036854775807) (if fr = 9223372036854775807 then -1 else fr / 1024) ln0 pg0 fb0 fl0 pl0 lb0) H ∧ va_D A (wPc q cI (sNb σ) (sWd σ) (sPp σ) (sCt σ) (sCs σ) mk la wa ++ wSe q cJ lp tp rk od fr fo ++ wSt q cI (fr ≠ 9223372036854775807) (if fr = 9223372036854775807 then -1 else fr / 1024) ln0 pg0 fb0 fl0 pl0 lb0) ∧ va_S A s.heap H locs) (fun z hz => ?_) ?_ ((sNb σ - 0).toNat + 1) (0, 0, 0, fb, fl, pl, lb, ls, H, locs) ⟨⟨by omega, setOK_0 h0.1 h0.2⟩, Nat.lt_succ_self _, lv_sub hl [1, 2, 3, 0] rfl, hP, hD, hS⟩
    · obtain ⟨i, ln0, pg0, fb0, fl0, pl0, lb0, ls, H, locs⟩ := z; exact absurd hz.2.1 (Nat.not_lt_zero _)
    intro n36 ih36 ⟨i, ln0, pg0, fb0, fl0, pl0, lb0, ls, H, locs⟩ ⟨hi36, hm36, hl, hP, hD, hS⟩
    have hl : lv_has ls 4 [(0, .ref (q 10)), (1, .ref (q 5)), (2, .int (jI (sNb σ))), (3, .int (jI i))] := hl
    have hP : va_P D vwCl (wPc q cI (sNb σ) (sWd σ) (sPp σ) (sCt σ) (sCs σ) mk la wa ++ wSe q cJ lp tp rk od fr fo ++ wSt q cI (fr ≠ 9223372036854775807) (if fr = 9223372036854775807 then -1 else fr / 1024) ln0 pg0 fb0 fl0 pl0 lb0) H := hP
    have hD : va_D A (wPc q cI (sNb σ) (sWd σ) (sPp σ) (sCt σ) (sCs σ) mk la wa ++ wSe q cJ lp tp rk od fr fo ++ wSt q cI (fr ≠ 9223372036854775807) (if fr = 9223372036854775807 then -1 else fr / 1024) ln0 pg0 fb0 fl0 pl0 lb0) := hD
    have hS : va_S A s.heap H locs := hS
    show W p l e _ s m _ below meth c H locs _ _ _ (F0 m 36 ls [])
    obtain ⟨hi1, hi2⟩ := hi36
    have hl1 := hi2.1
    have hp1 := hi2.2.1
    have hl2 := cntB (fun b => fo / leB b % 2 = 1) hi1.1
    have hp2 := cntB (fun b => fo / peB b % 2 = 1) hi1.1
    have hco : 0 ≤ fo ∧ fo ≤ 9007199254740992 := by omega
    refine lv_iload_n hx hb dX2_take_36 rfl (lv_at hl 3 rfl) ?_
    refine lv_iload_n hx hb dX2_take_37 rfl (lv_at hl 2 rfl) ?_
    refine j_icmp_ge (tgt := 131) hx hb (by unfold i32; omega) dX2_take_38 (by decide) (fun c38 => ?_) (fun c38 => ?_)
    · skip
      exact j_mretV hx hb hr hlocks hS dX2_take_131 (ln0, pg0, fb0, fl0, pl0, lb0) ⟨⟨hi2.2.2.1, hi2.2.2.2.1⟩, fun _ => by rw [show sNb σ = i by omega]; exact hi2⟩ hP
    · skip
      refine lv_aload_n hx hb dX2_take_41 rfl (lv_at hl 0 rfl) ?_
      refine va_get (D := D) (ci := 2) (v := .ref (q 14)) (C := RX2) (T := TX2) (N := 8) hx hb hts hinX2 hown hK hP 10 rfl rfl 7 (by decide) (hts (.fieldLink RX2 36 "BreakLines$Setting" "lineOfBar" "[I") (by decide +kernel)) (fun _ h9 => h9) rfl dX2_take_42 ?_
      refine lv_iload_n hx hb dX2_take_45 rfl (lv_at hl 3 rfl) ?_
      refine lv_aload_n hx hb dX2_take_46 rfl (lv_at hl 0 rfl) ?_
      refine va_get (D := D) (ci := 2) (v := .int (jI ln0)) (C := RX2) (T := TX2) (N := 8) hx hb hts hinX2 hown hK hP 10 rfl rfl 2 (by decide) (hts (.fieldLink RX2 19 "BreakLines$Setting" "lines" "I") (by decide +kernel)) (fun _ h9 => h9) rfl dX2_take_47 ?_
      refine j_iast hx hb hK hP hD hS 14 0 rfl rfl (i := i) (by omega) (by decide) dX2_take_50 (fun H locs hP hD hS => ?_)
      have hP : va_P D vwCl (wPc q cI (sNb σ) (sWd σ) (sPp σ) (sCt σ) (sCs σ) mk la wa ++ wSe q cJ lp tp rk od fr fo ++ wSt q cI (fr ≠ 9223372036854775807) (if fr = 9223372036854775807 then -1 else fr / 1024) ln0 pg0 fb0 fl0 pl0 (updI lb0 i ln0)) H := hP
      have hD : va_D A (wPc q cI (sNb σ) (sWd σ) (sPp σ) (sCt σ) (sCs σ) mk la wa ++ wSe q cJ lp tp rk od fr fo ++ wSt q cI (fr ≠ 9223372036854775807) (if fr = 9223372036854775807 then -1 else fr / 1024) ln0 pg0 fb0 fl0 pl0 (updI lb0 i ln0)) := hD
      refine lv_aload_n hx hb dX2_take_51 rfl (lv_at hl 1 rfl) ?_
      refine lv_iload_n hx hb dX2_take_52 rfl (lv_at hl 3 rfl) ?_
      refine j_cVI (As := [.int (jI i)]) (rest := []) ⟨hx, hb, hml, hown, hts⟩ (kX1_lineEndsAt l D cI cJ cZ q σ la wa mk hok lp tp rk od fr fo i (by omega)) (cwV 1 hts gX2_take_X1_lineEndsAt rfl rfl rfl (by decide +kernel) ⟨Nat.le_of_ble_eq_true rfl, Nat.le_of_ble_eq_true rfl⟩) hK (hP.sub [0, 1, 2, 3, 4, 5, 6, 7, 8, 9] rfl) (va_recv hK hP (ci := 1) (q0 := 5) rfl rfl) rfl hl.1 rfl (Nat.le_of_ble_eq_true rfl) ⟨Nat.zero_le _, Nat.zero_le _⟩ dX2_take_53 ?_
      refine j_ifeqZ (tgt := 94) hx hb dX2_take_56 (by decide) (fun c56 => ?_) (fun c56 => ?_)
      · skip
        refine lv_aload_n hx hb dX2_take_94 rfl (lv_at hl 1 rfl) ?_
        refine lv_iload_n hx hb dX2_take_95 rfl (lv_at hl 3 rfl) ?_
        refine j_cVI (As := [.int (jI i)]) (rest := []) ⟨hx, hb, hml, hown, hts⟩ (kX1_pageEndsAt l D cI cJ cZ q σ la wa mk hok lp tp rk od fr fo i (by omega)) (cwV 1 hts gX2_take_X1_pageEndsAt rfl rfl rfl (by decide +kernel) ⟨Nat.le_of_ble_eq_true rfl, Nat.le_of_ble_eq_true rfl⟩) hK (hP.sub [0, 1, 2, 3, 4, 5, 6, 7, 8, 9] rfl) (va_recv hK hP (ci := 1) (q0 := 5) rfl rfl) rfl hl.1 rfl (Nat.le_of_ble_eq_true rfl) ⟨Nat.zero_le _, Nat.zero_le _⟩ dX2_take_96 ?_
        refine j_ifeqZ (tgt := 125) hx hb dX2_take_99 (by decide) (fun c99 => ?_) (fun c99 => ?_)
        · skip
          refine lv_iinc (v := jI (i + 1)) (lv' := [(3, .int (jI (i + 1))), (0, .ref (q 10)), (1, .ref (q 5)), (2, .int (jI (sNb σ)))]) hx hb dX2_take_125 hl (k := 3) rfl (jI_add _ _) (by decide) rfl (fun ls hl => ?_)
          refine lv_goto (tgt := 36) hx hb dX2_take_128 (by decide) ?_
          exact ih36 (i + 1, ln0, pg0, fb0, fl0, pl0, updI lb0 i ln0, ls, H, locs) ⟨⟨by omega, setOK_ff hi2 (by omega) c56 c99⟩, by omega, lv_sub hl [1, 2, 3, 0] rfl, hP, hD, hS⟩
        · skip
          refine lv_aload_n hx hb dX2_take_102 rfl (lv_at hl 0 rfl) ?_
          refine lv_dup hx hb dX2_take_103 rfl ?_
          refine va_get (D := D) (ci := 2) (v := .int (jI pg0)) (C := RX2) (T := TX2) (N := 8) hx hb hts hinX2 hown hK hP 10 rfl rfl 3 (by decide) (hts (.fieldLink RX2 23 "BreakLines$Setting" "pages" "I") (by decide +kernel)) (fun _ h9 => h9) rfl dX2_take_104 ?_
          refine j_iconst hx hb dX2_take_107 ?_
          refine j_iadd hx hb dX2_take_108 ?_
          refine va_put (D := D) (ci := 2) (v := .int (jI (pg0 + 1))) (ty := .int) (C := RX2) (T := TX2) (N := 8) hx hb hts hinX2 tyX2 tyX2_ok nmX2 hown hK hP hD hS 10 rfl rfl 3 (by decide) (hts (.fieldLink RX2 23 "BreakLines$Setting" "pages" "I") (by decide +kernel)) (fun _ h9 => h9) rfl (by decide +kernel) rfl rfl (Nat.le_of_ble_eq_true rfl) dX2_take_109 (fun H locs hP hD hS => ?_)
          have hP : va_P D vwCl (wPc q cI (sNb σ) (sWd σ) (sPp σ) (sCt σ) (sCs σ) mk la wa ++ wSe q cJ lp tp rk od fr fo ++ wSt q cI (fr ≠ 9223372036854775807) (if fr = 9223372036854775807 then -1 else fr / 1024) ln0 (pg0 + 1) fb0 fl0 pl0 (updI lb0 i ln0)) H := hP
          have hD : va_D A (wPc q cI (sNb σ) (sWd σ) (sPp σ) (sCt σ) (sCs σ) mk la wa ++ wSe q cJ lp tp rk od fr fo ++ wSt q cI (fr ≠ 9223372036854775807) (if fr = 9223372036854775807 then -1 else fr / 1024) ln0 (pg0 + 1) fb0 fl0 pl0 (updI lb0 i ln0)) := hD
          refine lv_aload_n hx hb dX2_take_112 rfl (lv_at hl 0 rfl) ?_
          refine va_get (D := D) (ci := 2) (v := .ref (q 12)) (C := RX2) (T := TX2) (N := 8) hx hb hts hinX2 hown hK hP 10 rfl rfl 5 (by decide) (hts (.fieldLink RX2 30 "BreakLines$Setting" "firstLine" "[I") (by decide +kernel)) (fun _ h9 => h9) rfl dX2_take_113 ?_
          refine lv_aload_n hx hb dX2_take_116 rfl (lv_at hl 0 rfl) ?_
          refine va_get (D := D) (ci := 2) (v := .int (jI (pg0 + 1))) (C := RX2) (T := TX2) (N := 8) hx hb hts hinX2 hown hK hP 10 rfl rfl 3 (by decide) (hts (.fieldLink RX2 23 "BreakLines$Setting" "pages" "I") (by decide +kernel)) (fun _ h9 => h9) rfl dX2_take_117 ?_
          refine lv_aload_n hx hb dX2_take_120 rfl (lv_at hl 0 rfl) ?_
          refine va_get (D := D) (ci := 2) (v := .int (jI ln0)) (C := RX2) (T := TX2) (N := 8) hx hb hts hinX2 hown hK hP 10 rfl rfl 2 (by decide) (hts (.fieldLink RX2 19 "BreakLines$Setting" "lines" "I") (by decide +kernel)) (fun _ h9 => h9) rfl dX2_take_121 ?_
          refine j_iast hx hb hK hP hD hS 12 0 rfl rfl (i := pg0 + 1) (by omega) (by decide) dX2_take_124 (fun H locs hP hD hS => ?_)
          have hP : va_P D vwCl (wPc q cI (sNb σ) (sWd σ) (sPp σ) (sCt σ) (sCs σ) mk la wa ++ wSe q cJ lp tp rk od fr fo ++ wSt q cI (fr ≠ 9223372036854775807) (if fr = 9223372036854775807 then -1 else fr / 1024) ln0 (pg0 + 1) fb0 (updI fl0 (pg0 + 1) ln0) pl0 (updI lb0 i ln0)) H := hP
          have hD : va_D A (wPc q cI (sNb σ) (sWd σ) (sPp σ) (sCt σ) (sCs σ) mk la wa ++ wSe q cJ lp tp rk od fr fo ++ wSt q cI (fr ≠ 9223372036854775807) (if fr = 9223372036854775807 then -1 else fr / 1024) ln0 (pg0 + 1) fb0 (updI fl0 (pg0 + 1) ln0) pl0 (updI lb0 i ln0)) := hD
          refine lv_iinc (v := jI (i + 1)) (lv' := [(3, .int (jI (i + 1))), (0, .ref (q 10)), (1, .ref (q 5)), (2, .int (jI (sNb σ)))]) hx hb dX2_take_125 hl (k := 3) rfl (jI_add _ _) (by decide) rfl (fun ls hl => ?_)
          refine lv_goto (tgt := 36) hx hb dX2_take_128 (by decide) ?_
          exact ih36 (i + 1, ln0, pg0 + 1, fb0, updI fl0 (pg0 + 1) ln0, pl0, updI lb0 i ln0, ls, H, locs) ⟨⟨by omega, setOK_ft hi2 (by omega) c56 c99⟩, by omega, lv_sub hl [1, 2, 3, 0] rfl, hP, hD, hS⟩
      · skip
        refine lv_aload_n hx hb dX2_take_59 rfl (lv_at hl 0 rfl) ?_
        refine va_get (D := D) (ci := 2) (v := .ref (q 13)) (C := RX2) (T := TX2) (N := 8) hx hb hts hinX2 hown hK hP 10 rfl rfl 6 (by decide) (hts (.fieldLink RX2 33 "BreakLines$Setting" "pageOfLine" "[I") (by decide +kernel)) (fun _ h9 => h9) rfl dX2_take_60 ?_
        refine lv_aload_n hx hb dX2_take_63 rfl (lv_at hl 0 rfl) ?_
        refine va_get (D := D) (ci := 2) (v := .int (jI ln0)) (C := RX2) (T := TX2) (N := 8) hx hb hts hinX2 hown hK hP 10 rfl rfl 2 (by decide) (hts (.fieldLink RX2 19 "BreakLines$Setting" "lines" "I") (by decide +kernel)) (fun _ h9 => h9) rfl dX2_take_64 ?_
        refine lv_aload_n hx hb dX2_take_67 rfl (lv_at hl 0 rfl) ?_
        refine va_get (D := D) (ci := 2) (v := .int (jI pg0)) (C := RX2) (T := TX2) (N := 8) hx hb hts hinX2 hown hK hP 10 rfl rfl 3 (by decide) (hts (.fieldLink RX2 23 "BreakLines$Setting" "pages" "I") (by decide +kernel)) (fun _ h9 => h9) rfl dX2_take_68 ?_
        refine j_iast hx hb hK hP hD hS 13 0 rfl rfl (i := ln0) (by omega) (by decide) dX2_take_71 (fun H locs hP hD hS => ?_)
        have hP : va_P D vwCl (wPc q cI (sNb σ) (sWd σ) (sPp σ) (sCt σ) (sCs σ) mk la wa ++ wSe q cJ lp tp rk od fr fo ++ wSt q cI (fr ≠ 9223372036854775807) (if fr = 9223372036854775807 then -1 else fr / 1024) ln0 pg0 fb0 fl0 (updI pl0 ln0 pg0) (updI lb0 i ln0)) H := hP
        have hD : va_D A (wPc q cI (sNb σ) (sWd σ) (sPp σ) (sCt σ) (sCs σ) mk la wa ++ wSe q cJ lp tp rk od fr fo ++ wSt q cI (fr ≠ 9223372036854775807) (if fr = 9223372036854775807 then -1 else fr / 1024) ln0 pg0 fb0 fl0 (updI pl0 ln0 pg0) (updI lb0 i ln0)) := hD
        refine lv_aload_n hx hb dX2_take_72 rfl (lv_at hl 0 rfl) ?_
        refine lv_dup hx hb dX2_take_73 rfl ?_
        refine va_get (D := D) (ci := 2) (v := .int (jI ln0)) (C := RX2) (T := TX2) (N := 8) hx hb hts hinX2 hown hK hP 10 rfl rfl 2 (by decide) (hts (.fieldLink RX2 19 "BreakLines$Setting" "lines" "I") (by decide +kernel)) (fun _ h9 => h9) rfl dX2_take_74 ?_
        refine j_iconst hx hb dX2_take_77 ?_
        refine j_iadd hx hb dX2_take_78 ?_
        refine va_put (D := D) (ci := 2) (v := .int (jI (ln0 + 1))) (ty := .int) (C := RX2) (T := TX2) (N := 8) hx hb hts hinX2 tyX2 tyX2_ok nmX2 hown hK hP hD hS 10 rfl rfl 2 (by decide) (hts (.fieldLink RX2 19 "BreakLines$Setting" "lines" "I") (by decide +kernel)) (fun _ h9 => h9) rfl (by decide +kernel) rfl rfl (Nat.le_of_ble_eq_true rfl) dX2_take_79 (fun H locs hP hD hS => ?_)
        have hP : va_P D vwCl (wPc q cI (sNb σ) (sWd σ) (sPp σ) (sCt σ) (sCs σ) mk la wa ++ wSe q cJ lp tp rk od fr fo ++ wSt q cI (fr ≠ 9223372036854775807) (if fr = 9223372036854775807 then -1 else fr / 1024) (ln0 + 1) pg0 fb0 fl0 (updI pl0 ln0 pg0) (updI lb0 i ln0)) H := hP
        have hD : va_D A (wPc q cI (sNb σ) (sWd σ) (sPp σ) (sCt σ) (sCs σ) mk la wa ++ wSe q cJ lp tp rk od fr fo ++ wSt q cI (fr ≠ 9223372036854775807) (if fr = 9223372036854775807 then -1 else fr / 1024) (ln0 + 1) pg0 fb0 fl0 (updI pl0 ln0 pg0) (updI lb0 i ln0)) := hD
        refine lv_aload_n hx hb dX2_take_82 rfl (lv_at hl 0 rfl) ?_
        refine va_get (D := D) (ci := 2) (v := .ref (q 11)) (C := RX2) (T := TX2) (N := 8) hx hb hts hinX2 hown hK hP 10 rfl rfl 4 (by decide) (hts (.fieldLink RX2 26 "BreakLines$Setting" "firstBar" "[I") (by decide +kernel)) (fun _ h9 => h9) rfl dX2_take_83 ?_
        refine lv_aload_n hx hb dX2_take_86 rfl (lv_at hl 0 rfl) ?_
        refine va_get (D := D) (ci := 2) (v := .int (jI (ln0 + 1))) (C := RX2) (T := TX2) (N := 8) hx hb hts hinX2 hown hK hP 10 rfl rfl 2 (by decide) (hts (.fieldLink RX2 19 "BreakLines$Setting" "lines" "I") (by decide +kernel)) (fun _ h9 => h9) rfl dX2_take_87 ?_
        refine lv_iload_n hx hb dX2_take_90 rfl (lv_at hl 3 rfl) ?_
        refine j_iconst hx hb dX2_take_91 ?_
        refine j_iadd hx hb dX2_take_92 ?_
        refine j_iast hx hb hK hP hD hS 11 0 rfl rfl (i := ln0 + 1) (by omega) (by decide) dX2_take_93 (fun H locs hP hD hS => ?_)
        have hP : va_P D vwCl (wPc q cI (sNb σ) (sWd σ) (sPp σ) (sCt σ) (sCs σ) mk la wa ++ wSe q cJ lp tp rk od fr fo ++ wSt q cI (fr ≠ 9223372036854775807) (if fr = 9223372036854775807 then -1 else fr / 1024) (ln0 + 1) pg0 (updI fb0 (ln0 + 1) (i + 1)) fl0 (updI pl0 ln0 pg0) (updI lb0 i ln0)) H := hP
        have hD : va_D A (wPc q cI (sNb σ) (sWd σ) (sPp σ) (sCt σ) (sCs σ) mk la wa ++ wSe q cJ lp tp rk od fr fo ++ wSt q cI (fr ≠ 9223372036854775807) (if fr = 9223372036854775807 then -1 else fr / 1024) (ln0 + 1) pg0 (updI fb0 (ln0 + 1) (i + 1)) fl0 (updI pl0 ln0 pg0) (updI lb0 i ln0)) := hD
        refine lv_aload_n hx hb dX2_take_94 rfl (lv_at hl 1 rfl) ?_
        refine lv_iload_n hx hb dX2_take_95 rfl (lv_at hl 3 rfl) ?_
        refine j_cVI (As := [.int (jI i)]) (rest := []) ⟨hx, hb, hml, hown, hts⟩ (kX1_pageEndsAt l D cI cJ cZ q σ la wa mk hok lp tp rk od fr fo i (by omega)) (cwV 1 hts gX2_take_X1_pageEndsAt rfl rfl rfl (by decide +kernel) ⟨Nat.le_of_ble_eq_true rfl, Nat.le_of_ble_eq_true rfl⟩) hK (hP.sub [0, 1, 2, 3, 4, 5, 6, 7, 8, 9] rfl) (va_recv hK hP (ci := 1) (q0 := 5) rfl rfl) rfl hl.1 rfl (Nat.le_of_ble_eq_true rfl) ⟨Nat.zero_le _, Nat.zero_le _⟩ dX2_take_96 ?_
        refine j_ifeqZ (tgt := 125) hx hb dX2_take_99 (by decide) (fun c99 => ?_) (fun c99 => ?_)
        · skip
          refine lv_iinc (v := jI (i + 1)) (lv' := [(3, .int (jI (i + 1))), (0, .ref (q 10)), (1, .ref (q 5)), (2, .int (jI (sNb σ)))]) hx hb dX2_take_125 hl (k := 3) rfl (jI_add _ _) (by decide) rfl (fun ls hl => ?_)
          refine lv_goto (tgt := 36) hx hb dX2_take_128 (by decide) ?_
          exact ih36 (i + 1, ln0 + 1, pg0, updI fb0 (ln0 + 1) (i + 1), fl0, updI pl0 ln0 pg0, updI lb0 i ln0, ls, H, locs) ⟨⟨by omega, setOK_tf hi2 (by omega) c56 c99⟩, by omega, lv_sub hl [1, 2, 3, 0] rfl, hP, hD, hS⟩
        · skip
          refine lv_aload_n hx hb dX2_take_102 rfl (lv_at hl 0 rfl) ?_
          refine lv_dup hx hb dX2_take_103 rfl ?_
          refine va_get (D := D) (ci := 2) (v := .int (jI pg0)) (C := RX2) (T := TX2) (N := 8) hx hb hts hinX2 hown hK hP 10 rfl rfl 3 (by decide) (hts (.fieldLink RX2 23 "BreakLines$Setting" "pages" "I") (by decide +kernel)) (fun _ h9 => h9) rfl dX2_take_104 ?_
          refine j_iconst hx hb dX2_take_107 ?_
          refine j_iadd hx hb dX2_take_108 ?_
          refine va_put (D := D) (ci := 2) (v := .int (jI (pg0 + 1))) (ty := .int) (C := RX2) (T := TX2) (N := 8) hx hb hts hinX2 tyX2 tyX2_ok nmX2 hown hK hP hD hS 10 rfl rfl 3 (by decide) (hts (.fieldLink RX2 23 "BreakLines$Setting" "pages" "I") (by decide +kernel)) (fun _ h9 => h9) rfl (by decide +kernel) rfl rfl (Nat.le_of_ble_eq_true rfl) dX2_take_109 (fun H locs hP hD hS => ?_)
          have hP : va_P D vwCl (wPc q cI (sNb σ) (sWd σ) (sPp σ) (sCt σ) (sCs σ) mk la wa ++ wSe q cJ lp tp rk od fr fo ++ wSt q cI (fr ≠ 9223372036854775807) (if fr = 9223372036854775807 then -1 else fr / 1024) (ln0 + 1) (pg0 + 1) (updI fb0 (ln0 + 1) (i + 1)) fl0 (updI pl0 ln0 pg0) (updI lb0 i ln0)) H := hP
          have hD : va_D A (wPc q cI (sNb σ) (sWd σ) (sPp σ) (sCt σ) (sCs σ) mk la wa ++ wSe q cJ lp tp rk od fr fo ++ wSt q cI (fr ≠ 9223372036854775807) (if fr = 9223372036854775807 then -1 else fr / 1024) (ln0 + 1) (pg0 + 1) (updI fb0 (ln0 + 1) (i + 1)) fl0 (updI pl0 ln0 pg0) (updI lb0 i ln0)) := hD
          refine lv_aload_n hx hb dX2_take_112 rfl (lv_at hl 0 rfl) ?_
          refine va_get (D := D) (ci := 2) (v := .ref (q 12)) (C := RX2) (T := TX2) (N := 8) hx hb hts hinX2 hown hK hP 10 rfl rfl 5 (by decide) (hts (.fieldLink RX2 30 "BreakLines$Setting" "firstLine" "[I") (by decide +kernel)) (fun _ h9 => h9) rfl dX2_take_113 ?_
          refine lv_aload_n hx hb dX2_take_116 rfl (lv_at hl 0 rfl) ?_
          refine va_get (D := D) (ci := 2) (v := .int (jI (pg0 + 1))) (C := RX2) (T := TX2) (N := 8) hx hb hts hinX2 hown hK hP 10 rfl rfl 3 (by decide) (hts (.fieldLink RX2 23 "BreakLines$Setting" "pages" "I") (by decide +kernel)) (fun _ h9 => h9) rfl dX2_take_117 ?_
          refine lv_aload_n hx hb dX2_take_120 rfl (lv_at hl 0 rfl) ?_
          refine va_get (D := D) (ci := 2) (v := .int (jI (ln0 + 1))) (C := RX2) (T := TX2) (N := 8) hx hb hts hinX2 hown hK hP 10 rfl rfl 2 (by decide) (hts (.fieldLink RX2 19 "BreakLines$Setting" "lines" "I") (by decide +kernel)) (fun _ h9 => h9) rfl dX2_take_121 ?_
          refine j_iast hx hb hK hP hD hS 12 0 rfl rfl (i := pg0 + 1) (by omega) (by decide) dX2_take_124 (fun H locs hP hD hS => ?_)
          have hP : va_P D vwCl (wPc q cI (sNb σ) (sWd σ) (sPp σ) (sCt σ) (sCs σ) mk la wa ++ wSe q cJ lp tp rk od fr fo ++ wSt q cI (fr ≠ 9223372036854775807) (if fr = 9223372036854775807 then -1 else fr / 1024) (ln0 + 1) (pg0 + 1) (updI fb0 (ln0 + 1) (i + 1)) (updI fl0 (pg0 + 1) (ln0 + 1)) (updI pl0 ln0 pg0) (updI lb0 i ln0)) H := hP
          have hD : va_D A (wPc q cI (sNb σ) (sWd σ) (sPp σ) (sCt σ) (sCs σ) mk la wa ++ wSe q cJ lp tp rk od fr fo ++ wSt q cI (fr ≠ 9223372036854775807) (if fr = 9223372036854775807 then -1 else fr / 1024) (ln0 + 1) (pg0 + 1) (updI fb0 (ln0 + 1) (i + 1)) (updI fl0 (pg0 + 1) (ln0 + 1)) (updI pl0 ln0 pg0) (updI lb0 i ln0)) := hD
          refine lv_iinc (v := jI (i + 1)) (lv' := [(3, .int (jI (i + 1))), (0, .ref (q 10)), (1, .ref (q 5)), (2, .int (jI (sNb σ)))]) hx hb dX2_take_125 hl (k := 3) rfl (jI_add _ _) (by decide) rfl (fun ls hl => ?_)
          refine lv_goto (tgt := 36) hx hb dX2_take_128 (by decide) ?_
          exact ih36 (i + 1, ln0 + 1, pg0 + 1, updI fb0 (ln0 + 1) (i + 1), updI fl0 (pg0 + 1) (ln0 + 1), updI pl0 ln0 pg0, updI lb0 i ln0, ls, H, locs) ⟨⟨by omega, setOK_tt hi2 (by omega) c56 c99⟩, by omega, lv_sub hl [1, 2, 3, 0] rfl, hP, hD, hS⟩
  · skip
    exact j_mretV hx hb hr hlocks hS dX2_take_33 (0, 0, fb, fl, pl, lb) ⟨h0, fun w => absurd w c30⟩ hP
end
