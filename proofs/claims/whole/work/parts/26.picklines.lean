/-! the contract of pickLines -/
noncomputable section
set_option maxHeartbeats 4000000 in
set_option maxRecDepth 100000 in
theorem kX4_pickLines (l : Launch) (D : va_G) (cI cJ cZ : ClassId) (r : Nat → Nat) (σ : Sg) (hS0 : okS σ) (rs : Int → Int) (kn : Prop) (be lm : Int) (lf : Int → Int) (pm : Int) (pf nw th pg : Int → Int) (s0 : List (Int × Bool)) (h : 0 < sNb σ ∧ lm = 0) (hB0 : isBest σ s0) (hbe : be = rkL σ s0 0 0) (hM : Mn (TS σ) be) (tb : tabM σ rs 0) : MuV l yX4_pickLines wsX4_pickLines 4 99 D (tyc cI cJ cZ) (wMo r cI cJ cZ (sWd σ) (sPp σ) (sNb σ) (sLs σ) (sWs σ) (sM σ) (sCs σ) (sCt σ) rs kn be lm lf pm pf nw th pg) [.ref (r 0)] (fun (u : Int × (Int → Int) × (Int → Int) × (Int → Int)) => u.1 = cnt (fun b => b ∈ endL s0) (sNb σ) ∧ u.2.1 0 = 0 ∧ u.2.1 u.1 = sNb σ ∧ ∀ b, 0 ≤ b → b < sNb σ → b ∈ endL s0 → u.2.1 (cnt (fun b => b ∈ endL s0) b + 1) = b + 1) (fun u => wMo r cI cJ cZ (sWd σ) (sPp σ) (sNb σ) (sLs σ) (sWs σ) (sM σ) (sCs σ) (sCt σ) rs kn be u.1 u.2.1 pm pf u.2.2.1 u.2.2.2 pg) := by
  intro sz
  refine j_start RX4 rfl (by decide) rfl (Nat.le_of_ble_eq_true rfl) ?_
  intro p e s m below meth c ls hx hb hr hlocks hml hown hts hnm hl ⟨hsz, hP, hK, hD0⟩
  subst hsz
  have hD := hD0.self (sz := s.heap.size)
  generalize hAe : va_A (wMo r cI cJ cZ (sWd σ) (sPp σ) (sNb σ) (sLs σ) (sWs σ) (sM σ) (sCs σ) (sCt σ) rs kn be lm lf pm pf nw th pg) s.heap.size = A at hD ⊢
  have hA : ∀ q : Nat, s.heap.size ≤ q → A q := fun q h => by rw [← hAe]; exact Or.inr h
  refine j_gen (fun H locs hHe hLe => ?_)
  have hS : va_S A s.heap H locs := by rw [hHe, hLe]; exact va_S.rf
  have hP : va_P D vwCl (wMo r cI cJ cZ (sWd σ) (sPp σ) (sNb σ) (sLs σ) (sWs σ) (sM σ) (sCs σ) (sCt σ) rs kn be lm lf pm pf nw th pg) H := by rw [hHe]; exact hP
  have hD : va_D A (wMo r cI cJ cZ (sWd σ) (sPp σ) (sNb σ) (sLs σ) (sWs σ) (sM σ) (sCs σ) (sCt σ) rs kn be lm lf pm pf nw th pg) := hD
  have hl : lv_has ls 4 [(0, .ref (r 0))] := hl
  have hinX4 : ∀ w ∈ u_ws RX4 TX4 18, w ∈ wsX4_pickLines := by decide +kernel
  have hnb := hS0.1
  have hwd := hS0.2.1
  have hpp := hS0.2.2.1
  have hct := hS0.2.2.2.1
  have hlen := okL_B hS0 s0 0 0 (by omega) (by omega) (by omega) hB0.1
  have hbe0 : 0 ≤ be ∧ be ≤ 4611686018427387904 := by rw [hbe]; omega
  refine j_iconst hx hb dX4_pickLines_0 ?_
  refine lv_istore_n (lv' := [(1, .int (jI 0)), (0, .ref (r 0))]) hx hb dX4_pickLines_1 rfl hl (by decide) rfl (fun ls hl => ?_)
  refine j_loop (α := Int × Int × (Int → Int) × (Int → Int) × (Int → Int) × Array Slot × Heap × List Loc) (h := fun z => match z with | (i, lm0, lf0, nw0, th0, ls, H, locs) => H) (lc := fun z => match z with | (i, lm0, lf0, nw0, th0, ls, H, locs) => locs) (f := fun z => match z with | (i, lm0, lf0, nw0, th0, ls, H, locs) => F0 m 2 ls []) (P := fun nn z => match z with | (i, lm0, lf0, nw0, th0, ls, H, locs) => (∃ R s2, s0 = R.reverse ++ s2 ∧ i = stF R ∧ lm0 = (R.length : Int) ∧ NWI σ (endL R) i nw0 ∧ lfOK (fun b => b ∈ endL s0) i lm0 lf0) ∧ (sNb σ - i).toNat < nn ∧ lv_has ls 4 [(0, .ref (r 0)), (1, .int (jI i))] ∧ va_P D vwCl (wMo r cI cJ cZ (sWd σ) (sPp σ) (sNb σ) (sLs σ) (sWs σ) (sM σ) (sCs σ) (sCt σ) rs kn be lm0 lf0 pm pf nw0 th0 pg) H ∧ va_D A (wMo r cI cJ cZ (sWd σ) (sPp σ) (sNb σ) (sLs σ) (sWs σ) (sM σ) (sCs σ) (sCt σ) rs kn be lm0 lf0 pm pf nw0 th0 pg) ∧ va_S A s.heap H locs) (fun z hz => ?_) ?_ ((sNb σ - 0).toNat + 1) (0, lm, lf, nw, th, ls, H, locs) ⟨⟨[], s0, rfl, rfl, h.2, Or.inl ⟨rfl, rfl⟩, by rw [h.2]; rfl, fun w => by omega, fun b b1 b2 => by omega, fun w => by omega⟩, Nat.lt_succ_self _, lv_sub hl [1, 0] rfl, hP, hD, hS⟩
  · obtain ⟨i, lm0, lf0, nw0, th0, ls, H, locs⟩ := z; exact absurd hz.2.1 (Nat.not_lt_zero _)
  intro n2 ih2 ⟨i, lm0, lf0, nw0, th0, ls, H, locs⟩ ⟨hi2, hm2, hl, hP, hD, hS⟩
  have hl : lv_has ls 4 [(0, .ref (r 0)), (1, .int (jI i))] := hl
  have hP : va_P D vwCl (wMo r cI cJ cZ (sWd σ) (sPp σ) (sNb σ) (sLs σ) (sWs σ) (sM σ) (sCs σ) (sCt σ) rs kn be lm0 lf0 pm pf nw0 th0 pg) H := hP
  have hD : va_D A (wMo r cI cJ cZ (sWd σ) (sPp σ) (sNb σ) (sLs σ) (sWs σ) (sM σ) (sCs σ) (sCt σ) rs kn be lm0 lf0 pm pf nw0 th0 pg) := hD
  have hS : va_S A s.heap H locs := hS
  show W p l e _ s m _ below meth c H locs _ _ _ (F0 m 2 ls [])
  obtain ⟨R, s2, hs, hi, hn, hNI, hlf⟩ := hi2
  obtain ⟨hK0, hO0⟩ := (st_ok R s2).mp (by rw [← hs]; exact hB0.1)
  have hst := st_B hS0 R hK0
  have hl0 : (s0.length : Int) = R.length + s2.length := by rw [hs]; simp
  refine lv_iload_n hx hb dX4_pickLines_2 rfl (lv_at hl 1 rfl) ?_
  refine lv_aload_n hx hb dX4_pickLines_3 rfl (lv_at hl 0 rfl) ?_
  refine va_get (D := D) (ci := 4) (v := .int (jI (sNb σ))) (C := RX4) (T := TX4) (N := 18) hx hb hts hinX4 hown hK hP 0 rfl rfl 2 (by decide) (hts (.fieldLink RX4 57 "BreakLinesModel" "bars" "I") (by decide +kernel)) (fun _ h9 => h9) rfl dX4_pickLines_4 ?_
  refine j_icmp_ge (tgt := 98) hx hb (by unfold i32; omega) dX4_pickLines_7 (by decide) (fun c7 => ?_) (fun c7 => ?_)
  · skip
    refine lv_aload_n hx hb dX4_pickLines_98 rfl (lv_at hl 0 rfl) ?_
    refine va_get (D := D) (ci := 4) (v := .ref (r 6)) (C := RX4) (T := TX4) (N := 18) hx hb hts hinX4 hown hK hP 0 rfl rfl 12 (by decide) (hts (.fieldLink RX4 27 "BreakLinesModel" "lineFrom" "[I") (by decide +kernel)) (fun _ h9 => h9) rfl dX4_pickLines_99 ?_
    refine lv_aload_n hx hb dX4_pickLines_102 rfl (lv_at hl 0 rfl) ?_
    refine va_get (D := D) (ci := 4) (v := .int (jI lm0)) (C := RX4) (T := TX4) (N := 18) hx hb hts hinX4 hown hK hP 0 rfl rfl 11 (by decide) (hts (.fieldLink RX4 122 "BreakLinesModel" "lineMany" "I") (by decide +kernel)) (fun _ h9 => h9) rfl dX4_pickLines_103 ?_
    refine lv_aload_n hx hb dX4_pickLines_106 rfl (lv_at hl 0 rfl) ?_
    refine va_get (D := D) (ci := 4) (v := .int (jI (sNb σ))) (C := RX4) (T := TX4) (N := 18) hx hb hts hinX4 hown hK hP 0 rfl rfl 2 (by decide) (hts (.fieldLink RX4 57 "BreakLinesModel" "bars" "I") (by decide +kernel)) (fun _ h9 => h9) rfl dX4_pickLines_107 ?_
    refine j_iast hx hb hK hP hD hS 6 0 rfl rfl (i := lm0) (by omega) (by decide) dX4_pickLines_110 (fun H locs hP hD hS => ?_)
    have hP : va_P D vwCl (wMo r cI cJ cZ (sWd σ) (sPp σ) (sNb σ) (sLs σ) (sWs σ) (sM σ) (sCs σ) (sCt σ) rs kn be lm0 (updI lf0 lm0 (sNb σ)) pm pf nw0 th0 pg) H := hP
    have hD : va_D A (wMo r cI cJ cZ (sWd σ) (sPp σ) (sNb σ) (sLs σ) (sWs σ) (sM σ) (sCs σ) (sCt σ) rs kn be lm0 (updI lf0 lm0 (sNb σ)) pm pf nw0 th0 pg) := hD
    exact j_mretV hx hb hr hlocks hS dX4_pickLines_111 (lm0, updI lf0 lm0 (sNb σ), nw0, th0) (by rw [show i = sNb σ by omega] at hlf; exact ⟨hlf.1, (lfOK_end hlf h.1).1, (lfOK_end hlf h.1).2.1, (lfOK_end hlf h.1).2.2⟩) hP
  · skip
    obtain ⟨j0, b0, s3, rfl⟩ : ∃ j0 b0 s3, s2 = (j0, b0) :: s3 := by
      cases s2 with
      | nil => exact absurd hO0.1 (by omega)
      | cons x s => exact ⟨x.1, x.2, s, rfl⟩
    have V0 : stF R ≤ j0 ∧ j0 < sNb σ ∧ may σ (stF R) j0 := by
      cases b0 with
      | true => exact ⟨hO0.1, hO0.2.1, hO0.2.2.1⟩
      | false => exact ⟨hO0.1, hO0.2.1, hO0.2.2.1⟩
    have hb2 : isBest σ (R.reverse ++ (j0, b0) :: s3) := by rw [← hs]; exact hB0
    have hbe2 : be = rkL σ (R.reverse ++ (j0, b0) :: s3) 0 0 := by rw [← hs]; exact hbe
    rw [List.length_cons] at hl0
    obtain ⟨mo, hmo⟩ : ∃ mo : Int, mo = if sCt σ = 0 then 0 else lm0 + 1 := ⟨_, rfl⟩
    have hmo2 : 0 ≤ mo ∧ mo ≤ 24 := by
      have hT0 := hB0.2.1
      unfold Tc at hT0
      split at hmo <;> omega
    refine lv_aload_n hx hb dX4_pickLines_10 rfl (lv_at hl 0 rfl) ?_
    refine va_get (D := D) (ci := 4) (v := .int (jI (sNb σ))) (C := RX4) (T := TX4) (N := 18) hx hb hts hinX4 hown hK hP 0 rfl rfl 2 (by decide) (hts (.fieldLink RX4 57 "BreakLinesModel" "bars" "I") (by decide +kernel)) (fun _ h9 => h9) rfl dX4_pickLines_11 ?_
    refine j_iconst hx hb dX4_pickLines_14 ?_
    refine j_isub hx hb dX4_pickLines_15 ?_
    refine lv_istore_n (lv' := [(2, .int (jI ((sNb σ) - 1))), (0, .ref (r 0)), (1, .int (jI i))]) hx hb dX4_pickLines_16 rfl hl (by decide) rfl (fun ls hl => ?_)
    refine j_loop (α := Int × (Int → Int) × Array Slot × Heap × List Loc) (h := fun z => match z with | (j, th1, ls, H, locs) => H) (lc := fun z => match z with | (j, th1, ls, H, locs) => locs) (f := fun z => match z with | (j, th1, ls, H, locs) => F0 m 17 ls []) (P := fun nn z => match z with | (j, th1, ls, H, locs) => (j0 ≤ j ∧ j < sNb σ) ∧ (j + 1).toNat < nn ∧ lv_has ls 4 [(0, .ref (r 0)), (1, .int (jI i)), (2, .int (jI j))] ∧ va_P D vwCl (wMo r cI cJ cZ (sWd σ) (sPp σ) (sNb σ) (sLs σ) (sWs σ) (sM σ) (sCs σ) (sCt σ) rs kn be lm0 lf0 pm pf nw0 th1 pg) H ∧ va_D A (wMo r cI cJ cZ (sWd σ) (sPp σ) (sNb σ) (sLs σ) (sWs σ) (sM σ) (sCs σ) (sCt σ) rs kn be lm0 lf0 pm pf nw0 th1 pg) ∧ va_S A s.heap H locs) (fun z hz => ?_) ?_ ((sNb σ - 1 + 1).toNat + 1) ((sNb σ) - 1, th0, ls, H, locs) ⟨⟨by omega, by omega⟩, Nat.lt_succ_self _, lv_sub hl [1, 2, 0] rfl, hP, hD, hS⟩
    · obtain ⟨j, th1, ls, H, locs⟩ := z; exact absurd hz.2.1 (Nat.not_lt_zero _)
    intro n17 ih17 ⟨j, th1, ls, H, locs⟩ ⟨hi17, hm17, hl, hP, hD, hS⟩
    have hl : lv_has ls 4 [(0, .ref (r 0)), (1, .int (jI i)), (2, .int (jI j))] := hl
    have hP : va_P D vwCl (wMo r cI cJ cZ (sWd σ) (sPp σ) (sNb σ) (sLs σ) (sWs σ) (sM σ) (sCs σ) (sCt σ) rs kn be lm0 lf0 pm pf nw0 th1 pg) H := hP
    have hD : va_D A (wMo r cI cJ cZ (sWd σ) (sPp σ) (sNb σ) (sLs σ) (sWs σ) (sM σ) (sCs σ) (sCt σ) rs kn be lm0 lf0 pm pf nw0 th1 pg) := hD
    have hS : va_S A s.heap H locs := hS
    show W p l e _ s m _ below meth c H locs _ _ _ (F0 m 17 ls [])
    obtain ⟨hj1, hj2⟩ := hi17
    refine lv_aload_n hx hb dX4_pickLines_17 rfl (lv_at hl 0 rfl) ?_
    refine lv_iload_n hx hb dX4_pickLines_18 rfl (lv_at hl 1 rfl) ?_
    refine lv_iload_n hx hb dX4_pickLines_19 rfl (lv_at hl 2 rfl) ?_
    refine j_cVI (As := [.int (jI i), .int (jI j)]) (rest := []) ⟨hx, hb, hml, hown, hts⟩ (kX4_mayBe l D cI cJ cZ r σ hS0 rs kn be lm0 lf0 pm pf nw0 th1 pg i j (by omega)) (cwV 2 hts gX4_pickLines_X4_mayBe rfl rfl rfl (by decide +kernel) ⟨Nat.le_of_ble_eq_true rfl, Nat.le_of_ble_eq_true rfl⟩) hK hP (va_recv hK hP (ci := 4) (q0 := 0) rfl rfl) rfl hl.1 rfl (Nat.le_of_ble_eq_true rfl) ⟨Nat.zero_le _, Nat.zero_le _⟩ dX4_pickLines_20 ?_
    refine j_ifeqZ (tgt := 39) hx hb dX4_pickLines_23 (by decide) (fun c23 => ?_) (fun c23 => ?_)
    · skip
      have hne : j ≠ j0 := fun w => c23 (by rw [w, hi]; exact V0.2.2)
      refine lv_iinc (v := jI (j + (-1))) (lv' := [(2, .int (jI (j + (-1)))), (0, .ref (r 0)), (1, .int (jI i))]) hx hb dX4_pickLines_39 hl (k := 2) rfl (jI_add _ _) (by decide) rfl (fun ls hl => ?_)
      refine lv_goto (tgt := 17) hx hb dX4_pickLines_42 (by decide) ?_
      exact ih17 (j + (-1), th1, ls, H, locs) ⟨⟨by omega, by omega⟩, by omega, lv_sub hl [1, 2, 0] rfl, hP, hD, hS⟩
    · skip
      refine lv_aload_n hx hb dX4_pickLines_26 rfl (lv_at hl 0 rfl) ?_
      refine lv_iload_n hx hb dX4_pickLines_27 rfl (lv_at hl 1 rfl) ?_
      refine lv_iload_n hx hb dX4_pickLines_28 rfl (lv_at hl 2 rfl) ?_
      refine lv_aload_n hx hb dX4_pickLines_29 rfl (lv_at hl 0 rfl) ?_
      refine va_get (D := D) (ci := 4) (v := .int (jI lm0)) (C := RX4) (T := TX4) (N := 18) hx hb hts hinX4 hown hK hP 0 rfl rfl 11 (by decide) (hts (.fieldLink RX4 122 "BreakLinesModel" "lineMany" "I") (by decide +kernel)) (fun _ h9 => h9) rfl dX4_pickLines_30 ?_
      refine j_mVI (As := [.int (jI i), .int (jI j), .int (jI lm0)]) (rest := []) ⟨hx, hb, hml, hown, hts⟩ (kX4_reaches l D cI cJ cZ r σ hS0 rs kn be lm0 lf0 pm pf nw0 th1 pg i j lm0 (endL R) mo ⟨⟨by rw [← stF_sF]; exact hi, by omega, by omega, by omega⟩, hbe0, by omega⟩ hmo hmo2 hNI tb (ge_of hS0 hM (by rw [hn]; simp [endL]) hmo (by rw [← stF_sF, ← hi]; exact ⟨by omega, hj2, c23⟩))) (cwV 3 hts gX4_pickLines_X4_reaches rfl rfl rfl (by decide +kernel) ⟨Nat.le_of_ble_eq_true rfl, Nat.le_of_ble_eq_true rfl⟩) hK hP hD hS hA (va_recv hK hP (ci := 4) (q0 := 0) rfl rfl) rfl hl.1 rfl (Nat.le_of_ble_eq_true rfl) ⟨Nat.zero_le _, Nat.zero_le _⟩ dX4_pickLines_33 [0, 1, 2, 3, 4, 5, 6, 7, 8, 9, 10] [] [0, 1, 2, 3, 4, 5, 6, 7, 8, 9, 10] rfl (by decide) (wr := ([] : va_W)) rfl (by decide) (by decide) (fun _ => rfl) (fun u => wMo r cI cJ cZ (sWd σ) (sPp σ) (sNb σ) (sLs σ) (sWs σ) (sM σ) (sCs σ) (sCt σ) rs kn be lm0 lf0 pm pf nw0 u pg) (fun _ => rfl) (fun _ => rfl) (fun rr1 thc1 H locs hu1 hP hD hS => ?_)
      obtain ⟨hr1, hw1⟩ := hu1
      refine j_topi (y := jZ (RCH σ be (endL R) j mo)) hr1 ?_
      have hP : va_P D vwCl (wMo r cI cJ cZ (sWd σ) (sPp σ) (sNb σ) (sLs σ) (sWs σ) (sM σ) (sCs σ) (sCt σ) rs kn be lm0 lf0 pm pf nw0 thc1 pg) H := hP
      have hD : va_D A (wMo r cI cJ cZ (sWd σ) (sPp σ) (sNb σ) (sLs σ) (sWs σ) (sM σ) (sCs σ) (sCt σ) rs kn be lm0 lf0 pm pf nw0 thc1 pg) := hD
      refine j_ifneZ (tgt := 45) hx hb dX4_pickLines_36 (by decide) (fun c36 => ?_) (fun c36 => ?_)
      · skip
        have hjj : j = j0 := pick_eq hS0 hb2 hbe2 hn hmo hj1 (by rw [← stF_sF, ← hi]; exact ⟨by omega, hj2, c23⟩) c36
        refine lv_aload_n hx hb dX4_pickLines_45 rfl (lv_at hl 0 rfl) ?_
        refine va_get (D := D) (ci := 4) (v := .ref (r 6)) (C := RX4) (T := TX4) (N := 18) hx hb hts hinX4 hown hK hP 0 rfl rfl 12 (by decide) (hts (.fieldLink RX4 27 "BreakLinesModel" "lineFrom" "[I") (by decide +kernel)) (fun _ h9 => h9) rfl dX4_pickLines_46 ?_
        refine lv_aload_n hx hb dX4_pickLines_49 rfl (lv_at hl 0 rfl) ?_
        refine va_get (D := D) (ci := 4) (v := .int (jI lm0)) (C := RX4) (T := TX4) (N := 18) hx hb hts hinX4 hown hK hP 0 rfl rfl 11 (by decide) (hts (.fieldLink RX4 122 "BreakLinesModel" "lineMany" "I") (by decide +kernel)) (fun _ h9 => h9) rfl dX4_pickLines_50 ?_
        refine lv_iload_n hx hb dX4_pickLines_53 rfl (lv_at hl 1 rfl) ?_
        refine j_iast hx hb hK hP hD hS 6 0 rfl rfl (i := lm0) (by omega) (by decide) dX4_pickLines_54 (fun H locs hP hD hS => ?_)
        have hP : va_P D vwCl (wMo r cI cJ cZ (sWd σ) (sPp σ) (sNb σ) (sLs σ) (sWs σ) (sM σ) (sCs σ) (sCt σ) rs kn be lm0 (updI lf0 lm0 i) pm pf nw0 thc1 pg) H := hP
        have hD : va_D A (wMo r cI cJ cZ (sWd σ) (sPp σ) (sNb σ) (sLs σ) (sWs σ) (sM σ) (sCs σ) (sCt σ) rs kn be lm0 (updI lf0 lm0 i) pm pf nw0 thc1 pg) := hD
        refine lv_aload_n hx hb dX4_pickLines_55 rfl (lv_at hl 0 rfl) ?_
        refine lv_dup hx hb dX4_pickLines_56 rfl ?_
        refine va_get (D := D) (ci := 4) (v := .int (jI lm0)) (C := RX4) (T := TX4) (N := 18) hx hb hts hinX4 hown hK hP 0 rfl rfl 11 (by decide) (hts (.fieldLink RX4 122 "BreakLinesModel" "lineMany" "I") (by decide +kernel)) (fun _ h9 => h9) rfl dX4_pickLines_57 ?_
        refine j_iconst hx hb dX4_pickLines_60 ?_
        refine j_iadd hx hb dX4_pickLines_61 ?_
        refine va_put (D := D) (ci := 4) (v := .int (jI (lm0 + 1))) (ty := .int) (C := RX4) (T := TX4) (N := 18) hx hb hts hinX4 tyX4 tyX4_ok nmX4 hown hK hP hD hS 0 rfl rfl 11 (by decide) (hts (.fieldLink RX4 122 "BreakLinesModel" "lineMany" "I") (by decide +kernel)) (fun _ h9 => h9) rfl (by decide +kernel) rfl rfl (Nat.le_of_ble_eq_true rfl) dX4_pickLines_62 (fun H locs hP hD hS => ?_)
        have hP : va_P D vwCl (wMo r cI cJ cZ (sWd σ) (sPp σ) (sNb σ) (sLs σ) (sWs σ) (sM σ) (sCs σ) (sCt σ) rs kn be (lm0 + 1) (updI lf0 lm0 i) pm pf nw0 thc1 pg) H := hP
        have hD : va_D A (wMo r cI cJ cZ (sWd σ) (sPp σ) (sNb σ) (sLs σ) (sWs σ) (sM σ) (sCs σ) (sCt σ) rs kn be (lm0 + 1) (updI lf0 lm0 i) pm pf nw0 thc1 pg) := hD
        refine j_iconst hx hb dX4_pickLines_65 ?_
        refine lv_istore_n (lv' := [(3, .int (jI 0)), (0, .ref (r 0)), (1, .int (jI i)), (2, .int (jI j))]) hx hb dX4_pickLines_66 rfl hl (by decide) rfl (fun ls hl => ?_)
        refine j_loop (α := Int × (Int → Int) × Array Slot × Heap × List Loc) (h := fun z => match z with | (k, nw1, ls, H, locs) => H) (lc := fun z => match z with | (k, nw1, ls, H, locs) => locs) (f := fun z => match z with | (k, nw1, ls, H, locs) => F0 m 67 ls []) (P := fun nn z => match z with | (k, nw1, ls, H, locs) => ((0 ≤ k ∧ k ≤ 18) ∧ ∀ m, 0 ≤ m → m < k → nw1 m = thc1 m) ∧ (18 - k).toNat < nn ∧ lv_has ls 4 [(0, .ref (r 0)), (1, .int (jI i)), (2, .int (jI j)), (3, .int (jI k))] ∧ va_P D vwCl (wMo r cI cJ cZ (sWd σ) (sPp σ) (sNb σ) (sLs σ) (sWs σ) (sM σ) (sCs σ) (sCt σ) rs kn be (lm0 + 1) (updI lf0 lm0 i) pm pf nw1 thc1 pg) H ∧ va_D A (wMo r cI cJ cZ (sWd σ) (sPp σ) (sNb σ) (sLs σ) (sWs σ) (sM σ) (sCs σ) (sCt σ) rs kn be (lm0 + 1) (updI lf0 lm0 i) pm pf nw1 thc1 pg) ∧ va_S A s.heap H locs) (fun z hz => ?_) ?_ ((18 - 0 : Int).toNat + 1) (0, nw0, ls, H, locs) ⟨⟨by omega, fun m h1 h2 => by omega⟩, Nat.lt_succ_self _, lv_sub hl [1, 2, 3, 0] rfl, hP, hD, hS⟩
        · obtain ⟨k, nw1, ls, H, locs⟩ := z; exact absurd hz.2.1 (Nat.not_lt_zero _)
        intro n67 ih67 ⟨k, nw1, ls, H, locs⟩ ⟨hi67, hm67, hl, hP, hD, hS⟩
        have hl : lv_has ls 4 [(0, .ref (r 0)), (1, .int (jI i)), (2, .int (jI j)), (3, .int (jI k))] := hl
        have hP : va_P D vwCl (wMo r cI cJ cZ (sWd σ) (sPp σ) (sNb σ) (sLs σ) (sWs σ) (sM σ) (sCs σ) (sCt σ) rs kn be (lm0 + 1) (updI lf0 lm0 i) pm pf nw1 thc1 pg) H := hP
        have hD : va_D A (wMo r cI cJ cZ (sWd σ) (sPp σ) (sNb σ) (sLs σ) (sWs σ) (sM σ) (sCs σ) (sCt σ) rs kn be (lm0 + 1) (updI lf0 lm0 i) pm pf nw1 thc1 pg) := hD
        have hS : va_S A s.heap H locs := hS
        show W p l e _ s m _ below meth c H locs _ _ _ (F0 m 67 ls [])
        obtain ⟨hk1, hk2⟩ := hi67
        refine lv_iload_n hx hb dX4_pickLines_67 rfl (lv_at hl 3 rfl) ?_
        refine j_bipush hx hb dX4_pickLines_68 (by decide) ?_
        refine j_icmp_ge (tgt := 91) hx hb (by unfold i32; omega) dX4_pickLines_70 (by decide) (fun c70 => ?_) (fun c70 => ?_)
        · skip
          refine lv_iload_n hx hb dX4_pickLines_91 rfl (lv_at hl 2 rfl) ?_
          refine j_iconst hx hb dX4_pickLines_92 ?_
          refine j_iadd hx hb dX4_pickLines_93 ?_
          refine lv_istore_n (lv' := [(1, .int (jI (j + 1))), (0, .ref (r 0)), (2, .int (jI j)), (3, .int (jI k))]) hx hb dX4_pickLines_94 rfl hl (by decide) rfl (fun ls hl => ?_)
          refine lv_goto (tgt := 2) hx hb dX4_pickLines_95 (by decide) ?_
          exact ih2 (j + 1, lm0 + 1, updI lf0 lm0 i, nw1, thc1, ls, H, locs) ⟨⟨(j0, b0) :: R, s3, by rw [hs]; simp, by rw [stF_c]; omega, by rw [List.length_cons]; omega, by rw [hjj] at hw1 ⊢; exact NWI_cons hS0 hK0 V0 hw1 (fun m h1 h2 => hk2 m h1 (by omega)), by have z := lfOK_step hlf (by omega) (show i ≤ j by omega) (by rw [hs, hi, hjj]; exact (end_gap hS0 hb2.1).1) (by rw [hs, hjj]; exact (end_gap hS0 hb2.1).2); exact z⟩, by omega, lv_sub hl [1, 0] rfl, hP, hD, hS⟩
        · skip
          refine lv_aload_n hx hb dX4_pickLines_73 rfl (lv_at hl 0 rfl) ?_
          refine va_get (D := D) (ci := 4) (v := .ref (r 8)) (C := RX4) (T := TX4) (N := 18) hx hb hts hinX4 hown hK hP 0 rfl rfl 15 (by decide) (hts (.fieldLink RX4 33 "BreakLinesModel" "now" "[J") (by decide +kernel)) (fun _ h9 => h9) rfl dX4_pickLines_74 ?_
          refine lv_iload_n hx hb dX4_pickLines_77 rfl (lv_at hl 3 rfl) ?_
          refine lv_aload_n hx hb dX4_pickLines_78 rfl (lv_at hl 0 rfl) ?_
          refine va_get (D := D) (ci := 4) (v := .ref (r 9)) (C := RX4) (T := TX4) (N := 18) hx hb hts hinX4 hown hK hP 0 rfl rfl 16 (by decide) (hts (.fieldLink RX4 36 "BreakLinesModel" "then" "[J") (by decide +kernel)) (fun _ h9 => h9) rfl dX4_pickLines_79 ?_
          refine lv_iload_n hx hb dX4_pickLines_82 rfl (lv_at hl 3 rfl) ?_
          refine j_lald hx hb hK hP 9 1 rfl rfl (i := k) (by omega) (by decide) dX4_pickLines_83 ?_
          refine j_last hx hb hK hP hD hS 8 1 rfl rfl (i := k) (by omega) (by decide) dX4_pickLines_84 (fun H locs hP hD hS => ?_)
          have hP : va_P D vwCl (wMo r cI cJ cZ (sWd σ) (sPp σ) (sNb σ) (sLs σ) (sWs σ) (sM σ) (sCs σ) (sCt σ) rs kn be (lm0 + 1) (updI lf0 lm0 i) pm pf (updI nw1 k (thc1 k)) thc1 pg) H := hP
          have hD : va_D A (wMo r cI cJ cZ (sWd σ) (sPp σ) (sNb σ) (sLs σ) (sWs σ) (sM σ) (sCs σ) (sCt σ) rs kn be (lm0 + 1) (updI lf0 lm0 i) pm pf (updI nw1 k (thc1 k)) thc1 pg) := hD
          refine lv_iinc (v := jI (k + 1)) (lv' := [(3, .int (jI (k + 1))), (0, .ref (r 0)), (1, .int (jI i)), (2, .int (jI j))]) hx hb dX4_pickLines_85 hl (k := 3) rfl (jI_add _ _) (by decide) rfl (fun ls hl => ?_)
          refine lv_goto (tgt := 67) hx hb dX4_pickLines_88 (by decide) ?_
          exact ih67 (k + 1, updI nw1 k (thc1 k), ls, H, locs) ⟨⟨by omega, fun m h1 h2 => by
          by_cases w : m = k
          · rw [w, updI_s]
          · rw [updI_n w]; exact hk2 m h1 (by omega)⟩, by omega, lv_sub hl [1, 2, 3, 0] rfl, hP, hD, hS⟩
      · skip
        have hne : j ≠ j0 := fun w => c36 (by rw [w]; exact pick_has hS0 hb2 hbe2 hn hmo)
        refine lv_iinc (v := jI (j + (-1))) (lv' := [(2, .int (jI (j + (-1)))), (0, .ref (r 0)), (1, .int (jI i))]) hx hb dX4_pickLines_39 hl (k := 2) rfl (jI_add _ _) (by decide) rfl (fun ls hl => ?_)
        refine lv_goto (tgt := 17) hx hb dX4_pickLines_42 (by decide) ?_
        exact ih17 (j + (-1), thc1, ls, H, locs) ⟨⟨by omega, by omega⟩, by omega, lv_sub hl [1, 2, 0] rfl, hP, hD, hS⟩
end
