/-! the contracts of BreakLines$Search -/
noncomputable section
set_option maxHeartbeats 4000000 in
set_option maxRecDepth 100000 in
theorem kX1_lineEnd (l : Launch) (D : va_G) (cI cJ cZ : ClassId) (t : Int) (h : 0 ≤ t ∧ t < 24) : RoL l yX1_lineEnd wsX1_lineEnd 0 0 D (tyc cI cJ cZ) ([]) [.int (jI t)] (jL (leB t)) := by
  refine j_start RX1 rfl (by decide) rfl (Nat.le_of_ble_eq_true rfl) ?_
  intro p e s m below meth c ls hx hb hr hlocks hml hown hts hnm hl ⟨hP, hK⟩
  have hP : va_P D vwCl ([]) s.heap := hP
  have hl : lv_has ls 1 [(0, .int (jI t))] := hl
  refine j_lconst1 hx hb dX1_lineEnd_0 ?_
  refine j_bipush hx hb dX1_lineEnd_1 (by decide) ?_
  refine lv_iload_n hx hb dX1_lineEnd_3 rfl (lv_at hl 0 rfl) ?_
  refine j_isub hx hb dX1_lineEnd_4 ?_
  refine lv_lshl (v := (jL (leB t))) hx hb dX1_lineEnd_5 (jL_bit (by omega) (by omega)) ?_
  exact j_retL hx hb hr hlocks dX1_lineEnd_6 rfl
set_option maxHeartbeats 4000000 in
set_option maxRecDepth 100000 in
theorem kX1_pageEnd (l : Launch) (D : va_G) (cI cJ cZ : ClassId) (t : Int) (h : 0 ≤ t ∧ t < 24) : RoL l yX1_pageEnd wsX1_pageEnd 0 0 D (tyc cI cJ cZ) ([]) [.int (jI t)] (jL (peB t)) := by
  refine j_start RX1 rfl (by decide) rfl (Nat.le_of_ble_eq_true rfl) ?_
  intro p e s m below meth c ls hx hb hr hlocks hml hown hts hnm hl ⟨hP, hK⟩
  have hP : va_P D vwCl ([]) s.heap := hP
  have hl : lv_has ls 1 [(0, .int (jI t))] := hl
  refine j_lconst1 hx hb dX1_pageEnd_0 ?_
  refine j_bipush hx hb dX1_pageEnd_1 (by decide) ?_
  refine lv_iload_n hx hb dX1_pageEnd_3 rfl (lv_at hl 0 rfl) ?_
  refine j_isub hx hb dX1_pageEnd_4 ?_
  refine lv_lshl (v := (jL (peB t))) hx hb dX1_pageEnd_5 (jL_bit (by omega) (by omega)) ?_
  exact j_retL hx hb hr hlocks dX1_pageEnd_6 rfl
set_option maxHeartbeats 4000000 in
set_option maxRecDepth 100000 in
theorem kX1_hasFound (l : Launch) (D : va_G) (cI cJ cZ : ClassId) (q : Nat → Nat) (σ : Sg) (la wa : Int → Int) (mk : Nat → Int32) (hok : okP σ la wa mk) (lp tp rk od : Int → Int) (fr fo : Int) (h : i64 fr) : RoI l yX1_hasFound wsX1_hasFound 0 0 D (tyc cI cJ cZ) (wPc q cI (sNb σ) (sWd σ) (sPp σ) (sCt σ) (sCs σ) mk la wa ++ wSe q cJ lp tp rk od fr fo) [.ref (q 5)] (jZ (fr ≠ 9223372036854775807)) := by
  refine j_start RX1 rfl (by decide) rfl (Nat.le_of_ble_eq_true rfl) ?_
  intro p e s m below meth c ls hx hb hr hlocks hml hown hts hnm hl ⟨hP, hK⟩
  have hP : va_P D vwCl (wPc q cI (sNb σ) (sWd σ) (sPp σ) (sCt σ) (sCs σ) mk la wa ++ wSe q cJ lp tp rk od fr fo) s.heap := hP
  have hl : lv_has ls 1 [(0, .ref (q 5))] := hl
  have hinX1 : ∀ w ∈ u_ws RX1 TX1 7, w ∈ wsX1_hasFound := by decide +kernel
  unfold i64 at h
  refine lv_aload_n hx hb dX1_hasFound_0 rfl (lv_at hl 0 rfl) ?_
  refine va_get (D := D) (ci := 1) (v := .long (jL fr)) (C := RX1) (T := TX1) (N := 7) hx hb hts hinX1 hown hK hP 5 rfl rfl 5 (by decide) (hts (.fieldLink RX1 32 "BreakLines$Search" "foundRank" "J") (by decide +kernel)) (fun _ h9 => h9) rfl dX1_hasFound_1 ?_
  refine lv_ldc2 (v := jL 9223372036854775807) hx hb hown (hts (.constantLong RX1 30 (9223372036854775807)) (by decide +kernel)) dX1_hasFound_4 ?_
  refine j_lcmp_eq (tgt := 15) hx hb (by unfold i64; omega) dX1_hasFound_7 dX1_hasFound_8 (by decide) (fun c7 => ?_) (fun c7 => ?_)
  · skip
    refine j_iconst hx hb dX1_hasFound_15 ?_
    exact j_retZ hx hb hr (by decide) hlocks dX1_hasFound_16 ((jZ_f (by omega)).symm)
  · skip
    refine j_iconst hx hb dX1_hasFound_11 ?_
    refine lv_goto (tgt := 16) hx hb dX1_hasFound_12 (by decide) ?_
    exact j_retZ hx hb hr (by decide) hlocks dX1_hasFound_16 ((jZ_t (by omega)).symm)
set_option maxHeartbeats 4000000 in
set_option maxRecDepth 100000 in
theorem kX1_foundTotal (l : Launch) (D : va_G) (cI cJ cZ : ClassId) (q : Nat → Nat) (σ : Sg) (la wa : Int → Int) (mk : Nat → Int32) (hok : okP σ la wa mk) (lp tp rk od : Int → Int) (fr fo : Int) (h : 0 ≤ fr ∧ fr ≤ 9223372036854775807) : RoL l yX1_foundTotal wsX1_foundTotal 1 20 D (tyc cI cJ cZ) (wPc q cI (sNb σ) (sWd σ) (sPp σ) (sCt σ) (sCs σ) mk la wa ++ wSe q cJ lp tp rk od fr fo) [.ref (q 5)] (jL (if fr = 9223372036854775807 then -1 else fr / 1024)) := by
  refine j_start RX1 rfl (by decide) rfl (Nat.le_of_ble_eq_true rfl) ?_
  intro p e s m below meth c ls hx hb hr hlocks hml hown hts hnm hl ⟨hP, hK⟩
  have hP : va_P D vwCl (wPc q cI (sNb σ) (sWd σ) (sPp σ) (sCt σ) (sCs σ) mk la wa ++ wSe q cJ lp tp rk od fr fo) s.heap := hP
  have hl : lv_has ls 1 [(0, .ref (q 5))] := hl
  have hinX1 : ∀ w ∈ u_ws RX1 TX1 7, w ∈ wsX1_foundTotal := by decide +kernel
  refine lv_aload_n hx hb dX1_foundTotal_0 rfl (lv_at hl 0 rfl) ?_
  refine j_cVI (As := []) (rest := []) ⟨hx, hb, hml, hown, hts⟩ (kX1_hasFound l D cI cJ cZ q σ la wa mk hok lp tp rk od fr fo  (by unfold i64; omega)) (cwV 0 hts gX1_foundTotal_X1_hasFound rfl rfl rfl (by decide +kernel) ⟨Nat.le_of_ble_eq_true rfl, Nat.le_of_ble_eq_true rfl⟩) hK hP (va_recv hK hP (ci := 1) (q0 := 5) rfl rfl) rfl hl.1 rfl (Nat.le_of_ble_eq_true rfl) ⟨Nat.zero_le _, Nat.zero_le _⟩ dX1_foundTotal_1 ?_
  refine j_ifeqZ (tgt := 18) hx hb dX1_foundTotal_4 (by decide) (fun c4 => ?_) (fun c4 => ?_)
  · skip
    refine lv_ldc2 (v := jL (-1)) hx hb hown (hts (.constantLong RX1 64 (-1)) (by decide +kernel)) dX1_foundTotal_18 ?_
    exact j_retL hx hb hr hlocks dX1_foundTotal_21 (congrArg jL (by rw [if_pos (Classical.not_not.mp c4)]))
  · skip
    refine lv_aload_n hx hb dX1_foundTotal_7 rfl (lv_at hl 0 rfl) ?_
    refine va_get (D := D) (ci := 1) (v := .long (jL fr)) (C := RX1) (T := TX1) (N := 7) hx hb hts hinX1 hown hK hP 5 rfl rfl 5 (by decide) (hts (.fieldLink RX1 32 "BreakLines$Search" "foundRank" "J") (by decide +kernel)) (fun _ h9 => h9) rfl dX1_foundTotal_8 ?_
    refine lv_ldc2 (v := jL 1024) hx hb hown (hts (.constantLong RX1 62 (1024)) (by decide +kernel)) dX1_foundTotal_11 ?_
    refine j_ldiv hx hb (by omega) dX1_foundTotal_14 ?_
    refine lv_goto (tgt := 21) hx hb dX1_foundTotal_15 (by decide) ?_
    exact j_retL hx hb hr hlocks dX1_foundTotal_21 (congrArg jL (by rw [if_neg c4]))
set_option maxHeartbeats 4000000 in
set_option maxRecDepth 100000 in
theorem kX1_lineEndsAt (l : Launch) (D : va_G) (cI cJ cZ : ClassId) (q : Nat → Nat) (σ : Sg) (la wa : Int → Int) (mk : Nat → Int32) (hok : okP σ la wa mk) (lp tp rk od : Int → Int) (fr fo : Int) (t : Int) (h : (0 ≤ fo ∧ fo ≤ 9223372036854775807) ∧ 0 ≤ t ∧ t < 24) : RoI l yX1_lineEndsAt wsX1_lineEndsAt 1 20 D (tyc cI cJ cZ) (wPc q cI (sNb σ) (sWd σ) (sPp σ) (sCt σ) (sCs σ) mk la wa ++ wSe q cJ lp tp rk od fr fo) [.ref (q 5), .int (jI t)] (jZ (fo / leB t % 2 = 1)) := by
  refine j_start RX1 rfl (by decide) rfl (Nat.le_of_ble_eq_true rfl) ?_
  intro p e s m below meth c ls hx hb hr hlocks hml hown hts hnm hl ⟨hP, hK⟩
  have hP : va_P D vwCl (wPc q cI (sNb σ) (sWd σ) (sPp σ) (sCt σ) (sCs σ) mk la wa ++ wSe q cJ lp tp rk od fr fo) s.heap := hP
  have hl : lv_has ls 2 [(0, .ref (q 5)), (1, .int (jI t))] := hl
  have hinX1 : ∀ w ∈ u_ws RX1 TX1 7, w ∈ wsX1_lineEndsAt := by decide +kernel
  refine lv_aload_n hx hb dX1_lineEndsAt_0 rfl (lv_at hl 0 rfl) ?_
  refine va_get (D := D) (ci := 1) (v := .long (jL fo)) (C := RX1) (T := TX1) (N := 7) hx hb hts hinX1 hown hK hP 5 rfl rfl 6 (by decide) (hts (.fieldLink RX1 36 "BreakLines$Search" "foundOrder" "J") (by decide +kernel)) (fun _ h9 => h9) rfl dX1_lineEndsAt_1 ?_
  refine lv_iload_n hx hb dX1_lineEndsAt_4 rfl (lv_at hl 1 rfl) ?_
  refine j_cSL (As := [.int (jI t)]) (rest := [.long (jL fo)]) ⟨hx, hb, hml, hown, hts⟩ (kX1_lineEnd l D cI cJ cZ t (by omega)) (va_cwS 1 hts gX1_lineEndsAt_X1_lineEnd rfl rfl rfl (by decide +kernel) ⟨Nat.le_of_ble_eq_true rfl, Nat.le_of_ble_eq_true rfl⟩) hK (hP.sub [] rfl) rfl hl.1 rfl (Nat.le_of_ble_eq_true rfl) ⟨Nat.zero_le _, Nat.zero_le _⟩ dX1_lineEndsAt_5 ?_
  refine lv_land hx hb dX1_lineEndsAt_8 ?_
  refine j_lconst0 hx hb dX1_lineEndsAt_9 ?_
  refine W.lcmp hx hb dX1_lineEndsAt_10 (lv_if_eq (tgt := 18) hx hb dX1_lineEndsAt_11 (by decide) (fun c10 => ?_) (fun c10 => ?_))
  · skip
    refine j_iconst hx hb dX1_lineEndsAt_18 ?_
    exact j_retZ hx hb hr (by decide) hlocks dX1_lineEndsAt_19 ((jZ_f (by unfold leB; first | exact fun w => ((jL_and (o := fo) h.1.1 (by omega) (by omega)).mp ((lg_cmp_eq _ _).mp c10)) w | exact Classical.byContradiction (fun w => c10 ((lg_cmp_eq _ _).mpr ((jL_and (o := fo) h.1.1 (by omega) (by omega)).mpr w))))).symm)
  · skip
    refine j_iconst hx hb dX1_lineEndsAt_14 ?_
    refine lv_goto (tgt := 19) hx hb dX1_lineEndsAt_15 (by decide) ?_
    exact j_retZ hx hb hr (by decide) hlocks dX1_lineEndsAt_19 ((jZ_t (by unfold leB; first | exact fun w => ((jL_and (o := fo) h.1.1 (by omega) (by omega)).mp ((lg_cmp_eq _ _).mp c10)) w | exact Classical.byContradiction (fun w => c10 ((lg_cmp_eq _ _).mpr ((jL_and (o := fo) h.1.1 (by omega) (by omega)).mpr w))))).symm)
set_option maxHeartbeats 4000000 in
set_option maxRecDepth 100000 in
theorem kX1_pageEndsAt (l : Launch) (D : va_G) (cI cJ cZ : ClassId) (q : Nat → Nat) (σ : Sg) (la wa : Int → Int) (mk : Nat → Int32) (hok : okP σ la wa mk) (lp tp rk od : Int → Int) (fr fo : Int) (t : Int) (h : (0 ≤ fo ∧ fo ≤ 9223372036854775807) ∧ 0 ≤ t ∧ t < 24) : RoI l yX1_pageEndsAt wsX1_pageEndsAt 1 20 D (tyc cI cJ cZ) (wPc q cI (sNb σ) (sWd σ) (sPp σ) (sCt σ) (sCs σ) mk la wa ++ wSe q cJ lp tp rk od fr fo) [.ref (q 5), .int (jI t)] (jZ (fo / peB t % 2 = 1)) := by
  refine j_start RX1 rfl (by decide) rfl (Nat.le_of_ble_eq_true rfl) ?_
  intro p e s m below meth c ls hx hb hr hlocks hml hown hts hnm hl ⟨hP, hK⟩
  have hP : va_P D vwCl (wPc q cI (sNb σ) (sWd σ) (sPp σ) (sCt σ) (sCs σ) mk la wa ++ wSe q cJ lp tp rk od fr fo) s.heap := hP
  have hl : lv_has ls 2 [(0, .ref (q 5)), (1, .int (jI t))] := hl
  have hinX1 : ∀ w ∈ u_ws RX1 TX1 7, w ∈ wsX1_pageEndsAt := by decide +kernel
  refine lv_aload_n hx hb dX1_pageEndsAt_0 rfl (lv_at hl 0 rfl) ?_
  refine va_get (D := D) (ci := 1) (v := .long (jL fo)) (C := RX1) (T := TX1) (N := 7) hx hb hts hinX1 hown hK hP 5 rfl rfl 6 (by decide) (hts (.fieldLink RX1 36 "BreakLines$Search" "foundOrder" "J") (by decide +kernel)) (fun _ h9 => h9) rfl dX1_pageEndsAt_1 ?_
  refine lv_iload_n hx hb dX1_pageEndsAt_4 rfl (lv_at hl 1 rfl) ?_
  refine j_cSL (As := [.int (jI t)]) (rest := [.long (jL fo)]) ⟨hx, hb, hml, hown, hts⟩ (kX1_pageEnd l D cI cJ cZ t (by omega)) (va_cwS 1 hts gX1_pageEndsAt_X1_pageEnd rfl rfl rfl (by decide +kernel) ⟨Nat.le_of_ble_eq_true rfl, Nat.le_of_ble_eq_true rfl⟩) hK (hP.sub [] rfl) rfl hl.1 rfl (Nat.le_of_ble_eq_true rfl) ⟨Nat.zero_le _, Nat.zero_le _⟩ dX1_pageEndsAt_5 ?_
  refine lv_land hx hb dX1_pageEndsAt_8 ?_
  refine j_lconst0 hx hb dX1_pageEndsAt_9 ?_
  refine W.lcmp hx hb dX1_pageEndsAt_10 (lv_if_eq (tgt := 18) hx hb dX1_pageEndsAt_11 (by decide) (fun c10 => ?_) (fun c10 => ?_))
  · skip
    refine j_iconst hx hb dX1_pageEndsAt_18 ?_
    exact j_retZ hx hb hr (by decide) hlocks dX1_pageEndsAt_19 ((jZ_f (by unfold peB; first | exact fun w => ((jL_and (o := fo) h.1.1 (by omega) (by omega)).mp ((lg_cmp_eq _ _).mp c10)) w | exact Classical.byContradiction (fun w => c10 ((lg_cmp_eq _ _).mpr ((jL_and (o := fo) h.1.1 (by omega) (by omega)).mpr w))))).symm)
  · skip
    refine j_iconst hx hb dX1_pageEndsAt_14 ?_
    refine lv_goto (tgt := 19) hx hb dX1_pageEndsAt_15 (by decide) ?_
    exact j_retZ hx hb hr (by decide) hlocks dX1_pageEndsAt_19 ((jZ_t (by unfold peB; first | exact fun w => ((jL_and (o := fo) h.1.1 (by omega) (by omega)).mp ((lg_cmp_eq _ _).mp c10)) w | exact Classical.byContradiction (fun w => c10 ((lg_cmp_eq _ _).mpr ((jL_and (o := fo) h.1.1 (by omega) (by omega)).mpr w))))).symm)
set_option maxHeartbeats 4000000 in
set_option maxRecDepth 100000 in
theorem kX1_offer (l : Launch) (D : va_G) (cI cJ cZ : ClassId) (q : Nat → Nat) (σ : Sg) (la wa : Int → Int) (mk : Nat → Int32) (hok : okP σ la wa mk) (lp tp rk od : Int → Int) (fr fo : Int) (c0 x y : Int) (h : (0 ≤ c0 ∧ c0 < 192) ∧ (0 ≤ x ∧ x < 9223372036854775807) ∧ i64 y ∧ i64 (rk c0) ∧ i64 (od c0)) : MuV l yX1_offer wsX1_offer 0 0 D (tyc cI cJ cZ) (wPc q cI (sNb σ) (sWd σ) (sPp σ) (sCt σ) (sCs σ) mk la wa ++ wSe q cJ lp tp rk od fr fo) [.ref (q 5), .int (jI c0), .long (jL x), .long (jL y)] (fun (u : (Int → Int) × (Int → Int)) => cellUp rk od u.1 u.2 c0 (fun r z => r = x ∧ z = y)) (fun u => wPc q cI (sNb σ) (sWd σ) (sPp σ) (sCt σ) (sCs σ) mk la wa ++ wSe q cJ lp tp u.1 u.2 fr fo) := by
  intro sz
  refine j_start RX1 rfl (by decide) rfl (Nat.le_of_ble_eq_true rfl) ?_
  intro p e s m below meth c ls hx hb hr hlocks hml hown hts hnm hl ⟨hsz, hP, hK, hD0⟩
  subst hsz
  have hD := hD0.self (sz := s.heap.size)
  generalize hAe : va_A (wPc q cI (sNb σ) (sWd σ) (sPp σ) (sCt σ) (sCs σ) mk la wa ++ wSe q cJ lp tp rk od fr fo) s.heap.size = A at hD ⊢
  have hA : ∀ q : Nat, s.heap.size ≤ q → A q := fun q h => by rw [← hAe]; exact Or.inr h
  refine j_gen (fun H locs hHe hLe => ?_)
  have hS : va_S A s.heap H locs := by rw [hHe, hLe]; exact va_S.rf
  have hP : va_P D vwCl (wPc q cI (sNb σ) (sWd σ) (sPp σ) (sCt σ) (sCs σ) mk la wa ++ wSe q cJ lp tp rk od fr fo) H := by rw [hHe]; exact hP
  have hD : va_D A (wPc q cI (sNb σ) (sWd σ) (sPp σ) (sCt σ) (sCs σ) mk la wa ++ wSe q cJ lp tp rk od fr fo) := hD
  have hl : lv_has ls 6 [(0, .ref (q 5)), (1, .int (jI c0)), (2, .long (jL x)), (4, .long (jL y))] := hl
  have hinX1 : ∀ w ∈ u_ws RX1 TX1 7, w ∈ wsX1_offer := by decide +kernel
  unfold i64 at h
  refine lv_lload_n hx hb dX1_offer_0 rfl (lv_at hl 2 rfl) ?_
  refine lv_aload_n hx hb dX1_offer_1 rfl (lv_at hl 0 rfl) ?_
  refine va_get (D := D) (ci := 1) (v := .ref (q 8)) (C := RX1) (T := TX1) (N := 7) hx hb hts hinX1 hown hK hP 5 rfl rfl 3 (by decide) (hts (.fieldLink RX1 24 "BreakLines$Search" "ranks" "[J") (by decide +kernel)) (fun _ h9 => h9) rfl dX1_offer_2 ?_
  refine lv_iload_n hx hb dX1_offer_5 rfl (lv_at hl 1 rfl) ?_
  refine j_lald hx hb hK hP 8 1 rfl rfl (i := c0) (by omega) (by decide) dX1_offer_6 ?_
  refine j_lcmp_lt (tgt := 34) hx hb (by unfold i64; omega) dX1_offer_7 dX1_offer_8 (by decide) (fun c7 => ?_) (fun c7 => ?_)
  · skip
    refine lv_aload_n hx hb dX1_offer_34 rfl (lv_at hl 0 rfl) ?_
    refine va_get (D := D) (ci := 1) (v := .ref (q 8)) (C := RX1) (T := TX1) (N := 7) hx hb hts hinX1 hown hK hP 5 rfl rfl 3 (by decide) (hts (.fieldLink RX1 24 "BreakLines$Search" "ranks" "[J") (by decide +kernel)) (fun _ h9 => h9) rfl dX1_offer_35 ?_
    refine lv_iload_n hx hb dX1_offer_38 rfl (lv_at hl 1 rfl) ?_
    refine lv_lload_n hx hb dX1_offer_39 rfl (lv_at hl 2 rfl) ?_
    refine j_last hx hb hK hP hD hS 8 1 rfl rfl (i := c0) (by omega) (by decide) dX1_offer_40 (fun H locs hP hD hS => ?_)
    have hP : va_P D vwCl (wPc q cI (sNb σ) (sWd σ) (sPp σ) (sCt σ) (sCs σ) mk la wa ++ wSe q cJ lp tp (updI rk c0 x) od fr fo) H := hP
    have hD : va_D A (wPc q cI (sNb σ) (sWd σ) (sPp σ) (sCt σ) (sCs σ) mk la wa ++ wSe q cJ lp tp (updI rk c0 x) od fr fo) := hD
    refine lv_aload_n hx hb dX1_offer_41 rfl (lv_at hl 0 rfl) ?_
    refine va_get (D := D) (ci := 1) (v := .ref (q 9)) (C := RX1) (T := TX1) (N := 7) hx hb hts hinX1 hown hK hP 5 rfl rfl 4 (by decide) (hts (.fieldLink RX1 27 "BreakLines$Search" "orders" "[J") (by decide +kernel)) (fun _ h9 => h9) rfl dX1_offer_42 ?_
    refine lv_iload_n hx hb dX1_offer_45 rfl (lv_at hl 1 rfl) ?_
    refine lv_lload hx hb dX1_offer_46 (lv_at hl 3 rfl) ?_
    refine j_last hx hb hK hP hD hS 9 1 rfl rfl (i := c0) (by omega) (by decide) dX1_offer_48 (fun H locs hP hD hS => ?_)
    have hP : va_P D vwCl (wPc q cI (sNb σ) (sWd σ) (sPp σ) (sCt σ) (sCs σ) mk la wa ++ wSe q cJ lp tp (updI rk c0 x) (updI od c0 y) fr fo) H := hP
    have hD : va_D A (wPc q cI (sNb σ) (sWd σ) (sPp σ) (sCt σ) (sCs σ) mk la wa ++ wSe q cJ lp tp (updI rk c0 x) (updI od c0 y) fr fo) := hD
    exact j_mretV hx hb hr hlocks hS dX1_offer_49 (updI rk c0 x, updI od c0 y) (cellUp_offer (by omega) (by omega)) hP
  · skip
    refine lv_lload_n hx hb dX1_offer_11 rfl (lv_at hl 2 rfl) ?_
    refine lv_aload_n hx hb dX1_offer_12 rfl (lv_at hl 0 rfl) ?_
    refine va_get (D := D) (ci := 1) (v := .ref (q 8)) (C := RX1) (T := TX1) (N := 7) hx hb hts hinX1 hown hK hP 5 rfl rfl 3 (by decide) (hts (.fieldLink RX1 24 "BreakLines$Search" "ranks" "[J") (by decide +kernel)) (fun _ h9 => h9) rfl dX1_offer_13 ?_
    refine lv_iload_n hx hb dX1_offer_16 rfl (lv_at hl 1 rfl) ?_
    refine j_lald hx hb hK hP 8 1 rfl rfl (i := c0) (by omega) (by decide) dX1_offer_17 ?_
    refine j_lcmp_ne (tgt := 49) hx hb (by unfold i64; omega) dX1_offer_18 dX1_offer_19 (by decide) (fun c18 => ?_) (fun c18 => ?_)
    · skip
      exact j_mretV hx hb hr hlocks hS dX1_offer_49 (rk, od) (cellUp_keep (by omega) (by omega)) hP
    · skip
      refine lv_lload hx hb dX1_offer_22 (lv_at hl 3 rfl) ?_
      refine lv_aload_n hx hb dX1_offer_24 rfl (lv_at hl 0 rfl) ?_
      refine va_get (D := D) (ci := 1) (v := .ref (q 9)) (C := RX1) (T := TX1) (N := 7) hx hb hts hinX1 hown hK hP 5 rfl rfl 4 (by decide) (hts (.fieldLink RX1 27 "BreakLines$Search" "orders" "[J") (by decide +kernel)) (fun _ h9 => h9) rfl dX1_offer_25 ?_
      refine lv_iload_n hx hb dX1_offer_28 rfl (lv_at hl 1 rfl) ?_
      refine j_lald hx hb hK hP 9 1 rfl rfl (i := c0) (by omega) (by decide) dX1_offer_29 ?_
      refine j_lcmp_ge (tgt := 49) hx hb (by unfold i64; omega) dX1_offer_30 dX1_offer_31 (by decide) (fun c30 => ?_) (fun c30 => ?_)
      · skip
        exact j_mretV hx hb hr hlocks hS dX1_offer_49 (rk, od) (cellUp_keep (by omega) (by omega)) hP
      · skip
        refine lv_aload_n hx hb dX1_offer_34 rfl (lv_at hl 0 rfl) ?_
        refine va_get (D := D) (ci := 1) (v := .ref (q 8)) (C := RX1) (T := TX1) (N := 7) hx hb hts hinX1 hown hK hP 5 rfl rfl 3 (by decide) (hts (.fieldLink RX1 24 "BreakLines$Search" "ranks" "[J") (by decide +kernel)) (fun _ h9 => h9) rfl dX1_offer_35 ?_
        refine lv_iload_n hx hb dX1_offer_38 rfl (lv_at hl 1 rfl) ?_
        refine lv_lload_n hx hb dX1_offer_39 rfl (lv_at hl 2 rfl) ?_
        refine j_last hx hb hK hP hD hS 8 1 rfl rfl (i := c0) (by omega) (by decide) dX1_offer_40 (fun H locs hP hD hS => ?_)
        have hP : va_P D vwCl (wPc q cI (sNb σ) (sWd σ) (sPp σ) (sCt σ) (sCs σ) mk la wa ++ wSe q cJ lp tp (updI rk c0 x) od fr fo) H := hP
        have hD : va_D A (wPc q cI (sNb σ) (sWd σ) (sPp σ) (sCt σ) (sCs σ) mk la wa ++ wSe q cJ lp tp (updI rk c0 x) od fr fo) := hD
        refine lv_aload_n hx hb dX1_offer_41 rfl (lv_at hl 0 rfl) ?_
        refine va_get (D := D) (ci := 1) (v := .ref (q 9)) (C := RX1) (T := TX1) (N := 7) hx hb hts hinX1 hown hK hP 5 rfl rfl 4 (by decide) (hts (.fieldLink RX1 27 "BreakLines$Search" "orders" "[J") (by decide +kernel)) (fun _ h9 => h9) rfl dX1_offer_42 ?_
        refine lv_iload_n hx hb dX1_offer_45 rfl (lv_at hl 1 rfl) ?_
        refine lv_lload hx hb dX1_offer_46 (lv_at hl 3 rfl) ?_
        refine j_last hx hb hK hP hD hS 9 1 rfl rfl (i := c0) (by omega) (by decide) dX1_offer_48 (fun H locs hP hD hS => ?_)
        have hP : va_P D vwCl (wPc q cI (sNb σ) (sWd σ) (sPp σ) (sCt σ) (sCs σ) mk la wa ++ wSe q cJ lp tp (updI rk c0 x) (updI od c0 y) fr fo) H := hP
        have hD : va_D A (wPc q cI (sNb σ) (sWd σ) (sPp σ) (sCt σ) (sCs σ) mk la wa ++ wSe q cJ lp tp (updI rk c0 x) (updI od c0 y) fr fo) := hD
        exact j_mretV hx hb hr hlocks hS dX1_offer_49 (updI rk c0 x, updI od c0 y) (cellUp_offer (by omega) (by omega)) hP
set_option maxHeartbeats 4000000 in
set_option maxRecDepth 100000 in
theorem kX1_offerGoingOn (l : Launch) (D : va_G) (cI cJ cZ : ClassId) (q : Nat → Nat) (σ : Sg) (la wa : Int → Int) (mk : Nat → Int32) (hok : okP σ la wa mk) (lp tp rk od : Int → Int) (fr fo : Int) (c0 x t o : Int) (h : (0 ≤ c0 ∧ c0 < ((t + 1) * 8)) ∧ (0 ≤ t ∧ t + 1 < sNb σ) ∧ (0 ≤ o ∧ o ≤ 8) ∧ (0 ≤ x ∧ x ≤ 94000000000000000)) (htp : tp t = trn σ t) (hk1 : okC (rk ((t + 1) * 8)) (od ((t + 1) * 8))) (hk2 : o < sPp σ → okC (rk (((t + 1) * 8) + o)) (od (((t + 1) * 8) + o))) (hk0 : i64 (rk c0) ∧ i64 (od c0)) : MuV l yX1_offerGoingOn wsX1_offerGoingOn 1 25 D (tyc cI cJ cZ) (wPc q cI (sNb σ) (sWd σ) (sPp σ) (sCt σ) (sCs σ) mk la wa ++ wSe q cJ lp tp rk od fr fo) [.ref (q 5), .int (jI c0), .long (jL x), .int (jI t), .int (jI o)] (fun (u : (Int → Int) × (Int → Int)) => cellUp rk od u.1 u.2 c0 (fun r z => (rk ((t + 1) * 8) ≠ 9223372036854775807 ∧ r = x + (1024 * trn σ t + 32) + rk ((t + 1) * 8) ∧ z = leB t + peB t + od ((t + 1) * 8)) ∨ (o < sPp σ ∧ rk (((t + 1) * 8) + o) ≠ 9223372036854775807 ∧ r = x + rk (((t + 1) * 8) + o) ∧ z = leB t + od (((t + 1) * 8) + o)))) (fun u => wPc q cI (sNb σ) (sWd σ) (sPp σ) (sCt σ) (sCs σ) mk la wa ++ wSe q cJ lp tp u.1 u.2 fr fo) := by
  intro sz
  refine j_start RX1 rfl (by decide) rfl (Nat.le_of_ble_eq_true rfl) ?_
  intro p e s m below meth c ls hx hb hr hlocks hml hown hts hnm hl ⟨hsz, hP, hK, hD0⟩
  subst hsz
  have hD := hD0.self (sz := s.heap.size)
  generalize hAe : va_A (wPc q cI (sNb σ) (sWd σ) (sPp σ) (sCt σ) (sCs σ) mk la wa ++ wSe q cJ lp tp rk od fr fo) s.heap.size = A at hD ⊢
  have hA : ∀ q : Nat, s.heap.size ≤ q → A q := fun q h => by rw [← hAe]; exact Or.inr h
  refine j_gen (fun H locs hHe hLe => ?_)
  have hS : va_S A s.heap H locs := by rw [hHe, hLe]; exact va_S.rf
  have hP : va_P D vwCl (wPc q cI (sNb σ) (sWd σ) (sPp σ) (sCt σ) (sCs σ) mk la wa ++ wSe q cJ lp tp rk od fr fo) H := by rw [hHe]; exact hP
  have hD : va_D A (wPc q cI (sNb σ) (sWd σ) (sPp σ) (sCt σ) (sCs σ) mk la wa ++ wSe q cJ lp tp rk od fr fo) := hD
  have hl : lv_has ls 9 [(0, .ref (q 5)), (1, .int (jI c0)), (2, .long (jL x)), (4, .int (jI t)), (5, .int (jI o))] := hl
  have hinX0 : ∀ w ∈ u_ws RX0 TX0 8, w ∈ wsX1_offerGoingOn := by decide +kernel
  have hinX1 : ∀ w ∈ u_ws RX1 TX1 7, w ∈ wsX1_offerGoingOn := by decide +kernel
  have hS0 := hok.1
  have hnb := hS0.1
  have hwd := hS0.2.1
  have hpp := hS0.2.2.1
  have ht := trnB hS0 t
  have hle := leB_B (b := t) (by omega) (by omega)
  have hpe := peB_B (b := t) (by omega) (by omega)
  unfold i64 at hk0
  unfold okC at hk1 hk2
  refine lv_iload hx hb dX1_offerGoingOn_0 (lv_at hl 3 rfl) ?_
  refine j_iconst hx hb dX1_offerGoingOn_2 ?_
  refine j_iadd hx hb dX1_offerGoingOn_3 ?_
  refine j_bipush hx hb dX1_offerGoingOn_4 (by decide) ?_
  refine j_imul hx hb dX1_offerGoingOn_6 ?_
  refine lv_istore (lv' := [(6, .int (jI ((t + 1) * 8))), (0, .ref (q 5)), (1, .int (jI c0)), (2, .long (jL x)), (4, .int (jI t)), (5, .int (jI o))]) hx hb dX1_offerGoingOn_7 hl (by decide) rfl (fun ls hl => ?_)
  refine lv_aload_n hx hb dX1_offerGoingOn_9 rfl (lv_at hl 1 rfl) ?_
  refine va_get (D := D) (ci := 1) (v := .ref (q 8)) (C := RX1) (T := TX1) (N := 7) hx hb hts hinX1 hown hK hP 5 rfl rfl 3 (by decide) (hts (.fieldLink RX1 24 "BreakLines$Search" "ranks" "[J") (by decide +kernel)) (fun _ h9 => h9) rfl dX1_offerGoingOn_10 ?_
  refine lv_iload hx hb dX1_offerGoingOn_13 (lv_at hl 0 rfl) ?_
  refine j_lald hx hb hK hP 8 1 rfl rfl (i := (t + 1) * 8) (by omega) (by decide) dX1_offerGoingOn_15 ?_
  refine lv_ldc2 (v := jL 9223372036854775807) hx hb hown (hts (.constantLong RX1 30 (9223372036854775807)) (by decide +kernel)) dX1_offerGoingOn_16 ?_
  refine j_joinM (α := (Int → Int) × (Int → Int) × Array Slot × Heap × List Loc) (h := (fun z => match z with | (rk1, od1, ls, H, locs) => H)) (lc := (fun z => match z with | (rk1, od1, ls, H, locs) => locs)) (f := (fun z => match z with | (rk1, od1, ls, H, locs) => F0 m 76 ls [])) (P := (fun z => match z with | (rk1, od1, ls, H, locs) => (cellUp rk od rk1 od1 c0 (fun r z => rk ((t + 1) * 8) ≠ 9223372036854775807 ∧ r = x + (1024 * trn σ t + 32) + rk ((t + 1) * 8) ∧ z = leB t + peB t + od ((t + 1) * 8))) ∧ lv_has ls 9 [(0, .ref (q 5)), (1, .int (jI c0)), (2, .long (jL x)), (4, .int (jI t)), (5, .int (jI o)), (6, .int (jI ((t + 1) * 8)))] ∧ va_P D vwCl (wPc q cI (sNb σ) (sWd σ) (sPp σ) (sCt σ) (sCs σ) mk la wa ++ wSe q cJ lp tp rk1 od1 fr fo) H ∧ va_D A (wPc q cI (sNb σ) (sWd σ) (sPp σ) (sCt σ) (sCs σ) mk la wa ++ wSe q cJ lp tp rk1 od1 fr fo) ∧ va_S A s.heap H locs)) ?_ (fun jn19 => ?_)
  · intro ⟨rk1, od1, ls, H, locs⟩ ⟨hj19, hl, hP, hD, hS⟩
    have hl : lv_has ls 9 [(0, .ref (q 5)), (1, .int (jI c0)), (2, .long (jL x)), (4, .int (jI t)), (5, .int (jI o)), (6, .int (jI ((t + 1) * 8)))] := hl
    have hP : va_P D vwCl (wPc q cI (sNb σ) (sWd σ) (sPp σ) (sCt σ) (sCs σ) mk la wa ++ wSe q cJ lp tp rk1 od1 fr fo) H := hP
    have hD : va_D A (wPc q cI (sNb σ) (sWd σ) (sPp σ) (sCt σ) (sCs σ) mk la wa ++ wSe q cJ lp tp rk1 od1 fr fo) := hD
    have hS : va_S A s.heap H locs := hS
    show W p l e _ s m _ below meth c H locs _ _ _ (F0 m 76 ls [])
    have hj1 := hj19.1 ((t + 1) * 8) (by omega)
    have hj3 := hj19.1 ((t + 1) * 8 + o) (by omega)
    have hj2 : (rk1 c0 = rk c0 ∧ od1 c0 = od c0) ∨ (rk ((t + 1) * 8) ≠ 9223372036854775807 ∧ rk1 c0 = x + (1024 * trn σ t + 32) + rk ((t + 1) * 8) ∧ od1 c0 = leB t + peB t + od ((t + 1) * 8)) := hj19.2.1
    refine lv_iload hx hb dX1_offerGoingOn_76 (lv_at hl 4 rfl) ?_
    refine lv_aload_n hx hb dX1_offerGoingOn_78 rfl (lv_at hl 0 rfl) ?_
    refine va_get (D := D) (ci := 1) (v := .ref (q 0)) (C := RX1) (T := TX1) (N := 7) hx hb hts hinX1 hown hK hP 5 rfl rfl 0 (by decide) (hts (.fieldLink RX1 11 "BreakLines$Search" "piece" "LBreakLines$Piece;") (by decide +kernel)) (fun _ h9 => h9) rfl dX1_offerGoingOn_79 ?_
    refine va_get (D := D) (ci := 0) (v := .int (jI (sPp σ))) (C := RX0) (T := TX0) (N := 8) hx hb hts hinX0 hown hK hP 0 rfl rfl 2 (by decide) (hts (.fieldLink RX1 81 "BreakLines$Piece" "perPage" "I") (by decide +kernel)) (fun _ h9 => h9) rfl dX1_offerGoingOn_82 ?_
    refine j_icmp_ge (tgt := 138) hx hb (by unfold i32; omega) dX1_offerGoingOn_85 (by decide) (fun c85 => ?_) (fun c85 => ?_)
    · skip
      exact j_mretV hx hb hr hlocks hS dX1_offerGoingOn_138 (rk1, od1) (cellUp_congr hj19 (fun r z => ⟨Or.inl, fun w => w.elim id (fun w => by first | exact absurd w.1 (by omega) | exact absurd c101 w.2.1)⟩)) hP
    · skip
      refine lv_aload_n hx hb dX1_offerGoingOn_88 rfl (lv_at hl 0 rfl) ?_
      refine va_get (D := D) (ci := 1) (v := .ref (q 8)) (C := RX1) (T := TX1) (N := 7) hx hb hts hinX1 hown hK hP 5 rfl rfl 3 (by decide) (hts (.fieldLink RX1 24 "BreakLines$Search" "ranks" "[J") (by decide +kernel)) (fun _ h9 => h9) rfl dX1_offerGoingOn_89 ?_
      refine lv_iload hx hb dX1_offerGoingOn_92 (lv_at hl 5 rfl) ?_
      refine lv_iload hx hb dX1_offerGoingOn_94 (lv_at hl 4 rfl) ?_
      refine j_iadd hx hb dX1_offerGoingOn_96 ?_
      refine j_lald hx hb hK hP 8 1 rfl rfl (i := ((t + 1) * 8) + o) (by omega) (by decide) dX1_offerGoingOn_97 ?_
      refine j_topl (y := (jL (rk (((t + 1) * 8) + o)))) (congrArg jL hj3.1) ?_
      refine lv_ldc2 (v := jL 9223372036854775807) hx hb hown (hts (.constantLong RX1 30 (9223372036854775807)) (by decide +kernel)) dX1_offerGoingOn_98 ?_
      refine j_lcmp_eq (tgt := 138) hx hb (by have := hk2 (by omega); unfold i64; omega) dX1_offerGoingOn_101 dX1_offerGoingOn_102 (by decide) (fun c101 => ?_) (fun c101 => ?_)
      · skip
        exact j_mretV hx hb hr hlocks hS dX1_offerGoingOn_138 (rk1, od1) (cellUp_congr hj19 (fun r z => ⟨Or.inl, fun w => w.elim id (fun w => by first | exact absurd w.1 (by omega) | exact absurd c101 w.2.1)⟩)) hP
      · skip
        refine lv_aload_n hx hb dX1_offerGoingOn_105 rfl (lv_at hl 0 rfl) ?_
        refine lv_iload_n hx hb dX1_offerGoingOn_106 rfl (lv_at hl 1 rfl) ?_
        refine lv_lload_n hx hb dX1_offerGoingOn_107 rfl (lv_at hl 2 rfl) ?_
        refine lv_aload_n hx hb dX1_offerGoingOn_108 rfl (lv_at hl 0 rfl) ?_
        refine va_get (D := D) (ci := 1) (v := .ref (q 8)) (C := RX1) (T := TX1) (N := 7) hx hb hts hinX1 hown hK hP 5 rfl rfl 3 (by decide) (hts (.fieldLink RX1 24 "BreakLines$Search" "ranks" "[J") (by decide +kernel)) (fun _ h9 => h9) rfl dX1_offerGoingOn_109 ?_
        refine lv_iload hx hb dX1_offerGoingOn_112 (lv_at hl 5 rfl) ?_
        refine lv_iload hx hb dX1_offerGoingOn_114 (lv_at hl 4 rfl) ?_
        refine j_iadd hx hb dX1_offerGoingOn_116 ?_
        refine j_lald hx hb hK hP 8 1 rfl rfl (i := ((t + 1) * 8) + o) (by omega) (by decide) dX1_offerGoingOn_117 ?_
        refine j_topl (y := (jL (rk (((t + 1) * 8) + o)))) (congrArg jL hj3.1) ?_
        refine j_ladd hx hb dX1_offerGoingOn_118 ?_
        refine lv_iload hx hb dX1_offerGoingOn_119 (lv_at hl 3 rfl) ?_
        refine j_cSL (As := [.int (jI t)]) (rest := [.long (jL (x + (rk (((t + 1) * 8) + o)))), .int (jI c0), .ref (q 5)]) ⟨hx, hb, hml, hown, hts⟩ (kX1_lineEnd l D cI cJ cZ t (by omega)) (va_cwS 1 hts gX1_offerGoingOn_X1_lineEnd rfl rfl rfl (by decide +kernel) ⟨Nat.le_of_ble_eq_true rfl, Nat.le_of_ble_eq_true rfl⟩) hK (hP.sub [] rfl) rfl hl.1 rfl (Nat.le_of_ble_eq_true rfl) ⟨Nat.zero_le _, Nat.zero_le _⟩ dX1_offerGoingOn_121 ?_
        refine lv_aload_n hx hb dX1_offerGoingOn_124 rfl (lv_at hl 0 rfl) ?_
        refine va_get (D := D) (ci := 1) (v := .ref (q 9)) (C := RX1) (T := TX1) (N := 7) hx hb hts hinX1 hown hK hP 5 rfl rfl 4 (by decide) (hts (.fieldLink RX1 27 "BreakLines$Search" "orders" "[J") (by decide +kernel)) (fun _ h9 => h9) rfl dX1_offerGoingOn_125 ?_
        refine lv_iload hx hb dX1_offerGoingOn_128 (lv_at hl 5 rfl) ?_
        refine lv_iload hx hb dX1_offerGoingOn_130 (lv_at hl 4 rfl) ?_
        refine j_iadd hx hb dX1_offerGoingOn_132 ?_
        refine j_lald hx hb hK hP 9 1 rfl rfl (i := ((t + 1) * 8) + o) (by omega) (by decide) dX1_offerGoingOn_133 ?_
        refine j_topl (y := (jL (od (((t + 1) * 8) + o)))) (congrArg jL hj3.2) ?_
        refine j_ladd hx hb dX1_offerGoingOn_134 ?_
        refine j_mVV (As := [.int (jI c0), .long (jL (x + (rk (((t + 1) * 8) + o)))), .long (jL ((leB t) + (od (((t + 1) * 8) + o))))]) (rest := []) ⟨hx, hb, hml, hown, hts⟩ (kX1_offer l D cI cJ cZ q σ la wa mk hok lp tp rk1 od1 fr fo c0 (x + (rk (((t + 1) * 8) + o))) ((leB t) + (od (((t + 1) * 8) + o))) (by have := hk2 (by omega); unfold i64; omega)) (cwV 3 hts gX1_offerGoingOn_X1_offer rfl rfl rfl (by decide +kernel) ⟨Nat.le_of_ble_eq_true rfl, Nat.le_of_ble_eq_true rfl⟩) hK hP hD hS hA (va_recv hK hP (ci := 1) (q0 := 5) rfl rfl) rfl hl.1 rfl (Nat.le_of_ble_eq_true rfl) ⟨Nat.zero_le _, Nat.zero_le _⟩ dX1_offerGoingOn_135 [0, 1, 2, 3, 4, 5, 6, 7, 8, 9] [] [0, 1, 2, 3, 4, 5, 6, 7, 8, 9] rfl (by decide) (wr := ([] : va_W)) rfl (by decide) (by decide) (fun _ => rfl) (fun u => wPc q cI (sNb σ) (sWd σ) (sPp σ) (sCt σ) (sCs σ) mk la wa ++ wSe q cJ lp tp u.1 u.2 fr fo) (fun _ => rfl) (fun _ => rfl) (fun ⟨rkc1, odc1⟩ H locs hu1 hP hD hS => ?_)
        have hu1 : cellUp rk1 od1 rkc1 odc1 c0 (fun r z => r = (x + (rk (((t + 1) * 8) + o))) ∧ z = ((leB t) + (od (((t + 1) * 8) + o)))) := hu1
        have hP : va_P D vwCl (wPc q cI (sNb σ) (sWd σ) (sPp σ) (sCt σ) (sCs σ) mk la wa ++ wSe q cJ lp tp rkc1 odc1 fr fo) H := hP
        have hD : va_D A (wPc q cI (sNb σ) (sWd σ) (sPp σ) (sCt σ) (sCs σ) mk la wa ++ wSe q cJ lp tp rkc1 odc1 fr fo) := hD
        exact j_mretV hx hb hr hlocks hS dX1_offerGoingOn_138 (rkc1, odc1) (cellUp_congr (cellUp_trans hj19 hu1) (fun r z => ⟨fun w => w.imp id (fun w => ⟨c85, c101, w.1, w.2⟩), fun w => w.imp id (fun w => ⟨w.2.2.1, w.2.2.2⟩)⟩)) hP
  refine j_lcmp_eq (tgt := 76) hx hb (by unfold i64; omega) dX1_offerGoingOn_19 dX1_offerGoingOn_20 (by decide) (fun c19 => ?_) (fun c19 => ?_)
  · skip
    exact jn19 (rk, od, ls, H, locs) ⟨cellUp_none (fun r z w => w.1 c19), lv_sub hl [1, 2, 3, 4, 5, 0] rfl, hP, hD, hS⟩
  · skip
    refine lv_aload_n hx hb dX1_offerGoingOn_23 rfl (lv_at hl 1 rfl) ?_
    refine va_get (D := D) (ci := 1) (v := .ref (q 7)) (C := RX1) (T := TX1) (N := 7) hx hb hts hinX1 hown hK hP 5 rfl rfl 2 (by decide) (hts (.fieldLink RX1 21 "BreakLines$Search" "turnPrices" "[J") (by decide +kernel)) (fun _ h9 => h9) rfl dX1_offerGoingOn_24 ?_
    refine lv_iload hx hb dX1_offerGoingOn_27 (lv_at hl 4 rfl) ?_
    refine j_lald hx hb hK hP 7 1 rfl rfl (i := t) (by omega) (by decide) dX1_offerGoingOn_29 ?_
    refine j_topl (y := (jL (trn σ t))) (congrArg jL htp) ?_
    refine lv_ldc2 (v := jL 1024) hx hb hown (hts (.constantLong RX1 62 (1024)) (by decide +kernel)) dX1_offerGoingOn_30 ?_
    refine j_lmul hx hb dX1_offerGoingOn_33 ?_
    refine lv_ldc2 (v := jL 32) hx hb hown (hts (.constantLong RX1 98 (32)) (by decide +kernel)) dX1_offerGoingOn_34 ?_
    refine j_ladd hx hb dX1_offerGoingOn_37 ?_
    refine lv_lstore (lv' := [(7, .long (jL (((trn σ t) * 1024) + 32))), (6, .int (jI ((t + 1) * 8))), (0, .ref (q 5)), (1, .int (jI c0)), (2, .long (jL x)), (4, .int (jI t)), (5, .int (jI o))]) hx hb dX1_offerGoingOn_38 hl (by decide) rfl (fun ls hl => ?_)
    refine lv_aload_n hx hb dX1_offerGoingOn_40 rfl (lv_at hl 2 rfl) ?_
    refine lv_iload_n hx hb dX1_offerGoingOn_41 rfl (lv_at hl 3 rfl) ?_
    refine lv_lload_n hx hb dX1_offerGoingOn_42 rfl (lv_at hl 4 rfl) ?_
    refine lv_lload hx hb dX1_offerGoingOn_43 (lv_at hl 0 rfl) ?_
    refine j_ladd hx hb dX1_offerGoingOn_45 ?_
    refine lv_aload_n hx hb dX1_offerGoingOn_46 rfl (lv_at hl 2 rfl) ?_
    refine va_get (D := D) (ci := 1) (v := .ref (q 8)) (C := RX1) (T := TX1) (N := 7) hx hb hts hinX1 hown hK hP 5 rfl rfl 3 (by decide) (hts (.fieldLink RX1 24 "BreakLines$Search" "ranks" "[J") (by decide +kernel)) (fun _ h9 => h9) rfl dX1_offerGoingOn_47 ?_
    refine lv_iload hx hb dX1_offerGoingOn_50 (lv_at hl 1 rfl) ?_
    refine j_lald hx hb hK hP 8 1 rfl rfl (i := (t + 1) * 8) (by omega) (by decide) dX1_offerGoingOn_52 ?_
    refine j_ladd hx hb dX1_offerGoingOn_53 ?_
    refine lv_iload hx hb dX1_offerGoingOn_54 (lv_at hl 5 rfl) ?_
    refine j_cSL (As := [.int (jI t)]) (rest := [.long (jL ((x + (((trn σ t) * 1024) + 32)) + (rk ((t + 1) * 8)))), .int (jI c0), .ref (q 5)]) ⟨hx, hb, hml, hown, hts⟩ (kX1_lineEnd l D cI cJ cZ t (by omega)) (va_cwS 1 hts gX1_offerGoingOn_X1_lineEnd rfl rfl rfl (by decide +kernel) ⟨Nat.le_of_ble_eq_true rfl, Nat.le_of_ble_eq_true rfl⟩) hK (hP.sub [] rfl) rfl hl.1 rfl (Nat.le_of_ble_eq_true rfl) ⟨Nat.zero_le _, Nat.zero_le _⟩ dX1_offerGoingOn_56 ?_
    refine lv_iload hx hb dX1_offerGoingOn_59 (lv_at hl 5 rfl) ?_
    refine j_cSL (As := [.int (jI t)]) (rest := [.long (jL (leB t)), .long (jL ((x + (((trn σ t) * 1024) + 32)) + (rk ((t + 1) * 8)))), .int (jI c0), .ref (q 5)]) ⟨hx, hb, hml, hown, hts⟩ (kX1_pageEnd l D cI cJ cZ t (by omega)) (va_cwS 1 hts gX1_offerGoingOn_X1_pageEnd rfl rfl rfl (by decide +kernel) ⟨Nat.le_of_ble_eq_true rfl, Nat.le_of_ble_eq_true rfl⟩) hK (hP.sub [] rfl) rfl hl.1 rfl (Nat.le_of_ble_eq_true rfl) ⟨Nat.zero_le _, Nat.zero_le _⟩ dX1_offerGoingOn_61 ?_
    refine j_ladd hx hb dX1_offerGoingOn_64 ?_
    refine lv_aload_n hx hb dX1_offerGoingOn_65 rfl (lv_at hl 2 rfl) ?_
    refine va_get (D := D) (ci := 1) (v := .ref (q 9)) (C := RX1) (T := TX1) (N := 7) hx hb hts hinX1 hown hK hP 5 rfl rfl 4 (by decide) (hts (.fieldLink RX1 27 "BreakLines$Search" "orders" "[J") (by decide +kernel)) (fun _ h9 => h9) rfl dX1_offerGoingOn_66 ?_
    refine lv_iload hx hb dX1_offerGoingOn_69 (lv_at hl 1 rfl) ?_
    refine j_lald hx hb hK hP 9 1 rfl rfl (i := (t + 1) * 8) (by omega) (by decide) dX1_offerGoingOn_71 ?_
    refine j_ladd hx hb dX1_offerGoingOn_72 ?_
    refine j_mVV (As := [.int (jI c0), .long (jL ((x + (((trn σ t) * 1024) + 32)) + (rk ((t + 1) * 8)))), .long (jL (((leB t) + (peB t)) + (od ((t + 1) * 8))))]) (rest := []) ⟨hx, hb, hml, hown, hts⟩ (kX1_offer l D cI cJ cZ q σ la wa mk hok lp tp rk od fr fo c0 ((x + (((trn σ t) * 1024) + 32)) + (rk ((t + 1) * 8))) (((leB t) + (peB t)) + (od ((t + 1) * 8))) (by unfold i64; omega)) (cwV 3 hts gX1_offerGoingOn_X1_offer rfl rfl rfl (by decide +kernel) ⟨Nat.le_of_ble_eq_true rfl, Nat.le_of_ble_eq_true rfl⟩) hK hP hD hS hA (va_recv hK hP (ci := 1) (q0 := 5) rfl rfl) rfl hl.1 rfl (Nat.le_of_ble_eq_true rfl) ⟨Nat.zero_le _, Nat.zero_le _⟩ dX1_offerGoingOn_73 [0, 1, 2, 3, 4, 5, 6, 7, 8, 9] [] [0, 1, 2, 3, 4, 5, 6, 7, 8, 9] rfl (by decide) (wr := ([] : va_W)) rfl (by decide) (by decide) (fun _ => rfl) (fun u => wPc q cI (sNb σ) (sWd σ) (sPp σ) (sCt σ) (sCs σ) mk la wa ++ wSe q cJ lp tp u.1 u.2 fr fo) (fun _ => rfl) (fun _ => rfl) (fun ⟨rkc2, odc2⟩ H locs hu2 hP hD hS => ?_)
    have hu2 : cellUp rk od rkc2 odc2 c0 (fun r z => r = ((x + (((trn σ t) * 1024) + 32)) + (rk ((t + 1) * 8))) ∧ z = (((leB t) + (peB t)) + (od ((t + 1) * 8)))) := hu2
    have hP : va_P D vwCl (wPc q cI (sNb σ) (sWd σ) (sPp σ) (sCt σ) (sCs σ) mk la wa ++ wSe q cJ lp tp rkc2 odc2 fr fo) H := hP
    have hD : va_D A (wPc q cI (sNb σ) (sWd σ) (sPp σ) (sCt σ) (sCs σ) mk la wa ++ wSe q cJ lp tp rkc2 odc2 fr fo) := hD
    exact jn19 (rkc2, odc2, ls, H, locs) ⟨cellUp_congr hu2 (fun r z => ⟨fun w => ⟨c19, by have := w.1; omega, w.2⟩, fun w => ⟨by have := w.2.1; omega, w.2.2⟩⟩), lv_sub hl [2, 3, 4, 5, 6, 1] rfl, hP, hD, hS⟩
set_option maxHeartbeats 4000000 in
set_option maxRecDepth 100000 in
theorem kX1_fillCell (l : Launch) (D : va_G) (cI cJ cZ : ClassId) (q : Nat → Nat) (σ : Sg) (la wa : Int → Int) (mk : Nat → Int32) (hok : okP σ la wa mk) (lp tp rk od : Int → Int) (fr fo : Int) (f o lo hi : Int) (h : (0 ≤ f ∧ f < sNb σ) ∧ (0 ≤ o ∧ o < sPp σ) ∧ (f ≤ lo ∧ lo ≤ sNb σ) ∧ (-1 ≤ hi ∧ hi < sNb σ)) (hlp : ∀ t, f ≤ t → t < sNb σ → lp (f * 24 + t) = lpr σ f t) (htp : ∀ t, 0 ≤ t → t < sNb σ → tp t = trn σ t) (hk : ∀ t, lo ≤ t → t ≤ hi → t ≠ sNb σ - 1 → okC (rk ((t + 1) * 8)) (od ((t + 1) * 8)) ∧ (o + 1 < sPp σ → okC (rk (((t + 1) * 8) + (o + 1))) (od (((t + 1) * 8) + (o + 1))))) : MuV l yX1_fillCell wsX1_fillCell 2 53 D (tyc cI cJ cZ) (wPc q cI (sNb σ) (sWd σ) (sPp σ) (sCt σ) (sCs σ) mk la wa ++ wSe q cJ lp tp rk od fr fo) [.ref (q 5), .int (jI f), .int (jI o), .int (jI lo), .int (jI hi)] (fun (u : (Int → Int) × (Int → Int)) => (∀ j, j ≠ f * 8 + o → u.1 j = rk j ∧ u.2 j = od j) ∧ Bst (fun r z => ∃ t, lo ≤ t ∧ t ≤ hi ∧ OffT σ rk od f o t r z) (u.1 (f * 8 + o)) (u.2 (f * 8 + o))) (fun u => wPc q cI (sNb σ) (sWd σ) (sPp σ) (sCt σ) (sCs σ) mk la wa ++ wSe q cJ lp tp u.1 u.2 fr fo) := by
  intro sz
  refine j_start RX1 rfl (by decide) rfl (Nat.le_of_ble_eq_true rfl) ?_
  intro p e s m below meth c ls hx hb hr hlocks hml hown hts hnm hl ⟨hsz, hP, hK, hD0⟩
  subst hsz
  have hD := hD0.self (sz := s.heap.size)
  generalize hAe : va_A (wPc q cI (sNb σ) (sWd σ) (sPp σ) (sCt σ) (sCs σ) mk la wa ++ wSe q cJ lp tp rk od fr fo) s.heap.size = A at hD ⊢
  have hA : ∀ q : Nat, s.heap.size ≤ q → A q := fun q h => by rw [← hAe]; exact Or.inr h
  refine j_gen (fun H locs hHe hLe => ?_)
  have hS : va_S A s.heap H locs := by rw [hHe, hLe]; exact va_S.rf
  have hP : va_P D vwCl (wPc q cI (sNb σ) (sWd σ) (sPp σ) (sCt σ) (sCs σ) mk la wa ++ wSe q cJ lp tp rk od fr fo) H := by rw [hHe]; exact hP
  have hD : va_D A (wPc q cI (sNb σ) (sWd σ) (sPp σ) (sCt σ) (sCs σ) mk la wa ++ wSe q cJ lp tp rk od fr fo) := hD
  have hl : lv_has ls 14 [(0, .ref (q 5)), (1, .int (jI f)), (2, .int (jI o)), (3, .int (jI lo)), (4, .int (jI hi))] := hl
  have hinX0 : ∀ w ∈ u_ws RX0 TX0 8, w ∈ wsX1_fillCell := by decide +kernel
  have hinX1 : ∀ w ∈ u_ws RX1 TX1 7, w ∈ wsX1_fillCell := by decide +kernel
  have hS0 := hok.1
  have hnb := hS0.1
  have hwd := hS0.2.1
  have hpp := hS0.2.2.1
  have hc2 := hS0.2.2.2.2.1 2 (by omega) (by omega)
  refine lv_iload_n hx hb dX1_fillCell_0 rfl (lv_at hl 1 rfl) ?_
  refine j_bipush hx hb dX1_fillCell_1 (by decide) ?_
  refine j_imul hx hb dX1_fillCell_3 ?_
  refine lv_iload_n hx hb dX1_fillCell_4 rfl (lv_at hl 2 rfl) ?_
  refine j_iadd hx hb dX1_fillCell_5 ?_
  refine lv_istore (lv' := [(5, .int (jI ((f * 8) + o))), (0, .ref (q 5)), (1, .int (jI f)), (2, .int (jI o)), (3, .int (jI lo)), (4, .int (jI hi))]) hx hb dX1_fillCell_6 hl (by decide) rfl (fun ls hl => ?_)
  refine lv_aload_n hx hb dX1_fillCell_8 rfl (lv_at hl 1 rfl) ?_
  refine va_get (D := D) (ci := 1) (v := .ref (q 8)) (C := RX1) (T := TX1) (N := 7) hx hb hts hinX1 hown hK hP 5 rfl rfl 3 (by decide) (hts (.fieldLink RX1 24 "BreakLines$Search" "ranks" "[J") (by decide +kernel)) (fun _ h9 => h9) rfl dX1_fillCell_9 ?_
  refine lv_iload hx hb dX1_fillCell_12 (lv_at hl 0 rfl) ?_
  refine lv_ldc2 (v := jL 9223372036854775807) hx hb hown (hts (.constantLong RX1 30 (9223372036854775807)) (by decide +kernel)) dX1_fillCell_14 ?_
  refine j_last hx hb hK hP hD hS 8 1 rfl rfl (i := (f * 8) + o) (by omega) (by decide) dX1_fillCell_17 (fun H locs hP hD hS => ?_)
  have hP : va_P D vwCl (wPc q cI (sNb σ) (sWd σ) (sPp σ) (sCt σ) (sCs σ) mk la wa ++ wSe q cJ lp tp (updI rk ((f * 8) + o) 9223372036854775807) od fr fo) H := hP
  have hD : va_D A (wPc q cI (sNb σ) (sWd σ) (sPp σ) (sCt σ) (sCs σ) mk la wa ++ wSe q cJ lp tp (updI rk ((f * 8) + o) 9223372036854775807) od fr fo) := hD
  refine lv_aload_n hx hb dX1_fillCell_18 rfl (lv_at hl 1 rfl) ?_
  refine va_get (D := D) (ci := 1) (v := .ref (q 9)) (C := RX1) (T := TX1) (N := 7) hx hb hts hinX1 hown hK hP 5 rfl rfl 4 (by decide) (hts (.fieldLink RX1 27 "BreakLines$Search" "orders" "[J") (by decide +kernel)) (fun _ h9 => h9) rfl dX1_fillCell_19 ?_
  refine lv_iload hx hb dX1_fillCell_22 (lv_at hl 0 rfl) ?_
  refine lv_ldc2 (v := jL 9223372036854775807) hx hb hown (hts (.constantLong RX1 30 (9223372036854775807)) (by decide +kernel)) dX1_fillCell_24 ?_
  refine j_last hx hb hK hP hD hS 9 1 rfl rfl (i := (f * 8) + o) (by omega) (by decide) dX1_fillCell_27 (fun H locs hP hD hS => ?_)
  have hP : va_P D vwCl (wPc q cI (sNb σ) (sWd σ) (sPp σ) (sCt σ) (sCs σ) mk la wa ++ wSe q cJ lp tp (updI rk ((f * 8) + o) 9223372036854775807) (updI od ((f * 8) + o) 9223372036854775807) fr fo) H := hP
  have hD : va_D A (wPc q cI (sNb σ) (sWd σ) (sPp σ) (sCt σ) (sCs σ) mk la wa ++ wSe q cJ lp tp (updI rk ((f * 8) + o) 9223372036854775807) (updI od ((f * 8) + o) 9223372036854775807) fr fo) := hD
  refine lv_iload_n hx hb dX1_fillCell_28 rfl (lv_at hl 4 rfl) ?_
  refine lv_istore (lv' := [(6, .int (jI lo)), (5, .int (jI ((f * 8) + o))), (0, .ref (q 5)), (1, .int (jI f)), (2, .int (jI o)), (3, .int (jI lo)), (4, .int (jI hi))]) hx hb dX1_fillCell_29 hl (by decide) rfl (fun ls hl => ?_)
  refine j_loop (α := Int × (Int → Int) × (Int → Int) × Array Slot × Heap × List Loc) (h := fun z => match z with | (i, rk0, od0, ls, H, locs) => H) (lc := fun z => match z with | (i, rk0, od0, ls, H, locs) => locs) (f := fun z => match z with | (i, rk0, od0, ls, H, locs) => F0 m 31 ls []) (P := fun n z => match z with | (i, rk0, od0, ls, H, locs) => ((lo ≤ i ∧ i ≤ sNb σ) ∧ (i64 (rk0 (f * 8 + o)) ∧ i64 (od0 (f * 8 + o))) ∧ cellUp (updI rk (f * 8 + o) 9223372036854775807) (updI od (f * 8 + o) 9223372036854775807) rk0 od0 (f * 8 + o) (fun r z => ∃ t, lo ≤ t ∧ t < i ∧ t ≤ hi ∧ OffT σ rk od f o t r z)) ∧ (hi + 1 - i).toNat < n ∧ lv_has ls 14 [(0, .ref (q 5)), (1, .int (jI f)), (2, .int (jI o)), (3, .int (jI lo)), (4, .int (jI hi)), (5, .int (jI ((f * 8) + o))), (6, .int (jI i))] ∧ va_P D vwCl (wPc q cI (sNb σ) (sWd σ) (sPp σ) (sCt σ) (sCs σ) mk la wa ++ wSe q cJ lp tp rk0 od0 fr fo) H ∧ va_D A (wPc q cI (sNb σ) (sWd σ) (sPp σ) (sCt σ) (sCs σ) mk la wa ++ wSe q cJ lp tp rk0 od0 fr fo) ∧ va_S A s.heap H locs) (fun z hz => ?_) ?_ ((hi + 1 - lo).toNat + 1) (lo, updI rk ((f * 8) + o) 9223372036854775807, updI od ((f * 8) + o) 9223372036854775807, ls, H, locs) ⟨⟨by omega, by rw [updI_s, updI_s]; unfold i64; omega, cellUp_none (fun r z w => by obtain ⟨t, w1, w2, -⟩ := w; omega)⟩, Nat.lt_succ_self _, lv_sub hl [2, 3, 4, 5, 6, 1, 0] rfl, hP, hD, hS⟩
  · obtain ⟨i, rk0, od0, ls, H, locs⟩ := z; exact absurd hz.2.1 (Nat.not_lt_zero _)
  intro n31 ih31 ⟨i, rk0, od0, ls, H, locs⟩ ⟨hi31, hm31, hl, hP, hD, hS⟩
  have hl : lv_has ls 14 [(0, .ref (q 5)), (1, .int (jI f)), (2, .int (jI o)), (3, .int (jI lo)), (4, .int (jI hi)), (5, .int (jI ((f * 8) + o))), (6, .int (jI i))] := hl
  have hP : va_P D vwCl (wPc q cI (sNb σ) (sWd σ) (sPp σ) (sCt σ) (sCs σ) mk la wa ++ wSe q cJ lp tp rk0 od0 fr fo) H := hP
  have hD : va_D A (wPc q cI (sNb σ) (sWd σ) (sPp σ) (sCt σ) (sCs σ) mk la wa ++ wSe q cJ lp tp rk0 od0 fr fo) := hD
  have hS : va_S A s.heap H locs := hS
  show W p l e _ s m _ below meth c H locs _ _ _ (F0 m 31 ls [])
  obtain ⟨hi1, hi2, hi3⟩ := hi31
  have hr0 := fc_same hi3
  refine lv_iload hx hb dX1_fillCell_31 (lv_at hl 6 rfl) ?_
  refine lv_iload hx hb dX1_fillCell_33 (lv_at hl 4 rfl) ?_
  refine j_icmp_gt (tgt := 176) hx hb (by unfold i32; omega) dX1_fillCell_35 (by decide) (fun c35 => ?_) (fun c35 => ?_)
  · skip
    exact j_mretV hx hb hr hlocks hS dX1_fillCell_176 (rk0, od0) (fc_end hi3 (by omega)) hP
  · skip
    have hle := leB_B (b := i) (by omega) (by omega)
    have hpe := peB_B (b := i) (by omega) (by omega)
    have hcs := cstB hS0 (a := f) (b := i) (by omega) (by omega) (by omega)
    have hlr := lpr_or σ f i
    have hww := wdwB hS0 f o
    refine lv_aload_n hx hb dX1_fillCell_38 rfl (lv_at hl 0 rfl) ?_
    refine va_get (D := D) (ci := 1) (v := .ref (q 6)) (C := RX1) (T := TX1) (N := 7) hx hb hts hinX1 hown hK hP 5 rfl rfl 1 (by decide) (hts (.fieldLink RX1 17 "BreakLines$Search" "linePrices" "[J") (by decide +kernel)) (fun _ h9 => h9) rfl dX1_fillCell_39 ?_
    refine lv_iload_n hx hb dX1_fillCell_42 rfl (lv_at hl 1 rfl) ?_
    refine j_bipush hx hb dX1_fillCell_43 (by decide) ?_
    refine j_imul hx hb dX1_fillCell_45 ?_
    refine lv_iload hx hb dX1_fillCell_46 (lv_at hl 6 rfl) ?_
    refine j_iadd hx hb dX1_fillCell_48 ?_
    refine j_lald hx hb hK hP 6 1 rfl rfl (i := (f * 24) + i) (by omega) (by decide) dX1_fillCell_49 ?_
    refine j_topl (y := (jL (lpr σ f i))) (congrArg jL (hlp i (by omega) (by omega))) ?_
    refine lv_lstore (lv' := [(7, .long (jL (lpr σ f i))), (0, .ref (q 5)), (1, .int (jI f)), (2, .int (jI o)), (3, .int (jI lo)), (4, .int (jI hi)), (5, .int (jI ((f * 8) + o))), (6, .int (jI i))]) hx hb dX1_fillCell_50 hl (by decide) rfl (fun ls hl => ?_)
    refine lv_lload hx hb dX1_fillCell_52 (lv_at hl 0 rfl) ?_
    refine lv_ldc2 (v := jL (-1)) hx hb hown (hts (.constantLong RX1 64 (-1)) (by decide +kernel)) dX1_fillCell_54 ?_
    refine j_lcmp_ne (tgt := 64) hx hb (by unfold i64; omega) dX1_fillCell_57 dX1_fillCell_58 (by decide) (fun c57 => ?_) (fun c57 => ?_)
    · skip
      have hmy : may σ f i := by rcases hlr with w | w; exact absurd w.2 c57; exact w.1
      have hlv := lpr_t hmy
      refine lv_lload hx hb dX1_fillCell_64 (lv_at hl 0 rfl) ?_
      refine lv_ldc2 (v := jL 1024) hx hb hown (hts (.constantLong RX1 62 (1024)) (by decide +kernel)) dX1_fillCell_66 ?_
      refine j_lmul hx hb dX1_fillCell_69 ?_
      refine j_lconst1 hx hb dX1_fillCell_70 ?_
      refine j_ladd hx hb dX1_fillCell_71 ?_
      refine lv_lstore (lv' := [(9, .long (jL (((lpr σ f i) * 1024) + 1))), (7, .long (jL (lpr σ f i))), (0, .ref (q 5)), (1, .int (jI f)), (2, .int (jI o)), (3, .int (jI lo)), (4, .int (jI hi)), (5, .int (jI ((f * 8) + o))), (6, .int (jI i))]) hx hb dX1_fillCell_72 hl (by decide) rfl (fun ls hl => ?_)
      refine lv_iload hx hb dX1_fillCell_74 (lv_at hl 8 rfl) ?_
      refine lv_aload_n hx hb dX1_fillCell_76 rfl (lv_at hl 2 rfl) ?_
      refine va_get (D := D) (ci := 1) (v := .ref (q 0)) (C := RX1) (T := TX1) (N := 7) hx hb hts hinX1 hown hK hP 5 rfl rfl 0 (by decide) (hts (.fieldLink RX1 11 "BreakLines$Search" "piece" "LBreakLines$Piece;") (by decide +kernel)) (fun _ h9 => h9) rfl dX1_fillCell_77 ?_
      refine va_get (D := D) (ci := 0) (v := .int (jI (sNb σ))) (C := RX0) (T := TX0) (N := 8) hx hb hts hinX0 hown hK hP 0 rfl rfl 0 (by decide) (hts (.fieldLink RX1 39 "BreakLines$Piece" "bars" "I") (by decide +kernel)) (fun _ h9 => h9) rfl dX1_fillCell_80 ?_
      refine j_iconst hx hb dX1_fillCell_83 ?_
      refine j_isub hx hb dX1_fillCell_84 ?_
      refine j_icmp_ne (tgt := 157) hx hb (by unfold i32; omega) dX1_fillCell_85 (by decide) (fun c85 => ?_) (fun c85 => ?_)
      · skip
        refine lv_aload_n hx hb dX1_fillCell_157 rfl (lv_at hl 2 rfl) ?_
        refine lv_iload hx hb dX1_fillCell_158 (lv_at hl 7 rfl) ?_
        refine lv_lload hx hb dX1_fillCell_160 (lv_at hl 0 rfl) ?_
        refine lv_iload hx hb dX1_fillCell_162 (lv_at hl 8 rfl) ?_
        refine lv_iload_n hx hb dX1_fillCell_164 rfl (lv_at hl 4 rfl) ?_
        refine j_iconst hx hb dX1_fillCell_165 ?_
        refine j_iadd hx hb dX1_fillCell_166 ?_
        refine j_mVV (As := [.int (jI ((f * 8) + o)), .long (jL (((lpr σ f i) * 1024) + 1)), .int (jI i), .int (jI (o + 1))]) (rest := []) ⟨hx, hb, hml, hown, hts⟩ (kX1_offerGoingOn l D cI cJ cZ q σ la wa mk hok lp tp rk0 od0 fr fo ((f * 8) + o) (((lpr σ f i) * 1024) + 1) i (o + 1) (by omega) (htp i (by omega) (by omega)) (by rw [(hr0 _ (by omega)).1, (hr0 _ (by omega)).2]; exact (hk i (by omega) (by omega) c85).1) (fun w => by rw [(hr0 _ (by omega)).1, (hr0 _ (by omega)).2]; exact (hk i (by omega) (by omega) c85).2 w) hi2) (cwV 4 hts gX1_fillCell_X1_offerGoingOn rfl rfl rfl (by decide +kernel) ⟨Nat.le_of_ble_eq_true rfl, Nat.le_of_ble_eq_true rfl⟩) hK hP hD hS hA (va_recv hK hP (ci := 1) (q0 := 5) rfl rfl) rfl hl.1 rfl (Nat.le_of_ble_eq_true rfl) ⟨Nat.zero_le _, Nat.zero_le _⟩ dX1_fillCell_167 [0, 1, 2, 3, 4, 5, 6, 7, 8, 9] [] [0, 1, 2, 3, 4, 5, 6, 7, 8, 9] rfl (by decide) (wr := ([] : va_W)) rfl (by decide) (by decide) (fun _ => rfl) (fun u => wPc q cI (sNb σ) (sWd σ) (sPp σ) (sCt σ) (sCs σ) mk la wa ++ wSe q cJ lp tp u.1 u.2 fr fo) (fun _ => rfl) (fun _ => rfl) (fun ⟨rkc1, odc1⟩ H locs hu1 hP hD hS => ?_)
        have hP : va_P D vwCl (wPc q cI (sNb σ) (sWd σ) (sPp σ) (sCt σ) (sCs σ) mk la wa ++ wSe q cJ lp tp rkc1 odc1 fr fo) H := hP
        have hD : va_D A (wPc q cI (sNb σ) (sWd σ) (sPp σ) (sCt σ) (sCs σ) mk la wa ++ wSe q cJ lp tp rkc1 odc1 fr fo) := hD
        refine lv_iinc (v := jI (i + 1)) (lv' := [(6, .int (jI (i + 1))), (9, .long (jL (((lpr σ f i) * 1024) + 1))), (7, .long (jL (lpr σ f i))), (0, .ref (q 5)), (1, .int (jI f)), (2, .int (jI o)), (3, .int (jI lo)), (4, .int (jI hi)), (5, .int (jI ((f * 8) + o)))]) hx hb dX1_fillCell_170 hl (k := 8) rfl (jI_add _ _) (by decide) rfl (fun ls hl => ?_)
        refine lv_goto (tgt := 31) hx hb dX1_fillCell_173 (by decide) ?_
        exact ih31 (i + 1, rkc1, odc1, ls, H, locs) ⟨⟨by omega, fc_64 hi2 hu1 (fun r z w => off_B hS0 (by omega) (by omega) (by omega) (hk i (by omega) (by omega)) (((off_go hmy c85 (by omega) (hr0 _ (by omega)) (hr0 _ (by omega))) r z).mp w)), fc_step hi3 hu1 (off_go hmy c85 (by omega) (hr0 _ (by omega)) (hr0 _ (by omega))) (by omega) (by omega)⟩, by omega, lv_sub hl [3, 4, 5, 6, 7, 8, 0] rfl, hP, hD, hS⟩
      · skip
        refine lv_iload_n hx hb dX1_fillCell_88 rfl (lv_at hl 4 rfl) ?_
        refine j_join (α := Prop) (P := fun pw => pw ↔ (o = 0 ∧ 0 < f)) (f := fun pw => F0 m 101 ls [.int (jZ pw)]) ?_ (fun jn89 => ?_)
        · intro pw hvpw
          refine lv_istore (lv' := [(11, .int (jZ pw)), (9, .long (jL (((lpr σ f i) * 1024) + 1))), (7, .long (jL (lpr σ f i))), (0, .ref (q 5)), (1, .int (jI f)), (2, .int (jI o)), (3, .int (jI lo)), (4, .int (jI hi)), (5, .int (jI ((f * 8) + o))), (6, .int (jI i))]) hx hb dX1_fillCell_101 hl (by decide) rfl (fun ls hl => ?_)
          refine lv_iload hx hb dX1_fillCell_103 (lv_at hl 0 rfl) ?_
          refine j_join (α := Int) (P := fun x => x = wdw σ f o) (f := fun x => F0 m 122 ls [.long (jL x)]) ?_ (fun jn105 => ?_)
          · intro x hvx
            refine lv_ldc2 (v := jL 1024) hx hb hown (hts (.constantLong RX1 62 (1024)) (by decide +kernel)) dX1_fillCell_122 ?_
            refine j_lmul hx hb dX1_fillCell_125 ?_
            refine lv_ldc2 (v := jL 32) hx hb hown (hts (.constantLong RX1 98 (32)) (by decide +kernel)) dX1_fillCell_126 ?_
            refine j_ladd hx hb dX1_fillCell_129 ?_
            refine lv_lstore (lv' := [(12, .long (jL ((x * 1024) + 32))), (11, .int (jZ pw)), (9, .long (jL (((lpr σ f i) * 1024) + 1))), (7, .long (jL (lpr σ f i))), (0, .ref (q 5)), (1, .int (jI f)), (2, .int (jI o)), (3, .int (jI lo)), (4, .int (jI hi)), (5, .int (jI ((f * 8) + o))), (6, .int (jI i))]) hx hb dX1_fillCell_130 hl (by decide) rfl (fun ls hl => ?_)
            refine lv_aload_n hx hb dX1_fillCell_132 rfl (lv_at hl 4 rfl) ?_
            refine lv_iload hx hb dX1_fillCell_133 (lv_at hl 9 rfl) ?_
            refine lv_lload hx hb dX1_fillCell_135 (lv_at hl 2 rfl) ?_
            refine lv_lload hx hb dX1_fillCell_137 (lv_at hl 0 rfl) ?_
            refine j_ladd hx hb dX1_fillCell_139 ?_
            refine lv_iload hx hb dX1_fillCell_140 (lv_at hl 10 rfl) ?_
            refine j_cSL (As := [.int (jI i)]) (rest := [.long (jL ((((lpr σ f i) * 1024) + 1) + ((x * 1024) + 32))), .int (jI ((f * 8) + o)), .ref (q 5)]) ⟨hx, hb, hml, hown, hts⟩ (kX1_lineEnd l D cI cJ cZ i (by omega)) (va_cwS 1 hts gX1_fillCell_X1_lineEnd rfl rfl rfl (by decide +kernel) ⟨Nat.le_of_ble_eq_true rfl, Nat.le_of_ble_eq_true rfl⟩) hK (hP.sub [] rfl) rfl hl.1 rfl (Nat.le_of_ble_eq_true rfl) ⟨Nat.zero_le _, Nat.zero_le _⟩ dX1_fillCell_142 ?_
            refine lv_iload hx hb dX1_fillCell_145 (lv_at hl 10 rfl) ?_
            refine j_cSL (As := [.int (jI i)]) (rest := [.long (jL (leB i)), .long (jL ((((lpr σ f i) * 1024) + 1) + ((x * 1024) + 32))), .int (jI ((f * 8) + o)), .ref (q 5)]) ⟨hx, hb, hml, hown, hts⟩ (kX1_pageEnd l D cI cJ cZ i (by omega)) (va_cwS 1 hts gX1_fillCell_X1_pageEnd rfl rfl rfl (by decide +kernel) ⟨Nat.le_of_ble_eq_true rfl, Nat.le_of_ble_eq_true rfl⟩) hK (hP.sub [] rfl) rfl hl.1 rfl (Nat.le_of_ble_eq_true rfl) ⟨Nat.zero_le _, Nat.zero_le _⟩ dX1_fillCell_147 ?_
            refine j_ladd hx hb dX1_fillCell_150 ?_
            refine j_mVV (As := [.int (jI ((f * 8) + o)), .long (jL ((((lpr σ f i) * 1024) + 1) + ((x * 1024) + 32))), .long (jL ((leB i) + (peB i)))]) (rest := []) ⟨hx, hb, hml, hown, hts⟩ (kX1_offer l D cI cJ cZ q σ la wa mk hok lp tp rk0 od0 fr fo ((f * 8) + o) ((((lpr σ f i) * 1024) + 1) + ((x * 1024) + 32)) ((leB i) + (peB i)) ⟨by omega, by omega, by unfold i64; omega, hi2.1, hi2.2⟩) (cwV 3 hts gX1_fillCell_X1_offer rfl rfl rfl (by decide +kernel) ⟨Nat.le_of_ble_eq_true rfl, Nat.le_of_ble_eq_true rfl⟩) hK hP hD hS hA (va_recv hK hP (ci := 1) (q0 := 5) rfl rfl) rfl hl.1 rfl (Nat.le_of_ble_eq_true rfl) ⟨Nat.zero_le _, Nat.zero_le _⟩ dX1_fillCell_151 [0, 1, 2, 3, 4, 5, 6, 7, 8, 9] [] [0, 1, 2, 3, 4, 5, 6, 7, 8, 9] rfl (by decide) (wr := ([] : va_W)) rfl (by decide) (by decide) (fun _ => rfl) (fun u => wPc q cI (sNb σ) (sWd σ) (sPp σ) (sCt σ) (sCs σ) mk la wa ++ wSe q cJ lp tp u.1 u.2 fr fo) (fun _ => rfl) (fun _ => rfl) (fun ⟨rkc2, odc2⟩ H locs hu2 hP hD hS => ?_)
            have hu2 : cellUp rk0 od0 rkc2 odc2 ((f * 8) + o) (fun r z => r = ((((lpr σ f i) * 1024) + 1) + ((x * 1024) + 32)) ∧ z = ((leB i) + (peB i))) := hu2
            have hP : va_P D vwCl (wPc q cI (sNb σ) (sWd σ) (sPp σ) (sCt σ) (sCs σ) mk la wa ++ wSe q cJ lp tp rkc2 odc2 fr fo) H := hP
            have hD : va_D A (wPc q cI (sNb σ) (sWd σ) (sPp σ) (sCt σ) (sCs σ) mk la wa ++ wSe q cJ lp tp rkc2 odc2 fr fo) := hD
            refine lv_goto (tgt := 170) hx hb dX1_fillCell_154 (by decide) ?_
            refine lv_iinc (v := jI (i + 1)) (lv' := [(6, .int (jI (i + 1))), (12, .long (jL ((x * 1024) + 32))), (11, .int (jZ pw)), (9, .long (jL (((lpr σ f i) * 1024) + 1))), (7, .long (jL (lpr σ f i))), (0, .ref (q 5)), (1, .int (jI f)), (2, .int (jI o)), (3, .int (jI lo)), (4, .int (jI hi)), (5, .int (jI ((f * 8) + o)))]) hx hb dX1_fillCell_170 hl (k := 10) rfl (jI_add _ _) (by decide) rfl (fun ls hl => ?_)
            refine lv_goto (tgt := 31) hx hb dX1_fillCell_173 (by decide) ?_
            exact ih31 (i + 1, rkc2, odc2, ls, H, locs) ⟨⟨by omega, fc_64 hi2 hu2 (fun r z w => off_B hS0 (by omega) (by omega) (by omega) (hk i (by omega) (by omega)) (((off_last hmy c85 (by omega)) r z).mp w)), fc_step hi3 hu2 (off_last hmy c85 (by omega)) (by omega) (by omega)⟩, by omega, lv_sub hl [5, 6, 7, 8, 9, 10, 0] rfl, hP, hD, hS⟩
          refine j_ifeqZ (tgt := 121) hx hb dX1_fillCell_105 (by decide) (fun c105 => ?_) (fun c105 => ?_)
          · skip
            refine j_lconst0 hx hb dX1_fillCell_121 ?_
            exact jn105 0 (by unfold wdw; first | exact (if_pos (hvpw.mp c105)).symm | exact (if_neg (fun w => c105 (hvpw.mpr w))).symm)
          · skip
            refine lv_aload_n hx hb dX1_fillCell_108 rfl (lv_at hl 3 rfl) ?_
            refine va_get (D := D) (ci := 1) (v := .ref (q 0)) (C := RX1) (T := TX1) (N := 7) hx hb hts hinX1 hown hK hP 5 rfl rfl 0 (by decide) (hts (.fieldLink RX1 11 "BreakLines$Search" "piece" "LBreakLines$Piece;") (by decide +kernel)) (fun _ h9 => h9) rfl dX1_fillCell_109 ?_
            refine va_get (D := D) (ci := 0) (v := .ref (q 1)) (C := RX0) (T := TX0) (N := 8) hx hb hts hinX0 hown hK hP 0 rfl rfl 4 (by decide) (hts (.fieldLink RX1 94 "BreakLines$Piece" "costs" "[I") (by decide +kernel)) (fun _ h9 => h9) rfl dX1_fillCell_112 ?_
            refine j_iconst hx hb dX1_fillCell_115 ?_
            refine j_iald hx hb hK hP 1 0 rfl rfl (i := 2) (by omega) (by decide) dX1_fillCell_116 ?_
            refine j_i2l hx hb (by unfold i32; omega) dX1_fillCell_117 ?_
            refine lv_goto (tgt := 122) hx hb dX1_fillCell_118 (by decide) ?_
            exact jn105 ((sCs σ) 2) (by unfold wdw; first | exact (if_pos (hvpw.mp c105)).symm | exact (if_neg (fun w => c105 (hvpw.mpr w))).symm)
        refine j_if_ne (tgt := 100) hx hb (by unfold i32; omega) dX1_fillCell_89 (by decide) (fun c89 => ?_) (fun c89 => ?_)
        · skip
          refine j_iconst hx hb dX1_fillCell_100 ?_
          refine j_topi (y := jZ False) ((jZ_f id).symm) ?_
          exact jn89 False (by first | exact ⟨fun _ => ⟨by omega, by omega⟩, fun _ => trivial⟩ | exact ⟨fun w => w.elim, fun w => by omega⟩)
        · skip
          refine lv_iload_n hx hb dX1_fillCell_92 rfl (lv_at hl 3 rfl) ?_
          refine j_if_le (tgt := 100) hx hb (by unfold i32; omega) dX1_fillCell_93 (by decide) (fun c93 => ?_) (fun c93 => ?_)
          · skip
            refine j_iconst hx hb dX1_fillCell_100 ?_
            refine j_topi (y := jZ False) ((jZ_f id).symm) ?_
            exact jn89 False (by first | exact ⟨fun _ => ⟨by omega, by omega⟩, fun _ => trivial⟩ | exact ⟨fun w => w.elim, fun w => by omega⟩)
          · skip
            refine j_iconst hx hb dX1_fillCell_96 ?_
            refine lv_goto (tgt := 101) hx hb dX1_fillCell_97 (by decide) ?_
            refine j_topi (y := jZ True) ((jZ_t trivial).symm) ?_
            exact jn89 True (by first | exact ⟨fun _ => ⟨by omega, by omega⟩, fun _ => trivial⟩ | exact ⟨fun w => w.elim, fun w => by omega⟩)
    · skip
      have hmn : ¬ may σ f i := by rcases hlr with w | w; exact w.1; omega
      refine lv_goto (tgt := 170) hx hb dX1_fillCell_61 (by decide) ?_
      refine lv_iinc (v := jI (i + 1)) (lv' := [(6, .int (jI (i + 1))), (7, .long (jL (lpr σ f i))), (0, .ref (q 5)), (1, .int (jI f)), (2, .int (jI o)), (3, .int (jI lo)), (4, .int (jI hi)), (5, .int (jI ((f * 8) + o)))]) hx hb dX1_fillCell_170 hl (k := 7) rfl (jI_add _ _) (by decide) rfl (fun ls hl => ?_)
      refine lv_goto (tgt := 31) hx hb dX1_fillCell_173 (by decide) ?_
      exact ih31 (i + 1, rk0, od0, ls, H, locs) ⟨⟨by omega, hi2, fc_step hi3 (cellUp_none (N := OffT σ rk od f o i) (fun r z w => hmn w.1)) (fun r z => Iff.rfl) (by omega) (by omega)⟩, by omega, lv_sub hl [2, 3, 4, 5, 6, 7, 0] rfl, hP, hD, hS⟩
end
