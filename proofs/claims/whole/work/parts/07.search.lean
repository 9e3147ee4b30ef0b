/-! the contracts of BreakLines$Search -/
noncomputable section
set_option maxHeartbeats 4000000 in
set_option maxRecDepth 100000 in
theorem kX1_lineEnd (l : Launch) (D : va_G) (cI cJ cZ : ClassId) (t : Int) (h : 0 ≤ t ∧ t < 24) : RoL l yX1_lineEnd wsX1_lineEnd 0 0 D (tyc cI cJ cZ) ([]) [.int (jI t)] (jL (leB t)) := by
  refine j_start RX1 rfl (by decide) rfl (Nat.le_of_ble_eq_true rfl) ?_
  intro p e s m below meth c ls hx hb hr hlocks hml hown hts hnm hl ⟨hP, hK⟩
  have hP : va_P D vwCl ([]) s.heap := hP
  have hl : lv_has ls 1 [(0, .int (jI t))] := hl
  refine j_lconst1 hx hb dX1_lineEnd_0 ?_
  refine j_bipush hx hb dX1_lineEnd_1 (by decide) ?_
  refine lv_iload_n hx hb dX1_lineEnd_3 rfl (lv_at hl 0 rfl) ?_
  refine j_isub hx hb dX1_lineEnd_4 ?_
  refine lv_lshl (v := (jL (leB t))) hx hb dX1_lineEnd_5 (jL_bit (by omega) (by omega)) ?_
  exact j_retL hx hb hr hlocks dX1_lineEnd_6 rfl
set_option maxHeartbeats 4000000 in
set_option maxRecDepth 100000 in
theorem kX1_pageEnd (l : Launch) (D : va_G) (cI cJ cZ : ClassId) (t : Int) (h : 0 ≤ t ∧ t < 24) : RoL l yX1_pageEnd wsX1_pageEnd 0 0 D (tyc cI cJ cZ) ([]) [.int (jI t)] (jL (peB t)) := by
  refine j_start RX1 rfl (by decide) rfl (Nat.le_of_ble_eq_true rfl) ?_
  intro p e s m below meth c ls hx hb hr hlocks hml hown hts hnm hl ⟨hP, hK⟩
  have hP : va_P D vwCl ([]) s.heap := hP
  have hl : lv_has ls 1 [(0, .int (jI t))] := hl
  refine j_lconst1 hx hb dX1_pageEnd_0 ?_
  refine j_bipush hx hb dX1_pageEnd_1 (by decide) ?_
  refine lv_iload_n hx hb dX1_pageEnd_3 rfl (lv_at hl 0 rfl) ?_
  refine j_isub hx hb dX1_pageEnd_4 ?_
  refine lv_lshl (v := (jL (peB t))) hx hb dX1_pageEnd_5 (jL_bit (by omega) (by omega)) ?_
  exact j_retL hx hb hr hlocks dX1_pageEnd_6 rfl
set_option maxHeartbeats 4000000 in
set_option maxRecDepth 100000 in
theorem kX1_hasFound (l : Launch) (D : va_G) (cI cJ cZ : ClassId) (q : Nat → Nat) (σ : Sg) (la wa : Int → Int) (mk : Nat → Int32) (hok : okP σ la wa mk) (lp tp rk od : Int → Int) (fr fo : Int) (h : i64 fr) : RoI l yX1_hasFound wsX1_hasFound 0 0 D (tyc cI cJ cZ) (wPc q cI (sNb σ) (sWd σ) (sPp σ) (sCt σ) (sCs σ) mk la wa ++ wSe q cJ lp tp rk od fr fo) [.ref (q 5)] (jZ (fr ≠ 9223372036854775807)) := by
  refine j_start RX1 rfl (by decide) rfl (Nat.le_of_ble_eq_true rfl) ?_
  intro p e s m below meth c ls hx hb hr hlocks hml hown hts hnm hl ⟨hP, hK⟩
  have hP : va_P D vwCl (wPc q cI (sNb σ) (sWd σ) (sPp σ) (sCt σ) (sCs σ) mk la wa ++ wSe q cJ lp tp rk od fr fo) s.heap := hP
  have hl : lv_has ls 1 [(0, .ref (q 5))] := hl
  have hinX1 : ∀ w ∈ u_ws RX1 TX1 7, w ∈ wsX1_hasFound := by decide +kernel
  unfold i64 at h
  refine lv_aload_n hx hb dX1_hasFound_0 rfl (lv_at hl 0 rfl) ?_
  refine va_get (D := D) (ci := 1) (v := .long (jL fr)) (C := RX1) (T := TX1) (N := 7) hx hb hts hinX1 hown hK hP 5 rfl rfl 5 (by decide) (hts (.fieldLink RX1 32 "BreakLines$Search" "foundRank" "J") (by decide +kernel)) (fun _ h9 => h9) rfl dX1_hasFound_1 ?_
  refine lv_ldc2 (v := jL 9223372036854775807) hx hb hown (hts (.constantLong RX1 30 (9223372036854775807)) (by decide +kernel)) dX1_hasFound_4 ?_
  refine j_lcmp_eq (tgt := 15) hx hb (by unfold i64; omega) dX1_hasFound_7 dX1_hasFound_8 (by decide) (fun c7 => ?_) (fun c7 => ?_)
  · skip
    refine j_iconst hx hb dX1_hasFound_15 ?_
    exact j_retZ hx hb hr (by decide) hlocks dX1_hasFound_16 ((jZ_f (by omega)).symm)
  · skip
    refine j_iconst hx hb dX1_hasFound_11 ?_
    refine lv_goto (tgt := 16) hx hb dX1_hasFound_12 (by decide) ?_
    exact j_retZ hx hb hr (by decide) hlocks dX1_hasFound_16 ((jZ_t (by omega)).symm)
set_option maxHeartbeats 4000000 in
set_option maxRecDepth 100000 in
theorem kX1_foundTotal (l : Launch) (D : va_G) (cI cJ cZ : ClassId) (q : Nat → Nat) (σ : Sg) (la wa : Int → Int) (mk : Nat → Int32) (hok : okP σ la wa mk) (lp tp rk od : Int → Int) (fr fo : Int) (h : 0 ≤ fr ∧ fr ≤ 9223372036854775807) : RoL l yX1_foundTotal wsX1_foundTotal 1 20 D (tyc cI cJ cZ) (wPc q cI (sNb σ) (sWd σ) (sPp σ) (sCt σ) (sCs σ) mk la wa ++ wSe q cJ lp tp rk od fr fo) [.ref (q 5)] (jL (if fr = 9223372036854775807 then -1 else fr / 1024)) := by
  refine j_start RX1 rfl (by decide) rfl (Nat.le_of_ble_eq_true rfl) ?_
  intro p e s m below meth c ls hx hb hr hlocks hml hown hts hnm hl ⟨hP, hK⟩
  have hP : va_P D vwCl (wPc q cI (sNb σ) (sWd σ) (sPp σ) (sCt σ) (sCs σ) mk la wa ++ wSe q cJ lp tp rk od fr fo) s.heap := hP
  have hl : lv_has ls 1 [(0, .ref (q 5))] := hl
  have hinX1 : ∀ w ∈ u_ws RX1 TX1 7, w ∈ wsX1_foundTotal := by decide +kernel
  refine lv_aload_n hx hb dX1_foundTotal_0 rfl (lv_at hl 0 rfl) ?_
  refine j_cVI (As := []) (rest := []) ⟨hx, hb, hml, hown, hts⟩ (kX1_hasFound l D cI cJ cZ q σ la wa mk hok lp tp rk od fr fo  (by unfold i64; omega)) (cwV 0 hts gX1_foundTotal_X1_hasFound rfl rfl rfl (by decide +kernel) ⟨Nat.le_of_ble_eq_true rfl, Nat.le_of_ble_eq_true rfl⟩) hK hP (va_recv hK hP (ci := 1) (q0 := 5) rfl rfl) rfl hl.1 rfl (Nat.le_of_ble_eq_true rfl) ⟨Nat.zero_le _, Nat.zero_le _⟩ dX1_foundTotal_1 ?_
  refine j_ifeqZ (tgt := 18) hx hb dX1_foundTotal_4 (by decide) (fun c4 => ?_) (fun c4 => ?_)
  · skip
    refine lv_ldc2 (v := jL (-1)) hx hb hown (hts (.constantLong RX1 64 (-1)) (by decide +kernel)) dX1_foundTotal_18 ?_
    exact j_retL hx hb hr hlocks dX1_foundTotal_21 (congrArg jL (by rw [if_pos (Classical.not_not.mp c4)]))
  · skip
    refine lv_aload_n hx hb dX1_foundTotal_7 rfl (lv_at hl 0 rfl) ?_
    refine va_get (D := D) (ci := 1) (v := .long (jL fr)) (C := RX1) (T := TX1) (N := 7) hx hb hts hinX1 hown hK hP 5 rfl rfl 5 (by decide) (hts (.fieldLink RX1 32 "BreakLines$Search" "foundRank" "J") (by decide +kernel)) (fun _ h9 => h9) rfl dX1_foundTotal_8 ?_
    refine lv_ldc2 (v := jL 1024) hx hb hown (hts (.constantLong RX1 62 (1024)) (by decide +kernel)) dX1_foundTotal_11 ?_
    refine j_ldiv hx hb (by omega) dX1_foundTotal_14 ?_
    refine lv_goto (tgt := 21) hx hb dX1_foundTotal_15 (by decide) ?_
    exact j_retL hx hb hr hlocks dX1_foundTotal_21 (congrArg jL (by rw [if_neg c4]))
set_option maxHeartbeats 4000000 in
set_option maxRecDepth 100000 in
theorem kX1_lineEndsAt (l : Launch) (D : va_G) (cI cJ cZ : ClassId) (q : Nat → Nat) (σ : Sg) (la wa : Int → Int) (mk : Nat → Int32) (hok : okP σ la wa mk) (lp tp rk od : Int → Int) (fr fo : Int) (t : Int) (h : (0 ≤ fo ∧ fo ≤ 9223372036854775807) ∧ 0 ≤ t ∧ t < 24) : RoI l yX1_lineEndsAt wsX1_lineEndsAt 1 20 D (tyc cI cJ cZ) (wPc q cI (sNb σ) (sWd σ) (sPp σ) (sCt σ) (sCs σ) mk la wa ++ wSe q cJ lp tp rk od fr fo) [.ref (q 5), .int (jI t)] (jZ (fo / leB t % 2 = 1)) := by
  refine j_start RX1 rfl (by decide) rfl (Nat.le_of_ble_eq_true rfl) ?_
  intro p e s m below meth c ls hx hb hr hlocks hml hown hts hnm hl ⟨hP, hK⟩
  have hP : va_P D vwCl (wPc q cI (sNb σ) (sWd σ) (sPp σ) (sCt σ) (sCs σ) mk la wa ++ wSe q cJ lp tp rk od fr fo) s.heap := hP
  have hl : lv_has ls 2 [(0, .ref (q 5)), (1, .int (jI t))] := hl
  have hinX1 : ∀ w ∈ u_ws RX1 TX1 7, w ∈ wsX1_lineEndsAt := by decide +kernel
  refine lv_aload_n hx hb dX1_lineEndsAt_0 rfl (lv_at hl 0 rfl) ?_
  refine va_get (D := D) (ci := 1) (v := .long (jL fo)) (C := RX1) (T := TX1) (N := 7) hx hb hts hinX1 hown hK hP 5 rfl rfl 6 (by decide) (hts (.fieldLink RX1 36 "BreakLines$Search" "foundOrder" "J") (by decide +kernel)) (fun _ h9 => h9) rfl dX1_lineEndsAt_1 ?_
  refine lv_iload_n hx hb dX1_lineEndsAt_4 rfl (lv_at hl 1 rfl) ?_
  refine j_cSL (As := [.int (jI t)]) (rest := [.long (jL fo)]) ⟨hx, hb, hml, hown, hts⟩ (kX1_lineEnd l D cI cJ cZ t (by omega)) (va_cwS 1 hts gX1_lineEndsAt_X1_lineEnd rfl rfl rfl (by decide +kernel) ⟨Nat.le_of_ble_eq_true rfl, Nat.le_of_ble_eq_true rfl⟩) hK (hP.sub [] rfl) rfl hl.1 rfl (Nat.le_of_ble_eq_true rfl) ⟨Nat.zero_le _, Nat.zero_le _⟩ dX1_lineEndsAt_5 ?_
  refine lv_land hx hb dX1_lineEndsAt_8 ?_
  refine j_lconst0 hx hb dX1_lineEndsAt_9 ?_
  refine W.lcmp hx hb dX1_lineEndsAt_10 (lv_if_eq (tgt := 18) hx hb dX1_lineEndsAt_11 (by decide) (fun c10 => ?_) (fun c10 => ?_))
  · skip
    refine j_iconst hx hb dX1_lineEndsAt_18 ?_
    exact j_retZ hx hb hr (by decide) hlocks dX1_lineEndsAt_19 ((jZ_f (by unfold leB; first | exact fun w => ((jL_and (o := fo) h.1.1 (by omega) (by omega)).mp ((lg_cmp_eq _ _).mp c10)) w | exact Classical.byContradiction (fun w => c10 ((lg_cmp_eq _ _).mpr ((jL_and (o := fo) h.1.1 (by omega) (by omega)).mpr w))))).symm)
  · skip
    refine j_iconst hx hb dX1_lineEndsAt_14 ?_
    refine lv_goto (tgt := 19) hx hb dX1_lineEndsAt_15 (by decide) ?_
    exact j_retZ hx hb hr (by decide) hlocks dX1_lineEndsAt_19 ((jZ_t (by unfold leB; first | exact fun w => ((jL_and (o := fo) h.1.1 (by omega) (by omega)).mp ((lg_cmp_eq _ _).mp c10)) w | exact Classical.byContradiction (fun w => c10 ((lg_cmp_eq _ _).mpr ((jL_and (o := fo) h.1.1 (by omega) (by omega)).mpr w))))).symm)
set_option maxHeartbeats 4000000 in
set_option maxRecDepth 100000 in
theorem kX1_pageEndsAt (l : Launch) (D : va_G) (cI cJ cZ : ClassId) (q : Nat → Nat) (σ : Sg) (la wa : Int → Int) (mk : Nat → Int32) (hok : okP σ la wa mk) (lp tp rk od : Int → Int) (fr fo : Int) (t : Int) (h : (0 ≤ fo ∧ fo ≤ 9223372036854775807) ∧ 0 ≤ t ∧ t < 24) : RoI l yX1_pageEndsAt wsX1_pageEndsAt 1 20 D (tyc cI cJ cZ) (wPc q cI (sNb σ) (sWd σ) (sPp σ) (sCt σ) (sCs σ) mk la wa ++ wSe q cJ lp tp rk od fr fo) [.ref (q 5), .int (jI t)] (jZ (fo / peB t % 2 = 1)) := by
  refine j_start RX1 rfl (by decide) rfl (Nat.le_of_ble_eq_true rfl) ?_
  intro p e s m below meth c ls hx hb hr hlocks hml hown hts hnm hl ⟨hP, hK⟩
  have hP : va_P D vwCl (wPc q cI (sNb σ) (sWd σ) (sPp σ) (sCt σ) (sCs σ) mk la wa ++ wSe q cJ lp tp rk od fr fo) s.heap := hP
  have hl : lv_has ls 2 [(0, .ref (q 5)), (1, .int (jI t))] := hl
  have hinX1 : ∀ w ∈ u_ws RX1 TX1 7, w ∈ wsX1_pageEndsAt := by decide +kernel
  refine lv_aload_n hx hb dX1_pageEndsAt_0 rfl (lv_at hl 0 rfl) ?_
  refine va_get (D := D) (ci := 1) (v := .long (jL fo)) (C := RX1) (T := TX1) (N := 7) hx hb hts hinX1 hown hK hP 5 rfl rfl 6 (by decide) (hts (.fieldLink RX1 36 "BreakLines$Search" "foundOrder" "J") (by decide +kernel)) (fun _ h9 => h9) rfl dX1_pageEndsAt_1 ?_
  refine lv_iload_n hx hb dX1_pageEndsAt_4 rfl (lv_at hl 1 rfl) ?_
  refine j_cSL (As := [.int (jI t)]) (rest := [.long (jL fo)]) ⟨hx, hb, hml, hown, hts⟩ (kX1_pageEnd l D cI cJ cZ t (by omega)) (va_cwS 1 hts gX1_pageEndsAt_X1_pageEnd rfl rfl rfl (by decide +kernel) ⟨Nat.le_of_ble_eq_true rfl, Nat.le_of_ble_eq_true rfl⟩) hK (hP.sub [] rfl) rfl hl.1 rfl (Nat.le_of_ble_eq_true rfl) ⟨Nat.zero_le _, Nat.zero_le _⟩ dX1_pageEndsAt_5 ?_
  refine lv_land hx hb dX1_pageEndsAt_8 ?_
  refine j_lconst0 hx hb dX1_pageEndsAt_9 ?_
  refine W.lcmp hx hb dX1_pageEndsAt_10 (lv_if_eq (tgt := 18) hx hb dX1_pageEndsAt_11 (by decide) (fun c10 => ?_) (fun c10 => ?_))
  · skip
    refine j_iconst hx hb dX1_pageEndsAt_18 ?_
    exact j_retZ hx hb hr (by decide) hlocks dX1_pageEndsAt_19 ((jZ_f (by unfold peB; first | exact fun w => ((jL_and (o := fo) h.1.1 (by omega) (by omega)).mp ((lg_cmp_eq _ _).mp c10)) w | exact Classical.byContradiction (fun w => c10 ((lg_cmp_eq _ _).mpr ((jL_and (o := fo) h.1.1 (by omega) (by omega)).mpr w))))).symm)
  · skip
    refine j_iconst hx hb dX1_pageEndsAt_14 ?_
    refine lv_goto (tgt := 19) hx hb dX1_pageEndsAt_15 (by decide) ?_
    exact j_retZ hx hb hr (by decide) hlocks dX1_pageEndsAt_19 ((jZ_t (by unfold peB; first | exact fun w => ((jL_and (o := fo) h.1.1 (by omega) (by omega)).mp ((lg_cmp_eq _ _).mp c10)) w | exact Classical.byContradiction (fun w => c10 ((lg_cmp_eq _ _).mpr ((jL_and (o := fo) h.1.1 (by omega) (by omega)).mpr w))))).symm)
set_option maxHeartbeats 4000000 in
set_option maxRecDepth 100000 in
theorem kX1_offer (l : Launch) (D : va_G) (cI cJ cZ : ClassId) (q : Nat → Nat) (σ : Sg) (la wa : Int → Int) (mk : Nat → Int32) (hok : okP σ la wa mk) (lp tp rk od : Int → Int) (fr fo : Int) (c0 x y : Int) (h : (0 ≤ c0 ∧ c0 < 192) ∧ (0 ≤ x ∧ x < 9223372036854775807) ∧ i64 y ∧ i64 (rk c0) ∧ i64 (od c0)) : MuV l yX1_offer wsX1_offer 0 0 D (tyc cI cJ cZ) (wPc q cI (sNb σ) (sWd σ) (sPp σ) (sCt σ) (sCs σ) mk la wa ++ wSe q cJ lp tp rk od fr fo) [.ref (q 5), .int (jI c0), .long (jL x), .long (jL y)] (fun (u : (Int → Int) × (Int → Int)) => cellUp rk od u.1 u.2 c0 (fun r z => r = x ∧ z = y)) (fun u => wPc q cI (sNb σ) (sWd σ) (sPp σ) (sCt σ) (sCs σ) mk la wa ++ wSe q cJ lp tp u.1 u.2 fr fo) := by
  intro sz
  refine j_start RX1 rfl (by decide) rfl (Nat.le_of_ble_eq_true rfl) ?_
  intro p e s m below meth c ls hx hb hr hlocks hml hown hts hnm hl ⟨hsz, hP, hK, hD0⟩
  subst hsz
  have hD := hD0.self (sz := s.heap.size)
  generalize hAe : va_A (wPc q cI (sNb σ) (sWd σ) (sPp σ) (sCt σ) (sCs σ) mk la wa ++ wSe q cJ lp tp rk od fr fo) s.heap.size = A at hD ⊢
  have hA : ∀ q : Nat, s.heap.size ≤ q → A q := fun q h => by rw [← hAe]; exact Or.inr h
  refine j_gen (fun H locs hHe hLe => ?_)
  have hS : va_S A s.heap H locs := by rw [hHe, hLe]; exact va_S.rf
  have hP : va_P D vwCl (wPc q cI (sNb σ) (sWd σ) (sPp σ) (sCt σ) (sCs σ) mk la wa ++ wSe q cJ lp tp rk od fr fo) H := by rw [hHe]; exact hP
  have hD : va_D A (wPc q cI (sNb σ) (sWd σ) (sPp σ) (sCt σ) (sCs σ) mk la wa ++ wSe q cJ lp tp rk od fr fo) := hD
  have hl : lv_has ls 6 [(0, .ref (q 5)), (1, .int (jI c0)), (2, .long (jL x)), (4, .long (jL y))] := hl
  have hinX1 : ∀ w ∈ u_ws RX1 TX1 7, w ∈ wsX1_offer := by decide +kernel
  unfold i64 at h
  refine lv_lload_n hx hb dX1_offer_0 rfl (lv_at hl 2 rfl) ?_
  refine lv_aload_n hx hb dX1_offer_1 rfl (lv_at hl 0 rfl) ?_
  refine va_get (D := D) (ci := 1) (v := .ref (q 8)) (C := RX1) (T := TX1) (N := 7) hx hb hts hinX1 hown hK hP 5 rfl rfl 3 (by decide) (hts (.fieldLink RX1 24 "BreakLines$Search" "ranks" "[J") (by decide +kernel)) (fun _ h9 => h9) rfl dX1_offer_2 ?_
  refine lv_iload_n hx hb dX1_offer_5 rfl (lv_at hl 1 rfl) ?_
  refine j_lald hx hb hK hP 8 1 rfl rfl (i := c0) (by omega) (by decide) dX1_offer_6 ?_
  refine j_lcmp_lt (tgt := 34) hx hb (by unfold i64; omega) dX1_offer_7 dX1_offer_8 (by decide) (fun c7 => ?_) (fun c7 => ?_)
  · skip
    refine lv_aload_n hx hb dX1_offer_34 rfl (lv_at hl 0 rfl) ?_
    refine va_get (D := D) (ci := 1) (v := .ref (q 8)) (C := RX1) (T := TX1) (N := 7) hx hb hts hinX1 hown hK hP 5 rfl rfl 3 (by decide) (hts (.fieldLink RX1 24 "BreakLines$Search" "ranks" "[J") (by decide +kernel)) (fun _ h9 => h9) rfl dX1_offer_35 ?_
    refine lv_iload_n hx hb dX1_offer_38 rfl (lv_at hl 1 rfl) ?_
    refine lv_lload_n hx hb dX1_offer_39 rfl (lv_at hl 2 rfl) ?_
    refine j_last hx hb hK hP hD hS 8 1 rfl rfl (i := c0) (by omega) (by decide) dX1_offer_40 (fun H locs hP hD hS => ?_)
    have hP : va_P D vwCl (wPc q cI (sNb σ) (sWd σ) (sPp σ) (sCt σ) (sCs σ) mk la wa ++ wSe q cJ lp tp (updI rk c0 x) od fr fo) H := hP
    have hD : va_D A (wPc q cI (sNb σ) (sWd σ) (sPp σ) (sCt σ) (sCs σ) mk la wa ++ wSe q cJ lp tp (updI rk c0 x) od fr fo) := hD
    refine lv_aload_n hx hb dX1_offer_41 rfl (lv_at hl 0 rfl) ?_
    refine va_get (D := D) (ci := 1) (v := .ref (q 9)) (C := RX1) (T := TX1) (N := 7) hx hb hts hinX1 hown hK hP 5 rfl rfl 4 (by decide) (hts (.fieldLink RX1 27 "BreakLines$Search" "orders" "[J") (by decide +kernel)) (fun _ h9 => h9) rfl dX1_offer_42 ?_
    refine lv_iload_n hx hb dX1_offer_45 rfl (lv_at hl 1 rfl) ?_
    refine lv_lload hx hb dX1_offer_46 (lv_at hl 3 rfl) ?_
    refine j_last hx hb hK hP hD hS 9 1 rfl rfl (i := c0) (by omega) (by decide) dX1_offer_48 (fun H locs hP hD hS => ?_)
    have hP : va_P D vwCl (wPc q cI (sNb σ) (sWd σ) (sPp σ) (sCt σ) (sCs σ) mk la wa ++ wSe q cJ lp tp (updI rk c0 x) (updI od c0 y) fr fo) H := hP
    have hD : va_D A (wPc q cI (sNb σ) (sWd σ) (sPp σ) (sCt σ) (sCs σ) mk la wa ++ wSe q cJ lp tp (updI rk c0 x) (updI od c0 y) fr fo) := hD
    exact j_mretV hx hb hr hlocks hS dX1_offer_49 (updI rk c0 x, updI od c0 y) (cellUp_offer (by omega) (by omega)) hP
  · skip
    refine lv_lload_n hx hb dX1_offer_11 rfl (lv_at hl 2 rfl) ?_
    refine lv_aload_n hx hb dX1_offer_12 rfl (lv_at hl 0 rfl) ?_
    refine va_get (D := D) (ci := 1) (v := .ref (q 8)) (C := RX1) (T := TX1) (N := 7) hx hb hts hinX1 hown hK hP 5 rfl rfl 3 (by decide) (hts (.fieldLink RX1 24 "BreakLines$Search" "ranks" "[J") (by decide +kernel)) (fun _ h9 => h9) rfl dX1_offer_13 ?_
    refine lv_iload_n hx hb dX1_offer_16 rfl (lv_at hl 1 rfl) ?_
    refine j_lald hx hb hK hP 8 1 rfl rfl (i := c0) (by omega) (by decide) dX1_offer_17 ?_
    refine j_lcmp_ne (tgt := 49) hx hb (by unfold i64; omega) dX1_offer_18 dX1_offer_19 (by decide) (fun c18 => ?_) (fun c18 => ?_)
    · skip
      exact j_mretV hx hb hr hlocks hS dX1_offer_49 (rk, od) (cellUp_keep (by omega) (by omega)) hP
    · skip
      refine lv_lload hx hb dX1_offer_22 (lv_at hl 3 rfl) ?_
      refine lv_aload_n hx hb dX1_offer_24 rfl (lv_at hl 0 rfl) ?_
      refine va_get (D := D) (ci := 1) (v := .ref (q 9)) (C := RX1) (T := TX1) (N := 7) hx hb hts hinX1 hown hK hP 5 rfl rfl 4 (by decide) (hts (.fieldLink RX1 27 "BreakLines$Search" "orders" "[J") (by decide +kernel)) (fun _ h9 => h9) rfl dX1_offer_25 ?_
      refine lv_iload_n hx hb dX1_offer_28 rfl (lv_at hl 1 rfl) ?_
      refine j_lald hx hb hK hP 9 1 rfl rfl (i := c0) (by omega) (by decide) dX1_offer_29 ?_
      refine j_lcmp_ge (tgt := 49) hx hb (by unfold i64; omega) dX1_offer_30 dX1_offer_31 (by decide) (fun c30 => ?_) (fun c30 => ?_)
      · skip
        exact j_mretV hx hb hr hlocks hS dX1_offer_49 (rk, od) (cellUp_keep (by omega) (by omega)) hP
      · skip
        refine lv_aload_n hx hb dX1_offer_34 rfl (lv_at hl 0 rfl) ?_
        refine va_get (D := D) (ci := 1) (v := .ref (q 8)) (C := RX1) (T := TX1) (N := 7) hx hb hts hinX1 hown hK hP 5 rfl rfl 3 (by decide) (hts (.fieldLink RX1 24 "BreakLines$Search" "ranks" "[J") (by decide +kernel)) (fun _ h9 => h9) rfl dX1_offer_35 ?_
        refine lv_iload_n hx hb dX1_offer_38 rfl (lv_at hl 1 rfl) ?_
        refine lv_lload_n hx hb dX1_offer_39 rfl (lv_at hl 2 rfl) ?_
        refine j_last hx hb hK hP hD hS 8 1 rfl rfl (i := c0) (by omega) (by decide) dX1_offer_40 (fun H locs hP hD hS => ?_)
        have hP : va_P D vwCl (wPc q cI (sNb σ) (sWd σ) (sPp σ) (sCt σ) (sCs σ) mk la wa ++ wSe q cJ lp tp (updI rk c0 x) od fr fo) H := hP
        have hD : va_D A (wPc q cI (sNb σ) (sWd σ) (sPp σ) (sCt σ) (sCs σ) mk la wa ++ wSe q cJ lp tp (updI rk c0 x) od fr fo) := hD
        refine lv_aload_n hx hb dX1_offer_41 rfl (lv_at hl 0 rfl) ?_
        refine va_get (D := D) (ci := 1) (v := .ref (q 9)) (C := RX1) (T := TX1) (N := 7) hx hb hts hinX1 hown hK hP 5 rfl rfl 4 (by decide) (hts (.fieldLink RX1 27 "BreakLines$Search" "orders" "[J") (by decide +kernel)) (fun _ h9 => h9) rfl dX1_offer_42 ?_
        refine lv_iload_n hx hb dX1_offer_45 rfl (lv_at hl 1 rfl) ?_
        refine lv_lload hx hb dX1_offer_46 (lv_at hl 3 rfl) ?_
        refine j_last hx hb hK hP hD hS 9 1 rfl rfl (i := c0) (by omega) (by decide) dX1_offer_48 (fun H locs hP hD hS => ?_)
        have hP : va_P D vwCl (wPc q cI (sNb σ) (sWd σ) (sPp σ) (sCt σ) (sCs σ) mk la wa ++ wSe q cJ lp tp (updI rk c0 x) (updI od c0 y) fr fo) H := hP
        have hD : va_D A (wPc q cI (sNb σ) (sWd σ) (sPp σ) (sCt σ) (sCs σ) mk la wa ++ wSe q cJ lp tp (updI rk c0 x) (updI od c0 y) fr fo) := hD
        exact j_mretV hx hb hr hlocks hS dX1_offer_49 (updI rk c0 x, updI od c0 y) (cellUp_offer (by omega) (by omega)) hP
set_option maxHeartbeats 4000000 in
set_option maxRecDepth 100000 in
theorem kX1_offerGoingOn (l : Launch) (D : va_G) (cI cJ cZ : ClassId) (q : Nat → Nat) (σ : Sg) (la wa : Int → Int) (mk : Nat → Int32) (hok : okP σ la wa mk) (lp tp rk od : Int → Int) (fr fo : Int) (c0 x t o : Int) (h : (0 ≤ c0 ∧ c0 < ((t + 1) * 8)) ∧ (0 ≤ t ∧ t + 1 < sNb σ) ∧ (0 ≤ o ∧ o ≤ 8) ∧ (0 ≤ x ∧ x ≤ 94000000000000000)) (htp : tp t = trn σ t) (hk1 : okC (rk ((t + 1) * 8)) (od ((t + 1) * 8))) (hk2 : o < sPp σ → okC (rk (((t + 1) * 8) + o)) (od (((t + 1) * 8) + o))) (hk0 : i64 (rk c0) ∧ i64 (od c0)) : MuV l yX1_offerGoingOn wsX1_offerGoingOn 1 25 D (tyc cI cJ cZ) (wPc q cI (sNb σ) (sWd σ) (sPp σ) (sCt σ) (sCs σ) mk la wa ++ wSe q cJ lp tp rk od fr fo) [.ref (q 5), .int (jI c0), .long (jL x), .int (jI t), .int (jI o)] (fun (u : (Int → Int) × (Int → Int)) => cellUp rk od u.1 u.2 c0 (fun r z => (rk ((t + 1) * 8) ≠ 9223372036854775807 ∧ r = x + (1024 * trn σ t + 32) + rk ((t + 1) * 8) ∧ z = leB t + peB t + od ((t + 1) * 8)) ∨ (o < sPp σ ∧ rk (((t + 1) * 8) + o) ≠ 9223372036854775807 ∧ r = x + rk (((t + 1) * 8) + o) ∧ z = leB t + od (((t + 1) * 8) + o)))) (fun u => wPc q cI (sNb σ) (sWd σ) (sPp σ) (sCt σ) (sCs σ) mk la wa ++ wSe q cJ lp tp u.1 u.2 fr fo) := by
  intro sz
  refine j_start RX1 rfl (by decide) rfl (Nat.le_of_ble_eq_true rfl) ?_
  intro p e s m below meth c ls hx hb hr hlocks hml hown hts hnm hl ⟨hsz, hP, hK, hD0⟩
  subst hsz
  have hD := hD0.self (sz := s.heap.size)
  generalize hAe : va_A (wPc q cI (sNb σ) (sWd σ) (sPp σ) (sCt σ) (sCs σ) mk la wa ++ wSe q cJ lp tp rk od fr fo) s.heap.size = A at hD ⊢
  have hA : ∀ q : Nat, s.heap.size ≤ q → A q := fun q h => by rw [← hAe]; exact Or.inr h
  refine j_gen (fun H locs hHe hLe => ?_)
  have hS : va_S A s.heap H locs := by rw [hHe, hLe]; exact va_S.rf
  have hP : va_P D vwCl (wPc q cI (sNb σ) (sWd σ) (sPp σ) (sCt σ) (sCs σ) mk la wa ++ wSe q cJ lp tp rk od fr fo) H := by rw [hHe]; exact hP
  have hD : va_D A (wPc q cI (sNb σ) (sWd σ) (sPp σ) (sCt σ) (sCs σ) mk la wa ++ wSe q cJ lp tp rk od fr fo) := hD
  have hl : lv_has ls 9 [(0, .ref (q 5)), (1, .int (jI c0)), (2, .long (jL x)), (4, .int (jI t)), (5, .int (jI o))] := hl
  have hinX0 : ∀ w ∈ u_ws RX0 TX0 8, w ∈ wsX1_offerGoingOn := by decide +kernel
  have hinX1 : ∀ w ∈ u_ws RX1 TX1 7, w ∈ wsX1_offerGoingOn := by decide +kernel
  have hS0 := hok.1
  have hnb := hS0.1
  have hwd := hS0.2.1
  have hpp := hS0.2.2.1
  have ht := trnB hS0 t
  have hle := leB_B (b := t) (by omega) (by omega)
  have hpe := peB_B (b := t) (by omega) (by omega)
  unfold i64 at hk0
  unfold okC at hk1 hk2
  refine lv_iload hx hb dX1_offerGoingOn_0 (lv_at hl 3 rfl) ?_
  refine j_iconst hx hb dX1_offerGoingOn_2 ?_
  refine j_iadd hx hb dX1_offerGoingOn_3 ?_
  refine j_bipush hx hb dX1_offerGoingOn_4 (by decide) ?_
  refine j_imul hx hb dX1_offerGoingOn_6 ?_
  refine lv_istore (lv' := [(6, .int (jI ((t + 1) * 8))), (0, .ref (q 5)), (1, .int (jI c0)), (2, .long (jL x)), (4, .int (jI t)), (5, .int (jI o))]) hx hb dX1_offerGoingOn_7 hl (by decide) rfl (fun ls hl => ?_)
  refine lv_aload_n hx hb dX1_offerGoingOn_9 rfl (lv_at hl 1 rfl) ?_
  refine va_get (D := D) (ci := 1) (v := .ref (q 8)) (C := RX1) (T := TX1) (N := 7) hx hb hts hinX1 hown hK hP 5 rfl rfl 3 (by decide) (hts (.fieldLink RX1 24 "BreakLines$Search" "ranks" "[J") (by decide +kernel)) (fun _ h9 => h9) rfl dX1_offerGoingOn_10 ?_
  refine lv_iload hx hb dX1_offerGoingOn_13 (lv_at hl 0 rfl) ?_
  refine j_lald hx hb hK hP 8 1 rfl rfl (i := (t + 1) * 8) (by omega) (by decide) dX1_offerGoingOn_15 ?_
  refine lv_ldc2 (v := jL 9223372036854775807) hx hb hown (hts (.constantLong RX1 30 (9223372036854775807)) (by decide +kernel)) dX1_offerGoingOn_16 ?_
  refine j_joinM (α := (Int → Int) × (Int → Int) × Array Slot × Heap × List Loc) (h := (fun z => match z with | (rk1, od1, ls, H, locs) => H)) (lc := (fun z => match z with | (rk1, od1, ls, H, locs) => locs)) (f := (fun z => match z with | (rk1, od1, ls, H, locs) => F0 m 76 ls [])) (P := (fun z => match z with | (rk1, od1, ls, H, locs) => (cellUp rk od rk1 od1 c0 (fun r z => rk ((t + 1) * 8) ≠ 9223372036854775807 ∧ r = x + (1024 * trn σ t + 32) + rk ((t + 1) * 8) ∧ z = leB t + peB t + od ((t + 1) * 8))) ∧ lv_has ls 9 [(0, .ref (q 5)), (1, .int (jI c0)), (2, .long (jL x)), (4, .int (jI t)), (5, .int (jI o)), (6, .int (jI ((t + 1) * 8)))] ∧ va_P D vwCl (wPc q cI (sNb σ) (sWd σ) (sPp σ) (sCt σ) (sCs σ) mk la wa ++ wSe q cJ lp tp rk1 od1 fr fo) H ∧ va_D A (wPc q cI (sNb σ) (sWd σ) (sPp σ) (sCt σ) (sCs σ) mk la wa ++ wSe q cJ lp tp rk1 od1 fr fo) ∧ va_S A s.heap H locs)) ?_ (fun jn19 => ?_)
  · intro ⟨rk1, od1, ls, H, locs⟩ ⟨hj19, hl, hP, hD, hS⟩
    have hl : lv_has ls 9 [(0, .ref (q 5)), (1, .int (jI c0)), (2, .long (jL x)), (4, .int (jI t)), (5, .int (jI o)), (6, .int (jI ((t + 1) * 8)))] := hl
    have hP : va_P D vwCl (wPc q cI (sNb σ) (sWd σ) (sPp σ) (sCt σ) (sCs σ) mk la wa ++ wSe q cJ lp tp rk1 od1 fr fo) H := hP
    have hD : va_D A (wPc q cI (sNb σ) (sWd σ) (sPp σ) (sCt σ) (sCs σ) mk la wa ++ wSe q cJ lp tp rk1 od1 fr fo) := hD
    have hS : va_S A s.heap H locs := hS
    show W p l e _ s m _ below meth c H locs _ _ _ (F0 m 76 ls [])
    have hj1 := hj19.1 ((t + 1) * 8) (by omega)
    have hj3 := hj19.1 ((t + 1) * 8 + o) (by omega)
    have hj2 : (rk1 c0 = rk c0 ∧ od1 c0 = od c0) ∨ (rk ((t + 1) * 8) ≠ 9223372036854775807 ∧ rk1 c0 = x + (1024 * trn σ t + 32) + rk ((t + 1) * 8) ∧ od1 c0 = leB t + peB t + od ((t + 1) * 8)) := hj19.2.1
    refine lv_iload hx hb dX1_offerGoingOn_76 (lv_at hl 4 rfl) ?_
    refine lv_aload_n hx hb dX1_offerGoingOn_78 rfl (lv_at hl 0 rfl) ?_
    refine va_get (D := D) (ci := 1) (v := .ref (q 0)) (C := RX1) (T := TX1) (N := 7) hx hb hts hinX1 hown hK hP 5 rfl rfl 0 (by decide) (hts (.fieldLink RX1 11 "BreakLines$Search" "piece" "LBreakLines$Piece;") (by decide +kernel)) (fun _ h9 => h9) rfl dX1_offerGoingOn_79 ?_
    refine va_get (D := D) (ci := 0) (v := .int (jI (sPp σ))) (C := RX0) (T := TX0) (N := 8) hx hb hts hinX0 hown hK hP 0 rfl rfl 2 (by decide) (hts (.fieldLink RX1 81 "BreakLines$Piece" "perPage" "I") (by decide +kernel)) (fun _ h9 => h9) rfl dX1_offerGoingOn_82 ?_
    refine j_icmp_ge (tgt := 138) hx hb (by unfold i32; omega) dX1_offerGoingOn_85 (by decide) (fun c85 => ?_) (fun c85 => ?_)
    · skip
      exact j_mretV hx hb hr hlocks hS dX1_offerGoingOn_138 (rk1, od1) (cellUp_congr hj19 (fun r z => ⟨Or.inl, fun w => w.elim id (fun w => by first | exact absurd w.1 (by omega) | exact absurd c101 w.2.1)⟩)) hP
    · skip
      refine lv_aload_n hx hb dX1_offerGoingOn_88 rfl (lv_at hl 0 rfl) ?_
      refine va_get (D := D) (ci := 1) (v := .ref (q 8)) (C := RX1) (T := TX1) (N := 7) hx hb hts hinX1 hown hK hP 5 rfl rfl 3 (by decide) (hts (.fieldLink RX1 24 "BreakLines$Search" "ranks" "[J") (by decide +kernel)) (fun _ h9 => h9) rfl dX1_offerGoingOn_89 ?_
      refine lv_iload hx hb dX1_offerGoingOn_92 (lv_at hl 5 rfl) ?_
      refine lv_iload hx hb dX1_offerGoingOn_94 (lv_at hl 4 rfl) ?_
      refine j_iadd hx hb dX1_offerGoingOn_96 ?_
      refine j_lald hx hb hK hP 8 1 rfl rfl (i := ((t + 1) * 8) + o) (by omega) (by decide) dX1_offerGoingOn_97 ?_
      refine j_topl (y := (jL (rk (((t + 1) * 8) + o)))) (congrArg jL hj3.1) ?_
      refine lv_ldc2 (v := jL 9223372036854775807) hx hb hown (hts (.constantLong RX1 30 (9223372036854775807)) (by decide +kernel)) dX1_offerGoingOn_98 ?_
      refine j_lcmp_eq (tgt := 138) hx hb (by have := hk2 (by omega); unfold i64; omega) dX1_offerGoingOn_101 dX1_offerGoingOn_102 (by decide) (fun c101 => ?_) (fun c101 => ?_)
      · skip
        exact j_mretV hx hb hr hlocks hS dX1_offerGoingOn_138 (rk1, od1) (cellUp_congr hj19 (fun r z => ⟨Or.inl, fun w => w.elim id (fun w => by first | exact absurd w.1 (by omega) | exact absurd c101 w.2.1)⟩)) hP
      · skip
        refine lv_aload_n hx hb dX1_offerGoingOn_105 rfl (lv_at hl 0 rfl) ?_
        refine lv_iload_n hx hb dX1_offerGoingOn_106 rfl (lv_at hl 1 rfl) ?_
        refine lv_lload_n hx hb dX1_offerGoingOn_107 rfl (lv_at hl 2 rfl) ?_
        refine lv_aload_n hx hb dX1_offerGoingOn_108 rfl (lv_at hl 0 rfl) ?_
        refine va_get (D := D) (ci := 1) (v := .ref (q 8)) (C := RX1) (T := TX1) (N := 7) hx hb hts hinX1 hown hK hP 5 rfl rfl 3 (by decide) (hts (.fieldLink RX1 24 "BreakLines$Search" "ranks" "[J") (by decide +kernel)) (fun _ h9 => h9) rfl dX1_offerGoingOn_109 ?_
        refine lv_iload hx hb dX1_offerGoingOn_112 (lv_at hl 5 rfl) ?_
        refine lv_iload hx hb dX1_offerGoingOn_114 (lv_at hl 4 rfl) ?_
        refine j_iadd hx hb dX1_offerGoingOn_116 ?_
        refine j_lald hx hb hK hP 8 1 rfl rfl (i := ((t + 1) * 8) + o) (by omega) (by decide) dX1_offerGoingOn_117 ?_
        refine j_topl (y := (jL (rk (((t + 1) * 8) + o)))) (congrArg jL hj3.1) ?_
        refine j_ladd hx hb dX1_offerGoingOn_118 ?_
        refine lv_iload hx hb dX1_offerGoingOn_119 (lv_at hl 3 rfl) ?_
        refine j_cSL (As := [.int (jI t)]) (rest := [.long (jL (x + (rk (((t + 1) * 8) + o)))), .int (jI c0), .ref (q 5)]) ⟨hx, hb, hml, hown, hts⟩ (kX1_lineEnd l D cI cJ cZ t (by omega)) (va_cwS 1 hts gX1_offerGoingOn_X1_lineEnd rfl rfl rfl (by decide +kernel) ⟨Nat.le_of_ble_eq_true rfl, Nat.le_of_ble_eq_true rfl⟩) hK (hP.sub [] rfl) rfl hl.1 rfl (Nat.le_of_ble_eq_true rfl) ⟨Nat.zero_le _, Nat.zero_le _⟩ dX1_offerGoingOn_121 ?_
        refine lv_aload_n hx hb dX1_offerGoingOn_124 rfl (lv_at hl 0 rfl) ?_
        refine va_get (D := D) (ci := 1) (v := .ref (q 9)) (C := RX1) (T := TX1) (N := 7) hx hb hts hinX1 hown hK hP 5 rfl rfl 4 (by decide) (hts (.fieldLink RX1 27 "BreakLines$Search" "orders" "[J") (by decide +kernel)) (fun _ h9 => h9) rfl dX1_offerGoingOn_125 ?_
        refine lv_iload hx hb dX1_offerGoingOn_128 (lv_at hl 5 rfl) ?_
        refine lv_iload hx hb dX1_offerGoingOn_130 (lv_at hl 4 rfl) ?_
        refine j_iadd hx hb dX1_offerGoingOn_132 ?_
        refine j_lald hx hb hK hP 9 1 rfl rfl (i := ((t + 1) * 8) + o) (by omega) (by decide) dX1_offerGoingOn_133 ?_
        refine j_topl (y := (jL (od (((t + 1) * 8) + o)))) (congrArg jL hj3.2) ?_
        refine j_ladd hx hb dX1_offerGoingOn_134 ?_
        refine j_mVV (As := [.int (jI c0), .long (jL (x + (rk (((t + 1) * 8) + o)))), .long (jL ((leB t) + (od (((t + 1) * 8) + o))))]) (rest := []) ⟨hx, hb, hml, hown, hts⟩ (kX1_offer l D cI cJ cZ q σ la wa mk hok lp tp rk1 od1 fr fo c0 (x + (rk (((t + 1) * 8) + o))) ((leB t) + (od (((t + 1) * 8) + o))) (by have := hk2 (by omega); unfold i64; omega)) (cwV 3 hts gX1_offerGoingOn_X1_offer rfl rfl rfl (by decide +kernel) ⟨Nat.le_of_ble_eq_true rfl, Nat.le_of_ble_eq_true rfl⟩) hK hP hD hS hA (va_recv hK hP (ci := 1) (q0 := 5) rfl rfl) rfl hl.1 rfl (Nat.le_of_ble_eq_true rfl) ⟨Nat.zero_le _, Nat.zero_le _⟩ dX1_offerGoingOn_135 [0, 1, 2, 3, 4, 5, 6, 7, 8, 9] [] [0, 1, 2, 3, 4, 5, 6, 7, 8, 9] rfl (by decide) (wr := ([] : va_W)) rfl (by decide) (by decide) (fun _ => rfl) (fun u => wPc q cI (sNb σ) (sWd σ) (sPp σ) (sCt σ) (sCs σ) mk la wa ++ wSe q cJ lp tp u.1 u.2 fr fo) (fun _ => rfl) (fun _ => rfl) (fun ⟨rkc1, odc1⟩ H locs hu1 hP hD hS => ?_)
        have hu1 : cellUp rk1 od1 rkc1 odc1 c0 (fun r z => r = (x + (rk (((t + 1) * 8) + o))) ∧ z = ((leB t) + (od (((t + 1) * 8) + o)))) := hu1
        have hP : va_P D vwCl (wPc q cI (sNb σ) (sWd σ) (sPp σ) (sCt σ) (sCs σ) mk la wa ++ wSe q cJ lp tp rkc1 odc1 fr fo) H := hP
        have hD : va_D A (wPc q cI (sNb σ) (sWd σ) (sPp σ) (sCt σ) (sCs σ) mk la wa ++ wSe q cJ lp tp rkc1 odc1 fr fo) := hD
        exact j_mretV hx hb hr hlocks hS dX1_offerGoingOn_138 (rkc1, odc1) (cellUp_congr (cellUp_trans hj19 hu1) (fun r z => ⟨fun w => w.imp id (fun w => ⟨c85, c101, w.1, w.2⟩), fun w => w.imp id (fun w => ⟨w.2.2.1, w.2.2.2⟩)⟩)) hP
  refine j_lcmp_eq (tgt := 76) hx hb (by unfold i64; omega) dX1_offerGoingOn_19 dX1_offerGoingOn_20 (by decide) (fun c19 => ?_) (fun c19 => ?_)
  · skip
    exact jn19 (rk, od, ls, H, locs) ⟨cellUp_none (fun r z w => w.1 c19), lv_sub hl [1, 2, 3, 4, 5, 0] rfl, hP, hD, hS⟩
  · skip
    refine lv_aload_n hx hb dX1_offerGoingOn_23 rfl (lv_at hl 1 rfl) ?_
    refine va_get (D := D) (ci := 1) (v := .ref (q 7)) (C := RX1) (T := TX1) (N := 7) hx hb hts hinX1 hown hK hP 5 rfl rfl 2 (by decide) (hts (.fieldLink RX1 21 "BreakLines$Search" "turnPrices" "[J") (by decide +kernel)) (fun _ h9 => h9) rfl dX1_offerGoingOn_24 ?_
    refine lv_iload hx hb dX1_offerGoingOn_27 (lv_at hl 4 rfl) ?_
    refine j_lald hx hb hK hP 7 1 rfl rfl (i := t) (by omega) (by decide) dX1_offerGoingOn_29 ?_
    refine j_topl (y := (jL (trn σ t))) (congrArg jL htp) ?_
    refine lv_ldc2 (v := jL 1024) hx hb hown (hts (.constantLong RX1 62 (1024)) (by decide +kernel)) dX1_offerGoingOn_30 ?_
    refine j_lmul hx hb dX1_offerGoingOn_33 ?_
    refine lv_ldc2 (v := jL 32) hx hb hown (hts (.constantLong RX1 98 (32)) (by decide +kernel)) dX1_offerGoingOn_34 ?_
    refine j_ladd hx hb dX1_offerGoingOn_37 ?_
    refine lv_lstore (lv' := [(7, .long (jL (((trn σ t) * 1024) + 32))), (6, .int (jI ((t + 1) * 8))), (0, .ref (q 5)), (1, .int (jI c0)), (2, .long (jL x)), (4, .int (jI t)), (5, .int (jI o))]) hx hb dX1_offerGoingOn_38 hl (by decide) rfl (fun ls hl => ?_)
    refine lv_aload_n hx hb dX1_offerGoingOn_40 rfl (lv_at hl 2 rfl) ?_
    refine lv_iload_n hx hb dX1_offerGoingOn_41 rfl (lv_at hl 3 rfl) ?_
    refine lv_lload_n hx hb dX1_offerGoingOn_42 rfl (lv_at hl 4 rfl) ?_
    refine lv_lload hx hb dX1_offerGoingOn_43 (lv_at hl 0 rfl) ?_
    refine j_ladd hx hb dX1_offerGoingOn_45 ?_
    refine lv_aload_n hx hb dX1_offerGoingOn_46 rfl (lv_at hl 2 rfl) ?_
    refine va_get (D := D) (ci := 1) (v := .ref (q 8)) (C := RX1) (T := TX1) (N := 7) hx hb hts hinX1 hown hK hP 5 rfl rfl 3 (by decide) (hts (.fieldLink RX1 24 "BreakLines$Search" "ranks" "[J") (by decide +kernel)) (fun _ h9 => h9) rfl dX1_offerGoingOn_47 ?_
    refine lv_iload hx hb dX1_offerGoingOn_50 (lv_at hl 1 rfl) ?_
    refine j_lald hx hb hK hP 8 1 rfl rfl (i := (t + 1) * 8) (by omega) (by decide) dX1_offerGoingOn_52 ?_
    refine j_ladd hx hb dX1_offerGoingOn_53 ?_
    refine lv_iload hx hb dX1_offerGoingOn_54 (lv_at hl 5 rfl) ?_
    refine j_cSL (As := [.int (jI t)]) (rest := [.long (jL ((x + (((trn σ t) * 1024) + 32)) + (rk ((t + 1) * 8)))), .int (jI c0), .ref (q 5)]) ⟨hx, hb, hml, hown, hts⟩ (kX1_lineEnd l D cI cJ cZ t (by omega)) (va_cwS 1 hts gX1_offerGoingOn_X1_lineEnd rfl rfl rfl (by decide +kernel) ⟨Nat.le_of_ble_eq_true rfl, Nat.le_of_ble_eq_true rfl⟩) hK (hP.sub [] rfl) rfl hl.1 rfl (Nat.le_of_ble_eq_true rfl) ⟨Nat.zero_le _, Nat.zero_le _⟩ dX1_offerGoingOn_56 ?_
    refine lv_iload hx hb dX1_offerGoingOn_59 (lv_at hl 5 rfl) ?_
    refine j_cSL (As := [.int (jI t)]) (rest := [.long (jL (leB t)), .long (jL ((x + (((trn σ t) * 1024) + 32)) + (rk ((t + 1) * 8)))), .int (jI c0), .ref (q 5)]) ⟨hx, hb, hml, hown, hts⟩ (kX1_pageEnd l D cI cJ cZ t (by omega)) (va_cwS 1 hts gX1_offerGoingOn_X1_pageEnd rfl rfl rfl (by decide +kernel) ⟨Nat.le_of_ble_eq_true rfl, Nat.le_of_ble_eq_true rfl⟩) hK (hP.sub [] rfl) rfl hl.1 rfl (Nat.le_of_ble_eq_true rfl) ⟨Nat.zero_le _, Nat.zero_le _⟩ dX1_offerGoingOn_61 ?_
    refine j_ladd hx hb dX1_offerGoingOn_64 ?_
    refine lv_aload_n hx hb dX1_offerGoingOn_65 rfl (lv_at hl 2 rfl) ?_
    refine va_get (D := D) (ci := 1) (v := .ref (q 9)) (C := RX1) (T := TX1) (N := 7) hx hb hts hinX1 hown hK hP 5 rfl rfl 4 (by decide) (hts (.fieldLink RX1 27 "BreakLines$Search" "orders" "[J") (by decide +kernel)) (fun _ h9 => h9) rfl dX1_offerGoingOn_66 ?_
    refine lv_iload hx hb dX1_offerGoingOn_69 (lv_at hl 1 rfl) ?_
    refine j_lald hx hb hK hP 9 1 rfl rfl (i := (t + 1) * 8) (by omega) (by decide) dX1_offerGoingOn_71 ?_
    refine j_ladd hx hb dX1_offerGoingOn_72 ?_
    refine j_mVV (As := [.int (jI c0), .long (jL ((x + (((trn σ t) * 1024) + 32)) + (rk ((t + 1) * 8)))), .long (jL (((leB t) + (peB t)) + (od ((t + 1) * 8))))]) (rest := []) ⟨hx, hb, hml, hown, hts⟩ (kX1_offer l D cI cJ cZ q σ la wa mk hok lp tp rk od fr fo c0 ((x + (((trn σ t) * 1024) + 32)) + (rk ((t + 1) * 8))) (((leB t) + (peB t)) + (od ((t + 1) * 8))) (by unfold i64; omega)) (cwV 3 hts gX1_offerGoingOn_X1_offer rfl rfl rfl (by decide +kernel) ⟨Nat.le_of_ble_eq_true rfl, Nat.le_of_ble_eq_true rfl⟩) hK hP hD hS hA (va_recv hK hP (ci := 1) (q0 := 5) rfl rfl) rfl hl.1 rfl (Nat.le_of_ble_eq_true rfl) ⟨Nat.zero_le _, Nat.zero_le _⟩ dX1_offerGoingOn_73 [0, 1, 2, 3, 4, 5, 6, 7, 8, 9] [] [0, 1, 2, 3, 4, 5, 6, 7, 8, 9] rfl (by decide) (wr := ([] : va_W)) rfl (by decide) (by decide) (fun _ => rfl) (fun u => wPc q cI (sNb σ) (sWd σ) (sPp σ) (sCt σ) (sCs σ) mk la wa ++ wSe q cJ lp tp u.1 u.2 fr fo) (fun _ => rfl) (fun _ => rfl) (fun ⟨rkc2, odc2⟩ H locs hu2 hP hD hS => ?_)
    have hu2 : cellUp rk od rkc2 odc2 c0 (fun r z => r = ((x + (((trn σ t) * 1024) + 32)) + (rk ((t + 1) * 8))) ∧ z = (((leB t) + (peB t)) + (od ((t + 1) * 8)))) := hu2
    have hP : va_P D vwCl (wPc q cI (sNb σ) (sWd σ) (sPp σ) (sCt σ) (sCs σ) mk la wa ++ wSe q cJ lp tp rkc2 odc2 fr fo) H := hP
    have hD : va_D A (wPc q cI (sNb σ) (sWd σ) (sPp σ) (sCt σ) (sCs σ) mk la wa ++ wSe q cJ lp tp rkc2 odc2 fr fo) := hD
    exact jn19 (rkc2, odc2, ls, H, locs) ⟨cellUp_congr hu2 (fun r z => ⟨fun w => ⟨c19, by have := w.1; omega, w.2⟩, fun w => ⟨by have := w.2.1; omega, w.2.2⟩⟩), lv_sub hl [2, 3, 4, 5, 6, 1] rfl, hP, hD, hS⟩
set_option maxHeartbeats 4000000 in
set_option maxRecDepth 100000 in
theorem kX1_fillCell (l : Launch) (D : va_G) (cI cJ cZ : ClassId) (q : Nat → Nat) (σ : Sg) (la wa : Int → Int) (mk : Nat → Int32) (hok : okP σ la wa mk) (lp tp rk od : Int → Int) (fr fo : Int) (f o lo hi : Int) (h : (0 ≤ f ∧ f < sNb σ) ∧ (0 ≤ o ∧ o < sPp σ) ∧ (f ≤ lo ∧ lo ≤ sNb σ) ∧ (-1 ≤ hi ∧ hi < sNb σ)) (hlp : ∀ t, f ≤ t → t < sNb σ → lp (f * 24 + t) = lpr σ f t) (htp : ∀ t, 0 ≤ t → t < sNb σ → tp t = trn σ t) (hk : ∀ t, lo ≤ t → t ≤ hi → t ≠ sNb σ - 1 → okC (rk ((t + 1) * 8)) (od ((t + 1) * 8)) ∧ (o + 1 < sPp σ → okC (rk (((t + 1) * 8) + (o + 1))) (od (((t + 1) * 8) + (o + 1))))) : MuV l yX1_fillCell wsX1_fillCell 2 53 D (tyc cI cJ cZ) (wPc q cI (sNb σ) (sWd σ) (sPp σ) (sCt σ) (sCs σ) mk la wa ++ wSe q cJ lp tp rk od fr fo) [.ref (q 5), .int (jI f), .int (jI o), .int (jI lo), .int (jI hi)] (fun (u : (Int → Int) × (Int → Int)) => (∀ j, j ≠ f * 8 + o → u.1 j = rk j ∧ u.2 j = od j) ∧ Bst (fun r z => ∃ t, lo ≤ t ∧ t ≤ hi ∧ OffT σ rk od f o t r z) (u.1 (f * 8 + o)) (u.2 (f * 8 + o))) (fun u => wPc q cI (sNb σ) (sWd σ) (sPp σ) (sCt σ) (sCs σ) mk la wa ++ wSe q cJ lp tp u.1 u.2 fr fo) := by
  intro sz
  refine j_start RX1 rfl (by decide) rfl (Nat.le_of_ble_eq_true rfl) ?_
  intro p e s m below meth c ls hx hb hr hlocks hml hown hts hnm hl ⟨hsz, hP, hK, hD0⟩
  subst hsz
  have hD := hD0.self (sz := s.heap.size)
  generalize hAe : va_A (wPc q cI (sNb σ) (sWd σ) (sPp σ) (sCt σ) (sCs σ) mk la wa ++ wSe q cJ lp tp rk od fr fo) s.heap.size = A at hD ⊢
  have hA : ∀ q : Nat, s.heap.size ≤ q → A q := fun q h => by rw [← hAe]; exact Or.inr h
  refine j_gen (fun H locs hHe hLe => ?_)
  have hS : va_S A s.heap H locs := by rw [hHe, hLe]; exact va_S.rf
  have hP : va_P D vwCl (wPc q cI (sNb σ) (sWd σ) (sPp σ) (sCt σ) (sCs σ) mk la wa ++ wSe q cJ lp tp rk od fr fo) H := by rw [hHe]; exact hP
  have hD : va_D A (wPc q cI (sNb σ) (sWd σ) (sPp σ) (sCt σ) (sCs σ) mk la wa ++ wSe q cJ lp tp rk od fr fo) := hD
  have hl : lv_has ls 14 [(0, .ref (q 5)), (1, .int (jI f)), (2, .int (jI o)), (3, .int (jI lo)), (4, .int (jI hi))] := hl
  have hinX0 : ∀ w ∈ u_ws RX0 TX0 8, w ∈ wsX1_fillCell := by decide +kernel
  have hinX1 : ∀ w ∈ u_ws RX1 TX1 7, w ∈ wsX1_fillCell := by decide +kernel
  have hS0 := hok.1
  have hnb := hS0.1
  have hwd := hS0.2.1
  have hpp := hS0.2.2.1
  have hc2 := hS0.2.2.2.2.1 2 (by omega) (by omega)
  refine lv_iload_n hx hb dX1_fillCell_0 rfl (lv_at hl 1 rfl) ?_
  refine j_bipush hx hb dX1_fillCell_1 (by decide) ?_
  refine j_imul hx hb dX1_fillCell_3 ?_
  refine lv_iload_n hx hb dX1_fillCell_4 rfl (lv_at hl 2 rfl) ?_
  refine j_iadd hx hb dX1_fillCell_5 ?_
  refine lv_istore (lv' := [(5, .int (jI ((f * 8) + o))), (0, .ref (q 5)), (1, .int (jI f)), (2, .int (jI o)), (3, .int (jI lo)), (4, .int (jI hi))]) hx hb dX1_fillCell_6 hl (by decide) rfl (fun ls hl => ?_)
  refine lv_aload_n hx hb dX1_fillCell_8 rfl (lv_at hl 1 rfl) ?_
  refine va_get (D := D) (ci := 1) (v := .ref (q 8)) (C := RX1) (T := TX1) (N := 7) hx hb hts hinX1 hown hK hP 5 rfl rfl 3 (by decide) (hts (.fieldLink RX1 24 "BreakLines$Search" "ranks" "[J") (by decide +kernel)) (fun _ h9 => h9) rfl dX1_fillCell_9 ?_
  refine lv_iload hx hb dX1_fillCell_12 (lv_at hl 0 rfl) ?_
  refine lv_ldc2 (v := jL 9223372036854775807) hx hb hown (hts (.constantLong RX1 30 (9223372036854775807)) (by decide +kernel)) dX1_fillCell_14 ?_
  refine j_last hx hb hK hP hD hS 8 1 rfl rfl (i := (f * 8) + o) (by omega) (by decide) dX1_fillCell_17 (fun H locs hP hD hS => ?_)
  have hP : va_P D vwCl (wPc q cI (sNb σ) (sWd σ) (sPp σ) (sCt σ) (sCs σ) mk la wa ++ wSe q cJ lp tp (updI rk ((f * 8) + o) 9223372036854775807) od fr fo) H := hP
  have hD : va_D A (wPc q cI (sNb σ) (sWd σ) (sPp σ) (sCt σ) (sCs σ) mk la wa ++ wSe q cJ lp tp (updI rk ((f * 8) + o) 9223372036854775807) od fr fo) := hD
  refine lv_aload_n hx hb dX1_fillCell_18 rfl (lv_at hl 1 rfl) ?_
  refine va_get (D := D) (ci := 1) (v := .ref (q 9)) (C := RX1) (T := TX1) (N := 7) hx hb hts hinX1 hown hK hP 5 rfl rfl 4 (by decide) (hts (.fieldLink RX1 27 "BreakLines$Search" "orders" "[J") (by decide +kernel)) (fun _ h9 => h9) rfl dX1_fillCell_19 ?_
  refine lv_iload hx hb dX1_fillCell_22 (lv_at hl 0 rfl) ?_
  refine lv_ldc2 (v := jL 9223372036854775807) hx hb hown (hts (.constantLong RX1 30 (9223372036854775807)) (by decide +kernel)) dX1_fillCell_24 ?_
  refine j_last hx hb hK hP hD hS 9 1 rfl rfl (i := (f * 8) + o) (by omega) (by decide) dX1_fillCell_27 (fun H locs hP hD hS => ?_)
  have hP : va_P D vwCl (wPc q cI (sNb σ) (sWd σ) (sPp σ) (sCt σ) (sCs σ) mk la wa ++ wSe q cJ lp tp (updI rk ((f * 8) + o) 9223372036854775807) (updI od ((f * 8) + o) 9223372036854775807) fr fo) H := hP
  have hD : va_D A (wPc q cI (sNb σ) (sWd σ) (sPp σ) (sCt σ) (sCs σ) mk la wa ++ wSe q cJ lp tp (updI rk ((f * 8) + o) 9223372036854775807) (updI od ((f * 8) + o) 9223372036854775807) fr fo) := hD
  refine lv_iload_n hx hb dX1_fillCell_28 rfl (lv_at hl 4 rfl) ?_
  refine lv_istore (lv' := [(6, .int (jI lo)), (5, .int (jI ((f * 8) + o))), (0, .ref (q 5)), (1, .int (jI f)), (2, .int (jI o)), (3, .int (jI lo)), (4, .int (jI hi))]) hx hb dX1_fillCell_29 hl (by decide) rfl (fun ls hl => ?_)
  refine j_loop (α := Int × (Int → Int) × (Int → Int) × Array Slot × Heap × List Loc) (h := fun z => match z with | (i, rk0, od0, ls, H, locs) => H) (lc := fun z => match z with | (i, rk0, od0, ls, H, locs) => locs) (f := fun z => match z with | (i, rk0, od0, ls, H, locs) => F0 m 31 ls []) (P := fun nn z => match z with | (i, rk0, od0, ls, H, locs) => ((lo ≤ i ∧ i ≤ sNb σ) ∧ (i64 (rk0 (f * 8 + o)) ∧ i64 (od0 (f * 8 + o))) ∧ cellUp (updI rk (f * 8 + o) 9223372036854775807) (updI od (f * 8 + o) 9223372036854775807) rk0 od0 (f * 8 + o) (fun r z => ∃ t, lo ≤ t ∧ t < i ∧ t ≤ hi ∧ OffT σ rk od f o t r z)) ∧ (hi + 1 - i).toNat < nn ∧ lv_has ls 14 [(0, .ref (q 5)), (1, .int (jI f)), (2, .int (jI o)), (3, .int (jI lo)), (4, .int (jI hi)), (5, .int (jI ((f * 8) + o))), (6, .int (jI i))] ∧ va_P D vwCl (wPc q cI (sNb σ) (sWd σ) (sPp σ) (sCt σ) (sCs σ) mk la wa ++ wSe q cJ lp tp rk0 od0 fr fo) H ∧ va_D A (wPc q cI (sNb σ) (sWd σ) (sPp σ) (sCt σ) (sCs σ) mk la wa ++ wSe q cJ lp tp rk0 od0 fr fo) ∧ va_S A s.heap H locs) (fun z hz => ?_) ?_ ((hi + 1 - lo).toNat + 1) (lo, updI rk ((f * 8) + o) 9223372036854775807, updI od ((f * 8) + o) 9223372036854775807, ls, H, locs) ⟨⟨by omega, by rw [updI_s, updI_s]; unfold i64; omega, cellUp_none (fun r z w => by obtain ⟨t, w1, w2, -⟩ := w; omega)⟩, Nat.lt_succ_self _, lv_sub hl [2, 3, 4, 5, 6, 1, 0] rfl, hP, hD, hS⟩
  · obtain ⟨i, rk0, od0, ls, H, locs⟩ := z; exact absurd hz.2.1 (Nat.not_lt_zero _)
  intro n31 ih31 ⟨i, rk0, od0, ls, H, locs⟩ ⟨hi31, hm31, hl, hP, hD, hS⟩
  have hl : lv_has ls 14 [(0, .ref (q 5)), (1, .int (jI f)), (2, .int (jI o)), (3, .int (jI lo)), (4, .int (jI hi)), (5, .int (jI ((f * 8) + o))), (6, .int (jI i))] := hl
  have hP : va_P D vwCl (wPc q cI (sNb σ) (sWd σ) (sPp σ) (sCt σ) (sCs σ) mk la wa ++ wSe q cJ lp tp rk0 od0 fr fo) H := hP
  have hD : va_D A (wPc q cI (sNb σ) (sWd σ) (sPp σ) (sCt σ) (sCs σ) mk la wa ++ wSe q cJ lp tp rk0 od0 fr fo) := hD
  have hS : va_S A s.heap H locs := hS
  show W p l e _ s m _ below meth c H locs _ _ _ (F0 m 31 ls [])
  obtain ⟨hi1, hi2, hi3⟩ := hi31
  have hr0 := fc_same hi3
  refine lv_iload hx hb dX1_fillCell_31 (lv_at hl 6 rfl) ?_
  refine lv_iload hx hb dX1_fillCell_33 (lv_at hl 4 rfl) ?_
  refine j_icmp_gt (tgt := 176) hx hb (by unfold i32; omega) dX1_fillCell_35 (by decide) (fun c35 => ?_) (fun c35 => ?_)
  · skip
    exact j_mretV hx hb hr hlocks hS dX1_fillCell_176 (rk0, od0) (fc_end hi3 (by omega)) hP
  · skip
    have hle := leB_B (b := i) (by omega) (by omega)
    have hpe := peB_B (b := i) (by omega) (by omega)
    have hcs := cstB hS0 (a := f) (b := i) (by omega) (by omega) (by omega)
    have hlr := lpr_or σ f i
    have hww := wdwB hS0 f o
    refine lv_aload_n hx hb dX1_fillCell_38 rfl (lv_at hl 0 rfl) ?_
    refine va_get (D := D) (ci := 1) (v := .ref (q 6)) (C := RX1) (T := TX1) (N := 7) hx hb hts hinX1 hown hK hP 5 rfl rfl 1 (by decide) (hts (.fieldLink RX1 17 "BreakLines$Search" "linePrices" "[J") (by decide +kernel)) (fun _ h9 => h9) rfl dX1_fillCell_39 ?_
    refine lv_iload_n hx hb dX1_fillCell_42 rfl (lv_at hl 1 rfl) ?_
    refine j_bipush hx hb dX1_fillCell_43 (by decide) ?_
    refine j_imul hx hb dX1_fillCell_45 ?_
    refine lv_iload hx hb dX1_fillCell_46 (lv_at hl 6 rfl) ?_
    refine j_iadd hx hb dX1_fillCell_48 ?_
    refine j_lald hx hb hK hP 6 1 rfl rfl (i := (f * 24) + i) (by omega) (by decide) dX1_fillCell_49 ?_
    refine j_topl (y := (jL (lpr σ f i))) (congrArg jL (hlp i (by omega) (by omega))) ?_
    refine lv_lstore (lv' := [(7, .long (jL (lpr σ f i))), (0, .ref (q 5)), (1, .int (jI f)), (2, .int (jI o)), (3, .int (jI lo)), (4, .int (jI hi)), (5, .int (jI ((f * 8) + o))), (6, .int (jI i))]) hx hb dX1_fillCell_50 hl (by decide) rfl (fun ls hl => ?_)
    refine lv_lload hx hb dX1_fillCell_52 (lv_at hl 0 rfl) ?_
    refine lv_ldc2 (v := jL (-1)) hx hb hown (hts (.constantLong RX1 64 (-1)) (by decide +kernel)) dX1_fillCell_54 ?_
    refine j_lcmp_ne (tgt := 64) hx hb (by unfold i64; omega) dX1_fillCell_57 dX1_fillCell_58 (by decide) (fun c57 => ?_) (fun c57 => ?_)
    · skip
      have hmy : may σ f i := by rcases hlr with w | w; exact absurd w.2 c57; exact w.1
      have hlv := lpr_t hmy
      refine lv_lload hx hb dX1_fillCell_64 (lv_at hl 0 rfl) ?_
      refine lv_ldc2 (v := jL 1024) hx hb hown (hts (.constantLong RX1 62 (1024)) (by decide +kernel)) dX1_fillCell_66 ?_
      refine j_lmul hx hb dX1_fillCell_69 ?_
      refine j_lconst1 hx hb dX1_fillCell_70 ?_
      refine j_ladd hx hb dX1_fillCell_71 ?_
      refine lv_lstore (lv' := [(9, .long (jL (((lpr σ f i) * 1024) + 1))), (7, .long (jL (lpr σ f i))), (0, .ref (q 5)), (1, .int (jI f)), (2, .int (jI o)), (3, .int (jI lo)), (4, .int (jI hi)), (5, .int (jI ((f * 8) + o))), (6, .int (jI i))]) hx hb dX1_fillCell_72 hl (by decide) rfl (fun ls hl => ?_)
      refine lv_iload hx hb dX1_fillCell_74 (lv_at hl 8 rfl) ?_
      refine lv_aload_n hx hb dX1_fillCell_76 rfl (lv_at hl 2 rfl) ?_
      refine va_get (D := D) (ci := 1) (v := .ref (q 0)) (C := RX1) (T := TX1) (N := 7) hx hb hts hinX1 hown hK hP 5 rfl rfl 0 (by decide) (hts (.fieldLink RX1 11 "BreakLines$Search" "piece" "LBreakLines$Piece;") (by decide +kernel)) (fun _ h9 => h9) rfl dX1_fillCell_77 ?_
      refine va_get (D := D) (ci := 0) (v := .int (jI (sNb σ))) (C := RX0) (T := TX0) (N := 8) hx hb hts hinX0 hown hK hP 0 rfl rfl 0 (by decide) (hts (.fieldLink RX1 39 "BreakLines$Piece" "bars" "I") (by decide +kernel)) (fun _ h9 => h9) rfl dX1_fillCell_80 ?_
      refine j_iconst hx hb dX1_fillCell_83 ?_
      refine j_isub hx hb dX1_fillCell_84 ?_
      refine j_icmp_ne (tgt := 157) hx hb (by unfold i32; omega) dX1_fillCell_85 (by decide) (fun c85 => ?_) (fun c85 => ?_)
      · skip
        refine lv_aload_n hx hb dX1_fillCell_157 rfl (lv_at hl 2 rfl) ?_
        refine lv_iload hx hb dX1_fillCell_158 (lv_at hl 7 rfl) ?_
        refine lv_lload hx hb dX1_fillCell_160 (lv_at hl 0 rfl) ?_
        refine lv_iload hx hb dX1_fillCell_162 (lv_at hl 8 rfl) ?_
        refine lv_iload_n hx hb dX1_fillCell_164 rfl (lv_at hl 4 rfl) ?_
        refine j_iconst hx hb dX1_fillCell_165 ?_
        refine j_iadd hx hb dX1_fillCell_166 ?_
        refine j_mVV (As := [.int (jI ((f * 8) + o)), .long (jL (((lpr σ f i) * 1024) + 1)), .int (jI i), .int (jI (o + 1))]) (rest := []) ⟨hx, hb, hml, hown, hts⟩ (kX1_offerGoingOn l D cI cJ cZ q σ la wa mk hok lp tp rk0 od0 fr fo ((f * 8) + o) (((lpr σ f i) * 1024) + 1) i (o + 1) (by omega) (htp i (by omega) (by omega)) (by rw [(hr0 _ (by omega)).1, (hr0 _ (by omega)).2]; exact (hk i (by omega) (by omega) c85).1) (fun w => by rw [(hr0 _ (by omega)).1, (hr0 _ (by omega)).2]; exact (hk i (by omega) (by omega) c85).2 w) hi2) (cwV 4 hts gX1_fillCell_X1_offerGoingOn rfl rfl rfl (by decide +kernel) ⟨Nat.le_of_ble_eq_true rfl, Nat.le_of_ble_eq_true rfl⟩) hK hP hD hS hA (va_recv hK hP (ci := 1) (q0 := 5) rfl rfl) rfl hl.1 rfl (Nat.le_of_ble_eq_true rfl) ⟨Nat.zero_le _, Nat.zero_le _⟩ dX1_fillCell_167 [0, 1, 2, 3, 4, 5, 6, 7, 8, 9] [] [0, 1, 2, 3, 4, 5, 6, 7, 8, 9] rfl (by decide) (wr := ([] : va_W)) rfl (by decide) (by decide) (fun _ => rfl) (fun u => wPc q cI (sNb σ) (sWd σ) (sPp σ) (sCt σ) (sCs σ) mk la wa ++ wSe q cJ lp tp u.1 u.2 fr fo) (fun _ => rfl) (fun _ => rfl) (fun ⟨rkc1, odc1⟩ H locs hu1 hP hD hS => ?_)
        have hP : va_P D vwCl (wPc q cI (sNb σ) (sWd σ) (sPp σ) (sCt σ) (sCs σ) mk la wa ++ wSe q cJ lp tp rkc1 odc1 fr fo) H := hP
        have hD : va_D A (wPc q cI (sNb σ) (sWd σ) (sPp σ) (sCt σ) (sCs σ) mk la wa ++ wSe q cJ lp tp rkc1 odc1 fr fo) := hD
        refine lv_iinc (v := jI (i + 1)) (lv' := [(6, .int (jI (i + 1))), (9, .long (jL (((lpr σ f i) * 1024) + 1))), (7, .long (jL (lpr σ f i))), (0, .ref (q 5)), (1, .int (jI f)), (2, .int (jI o)), (3, .int (jI lo)), (4, .int (jI hi)), (5, .int (jI ((f * 8) + o)))]) hx hb dX1_fillCell_170 hl (k := 8) rfl (jI_add _ _) (by decide) rfl (fun ls hl => ?_)
        refine lv_goto (tgt := 31) hx hb dX1_fillCell_173 (by decide) ?_
        exact ih31 (i + 1, rkc1, odc1, ls, H, locs) ⟨⟨by omega, fc_64 hi2 hu1 (fun r z w => off_B hS0 (by omega) (by omega) (by omega) (hk i (by omega) (by omega)) (((off_go hmy c85 (by omega) (hr0 _ (by omega)) (hr0 _ (by omega))) r z).mp w)), fc_step hi3 hu1 (off_go hmy c85 (by omega) (hr0 _ (by omega)) (hr0 _ (by omega))) (by omega) (by omega)⟩, by omega, lv_sub hl [3, 4, 5, 6, 7, 8, 0] rfl, hP, hD, hS⟩
      · skip
        refine lv_iload_n hx hb dX1_fillCell_88 rfl (lv_at hl 4 rfl) ?_
        refine j_join (α := Prop) (P := fun pw => pw ↔ (o = 0 ∧ 0 < f)) (f := fun pw => F0 m 101 ls [.int (jZ pw)]) ?_ (fun jn89 => ?_)
        · intro pw hvpw
          refine lv_istore (lv' := [(11, .int (jZ pw)), (9, .long (jL (((lpr σ f i) * 1024) + 1))), (7, .long (jL (lpr σ f i))), (0, .ref (q 5)), (1, .int (jI f)), (2, .int (jI o)), (3, .int (jI lo)), (4, .int (jI hi)), (5, .int (jI ((f * 8) + o))), (6, .int (jI i))]) hx hb dX1_fillCell_101 hl (by decide) rfl (fun ls hl => ?_)
          refine lv_iload hx hb dX1_fillCell_103 (lv_at hl 0 rfl) ?_
          refine j_join (α := Int) (P := fun x => x = wdw σ f o) (f := fun x => F0 m 122 ls [.long (jL x)]) ?_ (fun jn105 => ?_)
          · intro x hvx
            refine lv_ldc2 (v := jL 1024) hx hb hown (hts (.constantLong RX1 62 (1024)) (by decide +kernel)) dX1_fillCell_122 ?_
            refine j_lmul hx hb dX1_fillCell_125 ?_
            refine lv_ldc2 (v := jL 32) hx hb hown (hts (.constantLong RX1 98 (32)) (by decide +kernel)) dX1_fillCell_126 ?_
            refine j_ladd hx hb dX1_fillCell_129 ?_
            refine lv_lstore (lv' := [(12, .long (jL ((x * 1024) + 32))), (11, .int (jZ pw)), (9, .long (jL (((lpr σ f i) * 1024) + 1))), (7, .long (jL (lpr σ f i))), (0, .ref (q 5)), (1, .int (jI f)), (2, .int (jI o)), (3, .int (jI lo)), (4, .int (jI hi)), (5, .int (jI ((f * 8) + o))), (6, .int (jI i))]) hx hb dX1_fillCell_130 hl (by decide) rfl (fun ls hl => ?_)
            refine lv_aload_n hx hb dX1_fillCell_132 rfl (lv_at hl 4 rfl) ?_
            refine lv_iload hx hb dX1_fillCell_133 (lv_at hl 9 rfl) ?_
            refine lv_lload hx hb dX1_fillCell_135 (lv_at hl 2 rfl) ?_
            refine lv_lload hx hb dX1_fillCell_137 (lv_at hl 0 rfl) ?_
            refine j_ladd hx hb dX1_fillCell_139 ?_
            refine lv_iload hx hb dX1_fillCell_140 (lv_at hl 10 rfl) ?_
            refine j_cSL (As := [.int (jI i)]) (rest := [.long (jL ((((lpr σ f i) * 1024) + 1) + ((x * 1024) + 32))), .int (jI ((f * 8) + o)), .ref (q 5)]) ⟨hx, hb, hml, hown, hts⟩ (kX1_lineEnd l D cI cJ cZ i (by omega)) (va_cwS 1 hts gX1_fillCell_X1_lineEnd rfl rfl rfl (by decide +kernel) ⟨Nat.le_of_ble_eq_true rfl, Nat.le_of_ble_eq_true rfl⟩) hK (hP.sub [] rfl) rfl hl.1 rfl (Nat.le_of_ble_eq_true rfl) ⟨Nat.zero_le _, Nat.zero_le _⟩ dX1_fillCell_142 ?_
            refine lv_iload hx hb dX1_fillCell_145 (lv_at hl 10 rfl) ?_
            refine j_cSL (As := [.int (jI i)]) (rest := [.long (jL (leB i)), .long (jL ((((lpr σ f i) * 1024) + 1) + ((x * 1024) + 32))), .int (jI ((f * 8) + o)), .ref (q 5)]) ⟨hx, hb, hml, hown, hts⟩ (kX1_pageEnd l D cI cJ cZ i (by omega)) (va_cwS 1 hts gX1_fillCell_X1_pageEnd rfl rfl rfl (by decide +kernel) ⟨Nat.le_of_ble_eq_true rfl, Nat.le_of_ble_eq_true rfl⟩) hK (hP.sub [] rfl) rfl hl.1 rfl (Nat.le_of_ble_eq_true rfl) ⟨Nat.zero_le _, Nat.zero_le _⟩ dX1_fillCell_147 ?_
            refine j_ladd hx hb dX1_fillCell_150 ?_
            refine j_mVV (As := [.int (jI ((f * 8) + o)), .long (jL ((((lpr σ f i) * 1024) + 1) + ((x * 1024) + 32))), .long (jL ((leB i) + (peB i)))]) (rest := []) ⟨hx, hb, hml, hown, hts⟩ (kX1_offer l D cI cJ cZ q σ la wa mk hok lp tp rk0 od0 fr fo ((f * 8) + o) ((((lpr σ f i) * 1024) + 1) + ((x * 1024) + 32)) ((leB i) + (peB i)) ⟨by omega, by omega, by unfold i64; omega, hi2.1, hi2.2⟩) (cwV 3 hts gX1_fillCell_X1_offer rfl rfl rfl (by decide +kernel) ⟨Nat.le_of_ble_eq_true rfl, Nat.le_of_ble_eq_true rfl⟩) hK hP hD hS hA (va_recv hK hP (ci := 1) (q0 := 5) rfl rfl) rfl hl.1 rfl (Nat.le_of_ble_eq_true rfl) ⟨Nat.zero_le _, Nat.zero_le _⟩ dX1_fillCell_151 [0, 1, 2, 3, 4, 5, 6, 7, 8, 9] [] [0, 1, 2, 3, 4, 5, 6, 7, 8, 9] rfl (by decide) (wr := ([] : va_W)) rfl (by decide) (by decide) (fun _ => rfl) (fun u => wPc q cI (sNb σ) (sWd σ) (sPp σ) (sCt σ) (sCs σ) mk la wa ++ wSe q cJ lp tp u.1 u.2 fr fo) (fun _ => rfl) (fun _ => rfl) (fun ⟨rkc2, odc2⟩ H locs hu2 hP hD hS => ?_)
            have hu2 : cellUp rk0 od0 rkc2 odc2 ((f * 8) + o) (fun r z => r = ((((lpr σ f i) * 1024) + 1) + ((x * 1024) + 32)) ∧ z = ((leB i) + (peB i))) := hu2
            have hP : va_P D vwCl (wPc q cI (sNb σ) (sWd σ) (sPp σ) (sCt σ) (sCs σ) mk la wa ++ wSe q cJ lp tp rkc2 odc2 fr fo) H := hP
            have hD : va_D A (wPc q cI (sNb σ) (sWd σ) (sPp σ) (sCt σ) (sCs σ) mk la wa ++ wSe q cJ lp tp rkc2 odc2 fr fo) := hD
            refine lv_goto (tgt := 170) hx hb dX1_fillCell_154 (by decide) ?_
            refine lv_iinc (v := jI (i + 1)) (lv' := [(6, .int (jI (i + 1))), (12, .long (jL ((x * 1024) + 32))), (11, .int (jZ pw)), (9, .long (jL (((lpr σ f i) * 1024) + 1))), (7, .long (jL (lpr σ f i))), (0, .ref (q 5)), (1, .int (jI f)), (2, .int (jI o)), (3, .int (jI lo)), (4, .int (jI hi)), (5, .int (jI ((f * 8) + o)))]) hx hb dX1_fillCell_170 hl (k := 10) rfl (jI_add _ _) (by decide) rfl (fun ls hl => ?_)
            refine lv_goto (tgt := 31) hx hb dX1_fillCell_173 (by decide) ?_
            exact ih31 (i + 1, rkc2, odc2, ls, H, locs) ⟨⟨by omega, fc_64 hi2 hu2 (fun r z w => off_B hS0 (by omega) (by omega) (by omega) (hk i (by omega) (by omega)) (((off_last hmy c85 (by omega)) r z).mp w)), fc_step hi3 hu2 (off_last hmy c85 (by omega)) (by omega) (by omega)⟩, by omega, lv_sub hl [5, 6, 7, 8, 9, 10, 0] rfl, hP, hD, hS⟩
          refine j_ifeqZ (tgt := 121) hx hb dX1_fillCell_105 (by decide) (fun c105 => ?_) (fun c105 => ?_)
          · skip
            refine j_lconst0 hx hb dX1_fillCell_121 ?_
            exact jn105 0 (by unfold wdw; first | exact (if_pos (hvpw.mp c105)).symm | exact (if_neg (fun w => c105 (hvpw.mpr w))).symm)
          · skip
            refine lv_aload_n hx hb dX1_fillCell_108 rfl (lv_at hl 3 rfl) ?_
            refine va_get (D := D) (ci := 1) (v := .ref (q 0)) (C := RX1) (T := TX1) (N := 7) hx hb hts hinX1 hown hK hP 5 rfl rfl 0 (by decide) (hts (.fieldLink RX1 11 "BreakLines$Search" "piece" "LBreakLines$Piece;") (by decide +kernel)) (fun _ h9 => h9) rfl dX1_fillCell_109 ?_
            refine va_get (D := D) (ci := 0) (v := .ref (q 1)) (C := RX0) (T := TX0) (N := 8) hx hb hts hinX0 hown hK hP 0 rfl rfl 4 (by decide) (hts (.fieldLink RX1 94 "BreakLines$Piece" "costs" "[I") (by decide +kernel)) (fun _ h9 => h9) rfl dX1_fillCell_112 ?_
            refine j_iconst hx hb dX1_fillCell_115 ?_
            refine j_iald hx hb hK hP 1 0 rfl rfl (i := 2) (by omega) (by decide) dX1_fillCell_116 ?_
            refine j_i2l hx hb (by unfold i32; omega) dX1_fillCell_117 ?_
            refine lv_goto (tgt := 122) hx hb dX1_fillCell_118 (by decide) ?_
            exact jn105 ((sCs σ) 2) (by unfold wdw; first | exact (if_pos (hvpw.mp c105)).symm | exact (if_neg (fun w => c105 (hvpw.mpr w))).symm)
        refine j_if_ne (tgt := 100) hx hb (by unfold i32; omega) dX1_fillCell_89 (by decide) (fun c89 => ?_) (fun c89 => ?_)
        · skip
          refine j_iconst hx hb dX1_fillCell_100 ?_
          refine j_topi (y := jZ False) ((jZ_f id).symm) ?_
          exact jn89 False (by first | exact ⟨fun _ => ⟨by omega, by omega⟩, fun _ => trivial⟩ | exact ⟨fun w => w.elim, fun w => by omega⟩)
        · skip
          refine lv_iload_n hx hb dX1_fillCell_92 rfl (lv_at hl 3 rfl) ?_
          refine j_if_le (tgt := 100) hx hb (by unfold i32; omega) dX1_fillCell_93 (by decide) (fun c93 => ?_) (fun c93 => ?_)
          · skip
            refine j_iconst hx hb dX1_fillCell_100 ?_
            refine j_topi (y := jZ False) ((jZ_f id).symm) ?_
            exact jn89 False (by first | exact ⟨fun _ => ⟨by omega, by omega⟩, fun _ => trivial⟩ | exact ⟨fun w => w.elim, fun w => by omega⟩)
          · skip
            refine j_iconst hx hb dX1_fillCell_96 ?_
            refine lv_goto (tgt := 101) hx hb dX1_fillCell_97 (by decide) ?_
            refine j_topi (y := jZ True) ((jZ_t trivial).symm) ?_
            exact jn89 True (by first | exact ⟨fun _ => ⟨by omega, by omega⟩, fun _ => trivial⟩ | exact ⟨fun w => w.elim, fun w => by omega⟩)
    · skip
      have hmn : ¬ may σ f i := by rcases hlr with w | w; exact w.1; omega
      refine lv_goto (tgt := 170) hx hb dX1_fillCell_61 (by decide) ?_
      refine lv_iinc (v := jI (i + 1)) (lv' := [(6, .int (jI (i + 1))), (7, .long (jL (lpr σ f i))), (0, .ref (q 5)), (1, .int (jI f)), (2, .int (jI o)), (3, .int (jI lo)), (4, .int (jI hi)), (5, .int (jI ((f * 8) + o)))]) hx hb dX1_fillCell_170 hl (k := 7) rfl (jI_add _ _) (by decide) rfl (fun ls hl => ?_)
      refine lv_goto (tgt := 31) hx hb dX1_fillCell_173 (by decide) ?_
      exact ih31 (i + 1, rk0, od0, ls, H, locs) ⟨⟨by omega, hi2, fc_step hi3 (cellUp_none (N := OffT σ rk od f o i) (fun r z w => hmn w.1)) (fun r z => Iff.rfl) (by omega) (by omega)⟩, by omega, lv_sub hl [2, 3, 4, 5, 6, 7, 0] rfl, hP, hD, hS⟩
set_option maxHeartbeats 4000000 in
set_option maxRecDepth 100000 in
theorem kX1_priceLinesAndTurns (l : Launch) (D : va_G) (cI cJ cZ : ClassId) (q : Nat → Nat) (σ : Sg) (la wa : Int → Int) (mk : Nat → Int32) (hok : okP σ la wa mk) (lp tp rk od : Int → Int) (fr fo : Int) : MuV l yX1_priceLinesAndTurns wsX1_priceLinesAndTurns 3 69 D (tyc cI cJ cZ) (wPc q cI (sNb σ) (sWd σ) (sPp σ) (sCt σ) (sCs σ) mk la wa ++ wSe q cJ lp tp rk od fr fo) [.ref (q 5)] (fun (u : (Int → Int) × (Int → Int)) => (∀ x y, 0 ≤ x → x ≤ y → y < sNb σ → u.1 (x * 24 + y) = lpr σ x y) ∧ (∀ x, 0 ≤ x → x < sNb σ → u.2 x = trn σ x)) (fun u => wPc q cI (sNb σ) (sWd σ) (sPp σ) (sCt σ) (sCs σ) mk la wa ++ wSe q cJ u.1 u.2 rk od fr fo) := by
  intro sz
  refine j_start RX1 rfl (by decide) rfl (Nat.le_of_ble_eq_true rfl) ?_
  intro p e s m below meth c ls hx hb hr hlocks hml hown hts hnm hl ⟨hsz, hP, hK, hD0⟩
  subst hsz
  have hD := hD0.self (sz := s.heap.size)
  generalize hAe : va_A (wPc q cI (sNb σ) (sWd σ) (sPp σ) (sCt σ) (sCs σ) mk la wa ++ wSe q cJ lp tp rk od fr fo) s.heap.size = A at hD ⊢
  have hA : ∀ q : Nat, s.heap.size ≤ q → A q := fun q h => by rw [← hAe]; exact Or.inr h
  refine j_gen (fun H locs hHe hLe => ?_)
  have hS : va_S A s.heap H locs := by rw [hHe, hLe]; exact va_S.rf
  have hP : va_P D vwCl (wPc q cI (sNb σ) (sWd σ) (sPp σ) (sCt σ) (sCs σ) mk la wa ++ wSe q cJ lp tp rk od fr fo) H := by rw [hHe]; exact hP
  have hD : va_D A (wPc q cI (sNb σ) (sWd σ) (sPp σ) (sCt σ) (sCs σ) mk la wa ++ wSe q cJ lp tp rk od fr fo) := hD
  have hl : lv_has ls 3 [(0, .ref (q 5))] := hl
  have hinX0 : ∀ w ∈ u_ws RX0 TX0 8, w ∈ wsX1_priceLinesAndTurns := by decide +kernel
  have hinX1 : ∀ w ∈ u_ws RX1 TX1 7, w ∈ wsX1_priceLinesAndTurns := by decide +kernel
  have hS0 := hok.1
  have hnb := hS0.1
  have hwd := hS0.2.1
  have hpp := hS0.2.2.1
  refine j_iconst hx hb dX1_priceLinesAndTurns_0 ?_
  refine lv_istore_n (lv' := [(1, .int (jI 0)), (0, .ref (q 5))]) hx hb dX1_priceLinesAndTurns_1 rfl hl (by decide) rfl (fun ls hl => ?_)
  refine j_loop (α := Int × (Int → Int) × (Int → Int) × Array Slot × Heap × List Loc) (h := fun z => match z with | (a, lp0, tp0, ls, H, locs) => H) (lc := fun z => match z with | (a, lp0, tp0, ls, H, locs) => locs) (f := fun z => match z with | (a, lp0, tp0, ls, H, locs) => F0 m 2 ls []) (P := fun nn z => match z with | (a, lp0, tp0, ls, H, locs) => ((0 ≤ a ∧ a ≤ sNb σ) ∧ (∀ x y, 0 ≤ x → x < a → x ≤ y → y < sNb σ → lp0 (x * 24 + y) = lpr σ x y) ∧ (∀ x, 0 ≤ x → x < a → tp0 x = trn σ x)) ∧ (sNb σ - a).toNat < nn ∧ lv_has ls 3 [(0, .ref (q 5)), (1, .int (jI a))] ∧ va_P D vwCl (wPc q cI (sNb σ) (sWd σ) (sPp σ) (sCt σ) (sCs σ) mk la wa ++ wSe q cJ lp0 tp0 rk od fr fo) H ∧ va_D A (wPc q cI (sNb σ) (sWd σ) (sPp σ) (sCt σ) (sCs σ) mk la wa ++ wSe q cJ lp0 tp0 rk od fr fo) ∧ va_S A s.heap H locs) (fun z hz => ?_) ?_ ((sNb σ - 0).toNat + 1) (0, lp, tp, ls, H, locs) ⟨⟨by omega, fun x y h1 h2 => by omega, fun x h1 h2 => by omega⟩, Nat.lt_succ_self _, lv_sub hl [1, 0] rfl, hP, hD, hS⟩
  · obtain ⟨a, lp0, tp0, ls, H, locs⟩ := z; exact absurd hz.2.1 (Nat.not_lt_zero _)
  intro n2 ih2 ⟨a, lp0, tp0, ls, H, locs⟩ ⟨hi2, hm2, hl, hP, hD, hS⟩
  have hl : lv_has ls 3 [(0, .ref (q 5)), (1, .int (jI a))] := hl
  have hP : va_P D vwCl (wPc q cI (sNb σ) (sWd σ) (sPp σ) (sCt σ) (sCs σ) mk la wa ++ wSe q cJ lp0 tp0 rk od fr fo) H := hP
  have hD : va_D A (wPc q cI (sNb σ) (sWd σ) (sPp σ) (sCt σ) (sCs σ) mk la wa ++ wSe q cJ lp0 tp0 rk od fr fo) := hD
  have hS : va_S A s.heap H locs := hS
  show W p l e _ s m _ below meth c H locs _ _ _ (F0 m 2 ls [])
  obtain ⟨ha1, ha2, ha3⟩ := hi2
  refine lv_iload_n hx hb dX1_priceLinesAndTurns_2 rfl (lv_at hl 1 rfl) ?_
  refine lv_aload_n hx hb dX1_priceLinesAndTurns_3 rfl (lv_at hl 0 rfl) ?_
  refine va_get (D := D) (ci := 1) (v := .ref (q 0)) (C := RX1) (T := TX1) (N := 7) hx hb hts hinX1 hown hK hP 5 rfl rfl 0 (by decide) (hts (.fieldLink RX1 11 "BreakLines$Search" "piece" "LBreakLines$Piece;") (by decide +kernel)) (fun _ h9 => h9) rfl dX1_priceLinesAndTurns_4 ?_
  refine va_get (D := D) (ci := 0) (v := .int (jI (sNb σ))) (C := RX0) (T := TX0) (N := 8) hx hb hts hinX0 hown hK hP 0 rfl rfl 0 (by decide) (hts (.fieldLink RX1 39 "BreakLines$Piece" "bars" "I") (by decide +kernel)) (fun _ h9 => h9) rfl dX1_priceLinesAndTurns_7 ?_
  refine j_icmp_ge (tgt := 73) hx hb (by unfold i32; omega) dX1_priceLinesAndTurns_10 (by decide) (fun c10 => ?_) (fun c10 => ?_)
  · skip
    exact j_mretV hx hb hr hlocks hS dX1_priceLinesAndTurns_73 (lp0, tp0) ⟨fun x y h1 h2 h3 => ha2 x y h1 (by omega) h2 h3, fun x h1 h2 => ha3 x h1 (by omega)⟩ hP
  · skip
    refine lv_aload_n hx hb dX1_priceLinesAndTurns_13 rfl (lv_at hl 0 rfl) ?_
    refine va_get (D := D) (ci := 1) (v := .ref (q 7)) (C := RX1) (T := TX1) (N := 7) hx hb hts hinX1 hown hK hP 5 rfl rfl 2 (by decide) (hts (.fieldLink RX1 21 "BreakLines$Search" "turnPrices" "[J") (by decide +kernel)) (fun _ h9 => h9) rfl dX1_priceLinesAndTurns_14 ?_
    refine lv_iload_n hx hb dX1_priceLinesAndTurns_17 rfl (lv_at hl 1 rfl) ?_
    refine lv_aload_n hx hb dX1_priceLinesAndTurns_18 rfl (lv_at hl 0 rfl) ?_
    refine va_get (D := D) (ci := 1) (v := .ref (q 0)) (C := RX1) (T := TX1) (N := 7) hx hb hts hinX1 hown hK hP 5 rfl rfl 0 (by decide) (hts (.fieldLink RX1 11 "BreakLines$Search" "piece" "LBreakLines$Piece;") (by decide +kernel)) (fun _ h9 => h9) rfl dX1_priceLinesAndTurns_19 ?_
    refine lv_iload_n hx hb dX1_priceLinesAndTurns_22 rfl (lv_at hl 1 rfl) ?_
    refine j_cVI (As := [.int (jI a)]) (rest := [.int (jI a), .ref (q 7)]) ⟨hx, hb, hml, hown, hts⟩ (kX0_turnPrice l D cI cJ cZ q σ la wa mk hok a (by omega)) (cwV 1 hts gX1_priceLinesAndTurns_X0_turnPrice rfl rfl rfl (by decide +kernel) ⟨Nat.le_of_ble_eq_true rfl, Nat.le_of_ble_eq_true rfl⟩) hK (hP.sub [0, 1, 2, 3, 4] rfl) (va_recv hK hP (ci := 0) (q0 := 0) rfl rfl) rfl hl.1 rfl (Nat.le_of_ble_eq_true rfl) ⟨Nat.zero_le _, Nat.zero_le _⟩ dX1_priceLinesAndTurns_23 ?_
    refine j_i2l hx hb (by have htb := trnB hS0 a; unfold i32; omega) dX1_priceLinesAndTurns_26 ?_
    refine j_last hx hb hK hP hD hS 7 1 rfl rfl (i := a) (by omega) (by decide) dX1_priceLinesAndTurns_27 (fun H locs hP hD hS => ?_)
    have hP : va_P D vwCl (wPc q cI (sNb σ) (sWd σ) (sPp σ) (sCt σ) (sCs σ) mk la wa ++ wSe q cJ lp0 (updI tp0 a (trn σ a)) rk od fr fo) H := hP
    have hD : va_D A (wPc q cI (sNb σ) (sWd σ) (sPp σ) (sCt σ) (sCs σ) mk la wa ++ wSe q cJ lp0 (updI tp0 a (trn σ a)) rk od fr fo) := hD
    have htb := trnB hS0 a
    refine lv_iload_n hx hb dX1_priceLinesAndTurns_28 rfl (lv_at hl 1 rfl) ?_
    refine lv_istore_n (lv' := [(2, .int (jI a)), (0, .ref (q 5)), (1, .int (jI a))]) hx hb dX1_priceLinesAndTurns_29 rfl hl (by decide) rfl (fun ls hl => ?_)
    refine j_loop (α := Int × (Int → Int) × Array Slot × Heap × List Loc) (h := fun z => match z with | (b, lp1, ls, H, locs) => H) (lc := fun z => match z with | (b, lp1, ls, H, locs) => locs) (f := fun z => match z with | (b, lp1, ls, H, locs) => F0 m 30 ls []) (P := fun nn z => match z with | (b, lp1, ls, H, locs) => ((a ≤ b ∧ b ≤ sNb σ) ∧ (∀ x y, 0 ≤ x → ((x < a ∧ x ≤ y ∧ y < sNb σ) ∨ (x = a ∧ a ≤ y ∧ y < b)) → lp1 (x * 24 + y) = lpr σ x y)) ∧ (sNb σ - b).toNat < nn ∧ lv_has ls 3 [(0, .ref (q 5)), (1, .int (jI a)), (2, .int (jI b))] ∧ va_P D vwCl (wPc q cI (sNb σ) (sWd σ) (sPp σ) (sCt σ) (sCs σ) mk la wa ++ wSe q cJ lp1 (updI tp0 a (trn σ a)) rk od fr fo) H ∧ va_D A (wPc q cI (sNb σ) (sWd σ) (sPp σ) (sCt σ) (sCs σ) mk la wa ++ wSe q cJ lp1 (updI tp0 a (trn σ a)) rk od fr fo) ∧ va_S A s.heap H locs) (fun z hz => ?_) ?_ ((sNb σ - a).toNat + 1) (a, lp0, ls, H, locs) ⟨⟨by omega, fun x y h1 h2 => ha2 x y h1 (by omega) (by omega) (by omega)⟩, Nat.lt_succ_self _, lv_sub hl [1, 2, 0] rfl, hP, hD, hS⟩
    · obtain ⟨b, lp1, ls, H, locs⟩ := z; exact absurd hz.2.1 (Nat.not_lt_zero _)
    intro n30 ih30 ⟨b, lp1, ls, H, locs⟩ ⟨hi30, hm30, hl, hP, hD, hS⟩
    have hl : lv_has ls 3 [(0, .ref (q 5)), (1, .int (jI a)), (2, .int (jI b))] := hl
    have hP : va_P D vwCl (wPc q cI (sNb σ) (sWd σ) (sPp σ) (sCt σ) (sCs σ) mk la wa ++ wSe q cJ lp1 (updI tp0 a (trn σ a)) rk od fr fo) H := hP
    have hD : va_D A (wPc q cI (sNb σ) (sWd σ) (sPp σ) (sCt σ) (sCs σ) mk la wa ++ wSe q cJ lp1 (updI tp0 a (trn σ a)) rk od fr fo) := hD
    have hS : va_S A s.heap H locs := hS
    show W p l e _ s m _ below meth c H locs _ _ _ (F0 m 30 ls [])
    obtain ⟨hb1, hb2⟩ := hi30
    refine lv_iload_n hx hb dX1_priceLinesAndTurns_30 rfl (lv_at hl 2 rfl) ?_
    refine lv_aload_n hx hb dX1_priceLinesAndTurns_31 rfl (lv_at hl 0 rfl) ?_
    refine va_get (D := D) (ci := 1) (v := .ref (q 0)) (C := RX1) (T := TX1) (N := 7) hx hb hts hinX1 hown hK hP 5 rfl rfl 0 (by decide) (hts (.fieldLink RX1 11 "BreakLines$Search" "piece" "LBreakLines$Piece;") (by decide +kernel)) (fun _ h9 => h9) rfl dX1_priceLinesAndTurns_32 ?_
    refine va_get (D := D) (ci := 0) (v := .int (jI (sNb σ))) (C := RX0) (T := TX0) (N := 8) hx hb hts hinX0 hown hK hP 0 rfl rfl 0 (by decide) (hts (.fieldLink RX1 39 "BreakLines$Piece" "bars" "I") (by decide +kernel)) (fun _ h9 => h9) rfl dX1_priceLinesAndTurns_35 ?_
    refine j_icmp_ge (tgt := 67) hx hb (by unfold i32; omega) dX1_priceLinesAndTurns_38 (by decide) (fun c38 => ?_) (fun c38 => ?_)
    · skip
      refine lv_iinc (v := jI (a + 1)) (lv' := [(1, .int (jI (a + 1))), (0, .ref (q 5)), (2, .int (jI b))]) hx hb dX1_priceLinesAndTurns_67 hl (k := 1) rfl (jI_add _ _) (by decide) rfl (fun ls hl => ?_)
      refine lv_goto (tgt := 2) hx hb dX1_priceLinesAndTurns_70 (by decide) ?_
      exact ih2 (a + 1, lp1, updI tp0 a (trn σ a), ls, H, locs) ⟨⟨by omega, fun x y h1 h2 h3 h4 => hb2 x y h1 (by omega), fun x h1 h2 => by
          by_cases w : x = a
          · rw [w, updI_s]
          · rw [updI_n w]; exact ha3 x h1 (by omega)⟩, by omega, lv_sub hl [1, 0] rfl, hP, hD, hS⟩
    · skip
      refine lv_aload_n hx hb dX1_priceLinesAndTurns_41 rfl (lv_at hl 0 rfl) ?_
      refine va_get (D := D) (ci := 1) (v := .ref (q 6)) (C := RX1) (T := TX1) (N := 7) hx hb hts hinX1 hown hK hP 5 rfl rfl 1 (by decide) (hts (.fieldLink RX1 17 "BreakLines$Search" "linePrices" "[J") (by decide +kernel)) (fun _ h9 => h9) rfl dX1_priceLinesAndTurns_42 ?_
      refine lv_iload_n hx hb dX1_priceLinesAndTurns_45 rfl (lv_at hl 1 rfl) ?_
      refine j_bipush hx hb dX1_priceLinesAndTurns_46 (by decide) ?_
      refine j_imul hx hb dX1_priceLinesAndTurns_48 ?_
      refine lv_iload_n hx hb dX1_priceLinesAndTurns_49 rfl (lv_at hl 2 rfl) ?_
      refine j_iadd hx hb dX1_priceLinesAndTurns_50 ?_
      refine lv_aload_n hx hb dX1_priceLinesAndTurns_51 rfl (lv_at hl 0 rfl) ?_
      refine va_get (D := D) (ci := 1) (v := .ref (q 0)) (C := RX1) (T := TX1) (N := 7) hx hb hts hinX1 hown hK hP 5 rfl rfl 0 (by decide) (hts (.fieldLink RX1 11 "BreakLines$Search" "piece" "LBreakLines$Piece;") (by decide +kernel)) (fun _ h9 => h9) rfl dX1_priceLinesAndTurns_52 ?_
      refine lv_iload_n hx hb dX1_priceLinesAndTurns_55 rfl (lv_at hl 1 rfl) ?_
      refine lv_iload_n hx hb dX1_priceLinesAndTurns_56 rfl (lv_at hl 2 rfl) ?_
      refine j_cVL (As := [.int (jI a), .int (jI b)]) (rest := [.int (jI ((a * 24) + b)), .ref (q 6)]) ⟨hx, hb, hml, hown, hts⟩ (kX0_linePrice l D cI cJ cZ q σ la wa mk hok a b (by omega)) (cwV 2 hts gX1_priceLinesAndTurns_X0_linePrice rfl rfl rfl (by decide +kernel) ⟨Nat.le_of_ble_eq_true rfl, Nat.le_of_ble_eq_true rfl⟩) hK (hP.sub [0, 1, 2, 3, 4] rfl) (va_recv hK hP (ci := 0) (q0 := 0) rfl rfl) rfl hl.1 rfl (Nat.le_of_ble_eq_true rfl) ⟨Nat.zero_le _, Nat.zero_le _⟩ dX1_priceLinesAndTurns_57 ?_
      refine j_last hx hb hK hP hD hS 6 1 rfl rfl (i := (a * 24) + b) (by omega) (by decide) dX1_priceLinesAndTurns_60 (fun H locs hP hD hS => ?_)
      have hP : va_P D vwCl (wPc q cI (sNb σ) (sWd σ) (sPp σ) (sCt σ) (sCs σ) mk la wa ++ wSe q cJ (updI lp1 ((a * 24) + b) (lpr σ a b)) (updI tp0 a (trn σ a)) rk od fr fo) H := hP
      have hD : va_D A (wPc q cI (sNb σ) (sWd σ) (sPp σ) (sCt σ) (sCs σ) mk la wa ++ wSe q cJ (updI lp1 ((a * 24) + b) (lpr σ a b)) (updI tp0 a (trn σ a)) rk od fr fo) := hD
      refine lv_iinc (v := jI (b + 1)) (lv' := [(2, .int (jI (b + 1))), (0, .ref (q 5)), (1, .int (jI a))]) hx hb dX1_priceLinesAndTurns_61 hl (k := 2) rfl (jI_add _ _) (by decide) rfl (fun ls hl => ?_)
      refine lv_goto (tgt := 30) hx hb dX1_priceLinesAndTurns_64 (by decide) ?_
      exact ih30 (b + 1, updI lp1 ((a * 24) + b) (lpr σ a b), ls, H, locs) ⟨⟨by omega, fun x y h1 h2 => by
          by_cases w : x * 24 + y = a * 24 + b
          · rw [w, updI_s, show x = a by omega, show y = b by omega]
          · rw [updI_n w]; exact hb2 x y h1 (by omega)⟩, by omega, lv_sub hl [1, 2, 0] rfl, hP, hD, hS⟩
set_option maxHeartbeats 4000000 in
set_option maxRecDepth 100000 in
theorem kX1_fillForAnyCount (l : Launch) (D : va_G) (cI cJ cZ : ClassId) (q : Nat → Nat) (σ : Sg) (la wa : Int → Int) (mk : Nat → Int32) (hok : okP σ la wa mk) (lp tp rk od : Int → Int) (fr fo : Int) (h : 0 < sNb σ) (hlp : ∀ x y, 0 ≤ x → x ≤ y → y < sNb σ → lp (x * 24 + y) = lpr σ x y) (htp : ∀ t, 0 ≤ t → t < sNb σ → tp t = trn σ t) : MuV l yX1_fillForAnyCount wsX1_fillForAnyCount 3 86 D (tyc cI cJ cZ) (wPc q cI (sNb σ) (sWd σ) (sPp σ) (sCt σ) (sCs σ) mk la wa ++ wSe q cJ lp tp rk od fr fo) [.ref (q 5)] (fun (u : (Int → Int) × (Int → Int)) => Bst (Cmp σ TT 0 0) (u.1 0) (u.2 0)) (fun u => wPc q cI (sNb σ) (sWd σ) (sPp σ) (sCt σ) (sCs σ) mk la wa ++ wSe q cJ lp tp u.1 u.2 fr fo) := by
  intro sz
  refine j_start RX1 rfl (by decide) rfl (Nat.le_of_ble_eq_true rfl) ?_
  intro p e s m below meth c ls hx hb hr hlocks hml hown hts hnm hl ⟨hsz, hP, hK, hD0⟩
  subst hsz
  have hD := hD0.self (sz := s.heap.size)
  generalize hAe : va_A (wPc q cI (sNb σ) (sWd σ) (sPp σ) (sCt σ) (sCs σ) mk la wa ++ wSe q cJ lp tp rk od fr fo) s.heap.size = A at hD ⊢
  have hA : ∀ q : Nat, s.heap.size ≤ q → A q := fun q h => by rw [← hAe]; exact Or.inr h
  refine j_gen (fun H locs hHe hLe => ?_)
  have hS : va_S A s.heap H locs := by rw [hHe, hLe]; exact va_S.rf
  have hP : va_P D vwCl (wPc q cI (sNb σ) (sWd σ) (sPp σ) (sCt σ) (sCs σ) mk la wa ++ wSe q cJ lp tp rk od fr fo) H := by rw [hHe]; exact hP
  have hD : va_D A (wPc q cI (sNb σ) (sWd σ) (sPp σ) (sCt σ) (sCs σ) mk la wa ++ wSe q cJ lp tp rk od fr fo) := hD
  have hl : lv_has ls 4 [(0, .ref (q 5))] := hl
  have hinX0 : ∀ w ∈ u_ws RX0 TX0 8, w ∈ wsX1_fillForAnyCount := by decide +kernel
  have hinX1 : ∀ w ∈ u_ws RX1 TX1 7, w ∈ wsX1_fillForAnyCount := by decide +kernel
  have hS0 := hok.1
  have hnb := hS0.1
  have hwd := hS0.2.1
  have hpp := hS0.2.2.1
  refine lv_aload_n hx hb dX1_fillForAnyCount_0 rfl (lv_at hl 0 rfl) ?_
  refine va_get (D := D) (ci := 1) (v := .ref (q 0)) (C := RX1) (T := TX1) (N := 7) hx hb hts hinX1 hown hK hP 5 rfl rfl 0 (by decide) (hts (.fieldLink RX1 11 "BreakLines$Search" "piece" "LBreakLines$Piece;") (by decide +kernel)) (fun _ h9 => h9) rfl dX1_fillForAnyCount_1 ?_
  refine va_get (D := D) (ci := 0) (v := .int (jI (sNb σ))) (C := RX0) (T := TX0) (N := 8) hx hb hts hinX0 hown hK hP 0 rfl rfl 0 (by decide) (hts (.fieldLink RX1 39 "BreakLines$Piece" "bars" "I") (by decide +kernel)) (fun _ h9 => h9) rfl dX1_fillForAnyCount_4 ?_
  refine j_iconst hx hb dX1_fillForAnyCount_7 ?_
  refine j_isub hx hb dX1_fillForAnyCount_8 ?_
  refine lv_istore_n (lv' := [(1, .int (jI ((sNb σ) - 1))), (0, .ref (q 5))]) hx hb dX1_fillForAnyCount_9 rfl hl (by decide) rfl (fun ls hl => ?_)
  refine j_loop (α := Int × (Int → Int) × (Int → Int) × Array Slot × Heap × List Loc) (h := fun z => match z with | (a, rk0, od0, ls, H, locs) => H) (lc := fun z => match z with | (a, rk0, od0, ls, H, locs) => locs) (f := fun z => match z with | (a, rk0, od0, ls, H, locs) => F0 m 10 ls []) (P := fun nn z => match z with | (a, rk0, od0, ls, H, locs) => ((-1 ≤ a ∧ a < sNb σ) ∧ tabA σ TT rk0 od0 a) ∧ (a + 1).toNat < nn ∧ lv_has ls 4 [(0, .ref (q 5)), (1, .int (jI a))] ∧ va_P D vwCl (wPc q cI (sNb σ) (sWd σ) (sPp σ) (sCt σ) (sCs σ) mk la wa ++ wSe q cJ lp tp rk0 od0 fr fo) H ∧ va_D A (wPc q cI (sNb σ) (sWd σ) (sPp σ) (sCt σ) (sCs σ) mk la wa ++ wSe q cJ lp tp rk0 od0 fr fo) ∧ va_S A s.heap H locs) (fun z hz => ?_) ?_ ((sNb σ - 1 + 1).toNat + 1) ((sNb σ) - 1, rk, od, ls, H, locs) ⟨⟨by omega, fun x o h1 h2 => by omega⟩, Nat.lt_succ_self _, lv_sub hl [1, 0] rfl, hP, hD, hS⟩
  · obtain ⟨a, rk0, od0, ls, H, locs⟩ := z; exact absurd hz.2.1 (Nat.not_lt_zero _)
  intro n10 ih10 ⟨a, rk0, od0, ls, H, locs⟩ ⟨hi10, hm10, hl, hP, hD, hS⟩
  have hl : lv_has ls 4 [(0, .ref (q 5)), (1, .int (jI a))] := hl
  have hP : va_P D vwCl (wPc q cI (sNb σ) (sWd σ) (sPp σ) (sCt σ) (sCs σ) mk la wa ++ wSe q cJ lp tp rk0 od0 fr fo) H := hP
  have hD : va_D A (wPc q cI (sNb σ) (sWd σ) (sPp σ) (sCt σ) (sCs σ) mk la wa ++ wSe q cJ lp tp rk0 od0 fr fo) := hD
  have hS : va_S A s.heap H locs := hS
  show W p l e _ s m _ below meth c H locs _ _ _ (F0 m 10 ls [])
  obtain ⟨ha1, ha2⟩ := hi10
  refine lv_iload_n hx hb dX1_fillForAnyCount_10 rfl (lv_at hl 1 rfl) ?_
  refine j_if_lt (tgt := 63) hx hb (by unfold i32; omega) dX1_fillForAnyCount_11 (by decide) (fun c11 => ?_) (fun c11 => ?_)
  · skip
    exact j_mretV hx hb hr hlocks hS dX1_fillForAnyCount_63 (rk0, od0) (ha2 0 0 (by omega) (by omega) (by omega) (by omega) (by omega)) hP
  · skip
    refine lv_aload_n hx hb dX1_fillForAnyCount_14 rfl (lv_at hl 0 rfl) ?_
    refine va_get (D := D) (ci := 1) (v := .ref (q 0)) (C := RX1) (T := TX1) (N := 7) hx hb hts hinX1 hown hK hP 5 rfl rfl 0 (by decide) (hts (.fieldLink RX1 11 "BreakLines$Search" "piece" "LBreakLines$Piece;") (by decide +kernel)) (fun _ h9 => h9) rfl dX1_fillForAnyCount_15 ?_
    refine va_get (D := D) (ci := 0) (v := .int (jI (sPp σ))) (C := RX0) (T := TX0) (N := 8) hx hb hts hinX0 hown hK hP 0 rfl rfl 2 (by decide) (hts (.fieldLink RX1 81 "BreakLines$Piece" "perPage" "I") (by decide +kernel)) (fun _ h9 => h9) rfl dX1_fillForAnyCount_18 ?_
    refine j_iconst hx hb dX1_fillForAnyCount_21 ?_
    refine j_isub hx hb dX1_fillForAnyCount_22 ?_
    refine lv_iload_n hx hb dX1_fillForAnyCount_23 rfl (lv_at hl 1 rfl) ?_
    refine va_mmin hx hb (hml.trans hl.1.symm) hown (hts (.methodLink RX1 84 Lib.Math.min.name) (by decide +kernel)) (hts (.static Lib.Math.min.name) (by decide +kernel)) (hts (.initialized "java/lang/Math") (by decide +kernel)) (hts (.code Lib.Math.min.name Lib.Math.min.code 2 (some .int)) (by decide +kernel)) (Nat.le_of_ble_eq_true rfl) (Nat.le_of_ble_eq_true rfl) (Nat.zero_le _) (Nat.zero_le _) dX1_fillForAnyCount_24 ?_
    refine j_topi (y := jI (min ((sPp σ) - 1) a)) (j_min (by unfold i32; omega)) ?_
    refine lv_istore_n (lv' := [(2, .int (jI (min ((sPp σ) - 1) a))), (0, .ref (q 5)), (1, .int (jI a))]) hx hb dX1_fillForAnyCount_27 rfl hl (by decide) rfl (fun ls hl => ?_)
    refine j_iconst hx hb dX1_fillForAnyCount_28 ?_
    refine lv_istore_n (lv' := [(3, .int (jI 0)), (2, .int (jI (min ((sPp σ) - 1) a))), (0, .ref (q 5)), (1, .int (jI a))]) hx hb dX1_fillForAnyCount_29 rfl hl (by decide) rfl (fun ls hl => ?_)
    refine j_loop (α := Int × (Int → Int) × (Int → Int) × Array Slot × Heap × List Loc) (h := fun z => match z with | (o, rk1, od1, ls, H, locs) => H) (lc := fun z => match z with | (o, rk1, od1, ls, H, locs) => locs) (f := fun z => match z with | (o, rk1, od1, ls, H, locs) => F0 m 30 ls []) (P := fun nn z => match z with | (o, rk1, od1, ls, H, locs) => ((0 ≤ o ∧ o ≤ min (sPp σ - 1) a + 1) ∧ rowA σ TT rk1 od1 a o) ∧ (min (sPp σ - 1) a + 1 - o).toNat < nn ∧ lv_has ls 4 [(0, .ref (q 5)), (1, .int (jI a)), (2, .int (jI (min ((sPp σ) - 1) a))), (3, .int (jI o))] ∧ va_P D vwCl (wPc q cI (sNb σ) (sWd σ) (sPp σ) (sCt σ) (sCs σ) mk la wa ++ wSe q cJ lp tp rk1 od1 fr fo) H ∧ va_D A (wPc q cI (sNb σ) (sWd σ) (sPp σ) (sCt σ) (sCs σ) mk la wa ++ wSe q cJ lp tp rk1 od1 fr fo) ∧ va_S A s.heap H locs) (fun z hz => ?_) ?_ ((min (sPp σ - 1) a + 1 - 0).toNat + 1) (0, rk0, od0, ls, H, locs) ⟨⟨by omega, ha2, fun x h1 h2 => by omega⟩, Nat.lt_succ_self _, lv_sub hl [2, 3, 1, 0] rfl, hP, hD, hS⟩
    · obtain ⟨o, rk1, od1, ls, H, locs⟩ := z; exact absurd hz.2.1 (Nat.not_lt_zero _)
    intro n30 ih30 ⟨o, rk1, od1, ls, H, locs⟩ ⟨hi30, hm30, hl, hP, hD, hS⟩
    have hl : lv_has ls 4 [(0, .ref (q 5)), (1, .int (jI a)), (2, .int (jI (min ((sPp σ) - 1) a))), (3, .int (jI o))] := hl
    have hP : va_P D vwCl (wPc q cI (sNb σ) (sWd σ) (sPp σ) (sCt σ) (sCs σ) mk la wa ++ wSe q cJ lp tp rk1 od1 fr fo) H := hP
    have hD : va_D A (wPc q cI (sNb σ) (sWd σ) (sPp σ) (sCt σ) (sCs σ) mk la wa ++ wSe q cJ lp tp rk1 od1 fr fo) := hD
    have hS : va_S A s.heap H locs := hS
    show W p l e _ s m _ below meth c H locs _ _ _ (F0 m 30 ls [])
    obtain ⟨hb1, hb2⟩ := hi30
    refine lv_iload_n hx hb dX1_fillForAnyCount_30 rfl (lv_at hl 3 rfl) ?_
    refine lv_iload_n hx hb dX1_fillForAnyCount_31 rfl (lv_at hl 2 rfl) ?_
    refine j_icmp_gt (tgt := 57) hx hb (by unfold i32; omega) dX1_fillForAnyCount_32 (by decide) (fun c32 => ?_) (fun c32 => ?_)
    · skip
      refine lv_iinc (v := jI (a + (-1))) (lv' := [(1, .int (jI (a + (-1)))), (0, .ref (q 5)), (2, .int (jI (min ((sPp σ) - 1) a))), (3, .int (jI o))]) hx hb dX1_fillForAnyCount_57 hl (k := 1) rfl (jI_add _ _) (by decide) rfl (fun ls hl => ?_)
      refine lv_goto (tgt := 10) hx hb dX1_fillForAnyCount_60 (by decide) ?_
      exact ih10 (a + (-1), rk1, od1, ls, H, locs) ⟨⟨by omega, rowA_end hb2 (by omega)⟩, by omega, lv_sub hl [1, 0] rfl, hP, hD, hS⟩
    · skip
      refine lv_aload_n hx hb dX1_fillForAnyCount_35 rfl (lv_at hl 0 rfl) ?_
      refine lv_iload_n hx hb dX1_fillForAnyCount_36 rfl (lv_at hl 1 rfl) ?_
      refine lv_iload_n hx hb dX1_fillForAnyCount_37 rfl (lv_at hl 3 rfl) ?_
      refine lv_iload_n hx hb dX1_fillForAnyCount_38 rfl (lv_at hl 1 rfl) ?_
      refine lv_aload_n hx hb dX1_fillForAnyCount_39 rfl (lv_at hl 0 rfl) ?_
      refine va_get (D := D) (ci := 1) (v := .ref (q 0)) (C := RX1) (T := TX1) (N := 7) hx hb hts hinX1 hown hK hP 5 rfl rfl 0 (by decide) (hts (.fieldLink RX1 11 "BreakLines$Search" "piece" "LBreakLines$Piece;") (by decide +kernel)) (fun _ h9 => h9) rfl dX1_fillForAnyCount_40 ?_
      refine va_get (D := D) (ci := 0) (v := .int (jI (sNb σ))) (C := RX0) (T := TX0) (N := 8) hx hb hts hinX0 hown hK hP 0 rfl rfl 0 (by decide) (hts (.fieldLink RX1 39 "BreakLines$Piece" "bars" "I") (by decide +kernel)) (fun _ h9 => h9) rfl dX1_fillForAnyCount_43 ?_
      refine j_iconst hx hb dX1_fillForAnyCount_46 ?_
      refine j_isub hx hb dX1_fillForAnyCount_47 ?_
      refine j_mVV (As := [.int (jI a), .int (jI o), .int (jI a), .int (jI ((sNb σ) - 1))]) (rest := []) ⟨hx, hb, hml, hown, hts⟩ (kX1_fillCell l D cI cJ cZ q σ la wa mk hok lp tp rk1 od1 fr fo a o a ((sNb σ) - 1) (by omega) (fun t h1 h2 => hlp a t (by omega) h1 h2) htp (fun t h1 h2 h3 => tabA_ok hS0 hb2.1 (by omega) (by omega) (by omega) t h1 h2 h3)) (cwV 4 hts gX1_fillForAnyCount_X1_fillCell rfl rfl rfl (by decide +kernel) ⟨Nat.le_of_ble_eq_true rfl, Nat.le_of_ble_eq_true rfl⟩) hK hP hD hS hA (va_recv hK hP (ci := 1) (q0 := 5) rfl rfl) rfl hl.1 rfl (Nat.le_of_ble_eq_true rfl) ⟨Nat.zero_le _, Nat.zero_le _⟩ dX1_fillForAnyCount_48 [0, 1, 2, 3, 4, 5, 6, 7, 8, 9] [] [0, 1, 2, 3, 4, 5, 6, 7, 8, 9] rfl (by decide) (wr := ([] : va_W)) rfl (by decide) (by decide) (fun _ => rfl) (fun u => wPc q cI (sNb σ) (sWd σ) (sPp σ) (sCt σ) (sCs σ) mk la wa ++ wSe q cJ lp tp u.1 u.2 fr fo) (fun _ => rfl) (fun _ => rfl) (fun ⟨rkc1, odc1⟩ H locs hu1 hP hD hS => ?_)
      have hP : va_P D vwCl (wPc q cI (sNb σ) (sWd σ) (sPp σ) (sCt σ) (sCs σ) mk la wa ++ wSe q cJ lp tp rkc1 odc1 fr fo) H := hP
      have hD : va_D A (wPc q cI (sNb σ) (sWd σ) (sPp σ) (sCt σ) (sCs σ) mk la wa ++ wSe q cJ lp tp rkc1 odc1 fr fo) := hD
      refine lv_iinc (v := jI (o + 1)) (lv' := [(3, .int (jI (o + 1))), (0, .ref (q 5)), (1, .int (jI a)), (2, .int (jI (min ((sPp σ) - 1) a)))]) hx hb dX1_fillForAnyCount_51 hl (k := 3) rfl (jI_add _ _) (by decide) rfl (fun ls hl => ?_)
      refine lv_goto (tgt := 30) hx hb dX1_fillForAnyCount_54 (by decide) ?_
      exact ih30 (o + 1, rkc1, odc1, ls, H, locs) ⟨⟨by omega, rowA_step hS0 hb2 (by omega) (by omega) hu1.1 (fill_any hS0 hb2.1 (by omega) (by omega) (by omega) (by omega) hu1.2)⟩, by omega, lv_sub hl [1, 2, 3, 0] rfl, hP, hD, hS⟩
set_option maxHeartbeats 4000000 in
set_option maxRecDepth 100000 in
theorem kX1_fillForCount (l : Launch) (D : va_G) (cI cJ cZ : ClassId) (q : Nat → Nat) (σ : Sg) (la wa : Int → Int) (mk : Nat → Int32) (hok : okP σ la wa mk) (lp tp rk od : Int → Int) (fr fo : Int) (n : Int) (h : 1 ≤ n ∧ n ≤ sNb σ) (hlp : ∀ x y, 0 ≤ x → x ≤ y → y < sNb σ → lp (x * 24 + y) = lpr σ x y) (htp : ∀ t, 0 ≤ t → t < sNb σ → tp t = trn σ t) : MuV l yX1_fillForCount wsX1_fillForCount 3 86 D (tyc cI cJ cZ) (wPc q cI (sNb σ) (sWd σ) (sPp σ) (sCt σ) (sCs σ) mk la wa ++ wSe q cJ lp tp rk od fr fo) [.ref (q 5), .int (jI n)] (fun (u : (Int → Int) × (Int → Int)) => Bst (Cmp σ (Tn n) 0 0) (u.1 0) (u.2 0)) (fun u => wPc q cI (sNb σ) (sWd σ) (sPp σ) (sCt σ) (sCs σ) mk la wa ++ wSe q cJ lp tp u.1 u.2 fr fo) := by
  intro sz
  refine j_start RX1 rfl (by decide) rfl (Nat.le_of_ble_eq_true rfl) ?_
  intro p e s m below meth c ls hx hb hr hlocks hml hown hts hnm hl ⟨hsz, hP, hK, hD0⟩
  subst hsz
  have hD := hD0.self (sz := s.heap.size)
  generalize hAe : va_A (wPc q cI (sNb σ) (sWd σ) (sPp σ) (sCt σ) (sCs σ) mk la wa ++ wSe q cJ lp tp rk od fr fo) s.heap.size = A at hD ⊢
  have hA : ∀ q : Nat, s.heap.size ≤ q → A q := fun q h => by rw [← hAe]; exact Or.inr h
  refine j_gen (fun H locs hHe hLe => ?_)
  have hS : va_S A s.heap H locs := by rw [hHe, hLe]; exact va_S.rf
  have hP : va_P D vwCl (wPc q cI (sNb σ) (sWd σ) (sPp σ) (sCt σ) (sCs σ) mk la wa ++ wSe q cJ lp tp rk od fr fo) H := by rw [hHe]; exact hP
  have hD : va_D A (wPc q cI (sNb σ) (sWd σ) (sPp σ) (sCt σ) (sCs σ) mk la wa ++ wSe q cJ lp tp rk od fr fo) := hD
  have hl : lv_has ls 10 [(0, .ref (q 5)), (1, .int (jI n))] := hl
  have hinX0 : ∀ w ∈ u_ws RX0 TX0 8, w ∈ wsX1_fillForCount := by decide +kernel
  have hinX1 : ∀ w ∈ u_ws RX1 TX1 7, w ∈ wsX1_fillForCount := by decide +kernel
  have hS0 := hok.1
  have hnb := hS0.1
  have hwd := hS0.2.1
  have hpp := hS0.2.2.1
  refine j_iconst hx hb dX1_fillForCount_0 ?_
  refine lv_istore_n (lv' := [(2, .int (jI 1)), (0, .ref (q 5)), (1, .int (jI n))]) hx hb dX1_fillForCount_1 rfl hl (by decide) rfl (fun ls hl => ?_)
  refine j_loop (α := Int × (Int → Int) × (Int → Int) × Array Slot × Heap × List Loc) (h := fun z => match z with | (k, rk0, od0, ls, H, locs) => H) (lc := fun z => match z with | (k, rk0, od0, ls, H, locs) => locs) (f := fun z => match z with | (k, rk0, od0, ls, H, locs) => F0 m 2 ls []) (P := fun nn z => match z with | (k, rk0, od0, ls, H, locs) => ((1 ≤ k ∧ k ≤ n + 1) ∧ (k = 1 ∨ tC σ (k - 1) (n - k + 1) (n - k + 1) (if k = n + 1 then 0 else sNb σ - (k - 1)) rk0 od0)) ∧ (n + 1 - k).toNat < nn ∧ lv_has ls 10 [(0, .ref (q 5)), (1, .int (jI n)), (2, .int (jI k))] ∧ va_P D vwCl (wPc q cI (sNb σ) (sWd σ) (sPp σ) (sCt σ) (sCs σ) mk la wa ++ wSe q cJ lp tp rk0 od0 fr fo) H ∧ va_D A (wPc q cI (sNb σ) (sWd σ) (sPp σ) (sCt σ) (sCs σ) mk la wa ++ wSe q cJ lp tp rk0 od0 fr fo) ∧ va_S A s.heap H locs) (fun z hz => ?_) ?_ ((n + 1 - 1).toNat + 1) (1, rk, od, ls, H, locs) ⟨⟨by omega, Or.inl rfl⟩, Nat.lt_succ_self _, lv_sub hl [1, 2, 0] rfl, hP, hD, hS⟩
  · obtain ⟨k, rk0, od0, ls, H, locs⟩ := z; exact absurd hz.2.1 (Nat.not_lt_zero _)
  intro n2 ih2 ⟨k, rk0, od0, ls, H, locs⟩ ⟨hi2, hm2, hl, hP, hD, hS⟩
  have hl : lv_has ls 10 [(0, .ref (q 5)), (1, .int (jI n)), (2, .int (jI k))] := hl
  have hP : va_P D vwCl (wPc q cI (sNb σ) (sWd σ) (sPp σ) (sCt σ) (sCs σ) mk la wa ++ wSe q cJ lp tp rk0 od0 fr fo) H := hP
  have hD : va_D A (wPc q cI (sNb σ) (sWd σ) (sPp σ) (sCt σ) (sCs σ) mk la wa ++ wSe q cJ lp tp rk0 od0 fr fo) := hD
  have hS : va_S A s.heap H locs := hS
  show W p l e _ s m _ below meth c H locs _ _ _ (F0 m 2 ls [])
  obtain ⟨hk1, hk2⟩ := hi2
  refine lv_iload_n hx hb dX1_fillForCount_2 rfl (lv_at hl 2 rfl) ?_
  refine lv_iload_n hx hb dX1_fillForCount_3 rfl (lv_at hl 1 rfl) ?_
  refine j_icmp_gt (tgt := 113) hx hb (by unfold i32; omega) dX1_fillForCount_4 (by decide) (fun c4 => ?_) (fun c4 => ?_)
  · skip
    exact j_mretV hx hb hr hlocks hS dX1_fillForCount_113 (rk0, od0) (by
      have w := hk2.resolve_left (by omega)
      rw [if_pos (by omega), show k - 1 = n by omega, show n - k + 1 = 0 by omega] at w
      exact w 0 0 (by omega) (by omega) (by omega) (by omega) (by omega)) hP
  · skip
    refine lv_iload_n hx hb dX1_fillForCount_7 rfl (lv_at hl 1 rfl) ?_
    refine lv_iload_n hx hb dX1_fillForCount_8 rfl (lv_at hl 2 rfl) ?_
    refine j_isub hx hb dX1_fillForCount_9 ?_
    refine lv_istore_n (lv' := [(3, .int (jI (n - k))), (0, .ref (q 5)), (1, .int (jI n)), (2, .int (jI k))]) hx hb dX1_fillForCount_10 rfl hl (by decide) rfl (fun ls hl => ?_)
    refine lv_aload_n hx hb dX1_fillForCount_11 rfl (lv_at hl 1 rfl) ?_
    refine va_get (D := D) (ci := 1) (v := .ref (q 0)) (C := RX1) (T := TX1) (N := 7) hx hb hts hinX1 hown hK hP 5 rfl rfl 0 (by decide) (hts (.fieldLink RX1 11 "BreakLines$Search" "piece" "LBreakLines$Piece;") (by decide +kernel)) (fun _ h9 => h9) rfl dX1_fillForCount_12 ?_
    refine va_get (D := D) (ci := 0) (v := .int (jI (sNb σ))) (C := RX0) (T := TX0) (N := 8) hx hb hts hinX0 hown hK hP 0 rfl rfl 0 (by decide) (hts (.fieldLink RX1 39 "BreakLines$Piece" "bars" "I") (by decide +kernel)) (fun _ h9 => h9) rfl dX1_fillForCount_15 ?_
    refine lv_iload_n hx hb dX1_fillForCount_18 rfl (lv_at hl 3 rfl) ?_
    refine j_isub hx hb dX1_fillForCount_19 ?_
    refine lv_istore (lv' := [(4, .int (jI ((sNb σ) - k))), (3, .int (jI (n - k))), (0, .ref (q 5)), (1, .int (jI n)), (2, .int (jI k))]) hx hb dX1_fillForCount_20 hl (by decide) rfl (fun ls hl => ?_)
    refine lv_iload_n hx hb dX1_fillForCount_22 rfl (lv_at hl 1 rfl) ?_
    refine j_join (α := Int) (P := fun y => y = if n - k = 0 then 0 else sNb σ - k) (f := fun y => F0 m 32 ls [.int (jI y)]) ?_ (fun jn23 => ?_)
    · intro y hvy
      have hyb : -1 ≤ y ∧ y ≤ sNb σ := by split at hvy <;> omega
      refine lv_istore (lv' := [(5, .int (jI y)), (4, .int (jI ((sNb σ) - k))), (3, .int (jI (n - k))), (0, .ref (q 5)), (1, .int (jI n)), (2, .int (jI k))]) hx hb dX1_fillForCount_32 hl (by decide) rfl (fun ls hl => ?_)
      refine lv_aload_n hx hb dX1_fillForCount_34 rfl (lv_at hl 3 rfl) ?_
      refine va_get (D := D) (ci := 1) (v := .ref (q 0)) (C := RX1) (T := TX1) (N := 7) hx hb hts hinX1 hown hK hP 5 rfl rfl 0 (by decide) (hts (.fieldLink RX1 11 "BreakLines$Search" "piece" "LBreakLines$Piece;") (by decide +kernel)) (fun _ h9 => h9) rfl dX1_fillForCount_35 ?_
      refine va_get (D := D) (ci := 0) (v := .int (jI (sPp σ))) (C := RX0) (T := TX0) (N := 8) hx hb hts hinX0 hown hK hP 0 rfl rfl 2 (by decide) (hts (.fieldLink RX1 81 "BreakLines$Piece" "perPage" "I") (by decide +kernel)) (fun _ h9 => h9) rfl dX1_fillForCount_38 ?_
      refine j_iconst hx hb dX1_fillForCount_41 ?_
      refine j_isub hx hb dX1_fillForCount_42 ?_
      refine lv_iload_n hx hb dX1_fillForCount_43 rfl (lv_at hl 2 rfl) ?_
      refine va_mmin hx hb (hml.trans hl.1.symm) hown (hts (.methodLink RX1 84 Lib.Math.min.name) (by decide +kernel)) (hts (.static Lib.Math.min.name) (by decide +kernel)) (hts (.initialized "java/lang/Math") (by decide +kernel)) (hts (.code Lib.Math.min.name Lib.Math.min.code 2 (some .int)) (by decide +kernel)) (Nat.le_of_ble_eq_true rfl) (Nat.le_of_ble_eq_true rfl) (Nat.zero_le _) (Nat.zero_le _) dX1_fillForCount_44 ?_
      refine j_topi (y := jI (min ((sPp σ) - 1) (n - k))) (j_min (by unfold i32; omega)) ?_
      refine lv_istore (lv' := [(6, .int (jI (min ((sPp σ) - 1) (n - k)))), (5, .int (jI y)), (4, .int (jI ((sNb σ) - k))), (3, .int (jI (n - k))), (0, .ref (q 5)), (1, .int (jI n)), (2, .int (jI k))]) hx hb dX1_fillForCount_47 hl (by decide) rfl (fun ls hl => ?_)
      refine lv_iload_n hx hb dX1_fillForCount_49 rfl (lv_at hl 3 rfl) ?_
      refine lv_istore (lv' := [(7, .int (jI (n - k))), (6, .int (jI (min ((sPp σ) - 1) (n - k)))), (5, .int (jI y)), (4, .int (jI ((sNb σ) - k))), (3, .int (jI (n - k))), (0, .ref (q 5)), (1, .int (jI n)), (2, .int (jI k))]) hx hb dX1_fillForCount_50 hl (by decide) rfl (fun ls hl => ?_)
      refine j_loop (α := Int × (Int → Int) × (Int → Int) × Array Slot × Heap × List Loc) (h := fun z => match z with | (f, rk1, od1, ls, H, locs) => H) (lc := fun z => match z with | (f, rk1, od1, ls, H, locs) => locs) (f := fun z => match z with | (f, rk1, od1, ls, H, locs) => F0 m 52 ls []) (P := fun nn z => match z with | (f, rk1, od1, ls, H, locs) => ((n - k ≤ f ∧ f ≤ y + 1) ∧ rowC σ k (n - k) f rk1 od1 0) ∧ (y + 1 - f).toNat < nn ∧ lv_has ls 10 [(0, .ref (q 5)), (1, .int (jI n)), (2, .int (jI k)), (3, .int (jI (n - k))), (4, .int (jI ((sNb σ) - k))), (5, .int (jI y)), (6, .int (jI (min ((sPp σ) - 1) (n - k)))), (7, .int (jI f))] ∧ va_P D vwCl (wPc q cI (sNb σ) (sWd σ) (sPp σ) (sCt σ) (sCs σ) mk la wa ++ wSe q cJ lp tp rk1 od1 fr fo) H ∧ va_D A (wPc q cI (sNb σ) (sWd σ) (sPp σ) (sCt σ) (sCs σ) mk la wa ++ wSe q cJ lp tp rk1 od1 fr fo) ∧ va_S A s.heap H locs) (fun z hz => ?_) ?_ ((y + 1 - (n - k)).toNat + 1) (n - k, rk0, od0, ls, H, locs) ⟨⟨by split at hvy <;> omega, hk2.imp id (fun w => by rw [if_neg (by omega)] at w; exact w), fun x o h1 h2 => by omega, fun x h1 h2 => by omega⟩, Nat.lt_succ_self _, lv_sub hl [5, 6, 7, 4, 3, 2, 1, 0] rfl, hP, hD, hS⟩
      · obtain ⟨f, rk1, od1, ls, H, locs⟩ := z; exact absurd hz.2.1 (Nat.not_lt_zero _)
      intro n52 ih52 ⟨f, rk1, od1, ls, H, locs⟩ ⟨hi52, hm52, hl, hP, hD, hS⟩
      have hl : lv_has ls 10 [(0, .ref (q 5)), (1, .int (jI n)), (2, .int (jI k)), (3, .int (jI (n - k))), (4, .int (jI ((sNb σ) - k))), (5, .int (jI y)), (6, .int (jI (min ((sPp σ) - 1) (n - k)))), (7, .int (jI f))] := hl
      have hP : va_P D vwCl (wPc q cI (sNb σ) (sWd σ) (sPp σ) (sCt σ) (sCs σ) mk la wa ++ wSe q cJ lp tp rk1 od1 fr fo) H := hP
      have hD : va_D A (wPc q cI (sNb σ) (sWd σ) (sPp σ) (sCt σ) (sCs σ) mk la wa ++ wSe q cJ lp tp rk1 od1 fr fo) := hD
      have hS : va_S A s.heap H locs := hS
      show W p l e _ s m _ below meth c H locs _ _ _ (F0 m 52 ls [])
      obtain ⟨hf1, hf2⟩ := hi52
      refine lv_iload hx hb dX1_fillForCount_52 (lv_at hl 7 rfl) ?_
      refine lv_iload hx hb dX1_fillForCount_54 (lv_at hl 5 rfl) ?_
      refine j_icmp_gt (tgt := 107) hx hb (by unfold i32; omega) dX1_fillForCount_56 (by decide) (fun c56 => ?_) (fun c56 => ?_)
      · skip
        refine lv_iinc (v := jI (k + 1)) (lv' := [(2, .int (jI (k + 1))), (0, .ref (q 5)), (1, .int (jI n)), (3, .int (jI (n - k))), (4, .int (jI ((sNb σ) - k))), (5, .int (jI y)), (6, .int (jI (min ((sPp σ) - 1) (n - k)))), (7, .int (jI f))]) hx hb dX1_fillForCount_107 hl (k := 2) rfl (jI_add _ _) (by decide) rfl (fun ls hl => ?_)
        refine lv_goto (tgt := 2) hx hb dX1_fillForCount_110 (by decide) ?_
        exact ih2 (k + 1, rk1, od1, ls, H, locs) ⟨⟨by omega, Or.inr (by
          have w := hf2.2.1
          have e : (if k + 1 = n + 1 then (0 : Int) else sNb σ - (k + 1 - 1)) = y := by split at hvy <;> split <;> omega
          rw [e, show k + 1 - 1 = k by omega, show n - (k + 1) + 1 = n - k by omega]
          intro x o h1 h2; exact w x o h1 (by omega))⟩, by omega, lv_sub hl [1, 2, 0] rfl, hP, hD, hS⟩
      · skip
        refine lv_iload_n hx hb dX1_fillForCount_59 rfl (lv_at hl 2 rfl) ?_
        refine j_iconst hx hb dX1_fillForCount_60 ?_
        refine j_join (α := Int) (P := fun w => w = if k = 1 then sNb σ - k else f) (f := fun w => F0 m 71 ls [.int (jI w)]) ?_ (fun jn61 => ?_)
        · intro w hvw
          have hfn : f ≤ sNb σ - k := by split at hvy <;> omega
          have hwb : f ≤ w ∧ w ≤ sNb σ := by split at hvw <;> omega
          refine lv_istore (lv' := [(8, .int (jI w)), (0, .ref (q 5)), (1, .int (jI n)), (2, .int (jI k)), (3, .int (jI (n - k))), (4, .int (jI ((sNb σ) - k))), (5, .int (jI y)), (6, .int (jI (min ((sPp σ) - 1) (n - k)))), (7, .int (jI f))]) hx hb dX1_fillForCount_71 hl (by decide) rfl (fun ls hl => ?_)
          refine j_iconst hx hb dX1_fillForCount_73 ?_
          refine lv_istore (lv' := [(9, .int (jI 0)), (8, .int (jI w)), (0, .ref (q 5)), (1, .int (jI n)), (2, .int (jI k)), (3, .int (jI (n - k))), (4, .int (jI ((sNb σ) - k))), (5, .int (jI y)), (6, .int (jI (min ((sPp σ) - 1) (n - k)))), (7, .int (jI f))]) hx hb dX1_fillForCount_74 hl (by decide) rfl (fun ls hl => ?_)
          refine j_loop (α := Int × (Int → Int) × (Int → Int) × Array Slot × Heap × List Loc) (h := fun z => match z with | (o, rk2, od2, ls, H, locs) => H) (lc := fun z => match z with | (o, rk2, od2, ls, H, locs) => locs) (f := fun z => match z with | (o, rk2, od2, ls, H, locs) => F0 m 76 ls []) (P := fun nn z => match z with | (o, rk2, od2, ls, H, locs) => ((0 ≤ o ∧ o ≤ min (sPp σ - 1) (n - k) + 1) ∧ rowC σ k (n - k) f rk2 od2 o) ∧ (min (sPp σ - 1) (n - k) + 1 - o).toNat < nn ∧ lv_has ls 10 [(0, .ref (q 5)), (1, .int (jI n)), (2, .int (jI k)), (3, .int (jI (n - k))), (4, .int (jI ((sNb σ) - k))), (5, .int (jI y)), (6, .int (jI (min ((sPp σ) - 1) (n - k)))), (7, .int (jI f)), (8, .int (jI w)), (9, .int (jI o))] ∧ va_P D vwCl (wPc q cI (sNb σ) (sWd σ) (sPp σ) (sCt σ) (sCs σ) mk la wa ++ wSe q cJ lp tp rk2 od2 fr fo) H ∧ va_D A (wPc q cI (sNb σ) (sWd σ) (sPp σ) (sCt σ) (sCs σ) mk la wa ++ wSe q cJ lp tp rk2 od2 fr fo) ∧ va_S A s.heap H locs) (fun z hz => ?_) ?_ ((min (sPp σ - 1) (n - k) + 1 - 0).toNat + 1) (0, rk1, od1, ls, H, locs) ⟨⟨by omega, hf2⟩, Nat.lt_succ_self _, lv_sub hl [2, 3, 4, 5, 6, 7, 8, 9, 1, 0] rfl, hP, hD, hS⟩
          · obtain ⟨o, rk2, od2, ls, H, locs⟩ := z; exact absurd hz.2.1 (Nat.not_lt_zero _)
          intro n76 ih76 ⟨o, rk2, od2, ls, H, locs⟩ ⟨hi76, hm76, hl, hP, hD, hS⟩
          have hl : lv_has ls 10 [(0, .ref (q 5)), (1, .int (jI n)), (2, .int (jI k)), (3, .int (jI (n - k))), (4, .int (jI ((sNb σ) - k))), (5, .int (jI y)), (6, .int (jI (min ((sPp σ) - 1) (n - k)))), (7, .int (jI f)), (8, .int (jI w)), (9, .int (jI o))] := hl
          have hP : va_P D vwCl (wPc q cI (sNb σ) (sWd σ) (sPp σ) (sCt σ) (sCs σ) mk la wa ++ wSe q cJ lp tp rk2 od2 fr fo) H := hP
          have hD : va_D A (wPc q cI (sNb σ) (sWd σ) (sPp σ) (sCt σ) (sCs σ) mk la wa ++ wSe q cJ lp tp rk2 od2 fr fo) := hD
          have hS : va_S A s.heap H locs := hS
          show W p l e _ s m _ below meth c H locs _ _ _ (F0 m 76 ls [])
          obtain ⟨ho1, ho2⟩ := hi76
          refine lv_iload hx hb dX1_fillForCount_76 (lv_at hl 9 rfl) ?_
          refine lv_iload hx hb dX1_fillForCount_78 (lv_at hl 6 rfl) ?_
          refine j_icmp_gt (tgt := 101) hx hb (by unfold i32; omega) dX1_fillForCount_80 (by decide) (fun c80 => ?_) (fun c80 => ?_)
          · skip
            refine lv_iinc (v := jI (f + 1)) (lv' := [(7, .int (jI (f + 1))), (0, .ref (q 5)), (1, .int (jI n)), (2, .int (jI k)), (3, .int (jI (n - k))), (4, .int (jI ((sNb σ) - k))), (5, .int (jI y)), (6, .int (jI (min ((sPp σ) - 1) (n - k)))), (8, .int (jI w)), (9, .int (jI o))]) hx hb dX1_fillForCount_101 hl (k := 7) rfl (jI_add _ _) (by decide) rfl (fun ls hl => ?_)
            refine lv_goto (tgt := 52) hx hb dX1_fillForCount_104 (by decide) ?_
            exact ih52 (f + 1, rk2, od2, ls, H, locs) ⟨⟨by omega, rowC_next ho2 (by omega)⟩, by omega, lv_sub hl [1, 2, 3, 4, 5, 6, 7, 0] rfl, hP, hD, hS⟩
          · skip
            refine lv_aload_n hx hb dX1_fillForCount_83 rfl (lv_at hl 0 rfl) ?_
            refine lv_iload hx hb dX1_fillForCount_84 (lv_at hl 7 rfl) ?_
            refine lv_iload hx hb dX1_fillForCount_86 (lv_at hl 9 rfl) ?_
            refine lv_iload hx hb dX1_fillForCount_88 (lv_at hl 8 rfl) ?_
            refine lv_iload hx hb dX1_fillForCount_90 (lv_at hl 4 rfl) ?_
            refine j_mVV (As := [.int (jI f), .int (jI o), .int (jI w), .int (jI ((sNb σ) - k))]) (rest := []) ⟨hx, hb, hml, hown, hts⟩ (kX1_fillCell l D cI cJ cZ q σ la wa mk hok lp tp rk2 od2 fr fo f o w ((sNb σ) - k) (by omega) (fun t h1 h2 => hlp f t (by omega) h1 h2) htp (fun t h1 h2 h3 => tC_ok hS0 ho2.1 (by omega) (by omega) hvw (by omega) (by omega) t h1 h2 h3)) (cwV 4 hts gX1_fillForCount_X1_fillCell rfl rfl rfl (by decide +kernel) ⟨Nat.le_of_ble_eq_true rfl, Nat.le_of_ble_eq_true rfl⟩) hK hP hD hS hA (va_recv hK hP (ci := 1) (q0 := 5) rfl rfl) rfl hl.1 rfl (Nat.le_of_ble_eq_true rfl) ⟨Nat.zero_le _, Nat.zero_le _⟩ dX1_fillForCount_92 [0, 1, 2, 3, 4, 5, 6, 7, 8, 9] [] [0, 1, 2, 3, 4, 5, 6, 7, 8, 9] rfl (by decide) (wr := ([] : va_W)) rfl (by decide) (by decide) (fun _ => rfl) (fun u => wPc q cI (sNb σ) (sWd σ) (sPp σ) (sCt σ) (sCs σ) mk la wa ++ wSe q cJ lp tp u.1 u.2 fr fo) (fun _ => rfl) (fun _ => rfl) (fun ⟨rkc1, odc1⟩ H locs hu1 hP hD hS => ?_)
            have hP : va_P D vwCl (wPc q cI (sNb σ) (sWd σ) (sPp σ) (sCt σ) (sCs σ) mk la wa ++ wSe q cJ lp tp rkc1 odc1 fr fo) H := hP
            have hD : va_D A (wPc q cI (sNb σ) (sWd σ) (sPp σ) (sCt σ) (sCs σ) mk la wa ++ wSe q cJ lp tp rkc1 odc1 fr fo) := hD
            refine lv_iinc (v := jI (o + 1)) (lv' := [(9, .int (jI (o + 1))), (0, .ref (q 5)), (1, .int (jI n)), (2, .int (jI k)), (3, .int (jI (n - k))), (4, .int (jI ((sNb σ) - k))), (5, .int (jI y)), (6, .int (jI (min ((sPp σ) - 1) (n - k)))), (7, .int (jI f)), (8, .int (jI w))]) hx hb dX1_fillForCount_95 hl (k := 9) rfl (jI_add _ _) (by decide) rfl (fun ls hl => ?_)
            refine lv_goto (tgt := 76) hx hb dX1_fillForCount_98 (by decide) ?_
            exact ih76 (o + 1, rkc1, odc1, ls, H, locs) ⟨⟨by omega, rowC_step hS0 ho2 (by omega) (by omega) hu1.1 (fill_cnt hS0 ho2.1 (by omega) (by omega) hfn hvw (by omega) (by omega) hu1.2)⟩, by omega, lv_sub hl [1, 2, 3, 4, 5, 6, 7, 8, 9, 0] rfl, hP, hD, hS⟩
        refine j_icmp_ne (tgt := 69) hx hb (by unfold i32; omega) dX1_fillForCount_61 (by decide) (fun c61 => ?_) (fun c61 => ?_)
        · skip
          refine lv_iload hx hb dX1_fillForCount_69 (lv_at hl 7 rfl) ?_
          exact jn61 f (by first | exact (if_pos (by omega)).symm | exact (if_neg (by omega)).symm)
        · skip
          refine lv_iload hx hb dX1_fillForCount_64 (lv_at hl 4 rfl) ?_
          refine lv_goto (tgt := 71) hx hb dX1_fillForCount_66 (by decide) ?_
          exact jn61 ((sNb σ) - k) (by first | exact (if_pos (by omega)).symm | exact (if_neg (by omega)).symm)
    refine j_if_ne (tgt := 30) hx hb (by unfold i32; omega) dX1_fillForCount_23 (by decide) (fun c23 => ?_) (fun c23 => ?_)
    · skip
      refine lv_iload hx hb dX1_fillForCount_30 (lv_at hl 0 rfl) ?_
      exact jn23 ((sNb σ) - k) (by first | exact (if_pos (by omega)).symm | exact (if_neg (by omega)).symm)
    · skip
      refine j_iconst hx hb dX1_fillForCount_26 ?_
      refine lv_goto (tgt := 32) hx hb dX1_fillForCount_27 (by decide) ?_
      exact jn23 0 (by first | exact (if_pos (by omega)).symm | exact (if_neg (by omega)).symm)
set_option maxHeartbeats 4000000 in
set_option maxRecDepth 100000 in
theorem kX1_run (l : Launch) (D : va_G) (cI cJ cZ : ClassId) (q : Nat → Nat) (σ : Sg) (la wa : Int → Int) (mk : Nat → Int32) (hok : okP σ la wa mk) (lp tp rk od : Int → Int) (fr fo : Int) : MuV l yX1_run wsX1_run 4 115 D (tyc cI cJ cZ) (wPc q cI (sNb σ) (sWd σ) (sPp σ) (sCt σ) (sCs σ) mk la wa ++ wSe q cJ lp tp rk od fr fo) [.ref (q 5)] (fun (u : (Int → Int) × (Int → Int) × (Int → Int) × (Int → Int) × Int × Int) => Bst (Cmp σ (Tc σ) 0 0) u.2.2.2.2.1 u.2.2.2.2.2) (fun u => wPc q cI (sNb σ) (sWd σ) (sPp σ) (sCt σ) (sCs σ) mk la wa ++ wSe q cJ u.1 u.2.1 u.2.2.1 u.2.2.2.1 u.2.2.2.2.1 u.2.2.2.2.2) := by
  intro sz
  refine j_start RX1 rfl (by decide) rfl (Nat.le_of_ble_eq_true rfl) ?_
  intro p e s m below meth c ls hx hb hr hlocks hml hown hts hnm hl ⟨hsz, hP, hK, hD0⟩
  subst hsz
  have hD := hD0.self (sz := s.heap.size)
  generalize hAe : va_A (wPc q cI (sNb σ) (sWd σ) (sPp σ) (sCt σ) (sCs σ) mk la wa ++ wSe q cJ lp tp rk od fr fo) s.heap.size = A at hD ⊢
  have hA : ∀ q : Nat, s.heap.size ≤ q → A q := fun q h => by rw [← hAe]; exact Or.inr h
  refine j_gen (fun H locs hHe hLe => ?_)
  have hS : va_S A s.heap H locs := by rw [hHe, hLe]; exact va_S.rf
  have hP : va_P D vwCl (wPc q cI (sNb σ) (sWd σ) (sPp σ) (sCt σ) (sCs σ) mk la wa ++ wSe q cJ lp tp rk od fr fo) H := by rw [hHe]; exact hP
  have hD : va_D A (wPc q cI (sNb σ) (sWd σ) (sPp σ) (sCt σ) (sCs σ) mk la wa ++ wSe q cJ lp tp rk od fr fo) := hD
  have hl : lv_has ls 1 [(0, .ref (q 5))] := hl
  have hinX0 : ∀ w ∈ u_ws RX0 TX0 8, w ∈ wsX1_run := by decide +kernel
  have hinX1 : ∀ w ∈ u_ws RX1 TX1 7, w ∈ wsX1_run := by decide +kernel
  have hS0 := hok.1
  have hnb := hS0.1
  have hwd := hS0.2.1
  have hpp := hS0.2.2.1
  have hct := hS0.2.2.2.1
  refine lv_aload_n hx hb dX1_run_0 rfl (lv_at hl 0 rfl) ?_
  refine j_lconst0 hx hb dX1_run_1 ?_
  refine va_put (D := D) (ci := 1) (v := .long (jL 0)) (ty := .long) (C := RX1) (T := TX1) (N := 7) hx hb hts hinX1 tyX1 tyX1_ok nmX1 hown hK hP hD hS 5 rfl rfl 6 (by decide) (hts (.fieldLink RX1 36 "BreakLines$Search" "foundOrder" "J") (by decide +kernel)) (fun _ h9 => h9) rfl (by decide +kernel) rfl rfl (Nat.le_of_ble_eq_true rfl) dX1_run_2 (fun H locs hP hD hS => ?_)
  have hP : va_P D vwCl (wPc q cI (sNb σ) (sWd σ) (sPp σ) (sCt σ) (sCs σ) mk la wa ++ wSe q cJ lp tp rk od fr 0) H := hP
  have hD : va_D A (wPc q cI (sNb σ) (sWd σ) (sPp σ) (sCt σ) (sCs σ) mk la wa ++ wSe q cJ lp tp rk od fr 0) := hD
  refine lv_aload_n hx hb dX1_run_5 rfl (lv_at hl 0 rfl) ?_
  refine va_get (D := D) (ci := 1) (v := .ref (q 0)) (C := RX1) (T := TX1) (N := 7) hx hb hts hinX1 hown hK hP 5 rfl rfl 0 (by decide) (hts (.fieldLink RX1 11 "BreakLines$Search" "piece" "LBreakLines$Piece;") (by decide +kernel)) (fun _ h9 => h9) rfl dX1_run_6 ?_
  refine va_get (D := D) (ci := 0) (v := .int (jI (sNb σ))) (C := RX0) (T := TX0) (N := 8) hx hb hts hinX0 hown hK hP 0 rfl rfl 0 (by decide) (hts (.fieldLink RX1 39 "BreakLines$Piece" "bars" "I") (by decide +kernel)) (fun _ h9 => h9) rfl dX1_run_9 ?_
  refine j_if_ne (tgt := 37) hx hb (by unfold i32; omega) dX1_run_12 (by decide) (fun c12 => ?_) (fun c12 => ?_)
  · skip
    refine lv_aload_n hx hb dX1_run_37 rfl (lv_at hl 0 rfl) ?_
    refine va_get (D := D) (ci := 1) (v := .ref (q 0)) (C := RX1) (T := TX1) (N := 7) hx hb hts hinX1 hown hK hP 5 rfl rfl 0 (by decide) (hts (.fieldLink RX1 11 "BreakLines$Search" "piece" "LBreakLines$Piece;") (by decide +kernel)) (fun _ h9 => h9) rfl dX1_run_38 ?_
    refine va_get (D := D) (ci := 0) (v := .int (jI (sCt σ))) (C := RX0) (T := TX0) (N := 8) hx hb hts hinX0 hown hK hP 0 rfl rfl 3 (by decide) (hts (.fieldLink RX1 45 "BreakLines$Piece" "count" "I") (by decide +kernel)) (fun _ h9 => h9) rfl dX1_run_41 ?_
    refine lv_aload_n hx hb dX1_run_44 rfl (lv_at hl 0 rfl) ?_
    refine va_get (D := D) (ci := 1) (v := .ref (q 0)) (C := RX1) (T := TX1) (N := 7) hx hb hts hinX1 hown hK hP 5 rfl rfl 0 (by decide) (hts (.fieldLink RX1 11 "BreakLines$Search" "piece" "LBreakLines$Piece;") (by decide +kernel)) (fun _ h9 => h9) rfl dX1_run_45 ?_
    refine va_get (D := D) (ci := 0) (v := .int (jI (sNb σ))) (C := RX0) (T := TX0) (N := 8) hx hb hts hinX0 hown hK hP 0 rfl rfl 0 (by decide) (hts (.fieldLink RX1 39 "BreakLines$Piece" "bars" "I") (by decide +kernel)) (fun _ h9 => h9) rfl dX1_run_48 ?_
    refine j_icmp_le (tgt := 62) hx hb (by unfold i32; omega) dX1_run_51 (by decide) (fun c51 => ?_) (fun c51 => ?_)
    · skip
      refine lv_aload_n hx hb dX1_run_62 rfl (lv_at hl 0 rfl) ?_
      refine j_mVV (As := []) (rest := []) ⟨hx, hb, hml, hown, hts⟩ (kX1_priceLinesAndTurns l D cI cJ cZ q σ la wa mk hok lp tp rk od fr 0) (cwV 0 hts gX1_run_X1_priceLinesAndTurns rfl rfl rfl (by decide +kernel) ⟨Nat.le_of_ble_eq_true rfl, Nat.le_of_ble_eq_true rfl⟩) hK hP hD hS hA (va_recv hK hP (ci := 1) (q0 := 5) rfl rfl) rfl hl.1 rfl (Nat.le_of_ble_eq_true rfl) ⟨Nat.zero_le _, Nat.zero_le _⟩ dX1_run_63 [0, 1, 2, 3, 4, 5, 6, 7, 8, 9] [] [0, 1, 2, 3, 4, 5, 6, 7, 8, 9] rfl (by decide) (wr := ([] : va_W)) rfl (by decide) (by decide) (fun _ => rfl) (fun u => wPc q cI (sNb σ) (sWd σ) (sPp σ) (sCt σ) (sCs σ) mk la wa ++ wSe q cJ u.1 u.2 rk od fr 0) (fun _ => rfl) (fun _ => rfl) (fun ⟨lpc1, tpc1⟩ H locs hu1 hP hD hS => ?_)
      have hlp := hu1.1
      have htp := hu1.2
      have hP : va_P D vwCl (wPc q cI (sNb σ) (sWd σ) (sPp σ) (sCt σ) (sCs σ) mk la wa ++ wSe q cJ lpc1 tpc1 rk od fr 0) H := hP
      have hD : va_D A (wPc q cI (sNb σ) (sWd σ) (sPp σ) (sCt σ) (sCs σ) mk la wa ++ wSe q cJ lpc1 tpc1 rk od fr 0) := hD
      refine lv_aload_n hx hb dX1_run_66 rfl (lv_at hl 0 rfl) ?_
      refine va_get (D := D) (ci := 1) (v := .ref (q 0)) (C := RX1) (T := TX1) (N := 7) hx hb hts hinX1 hown hK hP 5 rfl rfl 0 (by decide) (hts (.fieldLink RX1 11 "BreakLines$Search" "piece" "LBreakLines$Piece;") (by decide +kernel)) (fun _ h9 => h9) rfl dX1_run_67 ?_
      refine va_get (D := D) (ci := 0) (v := .int (jI (sCt σ))) (C := RX0) (T := TX0) (N := 8) hx hb hts hinX0 hown hK hP 0 rfl rfl 3 (by decide) (hts (.fieldLink RX1 45 "BreakLines$Piece" "count" "I") (by decide +kernel)) (fun _ h9 => h9) rfl dX1_run_70 ?_
      refine j_joinM (α := (Int → Int) × (Int → Int) × Array Slot × Heap × List Loc) (h := (fun z => match z with | (rk1, od1, ls, H, locs) => H)) (lc := (fun z => match z with | (rk1, od1, ls, H, locs) => locs)) (f := (fun z => match z with | (rk1, od1, ls, H, locs) => F0 m 94 ls [])) (P := (fun z => match z with | (rk1, od1, ls, H, locs) => (Bst (Cmp σ (Tc σ) 0 0) (rk1 0) (od1 0)) ∧ lv_has ls 1 [(0, .ref (q 5))] ∧ va_P D vwCl (wPc q cI (sNb σ) (sWd σ) (sPp σ) (sCt σ) (sCs σ) mk la wa ++ wSe q cJ lpc1 tpc1 rk1 od1 fr 0) H ∧ va_D A (wPc q cI (sNb σ) (sWd σ) (sPp σ) (sCt σ) (sCs σ) mk la wa ++ wSe q cJ lpc1 tpc1 rk1 od1 fr 0) ∧ va_S A s.heap H locs)) ?_ (fun jn73 => ?_)
      · intro ⟨rk1, od1, ls, H, locs⟩ ⟨hj73, hl, hP, hD, hS⟩
        have hl : lv_has ls 1 [(0, .ref (q 5))] := hl
        have hP : va_P D vwCl (wPc q cI (sNb σ) (sWd σ) (sPp σ) (sCt σ) (sCs σ) mk la wa ++ wSe q cJ lpc1 tpc1 rk1 od1 fr 0) H := hP
        have hD : va_D A (wPc q cI (sNb σ) (sWd σ) (sPp σ) (sCt σ) (sCs σ) mk la wa ++ wSe q cJ lpc1 tpc1 rk1 od1 fr 0) := hD
        have hS : va_S A s.heap H locs := hS
        show W p l e _ s m _ below meth c H locs _ _ _ (F0 m 94 ls [])
        refine lv_aload_n hx hb dX1_run_94 rfl (lv_at hl 0 rfl) ?_
        refine lv_aload_n hx hb dX1_run_95 rfl (lv_at hl 0 rfl) ?_
        refine va_get (D := D) (ci := 1) (v := .ref (q 8)) (C := RX1) (T := TX1) (N := 7) hx hb hts hinX1 hown hK hP 5 rfl rfl 3 (by decide) (hts (.fieldLink RX1 24 "BreakLines$Search" "ranks" "[J") (by decide +kernel)) (fun _ h9 => h9) rfl dX1_run_96 ?_
        refine j_iconst hx hb dX1_run_99 ?_
        refine j_lald hx hb hK hP 8 1 rfl rfl (i := 0) (by omega) (by decide) dX1_run_100 ?_
        refine va_put (D := D) (ci := 1) (v := .long (jL (rk1 0))) (ty := .long) (C := RX1) (T := TX1) (N := 7) hx hb hts hinX1 tyX1 tyX1_ok nmX1 hown hK hP hD hS 5 rfl rfl 5 (by decide) (hts (.fieldLink RX1 32 "BreakLines$Search" "foundRank" "J") (by decide +kernel)) (fun _ h9 => h9) rfl (by decide +kernel) rfl rfl (Nat.le_of_ble_eq_true rfl) dX1_run_101 (fun H locs hP hD hS => ?_)
        have hP : va_P D vwCl (wPc q cI (sNb σ) (sWd σ) (sPp σ) (sCt σ) (sCs σ) mk la wa ++ wSe q cJ lpc1 tpc1 rk1 od1 (rk1 0) 0) H := hP
        have hD : va_D A (wPc q cI (sNb σ) (sWd σ) (sPp σ) (sCt σ) (sCs σ) mk la wa ++ wSe q cJ lpc1 tpc1 rk1 od1 (rk1 0) 0) := hD
        refine lv_aload_n hx hb dX1_run_104 rfl (lv_at hl 0 rfl) ?_
        refine lv_aload_n hx hb dX1_run_105 rfl (lv_at hl 0 rfl) ?_
        refine va_get (D := D) (ci := 1) (v := .ref (q 9)) (C := RX1) (T := TX1) (N := 7) hx hb hts hinX1 hown hK hP 5 rfl rfl 4 (by decide) (hts (.fieldLink RX1 27 "BreakLines$Search" "orders" "[J") (by decide +kernel)) (fun _ h9 => h9) rfl dX1_run_106 ?_
        refine j_iconst hx hb dX1_run_109 ?_
        refine j_lald hx hb hK hP 9 1 rfl rfl (i := 0) (by omega) (by decide) dX1_run_110 ?_
        refine va_put (D := D) (ci := 1) (v := .long (jL (od1 0))) (ty := .long) (C := RX1) (T := TX1) (N := 7) hx hb hts hinX1 tyX1 tyX1_ok nmX1 hown hK hP hD hS 5 rfl rfl 6 (by decide) (hts (.fieldLink RX1 36 "BreakLines$Search" "foundOrder" "J") (by decide +kernel)) (fun _ h9 => h9) rfl (by decide +kernel) rfl rfl (Nat.le_of_ble_eq_true rfl) dX1_run_111 (fun H locs hP hD hS => ?_)
        have hP : va_P D vwCl (wPc q cI (sNb σ) (sWd σ) (sPp σ) (sCt σ) (sCs σ) mk la wa ++ wSe q cJ lpc1 tpc1 rk1 od1 (rk1 0) (od1 0)) H := hP
        have hD : va_D A (wPc q cI (sNb σ) (sWd σ) (sPp σ) (sCt σ) (sCs σ) mk la wa ++ wSe q cJ lpc1 tpc1 rk1 od1 (rk1 0) (od1 0)) := hD
        exact j_mretV hx hb hr hlocks hS dX1_run_114 (lpc1, tpc1, rk1, od1, rk1 0, od1 0) hj73 hP
      refine j_if_ne (tgt := 83) hx hb (by unfold i32; omega) dX1_run_73 (by decide) (fun c73 => ?_) (fun c73 => ?_)
      · skip
        refine lv_aload_n hx hb dX1_run_83 rfl (lv_at hl 0 rfl) ?_
        refine lv_aload_n hx hb dX1_run_84 rfl (lv_at hl 0 rfl) ?_
        refine va_get (D := D) (ci := 1) (v := .ref (q 0)) (C := RX1) (T := TX1) (N := 7) hx hb hts hinX1 hown hK hP 5 rfl rfl 0 (by decide) (hts (.fieldLink RX1 11 "BreakLines$Search" "piece" "LBreakLines$Piece;") (by decide +kernel)) (fun _ h9 => h9) rfl dX1_run_85 ?_
        refine va_get (D := D) (ci := 0) (v := .int (jI (sCt σ))) (C := RX0) (T := TX0) (N := 8) hx hb hts hinX0 hown hK hP 0 rfl rfl 3 (by decide) (hts (.fieldLink RX1 45 "BreakLines$Piece" "count" "I") (by decide +kernel)) (fun _ h9 => h9) rfl dX1_run_88 ?_
        refine j_mVV (As := [.int (jI (sCt σ))]) (rest := []) ⟨hx, hb, hml, hown, hts⟩ (kX1_fillForCount l D cI cJ cZ q σ la wa mk hok lpc1 tpc1 rk od fr 0 (sCt σ) (by omega) hlp htp) (cwV 1 hts gX1_run_X1_fillForCount rfl rfl rfl (by decide +kernel) ⟨Nat.le_of_ble_eq_true rfl, Nat.le_of_ble_eq_true rfl⟩) hK hP hD hS hA (va_recv hK hP (ci := 1) (q0 := 5) rfl rfl) rfl hl.1 rfl (Nat.le_of_ble_eq_true rfl) ⟨Nat.zero_le _, Nat.zero_le _⟩ dX1_run_91 [0, 1, 2, 3, 4, 5, 6, 7, 8, 9] [] [0, 1, 2, 3, 4, 5, 6, 7, 8, 9] rfl (by decide) (wr := ([] : va_W)) rfl (by decide) (by decide) (fun _ => rfl) (fun u => wPc q cI (sNb σ) (sWd σ) (sPp σ) (sCt σ) (sCs σ) mk la wa ++ wSe q cJ lpc1 tpc1 u.1 u.2 fr 0) (fun _ => rfl) (fun _ => rfl) (fun ⟨rkc2, odc2⟩ H locs hu2 hP hD hS => ?_)
        have hP : va_P D vwCl (wPc q cI (sNb σ) (sWd σ) (sPp σ) (sCt σ) (sCs σ) mk la wa ++ wSe q cJ lpc1 tpc1 rkc2 odc2 fr 0) H := hP
        have hD : va_D A (wPc q cI (sNb σ) (sWd σ) (sPp σ) (sCt σ) (sCs σ) mk la wa ++ wSe q cJ lpc1 tpc1 rkc2 odc2 fr 0) := hD
        exact jn73 (rkc2, odc2, ls, H, locs) ⟨(runJ hu2 (by first | exact Or.inl ⟨c73, rfl⟩ | exact Or.inr ⟨c73, rfl⟩)), lv_sub hl [0] rfl, hP, hD, hS⟩
      · skip
        refine lv_aload_n hx hb dX1_run_76 rfl (lv_at hl 0 rfl) ?_
        refine j_mVV (As := []) (rest := []) ⟨hx, hb, hml, hown, hts⟩ (kX1_fillForAnyCount l D cI cJ cZ q σ la wa mk hok lpc1 tpc1 rk od fr 0  (by omega) hlp htp) (cwV 0 hts gX1_run_X1_fillForAnyCount rfl rfl rfl (by decide +kernel) ⟨Nat.le_of_ble_eq_true rfl, Nat.le_of_ble_eq_true rfl⟩) hK hP hD hS hA (va_recv hK hP (ci := 1) (q0 := 5) rfl rfl) rfl hl.1 rfl (Nat.le_of_ble_eq_true rfl) ⟨Nat.zero_le _, Nat.zero_le _⟩ dX1_run_77 [0, 1, 2, 3, 4, 5, 6, 7, 8, 9] [] [0, 1, 2, 3, 4, 5, 6, 7, 8, 9] rfl (by decide) (wr := ([] : va_W)) rfl (by decide) (by decide) (fun _ => rfl) (fun u => wPc q cI (sNb σ) (sWd σ) (sPp σ) (sCt σ) (sCs σ) mk la wa ++ wSe q cJ lpc1 tpc1 u.1 u.2 fr 0) (fun _ => rfl) (fun _ => rfl) (fun ⟨rkc3, odc3⟩ H locs hu3 hP hD hS => ?_)
        have hP : va_P D vwCl (wPc q cI (sNb σ) (sWd σ) (sPp σ) (sCt σ) (sCs σ) mk la wa ++ wSe q cJ lpc1 tpc1 rkc3 odc3 fr 0) H := hP
        have hD : va_D A (wPc q cI (sNb σ) (sWd σ) (sPp σ) (sCt σ) (sCs σ) mk la wa ++ wSe q cJ lpc1 tpc1 rkc3 odc3 fr 0) := hD
        refine lv_goto (tgt := 94) hx hb dX1_run_80 (by decide) ?_
        exact jn73 (rkc3, odc3, ls, H, locs) ⟨(runJ hu3 (by first | exact Or.inl ⟨c73, rfl⟩ | exact Or.inr ⟨c73, rfl⟩)), lv_sub hl [0] rfl, hP, hD, hS⟩
    · skip
      refine lv_aload_n hx hb dX1_run_54 rfl (lv_at hl 0 rfl) ?_
      refine lv_ldc2 (v := jL 9223372036854775807) hx hb hown (hts (.constantLong RX1 30 (9223372036854775807)) (by decide +kernel)) dX1_run_55 ?_
      refine va_put (D := D) (ci := 1) (v := .long (jL 9223372036854775807)) (ty := .long) (C := RX1) (T := TX1) (N := 7) hx hb hts hinX1 tyX1 tyX1_ok nmX1 hown hK hP hD hS 5 rfl rfl 5 (by decide) (hts (.fieldLink RX1 32 "BreakLines$Search" "foundRank" "J") (by decide +kernel)) (fun _ h9 => h9) rfl (by decide +kernel) rfl rfl (Nat.le_of_ble_eq_true rfl) dX1_run_58 (fun H locs hP hD hS => ?_)
      have hP : va_P D vwCl (wPc q cI (sNb σ) (sWd σ) (sPp σ) (sCt σ) (sCs σ) mk la wa ++ wSe q cJ lp tp rk od 9223372036854775807 0) H := hP
      have hD : va_D A (wPc q cI (sNb σ) (sWd σ) (sPp σ) (sCt σ) (sCs σ) mk la wa ++ wSe q cJ lp tp rk od 9223372036854775807 0) := hD
      exact j_mretV hx hb hr hlocks hS dX1_run_61 (lp, tp, rk, od, 9223372036854775807, 0) (Or.inl ⟨rfl, Full_empty hS0 (by omega)⟩) hP
  · skip
    refine lv_aload_n hx hb dX1_run_15 rfl (lv_at hl 0 rfl) ?_
    refine lv_aload_n hx hb dX1_run_16 rfl (lv_at hl 0 rfl) ?_
    refine va_get (D := D) (ci := 1) (v := .ref (q 0)) (C := RX1) (T := TX1) (N := 7) hx hb hts hinX1 hown hK hP 5 rfl rfl 0 (by decide) (hts (.fieldLink RX1 11 "BreakLines$Search" "piece" "LBreakLines$Piece;") (by decide +kernel)) (fun _ h9 => h9) rfl dX1_run_17 ?_
    refine va_get (D := D) (ci := 0) (v := .int (jI (sCt σ))) (C := RX0) (T := TX0) (N := 8) hx hb hts hinX0 hown hK hP 0 rfl rfl 3 (by decide) (hts (.fieldLink RX1 45 "BreakLines$Piece" "count" "I") (by decide +kernel)) (fun _ h9 => h9) rfl dX1_run_20 ?_
    refine j_join (α := Int) (P := fun x => x = if sCt σ = 0 then 0 else 9223372036854775807) (f := fun x => F0 m 33 ls [.long (jL x), .ref (q 5)]) ?_ (fun jn23 => ?_)
    · intro x hvx
      refine va_put (D := D) (ci := 1) (v := .long (jL x)) (ty := .long) (C := RX1) (T := TX1) (N := 7) hx hb hts hinX1 tyX1 tyX1_ok nmX1 hown hK hP hD hS 5 rfl rfl 5 (by decide) (hts (.fieldLink RX1 32 "BreakLines$Search" "foundRank" "J") (by decide +kernel)) (fun _ h9 => h9) rfl (by decide +kernel) rfl rfl (Nat.le_of_ble_eq_true rfl) dX1_run_33 (fun H locs hP hD hS => ?_)
      have hP : va_P D vwCl (wPc q cI (sNb σ) (sWd σ) (sPp σ) (sCt σ) (sCs σ) mk la wa ++ wSe q cJ lp tp rk od x 0) H := hP
      have hD : va_D A (wPc q cI (sNb σ) (sWd σ) (sPp σ) (sCt σ) (sCs σ) mk la wa ++ wSe q cJ lp tp rk od x 0) := hD
      exact j_mretV hx hb hr hlocks hS dX1_run_36 (lp, tp, rk, od, x, 0) (Full_none c12 hvx) hP
    refine j_if_ne (tgt := 30) hx hb (by unfold i32; omega) dX1_run_23 (by decide) (fun c23 => ?_) (fun c23 => ?_)
    · skip
      refine lv_ldc2 (v := jL 9223372036854775807) hx hb hown (hts (.constantLong RX1 30 (9223372036854775807)) (by decide +kernel)) dX1_run_30 ?_
      exact jn23 9223372036854775807 (by first | exact (if_pos c23).symm | exact (if_neg c23).symm)
    · skip
      refine j_lconst0 hx hb dX1_run_26 ?_
      refine lv_goto (tgt := 33) hx hb dX1_run_27 (by decide) ?_
      exact jn23 0 (by first | exact (if_pos c23).symm | exact (if_neg c23).symm)
end
