/-! the contracts of the reference: what changes nothing, what changes the state -/
noncomputable section
set_option maxHeartbeats 4000000 in
set_option maxRecDepth 100000 in
theorem kX4_in (l : Launch) (D : va_G) (cI cJ cZ : ClassId) (x a b : Int) (h : i32 x ∧ i32 a ∧ i32 b) : RoI l yX4_in wsX4_in 0 0 D (tyc cI cJ cZ) ([]) [.int (jI x), .int (jI a), .int (jI b)] (jZ (a ≤ x ∧ x ≤ b)) := by
  refine j_start RX4 rfl (by decide) rfl (Nat.le_of_ble_eq_true rfl) ?_
  intro p e s m below meth c ls hx hb hr hlocks hml hown hts hnm hl ⟨hP, hK⟩
  have hP : va_P D vwCl ([]) s.heap := hP
  have hl : lv_has ls 3 [(0, .int (jI x)), (1, .int (jI a)), (2, .int (jI b))] := hl
  unfold i32 at h
  refine lv_iload_n hx hb dX4_in_0 rfl (lv_at hl 0 rfl) ?_
  refine lv_iload_n hx hb dX4_in_1 rfl (lv_at hl 1 rfl) ?_
  refine j_icmp_lt (tgt := 14) hx hb (by unfold i32; omega) dX4_in_2 (by decide) (fun c2 => ?_) (fun c2 => ?_)
  · skip
    refine j_iconst hx hb dX4_in_14 ?_
    exact j_retZ hx hb hr (by decide) hlocks dX4_in_15 ((jZ_f (by omega)).symm)
  · skip
    refine lv_iload_n hx hb dX4_in_5 rfl (lv_at hl 0 rfl) ?_
    refine lv_iload_n hx hb dX4_in_6 rfl (lv_at hl 2 rfl) ?_
    refine j_icmp_gt (tgt := 14) hx hb (by unfold i32; omega) dX4_in_7 (by decide) (fun c7 => ?_) (fun c7 => ?_)
    · skip
      refine j_iconst hx hb dX4_in_14 ?_
      exact j_retZ hx hb hr (by decide) hlocks dX4_in_15 ((jZ_f (by omega)).symm)
    · skip
      refine j_iconst hx hb dX4_in_10 ?_
      refine lv_goto (tgt := 15) hx hb dX4_in_11 (by decide) ?_
      exact j_retZ hx hb hr (by decide) hlocks dX4_in_15 ((jZ_t (by omega)).symm)
set_option maxHeartbeats 4000000 in
set_option maxRecDepth 100000 in
theorem kX4_areWidths (l : Launch) (D : va_G) (cI cJ cZ : ClassId) (x y : Int) (h : i32 x ∧ i32 y) : RoI l yX4_areWidths wsX4_areWidths 1 22 D (tyc cI cJ cZ) ([]) [.int (jI x), .int (jI y)] (jZ (1 ≤ x ∧ x ≤ y ∧ y ≤ 400)) := by
  refine j_start RX4 rfl (by decide) rfl (Nat.le_of_ble_eq_true rfl) ?_
  intro p e s m below meth c ls hx hb hr hlocks hml hown hts hnm hl ⟨hP, hK⟩
  have hP : va_P D vwCl ([]) s.heap := hP
  have hl : lv_has ls 2 [(0, .int (jI x)), (1, .int (jI y))] := hl
  unfold i32 at h
  refine lv_iload_n hx hb dX4_areWidths_0 rfl (lv_at hl 0 rfl) ?_
  refine j_iconst hx hb dX4_areWidths_1 ?_
  refine j_sipush hx hb dX4_areWidths_2 (by decide) ?_
  refine j_cSI (As := [.int (jI x), .int (jI 1), .int (jI 400)]) (rest := []) ⟨hx, hb, hml, hown, hts⟩ (kX4_in l D cI cJ cZ x 1 400 (by unfold i32; omega)) (va_cwS 3 hts gX4_areWidths_X4_in rfl rfl rfl (by decide +kernel) ⟨Nat.le_of_ble_eq_true rfl, Nat.le_of_ble_eq_true rfl⟩) hK (hP.sub [] rfl) rfl hl.1 rfl (Nat.le_of_ble_eq_true rfl) ⟨Nat.zero_le _, Nat.zero_le _⟩ dX4_areWidths_5 ?_
  refine j_ifeqZ (tgt := 26) hx hb dX4_areWidths_8 (by decide) (fun c8 => ?_) (fun c8 => ?_)
  · skip
    refine j_iconst hx hb dX4_areWidths_26 ?_
    exact j_retZ hx hb hr (by decide) hlocks dX4_areWidths_27 ((jZ_f (by omega)).symm)
  · skip
    refine lv_iload_n hx hb dX4_areWidths_11 rfl (lv_at hl 1 rfl) ?_
    refine lv_iload_n hx hb dX4_areWidths_12 rfl (lv_at hl 0 rfl) ?_
    refine j_sipush hx hb dX4_areWidths_13 (by decide) ?_
    refine j_cSI (As := [.int (jI y), .int (jI x), .int (jI 400)]) (rest := []) ⟨hx, hb, hml, hown, hts⟩ (kX4_in l D cI cJ cZ y x 400 (by unfold i32; omega)) (va_cwS 3 hts gX4_areWidths_X4_in rfl rfl rfl (by decide +kernel) ⟨Nat.le_of_ble_eq_true rfl, Nat.le_of_ble_eq_true rfl⟩) hK (hP.sub [] rfl) rfl hl.1 rfl (Nat.le_of_ble_eq_true rfl) ⟨Nat.zero_le _, Nat.zero_le _⟩ dX4_areWidths_16 ?_
    refine j_ifeqZ (tgt := 26) hx hb dX4_areWidths_19 (by decide) (fun c19 => ?_) (fun c19 => ?_)
    · skip
      refine j_iconst hx hb dX4_areWidths_26 ?_
      exact j_retZ hx hb hr (by decide) hlocks dX4_areWidths_27 ((jZ_f (by omega)).symm)
    · skip
      refine j_iconst hx hb dX4_areWidths_22 ?_
      refine lv_goto (tgt := 27) hx hb dX4_areWidths_23 (by decide) ?_
      exact j_retZ hx hb hr (by decide) hlocks dX4_areWidths_27 ((jZ_t (by omega)).symm)
set_option maxHeartbeats 4000000 in
set_option maxRecDepth 100000 in
theorem kX4_place (l : Launch) (D : va_G) (cI cJ cZ : ClassId) (b o n : Int) (P : Prop) : RoI l yX4_place wsX4_place 0 0 D (tyc cI cJ cZ) ([]) [.int (jI b), .int (jI o), .int (jI n), .int (jZ P)] (jI (plc b o n P)) := by
  refine j_start RX4 rfl (by decide) rfl (Nat.le_of_ble_eq_true rfl) ?_
  intro p e s m below meth c ls hx hb hr hlocks hml hown hts hnm hl ⟨hP, hK⟩
  have hP : va_P D vwCl ([]) s.heap := hP
  have hl : lv_has ls 4 [(0, .int (jI b)), (1, .int (jI o)), (2, .int (jI n)), (3, .int (jZ P))] := hl
  refine lv_iload_n hx hb dX4_place_0 rfl (lv_at hl 0 rfl) ?_
  refine j_bipush hx hb dX4_place_1 (by decide) ?_
  refine j_imul hx hb dX4_place_3 ?_
  refine lv_iload_n hx hb dX4_place_4 rfl (lv_at hl 1 rfl) ?_
  refine j_iadd hx hb dX4_place_5 ?_
  refine j_bipush hx hb dX4_place_6 (by decide) ?_
  refine j_imul hx hb dX4_place_8 ?_
  refine lv_iload_n hx hb dX4_place_9 rfl (lv_at hl 2 rfl) ?_
  refine j_iadd hx hb dX4_place_10 ?_
  refine j_iconst hx hb dX4_place_11 ?_
  refine j_imul hx hb dX4_place_12 ?_
  refine lv_iload_n hx hb dX4_place_13 rfl (lv_at hl 3 rfl) ?_
  refine j_ifeqZ (tgt := 21) hx hb dX4_place_14 (by decide) (fun c14 => ?_) (fun c14 => ?_)
  · skip
    refine j_iconst hx hb dX4_place_21 ?_
    refine j_iadd hx hb dX4_place_22 ?_
    exact j_retI hx hb hr hlocks dX4_place_23 (congrArg jI (by first | exact (plc_t c14 b o n).symm | exact (plc_f c14 b o n).symm))
  · skip
    refine j_iconst hx hb dX4_place_17 ?_
    refine lv_goto (tgt := 22) hx hb dX4_place_18 (by decide) ?_
    refine j_iadd hx hb dX4_place_22 ?_
    exact j_retI hx hb hr hlocks dX4_place_23 (congrArg jI (by first | exact (plc_t c14 b o n).symm | exact (plc_f c14 b o n).symm))
set_option maxHeartbeats 4000000 in
set_option maxRecDepth 100000 in
theorem kX4_isBar (l : Launch) (D : va_G) (cI cJ cZ : ClassId) (r : Nat → Nat) (σ : Sg) (hS0 : okS σ) (rs : Int → Int) (kn : Prop) (be lm : Int) (lf : Int → Int) (pm : Int) (pf nw th pg : Int → Int) (a : Int) (h : i32 a) : RoI l yX4_isBar wsX4_isBar 1 22 D (tyc cI cJ cZ) (wMo r cI cJ cZ (sWd σ) (sPp σ) (sNb σ) (sLs σ) (sWs σ) (sM σ) (sCs σ) (sCt σ) rs kn be lm lf pm pf nw th pg) [.ref (r 0), .int (jI a)] (jZ (0 ≤ a ∧ a < sNb σ)) := by
  refine j_start RX4 rfl (by decide) rfl (Nat.le_of_ble_eq_true rfl) ?_
  intro p e s m below meth c ls hx hb hr hlocks hml hown hts hnm hl ⟨hP, hK⟩
  have hP : va_P D vwCl (wMo r cI cJ cZ (sWd σ) (sPp σ) (sNb σ) (sLs σ) (sWs σ) (sM σ) (sCs σ) (sCt σ) rs kn be lm lf pm pf nw th pg) s.heap := hP
  have hl : lv_has ls 2 [(0, .ref (r 0)), (1, .int (jI a))] := hl
  have hinX4 : ∀ w ∈ u_ws RX4 TX4 18, w ∈ wsX4_isBar := by decide +kernel
  have hnb := hS0.1
  have hwd := hS0.2.1
  have hpp := hS0.2.2.1
  have hct := hS0.2.2.2.1
  unfold i32 at h
  refine lv_iload_n hx hb dX4_isBar_0 rfl (lv_at hl 1 rfl) ?_
  refine j_iconst hx hb dX4_isBar_1 ?_
  refine lv_aload_n hx hb dX4_isBar_2 rfl (lv_at hl 0 rfl) ?_
  refine va_get (D := D) (ci := 4) (v := .int (jI (sNb σ))) (C := RX4) (T := TX4) (N := 18) hx hb hts hinX4 hown hK hP 0 rfl rfl 2 (by decide) (hts (.fieldLink RX4 57 "BreakLinesModel" "bars" "I") (by decide +kernel)) (fun _ h9 => h9) rfl dX4_isBar_3 ?_
  refine j_iconst hx hb dX4_isBar_6 ?_
  refine j_isub hx hb dX4_isBar_7 ?_
  refine j_cSI (As := [.int (jI a), .int (jI 0), .int (jI ((sNb σ) - 1))]) (rest := []) ⟨hx, hb, hml, hown, hts⟩ (kX4_in l D cI cJ cZ a 0 ((sNb σ) - 1) (by unfold i32; omega)) (va_cwS 3 hts gX4_isBar_X4_in rfl rfl rfl (by decide +kernel) ⟨Nat.le_of_ble_eq_true rfl, Nat.le_of_ble_eq_true rfl⟩) hK (hP.sub [] rfl) rfl hl.1 rfl (Nat.le_of_ble_eq_true rfl) ⟨Nat.zero_le _, Nat.zero_le _⟩ dX4_isBar_8 ?_
  exact j_retZ hx hb hr (jZ_narrow _) hlocks dX4_isBar_11 (jZ_c (by omega))
set_option maxHeartbeats 4000000 in
set_option maxRecDepth 100000 in
theorem kX4_total (l : Launch) (D : va_G) (cI cJ cZ : ClassId) (rb ad : Nat) (f : Int → Int) (a b : Int) (h : 0 ≤ a ∧ a ≤ b + 1 ∧ b < 24) : RoI l yX4_total wsX4_total 0 0 D (tyc cI cJ cZ) ([(ad, .inl (cI, 24, .inl (fun k : Nat => jI (f k))))]) [.ref rb, .ref ad, .int (jI a), .int (jI b)] (jI (tot f a b)) := by
  refine j_start RX4 rfl (by decide) rfl (Nat.le_of_ble_eq_true rfl) ?_
  intro p e s m below meth c ls hx hb hr hlocks hml hown hts hnm hl ⟨hP, hK⟩
  have hP : va_P D vwCl ([(ad, .inl (cI, 24, .inl (fun k : Nat => jI (f k))))]) s.heap := hP
  have hl : lv_has ls 6 [(0, .ref rb), (1, .ref ad), (2, .int (jI a)), (3, .int (jI b))] := hl
  refine j_iconst hx hb dX4_total_0 ?_
  refine lv_istore (lv' := [(4, .int (jI 0)), (0, .ref rb), (1, .ref ad), (2, .int (jI a)), (3, .int (jI b))]) hx hb dX4_total_1 hl (by decide) rfl (fun ls hl => ?_)
  refine lv_iload_n hx hb dX4_total_3 rfl (lv_at hl 3 rfl) ?_
  refine lv_istore (lv' := [(5, .int (jI a)), (4, .int (jI 0)), (0, .ref rb), (1, .ref ad), (2, .int (jI a)), (3, .int (jI b))]) hx hb dX4_total_4 hl (by decide) rfl (fun ls hl => ?_)
  refine j_loop (α := Int × Int × Array Slot) (h := fun _ => s.heap) (lc := fun _ => []) (f := fun z => match z with | (s0, i, ls) => F0 m 6 ls []) (P := fun nn z => match z with | (s0, i, ls) => ((a ≤ i ∧ i ≤ b + 1) ∧ s0 = pre f i - pre f a) ∧ (b + 1 - i).toNat < nn ∧ lv_has ls 6 [(0, .ref rb), (1, .ref ad), (2, .int (jI a)), (3, .int (jI b)), (4, .int (jI s0)), (5, .int (jI i))]) (fun z hz => ?_) ?_ ((b + 1 - a).toNat + 1) (0, a, ls) ⟨⟨by omega, by omega⟩, Nat.lt_succ_self _, lv_sub hl [2, 3, 4, 5, 1, 0] rfl⟩
  · obtain ⟨s0, i, ls⟩ := z; exact absurd hz.2.1 (Nat.not_lt_zero _)
  intro n6 ih6 ⟨s0, i, ls⟩ ⟨hi6, hm6, hl⟩
  have hl : lv_has ls 6 [(0, .ref rb), (1, .ref ad), (2, .int (jI a)), (3, .int (jI b)), (4, .int (jI s0)), (5, .int (jI i))] := hl
  show W p l e _ s m _ below meth c s.heap [] _ _ _ (F0 m 6 ls [])
  obtain ⟨hi1, hi2⟩ := hi6
  refine lv_iload hx hb dX4_total_6 (lv_at hl 5 rfl) ?_
  refine lv_iload_n hx hb dX4_total_8 rfl (lv_at hl 3 rfl) ?_
  refine j_icmp_gt (tgt := 27) hx hb (by unfold i32; omega) dX4_total_9 (by decide) (fun c9 => ?_) (fun c9 => ?_)
  · skip
    refine lv_iload hx hb dX4_total_27 (lv_at hl 4 rfl) ?_
    exact j_retI hx hb hr hlocks dX4_total_29 (congrArg jI (by unfold tot; rw [hi2, show b + 1 = i by omega]))
  · skip
    refine lv_iload hx hb dX4_total_12 (lv_at hl 4 rfl) ?_
    refine lv_aload_n hx hb dX4_total_14 rfl (lv_at hl 1 rfl) ?_
    refine lv_iload hx hb dX4_total_15 (lv_at hl 5 rfl) ?_
    refine j_iald hx hb hK hP 0 0 rfl rfl (i := i) (by omega) (by decide) dX4_total_17 ?_
    refine j_iadd hx hb dX4_total_18 ?_
    refine lv_istore (lv' := [(4, .int (jI (s0 + (f i)))), (0, .ref rb), (1, .ref ad), (2, .int (jI a)), (3, .int (jI b)), (5, .int (jI i))]) hx hb dX4_total_19 hl (by decide) rfl (fun ls hl => ?_)
    refine lv_iinc (v := jI (i + 1)) (lv' := [(5, .int (jI (i + 1))), (4, .int (jI (s0 + (f i)))), (0, .ref rb), (1, .ref ad), (2, .int (jI a)), (3, .int (jI b))]) hx hb dX4_total_21 hl (k := 5) rfl (jI_add _ _) (by decide) rfl (fun ls hl => ?_)
    refine lv_goto (tgt := 6) hx hb dX4_total_24 (by decide) ?_
    exact ih6 (s0 + (f i), i + 1, ls) ⟨⟨by omega, by rw [pre_s _ (by omega)]; omega⟩, by omega, lv_sub hl [2, 3, 4, 5, 1, 0] rfl⟩
set_option maxHeartbeats 4000000 in
set_option maxRecDepth 100000 in
theorem kX4_off (l : Launch) (D : va_G) (cI cJ cZ : ClassId) (r : Nat → Nat) (σ : Sg) (hS0 : okS σ) (rs : Int → Int) (kn : Prop) (be lm : Int) (lf : Int → Int) (pm : Int) (pf nw th pg : Int → Int) (a b : Int) (h : 0 ≤ a ∧ a ≤ b ∧ b < sNb σ) : RoI l yX4_off wsX4_off 1 25 D (tyc cI cJ cZ) (wMo r cI cJ cZ (sWd σ) (sPp σ) (sNb σ) (sLs σ) (sWs σ) (sM σ) (sCs σ) (sCt σ) rs kn be lm lf pm pf nw th pg) [.ref (r 0), .int (jI a), .int (jI b)] (jI (dd σ a b)) := by
  refine j_start RX4 rfl (by decide) rfl (Nat.le_of_ble_eq_true rfl) ?_
  intro p e s m below meth c ls hx hb hr hlocks hml hown hts hnm hl ⟨hP, hK⟩
  have hP : va_P D vwCl (wMo r cI cJ cZ (sWd σ) (sPp σ) (sNb σ) (sLs σ) (sWs σ) (sM σ) (sCs σ) (sCt σ) rs kn be lm lf pm pf nw th pg) s.heap := hP
  have hl : lv_has ls 3 [(0, .ref (r 0)), (1, .int (jI a)), (2, .int (jI b))] := hl
  have hinX4 : ∀ w ∈ u_ws RX4 TX4 18, w ∈ wsX4_off := by decide +kernel
  have hnb := hS0.1
  have hwd := hS0.2.1
  have hpp := hS0.2.2.1
  have hct := hS0.2.2.2.1
  have e3 := preB hS0 (a := a) (b := b + 1) (by omega) (by omega) (by omega)
  have e4 := preB hS0 (a := 0) (b := a) (by omega) (by omega) (by omega)
  rw [pre_0, pre_0] at e4
  have htl : tot (sLs σ) a b = pre (sLs σ) (b + 1) - pre (sLs σ) a := rfl
  have htw : tot (sWs σ) a b = pre (sWs σ) (b + 1) - pre (sWs σ) a := rfl
  refine lv_aload_n hx hb dX4_off_0 rfl (lv_at hl 0 rfl) ?_
  refine va_get (D := D) (ci := 4) (v := .int (jI (sWd σ))) (C := RX4) (T := TX4) (N := 18) hx hb hts hinX4 hown hK hP 0 rfl rfl 0 (by decide) (hts (.fieldLink RX4 42 "BreakLinesModel" "width" "I") (by decide +kernel)) (fun _ h9 => h9) rfl dX4_off_1 ?_
  refine lv_aload_n hx hb dX4_off_4 rfl (lv_at hl 0 rfl) ?_
  refine lv_aload_n hx hb dX4_off_5 rfl (lv_at hl 0 rfl) ?_
  refine va_get (D := D) (ci := 4) (v := .ref (r 2)) (C := RX4) (T := TX4) (N := 18) hx hb hts hinX4 hown hK hP 0 rfl rfl 4 (by decide) (hts (.fieldLink RX4 13 "BreakLinesModel" "wishes" "[I") (by decide +kernel)) (fun _ h9 => h9) rfl dX4_off_6 ?_
  refine lv_iload_n hx hb dX4_off_9 rfl (lv_at hl 1 rfl) ?_
  refine lv_iload_n hx hb dX4_off_10 rfl (lv_at hl 2 rfl) ?_
  refine j_cVI (As := [.ref (r 2), .int (jI a), .int (jI b)]) (rest := [.int (jI (sWd σ))]) ⟨hx, hb, hml, hown, hts⟩ (kX4_total l D cI cJ cZ (r 0) (r 2) (sWs σ) a b (by omega)) (cwV 3 hts gX4_off_X4_total rfl rfl rfl (by decide +kernel) ⟨Nat.le_of_ble_eq_true rfl, Nat.le_of_ble_eq_true rfl⟩) hK (hP.sub [2] rfl) (va_recv hK hP (ci := 4) (q0 := 0) rfl rfl) rfl hl.1 rfl (Nat.le_of_ble_eq_true rfl) ⟨Nat.zero_le _, Nat.zero_le _⟩ dX4_off_11 ?_
  refine j_isub hx hb dX4_off_14 ?_
  exact j_retI hx hb hr hlocks dX4_off_15 rfl
set_option maxHeartbeats 4000000 in
set_option maxRecDepth 100000 in
theorem kX4_isOver (l : Launch) (D : va_G) (cI cJ cZ : ClassId) (r : Nat → Nat) (σ : Sg) (hS0 : okS σ) (rs : Int → Int) (kn : Prop) (be lm : Int) (lf : Int → Int) (pm : Int) (pf nw th pg : Int → Int) (a b : Int) (h : 0 ≤ a ∧ a ≤ b ∧ b < sNb σ) : RoI l yX4_isOver wsX4_isOver 1 25 D (tyc cI cJ cZ) (wMo r cI cJ cZ (sWd σ) (sPp σ) (sNb σ) (sLs σ) (sWs σ) (sM σ) (sCs σ) (sCt σ) rs kn be lm lf pm pf nw th pg) [.ref (r 0), .int (jI a), .int (jI b)] (jZ (sWd σ < tot (sLs σ) a b)) := by
  refine j_start RX4 rfl (by decide) rfl (Nat.le_of_ble_eq_true rfl) ?_
  intro p e s m below meth c ls hx hb hr hlocks hml hown hts hnm hl ⟨hP, hK⟩
  have hP : va_P D vwCl (wMo r cI cJ cZ (sWd σ) (sPp σ) (sNb σ) (sLs σ) (sWs σ) (sM σ) (sCs σ) (sCt σ) rs kn be lm lf pm pf nw th pg) s.heap := hP
  have hl : lv_has ls 3 [(0, .ref (r 0)), (1, .int (jI a)), (2, .int (jI b))] := hl
  have hinX4 : ∀ w ∈ u_ws RX4 TX4 18, w ∈ wsX4_isOver := by decide +kernel
  have hnb := hS0.1
  have hwd := hS0.2.1
  have hpp := hS0.2.2.1
  have hct := hS0.2.2.2.1
  have e3 := preB hS0 (a := a) (b := b + 1) (by omega) (by omega) (by omega)
  have e4 := preB hS0 (a := 0) (b := a) (by omega) (by omega) (by omega)
  rw [pre_0, pre_0] at e4
  have htl : tot (sLs σ) a b = pre (sLs σ) (b + 1) - pre (sLs σ) a := rfl
  have htw : tot (sWs σ) a b = pre (sWs σ) (b + 1) - pre (sWs σ) a := rfl
  refine lv_aload_n hx hb dX4_isOver_0 rfl (lv_at hl 0 rfl) ?_
  refine lv_aload_n hx hb dX4_isOver_1 rfl (lv_at hl 0 rfl) ?_
  refine va_get (D := D) (ci := 4) (v := .ref (r 1)) (C := RX4) (T := TX4) (N := 18) hx hb hts hinX4 hown hK hP 0 rfl rfl 3 (by decide) (hts (.fieldLink RX4 7 "BreakLinesModel" "leasts" "[I") (by decide +kernel)) (fun _ h9 => h9) rfl dX4_isOver_2 ?_
  refine lv_iload_n hx hb dX4_isOver_5 rfl (lv_at hl 1 rfl) ?_
  refine lv_iload_n hx hb dX4_isOver_6 rfl (lv_at hl 2 rfl) ?_
  refine j_cVI (As := [.ref (r 1), .int (jI a), .int (jI b)]) (rest := []) ⟨hx, hb, hml, hown, hts⟩ (kX4_total l D cI cJ cZ (r 0) (r 1) (sLs σ) a b (by omega)) (cwV 3 hts gX4_isOver_X4_total rfl rfl rfl (by decide +kernel) ⟨Nat.le_of_ble_eq_true rfl, Nat.le_of_ble_eq_true rfl⟩) hK (hP.sub [1] rfl) (va_recv hK hP (ci := 4) (q0 := 0) rfl rfl) rfl hl.1 rfl (Nat.le_of_ble_eq_true rfl) ⟨Nat.zero_le _, Nat.zero_le _⟩ dX4_isOver_7 ?_
  refine lv_aload_n hx hb dX4_isOver_10 rfl (lv_at hl 0 rfl) ?_
  refine va_get (D := D) (ci := 4) (v := .int (jI (sWd σ))) (C := RX4) (T := TX4) (N := 18) hx hb hts hinX4 hown hK hP 0 rfl rfl 0 (by decide) (hts (.fieldLink RX4 42 "BreakLinesModel" "width" "I") (by decide +kernel)) (fun _ h9 => h9) rfl dX4_isOver_11 ?_
  refine j_icmp_le (tgt := 21) hx hb (by unfold i32; omega) dX4_isOver_14 (by decide) (fun c14 => ?_) (fun c14 => ?_)
  · skip
    refine j_iconst hx hb dX4_isOver_21 ?_
    exact j_retZ hx hb hr (by decide) hlocks dX4_isOver_22 ((jZ_f (by omega)).symm)
  · skip
    refine j_iconst hx hb dX4_isOver_17 ?_
    refine lv_goto (tgt := 22) hx hb dX4_isOver_18 (by decide) ?_
    exact j_retZ hx hb hr (by decide) hlocks dX4_isOver_22 ((jZ_t (by omega)).symm)
set_option maxHeartbeats 4000000 in
set_option maxRecDepth 100000 in
theorem kX4_mayBe (l : Launch) (D : va_G) (cI cJ cZ : ClassId) (r : Nat → Nat) (σ : Sg) (hS0 : okS σ) (rs : Int → Int) (kn : Prop) (be lm : Int) (lf : Int → Int) (pm : Int) (pf nw th pg : Int → Int) (a b : Int) (h : 0 ≤ a ∧ a ≤ b ∧ b < sNb σ) : RoI l yX4_mayBe wsX4_mayBe 1 25 D (tyc cI cJ cZ) (wMo r cI cJ cZ (sWd σ) (sPp σ) (sNb σ) (sLs σ) (sWs σ) (sM σ) (sCs σ) (sCt σ) rs kn be lm lf pm pf nw th pg) [.ref (r 0), .int (jI a), .int (jI b)] (jZ (may σ a b)) := by
  refine j_start RX4 rfl (by decide) rfl (Nat.le_of_ble_eq_true rfl) ?_
  intro p e s m below meth c ls hx hb hr hlocks hml hown hts hnm hl ⟨hP, hK⟩
  have hP : va_P D vwCl (wMo r cI cJ cZ (sWd σ) (sPp σ) (sNb σ) (sLs σ) (sWs σ) (sM σ) (sCs σ) (sCt σ) rs kn be lm lf pm pf nw th pg) s.heap := hP
  have hl : lv_has ls 4 [(0, .ref (r 0)), (1, .int (jI a)), (2, .int (jI b))] := hl
  have hinX4 : ∀ w ∈ u_ws RX4 TX4 18, w ∈ wsX4_mayBe := by decide +kernel
  have hnb := hS0.1
  have hwd := hS0.2.1
  have hpp := hS0.2.2.1
  have hct := hS0.2.2.2.1
  have e3 := preB hS0 (a := a) (b := b + 1) (by omega) (by omega) (by omega)
  have e4 := preB hS0 (a := 0) (b := a) (by omega) (by omega) (by omega)
  rw [pre_0, pre_0] at e4
  have htl : tot (sLs σ) a b = pre (sLs σ) (b + 1) - pre (sLs σ) a := rfl
  have htw : tot (sWs σ) a b = pre (sWs σ) (b + 1) - pre (sWs σ) a := rfl
  refine lv_iload_n hx hb dX4_mayBe_0 rfl (lv_at hl 1 rfl) ?_
  refine lv_istore_n (lv' := [(3, .int (jI a)), (0, .ref (r 0)), (1, .int (jI a)), (2, .int (jI b))]) hx hb dX4_mayBe_1 rfl hl (by decide) rfl (fun ls hl => ?_)
  refine j_loop (α := Int × Array Slot) (h := fun _ => s.heap) (lc := fun _ => []) (f := fun z => match z with | (i, ls) => F0 m 2 ls []) (P := fun nn z => match z with | (i, ls) => ((a ≤ i ∧ i ≤ b) ∧ (∀ k, a ≤ k → k < i → sM σ (3 * k) = false)) ∧ (b - i).toNat < nn ∧ lv_has ls 4 [(0, .ref (r 0)), (1, .int (jI a)), (2, .int (jI b)), (3, .int (jI i))]) (fun z hz => ?_) ?_ ((b - a).toNat + 1) (a, ls) ⟨⟨by omega, fun k h1 h2 => by omega⟩, Nat.lt_succ_self _, lv_sub hl [1, 2, 3, 0] rfl⟩
  · obtain ⟨i, ls⟩ := z; exact absurd hz.2.1 (Nat.not_lt_zero _)
  intro n2 ih2 ⟨i, ls⟩ ⟨hi2, hm2, hl⟩
  have hl : lv_has ls 4 [(0, .ref (r 0)), (1, .int (jI a)), (2, .int (jI b)), (3, .int (jI i))] := hl
  show W p l e _ s m _ below meth c s.heap [] _ _ _ (F0 m 2 ls [])
  obtain ⟨hi1, hi2⟩ := hi2
  refine lv_iload_n hx hb dX4_mayBe_2 rfl (lv_at hl 3 rfl) ?_
  refine lv_iload_n hx hb dX4_mayBe_3 rfl (lv_at hl 2 rfl) ?_
  refine j_icmp_ge (tgt := 28) hx hb (by unfold i32; omega) dX4_mayBe_4 (by decide) (fun c4 => ?_) (fun c4 => ?_)
  · skip
    refine lv_aload_n hx hb dX4_mayBe_28 rfl (lv_at hl 0 rfl) ?_
    refine va_get (D := D) (ci := 4) (v := .ref (r 3)) (C := RX4) (T := TX4) (N := 18) hx hb hts hinX4 hown hK hP 0 rfl rfl 5 (by decide) (hts (.fieldLink RX4 16 "BreakLinesModel" "marks" "[Z") (by decide +kernel)) (fun _ h9 => h9) rfl dX4_mayBe_29 ?_
    refine j_iconst hx hb dX4_mayBe_32 ?_
    refine lv_iload_n hx hb dX4_mayBe_33 rfl (lv_at hl 2 rfl) ?_
    refine j_imul hx hb dX4_mayBe_34 ?_
    refine j_iconst hx hb dX4_mayBe_35 ?_
    refine j_iadd hx hb dX4_mayBe_36 ?_
    refine j_zald hx hb hK hP 3 2 rfl rfl (i := (3 * b) + 1) (by omega) (by decide) dX4_mayBe_37 ?_
    refine j_join (α := Prop) (P := fun ew => ew ↔ (sM σ (3 * b + 1) = false ∨ sM σ (3 * b) = true ∨ b = sNb σ - 1)) (f := fun ew => F0 m 69 ls [.int (jZ ew)]) ?_ (fun jn38 => ?_)
    · intro ew hvew
      refine lv_istore_n (lv' := [(3, .int (jZ ew)), (0, .ref (r 0)), (1, .int (jI a)), (2, .int (jI b))]) hx hb dX4_mayBe_69 rfl hl (by decide) rfl (fun ls hl => ?_)
      refine lv_iload_n hx hb dX4_mayBe_70 rfl (lv_at hl 0 rfl) ?_
      refine j_ifeqZ (tgt := 100) hx hb dX4_mayBe_71 (by decide) (fun c71 => ?_) (fun c71 => ?_)
      · skip
        refine j_iconst hx hb dX4_mayBe_100 ?_
        exact j_retZ hx hb hr (by decide) hlocks dX4_mayBe_101 ((jZ_f (fun z => by first | exact c71 (hvew.mpr z.2.1) | (rcases z.2.2 with w | w; exact c76 w; omega))).symm)
      · skip
        refine lv_iload_n hx hb dX4_mayBe_74 rfl (lv_at hl 2 rfl) ?_
        refine lv_iload_n hx hb dX4_mayBe_75 rfl (lv_at hl 3 rfl) ?_
        refine j_icmp_eq (tgt := 96) hx hb (by unfold i32; omega) dX4_mayBe_76 (by decide) (fun c76 => ?_) (fun c76 => ?_)
        · skip
          refine j_iconst hx hb dX4_mayBe_96 ?_
          refine lv_goto (tgt := 101) hx hb dX4_mayBe_97 (by decide) ?_
          exact j_retZ hx hb hr (by decide) hlocks dX4_mayBe_101 ((jZ_t ⟨fun k h1 h2 => hi2 k h1 (by omega), hvew.mp c71, by first | exact Or.inl c76 | exact Or.inr (by omega)⟩).symm)
        · skip
          refine lv_aload_n hx hb dX4_mayBe_79 rfl (lv_at hl 1 rfl) ?_
          refine lv_aload_n hx hb dX4_mayBe_80 rfl (lv_at hl 1 rfl) ?_
          refine va_get (D := D) (ci := 4) (v := .ref (r 1)) (C := RX4) (T := TX4) (N := 18) hx hb hts hinX4 hown hK hP 0 rfl rfl 3 (by decide) (hts (.fieldLink RX4 7 "BreakLinesModel" "leasts" "[I") (by decide +kernel)) (fun _ h9 => h9) rfl dX4_mayBe_81 ?_
          refine lv_iload_n hx hb dX4_mayBe_84 rfl (lv_at hl 2 rfl) ?_
          refine lv_iload_n hx hb dX4_mayBe_85 rfl (lv_at hl 3 rfl) ?_
          refine j_cVI (As := [.ref (r 1), .int (jI a), .int (jI b)]) (rest := []) ⟨hx, hb, hml, hown, hts⟩ (kX4_total l D cI cJ cZ (r 0) (r 1) (sLs σ) a b (by omega)) (cwV 3 hts gX4_mayBe_X4_total rfl rfl rfl (by decide +kernel) ⟨Nat.le_of_ble_eq_true rfl, Nat.le_of_ble_eq_true rfl⟩) hK (hP.sub [1] rfl) (va_recv hK hP (ci := 4) (q0 := 0) rfl rfl) rfl hl.1 rfl (Nat.le_of_ble_eq_true rfl) ⟨Nat.zero_le _, Nat.zero_le _⟩ dX4_mayBe_86 ?_
          refine lv_aload_n hx hb dX4_mayBe_89 rfl (lv_at hl 1 rfl) ?_
          refine va_get (D := D) (ci := 4) (v := .int (jI (sWd σ))) (C := RX4) (T := TX4) (N := 18) hx hb hts hinX4 hown hK hP 0 rfl rfl 0 (by decide) (hts (.fieldLink RX4 42 "BreakLinesModel" "width" "I") (by decide +kernel)) (fun _ h9 => h9) rfl dX4_mayBe_90 ?_
          refine j_icmp_gt (tgt := 100) hx hb (by unfold i32; omega) dX4_mayBe_93 (by decide) (fun c93 => ?_) (fun c93 => ?_)
          · skip
            refine j_iconst hx hb dX4_mayBe_100 ?_
            exact j_retZ hx hb hr (by decide) hlocks dX4_mayBe_101 ((jZ_f (fun z => by first | exact c71 (hvew.mpr z.2.1) | (rcases z.2.2 with w | w; exact c76 w; omega))).symm)
          · skip
            refine j_iconst hx hb dX4_mayBe_96 ?_
            refine lv_goto (tgt := 101) hx hb dX4_mayBe_97 (by decide) ?_
            exact j_retZ hx hb hr (by decide) hlocks dX4_mayBe_101 ((jZ_t ⟨fun k h1 h2 => hi2 k h1 (by omega), hvew.mp c71, by first | exact Or.inl c76 | exact Or.inr (by omega)⟩).symm)
    refine j_ifeqZ (tgt := 64) hx hb dX4_mayBe_38 (by decide) (fun c38 => ?_) (fun c38 => ?_)
    · skip
      refine j_iconst hx hb dX4_mayBe_64 ?_
      refine lv_goto (tgt := 69) hx hb dX4_mayBe_65 (by decide) ?_
      refine j_topi (y := jZ True) ((jZ_t trivial).symm) ?_
      exact jn38 True (by first | exact ⟨fun _ => Or.inl (by simpa using c38), fun _ => trivial⟩ | exact ⟨fun _ => Or.inr (Or.inl c51), fun _ => trivial⟩ | exact ⟨fun _ => Or.inr (Or.inr c61), fun _ => trivial⟩ | exact ⟨fun w => w.elim, fun w => by rcases w with w | w | w; exact absurd (w.symm.trans c38) (by decide); exact c51 w; exact c61 w⟩)
    · skip
      refine lv_aload_n hx hb dX4_mayBe_41 rfl (lv_at hl 0 rfl) ?_
      refine va_get (D := D) (ci := 4) (v := .ref (r 3)) (C := RX4) (T := TX4) (N := 18) hx hb hts hinX4 hown hK hP 0 rfl rfl 5 (by decide) (hts (.fieldLink RX4 16 "BreakLinesModel" "marks" "[Z") (by decide +kernel)) (fun _ h9 => h9) rfl dX4_mayBe_42 ?_
      refine j_iconst hx hb dX4_mayBe_45 ?_
      refine lv_iload_n hx hb dX4_mayBe_46 rfl (lv_at hl 2 rfl) ?_
      refine j_imul hx hb dX4_mayBe_47 ?_
      refine j_iconst hx hb dX4_mayBe_48 ?_
      refine j_iadd hx hb dX4_mayBe_49 ?_
      refine j_zald hx hb hK hP 3 2 rfl rfl (i := (3 * b) + 0) (by omega) (by decide) dX4_mayBe_50 ?_
      refine j_topi (y := (jZ (sM σ (3 * b) = true))) (by rw [Int.add_zero]) ?_
      refine j_ifneZ (tgt := 64) hx hb dX4_mayBe_51 (by decide) (fun c51 => ?_) (fun c51 => ?_)
      · skip
        refine j_iconst hx hb dX4_mayBe_64 ?_
        refine lv_goto (tgt := 69) hx hb dX4_mayBe_65 (by decide) ?_
        refine j_topi (y := jZ True) ((jZ_t trivial).symm) ?_
        exact jn38 True (by first | exact ⟨fun _ => Or.inl (by simpa using c38), fun _ => trivial⟩ | exact ⟨fun _ => Or.inr (Or.inl c51), fun _ => trivial⟩ | exact ⟨fun _ => Or.inr (Or.inr c61), fun _ => trivial⟩ | exact ⟨fun w => w.elim, fun w => by rcases w with w | w | w; exact absurd (w.symm.trans c38) (by decide); exact c51 w; exact c61 w⟩)
      · skip
        refine lv_iload_n hx hb dX4_mayBe_54 rfl (lv_at hl 2 rfl) ?_
        refine lv_aload_n hx hb dX4_mayBe_55 rfl (lv_at hl 0 rfl) ?_
        refine va_get (D := D) (ci := 4) (v := .int (jI (sNb σ))) (C := RX4) (T := TX4) (N := 18) hx hb hts hinX4 hown hK hP 0 rfl rfl 2 (by decide) (hts (.fieldLink RX4 57 "BreakLinesModel" "bars" "I") (by decide +kernel)) (fun _ h9 => h9) rfl dX4_mayBe_56 ?_
        refine j_iconst hx hb dX4_mayBe_59 ?_
        refine j_isub hx hb dX4_mayBe_60 ?_
        refine j_icmp_ne (tgt := 68) hx hb (by unfold i32; omega) dX4_mayBe_61 (by decide) (fun c61 => ?_) (fun c61 => ?_)
        · skip
          refine j_iconst hx hb dX4_mayBe_68 ?_
          refine j_topi (y := jZ False) ((jZ_f id).symm) ?_
          exact jn38 False (by first | exact ⟨fun _ => Or.inl (by simpa using c38), fun _ => trivial⟩ | exact ⟨fun _ => Or.inr (Or.inl c51), fun _ => trivial⟩ | exact ⟨fun _ => Or.inr (Or.inr c61), fun _ => trivial⟩ | exact ⟨fun w => w.elim, fun w => by rcases w with w | w | w; exact absurd (w.symm.trans c38) (by decide); exact c51 w; exact c61 w⟩)
        · skip
          refine j_iconst hx hb dX4_mayBe_64 ?_
          refine lv_goto (tgt := 69) hx hb dX4_mayBe_65 (by decide) ?_
          refine j_topi (y := jZ True) ((jZ_t trivial).symm) ?_
          exact jn38 True (by first | exact ⟨fun _ => Or.inl (by simpa using c38), fun _ => trivial⟩ | exact ⟨fun _ => Or.inr (Or.inl c51), fun _ => trivial⟩ | exact ⟨fun _ => Or.inr (Or.inr c61), fun _ => trivial⟩ | exact ⟨fun w => w.elim, fun w => by rcases w with w | w | w; exact absurd (w.symm.trans c38) (by decide); exact c51 w; exact c61 w⟩)
  · skip
    refine lv_aload_n hx hb dX4_mayBe_7 rfl (lv_at hl 0 rfl) ?_
    refine va_get (D := D) (ci := 4) (v := .ref (r 3)) (C := RX4) (T := TX4) (N := 18) hx hb hts hinX4 hown hK hP 0 rfl rfl 5 (by decide) (hts (.fieldLink RX4 16 "BreakLinesModel" "marks" "[Z") (by decide +kernel)) (fun _ h9 => h9) rfl dX4_mayBe_8 ?_
    refine j_iconst hx hb dX4_mayBe_11 ?_
    refine lv_iload_n hx hb dX4_mayBe_12 rfl (lv_at hl 3 rfl) ?_
    refine j_imul hx hb dX4_mayBe_13 ?_
    refine j_iconst hx hb dX4_mayBe_14 ?_
    refine j_iadd hx hb dX4_mayBe_15 ?_
    refine j_zald hx hb hK hP 3 2 rfl rfl (i := (3 * i) + 0) (by omega) (by decide) dX4_mayBe_16 ?_
    refine j_topi (y := (jZ (sM σ (3 * i) = true))) (by rw [Int.add_zero]) ?_
    refine j_ifeqZ (tgt := 22) hx hb dX4_mayBe_17 (by decide) (fun c17 => ?_) (fun c17 => ?_)
    · skip
      refine lv_iinc (v := jI (i + 1)) (lv' := [(3, .int (jI (i + 1))), (0, .ref (r 0)), (1, .int (jI a)), (2, .int (jI b))]) hx hb dX4_mayBe_22 hl (k := 3) rfl (jI_add _ _) (by decide) rfl (fun ls hl => ?_)
      refine lv_goto (tgt := 2) hx hb dX4_mayBe_25 (by decide) ?_
      exact ih2 (i + 1, ls) ⟨⟨by omega, fun k h1 h2 => by
          by_cases w : k = i
          · rw [w]; simpa using c17
          · exact hi2 k h1 (by omega)⟩, by omega, lv_sub hl [1, 2, 3, 0] rfl⟩
    · skip
      refine j_iconst hx hb dX4_mayBe_20 ?_
      exact j_retZ hx hb hr (by decide) hlocks dX4_mayBe_21 ((jZ_f (fun z => absurd ((z.1 i hi1.1 c4).symm.trans c17) (by decide))).symm)
set_option maxHeartbeats 4000000 in
set_option maxRecDepth 100000 in
theorem kX4_costOf (l : Launch) (D : va_G) (cI cJ cZ : ClassId) (r : Nat → Nat) (σ : Sg) (hS0 : okS σ) (rs : Int → Int) (kn : Prop) (be lm : Int) (lf : Int → Int) (pm : Int) (pf nw th pg : Int → Int) (a b : Int) (h : 0 ≤ a ∧ a ≤ b ∧ b < sNb σ) : RoL l yX4_costOf wsX4_costOf 2 47 D (tyc cI cJ cZ) (wMo r cI cJ cZ (sWd σ) (sPp σ) (sNb σ) (sLs σ) (sWs σ) (sM σ) (sCs σ) (sCt σ) rs kn be lm lf pm pf nw th pg) [.ref (r 0), .int (jI a), .int (jI b)] (jL (cst σ a b)) := by
  refine j_start RX4 rfl (by decide) rfl (Nat.le_of_ble_eq_true rfl) ?_
  intro p e s m below meth c ls hx hb hr hlocks hml hown hts hnm hl ⟨hP, hK⟩
  have hP : va_P D vwCl (wMo r cI cJ cZ (sWd σ) (sPp σ) (sNb σ) (sLs σ) (sWs σ) (sM σ) (sCs σ) (sCt σ) rs kn be lm lf pm pf nw th pg) s.heap := hP
  have hl : lv_has ls 5 [(0, .ref (r 0)), (1, .int (jI a)), (2, .int (jI b))] := hl
  have hinX4 : ∀ w ∈ u_ws RX4 TX4 18, w ∈ wsX4_costOf := by decide +kernel
  have hnb := hS0.1
  have hwd := hS0.2.1
  have hpp := hS0.2.2.1
  have hct := hS0.2.2.2.1
  have e3 := preB hS0 (a := a) (b := b + 1) (by omega) (by omega) (by omega)
  have e4 := preB hS0 (a := 0) (b := a) (by omega) (by omega) (by omega)
  rw [pre_0, pre_0] at e4
  have htl : tot (sLs σ) a b = pre (sLs σ) (b + 1) - pre (sLs σ) a := rfl
  have htw : tot (sWs σ) a b = pre (sWs σ) (b + 1) - pre (sWs σ) a := rfl
  have c0 := hS0.2.2.2.2.1 0 (by omega) (by omega)
  have c3 := hS0.2.2.2.2.1 3 (by omega) (by omega)
  have c4 := hS0.2.2.2.2.1 4 (by omega) (by omega)
  have hdd : dd σ a b = sWd σ - (pre (sWs σ) (b + 1) - pre (sWs σ) a) := rfl
  refine lv_aload_n hx hb dX4_costOf_0 rfl (lv_at hl 0 rfl) ?_
  refine lv_iload_n hx hb dX4_costOf_1 rfl (lv_at hl 1 rfl) ?_
  refine lv_iload_n hx hb dX4_costOf_2 rfl (lv_at hl 2 rfl) ?_
  refine j_cVI (As := [.int (jI a), .int (jI b)]) (rest := []) ⟨hx, hb, hml, hown, hts⟩ (kX4_off l D cI cJ cZ r σ hS0 rs kn be lm lf pm pf nw th pg a b (by omega)) (cwV 2 hts gX4_costOf_X4_off rfl rfl rfl (by decide +kernel) ⟨Nat.le_of_ble_eq_true rfl, Nat.le_of_ble_eq_true rfl⟩) hK hP (va_recv hK hP (ci := 4) (q0 := 0) rfl rfl) rfl hl.1 rfl (Nat.le_of_ble_eq_true rfl) ⟨Nat.zero_le _, Nat.zero_le _⟩ dX4_costOf_3 ?_
  refine j_i2l hx hb (by unfold i32; omega) dX4_costOf_6 ?_
  refine lv_lstore_n (lv' := [(3, .long (jL (dd σ a b))), (0, .ref (r 0)), (1, .int (jI a)), (2, .int (jI b))]) hx hb dX4_costOf_7 rfl hl (by decide) rfl (fun ls hl => ?_)
  refine lv_aload_n hx hb dX4_costOf_8 rfl (lv_at hl 1 rfl) ?_
  refine lv_iload_n hx hb dX4_costOf_9 rfl (lv_at hl 2 rfl) ?_
  refine lv_iload_n hx hb dX4_costOf_10 rfl (lv_at hl 3 rfl) ?_
  refine j_cVI (As := [.int (jI a), .int (jI b)]) (rest := []) ⟨hx, hb, hml, hown, hts⟩ (kX4_isOver l D cI cJ cZ r σ hS0 rs kn be lm lf pm pf nw th pg a b (by omega)) (cwV 2 hts gX4_costOf_X4_isOver rfl rfl rfl (by decide +kernel) ⟨Nat.le_of_ble_eq_true rfl, Nat.le_of_ble_eq_true rfl⟩) hK hP (va_recv hK hP (ci := 4) (q0 := 0) rfl rfl) rfl hl.1 rfl (Nat.le_of_ble_eq_true rfl) ⟨Nat.zero_le _, Nat.zero_le _⟩ dX4_costOf_11 ?_
  refine j_ifeqZ (tgt := 24) hx hb dX4_costOf_14 (by decide) (fun c14 => ?_) (fun c14 => ?_)
  · skip
    refine lv_lload_n hx hb dX4_costOf_24 rfl (lv_at hl 0 rfl) ?_
    refine j_lconst0 hx hb dX4_costOf_25 ?_
    refine j_lcmp_ge (tgt := 43) hx hb (by unfold i64; omega) dX4_costOf_26 dX4_costOf_27 (by decide) (fun c26 => ?_) (fun c26 => ?_)
    · skip
      refine lv_iload_n hx hb dX4_costOf_43 rfl (lv_at hl 3 rfl) ?_
      refine lv_aload_n hx hb dX4_costOf_44 rfl (lv_at hl 1 rfl) ?_
      refine va_get (D := D) (ci := 4) (v := .int (jI (sNb σ))) (C := RX4) (T := TX4) (N := 18) hx hb hts hinX4 hown hK hP 0 rfl rfl 2 (by decide) (hts (.fieldLink RX4 57 "BreakLinesModel" "bars" "I") (by decide +kernel)) (fun _ h9 => h9) rfl dX4_costOf_45 ?_
      refine j_iconst hx hb dX4_costOf_48 ?_
      refine j_isub hx hb dX4_costOf_49 ?_
      refine j_icmp_ne (tgt := 57) hx hb (by unfold i32; omega) dX4_costOf_50 (by decide) (fun c50 => ?_) (fun c50 => ?_)
      · skip
        refine lv_aload_n hx hb dX4_costOf_57 rfl (lv_at hl 1 rfl) ?_
        refine va_get (D := D) (ci := 4) (v := .ref (r 4)) (C := RX4) (T := TX4) (N := 18) hx hb hts hinX4 hown hK hP 0 rfl rfl 6 (by decide) (hts (.fieldLink RX4 20 "BreakLinesModel" "costs" "[J") (by decide +kernel)) (fun _ h9 => h9) rfl dX4_costOf_58 ?_
        refine j_iconst hx hb dX4_costOf_61 ?_
        refine j_lald hx hb hK hP 4 1 rfl rfl (i := 4) (by omega) (by decide) dX4_costOf_62 ?_
        refine lv_lload_n hx hb dX4_costOf_63 rfl (lv_at hl 0 rfl) ?_
        refine j_lmul hx hb dX4_costOf_64 ?_
        refine lv_lload_n hx hb dX4_costOf_65 rfl (lv_at hl 0 rfl) ?_
        refine j_lmul hx hb dX4_costOf_66 ?_
        exact j_retL hx hb hr hlocks dX4_costOf_67 (congrArg jL (by unfold cst; rw [if_neg c14, if_neg (by omega), if_neg c50]))
      · skip
        refine j_lconst0 hx hb dX4_costOf_53 ?_
        refine lv_goto (tgt := 67) hx hb dX4_costOf_54 (by decide) ?_
        exact j_retL hx hb hr hlocks dX4_costOf_67 (congrArg jL (by unfold cst; rw [if_neg c14, if_neg (by omega), if_pos c50]))
    · skip
      refine lv_aload_n hx hb dX4_costOf_30 rfl (lv_at hl 1 rfl) ?_
      refine va_get (D := D) (ci := 4) (v := .ref (r 4)) (C := RX4) (T := TX4) (N := 18) hx hb hts hinX4 hown hK hP 0 rfl rfl 6 (by decide) (hts (.fieldLink RX4 20 "BreakLinesModel" "costs" "[J") (by decide +kernel)) (fun _ h9 => h9) rfl dX4_costOf_31 ?_
      refine j_iconst hx hb dX4_costOf_34 ?_
      refine j_lald hx hb hK hP 4 1 rfl rfl (i := 0) (by omega) (by decide) dX4_costOf_35 ?_
      refine lv_lload_n hx hb dX4_costOf_36 rfl (lv_at hl 0 rfl) ?_
      refine j_lmul hx hb dX4_costOf_37 ?_
      refine lv_lload_n hx hb dX4_costOf_38 rfl (lv_at hl 0 rfl) ?_
      refine j_lmul hx hb dX4_costOf_39 ?_
      refine lv_goto (tgt := 67) hx hb dX4_costOf_40 (by decide) ?_
      exact j_retL hx hb hr hlocks dX4_costOf_67 (congrArg jL (by unfold cst; rw [if_neg c14, if_pos c26]))
  · skip
    refine lv_aload_n hx hb dX4_costOf_17 rfl (lv_at hl 1 rfl) ?_
    refine va_get (D := D) (ci := 4) (v := .ref (r 4)) (C := RX4) (T := TX4) (N := 18) hx hb hts hinX4 hown hK hP 0 rfl rfl 6 (by decide) (hts (.fieldLink RX4 20 "BreakLinesModel" "costs" "[J") (by decide +kernel)) (fun _ h9 => h9) rfl dX4_costOf_18 ?_
    refine j_iconst hx hb dX4_costOf_21 ?_
    refine j_lald hx hb hK hP 4 1 rfl rfl (i := 3) (by omega) (by decide) dX4_costOf_22 ?_
    exact j_retL hx hb hr hlocks dX4_costOf_23 (congrArg jL (by unfold cst; rw [if_pos c14]))
set_option maxHeartbeats 4000000 in
set_option maxRecDepth 100000 in
theorem kX4_turnAt (l : Launch) (D : va_G) (cI cJ cZ : ClassId) (r : Nat → Nat) (σ : Sg) (hS0 : okS σ) (rs : Int → Int) (kn : Prop) (be lm : Int) (lf : Int → Int) (pm : Int) (pf nw th pg : Int → Int) (i : Int) (h : 1 ≤ i ∧ i ≤ sNb σ) : RoL l yX4_turnAt wsX4_turnAt 0 0 D (tyc cI cJ cZ) (wMo r cI cJ cZ (sWd σ) (sPp σ) (sNb σ) (sLs σ) (sWs σ) (sM σ) (sCs σ) (sCt σ) rs kn be lm lf pm pf nw th pg) [.ref (r 0), .int (jI i)] (jL (trn σ (i - 1))) := by
  refine j_start RX4 rfl (by decide) rfl (Nat.le_of_ble_eq_true rfl) ?_
  intro p e s m below meth c ls hx hb hr hlocks hml hown hts hnm hl ⟨hP, hK⟩
  have hP : va_P D vwCl (wMo r cI cJ cZ (sWd σ) (sPp σ) (sNb σ) (sLs σ) (sWs σ) (sM σ) (sCs σ) (sCt σ) rs kn be lm lf pm pf nw th pg) s.heap := hP
  have hl : lv_has ls 2 [(0, .ref (r 0)), (1, .int (jI i))] := hl
  have hinX4 : ∀ w ∈ u_ws RX4 TX4 18, w ∈ wsX4_turnAt := by decide +kernel
  have hnb := hS0.1
  have hwd := hS0.2.1
  have hpp := hS0.2.2.1
  have hct := hS0.2.2.2.1
  refine lv_aload_n hx hb dX4_turnAt_0 rfl (lv_at hl 0 rfl) ?_
  refine va_get (D := D) (ci := 4) (v := .ref (r 3)) (C := RX4) (T := TX4) (N := 18) hx hb hts hinX4 hown hK hP 0 rfl rfl 5 (by decide) (hts (.fieldLink RX4 16 "BreakLinesModel" "marks" "[Z") (by decide +kernel)) (fun _ h9 => h9) rfl dX4_turnAt_1 ?_
  refine j_iconst hx hb dX4_turnAt_4 ?_
  refine lv_iload_n hx hb dX4_turnAt_5 rfl (lv_at hl 1 rfl) ?_
  refine j_iconst hx hb dX4_turnAt_6 ?_
  refine j_isub hx hb dX4_turnAt_7 ?_
  refine j_imul hx hb dX4_turnAt_8 ?_
  refine j_iconst hx hb dX4_turnAt_9 ?_
  refine j_iadd hx hb dX4_turnAt_10 ?_
  refine j_zald hx hb hK hP 3 2 rfl rfl (i := (3 * (i - 1)) + 2) (by omega) (by decide) dX4_turnAt_11 ?_
  refine j_ifeqZ (tgt := 19) hx hb dX4_turnAt_12 (by decide) (fun c12 => ?_) (fun c12 => ?_)
  · skip
    refine lv_aload_n hx hb dX4_turnAt_19 rfl (lv_at hl 0 rfl) ?_
    refine va_get (D := D) (ci := 4) (v := .ref (r 4)) (C := RX4) (T := TX4) (N := 18) hx hb hts hinX4 hown hK hP 0 rfl rfl 6 (by decide) (hts (.fieldLink RX4 20 "BreakLinesModel" "costs" "[J") (by decide +kernel)) (fun _ h9 => h9) rfl dX4_turnAt_20 ?_
    refine j_iconst hx hb dX4_turnAt_23 ?_
    refine j_lald hx hb hK hP 4 1 rfl rfl (i := 1) (by omega) (by decide) dX4_turnAt_24 ?_
    exact j_retL hx hb hr hlocks dX4_turnAt_25 (congrArg jL (by unfold trn; rw [if_neg c12]))
  · skip
    refine j_lconst0 hx hb dX4_turnAt_15 ?_
    refine lv_goto (tgt := 25) hx hb dX4_turnAt_16 (by decide) ?_
    exact j_retL hx hb hr hlocks dX4_turnAt_25 (congrArg jL (by unfold trn; rw [if_pos c12]))
set_option maxHeartbeats 4000000 in
set_option maxRecDepth 100000 in
theorem kX4_bar (l : Launch) (D : va_G) (cI cJ cZ : ClassId) (r : Nat → Nat) (σ : Sg) (hS0 : okS σ) (rs : Int → Int) (kn : Prop) (be lm : Int) (lf : Int → Int) (pm : Int) (pf nw th pg : Int → Int) (hI : kn → mOK σ be lm lf pm pf) (x y : Int) (hi : i32 x ∧ i32 y) : MuI l yX4_bar wsX4_bar 2 43 D (tyc cI cJ cZ) (wMo r cI cJ cZ (sWd σ) (sPp σ) (sNb σ) (sLs σ) (sWs σ) (sM σ) (sCs σ) (sCt σ) rs kn be lm lf pm pf nw th pg) [.ref (r 0), .int (jI x), .int (jI y)] (fun (r : Int32) (u : MU) => r = jI (barR σ x y) ∧ mInv u ∧ u.1 = barS σ x y) (fun u => wMU r cI cJ cZ u) := by
  intro sz
  refine j_start RX4 rfl (by decide) rfl (Nat.le_of_ble_eq_true rfl) ?_
  intro p e s m below meth c ls hx hb hr hlocks hml hown hts hnm hl ⟨hsz, hP, hK, hD0⟩
  subst hsz
  have hD := hD0.self (sz := s.heap.size)
  generalize hAe : va_A (wMo r cI cJ cZ (sWd σ) (sPp σ) (sNb σ) (sLs σ) (sWs σ) (sM σ) (sCs σ) (sCt σ) rs kn be lm lf pm pf nw th pg) s.heap.size = A at hD ⊢
  have hA : ∀ q : Nat, s.heap.size ≤ q → A q := fun q h => by rw [← hAe]; exact Or.inr h
  refine j_gen (fun H locs hHe hLe => ?_)
  have hS : va_S A s.heap H locs := by rw [hHe, hLe]; exact va_S.rf
  have hP : va_P D vwCl (wMo r cI cJ cZ (sWd σ) (sPp σ) (sNb σ) (sLs σ) (sWs σ) (sM σ) (sCs σ) (sCt σ) rs kn be lm lf pm pf nw th pg) H := by rw [hHe]; exact hP
  have hD : va_D A (wMo r cI cJ cZ (sWd σ) (sPp σ) (sNb σ) (sLs σ) (sWs σ) (sM σ) (sCs σ) (sCt σ) rs kn be lm lf pm pf nw th pg) := hD
  have hl : lv_has ls 3 [(0, .ref (r 0)), (1, .int (jI x)), (2, .int (jI y))] := hl
  have hinX4 : ∀ w ∈ u_ws RX4 TX4 18, w ∈ wsX4_bar := by decide +kernel
  have hnb := hS0.1
  have hwd := hS0.2.1
  have hpp := hS0.2.2.1
  have hct := hS0.2.2.2.1
  unfold i32 at hi
  refine lv_iload_n hx hb dX4_bar_0 rfl (lv_at hl 1 rfl) ?_
  refine lv_iload_n hx hb dX4_bar_1 rfl (lv_at hl 2 rfl) ?_
  refine j_cSI (As := [.int (jI x), .int (jI y)]) (rest := []) ⟨hx, hb, hml, hown, hts⟩ (kX4_areWidths l D cI cJ cZ x y (by unfold i32; omega)) (va_cwS 2 hts gX4_bar_X4_areWidths rfl rfl rfl (by decide +kernel) ⟨Nat.le_of_ble_eq_true rfl, Nat.le_of_ble_eq_true rfl⟩) hK (hP.sub [] rfl) rfl hl.1 rfl (Nat.le_of_ble_eq_true rfl) ⟨Nat.zero_le _, Nat.zero_le _⟩ dX4_bar_2 ?_
  refine j_ifneZ (tgt := 11) hx hb dX4_bar_5 (by decide) (fun c5 => ?_) (fun c5 => ?_)
  · skip
    refine lv_aload_n hx hb dX4_bar_11 rfl (lv_at hl 0 rfl) ?_
    refine va_get (D := D) (ci := 4) (v := .int (jI (sNb σ))) (C := RX4) (T := TX4) (N := 18) hx hb hts hinX4 hown hK hP 0 rfl rfl 2 (by decide) (hts (.fieldLink RX4 57 "BreakLinesModel" "bars" "I") (by decide +kernel)) (fun _ h9 => h9) rfl dX4_bar_12 ?_
    refine j_bipush hx hb dX4_bar_15 (by decide) ?_
    refine j_icmp_ne (tgt := 23) hx hb (by unfold i32; omega) dX4_bar_17 (by decide) (fun c17 => ?_) (fun c17 => ?_)
    · skip
      refine lv_aload_n hx hb dX4_bar_23 rfl (lv_at hl 0 rfl) ?_
      refine va_get (D := D) (ci := 4) (v := .ref (r 1)) (C := RX4) (T := TX4) (N := 18) hx hb hts hinX4 hown hK hP 0 rfl rfl 3 (by decide) (hts (.fieldLink RX4 7 "BreakLinesModel" "leasts" "[I") (by decide +kernel)) (fun _ h9 => h9) rfl dX4_bar_24 ?_
      refine lv_aload_n hx hb dX4_bar_27 rfl (lv_at hl 0 rfl) ?_
      refine va_get (D := D) (ci := 4) (v := .int (jI (sNb σ))) (C := RX4) (T := TX4) (N := 18) hx hb hts hinX4 hown hK hP 0 rfl rfl 2 (by decide) (hts (.fieldLink RX4 57 "BreakLinesModel" "bars" "I") (by decide +kernel)) (fun _ h9 => h9) rfl dX4_bar_28 ?_
      refine lv_iload_n hx hb dX4_bar_31 rfl (lv_at hl 1 rfl) ?_
      refine j_iast hx hb hK hP hD hS 1 0 rfl rfl (i := sNb σ) (by omega) (by decide) dX4_bar_32 (fun H locs hP hD hS => ?_)
      have hP : va_P D vwCl (wMo r cI cJ cZ (sWd σ) (sPp σ) (sNb σ) (updI (sLs σ) (sNb σ) x) (sWs σ) (sM σ) (sCs σ) (sCt σ) rs kn be lm lf pm pf nw th pg) H := hP
      have hD : va_D A (wMo r cI cJ cZ (sWd σ) (sPp σ) (sNb σ) (updI (sLs σ) (sNb σ) x) (sWs σ) (sM σ) (sCs σ) (sCt σ) rs kn be lm lf pm pf nw th pg) := hD
      refine lv_aload_n hx hb dX4_bar_33 rfl (lv_at hl 0 rfl) ?_
      refine va_get (D := D) (ci := 4) (v := .ref (r 2)) (C := RX4) (T := TX4) (N := 18) hx hb hts hinX4 hown hK hP 0 rfl rfl 4 (by decide) (hts (.fieldLink RX4 13 "BreakLinesModel" "wishes" "[I") (by decide +kernel)) (fun _ h9 => h9) rfl dX4_bar_34 ?_
      refine lv_aload_n hx hb dX4_bar_37 rfl (lv_at hl 0 rfl) ?_
      refine va_get (D := D) (ci := 4) (v := .int (jI (sNb σ))) (C := RX4) (T := TX4) (N := 18) hx hb hts hinX4 hown hK hP 0 rfl rfl 2 (by decide) (hts (.fieldLink RX4 57 "BreakLinesModel" "bars" "I") (by decide +kernel)) (fun _ h9 => h9) rfl dX4_bar_38 ?_
      refine lv_iload_n hx hb dX4_bar_41 rfl (lv_at hl 2 rfl) ?_
      refine j_iast hx hb hK hP hD hS 2 0 rfl rfl (i := sNb σ) (by omega) (by decide) dX4_bar_42 (fun H locs hP hD hS => ?_)
      have hP : va_P D vwCl (wMo r cI cJ cZ (sWd σ) (sPp σ) (sNb σ) (updI (sLs σ) (sNb σ) x) (updI (sWs σ) (sNb σ) y) (sM σ) (sCs σ) (sCt σ) rs kn be lm lf pm pf nw th pg) H := hP
      have hD : va_D A (wMo r cI cJ cZ (sWd σ) (sPp σ) (sNb σ) (updI (sLs σ) (sNb σ) x) (updI (sWs σ) (sNb σ) y) (sM σ) (sCs σ) (sCt σ) rs kn be lm lf pm pf nw th pg) := hD
      refine lv_aload_n hx hb dX4_bar_43 rfl (lv_at hl 0 rfl) ?_
      refine lv_dup hx hb dX4_bar_44 rfl ?_
      refine va_get (D := D) (ci := 4) (v := .int (jI (sNb σ))) (C := RX4) (T := TX4) (N := 18) hx hb hts hinX4 hown hK hP 0 rfl rfl 2 (by decide) (hts (.fieldLink RX4 57 "BreakLinesModel" "bars" "I") (by decide +kernel)) (fun _ h9 => h9) rfl dX4_bar_45 ?_
      refine j_iconst hx hb dX4_bar_48 ?_
      refine j_iadd hx hb dX4_bar_49 ?_
      refine va_put (D := D) (ci := 4) (v := .int (jI ((sNb σ) + 1))) (ty := .int) (C := RX4) (T := TX4) (N := 18) hx hb hts hinX4 tyX4 tyX4_ok nmX4 hown hK hP hD hS 0 rfl rfl 2 (by decide) (hts (.fieldLink RX4 57 "BreakLinesModel" "bars" "I") (by decide +kernel)) (fun _ h9 => h9) rfl (by decide +kernel) rfl rfl (Nat.le_of_ble_eq_true rfl) dX4_bar_50 (fun H locs hP hD hS => ?_)
      have hP : va_P D vwCl (wMo r cI cJ cZ (sWd σ) (sPp σ) ((sNb σ) + 1) (updI (sLs σ) (sNb σ) x) (updI (sWs σ) (sNb σ) y) (sM σ) (sCs σ) (sCt σ) rs kn be lm lf pm pf nw th pg) H := hP
      have hD : va_D A (wMo r cI cJ cZ (sWd σ) (sPp σ) ((sNb σ) + 1) (updI (sLs σ) (sNb σ) x) (updI (sWs σ) (sNb σ) y) (sM σ) (sCs σ) (sCt σ) rs kn be lm lf pm pf nw th pg) := hD
      refine lv_aload_n hx hb dX4_bar_53 rfl (lv_at hl 0 rfl) ?_
      refine j_iconst hx hb dX4_bar_54 ?_
      refine j_topi (y := jZ False) ((jZ_f id).symm) ?_
      refine va_put (D := D) (ci := 4) (v := .int (jZ False)) (ty := .boolean) (C := RX4) (T := TX4) (N := 18) hx hb hts hinX4 tyX4 tyX4_ok nmX4 hown hK hP hD hS 0 rfl rfl 9 (by decide) (hts (.fieldLink RX4 68 "BreakLinesModel" "known" "Z") (by decide +kernel)) (fun _ h9 => h9) rfl (by decide +kernel) (jZ_narrow _) (jZ_fits _) (Nat.le_of_ble_eq_true rfl) dX4_bar_55 (fun H locs hP hD hS => ?_)
      have hP : va_P D vwCl (wMo r cI cJ cZ (sWd σ) (sPp σ) ((sNb σ) + 1) (updI (sLs σ) (sNb σ) x) (updI (sWs σ) (sNb σ) y) (sM σ) (sCs σ) (sCt σ) rs False be lm lf pm pf nw th pg) H := hP
      have hD : va_D A (wMo r cI cJ cZ (sWd σ) (sPp σ) ((sNb σ) + 1) (updI (sLs σ) (sNb σ) x) (updI (sWs σ) (sNb σ) y) (sM σ) (sCs σ) (sCt σ) rs False be lm lf pm pf nw th pg) := hD
      refine lv_aload_n hx hb dX4_bar_58 rfl (lv_at hl 0 rfl) ?_
      refine va_get (D := D) (ci := 4) (v := .int (jI ((sNb σ) + 1))) (C := RX4) (T := TX4) (N := 18) hx hb hts hinX4 hown hK hP 0 rfl rfl 2 (by decide) (hts (.fieldLink RX4 57 "BreakLinesModel" "bars" "I") (by decide +kernel)) (fun _ h9 => h9) rfl dX4_bar_59 ?_
      refine j_iconst hx hb dX4_bar_62 ?_
      refine j_isub hx hb dX4_bar_63 ?_
      exact j_mretI hx hb hr hlocks hS dX4_bar_64 (upBar σ x y, rs, False, be, lm, lf, pm, pf, nw, th, pg) ⟨congrArg jI (by unfold barR; rw [if_pos c5, if_pos (by omega)]; omega), ⟨okS_bar hS0 c5 (by omega), fun w => w.elim⟩, (by unfold barS; rw [if_pos c5, if_pos (by omega)])⟩ hP
    · skip
      refine j_bipush hx hb dX4_bar_20 (by decide) ?_
      exact j_mretI hx hb hr hlocks hS dX4_bar_22 (σ, rs, kn, be, lm, lf, pm, pf, nw, th, pg) ⟨(congrArg jI (by unfold barR; rw [if_pos c5, if_neg (by omega)])), ⟨hS0, hI⟩, (by unfold barS; rw [if_pos c5, if_neg (by omega)])⟩ hP
  · skip
    refine j_bipush hx hb dX4_bar_8 (by decide) ?_
    exact j_mretI hx hb hr hlocks hS dX4_bar_10 (σ, rs, kn, be, lm, lf, pm, pf, nw, th, pg) ⟨(congrArg jI (by unfold barR; rw [if_neg c5])), ⟨hS0, hI⟩, (by unfold barS; rw [if_neg c5])⟩ hP
set_option maxHeartbeats 4000000 in
set_option maxRecDepth 100000 in
theorem kX4_change (l : Launch) (D : va_G) (cI cJ cZ : ClassId) (r : Nat → Nat) (σ : Sg) (hS0 : okS σ) (rs : Int → Int) (kn : Prop) (be lm : Int) (lf : Int → Int) (pm : Int) (pf nw th pg : Int → Int) (hI : kn → mOK σ be lm lf pm pf) (a x y : Int) (hi : i32 a ∧ i32 x ∧ i32 y) : MuI l yX4_change wsX4_change 2 43 D (tyc cI cJ cZ) (wMo r cI cJ cZ (sWd σ) (sPp σ) (sNb σ) (sLs σ) (sWs σ) (sM σ) (sCs σ) (sCt σ) rs kn be lm lf pm pf nw th pg) [.ref (r 0), .int (jI a), .int (jI x), .int (jI y)] (fun (r : Int32) (u : MU) => r = jI (chgR σ a x y) ∧ mInv u ∧ u.1 = chgS σ a x y) (fun u => wMU r cI cJ cZ u) := by
  intro sz
  refine j_start RX4 rfl (by decide) rfl (Nat.le_of_ble_eq_true rfl) ?_
  intro p e s m below meth c ls hx hb hr hlocks hml hown hts hnm hl ⟨hsz, hP, hK, hD0⟩
  subst hsz
  have hD := hD0.self (sz := s.heap.size)
  generalize hAe : va_A (wMo r cI cJ cZ (sWd σ) (sPp σ) (sNb σ) (sLs σ) (sWs σ) (sM σ) (sCs σ) (sCt σ) rs kn be lm lf pm pf nw th pg) s.heap.size = A at hD ⊢
  have hA : ∀ q : Nat, s.heap.size ≤ q → A q := fun q h => by rw [← hAe]; exact Or.inr h
  refine j_gen (fun H locs hHe hLe => ?_)
  have hS : va_S A s.heap H locs := by rw [hHe, hLe]; exact va_S.rf
  have hP : va_P D vwCl (wMo r cI cJ cZ (sWd σ) (sPp σ) (sNb σ) (sLs σ) (sWs σ) (sM σ) (sCs σ) (sCt σ) rs kn be lm lf pm pf nw th pg) H := by rw [hHe]; exact hP
  have hD : va_D A (wMo r cI cJ cZ (sWd σ) (sPp σ) (sNb σ) (sLs σ) (sWs σ) (sM σ) (sCs σ) (sCt σ) rs kn be lm lf pm pf nw th pg) := hD
  have hl : lv_has ls 4 [(0, .ref (r 0)), (1, .int (jI a)), (2, .int (jI x)), (3, .int (jI y))] := hl
  have hinX4 : ∀ w ∈ u_ws RX4 TX4 18, w ∈ wsX4_change := by decide +kernel
  have hnb := hS0.1
  have hwd := hS0.2.1
  have hpp := hS0.2.2.1
  have hct := hS0.2.2.2.1
  unfold i32 at hi
  refine lv_aload_n hx hb dX4_change_0 rfl (lv_at hl 0 rfl) ?_
  refine lv_iload_n hx hb dX4_change_1 rfl (lv_at hl 1 rfl) ?_
  refine j_cVI (As := [.int (jI a)]) (rest := []) ⟨hx, hb, hml, hown, hts⟩ (kX4_isBar l D cI cJ cZ r σ hS0 rs kn be lm lf pm pf nw th pg a (by unfold i32; omega)) (cwV 1 hts gX4_change_X4_isBar rfl rfl rfl (by decide +kernel) ⟨Nat.le_of_ble_eq_true rfl, Nat.le_of_ble_eq_true rfl⟩) hK hP (va_recv hK hP (ci := 4) (q0 := 0) rfl rfl) rfl hl.1 rfl (Nat.le_of_ble_eq_true rfl) ⟨Nat.zero_le _, Nat.zero_le _⟩ dX4_change_2 ?_
  refine j_ifneZ (tgt := 10) hx hb dX4_change_5 (by decide) (fun c5 => ?_) (fun c5 => ?_)
  · skip
    refine lv_iload_n hx hb dX4_change_10 rfl (lv_at hl 2 rfl) ?_
    refine lv_iload_n hx hb dX4_change_11 rfl (lv_at hl 3 rfl) ?_
    refine j_cSI (As := [.int (jI x), .int (jI y)]) (rest := []) ⟨hx, hb, hml, hown, hts⟩ (kX4_areWidths l D cI cJ cZ x y (by unfold i32; omega)) (va_cwS 2 hts gX4_change_X4_areWidths rfl rfl rfl (by decide +kernel) ⟨Nat.le_of_ble_eq_true rfl, Nat.le_of_ble_eq_true rfl⟩) hK (hP.sub [] rfl) rfl hl.1 rfl (Nat.le_of_ble_eq_true rfl) ⟨Nat.zero_le _, Nat.zero_le _⟩ dX4_change_12 ?_
    refine j_ifneZ (tgt := 21) hx hb dX4_change_15 (by decide) (fun c15 => ?_) (fun c15 => ?_)
    · skip
      refine lv_aload_n hx hb dX4_change_21 rfl (lv_at hl 0 rfl) ?_
      refine va_get (D := D) (ci := 4) (v := .ref (r 1)) (C := RX4) (T := TX4) (N := 18) hx hb hts hinX4 hown hK hP 0 rfl rfl 3 (by decide) (hts (.fieldLink RX4 7 "BreakLinesModel" "leasts" "[I") (by decide +kernel)) (fun _ h9 => h9) rfl dX4_change_22 ?_
      refine lv_iload_n hx hb dX4_change_25 rfl (lv_at hl 1 rfl) ?_
      refine lv_iload_n hx hb dX4_change_26 rfl (lv_at hl 2 rfl) ?_
      refine j_iast hx hb hK hP hD hS 1 0 rfl rfl (i := a) (by omega) (by decide) dX4_change_27 (fun H locs hP hD hS => ?_)
      have hP : va_P D vwCl (wMo r cI cJ cZ (sWd σ) (sPp σ) (sNb σ) (updI (sLs σ) a x) (sWs σ) (sM σ) (sCs σ) (sCt σ) rs kn be lm lf pm pf nw th pg) H := hP
      have hD : va_D A (wMo r cI cJ cZ (sWd σ) (sPp σ) (sNb σ) (updI (sLs σ) a x) (sWs σ) (sM σ) (sCs σ) (sCt σ) rs kn be lm lf pm pf nw th pg) := hD
      refine lv_aload_n hx hb dX4_change_28 rfl (lv_at hl 0 rfl) ?_
      refine va_get (D := D) (ci := 4) (v := .ref (r 2)) (C := RX4) (T := TX4) (N := 18) hx hb hts hinX4 hown hK hP 0 rfl rfl 4 (by decide) (hts (.fieldLink RX4 13 "BreakLinesModel" "wishes" "[I") (by decide +kernel)) (fun _ h9 => h9) rfl dX4_change_29 ?_
      refine lv_iload_n hx hb dX4_change_32 rfl (lv_at hl 1 rfl) ?_
      refine lv_iload_n hx hb dX4_change_33 rfl (lv_at hl 3 rfl) ?_
      refine j_iast hx hb hK hP hD hS 2 0 rfl rfl (i := a) (by omega) (by decide) dX4_change_34 (fun H locs hP hD hS => ?_)
      have hP : va_P D vwCl (wMo r cI cJ cZ (sWd σ) (sPp σ) (sNb σ) (updI (sLs σ) a x) (updI (sWs σ) a y) (sM σ) (sCs σ) (sCt σ) rs kn be lm lf pm pf nw th pg) H := hP
      have hD : va_D A (wMo r cI cJ cZ (sWd σ) (sPp σ) (sNb σ) (updI (sLs σ) a x) (updI (sWs σ) a y) (sM σ) (sCs σ) (sCt σ) rs kn be lm lf pm pf nw th pg) := hD
      refine lv_aload_n hx hb dX4_change_35 rfl (lv_at hl 0 rfl) ?_
      refine j_iconst hx hb dX4_change_36 ?_
      refine j_topi (y := jZ False) ((jZ_f id).symm) ?_
      refine va_put (D := D) (ci := 4) (v := .int (jZ False)) (ty := .boolean) (C := RX4) (T := TX4) (N := 18) hx hb hts hinX4 tyX4 tyX4_ok nmX4 hown hK hP hD hS 0 rfl rfl 9 (by decide) (hts (.fieldLink RX4 68 "BreakLinesModel" "known" "Z") (by decide +kernel)) (fun _ h9 => h9) rfl (by decide +kernel) (jZ_narrow _) (jZ_fits _) (Nat.le_of_ble_eq_true rfl) dX4_change_37 (fun H locs hP hD hS => ?_)
      have hP : va_P D vwCl (wMo r cI cJ cZ (sWd σ) (sPp σ) (sNb σ) (updI (sLs σ) a x) (updI (sWs σ) a y) (sM σ) (sCs σ) (sCt σ) rs False be lm lf pm pf nw th pg) H := hP
      have hD : va_D A (wMo r cI cJ cZ (sWd σ) (sPp σ) (sNb σ) (updI (sLs σ) a x) (updI (sWs σ) a y) (sM σ) (sCs σ) (sCt σ) rs False be lm lf pm pf nw th pg) := hD
      refine j_iconst hx hb dX4_change_40 ?_
      exact j_mretI hx hb hr hlocks hS dX4_change_41 (upChg σ a x y, rs, False, be, lm, lf, pm, pf, nw, th, pg) ⟨(congrArg jI (by unfold chgR; rw [if_pos c5, if_pos c15])), ⟨okS_chg hS0 c15, fun w => w.elim⟩, (by unfold chgS; rw [if_pos c5, if_pos c15])⟩ hP
    · skip
      refine j_bipush hx hb dX4_change_18 (by decide) ?_
      exact j_mretI hx hb hr hlocks hS dX4_change_20 (σ, rs, kn, be, lm, lf, pm, pf, nw, th, pg) ⟨(congrArg jI (by unfold chgR; rw [if_pos c5, if_neg c15])), ⟨hS0, hI⟩, (by unfold chgS; rw [if_pos c5, if_neg c15])⟩ hP
  · skip
    refine j_iconst hx hb dX4_change_8 ?_
    exact j_mretI hx hb hr hlocks hS dX4_change_9 (σ, rs, kn, be, lm, lf, pm, pf, nw, th, pg) ⟨(congrArg jI (by unfold chgR; rw [if_neg c5])), ⟨hS0, hI⟩, (by unfold chgS; rw [if_neg c5])⟩ hP
set_option maxHeartbeats 4000000 in
set_option maxRecDepth 100000 in
theorem kX4_mark (l : Launch) (D : va_G) (cI cJ cZ : ClassId) (r : Nat → Nat) (σ : Sg) (hS0 : okS σ) (rs : Int → Int) (kn : Prop) (be lm : Int) (lf : Int → Int) (pm : Int) (pf nw th pg : Int → Int) (hI : kn → mOK σ be lm lf pm pf) (a m0 : Int) (on : Bool) (hi : i32 a ∧ i32 m0) : MuI l yX4_mark wsX4_mark 2 43 D (tyc cI cJ cZ) (wMo r cI cJ cZ (sWd σ) (sPp σ) (sNb σ) (sLs σ) (sWs σ) (sM σ) (sCs σ) (sCt σ) rs kn be lm lf pm pf nw th pg) [.ref (r 0), .int (jI a), .int (jI m0), .int (jZ (on = true))] (fun (r : Int32) (u : MU) => r = jI (mrkR σ a m0) ∧ mInv u ∧ u.1 = mrkS σ a m0 on) (fun u => wMU r cI cJ cZ u) := by
  intro sz
  refine j_start RX4 rfl (by decide) rfl (Nat.le_of_ble_eq_true rfl) ?_
  intro p e s m below meth c ls hx hb hr hlocks hml hown hts hnm hl ⟨hsz, hP, hK, hD0⟩
  subst hsz
  have hD := hD0.self (sz := s.heap.size)
  generalize hAe : va_A (wMo r cI cJ cZ (sWd σ) (sPp σ) (sNb σ) (sLs σ) (sWs σ) (sM σ) (sCs σ) (sCt σ) rs kn be lm lf pm pf nw th pg) s.heap.size = A at hD ⊢
  have hA : ∀ q : Nat, s.heap.size ≤ q → A q := fun q h => by rw [← hAe]; exact Or.inr h
  refine j_gen (fun H locs hHe hLe => ?_)
  have hS : va_S A s.heap H locs := by rw [hHe, hLe]; exact va_S.rf
  have hP : va_P D vwCl (wMo r cI cJ cZ (sWd σ) (sPp σ) (sNb σ) (sLs σ) (sWs σ) (sM σ) (sCs σ) (sCt σ) rs kn be lm lf pm pf nw th pg) H := by rw [hHe]; exact hP
  have hD : va_D A (wMo r cI cJ cZ (sWd σ) (sPp σ) (sNb σ) (sLs σ) (sWs σ) (sM σ) (sCs σ) (sCt σ) rs kn be lm lf pm pf nw th pg) := hD
  have hl : lv_has ls 5 [(0, .ref (r 0)), (1, .int (jI a)), (2, .int (jI m0)), (3, .int (jZ (on = true)))] := hl
  have hinX4 : ∀ w ∈ u_ws RX4 TX4 18, w ∈ wsX4_mark := by decide +kernel
  have hnb := hS0.1
  have hwd := hS0.2.1
  have hpp := hS0.2.2.1
  have hct := hS0.2.2.2.1
  unfold i32 at hi
  refine lv_aload_n hx hb dX4_mark_0 rfl (lv_at hl 0 rfl) ?_
  refine lv_iload_n hx hb dX4_mark_1 rfl (lv_at hl 1 rfl) ?_
  refine j_cVI (As := [.int (jI a)]) (rest := []) ⟨hx, hb, hml, hown, hts⟩ (kX4_isBar l D cI cJ cZ r σ hS0 rs kn be lm lf pm pf nw th pg a (by unfold i32; omega)) (cwV 1 hts gX4_mark_X4_isBar rfl rfl rfl (by decide +kernel) ⟨Nat.le_of_ble_eq_true rfl, Nat.le_of_ble_eq_true rfl⟩) hK hP (va_recv hK hP (ci := 4) (q0 := 0) rfl rfl) rfl hl.1 rfl (Nat.le_of_ble_eq_true rfl) ⟨Nat.zero_le _, Nat.zero_le _⟩ dX4_mark_2 ?_
  refine j_ifneZ (tgt := 10) hx hb dX4_mark_5 (by decide) (fun c5 => ?_) (fun c5 => ?_)
  · skip
    refine lv_iload_n hx hb dX4_mark_10 rfl (lv_at hl 2 rfl) ?_
    refine j_iconst hx hb dX4_mark_11 ?_
    refine j_iconst hx hb dX4_mark_12 ?_
    refine j_cSI (As := [.int (jI m0), .int (jI 0), .int (jI 2)]) (rest := []) ⟨hx, hb, hml, hown, hts⟩ (kX4_in l D cI cJ cZ m0 0 2 (by unfold i32; omega)) (va_cwS 3 hts gX4_mark_X4_in rfl rfl rfl (by decide +kernel) ⟨Nat.le_of_ble_eq_true rfl, Nat.le_of_ble_eq_true rfl⟩) hK (hP.sub [] rfl) rfl hl.1 rfl (Nat.le_of_ble_eq_true rfl) ⟨Nat.zero_le _, Nat.zero_le _⟩ dX4_mark_13 ?_
    refine j_ifneZ (tgt := 22) hx hb dX4_mark_16 (by decide) (fun c16 => ?_) (fun c16 => ?_)
    · skip
      refine lv_aload_n hx hb dX4_mark_22 rfl (lv_at hl 0 rfl) ?_
      refine va_get (D := D) (ci := 4) (v := .ref (r 3)) (C := RX4) (T := TX4) (N := 18) hx hb hts hinX4 hown hK hP 0 rfl rfl 5 (by decide) (hts (.fieldLink RX4 16 "BreakLinesModel" "marks" "[Z") (by decide +kernel)) (fun _ h9 => h9) rfl dX4_mark_23 ?_
      refine j_iconst hx hb dX4_mark_26 ?_
      refine lv_iload_n hx hb dX4_mark_27 rfl (lv_at hl 1 rfl) ?_
      refine j_imul hx hb dX4_mark_28 ?_
      refine lv_iload_n hx hb dX4_mark_29 rfl (lv_at hl 2 rfl) ?_
      refine j_iadd hx hb dX4_mark_30 ?_
      refine j_zald hx hb hK hP 3 2 rfl rfl (i := (3 * a) + m0) (by omega) (by decide) dX4_mark_31 ?_
      refine j_ifeqZ (tgt := 39) hx hb dX4_mark_32 (by decide) (fun c32 => ?_) (fun c32 => ?_)
      · skip
        refine j_iconst hx hb dX4_mark_39 ?_
        refine lv_istore (lv' := [(4, .int (jI 0)), (0, .ref (r 0)), (1, .int (jI a)), (2, .int (jI m0)), (3, .int (jZ (on = true)))]) hx hb dX4_mark_40 hl (by decide) rfl (fun ls hl => ?_)
        refine lv_aload_n hx hb dX4_mark_42 rfl (lv_at hl 1 rfl) ?_
        refine va_get (D := D) (ci := 4) (v := .ref (r 3)) (C := RX4) (T := TX4) (N := 18) hx hb hts hinX4 hown hK hP 0 rfl rfl 5 (by decide) (hts (.fieldLink RX4 16 "BreakLinesModel" "marks" "[Z") (by decide +kernel)) (fun _ h9 => h9) rfl dX4_mark_43 ?_
        refine j_iconst hx hb dX4_mark_46 ?_
        refine lv_iload_n hx hb dX4_mark_47 rfl (lv_at hl 2 rfl) ?_
        refine j_imul hx hb dX4_mark_48 ?_
        refine lv_iload_n hx hb dX4_mark_49 rfl (lv_at hl 3 rfl) ?_
        refine j_iadd hx hb dX4_mark_50 ?_
        refine lv_iload_n hx hb dX4_mark_51 rfl (lv_at hl 4 rfl) ?_
        refine j_zast hx hb hK hP hD hS 3 2 rfl rfl (i := (3 * a) + m0) (by omega) (by decide) dX4_mark_52 (fun H locs hP hD hS => ?_)
        have hP : va_P D vwCl (wMo r cI cJ cZ (sWd σ) (sPp σ) (sNb σ) (sLs σ) (sWs σ) (updB (sM σ) ((3 * a) + m0) on) (sCs σ) (sCt σ) rs kn be lm lf pm pf nw th pg) H := hP
        have hD : va_D A (wMo r cI cJ cZ (sWd σ) (sPp σ) (sNb σ) (sLs σ) (sWs σ) (updB (sM σ) ((3 * a) + m0) on) (sCs σ) (sCt σ) rs kn be lm lf pm pf nw th pg) := hD
        refine lv_aload_n hx hb dX4_mark_53 rfl (lv_at hl 1 rfl) ?_
        refine j_iconst hx hb dX4_mark_54 ?_
        refine j_topi (y := jZ False) ((jZ_f id).symm) ?_
        refine va_put (D := D) (ci := 4) (v := .int (jZ False)) (ty := .boolean) (C := RX4) (T := TX4) (N := 18) hx hb hts hinX4 tyX4 tyX4_ok nmX4 hown hK hP hD hS 0 rfl rfl 9 (by decide) (hts (.fieldLink RX4 68 "BreakLinesModel" "known" "Z") (by decide +kernel)) (fun _ h9 => h9) rfl (by decide +kernel) (jZ_narrow _) (jZ_fits _) (Nat.le_of_ble_eq_true rfl) dX4_mark_55 (fun H locs hP hD hS => ?_)
        have hP : va_P D vwCl (wMo r cI cJ cZ (sWd σ) (sPp σ) (sNb σ) (sLs σ) (sWs σ) (updB (sM σ) ((3 * a) + m0) on) (sCs σ) (sCt σ) rs False be lm lf pm pf nw th pg) H := hP
        have hD : va_D A (wMo r cI cJ cZ (sWd σ) (sPp σ) (sNb σ) (sLs σ) (sWs σ) (updB (sM σ) ((3 * a) + m0) on) (sCs σ) (sCt σ) rs False be lm lf pm pf nw th pg) := hD
        refine lv_iload hx hb dX4_mark_58 (lv_at hl 0 rfl) ?_
        exact j_mretI hx hb hr hlocks hS dX4_mark_60 (upMk σ a m0 on, rs, False, be, lm, lf, pm, pf, nw, th, pg) ⟨(congrArg jI (by unfold mrkR; rw [if_pos c5, if_pos c16, if_neg c32])), ⟨okS_mk hS0 a m0 on, fun w => w.elim⟩, (by unfold mrkS; rw [if_pos c5, if_pos c16])⟩ hP
      · skip
        refine j_iconst hx hb dX4_mark_35 ?_
        refine lv_goto (tgt := 40) hx hb dX4_mark_36 (by decide) ?_
        refine lv_istore (lv' := [(4, .int (jI 1)), (0, .ref (r 0)), (1, .int (jI a)), (2, .int (jI m0)), (3, .int (jZ (on = true)))]) hx hb dX4_mark_40 hl (by decide) rfl (fun ls hl => ?_)
        refine lv_aload_n hx hb dX4_mark_42 rfl (lv_at hl 1 rfl) ?_
        refine va_get (D := D) (ci := 4) (v := .ref (r 3)) (C := RX4) (T := TX4) (N := 18) hx hb hts hinX4 hown hK hP 0 rfl rfl 5 (by decide) (hts (.fieldLink RX4 16 "BreakLinesModel" "marks" "[Z") (by decide +kernel)) (fun _ h9 => h9) rfl dX4_mark_43 ?_
        refine j_iconst hx hb dX4_mark_46 ?_
        refine lv_iload_n hx hb dX4_mark_47 rfl (lv_at hl 2 rfl) ?_
        refine j_imul hx hb dX4_mark_48 ?_
        refine lv_iload_n hx hb dX4_mark_49 rfl (lv_at hl 3 rfl) ?_
        refine j_iadd hx hb dX4_mark_50 ?_
        refine lv_iload_n hx hb dX4_mark_51 rfl (lv_at hl 4 rfl) ?_
        refine j_zast hx hb hK hP hD hS 3 2 rfl rfl (i := (3 * a) + m0) (by omega) (by decide) dX4_mark_52 (fun H locs hP hD hS => ?_)
        have hP : va_P D vwCl (wMo r cI cJ cZ (sWd σ) (sPp σ) (sNb σ) (sLs σ) (sWs σ) (updB (sM σ) ((3 * a) + m0) on) (sCs σ) (sCt σ) rs kn be lm lf pm pf nw th pg) H := hP
        have hD : va_D A (wMo r cI cJ cZ (sWd σ) (sPp σ) (sNb σ) (sLs σ) (sWs σ) (updB (sM σ) ((3 * a) + m0) on) (sCs σ) (sCt σ) rs kn be lm lf pm pf nw th pg) := hD
        refine lv_aload_n hx hb dX4_mark_53 rfl (lv_at hl 1 rfl) ?_
        refine j_iconst hx hb dX4_mark_54 ?_
        refine j_topi (y := jZ False) ((jZ_f id).symm) ?_
        refine va_put (D := D) (ci := 4) (v := .int (jZ False)) (ty := .boolean) (C := RX4) (T := TX4) (N := 18) hx hb hts hinX4 tyX4 tyX4_ok nmX4 hown hK hP hD hS 0 rfl rfl 9 (by decide) (hts (.fieldLink RX4 68 "BreakLinesModel" "known" "Z") (by decide +kernel)) (fun _ h9 => h9) rfl (by decide +kernel) (jZ_narrow _) (jZ_fits _) (Nat.le_of_ble_eq_true rfl) dX4_mark_55 (fun H locs hP hD hS => ?_)
        have hP : va_P D vwCl (wMo r cI cJ cZ (sWd σ) (sPp σ) (sNb σ) (sLs σ) (sWs σ) (updB (sM σ) ((3 * a) + m0) on) (sCs σ) (sCt σ) rs False be lm lf pm pf nw th pg) H := hP
        have hD : va_D A (wMo r cI cJ cZ (sWd σ) (sPp σ) (sNb σ) (sLs σ) (sWs σ) (updB (sM σ) ((3 * a) + m0) on) (sCs σ) (sCt σ) rs False be lm lf pm pf nw th pg) := hD
        refine lv_iload hx hb dX4_mark_58 (lv_at hl 0 rfl) ?_
        exact j_mretI hx hb hr hlocks hS dX4_mark_60 (upMk σ a m0 on, rs, False, be, lm, lf, pm, pf, nw, th, pg) ⟨(congrArg jI (by unfold mrkR; rw [if_pos c5, if_pos c16, if_pos c32])), ⟨okS_mk hS0 a m0 on, fun w => w.elim⟩, (by unfold mrkS; rw [if_pos c5, if_pos c16])⟩ hP
    · skip
      refine j_bipush hx hb dX4_mark_19 (by decide) ?_
      exact j_mretI hx hb hr hlocks hS dX4_mark_21 (σ, rs, kn, be, lm, lf, pm, pf, nw, th, pg) ⟨(congrArg jI (by unfold mrkR; rw [if_pos c5, if_neg c16])), ⟨hS0, hI⟩, (by unfold mrkS; rw [if_pos c5, if_neg c16])⟩ hP
  · skip
    refine j_iconst hx hb dX4_mark_8 ?_
    exact j_mretI hx hb hr hlocks hS dX4_mark_9 (σ, rs, kn, be, lm, lf, pm, pf, nw, th, pg) ⟨(congrArg jI (by unfold mrkR; rw [if_neg c5])), ⟨hS0, hI⟩, (by unfold mrkS; rw [if_neg c5])⟩ hP
set_option maxHeartbeats 4000000 in
set_option maxRecDepth 100000 in
theorem kX4_cost (l : Launch) (D : va_G) (cI cJ cZ : ClassId) (r : Nat → Nat) (σ : Sg) (hS0 : okS σ) (rs : Int → Int) (kn : Prop) (be lm : Int) (lf : Int → Int) (pm : Int) (pf nw th pg : Int → Int) (hI : kn → mOK σ be lm lf pm pf) (k v : Int) (hi : i32 k ∧ i32 v) : MuI l yX4_cost wsX4_cost 1 22 D (tyc cI cJ cZ) (wMo r cI cJ cZ (sWd σ) (sPp σ) (sNb σ) (sLs σ) (sWs σ) (sM σ) (sCs σ) (sCt σ) rs kn be lm lf pm pf nw th pg) [.ref (r 0), .int (jI k), .int (jI v)] (fun (r : Int32) (u : MU) => r = jI (cosR σ k v) ∧ mInv u ∧ u.1 = cosS σ k v) (fun u => wMU r cI cJ cZ u) := by
  intro sz
  refine j_start RX4 rfl (by decide) rfl (Nat.le_of_ble_eq_true rfl) ?_
  intro p e s m below meth c ls hx hb hr hlocks hml hown hts hnm hl ⟨hsz, hP, hK, hD0⟩
  subst hsz
  have hD := hD0.self (sz := s.heap.size)
  generalize hAe : va_A (wMo r cI cJ cZ (sWd σ) (sPp σ) (sNb σ) (sLs σ) (sWs σ) (sM σ) (sCs σ) (sCt σ) rs kn be lm lf pm pf nw th pg) s.heap.size = A at hD ⊢
  have hA : ∀ q : Nat, s.heap.size ≤ q → A q := fun q h => by rw [← hAe]; exact Or.inr h
  refine j_gen (fun H locs hHe hLe => ?_)
  have hS : va_S A s.heap H locs := by rw [hHe, hLe]; exact va_S.rf
  have hP : va_P D vwCl (wMo r cI cJ cZ (sWd σ) (sPp σ) (sNb σ) (sLs σ) (sWs σ) (sM σ) (sCs σ) (sCt σ) rs kn be lm lf pm pf nw th pg) H := by rw [hHe]; exact hP
  have hD : va_D A (wMo r cI cJ cZ (sWd σ) (sPp σ) (sNb σ) (sLs σ) (sWs σ) (sM σ) (sCs σ) (sCt σ) rs kn be lm lf pm pf nw th pg) := hD
  have hl : lv_has ls 4 [(0, .ref (r 0)), (1, .int (jI k)), (2, .int (jI v))] := hl
  have hinX4 : ∀ w ∈ u_ws RX4 TX4 18, w ∈ wsX4_cost := by decide +kernel
  have hnb := hS0.1
  have hwd := hS0.2.1
  have hpp := hS0.2.2.1
  have hct := hS0.2.2.2.1
  unfold i32 at hi
  refine lv_iload_n hx hb dX4_cost_0 rfl (lv_at hl 1 rfl) ?_
  refine j_iconst hx hb dX4_cost_1 ?_
  refine j_iconst hx hb dX4_cost_2 ?_
  refine j_cSI (As := [.int (jI k), .int (jI 0), .int (jI 4)]) (rest := []) ⟨hx, hb, hml, hown, hts⟩ (kX4_in l D cI cJ cZ k 0 4 (by unfold i32; omega)) (va_cwS 3 hts gX4_cost_X4_in rfl rfl rfl (by decide +kernel) ⟨Nat.le_of_ble_eq_true rfl, Nat.le_of_ble_eq_true rfl⟩) hK (hP.sub [] rfl) rfl hl.1 rfl (Nat.le_of_ble_eq_true rfl) ⟨Nat.zero_le _, Nat.zero_le _⟩ dX4_cost_3 ?_
  refine j_ifeqZ (tgt := 19) hx hb dX4_cost_6 (by decide) (fun c6 => ?_) (fun c6 => ?_)
  · skip
    refine j_bipush hx hb dX4_cost_19 (by decide) ?_
    exact j_mretI hx hb hr hlocks hS dX4_cost_21 (σ, rs, kn, be, lm, lf, pm, pf, nw, th, pg) ⟨(congrArg jI (by unfold cosR; rw [if_neg (by omega)])), ⟨hS0, hI⟩, (by unfold cosS; rw [if_neg (by omega)])⟩ hP
  · skip
    refine lv_iload_n hx hb dX4_cost_9 rfl (lv_at hl 2 rfl) ?_
    refine j_iconst hx hb dX4_cost_10 ?_
    refine lv_ldc (v := jI 1000000) hx hb hown (hts (.constant RX4 76 (1000000)) (by decide +kernel)) dX4_cost_11 ?_
    refine j_cSI (As := [.int (jI v), .int (jI 0), .int (jI 1000000)]) (rest := []) ⟨hx, hb, hml, hown, hts⟩ (kX4_in l D cI cJ cZ v 0 1000000 (by unfold i32; omega)) (va_cwS 3 hts gX4_cost_X4_in rfl rfl rfl (by decide +kernel) ⟨Nat.le_of_ble_eq_true rfl, Nat.le_of_ble_eq_true rfl⟩) hK (hP.sub [] rfl) rfl hl.1 rfl (Nat.le_of_ble_eq_true rfl) ⟨Nat.zero_le _, Nat.zero_le _⟩ dX4_cost_13 ?_
    refine j_ifneZ (tgt := 22) hx hb dX4_cost_16 (by decide) (fun c16 => ?_) (fun c16 => ?_)
    · skip
      refine lv_aload_n hx hb dX4_cost_22 rfl (lv_at hl 0 rfl) ?_
      refine va_get (D := D) (ci := 4) (v := .ref (r 4)) (C := RX4) (T := TX4) (N := 18) hx hb hts hinX4 hown hK hP 0 rfl rfl 6 (by decide) (hts (.fieldLink RX4 20 "BreakLinesModel" "costs" "[J") (by decide +kernel)) (fun _ h9 => h9) rfl dX4_cost_23 ?_
      refine lv_iload_n hx hb dX4_cost_26 rfl (lv_at hl 1 rfl) ?_
      refine j_lald hx hb hK hP 4 1 rfl rfl (i := k) (by omega) (by decide) dX4_cost_27 ?_
      refine j_l2i hx hb dX4_cost_28 ?_
      refine lv_istore_n (lv' := [(3, .int (jI ((sCs σ) k))), (0, .ref (r 0)), (1, .int (jI k)), (2, .int (jI v))]) hx hb dX4_cost_29 rfl hl (by decide) rfl (fun ls hl => ?_)
      refine lv_aload_n hx hb dX4_cost_30 rfl (lv_at hl 1 rfl) ?_
      refine va_get (D := D) (ci := 4) (v := .ref (r 4)) (C := RX4) (T := TX4) (N := 18) hx hb hts hinX4 hown hK hP 0 rfl rfl 6 (by decide) (hts (.fieldLink RX4 20 "BreakLinesModel" "costs" "[J") (by decide +kernel)) (fun _ h9 => h9) rfl dX4_cost_31 ?_
      refine lv_iload_n hx hb dX4_cost_34 rfl (lv_at hl 2 rfl) ?_
      refine lv_iload_n hx hb dX4_cost_35 rfl (lv_at hl 3 rfl) ?_
      refine j_i2l hx hb (by unfold i32; omega) dX4_cost_36 ?_
      refine j_last hx hb hK hP hD hS 4 1 rfl rfl (i := k) (by omega) (by decide) dX4_cost_37 (fun H locs hP hD hS => ?_)
      have hP : va_P D vwCl (wMo r cI cJ cZ (sWd σ) (sPp σ) (sNb σ) (sLs σ) (sWs σ) (sM σ) (updI (sCs σ) k v) (sCt σ) rs kn be lm lf pm pf nw th pg) H := hP
      have hD : va_D A (wMo r cI cJ cZ (sWd σ) (sPp σ) (sNb σ) (sLs σ) (sWs σ) (sM σ) (updI (sCs σ) k v) (sCt σ) rs kn be lm lf pm pf nw th pg) := hD
      refine lv_aload_n hx hb dX4_cost_38 rfl (lv_at hl 1 rfl) ?_
      refine j_iconst hx hb dX4_cost_39 ?_
      refine j_topi (y := jZ False) ((jZ_f id).symm) ?_
      refine va_put (D := D) (ci := 4) (v := .int (jZ False)) (ty := .boolean) (C := RX4) (T := TX4) (N := 18) hx hb hts hinX4 tyX4 tyX4_ok nmX4 hown hK hP hD hS 0 rfl rfl 9 (by decide) (hts (.fieldLink RX4 68 "BreakLinesModel" "known" "Z") (by decide +kernel)) (fun _ h9 => h9) rfl (by decide +kernel) (jZ_narrow _) (jZ_fits _) (Nat.le_of_ble_eq_true rfl) dX4_cost_40 (fun H locs hP hD hS => ?_)
      have hP : va_P D vwCl (wMo r cI cJ cZ (sWd σ) (sPp σ) (sNb σ) (sLs σ) (sWs σ) (sM σ) (updI (sCs σ) k v) (sCt σ) rs False be lm lf pm pf nw th pg) H := hP
      have hD : va_D A (wMo r cI cJ cZ (sWd σ) (sPp σ) (sNb σ) (sLs σ) (sWs σ) (sM σ) (updI (sCs σ) k v) (sCt σ) rs False be lm lf pm pf nw th pg) := hD
      refine lv_iload_n hx hb dX4_cost_43 rfl (lv_at hl 0 rfl) ?_
      exact j_mretI hx hb hr hlocks hS dX4_cost_44 (upCost σ k v, rs, False, be, lm, lf, pm, pf, nw, th, pg) ⟨(congrArg jI (by unfold cosR; rw [if_pos ⟨c6, c16⟩])), ⟨okS_cost hS0 c16, fun w => w.elim⟩, (by unfold cosS; rw [if_pos ⟨c6, c16⟩])⟩ hP
    · skip
      refine j_bipush hx hb dX4_cost_19 (by decide) ?_
      exact j_mretI hx hb hr hlocks hS dX4_cost_21 (σ, rs, kn, be, lm, lf, pm, pf, nw, th, pg) ⟨(congrArg jI (by unfold cosR; rw [if_neg (by omega)])), ⟨hS0, hI⟩, (by unfold cosS; rw [if_neg (by omega)])⟩ hP
set_option maxHeartbeats 4000000 in
set_option maxRecDepth 100000 in
theorem kX4_count (l : Launch) (D : va_G) (cI cJ cZ : ClassId) (r : Nat → Nat) (σ : Sg) (hS0 : okS σ) (rs : Int → Int) (kn : Prop) (be lm : Int) (lf : Int → Int) (pm : Int) (pf nw th pg : Int → Int) (hI : kn → mOK σ be lm lf pm pf) (n : Int) (hi : i32 n) : MuI l yX4_count wsX4_count 1 22 D (tyc cI cJ cZ) (wMo r cI cJ cZ (sWd σ) (sPp σ) (sNb σ) (sLs σ) (sWs σ) (sM σ) (sCs σ) (sCt σ) rs kn be lm lf pm pf nw th pg) [.ref (r 0), .int (jI n)] (fun (r : Int32) (u : MU) => r = jI (ctR σ n) ∧ mInv u ∧ u.1 = ctS σ n) (fun u => wMU r cI cJ cZ u) := by
  intro sz
  refine j_start RX4 rfl (by decide) rfl (Nat.le_of_ble_eq_true rfl) ?_
  intro p e s m below meth c ls hx hb hr hlocks hml hown hts hnm hl ⟨hsz, hP, hK, hD0⟩
  subst hsz
  have hD := hD0.self (sz := s.heap.size)
  generalize hAe : va_A (wMo r cI cJ cZ (sWd σ) (sPp σ) (sNb σ) (sLs σ) (sWs σ) (sM σ) (sCs σ) (sCt σ) rs kn be lm lf pm pf nw th pg) s.heap.size = A at hD ⊢
  have hA : ∀ q : Nat, s.heap.size ≤ q → A q := fun q h => by rw [← hAe]; exact Or.inr h
  refine j_gen (fun H locs hHe hLe => ?_)
  have hS : va_S A s.heap H locs := by rw [hHe, hLe]; exact va_S.rf
  have hP : va_P D vwCl (wMo r cI cJ cZ (sWd σ) (sPp σ) (sNb σ) (sLs σ) (sWs σ) (sM σ) (sCs σ) (sCt σ) rs kn be lm lf pm pf nw th pg) H := by rw [hHe]; exact hP
  have hD : va_D A (wMo r cI cJ cZ (sWd σ) (sPp σ) (sNb σ) (sLs σ) (sWs σ) (sM σ) (sCs σ) (sCt σ) rs kn be lm lf pm pf nw th pg) := hD
  have hl : lv_has ls 3 [(0, .ref (r 0)), (1, .int (jI n))] := hl
  have hinX4 : ∀ w ∈ u_ws RX4 TX4 18, w ∈ wsX4_count := by decide +kernel
  have hnb := hS0.1
  have hwd := hS0.2.1
  have hpp := hS0.2.2.1
  have hct := hS0.2.2.2.1
  unfold i32 at hi
  refine lv_iload_n hx hb dX4_count_0 rfl (lv_at hl 1 rfl) ?_
  refine j_iconst hx hb dX4_count_1 ?_
  refine j_bipush hx hb dX4_count_2 (by decide) ?_
  refine j_cSI (As := [.int (jI n), .int (jI 0), .int (jI 24)]) (rest := []) ⟨hx, hb, hml, hown, hts⟩ (kX4_in l D cI cJ cZ n 0 24 (by unfold i32; omega)) (va_cwS 3 hts gX4_count_X4_in rfl rfl rfl (by decide +kernel) ⟨Nat.le_of_ble_eq_true rfl, Nat.le_of_ble_eq_true rfl⟩) hK (hP.sub [] rfl) rfl hl.1 rfl (Nat.le_of_ble_eq_true rfl) ⟨Nat.zero_le _, Nat.zero_le _⟩ dX4_count_4 ?_
  refine j_ifneZ (tgt := 13) hx hb dX4_count_7 (by decide) (fun c7 => ?_) (fun c7 => ?_)
  · skip
    refine lv_aload_n hx hb dX4_count_13 rfl (lv_at hl 0 rfl) ?_
    refine va_get (D := D) (ci := 4) (v := .int (jI (sCt σ))) (C := RX4) (T := TX4) (N := 18) hx hb hts hinX4 hown hK hP 0 rfl rfl 7 (by decide) (hts (.fieldLink RX4 77 "BreakLinesModel" "due" "I") (by decide +kernel)) (fun _ h9 => h9) rfl dX4_count_14 ?_
    refine lv_istore_n (lv' := [(2, .int (jI (sCt σ))), (0, .ref (r 0)), (1, .int (jI n))]) hx hb dX4_count_17 rfl hl (by decide) rfl (fun ls hl => ?_)
    refine lv_aload_n hx hb dX4_count_18 rfl (lv_at hl 1 rfl) ?_
    refine lv_iload_n hx hb dX4_count_19 rfl (lv_at hl 2 rfl) ?_
    refine va_put (D := D) (ci := 4) (v := .int (jI n)) (ty := .int) (C := RX4) (T := TX4) (N := 18) hx hb hts hinX4 tyX4 tyX4_ok nmX4 hown hK hP hD hS 0 rfl rfl 7 (by decide) (hts (.fieldLink RX4 77 "BreakLinesModel" "due" "I") (by decide +kernel)) (fun _ h9 => h9) rfl (by decide +kernel) rfl rfl (Nat.le_of_ble_eq_true rfl) dX4_count_20 (fun H locs hP hD hS => ?_)
    have hP : va_P D vwCl (wMo r cI cJ cZ (sWd σ) (sPp σ) (sNb σ) (sLs σ) (sWs σ) (sM σ) (sCs σ) n rs kn be lm lf pm pf nw th pg) H := hP
    have hD : va_D A (wMo r cI cJ cZ (sWd σ) (sPp σ) (sNb σ) (sLs σ) (sWs σ) (sM σ) (sCs σ) n rs kn be lm lf pm pf nw th pg) := hD
    refine lv_aload_n hx hb dX4_count_23 rfl (lv_at hl 1 rfl) ?_
    refine j_iconst hx hb dX4_count_24 ?_
    refine j_topi (y := jZ False) ((jZ_f id).symm) ?_
    refine va_put (D := D) (ci := 4) (v := .int (jZ False)) (ty := .boolean) (C := RX4) (T := TX4) (N := 18) hx hb hts hinX4 tyX4 tyX4_ok nmX4 hown hK hP hD hS 0 rfl rfl 9 (by decide) (hts (.fieldLink RX4 68 "BreakLinesModel" "known" "Z") (by decide +kernel)) (fun _ h9 => h9) rfl (by decide +kernel) (jZ_narrow _) (jZ_fits _) (Nat.le_of_ble_eq_true rfl) dX4_count_25 (fun H locs hP hD hS => ?_)
    have hP : va_P D vwCl (wMo r cI cJ cZ (sWd σ) (sPp σ) (sNb σ) (sLs σ) (sWs σ) (sM σ) (sCs σ) n rs False be lm lf pm pf nw th pg) H := hP
    have hD : va_D A (wMo r cI cJ cZ (sWd σ) (sPp σ) (sNb σ) (sLs σ) (sWs σ) (sM σ) (sCs σ) n rs False be lm lf pm pf nw th pg) := hD
    refine lv_iload_n hx hb dX4_count_28 rfl (lv_at hl 0 rfl) ?_
    exact j_mretI hx hb hr hlocks hS dX4_count_29 (upCt σ n, rs, False, be, lm, lf, pm, pf, nw, th, pg) ⟨(congrArg jI (by unfold ctR; rw [if_pos c7])), ⟨okS_ct hS0 c7, fun w => w.elim⟩, (by unfold ctS; rw [if_pos c7])⟩ hP
  · skip
    refine j_bipush hx hb dX4_count_10 (by decide) ?_
    exact j_mretI hx hb hr hlocks hS dX4_count_12 (σ, rs, kn, be, lm, lf, pm, pf, nw, th, pg) ⟨(congrArg jI (by unfold ctR; rw [if_neg c7])), ⟨hS0, hI⟩, (by unfold ctS; rw [if_neg c7])⟩ hP
set_option maxHeartbeats 4000000 in
set_option maxRecDepth 100000 in
theorem kX4_bars (l : Launch) (D : va_G) (cI cJ cZ : ClassId) (r : Nat → Nat) (σ : Sg) (hS0 : okS σ) (rs : Int → Int) (kn : Prop) (be lm : Int) (lf : Int → Int) (pm : Int) (pf nw th pg : Int → Int) (hI : kn → mOK σ be lm lf pm pf)  : MuI l yX4_bars wsX4_bars 0 0 D (tyc cI cJ cZ) (wMo r cI cJ cZ (sWd σ) (sPp σ) (sNb σ) (sLs σ) (sWs σ) (sM σ) (sCs σ) (sCt σ) rs kn be lm lf pm pf nw th pg) [.ref (r 0)] (fun (r : Int32) (u : MU) => r = jI (sNb σ) ∧ mInv u ∧ u.1 = σ) (fun u => wMU r cI cJ cZ u) := by
  intro sz
  refine j_start RX4 rfl (by decide) rfl (Nat.le_of_ble_eq_true rfl) ?_
  intro p e s m below meth c ls hx hb hr hlocks hml hown hts hnm hl ⟨hsz, hP, hK, hD0⟩
  subst hsz
  have hD := hD0.self (sz := s.heap.size)
  generalize hAe : va_A (wMo r cI cJ cZ (sWd σ) (sPp σ) (sNb σ) (sLs σ) (sWs σ) (sM σ) (sCs σ) (sCt σ) rs kn be lm lf pm pf nw th pg) s.heap.size = A at hD ⊢
  have hA : ∀ q : Nat, s.heap.size ≤ q → A q := fun q h => by rw [← hAe]; exact Or.inr h
  refine j_gen (fun H locs hHe hLe => ?_)
  have hS : va_S A s.heap H locs := by rw [hHe, hLe]; exact va_S.rf
  have hP : va_P D vwCl (wMo r cI cJ cZ (sWd σ) (sPp σ) (sNb σ) (sLs σ) (sWs σ) (sM σ) (sCs σ) (sCt σ) rs kn be lm lf pm pf nw th pg) H := by rw [hHe]; exact hP
  have hD : va_D A (wMo r cI cJ cZ (sWd σ) (sPp σ) (sNb σ) (sLs σ) (sWs σ) (sM σ) (sCs σ) (sCt σ) rs kn be lm lf pm pf nw th pg) := hD
  have hl : lv_has ls 1 [(0, .ref (r 0))] := hl
  have hinX4 : ∀ w ∈ u_ws RX4 TX4 18, w ∈ wsX4_bars := by decide +kernel
  have hnb := hS0.1
  have hwd := hS0.2.1
  have hpp := hS0.2.2.1
  have hct := hS0.2.2.2.1
  refine lv_aload_n hx hb dX4_bars_0 rfl (lv_at hl 0 rfl) ?_
  refine va_get (D := D) (ci := 4) (v := .int (jI (sNb σ))) (C := RX4) (T := TX4) (N := 18) hx hb hts hinX4 hown hK hP 0 rfl rfl 2 (by decide) (hts (.fieldLink RX4 57 "BreakLinesModel" "bars" "I") (by decide +kernel)) (fun _ h9 => h9) rfl dX4_bars_1 ?_
  exact j_mretI hx hb hr hlocks hS dX4_bars_4 (σ, rs, kn, be, lm, lf, pm, pf, nw, th, pg) ⟨rfl, ⟨hS0, hI⟩, rfl⟩ hP
set_option maxHeartbeats 4000000 in
set_option maxRecDepth 100000 in
theorem kX4_badness (l : Launch) (D : va_G) (cI cJ cZ : ClassId) (r : Nat → Nat) (σ : Sg) (hS0 : okS σ) (rs : Int → Int) (kn : Prop) (be lm : Int) (lf : Int → Int) (pm : Int) (pf nw th pg : Int → Int) (hI : kn → mOK σ be lm lf pm pf) (a b : Int) (hi : i32 a ∧ i32 b) : MuL l yX4_badness wsX4_badness 3 71 D (tyc cI cJ cZ) (wMo r cI cJ cZ (sWd σ) (sPp σ) (sNb σ) (sLs σ) (sWs σ) (sM σ) (sCs σ) (sCt σ) rs kn be lm lf pm pf nw th pg) [.ref (r 0), .int (jI a), .int (jI b)] (fun (r : Int64) (u : MU) => r = jL (badR σ a b) ∧ mInv u ∧ u.1 = σ) (fun u => wMU r cI cJ cZ u) := by
  intro sz
  refine j_start RX4 rfl (by decide) rfl (Nat.le_of_ble_eq_true rfl) ?_
  intro p e s m below meth c ls hx hb hr hlocks hml hown hts hnm hl ⟨hsz, hP, hK, hD0⟩
  subst hsz
  have hD := hD0.self (sz := s.heap.size)
  generalize hAe : va_A (wMo r cI cJ cZ (sWd σ) (sPp σ) (sNb σ) (sLs σ) (sWs σ) (sM σ) (sCs σ) (sCt σ) rs kn be lm lf pm pf nw th pg) s.heap.size = A at hD ⊢
  have hA : ∀ q : Nat, s.heap.size ≤ q → A q := fun q h => by rw [← hAe]; exact Or.inr h
  refine j_gen (fun H locs hHe hLe => ?_)
  have hS : va_S A s.heap H locs := by rw [hHe, hLe]; exact va_S.rf
  have hP : va_P D vwCl (wMo r cI cJ cZ (sWd σ) (sPp σ) (sNb σ) (sLs σ) (sWs σ) (sM σ) (sCs σ) (sCt σ) rs kn be lm lf pm pf nw th pg) H := by rw [hHe]; exact hP
  have hD : va_D A (wMo r cI cJ cZ (sWd σ) (sPp σ) (sNb σ) (sLs σ) (sWs σ) (sM σ) (sCs σ) (sCt σ) rs kn be lm lf pm pf nw th pg) := hD
  have hl : lv_has ls 3 [(0, .ref (r 0)), (1, .int (jI a)), (2, .int (jI b))] := hl
  have hnb := hS0.1
  have hwd := hS0.2.1
  have hpp := hS0.2.2.1
  have hct := hS0.2.2.2.1
  unfold i32 at hi
  refine lv_aload_n hx hb dX4_badness_0 rfl (lv_at hl 0 rfl) ?_
  refine lv_iload_n hx hb dX4_badness_1 rfl (lv_at hl 1 rfl) ?_
  refine j_cVI (As := [.int (jI a)]) (rest := []) ⟨hx, hb, hml, hown, hts⟩ (kX4_isBar l D cI cJ cZ r σ hS0 rs kn be lm lf pm pf nw th pg a (by unfold i32; omega)) (cwV 1 hts gX4_badness_X4_isBar rfl rfl rfl (by decide +kernel) ⟨Nat.le_of_ble_eq_true rfl, Nat.le_of_ble_eq_true rfl⟩) hK hP (va_recv hK hP (ci := 4) (q0 := 0) rfl rfl) rfl hl.1 rfl (Nat.le_of_ble_eq_true rfl) ⟨Nat.zero_le _, Nat.zero_le _⟩ dX4_badness_2 ?_
  refine j_ifeqZ (tgt := 39) hx hb dX4_badness_5 (by decide) (fun c5 => ?_) (fun c5 => ?_)
  · skip
    refine lv_ldc2 (v := jL (-1)) hx hb hown (hts (.constantLong RX4 147 (-1)) (by decide +kernel)) dX4_badness_39 ?_
    exact j_mretL hx hb hr hlocks hS dX4_badness_42 (σ, rs, kn, be, lm, lf, pm, pf, nw, th, pg) ⟨congrArg jL (by unfold badR; first | (rw [if_neg (by omega)]; done) | (rw [if_pos (by omega), lpr_f c27])), ⟨hS0, hI⟩, rfl⟩ hP
  · skip
    refine lv_aload_n hx hb dX4_badness_8 rfl (lv_at hl 0 rfl) ?_
    refine lv_iload_n hx hb dX4_badness_9 rfl (lv_at hl 2 rfl) ?_
    refine j_cVI (As := [.int (jI b)]) (rest := []) ⟨hx, hb, hml, hown, hts⟩ (kX4_isBar l D cI cJ cZ r σ hS0 rs kn be lm lf pm pf nw th pg b (by unfold i32; omega)) (cwV 1 hts gX4_badness_X4_isBar rfl rfl rfl (by decide +kernel) ⟨Nat.le_of_ble_eq_true rfl, Nat.le_of_ble_eq_true rfl⟩) hK hP (va_recv hK hP (ci := 4) (q0 := 0) rfl rfl) rfl hl.1 rfl (Nat.le_of_ble_eq_true rfl) ⟨Nat.zero_le _, Nat.zero_le _⟩ dX4_badness_10 ?_
    refine j_ifeqZ (tgt := 39) hx hb dX4_badness_13 (by decide) (fun c13 => ?_) (fun c13 => ?_)
    · skip
      refine lv_ldc2 (v := jL (-1)) hx hb hown (hts (.constantLong RX4 147 (-1)) (by decide +kernel)) dX4_badness_39 ?_
      exact j_mretL hx hb hr hlocks hS dX4_badness_42 (σ, rs, kn, be, lm, lf, pm, pf, nw, th, pg) ⟨congrArg jL (by unfold badR; first | (rw [if_neg (by omega)]; done) | (rw [if_pos (by omega), lpr_f c27])), ⟨hS0, hI⟩, rfl⟩ hP
    · skip
      refine lv_iload_n hx hb dX4_badness_16 rfl (lv_at hl 2 rfl) ?_
      refine lv_iload_n hx hb dX4_badness_17 rfl (lv_at hl 1 rfl) ?_
      refine j_icmp_lt (tgt := 39) hx hb (by unfold i32; omega) dX4_badness_18 (by decide) (fun c18 => ?_) (fun c18 => ?_)
      · skip
        refine lv_ldc2 (v := jL (-1)) hx hb hown (hts (.constantLong RX4 147 (-1)) (by decide +kernel)) dX4_badness_39 ?_
        exact j_mretL hx hb hr hlocks hS dX4_badness_42 (σ, rs, kn, be, lm, lf, pm, pf, nw, th, pg) ⟨congrArg jL (by unfold badR; first | (rw [if_neg (by omega)]; done) | (rw [if_pos (by omega), lpr_f c27])), ⟨hS0, hI⟩, rfl⟩ hP
      · skip
        refine lv_aload_n hx hb dX4_badness_21 rfl (lv_at hl 0 rfl) ?_
        refine lv_iload_n hx hb dX4_badness_22 rfl (lv_at hl 1 rfl) ?_
        refine lv_iload_n hx hb dX4_badness_23 rfl (lv_at hl 2 rfl) ?_
        refine j_cVI (As := [.int (jI a), .int (jI b)]) (rest := []) ⟨hx, hb, hml, hown, hts⟩ (kX4_mayBe l D cI cJ cZ r σ hS0 rs kn be lm lf pm pf nw th pg a b (by omega)) (cwV 2 hts gX4_badness_X4_mayBe rfl rfl rfl (by decide +kernel) ⟨Nat.le_of_ble_eq_true rfl, Nat.le_of_ble_eq_true rfl⟩) hK hP (va_recv hK hP (ci := 4) (q0 := 0) rfl rfl) rfl hl.1 rfl (Nat.le_of_ble_eq_true rfl) ⟨Nat.zero_le _, Nat.zero_le _⟩ dX4_badness_24 ?_
        refine j_ifeqZ (tgt := 39) hx hb dX4_badness_27 (by decide) (fun c27 => ?_) (fun c27 => ?_)
        · skip
          refine lv_ldc2 (v := jL (-1)) hx hb hown (hts (.constantLong RX4 147 (-1)) (by decide +kernel)) dX4_badness_39 ?_
          exact j_mretL hx hb hr hlocks hS dX4_badness_42 (σ, rs, kn, be, lm, lf, pm, pf, nw, th, pg) ⟨congrArg jL (by unfold badR; first | (rw [if_neg (by omega)]; done) | (rw [if_pos (by omega), lpr_f c27])), ⟨hS0, hI⟩, rfl⟩ hP
        · skip
          refine lv_aload_n hx hb dX4_badness_30 rfl (lv_at hl 0 rfl) ?_
          refine lv_iload_n hx hb dX4_badness_31 rfl (lv_at hl 1 rfl) ?_
          refine lv_iload_n hx hb dX4_badness_32 rfl (lv_at hl 2 rfl) ?_
          refine j_cVL (As := [.int (jI a), .int (jI b)]) (rest := []) ⟨hx, hb, hml, hown, hts⟩ (kX4_costOf l D cI cJ cZ r σ hS0 rs kn be lm lf pm pf nw th pg a b (by omega)) (cwV 2 hts gX4_badness_X4_costOf rfl rfl rfl (by decide +kernel) ⟨Nat.le_of_ble_eq_true rfl, Nat.le_of_ble_eq_true rfl⟩) hK hP (va_recv hK hP (ci := 4) (q0 := 0) rfl rfl) rfl hl.1 rfl (Nat.le_of_ble_eq_true rfl) ⟨Nat.zero_le _, Nat.zero_le _⟩ dX4_badness_33 ?_
          refine lv_goto (tgt := 42) hx hb dX4_badness_36 (by decide) ?_
          exact j_mretL hx hb hr hlocks hS dX4_badness_42 (σ, rs, kn, be, lm, lf, pm, pf, nw, th, pg) ⟨congrArg jL (by unfold badR; rw [if_pos (by omega), lpr_t c27]), ⟨hS0, hI⟩, rfl⟩ hP
set_option maxHeartbeats 4000000 in
set_option maxRecDepth 100000 in
theorem kX4_size (l : Launch) (D : va_G) (cI cJ cZ : ClassId) (r : Nat → Nat) (σ : Sg) (hS0 : okS σ) (rs : Int → Int) (kn : Prop) (be lm : Int) (lf : Int → Int) (pm : Int) (pf nw th pg : Int → Int) (hI : kn → mOK σ be lm lf pm pf) (w v : Int) (hi : i32 w ∧ i32 v) : MuI l yX4_size wsX4_size 1 22 D (tyc cI cJ cZ) (wMo r cI cJ cZ (sWd σ) (sPp σ) (sNb σ) (sLs σ) (sWs σ) (sM σ) (sCs σ) (sCt σ) rs kn be lm lf pm pf nw th pg) [.ref (r 0), .int (jI w), .int (jI v)] (fun (r : Int32) (u : MU) => r = jI (szR σ w v) ∧ mInv u ∧ u.1 = szS σ w v) (fun u => wMU r cI cJ cZ u) := by
  intro sz
  refine j_start RX4 rfl (by decide) rfl (Nat.le_of_ble_eq_true rfl) ?_
  intro p e s m below meth c ls hx hb hr hlocks hml hown hts hnm hl ⟨hsz, hP, hK, hD0⟩
  subst hsz
  have hD := hD0.self (sz := s.heap.size)
  generalize hAe : va_A (wMo r cI cJ cZ (sWd σ) (sPp σ) (sNb σ) (sLs σ) (sWs σ) (sM σ) (sCs σ) (sCt σ) rs kn be lm lf pm pf nw th pg) s.heap.size = A at hD ⊢
  have hA : ∀ q : Nat, s.heap.size ≤ q → A q := fun q h => by rw [← hAe]; exact Or.inr h
  refine j_gen (fun H locs hHe hLe => ?_)
  have hS : va_S A s.heap H locs := by rw [hHe, hLe]; exact va_S.rf
  have hP : va_P D vwCl (wMo r cI cJ cZ (sWd σ) (sPp σ) (sNb σ) (sLs σ) (sWs σ) (sM σ) (sCs σ) (sCt σ) rs kn be lm lf pm pf nw th pg) H := by rw [hHe]; exact hP
  have hD : va_D A (wMo r cI cJ cZ (sWd σ) (sPp σ) (sNb σ) (sLs σ) (sWs σ) (sM σ) (sCs σ) (sCt σ) rs kn be lm lf pm pf nw th pg) := hD
  have hl : lv_has ls 5 [(0, .ref (r 0)), (1, .int (jI w)), (2, .int (jI v))] := hl
  have hinX4 : ∀ w ∈ u_ws RX4 TX4 18, w ∈ wsX4_size := by decide +kernel
  have hnb := hS0.1
  have hwd := hS0.2.1
  have hpp := hS0.2.2.1
  have hct := hS0.2.2.2.1
  unfold i32 at hi
  refine lv_iload_n hx hb dX4_size_0 rfl (lv_at hl 1 rfl) ?_
  refine j_join (α := Prop) (P := fun iw => iw ↔ ((w = 0 ∧ 100 ≤ v ∧ v ≤ 5000) ∨ (w = 1 ∧ 1 ≤ v ∧ v ≤ 8))) (f := fun iw => F0 m 36 ls [.int (jZ iw)]) ?_ (fun jn1 => ?_)
  · intro iw hviw
    refine lv_istore_n (lv' := [(3, .int (jZ iw)), (0, .ref (r 0)), (1, .int (jI w)), (2, .int (jI v))]) hx hb dX4_size_36 rfl hl (by decide) rfl (fun ls hl => ?_)
    refine lv_iload_n hx hb dX4_size_37 rfl (lv_at hl 0 rfl) ?_
    refine j_ifneZ (tgt := 44) hx hb dX4_size_38 (by decide) (fun c38 => ?_) (fun c38 => ?_)
    · skip
      refine lv_iload_n hx hb dX4_size_44 rfl (lv_at hl 2 rfl) ?_
      refine j_join (α := Int) (P := fun x0 => x0 = if w = 0 then sWd σ else sPp σ) (f := fun x0 => F0 m 59 ls [.int (jI x0)]) ?_ (fun jn45 => ?_)
      · intro x0 hvx0
        refine lv_istore (lv' := [(4, .int (jI x0)), (3, .int (jZ iw)), (0, .ref (r 0)), (1, .int (jI w)), (2, .int (jI v))]) hx hb dX4_size_59 hl (by decide) rfl (fun ls hl => ?_)
        refine lv_aload_n hx hb dX4_size_61 rfl (lv_at hl 2 rfl) ?_
        refine lv_iload_n hx hb dX4_size_62 rfl (lv_at hl 3 rfl) ?_
        refine j_join (α := Int) (P := fun xw => xw = if w = 0 then v else sWd σ) (f := fun xw => F0 m 74 ls [.int (jI xw), .ref (r 0)]) ?_ (fun jn63 => ?_)
        · intro xw hvxw
          refine va_put (D := D) (ci := 4) (v := .int (jI xw)) (ty := .int) (C := RX4) (T := TX4) (N := 18) hx hb hts hinX4 tyX4 tyX4_ok nmX4 hown hK hP hD hS 0 rfl rfl 0 (by decide) (hts (.fieldLink RX4 42 "BreakLinesModel" "width" "I") (by decide +kernel)) (fun _ h9 => h9) rfl (by decide +kernel) rfl rfl (Nat.le_of_ble_eq_true rfl) dX4_size_74 (fun H locs hP hD hS => ?_)
          have hP : va_P D vwCl (wMo r cI cJ cZ xw (sPp σ) (sNb σ) (sLs σ) (sWs σ) (sM σ) (sCs σ) (sCt σ) rs kn be lm lf pm pf nw th pg) H := hP
          have hD : va_D A (wMo r cI cJ cZ xw (sPp σ) (sNb σ) (sLs σ) (sWs σ) (sM σ) (sCs σ) (sCt σ) rs kn be lm lf pm pf nw th pg) := hD
          refine lv_aload_n hx hb dX4_size_77 rfl (lv_at hl 2 rfl) ?_
          refine lv_iload_n hx hb dX4_size_78 rfl (lv_at hl 3 rfl) ?_
          refine j_iconst hx hb dX4_size_79 ?_
          refine j_join (α := Int) (P := fun xp => xp = if w = 1 then v else sPp σ) (f := fun xp => F0 m 91 ls [.int (jI xp), .ref (r 0)]) ?_ (fun jn80 => ?_)
          · intro xp hvxp
            refine va_put (D := D) (ci := 4) (v := .int (jI xp)) (ty := .int) (C := RX4) (T := TX4) (N := 18) hx hb hts hinX4 tyX4 tyX4_ok nmX4 hown hK hP hD hS 0 rfl rfl 1 (by decide) (hts (.fieldLink RX4 46 "BreakLinesModel" "perPage" "I") (by decide +kernel)) (fun _ h9 => h9) rfl (by decide +kernel) rfl rfl (Nat.le_of_ble_eq_true rfl) dX4_size_91 (fun H locs hP hD hS => ?_)
            have hP : va_P D vwCl (wMo r cI cJ cZ xw xp (sNb σ) (sLs σ) (sWs σ) (sM σ) (sCs σ) (sCt σ) rs kn be lm lf pm pf nw th pg) H := hP
            have hD : va_D A (wMo r cI cJ cZ xw xp (sNb σ) (sLs σ) (sWs σ) (sM σ) (sCs σ) (sCt σ) rs kn be lm lf pm pf nw th pg) := hD
            refine lv_aload_n hx hb dX4_size_94 rfl (lv_at hl 2 rfl) ?_
            refine j_iconst hx hb dX4_size_95 ?_
            refine j_topi (y := jZ False) ((jZ_f id).symm) ?_
            refine va_put (D := D) (ci := 4) (v := .int (jZ False)) (ty := .boolean) (C := RX4) (T := TX4) (N := 18) hx hb hts hinX4 tyX4 tyX4_ok nmX4 hown hK hP hD hS 0 rfl rfl 9 (by decide) (hts (.fieldLink RX4 68 "BreakLinesModel" "known" "Z") (by decide +kernel)) (fun _ h9 => h9) rfl (by decide +kernel) (jZ_narrow _) (jZ_fits _) (Nat.le_of_ble_eq_true rfl) dX4_size_96 (fun H locs hP hD hS => ?_)
            have hP : va_P D vwCl (wMo r cI cJ cZ xw xp (sNb σ) (sLs σ) (sWs σ) (sM σ) (sCs σ) (sCt σ) rs False be lm lf pm pf nw th pg) H := hP
            have hD : va_D A (wMo r cI cJ cZ xw xp (sNb σ) (sLs σ) (sWs σ) (sM σ) (sCs σ) (sCt σ) rs False be lm lf pm pf nw th pg) := hD
            refine lv_iload hx hb dX4_size_99 (lv_at hl 0 rfl) ?_
            exact j_mretI hx hb hr hlocks hS dX4_size_101 ((sNb σ, xw, xp, sCt σ, sCs σ, sLs σ, sWs σ, sM σ), rs, False, be, lm, lf, pm, pf, nw, th, pg) ⟨congrArg jI (szR_y (hviw.mp c38) hvx0), ⟨szS_ok hS0 (hviw.mp c38) hvxw hvxp, fun w => w.elim⟩, szS_y (hviw.mp c38) hvxw hvxp⟩ hP
          refine j_icmp_ne (tgt := 87) hx hb (by unfold i32; omega) dX4_size_80 (by decide) (fun c80 => ?_) (fun c80 => ?_)
          · skip
            refine lv_aload_n hx hb dX4_size_87 rfl (lv_at hl 2 rfl) ?_
            refine va_get (D := D) (ci := 4) (v := .int (jI (sPp σ))) (C := RX4) (T := TX4) (N := 18) hx hb hts hinX4 hown hK hP 0 rfl rfl 1 (by decide) (hts (.fieldLink RX4 46 "BreakLinesModel" "perPage" "I") (by decide +kernel)) (fun _ h9 => h9) rfl dX4_size_88 ?_
            exact jn80 (sPp σ) (by first | exact (if_pos c80).symm | exact (if_neg c80).symm)
          · skip
            refine lv_iload_n hx hb dX4_size_83 rfl (lv_at hl 4 rfl) ?_
            refine lv_goto (tgt := 91) hx hb dX4_size_84 (by decide) ?_
            exact jn80 v (by first | exact (if_pos c80).symm | exact (if_neg c80).symm)
        refine j_if_ne (tgt := 70) hx hb (by unfold i32; omega) dX4_size_63 (by decide) (fun c63 => ?_) (fun c63 => ?_)
        · skip
          refine lv_aload_n hx hb dX4_size_70 rfl (lv_at hl 2 rfl) ?_
          refine va_get (D := D) (ci := 4) (v := .int (jI (sWd σ))) (C := RX4) (T := TX4) (N := 18) hx hb hts hinX4 hown hK hP 0 rfl rfl 0 (by decide) (hts (.fieldLink RX4 42 "BreakLinesModel" "width" "I") (by decide +kernel)) (fun _ h9 => h9) rfl dX4_size_71 ?_
          exact jn63 (sWd σ) (by first | exact (if_pos c63).symm | exact (if_neg c63).symm)
        · skip
          refine lv_iload_n hx hb dX4_size_66 rfl (lv_at hl 4 rfl) ?_
          refine lv_goto (tgt := 74) hx hb dX4_size_67 (by decide) ?_
          exact jn63 v (by first | exact (if_pos c63).symm | exact (if_neg c63).symm)
      refine j_if_ne (tgt := 55) hx hb (by unfold i32; omega) dX4_size_45 (by decide) (fun c45 => ?_) (fun c45 => ?_)
      · skip
        refine lv_aload_n hx hb dX4_size_55 rfl (lv_at hl 1 rfl) ?_
        refine va_get (D := D) (ci := 4) (v := .int (jI (sPp σ))) (C := RX4) (T := TX4) (N := 18) hx hb hts hinX4 hown hK hP 0 rfl rfl 1 (by decide) (hts (.fieldLink RX4 46 "BreakLinesModel" "perPage" "I") (by decide +kernel)) (fun _ h9 => h9) rfl dX4_size_56 ?_
        exact jn45 (sPp σ) (by first | exact (if_pos c45).symm | exact (if_neg c45).symm)
      · skip
        refine lv_aload_n hx hb dX4_size_48 rfl (lv_at hl 1 rfl) ?_
        refine va_get (D := D) (ci := 4) (v := .int (jI (sWd σ))) (C := RX4) (T := TX4) (N := 18) hx hb hts hinX4 hown hK hP 0 rfl rfl 0 (by decide) (hts (.fieldLink RX4 42 "BreakLinesModel" "width" "I") (by decide +kernel)) (fun _ h9 => h9) rfl dX4_size_49 ?_
        refine lv_goto (tgt := 59) hx hb dX4_size_52 (by decide) ?_
        exact jn45 (sWd σ) (by first | exact (if_pos c45).symm | exact (if_neg c45).symm)
    · skip
      refine j_bipush hx hb dX4_size_41 (by decide) ?_
      exact j_mretI hx hb hr hlocks hS dX4_size_43 (σ, rs, kn, be, lm, lf, pm, pf, nw, th, pg) ⟨congrArg jI (szR_n (fun z => c38 (hviw.mpr z))), ⟨hS0, hI⟩, szS_n (fun z => c38 (hviw.mpr z))⟩ hP
  refine j_if_ne (tgt := 16) hx hb (by unfold i32; omega) dX4_size_1 (by decide) (fun c1 => ?_) (fun c1 => ?_)
  · skip
    refine lv_iload_n hx hb dX4_size_16 rfl (lv_at hl 1 rfl) ?_
    refine j_iconst hx hb dX4_size_17 ?_
    refine j_icmp_ne (tgt := 35) hx hb (by unfold i32; omega) dX4_size_18 (by decide) (fun c18 => ?_) (fun c18 => ?_)
    · skip
      refine j_iconst hx hb dX4_size_35 ?_
      refine j_topi (y := jZ False) ((jZ_f id).symm) ?_
      exact jn1 False (by first | exact ⟨fun z => Or.inl ⟨c1, z⟩, fun z => by omega⟩ | exact ⟨fun _ => Or.inr ⟨c18, c28⟩, fun _ => trivial⟩ | exact ⟨fun z => z.elim, fun z => by omega⟩)
    · skip
      refine lv_iload_n hx hb dX4_size_21 rfl (lv_at hl 2 rfl) ?_
      refine j_iconst hx hb dX4_size_22 ?_
      refine j_bipush hx hb dX4_size_23 (by decide) ?_
      refine j_cSI (As := [.int (jI v), .int (jI 1), .int (jI 8)]) (rest := []) ⟨hx, hb, hml, hown, hts⟩ (kX4_in l D cI cJ cZ v 1 8 (by unfold i32; omega)) (va_cwS 3 hts gX4_size_X4_in rfl rfl rfl (by decide +kernel) ⟨Nat.le_of_ble_eq_true rfl, Nat.le_of_ble_eq_true rfl⟩) hK (hP.sub [] rfl) rfl hl.1 rfl (Nat.le_of_ble_eq_true rfl) ⟨Nat.zero_le _, Nat.zero_le _⟩ dX4_size_25 ?_
      refine j_ifeqZ (tgt := 35) hx hb dX4_size_28 (by decide) (fun c28 => ?_) (fun c28 => ?_)
      · skip
        refine j_iconst hx hb dX4_size_35 ?_
        refine j_topi (y := jZ False) ((jZ_f id).symm) ?_
        exact jn1 False (by first | exact ⟨fun z => Or.inl ⟨c1, z⟩, fun z => by omega⟩ | exact ⟨fun _ => Or.inr ⟨c18, c28⟩, fun _ => trivial⟩ | exact ⟨fun z => z.elim, fun z => by omega⟩)
      · skip
        refine j_iconst hx hb dX4_size_31 ?_
        refine lv_goto (tgt := 36) hx hb dX4_size_32 (by decide) ?_
        refine j_topi (y := jZ True) ((jZ_t trivial).symm) ?_
        exact jn1 True (by first | exact ⟨fun z => Or.inl ⟨c1, z⟩, fun z => by omega⟩ | exact ⟨fun _ => Or.inr ⟨c18, c28⟩, fun _ => trivial⟩ | exact ⟨fun z => z.elim, fun z => by omega⟩)
  · skip
    refine lv_iload_n hx hb dX4_size_4 rfl (lv_at hl 2 rfl) ?_
    refine j_bipush hx hb dX4_size_5 (by decide) ?_
    refine j_sipush hx hb dX4_size_7 (by decide) ?_
    refine j_cSI (As := [.int (jI v), .int (jI 100), .int (jI 5000)]) (rest := []) ⟨hx, hb, hml, hown, hts⟩ (kX4_in l D cI cJ cZ v 100 5000 (by unfold i32; omega)) (va_cwS 3 hts gX4_size_X4_in rfl rfl rfl (by decide +kernel) ⟨Nat.le_of_ble_eq_true rfl, Nat.le_of_ble_eq_true rfl⟩) hK (hP.sub [] rfl) rfl hl.1 rfl (Nat.le_of_ble_eq_true rfl) ⟨Nat.zero_le _, Nat.zero_le _⟩ dX4_size_10 ?_
    refine lv_goto (tgt := 36) hx hb dX4_size_13 (by decide) ?_
    exact jn1 (100 ≤ v ∧ v ≤ 5000) (by first | exact ⟨fun z => Or.inl ⟨c1, z⟩, fun z => by omega⟩ | exact ⟨fun _ => Or.inr ⟨c18, c28⟩, fun _ => trivial⟩ | exact ⟨fun z => z.elim, fun z => by omega⟩)
end
