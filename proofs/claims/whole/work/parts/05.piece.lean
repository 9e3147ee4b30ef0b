/-! the contracts of BreakLines$Piece -/
noncomputable section
set_option maxHeartbeats 4000000 in
set_option maxRecDepth 100000 in
theorem kX0_hasBar (l : Launch) (D : va_G) (cI cJ cZ : ClassId) (q : Nat → Nat) (σ : Sg) (la wa : Int → Int) (mk : Nat → Int32) (hok : okP σ la wa mk) (a : Int) (ha : i32 a) : RoI l yX0_hasBar wsX0_hasBar 0 0 D (tyc cI cJ cZ) (wPc q cI (sNb σ) (sWd σ) (sPp σ) (sCt σ) (sCs σ) mk la wa) [.ref (q 0), .int (jI a)] (jZ (0 ≤ a ∧ a < sNb σ)) := by
  refine j_start RX0 rfl (by decide) rfl (Nat.le_of_ble_eq_true rfl) ?_
  intro p e s m below meth c ls hx hb hr hlocks hml hown hts hnm hl ⟨hP, hK⟩
  have hP : va_P D vwCl (wPc q cI (sNb σ) (sWd σ) (sPp σ) (sCt σ) (sCs σ) mk la wa) s.heap := hP
  have hl : lv_has ls 2 [(0, .ref (q 0)), (1, .int (jI a))] := hl
  have hinX0 : ∀ w ∈ u_ws RX0 TX0 8, w ∈ wsX0_hasBar := by decide +kernel
  have hS0 := hok.1
  have hnb := hS0.1
  have hwd := hS0.2.1
  have hpp := hS0.2.2.1
  unfold i32 at ha
  refine lv_iload_n hx hb dX0_hasBar_0 rfl (lv_at hl 1 rfl) ?_
  refine j_if_lt (tgt := 16) hx hb (by unfold i32; omega) dX0_hasBar_1 (by decide) (fun c1 => ?_) (fun c1 => ?_)
  · skip
    refine j_iconst hx hb dX0_hasBar_16 ?_
    exact j_retZ hx hb hr (by decide) hlocks dX0_hasBar_17 ((jZ_f (by omega)).symm)
  · skip
    refine lv_iload_n hx hb dX0_hasBar_4 rfl (lv_at hl 1 rfl) ?_
    refine lv_aload_n hx hb dX0_hasBar_5 rfl (lv_at hl 0 rfl) ?_
    refine va_get (D := D) (ci := 0) (v := .int (jI (sNb σ))) (C := RX0) (T := TX0) (N := 8) hx hb hts hinX0 hown hK hP 0 rfl rfl 0 (by decide) (hts (.fieldLink RX0 9 "BreakLines$Piece" "bars" "I") (by decide +kernel)) (fun _ h9 => h9) rfl dX0_hasBar_6 ?_
    refine j_icmp_ge (tgt := 16) hx hb (by unfold i32; omega) dX0_hasBar_9 (by decide) (fun c9 => ?_) (fun c9 => ?_)
    · skip
      refine j_iconst hx hb dX0_hasBar_16 ?_
      exact j_retZ hx hb hr (by decide) hlocks dX0_hasBar_17 ((jZ_f (by omega)).symm)
    · skip
      refine j_iconst hx hb dX0_hasBar_12 ?_
      refine lv_goto (tgt := 17) hx hb dX0_hasBar_13 (by decide) ?_
      exact j_retZ hx hb hr (by decide) hlocks dX0_hasBar_17 ((jZ_t (by omega)).symm)
set_option maxHeartbeats 4000000 in
set_option maxRecDepth 100000 in
theorem kX0_isMarked (l : Launch) (D : va_G) (cI cJ cZ : ClassId) (q : Nat → Nat) (σ : Sg) (la wa : Int → Int) (mk : Nat → Int32) (hok : okP σ la wa mk) (a m0 : Int) (h : (0 ≤ a ∧ a < 24) ∧ 0 ≤ m0 ∧ m0 < 3) : RoI l yX0_isMarked wsX0_isMarked 0 0 D (tyc cI cJ cZ) (wPc q cI (sNb σ) (sWd σ) (sPp σ) (sCt σ) (sCs σ) mk la wa) [.ref (q 0), .int (jI a), .int (jI m0)] (jZ (sM σ (3 * a + m0) = true)) := by
  refine j_start RX0 rfl (by decide) rfl (Nat.le_of_ble_eq_true rfl) ?_
  intro p e s m below meth c ls hx hb hr hlocks hml hown hts hnm hl ⟨hP, hK⟩
  have hP : va_P D vwCl (wPc q cI (sNb σ) (sWd σ) (sPp σ) (sCt σ) (sCs σ) mk la wa) s.heap := hP
  have hl : lv_has ls 3 [(0, .ref (q 0)), (1, .int (jI a)), (2, .int (jI m0))] := hl
  have hinX0 : ∀ w ∈ u_ws RX0 TX0 8, w ∈ wsX0_isMarked := by decide +kernel
  have e5 := hok.2.2 m0.toNat a.toNat (by omega) (by omega)
  rw [show (3 * (a.toNat : Int) + (m0.toNat : Int)) = 3 * a + m0 by omega] at e5
  refine lv_aload_n hx hb dX0_isMarked_0 rfl (lv_at hl 0 rfl) ?_
  refine va_get (D := D) (ci := 0) (v := .ref (q 2)) (C := RX0) (T := TX0) (N := 8) hx hb hts hinX0 hown hK hP 0 rfl rfl 5 (by decide) (hts (.fieldLink RX0 29 "BreakLines$Piece" "marked" "[I") (by decide +kernel)) (fun _ h9 => h9) rfl dX0_isMarked_1 ?_
  refine lv_iload_n hx hb dX0_isMarked_4 rfl (lv_at hl 2 rfl) ?_
  refine j_ialdR hx hb hK hP 2 0 rfl rfl (i := m0) (by omega) (by decide) dX0_isMarked_5 ?_
  refine lv_iload_n hx hb dX0_isMarked_6 rfl (lv_at hl 1 rfl) ?_
  refine lv_ishr hx hb dX0_isMarked_7 ?_
  refine j_iconst hx hb dX0_isMarked_8 ?_
  refine lv_iand hx hb dX0_isMarked_9 ?_
  refine j_iconst hx hb dX0_isMarked_10 ?_
  refine lv_icmp_ne (tgt := 18) hx hb dX0_isMarked_11 (by decide) (fun c11 => ?_) (fun c11 => ?_)
  · skip
    refine j_iconst hx hb dX0_isMarked_18 ?_
    exact j_retZ hx hb hr (by decide) hlocks dX0_isMarked_19 ((jZ_f (by rw [← e5]; first | exact (bt_mark _ (by omega) (by omega)).mp c11 | exact fun z => c11 ((bt_mark _ (by omega) (by omega)).mpr z))).symm)
  · skip
    refine j_iconst hx hb dX0_isMarked_14 ?_
    refine lv_goto (tgt := 19) hx hb dX0_isMarked_15 (by decide) ?_
    exact j_retZ hx hb hr (by decide) hlocks dX0_isMarked_19 ((jZ_t (by rw [← e5]; first | exact (bt_mark _ (by omega) (by omega)).mp c11 | exact fun z => c11 ((bt_mark _ (by omega) (by omega)).mpr z))).symm)
set_option maxHeartbeats 4000000 in
set_option maxRecDepth 100000 in
theorem kX0_leastOf (l : Launch) (D : va_G) (cI cJ cZ : ClassId) (q : Nat → Nat) (σ : Sg) (la wa : Int → Int) (mk : Nat → Int32) (hok : okP σ la wa mk) (a b : Int) (h : 0 ≤ a ∧ a ≤ b ∧ b < sNb σ) : RoI l yX0_leastOf wsX0_leastOf 0 0 D (tyc cI cJ cZ) (wPc q cI (sNb σ) (sWd σ) (sPp σ) (sCt σ) (sCs σ) mk la wa) [.ref (q 0), .int (jI a), .int (jI b)] (jI (tot (sLs σ) a b)) := by
  refine j_start RX0 rfl (by decide) rfl (Nat.le_of_ble_eq_true rfl) ?_
  intro p e s m below meth c ls hx hb hr hlocks hml hown hts hnm hl ⟨hP, hK⟩
  have hP : va_P D vwCl (wPc q cI (sNb σ) (sWd σ) (sPp σ) (sCt σ) (sCs σ) mk la wa) s.heap := hP
  have hl : lv_has ls 3 [(0, .ref (q 0)), (1, .int (jI a)), (2, .int (jI b))] := hl
  have hinX0 : ∀ w ∈ u_ws RX0 TX0 8, w ∈ wsX0_leastOf := by decide +kernel
  have hS0 := hok.1
  have hnb := hS0.1
  have hwd := hS0.2.1
  have hpp := hS0.2.2.1
  have e1 := hok.2.1 (b + 1) (by omega) (by omega)
  have e2 := hok.2.1 a (by omega) (by omega)
  have e3 := preB hS0 (a := a) (b := b + 1) (by omega) (by omega) (by omega)
  have e4 := preB hS0 (a := 0) (b := a) (by omega) (by omega) (by omega)
  rw [pre_0, pre_0] at e4
  refine lv_aload_n hx hb dX0_leastOf_0 rfl (lv_at hl 0 rfl) ?_
  refine va_get (D := D) (ci := 0) (v := .ref (q 3)) (C := RX0) (T := TX0) (N := 8) hx hb hts hinX0 hown hK hP 0 rfl rfl 6 (by decide) (hts (.fieldLink RX0 32 "BreakLines$Piece" "leastAhead" "[I") (by decide +kernel)) (fun _ h9 => h9) rfl dX0_leastOf_1 ?_
  refine lv_iload_n hx hb dX0_leastOf_4 rfl (lv_at hl 2 rfl) ?_
  refine j_iconst hx hb dX0_leastOf_5 ?_
  refine j_iadd hx hb dX0_leastOf_6 ?_
  refine j_iald hx hb hK hP 3 0 rfl rfl (i := b + 1) (by omega) (by decide) dX0_leastOf_7 ?_
  refine lv_aload_n hx hb dX0_leastOf_8 rfl (lv_at hl 0 rfl) ?_
  refine va_get (D := D) (ci := 0) (v := .ref (q 3)) (C := RX0) (T := TX0) (N := 8) hx hb hts hinX0 hown hK hP 0 rfl rfl 6 (by decide) (hts (.fieldLink RX0 32 "BreakLines$Piece" "leastAhead" "[I") (by decide +kernel)) (fun _ h9 => h9) rfl dX0_leastOf_9 ?_
  refine lv_iload_n hx hb dX0_leastOf_12 rfl (lv_at hl 1 rfl) ?_
  refine j_iald hx hb hK hP 3 0 rfl rfl (i := a) (by omega) (by decide) dX0_leastOf_13 ?_
  refine j_isub hx hb dX0_leastOf_14 ?_
  exact j_retI hx hb hr hlocks dX0_leastOf_15 (congrArg jI (by unfold tot; omega))
set_option maxHeartbeats 4000000 in
set_option maxRecDepth 100000 in
theorem kX0_wishedOf (l : Launch) (D : va_G) (cI cJ cZ : ClassId) (q : Nat → Nat) (σ : Sg) (la wa : Int → Int) (mk : Nat → Int32) (hok : okP σ la wa mk) (a b : Int) (h : 0 ≤ a ∧ a ≤ b ∧ b < sNb σ) : RoI l yX0_wishedOf wsX0_wishedOf 0 0 D (tyc cI cJ cZ) (wPc q cI (sNb σ) (sWd σ) (sPp σ) (sCt σ) (sCs σ) mk la wa) [.ref (q 0), .int (jI a), .int (jI b)] (jI (tot (sWs σ) a b)) := by
  refine j_start RX0 rfl (by decide) rfl (Nat.le_of_ble_eq_true rfl) ?_
  intro p e s m below meth c ls hx hb hr hlocks hml hown hts hnm hl ⟨hP, hK⟩
  have hP : va_P D vwCl (wPc q cI (sNb σ) (sWd σ) (sPp σ) (sCt σ) (sCs σ) mk la wa) s.heap := hP
  have hl : lv_has ls 3 [(0, .ref (q 0)), (1, .int (jI a)), (2, .int (jI b))] := hl
  have hinX0 : ∀ w ∈ u_ws RX0 TX0 8, w ∈ wsX0_wishedOf := by decide +kernel
  have hS0 := hok.1
  have hnb := hS0.1
  have hwd := hS0.2.1
  have hpp := hS0.2.2.1
  have e1 := hok.2.1 (b + 1) (by omega) (by omega)
  have e2 := hok.2.1 a (by omega) (by omega)
  have e3 := preB hS0 (a := a) (b := b + 1) (by omega) (by omega) (by omega)
  have e4 := preB hS0 (a := 0) (b := a) (by omega) (by omega) (by omega)
  rw [pre_0, pre_0] at e4
  refine lv_aload_n hx hb dX0_wishedOf_0 rfl (lv_at hl 0 rfl) ?_
  refine va_get (D := D) (ci := 0) (v := .ref (q 4)) (C := RX0) (T := TX0) (N := 8) hx hb hts hinX0 hown hK hP 0 rfl rfl 7 (by decide) (hts (.fieldLink RX0 35 "BreakLines$Piece" "wishedAhead" "[I") (by decide +kernel)) (fun _ h9 => h9) rfl dX0_wishedOf_1 ?_
  refine lv_iload_n hx hb dX0_wishedOf_4 rfl (lv_at hl 2 rfl) ?_
  refine j_iconst hx hb dX0_wishedOf_5 ?_
  refine j_iadd hx hb dX0_wishedOf_6 ?_
  refine j_iald hx hb hK hP 4 0 rfl rfl (i := b + 1) (by omega) (by decide) dX0_wishedOf_7 ?_
  refine lv_aload_n hx hb dX0_wishedOf_8 rfl (lv_at hl 0 rfl) ?_
  refine va_get (D := D) (ci := 0) (v := .ref (q 4)) (C := RX0) (T := TX0) (N := 8) hx hb hts hinX0 hown hK hP 0 rfl rfl 7 (by decide) (hts (.fieldLink RX0 35 "BreakLines$Piece" "wishedAhead" "[I") (by decide +kernel)) (fun _ h9 => h9) rfl dX0_wishedOf_9 ?_
  refine lv_iload_n hx hb dX0_wishedOf_12 rfl (lv_at hl 1 rfl) ?_
  refine j_iald hx hb hK hP 4 0 rfl rfl (i := a) (by omega) (by decide) dX0_wishedOf_13 ?_
  refine j_isub hx hb dX0_wishedOf_14 ?_
  exact j_retI hx hb hr hlocks dX0_wishedOf_15 (congrArg jI (by unfold tot; omega))
set_option maxHeartbeats 4000000 in
set_option maxRecDepth 100000 in
theorem kX0_spare (l : Launch) (D : va_G) (cI cJ cZ : ClassId) (q : Nat → Nat) (σ : Sg) (la wa : Int → Int) (mk : Nat → Int32) (hok : okP σ la wa mk) (a b : Int) (h : 0 ≤ a ∧ a ≤ b ∧ b < sNb σ) : RoI l yX0_spare wsX0_spare 1 22 D (tyc cI cJ cZ) (wPc q cI (sNb σ) (sWd σ) (sPp σ) (sCt σ) (sCs σ) mk la wa) [.ref (q 0), .int (jI a), .int (jI b)] (jI (dd σ a b)) := by
  refine j_start RX0 rfl (by decide) rfl (Nat.le_of_ble_eq_true rfl) ?_
  intro p e s m below meth c ls hx hb hr hlocks hml hown hts hnm hl ⟨hP, hK⟩
  have hP : va_P D vwCl (wPc q cI (sNb σ) (sWd σ) (sPp σ) (sCt σ) (sCs σ) mk la wa) s.heap := hP
  have hl : lv_has ls 3 [(0, .ref (q 0)), (1, .int (jI a)), (2, .int (jI b))] := hl
  have hinX0 : ∀ w ∈ u_ws RX0 TX0 8, w ∈ wsX0_spare := by decide +kernel
  have hS0 := hok.1
  have hnb := hS0.1
  have hwd := hS0.2.1
  have hpp := hS0.2.2.1
  have e1 := hok.2.1 (b + 1) (by omega) (by omega)
  have e2 := hok.2.1 a (by omega) (by omega)
  have e3 := preB hS0 (a := a) (b := b + 1) (by omega) (by omega) (by omega)
  have e4 := preB hS0 (a := 0) (b := a) (by omega) (by omega) (by omega)
  rw [pre_0, pre_0] at e4
  refine lv_aload_n hx hb dX0_spare_0 rfl (lv_at hl 0 rfl) ?_
  refine va_get (D := D) (ci := 0) (v := .int (jI (sWd σ))) (C := RX0) (T := TX0) (N := 8) hx hb hts hinX0 hown hK hP 0 rfl rfl 1 (by decide) (hts (.fieldLink RX0 15 "BreakLines$Piece" "width" "I") (by decide +kernel)) (fun _ h9 => h9) rfl dX0_spare_1 ?_
  refine lv_aload_n hx hb dX0_spare_4 rfl (lv_at hl 0 rfl) ?_
  refine lv_iload_n hx hb dX0_spare_5 rfl (lv_at hl 1 rfl) ?_
  refine lv_iload_n hx hb dX0_spare_6 rfl (lv_at hl 2 rfl) ?_
  refine j_cVI (As := [.int (jI a), .int (jI b)]) (rest := [.int (jI (sWd σ))]) ⟨hx, hb, hml, hown, hts⟩ (kX0_wishedOf l D cI cJ cZ q σ la wa mk hok a b (by omega)) (cwV 2 hts gX0_spare_X0_wishedOf rfl rfl rfl (by decide +kernel) ⟨Nat.le_of_ble_eq_true rfl, Nat.le_of_ble_eq_true rfl⟩) hK hP (va_recv hK hP (ci := 0) (q0 := 0) rfl rfl) rfl hl.1 rfl (Nat.le_of_ble_eq_true rfl) ⟨Nat.zero_le _, Nat.zero_le _⟩ dX0_spare_7 ?_
  refine j_isub hx hb dX0_spare_10 ?_
  exact j_retI hx hb hr hlocks dX0_spare_11 rfl
set_option maxHeartbeats 4000000 in
set_option maxRecDepth 100000 in
theorem kX0_isOver (l : Launch) (D : va_G) (cI cJ cZ : ClassId) (q : Nat → Nat) (σ : Sg) (la wa : Int → Int) (mk : Nat → Int32) (hok : okP σ la wa mk) (a b : Int) (h : 0 ≤ a ∧ a ≤ b ∧ b < sNb σ) : RoI l yX0_isOver wsX0_isOver 0 0 D (tyc cI cJ cZ) (wPc q cI (sNb σ) (sWd σ) (sPp σ) (sCt σ) (sCs σ) mk la wa) [.ref (q 0), .int (jI a), .int (jI b)] (jZ (sWd σ < tot (sLs σ) a b)) := by
  refine j_start RX0 rfl (by decide) rfl (Nat.le_of_ble_eq_true rfl) ?_
  intro p e s m below meth c ls hx hb hr hlocks hml hown hts hnm hl ⟨hP, hK⟩
  have hP : va_P D vwCl (wPc q cI (sNb σ) (sWd σ) (sPp σ) (sCt σ) (sCs σ) mk la wa) s.heap := hP
  have hl : lv_has ls 3 [(0, .ref (q 0)), (1, .int (jI a)), (2, .int (jI b))] := hl
  have hinX0 : ∀ w ∈ u_ws RX0 TX0 8, w ∈ wsX0_isOver := by decide +kernel
  have hS0 := hok.1
  have hnb := hS0.1
  have hwd := hS0.2.1
  have hpp := hS0.2.2.1
  have e1 := hok.2.1 (b + 1) (by omega) (by omega)
  have e2 := hok.2.1 a (by omega) (by omega)
  have e3 := preB hS0 (a := a) (b := b + 1) (by omega) (by omega) (by omega)
  have e4 := preB hS0 (a := 0) (b := a) (by omega) (by omega) (by omega)
  rw [pre_0, pre_0] at e4
  refine lv_aload_n hx hb dX0_isOver_0 rfl (lv_at hl 0 rfl) ?_
  refine va_get (D := D) (ci := 0) (v := .ref (q 3)) (C := RX0) (T := TX0) (N := 8) hx hb hts hinX0 hown hK hP 0 rfl rfl 6 (by decide) (hts (.fieldLink RX0 32 "BreakLines$Piece" "leastAhead" "[I") (by decide +kernel)) (fun _ h9 => h9) rfl dX0_isOver_1 ?_
  refine lv_iload_n hx hb dX0_isOver_4 rfl (lv_at hl 2 rfl) ?_
  refine j_iconst hx hb dX0_isOver_5 ?_
  refine j_iadd hx hb dX0_isOver_6 ?_
  refine j_iald hx hb hK hP 3 0 rfl rfl (i := b + 1) (by omega) (by decide) dX0_isOver_7 ?_
  refine lv_aload_n hx hb dX0_isOver_8 rfl (lv_at hl 0 rfl) ?_
  refine va_get (D := D) (ci := 0) (v := .ref (q 3)) (C := RX0) (T := TX0) (N := 8) hx hb hts hinX0 hown hK hP 0 rfl rfl 6 (by decide) (hts (.fieldLink RX0 32 "BreakLines$Piece" "leastAhead" "[I") (by decide +kernel)) (fun _ h9 => h9) rfl dX0_isOver_9 ?_
  refine lv_iload_n hx hb dX0_isOver_12 rfl (lv_at hl 1 rfl) ?_
  refine j_iald hx hb hK hP 3 0 rfl rfl (i := a) (by omega) (by decide) dX0_isOver_13 ?_
  refine j_isub hx hb dX0_isOver_14 ?_
  refine lv_aload_n hx hb dX0_isOver_15 rfl (lv_at hl 0 rfl) ?_
  refine va_get (D := D) (ci := 0) (v := .int (jI (sWd σ))) (C := RX0) (T := TX0) (N := 8) hx hb hts hinX0 hown hK hP 0 rfl rfl 1 (by decide) (hts (.fieldLink RX0 15 "BreakLines$Piece" "width" "I") (by decide +kernel)) (fun _ h9 => h9) rfl dX0_isOver_16 ?_
  refine j_icmp_le (tgt := 26) hx hb (by unfold i32; omega) dX0_isOver_19 (by decide) (fun c19 => ?_) (fun c19 => ?_)
  · skip
    refine j_iconst hx hb dX0_isOver_26 ?_
    exact j_retZ hx hb hr (by decide) hlocks dX0_isOver_27 ((jZ_f (by unfold tot; omega)).symm)
  · skip
    refine j_iconst hx hb dX0_isOver_22 ?_
    refine lv_goto (tgt := 27) hx hb dX0_isOver_23 (by decide) ?_
    exact j_retZ hx hb hr (by decide) hlocks dX0_isOver_27 ((jZ_t (by unfold tot; omega)).symm)
set_option maxHeartbeats 4000000 in
set_option maxRecDepth 100000 in
theorem kX0_mayBe (l : Launch) (D : va_G) (cI cJ cZ : ClassId) (q : Nat → Nat) (σ : Sg) (la wa : Int → Int) (mk : Nat → Int32) (hok : okP σ la wa mk) (a b : Int) (h : 0 ≤ a ∧ a ≤ b ∧ b < sNb σ) : RoI l yX0_mayBe wsX0_mayBe 1 22 D (tyc cI cJ cZ) (wPc q cI (sNb σ) (sWd σ) (sPp σ) (sCt σ) (sCs σ) mk la wa) [.ref (q 0), .int (jI a), .int (jI b)] (jZ (may σ a b)) := by
  refine j_start RX0 rfl (by decide) rfl (Nat.le_of_ble_eq_true rfl) ?_
  intro p e s m below meth c ls hx hb hr hlocks hml hown hts hnm hl ⟨hP, hK⟩
  have hP : va_P D vwCl (wPc q cI (sNb σ) (sWd σ) (sPp σ) (sCt σ) (sCs σ) mk la wa) s.heap := hP
  have hl : lv_has ls 4 [(0, .ref (q 0)), (1, .int (jI a)), (2, .int (jI b))] := hl
  have hinX0 : ∀ w ∈ u_ws RX0 TX0 8, w ∈ wsX0_mayBe := by decide +kernel
  have hS0 := hok.1
  have hnb := hS0.1
  have hwd := hS0.2.1
  have hpp := hS0.2.2.1
  have e1 := hok.2.1 (b + 1) (by omega) (by omega)
  have e2 := hok.2.1 a (by omega) (by omega)
  have e3 := preB hS0 (a := a) (b := b + 1) (by omega) (by omega) (by omega)
  have e4 := preB hS0 (a := 0) (b := a) (by omega) (by omega) (by omega)
  rw [pre_0, pre_0] at e4
  have ek : ∀ k : Int, a ≤ k → k < b → bt (mk (Int.toNat 0)) k.toNat = sM σ (3 * k) := fun k h1 h2 => by
    have e5 := hok.2.2 0 k.toNat (by omega) (by omega)
    rw [show (3 * (k.toNat : Int) + ((0 : Nat) : Int)) = 3 * k by omega] at e5
    exact e5
  refine j_iconst hx hb dX0_mayBe_0 ?_
  refine lv_iload_n hx hb dX0_mayBe_1 rfl (lv_at hl 2 rfl) ?_
  refine lv_ishl hx hb dX0_mayBe_2 ?_
  refine j_topi (y := (jI (2 ^ b.toNat))) (jI_bit (by omega) (by omega)) ?_
  refine j_iconst hx hb dX0_mayBe_3 ?_
  refine lv_iload_n hx hb dX0_mayBe_4 rfl (lv_at hl 1 rfl) ?_
  refine lv_ishl hx hb dX0_mayBe_5 ?_
  refine j_topi (y := (jI (2 ^ a.toNat))) (jI_bit (by omega) (by omega)) ?_
  refine j_isub hx hb dX0_mayBe_6 ?_
  refine lv_istore_n (lv' := [(3, .int (jI ((2 ^ b.toNat) - (2 ^ a.toNat)))), (0, .ref (q 0)), (1, .int (jI a)), (2, .int (jI b))]) hx hb dX0_mayBe_7 rfl hl (by decide) rfl (fun ls hl => ?_)
  refine lv_aload_n hx hb dX0_mayBe_8 rfl (lv_at hl 1 rfl) ?_
  refine va_get (D := D) (ci := 0) (v := .ref (q 2)) (C := RX0) (T := TX0) (N := 8) hx hb hts hinX0 hown hK hP 0 rfl rfl 5 (by decide) (hts (.fieldLink RX0 29 "BreakLines$Piece" "marked" "[I") (by decide +kernel)) (fun _ h9 => h9) rfl dX0_mayBe_9 ?_
  refine j_iconst hx hb dX0_mayBe_12 ?_
  refine j_ialdR hx hb hK hP 2 0 rfl rfl (i := 0) (by omega) (by decide) dX0_mayBe_13 ?_
  refine lv_iload_n hx hb dX0_mayBe_14 rfl (lv_at hl 0 rfl) ?_
  refine lv_iand hx hb dX0_mayBe_15 ?_
  refine lv_if_eq (tgt := 21) hx hb dX0_mayBe_16 (by decide) (fun c16 => ?_) (fun c16 => ?_)
  · skip
    refine lv_aload_n hx hb dX0_mayBe_21 rfl (lv_at hl 1 rfl) ?_
    refine lv_iload_n hx hb dX0_mayBe_22 rfl (lv_at hl 3 rfl) ?_
    refine j_iconst hx hb dX0_mayBe_23 ?_
    refine j_cVI (As := [.int (jI b), .int (jI 1)]) (rest := []) ⟨hx, hb, hml, hown, hts⟩ (kX0_isMarked l D cI cJ cZ q σ la wa mk hok b 1 (by omega)) (cwV 2 hts gX0_mayBe_X0_isMarked rfl rfl rfl (by decide +kernel) ⟨Nat.le_of_ble_eq_true rfl, Nat.le_of_ble_eq_true rfl⟩) hK hP (va_recv hK hP (ci := 0) (q0 := 0) rfl rfl) rfl hl.1 rfl (Nat.le_of_ble_eq_true rfl) ⟨Nat.zero_le _, Nat.zero_le _⟩ dX0_mayBe_24 ?_
    refine j_ifeqZ (tgt := 51) hx hb dX0_mayBe_27 (by decide) (fun c27 => ?_) (fun c27 => ?_)
    · skip
      refine lv_iload_n hx hb dX0_mayBe_51 rfl (lv_at hl 2 rfl) ?_
      refine lv_iload_n hx hb dX0_mayBe_52 rfl (lv_at hl 3 rfl) ?_
      refine j_icmp_eq (tgt := 65) hx hb (by unfold i32; omega) dX0_mayBe_53 (by decide) (fun c53 => ?_) (fun c53 => ?_)
      · skip
        refine j_iconst hx hb dX0_mayBe_65 ?_
        refine lv_goto (tgt := 70) hx hb dX0_mayBe_66 (by decide) ?_
        exact j_retZ hx hb hr (by decide) hlocks dX0_mayBe_70 ((jZ_t ⟨(fun k h1 h2 => by have z := (bt_may (by omega) (by omega) (by omega)).mp c16 k h1 h2; rw [ek k h1 h2] at z; exact z), (by first | (left; simp_all; done) | (right; left; simp_all; done) | (right; right; omega)), (by first | exact Or.inl c53 | exact Or.inr c62)⟩).symm)
      · skip
        refine lv_aload_n hx hb dX0_mayBe_56 rfl (lv_at hl 1 rfl) ?_
        refine lv_iload_n hx hb dX0_mayBe_57 rfl (lv_at hl 2 rfl) ?_
        refine lv_iload_n hx hb dX0_mayBe_58 rfl (lv_at hl 3 rfl) ?_
        refine j_cVI (As := [.int (jI a), .int (jI b)]) (rest := []) ⟨hx, hb, hml, hown, hts⟩ (kX0_isOver l D cI cJ cZ q σ la wa mk hok a b (by omega)) (cwV 2 hts gX0_mayBe_X0_isOver rfl rfl rfl (by decide +kernel) ⟨Nat.le_of_ble_eq_true rfl, Nat.le_of_ble_eq_true rfl⟩) hK hP (va_recv hK hP (ci := 0) (q0 := 0) rfl rfl) rfl hl.1 rfl (Nat.le_of_ble_eq_true rfl) ⟨Nat.zero_le _, Nat.zero_le _⟩ dX0_mayBe_59 ?_
        refine j_ifneZ (tgt := 69) hx hb dX0_mayBe_62 (by decide) (fun c62 => ?_) (fun c62 => ?_)
        · skip
          refine j_iconst hx hb dX0_mayBe_69 ?_
          exact j_retZ hx hb hr (by decide) hlocks dX0_mayBe_70 ((jZ_f (fun z => by rcases z.2.2 with q | q <;> simp_all)).symm)
        · skip
          refine j_iconst hx hb dX0_mayBe_65 ?_
          refine lv_goto (tgt := 70) hx hb dX0_mayBe_66 (by decide) ?_
          exact j_retZ hx hb hr (by decide) hlocks dX0_mayBe_70 ((jZ_t ⟨(fun k h1 h2 => by have z := (bt_may (by omega) (by omega) (by omega)).mp c16 k h1 h2; rw [ek k h1 h2] at z; exact z), (by first | (left; simp_all; done) | (right; left; simp_all; done) | (right; right; omega)), (by first | exact Or.inl c53 | exact Or.inr c62)⟩).symm)
    · skip
      refine lv_aload_n hx hb dX0_mayBe_30 rfl (lv_at hl 1 rfl) ?_
      refine lv_iload_n hx hb dX0_mayBe_31 rfl (lv_at hl 3 rfl) ?_
      refine j_iconst hx hb dX0_mayBe_32 ?_
      refine j_cVI (As := [.int (jI b), .int (jI 0)]) (rest := []) ⟨hx, hb, hml, hown, hts⟩ (kX0_isMarked l D cI cJ cZ q σ la wa mk hok b 0 (by omega)) (cwV 2 hts gX0_mayBe_X0_isMarked rfl rfl rfl (by decide +kernel) ⟨Nat.le_of_ble_eq_true rfl, Nat.le_of_ble_eq_true rfl⟩) hK hP (va_recv hK hP (ci := 0) (q0 := 0) rfl rfl) rfl hl.1 rfl (Nat.le_of_ble_eq_true rfl) ⟨Nat.zero_le _, Nat.zero_le _⟩ dX0_mayBe_33 ?_
      refine j_ifneZ (tgt := 51) hx hb dX0_mayBe_36 (by decide) (fun c36 => ?_) (fun c36 => ?_)
      · skip
        refine lv_iload_n hx hb dX0_mayBe_51 rfl (lv_at hl 2 rfl) ?_
        refine lv_iload_n hx hb dX0_mayBe_52 rfl (lv_at hl 3 rfl) ?_
        refine j_icmp_eq (tgt := 65) hx hb (by unfold i32; omega) dX0_mayBe_53 (by decide) (fun c53 => ?_) (fun c53 => ?_)
        · skip
          refine j_iconst hx hb dX0_mayBe_65 ?_
          refine lv_goto (tgt := 70) hx hb dX0_mayBe_66 (by decide) ?_
          exact j_retZ hx hb hr (by decide) hlocks dX0_mayBe_70 ((jZ_t ⟨(fun k h1 h2 => by have z := (bt_may (by omega) (by omega) (by omega)).mp c16 k h1 h2; rw [ek k h1 h2] at z; exact z), (by first | (left; simp_all; done) | (right; left; simp_all; done) | (right; right; omega)), (by first | exact Or.inl c53 | exact Or.inr c62)⟩).symm)
        · skip
          refine lv_aload_n hx hb dX0_mayBe_56 rfl (lv_at hl 1 rfl) ?_
          refine lv_iload_n hx hb dX0_mayBe_57 rfl (lv_at hl 2 rfl) ?_
          refine lv_iload_n hx hb dX0_mayBe_58 rfl (lv_at hl 3 rfl) ?_
          refine j_cVI (As := [.int (jI a), .int (jI b)]) (rest := []) ⟨hx, hb, hml, hown, hts⟩ (kX0_isOver l D cI cJ cZ q σ la wa mk hok a b (by omega)) (cwV 2 hts gX0_mayBe_X0_isOver rfl rfl rfl (by decide +kernel) ⟨Nat.le_of_ble_eq_true rfl, Nat.le_of_ble_eq_true rfl⟩) hK hP (va_recv hK hP (ci := 0) (q0 := 0) rfl rfl) rfl hl.1 rfl (Nat.le_of_ble_eq_true rfl) ⟨Nat.zero_le _, Nat.zero_le _⟩ dX0_mayBe_59 ?_
          refine j_ifneZ (tgt := 69) hx hb dX0_mayBe_62 (by decide) (fun c62 => ?_) (fun c62 => ?_)
          · skip
            refine j_iconst hx hb dX0_mayBe_69 ?_
            exact j_retZ hx hb hr (by decide) hlocks dX0_mayBe_70 ((jZ_f (fun z => by rcases z.2.2 with q | q <;> simp_all)).symm)
          · skip
            refine j_iconst hx hb dX0_mayBe_65 ?_
            refine lv_goto (tgt := 70) hx hb dX0_mayBe_66 (by decide) ?_
            exact j_retZ hx hb hr (by decide) hlocks dX0_mayBe_70 ((jZ_t ⟨(fun k h1 h2 => by have z := (bt_may (by omega) (by omega) (by omega)).mp c16 k h1 h2; rw [ek k h1 h2] at z; exact z), (by first | (left; simp_all; done) | (right; left; simp_all; done) | (right; right; omega)), (by first | exact Or.inl c53 | exact Or.inr c62)⟩).symm)
      · skip
        refine lv_iload_n hx hb dX0_mayBe_39 rfl (lv_at hl 3 rfl) ?_
        refine lv_aload_n hx hb dX0_mayBe_40 rfl (lv_at hl 1 rfl) ?_
        refine va_get (D := D) (ci := 0) (v := .int (jI (sNb σ))) (C := RX0) (T := TX0) (N := 8) hx hb hts hinX0 hown hK hP 0 rfl rfl 0 (by decide) (hts (.fieldLink RX0 9 "BreakLines$Piece" "bars" "I") (by decide +kernel)) (fun _ h9 => h9) rfl dX0_mayBe_41 ?_
        refine j_iconst hx hb dX0_mayBe_44 ?_
        refine j_isub hx hb dX0_mayBe_45 ?_
        refine j_icmp_eq (tgt := 51) hx hb (by unfold i32; omega) dX0_mayBe_46 (by decide) (fun c46 => ?_) (fun c46 => ?_)
        · skip
          refine lv_iload_n hx hb dX0_mayBe_51 rfl (lv_at hl 2 rfl) ?_
          refine lv_iload_n hx hb dX0_mayBe_52 rfl (lv_at hl 3 rfl) ?_
          refine j_icmp_eq (tgt := 65) hx hb (by unfold i32; omega) dX0_mayBe_53 (by decide) (fun c53 => ?_) (fun c53 => ?_)
          · skip
            refine j_iconst hx hb dX0_mayBe_65 ?_
            refine lv_goto (tgt := 70) hx hb dX0_mayBe_66 (by decide) ?_
            exact j_retZ hx hb hr (by decide) hlocks dX0_mayBe_70 ((jZ_t ⟨(fun k h1 h2 => by have z := (bt_may (by omega) (by omega) (by omega)).mp c16 k h1 h2; rw [ek k h1 h2] at z; exact z), (by first | (left; simp_all; done) | (right; left; simp_all; done) | (right; right; omega)), (by first | exact Or.inl c53 | exact Or.inr c62)⟩).symm)
          · skip
            refine lv_aload_n hx hb dX0_mayBe_56 rfl (lv_at hl 1 rfl) ?_
            refine lv_iload_n hx hb dX0_mayBe_57 rfl (lv_at hl 2 rfl) ?_
            refine lv_iload_n hx hb dX0_mayBe_58 rfl (lv_at hl 3 rfl) ?_
            refine j_cVI (As := [.int (jI a), .int (jI b)]) (rest := []) ⟨hx, hb, hml, hown, hts⟩ (kX0_isOver l D cI cJ cZ q σ la wa mk hok a b (by omega)) (cwV 2 hts gX0_mayBe_X0_isOver rfl rfl rfl (by decide +kernel) ⟨Nat.le_of_ble_eq_true rfl, Nat.le_of_ble_eq_true rfl⟩) hK hP (va_recv hK hP (ci := 0) (q0 := 0) rfl rfl) rfl hl.1 rfl (Nat.le_of_ble_eq_true rfl) ⟨Nat.zero_le _, Nat.zero_le _⟩ dX0_mayBe_59 ?_
            refine j_ifneZ (tgt := 69) hx hb dX0_mayBe_62 (by decide) (fun c62 => ?_) (fun c62 => ?_)
            · skip
              refine j_iconst hx hb dX0_mayBe_69 ?_
              exact j_retZ hx hb hr (by decide) hlocks dX0_mayBe_70 ((jZ_f (fun z => by rcases z.2.2 with q | q <;> simp_all)).symm)
            · skip
              refine j_iconst hx hb dX0_mayBe_65 ?_
              refine lv_goto (tgt := 70) hx hb dX0_mayBe_66 (by decide) ?_
              exact j_retZ hx hb hr (by decide) hlocks dX0_mayBe_70 ((jZ_t ⟨(fun k h1 h2 => by have z := (bt_may (by omega) (by omega) (by omega)).mp c16 k h1 h2; rw [ek k h1 h2] at z; exact z), (by first | (left; simp_all; done) | (right; left; simp_all; done) | (right; right; omega)), (by first | exact Or.inl c53 | exact Or.inr c62)⟩).symm)
        · skip
          refine j_iconst hx hb dX0_mayBe_49 ?_
          exact j_retZ hx hb hr (by decide) hlocks dX0_mayBe_50 ((jZ_f (fun z => by rcases z.2.1 with q | q | q <;> simp_all)).symm)
  · skip
    refine j_iconst hx hb dX0_mayBe_19 ?_
    exact j_retZ hx hb hr (by decide) hlocks dX0_mayBe_20 ((jZ_f (fun z => c16 ((bt_may (by omega) (by omega) (by omega)).mpr (fun k h1 h2 => by rw [ek k h1 h2]; exact z.1 k h1 h2)))).symm)
set_option maxHeartbeats 4000000 in
set_option maxRecDepth 100000 in
theorem kX0_linePrice (l : Launch) (D : va_G) (cI cJ cZ : ClassId) (q : Nat → Nat) (σ : Sg) (la wa : Int → Int) (mk : Nat → Int32) (hok : okP σ la wa mk) (a b : Int) (h : 0 ≤ a ∧ a ≤ b ∧ b < sNb σ) : RoL l yX0_linePrice wsX0_linePrice 2 45 D (tyc cI cJ cZ) (wPc q cI (sNb σ) (sWd σ) (sPp σ) (sCt σ) (sCs σ) mk la wa) [.ref (q 0), .int (jI a), .int (jI b)] (jL (lpr σ a b)) := by
  refine j_start RX0 rfl (by decide) rfl (Nat.le_of_ble_eq_true rfl) ?_
  intro p e s m below meth c ls hx hb hr hlocks hml hown hts hnm hl ⟨hP, hK⟩
  have hP : va_P D vwCl (wPc q cI (sNb σ) (sWd σ) (sPp σ) (sCt σ) (sCs σ) mk la wa) s.heap := hP
  have hl : lv_has ls 5 [(0, .ref (q 0)), (1, .int (jI a)), (2, .int (jI b))] := hl
  have hinX0 : ∀ w ∈ u_ws RX0 TX0 8, w ∈ wsX0_linePrice := by decide +kernel
  have hS0 := hok.1
  have hnb := hS0.1
  have hwd := hS0.2.1
  have hpp := hS0.2.2.1
  have e1 := hok.2.1 (b + 1) (by omega) (by omega)
  have e2 := hok.2.1 a (by omega) (by omega)
  have e3 := preB hS0 (a := a) (b := b + 1) (by omega) (by omega) (by omega)
  have e4 := preB hS0 (a := 0) (b := a) (by omega) (by omega) (by omega)
  rw [pre_0, pre_0] at e4
  have c0 := hS0.2.2.2.2.1 0 (by omega) (by omega)
  have c3 := hS0.2.2.2.2.1 3 (by omega) (by omega)
  have c4 := hS0.2.2.2.2.1 4 (by omega) (by omega)
  have hdd : dd σ a b = sWd σ - (pre (sWs σ) (b + 1) - pre (sWs σ) a) := rfl
  refine lv_aload_n hx hb dX0_linePrice_0 rfl (lv_at hl 0 rfl) ?_
  refine lv_iload_n hx hb dX0_linePrice_1 rfl (lv_at hl 1 rfl) ?_
  refine lv_iload_n hx hb dX0_linePrice_2 rfl (lv_at hl 2 rfl) ?_
  refine j_cVI (As := [.int (jI a), .int (jI b)]) (rest := []) ⟨hx, hb, hml, hown, hts⟩ (kX0_mayBe l D cI cJ cZ q σ la wa mk hok a b (by omega)) (cwV 2 hts gX0_linePrice_X0_mayBe rfl rfl rfl (by decide +kernel) ⟨Nat.le_of_ble_eq_true rfl, Nat.le_of_ble_eq_true rfl⟩) hK hP (va_recv hK hP (ci := 0) (q0 := 0) rfl rfl) rfl hl.1 rfl (Nat.le_of_ble_eq_true rfl) ⟨Nat.zero_le _, Nat.zero_le _⟩ dX0_linePrice_3 ?_
  refine j_ifneZ (tgt := 13) hx hb dX0_linePrice_6 (by decide) (fun c6 => ?_) (fun c6 => ?_)
  · skip
    refine lv_aload_n hx hb dX0_linePrice_13 rfl (lv_at hl 0 rfl) ?_
    refine lv_iload_n hx hb dX0_linePrice_14 rfl (lv_at hl 1 rfl) ?_
    refine lv_iload_n hx hb dX0_linePrice_15 rfl (lv_at hl 2 rfl) ?_
    refine j_cVI (As := [.int (jI a), .int (jI b)]) (rest := []) ⟨hx, hb, hml, hown, hts⟩ (kX0_isOver l D cI cJ cZ q σ la wa mk hok a b (by omega)) (cwV 2 hts gX0_linePrice_X0_isOver rfl rfl rfl (by decide +kernel) ⟨Nat.le_of_ble_eq_true rfl, Nat.le_of_ble_eq_true rfl⟩) hK hP (va_recv hK hP (ci := 0) (q0 := 0) rfl rfl) rfl hl.1 rfl (Nat.le_of_ble_eq_true rfl) ⟨Nat.zero_le _, Nat.zero_le _⟩ dX0_linePrice_16 ?_
    refine j_ifeqZ (tgt := 30) hx hb dX0_linePrice_19 (by decide) (fun c19 => ?_) (fun c19 => ?_)
    · skip
      refine lv_aload_n hx hb dX0_linePrice_30 rfl (lv_at hl 0 rfl) ?_
      refine lv_iload_n hx hb dX0_linePrice_31 rfl (lv_at hl 1 rfl) ?_
      refine lv_iload_n hx hb dX0_linePrice_32 rfl (lv_at hl 2 rfl) ?_
      refine j_cVI (As := [.int (jI a), .int (jI b)]) (rest := []) ⟨hx, hb, hml, hown, hts⟩ (kX0_spare l D cI cJ cZ q σ la wa mk hok a b (by omega)) (cwV 2 hts gX0_linePrice_X0_spare rfl rfl rfl (by decide +kernel) ⟨Nat.le_of_ble_eq_true rfl, Nat.le_of_ble_eq_true rfl⟩) hK hP (va_recv hK hP (ci := 0) (q0 := 0) rfl rfl) rfl hl.1 rfl (Nat.le_of_ble_eq_true rfl) ⟨Nat.zero_le _, Nat.zero_le _⟩ dX0_linePrice_33 ?_
      refine j_i2l hx hb (by unfold i32; omega) dX0_linePrice_36 ?_
      refine lv_lstore_n (lv' := [(3, .long (jL (dd σ a b))), (0, .ref (q 0)), (1, .int (jI a)), (2, .int (jI b))]) hx hb dX0_linePrice_37 rfl hl (by decide) rfl (fun ls hl => ?_)
      refine lv_lload_n hx hb dX0_linePrice_38 rfl (lv_at hl 0 rfl) ?_
      refine j_lconst0 hx hb dX0_linePrice_39 ?_
      refine j_lcmp_ge (tgt := 56) hx hb (by unfold i64; omega) dX0_linePrice_40 dX0_linePrice_41 (by decide) (fun c40 => ?_) (fun c40 => ?_)
      · skip
        refine lv_iload_n hx hb dX0_linePrice_56 rfl (lv_at hl 3 rfl) ?_
        refine lv_aload_n hx hb dX0_linePrice_57 rfl (lv_at hl 1 rfl) ?_
        refine va_get (D := D) (ci := 0) (v := .int (jI (sNb σ))) (C := RX0) (T := TX0) (N := 8) hx hb hts hinX0 hown hK hP 0 rfl rfl 0 (by decide) (hts (.fieldLink RX0 9 "BreakLines$Piece" "bars" "I") (by decide +kernel)) (fun _ h9 => h9) rfl dX0_linePrice_58 ?_
        refine j_iconst hx hb dX0_linePrice_61 ?_
        refine j_isub hx hb dX0_linePrice_62 ?_
        refine j_icmp_ne (tgt := 70) hx hb (by unfold i32; omega) dX0_linePrice_63 (by decide) (fun c63 => ?_) (fun c63 => ?_)
        · skip
          refine lv_aload_n hx hb dX0_linePrice_70 rfl (lv_at hl 1 rfl) ?_
          refine va_get (D := D) (ci := 0) (v := .ref (q 1)) (C := RX0) (T := TX0) (N := 8) hx hb hts hinX0 hown hK hP 0 rfl rfl 4 (by decide) (hts (.fieldLink RX0 24 "BreakLines$Piece" "costs" "[I") (by decide +kernel)) (fun _ h9 => h9) rfl dX0_linePrice_71 ?_
          refine j_iconst hx hb dX0_linePrice_74 ?_
          refine j_iald hx hb hK hP 1 0 rfl rfl (i := 4) (by omega) (by decide) dX0_linePrice_75 ?_
          refine j_i2l hx hb (by unfold i32; omega) dX0_linePrice_76 ?_
          refine lv_lload_n hx hb dX0_linePrice_77 rfl (lv_at hl 0 rfl) ?_
          refine j_lmul hx hb dX0_linePrice_78 ?_
          refine lv_lload_n hx hb dX0_linePrice_79 rfl (lv_at hl 0 rfl) ?_
          refine j_lmul hx hb dX0_linePrice_80 ?_
          exact j_retL hx hb hr hlocks dX0_linePrice_81 (congrArg jL (by unfold lpr cst; rw [if_pos c6, if_neg c19, if_neg (by omega), if_neg c63]))
        · skip
          refine j_lconst0 hx hb dX0_linePrice_66 ?_
          refine lv_goto (tgt := 81) hx hb dX0_linePrice_67 (by decide) ?_
          exact j_retL hx hb hr hlocks dX0_linePrice_81 (congrArg jL (by unfold lpr cst; rw [if_pos c6, if_neg c19, if_neg (by omega), if_pos c63]))
      · skip
        refine lv_aload_n hx hb dX0_linePrice_44 rfl (lv_at hl 1 rfl) ?_
        refine va_get (D := D) (ci := 0) (v := .ref (q 1)) (C := RX0) (T := TX0) (N := 8) hx hb hts hinX0 hown hK hP 0 rfl rfl 4 (by decide) (hts (.fieldLink RX0 24 "BreakLines$Piece" "costs" "[I") (by decide +kernel)) (fun _ h9 => h9) rfl dX0_linePrice_45 ?_
        refine j_iconst hx hb dX0_linePrice_48 ?_
        refine j_iald hx hb hK hP 1 0 rfl rfl (i := 0) (by omega) (by decide) dX0_linePrice_49 ?_
        refine j_i2l hx hb (by unfold i32; omega) dX0_linePrice_50 ?_
        refine lv_lload_n hx hb dX0_linePrice_51 rfl (lv_at hl 0 rfl) ?_
        refine j_lmul hx hb dX0_linePrice_52 ?_
        refine lv_lload_n hx hb dX0_linePrice_53 rfl (lv_at hl 0 rfl) ?_
        refine j_lmul hx hb dX0_linePrice_54 ?_
        exact j_retL hx hb hr hlocks dX0_linePrice_55 (congrArg jL (by unfold lpr cst; rw [if_pos c6, if_neg c19, if_pos c40]))
    · skip
      refine lv_aload_n hx hb dX0_linePrice_22 rfl (lv_at hl 0 rfl) ?_
      refine va_get (D := D) (ci := 0) (v := .ref (q 1)) (C := RX0) (T := TX0) (N := 8) hx hb hts hinX0 hown hK hP 0 rfl rfl 4 (by decide) (hts (.fieldLink RX0 24 "BreakLines$Piece" "costs" "[I") (by decide +kernel)) (fun _ h9 => h9) rfl dX0_linePrice_23 ?_
      refine j_iconst hx hb dX0_linePrice_26 ?_
      refine j_iald hx hb hK hP 1 0 rfl rfl (i := 3) (by omega) (by decide) dX0_linePrice_27 ?_
      refine j_i2l hx hb (by unfold i32; omega) dX0_linePrice_28 ?_
      exact j_retL hx hb hr hlocks dX0_linePrice_29 (congrArg jL (by unfold lpr cst; rw [if_pos c6, if_pos c19]))
  · skip
    refine lv_ldc2 (v := jL (-1)) hx hb hown (hts (.constantLong RX0 55 (-1)) (by decide +kernel)) dX0_linePrice_9 ?_
    exact j_retL hx hb hr hlocks dX0_linePrice_12 (congrArg jL (by unfold lpr; rw [if_neg c6]))
set_option maxHeartbeats 4000000 in
set_option maxRecDepth 100000 in
theorem kX0_turnPrice (l : Launch) (D : va_G) (cI cJ cZ : ClassId) (q : Nat → Nat) (σ : Sg) (la wa : Int → Int) (mk : Nat → Int32) (hok : okP σ la wa mk) (a : Int) (h : 0 ≤ a ∧ a < sNb σ) : RoI l yX0_turnPrice wsX0_turnPrice 1 22 D (tyc cI cJ cZ) (wPc q cI (sNb σ) (sWd σ) (sPp σ) (sCt σ) (sCs σ) mk la wa) [.ref (q 0), .int (jI a)] (jI (trn σ a)) := by
  refine j_start RX0 rfl (by decide) rfl (Nat.le_of_ble_eq_true rfl) ?_
  intro p e s m below meth c ls hx hb hr hlocks hml hown hts hnm hl ⟨hP, hK⟩
  have hP : va_P D vwCl (wPc q cI (sNb σ) (sWd σ) (sPp σ) (sCt σ) (sCs σ) mk la wa) s.heap := hP
  have hl : lv_has ls 2 [(0, .ref (q 0)), (1, .int (jI a))] := hl
  have hinX0 : ∀ w ∈ u_ws RX0 TX0 8, w ∈ wsX0_turnPrice := by decide +kernel
  have hS0 := hok.1
  have hnb := hS0.1
  have hwd := hS0.2.1
  have hpp := hS0.2.2.1
  refine lv_aload_n hx hb dX0_turnPrice_0 rfl (lv_at hl 0 rfl) ?_
  refine lv_iload_n hx hb dX0_turnPrice_1 rfl (lv_at hl 1 rfl) ?_
  refine j_iconst hx hb dX0_turnPrice_2 ?_
  refine j_cVI (As := [.int (jI a), .int (jI 2)]) (rest := []) ⟨hx, hb, hml, hown, hts⟩ (kX0_isMarked l D cI cJ cZ q σ la wa mk hok a 2 (by omega)) (cwV 2 hts gX0_turnPrice_X0_isMarked rfl rfl rfl (by decide +kernel) ⟨Nat.le_of_ble_eq_true rfl, Nat.le_of_ble_eq_true rfl⟩) hK hP (va_recv hK hP (ci := 0) (q0 := 0) rfl rfl) rfl hl.1 rfl (Nat.le_of_ble_eq_true rfl) ⟨Nat.zero_le _, Nat.zero_le _⟩ dX0_turnPrice_3 ?_
  refine j_ifeqZ (tgt := 13) hx hb dX0_turnPrice_6 (by decide) (fun c6 => ?_) (fun c6 => ?_)
  · skip
    refine lv_aload_n hx hb dX0_turnPrice_13 rfl (lv_at hl 0 rfl) ?_
    refine va_get (D := D) (ci := 0) (v := .ref (q 1)) (C := RX0) (T := TX0) (N := 8) hx hb hts hinX0 hown hK hP 0 rfl rfl 4 (by decide) (hts (.fieldLink RX0 24 "BreakLines$Piece" "costs" "[I") (by decide +kernel)) (fun _ h9 => h9) rfl dX0_turnPrice_14 ?_
    refine j_iconst hx hb dX0_turnPrice_17 ?_
    refine j_iald hx hb hK hP 1 0 rfl rfl (i := 1) (by omega) (by decide) dX0_turnPrice_18 ?_
    exact j_retI hx hb hr hlocks dX0_turnPrice_19 (congrArg jI (by unfold trn; rw [if_neg c6]))
  · skip
    refine j_iconst hx hb dX0_turnPrice_9 ?_
    refine lv_goto (tgt := 19) hx hb dX0_turnPrice_10 (by decide) ?_
    exact j_retI hx hb hr hlocks dX0_turnPrice_19 (congrArg jI (by unfold trn; rw [if_pos c6]))
set_option maxHeartbeats 4000000 in
set_option maxRecDepth 100000 in
theorem kX0_share (l : Launch) (D : va_G) (cI cJ cZ : ClassId) (x y z : Int) (h : (0 ≤ x ∧ x < 10000) ∧ (0 ≤ y ∧ y < 10000) ∧ (0 < z ∧ z < 10000)) : RoI l yX0_share wsX0_share 0 0 D (tyc cI cJ cZ) ([]) [.int (jI x), .int (jI y), .int (jI z)] (jI (x * y / z)) := by
  refine j_start RX0 rfl (by decide) rfl (Nat.le_of_ble_eq_true rfl) ?_
  intro p e s m below meth c ls hx hb hr hlocks hml hown hts hnm hl ⟨hP, hK⟩
  have hP : va_P D vwCl ([]) s.heap := hP
  have hl : lv_has ls 3 [(0, .int (jI x)), (1, .int (jI y)), (2, .int (jI z))] := hl
  have h1 : x * y ≤ 10000 * 10000 := Int.mul_le_mul (by omega) (by omega) (by omega) (by omega)
  have h2 : 0 ≤ x * y := Int.mul_nonneg (by omega) (by omega)
  refine lv_iload_n hx hb dX0_share_0 rfl (lv_at hl 2 rfl) ?_
  refine j_if_le (tgt := 12) hx hb (by unfold i32; omega) dX0_share_1 (by decide) (fun c1 => ?_) (fun c1 => ?_)
  · exact absurd c1 (by omega)
  · skip
    refine lv_iload_n hx hb dX0_share_4 rfl (lv_at hl 0 rfl) ?_
    refine lv_iload_n hx hb dX0_share_5 rfl (lv_at hl 1 rfl) ?_
    refine j_imul hx hb dX0_share_6 ?_
    refine lv_iload_n hx hb dX0_share_7 rfl (lv_at hl 2 rfl) ?_
    refine j_idiv hx hb (by omega) dX0_share_8 ?_
    refine lv_goto (tgt := 13) hx hb dX0_share_9 (by decide) ?_
    exact j_retI hx hb hr hlocks dX0_share_13 rfl
set_option maxHeartbeats 4000000 in
set_option maxRecDepth 100000 in
theorem kX0_setAhead (l : Launch) (D : va_G) (cI cJ cZ : ClassId) (q : Nat → Nat) (σ : Sg) (la wa : Int → Int) (mk : Nat → Int32) (hok : okP σ la wa mk) (a b k : Int) (h : 0 ≤ a ∧ a ≤ b ∧ b < sNb σ ∧ a ≤ k ∧ k ≤ b + 1) : RoI l yX0_setAhead wsX0_setAhead 2 44 D (tyc cI cJ cZ) (wPc q cI (sNb σ) (sWd σ) (sPp σ) (sCt σ) (sCs σ) mk la wa) [.ref (q 0), .int (jI a), .int (jI b), .int (jI k)] (jI (ahd σ a b k)) := by
  refine j_start RX0 rfl (by decide) rfl (Nat.le_of_ble_eq_true rfl) ?_
  intro p e s m below meth c ls hx hb hr hlocks hml hown hts hnm hl ⟨hP, hK⟩
  have hP : va_P D vwCl (wPc q cI (sNb σ) (sWd σ) (sPp σ) (sCt σ) (sCs σ) mk la wa) s.heap := hP
  have hl : lv_has ls 7 [(0, .ref (q 0)), (1, .int (jI a)), (2, .int (jI b)), (3, .int (jI k))] := hl
  have hinX0 : ∀ w ∈ u_ws RX0 TX0 8, w ∈ wsX0_setAhead := by decide +kernel
  have hS0 := hok.1
  have hnb := hS0.1
  have hwd := hS0.2.1
  have hpp := hS0.2.2.1
  have e1 := hok.2.1 (b + 1) (by omega) (by omega)
  have e2 := hok.2.1 a (by omega) (by omega)
  have e3 := preB hS0 (a := a) (b := b + 1) (by omega) (by omega) (by omega)
  have e4 := preB hS0 (a := 0) (b := a) (by omega) (by omega) (by omega)
  rw [pre_0, pre_0] at e4
  have e5 := hok.2.1 k (by omega) (by omega)
  have e6 := preB hS0 (a := a) (b := k) (by omega) (by omega) (by omega)
  have e7 := preB hS0 (a := k) (b := b + 1) (by omega) (by omega) (by omega)
  have hdd : dd σ a b = sWd σ - (pre (sWs σ) (b + 1) - pre (sWs σ) a) := rfl
  have htw : tot (sWs σ) a b = pre (sWs σ) (b + 1) - pre (sWs σ) a := rfl
  have htl : tot (sLs σ) a b = pre (sLs σ) (b + 1) - pre (sLs σ) a := rfl
  refine lv_aload_n hx hb dX0_setAhead_0 rfl (lv_at hl 0 rfl) ?_
  refine va_get (D := D) (ci := 0) (v := .ref (q 3)) (C := RX0) (T := TX0) (N := 8) hx hb hts hinX0 hown hK hP 0 rfl rfl 6 (by decide) (hts (.fieldLink RX0 32 "BreakLines$Piece" "leastAhead" "[I") (by decide +kernel)) (fun _ h9 => h9) rfl dX0_setAhead_1 ?_
  refine lv_iload_n hx hb dX0_setAhead_4 rfl (lv_at hl 3 rfl) ?_
  refine j_iald hx hb hK hP 3 0 rfl rfl (i := k) (by omega) (by decide) dX0_setAhead_5 ?_
  refine lv_aload_n hx hb dX0_setAhead_6 rfl (lv_at hl 0 rfl) ?_
  refine va_get (D := D) (ci := 0) (v := .ref (q 3)) (C := RX0) (T := TX0) (N := 8) hx hb hts hinX0 hown hK hP 0 rfl rfl 6 (by decide) (hts (.fieldLink RX0 32 "BreakLines$Piece" "leastAhead" "[I") (by decide +kernel)) (fun _ h9 => h9) rfl dX0_setAhead_7 ?_
  refine lv_iload_n hx hb dX0_setAhead_10 rfl (lv_at hl 1 rfl) ?_
  refine j_iald hx hb hK hP 3 0 rfl rfl (i := a) (by omega) (by decide) dX0_setAhead_11 ?_
  refine j_isub hx hb dX0_setAhead_12 ?_
  refine lv_istore (lv' := [(4, .int (jI ((la k) - (la a)))), (0, .ref (q 0)), (1, .int (jI a)), (2, .int (jI b)), (3, .int (jI k))]) hx hb dX0_setAhead_13 hl (by decide) rfl (fun ls hl => ?_)
  refine lv_aload_n hx hb dX0_setAhead_15 rfl (lv_at hl 1 rfl) ?_
  refine va_get (D := D) (ci := 0) (v := .ref (q 4)) (C := RX0) (T := TX0) (N := 8) hx hb hts hinX0 hown hK hP 0 rfl rfl 7 (by decide) (hts (.fieldLink RX0 35 "BreakLines$Piece" "wishedAhead" "[I") (by decide +kernel)) (fun _ h9 => h9) rfl dX0_setAhead_16 ?_
  refine lv_iload_n hx hb dX0_setAhead_19 rfl (lv_at hl 4 rfl) ?_
  refine j_iald hx hb hK hP 4 0 rfl rfl (i := k) (by omega) (by decide) dX0_setAhead_20 ?_
  refine lv_aload_n hx hb dX0_setAhead_21 rfl (lv_at hl 1 rfl) ?_
  refine va_get (D := D) (ci := 0) (v := .ref (q 4)) (C := RX0) (T := TX0) (N := 8) hx hb hts hinX0 hown hK hP 0 rfl rfl 7 (by decide) (hts (.fieldLink RX0 35 "BreakLines$Piece" "wishedAhead" "[I") (by decide +kernel)) (fun _ h9 => h9) rfl dX0_setAhead_22 ?_
  refine lv_iload_n hx hb dX0_setAhead_25 rfl (lv_at hl 2 rfl) ?_
  refine j_iald hx hb hK hP 4 0 rfl rfl (i := a) (by omega) (by decide) dX0_setAhead_26 ?_
  refine j_isub hx hb dX0_setAhead_27 ?_
  refine lv_istore (lv' := [(5, .int (jI ((wa k) - (wa a)))), (4, .int (jI ((la k) - (la a)))), (0, .ref (q 0)), (1, .int (jI a)), (2, .int (jI b)), (3, .int (jI k))]) hx hb dX0_setAhead_28 hl (by decide) rfl (fun ls hl => ?_)
  refine lv_aload_n hx hb dX0_setAhead_30 rfl (lv_at hl 2 rfl) ?_
  refine lv_iload_n hx hb dX0_setAhead_31 rfl (lv_at hl 3 rfl) ?_
  refine lv_iload_n hx hb dX0_setAhead_32 rfl (lv_at hl 4 rfl) ?_
  refine j_cVI (As := [.int (jI a), .int (jI b)]) (rest := []) ⟨hx, hb, hml, hown, hts⟩ (kX0_isOver l D cI cJ cZ q σ la wa mk hok a b (by omega)) (cwV 2 hts gX0_setAhead_X0_isOver rfl rfl rfl (by decide +kernel) ⟨Nat.le_of_ble_eq_true rfl, Nat.le_of_ble_eq_true rfl⟩) hK hP (va_recv hK hP (ci := 0) (q0 := 0) rfl rfl) rfl hl.1 rfl (Nat.le_of_ble_eq_true rfl) ⟨Nat.zero_le _, Nat.zero_le _⟩ dX0_setAhead_33 ?_
  refine j_ifeqZ (tgt := 42) hx hb dX0_setAhead_36 (by decide) (fun c36 => ?_) (fun c36 => ?_)
  · skip
    refine lv_aload_n hx hb dX0_setAhead_42 rfl (lv_at hl 2 rfl) ?_
    refine lv_iload_n hx hb dX0_setAhead_43 rfl (lv_at hl 3 rfl) ?_
    refine lv_iload_n hx hb dX0_setAhead_44 rfl (lv_at hl 4 rfl) ?_
    refine j_cVI (As := [.int (jI a), .int (jI b)]) (rest := []) ⟨hx, hb, hml, hown, hts⟩ (kX0_spare l D cI cJ cZ q σ la wa mk hok a b (by omega)) (cwV 2 hts gX0_setAhead_X0_spare rfl rfl rfl (by decide +kernel) ⟨Nat.le_of_ble_eq_true rfl, Nat.le_of_ble_eq_true rfl⟩) hK hP (va_recv hK hP (ci := 0) (q0 := 0) rfl rfl) rfl hl.1 rfl (Nat.le_of_ble_eq_true rfl) ⟨Nat.zero_le _, Nat.zero_le _⟩ dX0_setAhead_45 ?_
    refine lv_istore (lv' := [(6, .int (jI (dd σ a b))), (5, .int (jI ((wa k) - (wa a)))), (4, .int (jI ((la k) - (la a)))), (0, .ref (q 0)), (1, .int (jI a)), (2, .int (jI b)), (3, .int (jI k))]) hx hb dX0_setAhead_48 hl (by decide) rfl (fun ls hl => ?_)
    refine lv_iload hx hb dX0_setAhead_50 (lv_at hl 0 rfl) ?_
    refine j_if_lt (tgt := 72) hx hb (by unfold i32; omega) dX0_setAhead_52 (by decide) (fun c52 => ?_) (fun c52 => ?_)
    · skip
      refine lv_iload hx hb dX0_setAhead_72 (lv_at hl 1 rfl) ?_
      refine lv_iload hx hb dX0_setAhead_74 (lv_at hl 0 rfl) ?_
      refine j_ineg hx hb dX0_setAhead_76 ?_
      refine lv_iload hx hb dX0_setAhead_77 (lv_at hl 1 rfl) ?_
      refine lv_iload hx hb dX0_setAhead_79 (lv_at hl 2 rfl) ?_
      refine j_isub hx hb dX0_setAhead_81 ?_
      refine lv_aload_n hx hb dX0_setAhead_82 rfl (lv_at hl 3 rfl) ?_
      refine lv_iload_n hx hb dX0_setAhead_83 rfl (lv_at hl 4 rfl) ?_
      refine lv_iload_n hx hb dX0_setAhead_84 rfl (lv_at hl 5 rfl) ?_
      refine j_cVI (As := [.int (jI a), .int (jI b)]) (rest := [.int (jI (((wa k) - (wa a)) - ((la k) - (la a)))), .int (jI (-(dd σ a b))), .int (jI ((wa k) - (wa a)))]) ⟨hx, hb, hml, hown, hts⟩ (kX0_wishedOf l D cI cJ cZ q σ la wa mk hok a b (by omega)) (cwV 2 hts gX0_setAhead_X0_wishedOf rfl rfl rfl (by decide +kernel) ⟨Nat.le_of_ble_eq_true rfl, Nat.le_of_ble_eq_true rfl⟩) hK hP (va_recv hK hP (ci := 0) (q0 := 0) rfl rfl) rfl hl.1 rfl (Nat.le_of_ble_eq_true rfl) ⟨Nat.zero_le _, Nat.zero_le _⟩ dX0_setAhead_85 ?_
      refine lv_aload_n hx hb dX0_setAhead_88 rfl (lv_at hl 3 rfl) ?_
      refine lv_iload_n hx hb dX0_setAhead_89 rfl (lv_at hl 4 rfl) ?_
      refine lv_iload_n hx hb dX0_setAhead_90 rfl (lv_at hl 5 rfl) ?_
      refine j_cVI (As := [.int (jI a), .int (jI b)]) (rest := [.int (jI (tot (sWs σ) a b)), .int (jI (((wa k) - (wa a)) - ((la k) - (la a)))), .int (jI (-(dd σ a b))), .int (jI ((wa k) - (wa a)))]) ⟨hx, hb, hml, hown, hts⟩ (kX0_leastOf l D cI cJ cZ q σ la wa mk hok a b (by omega)) (cwV 2 hts gX0_setAhead_X0_leastOf rfl rfl rfl (by decide +kernel) ⟨Nat.le_of_ble_eq_true rfl, Nat.le_of_ble_eq_true rfl⟩) hK hP (va_recv hK hP (ci := 0) (q0 := 0) rfl rfl) rfl hl.1 rfl (Nat.le_of_ble_eq_true rfl) ⟨Nat.zero_le _, Nat.zero_le _⟩ dX0_setAhead_91 ?_
      refine j_isub hx hb dX0_setAhead_94 ?_
      refine j_cSI (As := [.int (jI (-(dd σ a b))), .int (jI (((wa k) - (wa a)) - ((la k) - (la a)))), .int (jI ((tot (sWs σ) a b) - (tot (sLs σ) a b)))]) (rest := [.int (jI ((wa k) - (wa a)))]) ⟨hx, hb, hml, hown, hts⟩ (kX0_share l D cI cJ cZ (-(dd σ a b)) (((wa k) - (wa a)) - ((la k) - (la a))) ((tot (sWs σ) a b) - (tot (sLs σ) a b)) (by omega)) (va_cwS 3 hts gX0_setAhead_X0_share rfl rfl rfl (by decide +kernel) ⟨Nat.le_of_ble_eq_true rfl, Nat.le_of_ble_eq_true rfl⟩) hK (hP.sub [] rfl) rfl hl.1 rfl (Nat.le_of_ble_eq_true rfl) ⟨Nat.zero_le _, Nat.zero_le _⟩ dX0_setAhead_95 ?_
      refine j_isub hx hb dX0_setAhead_98 ?_
      exact j_retI hx hb hr hlocks dX0_setAhead_99 (congrArg jI (by unfold ahd; rw [if_neg c36, if_neg (by omega), show wa k - wa a = pre (sWs σ) k - pre (sWs σ) a by omega, show la k - la a = pre (sLs σ) k - pre (sLs σ) a by omega]))
    · skip
      refine lv_iload hx hb dX0_setAhead_55 (lv_at hl 1 rfl) ?_
      refine lv_iload hx hb dX0_setAhead_57 (lv_at hl 0 rfl) ?_
      refine lv_iload hx hb dX0_setAhead_59 (lv_at hl 1 rfl) ?_
      refine lv_aload_n hx hb dX0_setAhead_61 rfl (lv_at hl 3 rfl) ?_
      refine lv_iload_n hx hb dX0_setAhead_62 rfl (lv_at hl 4 rfl) ?_
      refine lv_iload_n hx hb dX0_setAhead_63 rfl (lv_at hl 5 rfl) ?_
      refine j_cVI (As := [.int (jI a), .int (jI b)]) (rest := [.int (jI ((wa k) - (wa a))), .int (jI (dd σ a b)), .int (jI ((wa k) - (wa a)))]) ⟨hx, hb, hml, hown, hts⟩ (kX0_wishedOf l D cI cJ cZ q σ la wa mk hok a b (by omega)) (cwV 2 hts gX0_setAhead_X0_wishedOf rfl rfl rfl (by decide +kernel) ⟨Nat.le_of_ble_eq_true rfl, Nat.le_of_ble_eq_true rfl⟩) hK hP (va_recv hK hP (ci := 0) (q0 := 0) rfl rfl) rfl hl.1 rfl (Nat.le_of_ble_eq_true rfl) ⟨Nat.zero_le _, Nat.zero_le _⟩ dX0_setAhead_64 ?_
      refine j_cSI (As := [.int (jI (dd σ a b)), .int (jI ((wa k) - (wa a))), .int (jI (tot (sWs σ) a b))]) (rest := [.int (jI ((wa k) - (wa a)))]) ⟨hx, hb, hml, hown, hts⟩ (kX0_share l D cI cJ cZ (dd σ a b) ((wa k) - (wa a)) (tot (sWs σ) a b) (by omega)) (va_cwS 3 hts gX0_setAhead_X0_share rfl rfl rfl (by decide +kernel) ⟨Nat.le_of_ble_eq_true rfl, Nat.le_of_ble_eq_true rfl⟩) hK (hP.sub [] rfl) rfl hl.1 rfl (Nat.le_of_ble_eq_true rfl) ⟨Nat.zero_le _, Nat.zero_le _⟩ dX0_setAhead_67 ?_
      refine j_iadd hx hb dX0_setAhead_70 ?_
      exact j_retI hx hb hr hlocks dX0_setAhead_71 (congrArg jI (by unfold ahd; rw [if_neg c36, if_pos (by omega), show wa k - wa a = pre (sWs σ) k - pre (sWs σ) a by omega]))
  · skip
    refine lv_iload hx hb dX0_setAhead_39 (lv_at hl 1 rfl) ?_
    exact j_retI hx hb hr hlocks dX0_setAhead_41 (congrArg jI (by unfold ahd; rw [if_pos c36]; omega))
set_option maxHeartbeats 4000000 in
set_option maxRecDepth 100000 in
theorem kX0_addBar (l : Launch) (D : va_G) (cI cJ cZ : ClassId) (q : Nat → Nat) (σ : Sg) (la wa : Int → Int) (mk : Nat → Int32) (hok : okP σ la wa mk) (x y : Int) (h : sNb σ < 24) : MuI l yX0_addBar wsX0_addBar 0 0 D (tyc cI cJ cZ) (wPc q cI (sNb σ) (sWd σ) (sPp σ) (sCt σ) (sCs σ) mk la wa) [.ref (q 0), .int (jI x), .int (jI y)] (fun (r : Int32) (_ : Unit) => r = jI (sNb σ)) (fun _ => wPc q cI (sNb σ + 1) (sWd σ) (sPp σ) (sCt σ) (sCs σ) mk (updI la (sNb σ + 1) (la (sNb σ) + x)) (updI wa (sNb σ + 1) (wa (sNb σ) + y))) := by
  intro sz
  refine j_start RX0 rfl (by decide) rfl (Nat.le_of_ble_eq_true rfl) ?_
  intro p e s m below meth c ls hx hb hr hlocks hml hown hts hnm hl ⟨hsz, hP, hK, hD0⟩
  subst hsz
  have hD := hD0.self (sz := s.heap.size)
  generalize hAe : va_A (wPc q cI (sNb σ) (sWd σ) (sPp σ) (sCt σ) (sCs σ) mk la wa) s.heap.size = A at hD ⊢
  have hA : ∀ q : Nat, s.heap.size ≤ q → A q := fun q h => by rw [← hAe]; exact Or.inr h
  refine j_gen (fun H locs hHe hLe => ?_)
  have hS : va_S A s.heap H locs := by rw [hHe, hLe]; exact va_S.rf
  have hP : va_P D vwCl (wPc q cI (sNb σ) (sWd σ) (sPp σ) (sCt σ) (sCs σ) mk la wa) H := by rw [hHe]; exact hP
  have hD : va_D A (wPc q cI (sNb σ) (sWd σ) (sPp σ) (sCt σ) (sCs σ) mk la wa) := hD
  have hl : lv_has ls 4 [(0, .ref (q 0)), (1, .int (jI x)), (2, .int (jI y))] := hl
  have hinX0 : ∀ w ∈ u_ws RX0 TX0 8, w ∈ wsX0_addBar := by decide +kernel
  have hS0 := hok.1
  have hnb := hS0.1
  have hwd := hS0.2.1
  have hpp := hS0.2.2.1
  refine lv_aload_n hx hb dX0_addBar_0 rfl (lv_at hl 0 rfl) ?_
  refine va_get (D := D) (ci := 0) (v := .int (jI (sNb σ))) (C := RX0) (T := TX0) (N := 8) hx hb hts hinX0 hown hK hP 0 rfl rfl 0 (by decide) (hts (.fieldLink RX0 9 "BreakLines$Piece" "bars" "I") (by decide +kernel)) (fun _ h9 => h9) rfl dX0_addBar_1 ?_
  refine lv_istore_n (lv' := [(3, .int (jI (sNb σ))), (0, .ref (q 0)), (1, .int (jI x)), (2, .int (jI y))]) hx hb dX0_addBar_4 rfl hl (by decide) rfl (fun ls hl => ?_)
  refine lv_aload_n hx hb dX0_addBar_5 rfl (lv_at hl 1 rfl) ?_
  refine va_get (D := D) (ci := 0) (v := .ref (q 3)) (C := RX0) (T := TX0) (N := 8) hx hb hts hinX0 hown hK hP 0 rfl rfl 6 (by decide) (hts (.fieldLink RX0 32 "BreakLines$Piece" "leastAhead" "[I") (by decide +kernel)) (fun _ h9 => h9) rfl dX0_addBar_6 ?_
  refine lv_iload_n hx hb dX0_addBar_9 rfl (lv_at hl 0 rfl) ?_
  refine j_iconst hx hb dX0_addBar_10 ?_
  refine j_iadd hx hb dX0_addBar_11 ?_
  refine lv_aload_n hx hb dX0_addBar_12 rfl (lv_at hl 1 rfl) ?_
  refine va_get (D := D) (ci := 0) (v := .ref (q 3)) (C := RX0) (T := TX0) (N := 8) hx hb hts hinX0 hown hK hP 0 rfl rfl 6 (by decide) (hts (.fieldLink RX0 32 "BreakLines$Piece" "leastAhead" "[I") (by decide +kernel)) (fun _ h9 => h9) rfl dX0_addBar_13 ?_
  refine lv_iload_n hx hb dX0_addBar_16 rfl (lv_at hl 0 rfl) ?_
  refine j_iald hx hb hK hP 3 0 rfl rfl (i := sNb σ) (by omega) (by decide) dX0_addBar_17 ?_
  refine lv_iload_n hx hb dX0_addBar_18 rfl (lv_at hl 2 rfl) ?_
  refine j_iadd hx hb dX0_addBar_19 ?_
  refine j_iast hx hb hK hP hD hS 3 0 rfl rfl (i := (sNb σ) + 1) (by omega) (by decide) dX0_addBar_20 (fun H locs hP hD hS => ?_)
  have hP : va_P D vwCl (wPc q cI (sNb σ) (sWd σ) (sPp σ) (sCt σ) (sCs σ) mk (updI la ((sNb σ) + 1) ((la (sNb σ)) + x)) wa) H := hP
  have hD : va_D A (wPc q cI (sNb σ) (sWd σ) (sPp σ) (sCt σ) (sCs σ) mk (updI la ((sNb σ) + 1) ((la (sNb σ)) + x)) wa) := hD
  refine lv_aload_n hx hb dX0_addBar_21 rfl (lv_at hl 1 rfl) ?_
  refine va_get (D := D) (ci := 0) (v := .ref (q 4)) (C := RX0) (T := TX0) (N := 8) hx hb hts hinX0 hown hK hP 0 rfl rfl 7 (by decide) (hts (.fieldLink RX0 35 "BreakLines$Piece" "wishedAhead" "[I") (by decide +kernel)) (fun _ h9 => h9) rfl dX0_addBar_22 ?_
  refine lv_iload_n hx hb dX0_addBar_25 rfl (lv_at hl 0 rfl) ?_
  refine j_iconst hx hb dX0_addBar_26 ?_
  refine j_iadd hx hb dX0_addBar_27 ?_
  refine lv_aload_n hx hb dX0_addBar_28 rfl (lv_at hl 1 rfl) ?_
  refine va_get (D := D) (ci := 0) (v := .ref (q 4)) (C := RX0) (T := TX0) (N := 8) hx hb hts hinX0 hown hK hP 0 rfl rfl 7 (by decide) (hts (.fieldLink RX0 35 "BreakLines$Piece" "wishedAhead" "[I") (by decide +kernel)) (fun _ h9 => h9) rfl dX0_addBar_29 ?_
  refine lv_iload_n hx hb dX0_addBar_32 rfl (lv_at hl 0 rfl) ?_
  refine j_iald hx hb hK hP 4 0 rfl rfl (i := sNb σ) (by omega) (by decide) dX0_addBar_33 ?_
  refine lv_iload_n hx hb dX0_addBar_34 rfl (lv_at hl 3 rfl) ?_
  refine j_iadd hx hb dX0_addBar_35 ?_
  refine j_iast hx hb hK hP hD hS 4 0 rfl rfl (i := (sNb σ) + 1) (by omega) (by decide) dX0_addBar_36 (fun H locs hP hD hS => ?_)
  have hP : va_P D vwCl (wPc q cI (sNb σ) (sWd σ) (sPp σ) (sCt σ) (sCs σ) mk (updI la ((sNb σ) + 1) ((la (sNb σ)) + x)) (updI wa ((sNb σ) + 1) ((wa (sNb σ)) + y))) H := hP
  have hD : va_D A (wPc q cI (sNb σ) (sWd σ) (sPp σ) (sCt σ) (sCs σ) mk (updI la ((sNb σ) + 1) ((la (sNb σ)) + x)) (updI wa ((sNb σ) + 1) ((wa (sNb σ)) + y))) := hD
  refine lv_aload_n hx hb dX0_addBar_37 rfl (lv_at hl 1 rfl) ?_
  refine lv_iload_n hx hb dX0_addBar_38 rfl (lv_at hl 0 rfl) ?_
  refine j_iconst hx hb dX0_addBar_39 ?_
  refine j_iadd hx hb dX0_addBar_40 ?_
  refine va_put (D := D) (ci := 0) (v := .int (jI ((sNb σ) + 1))) (ty := .int) (C := RX0) (T := TX0) (N := 8) hx hb hts hinX0 tyX0 tyX0_ok nmX0 hown hK hP hD hS 0 rfl rfl 0 (by decide) (hts (.fieldLink RX0 9 "BreakLines$Piece" "bars" "I") (by decide +kernel)) (fun _ h9 => h9) rfl (by decide +kernel) rfl rfl (Nat.le_of_ble_eq_true rfl) dX0_addBar_41 (fun H locs hP hD hS => ?_)
  have hP : va_P D vwCl (wPc q cI ((sNb σ) + 1) (sWd σ) (sPp σ) (sCt σ) (sCs σ) mk (updI la ((sNb σ) + 1) ((la (sNb σ)) + x)) (updI wa ((sNb σ) + 1) ((wa (sNb σ)) + y))) H := hP
  have hD : va_D A (wPc q cI ((sNb σ) + 1) (sWd σ) (sPp σ) (sCt σ) (sCs σ) mk (updI la ((sNb σ) + 1) ((la (sNb σ)) + x)) (updI wa ((sNb σ) + 1) ((wa (sNb σ)) + y))) := hD
  refine lv_iload_n hx hb dX0_addBar_44 rfl (lv_at hl 0 rfl) ?_
  exact j_mretI hx hb hr hlocks hS dX0_addBar_45 () rfl hP
set_option maxHeartbeats 4000000 in
set_option maxRecDepth 100000 in
theorem kX0_putWidths (l : Launch) (D : va_G) (cI cJ cZ : ClassId) (q : Nat → Nat) (σ : Sg) (la wa : Int → Int) (mk : Nat → Int32) (hok : okP σ la wa mk) (a x y : Int) (h : 0 ≤ a ∧ a < sNb σ) : MuV l yX0_putWidths wsX0_putWidths 1 22 D (tyc cI cJ cZ) (wPc q cI (sNb σ) (sWd σ) (sPp σ) (sCt σ) (sCs σ) mk la wa) [.ref (q 0), .int (jI a), .int (jI x), .int (jI y)] (fun (u : (Int → Int) × (Int → Int)) => ∀ k, 0 ≤ k → k ≤ sNb σ → (u.1 k = if k ≤ a then la k else la k + (x - tot (sLs σ) a a)) ∧ (u.2 k = if k ≤ a then wa k else wa k + (y - tot (sWs σ) a a))) (fun u => wPc q cI (sNb σ) (sWd σ) (sPp σ) (sCt σ) (sCs σ) mk u.1 u.2) := by
  intro sz
  refine j_start RX0 rfl (by decide) rfl (Nat.le_of_ble_eq_true rfl) ?_
  intro p e s m below meth c ls hx hb hr hlocks hml hown hts hnm hl ⟨hsz, hP, hK, hD0⟩
  subst hsz
  have hD := hD0.self (sz := s.heap.size)
  generalize hAe : va_A (wPc q cI (sNb σ) (sWd σ) (sPp σ) (sCt σ) (sCs σ) mk la wa) s.heap.size = A at hD ⊢
  have hA : ∀ q : Nat, s.heap.size ≤ q → A q := fun q h => by rw [← hAe]; exact Or.inr h
  refine j_gen (fun H locs hHe hLe => ?_)
  have hS : va_S A s.heap H locs := by rw [hHe, hLe]; exact va_S.rf
  have hP : va_P D vwCl (wPc q cI (sNb σ) (sWd σ) (sPp σ) (sCt σ) (sCs σ) mk la wa) H := by rw [hHe]; exact hP
  have hD : va_D A (wPc q cI (sNb σ) (sWd σ) (sPp σ) (sCt σ) (sCs σ) mk la wa) := hD
  have hl : lv_has ls 7 [(0, .ref (q 0)), (1, .int (jI a)), (2, .int (jI x)), (3, .int (jI y))] := hl
  have hinX0 : ∀ w ∈ u_ws RX0 TX0 8, w ∈ wsX0_putWidths := by decide +kernel
  have hS0 := hok.1
  have hnb := hS0.1
  have hwd := hS0.2.1
  have hpp := hS0.2.2.1
  refine lv_iload_n hx hb dX0_putWidths_0 rfl (lv_at hl 2 rfl) ?_
  refine lv_aload_n hx hb dX0_putWidths_1 rfl (lv_at hl 0 rfl) ?_
  refine lv_iload_n hx hb dX0_putWidths_2 rfl (lv_at hl 1 rfl) ?_
  refine lv_iload_n hx hb dX0_putWidths_3 rfl (lv_at hl 1 rfl) ?_
  refine j_cVI (As := [.int (jI a), .int (jI a)]) (rest := [.int (jI x)]) ⟨hx, hb, hml, hown, hts⟩ (kX0_leastOf l D cI cJ cZ q σ la wa mk hok a a (by omega)) (cwV 2 hts gX0_putWidths_X0_leastOf rfl rfl rfl (by decide +kernel) ⟨Nat.le_of_ble_eq_true rfl, Nat.le_of_ble_eq_true rfl⟩) hK hP (va_recv hK hP (ci := 0) (q0 := 0) rfl rfl) rfl hl.1 rfl (Nat.le_of_ble_eq_true rfl) ⟨Nat.zero_le _, Nat.zero_le _⟩ dX0_putWidths_4 ?_
  refine j_isub hx hb dX0_putWidths_7 ?_
  refine lv_istore (lv' := [(4, .int (jI (x - (tot (sLs σ) a a)))), (0, .ref (q 0)), (1, .int (jI a)), (2, .int (jI x)), (3, .int (jI y))]) hx hb dX0_putWidths_8 hl (by decide) rfl (fun ls hl => ?_)
  refine lv_iload_n hx hb dX0_putWidths_10 rfl (lv_at hl 4 rfl) ?_
  refine lv_aload_n hx hb dX0_putWidths_11 rfl (lv_at hl 1 rfl) ?_
  refine lv_iload_n hx hb dX0_putWidths_12 rfl (lv_at hl 2 rfl) ?_
  refine lv_iload_n hx hb dX0_putWidths_13 rfl (lv_at hl 2 rfl) ?_
  refine j_cVI (As := [.int (jI a), .int (jI a)]) (rest := [.int (jI y)]) ⟨hx, hb, hml, hown, hts⟩ (kX0_wishedOf l D cI cJ cZ q σ la wa mk hok a a (by omega)) (cwV 2 hts gX0_putWidths_X0_wishedOf rfl rfl rfl (by decide +kernel) ⟨Nat.le_of_ble_eq_true rfl, Nat.le_of_ble_eq_true rfl⟩) hK hP (va_recv hK hP (ci := 0) (q0 := 0) rfl rfl) rfl hl.1 rfl (Nat.le_of_ble_eq_true rfl) ⟨Nat.zero_le _, Nat.zero_le _⟩ dX0_putWidths_14 ?_
  refine j_isub hx hb dX0_putWidths_17 ?_
  refine lv_istore (lv' := [(5, .int (jI (y - (tot (sWs σ) a a)))), (4, .int (jI (x - (tot (sLs σ) a a)))), (0, .ref (q 0)), (1, .int (jI a)), (2, .int (jI x)), (3, .int (jI y))]) hx hb dX0_putWidths_18 hl (by decide) rfl (fun ls hl => ?_)
  refine lv_iload_n hx hb dX0_putWidths_20 rfl (lv_at hl 3 rfl) ?_
  refine j_iconst hx hb dX0_putWidths_21 ?_
  refine j_iadd hx hb dX0_putWidths_22 ?_
  refine lv_istore (lv' := [(6, .int (jI (a + 1))), (5, .int (jI (y - (tot (sWs σ) a a)))), (4, .int (jI (x - (tot (sLs σ) a a)))), (0, .ref (q 0)), (1, .int (jI a)), (2, .int (jI x)), (3, .int (jI y))]) hx hb dX0_putWidths_23 hl (by decide) rfl (fun ls hl => ?_)
  refine j_loop (α := Int × (Int → Int) × (Int → Int) × Array Slot × Heap × List Loc) (h := fun z => match z with | (i, f, g, ls, H, locs) => H) (lc := fun z => match z with | (i, f, g, ls, H, locs) => locs) (f := fun z => match z with | (i, f, g, ls, H, locs) => F0 m 25 ls []) (P := fun n z => match z with | (i, f, g, ls, H, locs) => (a < i ∧ i ≤ sNb σ + 1 ∧ (∀ k, 0 ≤ k → k ≤ sNb σ → (f k = if k ≤ a ∨ i ≤ k then la k else la k + (x - tot (sLs σ) a a)) ∧ (g k = if k ≤ a ∨ i ≤ k then wa k else wa k + (y - tot (sWs σ) a a)))) ∧ (sNb σ + 1 - i).toNat < n ∧ lv_has ls 7 [(0, .ref (q 0)), (1, .int (jI a)), (2, .int (jI x)), (3, .int (jI y)), (4, .int (jI (x - (tot (sLs σ) a a)))), (5, .int (jI (y - (tot (sWs σ) a a)))), (6, .int (jI i))] ∧ va_P D vwCl (wPc q cI (sNb σ) (sWd σ) (sPp σ) (sCt σ) (sCs σ) mk f g) H ∧ va_D A (wPc q cI (sNb σ) (sWd σ) (sPp σ) (sCt σ) (sCs σ) mk f g) ∧ va_S A s.heap H locs) (fun z hz => ?_) ?_ ((sNb σ + 1 - (a + 1)).toNat + 1) (a + 1, la, wa, ls, H, locs) ⟨⟨by omega, by omega, fun k h1 h2 => by rw [if_pos (by omega), if_pos (by omega)]; exact ⟨rfl, rfl⟩⟩, Nat.lt_succ_self _, lv_sub hl [3, 4, 5, 6, 2, 1, 0] rfl, hP, hD, hS⟩
  · obtain ⟨i, f, g, ls, H, locs⟩ := z; exact absurd hz.2.1 (Nat.not_lt_zero _)
  intro n25 ih25 ⟨i, f, g, ls, H, locs⟩ ⟨hi25, hm25, hl, hP, hD, hS⟩
  have hl : lv_has ls 7 [(0, .ref (q 0)), (1, .int (jI a)), (2, .int (jI x)), (3, .int (jI y)), (4, .int (jI (x - (tot (sLs σ) a a)))), (5, .int (jI (y - (tot (sWs σ) a a)))), (6, .int (jI i))] := hl
  have hP : va_P D vwCl (wPc q cI (sNb σ) (sWd σ) (sPp σ) (sCt σ) (sCs σ) mk f g) H := hP
  have hD : va_D A (wPc q cI (sNb σ) (sWd σ) (sPp σ) (sCt σ) (sCs σ) mk f g) := hD
  have hS : va_S A s.heap H locs := hS
  show W p l e _ s m _ below meth c H locs _ _ _ (F0 m 25 ls [])
  obtain ⟨hi1, hi2, hi3⟩ := hi25
  refine lv_iload hx hb dX0_putWidths_25 (lv_at hl 6 rfl) ?_
  refine lv_aload_n hx hb dX0_putWidths_27 rfl (lv_at hl 0 rfl) ?_
  refine va_get (D := D) (ci := 0) (v := .int (jI (sNb σ))) (C := RX0) (T := TX0) (N := 8) hx hb hts hinX0 hown hK hP 0 rfl rfl 0 (by decide) (hts (.fieldLink RX0 9 "BreakLines$Piece" "bars" "I") (by decide +kernel)) (fun _ h9 => h9) rfl dX0_putWidths_28 ?_
  refine j_icmp_gt (tgt := 64) hx hb (by unfold i32; omega) dX0_putWidths_31 (by decide) (fun c31 => ?_) (fun c31 => ?_)
  · skip
    exact j_mretV hx hb hr hlocks hS dX0_putWidths_64 (f, g) (fun k h1 h2 => by
      have z := hi3 k h1 h2
      dsimp only
      rw [z.1, z.2]
      by_cases q2 : k ≤ a
      · rw [if_pos (Or.inl q2), if_pos (Or.inl q2), if_pos q2, if_pos q2]; exact ⟨rfl, rfl⟩
      · have hne : ¬ (k ≤ a ∨ i ≤ k) := by omega
        rw [if_neg hne, if_neg hne, if_neg q2, if_neg q2]; exact ⟨rfl, rfl⟩) hP
  · skip
    refine lv_aload_n hx hb dX0_putWidths_34 rfl (lv_at hl 0 rfl) ?_
    refine va_get (D := D) (ci := 0) (v := .ref (q 3)) (C := RX0) (T := TX0) (N := 8) hx hb hts hinX0 hown hK hP 0 rfl rfl 6 (by decide) (hts (.fieldLink RX0 32 "BreakLines$Piece" "leastAhead" "[I") (by decide +kernel)) (fun _ h9 => h9) rfl dX0_putWidths_35 ?_
    refine lv_iload hx hb dX0_putWidths_38 (lv_at hl 6 rfl) ?_
    refine lv_dup2_11 hx hb dX0_putWidths_40 rfl rfl ?_
    refine j_iald hx hb hK hP 3 0 rfl rfl (i := i) (by omega) (by decide) dX0_putWidths_41 ?_
    refine lv_iload hx hb dX0_putWidths_42 (lv_at hl 4 rfl) ?_
    refine j_iadd hx hb dX0_putWidths_44 ?_
    refine j_iast hx hb hK hP hD hS 3 0 rfl rfl (i := i) (by omega) (by decide) dX0_putWidths_45 (fun H locs hP hD hS => ?_)
    have hP : va_P D vwCl (wPc q cI (sNb σ) (sWd σ) (sPp σ) (sCt σ) (sCs σ) mk (updI f i ((f i) + (x - (tot (sLs σ) a a)))) g) H := hP
    have hD : va_D A (wPc q cI (sNb σ) (sWd σ) (sPp σ) (sCt σ) (sCs σ) mk (updI f i ((f i) + (x - (tot (sLs σ) a a)))) g) := hD
    refine lv_aload_n hx hb dX0_putWidths_46 rfl (lv_at hl 0 rfl) ?_
    refine va_get (D := D) (ci := 0) (v := .ref (q 4)) (C := RX0) (T := TX0) (N := 8) hx hb hts hinX0 hown hK hP 0 rfl rfl 7 (by decide) (hts (.fieldLink RX0 35 "BreakLines$Piece" "wishedAhead" "[I") (by decide +kernel)) (fun _ h9 => h9) rfl dX0_putWidths_47 ?_
    refine lv_iload hx hb dX0_putWidths_50 (lv_at hl 6 rfl) ?_
    refine lv_dup2_11 hx hb dX0_putWidths_52 rfl rfl ?_
    refine j_iald hx hb hK hP 4 0 rfl rfl (i := i) (by omega) (by decide) dX0_putWidths_53 ?_
    refine lv_iload hx hb dX0_putWidths_54 (lv_at hl 5 rfl) ?_
    refine j_iadd hx hb dX0_putWidths_56 ?_
    refine j_iast hx hb hK hP hD hS 4 0 rfl rfl (i := i) (by omega) (by decide) dX0_putWidths_57 (fun H locs hP hD hS => ?_)
    have hP : va_P D vwCl (wPc q cI (sNb σ) (sWd σ) (sPp σ) (sCt σ) (sCs σ) mk (updI f i ((f i) + (x - (tot (sLs σ) a a)))) (updI g i ((g i) + (y - (tot (sWs σ) a a))))) H := hP
    have hD : va_D A (wPc q cI (sNb σ) (sWd σ) (sPp σ) (sCt σ) (sCs σ) mk (updI f i ((f i) + (x - (tot (sLs σ) a a)))) (updI g i ((g i) + (y - (tot (sWs σ) a a))))) := hD
    refine lv_iinc (v := jI (i + 1)) (lv' := [(6, .int (jI (i + 1))), (0, .ref (q 0)), (1, .int (jI a)), (2, .int (jI x)), (3, .int (jI y)), (4, .int (jI (x - (tot (sLs σ) a a)))), (5, .int (jI (y - (tot (sWs σ) a a))))]) hx hb dX0_putWidths_58 hl (k := 6) rfl (jI_add _ _) (by decide) rfl (fun ls hl => ?_)
    refine lv_goto (tgt := 25) hx hb dX0_putWidths_61 (by decide) ?_
    exact ih25 (i + 1, updI f i ((f i) + (x - (tot (sLs σ) a a))), updI g i ((g i) + (y - (tot (sWs σ) a a))), ls, H, locs) ⟨⟨by omega, by omega, fun k h1 h2 => by
        by_cases q : k = i
        · subst q
          have z := hi3 k h1 h2
          rw [if_pos (by omega), if_pos (by omega)] at z
          rw [updI_s, updI_s, if_neg (by omega), if_neg (by omega), z.1, z.2]
          exact ⟨rfl, rfl⟩
        · have z := hi3 k h1 h2
          rw [updI_n q, updI_n q, z.1, z.2]
          by_cases q2 : k ≤ a ∨ i ≤ k
          · rw [if_pos q2, if_pos q2, if_pos (by omega), if_pos (by omega)]; exact ⟨rfl, rfl⟩
          · rw [if_neg q2, if_neg q2, if_neg (by omega), if_neg (by omega)]; exact ⟨rfl, rfl⟩⟩, by omega, lv_sub hl [1, 2, 3, 4, 5, 6, 0] rfl, hP, hD, hS⟩
set_option maxHeartbeats 4000000 in
set_option maxRecDepth 100000 in
theorem kX0_putMark (l : Launch) (D : va_G) (cI cJ cZ : ClassId) (q : Nat → Nat) (σ : Sg) (la wa : Int → Int) (mk : Nat → Int32) (hok : okP σ la wa mk) (a m0 : Int) (on : Bool) (h : (0 ≤ a ∧ a < 24) ∧ 0 ≤ m0 ∧ m0 < 3) : MuV l yX0_putMark wsX0_putMark 0 0 D (tyc cI cJ cZ) (wPc q cI (sNb σ) (sWd σ) (sPp σ) (sCt σ) (sCs σ) mk la wa) [.ref (q 0), .int (jI a), .int (jI m0), .int (jZ (on = true))] (fun (u : Int32) => ∀ i : Nat, i < 24 → bt u i = if i = a.toNat then on else bt (mk m0.toNat) i) (fun u => wPc q cI (sNb σ) (sWd σ) (sPp σ) (sCt σ) (sCs σ) (upd mk m0.toNat u) la wa) := by
  intro sz
  refine j_start RX0 rfl (by decide) rfl (Nat.le_of_ble_eq_true rfl) ?_
  intro p e s m below meth c ls hx hb hr hlocks hml hown hts hnm hl ⟨hsz, hP, hK, hD0⟩
  subst hsz
  have hD := hD0.self (sz := s.heap.size)
  generalize hAe : va_A (wPc q cI (sNb σ) (sWd σ) (sPp σ) (sCt σ) (sCs σ) mk la wa) s.heap.size = A at hD ⊢
  have hA : ∀ q : Nat, s.heap.size ≤ q → A q := fun q h => by rw [← hAe]; exact Or.inr h
  refine j_gen (fun H locs hHe hLe => ?_)
  have hS : va_S A s.heap H locs := by rw [hHe, hLe]; exact va_S.rf
  have hP : va_P D vwCl (wPc q cI (sNb σ) (sWd σ) (sPp σ) (sCt σ) (sCs σ) mk la wa) H := by rw [hHe]; exact hP
  have hD : va_D A (wPc q cI (sNb σ) (sWd σ) (sPp σ) (sCt σ) (sCs σ) mk la wa) := hD
  have hl : lv_has ls 5 [(0, .ref (q 0)), (1, .int (jI a)), (2, .int (jI m0)), (3, .int (jZ (on = true)))] := hl
  have hinX0 : ∀ w ∈ u_ws RX0 TX0 8, w ∈ wsX0_putMark := by decide +kernel
  refine j_iconst hx hb dX0_putMark_0 ?_
  refine lv_iload_n hx hb dX0_putMark_1 rfl (lv_at hl 1 rfl) ?_
  refine lv_ishl hx hb dX0_putMark_2 ?_
  refine j_topi (y := (jI (2 ^ a.toNat))) (jI_bit (by omega) (by omega)) ?_
  refine lv_istore (lv' := [(4, .int (jI (2 ^ a.toNat))), (0, .ref (q 0)), (1, .int (jI a)), (2, .int (jI m0)), (3, .int (jZ (on = true)))]) hx hb dX0_putMark_3 hl (by decide) rfl (fun ls hl => ?_)
  refine lv_aload_n hx hb dX0_putMark_5 rfl (lv_at hl 1 rfl) ?_
  refine va_get (D := D) (ci := 0) (v := .ref (q 2)) (C := RX0) (T := TX0) (N := 8) hx hb hts hinX0 hown hK hP 0 rfl rfl 5 (by decide) (hts (.fieldLink RX0 29 "BreakLines$Piece" "marked" "[I") (by decide +kernel)) (fun _ h9 => h9) rfl dX0_putMark_6 ?_
  refine lv_iload_n hx hb dX0_putMark_9 rfl (lv_at hl 3 rfl) ?_
  refine lv_iload_n hx hb dX0_putMark_10 rfl (lv_at hl 4 rfl) ?_
  refine j_ifeqZ (tgt := 26) hx hb dX0_putMark_11 (by decide) (fun c11 => ?_) (fun c11 => ?_)
  · skip
    refine lv_aload_n hx hb dX0_putMark_26 rfl (lv_at hl 1 rfl) ?_
    refine va_get (D := D) (ci := 0) (v := .ref (q 2)) (C := RX0) (T := TX0) (N := 8) hx hb hts hinX0 hown hK hP 0 rfl rfl 5 (by decide) (hts (.fieldLink RX0 29 "BreakLines$Piece" "marked" "[I") (by decide +kernel)) (fun _ h9 => h9) rfl dX0_putMark_27 ?_
    refine lv_iload_n hx hb dX0_putMark_30 rfl (lv_at hl 3 rfl) ?_
    refine j_ialdR hx hb hK hP 2 0 rfl rfl (i := m0) (by omega) (by decide) dX0_putMark_31 ?_
    refine lv_iload hx hb dX0_putMark_32 (lv_at hl 0 rfl) ?_
    refine j_iconst hx hb dX0_putMark_34 ?_
    refine lv_ixor hx hb dX0_putMark_35 ?_
    refine lv_iand hx hb dX0_putMark_36 ?_
    refine j_iastR hx hb hK hP hD hS 2 0 rfl rfl (i := m0) (by omega) (by decide) dX0_putMark_37 (fun H locs hP hD hS => ?_)
    have hP : va_P D vwCl (wPc q cI (sNb σ) (sWd σ) (sPp σ) (sCt σ) (sCs σ) (upd mk (Int.toNat m0) (((mk (Int.toNat m0)) &&& ((jI (2 ^ a.toNat)) ^^^ (jI (-1)))))) la wa) H := hP
    have hD : va_D A (wPc q cI (sNb σ) (sWd σ) (sPp σ) (sCt σ) (sCs σ) (upd mk (Int.toNat m0) (((mk (Int.toNat m0)) &&& ((jI (2 ^ a.toNat)) ^^^ (jI (-1)))))) la wa) := hD
    exact j_mretV hx hb hr hlocks hS dX0_putMark_38 _ (fun i hi => by first | (rw [b_or, bt_pow a.toNat (by omega) i (by omega)]; by_cases q : i = a.toNat <;> simp [q, c11]; done) | (rw [b_and, bt_inv a.toNat (by omega) i (by omega)]; by_cases q : i = a.toNat <;> simp [q, c11])) hP
  · skip
    refine lv_aload_n hx hb dX0_putMark_14 rfl (lv_at hl 1 rfl) ?_
    refine va_get (D := D) (ci := 0) (v := .ref (q 2)) (C := RX0) (T := TX0) (N := 8) hx hb hts hinX0 hown hK hP 0 rfl rfl 5 (by decide) (hts (.fieldLink RX0 29 "BreakLines$Piece" "marked" "[I") (by decide +kernel)) (fun _ h9 => h9) rfl dX0_putMark_15 ?_
    refine lv_iload_n hx hb dX0_putMark_18 rfl (lv_at hl 3 rfl) ?_
    refine j_ialdR hx hb hK hP 2 0 rfl rfl (i := m0) (by omega) (by decide) dX0_putMark_19 ?_
    refine lv_iload hx hb dX0_putMark_20 (lv_at hl 0 rfl) ?_
    refine lv_ior hx hb dX0_putMark_22 ?_
    refine lv_goto (tgt := 37) hx hb dX0_putMark_23 (by decide) ?_
    refine j_iastR hx hb hK hP hD hS 2 0 rfl rfl (i := m0) (by omega) (by decide) dX0_putMark_37 (fun H locs hP hD hS => ?_)
    have hP : va_P D vwCl (wPc q cI (sNb σ) (sWd σ) (sPp σ) (sCt σ) (sCs σ) (upd mk (Int.toNat m0) (((mk (Int.toNat m0)) ||| (jI (2 ^ a.toNat))))) la wa) H := hP
    have hD : va_D A (wPc q cI (sNb σ) (sWd σ) (sPp σ) (sCt σ) (sCs σ) (upd mk (Int.toNat m0) (((mk (Int.toNat m0)) ||| (jI (2 ^ a.toNat))))) la wa) := hD
    exact j_mretV hx hb hr hlocks hS dX0_putMark_38 _ (fun i hi => by first | (rw [b_or, bt_pow a.toNat (by omega) i (by omega)]; by_cases q : i = a.toNat <;> simp [q, c11]; done) | (rw [b_and, bt_inv a.toNat (by omega) i (by omega)]; by_cases q : i = a.toNat <;> simp [q, c11])) hP
end
