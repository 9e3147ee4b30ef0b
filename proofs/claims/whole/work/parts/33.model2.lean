/-! the contracts of the reference: what is asked of the best setting -/
noncomputable section
set_option maxHeartbeats 4000000 in
set_option maxRecDepth 100000 in
theorem kX4_lineOf (l : Launch) (D : va_G) (cI cJ cZ : ClassId) (r : Nat → Nat) (σ : Sg) (hS0 : okS σ) (rs : Int → Int) (kn : Prop) (be lm : Int) (lf : Int → Int) (pm : Int) (pf nw th pg : Int → Int) (x k0 : Int) (hi : i32 x) (h : fndP lf x k0) : RoI l yX4_lineOf wsX4_lineOf 0 0 D (tyc cI cJ cZ) (wMo r cI cJ cZ (sWd σ) (sPp σ) (sNb σ) (sLs σ) (sWs σ) (sM σ) (sCs σ) (sCt σ) rs kn be lm lf pm pf nw th pg) [.ref (r 0), .int (jI x)] (jI k0) := by
  refine j_start RX4 rfl (by decide) rfl (Nat.le_of_ble_eq_true rfl) ?_
  intro p e s m below meth c ls hx hb hr hlocks hml hown hts hnm hl ⟨hP, hK⟩
  have hP : va_P D vwCl (wMo r cI cJ cZ (sWd σ) (sPp σ) (sNb σ) (sLs σ) (sWs σ) (sM σ) (sCs σ) (sCt σ) rs kn be lm lf pm pf nw th pg) s.heap := hP
  have hl : lv_has ls 3 [(0, .ref (r 0)), (1, .int (jI x))] := hl
  have hinX4 : ∀ w ∈ u_ws RX4 TX4 18, w ∈ wsX4_lineOf := by decide +kernel
  have hnb := hS0.1
  have hwd := hS0.2.1
  have hpp := hS0.2.2.1
  have hct := hS0.2.2.2.1
  unfold i32 at hi
  refine j_iconst hx hb dX4_lineOf_0 ?_
  refine lv_istore_n (lv' := [(2, .int (jI 0)), (0, .ref (r 0)), (1, .int (jI x))]) hx hb dX4_lineOf_1 rfl hl (by decide) rfl (fun ls hl => ?_)
  refine j_loop (α := Int × Array Slot) (h := fun _ => s.heap) (lc := fun _ => []) (f := fun z => match z with | (k, ls) => F0 m 2 ls []) (P := fun nn z => match z with | (k, ls) => (0 ≤ k ∧ k ≤ k0) ∧ (k0 - k).toNat < nn ∧ lv_has ls 3 [(0, .ref (r 0)), (1, .int (jI x)), (2, .int (jI k))]) (fun z hz => ?_) ?_ ((k0 - 0).toNat + 1) (0, ls) ⟨⟨by omega, h.1.1⟩, Nat.lt_succ_self _, lv_sub hl [1, 2, 0] rfl⟩
  · obtain ⟨k, ls⟩ := z; exact absurd hz.2.1 (Nat.not_lt_zero _)
  intro n2 ih2 ⟨k, ls⟩ ⟨hi2, hm2, hl⟩
  have hl : lv_has ls 3 [(0, .ref (r 0)), (1, .int (jI x)), (2, .int (jI k))] := hl
  show W p l e _ s m _ below meth c s.heap [] _ _ _ (F0 m 2 ls [])
  obtain ⟨hk1, hk2⟩ := hi2
  have hb24 := h.2.2.2 k hk1 hk2
  have hk24 := h.1
  refine lv_aload_n hx hb dX4_lineOf_2 rfl (lv_at hl 0 rfl) ?_
  refine va_get (D := D) (ci := 4) (v := .ref (r 6)) (C := RX4) (T := TX4) (N := 18) hx hb hts hinX4 hown hK hP 0 rfl rfl 12 (by decide) (hts (.fieldLink RX4 27 "BreakLinesModel" "lineFrom" "[I") (by decide +kernel)) (fun _ h9 => h9) rfl dX4_lineOf_3 ?_
  refine lv_iload_n hx hb dX4_lineOf_6 rfl (lv_at hl 2 rfl) ?_
  refine j_iconst hx hb dX4_lineOf_7 ?_
  refine j_iadd hx hb dX4_lineOf_8 ?_
  refine j_iald hx hb hK hP 6 0 rfl rfl (i := k + 1) (by omega) (by decide) dX4_lineOf_9 ?_
  refine lv_iload_n hx hb dX4_lineOf_10 rfl (lv_at hl 1 rfl) ?_
  refine j_icmp_gt (tgt := 20) hx hb (by unfold i32; omega) dX4_lineOf_11 (by decide) (fun c11 => ?_) (fun c11 => ?_)
  · skip
    refine lv_iload_n hx hb dX4_lineOf_20 rfl (lv_at hl 2 rfl) ?_
    exact j_retI hx hb hr hlocks dX4_lineOf_21 (congrArg jI (by rcases Int.lt_or_le k k0 with w | w; (have := h.2.2.1 k (by omega) w; omega); omega))
  · skip
    have hkk : k < k0 := by
      rcases Int.lt_or_le k k0 with w | w
      · exact w
      · have z : k = k0 := by omega
        have z2 := h.2.1
        rw [← z] at z2
        omega
    refine lv_iinc (v := jI (k + 1)) (lv' := [(2, .int (jI (k + 1))), (0, .ref (r 0)), (1, .int (jI x))]) hx hb dX4_lineOf_14 hl (k := 2) rfl (jI_add _ _) (by decide) rfl (fun ls hl => ?_)
    refine lv_goto (tgt := 2) hx hb dX4_lineOf_17 (by decide) ?_
    exact ih2 (k + 1, ls) ⟨⟨by omega, by omega⟩, by omega, lv_sub hl [1, 2, 0] rfl⟩
set_option maxHeartbeats 4000000 in
set_option maxRecDepth 100000 in
theorem kX4_pageOf (l : Launch) (D : va_G) (cI cJ cZ : ClassId) (r : Nat → Nat) (σ : Sg) (hS0 : okS σ) (rs : Int → Int) (kn : Prop) (be lm : Int) (lf : Int → Int) (pm : Int) (pf nw th pg : Int → Int) (x k0 : Int) (hi : i32 x) (h : fndP pf x k0) : RoI l yX4_pageOf wsX4_pageOf 0 0 D (tyc cI cJ cZ) (wMo r cI cJ cZ (sWd σ) (sPp σ) (sNb σ) (sLs σ) (sWs σ) (sM σ) (sCs σ) (sCt σ) rs kn be lm lf pm pf nw th pg) [.ref (r 0), .int (jI x)] (jI k0) := by
  refine j_start RX4 rfl (by decide) rfl (Nat.le_of_ble_eq_true rfl) ?_
  intro p e s m below meth c ls hx hb hr hlocks hml hown hts hnm hl ⟨hP, hK⟩
  have hP : va_P D vwCl (wMo r cI cJ cZ (sWd σ) (sPp σ) (sNb σ) (sLs σ) (sWs σ) (sM σ) (sCs σ) (sCt σ) rs kn be lm lf pm pf nw th pg) s.heap := hP
  have hl : lv_has ls 3 [(0, .ref (r 0)), (1, .int (jI x))] := hl
  have hinX4 : ∀ w ∈ u_ws RX4 TX4 18, w ∈ wsX4_pageOf := by decide +kernel
  have hnb := hS0.1
  have hwd := hS0.2.1
  have hpp := hS0.2.2.1
  have hct := hS0.2.2.2.1
  unfold i32 at hi
  refine j_iconst hx hb dX4_pageOf_0 ?_
  refine lv_istore_n (lv' := [(2, .int (jI 0)), (0, .ref (r 0)), (1, .int (jI x))]) hx hb dX4_pageOf_1 rfl hl (by decide) rfl (fun ls hl => ?_)
  refine j_loop (α := Int × Array Slot) (h := fun _ => s.heap) (lc := fun _ => []) (f := fun z => match z with | (k, ls) => F0 m 2 ls []) (P := fun nn z => match z with | (k, ls) => (0 ≤ k ∧ k ≤ k0) ∧ (k0 - k).toNat < nn ∧ lv_has ls 3 [(0, .ref (r 0)), (1, .int (jI x)), (2, .int (jI k))]) (fun z hz => ?_) ?_ ((k0 - 0).toNat + 1) (0, ls) ⟨⟨by omega, h.1.1⟩, Nat.lt_succ_self _, lv_sub hl [1, 2, 0] rfl⟩
  · obtain ⟨k, ls⟩ := z; exact absurd hz.2.1 (Nat.not_lt_zero _)
  intro n2 ih2 ⟨k, ls⟩ ⟨hi2, hm2, hl⟩
  have hl : lv_has ls 3 [(0, .ref (r 0)), (1, .int (jI x)), (2, .int (jI k))] := hl
  show W p l e _ s m _ below meth c s.heap [] _ _ _ (F0 m 2 ls [])
  obtain ⟨hk1, hk2⟩ := hi2
  have hb24 := h.2.2.2 k hk1 hk2
  have hk24 := h.1
  refine lv_aload_n hx hb dX4_pageOf_2 rfl (lv_at hl 0 rfl) ?_
  refine va_get (D := D) (ci := 4) (v := .ref (r 7)) (C := RX4) (T := TX4) (N := 18) hx hb hts hinX4 hown hK hP 0 rfl rfl 14 (by decide) (hts (.fieldLink RX4 30 "BreakLinesModel" "pageFrom" "[I") (by decide +kernel)) (fun _ h9 => h9) rfl dX4_pageOf_3 ?_
  refine lv_iload_n hx hb dX4_pageOf_6 rfl (lv_at hl 2 rfl) ?_
  refine j_iconst hx hb dX4_pageOf_7 ?_
  refine j_iadd hx hb dX4_pageOf_8 ?_
  refine j_iald hx hb hK hP 7 0 rfl rfl (i := k + 1) (by omega) (by decide) dX4_pageOf_9 ?_
  refine lv_iload_n hx hb dX4_pageOf_10 rfl (lv_at hl 1 rfl) ?_
  refine j_icmp_gt (tgt := 20) hx hb (by unfold i32; omega) dX4_pageOf_11 (by decide) (fun c11 => ?_) (fun c11 => ?_)
  · skip
    refine lv_iload_n hx hb dX4_pageOf_20 rfl (lv_at hl 2 rfl) ?_
    exact j_retI hx hb hr hlocks dX4_pageOf_21 (congrArg jI (by rcases Int.lt_or_le k k0 with w | w; (have := h.2.2.1 k (by omega) w; omega); omega))
  · skip
    have hkk : k < k0 := by
      rcases Int.lt_or_le k k0 with w | w
      · exact w
      · have z : k = k0 := by omega
        have z2 := h.2.1
        rw [← z] at z2
        omega
    refine lv_iinc (v := jI (k + 1)) (lv' := [(2, .int (jI (k + 1))), (0, .ref (r 0)), (1, .int (jI x))]) hx hb dX4_pageOf_14 hl (k := 2) rfl (jI_add _ _) (by decide) rfl (fun ls hl => ?_)
    refine lv_goto (tgt := 2) hx hb dX4_pageOf_17 (by decide) ?_
    exact ih2 (k + 1, ls) ⟨⟨by omega, by omega⟩, by omega, lv_sub hl [1, 2, 0] rfl⟩
set_option maxHeartbeats 4000000 in
set_option maxRecDepth 100000 in
theorem kX4_wide (l : Launch) (D : va_G) (cI cJ cZ : ClassId) (r : Nat → Nat) (σ : Sg) (hS0 : okS σ) (rs : Int → Int) (kn : Prop) (be lm : Int) (lf : Int → Int) (pm : Int) (pf nw th pg : Int → Int) (a b k : Int) (h : 0 ≤ a ∧ a ≤ b ∧ b < sNb σ ∧ a ≤ k ∧ k ≤ b) : RoI l yX4_wide wsX4_wide 2 47 D (tyc cI cJ cZ) (wMo r cI cJ cZ (sWd σ) (sPp σ) (sNb σ) (sLs σ) (sWs σ) (sM σ) (sCs σ) (sCt σ) rs kn be lm lf pm pf nw th pg) [.ref (r 0), .int (jI a), .int (jI b), .int (jI k)] (jI (ahd σ a b (k + 1) - ahd σ a b k)) := by
  refine j_start RX4 rfl (by decide) rfl (Nat.le_of_ble_eq_true rfl) ?_
  intro p e s m below meth c ls hx hb hr hlocks hml hown hts hnm hl ⟨hP, hK⟩
  have hP : va_P D vwCl (wMo r cI cJ cZ (sWd σ) (sPp σ) (sNb σ) (sLs σ) (sWs σ) (sM σ) (sCs σ) (sCt σ) rs kn be lm lf pm pf nw th pg) s.heap := hP
  have hl : lv_has ls 15 [(0, .ref (r 0)), (1, .int (jI a)), (2, .int (jI b)), (3, .int (jI k))] := hl
  have hinX4 : ∀ w ∈ u_ws RX4 TX4 18, w ∈ wsX4_wide := by decide +kernel
  have hnb := hS0.1
  have hwd := hS0.2.1
  have hpp := hS0.2.2.1
  have hct := hS0.2.2.2.1
  have e3 := preB hS0 (a := a) (b := b + 1) (by omega) (by omega) (by omega)
  have e4 := preB hS0 (a := 0) (b := a) (by omega) (by omega) (by omega)
  rw [pre_0, pre_0] at e4
  have htl : tot (sLs σ) a b = pre (sLs σ) (b + 1) - pre (sLs σ) a := rfl
  have htw : tot (sWs σ) a b = pre (sWs σ) (b + 1) - pre (sWs σ) a := rfl
  have hdd : dd σ a b = sWd σ - (pre (sWs σ) (b + 1) - pre (sWs σ) a) := rfl
  have hlw := fun (j : Int) (h1 : 0 ≤ j) (h2 : j < sNb σ) => hS0.2.2.2.2.2 j h1 h2
  have hlk := hlw k (by omega) (by omega)
  refine lv_aload_n hx hb dX4_wide_0 rfl (lv_at hl 0 rfl) ?_
  refine lv_iload_n hx hb dX4_wide_1 rfl (lv_at hl 1 rfl) ?_
  refine lv_iload_n hx hb dX4_wide_2 rfl (lv_at hl 2 rfl) ?_
  refine j_cVI (As := [.int (jI a), .int (jI b)]) (rest := []) ⟨hx, hb, hml, hown, hts⟩ (kX4_isOver l D cI cJ cZ r σ hS0 rs kn be lm lf pm pf nw th pg a b (by omega)) (cwV 2 hts gX4_wide_X4_isOver rfl rfl rfl (by decide +kernel) ⟨Nat.le_of_ble_eq_true rfl, Nat.le_of_ble_eq_true rfl⟩) hK hP (va_recv hK hP (ci := 4) (q0 := 0) rfl rfl) rfl hl.1 rfl (Nat.le_of_ble_eq_true rfl) ⟨Nat.zero_le _, Nat.zero_le _⟩ dX4_wide_3 ?_
  refine j_ifeqZ (tgt := 16) hx hb dX4_wide_6 (by decide) (fun c6 => ?_) (fun c6 => ?_)
  · skip
    refine lv_aload_n hx hb dX4_wide_16 rfl (lv_at hl 0 rfl) ?_
    refine lv_iload_n hx hb dX4_wide_17 rfl (lv_at hl 1 rfl) ?_
    refine lv_iload_n hx hb dX4_wide_18 rfl (lv_at hl 2 rfl) ?_
    refine j_cVI (As := [.int (jI a), .int (jI b)]) (rest := []) ⟨hx, hb, hml, hown, hts⟩ (kX4_off l D cI cJ cZ r σ hS0 rs kn be lm lf pm pf nw th pg a b (by omega)) (cwV 2 hts gX4_wide_X4_off rfl rfl rfl (by decide +kernel) ⟨Nat.le_of_ble_eq_true rfl, Nat.le_of_ble_eq_true rfl⟩) hK hP (va_recv hK hP (ci := 4) (q0 := 0) rfl rfl) rfl hl.1 rfl (Nat.le_of_ble_eq_true rfl) ⟨Nat.zero_le _, Nat.zero_le _⟩ dX4_wide_19 ?_
    refine j_i2l hx hb (by unfold i32; omega) dX4_wide_22 ?_
    refine lv_lstore (lv' := [(4, .long (jL (dd σ a b))), (0, .ref (r 0)), (1, .int (jI a)), (2, .int (jI b)), (3, .int (jI k))]) hx hb dX4_wide_23 hl (by decide) rfl (fun ls hl => ?_)
    refine lv_lload hx hb dX4_wide_25 (lv_at hl 0 rfl) ?_
    refine j_lconst0 hx hb dX4_wide_27 ?_
    refine j_join (α := Int) (P := fun yb => yb = if dd σ a b < 0 then -dd σ a b else dd σ a b) (f := fun yb => F0 m 40 ls [.long (jL yb)]) ?_ (fun jn28 => ?_)
    · intro yb hvyb
      refine lv_lstore (lv' := [(6, .long (jL yb)), (4, .long (jL (dd σ a b))), (0, .ref (r 0)), (1, .int (jI a)), (2, .int (jI b)), (3, .int (jI k))]) hx hb dX4_wide_40 hl (by decide) rfl (fun ls hl => ?_)
      refine j_lconst0 hx hb dX4_wide_42 ?_
      refine lv_lstore (lv' := [(8, .long (jL 0)), (6, .long (jL yb)), (4, .long (jL (dd σ a b))), (0, .ref (r 0)), (1, .int (jI a)), (2, .int (jI b)), (3, .int (jI k))]) hx hb dX4_wide_43 hl (by decide) rfl (fun ls hl => ?_)
      refine j_lconst0 hx hb dX4_wide_45 ?_
      refine lv_lstore (lv' := [(10, .long (jL 0)), (8, .long (jL 0)), (6, .long (jL yb)), (4, .long (jL (dd σ a b))), (0, .ref (r 0)), (1, .int (jI a)), (2, .int (jI b)), (3, .int (jI k))]) hx hb dX4_wide_46 hl (by decide) rfl (fun ls hl => ?_)
      refine lv_iload_n hx hb dX4_wide_48 rfl (lv_at hl 5 rfl) ?_
      refine lv_istore (lv' := [(12, .int (jI a)), (10, .long (jL 0)), (8, .long (jL 0)), (6, .long (jL yb)), (4, .long (jL (dd σ a b))), (0, .ref (r 0)), (1, .int (jI a)), (2, .int (jI b)), (3, .int (jI k))]) hx hb dX4_wide_49 hl (by decide) rfl (fun ls hl => ?_)
      refine j_loop (α := Int × Int × Int × Array Slot) (h := fun _ => s.heap) (lc := fun _ => []) (f := fun z => match z with | (al, up, i, ls) => F0 m 51 ls []) (P := fun nn z => match z with | (al, up, i, ls) => ((a ≤ i ∧ i ≤ b + 1) ∧ al = PA σ (dd σ a b) i - PA σ (dd σ a b) a ∧ ((i ≤ k + 1 ∧ up = PA σ (dd σ a b) i - PA σ (dd σ a b) a) ∨ (k + 1 < i ∧ up = PA σ (dd σ a b) (k + 1) - PA σ (dd σ a b) a))) ∧ (b + 1 - i).toNat < nn ∧ lv_has ls 15 [(0, .ref (r 0)), (1, .int (jI a)), (2, .int (jI b)), (3, .int (jI k)), (4, .long (jL (dd σ a b))), (6, .long (jL yb)), (8, .long (jL al)), (10, .long (jL up)), (12, .int (jI i))]) (fun z hz => ?_) ?_ ((b + 1 - a).toNat + 1) (0, 0, a, ls) ⟨⟨by omega, by omega, Or.inl ⟨by omega, by omega⟩⟩, Nat.lt_succ_self _, lv_sub hl [5, 6, 7, 8, 4, 3, 2, 1, 0] rfl⟩
      · obtain ⟨al, up, i, ls⟩ := z; exact absurd hz.2.1 (Nat.not_lt_zero _)
      intro n51 ih51 ⟨al, up, i, ls⟩ ⟨hi51, hm51, hl⟩
      have hl : lv_has ls 15 [(0, .ref (r 0)), (1, .int (jI a)), (2, .int (jI b)), (3, .int (jI k)), (4, .long (jL (dd σ a b))), (6, .long (jL yb)), (8, .long (jL al)), (10, .long (jL up)), (12, .int (jI i))] := hl
      show W p l e _ s m _ below meth c s.heap [] _ _ _ (F0 m 51 ls [])
      obtain ⟨hi1, hi2, hi3⟩ := hi51
      refine lv_iload hx hb dX4_wide_51 (lv_at hl 8 rfl) ?_
      refine lv_iload_n hx hb dX4_wide_53 rfl (lv_at hl 2 rfl) ?_
      refine j_icmp_gt (tgt := 123) hx hb (by unfold i32; omega) dX4_wide_54 (by decide) (fun c54 => ?_) (fun c54 => ?_)
      · skip
        have eup : up = PA σ (dd σ a b) (k + 1) - PA σ (dd σ a b) a := by
          rcases hi3 with w | w
          · rw [w.2, show i = k + 1 by omega]
          · exact w.2
        have hal2 : al = PA σ (dd σ a b) (b + 1) - PA σ (dd σ a b) a := by rw [hi2, show i = b + 1 by omega]
        have hyb : 0 ≤ yb ∧ yb ≤ 10000 := by split at hvyb <;> omega
        have hB1 := PA_B hS0 (dd σ a b) (a := a) (b := k + 1) (by omega) (by omega) (by omega)
        have hB2 := PA_B hS0 (dd σ a b) (a := a) (b := k) (by omega) (by omega) (by omega)
        have hB3 := PA_s σ (dd σ a b) (k := k) (by omega)
        have hB4 := PA_B hS0 (dd σ a b) (a := a) (b := b + 1) (by omega) (by omega) (by omega)
        have hal : 0 < al := by
          rw [hal2]
          unfold PA
          split <;> omega
        refine lv_lload hx hb dX4_wide_123 (lv_at hl 4 rfl) ?_
        refine j_lconst0 hx hb dX4_wide_125 ?_
        refine j_join (α := Int) (P := fun ow => ow = PP σ (dd σ a b) k) (f := fun ow => F0 m 154 ls [.long (jL ow)]) ?_ (fun jn126 => ?_)
        · intro ow hvow
          have hm1 : 0 ≤ yb * up ∧ yb * up ≤ 100000000 := ⟨Int.mul_nonneg (by omega) (by omega), by have z := Int.mul_le_mul (a := yb) (b := up) (c := 10000) (d := 10000) (by omega) (by omega) (by omega) (by omega); omega⟩
          have hm2 : 0 ≤ yb * (up - ow) ∧ yb * (up - ow) ≤ 100000000 := ⟨Int.mul_nonneg (by omega) (by omega), by have z := Int.mul_le_mul (a := yb) (b := up - ow) (c := 10000) (d := 10000) (by omega) (by omega) (by omega) (by omega); omega⟩
          refine lv_lstore (lv' := [(12, .long (jL ow)), (0, .ref (r 0)), (1, .int (jI a)), (2, .int (jI b)), (3, .int (jI k)), (4, .long (jL (dd σ a b))), (6, .long (jL yb)), (8, .long (jL al)), (10, .long (jL up))]) hx hb dX4_wide_154 hl (by decide) rfl (fun ls hl => ?_)
          refine lv_lload hx hb dX4_wide_156 (lv_at hl 6 rfl) ?_
          refine lv_lload hx hb dX4_wide_158 (lv_at hl 8 rfl) ?_
          refine j_lmul hx hb dX4_wide_160 ?_
          refine lv_lload hx hb dX4_wide_161 (lv_at hl 7 rfl) ?_
          refine j_ldiv hx hb (by omega) dX4_wide_163 ?_
          refine lv_lload hx hb dX4_wide_164 (lv_at hl 6 rfl) ?_
          refine lv_lload hx hb dX4_wide_166 (lv_at hl 8 rfl) ?_
          refine lv_lload hx hb dX4_wide_168 (lv_at hl 0 rfl) ?_
          refine j_lsub hx hb dX4_wide_170 ?_
          refine j_lmul hx hb dX4_wide_171 ?_
          refine lv_lload hx hb dX4_wide_172 (lv_at hl 7 rfl) ?_
          refine j_ldiv hx hb (by omega) dX4_wide_174 ?_
          refine j_lsub hx hb dX4_wide_175 ?_
          refine j_l2i hx hb dX4_wide_176 ?_
          refine lv_istore (lv' := [(14, .int (jI (((yb * up) / al) - ((yb * (up - ow)) / al)))), (12, .long (jL ow)), (0, .ref (r 0)), (1, .int (jI a)), (2, .int (jI b)), (3, .int (jI k)), (4, .long (jL (dd σ a b))), (6, .long (jL yb)), (8, .long (jL al)), (10, .long (jL up))]) hx hb dX4_wide_177 hl (by decide) rfl (fun ls hl => ?_)
          refine lv_lload hx hb dX4_wide_179 (lv_at hl 6 rfl) ?_
          refine j_lconst0 hx hb dX4_wide_181 ?_
          refine j_lcmp_ge (tgt := 198) hx hb (by unfold i64; omega) dX4_wide_182 dX4_wide_183 (by decide) (fun c182 => ?_) (fun c182 => ?_)
          · skip
            refine lv_aload_n hx hb dX4_wide_198 rfl (lv_at hl 2 rfl) ?_
            refine va_get (D := D) (ci := 4) (v := .ref (r 2)) (C := RX4) (T := TX4) (N := 18) hx hb hts hinX4 hown hK hP 0 rfl rfl 4 (by decide) (hts (.fieldLink RX4 13 "BreakLinesModel" "wishes" "[I") (by decide +kernel)) (fun _ h9 => h9) rfl dX4_wide_199 ?_
            refine lv_iload_n hx hb dX4_wide_202 rfl (lv_at hl 5 rfl) ?_
            refine j_iald hx hb hK hP 2 0 rfl rfl (i := k) (by omega) (by decide) dX4_wide_203 ?_
            refine lv_iload hx hb dX4_wide_204 (lv_at hl 0 rfl) ?_
            refine j_iadd hx hb dX4_wide_206 ?_
            exact j_retI hx hb hr hlocks dX4_wide_207 (congrArg jI (by have z := wide_eq hS0 h c6 hvyb; rw [if_neg (by omega)] at z; rw [← z, hal2, eup, hvow]))
          · skip
            refine lv_aload_n hx hb dX4_wide_186 rfl (lv_at hl 2 rfl) ?_
            refine va_get (D := D) (ci := 4) (v := .ref (r 2)) (C := RX4) (T := TX4) (N := 18) hx hb hts hinX4 hown hK hP 0 rfl rfl 4 (by decide) (hts (.fieldLink RX4 13 "BreakLinesModel" "wishes" "[I") (by decide +kernel)) (fun _ h9 => h9) rfl dX4_wide_187 ?_
            refine lv_iload_n hx hb dX4_wide_190 rfl (lv_at hl 5 rfl) ?_
            refine j_iald hx hb hK hP 2 0 rfl rfl (i := k) (by omega) (by decide) dX4_wide_191 ?_
            refine lv_iload hx hb dX4_wide_192 (lv_at hl 0 rfl) ?_
            refine j_isub hx hb dX4_wide_194 ?_
            refine lv_goto (tgt := 207) hx hb dX4_wide_195 (by decide) ?_
            exact j_retI hx hb hr hlocks dX4_wide_207 (congrArg jI (by have z := wide_eq hS0 h c6 hvyb; rw [if_pos c182] at z; rw [← z, hal2, eup, hvow]))
        refine j_lcmp_ge (tgt := 147) hx hb (by unfold i64; omega) dX4_wide_126 dX4_wide_127 (by decide) (fun c126 => ?_) (fun c126 => ?_)
        · skip
          refine lv_aload_n hx hb dX4_wide_147 rfl (lv_at hl 0 rfl) ?_
          refine va_get (D := D) (ci := 4) (v := .ref (r 2)) (C := RX4) (T := TX4) (N := 18) hx hb hts hinX4 hown hK hP 0 rfl rfl 4 (by decide) (hts (.fieldLink RX4 13 "BreakLinesModel" "wishes" "[I") (by decide +kernel)) (fun _ h9 => h9) rfl dX4_wide_148 ?_
          refine lv_iload_n hx hb dX4_wide_151 rfl (lv_at hl 3 rfl) ?_
          refine j_iald hx hb hK hP 2 0 rfl rfl (i := k) (by omega) (by decide) dX4_wide_152 ?_
          refine j_i2l hx hb (by unfold i32; omega) dX4_wide_153 ?_
          exact jn126 ((sWs σ) k) (by unfold PP; first | exact (if_pos c126).symm | exact (if_neg (by omega)).symm)
        · skip
          refine lv_aload_n hx hb dX4_wide_130 rfl (lv_at hl 0 rfl) ?_
          refine va_get (D := D) (ci := 4) (v := .ref (r 2)) (C := RX4) (T := TX4) (N := 18) hx hb hts hinX4 hown hK hP 0 rfl rfl 4 (by decide) (hts (.fieldLink RX4 13 "BreakLinesModel" "wishes" "[I") (by decide +kernel)) (fun _ h9 => h9) rfl dX4_wide_131 ?_
          refine lv_iload_n hx hb dX4_wide_134 rfl (lv_at hl 3 rfl) ?_
          refine j_iald hx hb hK hP 2 0 rfl rfl (i := k) (by omega) (by decide) dX4_wide_135 ?_
          refine lv_aload_n hx hb dX4_wide_136 rfl (lv_at hl 0 rfl) ?_
          refine va_get (D := D) (ci := 4) (v := .ref (r 1)) (C := RX4) (T := TX4) (N := 18) hx hb hts hinX4 hown hK hP 0 rfl rfl 3 (by decide) (hts (.fieldLink RX4 7 "BreakLinesModel" "leasts" "[I") (by decide +kernel)) (fun _ h9 => h9) rfl dX4_wide_137 ?_
          refine lv_iload_n hx hb dX4_wide_140 rfl (lv_at hl 3 rfl) ?_
          refine j_iald hx hb hK hP 1 0 rfl rfl (i := k) (by omega) (by decide) dX4_wide_141 ?_
          refine j_isub hx hb dX4_wide_142 ?_
          refine j_i2l hx hb (by unfold i32; omega) dX4_wide_143 ?_
          refine lv_goto (tgt := 154) hx hb dX4_wide_144 (by decide) ?_
          exact jn126 (((sWs σ) k) - ((sLs σ) k)) (by unfold PP; first | exact (if_pos c126).symm | exact (if_neg (by omega)).symm)
      · skip
        refine lv_lload hx hb dX4_wide_57 (lv_at hl 4 rfl) ?_
        refine j_lconst0 hx hb dX4_wide_59 ?_
        refine j_join (α := Int) (P := fun pt => pt = PP σ (dd σ a b) i) (f := fun pt => F0 m 91 ls [.long (jL pt)]) ?_ (fun jn60 => ?_)
        · intro pt hvpt
          refine lv_lstore (lv' := [(13, .long (jL pt)), (0, .ref (r 0)), (1, .int (jI a)), (2, .int (jI b)), (3, .int (jI k)), (4, .long (jL (dd σ a b))), (6, .long (jL yb)), (8, .long (jL al)), (10, .long (jL up)), (12, .int (jI i))]) hx hb dX4_wide_91 hl (by decide) rfl (fun ls hl => ?_)
          refine lv_lload hx hb dX4_wide_93 (lv_at hl 7 rfl) ?_
          refine lv_lload hx hb dX4_wide_95 (lv_at hl 0 rfl) ?_
          refine j_ladd hx hb dX4_wide_97 ?_
          refine lv_lstore (lv' := [(8, .long (jL (al + pt))), (13, .long (jL pt)), (0, .ref (r 0)), (1, .int (jI a)), (2, .int (jI b)), (3, .int (jI k)), (4, .long (jL (dd σ a b))), (6, .long (jL yb)), (10, .long (jL up)), (12, .int (jI i))]) hx hb dX4_wide_98 hl (by decide) rfl (fun ls hl => ?_)
          refine lv_lload hx hb dX4_wide_100 (lv_at hl 8 rfl) ?_
          refine lv_iload hx hb dX4_wide_102 (lv_at hl 9 rfl) ?_
          refine lv_iload_n hx hb dX4_wide_104 rfl (lv_at hl 5 rfl) ?_
          refine j_join (α := Int) (P := fun qt => (i ≤ k ∧ qt = pt) ∨ (k < i ∧ qt = 0)) (f := fun qt => F0 m 114 ls [.long (jL qt), .long (jL up)]) ?_ (fun jn105 => ?_)
          · intro qt hvqt
            refine j_ladd hx hb dX4_wide_114 ?_
            refine lv_lstore (lv' := [(10, .long (jL (up + qt))), (8, .long (jL (al + pt))), (13, .long (jL pt)), (0, .ref (r 0)), (1, .int (jI a)), (2, .int (jI b)), (3, .int (jI k)), (4, .long (jL (dd σ a b))), (6, .long (jL yb)), (12, .int (jI i))]) hx hb dX4_wide_115 hl (by decide) rfl (fun ls hl => ?_)
            refine lv_iinc (v := jI (i + 1)) (lv' := [(12, .int (jI (i + 1))), (10, .long (jL (up + qt))), (8, .long (jL (al + pt))), (13, .long (jL pt)), (0, .ref (r 0)), (1, .int (jI a)), (2, .int (jI b)), (3, .int (jI k)), (4, .long (jL (dd σ a b))), (6, .long (jL yb))]) hx hb dX4_wide_117 hl (k := 9) rfl (jI_add _ _) (by decide) rfl (fun ls hl => ?_)
            refine lv_goto (tgt := 51) hx hb dX4_wide_120 (by decide) ?_
            exact ih51 (al + pt, up + qt, i + 1, ls) ⟨⟨by omega, by have z := PA_s σ (dd σ a b) (k := i) (by omega); omega, by
          have z := PA_s σ (dd σ a b) (k := i) (by omega)
          by_cases w : i ≤ k
          · left; omega
          · right
            by_cases w2 : i = k + 1
            · rw [w2] at hi3; omega
            · omega⟩, by omega, lv_sub hl [4, 5, 6, 7, 8, 9, 2, 1, 0] rfl⟩
          refine j_icmp_gt (tgt := 113) hx hb (by unfold i32; omega) dX4_wide_105 (by decide) (fun c105 => ?_) (fun c105 => ?_)
          · skip
            refine j_lconst0 hx hb dX4_wide_113 ?_
            exact jn105 0 (by omega)
          · skip
            refine lv_lload hx hb dX4_wide_108 (lv_at hl 1 rfl) ?_
            refine lv_goto (tgt := 114) hx hb dX4_wide_110 (by decide) ?_
            exact jn105 pt (by omega)
        refine j_lcmp_ge (tgt := 83) hx hb (by unfold i64; omega) dX4_wide_60 dX4_wide_61 (by decide) (fun c60 => ?_) (fun c60 => ?_)
        · skip
          have hli := hlw i (by omega) (by omega)
          refine lv_aload_n hx hb dX4_wide_83 rfl (lv_at hl 0 rfl) ?_
          refine va_get (D := D) (ci := 4) (v := .ref (r 2)) (C := RX4) (T := TX4) (N := 18) hx hb hts hinX4 hown hK hP 0 rfl rfl 4 (by decide) (hts (.fieldLink RX4 13 "BreakLinesModel" "wishes" "[I") (by decide +kernel)) (fun _ h9 => h9) rfl dX4_wide_84 ?_
          refine lv_iload hx hb dX4_wide_87 (lv_at hl 8 rfl) ?_
          refine j_iald hx hb hK hP 2 0 rfl rfl (i := i) (by omega) (by decide) dX4_wide_89 ?_
          refine j_i2l hx hb (by unfold i32; omega) dX4_wide_90 ?_
          exact jn60 ((sWs σ) i) (by unfold PP; first | exact (if_pos c60).symm | exact (if_neg (by omega)).symm)
        · skip
          have hli := hlw i (by omega) (by omega)
          refine lv_aload_n hx hb dX4_wide_64 rfl (lv_at hl 0 rfl) ?_
          refine va_get (D := D) (ci := 4) (v := .ref (r 2)) (C := RX4) (T := TX4) (N := 18) hx hb hts hinX4 hown hK hP 0 rfl rfl 4 (by decide) (hts (.fieldLink RX4 13 "BreakLinesModel" "wishes" "[I") (by decide +kernel)) (fun _ h9 => h9) rfl dX4_wide_65 ?_
          refine lv_iload hx hb dX4_wide_68 (lv_at hl 8 rfl) ?_
          refine j_iald hx hb hK hP 2 0 rfl rfl (i := i) (by omega) (by decide) dX4_wide_70 ?_
          refine lv_aload_n hx hb dX4_wide_71 rfl (lv_at hl 0 rfl) ?_
          refine va_get (D := D) (ci := 4) (v := .ref (r 1)) (C := RX4) (T := TX4) (N := 18) hx hb hts hinX4 hown hK hP 0 rfl rfl 3 (by decide) (hts (.fieldLink RX4 7 "BreakLinesModel" "leasts" "[I") (by decide +kernel)) (fun _ h9 => h9) rfl dX4_wide_72 ?_
          refine lv_iload hx hb dX4_wide_75 (lv_at hl 8 rfl) ?_
          refine j_iald hx hb hK hP 1 0 rfl rfl (i := i) (by omega) (by decide) dX4_wide_77 ?_
          refine j_isub hx hb dX4_wide_78 ?_
          refine j_i2l hx hb (by unfold i32; omega) dX4_wide_79 ?_
          refine lv_goto (tgt := 91) hx hb dX4_wide_80 (by decide) ?_
          exact jn60 (((sWs σ) i) - ((sLs σ) i)) (by unfold PP; first | exact (if_pos c60).symm | exact (if_neg (by omega)).symm)
    refine j_lcmp_ge (tgt := 38) hx hb (by unfold i64; omega) dX4_wide_28 dX4_wide_29 (by decide) (fun c28 => ?_) (fun c28 => ?_)
    · skip
      refine lv_lload hx hb dX4_wide_38 (lv_at hl 0 rfl) ?_
      exact jn28 (dd σ a b) (by first | exact (if_pos c28).symm | exact (if_neg (by omega)).symm)
    · skip
      refine lv_lload hx hb dX4_wide_32 (lv_at hl 0 rfl) ?_
      refine j_lneg hx hb dX4_wide_34 ?_
      refine lv_goto (tgt := 40) hx hb dX4_wide_35 (by decide) ?_
      exact jn28 (-(dd σ a b)) (by first | exact (if_pos c28).symm | exact (if_neg (by omega)).symm)
  · skip
    refine lv_aload_n hx hb dX4_wide_9 rfl (lv_at hl 0 rfl) ?_
    refine va_get (D := D) (ci := 4) (v := .ref (r 1)) (C := RX4) (T := TX4) (N := 18) hx hb hts hinX4 hown hK hP 0 rfl rfl 3 (by decide) (hts (.fieldLink RX4 7 "BreakLinesModel" "leasts" "[I") (by decide +kernel)) (fun _ h9 => h9) rfl dX4_wide_10 ?_
    refine lv_iload_n hx hb dX4_wide_13 rfl (lv_at hl 3 rfl) ?_
    refine j_iald hx hb hK hP 1 0 rfl rfl (i := k) (by omega) (by decide) dX4_wide_14 ?_
    exact j_retI hx hb hr hlocks dX4_wide_15 (congrArg jI (by unfold ahd; rw [if_pos c6, if_pos c6, pre_s _ (by omega)]; omega))
set_option maxHeartbeats 4000000 in
set_option maxRecDepth 100000 in
theorem kX4_isThere (l : Launch) (D : va_G) (cI cJ cZ : ClassId) (r : Nat → Nat) (σ : Sg) (hS0 : okS σ) (rs : Int → Int) (kn : Prop) (be lm : Int) (lf : Int → Int) (pm : Int) (pf nw th pg : Int → Int) (hI : kn → mOK σ be lm lf pm pf) : MuI l yX4_isThere wsX4_isThere 6 149 D (tyc cI cJ cZ) (wMo r cI cJ cZ (sWd σ) (sPp σ) (sNb σ) (sLs σ) (sWs σ) (sM σ) (sCs σ) (sCt σ) rs kn be lm lf pm pf nw th pg) [.ref (r 0)] (fun (r : Int32) (u : (Int → Int) × Prop × Int × Int × (Int → Int) × Int × (Int → Int) × (Int → Int) × (Int → Int) × (Int → Int)) => r = jZ (u.2.2.1 ≠ 4611686018427387904) ∧ u.2.1 ∧ mOK σ u.2.2.1 u.2.2.2.1 u.2.2.2.2.1 u.2.2.2.2.2.1 u.2.2.2.2.2.2.1) (fun u => wMo r cI cJ cZ (sWd σ) (sPp σ) (sNb σ) (sLs σ) (sWs σ) (sM σ) (sCs σ) (sCt σ) u.1 u.2.1 u.2.2.1 u.2.2.2.1 u.2.2.2.2.1 u.2.2.2.2.2.1 u.2.2.2.2.2.2.1 u.2.2.2.2.2.2.2.1 u.2.2.2.2.2.2.2.2.1 u.2.2.2.2.2.2.2.2.2) := by
  intro sz
  refine j_start RX4 rfl (by decide) rfl (Nat.le_of_ble_eq_true rfl) ?_
  intro p e s m below meth c ls hx hb hr hlocks hml hown hts hnm hl ⟨hsz, hP, hK, hD0⟩
  subst hsz
  have hD := hD0.self (sz := s.heap.size)
  generalize hAe : va_A (wMo r cI cJ cZ (sWd σ) (sPp σ) (sNb σ) (sLs σ) (sWs σ) (sM σ) (sCs σ) (sCt σ) rs kn be lm lf pm pf nw th pg) s.heap.size = A at hD ⊢
  have hA : ∀ q : Nat, s.heap.size ≤ q → A q := fun q h => by rw [← hAe]; exact Or.inr h
  refine j_gen (fun H locs hHe hLe => ?_)
  have hS : va_S A s.heap H locs := by rw [hHe, hLe]; exact va_S.rf
  have hP : va_P D vwCl (wMo r cI cJ cZ (sWd σ) (sPp σ) (sNb σ) (sLs σ) (sWs σ) (sM σ) (sCs σ) (sCt σ) rs kn be lm lf pm pf nw th pg) H := by rw [hHe]; exact hP
  have hD : va_D A (wMo r cI cJ cZ (sWd σ) (sPp σ) (sNb σ) (sLs σ) (sWs σ) (sM σ) (sCs σ) (sCt σ) rs kn be lm lf pm pf nw th pg) := hD
  have hl : lv_has ls 1 [(0, .ref (r 0))] := hl
  have hinX4 : ∀ w ∈ u_ws RX4 TX4 18, w ∈ wsX4_isThere := by decide +kernel
  have hnb := hS0.1
  have hwd := hS0.2.1
  have hpp := hS0.2.2.1
  have hct := hS0.2.2.2.1
  refine lv_aload_n hx hb dX4_isThere_0 rfl (lv_at hl 0 rfl) ?_
  refine j_mVV (As := []) (rest := []) ⟨hx, hb, hml, hown, hts⟩ (kX4_find l D cI cJ cZ r σ hS0 rs kn be lm lf pm pf nw th pg hI) (cwV 0 hts gX4_isThere_X4_find rfl rfl rfl (by decide +kernel) ⟨Nat.le_of_ble_eq_true rfl, Nat.le_of_ble_eq_true rfl⟩) hK hP hD hS hA (va_recv hK hP (ci := 4) (q0 := 0) rfl rfl) rfl hl.1 rfl (Nat.le_of_ble_eq_true rfl) ⟨Nat.zero_le _, Nat.zero_le _⟩ dX4_isThere_1 [0, 1, 2, 3, 4, 5, 6, 7, 8, 9, 10] [] [0, 1, 2, 3, 4, 5, 6, 7, 8, 9, 10] rfl (by decide) (wr := ([] : va_W)) rfl (by decide) (by decide) (fun _ => rfl) (fun u => wMo r cI cJ cZ (sWd σ) (sPp σ) (sNb σ) (sLs σ) (sWs σ) (sM σ) (sCs σ) (sCt σ) u.1 u.2.1 u.2.2.1 u.2.2.2.1 u.2.2.2.2.1 u.2.2.2.2.2.1 u.2.2.2.2.2.2.1 u.2.2.2.2.2.2.2.1 u.2.2.2.2.2.2.2.2.1 u.2.2.2.2.2.2.2.2.2) (fun _ => rfl) (fun _ => rfl) (fun ⟨rsc1, knc1, bec1, lmc1, lfc1, pmc1, pfc1, nwc1, thc1, pgc1⟩ H locs hu1 hP hD hS => ?_)
  have hkn1 : knc1 := hu1.1
  have hI1 : mOK σ bec1 lmc1 lfc1 pmc1 pfc1 := hu1.2
  have hbb : 0 ≤ bec1 ∧ bec1 ≤ 4611686018427387904 := mOK_B hS0 hI1
  have hP : va_P D vwCl (wMo r cI cJ cZ (sWd σ) (sPp σ) (sNb σ) (sLs σ) (sWs σ) (sM σ) (sCs σ) (sCt σ) rsc1 knc1 bec1 lmc1 lfc1 pmc1 pfc1 nwc1 thc1 pgc1) H := hP
  have hD : va_D A (wMo r cI cJ cZ (sWd σ) (sPp σ) (sNb σ) (sLs σ) (sWs σ) (sM σ) (sCs σ) (sCt σ) rsc1 knc1 bec1 lmc1 lfc1 pmc1 pfc1 nwc1 thc1 pgc1) := hD
  refine lv_aload_n hx hb dX4_isThere_4 rfl (lv_at hl 0 rfl) ?_
  refine va_get (D := D) (ci := 4) (v := .long (jL bec1)) (C := RX4) (T := TX4) (N := 18) hx hb hts hinX4 hown hK hP 0 rfl rfl 10 (by decide) (hts (.fieldLink RX4 116 "BreakLinesModel" "best" "J") (by decide +kernel)) (fun _ h9 => h9) rfl dX4_isThere_5 ?_
  refine lv_ldc2 (v := jL 4611686018427387904) hx hb hown (hts (.constantLong RX4 91 (4611686018427387904)) (by decide +kernel)) dX4_isThere_8 ?_
  refine j_lcmp_eq (tgt := 19) hx hb (by unfold i64; omega) dX4_isThere_11 dX4_isThere_12 (by decide) (fun c11 => ?_) (fun c11 => ?_)
  · skip
    refine j_iconst hx hb dX4_isThere_19 ?_
    exact j_mretZ hx hb hr (by decide) hlocks hS dX4_isThere_20 (rsc1, knc1, bec1, lmc1, lfc1, pmc1, pfc1, nwc1, thc1, pgc1) ⟨(jZ_f (fun z => z c11)).symm, hkn1, hI1⟩ hP
  · skip
    refine j_iconst hx hb dX4_isThere_15 ?_
    refine lv_goto (tgt := 20) hx hb dX4_isThere_16 (by decide) ?_
    exact j_mretZ hx hb hr (by decide) hlocks hS dX4_isThere_20 (rsc1, knc1, bec1, lmc1, lfc1, pmc1, pfc1, nwc1, thc1, pgc1) ⟨(jZ_t c11).symm, hkn1, hI1⟩ hP
set_option maxHeartbeats 4000000 in
set_option maxRecDepth 100000 in
theorem kX4_lines (l : Launch) (D : va_G) (cI cJ cZ : ClassId) (r : Nat → Nat) (σ : Sg) (hS0 : okS σ) (rs : Int → Int) (kn : Prop) (be lm : Int) (lf : Int → Int) (pm : Int) (pf nw th pg : Int → Int) (hI : kn → mOK σ be lm lf pm pf)  : MuI l yX4_lines wsX4_lines 7 169 D (tyc cI cJ cZ) (wMo r cI cJ cZ (sWd σ) (sPp σ) (sNb σ) (sLs σ) (sWs σ) (sM σ) (sCs σ) (sCt σ) rs kn be lm lf pm pf nw th pg) [.ref (r 0)] (fun (r : Int32) (u : MU) => r = jI (iteP (mBe u ≠ 4611686018427387904) (mLm u) (-3)) ∧ mInv u ∧ u.1 = σ ∧ mKn u) (fun u => wMU r cI cJ cZ u) := by
  intro sz
  refine j_start RX4 rfl (by decide) rfl (Nat.le_of_ble_eq_true rfl) ?_
  intro p e s m below meth c ls hx hb hr hlocks hml hown hts hnm hl ⟨hsz, hP, hK, hD0⟩
  subst hsz
  have hD := hD0.self (sz := s.heap.size)
  generalize hAe : va_A (wMo r cI cJ cZ (sWd σ) (sPp σ) (sNb σ) (sLs σ) (sWs σ) (sM σ) (sCs σ) (sCt σ) rs kn be lm lf pm pf nw th pg) s.heap.size = A at hD ⊢
  have hA : ∀ q : Nat, s.heap.size ≤ q → A q := fun q h => by rw [← hAe]; exact Or.inr h
  refine j_gen (fun H locs hHe hLe => ?_)
  have hS : va_S A s.heap H locs := by rw [hHe, hLe]; exact va_S.rf
  have hP : va_P D vwCl (wMo r cI cJ cZ (sWd σ) (sPp σ) (sNb σ) (sLs σ) (sWs σ) (sM σ) (sCs σ) (sCt σ) rs kn be lm lf pm pf nw th pg) H := by rw [hHe]; exact hP
  have hD : va_D A (wMo r cI cJ cZ (sWd σ) (sPp σ) (sNb σ) (sLs σ) (sWs σ) (sM σ) (sCs σ) (sCt σ) rs kn be lm lf pm pf nw th pg) := hD
  have hl : lv_has ls 1 [(0, .ref (r 0))] := hl
  have hinX4 : ∀ w ∈ u_ws RX4 TX4 18, w ∈ wsX4_lines := by decide +kernel
  have hnb := hS0.1
  have hwd := hS0.2.1
  have hpp := hS0.2.2.1
  have hct := hS0.2.2.2.1
  refine lv_aload_n hx hb dX4_lines_0 rfl (lv_at hl 0 rfl) ?_
  refine j_mVI (As := []) (rest := []) ⟨hx, hb, hml, hown, hts⟩ (kX4_isThere l D cI cJ cZ r σ hS0 rs kn be lm lf pm pf nw th pg hI) (cwV 0 hts gX4_lines_X4_isThere rfl rfl rfl (by decide +kernel) ⟨Nat.le_of_ble_eq_true rfl, Nat.le_of_ble_eq_true rfl⟩) hK hP hD hS hA (va_recv hK hP (ci := 4) (q0 := 0) rfl rfl) rfl hl.1 rfl (Nat.le_of_ble_eq_true rfl) ⟨Nat.zero_le _, Nat.zero_le _⟩ dX4_lines_1 [0, 1, 2, 3, 4, 5, 6, 7, 8, 9, 10] [] [0, 1, 2, 3, 4, 5, 6, 7, 8, 9, 10] rfl (by decide) (wr := ([] : va_W)) rfl (by decide) (by decide) (fun _ => rfl) (fun u => wMo r cI cJ cZ (sWd σ) (sPp σ) (sNb σ) (sLs σ) (sWs σ) (sM σ) (sCs σ) (sCt σ) u.1 u.2.1 u.2.2.1 u.2.2.2.1 u.2.2.2.2.1 u.2.2.2.2.2.1 u.2.2.2.2.2.2.1 u.2.2.2.2.2.2.2.1 u.2.2.2.2.2.2.2.2.1 u.2.2.2.2.2.2.2.2.2) (fun _ => rfl) (fun _ => rfl) (fun rr1 ⟨rsc1, knc1, bec1, lmc1, lfc1, pmc1, pfc1, nwc1, thc1, pgc1⟩ H locs hu1 hP hD hS => ?_)
  obtain ⟨hr1, hkn1, hI1⟩ := hu1
  have hkn1 : knc1 := hkn1
  have hI1 : mOK σ bec1 lmc1 lfc1 pmc1 pfc1 := hI1
  refine j_topi (y := jZ (bec1 ≠ 4611686018427387904)) hr1 ?_
  have hP : va_P D vwCl (wMo r cI cJ cZ (sWd σ) (sPp σ) (sNb σ) (sLs σ) (sWs σ) (sM σ) (sCs σ) (sCt σ) rsc1 knc1 bec1 lmc1 lfc1 pmc1 pfc1 nwc1 thc1 pgc1) H := hP
  have hD : va_D A (wMo r cI cJ cZ (sWd σ) (sPp σ) (sNb σ) (sLs σ) (sWs σ) (sM σ) (sCs σ) (sCt σ) rsc1 knc1 bec1 lmc1 lfc1 pmc1 pfc1 nwc1 thc1 pgc1) := hD
  refine j_ifeqZ (tgt := 14) hx hb dX4_lines_4 (by decide) (fun c4 => ?_) (fun c4 => ?_)
  · skip
    refine j_bipush hx hb dX4_lines_14 (by decide) ?_
    exact j_mretI hx hb hr hlocks hS dX4_lines_16 (σ, rsc1, knc1, bec1, lmc1, lfc1, pmc1, pfc1, nwc1, thc1, pgc1) ⟨congrArg jI (iteP_f c4 _ _).symm, ⟨hS0, fun _ => hI1⟩, rfl, hkn1⟩ hP
  · skip
    refine lv_aload_n hx hb dX4_lines_7 rfl (lv_at hl 0 rfl) ?_
    refine va_get (D := D) (ci := 4) (v := .int (jI lmc1)) (C := RX4) (T := TX4) (N := 18) hx hb hts hinX4 hown hK hP 0 rfl rfl 11 (by decide) (hts (.fieldLink RX4 122 "BreakLinesModel" "lineMany" "I") (by decide +kernel)) (fun _ h9 => h9) rfl dX4_lines_8 ?_
    refine lv_goto (tgt := 16) hx hb dX4_lines_11 (by decide) ?_
    exact j_mretI hx hb hr hlocks hS dX4_lines_16 (σ, rsc1, knc1, bec1, lmc1, lfc1, pmc1, pfc1, nwc1, thc1, pgc1) ⟨congrArg jI (iteP_t c4 _ _).symm, ⟨hS0, fun _ => hI1⟩, rfl, hkn1⟩ hP
set_option maxHeartbeats 4000000 in
set_option maxRecDepth 100000 in
theorem kX4_pages (l : Launch) (D : va_G) (cI cJ cZ : ClassId) (r : Nat → Nat) (σ : Sg) (hS0 : okS σ) (rs : Int → Int) (kn : Prop) (be lm : Int) (lf : Int → Int) (pm : Int) (pf nw th pg : Int → Int) (hI : kn → mOK σ be lm lf pm pf)  : MuI l yX4_pages wsX4_pages 7 169 D (tyc cI cJ cZ) (wMo r cI cJ cZ (sWd σ) (sPp σ) (sNb σ) (sLs σ) (sWs σ) (sM σ) (sCs σ) (sCt σ) rs kn be lm lf pm pf nw th pg) [.ref (r 0)] (fun (r : Int32) (u : MU) => r = jI (iteP (mBe u ≠ 4611686018427387904) (mPm u) (-3)) ∧ mInv u ∧ u.1 = σ ∧ mKn u) (fun u => wMU r cI cJ cZ u) := by
  intro sz
  refine j_start RX4 rfl (by decide) rfl (Nat.le_of_ble_eq_true rfl) ?_
  intro p e s m below meth c ls hx hb hr hlocks hml hown hts hnm hl ⟨hsz, hP, hK, hD0⟩
  subst hsz
  have hD := hD0.self (sz := s.heap.size)
  generalize hAe : va_A (wMo r cI cJ cZ (sWd σ) (sPp σ) (sNb σ) (sLs σ) (sWs σ) (sM σ) (sCs σ) (sCt σ) rs kn be lm lf pm pf nw th pg) s.heap.size = A at hD ⊢
  have hA : ∀ q : Nat, s.heap.size ≤ q → A q := fun q h => by rw [← hAe]; exact Or.inr h
  refine j_gen (fun H locs hHe hLe => ?_)
  have hS : va_S A s.heap H locs := by rw [hHe, hLe]; exact va_S.rf
  have hP : va_P D vwCl (wMo r cI cJ cZ (sWd σ) (sPp σ) (sNb σ) (sLs σ) (sWs σ) (sM σ) (sCs σ) (sCt σ) rs kn be lm lf pm pf nw th pg) H := by rw [hHe]; exact hP
  have hD : va_D A (wMo r cI cJ cZ (sWd σ) (sPp σ) (sNb σ) (sLs σ) (sWs σ) (sM σ) (sCs σ) (sCt σ) rs kn be lm lf pm pf nw th pg) := hD
  have hl : lv_has ls 1 [(0, .ref (r 0))] := hl
  have hinX4 : ∀ w ∈ u_ws RX4 TX4 18, w ∈ wsX4_pages := by decide +kernel
  have hnb := hS0.1
  have hwd := hS0.2.1
  have hpp := hS0.2.2.1
  have hct := hS0.2.2.2.1
  refine lv_aload_n hx hb dX4_pages_0 rfl (lv_at hl 0 rfl) ?_
  refine j_mVI (As := []) (rest := []) ⟨hx, hb, hml, hown, hts⟩ (kX4_isThere l D cI cJ cZ r σ hS0 rs kn be lm lf pm pf nw th pg hI) (cwV 0 hts gX4_pages_X4_isThere rfl rfl rfl (by decide +kernel) ⟨Nat.le_of_ble_eq_true rfl, Nat.le_of_ble_eq_true rfl⟩) hK hP hD hS hA (va_recv hK hP (ci := 4) (q0 := 0) rfl rfl) rfl hl.1 rfl (Nat.le_of_ble_eq_true rfl) ⟨Nat.zero_le _, Nat.zero_le _⟩ dX4_pages_1 [0, 1, 2, 3, 4, 5, 6, 7, 8, 9, 10] [] [0, 1, 2, 3, 4, 5, 6, 7, 8, 9, 10] rfl (by decide) (wr := ([] : va_W)) rfl (by decide) (by decide) (fun _ => rfl) (fun u => wMo r cI cJ cZ (sWd σ) (sPp σ) (sNb σ) (sLs σ) (sWs σ) (sM σ) (sCs σ) (sCt σ) u.1 u.2.1 u.2.2.1 u.2.2.2.1 u.2.2.2.2.1 u.2.2.2.2.2.1 u.2.2.2.2.2.2.1 u.2.2.2.2.2.2.2.1 u.2.2.2.2.2.2.2.2.1 u.2.2.2.2.2.2.2.2.2) (fun _ => rfl) (fun _ => rfl) (fun rr1 ⟨rsc1, knc1, bec1, lmc1, lfc1, pmc1, pfc1, nwc1, thc1, pgc1⟩ H locs hu1 hP hD hS => ?_)
  obtain ⟨hr1, hkn1, hI1⟩ := hu1
  have hkn1 : knc1 := hkn1
  have hI1 : mOK σ bec1 lmc1 lfc1 pmc1 pfc1 := hI1
  refine j_topi (y := jZ (bec1 ≠ 4611686018427387904)) hr1 ?_
  have hP : va_P D vwCl (wMo r cI cJ cZ (sWd σ) (sPp σ) (sNb σ) (sLs σ) (sWs σ) (sM σ) (sCs σ) (sCt σ) rsc1 knc1 bec1 lmc1 lfc1 pmc1 pfc1 nwc1 thc1 pgc1) H := hP
  have hD : va_D A (wMo r cI cJ cZ (sWd σ) (sPp σ) (sNb σ) (sLs σ) (sWs σ) (sM σ) (sCs σ) (sCt σ) rsc1 knc1 bec1 lmc1 lfc1 pmc1 pfc1 nwc1 thc1 pgc1) := hD
  refine j_ifeqZ (tgt := 14) hx hb dX4_pages_4 (by decide) (fun c4 => ?_) (fun c4 => ?_)
  · skip
    refine j_bipush hx hb dX4_pages_14 (by decide) ?_
    exact j_mretI hx hb hr hlocks hS dX4_pages_16 (σ, rsc1, knc1, bec1, lmc1, lfc1, pmc1, pfc1, nwc1, thc1, pgc1) ⟨congrArg jI (iteP_f c4 _ _).symm, ⟨hS0, fun _ => hI1⟩, rfl, hkn1⟩ hP
  · skip
    refine lv_aload_n hx hb dX4_pages_7 rfl (lv_at hl 0 rfl) ?_
    refine va_get (D := D) (ci := 4) (v := .int (jI pmc1)) (C := RX4) (T := TX4) (N := 18) hx hb hts hinX4 hown hK hP 0 rfl rfl 13 (by decide) (hts (.fieldLink RX4 125 "BreakLinesModel" "pageMany" "I") (by decide +kernel)) (fun _ h9 => h9) rfl dX4_pages_8 ?_
    refine lv_goto (tgt := 16) hx hb dX4_pages_11 (by decide) ?_
    exact j_mretI hx hb hr hlocks hS dX4_pages_16 (σ, rsc1, knc1, bec1, lmc1, lfc1, pmc1, pfc1, nwc1, thc1, pgc1) ⟨congrArg jI (iteP_t c4 _ _).symm, ⟨hS0, fun _ => hI1⟩, rfl, hkn1⟩ hP
set_option maxHeartbeats 4000000 in
set_option maxRecDepth 100000 in
theorem kX4_sum (l : Launch) (D : va_G) (cI cJ cZ : ClassId) (r : Nat → Nat) (σ : Sg) (hS0 : okS σ) (rs : Int → Int) (kn : Prop) (be lm : Int) (lf : Int → Int) (pm : Int) (pf nw th pg : Int → Int) (hI : kn → mOK σ be lm lf pm pf)  : MuL l yX4_sum wsX4_sum 7 169 D (tyc cI cJ cZ) (wMo r cI cJ cZ (sWd σ) (sPp σ) (sNb σ) (sLs σ) (sWs σ) (sM σ) (sCs σ) (sCt σ) rs kn be lm lf pm pf nw th pg) [.ref (r 0)] (fun (r : Int64) (u : MU) => r = jL (iteP (mBe u ≠ 4611686018427387904) (mBe u / 1024) (-1)) ∧ mInv u ∧ u.1 = σ ∧ mKn u) (fun u => wMU r cI cJ cZ u) := by
  intro sz
  refine j_start RX4 rfl (by decide) rfl (Nat.le_of_ble_eq_true rfl) ?_
  intro p e s m below meth c ls hx hb hr hlocks hml hown hts hnm hl ⟨hsz, hP, hK, hD0⟩
  subst hsz
  have hD := hD0.self (sz := s.heap.size)
  generalize hAe : va_A (wMo r cI cJ cZ (sWd σ) (sPp σ) (sNb σ) (sLs σ) (sWs σ) (sM σ) (sCs σ) (sCt σ) rs kn be lm lf pm pf nw th pg) s.heap.size = A at hD ⊢
  have hA : ∀ q : Nat, s.heap.size ≤ q → A q := fun q h => by rw [← hAe]; exact Or.inr h
  refine j_gen (fun H locs hHe hLe => ?_)
  have hS : va_S A s.heap H locs := by rw [hHe, hLe]; exact va_S.rf
  have hP : va_P D vwCl (wMo r cI cJ cZ (sWd σ) (sPp σ) (sNb σ) (sLs σ) (sWs σ) (sM σ) (sCs σ) (sCt σ) rs kn be lm lf pm pf nw th pg) H := by rw [hHe]; exact hP
  have hD : va_D A (wMo r cI cJ cZ (sWd σ) (sPp σ) (sNb σ) (sLs σ) (sWs σ) (sM σ) (sCs σ) (sCt σ) rs kn be lm lf pm pf nw th pg) := hD
  have hl : lv_has ls 1 [(0, .ref (r 0))] := hl
  have hinX4 : ∀ w ∈ u_ws RX4 TX4 18, w ∈ wsX4_sum := by decide +kernel
  have hnb := hS0.1
  have hwd := hS0.2.1
  have hpp := hS0.2.2.1
  have hct := hS0.2.2.2.1
  refine lv_aload_n hx hb dX4_sum_0 rfl (lv_at hl 0 rfl) ?_
  refine j_mVI (As := []) (rest := []) ⟨hx, hb, hml, hown, hts⟩ (kX4_isThere l D cI cJ cZ r σ hS0 rs kn be lm lf pm pf nw th pg hI) (cwV 0 hts gX4_sum_X4_isThere rfl rfl rfl (by decide +kernel) ⟨Nat.le_of_ble_eq_true rfl, Nat.le_of_ble_eq_true rfl⟩) hK hP hD hS hA (va_recv hK hP (ci := 4) (q0 := 0) rfl rfl) rfl hl.1 rfl (Nat.le_of_ble_eq_true rfl) ⟨Nat.zero_le _, Nat.zero_le _⟩ dX4_sum_1 [0, 1, 2, 3, 4, 5, 6, 7, 8, 9, 10] [] [0, 1, 2, 3, 4, 5, 6, 7, 8, 9, 10] rfl (by decide) (wr := ([] : va_W)) rfl (by decide) (by decide) (fun _ => rfl) (fun u => wMo r cI cJ cZ (sWd σ) (sPp σ) (sNb σ) (sLs σ) (sWs σ) (sM σ) (sCs σ) (sCt σ) u.1 u.2.1 u.2.2.1 u.2.2.2.1 u.2.2.2.2.1 u.2.2.2.2.2.1 u.2.2.2.2.2.2.1 u.2.2.2.2.2.2.2.1 u.2.2.2.2.2.2.2.2.1 u.2.2.2.2.2.2.2.2.2) (fun _ => rfl) (fun _ => rfl) (fun rr1 ⟨rsc1, knc1, bec1, lmc1, lfc1, pmc1, pfc1, nwc1, thc1, pgc1⟩ H locs hu1 hP hD hS => ?_)
  obtain ⟨hr1, hkn1, hI1⟩ := hu1
  have hkn1 : knc1 := hkn1
  have hI1 : mOK σ bec1 lmc1 lfc1 pmc1 pfc1 := hI1
  refine j_topi (y := jZ (bec1 ≠ 4611686018427387904)) hr1 ?_
  have hbb : 0 ≤ bec1 ∧ bec1 ≤ 4611686018427387904 := mOK_B hS0 hI1
  have hP : va_P D vwCl (wMo r cI cJ cZ (sWd σ) (sPp σ) (sNb σ) (sLs σ) (sWs σ) (sM σ) (sCs σ) (sCt σ) rsc1 knc1 bec1 lmc1 lfc1 pmc1 pfc1 nwc1 thc1 pgc1) H := hP
  have hD : va_D A (wMo r cI cJ cZ (sWd σ) (sPp σ) (sNb σ) (sLs σ) (sWs σ) (sM σ) (sCs σ) (sCt σ) rsc1 knc1 bec1 lmc1 lfc1 pmc1 pfc1 nwc1 thc1 pgc1) := hD
  refine j_ifeqZ (tgt := 18) hx hb dX4_sum_4 (by decide) (fun c4 => ?_) (fun c4 => ?_)
  · skip
    refine lv_ldc2 (v := jL (-1)) hx hb hown (hts (.constantLong RX4 147 (-1)) (by decide +kernel)) dX4_sum_18 ?_
    exact j_mretL hx hb hr hlocks hS dX4_sum_21 (σ, rsc1, knc1, bec1, lmc1, lfc1, pmc1, pfc1, nwc1, thc1, pgc1) ⟨congrArg jL (iteP_f c4 _ _).symm, ⟨hS0, fun _ => hI1⟩, rfl, hkn1⟩ hP
  · skip
    refine lv_aload_n hx hb dX4_sum_7 rfl (lv_at hl 0 rfl) ?_
    refine va_get (D := D) (ci := 4) (v := .long (jL bec1)) (C := RX4) (T := TX4) (N := 18) hx hb hts hinX4 hown hK hP 0 rfl rfl 10 (by decide) (hts (.fieldLink RX4 116 "BreakLinesModel" "best" "J") (by decide +kernel)) (fun _ h9 => h9) rfl dX4_sum_8 ?_
    refine lv_ldc2 (v := jL 1024) hx hb hown (hts (.constantLong RX4 93 (1024)) (by decide +kernel)) dX4_sum_11 ?_
    refine j_ldiv hx hb (by omega) dX4_sum_14 ?_
    refine lv_goto (tgt := 21) hx hb dX4_sum_15 (by decide) ?_
    exact j_mretL hx hb hr hlocks hS dX4_sum_21 (σ, rsc1, knc1, bec1, lmc1, lfc1, pmc1, pfc1, nwc1, thc1, pgc1) ⟨congrArg jL (iteP_t c4 _ _).symm, ⟨hS0, fun _ => hI1⟩, rfl, hkn1⟩ hP
set_option maxHeartbeats 4000000 in
set_option maxRecDepth 100000 in
theorem kX4_line (l : Launch) (D : va_G) (cI cJ cZ : ClassId) (r : Nat → Nat) (σ : Sg) (hS0 : okS σ) (rs : Int → Int) (kn : Prop) (be lm : Int) (lf : Int → Int) (pm : Int) (pf nw th pg : Int → Int) (hI : kn → mOK σ be lm lf pm pf) (k w : Int) (hi : i32 k ∧ i32 w) : MuI l yX4_line wsX4_line 7 169 D (tyc cI cJ cZ) (wMo r cI cJ cZ (sWd σ) (sPp σ) (sNb σ) (sLs σ) (sWs σ) (sM σ) (sCs σ) (sCt σ) rs kn be lm lf pm pf nw th pg) [.ref (r 0), .int (jI k), .int (jI w)] (fun (r : Int32) (u : MU) => (∃ pl lb, mAns σ (mBe u) (mLm u) (mLf u) (mPm u) (mPf u) pl lb ∧ r = jI (lineR σ (mBe u ≠ 4611686018427387904) (mLm u) (mLf u) pl k w)) ∧ mInv u ∧ u.1 = σ ∧ mKn u) (fun u => wMU r cI cJ cZ u) := by
  intro sz
  refine j_start RX4 rfl (by decide) rfl (Nat.le_of_ble_eq_true rfl) ?_
  intro p e s m below meth c ls hx hb hr hlocks hml hown hts hnm hl ⟨hsz, hP, hK, hD0⟩
  subst hsz
  have hD := hD0.self (sz := s.heap.size)
  generalize hAe : va_A (wMo r cI cJ cZ (sWd σ) (sPp σ) (sNb σ) (sLs σ) (sWs σ) (sM σ) (sCs σ) (sCt σ) rs kn be lm lf pm pf nw th pg) s.heap.size = A at hD ⊢
  have hA : ∀ q : Nat, s.heap.size ≤ q → A q := fun q h => by rw [← hAe]; exact Or.inr h
  refine j_gen (fun H locs hHe hLe => ?_)
  have hS : va_S A s.heap H locs := by rw [hHe, hLe]; exact va_S.rf
  have hP : va_P D vwCl (wMo r cI cJ cZ (sWd σ) (sPp σ) (sNb σ) (sLs σ) (sWs σ) (sM σ) (sCs σ) (sCt σ) rs kn be lm lf pm pf nw th pg) H := by rw [hHe]; exact hP
  have hD : va_D A (wMo r cI cJ cZ (sWd σ) (sPp σ) (sNb σ) (sLs σ) (sWs σ) (sM σ) (sCs σ) (sCt σ) rs kn be lm lf pm pf nw th pg) := hD
  have hl : lv_has ls 3 [(0, .ref (r 0)), (1, .int (jI k)), (2, .int (jI w))] := hl
  have hinX4 : ∀ w ∈ u_ws RX4 TX4 18, w ∈ wsX4_line := by decide +kernel
  have hnb := hS0.1
  have hwd := hS0.2.1
  have hpp := hS0.2.2.1
  have hct := hS0.2.2.2.1
  unfold i32 at hi
  refine lv_aload_n hx hb dX4_line_0 rfl (lv_at hl 0 rfl) ?_
  refine j_mVI (As := []) (rest := []) ⟨hx, hb, hml, hown, hts⟩ (kX4_isThere l D cI cJ cZ r σ hS0 rs kn be lm lf pm pf nw th pg hI) (cwV 0 hts gX4_line_X4_isThere rfl rfl rfl (by decide +kernel) ⟨Nat.le_of_ble_eq_true rfl, Nat.le_of_ble_eq_true rfl⟩) hK hP hD hS hA (va_recv hK hP (ci := 4) (q0 := 0) rfl rfl) rfl hl.1 rfl (Nat.le_of_ble_eq_true rfl) ⟨Nat.zero_le _, Nat.zero_le _⟩ dX4_line_1 [0, 1, 2, 3, 4, 5, 6, 7, 8, 9, 10] [] [0, 1, 2, 3, 4, 5, 6, 7, 8, 9, 10] rfl (by decide) (wr := ([] : va_W)) rfl (by decide) (by decide) (fun _ => rfl) (fun u => wMo r cI cJ cZ (sWd σ) (sPp σ) (sNb σ) (sLs σ) (sWs σ) (sM σ) (sCs σ) (sCt σ) u.1 u.2.1 u.2.2.1 u.2.2.2.1 u.2.2.2.2.1 u.2.2.2.2.2.1 u.2.2.2.2.2.2.1 u.2.2.2.2.2.2.2.1 u.2.2.2.2.2.2.2.2.1 u.2.2.2.2.2.2.2.2.2) (fun _ => rfl) (fun _ => rfl) (fun rr1 ⟨rsc1, knc1, bec1, lmc1, lfc1, pmc1, pfc1, nwc1, thc1, pgc1⟩ H locs hu1 hP hD hS => ?_)
  obtain ⟨hr1, hkn1, hI1⟩ := hu1
  have hkn1 : knc1 := hkn1
  have hI1 : mOK σ bec1 lmc1 lfc1 pmc1 pfc1 := hI1
  refine j_topi (y := jZ (bec1 ≠ 4611686018427387904)) hr1 ?_
  have hP : va_P D vwCl (wMo r cI cJ cZ (sWd σ) (sPp σ) (sNb σ) (sLs σ) (sWs σ) (sM σ) (sCs σ) (sCt σ) rsc1 knc1 bec1 lmc1 lfc1 pmc1 pfc1 nwc1 thc1 pgc1) H := hP
  have hD : va_D A (wMo r cI cJ cZ (sWd σ) (sPp σ) (sNb σ) (sLs σ) (sWs σ) (sM σ) (sCs σ) (sCt σ) rsc1 knc1 bec1 lmc1 lfc1 pmc1 pfc1 nwc1 thc1 pgc1) := hD
  refine j_ifneZ (tgt := 10) hx hb dX4_line_4 (by decide) (fun c4 => ?_) (fun c4 => ?_)
  · skip
    obtain ⟨s0, hb0, hbe0, hrw⟩ := mOK_ex hI1 c4
    have hlm0 := rows_lm hS0 hrw
    refine lv_iload_n hx hb dX4_line_10 rfl (lv_at hl 1 rfl) ?_
    refine j_iconst hx hb dX4_line_11 ?_
    refine lv_aload_n hx hb dX4_line_12 rfl (lv_at hl 0 rfl) ?_
    refine va_get (D := D) (ci := 4) (v := .int (jI lmc1)) (C := RX4) (T := TX4) (N := 18) hx hb hts hinX4 hown hK hP 0 rfl rfl 11 (by decide) (hts (.fieldLink RX4 122 "BreakLinesModel" "lineMany" "I") (by decide +kernel)) (fun _ h9 => h9) rfl dX4_line_13 ?_
    refine j_iconst hx hb dX4_line_16 ?_
    refine j_isub hx hb dX4_line_17 ?_
    refine j_cSI (As := [.int (jI k), .int (jI 0), .int (jI (lmc1 - 1))]) (rest := []) ⟨hx, hb, hml, hown, hts⟩ (kX4_in l D cI cJ cZ k 0 (lmc1 - 1) (by unfold i32; omega)) (va_cwS 3 hts gX4_line_X4_in rfl rfl rfl (by decide +kernel) ⟨Nat.le_of_ble_eq_true rfl, Nat.le_of_ble_eq_true rfl⟩) hK (hP.sub [] rfl) rfl hl.1 rfl (Nat.le_of_ble_eq_true rfl) ⟨Nat.zero_le _, Nat.zero_le _⟩ dX4_line_18 ?_
    refine j_ifneZ (tgt := 26) hx hb dX4_line_21 (by decide) (fun c21 => ?_) (fun c21 => ?_)
    · skip
      refine lv_iload_n hx hb dX4_line_26 rfl (lv_at hl 2 rfl) ?_
      rcases (show w = 0 ∨ w = 1 ∨ w = 2 ∨ w = 3 ∨ (w < 0 ∨ 3 < w) by omega) with c27 | c27 | c27 | c27 | c27
      · refine j_tabIn (tgt := 56) hx hb (by unfold i32; omega) 0 c27 dX4_line_27 (by decide) (by decide) rfl (by decide) ?_
        refine lv_aload_n hx hb dX4_line_56 rfl (lv_at hl 0 rfl) ?_
        refine va_get (D := D) (ci := 4) (v := .ref (r 6)) (C := RX4) (T := TX4) (N := 18) hx hb hts hinX4 hown hK hP 0 rfl rfl 12 (by decide) (hts (.fieldLink RX4 27 "BreakLinesModel" "lineFrom" "[I") (by decide +kernel)) (fun _ h9 => h9) rfl dX4_line_57 ?_
        refine lv_iload_n hx hb dX4_line_60 rfl (lv_at hl 1 rfl) ?_
        refine j_iald hx hb hK hP 6 0 rfl rfl (i := k) (by omega) (by decide) dX4_line_61 ?_
        exact j_mretI hx hb hr hlocks hS dX4_line_62 (σ, rsc1, knc1, bec1, lmc1, lfc1, pmc1, pfc1, nwc1, thc1, pgc1) ⟨⟨_, _, fun _ => ⟨s0, hb0, hbe0, hrw, rfl, rfl⟩, congrArg jI (lineR_0 c4 c21 c27)⟩, ⟨hS0, fun _ => hI1⟩, rfl, hkn1⟩ hP
      · refine j_tabIn (tgt := 63) hx hb (by unfold i32; omega) 1 c27 dX4_line_27 (by decide) (by decide) rfl (by decide) ?_
        refine lv_aload_n hx hb dX4_line_63 rfl (lv_at hl 0 rfl) ?_
        refine va_get (D := D) (ci := 4) (v := .ref (r 6)) (C := RX4) (T := TX4) (N := 18) hx hb hts hinX4 hown hK hP 0 rfl rfl 12 (by decide) (hts (.fieldLink RX4 27 "BreakLinesModel" "lineFrom" "[I") (by decide +kernel)) (fun _ h9 => h9) rfl dX4_line_64 ?_
        refine lv_iload_n hx hb dX4_line_67 rfl (lv_at hl 1 rfl) ?_
        refine j_iconst hx hb dX4_line_68 ?_
        refine j_iadd hx hb dX4_line_69 ?_
        refine j_iald hx hb hK hP 6 0 rfl rfl (i := k + 1) (by omega) (by decide) dX4_line_70 ?_
        refine j_iconst hx hb dX4_line_71 ?_
        refine j_isub hx hb dX4_line_72 ?_
        exact j_mretI hx hb hr hlocks hS dX4_line_73 (σ, rsc1, knc1, bec1, lmc1, lfc1, pmc1, pfc1, nwc1, thc1, pgc1) ⟨⟨_, _, fun _ => ⟨s0, hb0, hbe0, hrw, rfl, rfl⟩, congrArg jI (lineR_1 c4 c21 c27)⟩, ⟨hS0, fun _ => hI1⟩, rfl, hkn1⟩ hP
      · refine j_tabIn (tgt := 74) hx hb (by unfold i32; omega) 2 c27 dX4_line_27 (by decide) (by decide) rfl (by decide) ?_
        have hfp := fnd_page hS0 hb0 hrw (by omega) (k := k) (by omega) (by omega)
        refine lv_aload_n hx hb dX4_line_74 rfl (lv_at hl 0 rfl) ?_
        refine lv_iload_n hx hb dX4_line_75 rfl (lv_at hl 1 rfl) ?_
        refine j_cVI (As := [.int (jI k)]) (rest := []) ⟨hx, hb, hml, hown, hts⟩ (kX4_pageOf l D cI cJ cZ r σ hS0 rsc1 knc1 bec1 lmc1 lfc1 pmc1 pfc1 nwc1 thc1 pgc1 k (cnt (fun b => b ∈ endP s0) (lfc1 (k + 1) - 1)) (by unfold i32; omega) hfp) (cwV 1 hts gX4_line_X4_pageOf rfl rfl rfl (by decide +kernel) ⟨Nat.le_of_ble_eq_true rfl, Nat.le_of_ble_eq_true rfl⟩) hK hP (va_recv hK hP (ci := 4) (q0 := 0) rfl rfl) rfl hl.1 rfl (Nat.le_of_ble_eq_true rfl) ⟨Nat.zero_le _, Nat.zero_le _⟩ dX4_line_76 ?_
        exact j_mretI hx hb hr hlocks hS dX4_line_79 (σ, rsc1, knc1, bec1, lmc1, lfc1, pmc1, pfc1, nwc1, thc1, pgc1) ⟨⟨_, _, fun _ => ⟨s0, hb0, hbe0, hrw, rfl, rfl⟩, congrArg jI (lineR_2 (pl := fun k => cnt (fun b => b ∈ endP s0) (lfc1 (k + 1) - 1)) c4 c21 c27)⟩, ⟨hS0, fun _ => hI1⟩, rfl, hkn1⟩ hP
      · refine j_tabIn (tgt := 80) hx hb (by unfold i32; omega) 3 c27 dX4_line_27 (by decide) (by decide) rfl (by decide) ?_
        have hA := row_at (P := fun b => b ∈ endL s0) (n := sNb σ) (k := k) (by omega) (hrw.2.2.1 (by omega)).1 (fun b b1 b2 => (hrw.2.2.2 b b1 b2).1) (by omega) (by rw [← hrw.1]; omega)
        refine lv_ldc (v := jI 1000000) hx hb hown (hts (.constant RX4 76 (1000000)) (by decide +kernel)) dX4_line_80 ?_
        refine lv_aload_n hx hb dX4_line_82 rfl (lv_at hl 0 rfl) ?_
        refine lv_aload_n hx hb dX4_line_83 rfl (lv_at hl 0 rfl) ?_
        refine va_get (D := D) (ci := 4) (v := .ref (r 6)) (C := RX4) (T := TX4) (N := 18) hx hb hts hinX4 hown hK hP 0 rfl rfl 12 (by decide) (hts (.fieldLink RX4 27 "BreakLinesModel" "lineFrom" "[I") (by decide +kernel)) (fun _ h9 => h9) rfl dX4_line_84 ?_
        refine lv_iload_n hx hb dX4_line_87 rfl (lv_at hl 1 rfl) ?_
        refine j_iald hx hb hK hP 6 0 rfl rfl (i := k) (by omega) (by decide) dX4_line_88 ?_
        refine lv_aload_n hx hb dX4_line_89 rfl (lv_at hl 0 rfl) ?_
        refine va_get (D := D) (ci := 4) (v := .ref (r 6)) (C := RX4) (T := TX4) (N := 18) hx hb hts hinX4 hown hK hP 0 rfl rfl 12 (by decide) (hts (.fieldLink RX4 27 "BreakLinesModel" "lineFrom" "[I") (by decide +kernel)) (fun _ h9 => h9) rfl dX4_line_90 ?_
        refine lv_iload_n hx hb dX4_line_93 rfl (lv_at hl 1 rfl) ?_
        refine j_iconst hx hb dX4_line_94 ?_
        refine j_iadd hx hb dX4_line_95 ?_
        refine j_iald hx hb hK hP 6 0 rfl rfl (i := k + 1) (by omega) (by decide) dX4_line_96 ?_
        refine j_iconst hx hb dX4_line_97 ?_
        refine j_isub hx hb dX4_line_98 ?_
        refine j_cVI (As := [.int (jI (lfc1 k)), .int (jI ((lfc1 (k + 1)) - 1))]) (rest := [.int (jI 1000000)]) ⟨hx, hb, hml, hown, hts⟩ (kX4_off l D cI cJ cZ r σ hS0 rsc1 knc1 bec1 lmc1 lfc1 pmc1 pfc1 nwc1 thc1 pgc1 (lfc1 k) ((lfc1 (k + 1)) - 1) (by omega)) (cwV 2 hts gX4_line_X4_off rfl rfl rfl (by decide +kernel) ⟨Nat.le_of_ble_eq_true rfl, Nat.le_of_ble_eq_true rfl⟩) hK hP (va_recv hK hP (ci := 4) (q0 := 0) rfl rfl) rfl hl.1 rfl (Nat.le_of_ble_eq_true rfl) ⟨Nat.zero_le _, Nat.zero_le _⟩ dX4_line_99 ?_
        refine j_iadd hx hb dX4_line_102 ?_
        exact j_mretI hx hb hr hlocks hS dX4_line_103 (σ, rsc1, knc1, bec1, lmc1, lfc1, pmc1, pfc1, nwc1, thc1, pgc1) ⟨⟨_, _, fun _ => ⟨s0, hb0, hbe0, hrw, rfl, rfl⟩, congrArg jI (lineR_3 c4 c21 c27)⟩, ⟨hS0, fun _ => hI1⟩, rfl, hkn1⟩ hP
      · refine j_tabOut (tgt := 104) hx hb (by unfold i32; omega) c27 dX4_line_27 (by decide) ?_
        refine j_bipush hx hb dX4_line_104 (by decide) ?_
        exact j_mretI hx hb hr hlocks hS dX4_line_106 (σ, rsc1, knc1, bec1, lmc1, lfc1, pmc1, pfc1, nwc1, thc1, pgc1) ⟨⟨_, _, fun _ => ⟨s0, hb0, hbe0, hrw, rfl, rfl⟩, congrArg jI (lineR_x c4 c21 c27)⟩, ⟨hS0, fun _ => hI1⟩, rfl, hkn1⟩ hP
    · skip
      refine j_iconst hx hb dX4_line_24 ?_
      exact j_mretI hx hb hr hlocks hS dX4_line_25 (σ, rsc1, knc1, bec1, lmc1, lfc1, pmc1, pfc1, nwc1, thc1, pgc1) ⟨⟨_, _, fun _ => ⟨s0, hb0, hbe0, hrw, rfl, rfl⟩, congrArg jI (lineR_m c4 c21)⟩, ⟨hS0, fun _ => hI1⟩, rfl, hkn1⟩ hP
  · skip
    refine j_bipush hx hb dX4_line_7 (by decide) ?_
    exact j_mretI hx hb hr hlocks hS dX4_line_9 (σ, rsc1, knc1, bec1, lmc1, lfc1, pmc1, pfc1, nwc1, thc1, pgc1) ⟨⟨fun _ => 0, fun _ => 0, fun w => absurd w c4, congrArg jI (lineR_n c4)⟩, ⟨hS0, fun _ => hI1⟩, rfl, hkn1⟩ hP
set_option maxHeartbeats 4000000 in
set_option maxRecDepth 100000 in
theorem kX4_page (l : Launch) (D : va_G) (cI cJ cZ : ClassId) (r : Nat → Nat) (σ : Sg) (hS0 : okS σ) (rs : Int → Int) (kn : Prop) (be lm : Int) (lf : Int → Int) (pm : Int) (pf nw th pg : Int → Int) (hI : kn → mOK σ be lm lf pm pf) (k w : Int) (hi : i32 k ∧ i32 w) : MuI l yX4_page wsX4_page 7 169 D (tyc cI cJ cZ) (wMo r cI cJ cZ (sWd σ) (sPp σ) (sNb σ) (sLs σ) (sWs σ) (sM σ) (sCs σ) (sCt σ) rs kn be lm lf pm pf nw th pg) [.ref (r 0), .int (jI k), .int (jI w)] (fun (r : Int32) (u : MU) => (∃ pl lb, mAns σ (mBe u) (mLm u) (mLf u) (mPm u) (mPf u) pl lb ∧ r = jI (pageR σ (mBe u ≠ 4611686018427387904) (mPm u) (mLf u) (mPf u) k w)) ∧ mInv u ∧ u.1 = σ ∧ mKn u) (fun u => wMU r cI cJ cZ u) := by
  intro sz
  refine j_start RX4 rfl (by decide) rfl (Nat.le_of_ble_eq_true rfl) ?_
  intro p e s m below meth c ls hx hb hr hlocks hml hown hts hnm hl ⟨hsz, hP, hK, hD0⟩
  subst hsz
  have hD := hD0.self (sz := s.heap.size)
  generalize hAe : va_A (wMo r cI cJ cZ (sWd σ) (sPp σ) (sNb σ) (sLs σ) (sWs σ) (sM σ) (sCs σ) (sCt σ) rs kn be lm lf pm pf nw th pg) s.heap.size = A at hD ⊢
  have hA : ∀ q : Nat, s.heap.size ≤ q → A q := fun q h => by rw [← hAe]; exact Or.inr h
  refine j_gen (fun H locs hHe hLe => ?_)
  have hS : va_S A s.heap H locs := by rw [hHe, hLe]; exact va_S.rf
  have hP : va_P D vwCl (wMo r cI cJ cZ (sWd σ) (sPp σ) (sNb σ) (sLs σ) (sWs σ) (sM σ) (sCs σ) (sCt σ) rs kn be lm lf pm pf nw th pg) H := by rw [hHe]; exact hP
  have hD : va_D A (wMo r cI cJ cZ (sWd σ) (sPp σ) (sNb σ) (sLs σ) (sWs σ) (sM σ) (sCs σ) (sCt σ) rs kn be lm lf pm pf nw th pg) := hD
  have hl : lv_has ls 3 [(0, .ref (r 0)), (1, .int (jI k)), (2, .int (jI w))] := hl
  have hinX4 : ∀ w ∈ u_ws RX4 TX4 18, w ∈ wsX4_page := by decide +kernel
  have hnb := hS0.1
  have hwd := hS0.2.1
  have hpp := hS0.2.2.1
  have hct := hS0.2.2.2.1
  unfold i32 at hi
  refine lv_aload_n hx hb dX4_page_0 rfl (lv_at hl 0 rfl) ?_
  refine j_mVI (As := []) (rest := []) ⟨hx, hb, hml, hown, hts⟩ (kX4_isThere l D cI cJ cZ r σ hS0 rs kn be lm lf pm pf nw th pg hI) (cwV 0 hts gX4_page_X4_isThere rfl rfl rfl (by decide +kernel) ⟨Nat.le_of_ble_eq_true rfl, Nat.le_of_ble_eq_true rfl⟩) hK hP hD hS hA (va_recv hK hP (ci := 4) (q0 := 0) rfl rfl) rfl hl.1 rfl (Nat.le_of_ble_eq_true rfl) ⟨Nat.zero_le _, Nat.zero_le _⟩ dX4_page_1 [0, 1, 2, 3, 4, 5, 6, 7, 8, 9, 10] [] [0, 1, 2, 3, 4, 5, 6, 7, 8, 9, 10] rfl (by decide) (wr := ([] : va_W)) rfl (by decide) (by decide) (fun _ => rfl) (fun u => wMo r cI cJ cZ (sWd σ) (sPp σ) (sNb σ) (sLs σ) (sWs σ) (sM σ) (sCs σ) (sCt σ) u.1 u.2.1 u.2.2.1 u.2.2.2.1 u.2.2.2.2.1 u.2.2.2.2.2.1 u.2.2.2.2.2.2.1 u.2.2.2.2.2.2.2.1 u.2.2.2.2.2.2.2.2.1 u.2.2.2.2.2.2.2.2.2) (fun _ => rfl) (fun _ => rfl) (fun rr1 ⟨rsc1, knc1, bec1, lmc1, lfc1, pmc1, pfc1, nwc1, thc1, pgc1⟩ H locs hu1 hP hD hS => ?_)
  obtain ⟨hr1, hkn1, hI1⟩ := hu1
  have hkn1 : knc1 := hkn1
  have hI1 : mOK σ bec1 lmc1 lfc1 pmc1 pfc1 := hI1
  refine j_topi (y := jZ (bec1 ≠ 4611686018427387904)) hr1 ?_
  have hP : va_P D vwCl (wMo r cI cJ cZ (sWd σ) (sPp σ) (sNb σ) (sLs σ) (sWs σ) (sM σ) (sCs σ) (sCt σ) rsc1 knc1 bec1 lmc1 lfc1 pmc1 pfc1 nwc1 thc1 pgc1) H := hP
  have hD : va_D A (wMo r cI cJ cZ (sWd σ) (sPp σ) (sNb σ) (sLs σ) (sWs σ) (sM σ) (sCs σ) (sCt σ) rsc1 knc1 bec1 lmc1 lfc1 pmc1 pfc1 nwc1 thc1 pgc1) := hD
  refine j_ifneZ (tgt := 10) hx hb dX4_page_4 (by decide) (fun c4 => ?_) (fun c4 => ?_)
  · skip
    obtain ⟨s0, hb0, hbe0, hrw⟩ := mOK_ex hI1 c4
    have hlm0 := rows_lm hS0 hrw
    refine lv_iload_n hx hb dX4_page_10 rfl (lv_at hl 1 rfl) ?_
    refine j_iconst hx hb dX4_page_11 ?_
    refine lv_aload_n hx hb dX4_page_12 rfl (lv_at hl 0 rfl) ?_
    refine va_get (D := D) (ci := 4) (v := .int (jI pmc1)) (C := RX4) (T := TX4) (N := 18) hx hb hts hinX4 hown hK hP 0 rfl rfl 13 (by decide) (hts (.fieldLink RX4 125 "BreakLinesModel" "pageMany" "I") (by decide +kernel)) (fun _ h9 => h9) rfl dX4_page_13 ?_
    refine j_iconst hx hb dX4_page_16 ?_
    refine j_isub hx hb dX4_page_17 ?_
    refine j_cSI (As := [.int (jI k), .int (jI 0), .int (jI (pmc1 - 1))]) (rest := []) ⟨hx, hb, hml, hown, hts⟩ (kX4_in l D cI cJ cZ k 0 (pmc1 - 1) (by unfold i32; omega)) (va_cwS 3 hts gX4_page_X4_in rfl rfl rfl (by decide +kernel) ⟨Nat.le_of_ble_eq_true rfl, Nat.le_of_ble_eq_true rfl⟩) hK (hP.sub [] rfl) rfl hl.1 rfl (Nat.le_of_ble_eq_true rfl) ⟨Nat.zero_le _, Nat.zero_le _⟩ dX4_page_18 ?_
    refine j_ifneZ (tgt := 26) hx hb dX4_page_21 (by decide) (fun c21 => ?_) (fun c21 => ?_)
    · skip
      refine lv_iload_n hx hb dX4_page_26 rfl (lv_at hl 2 rfl) ?_
      rcases (show w = 0 ∨ w = 1 ∨ w = 2 ∨ (w < 0 ∨ 2 < w) by omega) with c27 | c27 | c27 | c27
      · refine j_tabIn (tgt := 52) hx hb (by unfold i32; omega) 0 c27 dX4_page_27 (by decide) (by decide) rfl (by decide) ?_
        refine lv_aload_n hx hb dX4_page_52 rfl (lv_at hl 0 rfl) ?_
        refine va_get (D := D) (ci := 4) (v := .ref (r 7)) (C := RX4) (T := TX4) (N := 18) hx hb hts hinX4 hown hK hP 0 rfl rfl 14 (by decide) (hts (.fieldLink RX4 30 "BreakLinesModel" "pageFrom" "[I") (by decide +kernel)) (fun _ h9 => h9) rfl dX4_page_53 ?_
        refine lv_iload_n hx hb dX4_page_56 rfl (lv_at hl 1 rfl) ?_
        refine j_iald hx hb hK hP 7 0 rfl rfl (i := k) (by omega) (by decide) dX4_page_57 ?_
        exact j_mretI hx hb hr hlocks hS dX4_page_58 (σ, rsc1, knc1, bec1, lmc1, lfc1, pmc1, pfc1, nwc1, thc1, pgc1) ⟨⟨_, _, fun _ => ⟨s0, hb0, hbe0, hrw, rfl, rfl⟩, congrArg jI (pageR_0 c4 c21 c27)⟩, ⟨hS0, fun _ => hI1⟩, rfl, hkn1⟩ hP
      · refine j_tabIn (tgt := 59) hx hb (by unfold i32; omega) 1 c27 dX4_page_27 (by decide) (by decide) rfl (by decide) ?_
        refine lv_aload_n hx hb dX4_page_59 rfl (lv_at hl 0 rfl) ?_
        refine va_get (D := D) (ci := 4) (v := .ref (r 7)) (C := RX4) (T := TX4) (N := 18) hx hb hts hinX4 hown hK hP 0 rfl rfl 14 (by decide) (hts (.fieldLink RX4 30 "BreakLinesModel" "pageFrom" "[I") (by decide +kernel)) (fun _ h9 => h9) rfl dX4_page_60 ?_
        refine lv_iload_n hx hb dX4_page_63 rfl (lv_at hl 1 rfl) ?_
        refine j_iconst hx hb dX4_page_64 ?_
        refine j_iadd hx hb dX4_page_65 ?_
        refine j_iald hx hb hK hP 7 0 rfl rfl (i := k + 1) (by omega) (by decide) dX4_page_66 ?_
        refine lv_aload_n hx hb dX4_page_67 rfl (lv_at hl 0 rfl) ?_
        refine va_get (D := D) (ci := 4) (v := .ref (r 7)) (C := RX4) (T := TX4) (N := 18) hx hb hts hinX4 hown hK hP 0 rfl rfl 14 (by decide) (hts (.fieldLink RX4 30 "BreakLinesModel" "pageFrom" "[I") (by decide +kernel)) (fun _ h9 => h9) rfl dX4_page_68 ?_
        refine lv_iload_n hx hb dX4_page_71 rfl (lv_at hl 1 rfl) ?_
        refine j_iald hx hb hK hP 7 0 rfl rfl (i := k) (by omega) (by decide) dX4_page_72 ?_
        refine j_isub hx hb dX4_page_73 ?_
        exact j_mretI hx hb hr hlocks hS dX4_page_74 (σ, rsc1, knc1, bec1, lmc1, lfc1, pmc1, pfc1, nwc1, thc1, pgc1) ⟨⟨_, _, fun _ => ⟨s0, hb0, hbe0, hrw, rfl, rfl⟩, congrArg jI (pageR_1 c4 c21 c27)⟩, ⟨hS0, fun _ => hI1⟩, rfl, hkn1⟩ hP
      · refine j_tabIn (tgt := 75) hx hb (by unfold i32; omega) 2 c27 dX4_page_27 (by decide) (by decide) rfl (by decide) ?_
        have hmp := mpage hS0 hb0 hrw (by omega) (k := k) (by omega) (by omega)
        refine lv_aload_n hx hb dX4_page_75 rfl (lv_at hl 0 rfl) ?_
        refine lv_aload_n hx hb dX4_page_76 rfl (lv_at hl 0 rfl) ?_
        refine va_get (D := D) (ci := 4) (v := .ref (r 7)) (C := RX4) (T := TX4) (N := 18) hx hb hts hinX4 hown hK hP 0 rfl rfl 14 (by decide) (hts (.fieldLink RX4 30 "BreakLinesModel" "pageFrom" "[I") (by decide +kernel)) (fun _ h9 => h9) rfl dX4_page_77 ?_
        refine lv_iload_n hx hb dX4_page_80 rfl (lv_at hl 1 rfl) ?_
        refine j_iald hx hb hK hP 7 0 rfl rfl (i := k) (by omega) (by decide) dX4_page_81 ?_
        refine lv_aload_n hx hb dX4_page_82 rfl (lv_at hl 0 rfl) ?_
        refine va_get (D := D) (ci := 4) (v := .ref (r 7)) (C := RX4) (T := TX4) (N := 18) hx hb hts hinX4 hown hK hP 0 rfl rfl 14 (by decide) (hts (.fieldLink RX4 30 "BreakLinesModel" "pageFrom" "[I") (by decide +kernel)) (fun _ h9 => h9) rfl dX4_page_83 ?_
        refine lv_iload_n hx hb dX4_page_86 rfl (lv_at hl 1 rfl) ?_
        refine j_iconst hx hb dX4_page_87 ?_
        refine j_iadd hx hb dX4_page_88 ?_
        refine j_iald hx hb hK hP 7 0 rfl rfl (i := k + 1) (by omega) (by decide) dX4_page_89 ?_
        refine j_cVL (As := [.int (jI (pfc1 k)), .int (jI (pfc1 (k + 1)))]) (rest := []) ⟨hx, hb, hml, hown, hts⟩ (kX4_pageCost l D cI cJ cZ r σ hS0 rsc1 knc1 bec1 lmc1 lfc1 pmc1 pfc1 nwc1 thc1 pgc1 (pfc1 k) (pfc1 (k + 1)) ⟨by omega, fun w => by omega⟩) (cwV 2 hts gX4_page_X4_pageCost rfl rfl rfl (by decide +kernel) ⟨Nat.le_of_ble_eq_true rfl, Nat.le_of_ble_eq_true rfl⟩) hK hP (va_recv hK hP (ci := 4) (q0 := 0) rfl rfl) rfl hl.1 rfl (Nat.le_of_ble_eq_true rfl) ⟨Nat.zero_le _, Nat.zero_le _⟩ dX4_page_90 ?_
        refine j_l2i hx hb dX4_page_93 ?_
        exact j_mretI hx hb hr hlocks hS dX4_page_94 (σ, rsc1, knc1, bec1, lmc1, lfc1, pmc1, pfc1, nwc1, thc1, pgc1) ⟨⟨_, _, fun _ => ⟨s0, hb0, hbe0, hrw, rfl, rfl⟩, congrArg jI ((pp_eq hS0 hb0 hrw (by omega) (by omega) (by omega)).trans (pageR_2 c4 c21 c27))⟩, ⟨hS0, fun _ => hI1⟩, rfl, hkn1⟩ hP
      · refine j_tabOut (tgt := 95) hx hb (by unfold i32; omega) c27 dX4_page_27 (by decide) ?_
        refine j_bipush hx hb dX4_page_95 (by decide) ?_
        exact j_mretI hx hb hr hlocks hS dX4_page_97 (σ, rsc1, knc1, bec1, lmc1, lfc1, pmc1, pfc1, nwc1, thc1, pgc1) ⟨⟨_, _, fun _ => ⟨s0, hb0, hbe0, hrw, rfl, rfl⟩, congrArg jI (pageR_x c4 c21 c27)⟩, ⟨hS0, fun _ => hI1⟩, rfl, hkn1⟩ hP
    · skip
      refine j_iconst hx hb dX4_page_24 ?_
      exact j_mretI hx hb hr hlocks hS dX4_page_25 (σ, rsc1, knc1, bec1, lmc1, lfc1, pmc1, pfc1, nwc1, thc1, pgc1) ⟨⟨_, _, fun _ => ⟨s0, hb0, hbe0, hrw, rfl, rfl⟩, congrArg jI (pageR_m c4 c21)⟩, ⟨hS0, fun _ => hI1⟩, rfl, hkn1⟩ hP
  · skip
    refine j_bipush hx hb dX4_page_7 (by decide) ?_
    exact j_mretI hx hb hr hlocks hS dX4_page_9 (σ, rsc1, knc1, bec1, lmc1, lfc1, pmc1, pfc1, nwc1, thc1, pgc1) ⟨⟨fun _ => 0, fun _ => 0, fun w => absurd w c4, congrArg jI (pageR_n c4)⟩, ⟨hS0, fun _ => hI1⟩, rfl, hkn1⟩ hP
set_option maxHeartbeats 4000000 in
set_option maxRecDepth 100000 in
theorem kX4_set (l : Launch) (D : va_G) (cI cJ cZ : ClassId) (r : Nat → Nat) (σ : Sg) (hS0 : okS σ) (rs : Int → Int) (kn : Prop) (be lm : Int) (lf : Int → Int) (pm : Int) (pf nw th pg : Int → Int) (hI : kn → mOK σ be lm lf pm pf) (b w : Int) (hi : i32 b ∧ i32 w) : MuI l yX4_set wsX4_set 7 169 D (tyc cI cJ cZ) (wMo r cI cJ cZ (sWd σ) (sPp σ) (sNb σ) (sLs σ) (sWs σ) (sM σ) (sCs σ) (sCt σ) rs kn be lm lf pm pf nw th pg) [.ref (r 0), .int (jI b), .int (jI w)] (fun (r : Int32) (u : MU) => (∃ pl lb, ((0 ≤ b ∧ b < sNb σ) → (0 ≤ w ∧ w ≤ 2) → mAns σ (mBe u) (mLm u) (mLf u) (mPm u) (mPf u) pl lb ∧ mKn u) ∧ r = jI (setR σ (mBe u ≠ 4611686018427387904) (mLf u) lb b w)) ∧ mInv u ∧ u.1 = σ) (fun u => wMU r cI cJ cZ u) := by
  intro sz
  refine j_start RX4 rfl (by decide) rfl (Nat.le_of_ble_eq_true rfl) ?_
  intro p e s m below meth c ls hx hb hr hlocks hml hown hts hnm hl ⟨hsz, hP, hK, hD0⟩
  subst hsz
  have hD := hD0.self (sz := s.heap.size)
  generalize hAe : va_A (wMo r cI cJ cZ (sWd σ) (sPp σ) (sNb σ) (sLs σ) (sWs σ) (sM σ) (sCs σ) (sCt σ) rs kn be lm lf pm pf nw th pg) s.heap.size = A at hD ⊢
  have hA : ∀ q : Nat, s.heap.size ≤ q → A q := fun q h => by rw [← hAe]; exact Or.inr h
  refine j_gen (fun H locs hHe hLe => ?_)
  have hS : va_S A s.heap H locs := by rw [hHe, hLe]; exact va_S.rf
  have hP : va_P D vwCl (wMo r cI cJ cZ (sWd σ) (sPp σ) (sNb σ) (sLs σ) (sWs σ) (sM σ) (sCs σ) (sCt σ) rs kn be lm lf pm pf nw th pg) H := by rw [hHe]; exact hP
  have hD : va_D A (wMo r cI cJ cZ (sWd σ) (sPp σ) (sNb σ) (sLs σ) (sWs σ) (sM σ) (sCs σ) (sCt σ) rs kn be lm lf pm pf nw th pg) := hD
  have hl : lv_has ls 8 [(0, .ref (r 0)), (1, .int (jI b)), (2, .int (jI w))] := hl
  have hinX4 : ∀ w ∈ u_ws RX4 TX4 18, w ∈ wsX4_set := by decide +kernel
  have hnb := hS0.1
  have hwd := hS0.2.1
  have hpp := hS0.2.2.1
  have hct := hS0.2.2.2.1
  unfold i32 at hi
  refine lv_aload_n hx hb dX4_set_0 rfl (lv_at hl 0 rfl) ?_
  refine lv_iload_n hx hb dX4_set_1 rfl (lv_at hl 1 rfl) ?_
  refine j_cVI (As := [.int (jI b)]) (rest := []) ⟨hx, hb, hml, hown, hts⟩ (kX4_isBar l D cI cJ cZ r σ hS0 rs kn be lm lf pm pf nw th pg b (by unfold i32; omega)) (cwV 1 hts gX4_set_X4_isBar rfl rfl rfl (by decide +kernel) ⟨Nat.le_of_ble_eq_true rfl, Nat.le_of_ble_eq_true rfl⟩) hK hP (va_recv hK hP (ci := 4) (q0 := 0) rfl rfl) rfl hl.1 rfl (Nat.le_of_ble_eq_true rfl) ⟨Nat.zero_le _, Nat.zero_le _⟩ dX4_set_2 ?_
  refine j_ifneZ (tgt := 10) hx hb dX4_set_5 (by decide) (fun c5 => ?_) (fun c5 => ?_)
  · skip
    refine lv_iload_n hx hb dX4_set_10 rfl (lv_at hl 2 rfl) ?_
    refine j_iconst hx hb dX4_set_11 ?_
    refine j_iconst hx hb dX4_set_12 ?_
    refine j_cSI (As := [.int (jI w), .int (jI 0), .int (jI 2)]) (rest := []) ⟨hx, hb, hml, hown, hts⟩ (kX4_in l D cI cJ cZ w 0 2 (by unfold i32; omega)) (va_cwS 3 hts gX4_set_X4_in rfl rfl rfl (by decide +kernel) ⟨Nat.le_of_ble_eq_true rfl, Nat.le_of_ble_eq_true rfl⟩) hK (hP.sub [] rfl) rfl hl.1 rfl (Nat.le_of_ble_eq_true rfl) ⟨Nat.zero_le _, Nat.zero_le _⟩ dX4_set_13 ?_
    refine j_ifneZ (tgt := 22) hx hb dX4_set_16 (by decide) (fun c16 => ?_) (fun c16 => ?_)
    · skip
      refine lv_aload_n hx hb dX4_set_22 rfl (lv_at hl 0 rfl) ?_
      refine j_mVI (As := []) (rest := []) ⟨hx, hb, hml, hown, hts⟩ (kX4_isThere l D cI cJ cZ r σ hS0 rs kn be lm lf pm pf nw th pg hI) (cwV 0 hts gX4_set_X4_isThere rfl rfl rfl (by decide +kernel) ⟨Nat.le_of_ble_eq_true rfl, Nat.le_of_ble_eq_true rfl⟩) hK hP hD hS hA (va_recv hK hP (ci := 4) (q0 := 0) rfl rfl) rfl hl.1 rfl (Nat.le_of_ble_eq_true rfl) ⟨Nat.zero_le _, Nat.zero_le _⟩ dX4_set_23 [0, 1, 2, 3, 4, 5, 6, 7, 8, 9, 10] [] [0, 1, 2, 3, 4, 5, 6, 7, 8, 9, 10] rfl (by decide) (wr := ([] : va_W)) rfl (by decide) (by decide) (fun _ => rfl) (fun u => wMo r cI cJ cZ (sWd σ) (sPp σ) (sNb σ) (sLs σ) (sWs σ) (sM σ) (sCs σ) (sCt σ) u.1 u.2.1 u.2.2.1 u.2.2.2.1 u.2.2.2.2.1 u.2.2.2.2.2.1 u.2.2.2.2.2.2.1 u.2.2.2.2.2.2.2.1 u.2.2.2.2.2.2.2.2.1 u.2.2.2.2.2.2.2.2.2) (fun _ => rfl) (fun _ => rfl) (fun rr1 ⟨rsc1, knc1, bec1, lmc1, lfc1, pmc1, pfc1, nwc1, thc1, pgc1⟩ H locs hu1 hP hD hS => ?_)
      obtain ⟨hr1, hkn1, hI1⟩ := hu1
      have hkn1 : knc1 := hkn1
      have hI1 : mOK σ bec1 lmc1 lfc1 pmc1 pfc1 := hI1
      refine j_topi (y := jZ (bec1 ≠ 4611686018427387904)) hr1 ?_
      have hP : va_P D vwCl (wMo r cI cJ cZ (sWd σ) (sPp σ) (sNb σ) (sLs σ) (sWs σ) (sM σ) (sCs σ) (sCt σ) rsc1 knc1 bec1 lmc1 lfc1 pmc1 pfc1 nwc1 thc1 pgc1) H := hP
      have hD : va_D A (wMo r cI cJ cZ (sWd σ) (sPp σ) (sNb σ) (sLs σ) (sWs σ) (sM σ) (sCs σ) (sCt σ) rsc1 knc1 bec1 lmc1 lfc1 pmc1 pfc1 nwc1 thc1 pgc1) := hD
      refine j_ifneZ (tgt := 32) hx hb dX4_set_26 (by decide) (fun c26 => ?_) (fun c26 => ?_)
      · skip
        obtain ⟨s0, hb0, hbe0, hrw⟩ := mOK_ex hI1 c26
        have hlm0 := rows_lm hS0 hrw
        have hfl := fnd_line hS0 hb0 hrw (b := b) (by omega) (by omega)
        have hfl0 := hfl.1.1
        refine lv_aload_n hx hb dX4_set_32 rfl (lv_at hl 0 rfl) ?_
        refine lv_iload_n hx hb dX4_set_33 rfl (lv_at hl 1 rfl) ?_
        refine j_cVI (As := [.int (jI b)]) (rest := []) ⟨hx, hb, hml, hown, hts⟩ (kX4_lineOf l D cI cJ cZ r σ hS0 rsc1 knc1 bec1 lmc1 lfc1 pmc1 pfc1 nwc1 thc1 pgc1 b (cnt (fun b => b ∈ endL s0) b) (by unfold i32; omega) hfl.1) (cwV 1 hts gX4_set_X4_lineOf rfl rfl rfl (by decide +kernel) ⟨Nat.le_of_ble_eq_true rfl, Nat.le_of_ble_eq_true rfl⟩) hK hP (va_recv hK hP (ci := 4) (q0 := 0) rfl rfl) rfl hl.1 rfl (Nat.le_of_ble_eq_true rfl) ⟨Nat.zero_le _, Nat.zero_le _⟩ dX4_set_34 ?_
        refine lv_istore_n (lv' := [(3, .int (jI (cnt (fun b => b ∈ endL s0) b))), (0, .ref (r 0)), (1, .int (jI b)), (2, .int (jI w))]) hx hb dX4_set_37 rfl hl (by decide) rfl (fun ls hl => ?_)
        refine lv_aload_n hx hb dX4_set_38 rfl (lv_at hl 1 rfl) ?_
        refine va_get (D := D) (ci := 4) (v := .ref (r 6)) (C := RX4) (T := TX4) (N := 18) hx hb hts hinX4 hown hK hP 0 rfl rfl 12 (by decide) (hts (.fieldLink RX4 27 "BreakLinesModel" "lineFrom" "[I") (by decide +kernel)) (fun _ h9 => h9) rfl dX4_set_39 ?_
        refine lv_iload_n hx hb dX4_set_42 rfl (lv_at hl 0 rfl) ?_
        refine j_iald hx hb hK hP 6 0 rfl rfl (i := cnt (fun b => b ∈ endL s0) b) (by omega) (by decide) dX4_set_43 ?_
        refine lv_istore (lv' := [(4, .int (jI (lfc1 (cnt (fun b => b ∈ endL s0) b)))), (3, .int (jI (cnt (fun b => b ∈ endL s0) b))), (0, .ref (r 0)), (1, .int (jI b)), (2, .int (jI w))]) hx hb dX4_set_44 hl (by decide) rfl (fun ls hl => ?_)
        refine lv_aload_n hx hb dX4_set_46 rfl (lv_at hl 2 rfl) ?_
        refine va_get (D := D) (ci := 4) (v := .ref (r 6)) (C := RX4) (T := TX4) (N := 18) hx hb hts hinX4 hown hK hP 0 rfl rfl 12 (by decide) (hts (.fieldLink RX4 27 "BreakLinesModel" "lineFrom" "[I") (by decide +kernel)) (fun _ h9 => h9) rfl dX4_set_47 ?_
        refine lv_iload_n hx hb dX4_set_50 rfl (lv_at hl 1 rfl) ?_
        refine j_iconst hx hb dX4_set_51 ?_
        refine j_iadd hx hb dX4_set_52 ?_
        refine j_iald hx hb hK hP 6 0 rfl rfl (i := (cnt (fun b => b ∈ endL s0) b) + 1) (by omega) (by decide) dX4_set_53 ?_
        refine j_iconst hx hb dX4_set_54 ?_
        refine j_isub hx hb dX4_set_55 ?_
        refine lv_istore (lv' := [(5, .int (jI ((lfc1 ((cnt (fun b => b ∈ endL s0) b) + 1)) - 1))), (4, .int (jI (lfc1 (cnt (fun b => b ∈ endL s0) b)))), (3, .int (jI (cnt (fun b => b ∈ endL s0) b))), (0, .ref (r 0)), (1, .int (jI b)), (2, .int (jI w))]) hx hb dX4_set_56 hl (by decide) rfl (fun ls hl => ?_)
        refine lv_iload_n hx hb dX4_set_58 rfl (lv_at hl 5 rfl) ?_
        refine j_if_ne (tgt := 64) hx hb (by unfold i32; omega) dX4_set_59 (by decide) (fun c59 => ?_) (fun c59 => ?_)
        · skip
          refine lv_iload_n hx hb dX4_set_64 rfl (lv_at hl 5 rfl) ?_
          refine j_iconst hx hb dX4_set_65 ?_
          refine j_icmp_ne (tgt := 79) hx hb (by unfold i32; omega) dX4_set_66 (by decide) (fun c66 => ?_) (fun c66 => ?_)
          · skip
            refine j_iconst hx hb dX4_set_79 ?_
            refine lv_istore (lv' := [(6, .int (jI 0)), (5, .int (jI ((lfc1 ((cnt (fun b => b ∈ endL s0) b) + 1)) - 1))), (4, .int (jI (lfc1 (cnt (fun b => b ∈ endL s0) b)))), (3, .int (jI (cnt (fun b => b ∈ endL s0) b))), (0, .ref (r 0)), (1, .int (jI b)), (2, .int (jI w))]) hx hb dX4_set_80 hl (by decide) rfl (fun ls hl => ?_)
            refine lv_iload hx hb dX4_set_82 (lv_at hl 2 rfl) ?_
            refine lv_istore (lv' := [(7, .int (jI (lfc1 (cnt (fun b => b ∈ endL s0) b)))), (6, .int (jI 0)), (5, .int (jI ((lfc1 ((cnt (fun b => b ∈ endL s0) b) + 1)) - 1))), (4, .int (jI (lfc1 (cnt (fun b => b ∈ endL s0) b)))), (3, .int (jI (cnt (fun b => b ∈ endL s0) b))), (0, .ref (r 0)), (1, .int (jI b)), (2, .int (jI w))]) hx hb dX4_set_84 hl (by decide) rfl (fun ls hl => ?_)
            refine j_loop (α := Int × Int × Array Slot × Heap × List Loc) (h := fun z => match z with | (s1, j, ls, H, locs) => H) (lc := fun z => match z with | (s1, j, ls, H, locs) => locs) (f := fun z => match z with | (s1, j, ls, H, locs) => F0 m 86 ls []) (P := fun nn z => match z with | (s1, j, ls, H, locs) => ((lfc1 (cnt (fun b => b ∈ endL s0) b) ≤ j ∧ j ≤ b) ∧ s1 = ahd σ (lfc1 (cnt (fun b => b ∈ endL s0) b)) (lfc1 (cnt (fun b => b ∈ endL s0) b + 1) - 1) j) ∧ (b - j).toNat < nn ∧ lv_has ls 8 [(0, .ref (r 0)), (1, .int (jI b)), (2, .int (jI w)), (3, .int (jI (cnt (fun b => b ∈ endL s0) b))), (4, .int (jI (lfc1 (cnt (fun b => b ∈ endL s0) b)))), (5, .int (jI ((lfc1 ((cnt (fun b => b ∈ endL s0) b) + 1)) - 1))), (6, .int (jI s1)), (7, .int (jI j))] ∧ va_P D vwCl (wMo r cI cJ cZ (sWd σ) (sPp σ) (sNb σ) (sLs σ) (sWs σ) (sM σ) (sCs σ) (sCt σ) rsc1 knc1 bec1 lmc1 lfc1 pmc1 pfc1 nwc1 thc1 pgc1) H ∧ va_D A (wMo r cI cJ cZ (sWd σ) (sPp σ) (sNb σ) (sLs σ) (sWs σ) (sM σ) (sCs σ) (sCt σ) rsc1 knc1 bec1 lmc1 lfc1 pmc1 pfc1 nwc1 thc1 pgc1) ∧ va_S A s.heap H locs) (fun z hz => ?_) ?_ ((b - lfc1 (cnt (fun b => b ∈ endL s0) b)).toNat + 1) (0, lfc1 (cnt (fun b => b ∈ endL s0) b), ls, H, locs) ⟨⟨by omega, (ahd_0 _ _ _).symm⟩, Nat.lt_succ_self _, lv_sub hl [5, 6, 7, 4, 3, 2, 1, 0] rfl, hP, hD, hS⟩
            · obtain ⟨s1, j, ls, H, locs⟩ := z; exact absurd hz.2.1 (Nat.not_lt_zero _)
            intro n86 ih86 ⟨s1, j, ls, H, locs⟩ ⟨hi86, hm86, hl, hP, hD, hS⟩
            have hl : lv_has ls 8 [(0, .ref (r 0)), (1, .int (jI b)), (2, .int (jI w)), (3, .int (jI (cnt (fun b => b ∈ endL s0) b))), (4, .int (jI (lfc1 (cnt (fun b => b ∈ endL s0) b)))), (5, .int (jI ((lfc1 ((cnt (fun b => b ∈ endL s0) b) + 1)) - 1))), (6, .int (jI s1)), (7, .int (jI j))] := hl
            have hP : va_P D vwCl (wMo r cI cJ cZ (sWd σ) (sPp σ) (sNb σ) (sLs σ) (sWs σ) (sM σ) (sCs σ) (sCt σ) rsc1 knc1 bec1 lmc1 lfc1 pmc1 pfc1 nwc1 thc1 pgc1) H := hP
            have hD : va_D A (wMo r cI cJ cZ (sWd σ) (sPp σ) (sNb σ) (sLs σ) (sWs σ) (sM σ) (sCs σ) (sCt σ) rsc1 knc1 bec1 lmc1 lfc1 pmc1 pfc1 nwc1 thc1 pgc1) := hD
            have hS : va_S A s.heap H locs := hS
            show W p l e _ s m _ below meth c H locs _ _ _ (F0 m 86 ls [])
            obtain ⟨hj1, hj2⟩ := hi86
            refine lv_iload hx hb dX4_set_86 (lv_at hl 7 rfl) ?_
            refine lv_iload_n hx hb dX4_set_88 rfl (lv_at hl 1 rfl) ?_
            refine j_icmp_ge (tgt := 113) hx hb (by unfold i32; omega) dX4_set_89 (by decide) (fun c89 => ?_) (fun c89 => ?_)
            · skip
              refine lv_iload hx hb dX4_set_113 (lv_at hl 6 rfl) ?_
              exact j_mretI hx hb hr hlocks hS dX4_set_115 (σ, rsc1, knc1, bec1, lmc1, lfc1, pmc1, pfc1, nwc1, thc1, pgc1) ⟨⟨_, fun b => cnt (fun b => b ∈ endL s0) b, fun _ _ => ⟨fun _ => ⟨s0, hb0, hbe0, hrw, rfl, rfl⟩, hkn1⟩, congrArg jI ((show s1 = ahd σ (lfc1 (cnt (fun b => b ∈ endL s0) b)) (lfc1 (cnt (fun b => b ∈ endL s0) b + 1) - 1) b by rw [hj2, show j = b by omega]).trans (setR_2 (lb := fun b => cnt (fun b => b ∈ endL s0) b) c5 c16 c26 (by omega)))⟩, ⟨hS0, fun _ => hI1⟩, rfl⟩ hP
            · skip
              refine lv_iload hx hb dX4_set_92 (lv_at hl 6 rfl) ?_
              refine lv_aload_n hx hb dX4_set_94 rfl (lv_at hl 0 rfl) ?_
              refine lv_iload hx hb dX4_set_95 (lv_at hl 4 rfl) ?_
              refine lv_iload hx hb dX4_set_97 (lv_at hl 5 rfl) ?_
              refine lv_iload hx hb dX4_set_99 (lv_at hl 7 rfl) ?_
              refine j_cVI (As := [.int (jI (lfc1 (cnt (fun b => b ∈ endL s0) b))), .int (jI ((lfc1 ((cnt (fun b => b ∈ endL s0) b) + 1)) - 1)), .int (jI j)]) (rest := [.int (jI s1)]) ⟨hx, hb, hml, hown, hts⟩ (kX4_wide l D cI cJ cZ r σ hS0 rsc1 knc1 bec1 lmc1 lfc1 pmc1 pfc1 nwc1 thc1 pgc1 (lfc1 (cnt (fun b => b ∈ endL s0) b)) ((lfc1 ((cnt (fun b => b ∈ endL s0) b) + 1)) - 1) j (by omega)) (cwV 3 hts gX4_set_X4_wide rfl rfl rfl (by decide +kernel) ⟨Nat.le_of_ble_eq_true rfl, Nat.le_of_ble_eq_true rfl⟩) hK hP (va_recv hK hP (ci := 4) (q0 := 0) rfl rfl) rfl hl.1 rfl (Nat.le_of_ble_eq_true rfl) ⟨Nat.zero_le _, Nat.zero_le _⟩ dX4_set_101 ?_
              refine j_iadd hx hb dX4_set_104 ?_
              refine lv_istore (lv' := [(6, .int (jI (s1 + (ahd σ (lfc1 (cnt (fun b => b ∈ endL s0) b)) ((lfc1 ((cnt (fun b => b ∈ endL s0) b) + 1)) - 1) (j + 1) - ahd σ (lfc1 (cnt (fun b => b ∈ endL s0) b)) ((lfc1 ((cnt (fun b => b ∈ endL s0) b) + 1)) - 1) j)))), (0, .ref (r 0)), (1, .int (jI b)), (2, .int (jI w)), (3, .int (jI (cnt (fun b => b ∈ endL s0) b))), (4, .int (jI (lfc1 (cnt (fun b => b ∈ endL s0) b)))), (5, .int (jI ((lfc1 ((cnt (fun b => b ∈ endL s0) b) + 1)) - 1))), (7, .int (jI j))]) hx hb dX4_set_105 hl (by decide) rfl (fun ls hl => ?_)
              refine lv_iinc (v := jI (j + 1)) (lv' := [(7, .int (jI (j + 1))), (6, .int (jI (s1 + (ahd σ (lfc1 (cnt (fun b => b ∈ endL s0) b)) ((lfc1 ((cnt (fun b => b ∈ endL s0) b) + 1)) - 1) (j + 1) - ahd σ (lfc1 (cnt (fun b => b ∈ endL s0) b)) ((lfc1 ((cnt (fun b => b ∈ endL s0) b) + 1)) - 1) j)))), (0, .ref (r 0)), (1, .int (jI b)), (2, .int (jI w)), (3, .int (jI (cnt (fun b => b ∈ endL s0) b))), (4, .int (jI (lfc1 (cnt (fun b => b ∈ endL s0) b)))), (5, .int (jI ((lfc1 ((cnt (fun b => b ∈ endL s0) b) + 1)) - 1)))]) hx hb dX4_set_107 hl (k := 7) rfl (jI_add _ _) (by decide) rfl (fun ls hl => ?_)
              refine lv_goto (tgt := 86) hx hb dX4_set_110 (by decide) ?_
              exact ih86 (s1 + (ahd σ (lfc1 (cnt (fun b => b ∈ endL s0) b)) ((lfc1 ((cnt (fun b => b ∈ endL s0) b) + 1)) - 1) (j + 1) - ahd σ (lfc1 (cnt (fun b => b ∈ endL s0) b)) ((lfc1 ((cnt (fun b => b ∈ endL s0) b) + 1)) - 1) j), j + 1, ls, H, locs) ⟨⟨by omega, by omega⟩, by omega, lv_sub hl [2, 3, 4, 5, 6, 7, 1, 0] rfl, hP, hD, hS⟩
          · skip
            refine lv_aload_n hx hb dX4_set_69 rfl (lv_at hl 3 rfl) ?_
            refine lv_iload hx hb dX4_set_70 (lv_at hl 1 rfl) ?_
            refine lv_iload hx hb dX4_set_72 (lv_at hl 0 rfl) ?_
            refine lv_iload_n hx hb dX4_set_74 rfl (lv_at hl 4 rfl) ?_
            refine j_cVI (As := [.int (jI (lfc1 (cnt (fun b => b ∈ endL s0) b))), .int (jI ((lfc1 ((cnt (fun b => b ∈ endL s0) b) + 1)) - 1)), .int (jI b)]) (rest := []) ⟨hx, hb, hml, hown, hts⟩ (kX4_wide l D cI cJ cZ r σ hS0 rsc1 knc1 bec1 lmc1 lfc1 pmc1 pfc1 nwc1 thc1 pgc1 (lfc1 (cnt (fun b => b ∈ endL s0) b)) ((lfc1 ((cnt (fun b => b ∈ endL s0) b) + 1)) - 1) b (by omega)) (cwV 3 hts gX4_set_X4_wide rfl rfl rfl (by decide +kernel) ⟨Nat.le_of_ble_eq_true rfl, Nat.le_of_ble_eq_true rfl⟩) hK hP (va_recv hK hP (ci := 4) (q0 := 0) rfl rfl) rfl hl.1 rfl (Nat.le_of_ble_eq_true rfl) ⟨Nat.zero_le _, Nat.zero_le _⟩ dX4_set_75 ?_
            exact j_mretI hx hb hr hlocks hS dX4_set_78 (σ, rsc1, knc1, bec1, lmc1, lfc1, pmc1, pfc1, nwc1, thc1, pgc1) ⟨⟨_, fun b => cnt (fun b => b ∈ endL s0) b, fun _ _ => ⟨fun _ => ⟨s0, hb0, hbe0, hrw, rfl, rfl⟩, hkn1⟩, congrArg jI (setR_1 (lb := fun b => cnt (fun b => b ∈ endL s0) b) c5 c16 c26 c59 (by omega))⟩, ⟨hS0, fun _ => hI1⟩, rfl⟩ hP
        · skip
          refine lv_iload_n hx hb dX4_set_62 rfl (lv_at hl 2 rfl) ?_
          exact j_mretI hx hb hr hlocks hS dX4_set_63 (σ, rsc1, knc1, bec1, lmc1, lfc1, pmc1, pfc1, nwc1, thc1, pgc1) ⟨⟨_, fun b => cnt (fun b => b ∈ endL s0) b, fun _ _ => ⟨fun _ => ⟨s0, hb0, hbe0, hrw, rfl, rfl⟩, hkn1⟩, congrArg jI (setR_0 (lb := fun b => cnt (fun b => b ∈ endL s0) b) c5 c16 c26 c59)⟩, ⟨hS0, fun _ => hI1⟩, rfl⟩ hP
      · skip
        refine j_bipush hx hb dX4_set_29 (by decide) ?_
        exact j_mretI hx hb hr hlocks hS dX4_set_31 (σ, rsc1, knc1, bec1, lmc1, lfc1, pmc1, pfc1, nwc1, thc1, pgc1) ⟨⟨fun _ => 0, fun _ => 0, fun _ _ => ⟨fun z => absurd z c26, hkn1⟩, congrArg jI (setR_n c5 c16 c26)⟩, ⟨hS0, fun _ => hI1⟩, rfl⟩ hP
    · skip
      refine j_bipush hx hb dX4_set_19 (by decide) ?_
      exact j_mretI hx hb hr hlocks hS dX4_set_21 (σ, rs, kn, be, lm, lf, pm, pf, nw, th, pg) ⟨⟨fun _ => 0, fun _ => 0, fun _ z => absurd z c16, congrArg jI (setR_w c5 c16)⟩, ⟨hS0, hI⟩, rfl⟩ hP
  · skip
    refine j_iconst hx hb dX4_set_8 ?_
    exact j_mretI hx hb hr hlocks hS dX4_set_9 (σ, rs, kn, be, lm, lf, pm, pf, nw, th, pg) ⟨⟨fun _ => 0, fun _ => 0, fun z => absurd z c5, congrArg jI (setR_b c5)⟩, ⟨hS0, hI⟩, rfl⟩ hP
set_option maxHeartbeats 4000000 in
set_option maxRecDepth 100000 in
theorem kX4_ends (l : Launch) (D : va_G) (cI cJ cZ : ClassId) (r : Nat → Nat) (σ : Sg) (hS0 : okS σ) (rs : Int → Int) (kn : Prop) (be lm : Int) (lf : Int → Int) (pm : Int) (pf nw th pg : Int → Int) (hI : kn → mOK σ be lm lf pm pf) (b : Int) (hi : i32 b) : MuI l yX4_ends wsX4_ends 7 169 D (tyc cI cJ cZ) (wMo r cI cJ cZ (sWd σ) (sPp σ) (sNb σ) (sLs σ) (sWs σ) (sM σ) (sCs σ) (sCt σ) rs kn be lm lf pm pf nw th pg) [.ref (r 0), .int (jI b)] (fun (r : Int32) (u : MU) => (∃ pl lb, ((0 ≤ b ∧ b < sNb σ) → mAns σ (mBe u) (mLm u) (mLf u) (mPm u) (mPf u) pl lb ∧ mKn u) ∧ r = jZ (endR σ (mBe u ≠ 4611686018427387904) (mLf u) lb b)) ∧ mInv u ∧ u.1 = σ) (fun u => wMU r cI cJ cZ u) := by
  intro sz
  refine j_start RX4 rfl (by decide) rfl (Nat.le_of_ble_eq_true rfl) ?_
  intro p e s m below meth c ls hx hb hr hlocks hml hown hts hnm hl ⟨hsz, hP, hK, hD0⟩
  subst hsz
  have hD := hD0.self (sz := s.heap.size)
  generalize hAe : va_A (wMo r cI cJ cZ (sWd σ) (sPp σ) (sNb σ) (sLs σ) (sWs σ) (sM σ) (sCs σ) (sCt σ) rs kn be lm lf pm pf nw th pg) s.heap.size = A at hD ⊢
  have hA : ∀ q : Nat, s.heap.size ≤ q → A q := fun q h => by rw [← hAe]; exact Or.inr h
  refine j_gen (fun H locs hHe hLe => ?_)
  have hS : va_S A s.heap H locs := by rw [hHe, hLe]; exact va_S.rf
  have hP : va_P D vwCl (wMo r cI cJ cZ (sWd σ) (sPp σ) (sNb σ) (sLs σ) (sWs σ) (sM σ) (sCs σ) (sCt σ) rs kn be lm lf pm pf nw th pg) H := by rw [hHe]; exact hP
  have hD : va_D A (wMo r cI cJ cZ (sWd σ) (sPp σ) (sNb σ) (sLs σ) (sWs σ) (sM σ) (sCs σ) (sCt σ) rs kn be lm lf pm pf nw th pg) := hD
  have hl : lv_has ls 2 [(0, .ref (r 0)), (1, .int (jI b))] := hl
  have hinX4 : ∀ w ∈ u_ws RX4 TX4 18, w ∈ wsX4_ends := by decide +kernel
  have hnb := hS0.1
  have hwd := hS0.2.1
  have hpp := hS0.2.2.1
  have hct := hS0.2.2.2.1
  unfold i32 at hi
  refine lv_aload_n hx hb dX4_ends_0 rfl (lv_at hl 0 rfl) ?_
  refine lv_iload_n hx hb dX4_ends_1 rfl (lv_at hl 1 rfl) ?_
  refine j_cVI (As := [.int (jI b)]) (rest := []) ⟨hx, hb, hml, hown, hts⟩ (kX4_isBar l D cI cJ cZ r σ hS0 rs kn be lm lf pm pf nw th pg b (by unfold i32; omega)) (cwV 1 hts gX4_ends_X4_isBar rfl rfl rfl (by decide +kernel) ⟨Nat.le_of_ble_eq_true rfl, Nat.le_of_ble_eq_true rfl⟩) hK hP (va_recv hK hP (ci := 4) (q0 := 0) rfl rfl) rfl hl.1 rfl (Nat.le_of_ble_eq_true rfl) ⟨Nat.zero_le _, Nat.zero_le _⟩ dX4_ends_2 ?_
  refine j_ifeqZ (tgt := 15) hx hb dX4_ends_5 (by decide) (fun c5 => ?_) (fun c5 => ?_)
  · skip
    refine j_iconst hx hb dX4_ends_15 ?_
    exact j_mretZ hx hb hr (by decide) hlocks hS dX4_ends_16 (σ, rs, kn, be, lm, lf, pm, pf, nw, th, pg) ⟨⟨fun _ => 0, fun _ => 0, fun z => absurd z c5, (jZ_f (fun z => c5 z.1)).symm⟩, ⟨hS0, hI⟩, rfl⟩ hP
  · skip
    refine lv_aload_n hx hb dX4_ends_8 rfl (lv_at hl 0 rfl) ?_
    refine j_mVI (As := []) (rest := []) ⟨hx, hb, hml, hown, hts⟩ (kX4_isThere l D cI cJ cZ r σ hS0 rs kn be lm lf pm pf nw th pg hI) (cwV 0 hts gX4_ends_X4_isThere rfl rfl rfl (by decide +kernel) ⟨Nat.le_of_ble_eq_true rfl, Nat.le_of_ble_eq_true rfl⟩) hK hP hD hS hA (va_recv hK hP (ci := 4) (q0 := 0) rfl rfl) rfl hl.1 rfl (Nat.le_of_ble_eq_true rfl) ⟨Nat.zero_le _, Nat.zero_le _⟩ dX4_ends_9 [0, 1, 2, 3, 4, 5, 6, 7, 8, 9, 10] [] [0, 1, 2, 3, 4, 5, 6, 7, 8, 9, 10] rfl (by decide) (wr := ([] : va_W)) rfl (by decide) (by decide) (fun _ => rfl) (fun u => wMo r cI cJ cZ (sWd σ) (sPp σ) (sNb σ) (sLs σ) (sWs σ) (sM σ) (sCs σ) (sCt σ) u.1 u.2.1 u.2.2.1 u.2.2.2.1 u.2.2.2.2.1 u.2.2.2.2.2.1 u.2.2.2.2.2.2.1 u.2.2.2.2.2.2.2.1 u.2.2.2.2.2.2.2.2.1 u.2.2.2.2.2.2.2.2.2) (fun _ => rfl) (fun _ => rfl) (fun rr1 ⟨rsc1, knc1, bec1, lmc1, lfc1, pmc1, pfc1, nwc1, thc1, pgc1⟩ H locs hu1 hP hD hS => ?_)
    obtain ⟨hr1, hkn1, hI1⟩ := hu1
    have hkn1 : knc1 := hkn1
    have hI1 : mOK σ bec1 lmc1 lfc1 pmc1 pfc1 := hI1
    refine j_topi (y := jZ (bec1 ≠ 4611686018427387904)) hr1 ?_
    have hP : va_P D vwCl (wMo r cI cJ cZ (sWd σ) (sPp σ) (sNb σ) (sLs σ) (sWs σ) (sM σ) (sCs σ) (sCt σ) rsc1 knc1 bec1 lmc1 lfc1 pmc1 pfc1 nwc1 thc1 pgc1) H := hP
    have hD : va_D A (wMo r cI cJ cZ (sWd σ) (sPp σ) (sNb σ) (sLs σ) (sWs σ) (sM σ) (sCs σ) (sCt σ) rsc1 knc1 bec1 lmc1 lfc1 pmc1 pfc1 nwc1 thc1 pgc1) := hD
    refine j_ifneZ (tgt := 17) hx hb dX4_ends_12 (by decide) (fun c12 => ?_) (fun c12 => ?_)
    · skip
      obtain ⟨s0, hb0, hbe0, hrw⟩ := mOK_ex hI1 c12
      have hlm0 := rows_lm hS0 hrw
      have hfl := fnd_line hS0 hb0 hrw (b := b) (by omega) (by omega)
      have hfl0 := hfl.1.1
      refine lv_aload_n hx hb dX4_ends_17 rfl (lv_at hl 0 rfl) ?_
      refine va_get (D := D) (ci := 4) (v := .ref (r 6)) (C := RX4) (T := TX4) (N := 18) hx hb hts hinX4 hown hK hP 0 rfl rfl 12 (by decide) (hts (.fieldLink RX4 27 "BreakLinesModel" "lineFrom" "[I") (by decide +kernel)) (fun _ h9 => h9) rfl dX4_ends_18 ?_
      refine lv_aload_n hx hb dX4_ends_21 rfl (lv_at hl 0 rfl) ?_
      refine lv_iload_n hx hb dX4_ends_22 rfl (lv_at hl 1 rfl) ?_
      refine j_cVI (As := [.int (jI b)]) (rest := [.ref (r 6)]) ⟨hx, hb, hml, hown, hts⟩ (kX4_lineOf l D cI cJ cZ r σ hS0 rsc1 knc1 bec1 lmc1 lfc1 pmc1 pfc1 nwc1 thc1 pgc1 b (cnt (fun b => b ∈ endL s0) b) (by unfold i32; omega) hfl.1) (cwV 1 hts gX4_ends_X4_lineOf rfl rfl rfl (by decide +kernel) ⟨Nat.le_of_ble_eq_true rfl, Nat.le_of_ble_eq_true rfl⟩) hK hP (va_recv hK hP (ci := 4) (q0 := 0) rfl rfl) rfl hl.1 rfl (Nat.le_of_ble_eq_true rfl) ⟨Nat.zero_le _, Nat.zero_le _⟩ dX4_ends_23 ?_
      refine j_iconst hx hb dX4_ends_26 ?_
      refine j_iadd hx hb dX4_ends_27 ?_
      refine j_iald hx hb hK hP 6 0 rfl rfl (i := (cnt (fun b => b ∈ endL s0) b) + 1) (by omega) (by decide) dX4_ends_28 ?_
      refine lv_iload_n hx hb dX4_ends_29 rfl (lv_at hl 1 rfl) ?_
      refine j_iconst hx hb dX4_ends_30 ?_
      refine j_iadd hx hb dX4_ends_31 ?_
      refine j_icmp_ne (tgt := 39) hx hb (by unfold i32; omega) dX4_ends_32 (by decide) (fun c32 => ?_) (fun c32 => ?_)
      · skip
        refine j_iconst hx hb dX4_ends_39 ?_
        exact j_mretZ hx hb hr (by decide) hlocks hS dX4_ends_40 (σ, rsc1, knc1, bec1, lmc1, lfc1, pmc1, pfc1, nwc1, thc1, pgc1) ⟨⟨_, fun b => cnt (fun b => b ∈ endL s0) b, fun _ => ⟨fun _ => ⟨s0, hb0, hbe0, hrw, rfl, rfl⟩, hkn1⟩, (jZ_f (fun z => by have z2 : lfc1 (cnt (fun b => b ∈ endL s0) b + 1) - 1 = b := z.2.2; omega)).symm⟩, ⟨hS0, fun _ => hI1⟩, rfl⟩ hP
      · skip
        refine j_iconst hx hb dX4_ends_35 ?_
        refine lv_goto (tgt := 40) hx hb dX4_ends_36 (by decide) ?_
        exact j_mretZ hx hb hr (by decide) hlocks hS dX4_ends_40 (σ, rsc1, knc1, bec1, lmc1, lfc1, pmc1, pfc1, nwc1, thc1, pgc1) ⟨⟨_, fun b => cnt (fun b => b ∈ endL s0) b, fun _ => ⟨fun _ => ⟨s0, hb0, hbe0, hrw, rfl, rfl⟩, hkn1⟩, (jZ_t ⟨c5, c12, (show lfc1 (cnt (fun b => b ∈ endL s0) b + 1) - 1 = b by omega)⟩).symm⟩, ⟨hS0, fun _ => hI1⟩, rfl⟩ hP
    · skip
      refine j_iconst hx hb dX4_ends_15 ?_
      exact j_mretZ hx hb hr (by decide) hlocks hS dX4_ends_16 (σ, rsc1, knc1, bec1, lmc1, lfc1, pmc1, pfc1, nwc1, thc1, pgc1) ⟨⟨fun _ => 0, fun _ => 0, fun _ => ⟨fun z => absurd z c12, hkn1⟩, (jZ_f (fun z => c12 z.2.1)).symm⟩, ⟨hS0, fun _ => hI1⟩, rfl⟩ hP
set_option maxHeartbeats 4000000 in
set_option maxRecDepth 100000 in
theorem kX4_would (l : Launch) (D : va_G) (cI cJ cZ : ClassId) (r : Nat → Nat) (σ : Sg) (hS0 : okS σ) (rs : Int → Int) (kn : Prop) (be lm : Int) (lf : Int → Int) (pm : Int) (pf nw th pg : Int → Int) (hI : kn → mOK σ be lm lf pm pf) (a m0 : Int) (hi : i32 a ∧ i32 m0) : MuL l yX4_would wsX4_would 8 189 D (tyc cI cJ cZ) (wMo r cI cJ cZ (sWd σ) (sPp σ) (sNb σ) (sLs σ) (sWs σ) (sM σ) (sCs σ) (sCt σ) rs kn be lm lf pm pf nw th pg) [.ref (r 0), .int (jI a), .int (jI m0)] (fun (r : Int64) (u : MU) => wldM σ a m0 r ∧ mInv u ∧ u.1 = σ) (fun u => wMU r cI cJ cZ u) := by
  intro sz
  refine j_start RX4 rfl (by decide) rfl (Nat.le_of_ble_eq_true rfl) ?_
  intro p e s m below meth c ls hx hb hr hlocks hml hown hts hnm hl ⟨hsz, hP, hK, hD0⟩
  subst hsz
  have hD := hD0.self (sz := s.heap.size)
  generalize hAe : va_A (wMo r cI cJ cZ (sWd σ) (sPp σ) (sNb σ) (sLs σ) (sWs σ) (sM σ) (sCs σ) (sCt σ) rs kn be lm lf pm pf nw th pg) s.heap.size = A at hD ⊢
  have hA : ∀ q : Nat, s.heap.size ≤ q → A q := fun q h => by rw [← hAe]; exact Or.inr h
  refine j_gen (fun H locs hHe hLe => ?_)
  have hS : va_S A s.heap H locs := by rw [hHe, hLe]; exact va_S.rf
  have hP : va_P D vwCl (wMo r cI cJ cZ (sWd σ) (sPp σ) (sNb σ) (sLs σ) (sWs σ) (sM σ) (sCs σ) (sCt σ) rs kn be lm lf pm pf nw th pg) H := by rw [hHe]; exact hP
  have hD : va_D A (wMo r cI cJ cZ (sWd σ) (sPp σ) (sNb σ) (sLs σ) (sWs σ) (sM σ) (sCs σ) (sCt σ) rs kn be lm lf pm pf nw th pg) := hD
  have hl : lv_has ls 6 [(0, .ref (r 0)), (1, .int (jI a)), (2, .int (jI m0))] := hl
  have hinX4 : ∀ w ∈ u_ws RX4 TX4 18, w ∈ wsX4_would := by decide +kernel
  have hnb := hS0.1
  have hwd := hS0.2.1
  have hpp := hS0.2.2.1
  have hct := hS0.2.2.2.1
  unfold i32 at hi
  refine lv_aload_n hx hb dX4_would_0 rfl (lv_at hl 0 rfl) ?_
  refine lv_iload_n hx hb dX4_would_1 rfl (lv_at hl 1 rfl) ?_
  refine j_cVI (As := [.int (jI a)]) (rest := []) ⟨hx, hb, hml, hown, hts⟩ (kX4_isBar l D cI cJ cZ r σ hS0 rs kn be lm lf pm pf nw th pg a (by unfold i32; omega)) (cwV 1 hts gX4_would_X4_isBar rfl rfl rfl (by decide +kernel) ⟨Nat.le_of_ble_eq_true rfl, Nat.le_of_ble_eq_true rfl⟩) hK hP (va_recv hK hP (ci := 4) (q0 := 0) rfl rfl) rfl hl.1 rfl (Nat.le_of_ble_eq_true rfl) ⟨Nat.zero_le _, Nat.zero_le _⟩ dX4_would_2 ?_
  refine j_ifeqZ (tgt := 17) hx hb dX4_would_5 (by decide) (fun c5 => ?_) (fun c5 => ?_)
  · skip
    refine lv_ldc2 (v := jL (-1)) hx hb hown (hts (.constantLong RX4 147 (-1)) (by decide +kernel)) dX4_would_17 ?_
    exact j_mretL hx hb hr hlocks hS dX4_would_20 (σ, rs, kn, be, lm, lf, pm, pf, nw, th, pg) ⟨Or.inr ⟨by omega, rfl⟩, ⟨hS0, hI⟩, rfl⟩ hP
  · skip
    refine lv_iload_n hx hb dX4_would_8 rfl (lv_at hl 2 rfl) ?_
    refine j_iconst hx hb dX4_would_9 ?_
    refine j_iconst hx hb dX4_would_10 ?_
    refine j_cSI (As := [.int (jI m0), .int (jI 0), .int (jI 2)]) (rest := []) ⟨hx, hb, hml, hown, hts⟩ (kX4_in l D cI cJ cZ m0 0 2 (by unfold i32; omega)) (va_cwS 3 hts gX4_would_X4_in rfl rfl rfl (by decide +kernel) ⟨Nat.le_of_ble_eq_true rfl, Nat.le_of_ble_eq_true rfl⟩) hK (hP.sub [] rfl) rfl hl.1 rfl (Nat.le_of_ble_eq_true rfl) ⟨Nat.zero_le _, Nat.zero_le _⟩ dX4_would_11 ?_
    refine j_ifneZ (tgt := 21) hx hb dX4_would_14 (by decide) (fun c14 => ?_) (fun c14 => ?_)
    · skip
      refine lv_aload_n hx hb dX4_would_21 rfl (lv_at hl 0 rfl) ?_
      refine va_get (D := D) (ci := 4) (v := .ref (r 3)) (C := RX4) (T := TX4) (N := 18) hx hb hts hinX4 hown hK hP 0 rfl rfl 5 (by decide) (hts (.fieldLink RX4 16 "BreakLinesModel" "marks" "[Z") (by decide +kernel)) (fun _ h9 => h9) rfl dX4_would_22 ?_
      refine j_iconst hx hb dX4_would_25 ?_
      refine lv_iload_n hx hb dX4_would_26 rfl (lv_at hl 1 rfl) ?_
      refine j_imul hx hb dX4_would_27 ?_
      refine lv_iload_n hx hb dX4_would_28 rfl (lv_at hl 2 rfl) ?_
      refine j_iadd hx hb dX4_would_29 ?_
      refine j_zald hx hb hK hP 3 2 rfl rfl (i := (3 * a) + m0) (by omega) (by decide) dX4_would_30 ?_
      refine lv_istore_n (lv' := [(3, .int (jZ ((sM σ) ((3 * a) + m0) = true))), (0, .ref (r 0)), (1, .int (jI a)), (2, .int (jI m0))]) hx hb dX4_would_31 rfl hl (by decide) rfl (fun ls hl => ?_)
      refine lv_aload_n hx hb dX4_would_32 rfl (lv_at hl 1 rfl) ?_
      refine va_get (D := D) (ci := 4) (v := .ref (r 3)) (C := RX4) (T := TX4) (N := 18) hx hb hts hinX4 hown hK hP 0 rfl rfl 5 (by decide) (hts (.fieldLink RX4 16 "BreakLinesModel" "marks" "[Z") (by decide +kernel)) (fun _ h9 => h9) rfl dX4_would_33 ?_
      refine j_iconst hx hb dX4_would_36 ?_
      refine lv_iload_n hx hb dX4_would_37 rfl (lv_at hl 2 rfl) ?_
      refine j_imul hx hb dX4_would_38 ?_
      refine lv_iload_n hx hb dX4_would_39 rfl (lv_at hl 3 rfl) ?_
      refine j_iadd hx hb dX4_would_40 ?_
      refine j_iconst hx hb dX4_would_41 ?_
      refine j_topi (y := (jZ (true = true))) ((jZ_t rfl).symm) ?_
      refine j_zast hx hb hK hP hD hS 3 2 rfl rfl (i := (3 * a) + m0) (by omega) (by decide) dX4_would_42 (fun H locs hP hD hS => ?_)
      have hP : va_P D vwCl (wMo r cI cJ cZ (sWd σ) (sPp σ) (sNb σ) (sLs σ) (sWs σ) (updB (sM σ) ((3 * a) + m0) true) (sCs σ) (sCt σ) rs kn be lm lf pm pf nw th pg) H := hP
      have hD : va_D A (wMo r cI cJ cZ (sWd σ) (sPp σ) (sNb σ) (sLs σ) (sWs σ) (updB (sM σ) ((3 * a) + m0) true) (sCs σ) (sCt σ) rs kn be lm lf pm pf nw th pg) := hD
      refine lv_aload_n hx hb dX4_would_43 rfl (lv_at hl 1 rfl) ?_
      refine j_iconst hx hb dX4_would_44 ?_
      refine j_topi (y := jZ False) ((jZ_f id).symm) ?_
      refine va_put (D := D) (ci := 4) (v := .int (jZ False)) (ty := .boolean) (C := RX4) (T := TX4) (N := 18) hx hb hts hinX4 tyX4 tyX4_ok nmX4 hown hK hP hD hS 0 rfl rfl 9 (by decide) (hts (.fieldLink RX4 68 "BreakLinesModel" "known" "Z") (by decide +kernel)) (fun _ h9 => h9) rfl (by decide +kernel) (jZ_narrow _) (jZ_fits _) (Nat.le_of_ble_eq_true rfl) dX4_would_45 (fun H locs hP hD hS => ?_)
      have hP : va_P D vwCl (wMo r cI cJ cZ (sWd σ) (sPp σ) (sNb σ) (sLs σ) (sWs σ) (updB (sM σ) ((3 * a) + m0) true) (sCs σ) (sCt σ) rs False be lm lf pm pf nw th pg) H := hP
      have hD : va_D A (wMo r cI cJ cZ (sWd σ) (sPp σ) (sNb σ) (sLs σ) (sWs σ) (updB (sM σ) ((3 * a) + m0) true) (sCs σ) (sCt σ) rs False be lm lf pm pf nw th pg) := hD
      refine lv_aload_n hx hb dX4_would_48 rfl (lv_at hl 1 rfl) ?_
      refine j_mVL (As := []) (rest := []) ⟨hx, hb, hml, hown, hts⟩ (kX4_sum l D cI cJ cZ r (upMk σ a m0 true) ((okS_mk hS0 a m0 true)) rs False be lm lf pm pf nw th pg (fun w => w.elim)) (cwV 0 hts gX4_would_X4_sum rfl rfl rfl (by decide +kernel) ⟨Nat.le_of_ble_eq_true rfl, Nat.le_of_ble_eq_true rfl⟩) hK hP hD hS hA (va_recv hK hP (ci := 4) (q0 := 0) rfl rfl) rfl hl.1 rfl (Nat.le_of_ble_eq_true rfl) ⟨Nat.zero_le _, Nat.zero_le _⟩ dX4_would_49 [0, 1, 2, 3, 4, 5, 6, 7, 8, 9, 10] [] [0, 1, 2, 3, 4, 5, 6, 7, 8, 9, 10] rfl (by decide) (wr := ([] : va_W)) rfl (by decide) (by decide) (fun _ => rfl) (fun u => wMU r cI cJ cZ u) (fun _ => rfl) (fun _ => rfl) (fun rr1 ⟨sgc1, rsc1, knc1, bec1, lmc1, lfc1, pmc1, pfc1, nwc1, thc1, pgc1⟩ H locs hu1 hP hD hS => ?_)
      obtain ⟨hr1, hi1, hs1, hk1⟩ := hu1
      have hs1 : sgc1 = (upMk σ a m0 true) := hs1
      subst hs1
      have hP : va_P D vwCl (wMo r cI cJ cZ (sWd σ) (sPp σ) (sNb σ) (sLs σ) (sWs σ) (updB (sM σ) ((3 * a) + m0) true) (sCs σ) (sCt σ) rsc1 knc1 bec1 lmc1 lfc1 pmc1 pfc1 nwc1 thc1 pgc1) H := hP
      have hD : va_D A (wMo r cI cJ cZ (sWd σ) (sPp σ) (sNb σ) (sLs σ) (sWs σ) (updB (sM σ) ((3 * a) + m0) true) (sCs σ) (sCt σ) rsc1 knc1 bec1 lmc1 lfc1 pmc1 pfc1 nwc1 thc1 pgc1) := hD
      refine lv_lstore (lv' := [(4, .long rr1), (3, .int (jZ ((sM σ) ((3 * a) + m0) = true))), (0, .ref (r 0)), (1, .int (jI a)), (2, .int (jI m0))]) hx hb dX4_would_52 hl (by decide) rfl (fun ls hl => ?_)
      refine lv_aload_n hx hb dX4_would_54 rfl (lv_at hl 2 rfl) ?_
      refine va_get (D := D) (ci := 4) (v := .ref (r 3)) (C := RX4) (T := TX4) (N := 18) hx hb hts hinX4 hown hK hP 0 rfl rfl 5 (by decide) (hts (.fieldLink RX4 16 "BreakLinesModel" "marks" "[Z") (by decide +kernel)) (fun _ h9 => h9) rfl dX4_would_55 ?_
      refine j_iconst hx hb dX4_would_58 ?_
      refine lv_iload_n hx hb dX4_would_59 rfl (lv_at hl 3 rfl) ?_
      refine j_imul hx hb dX4_would_60 ?_
      refine lv_iload_n hx hb dX4_would_61 rfl (lv_at hl 4 rfl) ?_
      refine j_iadd hx hb dX4_would_62 ?_
      refine lv_iload_n hx hb dX4_would_63 rfl (lv_at hl 1 rfl) ?_
      refine j_zast hx hb hK hP hD hS 3 2 rfl rfl (i := (3 * a) + m0) (by omega) (by decide) dX4_would_64 (fun H locs hP hD hS => ?_)
      have hP : va_P D vwCl (wMo r cI cJ cZ (sWd σ) (sPp σ) (sNb σ) (sLs σ) (sWs σ) (updB (updB (sM σ) ((3 * a) + m0) true) ((3 * a) + m0) ((sM σ) ((3 * a) + m0))) (sCs σ) (sCt σ) rsc1 knc1 bec1 lmc1 lfc1 pmc1 pfc1 nwc1 thc1 pgc1) H := hP
      have hD : va_D A (wMo r cI cJ cZ (sWd σ) (sPp σ) (sNb σ) (sLs σ) (sWs σ) (updB (updB (sM σ) ((3 * a) + m0) true) ((3 * a) + m0) ((sM σ) ((3 * a) + m0))) (sCs σ) (sCt σ) rsc1 knc1 bec1 lmc1 lfc1 pmc1 pfc1 nwc1 thc1 pgc1) := hD
      refine lv_aload_n hx hb dX4_would_65 rfl (lv_at hl 2 rfl) ?_
      refine j_iconst hx hb dX4_would_66 ?_
      refine j_topi (y := jZ False) ((jZ_f id).symm) ?_
      refine va_put (D := D) (ci := 4) (v := .int (jZ False)) (ty := .boolean) (C := RX4) (T := TX4) (N := 18) hx hb hts hinX4 tyX4 tyX4_ok nmX4 hown hK hP hD hS 0 rfl rfl 9 (by decide) (hts (.fieldLink RX4 68 "BreakLinesModel" "known" "Z") (by decide +kernel)) (fun _ h9 => h9) rfl (by decide +kernel) (jZ_narrow _) (jZ_fits _) (Nat.le_of_ble_eq_true rfl) dX4_would_67 (fun H locs hP hD hS => ?_)
      have hP : va_P D vwCl (wMo r cI cJ cZ (sWd σ) (sPp σ) (sNb σ) (sLs σ) (sWs σ) (updB (updB (sM σ) ((3 * a) + m0) true) ((3 * a) + m0) ((sM σ) ((3 * a) + m0))) (sCs σ) (sCt σ) rsc1 False bec1 lmc1 lfc1 pmc1 pfc1 nwc1 thc1 pgc1) H := hP
      have hD : va_D A (wMo r cI cJ cZ (sWd σ) (sPp σ) (sNb σ) (sLs σ) (sWs σ) (updB (updB (sM σ) ((3 * a) + m0) true) ((3 * a) + m0) ((sM σ) ((3 * a) + m0))) (sCs σ) (sCt σ) rsc1 False bec1 lmc1 lfc1 pmc1 pfc1 nwc1 thc1 pgc1) := hD
      refine lv_lload hx hb dX4_would_70 (lv_at hl 0 rfl) ?_
      exact j_mretL hx hb hr hlocks hS dX4_would_72 ((sNb σ, sWd σ, sPp σ, sCt σ, sCs σ, sLs σ, sWs σ, updB (updB (sM σ) ((3 * a) + m0) true) ((3 * a) + m0) (sM σ ((3 * a) + m0))), rsc1, False, bec1, lmc1, lfc1, pmc1, pfc1, nwc1, thc1, pgc1) ⟨Or.inl ⟨c5, c14.1, c14.2, bec1, lmc1, lfc1, pmc1, pfc1, hi1.2 hk1, hr1⟩, ⟨by rw [wld_eq]; exact hS0, fun w => w.elim⟩, wld_eq⟩ hP
    · skip
      refine lv_ldc2 (v := jL (-1)) hx hb hown (hts (.constantLong RX4 147 (-1)) (by decide +kernel)) dX4_would_17 ?_
      exact j_mretL hx hb hr hlocks hS dX4_would_20 (σ, rs, kn, be, lm, lf, pm, pf, nw, th, pg) ⟨Or.inr ⟨by omega, rfl⟩, ⟨hS0, hI⟩, rfl⟩ hP
end
