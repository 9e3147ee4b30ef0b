/-! the contract of find -/
noncomputable section
set_option maxHeartbeats 4000000 in
set_option maxRecDepth 100000 in
theorem kX4_find (l : Launch) (D : va_G) (cI cJ cZ : ClassId) (r : Nat → Nat) (σ : Sg) (hS0 : okS σ) (rs : Int → Int) (kn : Prop) (be lm : Int) (lf : Int → Int) (pm : Int) (pf nw th pg : Int → Int) (hI : kn → mOK σ be lm lf pm pf) : MuV l yX4_find wsX4_find 5 122 D (tyc cI cJ cZ) (wMo r cI cJ cZ (sWd σ) (sPp σ) (sNb σ) (sLs σ) (sWs σ) (sM σ) (sCs σ) (sCt σ) rs kn be lm lf pm pf nw th pg) [.ref (r 0)] (fun (u : (Int → Int) × Prop × Int × Int × (Int → Int) × Int × (Int → Int) × (Int → Int) × (Int → Int) × (Int → Int)) => u.2.1 ∧ mOK σ u.2.2.1 u.2.2.2.1 u.2.2.2.2.1 u.2.2.2.2.2.1 u.2.2.2.2.2.2.1) (fun u => wMo r cI cJ cZ (sWd σ) (sPp σ) (sNb σ) (sLs σ) (sWs σ) (sM σ) (sCs σ) (sCt σ) u.1 u.2.1 u.2.2.1 u.2.2.2.1 u.2.2.2.2.1 u.2.2.2.2.2.1 u.2.2.2.2.2.2.1 u.2.2.2.2.2.2.2.1 u.2.2.2.2.2.2.2.2.1 u.2.2.2.2.2.2.2.2.2) := by
  intro sz
  refine j_start RX4 rfl (by decide) rfl (Nat.le_of_ble_eq_true rfl) ?_
  intro p e s m below meth c ls hx hb hr hlocks hml hown hts hnm hl ⟨hsz, hP, hK, hD0⟩
  subst hsz
  have hD := hD0.self (sz := s.heap.size)
  generalize hAe : va_A (wMo r cI cJ cZ (sWd σ) (sPp σ) (sNb σ) (sLs σ) (sWs σ) (sM σ) (sCs σ) (sCt σ) rs kn be lm lf pm pf nw th pg) s.heap.size = A at hD ⊢
  have hA : ∀ q : Nat, s.heap.size ≤ q → A q := fun q h => by rw [← hAe]; exact Or.inr h
  refine j_gen (fun H locs hHe hLe => ?_)
  have hS : va_S A s.heap H locs := by rw [hHe, hLe]; exact va_S.rf
  have hP : va_P D vwCl (wMo r cI cJ cZ (sWd σ) (sPp σ) (sNb σ) (sLs σ) (sWs σ) (sM σ) (sCs σ) (sCt σ) rs kn be lm lf pm pf nw th pg) H := by rw [hHe]; exact hP
  have hD : va_D A (wMo r cI cJ cZ (sWd σ) (sPp σ) (sNb σ) (sLs σ) (sWs σ) (sM σ) (sCs σ) (sCt σ) rs kn be lm lf pm pf nw th pg) := hD
  have hl : lv_has ls 8 [(0, .ref (r 0))] := hl
  have hinX4 : ∀ w ∈ u_ws RX4 TX4 18, w ∈ wsX4_find := by decide +kernel
  have hnb := hS0.1
  have hwd := hS0.2.1
  have hpp := hS0.2.2.1
  have hct := hS0.2.2.2.1
  refine lv_aload_n hx hb dX4_find_0 rfl (lv_at hl 0 rfl) ?_
  refine va_get (D := D) (ci := 4) (v := .int (jZ kn)) (C := RX4) (T := TX4) (N := 18) hx hb hts hinX4 hown hK hP 0 rfl rfl 9 (by decide) (hts (.fieldLink RX4 68 "BreakLinesModel" "known" "Z") (by decide +kernel)) (fun _ h9 => h9) rfl dX4_find_1 ?_
  refine j_ifeqZ (tgt := 8) hx hb dX4_find_4 (by decide) (fun c4 => ?_) (fun c4 => ?_)
  · skip
    refine lv_aload_n hx hb dX4_find_8 rfl (lv_at hl 0 rfl) ?_
    refine j_iconst hx hb dX4_find_9 ?_
    refine j_topi (y := jZ True) ((jZ_t trivial).symm) ?_
    refine va_put (D := D) (ci := 4) (v := .int (jZ True)) (ty := .boolean) (C := RX4) (T := TX4) (N := 18) hx hb hts hinX4 tyX4 tyX4_ok nmX4 hown hK hP hD hS 0 rfl rfl 9 (by decide) (hts (.fieldLink RX4 68 "BreakLinesModel" "known" "Z") (by decide +kernel)) (fun _ h9 => h9) rfl (by decide +kernel) (jZ_narrow _) (jZ_fits _) (Nat.le_of_ble_eq_true rfl) dX4_find_10 (fun H locs hP hD hS => ?_)
    have hP : va_P D vwCl (wMo r cI cJ cZ (sWd σ) (sPp σ) (sNb σ) (sLs σ) (sWs σ) (sM σ) (sCs σ) (sCt σ) rs True be lm lf pm pf nw th pg) H := hP
    have hD : va_D A (wMo r cI cJ cZ (sWd σ) (sPp σ) (sNb σ) (sLs σ) (sWs σ) (sM σ) (sCs σ) (sCt σ) rs True be lm lf pm pf nw th pg) := hD
    refine lv_aload_n hx hb dX4_find_13 rfl (lv_at hl 0 rfl) ?_
    refine va_get (D := D) (ci := 4) (v := .int (jI (sCt σ))) (C := RX4) (T := TX4) (N := 18) hx hb hts hinX4 hown hK hP 0 rfl rfl 7 (by decide) (hts (.fieldLink RX4 77 "BreakLinesModel" "due" "I") (by decide +kernel)) (fun _ h9 => h9) rfl dX4_find_14 ?_
    refine j_join (α := Int) (P := fun mt => mt = if sCt σ = 0 then 0 else 24) (f := fun mt => F0 m 26 ls [.int (jI mt)]) ?_ (fun jn17 => ?_)
    · intro mt hvmt
      have hmt : 0 ≤ mt ∧ mt ≤ 24 ∧ (sCt σ = 0 → mt = 0) := by split at hvmt <;> omega
      refine lv_istore_n (lv' := [(1, .int (jI mt)), (0, .ref (r 0))]) hx hb dX4_find_26 rfl hl (by decide) rfl (fun ls hl => ?_)
      refine lv_aload_n hx hb dX4_find_27 rfl (lv_at hl 1 rfl) ?_
      refine va_get (D := D) (ci := 4) (v := .int (jI (sNb σ))) (C := RX4) (T := TX4) (N := 18) hx hb hts hinX4 hown hK hP 0 rfl rfl 2 (by decide) (hts (.fieldLink RX4 57 "BreakLinesModel" "bars" "I") (by decide +kernel)) (fun _ h9 => h9) rfl dX4_find_28 ?_
      refine lv_istore_n (lv' := [(2, .int (jI (sNb σ))), (1, .int (jI mt)), (0, .ref (r 0))]) hx hb dX4_find_31 rfl hl (by decide) rfl (fun ls hl => ?_)
      refine j_loop (α := Int × (Int → Int) × Array Slot × Heap × List Loc) (h := fun z => match z with | (i, rs0, ls, H, locs) => H) (lc := fun z => match z with | (i, rs0, ls, H, locs) => locs) (f := fun z => match z with | (i, rs0, ls, H, locs) => F0 m 32 ls []) (P := fun nn z => match z with | (i, rs0, ls, H, locs) => ((0 ≤ i ∧ i ≤ sNb σ) ∧ tabD σ rs0 i 1 0) ∧ i.toNat < nn ∧ lv_has ls 8 [(0, .ref (r 0)), (1, .int (jI mt)), (2, .int (jI i))] ∧ va_P D vwCl (wMo r cI cJ cZ (sWd σ) (sPp σ) (sNb σ) (sLs σ) (sWs σ) (sM σ) (sCs σ) (sCt σ) rs0 True be lm lf pm pf nw th pg) H ∧ va_D A (wMo r cI cJ cZ (sWd σ) (sPp σ) (sNb σ) (sLs σ) (sWs σ) (sM σ) (sCs σ) (sCt σ) rs0 True be lm lf pm pf nw th pg) ∧ va_S A s.heap H locs) (fun z hz => ?_) ?_ ((sNb σ).toNat + 1) (sNb σ, rs, ls, H, locs) ⟨⟨by omega, fun x o n Q w w1 w2 => by unfold dn at w; omega⟩, Nat.lt_succ_self _, lv_sub hl [2, 1, 0] rfl, hP, hD, hS⟩
      · obtain ⟨i, rs0, ls, H, locs⟩ := z; exact absurd hz.2.1 (Nat.not_lt_zero _)
      intro n32 ih32 ⟨i, rs0, ls, H, locs⟩ ⟨hi32, hm32, hl, hP, hD, hS⟩
      have hl : lv_has ls 8 [(0, .ref (r 0)), (1, .int (jI mt)), (2, .int (jI i))] := hl
      have hP : va_P D vwCl (wMo r cI cJ cZ (sWd σ) (sPp σ) (sNb σ) (sLs σ) (sWs σ) (sM σ) (sCs σ) (sCt σ) rs0 True be lm lf pm pf nw th pg) H := hP
      have hD : va_D A (wMo r cI cJ cZ (sWd σ) (sPp σ) (sNb σ) (sLs σ) (sWs σ) (sM σ) (sCs σ) (sCt σ) rs0 True be lm lf pm pf nw th pg) := hD
      have hS : va_S A s.heap H locs := hS
      show W p l e _ s m _ below meth c H locs _ _ _ (F0 m 32 ls [])
      obtain ⟨hi1, hi2⟩ := hi32
      refine lv_iload_n hx hb dX4_find_32 rfl (lv_at hl 2 rfl) ?_
      refine j_if_le (tgt := 117) hx hb (by unfold i32; omega) dX4_find_33 (by decide) (fun c33 => ?_) (fun c33 => ?_)
      · skip
        have htM : tabM σ rs0 0 := tabD_M (by rw [show (0 : Int) = i by omega]; exact hi2) (Int.le_refl 0)
        refine lv_aload_n hx hb dX4_find_117 rfl (lv_at hl 0 rfl) ?_
        refine lv_aload_n hx hb dX4_find_118 rfl (lv_at hl 0 rfl) ?_
        refine va_get (D := D) (ci := 4) (v := .int (jI (sNb σ))) (C := RX4) (T := TX4) (N := 18) hx hb hts hinX4 hown hK hP 0 rfl rfl 2 (by decide) (hts (.fieldLink RX4 57 "BreakLinesModel" "bars" "I") (by decide +kernel)) (fun _ h9 => h9) rfl dX4_find_119 ?_
        refine j_join (α := Int) (P := fun b0 => b0 = if sNb σ = 0 then (if sCt σ = 0 then 0 else 4611686018427387904) else 4611686018427387904) (f := fun b0 => F0 m 145 ls [.long (jL b0), .ref (r 0)]) ?_ (fun jn122 => ?_)
        · intro b0 hvb0
          refine va_put (D := D) (ci := 4) (v := .long (jL b0)) (ty := .long) (C := RX4) (T := TX4) (N := 18) hx hb hts hinX4 tyX4 tyX4_ok nmX4 hown hK hP hD hS 0 rfl rfl 10 (by decide) (hts (.fieldLink RX4 116 "BreakLinesModel" "best" "J") (by decide +kernel)) (fun _ h9 => h9) rfl (by decide +kernel) rfl rfl (Nat.le_of_ble_eq_true rfl) dX4_find_145 (fun H locs hP hD hS => ?_)
          have hP : va_P D vwCl (wMo r cI cJ cZ (sWd σ) (sPp σ) (sNb σ) (sLs σ) (sWs σ) (sM σ) (sCs σ) (sCt σ) rs0 True b0 lm lf pm pf nw th pg) H := hP
          have hD : va_D A (wMo r cI cJ cZ (sWd σ) (sPp σ) (sNb σ) (sLs σ) (sWs σ) (sM σ) (sCs σ) (sCt σ) rs0 True b0 lm lf pm pf nw th pg) := hD
          refine lv_aload_n hx hb dX4_find_148 rfl (lv_at hl 0 rfl) ?_
          refine va_get (D := D) (ci := 4) (v := .int (jI (sCt σ))) (C := RX4) (T := TX4) (N := 18) hx hb hts hinX4 hown hK hP 0 rfl rfl 7 (by decide) (hts (.fieldLink RX4 77 "BreakLinesModel" "due" "I") (by decide +kernel)) (fun _ h9 => h9) rfl dX4_find_149 ?_
          refine j_join (α := Int) (P := fun fs => fs = if sCt σ = 0 then 0 else 1) (f := fun fs => F0 m 160 ls [.int (jI fs)]) ?_ (fun jn152 => ?_)
          · intro fs hvfs
            have hfs : 0 ≤ fs ∧ fs ≤ 1 ∧ (sCt σ = 0 → fs = 0) := by split at hvfs <;> omega
            refine lv_istore_n (lv' := [(2, .int (jI fs)), (0, .ref (r 0)), (1, .int (jI mt))]) hx hb dX4_find_160 rfl hl (by decide) rfl (fun ls hl => ?_)
            refine j_iconst hx hb dX4_find_161 ?_
            refine lv_istore_n (lv' := [(3, .int (jI 0)), (2, .int (jI fs)), (0, .ref (r 0)), (1, .int (jI mt))]) hx hb dX4_find_162 rfl hl (by decide) rfl (fun ls hl => ?_)
            refine j_loop (α := Int × Int × Array Slot × Heap × List Loc) (h := fun z => match z with | (j, be0, ls, H, locs) => H) (lc := fun z => match z with | (j, be0, ls, H, locs) => locs) (f := fun z => match z with | (j, be0, ls, H, locs) => F0 m 163 ls []) (P := fun nn z => match z with | (j, be0, ls, H, locs) => ((0 ≤ j ∧ j ≤ sNb σ) ∧ (sNb σ = 0 → be0 = b0) ∧ (0 < sNb σ → Mn (fun x => ∃ t, 0 ≤ t ∧ t < j ∧ CB σ (Tm σ fs) t x) be0)) ∧ (sNb σ - j).toNat < nn ∧ lv_has ls 8 [(0, .ref (r 0)), (1, .int (jI mt)), (2, .int (jI fs)), (3, .int (jI j))] ∧ va_P D vwCl (wMo r cI cJ cZ (sWd σ) (sPp σ) (sNb σ) (sLs σ) (sWs σ) (sM σ) (sCs σ) (sCt σ) rs0 True be0 lm lf pm pf nw th pg) H ∧ va_D A (wMo r cI cJ cZ (sWd σ) (sPp σ) (sNb σ) (sLs σ) (sWs σ) (sM σ) (sCs σ) (sCt σ) rs0 True be0 lm lf pm pf nw th pg) ∧ va_S A s.heap H locs) (fun z hz => ?_) ?_ ((sNb σ - 0).toNat + 1) (0, b0, ls, H, locs) ⟨⟨by omega, fun _ => rfl, fun w => by rw [hvb0, if_neg (by omega)]; exact Mn_0 (fun x q => by obtain ⟨t, q1, q2, -⟩ := q; omega)⟩, Nat.lt_succ_self _, lv_sub hl [2, 3, 1, 0] rfl, hP, hD, hS⟩
            · obtain ⟨j, be0, ls, H, locs⟩ := z; exact absurd hz.2.1 (Nat.not_lt_zero _)
            intro n163 ih163 ⟨j, be0, ls, H, locs⟩ ⟨hi163, hm163, hl, hP, hD, hS⟩
            have hl : lv_has ls 8 [(0, .ref (r 0)), (1, .int (jI mt)), (2, .int (jI fs)), (3, .int (jI j))] := hl
            have hP : va_P D vwCl (wMo r cI cJ cZ (sWd σ) (sPp σ) (sNb σ) (sLs σ) (sWs σ) (sM σ) (sCs σ) (sCt σ) rs0 True be0 lm lf pm pf nw th pg) H := hP
            have hD : va_D A (wMo r cI cJ cZ (sWd σ) (sPp σ) (sNb σ) (sLs σ) (sWs σ) (sM σ) (sCs σ) (sCt σ) rs0 True be0 lm lf pm pf nw th pg) := hD
            have hS : va_S A s.heap H locs := hS
            show W p l e _ s m _ below meth c H locs _ _ _ (F0 m 163 ls [])
            obtain ⟨hj1, hj2, hj3⟩ := hi163
            refine lv_iload_n hx hb dX4_find_163 rfl (lv_at hl 3 rfl) ?_
            refine lv_aload_n hx hb dX4_find_164 rfl (lv_at hl 0 rfl) ?_
            refine va_get (D := D) (ci := 4) (v := .int (jI (sNb σ))) (C := RX4) (T := TX4) (N := 18) hx hb hts hinX4 hown hK hP 0 rfl rfl 2 (by decide) (hts (.fieldLink RX4 57 "BreakLinesModel" "bars" "I") (by decide +kernel)) (fun _ h9 => h9) rfl dX4_find_165 ?_
            refine j_icmp_ge (tgt := 259) hx hb (by unfold i32; omega) dX4_find_168 (by decide) (fun c168 => ?_) (fun c168 => ?_)
            · skip
              have hM : Mn (TS σ) be0 := by
                by_cases w : sNb σ = 0
                · rw [hj2 w, hvb0, if_pos w]; exact TS_nb0 w rfl
                · exact TS_all (by omega) hvfs (by have z := hj3 (by omega); rw [show j = sNb σ by omega] at z; exact z)
              have hbe0 : 0 ≤ be0 ∧ be0 ≤ 4611686018427387904 := hM.r0 (fun x q => by obtain ⟨s, q1, q2, q3⟩ := q; have := okL_B hS0 s 0 0 (by omega) (by omega) (by omega) q1; omega)
              refine lv_aload_n hx hb dX4_find_259 rfl (lv_at hl 0 rfl) ?_
              refine j_iconst hx hb dX4_find_260 ?_
              refine va_put (D := D) (ci := 4) (v := .int (jI 0)) (ty := .int) (C := RX4) (T := TX4) (N := 18) hx hb hts hinX4 tyX4 tyX4_ok nmX4 hown hK hP hD hS 0 rfl rfl 11 (by decide) (hts (.fieldLink RX4 122 "BreakLinesModel" "lineMany" "I") (by decide +kernel)) (fun _ h9 => h9) rfl (by decide +kernel) rfl rfl (Nat.le_of_ble_eq_true rfl) dX4_find_261 (fun H locs hP hD hS => ?_)
              have hP : va_P D vwCl (wMo r cI cJ cZ (sWd σ) (sPp σ) (sNb σ) (sLs σ) (sWs σ) (sM σ) (sCs σ) (sCt σ) rs0 True be0 0 lf pm pf nw th pg) H := hP
              have hD : va_D A (wMo r cI cJ cZ (sWd σ) (sPp σ) (sNb σ) (sLs σ) (sWs σ) (sM σ) (sCs σ) (sCt σ) rs0 True be0 0 lf pm pf nw th pg) := hD
              refine lv_aload_n hx hb dX4_find_264 rfl (lv_at hl 0 rfl) ?_
              refine j_iconst hx hb dX4_find_265 ?_
              refine va_put (D := D) (ci := 4) (v := .int (jI 0)) (ty := .int) (C := RX4) (T := TX4) (N := 18) hx hb hts hinX4 tyX4 tyX4_ok nmX4 hown hK hP hD hS 0 rfl rfl 13 (by decide) (hts (.fieldLink RX4 125 "BreakLinesModel" "pageMany" "I") (by decide +kernel)) (fun _ h9 => h9) rfl (by decide +kernel) rfl rfl (Nat.le_of_ble_eq_true rfl) dX4_find_266 (fun H locs hP hD hS => ?_)
              have hP : va_P D vwCl (wMo r cI cJ cZ (sWd σ) (sPp σ) (sNb σ) (sLs σ) (sWs σ) (sM σ) (sCs σ) (sCt σ) rs0 True be0 0 lf 0 pf nw th pg) H := hP
              have hD : va_D A (wMo r cI cJ cZ (sWd σ) (sPp σ) (sNb σ) (sLs σ) (sWs σ) (sM σ) (sCs σ) (sCt σ) rs0 True be0 0 lf 0 pf nw th pg) := hD
              refine lv_aload_n hx hb dX4_find_269 rfl (lv_at hl 0 rfl) ?_
              refine va_get (D := D) (ci := 4) (v := .long (jL be0)) (C := RX4) (T := TX4) (N := 18) hx hb hts hinX4 hown hK hP 0 rfl rfl 10 (by decide) (hts (.fieldLink RX4 116 "BreakLinesModel" "best" "J") (by decide +kernel)) (fun _ h9 => h9) rfl dX4_find_270 ?_
              refine lv_ldc2 (v := jL 4611686018427387904) hx hb hown (hts (.constantLong RX4 91 (4611686018427387904)) (by decide +kernel)) dX4_find_273 ?_
              refine j_lcmp_eq (tgt := 295) hx hb (by unfold i64; omega) dX4_find_276 dX4_find_277 (by decide) (fun c276 => ?_) (fun c276 => ?_)
              · skip
                exact j_mretV hx hb hr hlocks hS dX4_find_295 (rs0, True, be0, 0, lf, 0, pf, nw, th, pg) ⟨trivial, by first | exact mOK_none hM c276 | exact mOK_nb0 hS0 hM c276 (by omega)⟩ hP
              · skip
                refine lv_aload_n hx hb dX4_find_280 rfl (lv_at hl 0 rfl) ?_
                refine va_get (D := D) (ci := 4) (v := .int (jI (sNb σ))) (C := RX4) (T := TX4) (N := 18) hx hb hts hinX4 hown hK hP 0 rfl rfl 2 (by decide) (hts (.fieldLink RX4 57 "BreakLinesModel" "bars" "I") (by decide +kernel)) (fun _ h9 => h9) rfl dX4_find_281 ?_
                refine j_if_le (tgt := 295) hx hb (by unfold i32; omega) dX4_find_284 (by decide) (fun c284 => ?_) (fun c284 => ?_)
                · skip
                  exact j_mretV hx hb hr hlocks hS dX4_find_295 (rs0, True, be0, 0, lf, 0, pf, nw, th, pg) ⟨trivial, by first | exact mOK_none hM c276 | exact mOK_nb0 hS0 hM c276 (by omega)⟩ hP
                · skip
                  obtain ⟨s0, hB0, hbe⟩ := best_ex hS0 hM c276
                  refine lv_aload_n hx hb dX4_find_287 rfl (lv_at hl 0 rfl) ?_
                  refine j_mVV (As := []) (rest := []) ⟨hx, hb, hml, hown, hts⟩ (kX4_pickLines l D cI cJ cZ r σ hS0 rs0 True be0 0 lf 0 pf nw th pg s0 ⟨c284, rfl⟩ hB0 hbe hM htM) (cwV 0 hts gX4_find_X4_pickLines rfl rfl rfl (by decide +kernel) ⟨Nat.le_of_ble_eq_true rfl, Nat.le_of_ble_eq_true rfl⟩) hK hP hD hS hA (va_recv hK hP (ci := 4) (q0 := 0) rfl rfl) rfl hl.1 rfl (Nat.le_of_ble_eq_true rfl) ⟨Nat.zero_le _, Nat.zero_le _⟩ dX4_find_288 [0, 1, 2, 3, 4, 5, 6, 7, 8, 9, 10] [] [0, 1, 2, 3, 4, 5, 6, 7, 8, 9, 10] rfl (by decide) (wr := ([] : va_W)) rfl (by decide) (by decide) (fun _ => rfl) (fun u => wMo r cI cJ cZ (sWd σ) (sPp σ) (sNb σ) (sLs σ) (sWs σ) (sM σ) (sCs σ) (sCt σ) rs0 True be0 u.1 u.2.1 0 pf u.2.2.1 u.2.2.2 pg) (fun _ => rfl) (fun _ => rfl) (fun ⟨lmc1, lfc1, nwc1, thc1⟩ H locs hu1 hP hD hS => ?_)
                  have hfl := find_lines hS0 hB0 c284 hu1.1 hu1.2.1 hu1.2.2.1 hu1.2.2.2
                  have hP : va_P D vwCl (wMo r cI cJ cZ (sWd σ) (sPp σ) (sNb σ) (sLs σ) (sWs σ) (sM σ) (sCs σ) (sCt σ) rs0 True be0 lmc1 lfc1 0 pf nwc1 thc1 pg) H := hP
                  have hD : va_D A (wMo r cI cJ cZ (sWd σ) (sPp σ) (sNb σ) (sLs σ) (sWs σ) (sM σ) (sCs σ) (sCt σ) rs0 True be0 lmc1 lfc1 0 pf nwc1 thc1 pg) := hD
                  refine lv_aload_n hx hb dX4_find_291 rfl (lv_at hl 0 rfl) ?_
                  refine j_mVV (As := []) (rest := []) ⟨hx, hb, hml, hown, hts⟩ (kX4_pickPages l D cI cJ cZ r σ hS0 rs0 True be0 lmc1 lfc1 0 pf nwc1 thc1 pg s0 (by have z := hfl.1; omega) hB0 hfl.2.1 hfl.2.2.1 hfl.2.2.2.1 hfl.2.2.2.2) (cwV 0 hts gX4_find_X4_pickPages rfl rfl rfl (by decide +kernel) ⟨Nat.le_of_ble_eq_true rfl, Nat.le_of_ble_eq_true rfl⟩) hK hP hD hS hA (va_recv hK hP (ci := 4) (q0 := 0) rfl rfl) rfl hl.1 rfl (Nat.le_of_ble_eq_true rfl) ⟨Nat.zero_le _, Nat.zero_le _⟩ dX4_find_292 [0, 1, 2, 3, 4, 5, 6, 7, 8, 9, 10] [] [0, 1, 2, 3, 4, 5, 6, 7, 8, 9, 10] rfl (by decide) (wr := ([] : va_W)) rfl (by decide) (by decide) (fun _ => rfl) (fun u => wMo r cI cJ cZ (sWd σ) (sPp σ) (sNb σ) (sLs σ) (sWs σ) (sM σ) (sCs σ) (sCt σ) rs0 True be0 lmc1 lfc1 u.1 u.2.1 nwc1 thc1 u.2.2) (fun _ => rfl) (fun _ => rfl) (fun ⟨pmc2, pfc2, pgc2⟩ H locs hu2 hP hD hS => ?_)
                  have hP : va_P D vwCl (wMo r cI cJ cZ (sWd σ) (sPp σ) (sNb σ) (sLs σ) (sWs σ) (sM σ) (sCs σ) (sCt σ) rs0 True be0 lmc1 lfc1 pmc2 pfc2 nwc1 thc1 pgc2) H := hP
                  have hD : va_D A (wMo r cI cJ cZ (sWd σ) (sPp σ) (sNb σ) (sLs σ) (sWs σ) (sM σ) (sCs σ) (sCt σ) rs0 True be0 lmc1 lfc1 pmc2 pfc2 nwc1 thc1 pgc2) := hD
                  exact j_mretV hx hb hr hlocks hS dX4_find_295 (rs0, True, be0, lmc1, lfc1, pmc2, pfc2, nwc1, thc1, pgc2) ⟨trivial, mOK_yes hB0 hbe c276 hu1.1 hu1.2.1 hu1.2.2.2 hu2.1 hu2.2.1 hu2.2.2⟩ hP
            · skip
              refine lv_aload_n hx hb dX4_find_171 rfl (lv_at hl 0 rfl) ?_
              refine j_iconst hx hb dX4_find_172 ?_
              refine lv_iload_n hx hb dX4_find_173 rfl (lv_at hl 3 rfl) ?_
              refine j_cVI (As := [.int (jI 0), .int (jI j)]) (rest := []) ⟨hx, hb, hml, hown, hts⟩ (kX4_mayBe l D cI cJ cZ r σ hS0 rs0 True be0 lm lf pm pf nw th pg 0 j (by omega)) (cwV 2 hts gX4_find_X4_mayBe rfl rfl rfl (by decide +kernel) ⟨Nat.le_of_ble_eq_true rfl, Nat.le_of_ble_eq_true rfl⟩) hK hP (va_recv hK hP (ci := 4) (q0 := 0) rfl rfl) rfl hl.1 rfl (Nat.le_of_ble_eq_true rfl) ⟨Nat.zero_le _, Nat.zero_le _⟩ dX4_find_174 ?_
              refine j_ifeqZ (tgt := 253) hx hb dX4_find_177 (by decide) (fun c177 => ?_) (fun c177 => ?_)
              · skip
                refine lv_iinc (v := jI (j + 1)) (lv' := [(3, .int (jI (j + 1))), (0, .ref (r 0)), (1, .int (jI mt)), (2, .int (jI fs))]) hx hb dX4_find_253 hl (k := 3) rfl (jI_add _ _) (by decide) rfl (fun ls hl => ?_)
                refine lv_goto (tgt := 163) hx hb dX4_find_256 (by decide) ?_
                exact ih163 (j + 1, be0, ls, H, locs) ⟨⟨by omega, fun w => by omega, fun w => CB_skip c177 (hj3 w)⟩, by omega, lv_sub hl [1, 2, 3, 0] rfl, hP, hD, hS⟩
              · skip
                have hMr := htM (j + 1) 1 fs True (by omega) (by omega) (by omega) (by omega) (by omega) (by omega) hfs.2.2
                have hMr0 := hMr.r0 (fun x q => (RS_B hS0 (by omega) (by omega) (by omega) q).1)
                have hcs := cstB hS0 (a := 0) (b := j) (by omega) (by omega) (by omega)
                have hb00 : 0 ≤ be0 ∧ be0 ≤ 4611686018427387904 := (hj3 (by omega)).r0 (fun x q => by obtain ⟨t, q1, q2, q3, y, q4, q5⟩ := q; have := cstB hS0 (a := 0) (b := t) (by omega) (by omega) (by omega); have := RS_B hS0 (by omega) (by omega) (by omega) q4; omega)
                refine lv_aload_n hx hb dX4_find_180 rfl (lv_at hl 0 rfl) ?_
                refine va_get (D := D) (ci := 4) (v := .ref (r 5)) (C := RX4) (T := TX4) (N := 18) hx hb hts hinX4 hown hK hP 0 rfl rfl 8 (by decide) (hts (.fieldLink RX4 24 "BreakLinesModel" "rest" "[J") (by decide +kernel)) (fun _ h9 => h9) rfl dX4_find_181 ?_
                refine lv_iload_n hx hb dX4_find_184 rfl (lv_at hl 3 rfl) ?_
                refine j_iconst hx hb dX4_find_185 ?_
                refine j_iadd hx hb dX4_find_186 ?_
                refine j_iconst hx hb dX4_find_187 ?_
                refine lv_iload_n hx hb dX4_find_188 rfl (lv_at hl 2 rfl) ?_
                refine j_iconst hx hb dX4_find_189 ?_
                refine j_topi (y := (jZ True)) ((jZ_t trivial).symm) ?_
                refine j_cSI (As := [.int (jI (j + 1)), .int (jI 1), .int (jI fs), .int (jZ True)]) (rest := [.ref (r 5)]) ⟨hx, hb, hml, hown, hts⟩ (kX4_place l D cI cJ cZ (j + 1) 1 fs True) (va_cwS 4 hts gX4_find_X4_place rfl rfl rfl (by decide +kernel) ⟨Nat.le_of_ble_eq_true rfl, Nat.le_of_ble_eq_true rfl⟩) hK (hP.sub [] rfl) rfl hl.1 rfl (Nat.le_of_ble_eq_true rfl) ⟨Nat.zero_le _, Nat.zero_le _⟩ dX4_find_190 ?_
                refine j_lald hx hb hK hP 5 1 rfl rfl (i := plc (j + 1) 1 fs True) (by have := plc_B (j + 1) 1 fs True; omega) (by decide) dX4_find_193 ?_
                refine lv_lstore (lv' := [(4, .long (jL (rs0 (plc (j + 1) 1 fs True)))), (0, .ref (r 0)), (1, .int (jI mt)), (2, .int (jI fs)), (3, .int (jI j))]) hx hb dX4_find_194 hl (by decide) rfl (fun ls hl => ?_)
                refine lv_lload hx hb dX4_find_196 (lv_at hl 0 rfl) ?_
                refine lv_ldc2 (v := jL 4611686018427387904) hx hb hown (hts (.constantLong RX4 91 (4611686018427387904)) (by decide +kernel)) dX4_find_198 ?_
                refine j_join (α := Int) (P := fun al => (rs0 (plc (j + 1) 1 fs True) = 4611686018427387904 ∧ al = 4611686018427387904) ∨ (rs0 (plc (j + 1) 1 fs True) ≠ 4611686018427387904 ∧ al = rs0 (plc (j + 1) 1 fs True) + (1024 * cst σ 0 j + 33))) (f := fun al => F0 m 228 ls [.long (jL al)]) ?_ (fun jn201 => ?_)
                · intro al hval
                  refine lv_lstore (lv' := [(6, .long (jL al)), (4, .long (jL (rs0 (plc (j + 1) 1 fs True)))), (0, .ref (r 0)), (1, .int (jI mt)), (2, .int (jI fs)), (3, .int (jI j))]) hx hb dX4_find_228 hl (by decide) rfl (fun ls hl => ?_)
                  refine lv_aload_n hx hb dX4_find_230 rfl (lv_at hl 2 rfl) ?_
                  refine lv_lload hx hb dX4_find_231 (lv_at hl 0 rfl) ?_
                  refine lv_aload_n hx hb dX4_find_233 rfl (lv_at hl 2 rfl) ?_
                  refine va_get (D := D) (ci := 4) (v := .long (jL be0)) (C := RX4) (T := TX4) (N := 18) hx hb hts hinX4 hown hK hP 0 rfl rfl 10 (by decide) (hts (.fieldLink RX4 116 "BreakLinesModel" "best" "J") (by decide +kernel)) (fun _ h9 => h9) rfl dX4_find_234 ?_
                  refine j_join (α := Int) (P := fun b1 => (al < be0 ∧ b1 = al) ∨ (be0 ≤ al ∧ b1 = be0)) (f := fun b1 => F0 m 250 ls [.long (jL b1), .ref (r 0)]) ?_ (fun jn237 => ?_)
                  · intro b1 hvb1
                    refine va_put (D := D) (ci := 4) (v := .long (jL b1)) (ty := .long) (C := RX4) (T := TX4) (N := 18) hx hb hts hinX4 tyX4 tyX4_ok nmX4 hown hK hP hD hS 0 rfl rfl 10 (by decide) (hts (.fieldLink RX4 116 "BreakLinesModel" "best" "J") (by decide +kernel)) (fun _ h9 => h9) rfl (by decide +kernel) rfl rfl (Nat.le_of_ble_eq_true rfl) dX4_find_250 (fun H locs hP hD hS => ?_)
                    have hP : va_P D vwCl (wMo r cI cJ cZ (sWd σ) (sPp σ) (sNb σ) (sLs σ) (sWs σ) (sM σ) (sCs σ) (sCt σ) rs0 True b1 lm lf pm pf nw th pg) H := hP
                    have hD : va_D A (wMo r cI cJ cZ (sWd σ) (sPp σ) (sNb σ) (sLs σ) (sWs σ) (sM σ) (sCs σ) (sCt σ) rs0 True b1 lm lf pm pf nw th pg) := hD
                    refine lv_iinc (v := jI (j + 1)) (lv' := [(3, .int (jI (j + 1))), (6, .long (jL al)), (4, .long (jL (rs0 (plc (j + 1) 1 fs True)))), (0, .ref (r 0)), (1, .int (jI mt)), (2, .int (jI fs))]) hx hb dX4_find_253 hl (k := 5) rfl (jI_add _ _) (by decide) rfl (fun ls hl => ?_)
                    refine lv_goto (tgt := 163) hx hb dX4_find_256 (by decide) ?_
                    exact ih163 (j + 1, b1, ls, H, locs) ⟨⟨by omega, fun w => by omega, fun w => CB_step hS0 (by omega) (by omega) c177 (hj3 w) hMr hval hvb1⟩, by omega, lv_sub hl [3, 4, 5, 0] rfl, hP, hD, hS⟩
                  refine j_lcmp_ge (tgt := 246) hx hb (by unfold i64; omega) dX4_find_237 dX4_find_238 (by decide) (fun c237 => ?_) (fun c237 => ?_)
                  · skip
                    refine lv_aload_n hx hb dX4_find_246 rfl (lv_at hl 2 rfl) ?_
                    refine va_get (D := D) (ci := 4) (v := .long (jL be0)) (C := RX4) (T := TX4) (N := 18) hx hb hts hinX4 hown hK hP 0 rfl rfl 10 (by decide) (hts (.fieldLink RX4 116 "BreakLinesModel" "best" "J") (by decide +kernel)) (fun _ h9 => h9) rfl dX4_find_247 ?_
                    exact jn237 be0 (by omega)
                  · skip
                    refine lv_lload hx hb dX4_find_241 (lv_at hl 0 rfl) ?_
                    refine lv_goto (tgt := 250) hx hb dX4_find_243 (by decide) ?_
                    exact jn237 al (by omega)
                refine j_lcmp_ne (tgt := 211) hx hb (by unfold i64; omega) dX4_find_201 dX4_find_202 (by decide) (fun c201 => ?_) (fun c201 => ?_)
                · skip
                  refine lv_lload hx hb dX4_find_211 (lv_at hl 0 rfl) ?_
                  refine lv_ldc2 (v := jL 1024) hx hb hown (hts (.constantLong RX4 93 (1024)) (by decide +kernel)) dX4_find_213 ?_
                  refine lv_aload_n hx hb dX4_find_216 rfl (lv_at hl 1 rfl) ?_
                  refine j_iconst hx hb dX4_find_217 ?_
                  refine lv_iload_n hx hb dX4_find_218 rfl (lv_at hl 4 rfl) ?_
                  refine j_cVL (As := [.int (jI 0), .int (jI j)]) (rest := [.long (jL 1024), .long (jL (rs0 (plc (j + 1) 1 fs True)))]) ⟨hx, hb, hml, hown, hts⟩ (kX4_costOf l D cI cJ cZ r σ hS0 rs0 True be0 lm lf pm pf nw th pg 0 j (by omega)) (cwV 2 hts gX4_find_X4_costOf rfl rfl rfl (by decide +kernel) ⟨Nat.le_of_ble_eq_true rfl, Nat.le_of_ble_eq_true rfl⟩) hK hP (va_recv hK hP (ci := 4) (q0 := 0) rfl rfl) rfl hl.1 rfl (Nat.le_of_ble_eq_true rfl) ⟨Nat.zero_le _, Nat.zero_le _⟩ dX4_find_219 ?_
                  refine j_lmul hx hb dX4_find_222 ?_
                  refine j_ladd hx hb dX4_find_223 ?_
                  refine lv_ldc2 (v := jL 33) hx hb hown (hts (.constantLong RX4 120 (33)) (by decide +kernel)) dX4_find_224 ?_
                  refine j_ladd hx hb dX4_find_227 ?_
                  exact jn201 (((rs0 (plc (j + 1) 1 fs True)) + (1024 * (cst σ 0 j))) + 33) (by omega)
                · skip
                  refine lv_ldc2 (v := jL 4611686018427387904) hx hb hown (hts (.constantLong RX4 91 (4611686018427387904)) (by decide +kernel)) dX4_find_205 ?_
                  refine lv_goto (tgt := 228) hx hb dX4_find_208 (by decide) ?_
                  exact jn201 4611686018427387904 (by omega)
          refine j_if_ne (tgt := 159) hx hb (by unfold i32; omega) dX4_find_152 (by decide) (fun c152 => ?_) (fun c152 => ?_)
          · skip
            refine j_iconst hx hb dX4_find_159 ?_
            exact jn152 1 (by first | exact (if_pos c152).symm | exact (if_neg c152).symm)
          · skip
            refine j_iconst hx hb dX4_find_155 ?_
            refine lv_goto (tgt := 160) hx hb dX4_find_156 (by decide) ?_
            exact jn152 0 (by first | exact (if_pos c152).symm | exact (if_neg c152).symm)
        refine j_if_ne (tgt := 142) hx hb (by unfold i32; omega) dX4_find_122 (by decide) (fun c122 => ?_) (fun c122 => ?_)
        · skip
          refine lv_ldc2 (v := jL 4611686018427387904) hx hb hown (hts (.constantLong RX4 91 (4611686018427387904)) (by decide +kernel)) dX4_find_142 ?_
          exact jn122 4611686018427387904 (by first | (rw [if_pos c122, if_pos c129]; done) | (rw [if_pos c122, if_neg c129]; done) | (rw [if_neg c122]; done))
        · skip
          refine lv_aload_n hx hb dX4_find_125 rfl (lv_at hl 0 rfl) ?_
          refine va_get (D := D) (ci := 4) (v := .int (jI (sCt σ))) (C := RX4) (T := TX4) (N := 18) hx hb hts hinX4 hown hK hP 0 rfl rfl 7 (by decide) (hts (.fieldLink RX4 77 "BreakLinesModel" "due" "I") (by decide +kernel)) (fun _ h9 => h9) rfl dX4_find_126 ?_
          refine j_if_ne (tgt := 136) hx hb (by unfold i32; omega) dX4_find_129 (by decide) (fun c129 => ?_) (fun c129 => ?_)
          · skip
            refine lv_ldc2 (v := jL 4611686018427387904) hx hb hown (hts (.constantLong RX4 91 (4611686018427387904)) (by decide +kernel)) dX4_find_136 ?_
            refine lv_goto (tgt := 145) hx hb dX4_find_139 (by decide) ?_
            exact jn122 4611686018427387904 (by first | (rw [if_pos c122, if_pos c129]; done) | (rw [if_pos c122, if_neg c129]; done) | (rw [if_neg c122]; done))
          · skip
            refine j_lconst0 hx hb dX4_find_132 ?_
            refine lv_goto (tgt := 145) hx hb dX4_find_133 (by decide) ?_
            exact jn122 0 (by first | (rw [if_pos c122, if_pos c129]; done) | (rw [if_pos c122, if_neg c129]; done) | (rw [if_neg c122]; done))
      · skip
        refine j_iconst hx hb dX4_find_36 ?_
        refine lv_istore_n (lv' := [(3, .int (jI 1)), (0, .ref (r 0)), (1, .int (jI mt)), (2, .int (jI i))]) hx hb dX4_find_37 rfl hl (by decide) rfl (fun ls hl => ?_)
        refine j_loop (α := Int × (Int → Int) × Array Slot × Heap × List Loc) (h := fun z => match z with | (op, rs1, ls, H, locs) => H) (lc := fun z => match z with | (op, rs1, ls, H, locs) => locs) (f := fun z => match z with | (op, rs1, ls, H, locs) => F0 m 38 ls []) (P := fun nn z => match z with | (op, rs1, ls, H, locs) => ((1 ≤ op ∧ op ≤ sPp σ + 1) ∧ tabD σ rs1 i op 0) ∧ (sPp σ + 1 - op).toNat < nn ∧ lv_has ls 8 [(0, .ref (r 0)), (1, .int (jI mt)), (2, .int (jI i)), (3, .int (jI op))] ∧ va_P D vwCl (wMo r cI cJ cZ (sWd σ) (sPp σ) (sNb σ) (sLs σ) (sWs σ) (sM σ) (sCs σ) (sCt σ) rs1 True be lm lf pm pf nw th pg) H ∧ va_D A (wMo r cI cJ cZ (sWd σ) (sPp σ) (sNb σ) (sLs σ) (sWs σ) (sM σ) (sCs σ) (sCt σ) rs1 True be lm lf pm pf nw th pg) ∧ va_S A s.heap H locs) (fun z hz => ?_) ?_ ((sPp σ + 1 - 1).toNat + 1) (1, rs0, ls, H, locs) ⟨⟨by omega, hi2⟩, Nat.lt_succ_self _, lv_sub hl [1, 2, 3, 0] rfl, hP, hD, hS⟩
        · obtain ⟨op, rs1, ls, H, locs⟩ := z; exact absurd hz.2.1 (Nat.not_lt_zero _)
        intro n38 ih38 ⟨op, rs1, ls, H, locs⟩ ⟨hi38, hm38, hl, hP, hD, hS⟩
        have hl : lv_has ls 8 [(0, .ref (r 0)), (1, .int (jI mt)), (2, .int (jI i)), (3, .int (jI op))] := hl
        have hP : va_P D vwCl (wMo r cI cJ cZ (sWd σ) (sPp σ) (sNb σ) (sLs σ) (sWs σ) (sM σ) (sCs σ) (sCt σ) rs1 True be lm lf pm pf nw th pg) H := hP
        have hD : va_D A (wMo r cI cJ cZ (sWd σ) (sPp σ) (sNb σ) (sLs σ) (sWs σ) (sM σ) (sCs σ) (sCt σ) rs1 True be lm lf pm pf nw th pg) := hD
        have hS : va_S A s.heap H locs := hS
        show W p l e _ s m _ below meth c H locs _ _ _ (F0 m 38 ls [])
        obtain ⟨ho1, ho2⟩ := hi38
        refine lv_iload_n hx hb dX4_find_38 rfl (lv_at hl 3 rfl) ?_
        refine lv_aload_n hx hb dX4_find_39 rfl (lv_at hl 0 rfl) ?_
        refine va_get (D := D) (ci := 4) (v := .int (jI (sPp σ))) (C := RX4) (T := TX4) (N := 18) hx hb hts hinX4 hown hK hP 0 rfl rfl 1 (by decide) (hts (.fieldLink RX4 46 "BreakLinesModel" "perPage" "I") (by decide +kernel)) (fun _ h9 => h9) rfl dX4_find_40 ?_
        refine j_icmp_gt (tgt := 111) hx hb (by unfold i32; omega) dX4_find_43 (by decide) (fun c43 => ?_) (fun c43 => ?_)
        · skip
          refine lv_iinc (v := jI (i + (-1))) (lv' := [(2, .int (jI (i + (-1)))), (0, .ref (r 0)), (1, .int (jI mt)), (3, .int (jI op))]) hx hb dX4_find_111 hl (k := 2) rfl (jI_add _ _) (by decide) rfl (fun ls hl => ?_)
          refine lv_goto (tgt := 32) hx hb dX4_find_114 (by decide) ?_
          exact ih32 (i + (-1), rs1, ls, H, locs) ⟨⟨by omega, by rw [show i + -1 = i - 1 by omega]; exact tabD_i ho2 (by omega)⟩, by omega, lv_sub hl [1, 2, 0] rfl, hP, hD, hS⟩
        · skip
          refine j_iconst hx hb dX4_find_46 ?_
          refine lv_istore (lv' := [(4, .int (jI 0)), (0, .ref (r 0)), (1, .int (jI mt)), (2, .int (jI i)), (3, .int (jI op))]) hx hb dX4_find_47 hl (by decide) rfl (fun ls hl => ?_)
          refine j_loop (α := Int × (Int → Int) × Array Slot × Heap × List Loc) (h := fun z => match z with | (n, rs2, ls, H, locs) => H) (lc := fun z => match z with | (n, rs2, ls, H, locs) => locs) (f := fun z => match z with | (n, rs2, ls, H, locs) => F0 m 49 ls []) (P := fun nn z => match z with | (n, rs2, ls, H, locs) => ((0 ≤ n ∧ n ≤ mt + 1) ∧ tabD σ rs2 i op n) ∧ (mt + 1 - n).toNat < nn ∧ lv_has ls 8 [(0, .ref (r 0)), (1, .int (jI mt)), (2, .int (jI i)), (3, .int (jI op)), (4, .int (jI n))] ∧ va_P D vwCl (wMo r cI cJ cZ (sWd σ) (sPp σ) (sNb σ) (sLs σ) (sWs σ) (sM σ) (sCs σ) (sCt σ) rs2 True be lm lf pm pf nw th pg) H ∧ va_D A (wMo r cI cJ cZ (sWd σ) (sPp σ) (sNb σ) (sLs σ) (sWs σ) (sM σ) (sCs σ) (sCt σ) rs2 True be lm lf pm pf nw th pg) ∧ va_S A s.heap H locs) (fun z hz => ?_) ?_ ((mt + 1 - 0).toNat + 1) (0, rs1, ls, H, locs) ⟨⟨by omega, ho2⟩, Nat.lt_succ_self _, lv_sub hl [1, 2, 3, 4, 0] rfl, hP, hD, hS⟩
          · obtain ⟨n, rs2, ls, H, locs⟩ := z; exact absurd hz.2.1 (Nat.not_lt_zero _)
          intro n49 ih49 ⟨n, rs2, ls, H, locs⟩ ⟨hi49, hm49, hl, hP, hD, hS⟩
          have hl : lv_has ls 8 [(0, .ref (r 0)), (1, .int (jI mt)), (2, .int (jI i)), (3, .int (jI op)), (4, .int (jI n))] := hl
          have hP : va_P D vwCl (wMo r cI cJ cZ (sWd σ) (sPp σ) (sNb σ) (sLs σ) (sWs σ) (sM σ) (sCs σ) (sCt σ) rs2 True be lm lf pm pf nw th pg) H := hP
          have hD : va_D A (wMo r cI cJ cZ (sWd σ) (sPp σ) (sNb σ) (sLs σ) (sWs σ) (sM σ) (sCs σ) (sCt σ) rs2 True be lm lf pm pf nw th pg) := hD
          have hS : va_S A s.heap H locs := hS
          show W p l e _ s m _ below meth c H locs _ _ _ (F0 m 49 ls [])
          obtain ⟨hn1, hn2⟩ := hi49
          refine lv_iload hx hb dX4_find_49 (lv_at hl 4 rfl) ?_
          refine lv_iload_n hx hb dX4_find_51 rfl (lv_at hl 1 rfl) ?_
          refine j_icmp_gt (tgt := 105) hx hb (by unfold i32; omega) dX4_find_52 (by decide) (fun c52 => ?_) (fun c52 => ?_)
          · skip
            refine lv_iinc (v := jI (op + 1)) (lv' := [(3, .int (jI (op + 1))), (0, .ref (r 0)), (1, .int (jI mt)), (2, .int (jI i)), (4, .int (jI n))]) hx hb dX4_find_105 hl (k := 3) rfl (jI_add _ _) (by decide) rfl (fun ls hl => ?_)
            refine lv_goto (tgt := 38) hx hb dX4_find_108 (by decide) ?_
            exact ih38 (op + 1, rs2, ls, H, locs) ⟨⟨by omega, tabD_o hn2 hvmt (by omega)⟩, by omega, lv_sub hl [1, 2, 3, 0] rfl, hP, hD, hS⟩
          · skip
            refine lv_aload_n hx hb dX4_find_55 rfl (lv_at hl 0 rfl) ?_
            refine va_get (D := D) (ci := 4) (v := .ref (r 5)) (C := RX4) (T := TX4) (N := 18) hx hb hts hinX4 hown hK hP 0 rfl rfl 8 (by decide) (hts (.fieldLink RX4 24 "BreakLinesModel" "rest" "[J") (by decide +kernel)) (fun _ h9 => h9) rfl dX4_find_56 ?_
            refine lv_iload_n hx hb dX4_find_59 rfl (lv_at hl 2 rfl) ?_
            refine lv_iload_n hx hb dX4_find_60 rfl (lv_at hl 3 rfl) ?_
            refine lv_iload hx hb dX4_find_61 (lv_at hl 4 rfl) ?_
            refine j_iconst hx hb dX4_find_63 ?_
            refine j_topi (y := (jZ True)) ((jZ_t trivial).symm) ?_
            refine j_cSI (As := [.int (jI i), .int (jI op), .int (jI n), .int (jZ True)]) (rest := [.ref (r 5)]) ⟨hx, hb, hml, hown, hts⟩ (kX4_place l D cI cJ cZ i op n True) (va_cwS 4 hts gX4_find_X4_place rfl rfl rfl (by decide +kernel) ⟨Nat.le_of_ble_eq_true rfl, Nat.le_of_ble_eq_true rfl⟩) hK (hP.sub [] rfl) rfl hl.1 rfl (Nat.le_of_ble_eq_true rfl) ⟨Nat.zero_le _, Nat.zero_le _⟩ dX4_find_64 ?_
            refine lv_aload_n hx hb dX4_find_67 rfl (lv_at hl 0 rfl) ?_
            refine lv_iload_n hx hb dX4_find_68 rfl (lv_at hl 2 rfl) ?_
            refine lv_iload_n hx hb dX4_find_69 rfl (lv_at hl 3 rfl) ?_
            refine lv_iload hx hb dX4_find_70 (lv_at hl 4 rfl) ?_
            refine j_iconst hx hb dX4_find_72 ?_
            refine j_topi (y := (jZ True)) ((jZ_t trivial).symm) ?_
            refine j_cVL (As := [.int (jI i), .int (jI op), .int (jI n), .int (jZ True)]) (rest := [.int (jI (plc i op n True)), .ref (r 5)]) ⟨hx, hb, hml, hown, hts⟩ (kX4_restOf l D cI cJ cZ r σ hS0 rs2 True be lm lf pm pf nw th pg i op n True (by omega) (tabD_M hn2 (by omega))) (cwV 4 hts gX4_find_X4_restOf rfl rfl rfl (by decide +kernel) ⟨Nat.le_of_ble_eq_true rfl, Nat.le_of_ble_eq_true rfl⟩) hK hP (va_recv hK hP (ci := 4) (q0 := 0) rfl rfl) rfl hl.1 rfl (Nat.le_of_ble_eq_true rfl) ⟨Nat.zero_le _, Nat.zero_le _⟩ dX4_find_73 ?_
            refine j_last hx hb hK hP hD hS 5 1 rfl rfl (i := plc i op n True) (by have := plc_B i op n True; omega) (by decide) dX4_find_76 (fun H locs hP hD hS => ?_)
            have hP : va_P D vwCl (wMo r cI cJ cZ (sWd σ) (sPp σ) (sNb σ) (sLs σ) (sWs σ) (sM σ) (sCs σ) (sCt σ) (updI rs2 (plc i op n True) (mnOf (RS σ (Tm σ n) i op True))) True be lm lf pm pf nw th pg) H := hP
            have hD : va_D A (wMo r cI cJ cZ (sWd σ) (sPp σ) (sNb σ) (sLs σ) (sWs σ) (sM σ) (sCs σ) (sCt σ) (updI rs2 (plc i op n True) (mnOf (RS σ (Tm σ n) i op True))) True be lm lf pm pf nw th pg) := hD
            refine lv_aload_n hx hb dX4_find_77 rfl (lv_at hl 0 rfl) ?_
            refine va_get (D := D) (ci := 4) (v := .ref (r 5)) (C := RX4) (T := TX4) (N := 18) hx hb hts hinX4 hown hK hP 0 rfl rfl 8 (by decide) (hts (.fieldLink RX4 24 "BreakLinesModel" "rest" "[J") (by decide +kernel)) (fun _ h9 => h9) rfl dX4_find_78 ?_
            refine lv_iload_n hx hb dX4_find_81 rfl (lv_at hl 2 rfl) ?_
            refine lv_iload_n hx hb dX4_find_82 rfl (lv_at hl 3 rfl) ?_
            refine lv_iload hx hb dX4_find_83 (lv_at hl 4 rfl) ?_
            refine j_iconst hx hb dX4_find_85 ?_
            refine j_topi (y := (jZ False)) ((jZ_f id).symm) ?_
            refine j_cSI (As := [.int (jI i), .int (jI op), .int (jI n), .int (jZ False)]) (rest := [.ref (r 5)]) ⟨hx, hb, hml, hown, hts⟩ (kX4_place l D cI cJ cZ i op n False) (va_cwS 4 hts gX4_find_X4_place rfl rfl rfl (by decide +kernel) ⟨Nat.le_of_ble_eq_true rfl, Nat.le_of_ble_eq_true rfl⟩) hK (hP.sub [] rfl) rfl hl.1 rfl (Nat.le_of_ble_eq_true rfl) ⟨Nat.zero_le _, Nat.zero_le _⟩ dX4_find_86 ?_
            refine lv_aload_n hx hb dX4_find_89 rfl (lv_at hl 0 rfl) ?_
            refine lv_iload_n hx hb dX4_find_90 rfl (lv_at hl 2 rfl) ?_
            refine lv_iload_n hx hb dX4_find_91 rfl (lv_at hl 3 rfl) ?_
            refine lv_iload hx hb dX4_find_92 (lv_at hl 4 rfl) ?_
            refine j_iconst hx hb dX4_find_94 ?_
            refine j_topi (y := (jZ False)) ((jZ_f id).symm) ?_
            refine j_cVL (As := [.int (jI i), .int (jI op), .int (jI n), .int (jZ False)]) (rest := [.int (jI (plc i op n False)), .ref (r 5)]) ⟨hx, hb, hml, hown, hts⟩ (kX4_restOf l D cI cJ cZ r σ hS0 (updI rs2 (plc i op n True) (mnOf (RS σ (Tm σ n) i op True))) True be lm lf pm pf nw th pg i op n False (by omega) (tabM_upd hS0 (tabD_M hn2 (by omega)) (by omega) (by omega))) (cwV 4 hts gX4_find_X4_restOf rfl rfl rfl (by decide +kernel) ⟨Nat.le_of_ble_eq_true rfl, Nat.le_of_ble_eq_true rfl⟩) hK hP (va_recv hK hP (ci := 4) (q0 := 0) rfl rfl) rfl hl.1 rfl (Nat.le_of_ble_eq_true rfl) ⟨Nat.zero_le _, Nat.zero_le _⟩ dX4_find_95 ?_
            refine j_last hx hb hK hP hD hS 5 1 rfl rfl (i := plc i op n False) (by have := plc_B i op n False; omega) (by decide) dX4_find_98 (fun H locs hP hD hS => ?_)
            have hP : va_P D vwCl (wMo r cI cJ cZ (sWd σ) (sPp σ) (sNb σ) (sLs σ) (sWs σ) (sM σ) (sCs σ) (sCt σ) (updI (updI rs2 (plc i op n True) (mnOf (RS σ (Tm σ n) i op True))) (plc i op n False) (mnOf (RS σ (Tm σ n) i op False))) True be lm lf pm pf nw th pg) H := hP
            have hD : va_D A (wMo r cI cJ cZ (sWd σ) (sPp σ) (sNb σ) (sLs σ) (sWs σ) (sM σ) (sCs σ) (sCt σ) (updI (updI rs2 (plc i op n True) (mnOf (RS σ (Tm σ n) i op True))) (plc i op n False) (mnOf (RS σ (Tm σ n) i op False))) True be lm lf pm pf nw th pg) := hD
            refine lv_iinc (v := jI (n + 1)) (lv' := [(4, .int (jI (n + 1))), (0, .ref (r 0)), (1, .int (jI mt)), (2, .int (jI i)), (3, .int (jI op))]) hx hb dX4_find_99 hl (k := 4) rfl (jI_add _ _) (by decide) rfl (fun ls hl => ?_)
            refine lv_goto (tgt := 49) hx hb dX4_find_102 (by decide) ?_
            exact ih49 (n + 1, updI (updI rs2 (plc i op n True) (mnOf (RS σ (Tm σ n) i op True))) (plc i op n False) (mnOf (RS σ (Tm σ n) i op False)), ls, H, locs) ⟨⟨by omega, tabD_step hS0 hn2 (by omega) (by omega) (Mn_RS hS0 (by omega) (by omega) (by omega)) (Mn_RS hS0 (by omega) (by omega) (by omega))⟩, by omega, lv_sub hl [1, 2, 3, 4, 0] rfl, hP, hD, hS⟩
    refine j_if_ne (tgt := 24) hx hb (by unfold i32; omega) dX4_find_17 (by decide) (fun c17 => ?_) (fun c17 => ?_)
    · skip
      refine j_bipush hx hb dX4_find_24 (by decide) ?_
      exact jn17 24 (by first | exact (if_pos c17).symm | exact (if_neg c17).symm)
    · skip
      refine j_iconst hx hb dX4_find_20 ?_
      refine lv_goto (tgt := 26) hx hb dX4_find_21 (by decide) ?_
      exact jn17 0 (by first | exact (if_pos c17).symm | exact (if_neg c17).symm)
  · skip
    exact j_mretV hx hb hr hlocks hS dX4_find_7 (rs, kn, be, lm, lf, pm, pf, nw, th, pg) ⟨c4, hI c4⟩ hP
end
