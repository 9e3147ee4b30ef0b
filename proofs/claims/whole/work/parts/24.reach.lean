/-! the contract of reaches -/
noncomputable section
set_option maxHeartbeats 4000000 in
set_option maxRecDepth 100000 in
theorem kX4_reaches (l : Launch) (D : va_G) (cI cJ cZ : ClassId) (r : Nat → Nat) (σ : Sg) (hS0 : okS σ) (rs : Int → Int) (kn : Prop) (be lm : Int) (lf : Int → Int) (pm : Int) (pf nw th pg : Int → Int) (i0 j n : Int) (L : List Int) (mo : Int) (h : (i0 = sF L ∧ 0 ≤ i0 ∧ i0 ≤ j ∧ j < sNb σ) ∧ (0 ≤ be ∧ be ≤ 4611686018427387904) ∧ (0 ≤ n ∧ n ≤ 24)) (hmo : mo = if sCt σ = 0 then 0 else n + 1) (hmo2 : 0 ≤ mo ∧ mo ≤ 24) (hN : (L = [] ∧ i0 = 0) ∨ (∃ i K, L = i :: K ∧ i0 = i + 1 ∧ 0 ≤ sF K ∧ (sF K ≤ i ∧ i < sNb σ ∧ may σ (sF K) i) ∧ NWT σ K i nw)) (tb : tabM σ rs 0) (ge : ∀ op fi x y, NWs σ L j op fi x → RS σ (Tm σ mo) (j + 1) op fi y → be ≤ x + y) : MuI l yX4_reaches wsX4_reaches 3 71 D (tyc cI cJ cZ) (wMo r cI cJ cZ (sWd σ) (sPp σ) (sNb σ) (sLs σ) (sWs σ) (sM σ) (sCs σ) (sCt σ) rs kn be lm lf pm pf nw th pg) [.ref (r 0), .int (jI i0), .int (jI j), .int (jI n)] (fun (r : Int32) (u : Int → Int) => r = jZ (RCH σ be L j mo) ∧ NWT σ L j u) (fun u => wMo r cI cJ cZ (sWd σ) (sPp σ) (sNb σ) (sLs σ) (sWs σ) (sM σ) (sCs σ) (sCt σ) rs kn be lm lf pm pf nw u pg) := by
  intro sz
  refine j_start RX4 rfl (by decide) rfl (Nat.le_of_ble_eq_true rfl) ?_
  intro p e s m below meth c ls hx hb hr hlocks hml hown hts hnm hl ⟨hsz, hP, hK, hD0⟩
  subst hsz
  have hD := hD0.self (sz := s.heap.size)
  generalize hAe : va_A (wMo r cI cJ cZ (sWd σ) (sPp σ) (sNb σ) (sLs σ) (sWs σ) (sM σ) (sCs σ) (sCt σ) rs kn be lm lf pm pf nw th pg) s.heap.size = A at hD ⊢
  have hA : ∀ q : Nat, s.heap.size ≤ q → A q := fun q h => by rw [← hAe]; exact Or.inr h
  refine j_gen (fun H locs hHe hLe => ?_)
  have hS : va_S A s.heap H locs := by rw [hHe, hLe]; exact va_S.rf
  have hP : va_P D vwCl (wMo r cI cJ cZ (sWd σ) (sPp σ) (sNb σ) (sLs σ) (sWs σ) (sM σ) (sCs σ) (sCt σ) rs kn be lm lf pm pf nw th pg) H := by rw [hHe]; exact hP
  have hD : va_D A (wMo r cI cJ cZ (sWd σ) (sPp σ) (sNb σ) (sLs σ) (sWs σ) (sM σ) (sCs σ) (sCt σ) rs kn be lm lf pm pf nw th pg) := hD
  have hl : lv_has ls 9 [(0, .ref (r 0)), (1, .int (jI i0)), (2, .int (jI j)), (3, .int (jI n))] := hl
  have hinX4 : ∀ w ∈ u_ws RX4 TX4 18, w ∈ wsX4_reaches := by decide +kernel
  have hnb := hS0.1
  have hwd := hS0.2.1
  have hpp := hS0.2.2.1
  have hct := hS0.2.2.2.1
  have hcs := cstB hS0 (a := i0) (b := j) (by omega) (by omega) (by omega)
  have hmo3 : sCt σ = 0 → mo = 0 := fun w => by rw [if_pos w] at hmo; exact hmo
  refine lv_ldc2 (v := jL 1024) hx hb hown (hts (.constantLong RX4 93 (1024)) (by decide +kernel)) dX4_reaches_0 ?_
  refine lv_aload_n hx hb dX4_reaches_3 rfl (lv_at hl 0 rfl) ?_
  refine lv_iload_n hx hb dX4_reaches_4 rfl (lv_at hl 1 rfl) ?_
  refine lv_iload_n hx hb dX4_reaches_5 rfl (lv_at hl 2 rfl) ?_
  refine j_cVL (As := [.int (jI i0), .int (jI j)]) (rest := [.long (jL 1024)]) ⟨hx, hb, hml, hown, hts⟩ (kX4_costOf l D cI cJ cZ r σ hS0 rs kn be lm lf pm pf nw th pg i0 j (by omega)) (cwV 2 hts gX4_reaches_X4_costOf rfl rfl rfl (by decide +kernel) ⟨Nat.le_of_ble_eq_true rfl, Nat.le_of_ble_eq_true rfl⟩) hK hP (va_recv hK hP (ci := 4) (q0 := 0) rfl rfl) rfl hl.1 rfl (Nat.le_of_ble_eq_true rfl) ⟨Nat.zero_le _, Nat.zero_le _⟩ dX4_reaches_6 ?_
  refine j_lmul hx hb dX4_reaches_9 ?_
  refine j_lconst1 hx hb dX4_reaches_10 ?_
  refine j_ladd hx hb dX4_reaches_11 ?_
  refine lv_lstore (lv' := [(4, .long (jL ((1024 * (cst σ i0 j)) + 1))), (0, .ref (r 0)), (1, .int (jI i0)), (2, .int (jI j)), (3, .int (jI n))]) hx hb dX4_reaches_12 hl (by decide) rfl (fun ls hl => ?_)
  refine j_iconst hx hb dX4_reaches_14 ?_
  refine lv_istore (lv' := [(6, .int (jI 0)), (4, .long (jL ((1024 * (cst σ i0 j)) + 1))), (0, .ref (r 0)), (1, .int (jI i0)), (2, .int (jI j)), (3, .int (jI n))]) hx hb dX4_reaches_15 hl (by decide) rfl (fun ls hl => ?_)
  refine j_loop (α := Int × (Int → Int) × Array Slot × Heap × List Loc) (h := fun z => match z with | (k, th1, ls, H, locs) => H) (lc := fun z => match z with | (k, th1, ls, H, locs) => locs) (f := fun z => match z with | (k, th1, ls, H, locs) => F0 m 17 ls []) (P := fun nn z => match z with | (k, th1, ls, H, locs) => ((0 ≤ k ∧ k ≤ 18) ∧ ∀ m, 0 ≤ m → m < k → th1 m = 4611686018427387904) ∧ (18 - k).toNat < nn ∧ lv_has ls 9 [(0, .ref (r 0)), (1, .int (jI i0)), (2, .int (jI j)), (3, .int (jI n)), (4, .long (jL ((1024 * (cst σ i0 j)) + 1))), (6, .int (jI k))] ∧ va_P D vwCl (wMo r cI cJ cZ (sWd σ) (sPp σ) (sNb σ) (sLs σ) (sWs σ) (sM σ) (sCs σ) (sCt σ) rs kn be lm lf pm pf nw th1 pg) H ∧ va_D A (wMo r cI cJ cZ (sWd σ) (sPp σ) (sNb σ) (sLs σ) (sWs σ) (sM σ) (sCs σ) (sCt σ) rs kn be lm lf pm pf nw th1 pg) ∧ va_S A s.heap H locs) (fun z hz => ?_) ?_ ((18 - 0 : Int).toNat + 1) (0, th, ls, H, locs) ⟨⟨by omega, fun m h1 h2 => by omega⟩, Nat.lt_succ_self _, lv_sub hl [2, 3, 4, 5, 1, 0] rfl, hP, hD, hS⟩
  · obtain ⟨k, th1, ls, H, locs⟩ := z; exact absurd hz.2.1 (Nat.not_lt_zero _)
  intro n17 ih17 ⟨k, th1, ls, H, locs⟩ ⟨hi17, hm17, hl, hP, hD, hS⟩
  have hl : lv_has ls 9 [(0, .ref (r 0)), (1, .int (jI i0)), (2, .int (jI j)), (3, .int (jI n)), (4, .long (jL ((1024 * (cst σ i0 j)) + 1))), (6, .int (jI k))] := hl
  have hP : va_P D vwCl (wMo r cI cJ cZ (sWd σ) (sPp σ) (sNb σ) (sLs σ) (sWs σ) (sM σ) (sCs σ) (sCt σ) rs kn be lm lf pm pf nw th1 pg) H := hP
  have hD : va_D A (wMo r cI cJ cZ (sWd σ) (sPp σ) (sNb σ) (sLs σ) (sWs σ) (sM σ) (sCs σ) (sCt σ) rs kn be lm lf pm pf nw th1 pg) := hD
  have hS : va_S A s.heap H locs := hS
  show W p l e _ s m _ below meth c H locs _ _ _ (F0 m 17 ls [])
  obtain ⟨hk1, hk2⟩ := hi17
  refine lv_iload hx hb dX4_reaches_17 (lv_at hl 5 rfl) ?_
  refine j_bipush hx hb dX4_reaches_19 (by decide) ?_
  refine j_icmp_ge (tgt := 40) hx hb (by unfold i32; omega) dX4_reaches_21 (by decide) (fun c21 => ?_) (fun c21 => ?_)
  · skip
    refine lv_iload_n hx hb dX4_reaches_40 rfl (lv_at hl 1 rfl) ?_
    refine j_joinM (α := (Int → Int) × Array Slot × Heap × List Loc) (h := (fun z => match z with | (th3, ls, H, locs) => H)) (lc := (fun z => match z with | (th3, ls, H, locs) => locs)) (f := (fun z => match z with | (th3, ls, H, locs) => F0 m 56 ls [])) (P := (fun z => match z with | (th3, ls, H, locs) => ((i0 = 0 ∧ NWT σ L j th3) ∨ (0 < i0 ∧ ∃ i K, L = i :: K ∧ i0 = i + 1 ∧ 0 ≤ sF K ∧ (sF K ≤ i ∧ i < sNb σ ∧ may σ (sF K) i) ∧ NWT σ K i nw ∧ FWD σ K i j 2 th3)) ∧ lv_has ls 9 [(0, .ref (r 0)), (1, .int (jI i0)), (2, .int (jI j)), (3, .int (jI n)), (4, .long (jL ((1024 * (cst σ i0 j)) + 1)))] ∧ va_P D vwCl (wMo r cI cJ cZ (sWd σ) (sPp σ) (sNb σ) (sLs σ) (sWs σ) (sM σ) (sCs σ) (sCt σ) rs kn be lm lf pm pf nw th3 pg) H ∧ va_D A (wMo r cI cJ cZ (sWd σ) (sPp σ) (sNb σ) (sLs σ) (sWs σ) (sM σ) (sCs σ) (sCt σ) rs kn be lm lf pm pf nw th3 pg) ∧ va_S A s.heap H locs)) ?_ (fun jn41 => ?_)
    · intro ⟨th3, ls, H, locs⟩ ⟨hj41, hl, hP, hD, hS⟩
      have hl : lv_has ls 9 [(0, .ref (r 0)), (1, .int (jI i0)), (2, .int (jI j)), (3, .int (jI n)), (4, .long (jL ((1024 * (cst σ i0 j)) + 1)))] := hl
      have hP : va_P D vwCl (wMo r cI cJ cZ (sWd σ) (sPp σ) (sNb σ) (sLs σ) (sWs σ) (sM σ) (sCs σ) (sCt σ) rs kn be lm lf pm pf nw th3 pg) H := hP
      have hD : va_D A (wMo r cI cJ cZ (sWd σ) (sPp σ) (sNb σ) (sLs σ) (sWs σ) (sM σ) (sCs σ) (sCt σ) rs kn be lm lf pm pf nw th3 pg) := hD
      have hS : va_S A s.heap H locs := hS
      show W p l e _ s m _ below meth c H locs _ _ _ (F0 m 56 ls [])
      refine j_iconst hx hb dX4_reaches_56 ?_
      refine lv_istore (lv' := [(6, .int (jI 2)), (0, .ref (r 0)), (1, .int (jI i0)), (2, .int (jI j)), (3, .int (jI n)), (4, .long (jL ((1024 * (cst σ i0 j)) + 1)))]) hx hb dX4_reaches_57 hl (by decide) rfl (fun ls hl => ?_)
      refine j_loop (α := Int × (Int → Int) × Array Slot × Heap × List Loc) (h := fun z => match z with | (k, th2, ls, H, locs) => H) (lc := fun z => match z with | (k, th2, ls, H, locs) => locs) (f := fun z => match z with | (k, th2, ls, H, locs) => F0 m 59 ls []) (P := fun nn z => match z with | (k, th2, ls, H, locs) => ((2 ≤ k ∧ k ≤ 18) ∧ ((i0 = 0 ∧ NWT σ L j th2) ∨ (0 < i0 ∧ ∃ i K, L = i :: K ∧ i0 = i + 1 ∧ 0 ≤ sF K ∧ (sF K ≤ i ∧ i < sNb σ ∧ may σ (sF K) i) ∧ NWT σ K i nw ∧ FWD σ K i j k th2))) ∧ (18 - k).toNat < nn ∧ lv_has ls 9 [(0, .ref (r 0)), (1, .int (jI i0)), (2, .int (jI j)), (3, .int (jI n)), (4, .long (jL ((1024 * (cst σ i0 j)) + 1))), (6, .int (jI k))] ∧ va_P D vwCl (wMo r cI cJ cZ (sWd σ) (sPp σ) (sNb σ) (sLs σ) (sWs σ) (sM σ) (sCs σ) (sCt σ) rs kn be lm lf pm pf nw th2 pg) H ∧ va_D A (wMo r cI cJ cZ (sWd σ) (sPp σ) (sNb σ) (sLs σ) (sWs σ) (sM σ) (sCs σ) (sCt σ) rs kn be lm lf pm pf nw th2 pg) ∧ va_S A s.heap H locs) (fun z hz => ?_) ?_ ((18 - 2 : Int).toNat + 1) (2, th3, ls, H, locs) ⟨⟨by omega, hj41⟩, Nat.lt_succ_self _, lv_sub hl [1, 2, 3, 4, 5, 0] rfl, hP, hD, hS⟩
      · obtain ⟨k, th2, ls, H, locs⟩ := z; exact absurd hz.2.1 (Nat.not_lt_zero _)
      intro n59 ih59 ⟨k, th2, ls, H, locs⟩ ⟨hi59, hm59, hl, hP, hD, hS⟩
      have hl : lv_has ls 9 [(0, .ref (r 0)), (1, .int (jI i0)), (2, .int (jI j)), (3, .int (jI n)), (4, .long (jL ((1024 * (cst σ i0 j)) + 1))), (6, .int (jI k))] := hl
      have hP : va_P D vwCl (wMo r cI cJ cZ (sWd σ) (sPp σ) (sNb σ) (sLs σ) (sWs σ) (sM σ) (sCs σ) (sCt σ) rs kn be lm lf pm pf nw th2 pg) H := hP
      have hD : va_D A (wMo r cI cJ cZ (sWd σ) (sPp σ) (sNb σ) (sLs σ) (sWs σ) (sM σ) (sCs σ) (sCt σ) rs kn be lm lf pm pf nw th2 pg) := hD
      have hS : va_S A s.heap H locs := hS
      show W p l e _ s m _ below meth c H locs _ _ _ (F0 m 59 ls [])
      obtain ⟨hk1, hk2⟩ := hi59
      refine lv_iload hx hb dX4_reaches_59 (lv_at hl 5 rfl) ?_
      refine j_bipush hx hb dX4_reaches_61 (by decide) ?_
      refine j_icmp_ge (tgt := 213) hx hb (by unfold i32; omega) dX4_reaches_63 (by decide) (fun c63 => ?_) (fun c63 => ?_)
      · skip
        have hk0 : k = 18 := by omega
        have hT : NWT σ L j th2 := by
          rcases hk2 with w | ⟨w, i, K, e1, e2, e0, V, hT, hF⟩
          · exact w.2
          · rw [e1]; exact FWD_end hS0 V (by rw [show (18 : Int) = k by omega]; exact hF)
        refine j_iconst hx hb dX4_reaches_213 ?_
        refine lv_istore (lv' := [(6, .int (jI 2)), (0, .ref (r 0)), (1, .int (jI i0)), (2, .int (jI j)), (3, .int (jI n)), (4, .long (jL ((1024 * (cst σ i0 j)) + 1)))]) hx hb dX4_reaches_214 hl (by decide) rfl (fun ls hl => ?_)
        refine j_loop (α := Int × Array Slot × Heap × List Loc) (h := fun z => match z with | (k, ls, H, locs) => H) (lc := fun z => match z with | (k, ls, H, locs) => locs) (f := fun z => match z with | (k, ls, H, locs) => F0 m 216 ls []) (P := fun nn z => match z with | (k, ls, H, locs) => ((2 ≤ k ∧ k ≤ 18) ∧ ∀ m, 2 ≤ m → m < k → ¬ (th2 m ≠ 4611686018427387904 ∧ m / 2 ≤ sPp σ ∧ rs (plc (j + 1) (m / 2) mo (m % 2 = 1)) ≠ 4611686018427387904 ∧ th2 m + rs (plc (j + 1) (m / 2) mo (m % 2 = 1)) = be)) ∧ (18 - k).toNat < nn ∧ lv_has ls 9 [(0, .ref (r 0)), (1, .int (jI i0)), (2, .int (jI j)), (3, .int (jI n)), (4, .long (jL ((1024 * (cst σ i0 j)) + 1))), (6, .int (jI k))] ∧ va_P D vwCl (wMo r cI cJ cZ (sWd σ) (sPp σ) (sNb σ) (sLs σ) (sWs σ) (sM σ) (sCs σ) (sCt σ) rs kn be lm lf pm pf nw th2 pg) H ∧ va_D A (wMo r cI cJ cZ (sWd σ) (sPp σ) (sNb σ) (sLs σ) (sWs σ) (sM σ) (sCs σ) (sCt σ) rs kn be lm lf pm pf nw th2 pg) ∧ va_S A s.heap H locs) (fun z hz => ?_) ?_ ((18 - 2 : Int).toNat + 1) (2, ls, H, locs) ⟨⟨by omega, fun m h1 h2 => by omega⟩, Nat.lt_succ_self _, lv_sub hl [1, 2, 3, 4, 5, 0] rfl, hP, hD, hS⟩
        · obtain ⟨k, ls, H, locs⟩ := z; exact absurd hz.2.1 (Nat.not_lt_zero _)
        intro n216 ih216 ⟨k, ls, H, locs⟩ ⟨hi216, hm216, hl, hP, hD, hS⟩
        have hl : lv_has ls 9 [(0, .ref (r 0)), (1, .int (jI i0)), (2, .int (jI j)), (3, .int (jI n)), (4, .long (jL ((1024 * (cst σ i0 j)) + 1))), (6, .int (jI k))] := hl
        have hP : va_P D vwCl (wMo r cI cJ cZ (sWd σ) (sPp σ) (sNb σ) (sLs σ) (sWs σ) (sM σ) (sCs σ) (sCt σ) rs kn be lm lf pm pf nw th2 pg) H := hP
        have hD : va_D A (wMo r cI cJ cZ (sWd σ) (sPp σ) (sNb σ) (sLs σ) (sWs σ) (sM σ) (sCs σ) (sCt σ) rs kn be lm lf pm pf nw th2 pg) := hD
        have hS : va_S A s.heap H locs := hS
        show W p l e _ s m _ below meth c H locs _ _ _ (F0 m 216 ls [])
        obtain ⟨hk3, hk4⟩ := hi216
        refine lv_iload hx hb dX4_reaches_216 (lv_at hl 5 rfl) ?_
        refine j_bipush hx hb dX4_reaches_218 (by decide) ?_
        refine j_icmp_ge (tgt := 333) hx hb (by unfold i32; omega) dX4_reaches_220 (by decide) (fun c220 => ?_) (fun c220 => ?_)
        · skip
          refine j_iconst hx hb dX4_reaches_333 ?_
          exact j_mretZ hx hb hr (by decide) hlocks hS dX4_reaches_334 th2 ⟨(jZ_f (fun w => by obtain ⟨m, w1, w2⟩ := RCH_hit hS0 (by omega) ⟨hmo2.1, hmo2.2, hmo3⟩ hT tb ge w; exact hk4 m w1.1 (by omega) w2)).symm, hT⟩ hP
        · skip
          have hMk := hT k (by omega) (by omega)
          have hMk0 := hMk.r0 (fun x w => (NWs_B hS0 (by omega) (by omega) w).2.1)
          refine lv_aload_n hx hb dX4_reaches_223 rfl (lv_at hl 0 rfl) ?_
          refine va_get (D := D) (ci := 4) (v := .ref (r 9)) (C := RX4) (T := TX4) (N := 18) hx hb hts hinX4 hown hK hP 0 rfl rfl 16 (by decide) (hts (.fieldLink RX4 36 "BreakLinesModel" "then" "[J") (by decide +kernel)) (fun _ h9 => h9) rfl dX4_reaches_224 ?_
          refine lv_iload hx hb dX4_reaches_227 (lv_at hl 5 rfl) ?_
          refine j_lald hx hb hK hP 9 1 rfl rfl (i := k) (by omega) (by decide) dX4_reaches_229 ?_
          refine lv_ldc2 (v := jL 4611686018427387904) hx hb hown (hts (.constantLong RX4 91 (4611686018427387904)) (by decide +kernel)) dX4_reaches_230 ?_
          refine j_join (α := Int) (P := fun rr => (rr = 4611686018427387904 ∧ (th2 k = 4611686018427387904 ∨ sPp σ < k / 2)) ∨ (th2 k ≠ 4611686018427387904 ∧ k / 2 ≤ sPp σ ∧ rr = rs (plc (j + 1) (k / 2) mo (k % 2 = 1)))) (f := fun rr => F0 m 296 ls [.long (jL rr)]) ?_ (fun jn233 => ?_)
          · intro rr hvrr
            have hrr0 : 0 ≤ rr ∧ rr ≤ 4611686018427387904 := by
              rcases hvrr with w | ⟨w1, w2, w3⟩
              · omega
              · rw [w3]; exact (tb (j + 1) (k / 2) mo (k % 2 = 1) (by omega) (by omega) (by omega) w2 (by omega) (by omega) hmo3).r0 (fun x w => (RS_B hS0 (by omega) (by omega) (by omega) w).1)
            refine lv_lstore (lv' := [(7, .long (jL rr)), (0, .ref (r 0)), (1, .int (jI i0)), (2, .int (jI j)), (3, .int (jI n)), (4, .long (jL ((1024 * (cst σ i0 j)) + 1))), (6, .int (jI k))]) hx hb dX4_reaches_296 hl (by decide) rfl (fun ls hl => ?_)
            refine lv_lload hx hb dX4_reaches_298 (lv_at hl 0 rfl) ?_
            refine lv_ldc2 (v := jL 4611686018427387904) hx hb hown (hts (.constantLong RX4 91 (4611686018427387904)) (by decide +kernel)) dX4_reaches_300 ?_
            refine j_lcmp_eq (tgt := 327) hx hb (by unfold i64; omega) dX4_reaches_303 dX4_reaches_304 (by decide) (fun c303 => ?_) (fun c303 => ?_)
            · skip
              refine lv_iinc (v := jI (k + 1)) (lv' := [(6, .int (jI (k + 1))), (7, .long (jL rr)), (0, .ref (r 0)), (1, .int (jI i0)), (2, .int (jI j)), (3, .int (jI n)), (4, .long (jL ((1024 * (cst σ i0 j)) + 1)))]) hx hb dX4_reaches_327 hl (k := 6) rfl (jI_add _ _) (by decide) rfl (fun ls hl => ?_)
              refine lv_goto (tgt := 216) hx hb dX4_reaches_330 (by decide) ?_
              exact ih216 (k + 1, ls, H, locs) ⟨⟨by omega, fun m h1 h2 => by
          by_cases w : m = k
          · rw [w]; intro z; first | (have z2 := z.2.2.1; rcases hvrr with ⟨q1, q2⟩ | ⟨q1, q2, q3⟩; omega; omega) | (rcases hvrr with ⟨q1, q2⟩ | ⟨q1, q2, q3⟩; exact c303 q1; exact c321 (by rw [q3]; exact z.2.2.2))
          · exact hk4 m h1 (by omega)⟩, by omega, lv_sub hl [2, 3, 4, 5, 6, 0] rfl, hP, hD, hS⟩
            · skip
              refine lv_aload_n hx hb dX4_reaches_307 rfl (lv_at hl 1 rfl) ?_
              refine va_get (D := D) (ci := 4) (v := .ref (r 9)) (C := RX4) (T := TX4) (N := 18) hx hb hts hinX4 hown hK hP 0 rfl rfl 16 (by decide) (hts (.fieldLink RX4 36 "BreakLinesModel" "then" "[J") (by decide +kernel)) (fun _ h9 => h9) rfl dX4_reaches_308 ?_
              refine lv_iload hx hb dX4_reaches_311 (lv_at hl 6 rfl) ?_
              refine j_lald hx hb hK hP 9 1 rfl rfl (i := k) (by omega) (by decide) dX4_reaches_313 ?_
              refine lv_lload hx hb dX4_reaches_314 (lv_at hl 0 rfl) ?_
              refine j_ladd hx hb dX4_reaches_316 ?_
              refine lv_aload_n hx hb dX4_reaches_317 rfl (lv_at hl 1 rfl) ?_
              refine va_get (D := D) (ci := 4) (v := .long (jL be)) (C := RX4) (T := TX4) (N := 18) hx hb hts hinX4 hown hK hP 0 rfl rfl 10 (by decide) (hts (.fieldLink RX4 116 "BreakLinesModel" "best" "J") (by decide +kernel)) (fun _ h9 => h9) rfl dX4_reaches_318 ?_
              refine j_lcmp_ne (tgt := 327) hx hb (by unfold i64; omega) dX4_reaches_321 dX4_reaches_322 (by decide) (fun c321 => ?_) (fun c321 => ?_)
              · skip
                refine lv_iinc (v := jI (k + 1)) (lv' := [(6, .int (jI (k + 1))), (7, .long (jL rr)), (0, .ref (r 0)), (1, .int (jI i0)), (2, .int (jI j)), (3, .int (jI n)), (4, .long (jL ((1024 * (cst σ i0 j)) + 1)))]) hx hb dX4_reaches_327 hl (k := 6) rfl (jI_add _ _) (by decide) rfl (fun ls hl => ?_)
                refine lv_goto (tgt := 216) hx hb dX4_reaches_330 (by decide) ?_
                exact ih216 (k + 1, ls, H, locs) ⟨⟨by omega, fun m h1 h2 => by
          by_cases w : m = k
          · rw [w]; intro z; first | (have z2 := z.2.2.1; rcases hvrr with ⟨q1, q2⟩ | ⟨q1, q2, q3⟩; omega; omega) | (rcases hvrr with ⟨q1, q2⟩ | ⟨q1, q2, q3⟩; exact c303 q1; exact c321 (by rw [q3]; exact z.2.2.2))
          · exact hk4 m h1 (by omega)⟩, by omega, lv_sub hl [2, 3, 4, 5, 6, 0] rfl, hP, hD, hS⟩
              · skip
                refine j_iconst hx hb dX4_reaches_325 ?_
                exact j_mretZ hx hb hr (by decide) hlocks hS dX4_reaches_326 th2 ⟨(jZ_t (RCH_of hT (by omega) tb (by omega) hmo2 hmo3 (hvrr.elim (fun w => absurd w.1 c303) (fun w => ⟨w.1, w.2.1, by rw [← w.2.2]; exact c303, by rw [← w.2.2]; exact c321⟩)))).symm, hT⟩ hP
          refine j_lcmp_eq (tgt := 248) hx hb (by unfold i64; omega) dX4_reaches_233 dX4_reaches_234 (by decide) (fun c233 => ?_) (fun c233 => ?_)
          · skip
            refine lv_ldc2 (v := jL 4611686018427387904) hx hb hown (hts (.constantLong RX4 91 (4611686018427387904)) (by decide +kernel)) dX4_reaches_248 ?_
            refine lv_goto (tgt := 296) hx hb dX4_reaches_251 (by decide) ?_
            exact jn233 4611686018427387904 (by omega)
          · skip
            refine lv_iload hx hb dX4_reaches_237 (lv_at hl 5 rfl) ?_
            refine j_iconst hx hb dX4_reaches_239 ?_
            refine j_idiv hx hb (by omega) dX4_reaches_240 ?_
            refine lv_aload_n hx hb dX4_reaches_241 rfl (lv_at hl 0 rfl) ?_
            refine va_get (D := D) (ci := 4) (v := .int (jI (sPp σ))) (C := RX4) (T := TX4) (N := 18) hx hb hts hinX4 hown hK hP 0 rfl rfl 1 (by decide) (hts (.fieldLink RX4 46 "BreakLinesModel" "perPage" "I") (by decide +kernel)) (fun _ h9 => h9) rfl dX4_reaches_242 ?_
            refine j_icmp_le (tgt := 254) hx hb (by unfold i32; omega) dX4_reaches_245 (by decide) (fun c245 => ?_) (fun c245 => ?_)
            · skip
              refine lv_aload_n hx hb dX4_reaches_254 rfl (lv_at hl 0 rfl) ?_
              refine va_get (D := D) (ci := 4) (v := .ref (r 5)) (C := RX4) (T := TX4) (N := 18) hx hb hts hinX4 hown hK hP 0 rfl rfl 8 (by decide) (hts (.fieldLink RX4 24 "BreakLinesModel" "rest" "[J") (by decide +kernel)) (fun _ h9 => h9) rfl dX4_reaches_255 ?_
              refine lv_iload_n hx hb dX4_reaches_258 rfl (lv_at hl 2 rfl) ?_
              refine j_iconst hx hb dX4_reaches_259 ?_
              refine j_iadd hx hb dX4_reaches_260 ?_
              refine lv_iload hx hb dX4_reaches_261 (lv_at hl 5 rfl) ?_
              refine j_iconst hx hb dX4_reaches_263 ?_
              refine j_idiv hx hb (by omega) dX4_reaches_264 ?_
              refine lv_aload_n hx hb dX4_reaches_265 rfl (lv_at hl 0 rfl) ?_
              refine va_get (D := D) (ci := 4) (v := .int (jI (sCt σ))) (C := RX4) (T := TX4) (N := 18) hx hb hts hinX4 hown hK hP 0 rfl rfl 7 (by decide) (hts (.fieldLink RX4 77 "BreakLinesModel" "due" "I") (by decide +kernel)) (fun _ h9 => h9) rfl dX4_reaches_266 ?_
              refine j_join (α := Int) (P := fun mq => mq = mo) (f := fun mq => F0 m 279 ls [.int (jI mq), .int (jI (k / 2)), .int (jI (j + 1)), .ref (r 5)]) ?_ (fun jn269 => ?_)
              · intro mq hvmq
                refine lv_iload hx hb dX4_reaches_279 (lv_at hl 5 rfl) ?_
                refine j_iconst hx hb dX4_reaches_281 ?_
                refine j_irem hx hb (by omega) dX4_reaches_282 ?_
                refine j_iconst hx hb dX4_reaches_283 ?_
                refine j_join (α := Prop) (P := fun fp => fp ↔ k % 2 = 1) (f := fun fp => F0 m 292 ls [.int (jZ fp), .int (jI mq), .int (jI (k / 2)), .int (jI (j + 1)), .ref (r 5)]) ?_ (fun jn284 => ?_)
                · intro fp hvfp
                  refine j_cSI (As := [.int (jI (j + 1)), .int (jI (k / 2)), .int (jI mq), .int (jZ fp)]) (rest := [.ref (r 5)]) ⟨hx, hb, hml, hown, hts⟩ (kX4_place l D cI cJ cZ (j + 1) (k / 2) mq fp) (va_cwS 4 hts gX4_reaches_X4_place rfl rfl rfl (by decide +kernel) ⟨Nat.le_of_ble_eq_true rfl, Nat.le_of_ble_eq_true rfl⟩) hK (hP.sub [] rfl) rfl hl.1 rfl (Nat.le_of_ble_eq_true rfl) ⟨Nat.zero_le _, Nat.zero_le _⟩ dX4_reaches_292 ?_
                  refine j_lald hx hb hK hP 5 1 rfl rfl (i := plc (j + 1) (k / 2) mq fp) (by have := plc_B (j + 1) (k / 2) mq fp; omega) (by decide) dX4_reaches_295 ?_
                  exact jn233 (rs (plc (j + 1) (k / 2) mq fp)) (Or.inr ⟨c233, c245, by rw [hvmq, propext hvfp]⟩)
                refine j_icmp_ne (tgt := 291) hx hb (by unfold i32; omega) dX4_reaches_284 (by decide) (fun c284 => ?_) (fun c284 => ?_)
                · skip
                  refine j_iconst hx hb dX4_reaches_291 ?_
                  refine j_topi (y := jZ False) ((jZ_f id).symm) ?_
                  exact jn284 False (by first | exact ⟨fun _ => c284, fun _ => trivial⟩ | exact ⟨fun z => z.elim, fun z => c284 z⟩)
                · skip
                  refine j_iconst hx hb dX4_reaches_287 ?_
                  refine lv_goto (tgt := 292) hx hb dX4_reaches_288 (by decide) ?_
                  refine j_topi (y := jZ True) ((jZ_t trivial).symm) ?_
                  exact jn284 True (by first | exact ⟨fun _ => c284, fun _ => trivial⟩ | exact ⟨fun z => z.elim, fun z => c284 z⟩)
              refine j_if_ne (tgt := 276) hx hb (by unfold i32; omega) dX4_reaches_269 (by decide) (fun c269 => ?_) (fun c269 => ?_)
              · skip
                refine lv_iload_n hx hb dX4_reaches_276 rfl (lv_at hl 3 rfl) ?_
                refine j_iconst hx hb dX4_reaches_277 ?_
                refine j_iadd hx hb dX4_reaches_278 ?_
                exact jn269 (n + 1) (by first | (rw [hmo, if_pos c269]; done) | (rw [hmo, if_neg c269]; done))
              · skip
                refine j_iconst hx hb dX4_reaches_272 ?_
                refine lv_goto (tgt := 279) hx hb dX4_reaches_273 (by decide) ?_
                exact jn269 0 (by first | (rw [hmo, if_pos c269]; done) | (rw [hmo, if_neg c269]; done))
            · skip
              refine lv_ldc2 (v := jL 4611686018427387904) hx hb hown (hts (.constantLong RX4 91 (4611686018427387904)) (by decide +kernel)) dX4_reaches_248 ?_
              refine lv_goto (tgt := 296) hx hb dX4_reaches_251 (by decide) ?_
              exact jn233 4611686018427387904 (by omega)
      · skip
        refine lv_iload_n hx hb dX4_reaches_66 rfl (lv_at hl 1 rfl) ?_
        refine j_if_le (tgt := 213) hx hb (by unfold i32; omega) dX4_reaches_67 (by decide) (fun c67 => ?_) (fun c67 => ?_)
        · skip
          have hT : NWT σ L j th2 := by
            rcases hk2 with w | ⟨w, i, K, e1, e2, e0, V, hT, hF⟩
            · exact w.2
            · rw [e1]; exact FWD_end hS0 V (by rw [show (18 : Int) = k by omega]; exact hF)
          refine j_iconst hx hb dX4_reaches_213 ?_
          refine lv_istore (lv' := [(6, .int (jI 2)), (0, .ref (r 0)), (1, .int (jI i0)), (2, .int (jI j)), (3, .int (jI n)), (4, .long (jL ((1024 * (cst σ i0 j)) + 1)))]) hx hb dX4_reaches_214 hl (by decide) rfl (fun ls hl => ?_)
          refine j_loop (α := Int × Array Slot × Heap × List Loc) (h := fun z => match z with | (k, ls, H, locs) => H) (lc := fun z => match z with | (k, ls, H, locs) => locs) (f := fun z => match z with | (k, ls, H, locs) => F0 m 216 ls []) (P := fun nn z => match z with | (k, ls, H, locs) => ((2 ≤ k ∧ k ≤ 18) ∧ ∀ m, 2 ≤ m → m < k → ¬ (th2 m ≠ 4611686018427387904 ∧ m / 2 ≤ sPp σ ∧ rs (plc (j + 1) (m / 2) mo (m % 2 = 1)) ≠ 4611686018427387904 ∧ th2 m + rs (plc (j + 1) (m / 2) mo (m % 2 = 1)) = be)) ∧ (18 - k).toNat < nn ∧ lv_has ls 9 [(0, .ref (r 0)), (1, .int (jI i0)), (2, .int (jI j)), (3, .int (jI n)), (4, .long (jL ((1024 * (cst σ i0 j)) + 1))), (6, .int (jI k))] ∧ va_P D vwCl (wMo r cI cJ cZ (sWd σ) (sPp σ) (sNb σ) (sLs σ) (sWs σ) (sM σ) (sCs σ) (sCt σ) rs kn be lm lf pm pf nw th2 pg) H ∧ va_D A (wMo r cI cJ cZ (sWd σ) (sPp σ) (sNb σ) (sLs σ) (sWs σ) (sM σ) (sCs σ) (sCt σ) rs kn be lm lf pm pf nw th2 pg) ∧ va_S A s.heap H locs) (fun z hz => ?_) ?_ ((18 - 2 : Int).toNat + 1) (2, ls, H, locs) ⟨⟨by omega, fun m h1 h2 => by omega⟩, Nat.lt_succ_self _, lv_sub hl [1, 2, 3, 4, 5, 0] rfl, hP, hD, hS⟩
          · obtain ⟨k, ls, H, locs⟩ := z; exact absurd hz.2.1 (Nat.not_lt_zero _)
          intro n216 ih216 ⟨k, ls, H, locs⟩ ⟨hi216, hm216, hl, hP, hD, hS⟩
          have hl : lv_has ls 9 [(0, .ref (r 0)), (1, .int (jI i0)), (2, .int (jI j)), (3, .int (jI n)), (4, .long (jL ((1024 * (cst σ i0 j)) + 1))), (6, .int (jI k))] := hl
          have hP : va_P D vwCl (wMo r cI cJ cZ (sWd σ) (sPp σ) (sNb σ) (sLs σ) (sWs σ) (sM σ) (sCs σ) (sCt σ) rs kn be lm lf pm pf nw th2 pg) H := hP
          have hD : va_D A (wMo r cI cJ cZ (sWd σ) (sPp σ) (sNb σ) (sLs σ) (sWs σ) (sM σ) (sCs σ) (sCt σ) rs kn be lm lf pm pf nw th2 pg) := hD
          have hS : va_S A s.heap H locs := hS
          show W p l e _ s m _ below meth c H locs _ _ _ (F0 m 216 ls [])
          obtain ⟨hk3, hk4⟩ := hi216
          refine lv_iload hx hb dX4_reaches_216 (lv_at hl 5 rfl) ?_
          refine j_bipush hx hb dX4_reaches_218 (by decide) ?_
          refine j_icmp_ge (tgt := 333) hx hb (by unfold i32; omega) dX4_reaches_220 (by decide) (fun c220 => ?_) (fun c220 => ?_)
          · skip
            refine j_iconst hx hb dX4_reaches_333 ?_
            exact j_mretZ hx hb hr (by decide) hlocks hS dX4_reaches_334 th2 ⟨(jZ_f (fun w => by obtain ⟨m, w1, w2⟩ := RCH_hit hS0 (by omega) ⟨hmo2.1, hmo2.2, hmo3⟩ hT tb ge w; exact hk4 m w1.1 (by omega) w2)).symm, hT⟩ hP
          · skip
            have hMk := hT k (by omega) (by omega)
            have hMk0 := hMk.r0 (fun x w => (NWs_B hS0 (by omega) (by omega) w).2.1)
            refine lv_aload_n hx hb dX4_reaches_223 rfl (lv_at hl 0 rfl) ?_
            refine va_get (D := D) (ci := 4) (v := .ref (r 9)) (C := RX4) (T := TX4) (N := 18) hx hb hts hinX4 hown hK hP 0 rfl rfl 16 (by decide) (hts (.fieldLink RX4 36 "BreakLinesModel" "then" "[J") (by decide +kernel)) (fun _ h9 => h9) rfl dX4_reaches_224 ?_
            refine lv_iload hx hb dX4_reaches_227 (lv_at hl 5 rfl) ?_
            refine j_lald hx hb hK hP 9 1 rfl rfl (i := k) (by omega) (by decide) dX4_reaches_229 ?_
            refine lv_ldc2 (v := jL 4611686018427387904) hx hb hown (hts (.constantLong RX4 91 (4611686018427387904)) (by decide +kernel)) dX4_reaches_230 ?_
            refine j_join (α := Int) (P := fun rr => (rr = 4611686018427387904 ∧ (th2 k = 4611686018427387904 ∨ sPp σ < k / 2)) ∨ (th2 k ≠ 4611686018427387904 ∧ k / 2 ≤ sPp σ ∧ rr = rs (plc (j + 1) (k / 2) mo (k % 2 = 1)))) (f := fun rr => F0 m 296 ls [.long (jL rr)]) ?_ (fun jn233 => ?_)
            · intro rr hvrr
              have hrr0 : 0 ≤ rr ∧ rr ≤ 4611686018427387904 := by
                rcases hvrr with w | ⟨w1, w2, w3⟩
                · omega
                · rw [w3]; exact (tb (j + 1) (k / 2) mo (k % 2 = 1) (by omega) (by omega) (by omega) w2 (by omega) (by omega) hmo3).r0 (fun x w => (RS_B hS0 (by omega) (by omega) (by omega) w).1)
              refine lv_lstore (lv' := [(7, .long (jL rr)), (0, .ref (r 0)), (1, .int (jI i0)), (2, .int (jI j)), (3, .int (jI n)), (4, .long (jL ((1024 * (cst σ i0 j)) + 1))), (6, .int (jI k))]) hx hb dX4_reaches_296 hl (by decide) rfl (fun ls hl => ?_)
              refine lv_lload hx hb dX4_reaches_298 (lv_at hl 0 rfl) ?_
              refine lv_ldc2 (v := jL 4611686018427387904) hx hb hown (hts (.constantLong RX4 91 (4611686018427387904)) (by decide +kernel)) dX4_reaches_300 ?_
              refine j_lcmp_eq (tgt := 327) hx hb (by unfold i64; omega) dX4_reaches_303 dX4_reaches_304 (by decide) (fun c303 => ?_) (fun c303 => ?_)
              · skip
                refine lv_iinc (v := jI (k + 1)) (lv' := [(6, .int (jI (k + 1))), (7, .long (jL rr)), (0, .ref (r 0)), (1, .int (jI i0)), (2, .int (jI j)), (3, .int (jI n)), (4, .long (jL ((1024 * (cst σ i0 j)) + 1)))]) hx hb dX4_reaches_327 hl (k := 6) rfl (jI_add _ _) (by decide) rfl (fun ls hl => ?_)
                refine lv_goto (tgt := 216) hx hb dX4_reaches_330 (by decide) ?_
                exact ih216 (k + 1, ls, H, locs) ⟨⟨by omega, fun m h1 h2 => by
          by_cases w : m = k
          · rw [w]; intro z; first | (have z2 := z.2.2.1; rcases hvrr with ⟨q1, q2⟩ | ⟨q1, q2, q3⟩; omega; omega) | (rcases hvrr with ⟨q1, q2⟩ | ⟨q1, q2, q3⟩; exact c303 q1; exact c321 (by rw [q3]; exact z.2.2.2))
          · exact hk4 m h1 (by omega)⟩, by omega, lv_sub hl [2, 3, 4, 5, 6, 0] rfl, hP, hD, hS⟩
              · skip
                refine lv_aload_n hx hb dX4_reaches_307 rfl (lv_at hl 1 rfl) ?_
                refine va_get (D := D) (ci := 4) (v := .ref (r 9)) (C := RX4) (T := TX4) (N := 18) hx hb hts hinX4 hown hK hP 0 rfl rfl 16 (by decide) (hts (.fieldLink RX4 36 "BreakLinesModel" "then" "[J") (by decide +kernel)) (fun _ h9 => h9) rfl dX4_reaches_308 ?_
                refine lv_iload hx hb dX4_reaches_311 (lv_at hl 6 rfl) ?_
                refine j_lald hx hb hK hP 9 1 rfl rfl (i := k) (by omega) (by decide) dX4_reaches_313 ?_
                refine lv_lload hx hb dX4_reaches_314 (lv_at hl 0 rfl) ?_
                refine j_ladd hx hb dX4_reaches_316 ?_
                refine lv_aload_n hx hb dX4_reaches_317 rfl (lv_at hl 1 rfl) ?_
                refine va_get (D := D) (ci := 4) (v := .long (jL be)) (C := RX4) (T := TX4) (N := 18) hx hb hts hinX4 hown hK hP 0 rfl rfl 10 (by decide) (hts (.fieldLink RX4 116 "BreakLinesModel" "best" "J") (by decide +kernel)) (fun _ h9 => h9) rfl dX4_reaches_318 ?_
                refine j_lcmp_ne (tgt := 327) hx hb (by unfold i64; omega) dX4_reaches_321 dX4_reaches_322 (by decide) (fun c321 => ?_) (fun c321 => ?_)
                · skip
                  refine lv_iinc (v := jI (k + 1)) (lv' := [(6, .int (jI (k + 1))), (7, .long (jL rr)), (0, .ref (r 0)), (1, .int (jI i0)), (2, .int (jI j)), (3, .int (jI n)), (4, .long (jL ((1024 * (cst σ i0 j)) + 1)))]) hx hb dX4_reaches_327 hl (k := 6) rfl (jI_add _ _) (by decide) rfl (fun ls hl => ?_)
                  refine lv_goto (tgt := 216) hx hb dX4_reaches_330 (by decide) ?_
                  exact ih216 (k + 1, ls, H, locs) ⟨⟨by omega, fun m h1 h2 => by
          by_cases w : m = k
          · rw [w]; intro z; first | (have z2 := z.2.2.1; rcases hvrr with ⟨q1, q2⟩ | ⟨q1, q2, q3⟩; omega; omega) | (rcases hvrr with ⟨q1, q2⟩ | ⟨q1, q2, q3⟩; exact c303 q1; exact c321 (by rw [q3]; exact z.2.2.2))
          · exact hk4 m h1 (by omega)⟩, by omega, lv_sub hl [2, 3, 4, 5, 6, 0] rfl, hP, hD, hS⟩
                · skip
                  refine j_iconst hx hb dX4_reaches_325 ?_
                  exact j_mretZ hx hb hr (by decide) hlocks hS dX4_reaches_326 th2 ⟨(jZ_t (RCH_of hT (by omega) tb (by omega) hmo2 hmo3 (hvrr.elim (fun w => absurd w.1 c303) (fun w => ⟨w.1, w.2.1, by rw [← w.2.2]; exact c303, by rw [← w.2.2]; exact c321⟩)))).symm, hT⟩ hP
            refine j_lcmp_eq (tgt := 248) hx hb (by unfold i64; omega) dX4_reaches_233 dX4_reaches_234 (by decide) (fun c233 => ?_) (fun c233 => ?_)
            · skip
              refine lv_ldc2 (v := jL 4611686018427387904) hx hb hown (hts (.constantLong RX4 91 (4611686018427387904)) (by decide +kernel)) dX4_reaches_248 ?_
              refine lv_goto (tgt := 296) hx hb dX4_reaches_251 (by decide) ?_
              exact jn233 4611686018427387904 (by omega)
            · skip
              refine lv_iload hx hb dX4_reaches_237 (lv_at hl 5 rfl) ?_
              refine j_iconst hx hb dX4_reaches_239 ?_
              refine j_idiv hx hb (by omega) dX4_reaches_240 ?_
              refine lv_aload_n hx hb dX4_reaches_241 rfl (lv_at hl 0 rfl) ?_
              refine va_get (D := D) (ci := 4) (v := .int (jI (sPp σ))) (C := RX4) (T := TX4) (N := 18) hx hb hts hinX4 hown hK hP 0 rfl rfl 1 (by decide) (hts (.fieldLink RX4 46 "BreakLinesModel" "perPage" "I") (by decide +kernel)) (fun _ h9 => h9) rfl dX4_reaches_242 ?_
              refine j_icmp_le (tgt := 254) hx hb (by unfold i32; omega) dX4_reaches_245 (by decide) (fun c245 => ?_) (fun c245 => ?_)
              · skip
                refine lv_aload_n hx hb dX4_reaches_254 rfl (lv_at hl 0 rfl) ?_
                refine va_get (D := D) (ci := 4) (v := .ref (r 5)) (C := RX4) (T := TX4) (N := 18) hx hb hts hinX4 hown hK hP 0 rfl rfl 8 (by decide) (hts (.fieldLink RX4 24 "BreakLinesModel" "rest" "[J") (by decide +kernel)) (fun _ h9 => h9) rfl dX4_reaches_255 ?_
                refine lv_iload_n hx hb dX4_reaches_258 rfl (lv_at hl 2 rfl) ?_
                refine j_iconst hx hb dX4_reaches_259 ?_
                refine j_iadd hx hb dX4_reaches_260 ?_
                refine lv_iload hx hb dX4_reaches_261 (lv_at hl 5 rfl) ?_
                refine j_iconst hx hb dX4_reaches_263 ?_
                refine j_idiv hx hb (by omega) dX4_reaches_264 ?_
                refine lv_aload_n hx hb dX4_reaches_265 rfl (lv_at hl 0 rfl) ?_
                refine va_get (D := D) (ci := 4) (v := .int (jI (sCt σ))) (C := RX4) (T := TX4) (N := 18) hx hb hts hinX4 hown hK hP 0 rfl rfl 7 (by decide) (hts (.fieldLink RX4 77 "BreakLinesModel" "due" "I") (by decide +kernel)) (fun _ h9 => h9) rfl dX4_reaches_266 ?_
                refine j_join (α := Int) (P := fun mq => mq = mo) (f := fun mq => F0 m 279 ls [.int (jI mq), .int (jI (k / 2)), .int (jI (j + 1)), .ref (r 5)]) ?_ (fun jn269 => ?_)
                · intro mq hvmq
                  refine lv_iload hx hb dX4_reaches_279 (lv_at hl 5 rfl) ?_
                  refine j_iconst hx hb dX4_reaches_281 ?_
                  refine j_irem hx hb (by omega) dX4_reaches_282 ?_
                  refine j_iconst hx hb dX4_reaches_283 ?_
                  refine j_join (α := Prop) (P := fun fp => fp ↔ k % 2 = 1) (f := fun fp => F0 m 292 ls [.int (jZ fp), .int (jI mq), .int (jI (k / 2)), .int (jI (j + 1)), .ref (r 5)]) ?_ (fun jn284 => ?_)
                  · intro fp hvfp
                    refine j_cSI (As := [.int (jI (j + 1)), .int (jI (k / 2)), .int (jI mq), .int (jZ fp)]) (rest := [.ref (r 5)]) ⟨hx, hb, hml, hown, hts⟩ (kX4_place l D cI cJ cZ (j + 1) (k / 2) mq fp) (va_cwS 4 hts gX4_reaches_X4_place rfl rfl rfl (by decide +kernel) ⟨Nat.le_of_ble_eq_true rfl, Nat.le_of_ble_eq_true rfl⟩) hK (hP.sub [] rfl) rfl hl.1 rfl (Nat.le_of_ble_eq_true rfl) ⟨Nat.zero_le _, Nat.zero_le _⟩ dX4_reaches_292 ?_
                    refine j_lald hx hb hK hP 5 1 rfl rfl (i := plc (j + 1) (k / 2) mq fp) (by have := plc_B (j + 1) (k / 2) mq fp; omega) (by decide) dX4_reaches_295 ?_
                    exact jn233 (rs (plc (j + 1) (k / 2) mq fp)) (Or.inr ⟨c233, c245, by rw [hvmq, propext hvfp]⟩)
                  refine j_icmp_ne (tgt := 291) hx hb (by unfold i32; omega) dX4_reaches_284 (by decide) (fun c284 => ?_) (fun c284 => ?_)
                  · skip
                    refine j_iconst hx hb dX4_reaches_291 ?_
                    refine j_topi (y := jZ False) ((jZ_f id).symm) ?_
                    exact jn284 False (by first | exact ⟨fun _ => c284, fun _ => trivial⟩ | exact ⟨fun z => z.elim, fun z => c284 z⟩)
                  · skip
                    refine j_iconst hx hb dX4_reaches_287 ?_
                    refine lv_goto (tgt := 292) hx hb dX4_reaches_288 (by decide) ?_
                    refine j_topi (y := jZ True) ((jZ_t trivial).symm) ?_
                    exact jn284 True (by first | exact ⟨fun _ => c284, fun _ => trivial⟩ | exact ⟨fun z => z.elim, fun z => c284 z⟩)
                refine j_if_ne (tgt := 276) hx hb (by unfold i32; omega) dX4_reaches_269 (by decide) (fun c269 => ?_) (fun c269 => ?_)
                · skip
                  refine lv_iload_n hx hb dX4_reaches_276 rfl (lv_at hl 3 rfl) ?_
                  refine j_iconst hx hb dX4_reaches_277 ?_
                  refine j_iadd hx hb dX4_reaches_278 ?_
                  exact jn269 (n + 1) (by first | (rw [hmo, if_pos c269]; done) | (rw [hmo, if_neg c269]; done))
                · skip
                  refine j_iconst hx hb dX4_reaches_272 ?_
                  refine lv_goto (tgt := 279) hx hb dX4_reaches_273 (by decide) ?_
                  exact jn269 0 (by first | (rw [hmo, if_pos c269]; done) | (rw [hmo, if_neg c269]; done))
              · skip
                refine lv_ldc2 (v := jL 4611686018427387904) hx hb hown (hts (.constantLong RX4 91 (4611686018427387904)) (by decide +kernel)) dX4_reaches_248 ?_
                refine lv_goto (tgt := 296) hx hb dX4_reaches_251 (by decide) ?_
                exact jn233 4611686018427387904 (by omega)
        · skip
          obtain ⟨i, K, e1, e2, e0, V, hT, hF⟩ := (hk2.resolve_left (fun w => by omega)).2
          have hnw := (hT k (by omega) (by omega)).r0 (fun x w => (NWs_B hS0 V.1 V.2.1 w).2.1)
          have htr := trnB hS0 i
          have hcs1 : cst σ i0 j = cst σ (i + 1) j := by rw [e2]
          have htb : ∀ m, 2 ≤ m → m < 18 → 0 ≤ th2 m ∧ th2 m ≤ 4611686018427387904 := FWD_r0 hS0 e0 V (by omega) (by omega) hF
          clear hN hk2
          refine lv_aload_n hx hb dX4_reaches_70 rfl (lv_at hl 0 rfl) ?_
          refine va_get (D := D) (ci := 4) (v := .ref (r 8)) (C := RX4) (T := TX4) (N := 18) hx hb hts hinX4 hown hK hP 0 rfl rfl 15 (by decide) (hts (.fieldLink RX4 33 "BreakLinesModel" "now" "[J") (by decide +kernel)) (fun _ h9 => h9) rfl dX4_reaches_71 ?_
          refine lv_iload hx hb dX4_reaches_74 (lv_at hl 5 rfl) ?_
          refine j_lald hx hb hK hP 8 1 rfl rfl (i := k) (by omega) (by decide) dX4_reaches_76 ?_
          refine lv_ldc2 (v := jL 4611686018427387904) hx hb hown (hts (.constantLong RX4 91 (4611686018427387904)) (by decide +kernel)) dX4_reaches_77 ?_
          refine j_lcmp_ne (tgt := 87) hx hb (by unfold i64; omega) dX4_reaches_80 dX4_reaches_81 (by decide) (fun c80 => ?_) (fun c80 => ?_)
          · skip
            refine lv_iload hx hb dX4_reaches_87 (lv_at hl 5 rfl) ?_
            refine j_iconst hx hb dX4_reaches_89 ?_
            refine j_idiv hx hb (by omega) dX4_reaches_90 ?_
            refine lv_aload_n hx hb dX4_reaches_91 rfl (lv_at hl 0 rfl) ?_
            refine va_get (D := D) (ci := 4) (v := .int (jI (sPp σ))) (C := RX4) (T := TX4) (N := 18) hx hb hts hinX4 hown hK hP 0 rfl rfl 1 (by decide) (hts (.fieldLink RX4 46 "BreakLinesModel" "perPage" "I") (by decide +kernel)) (fun _ h9 => h9) rfl dX4_reaches_92 ?_
            refine j_joinM (α := (Int → Int) × Array Slot × Heap × List Loc) (h := (fun z => match z with | (th4, ls, H, locs) => H)) (lc := (fun z => match z with | (th4, ls, H, locs) => locs)) (f := (fun z => match z with | (th4, ls, H, locs) => F0 m 152 ls [])) (P := (fun z => match z with | (th4, ls, H, locs) => ((k / 2 < sPp σ ∧ ∃ v, ((nw k + (1024 * cst σ (i + 1) j + 1) < th2 (k + 2) ∧ v = nw k + (1024 * cst σ (i + 1) j + 1)) ∨ (th2 (k + 2) ≤ nw k + (1024 * cst σ (i + 1) j + 1) ∧ v = th2 (k + 2))) ∧ th4 = updI th2 (k + 2) v) ∨ (sPp σ ≤ k / 2 ∧ th4 = th2)) ∧ lv_has ls 9 [(0, .ref (r 0)), (1, .int (jI i0)), (2, .int (jI j)), (3, .int (jI n)), (4, .long (jL ((1024 * (cst σ i0 j)) + 1))), (6, .int (jI k))] ∧ va_P D vwCl (wMo r cI cJ cZ (sWd σ) (sPp σ) (sNb σ) (sLs σ) (sWs σ) (sM σ) (sCs σ) (sCt σ) rs kn be lm lf pm pf nw th4 pg) H ∧ va_D A (wMo r cI cJ cZ (sWd σ) (sPp σ) (sNb σ) (sLs σ) (sWs σ) (sM σ) (sCs σ) (sCt σ) rs kn be lm lf pm pf nw th4 pg) ∧ va_S A s.heap H locs)) ?_ (fun jn95 => ?_)
            · intro ⟨th4, ls, H, locs⟩ ⟨hj95, hl, hP, hD, hS⟩
              have hl : lv_has ls 9 [(0, .ref (r 0)), (1, .int (jI i0)), (2, .int (jI j)), (3, .int (jI n)), (4, .long (jL ((1024 * (cst σ i0 j)) + 1))), (6, .int (jI k))] := hl
              have hP : va_P D vwCl (wMo r cI cJ cZ (sWd σ) (sPp σ) (sNb σ) (sLs σ) (sWs σ) (sM σ) (sCs σ) (sCt σ) rs kn be lm lf pm pf nw th4 pg) H := hP
              have hD : va_D A (wMo r cI cJ cZ (sWd σ) (sPp σ) (sNb σ) (sLs σ) (sWs σ) (sM σ) (sCs σ) (sCt σ) rs kn be lm lf pm pf nw th4 pg) := hD
              have hS : va_S A s.heap H locs := hS
              show W p l e _ s m _ below meth c H locs _ _ _ (F0 m 152 ls [])
              have ht42 : th4 2 = th2 2 := by rcases hj95 with ⟨-, v, -, w⟩ | ⟨-, w⟩; (rw [w, updI_n (by omega)]); rw [w]
              have htb2 := htb 2 (by omega) (by omega)
              refine lv_aload_n hx hb dX4_reaches_152 rfl (lv_at hl 0 rfl) ?_
              refine va_get (D := D) (ci := 4) (v := .ref (r 8)) (C := RX4) (T := TX4) (N := 18) hx hb hts hinX4 hown hK hP 0 rfl rfl 15 (by decide) (hts (.fieldLink RX4 33 "BreakLinesModel" "now" "[J") (by decide +kernel)) (fun _ h9 => h9) rfl dX4_reaches_153 ?_
              refine lv_iload hx hb dX4_reaches_156 (lv_at hl 5 rfl) ?_
              refine j_lald hx hb hK hP 8 1 rfl rfl (i := k) (by omega) (by decide) dX4_reaches_158 ?_
              refine lv_lload hx hb dX4_reaches_159 (lv_at hl 4 rfl) ?_
              refine j_ladd hx hb dX4_reaches_161 ?_
              refine lv_ldc2 (v := jL 1024) hx hb hown (hts (.constantLong RX4 93 (1024)) (by decide +kernel)) dX4_reaches_162 ?_
              refine lv_aload_n hx hb dX4_reaches_165 rfl (lv_at hl 0 rfl) ?_
              refine lv_iload_n hx hb dX4_reaches_166 rfl (lv_at hl 1 rfl) ?_
              refine j_cVL (As := [.int (jI i0)]) (rest := [.long (jL 1024), .long (jL ((nw k) + ((1024 * (cst σ i0 j)) + 1)))]) ⟨hx, hb, hml, hown, hts⟩ (kX4_turnAt l D cI cJ cZ r σ hS0 rs kn be lm lf pm pf nw th4 pg i0 (by omega)) (cwV 1 hts gX4_reaches_X4_turnAt rfl rfl rfl (by decide +kernel) ⟨Nat.le_of_ble_eq_true rfl, Nat.le_of_ble_eq_true rfl⟩) hK hP (va_recv hK hP (ci := 4) (q0 := 0) rfl rfl) rfl hl.1 rfl (Nat.le_of_ble_eq_true rfl) ⟨Nat.zero_le _, Nat.zero_le _⟩ dX4_reaches_167 ?_
              refine j_lmul hx hb dX4_reaches_170 ?_
              refine j_ladd hx hb dX4_reaches_171 ?_
              refine lv_ldc2 (v := jL 32) hx hb hown (hts (.constantLong RX4 110 (32)) (by decide +kernel)) dX4_reaches_172 ?_
              refine j_ladd hx hb dX4_reaches_175 ?_
              refine lv_lstore (lv' := [(7, .long (jL ((((nw k) + ((1024 * (cst σ i0 j)) + 1)) + (1024 * (trn σ (i0 - 1)))) + 32))), (0, .ref (r 0)), (1, .int (jI i0)), (2, .int (jI j)), (3, .int (jI n)), (4, .long (jL ((1024 * (cst σ i0 j)) + 1))), (6, .int (jI k))]) hx hb dX4_reaches_176 hl (by decide) rfl (fun ls hl => ?_)
              refine lv_aload_n hx hb dX4_reaches_178 rfl (lv_at hl 1 rfl) ?_
              refine va_get (D := D) (ci := 4) (v := .ref (r 9)) (C := RX4) (T := TX4) (N := 18) hx hb hts hinX4 hown hK hP 0 rfl rfl 16 (by decide) (hts (.fieldLink RX4 36 "BreakLinesModel" "then" "[J") (by decide +kernel)) (fun _ h9 => h9) rfl dX4_reaches_179 ?_
              refine j_iconst hx hb dX4_reaches_182 ?_
              refine lv_lload hx hb dX4_reaches_183 (lv_at hl 0 rfl) ?_
              refine lv_aload_n hx hb dX4_reaches_185 rfl (lv_at hl 1 rfl) ?_
              refine va_get (D := D) (ci := 4) (v := .ref (r 9)) (C := RX4) (T := TX4) (N := 18) hx hb hts hinX4 hown hK hP 0 rfl rfl 16 (by decide) (hts (.fieldLink RX4 36 "BreakLinesModel" "then" "[J") (by decide +kernel)) (fun _ h9 => h9) rfl dX4_reaches_186 ?_
              refine j_iconst hx hb dX4_reaches_189 ?_
              refine j_lald hx hb hK hP 9 1 rfl rfl (i := 2) (by omega) (by decide) dX4_reaches_190 ?_
              refine j_join (α := Int) (P := fun v2 => (nw k + (1024 * cst σ (i + 1) j + 1) + 1024 * trn σ (i0 - 1) + 32 < th4 2 ∧ v2 = nw k + (1024 * cst σ (i + 1) j + 1) + 1024 * trn σ (i0 - 1) + 32) ∨ (th4 2 ≤ nw k + (1024 * cst σ (i + 1) j + 1) + 1024 * trn σ (i0 - 1) + 32 ∧ v2 = th4 2)) (f := fun v2 => F0 m 206 ls [.long (jL v2), .int (jI 2), .ref (r 9)]) ?_ (fun jn191 => ?_)
              · intro v2 hvv2
                refine j_last hx hb hK hP hD hS 9 1 rfl rfl (i := 2) (by omega) (by decide) dX4_reaches_206 (fun H locs hP hD hS => ?_)
                have hP : va_P D vwCl (wMo r cI cJ cZ (sWd σ) (sPp σ) (sNb σ) (sLs σ) (sWs σ) (sM σ) (sCs σ) (sCt σ) rs kn be lm lf pm pf nw (updI th4 2 v2) pg) H := hP
                have hD : va_D A (wMo r cI cJ cZ (sWd σ) (sPp σ) (sNb σ) (sLs σ) (sWs σ) (sM σ) (sCs σ) (sCt σ) rs kn be lm lf pm pf nw (updI th4 2 v2) pg) := hD
                refine lv_iinc (v := jI (k + 1)) (lv' := [(6, .int (jI (k + 1))), (7, .long (jL ((((nw k) + ((1024 * (cst σ i0 j)) + 1)) + (1024 * (trn σ (i0 - 1)))) + 32))), (0, .ref (r 0)), (1, .int (jI i0)), (2, .int (jI j)), (3, .int (jI n)), (4, .long (jL ((1024 * (cst σ i0 j)) + 1)))]) hx hb dX4_reaches_207 hl (k := 6) rfl (jI_add _ _) (by decide) rfl (fun ls hl => ?_)
                refine lv_goto (tgt := 59) hx hb dX4_reaches_210 (by decide) ?_
                exact ih59 (k + 1, updI th4 2 v2, ls, H, locs) ⟨⟨by clear hj95; omega, Or.inr ⟨c67, i, K, e1, e2, e0, V, hT, FWD_step hS0 (by clear hj95; omega) (by clear hj95; omega) hT c80 hF hj95 (by rw [show i0 - 1 = i by clear hj95; omega] at hvv2; exact hvv2)⟩⟩, by first | (clear hj95; omega) | omega, lv_sub hl [2, 3, 4, 5, 6, 0] rfl, hP, hD, hS⟩
              refine j_lcmp_ge (tgt := 200) hx hb (by have htr2 := trnB hS0 (i0 - 1); unfold i64; omega) dX4_reaches_191 dX4_reaches_192 (by decide) (fun c191 => ?_) (fun c191 => ?_)
              · skip
                refine lv_aload_n hx hb dX4_reaches_200 rfl (lv_at hl 1 rfl) ?_
                refine va_get (D := D) (ci := 4) (v := .ref (r 9)) (C := RX4) (T := TX4) (N := 18) hx hb hts hinX4 hown hK hP 0 rfl rfl 16 (by decide) (hts (.fieldLink RX4 36 "BreakLinesModel" "then" "[J") (by decide +kernel)) (fun _ h9 => h9) rfl dX4_reaches_201 ?_
                refine j_iconst hx hb dX4_reaches_204 ?_
                refine j_lald hx hb hK hP 9 1 rfl rfl (i := 2) (by omega) (by decide) dX4_reaches_205 ?_
                exact jn191 (th4 2) (by omega)
              · skip
                refine lv_lload hx hb dX4_reaches_195 (lv_at hl 0 rfl) ?_
                refine lv_goto (tgt := 206) hx hb dX4_reaches_197 (by decide) ?_
                exact jn191 ((((nw k) + ((1024 * (cst σ i0 j)) + 1)) + (1024 * (trn σ (i0 - 1)))) + 32) (by omega)
            refine j_icmp_ge (tgt := 152) hx hb (by unfold i32; omega) dX4_reaches_95 (by decide) (fun c95 => ?_) (fun c95 => ?_)
            · skip
              exact jn95 (th2, ls, H, locs) ⟨Or.inr ⟨by omega, rfl⟩, lv_sub hl [0, 1, 2, 3, 4, 5] rfl, hP, hD, hS⟩
            · skip
              refine lv_aload_n hx hb dX4_reaches_98 rfl (lv_at hl 0 rfl) ?_
              refine va_get (D := D) (ci := 4) (v := .ref (r 9)) (C := RX4) (T := TX4) (N := 18) hx hb hts hinX4 hown hK hP 0 rfl rfl 16 (by decide) (hts (.fieldLink RX4 36 "BreakLinesModel" "then" "[J") (by decide +kernel)) (fun _ h9 => h9) rfl dX4_reaches_99 ?_
              refine lv_iload hx hb dX4_reaches_102 (lv_at hl 5 rfl) ?_
              refine j_iconst hx hb dX4_reaches_104 ?_
              refine j_iadd hx hb dX4_reaches_105 ?_
              refine lv_aload_n hx hb dX4_reaches_106 rfl (lv_at hl 0 rfl) ?_
              refine va_get (D := D) (ci := 4) (v := .ref (r 8)) (C := RX4) (T := TX4) (N := 18) hx hb hts hinX4 hown hK hP 0 rfl rfl 15 (by decide) (hts (.fieldLink RX4 33 "BreakLinesModel" "now" "[J") (by decide +kernel)) (fun _ h9 => h9) rfl dX4_reaches_107 ?_
              refine lv_iload hx hb dX4_reaches_110 (lv_at hl 5 rfl) ?_
              refine j_lald hx hb hK hP 8 1 rfl rfl (i := k) (by omega) (by decide) dX4_reaches_112 ?_
              refine lv_lload hx hb dX4_reaches_113 (lv_at hl 4 rfl) ?_
              refine j_ladd hx hb dX4_reaches_115 ?_
              refine lv_aload_n hx hb dX4_reaches_116 rfl (lv_at hl 0 rfl) ?_
              refine va_get (D := D) (ci := 4) (v := .ref (r 9)) (C := RX4) (T := TX4) (N := 18) hx hb hts hinX4 hown hK hP 0 rfl rfl 16 (by decide) (hts (.fieldLink RX4 36 "BreakLinesModel" "then" "[J") (by decide +kernel)) (fun _ h9 => h9) rfl dX4_reaches_117 ?_
              refine lv_iload hx hb dX4_reaches_120 (lv_at hl 5 rfl) ?_
              refine j_iconst hx hb dX4_reaches_122 ?_
              refine j_iadd hx hb dX4_reaches_123 ?_
              refine j_lald hx hb hK hP 9 1 rfl rfl (i := k + 2) (by omega) (by decide) dX4_reaches_124 ?_
              refine j_join (α := Int) (P := fun v1 => (nw k + (1024 * cst σ i0 j + 1) < th2 (k + 2) ∧ v1 = nw k + (1024 * cst σ i0 j + 1)) ∨ (th2 (k + 2) ≤ nw k + (1024 * cst σ i0 j + 1) ∧ v1 = th2 (k + 2))) (f := fun v1 => F0 m 151 ls [.long (jL v1), .int (jI (k + 2)), .ref (r 9)]) ?_ (fun jn125 => ?_)
              · intro v1 hvv1
                refine j_last hx hb hK hP hD hS 9 1 rfl rfl (i := k + 2) (by omega) (by decide) dX4_reaches_151 (fun H locs hP hD hS => ?_)
                have hP : va_P D vwCl (wMo r cI cJ cZ (sWd σ) (sPp σ) (sNb σ) (sLs σ) (sWs σ) (sM σ) (sCs σ) (sCt σ) rs kn be lm lf pm pf nw (updI th2 (k + 2) v1) pg) H := hP
                have hD : va_D A (wMo r cI cJ cZ (sWd σ) (sPp σ) (sNb σ) (sLs σ) (sWs σ) (sM σ) (sCs σ) (sCt σ) rs kn be lm lf pm pf nw (updI th2 (k + 2) v1) pg) := hD
                exact jn95 (updI th2 (k + 2) v1, ls, H, locs) ⟨Or.inl ⟨by omega, v1, by rw [← hcs1]; exact hvv1, rfl⟩, lv_sub hl [0, 1, 2, 3, 4, 5] rfl, hP, hD, hS⟩
              refine j_lcmp_ge (tgt := 142) hx hb (by have := htb (k + 2) (by omega) (by omega); unfold i64; omega) dX4_reaches_125 dX4_reaches_126 (by decide) (fun c125 => ?_) (fun c125 => ?_)
              · skip
                refine lv_aload_n hx hb dX4_reaches_142 rfl (lv_at hl 0 rfl) ?_
                refine va_get (D := D) (ci := 4) (v := .ref (r 9)) (C := RX4) (T := TX4) (N := 18) hx hb hts hinX4 hown hK hP 0 rfl rfl 16 (by decide) (hts (.fieldLink RX4 36 "BreakLinesModel" "then" "[J") (by decide +kernel)) (fun _ h9 => h9) rfl dX4_reaches_143 ?_
                refine lv_iload hx hb dX4_reaches_146 (lv_at hl 5 rfl) ?_
                refine j_iconst hx hb dX4_reaches_148 ?_
                refine j_iadd hx hb dX4_reaches_149 ?_
                refine j_lald hx hb hK hP 9 1 rfl rfl (i := k + 2) (by omega) (by decide) dX4_reaches_150 ?_
                exact jn125 (th2 (k + 2)) (by omega)
              · skip
                refine lv_aload_n hx hb dX4_reaches_129 rfl (lv_at hl 0 rfl) ?_
                refine va_get (D := D) (ci := 4) (v := .ref (r 8)) (C := RX4) (T := TX4) (N := 18) hx hb hts hinX4 hown hK hP 0 rfl rfl 15 (by decide) (hts (.fieldLink RX4 33 "BreakLinesModel" "now" "[J") (by decide +kernel)) (fun _ h9 => h9) rfl dX4_reaches_130 ?_
                refine lv_iload hx hb dX4_reaches_133 (lv_at hl 5 rfl) ?_
                refine j_lald hx hb hK hP 8 1 rfl rfl (i := k) (by omega) (by decide) dX4_reaches_135 ?_
                refine lv_lload hx hb dX4_reaches_136 (lv_at hl 4 rfl) ?_
                refine j_ladd hx hb dX4_reaches_138 ?_
                refine lv_goto (tgt := 151) hx hb dX4_reaches_139 (by decide) ?_
                exact jn125 ((nw k) + ((1024 * (cst σ i0 j)) + 1)) (by omega)
          · skip
            refine lv_goto (tgt := 207) hx hb dX4_reaches_84 (by decide) ?_
            refine lv_iinc (v := jI (k + 1)) (lv' := [(6, .int (jI (k + 1))), (0, .ref (r 0)), (1, .int (jI i0)), (2, .int (jI j)), (3, .int (jI n)), (4, .long (jL ((1024 * (cst σ i0 j)) + 1)))]) hx hb dX4_reaches_207 hl (k := 5) rfl (jI_add _ _) (by decide) rfl (fun ls hl => ?_)
            refine lv_goto (tgt := 59) hx hb dX4_reaches_210 (by decide) ?_
            exact ih59 (k + 1, th2, ls, H, locs) ⟨⟨by omega, Or.inr ⟨c67, i, K, e1, e2, e0, V, hT, FWD_skip (by omega) hT c80 hF⟩⟩, by first | (clear hj95; omega) | omega, lv_sub hl [1, 2, 3, 4, 5, 0] rfl, hP, hD, hS⟩
    refine j_if_ne (tgt := 56) hx hb (by unfold i32; omega) dX4_reaches_41 (by decide) (fun c41 => ?_) (fun c41 => ?_)
    · skip
      exact jn41 (th1, ls, H, locs) ⟨Or.inr ⟨by omega, by rcases hN with ⟨w1, w2⟩ | ⟨i, K, w1, w2, w3, w4, w5⟩; omega; exact ⟨i, K, w1, w2, w3, w4, w5, FWD_0 (fun m h1 h2 => hk2 m h1 (by omega))⟩⟩, lv_sub hl [0, 1, 2, 3, 4] rfl, hP, hD, hS⟩
    · skip
      refine lv_aload_n hx hb dX4_reaches_44 rfl (lv_at hl 0 rfl) ?_
      refine va_get (D := D) (ci := 4) (v := .ref (r 9)) (C := RX4) (T := TX4) (N := 18) hx hb hts hinX4 hown hK hP 0 rfl rfl 16 (by decide) (hts (.fieldLink RX4 36 "BreakLinesModel" "then" "[J") (by decide +kernel)) (fun _ h9 => h9) rfl dX4_reaches_45 ?_
      refine j_iconst hx hb dX4_reaches_48 ?_
      refine lv_lload hx hb dX4_reaches_49 (lv_at hl 4 rfl) ?_
      refine lv_ldc2 (v := jL 32) hx hb hown (hts (.constantLong RX4 110 (32)) (by decide +kernel)) dX4_reaches_51 ?_
      refine j_ladd hx hb dX4_reaches_54 ?_
      refine j_last hx hb hK hP hD hS 9 1 rfl rfl (i := 3) (by omega) (by decide) dX4_reaches_55 (fun H locs hP hD hS => ?_)
      have hP : va_P D vwCl (wMo r cI cJ cZ (sWd σ) (sPp σ) (sNb σ) (sLs σ) (sWs σ) (sM σ) (sCs σ) (sCt σ) rs kn be lm lf pm pf nw (updI th1 3 (((1024 * (cst σ i0 j)) + 1) + 32)) pg) H := hP
      have hD : va_D A (wMo r cI cJ cZ (sWd σ) (sPp σ) (sNb σ) (sLs σ) (sWs σ) (sM σ) (sCs σ) (sCt σ) rs kn be lm lf pm pf nw (updI th1 3 (((1024 * (cst σ i0 j)) + 1) + 32)) pg) := hD
      exact jn41 (updI th1 3 (((1024 * (cst σ i0 j)) + 1) + 32), ls, H, locs) ⟨Or.inl ⟨c41, by rcases hN with ⟨w1, w2⟩ | ⟨i, K, w1, w2, w3, w4, w5⟩; (rw [w1, c41]; exact NWT_nil hS0 (by omega) (fun m h1 h2 => hk2 m h1 (by omega))); omega⟩, lv_sub hl [0, 1, 2, 3, 4] rfl, hP, hD, hS⟩
  · skip
    refine lv_aload_n hx hb dX4_reaches_24 rfl (lv_at hl 0 rfl) ?_
    refine va_get (D := D) (ci := 4) (v := .ref (r 9)) (C := RX4) (T := TX4) (N := 18) hx hb hts hinX4 hown hK hP 0 rfl rfl 16 (by decide) (hts (.fieldLink RX4 36 "BreakLinesModel" "then" "[J") (by decide +kernel)) (fun _ h9 => h9) rfl dX4_reaches_25 ?_
    refine lv_iload hx hb dX4_reaches_28 (lv_at hl 5 rfl) ?_
    refine lv_ldc2 (v := jL 4611686018427387904) hx hb hown (hts (.constantLong RX4 91 (4611686018427387904)) (by decide +kernel)) dX4_reaches_30 ?_
    refine j_last hx hb hK hP hD hS 9 1 rfl rfl (i := k) (by omega) (by decide) dX4_reaches_33 (fun H locs hP hD hS => ?_)
    have hP : va_P D vwCl (wMo r cI cJ cZ (sWd σ) (sPp σ) (sNb σ) (sLs σ) (sWs σ) (sM σ) (sCs σ) (sCt σ) rs kn be lm lf pm pf nw (updI th1 k 4611686018427387904) pg) H := hP
    have hD : va_D A (wMo r cI cJ cZ (sWd σ) (sPp σ) (sNb σ) (sLs σ) (sWs σ) (sM σ) (sCs σ) (sCt σ) rs kn be lm lf pm pf nw (updI th1 k 4611686018427387904) pg) := hD
    refine lv_iinc (v := jI (k + 1)) (lv' := [(6, .int (jI (k + 1))), (0, .ref (r 0)), (1, .int (jI i0)), (2, .int (jI j)), (3, .int (jI n)), (4, .long (jL ((1024 * (cst σ i0 j)) + 1)))]) hx hb dX4_reaches_34 hl (k := 5) rfl (jI_add _ _) (by decide) rfl (fun ls hl => ?_)
    refine lv_goto (tgt := 17) hx hb dX4_reaches_37 (by decide) ?_
    exact ih17 (k + 1, updI th1 k 4611686018427387904, ls, H, locs) ⟨⟨by omega, fun m h1 h2 => by
          by_cases w : m = k
          · rw [w, updI_s]
          · rw [updI_n w]; exact hk2 m h1 (by omega)⟩, by omega, lv_sub hl [1, 2, 3, 4, 5, 0] rfl, hP, hD, hS⟩
end
