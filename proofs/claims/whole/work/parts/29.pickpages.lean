/-! the contracts of pageCost and pickPages -/
noncomputable section
set_option maxHeartbeats 4000000 in
set_option maxRecDepth 100000 in
theorem kX4_pageCost (l : Launch) (D : va_G) (cI cJ cZ : ClassId) (r : Nat → Nat) (σ : Sg) (hS0 : okS σ) (rs : Int → Int) (kn : Prop) (be lm : Int) (lf : Int → Int) (pm : Int) (pf nw th pg : Int → Int) (a e0 : Int) (h : (0 ≤ a ∧ a < e0 ∧ e0 ≤ lm ∧ lm ≤ 24) ∧ (e0 ≠ lm → 1 ≤ lf e0 ∧ lf e0 ≤ sNb σ)) : RoL l yX4_pageCost wsX4_pageCost 1 21 D (tyc cI cJ cZ) (wMo r cI cJ cZ (sWd σ) (sPp σ) (sNb σ) (sLs σ) (sWs σ) (sM σ) (sCs σ) (sCt σ) rs kn be lm lf pm pf nw th pg) [.ref (r 0), .int (jI a), .int (jI e0)] (jL (pcM σ lf lm a e0)) := by
  refine j_start RX4 rfl (by decide) rfl (Nat.le_of_ble_eq_true rfl) ?_
  intro p e s m below meth c ls hx hb hr hlocks hml hown hts hnm hl ⟨hP, hK⟩
  have hP : va_P D vwCl (wMo r cI cJ cZ (sWd σ) (sPp σ) (sNb σ) (sLs σ) (sWs σ) (sM σ) (sCs σ) (sCt σ) rs kn be lm lf pm pf nw th pg) s.heap := hP
  have hl : lv_has ls 3 [(0, .ref (r 0)), (1, .int (jI a)), (2, .int (jI e0))] := hl
  have hinX4 : ∀ w ∈ u_ws RX4 TX4 18, w ∈ wsX4_pageCost := by decide +kernel
  have hnb := hS0.1
  have hwd := hS0.2.1
  have hpp := hS0.2.2.1
  have hct := hS0.2.2.2.1
  refine lv_iload_n hx hb dX4_pageCost_0 rfl (lv_at hl 2 rfl) ?_
  refine lv_aload_n hx hb dX4_pageCost_1 rfl (lv_at hl 0 rfl) ?_
  refine va_get (D := D) (ci := 4) (v := .int (jI lm)) (C := RX4) (T := TX4) (N := 18) hx hb hts hinX4 hown hK hP 0 rfl rfl 11 (by decide) (hts (.fieldLink RX4 122 "BreakLinesModel" "lineMany" "I") (by decide +kernel)) (fun _ h9 => h9) rfl dX4_pageCost_2 ?_
  refine j_icmp_ne (tgt := 30) hx hb (by unfold i32; omega) dX4_pageCost_5 (by decide) (fun c5 => ?_) (fun c5 => ?_)
  · skip
    refine lv_aload_n hx hb dX4_pageCost_30 rfl (lv_at hl 0 rfl) ?_
    refine lv_aload_n hx hb dX4_pageCost_31 rfl (lv_at hl 0 rfl) ?_
    refine va_get (D := D) (ci := 4) (v := .ref (r 6)) (C := RX4) (T := TX4) (N := 18) hx hb hts hinX4 hown hK hP 0 rfl rfl 12 (by decide) (hts (.fieldLink RX4 27 "BreakLinesModel" "lineFrom" "[I") (by decide +kernel)) (fun _ h9 => h9) rfl dX4_pageCost_32 ?_
    refine lv_iload_n hx hb dX4_pageCost_35 rfl (lv_at hl 2 rfl) ?_
    refine j_iald hx hb hK hP 6 0 rfl rfl (i := e0) (by omega) (by decide) dX4_pageCost_36 ?_
    refine j_cVL (As := [.int (jI (lf e0))]) (rest := []) ⟨hx, hb, hml, hown, hts⟩ (kX4_turnAt l D cI cJ cZ r σ hS0 rs kn be lm lf pm pf nw th pg (lf e0) (h.2 c5)) (cwV 1 hts gX4_pageCost_X4_turnAt rfl rfl rfl (by decide +kernel) ⟨Nat.le_of_ble_eq_true rfl, Nat.le_of_ble_eq_true rfl⟩) hK hP (va_recv hK hP (ci := 4) (q0 := 0) rfl rfl) rfl hl.1 rfl (Nat.le_of_ble_eq_true rfl) ⟨Nat.zero_le _, Nat.zero_le _⟩ dX4_pageCost_37 ?_
    exact j_retL hx hb hr hlocks dX4_pageCost_40 (congrArg jL (by unfold pcM; rw [if_neg c5]))
  · skip
    refine lv_iload_n hx hb dX4_pageCost_8 rfl (lv_at hl 2 rfl) ?_
    refine lv_iload_n hx hb dX4_pageCost_9 rfl (lv_at hl 1 rfl) ?_
    refine j_isub hx hb dX4_pageCost_10 ?_
    refine j_iconst hx hb dX4_pageCost_11 ?_
    refine j_icmp_ne (tgt := 28) hx hb (by unfold i32; omega) dX4_pageCost_12 (by decide) (fun c12 => ?_) (fun c12 => ?_)
    · skip
      refine j_lconst0 hx hb dX4_pageCost_28 ?_
      exact j_retL hx hb hr hlocks dX4_pageCost_29 (congrArg jL (by unfold pcM; rw [if_pos c5, if_neg (by omega)]))
    · skip
      refine lv_iload_n hx hb dX4_pageCost_15 rfl (lv_at hl 1 rfl) ?_
      refine j_if_le (tgt := 28) hx hb (by unfold i32; omega) dX4_pageCost_16 (by decide) (fun c16 => ?_) (fun c16 => ?_)
      · skip
        refine j_lconst0 hx hb dX4_pageCost_28 ?_
        exact j_retL hx hb hr hlocks dX4_pageCost_29 (congrArg jL (by unfold pcM; rw [if_pos c5, if_neg (by omega)]))
      · skip
        refine lv_aload_n hx hb dX4_pageCost_19 rfl (lv_at hl 0 rfl) ?_
        refine va_get (D := D) (ci := 4) (v := .ref (r 4)) (C := RX4) (T := TX4) (N := 18) hx hb hts hinX4 hown hK hP 0 rfl rfl 6 (by decide) (hts (.fieldLink RX4 20 "BreakLinesModel" "costs" "[J") (by decide +kernel)) (fun _ h9 => h9) rfl dX4_pageCost_20 ?_
        refine j_iconst hx hb dX4_pageCost_23 ?_
        refine j_lald hx hb hK hP 4 1 rfl rfl (i := 2) (by omega) (by decide) dX4_pageCost_24 ?_
        refine lv_goto (tgt := 29) hx hb dX4_pageCost_25 (by decide) ?_
        exact j_retL hx hb hr hlocks dX4_pageCost_29 (congrArg jL (by unfold pcM; rw [if_pos c5, if_pos ⟨c12, c16⟩]))
set_option maxHeartbeats 4000000 in
set_option maxRecDepth 100000 in
theorem kX4_pickPages (l : Launch) (D : va_G) (cI cJ cZ : ClassId) (r : Nat → Nat) (σ : Sg) (hS0 : okS σ) (rs : Int → Int) (kn : Prop) (be lm : Int) (lf : Int → Int) (pm : Int) (pf nw th pg : Int → Int) (s0 : List (Int × Bool)) (h : (0 < lm ∧ lm ≤ 24) ∧ pm = 0 ∧ 0 < sNb σ) (hB0 : isBest σ s0) (hV : VL σ lf lm) (hl0 : lf lm = sNb σ ∧ lf 0 = 0) (hE : endL s0 = lnl lf 0 lm.toNat) (hLn : lm = (s0.length : Int)) : MuV l yX4_pickPages wsX4_pickPages 2 43 D (tyc cI cJ cZ) (wMo r cI cJ cZ (sWd σ) (sPp σ) (sNb σ) (sLs σ) (sWs σ) (sM σ) (sCs σ) (sCt σ) rs kn be lm lf pm pf nw th pg) [.ref (r 0)] (fun (u : Int × (Int → Int) × (Int → Int)) => u.1 = cnt (fun b => b ∈ endP s0) (sNb σ) ∧ u.2.1 0 = 0 ∧ ∀ b, 0 ≤ b → b < sNb σ → b ∈ endP s0 → u.2.1 (cnt (fun b => b ∈ endP s0) b + 1) = cnt (fun b => b ∈ endL s0) (b + 1)) (fun u => wMo r cI cJ cZ (sWd σ) (sPp σ) (sNb σ) (sLs σ) (sWs σ) (sM σ) (sCs σ) (sCt σ) rs kn be lm lf u.1 u.2.1 nw th u.2.2) := by
  intro sz
  refine j_start RX4 rfl (by decide) rfl (Nat.le_of_ble_eq_true rfl) ?_
  intro p e s m below meth c ls hx hb hr hlocks hml hown hts hnm hl ⟨hsz, hP, hK, hD0⟩
  subst hsz
  have hD := hD0.self (sz := s.heap.size)
  generalize hAe : va_A (wMo r cI cJ cZ (sWd σ) (sPp σ) (sNb σ) (sLs σ) (sWs σ) (sM σ) (sCs σ) (sCt σ) rs kn be lm lf pm pf nw th pg) s.heap.size = A at hD ⊢
  have hA : ∀ q : Nat, s.heap.size ≤ q → A q := fun q h => by rw [← hAe]; exact Or.inr h
  refine j_gen (fun H locs hHe hLe => ?_)
  have hS : va_S A s.heap H locs := by rw [hHe, hLe]; exact va_S.rf
  have hP : va_P D vwCl (wMo r cI cJ cZ (sWd σ) (sPp σ) (sNb σ) (sLs σ) (sWs σ) (sM σ) (sCs σ) (sCt σ) rs kn be lm lf pm pf nw th pg) H := by rw [hHe]; exact hP
  have hD : va_D A (wMo r cI cJ cZ (sWd σ) (sPp σ) (sNb σ) (sLs σ) (sWs σ) (sM σ) (sCs σ) (sCt σ) rs kn be lm lf pm pf nw th pg) := hD
  have hl : lv_has ls 5 [(0, .ref (r 0))] := hl
  have hinX4 : ∀ w ∈ u_ws RX4 TX4 18, w ∈ wsX4_pickPages := by decide +kernel
  have hnb := hS0.1
  have hwd := hS0.2.1
  have hpp := hS0.2.2.1
  have hct := hS0.2.2.2.1
  refine lv_aload_n hx hb dX4_pickPages_0 rfl (lv_at hl 0 rfl) ?_
  refine va_get (D := D) (ci := 4) (v := .ref (r 10)) (C := RX4) (T := TX4) (N := 18) hx hb hts hinX4 hown hK hP 0 rfl rfl 17 (by decide) (hts (.fieldLink RX4 39 "BreakLinesModel" "pages" "[J") (by decide +kernel)) (fun _ h9 => h9) rfl dX4_pickPages_1 ?_
  refine lv_aload_n hx hb dX4_pickPages_4 rfl (lv_at hl 0 rfl) ?_
  refine va_get (D := D) (ci := 4) (v := .int (jI lm)) (C := RX4) (T := TX4) (N := 18) hx hb hts hinX4 hown hK hP 0 rfl rfl 11 (by decide) (hts (.fieldLink RX4 122 "BreakLinesModel" "lineMany" "I") (by decide +kernel)) (fun _ h9 => h9) rfl dX4_pickPages_5 ?_
  refine j_lconst0 hx hb dX4_pickPages_8 ?_
  refine j_last hx hb hK hP hD hS 10 1 rfl rfl (i := lm) (by omega) (by decide) dX4_pickPages_9 (fun H locs hP hD hS => ?_)
  have hP : va_P D vwCl (wMo r cI cJ cZ (sWd σ) (sPp σ) (sNb σ) (sLs σ) (sWs σ) (sM σ) (sCs σ) (sCt σ) rs kn be lm lf pm pf nw th (updI pg lm 0)) H := hP
  have hD : va_D A (wMo r cI cJ cZ (sWd σ) (sPp σ) (sNb σ) (sLs σ) (sWs σ) (sM σ) (sCs σ) (sCt σ) rs kn be lm lf pm pf nw th (updI pg lm 0)) := hD
  refine lv_aload_n hx hb dX4_pickPages_10 rfl (lv_at hl 0 rfl) ?_
  refine va_get (D := D) (ci := 4) (v := .int (jI lm)) (C := RX4) (T := TX4) (N := 18) hx hb hts hinX4 hown hK hP 0 rfl rfl 11 (by decide) (hts (.fieldLink RX4 122 "BreakLinesModel" "lineMany" "I") (by decide +kernel)) (fun _ h9 => h9) rfl dX4_pickPages_11 ?_
  refine j_iconst hx hb dX4_pickPages_14 ?_
  refine j_isub hx hb dX4_pickPages_15 ?_
  refine lv_istore_n (lv' := [(1, .int (jI (lm - 1))), (0, .ref (r 0))]) hx hb dX4_pickPages_16 rfl hl (by decide) rfl (fun ls hl => ?_)
  refine j_loop (α := Int × (Int → Int) × Array Slot × Heap × List Loc) (h := fun z => match z with | (k, pg0, ls, H, locs) => H) (lc := fun z => match z with | (k, pg0, ls, H, locs) => locs) (f := fun z => match z with | (k, pg0, ls, H, locs) => F0 m 17 ls []) (P := fun nn z => match z with | (k, pg0, ls, H, locs) => ((-1 ≤ k ∧ k < lm) ∧ ∀ m, k < m → m ≤ lm → Mn (PGs σ lf lm m) (pg0 m)) ∧ (k + 1).toNat < nn ∧ lv_has ls 5 [(0, .ref (r 0)), (1, .int (jI k))] ∧ va_P D vwCl (wMo r cI cJ cZ (sWd σ) (sPp σ) (sNb σ) (sLs σ) (sWs σ) (sM σ) (sCs σ) (sCt σ) rs kn be lm lf pm pf nw th pg0) H ∧ va_D A (wMo r cI cJ cZ (sWd σ) (sPp σ) (sNb σ) (sLs σ) (sWs σ) (sM σ) (sCs σ) (sCt σ) rs kn be lm lf pm pf nw th pg0) ∧ va_S A s.heap H locs) (fun z hz => ?_) ?_ ((lm - 1 + 1).toNat + 1) (lm - 1, updI pg lm 0, ls, H, locs) ⟨⟨by omega, fun m h1 h2 => by rw [show m = lm by omega, updI_s]; exact Mn_1 (fun x => PG_lm hl0.1) (by omega)⟩, Nat.lt_succ_self _, lv_sub hl [1, 0] rfl, hP, hD, hS⟩
  · obtain ⟨k, pg0, ls, H, locs⟩ := z; exact absurd hz.2.1 (Nat.not_lt_zero _)
  intro n17 ih17 ⟨k, pg0, ls, H, locs⟩ ⟨hi17, hm17, hl, hP, hD, hS⟩
  have hl : lv_has ls 5 [(0, .ref (r 0)), (1, .int (jI k))] := hl
  have hP : va_P D vwCl (wMo r cI cJ cZ (sWd σ) (sPp σ) (sNb σ) (sLs σ) (sWs σ) (sM σ) (sCs σ) (sCt σ) rs kn be lm lf pm pf nw th pg0) H := hP
  have hD : va_D A (wMo r cI cJ cZ (sWd σ) (sPp σ) (sNb σ) (sLs σ) (sWs σ) (sM σ) (sCs σ) (sCt σ) rs kn be lm lf pm pf nw th pg0) := hD
  have hS : va_S A s.heap H locs := hS
  show W p l e _ s m _ below meth c H locs _ _ _ (F0 m 17 ls [])
  obtain ⟨hk1, hk2⟩ := hi17
  refine lv_iload_n hx hb dX4_pickPages_17 rfl (lv_at hl 1 rfl) ?_
  refine j_if_lt (tgt := 113) hx hb (by unfold i32; omega) dX4_pickPages_18 (by decide) (fun c18 => ?_) (fun c18 => ?_)
  · skip
    refine j_iconst hx hb dX4_pickPages_113 ?_
    refine lv_istore_n (lv' := [(1, .int (jI 0)), (0, .ref (r 0))]) hx hb dX4_pickPages_114 rfl hl (by decide) rfl (fun ls hl => ?_)
    refine j_loop (α := Int × Int × (Int → Int) × Array Slot × Heap × List Loc) (h := fun z => match z with | (k, pm0, pf0, ls, H, locs) => H) (lc := fun z => match z with | (k, pm0, pf0, ls, H, locs) => locs) (f := fun z => match z with | (k, pm0, pf0, ls, H, locs) => F0 m 115 ls []) (P := fun nn z => match z with | (k, pm0, pf0, ls, H, locs) => (∃ R s, s0 = R.reverse ++ s ∧ k = (R.length : Int) ∧ stO R = 0 ∧ stF R = lf k ∧ endL s = lnl lf k (lm - k).toNat ∧ k ≤ lm ∧ gOK (fun b => b ∈ endP s0) (fun b => cnt (fun b => b ∈ endL s0) b) (lf k) pm0 pf0) ∧ (lm - k).toNat < nn ∧ lv_has ls 5 [(0, .ref (r 0)), (1, .int (jI k))] ∧ va_P D vwCl (wMo r cI cJ cZ (sWd σ) (sPp σ) (sNb σ) (sLs σ) (sWs σ) (sM σ) (sCs σ) (sCt σ) rs kn be lm lf pm0 pf0 nw th pg0) H ∧ va_D A (wMo r cI cJ cZ (sWd σ) (sPp σ) (sNb σ) (sLs σ) (sWs σ) (sM σ) (sCs σ) (sCt σ) rs kn be lm lf pm0 pf0 nw th pg0) ∧ va_S A s.heap H locs) (fun z hz => ?_) ?_ ((lm - 0).toNat + 1) (0, pm, pf, ls, H, locs) ⟨⟨[], s0, rfl, rfl, rfl, by rw [hl0.2]; rfl, by rw [show (lm - 0).toNat = lm.toNat by omega]; exact hE, by omega, by rw [hl0.2, h.2.1]; exact ⟨rfl, fun w => by omega, fun b b1 b2 => by omega, fun w => by omega⟩⟩, Nat.lt_succ_self _, lv_sub hl [1, 0] rfl, hP, hD, hS⟩
    · obtain ⟨k, pm0, pf0, ls, H, locs⟩ := z; exact absurd hz.2.1 (Nat.not_lt_zero _)
    intro n115 ih115 ⟨k, pm0, pf0, ls, H, locs⟩ ⟨hi115, hm115, hl, hP, hD, hS⟩
    have hl : lv_has ls 5 [(0, .ref (r 0)), (1, .int (jI k))] := hl
    have hP : va_P D vwCl (wMo r cI cJ cZ (sWd σ) (sPp σ) (sNb σ) (sLs σ) (sWs σ) (sM σ) (sCs σ) (sCt σ) rs kn be lm lf pm0 pf0 nw th pg0) H := hP
    have hD : va_D A (wMo r cI cJ cZ (sWd σ) (sPp σ) (sNb σ) (sLs σ) (sWs σ) (sM σ) (sCs σ) (sCt σ) rs kn be lm lf pm0 pf0 nw th pg0) := hD
    have hS : va_S A s.heap H locs := hS
    show W p l e _ s m _ below meth c H locs _ _ _ (F0 m 115 ls [])
    obtain ⟨R, t, hs, hn, hO, hF, hEt, hkl, hg⟩ := hi115
    have hkb : 0 ≤ k := by omega
    have hlk : 0 ≤ lf k ∧ lf k ≤ sNb σ := by
      rw [← hF]; exact (st_B hS0 R ((st_ok R t).mp (by rw [← hs]; exact hB0.1)).1).1
    have hck : cnt (fun b => b ∈ endL s0) (lf k) = k := by rw [← hF, hn, hs]; exact cnt_R hS0 R t (by rw [← hs]; exact hB0.1)
    have hpb : 0 ≤ pm0 ∧ pm0 ≤ 24 := by have z := cntB (fun b => b ∈ endP s0) hlk.1; rw [← hg.1] at z; omega
    refine lv_iload_n hx hb dX4_pickPages_115 rfl (lv_at hl 1 rfl) ?_
    refine lv_aload_n hx hb dX4_pickPages_116 rfl (lv_at hl 0 rfl) ?_
    refine va_get (D := D) (ci := 4) (v := .int (jI lm)) (C := RX4) (T := TX4) (N := 18) hx hb hts hinX4 hown hK hP 0 rfl rfl 11 (by decide) (hts (.fieldLink RX4 122 "BreakLinesModel" "lineMany" "I") (by decide +kernel)) (fun _ h9 => h9) rfl dX4_pickPages_117 ?_
    refine j_icmp_ge (tgt := 212) hx hb (by unfold i32; omega) dX4_pickPages_120 (by decide) (fun c120 => ?_) (fun c120 => ?_)
    · skip
      refine lv_aload_n hx hb dX4_pickPages_212 rfl (lv_at hl 0 rfl) ?_
      refine va_get (D := D) (ci := 4) (v := .ref (r 7)) (C := RX4) (T := TX4) (N := 18) hx hb hts hinX4 hown hK hP 0 rfl rfl 14 (by decide) (hts (.fieldLink RX4 30 "BreakLinesModel" "pageFrom" "[I") (by decide +kernel)) (fun _ h9 => h9) rfl dX4_pickPages_213 ?_
      refine lv_aload_n hx hb dX4_pickPages_216 rfl (lv_at hl 0 rfl) ?_
      refine va_get (D := D) (ci := 4) (v := .int (jI pm0)) (C := RX4) (T := TX4) (N := 18) hx hb hts hinX4 hown hK hP 0 rfl rfl 13 (by decide) (hts (.fieldLink RX4 125 "BreakLinesModel" "pageMany" "I") (by decide +kernel)) (fun _ h9 => h9) rfl dX4_pickPages_217 ?_
      refine lv_aload_n hx hb dX4_pickPages_220 rfl (lv_at hl 0 rfl) ?_
      refine va_get (D := D) (ci := 4) (v := .int (jI lm)) (C := RX4) (T := TX4) (N := 18) hx hb hts hinX4 hown hK hP 0 rfl rfl 11 (by decide) (hts (.fieldLink RX4 122 "BreakLinesModel" "lineMany" "I") (by decide +kernel)) (fun _ h9 => h9) rfl dX4_pickPages_221 ?_
      refine j_iast hx hb hK hP hD hS 7 0 rfl rfl (i := pm0) (by omega) (by decide) dX4_pickPages_224 (fun H locs hP hD hS => ?_)
      have hP : va_P D vwCl (wMo r cI cJ cZ (sWd σ) (sPp σ) (sNb σ) (sLs σ) (sWs σ) (sM σ) (sCs σ) (sCt σ) rs kn be lm lf pm0 (updI pf0 pm0 lm) nw th pg0) H := hP
      have hD : va_D A (wMo r cI cJ cZ (sWd σ) (sPp σ) (sNb σ) (sLs σ) (sWs σ) (sM σ) (sCs σ) (sCt σ) rs kn be lm lf pm0 (updI pf0 pm0 lm) nw th pg0) := hD
      exact j_mretV hx hb hr hlocks hS dX4_pickPages_225 (pm0, updI pf0 pm0 lm, pg0) (by have z := gOK_end (by rw [show k = lm by omega, hl0.1] at hg; exact hg) h.2.2; have z2 : cnt (fun b => b ∈ endL s0) (sNb σ) = lm := (by rw [← hl0.1, ← (show k = lm by omega)]; exact hck); simp only [z2] at z; exact z) hP
    · skip
      obtain ⟨n0, t1, ht0, ht1, ht2, ht3, ht4⟩ := pg_split (σ := σ) (F := lf) (lm - k).toNat k 0 t (by have z := ((st_ok R t).mp (by rw [← hs]; exact hB0.1)).2; rw [hO, hF] at z; exact z) hEt (by omega) (by omega) (by omega)
      rw [show (lm - k).toNat - n0 - 1 = (lm - (k + n0 + 1)).toNat by omega] at ht4
      have hB1 : isBest σ (R.reverse ++ (pgL lf k n0 ++ t1)) := by rw [← ht1, ← hs]; exact hB0
      have hok1 := hB1.1
      have hEt1 : endL (pgL lf k n0 ++ t1) = lnl lf k (lm - k).toNat := by rw [← ht1]; exact hEt
      obtain ⟨R1, r1, r2, r3, r4⟩ := page_next (σ := σ) (t := t1) (F := lf) (n := n0) hn
      have hlt := VL_lt hV hkb (show k < k + n0 + 1 by omega) (by omega)
      have hlt2 : lf k ≤ lf (k + n0 + 1) - 1 := by omega
      have Gk := hk2 k (by omega) (by omega)
      have Gk0 := Gk.r0 (fun x w => (PG_r0 hS0 hV hl0.1 hl0.2 (by omega) (by omega) (by omega) w).1)
      refine lv_iload_n hx hb dX4_pickPages_123 rfl (lv_at hl 1 rfl) ?_
      refine lv_aload_n hx hb dX4_pickPages_124 rfl (lv_at hl 0 rfl) ?_
      refine va_get (D := D) (ci := 4) (v := .int (jI (sPp σ))) (C := RX4) (T := TX4) (N := 18) hx hb hts hinX4 hown hK hP 0 rfl rfl 1 (by decide) (hts (.fieldLink RX4 46 "BreakLinesModel" "perPage" "I") (by decide +kernel)) (fun _ h9 => h9) rfl dX4_pickPages_125 ?_
      refine j_iadd hx hb dX4_pickPages_128 ?_
      refine lv_aload_n hx hb dX4_pickPages_129 rfl (lv_at hl 0 rfl) ?_
      refine va_get (D := D) (ci := 4) (v := .int (jI lm)) (C := RX4) (T := TX4) (N := 18) hx hb hts hinX4 hown hK hP 0 rfl rfl 11 (by decide) (hts (.fieldLink RX4 122 "BreakLinesModel" "lineMany" "I") (by decide +kernel)) (fun _ h9 => h9) rfl dX4_pickPages_130 ?_
      refine j_join (α := Int) (P := fun e2 => (k + sPp σ < lm ∧ e2 = k + sPp σ) ∨ (lm ≤ k + sPp σ ∧ e2 = lm)) (f := fun e2 => F0 m 149 ls [.int (jI e2)]) ?_ (fun jn133 => ?_)
      · intro e2 hve2
        refine lv_istore_n (lv' := [(2, .int (jI e2)), (0, .ref (r 0)), (1, .int (jI k))]) hx hb dX4_pickPages_149 rfl hl (by decide) rfl (fun ls hl => ?_)
        refine j_loop (α := Int × Array Slot × Heap × List Loc) (h := fun z => match z with | (e1, ls, H, locs) => H) (lc := fun z => match z with | (e1, ls, H, locs) => locs) (f := fun z => match z with | (e1, ls, H, locs) => F0 m 150 ls []) (P := fun nn z => match z with | (e1, ls, H, locs) => (k + n0 + 1 ≤ e1 ∧ e1 ≤ lm ∧ e1 - k ≤ sPp σ) ∧ e1.toNat < nn ∧ lv_has ls 5 [(0, .ref (r 0)), (1, .int (jI k)), (2, .int (jI e1))] ∧ va_P D vwCl (wMo r cI cJ cZ (sWd σ) (sPp σ) (sNb σ) (sLs σ) (sWs σ) (sM σ) (sCs σ) (sCt σ) rs kn be lm lf pm0 pf0 nw th pg0) H ∧ va_D A (wMo r cI cJ cZ (sWd σ) (sPp σ) (sNb σ) (sLs σ) (sWs σ) (sM σ) (sCs σ) (sCt σ) rs kn be lm lf pm0 pf0 nw th pg0) ∧ va_S A s.heap H locs) (fun z hz => ?_) ?_ (e2.toNat + 1) (e2, ls, H, locs) ⟨⟨by omega, by omega, by omega⟩, Nat.lt_succ_self _, lv_sub hl [1, 2, 0] rfl, hP, hD, hS⟩
        · obtain ⟨e1, ls, H, locs⟩ := z; exact absurd hz.2.1 (Nat.not_lt_zero _)
        intro n150 ih150 ⟨e1, ls, H, locs⟩ ⟨hi150, hm150, hl, hP, hD, hS⟩
        have hl : lv_has ls 5 [(0, .ref (r 0)), (1, .int (jI k)), (2, .int (jI e1))] := hl
        have hP : va_P D vwCl (wMo r cI cJ cZ (sWd σ) (sPp σ) (sNb σ) (sLs σ) (sWs σ) (sM σ) (sCs σ) (sCt σ) rs kn be lm lf pm0 pf0 nw th pg0) H := hP
        have hD : va_D A (wMo r cI cJ cZ (sWd σ) (sPp σ) (sNb σ) (sLs σ) (sWs σ) (sM σ) (sCs σ) (sCt σ) rs kn be lm lf pm0 pf0 nw th pg0) := hD
        have hS : va_S A s.heap H locs := hS
        show W p l e _ s m _ below meth c H locs _ _ _ (F0 m 150 ls [])
        obtain ⟨hx1, hx2, hx3⟩ := hi150
        have Ge := hk2 e1 (by omega) (by omega)
        have Ge0 := Ge.r0 (fun x w => (PG_r0 hS0 hV hl0.1 hl0.2 (by omega) (by omega) (by omega) w).1)
        have hpcb := pcM_B hS0 lf lm k e1
        refine lv_ldc2 (v := jL 1024) hx hb hown (hts (.constantLong RX4 93 (1024)) (by decide +kernel)) dX4_pickPages_150 ?_
        refine lv_aload_n hx hb dX4_pickPages_153 rfl (lv_at hl 0 rfl) ?_
        refine lv_iload_n hx hb dX4_pickPages_154 rfl (lv_at hl 1 rfl) ?_
        refine lv_iload_n hx hb dX4_pickPages_155 rfl (lv_at hl 2 rfl) ?_
        refine j_cVL (As := [.int (jI k), .int (jI e1)]) (rest := [.long (jL 1024)]) ⟨hx, hb, hml, hown, hts⟩ (kX4_pageCost l D cI cJ cZ r σ hS0 rs kn be lm lf pm0 pf0 nw th pg0 k e1 ⟨by omega, fun w => by have v := hV e1 (by omega) (by omega); have v2 := VL_lt hV (show (0 : Int) ≤ 0 by omega) (show (0 : Int) < e1 by omega) (by omega); omega⟩) (cwV 2 hts gX4_pickPages_X4_pageCost rfl rfl rfl (by decide +kernel) ⟨Nat.le_of_ble_eq_true rfl, Nat.le_of_ble_eq_true rfl⟩) hK hP (va_recv hK hP (ci := 4) (q0 := 0) rfl rfl) rfl hl.1 rfl (Nat.le_of_ble_eq_true rfl) ⟨Nat.zero_le _, Nat.zero_le _⟩ dX4_pickPages_156 ?_
        refine j_lmul hx hb dX4_pickPages_159 ?_
        refine lv_ldc2 (v := jL 32) hx hb hown (hts (.constantLong RX4 110 (32)) (by decide +kernel)) dX4_pickPages_160 ?_
        refine j_ladd hx hb dX4_pickPages_163 ?_
        refine lv_aload_n hx hb dX4_pickPages_164 rfl (lv_at hl 0 rfl) ?_
        refine va_get (D := D) (ci := 4) (v := .ref (r 10)) (C := RX4) (T := TX4) (N := 18) hx hb hts hinX4 hown hK hP 0 rfl rfl 17 (by decide) (hts (.fieldLink RX4 39 "BreakLinesModel" "pages" "[J") (by decide +kernel)) (fun _ h9 => h9) rfl dX4_pickPages_165 ?_
        refine lv_iload_n hx hb dX4_pickPages_168 rfl (lv_at hl 2 rfl) ?_
        refine j_lald hx hb hK hP 10 1 rfl rfl (i := e1) (by omega) (by decide) dX4_pickPages_169 ?_
        refine j_ladd hx hb dX4_pickPages_170 ?_
        refine lv_aload_n hx hb dX4_pickPages_171 rfl (lv_at hl 0 rfl) ?_
        refine va_get (D := D) (ci := 4) (v := .ref (r 10)) (C := RX4) (T := TX4) (N := 18) hx hb hts hinX4 hown hK hP 0 rfl rfl 17 (by decide) (hts (.fieldLink RX4 39 "BreakLinesModel" "pages" "[J") (by decide +kernel)) (fun _ h9 => h9) rfl dX4_pickPages_172 ?_
        refine lv_iload_n hx hb dX4_pickPages_175 rfl (lv_at hl 1 rfl) ?_
        refine j_lald hx hb hK hP 10 1 rfl rfl (i := k) (by omega) (by decide) dX4_pickPages_176 ?_
        refine j_lcmp_eq (tgt := 187) hx hb (by unfold i64; omega) dX4_pickPages_177 dX4_pickPages_178 (by decide) (fun c177 => ?_) (fun c177 => ?_)
        · skip
          have hee : e1 = k + n0 + 1 := page_eq hS0 hV hl0.1 hl0.2 hB1 hn hO hF hEt1 hx1 hx2 hx3 Gk Ge c177
          refine lv_aload_n hx hb dX4_pickPages_187 rfl (lv_at hl 0 rfl) ?_
          refine va_get (D := D) (ci := 4) (v := .ref (r 7)) (C := RX4) (T := TX4) (N := 18) hx hb hts hinX4 hown hK hP 0 rfl rfl 14 (by decide) (hts (.fieldLink RX4 30 "BreakLinesModel" "pageFrom" "[I") (by decide +kernel)) (fun _ h9 => h9) rfl dX4_pickPages_188 ?_
          refine lv_aload_n hx hb dX4_pickPages_191 rfl (lv_at hl 0 rfl) ?_
          refine va_get (D := D) (ci := 4) (v := .int (jI pm0)) (C := RX4) (T := TX4) (N := 18) hx hb hts hinX4 hown hK hP 0 rfl rfl 13 (by decide) (hts (.fieldLink RX4 125 "BreakLinesModel" "pageMany" "I") (by decide +kernel)) (fun _ h9 => h9) rfl dX4_pickPages_192 ?_
          refine lv_iload_n hx hb dX4_pickPages_195 rfl (lv_at hl 1 rfl) ?_
          refine j_iast hx hb hK hP hD hS 7 0 rfl rfl (i := pm0) (by omega) (by decide) dX4_pickPages_196 (fun H locs hP hD hS => ?_)
          have hP : va_P D vwCl (wMo r cI cJ cZ (sWd σ) (sPp σ) (sNb σ) (sLs σ) (sWs σ) (sM σ) (sCs σ) (sCt σ) rs kn be lm lf pm0 (updI pf0 pm0 k) nw th pg0) H := hP
          have hD : va_D A (wMo r cI cJ cZ (sWd σ) (sPp σ) (sNb σ) (sLs σ) (sWs σ) (sM σ) (sCs σ) (sCt σ) rs kn be lm lf pm0 (updI pf0 pm0 k) nw th pg0) := hD
          refine lv_aload_n hx hb dX4_pickPages_197 rfl (lv_at hl 0 rfl) ?_
          refine lv_dup hx hb dX4_pickPages_198 rfl ?_
          refine va_get (D := D) (ci := 4) (v := .int (jI pm0)) (C := RX4) (T := TX4) (N := 18) hx hb hts hinX4 hown hK hP 0 rfl rfl 13 (by decide) (hts (.fieldLink RX4 125 "BreakLinesModel" "pageMany" "I") (by decide +kernel)) (fun _ h9 => h9) rfl dX4_pickPages_199 ?_
          refine j_iconst hx hb dX4_pickPages_202 ?_
          refine j_iadd hx hb dX4_pickPages_203 ?_
          refine va_put (D := D) (ci := 4) (v := .int (jI (pm0 + 1))) (ty := .int) (C := RX4) (T := TX4) (N := 18) hx hb hts hinX4 tyX4 tyX4_ok nmX4 hown hK hP hD hS 0 rfl rfl 13 (by decide) (hts (.fieldLink RX4 125 "BreakLinesModel" "pageMany" "I") (by decide +kernel)) (fun _ h9 => h9) rfl (by decide +kernel) rfl rfl (Nat.le_of_ble_eq_true rfl) dX4_pickPages_204 (fun H locs hP hD hS => ?_)
          have hP : va_P D vwCl (wMo r cI cJ cZ (sWd σ) (sPp σ) (sNb σ) (sLs σ) (sWs σ) (sM σ) (sCs σ) (sCt σ) rs kn be lm lf (pm0 + 1) (updI pf0 pm0 k) nw th pg0) H := hP
          have hD : va_D A (wMo r cI cJ cZ (sWd σ) (sPp σ) (sNb σ) (sLs σ) (sWs σ) (sM σ) (sCs σ) (sCt σ) rs kn be lm lf (pm0 + 1) (updI pf0 pm0 k) nw th pg0) := hD
          refine lv_iload_n hx hb dX4_pickPages_207 rfl (lv_at hl 2 rfl) ?_
          refine lv_istore_n (lv' := [(1, .int (jI e1)), (0, .ref (r 0)), (2, .int (jI e1))]) hx hb dX4_pickPages_208 rfl hl (by decide) rfl (fun ls hl => ?_)
          refine lv_goto (tgt := 115) hx hb dX4_pickPages_209 (by decide) ?_
          exact ih115 (e1, pm0 + 1, updI pf0 pm0 k, ls, H, locs) ⟨⟨R1, t1, by rw [hs, ht1]; exact r1, by rw [r4, hee], r2, by rw [r3, hee], by rw [hee]; exact ht4, by omega, by
          have z := gOK_step (G := fun b => cnt (fun b => b ∈ endL s0) b) (cnt_0 _) hg hlk.1 hlt2 (by rw [hs, ht1]; exact (endP_gap hS0 hok1 hF hlt2).1) (by rw [hs, ht1]; exact (endP_gap hS0 hok1 hF hlt2).2)
          rw [show lf (k + n0 + 1) - 1 + 1 = lf e1 by rw [hee]; omega] at z
          have z2 := z
          simp only [hck] at z2
          exact z2⟩, by omega, lv_sub hl [1, 0] rfl, hP, hD, hS⟩
        · skip
          have hne : e1 ≠ k + n0 + 1 := fun w => c177 (by rw [w]; exact page_has hV hl0.1 hl0.2 hB1 hn hO hF hEt1 ht4 (by omega) Gk (hk2 _ (by omega) (by omega)))
          refine lv_iinc (v := jI (e1 + (-1))) (lv' := [(2, .int (jI (e1 + (-1)))), (0, .ref (r 0)), (1, .int (jI k))]) hx hb dX4_pickPages_181 hl (k := 2) rfl (jI_add _ _) (by decide) rfl (fun ls hl => ?_)
          refine lv_goto (tgt := 150) hx hb dX4_pickPages_184 (by decide) ?_
          exact ih150 (e1 + (-1), ls, H, locs) ⟨⟨by omega, by omega, by omega⟩, by omega, lv_sub hl [1, 2, 0] rfl, hP, hD, hS⟩
      refine j_icmp_ge (tgt := 145) hx hb (by unfold i32; omega) dX4_pickPages_133 (by decide) (fun c133 => ?_) (fun c133 => ?_)
      · skip
        refine lv_aload_n hx hb dX4_pickPages_145 rfl (lv_at hl 0 rfl) ?_
        refine va_get (D := D) (ci := 4) (v := .int (jI lm)) (C := RX4) (T := TX4) (N := 18) hx hb hts hinX4 hown hK hP 0 rfl rfl 11 (by decide) (hts (.fieldLink RX4 122 "BreakLinesModel" "lineMany" "I") (by decide +kernel)) (fun _ h9 => h9) rfl dX4_pickPages_146 ?_
        exact jn133 lm (by omega)
      · skip
        refine lv_iload_n hx hb dX4_pickPages_136 rfl (lv_at hl 1 rfl) ?_
        refine lv_aload_n hx hb dX4_pickPages_137 rfl (lv_at hl 0 rfl) ?_
        refine va_get (D := D) (ci := 4) (v := .int (jI (sPp σ))) (C := RX4) (T := TX4) (N := 18) hx hb hts hinX4 hown hK hP 0 rfl rfl 1 (by decide) (hts (.fieldLink RX4 46 "BreakLinesModel" "perPage" "I") (by decide +kernel)) (fun _ h9 => h9) rfl dX4_pickPages_138 ?_
        refine j_iadd hx hb dX4_pickPages_141 ?_
        refine lv_goto (tgt := 149) hx hb dX4_pickPages_142 (by decide) ?_
        exact jn133 (k + (sPp σ)) (by omega)
  · skip
    refine lv_aload_n hx hb dX4_pickPages_21 rfl (lv_at hl 0 rfl) ?_
    refine va_get (D := D) (ci := 4) (v := .ref (r 10)) (C := RX4) (T := TX4) (N := 18) hx hb hts hinX4 hown hK hP 0 rfl rfl 17 (by decide) (hts (.fieldLink RX4 39 "BreakLinesModel" "pages" "[J") (by decide +kernel)) (fun _ h9 => h9) rfl dX4_pickPages_22 ?_
    refine lv_iload_n hx hb dX4_pickPages_25 rfl (lv_at hl 1 rfl) ?_
    refine lv_ldc2 (v := jL 4611686018427387904) hx hb hown (hts (.constantLong RX4 91 (4611686018427387904)) (by decide +kernel)) dX4_pickPages_26 ?_
    refine j_last hx hb hK hP hD hS 10 1 rfl rfl (i := k) (by omega) (by decide) dX4_pickPages_29 (fun H locs hP hD hS => ?_)
    have hP : va_P D vwCl (wMo r cI cJ cZ (sWd σ) (sPp σ) (sNb σ) (sLs σ) (sWs σ) (sM σ) (sCs σ) (sCt σ) rs kn be lm lf pm pf nw th (updI pg0 k 4611686018427387904)) H := hP
    have hD : va_D A (wMo r cI cJ cZ (sWd σ) (sPp σ) (sNb σ) (sLs σ) (sWs σ) (sM σ) (sCs σ) (sCt σ) rs kn be lm lf pm pf nw th (updI pg0 k 4611686018427387904)) := hD
    refine lv_iload_n hx hb dX4_pickPages_30 rfl (lv_at hl 1 rfl) ?_
    refine j_iconst hx hb dX4_pickPages_31 ?_
    refine j_iadd hx hb dX4_pickPages_32 ?_
    refine lv_istore_n (lv' := [(2, .int (jI (k + 1))), (0, .ref (r 0)), (1, .int (jI k))]) hx hb dX4_pickPages_33 rfl hl (by decide) rfl (fun ls hl => ?_)
    refine j_loop (α := Int × (Int → Int) × Array Slot × Heap × List Loc) (h := fun z => match z with | (e0, pg1, ls, H, locs) => H) (lc := fun z => match z with | (e0, pg1, ls, H, locs) => locs) (f := fun z => match z with | (e0, pg1, ls, H, locs) => F0 m 34 ls []) (P := fun nn z => match z with | (e0, pg1, ls, H, locs) => ((k < e0 ∧ e0 ≤ lm + 1) ∧ (∀ m, k < m → m ≤ lm → Mn (PGs σ lf lm m) (pg1 m)) ∧ Mn (PGi σ lf lm k e0) (pg1 k)) ∧ (lm + 1 - e0).toNat < nn ∧ lv_has ls 5 [(0, .ref (r 0)), (1, .int (jI k)), (2, .int (jI e0))] ∧ va_P D vwCl (wMo r cI cJ cZ (sWd σ) (sPp σ) (sNb σ) (sLs σ) (sWs σ) (sM σ) (sCs σ) (sCt σ) rs kn be lm lf pm pf nw th pg1) H ∧ va_D A (wMo r cI cJ cZ (sWd σ) (sPp σ) (sNb σ) (sLs σ) (sWs σ) (sM σ) (sCs σ) (sCt σ) rs kn be lm lf pm pf nw th pg1) ∧ va_S A s.heap H locs) (fun z hz => ?_) ?_ ((lm + 1 - (k + 1)).toNat + 1) (k + 1, updI pg0 k 4611686018427387904, ls, H, locs) ⟨⟨by omega, fun m h1 h2 => by rw [updI_n (by omega)]; exact hk2 m h1 h2, by rw [updI_s]; exact Mn_0 (fun x w => by obtain ⟨e1, w1, -⟩ := w; omega)⟩, Nat.lt_succ_self _, lv_sub hl [1, 2, 0] rfl, hP, hD, hS⟩
    · obtain ⟨e0, pg1, ls, H, locs⟩ := z; exact absurd hz.2.1 (Nat.not_lt_zero _)
    intro n34 ih34 ⟨e0, pg1, ls, H, locs⟩ ⟨hi34, hm34, hl, hP, hD, hS⟩
    have hl : lv_has ls 5 [(0, .ref (r 0)), (1, .int (jI k)), (2, .int (jI e0))] := hl
    have hP : va_P D vwCl (wMo r cI cJ cZ (sWd σ) (sPp σ) (sNb σ) (sLs σ) (sWs σ) (sM σ) (sCs σ) (sCt σ) rs kn be lm lf pm pf nw th pg1) H := hP
    have hD : va_D A (wMo r cI cJ cZ (sWd σ) (sPp σ) (sNb σ) (sLs σ) (sWs σ) (sM σ) (sCs σ) (sCt σ) rs kn be lm lf pm pf nw th pg1) := hD
    have hS : va_S A s.heap H locs := hS
    show W p l e _ s m _ below meth c H locs _ _ _ (F0 m 34 ls [])
    obtain ⟨he1, he2, he3⟩ := hi34
    refine lv_iload_n hx hb dX4_pickPages_34 rfl (lv_at hl 2 rfl) ?_
    refine lv_aload_n hx hb dX4_pickPages_35 rfl (lv_at hl 0 rfl) ?_
    refine va_get (D := D) (ci := 4) (v := .int (jI lm)) (C := RX4) (T := TX4) (N := 18) hx hb hts hinX4 hown hK hP 0 rfl rfl 11 (by decide) (hts (.fieldLink RX4 122 "BreakLinesModel" "lineMany" "I") (by decide +kernel)) (fun _ h9 => h9) rfl dX4_pickPages_36 ?_
    refine j_icmp_gt (tgt := 107) hx hb (by unfold i32; omega) dX4_pickPages_39 (by decide) (fun c39 => ?_) (fun c39 => ?_)
    · skip
      refine lv_iinc (v := jI (k + (-1))) (lv' := [(1, .int (jI (k + (-1)))), (0, .ref (r 0)), (2, .int (jI e0))]) hx hb dX4_pickPages_107 hl (k := 1) rfl (jI_add _ _) (by decide) rfl (fun ls hl => ?_)
      refine lv_goto (tgt := 17) hx hb dX4_pickPages_110 (by decide) ?_
      exact ih17 (k + (-1), pg1, ls, H, locs) ⟨⟨by omega, fun m h1 h2 => by
          by_cases w : m = k
          · rw [w]; exact PGi_end hS0 hV hl0.1 hl0.2 (by omega) (by omega) (by first | exact Or.inl (by omega) | exact Or.inr (by omega)) he3
          · exact he2 m (by omega) h2⟩, by omega, lv_sub hl [1, 0] rfl, hP, hD, hS⟩
    · skip
      refine lv_iload_n hx hb dX4_pickPages_42 rfl (lv_at hl 2 rfl) ?_
      refine lv_iload_n hx hb dX4_pickPages_43 rfl (lv_at hl 1 rfl) ?_
      refine j_isub hx hb dX4_pickPages_44 ?_
      refine lv_aload_n hx hb dX4_pickPages_45 rfl (lv_at hl 0 rfl) ?_
      refine va_get (D := D) (ci := 4) (v := .int (jI (sPp σ))) (C := RX4) (T := TX4) (N := 18) hx hb hts hinX4 hown hK hP 0 rfl rfl 1 (by decide) (hts (.fieldLink RX4 46 "BreakLinesModel" "perPage" "I") (by decide +kernel)) (fun _ h9 => h9) rfl dX4_pickPages_46 ?_
      refine j_icmp_gt (tgt := 107) hx hb (by unfold i32; omega) dX4_pickPages_49 (by decide) (fun c49 => ?_) (fun c49 => ?_)
      · skip
        refine lv_iinc (v := jI (k + (-1))) (lv' := [(1, .int (jI (k + (-1)))), (0, .ref (r 0)), (2, .int (jI e0))]) hx hb dX4_pickPages_107 hl (k := 1) rfl (jI_add _ _) (by decide) rfl (fun ls hl => ?_)
        refine lv_goto (tgt := 17) hx hb dX4_pickPages_110 (by decide) ?_
        exact ih17 (k + (-1), pg1, ls, H, locs) ⟨⟨by omega, fun m h1 h2 => by
          by_cases w : m = k
          · rw [w]; exact PGi_end hS0 hV hl0.1 hl0.2 (by omega) (by omega) (by first | exact Or.inl (by omega) | exact Or.inr (by omega)) he3
          · exact he2 m (by omega) h2⟩, by omega, lv_sub hl [1, 0] rfl, hP, hD, hS⟩
      · skip
        have hbe := he2 e0 (by omega) (by omega)
        have hbn0 := hbe.r0 (fun x w => (PG_r0 hS0 hV hl0.1 hl0.2 (by omega) (by omega) (by omega) w).1)
        have hpcb := pcM_B hS0 lf lm k e0
        have hbn : pg1 e0 ≠ 4611686018427387904 := PG_ne hS0 hV hl0.1 hl0.2 (by omega) (by omega) hbe
        have hpk : 0 ≤ pg1 k ∧ pg1 k ≤ 4611686018427387904 := he3.r0 (fun x w => by obtain ⟨e1, w1, y, w2, w3⟩ := w; have := PG_r0 hS0 hV hl0.1 hl0.2 (by omega) (by omega) (by omega) w2; have := pcM_B hS0 lf lm k e1; omega)
        refine lv_ldc2 (v := jL 1024) hx hb hown (hts (.constantLong RX4 93 (1024)) (by decide +kernel)) dX4_pickPages_52 ?_
        refine lv_aload_n hx hb dX4_pickPages_55 rfl (lv_at hl 0 rfl) ?_
        refine lv_iload_n hx hb dX4_pickPages_56 rfl (lv_at hl 1 rfl) ?_
        refine lv_iload_n hx hb dX4_pickPages_57 rfl (lv_at hl 2 rfl) ?_
        refine j_cVL (As := [.int (jI k), .int (jI e0)]) (rest := [.long (jL 1024)]) ⟨hx, hb, hml, hown, hts⟩ (kX4_pageCost l D cI cJ cZ r σ hS0 rs kn be lm lf pm pf nw th pg1 k e0 ⟨by omega, fun w => by have v := hV e0 (by omega) (by omega); have v2 := VL_lt hV (show (0 : Int) ≤ 0 by omega) (show (0 : Int) < e0 by omega) (by omega); omega⟩) (cwV 2 hts gX4_pickPages_X4_pageCost rfl rfl rfl (by decide +kernel) ⟨Nat.le_of_ble_eq_true rfl, Nat.le_of_ble_eq_true rfl⟩) hK hP (va_recv hK hP (ci := 4) (q0 := 0) rfl rfl) rfl hl.1 rfl (Nat.le_of_ble_eq_true rfl) ⟨Nat.zero_le _, Nat.zero_le _⟩ dX4_pickPages_58 ?_
        refine j_lmul hx hb dX4_pickPages_61 ?_
        refine lv_ldc2 (v := jL 32) hx hb hown (hts (.constantLong RX4 110 (32)) (by decide +kernel)) dX4_pickPages_62 ?_
        refine j_ladd hx hb dX4_pickPages_65 ?_
        refine lv_aload_n hx hb dX4_pickPages_66 rfl (lv_at hl 0 rfl) ?_
        refine va_get (D := D) (ci := 4) (v := .ref (r 10)) (C := RX4) (T := TX4) (N := 18) hx hb hts hinX4 hown hK hP 0 rfl rfl 17 (by decide) (hts (.fieldLink RX4 39 "BreakLinesModel" "pages" "[J") (by decide +kernel)) (fun _ h9 => h9) rfl dX4_pickPages_67 ?_
        refine lv_iload_n hx hb dX4_pickPages_70 rfl (lv_at hl 2 rfl) ?_
        refine j_lald hx hb hK hP 10 1 rfl rfl (i := e0) (by omega) (by decide) dX4_pickPages_71 ?_
        refine j_ladd hx hb dX4_pickPages_72 ?_
        refine lv_lstore_n (lv' := [(3, .long (jL (((1024 * (pcM σ lf lm k e0)) + 32) + (pg1 e0)))), (0, .ref (r 0)), (1, .int (jI k)), (2, .int (jI e0))]) hx hb dX4_pickPages_73 rfl hl (by decide) rfl (fun ls hl => ?_)
        refine lv_aload_n hx hb dX4_pickPages_74 rfl (lv_at hl 1 rfl) ?_
        refine va_get (D := D) (ci := 4) (v := .ref (r 10)) (C := RX4) (T := TX4) (N := 18) hx hb hts hinX4 hown hK hP 0 rfl rfl 17 (by decide) (hts (.fieldLink RX4 39 "BreakLinesModel" "pages" "[J") (by decide +kernel)) (fun _ h9 => h9) rfl dX4_pickPages_75 ?_
        refine lv_iload_n hx hb dX4_pickPages_78 rfl (lv_at hl 2 rfl) ?_
        refine lv_lload_n hx hb dX4_pickPages_79 rfl (lv_at hl 0 rfl) ?_
        refine lv_aload_n hx hb dX4_pickPages_80 rfl (lv_at hl 1 rfl) ?_
        refine va_get (D := D) (ci := 4) (v := .ref (r 10)) (C := RX4) (T := TX4) (N := 18) hx hb hts hinX4 hown hK hP 0 rfl rfl 17 (by decide) (hts (.fieldLink RX4 39 "BreakLinesModel" "pages" "[J") (by decide +kernel)) (fun _ h9 => h9) rfl dX4_pickPages_81 ?_
        refine lv_iload_n hx hb dX4_pickPages_84 rfl (lv_at hl 2 rfl) ?_
        refine j_lald hx hb hK hP 10 1 rfl rfl (i := k) (by omega) (by decide) dX4_pickPages_85 ?_
        refine j_join (α := Int) (P := fun v => (1024 * pcM σ lf lm k e0 + 32 + pg1 e0 < pg1 k ∧ v = 1024 * pcM σ lf lm k e0 + 32 + pg1 e0) ∨ (pg1 k ≤ 1024 * pcM σ lf lm k e0 + 32 + pg1 e0 ∧ v = pg1 k)) (f := fun v => F0 m 100 ls [.long (jL v), .int (jI k), .ref (r 10)]) ?_ (fun jn86 => ?_)
        · intro v hvv
          refine j_last hx hb hK hP hD hS 10 1 rfl rfl (i := k) (by omega) (by decide) dX4_pickPages_100 (fun H locs hP hD hS => ?_)
          have hP : va_P D vwCl (wMo r cI cJ cZ (sWd σ) (sPp σ) (sNb σ) (sLs σ) (sWs σ) (sM σ) (sCs σ) (sCt σ) rs kn be lm lf pm pf nw th (updI pg1 k v)) H := hP
          have hD : va_D A (wMo r cI cJ cZ (sWd σ) (sPp σ) (sNb σ) (sLs σ) (sWs σ) (sM σ) (sCs σ) (sCt σ) rs kn be lm lf pm pf nw th (updI pg1 k v)) := hD
          refine lv_iinc (v := jI (e0 + 1)) (lv' := [(2, .int (jI (e0 + 1))), (3, .long (jL (((1024 * (pcM σ lf lm k e0)) + 32) + (pg1 e0)))), (0, .ref (r 0)), (1, .int (jI k))]) hx hb dX4_pickPages_101 hl (k := 3) rfl (jI_add _ _) (by decide) rfl (fun ls hl => ?_)
          refine lv_goto (tgt := 34) hx hb dX4_pickPages_104 (by decide) ?_
          exact ih34 (e0 + 1, updI pg1 k v, ls, H, locs) ⟨⟨by omega, fun m h1 h2 => by rw [updI_n (by omega)]; exact he2 m h1 h2, by rw [updI_s]; exact PGi_step hS0 hV hl0.1 hl0.2 (by omega) (by omega) (by omega) (by omega) (by omega) he3 hbe hbn hvv⟩, by omega, lv_sub hl [2, 3, 0] rfl, hP, hD, hS⟩
        refine j_lcmp_ge (tgt := 94) hx hb (by unfold i64; omega) dX4_pickPages_86 dX4_pickPages_87 (by decide) (fun c86 => ?_) (fun c86 => ?_)
        · skip
          refine lv_aload_n hx hb dX4_pickPages_94 rfl (lv_at hl 1 rfl) ?_
          refine va_get (D := D) (ci := 4) (v := .ref (r 10)) (C := RX4) (T := TX4) (N := 18) hx hb hts hinX4 hown hK hP 0 rfl rfl 17 (by decide) (hts (.fieldLink RX4 39 "BreakLinesModel" "pages" "[J") (by decide +kernel)) (fun _ h9 => h9) rfl dX4_pickPages_95 ?_
          refine lv_iload_n hx hb dX4_pickPages_98 rfl (lv_at hl 2 rfl) ?_
          refine j_lald hx hb hK hP 10 1 rfl rfl (i := k) (by omega) (by decide) dX4_pickPages_99 ?_
          exact jn86 (pg1 k) (by omega)
        · skip
          refine lv_lload_n hx hb dX4_pickPages_90 rfl (lv_at hl 0 rfl) ?_
          refine lv_goto (tgt := 100) hx hb dX4_pickPages_91 (by decide) ?_
          exact jn86 (((1024 * (pcM σ lf lm k e0)) + 32) + (pg1 e0)) (by omega)
end
