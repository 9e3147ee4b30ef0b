/-! the contract of restOf -/
noncomputable section
set_option maxHeartbeats 4000000 in
set_option maxRecDepth 100000 in
theorem kX4_restOf (l : Launch) (D : va_G) (cI cJ cZ : ClassId) (r : Nat → Nat) (σ : Sg) (hS0 : okS σ) (rs : Int → Int) (kn : Prop) (be lm : Int) (lf : Int → Int) (pm : Int) (pf nw th pg : Int → Int) (i op n : Int) (P : Prop) (h : (1 ≤ i ∧ i ≤ sNb σ) ∧ (1 ≤ op ∧ op ≤ sPp σ) ∧ (0 ≤ n ∧ n ≤ 24) ∧ (sCt σ = 0 → n = 0)) (tb : tabM σ rs i) : RoL l yX4_restOf wsX4_restOf 3 71 D (tyc cI cJ cZ) (wMo r cI cJ cZ (sWd σ) (sPp σ) (sNb σ) (sLs σ) (sWs σ) (sM σ) (sCs σ) (sCt σ) rs kn be lm lf pm pf nw th pg) [.ref (r 0), .int (jI i), .int (jI op), .int (jI n), .int (jZ P)] (jL (mnOf (RS σ (Tm σ n) i op P))) := by
  refine j_start RX4 rfl (by decide) rfl (Nat.le_of_ble_eq_true rfl) ?_
  intro p e s m below meth c ls hx hb hr hlocks hml hown hts hnm hl ⟨hP, hK⟩
  have hP : va_P D vwCl (wMo r cI cJ cZ (sWd σ) (sPp σ) (sNb σ) (sLs σ) (sWs σ) (sM σ) (sCs σ) (sCt σ) rs kn be lm lf pm pf nw th pg) s.heap := hP
  have hl : lv_has ls 17 [(0, .ref (r 0)), (1, .int (jI i)), (2, .int (jI op)), (3, .int (jI n)), (4, .int (jZ P))] := hl
  have hinX4 : ∀ w ∈ u_ws RX4 TX4 18, w ∈ wsX4_restOf := by decide +kernel
  have hnb := hS0.1
  have hwd := hS0.2.1
  have hpp := hS0.2.2.1
  have hct := hS0.2.2.2.1
  have hc2 := hS0.2.2.2.2.1 2 (by omega) (by omega)
  have htr := trnB hS0 (i - 1)
  refine lv_iload_n hx hb dX4_restOf_0 rfl (lv_at hl 1 rfl) ?_
  refine lv_aload_n hx hb dX4_restOf_1 rfl (lv_at hl 0 rfl) ?_
  refine va_get (D := D) (ci := 4) (v := .int (jI (sNb σ))) (C := RX4) (T := TX4) (N := 18) hx hb hts hinX4 hown hK hP 0 rfl rfl 2 (by decide) (hts (.fieldLink RX4 57 "BreakLinesModel" "bars" "I") (by decide +kernel)) (fun _ h9 => h9) rfl dX4_restOf_2 ?_
  refine j_icmp_ne (tgt := 66) hx hb (by unfold i32; omega) dX4_restOf_5 (by decide) (fun c5 => ?_) (fun c5 => ?_)
  · skip
    refine lv_ldc2 (v := jL 4611686018427387904) hx hb hown (hts (.constantLong RX4 91 (4611686018427387904)) (by decide +kernel)) dX4_restOf_66 ?_
    refine lv_lstore (lv' := [(5, .long (jL 4611686018427387904)), (0, .ref (r 0)), (1, .int (jI i)), (2, .int (jI op)), (3, .int (jI n)), (4, .int (jZ P))]) hx hb dX4_restOf_69 hl (by decide) rfl (fun ls hl => ?_)
    refine lv_aload_n hx hb dX4_restOf_71 rfl (lv_at hl 1 rfl) ?_
    refine va_get (D := D) (ci := 4) (v := .int (jI (sCt σ))) (C := RX4) (T := TX4) (N := 18) hx hb hts hinX4 hown hK hP 0 rfl rfl 7 (by decide) (hts (.fieldLink RX4 77 "BreakLinesModel" "due" "I") (by decide +kernel)) (fun _ h9 => h9) rfl dX4_restOf_72 ?_
    refine j_join (α := Int) (P := fun mo => mo = if sCt σ = 0 then 0 else n + 1) (f := fun mo => F0 m 85 ls [.int (jI mo)]) ?_ (fun jn75 => ?_)
    · intro mo hvmo
      have hmo : 0 ≤ mo ∧ mo ≤ 25 ∧ (sCt σ = 0 → mo = 0) := by split at hvmo <;> omega
      refine lv_istore (lv' := [(7, .int (jI mo)), (5, .long (jL 4611686018427387904)), (0, .ref (r 0)), (1, .int (jI i)), (2, .int (jI op)), (3, .int (jI n)), (4, .int (jZ P))]) hx hb dX4_restOf_85 hl (by decide) rfl (fun ls hl => ?_)
      refine lv_iload_n hx hb dX4_restOf_87 rfl (lv_at hl 3 rfl) ?_
      refine lv_istore (lv' := [(8, .int (jI i)), (7, .int (jI mo)), (5, .long (jL 4611686018427387904)), (0, .ref (r 0)), (1, .int (jI i)), (2, .int (jI op)), (3, .int (jI n)), (4, .int (jZ P))]) hx hb dX4_restOf_88 hl (by decide) rfl (fun ls hl => ?_)
      refine j_loop (α := Int × Int × Array Slot) (h := fun _ => s.heap) (lc := fun _ => []) (f := fun z => match z with | (j, le, ls) => F0 m 90 ls []) (P := fun nn z => match z with | (j, le, ls) => ((i ≤ j ∧ j ≤ sNb σ) ∧ Mn (fun x => ∃ t, i ≤ t ∧ t < j ∧ CD σ (Tm σ mo) i op P t x) le) ∧ (sNb σ - j).toNat < nn ∧ lv_has ls 17 [(0, .ref (r 0)), (1, .int (jI i)), (2, .int (jI op)), (3, .int (jI n)), (4, .int (jZ P)), (5, .long (jL le)), (7, .int (jI mo)), (8, .int (jI j))]) (fun z hz => ?_) ?_ ((sNb σ - i).toNat + 1) (i, 4611686018427387904, ls) ⟨⟨by omega, Mn_0 (fun x q => by obtain ⟨t, q1, q2, -⟩ := q; omega)⟩, Nat.lt_succ_self _, lv_sub hl [3, 4, 5, 6, 7, 2, 1, 0] rfl⟩
      · obtain ⟨j, le, ls⟩ := z; exact absurd hz.2.1 (Nat.not_lt_zero _)
      intro n90 ih90 ⟨j, le, ls⟩ ⟨hi90, hm90, hl⟩
      have hl : lv_has ls 17 [(0, .ref (r 0)), (1, .int (jI i)), (2, .int (jI op)), (3, .int (jI n)), (4, .int (jZ P)), (5, .long (jL le)), (7, .int (jI mo)), (8, .int (jI j))] := hl
      show W p l e _ s m _ below meth c s.heap [] _ _ _ (F0 m 90 ls [])
      obtain ⟨hj1, hj2⟩ := hi90
      have hle := hj2.r0 (fun x q => by obtain ⟨t, q1, q2, q3, q4⟩ := q; exact CD_nn hS0 (by omega) (by omega) (by omega) (by omega) q4)
      refine lv_iload hx hb dX4_restOf_90 (lv_at hl 7 rfl) ?_
      refine lv_aload_n hx hb dX4_restOf_92 rfl (lv_at hl 0 rfl) ?_
      refine va_get (D := D) (ci := 4) (v := .int (jI (sNb σ))) (C := RX4) (T := TX4) (N := 18) hx hb hts hinX4 hown hK hP 0 rfl rfl 2 (by decide) (hts (.fieldLink RX4 57 "BreakLinesModel" "bars" "I") (by decide +kernel)) (fun _ h9 => h9) rfl dX4_restOf_93 ?_
      refine j_icmp_ge (tgt := 272) hx hb (by unfold i32; omega) dX4_restOf_96 (by decide) (fun c96 => ?_) (fun c96 => ?_)
      · skip
        refine lv_lload hx hb dX4_restOf_272 (lv_at hl 5 rfl) ?_
        exact j_retL hx hb hr hlocks dX4_restOf_274 (congrArg jL (mnOf_eq (by first | (rw [show j = sNb σ by omega] at hj2; exact CD_all hvmo (by omega) (by omega) (by omega) hj2) | exact restZ hS0 (by omega) hvmo (by omega) (by omega) hj2)))
      · skip
        refine lv_iload hx hb dX4_restOf_99 (lv_at hl 6 rfl) ?_
        refine j_bipush hx hb dX4_restOf_101 (by decide) ?_
        refine j_icmp_ge (tgt := 272) hx hb (by unfold i32; omega) dX4_restOf_103 (by decide) (fun c103 => ?_) (fun c103 => ?_)
        · skip
          refine lv_lload hx hb dX4_restOf_272 (lv_at hl 5 rfl) ?_
          exact j_retL hx hb hr hlocks dX4_restOf_274 (congrArg jL (mnOf_eq (by first | (rw [show j = sNb σ by omega] at hj2; exact CD_all hvmo (by omega) (by omega) (by omega) hj2) | exact restZ hS0 (by omega) hvmo (by omega) (by omega) hj2)))
        · skip
          have hcs := cstB hS0 (a := i) (b := j) (by omega) (by omega) (by omega)
          refine lv_aload_n hx hb dX4_restOf_106 rfl (lv_at hl 0 rfl) ?_
          refine lv_iload_n hx hb dX4_restOf_107 rfl (lv_at hl 1 rfl) ?_
          refine lv_iload hx hb dX4_restOf_108 (lv_at hl 7 rfl) ?_
          refine j_cVI (As := [.int (jI i), .int (jI j)]) (rest := []) ⟨hx, hb, hml, hown, hts⟩ (kX4_mayBe l D cI cJ cZ r σ hS0 rs kn be lm lf pm pf nw th pg i j (by omega)) (cwV 2 hts gX4_restOf_X4_mayBe rfl rfl rfl (by decide +kernel) ⟨Nat.le_of_ble_eq_true rfl, Nat.le_of_ble_eq_true rfl⟩) hK hP (va_recv hK hP (ci := 4) (q0 := 0) rfl rfl) rfl hl.1 rfl (Nat.le_of_ble_eq_true rfl) ⟨Nat.zero_le _, Nat.zero_le _⟩ dX4_restOf_110 ?_
          refine j_ifeqZ (tgt := 266) hx hb dX4_restOf_113 (by decide) (fun c113 => ?_) (fun c113 => ?_)
          · skip
            refine lv_iinc (v := jI (j + 1)) (lv' := [(8, .int (jI (j + 1))), (0, .ref (r 0)), (1, .int (jI i)), (2, .int (jI op)), (3, .int (jI n)), (4, .int (jZ P)), (5, .long (jL le)), (7, .int (jI mo))]) hx hb dX4_restOf_266 hl (k := 7) rfl (jI_add _ _) (by decide) rfl (fun ls hl => ?_)
            refine lv_goto (tgt := 90) hx hb dX4_restOf_269 (by decide) ?_
            exact ih90 (j + 1, le, ls) ⟨⟨by omega, CD_skip c113 hj2⟩, by omega, lv_sub hl [1, 2, 3, 4, 5, 6, 7, 0] rfl⟩
          · skip
            refine lv_ldc2 (v := jL 1024) hx hb hown (hts (.constantLong RX4 93 (1024)) (by decide +kernel)) dX4_restOf_116 ?_
            refine lv_aload_n hx hb dX4_restOf_119 rfl (lv_at hl 0 rfl) ?_
            refine lv_iload_n hx hb dX4_restOf_120 rfl (lv_at hl 1 rfl) ?_
            refine lv_iload hx hb dX4_restOf_121 (lv_at hl 7 rfl) ?_
            refine j_cVL (As := [.int (jI i), .int (jI j)]) (rest := [.long (jL 1024)]) ⟨hx, hb, hml, hown, hts⟩ (kX4_costOf l D cI cJ cZ r σ hS0 rs kn be lm lf pm pf nw th pg i j (by omega)) (cwV 2 hts gX4_restOf_X4_costOf rfl rfl rfl (by decide +kernel) ⟨Nat.le_of_ble_eq_true rfl, Nat.le_of_ble_eq_true rfl⟩) hK hP (va_recv hK hP (ci := 4) (q0 := 0) rfl rfl) rfl hl.1 rfl (Nat.le_of_ble_eq_true rfl) ⟨Nat.zero_le _, Nat.zero_le _⟩ dX4_restOf_123 ?_
            refine j_lmul hx hb dX4_restOf_126 ?_
            refine j_lconst1 hx hb dX4_restOf_127 ?_
            refine j_ladd hx hb dX4_restOf_128 ?_
            refine lv_lstore (lv' := [(9, .long (jL ((1024 * (cst σ i j)) + 1))), (0, .ref (r 0)), (1, .int (jI i)), (2, .int (jI op)), (3, .int (jI n)), (4, .int (jZ P)), (5, .long (jL le)), (7, .int (jI mo)), (8, .int (jI j))]) hx hb dX4_restOf_129 hl (by decide) rfl (fun ls hl => ?_)
            refine lv_iload_n hx hb dX4_restOf_131 rfl (lv_at hl 3 rfl) ?_
            refine lv_aload_n hx hb dX4_restOf_132 rfl (lv_at hl 1 rfl) ?_
            refine va_get (D := D) (ci := 4) (v := .int (jI (sPp σ))) (C := RX4) (T := TX4) (N := 18) hx hb hts hinX4 hown hK hP 0 rfl rfl 1 (by decide) (hts (.fieldLink RX4 46 "BreakLinesModel" "perPage" "I") (by decide +kernel)) (fun _ h9 => h9) rfl dX4_restOf_133 ?_
            refine j_join (α := Int) (P := fun sa => Mn (fun y => op < sPp σ ∧ RS σ (Tm σ mo) (j + 1) (op + 1) P y) sa) (f := fun sa => F0 m 164 ls [.long (jL sa)]) ?_ (fun jn136 => ?_)
            · intro sa hvsa
              have hsa := hvsa.r0 (fun x q => (RS_B hS0 (by omega) (by omega) (by omega) q.2).1)
              have hto := tb (j + 1) 1 mo False (by omega) (by omega) (by omega) (by omega) (by omega) (by omega) hmo.2.2
              have hto0 := hto.r0 (fun x q => (RS_B hS0 (by omega) (by omega) (by omega) q).1)
              refine lv_lstore (lv' := [(11, .long (jL sa)), (9, .long (jL ((1024 * (cst σ i j)) + 1))), (0, .ref (r 0)), (1, .int (jI i)), (2, .int (jI op)), (3, .int (jI n)), (4, .int (jZ P)), (5, .long (jL le)), (7, .int (jI mo)), (8, .int (jI j))]) hx hb dX4_restOf_164 hl (by decide) rfl (fun ls hl => ?_)
              refine lv_aload_n hx hb dX4_restOf_166 rfl (lv_at hl 2 rfl) ?_
              refine va_get (D := D) (ci := 4) (v := .ref (r 5)) (C := RX4) (T := TX4) (N := 18) hx hb hts hinX4 hown hK hP 0 rfl rfl 8 (by decide) (hts (.fieldLink RX4 24 "BreakLinesModel" "rest" "[J") (by decide +kernel)) (fun _ h9 => h9) rfl dX4_restOf_167 ?_
              refine lv_iload hx hb dX4_restOf_170 (lv_at hl 9 rfl) ?_
              refine j_iconst hx hb dX4_restOf_172 ?_
              refine j_iadd hx hb dX4_restOf_173 ?_
              refine j_iconst hx hb dX4_restOf_174 ?_
              refine lv_iload hx hb dX4_restOf_175 (lv_at hl 8 rfl) ?_
              refine j_iconst hx hb dX4_restOf_177 ?_
              refine j_topi (y := (jZ False)) ((jZ_f id).symm) ?_
              refine j_cSI (As := [.int (jI (j + 1)), .int (jI 1), .int (jI mo), .int (jZ False)]) (rest := [.ref (r 5)]) ⟨hx, hb, hml, hown, hts⟩ (kX4_place l D cI cJ cZ (j + 1) 1 mo False) (va_cwS 4 hts gX4_restOf_X4_place rfl rfl rfl (by decide +kernel) ⟨Nat.le_of_ble_eq_true rfl, Nat.le_of_ble_eq_true rfl⟩) hK (hP.sub [] rfl) rfl hl.1 rfl (Nat.le_of_ble_eq_true rfl) ⟨Nat.zero_le _, Nat.zero_le _⟩ dX4_restOf_178 ?_
              refine j_lald hx hb hK hP 5 1 rfl rfl (i := plc (j + 1) 1 mo False) (by have := plc_B (j + 1) 1 mo False; omega) (by decide) dX4_restOf_181 ?_
              refine lv_lstore (lv' := [(13, .long (jL (rs (plc (j + 1) 1 mo False)))), (11, .long (jL sa)), (9, .long (jL ((1024 * (cst σ i j)) + 1))), (0, .ref (r 0)), (1, .int (jI i)), (2, .int (jI op)), (3, .int (jI n)), (4, .int (jZ P)), (5, .long (jL le)), (7, .int (jI mo)), (8, .int (jI j))]) hx hb dX4_restOf_182 hl (by decide) rfl (fun ls hl => ?_)
              refine lv_lload hx hb dX4_restOf_184 (lv_at hl 0 rfl) ?_
              refine lv_ldc2 (v := jL 4611686018427387904) hx hb hown (hts (.constantLong RX4 91 (4611686018427387904)) (by decide +kernel)) dX4_restOf_186 ?_
              refine j_join (α := Int) (P := fun ot => Mn (fun y => ∃ z, RS σ (Tm σ mo) (j + 1) 1 False z ∧ y = z + (1024 * trn σ (i - 1) + 32)) ot) (f := fun ot => F0 m 215 ls [.long (jL ot)]) ?_ (fun jn189 => ?_)
              · intro ot hvot
                have hot := hvot.r0 (fun x q => by obtain ⟨z, q1, q2⟩ := q; have := RS_B hS0 (by omega) (by omega) (by omega) q1; omega)
                refine lv_lstore (lv' := [(13, .long (jL ot)), (11, .long (jL sa)), (9, .long (jL ((1024 * (cst σ i j)) + 1))), (0, .ref (r 0)), (1, .int (jI i)), (2, .int (jI op)), (3, .int (jI n)), (4, .int (jZ P)), (5, .long (jL le)), (7, .int (jI mo)), (8, .int (jI j))]) hx hb dX4_restOf_215 hl (by decide) rfl (fun ls hl => ?_)
                refine lv_lload hx hb dX4_restOf_217 (lv_at hl 1 rfl) ?_
                refine lv_lload hx hb dX4_restOf_219 (lv_at hl 0 rfl) ?_
                refine j_join (α := Int) (P := fun on => Mn (fun y => (op < sPp σ ∧ RS σ (Tm σ mo) (j + 1) (op + 1) P y) ∨ (∃ z, RS σ (Tm σ mo) (j + 1) 1 False z ∧ y = z + (1024 * trn σ (i - 1) + 32))) on) (f := fun on => F0 m 232 ls [.long (jL on)]) ?_ (fun jn221 => ?_)
                · intro on hvon
                  have hon := hvon.r0 (fun x q => by rcases q with ⟨-, q⟩ | ⟨z, q1, q2⟩; exact (RS_B hS0 (by omega) (by omega) (by omega) q).1; have := RS_B hS0 (by omega) (by omega) (by omega) q1; omega)
                  refine lv_lstore (lv' := [(15, .long (jL on)), (13, .long (jL ot)), (11, .long (jL sa)), (9, .long (jL ((1024 * (cst σ i j)) + 1))), (0, .ref (r 0)), (1, .int (jI i)), (2, .int (jI op)), (3, .int (jI n)), (4, .int (jZ P)), (5, .long (jL le)), (7, .int (jI mo)), (8, .int (jI j))]) hx hb dX4_restOf_232 hl (by decide) rfl (fun ls hl => ?_)
                  refine lv_lload hx hb dX4_restOf_234 (lv_at hl 0 rfl) ?_
                  refine lv_ldc2 (v := jL 4611686018427387904) hx hb hown (hts (.constantLong RX4 91 (4611686018427387904)) (by decide +kernel)) dX4_restOf_236 ?_
                  refine j_join (α := Int) (P := fun le2 => Mn (fun x => ∃ t, i ≤ t ∧ t < j + 1 ∧ CD σ (Tm σ mo) i op P t x) le2) (f := fun le2 => F0 m 264 ls [.long (jL le2)]) ?_ (fun jn239 => ?_)
                  · intro le2 hvle2
                    refine lv_lstore (lv' := [(5, .long (jL le2)), (15, .long (jL on)), (13, .long (jL ot)), (11, .long (jL sa)), (9, .long (jL ((1024 * (cst σ i j)) + 1))), (0, .ref (r 0)), (1, .int (jI i)), (2, .int (jI op)), (3, .int (jI n)), (4, .int (jZ P)), (7, .int (jI mo)), (8, .int (jI j))]) hx hb dX4_restOf_264 hl (by decide) rfl (fun ls hl => ?_)
                    refine lv_iinc (v := jI (j + 1)) (lv' := [(8, .int (jI (j + 1))), (5, .long (jL le2)), (15, .long (jL on)), (13, .long (jL ot)), (11, .long (jL sa)), (9, .long (jL ((1024 * (cst σ i j)) + 1))), (0, .ref (r 0)), (1, .int (jI i)), (2, .int (jI op)), (3, .int (jI n)), (4, .int (jZ P)), (7, .int (jI mo))]) hx hb dX4_restOf_266 hl (k := 11) rfl (jI_add _ _) (by decide) rfl (fun ls hl => ?_)
                    refine lv_goto (tgt := 90) hx hb dX4_restOf_269 (by decide) ?_
                    exact ih90 (j + 1, le2, ls) ⟨⟨by omega, hvle2⟩, by omega, lv_sub hl [6, 7, 8, 9, 10, 1, 11, 0] rfl⟩
                  refine j_lcmp_eq (tgt := 262) hx hb (by unfold i64; omega) dX4_restOf_239 dX4_restOf_240 (by decide) (fun c239 => ?_) (fun c239 => ?_)
                  · skip
                    refine lv_lload hx hb dX4_restOf_262 (lv_at hl 9 rfl) ?_
                    exact jn239 le (CD_step hS0 (by omega) (by omega) (by omega) (by omega) c113 hj2 hvon (by omega))
                  · skip
                    refine lv_lload hx hb dX4_restOf_243 (lv_at hl 0 rfl) ?_
                    refine lv_lload hx hb dX4_restOf_245 (lv_at hl 3 rfl) ?_
                    refine j_ladd hx hb dX4_restOf_247 ?_
                    refine lv_lload hx hb dX4_restOf_248 (lv_at hl 9 rfl) ?_
                    refine j_lcmp_ge (tgt := 262) hx hb (by unfold i64; omega) dX4_restOf_250 dX4_restOf_251 (by decide) (fun c250 => ?_) (fun c250 => ?_)
                    · skip
                      refine lv_lload hx hb dX4_restOf_262 (lv_at hl 9 rfl) ?_
                      exact jn239 le (CD_step hS0 (by omega) (by omega) (by omega) (by omega) c113 hj2 hvon (by omega))
                    · skip
                      refine lv_lload hx hb dX4_restOf_254 (lv_at hl 0 rfl) ?_
                      refine lv_lload hx hb dX4_restOf_256 (lv_at hl 3 rfl) ?_
                      refine j_ladd hx hb dX4_restOf_258 ?_
                      refine lv_goto (tgt := 264) hx hb dX4_restOf_259 (by decide) ?_
                      exact jn239 (on + ((1024 * (cst σ i j)) + 1)) (CD_step hS0 (by omega) (by omega) (by omega) (by omega) c113 hj2 hvon (by omega))
                refine j_lcmp_ge (tgt := 230) hx hb (by unfold i64; omega) dX4_restOf_221 dX4_restOf_222 (by decide) (fun c221 => ?_) (fun c221 => ?_)
                · skip
                  refine lv_lload hx hb dX4_restOf_230 (lv_at hl 0 rfl) ?_
                  exact jn221 ot (Mn_or hvsa hvot (by omega))
                · skip
                  refine lv_lload hx hb dX4_restOf_225 (lv_at hl 1 rfl) ?_
                  refine lv_goto (tgt := 232) hx hb dX4_restOf_227 (by decide) ?_
                  exact jn221 sa (Mn_or hvsa hvot (by omega))
              refine j_lcmp_ne (tgt := 199) hx hb (by unfold i64; omega) dX4_restOf_189 dX4_restOf_190 (by decide) (fun c189 => ?_) (fun c189 => ?_)
              · skip
                refine lv_lload hx hb dX4_restOf_199 (lv_at hl 0 rfl) ?_
                refine lv_ldc2 (v := jL 1024) hx hb hown (hts (.constantLong RX4 93 (1024)) (by decide +kernel)) dX4_restOf_201 ?_
                refine lv_aload_n hx hb dX4_restOf_204 rfl (lv_at hl 3 rfl) ?_
                refine lv_iload_n hx hb dX4_restOf_205 rfl (lv_at hl 4 rfl) ?_
                refine j_cVL (As := [.int (jI i)]) (rest := [.long (jL 1024), .long (jL (rs (plc (j + 1) 1 mo False)))]) ⟨hx, hb, hml, hown, hts⟩ (kX4_turnAt l D cI cJ cZ r σ hS0 rs kn be lm lf pm pf nw th pg i (by omega)) (cwV 1 hts gX4_restOf_X4_turnAt rfl rfl rfl (by decide +kernel) ⟨Nat.le_of_ble_eq_true rfl, Nat.le_of_ble_eq_true rfl⟩) hK hP (va_recv hK hP (ci := 4) (q0 := 0) rfl rfl) rfl hl.1 rfl (Nat.le_of_ble_eq_true rfl) ⟨Nat.zero_le _, Nat.zero_le _⟩ dX4_restOf_206 ?_
                refine j_lmul hx hb dX4_restOf_209 ?_
                refine j_ladd hx hb dX4_restOf_210 ?_
                refine lv_ldc2 (v := jL 32) hx hb hown (hts (.constantLong RX4 110 (32)) (by decide +kernel)) dX4_restOf_211 ?_
                refine j_ladd hx hb dX4_restOf_214 ?_
                exact jn189 (((rs (plc (j + 1) 1 mo False)) + (1024 * (trn σ (i - 1)))) + 32) (Mn_sh hto (fun x q => by have := RS_B hS0 (by omega) (by omega) (by omega) q; omega) (by first | exact Or.inl ⟨c189, c189.symm⟩ | exact Or.inr ⟨c189, by omega⟩))
              · skip
                refine lv_ldc2 (v := jL 4611686018427387904) hx hb hown (hts (.constantLong RX4 91 (4611686018427387904)) (by decide +kernel)) dX4_restOf_193 ?_
                refine lv_goto (tgt := 215) hx hb dX4_restOf_196 (by decide) ?_
                exact jn189 4611686018427387904 (Mn_sh hto (fun x q => by have := RS_B hS0 (by omega) (by omega) (by omega) q; omega) (by first | exact Or.inl ⟨c189, c189.symm⟩ | exact Or.inr ⟨c189, by omega⟩))
            refine j_icmp_ge (tgt := 161) hx hb (by unfold i32; omega) dX4_restOf_136 (by decide) (fun c136 => ?_) (fun c136 => ?_)
            · skip
              refine lv_ldc2 (v := jL 4611686018427387904) hx hb hown (hts (.constantLong RX4 91 (4611686018427387904)) (by decide +kernel)) dX4_restOf_161 ?_
              exact jn136 4611686018427387904 (by first | exact Mn_0 (fun x q => by have := q.1; omega) | exact (tb (j + 1) (op + 1) mo P (by omega) (by omega) (by omega) (by omega) (by omega) (by omega) hmo.2.2).congr (fun x => ⟨fun q => ⟨by omega, q⟩, fun q => q.2⟩))
            · skip
              refine lv_aload_n hx hb dX4_restOf_139 rfl (lv_at hl 1 rfl) ?_
              refine va_get (D := D) (ci := 4) (v := .ref (r 5)) (C := RX4) (T := TX4) (N := 18) hx hb hts hinX4 hown hK hP 0 rfl rfl 8 (by decide) (hts (.fieldLink RX4 24 "BreakLinesModel" "rest" "[J") (by decide +kernel)) (fun _ h9 => h9) rfl dX4_restOf_140 ?_
              refine lv_iload hx hb dX4_restOf_143 (lv_at hl 8 rfl) ?_
              refine j_iconst hx hb dX4_restOf_145 ?_
              refine j_iadd hx hb dX4_restOf_146 ?_
              refine lv_iload_n hx hb dX4_restOf_147 rfl (lv_at hl 3 rfl) ?_
              refine j_iconst hx hb dX4_restOf_148 ?_
              refine j_iadd hx hb dX4_restOf_149 ?_
              refine lv_iload hx hb dX4_restOf_150 (lv_at hl 7 rfl) ?_
              refine lv_iload hx hb dX4_restOf_152 (lv_at hl 5 rfl) ?_
              refine j_cSI (As := [.int (jI (j + 1)), .int (jI (op + 1)), .int (jI mo), .int (jZ P)]) (rest := [.ref (r 5)]) ⟨hx, hb, hml, hown, hts⟩ (kX4_place l D cI cJ cZ (j + 1) (op + 1) mo P) (va_cwS 4 hts gX4_restOf_X4_place rfl rfl rfl (by decide +kernel) ⟨Nat.le_of_ble_eq_true rfl, Nat.le_of_ble_eq_true rfl⟩) hK (hP.sub [] rfl) rfl hl.1 rfl (Nat.le_of_ble_eq_true rfl) ⟨Nat.zero_le _, Nat.zero_le _⟩ dX4_restOf_154 ?_
              refine j_lald hx hb hK hP 5 1 rfl rfl (i := plc (j + 1) (op + 1) mo P) (by have := plc_B (j + 1) (op + 1) mo P; omega) (by decide) dX4_restOf_157 ?_
              refine lv_goto (tgt := 164) hx hb dX4_restOf_158 (by decide) ?_
              exact jn136 (rs (plc (j + 1) (op + 1) mo P)) (by first | exact Mn_0 (fun x q => by have := q.1; omega) | exact (tb (j + 1) (op + 1) mo P (by omega) (by omega) (by omega) (by omega) (by omega) (by omega) hmo.2.2).congr (fun x => ⟨fun q => ⟨by omega, q⟩, fun q => q.2⟩))
    refine j_if_ne (tgt := 82) hx hb (by unfold i32; omega) dX4_restOf_75 (by decide) (fun c75 => ?_) (fun c75 => ?_)
    · skip
      refine lv_iload_n hx hb dX4_restOf_82 rfl (lv_at hl 4 rfl) ?_
      refine j_iconst hx hb dX4_restOf_83 ?_
      refine j_iadd hx hb dX4_restOf_84 ?_
      exact jn75 (n + 1) (by first | exact (if_pos c75).symm | exact (if_neg c75).symm)
    · skip
      refine j_iconst hx hb dX4_restOf_78 ?_
      refine lv_goto (tgt := 85) hx hb dX4_restOf_79 (by decide) ?_
      exact jn75 0 (by first | exact (if_pos c75).symm | exact (if_neg c75).symm)
  · skip
    refine lv_aload_n hx hb dX4_restOf_8 rfl (lv_at hl 0 rfl) ?_
    refine va_get (D := D) (ci := 4) (v := .int (jI (sCt σ))) (C := RX4) (T := TX4) (N := 18) hx hb hts hinX4 hown hK hP 0 rfl rfl 7 (by decide) (hts (.fieldLink RX4 77 "BreakLinesModel" "due" "I") (by decide +kernel)) (fun _ h9 => h9) rfl dX4_restOf_9 ?_
    refine j_join (α := Prop) (P := fun rt => rt ↔ Tm σ n 0) (f := fun rt => F0 m 28 ls [.int (jZ rt)]) ?_ (fun jn12 => ?_)
    · intro rt hvrt
      refine lv_istore (lv' := [(5, .int (jZ rt)), (0, .ref (r 0)), (1, .int (jI i)), (2, .int (jI op)), (3, .int (jI n)), (4, .int (jZ P))]) hx hb dX4_restOf_28 hl (by decide) rfl (fun ls hl => ?_)
      refine lv_iload hx hb dX4_restOf_30 (lv_at hl 0 rfl) ?_
      refine j_ifneZ (tgt := 41) hx hb dX4_restOf_32 (by decide) (fun c32 => ?_) (fun c32 => ?_)
      · skip
        refine lv_iload_n hx hb dX4_restOf_41 rfl (lv_at hl 3 rfl) ?_
        refine j_iconst hx hb dX4_restOf_42 ?_
        refine j_icmp_ne (tgt := 64) hx hb (by unfold i32; omega) dX4_restOf_43 (by decide) (fun c43 => ?_) (fun c43 => ?_)
        · skip
          refine j_lconst0 hx hb dX4_restOf_64 ?_
          exact j_retL hx hb hr hlocks dX4_restOf_65 (congrArg jL (mnOf_eq (Mn_1 (fun x => (RS_end c5).trans ⟨fun z => z.2.trans (iteP_f (fun z => by first | exact c43 z.1 | exact z.2 c48) _ _), fun z => ⟨hvrt.mp c32, z.trans (iteP_f (fun z => by first | exact c43 z.1 | exact z.2 c48) _ _).symm⟩⟩) (by omega))))
        · skip
          refine lv_iload hx hb dX4_restOf_46 (lv_at hl 5 rfl) ?_
          refine j_ifneZ (tgt := 64) hx hb dX4_restOf_48 (by decide) (fun c48 => ?_) (fun c48 => ?_)
          · skip
            refine j_lconst0 hx hb dX4_restOf_64 ?_
            exact j_retL hx hb hr hlocks dX4_restOf_65 (congrArg jL (mnOf_eq (Mn_1 (fun x => (RS_end c5).trans ⟨fun z => z.2.trans (iteP_f (fun z => by first | exact c43 z.1 | exact z.2 c48) _ _), fun z => ⟨hvrt.mp c32, z.trans (iteP_f (fun z => by first | exact c43 z.1 | exact z.2 c48) _ _).symm⟩⟩) (by omega))))
          · skip
            refine lv_ldc2 (v := jL 1024) hx hb hown (hts (.constantLong RX4 93 (1024)) (by decide +kernel)) dX4_restOf_51 ?_
            refine lv_aload_n hx hb dX4_restOf_54 rfl (lv_at hl 1 rfl) ?_
            refine va_get (D := D) (ci := 4) (v := .ref (r 4)) (C := RX4) (T := TX4) (N := 18) hx hb hts hinX4 hown hK hP 0 rfl rfl 6 (by decide) (hts (.fieldLink RX4 20 "BreakLinesModel" "costs" "[J") (by decide +kernel)) (fun _ h9 => h9) rfl dX4_restOf_55 ?_
            refine j_iconst hx hb dX4_restOf_58 ?_
            refine j_lald hx hb hK hP 4 1 rfl rfl (i := 2) (by omega) (by decide) dX4_restOf_59 ?_
            refine j_lmul hx hb dX4_restOf_60 ?_
            refine lv_goto (tgt := 65) hx hb dX4_restOf_61 (by decide) ?_
            exact j_retL hx hb hr hlocks dX4_restOf_65 (congrArg jL (mnOf_eq (Mn_1 (fun x => (RS_end c5).trans ⟨fun z => z.2.trans (iteP_t ⟨c43, c48⟩ _ _), fun z => ⟨hvrt.mp c32, z.trans (iteP_t ⟨c43, c48⟩ _ _).symm⟩⟩) (by omega))))
      · skip
        refine lv_ldc2 (v := jL 4611686018427387904) hx hb hown (hts (.constantLong RX4 91 (4611686018427387904)) (by decide +kernel)) dX4_restOf_35 ?_
        refine lv_goto (tgt := 65) hx hb dX4_restOf_38 (by decide) ?_
        exact j_retL hx hb hr hlocks dX4_restOf_65 (congrArg jL (mnOf_eq (Mn_0 (fun x q => c32 (hvrt.mpr ((RS_end c5).mp q).1)))))
    refine j_if_eq (tgt := 23) hx hb (by unfold i32; omega) dX4_restOf_12 (by decide) (fun c12 => ?_) (fun c12 => ?_)
    · skip
      refine j_iconst hx hb dX4_restOf_23 ?_
      refine lv_goto (tgt := 28) hx hb dX4_restOf_24 (by decide) ?_
      refine j_topi (y := jZ True) ((jZ_t trivial).symm) ?_
      exact jn12 True (by unfold Tm; first | exact ⟨fun _ => Or.inl c12, fun _ => trivial⟩ | exact ⟨fun _ => Or.inr (by simp; omega), fun _ => trivial⟩ | exact ⟨fun z => z.elim, fun z => by simp at z; omega⟩)
    · skip
      refine lv_iload_n hx hb dX4_restOf_15 rfl (lv_at hl 3 rfl) ?_
      refine lv_aload_n hx hb dX4_restOf_16 rfl (lv_at hl 0 rfl) ?_
      refine va_get (D := D) (ci := 4) (v := .int (jI (sCt σ))) (C := RX4) (T := TX4) (N := 18) hx hb hts hinX4 hown hK hP 0 rfl rfl 7 (by decide) (hts (.fieldLink RX4 77 "BreakLinesModel" "due" "I") (by decide +kernel)) (fun _ h9 => h9) rfl dX4_restOf_17 ?_
      refine j_icmp_ne (tgt := 27) hx hb (by unfold i32; omega) dX4_restOf_20 (by decide) (fun c20 => ?_) (fun c20 => ?_)
      · skip
        refine j_iconst hx hb dX4_restOf_27 ?_
        refine j_topi (y := jZ False) ((jZ_f id).symm) ?_
        exact jn12 False (by unfold Tm; first | exact ⟨fun _ => Or.inl c12, fun _ => trivial⟩ | exact ⟨fun _ => Or.inr (by simp; omega), fun _ => trivial⟩ | exact ⟨fun z => z.elim, fun z => by simp at z; omega⟩)
      · skip
        refine j_iconst hx hb dX4_restOf_23 ?_
        refine lv_goto (tgt := 28) hx hb dX4_restOf_24 (by decide) ?_
        refine j_topi (y := jZ True) ((jZ_t trivial).symm) ?_
        exact jn12 True (by unfold Tm; first | exact ⟨fun _ => Or.inl c12, fun _ => trivial⟩ | exact ⟨fun _ => Or.inr (by simp; omega), fun _ => trivial⟩ | exact ⟨fun z => z.elim, fun z => by simp at z; omega⟩)
end
