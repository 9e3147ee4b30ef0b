/-! the constructors of the parts -/
noncomputable section
set_option maxHeartbeats 4000000 in
set_option maxRecDepth 100000 in
theorem kX0_init (l : Launch) (D : va_G) (cI cJ cZ : ClassId) (h0 : Nat) (wd pp : Int) : MuN l yX0_init wsX0_init 1 12 4 58 D (tyc cI cJ cZ) (([(h0, .inr (0, [.int (jI 0), .int (jI 0), .int (jI 0), .int (jI 0), .null, .null, .null, .null]))] : va_W)) [.ref h0, .int (jI wd), .int (jI pp)] (fun u : Nat × Nat × Nat × Nat => wPc (qF [h0, u.1, u.2.1, u.2.2.1, u.2.2.2]) cI 0 wd pp 0 cs0 zM zI zI) := by
  intro sz
  refine j_start RX0 rfl (by decide) rfl (Nat.le_of_ble_eq_true rfl) ?_
  intro p e s m below meth c ls hx hb hr hlocks hml hown hts hnm hl ⟨hsz, hP, hK, hD0⟩
  subst hsz
  have hD := hD0.self (sz := s.heap.size)
  generalize hAe : va_A (([(h0, .inr (0, [.int (jI 0), .int (jI 0), .int (jI 0), .int (jI 0), .null, .null, .null, .null]))] : va_W)) s.heap.size = A at hD ⊢
  have hA : ∀ q : Nat, s.heap.size ≤ q → A q := fun q h => by rw [← hAe]; exact Or.inr h
  refine j_gen (fun H locs hHe hLe => ?_)
  have hS : va_S A s.heap H locs := by rw [hHe, hLe]; exact va_S.rf
  have hP : va_P D vwCl (([(h0, .inr (0, [.int (jI 0), .int (jI 0), .int (jI 0), .int (jI 0), .null, .null, .null, .null]))] : va_W)) H := by rw [hHe]; exact hP
  have hD : va_D A (([(h0, .inr (0, [.int (jI 0), .int (jI 0), .int (jI 0), .int (jI 0), .null, .null, .null, .null]))] : va_W)) := hD
  have hl : lv_has ls 3 [(0, .ref h0), (1, .int (jI wd)), (2, .int (jI pp))] := hl
  have hinX0 : ∀ w ∈ u_ws RX0 TX0 8, w ∈ wsX0_init := by decide +kernel
  refine lv_aload_n hx hb dX0_init_0 rfl (lv_at hl 0 rfl) ?_
  refine W.objInit hx hb hown (hts (.methodLink RX0 3 objectInit) (by decide +kernel)) (hts (.instanceMethod objectInit) (by decide +kernel)) (hts (.code objectInit ⟨#[0xb1]⟩ 1 none) (by decide +kernel)) rfl (by rw [hml]; exact hl.1) rfl dX0_init_1 (Nat.le_of_ble_eq_true rfl) (Nat.le_of_ble_eq_true rfl) ?_
  refine W.eq (g2 := F0 m 4 ls []) rfl ?_
  refine lv_aload_n hx hb dX0_init_4 rfl (lv_at hl 0 rfl) ?_
  refine j_iconst hx hb dX0_init_5 ?_
  refine va_put (D := D) (ci := 0) (v := .int (jI 0)) (ty := .int) (C := RX0) (T := TX0) (N := 8) hx hb hts hinX0 tyX0 tyX0_ok nmX0 hown hK hP hD hS 0 rfl rfl 0 (by decide) (hts (.fieldLink RX0 9 "BreakLines$Piece" "bars" "I") (by decide +kernel)) (fun _ h9 => h9) rfl (by decide +kernel) rfl rfl (Nat.le_of_ble_eq_true rfl) dX0_init_6 (fun H locs hP hD hS => ?_)
  have hP : va_P D vwCl (([(h0, .inr (0, [.int (jI 0), .int (jI 0), .int (jI 0), .int (jI 0), .null, .null, .null, .null]))] : va_W)) H := hP
  have hD : va_D A (([(h0, .inr (0, [.int (jI 0), .int (jI 0), .int (jI 0), .int (jI 0), .null, .null, .null, .null]))] : va_W)) := hD
  refine lv_aload_n hx hb dX0_init_9 rfl (lv_at hl 0 rfl) ?_
  refine lv_iload_n hx hb dX0_init_10 rfl (lv_at hl 1 rfl) ?_
  refine va_put (D := D) (ci := 0) (v := .int (jI wd)) (ty := .int) (C := RX0) (T := TX0) (N := 8) hx hb hts hinX0 tyX0 tyX0_ok nmX0 hown hK hP hD hS 0 rfl rfl 1 (by decide) (hts (.fieldLink RX0 15 "BreakLines$Piece" "width" "I") (by decide +kernel)) (fun _ h9 => h9) rfl (by decide +kernel) rfl rfl (Nat.le_of_ble_eq_true rfl) dX0_init_11 (fun H locs hP hD hS => ?_)
  have hP : va_P D vwCl (([(h0, .inr (0, [.int (jI 0), .int (jI wd), .int (jI 0), .int (jI 0), .null, .null, .null, .null]))] : va_W)) H := hP
  have hD : va_D A (([(h0, .inr (0, [.int (jI 0), .int (jI wd), .int (jI 0), .int (jI 0), .null, .null, .null, .null]))] : va_W)) := hD
  refine lv_aload_n hx hb dX0_init_14 rfl (lv_at hl 0 rfl) ?_
  refine lv_iload_n hx hb dX0_init_15 rfl (lv_at hl 2 rfl) ?_
  refine va_put (D := D) (ci := 0) (v := .int (jI pp)) (ty := .int) (C := RX0) (T := TX0) (N := 8) hx hb hts hinX0 tyX0 tyX0_ok nmX0 hown hK hP hD hS 0 rfl rfl 2 (by decide) (hts (.fieldLink RX0 18 "BreakLines$Piece" "perPage" "I") (by decide +kernel)) (fun _ h9 => h9) rfl (by decide +kernel) rfl rfl (Nat.le_of_ble_eq_true rfl) dX0_init_16 (fun H locs hP hD hS => ?_)
  have hP : va_P D vwCl (([(h0, .inr (0, [.int (jI 0), .int (jI wd), .int (jI pp), .int (jI 0), .null, .null, .null, .null]))] : va_W)) H := hP
  have hD : va_D A (([(h0, .inr (0, [.int (jI 0), .int (jI wd), .int (jI pp), .int (jI 0), .null, .null, .null, .null]))] : va_W)) := hD
  refine lv_aload_n hx hb dX0_init_19 rfl (lv_at hl 0 rfl) ?_
  refine j_iconst hx hb dX0_init_20 ?_
  refine va_put (D := D) (ci := 0) (v := .int (jI 0)) (ty := .int) (C := RX0) (T := TX0) (N := 8) hx hb hts hinX0 tyX0 tyX0_ok nmX0 hown hK hP hD hS 0 rfl rfl 3 (by decide) (hts (.fieldLink RX0 21 "BreakLines$Piece" "count" "I") (by decide +kernel)) (fun _ h9 => h9) rfl (by decide +kernel) rfl rfl (Nat.le_of_ble_eq_true rfl) dX0_init_21 (fun H locs hP hD hS => ?_)
  have hP : va_P D vwCl (([(h0, .inr (0, [.int (jI 0), .int (jI wd), .int (jI pp), .int (jI 0), .null, .null, .null, .null]))] : va_W)) H := hP
  have hD : va_D A (([(h0, .inr (0, [.int (jI 0), .int (jI wd), .int (jI pp), .int (jI 0), .null, .null, .null, .null]))] : va_W)) := hD
  refine lv_aload_n hx hb dX0_init_24 rfl (lv_at hl 0 rfl) ?_
  refine j_iconst hx hb dX0_init_25 ?_
  refine j_newa (atype := .int) hx hb (hts (.arrayClass .int) (by decide +kernel)) rfl hK hP hD hS hA 0 rfl raI (a0 := (5, .inl (fun k : Nat => jI (zI k)))) 5 (fun cA => zcI cA 5) (by decide) (by decide) (Nat.le_of_ble_eq_true rfl) (Nat.le_of_ble_eq_true rfl) (c2 := 1) (s2 := 5) rfl rfl dX0_init_26 (fun q26 H hP hD hS => ?_)
  have hP : va_P D vwCl (([(h0, .inr (0, [.int (jI 0), .int (jI wd), .int (jI pp), .int (jI 0), .null, .null, .null, .null])), (q26, .inl (cI, (5, .inl (fun k : Nat => jI (zI k)))))] : va_W)) H := hP
  have hD : va_D A (([(h0, .inr (0, [.int (jI 0), .int (jI wd), .int (jI pp), .int (jI 0), .null, .null, .null, .null])), (q26, .inl (cI, (5, .inl (fun k : Nat => jI (zI k)))))] : va_W)) := hD
  refine va_putF (D := D) (ci := 0) (v := .ref q26) (ty := (.array .int)) (C := RX0) (T := TX0) (N := 8) hx hb hts hinX0 tyX0 tyX0_ok nmX0 hown hK hP hD hS 0 rfl rfl 4 (by decide) (hts (.fieldLink RX0 24 "BreakLines$Piece" "costs" "[I") (by decide +kernel)) (fun _ h9 => h9) rfl hnm rfl (by decide +kernel) rfl rfl (Nat.le_of_ble_eq_true rfl) dX0_init_28 (fun H locs hP hD hS => ?_)
  have hP : va_P D vwCl (([(h0, .inr (0, [.int (jI 0), .int (jI wd), .int (jI pp), .int (jI 0), .ref q26, .null, .null, .null])), (q26, .inl (cI, (5, .inl (fun k : Nat => jI (zI k)))))] : va_W)) H := hP
  have hD : va_D A (([(h0, .inr (0, [.int (jI 0), .int (jI wd), .int (jI pp), .int (jI 0), .ref q26, .null, .null, .null])), (q26, .inl (cI, (5, .inl (fun k : Nat => jI (zI k)))))] : va_W)) := hD
  refine lv_aload_n hx hb dX0_init_31 rfl (lv_at hl 0 rfl) ?_
  refine va_get (D := D) (ci := 0) (v := .ref q26) (C := RX0) (T := TX0) (N := 8) hx hb hts hinX0 hown hK hP 0 rfl rfl 4 (by decide) (hts (.fieldLink RX0 24 "BreakLines$Piece" "costs" "[I") (by decide +kernel)) (fun _ h9 => h9) rfl dX0_init_32 ?_
  refine j_iconst hx hb dX0_init_35 ?_
  refine j_iconst hx hb dX0_init_36 ?_
  refine j_iast hx hb hK hP hD hS 1 0 rfl rfl (i := 0) (by omega) (by decide) dX0_init_37 (fun H locs hP hD hS => ?_)
  have hP : va_P D vwCl (([(h0, .inr (0, [.int (jI 0), .int (jI wd), .int (jI pp), .int (jI 0), .ref q26, .null, .null, .null])), (q26, .inl (cI, (5, .inl (fun k : Nat => jI ((updI zI 0 4) k)))))] : va_W)) H := hP
  have hD : va_D A (([(h0, .inr (0, [.int (jI 0), .int (jI wd), .int (jI pp), .int (jI 0), .ref q26, .null, .null, .null])), (q26, .inl (cI, (5, .inl (fun k : Nat => jI ((updI zI 0 4) k)))))] : va_W)) := hD
  refine lv_aload_n hx hb dX0_init_38 rfl (lv_at hl 0 rfl) ?_
  refine va_get (D := D) (ci := 0) (v := .ref q26) (C := RX0) (T := TX0) (N := 8) hx hb hts hinX0 hown hK hP 0 rfl rfl 4 (by decide) (hts (.fieldLink RX0 24 "BreakLines$Piece" "costs" "[I") (by decide +kernel)) (fun _ h9 => h9) rfl dX0_init_39 ?_
  refine j_iconst hx hb dX0_init_42 ?_
  refine j_sipush hx hb dX0_init_43 (by decide) ?_
  refine j_iast hx hb hK hP hD hS 1 0 rfl rfl (i := 1) (by omega) (by decide) dX0_init_46 (fun H locs hP hD hS => ?_)
  have hP : va_P D vwCl (([(h0, .inr (0, [.int (jI 0), .int (jI wd), .int (jI pp), .int (jI 0), .ref q26, .null, .null, .null])), (q26, .inl (cI, (5, .inl (fun k : Nat => jI ((updI (updI zI 0 4) 1 1000) k)))))] : va_W)) H := hP
  have hD : va_D A (([(h0, .inr (0, [.int (jI 0), .int (jI wd), .int (jI pp), .int (jI 0), .ref q26, .null, .null, .null])), (q26, .inl (cI, (5, .inl (fun k : Nat => jI ((updI (updI zI 0 4) 1 1000) k)))))] : va_W)) := hD
  refine lv_aload_n hx hb dX0_init_47 rfl (lv_at hl 0 rfl) ?_
  refine va_get (D := D) (ci := 0) (v := .ref q26) (C := RX0) (T := TX0) (N := 8) hx hb hts hinX0 hown hK hP 0 rfl rfl 4 (by decide) (hts (.fieldLink RX0 24 "BreakLines$Piece" "costs" "[I") (by decide +kernel)) (fun _ h9 => h9) rfl dX0_init_48 ?_
  refine j_iconst hx hb dX0_init_51 ?_
  refine j_sipush hx hb dX0_init_52 (by decide) ?_
  refine j_iast hx hb hK hP hD hS 1 0 rfl rfl (i := 2) (by omega) (by decide) dX0_init_55 (fun H locs hP hD hS => ?_)
  have hP : va_P D vwCl (([(h0, .inr (0, [.int (jI 0), .int (jI wd), .int (jI pp), .int (jI 0), .ref q26, .null, .null, .null])), (q26, .inl (cI, (5, .inl (fun k : Nat => jI ((updI (updI (updI zI 0 4) 1 1000) 2 500) k)))))] : va_W)) H := hP
  have hD : va_D A (([(h0, .inr (0, [.int (jI 0), .int (jI wd), .int (jI pp), .int (jI 0), .ref q26, .null, .null, .null])), (q26, .inl (cI, (5, .inl (fun k : Nat => jI ((updI (updI (updI zI 0 4) 1 1000) 2 500) k)))))] : va_W)) := hD
  refine lv_aload_n hx hb dX0_init_56 rfl (lv_at hl 0 rfl) ?_
  refine va_get (D := D) (ci := 0) (v := .ref q26) (C := RX0) (T := TX0) (N := 8) hx hb hts hinX0 hown hK hP 0 rfl rfl 4 (by decide) (hts (.fieldLink RX0 24 "BreakLines$Piece" "costs" "[I") (by decide +kernel)) (fun _ h9 => h9) rfl dX0_init_57 ?_
  refine j_iconst hx hb dX0_init_60 ?_
  refine lv_ldc (v := jI 100000) hx hb hown (hts (.constant RX0 28 (100000)) (by decide +kernel)) dX0_init_61 ?_
  refine j_iast hx hb hK hP hD hS 1 0 rfl rfl (i := 3) (by omega) (by decide) dX0_init_63 (fun H locs hP hD hS => ?_)
  have hP : va_P D vwCl (([(h0, .inr (0, [.int (jI 0), .int (jI wd), .int (jI pp), .int (jI 0), .ref q26, .null, .null, .null])), (q26, .inl (cI, (5, .inl (fun k : Nat => jI ((updI (updI (updI (updI zI 0 4) 1 1000) 2 500) 3 100000) k)))))] : va_W)) H := hP
  have hD : va_D A (([(h0, .inr (0, [.int (jI 0), .int (jI wd), .int (jI pp), .int (jI 0), .ref q26, .null, .null, .null])), (q26, .inl (cI, (5, .inl (fun k : Nat => jI ((updI (updI (updI (updI zI 0 4) 1 1000) 2 500) 3 100000) k)))))] : va_W)) := hD
  refine lv_aload_n hx hb dX0_init_64 rfl (lv_at hl 0 rfl) ?_
  refine va_get (D := D) (ci := 0) (v := .ref q26) (C := RX0) (T := TX0) (N := 8) hx hb hts hinX0 hown hK hP 0 rfl rfl 4 (by decide) (hts (.fieldLink RX0 24 "BreakLines$Piece" "costs" "[I") (by decide +kernel)) (fun _ h9 => h9) rfl dX0_init_65 ?_
  refine j_iconst hx hb dX0_init_68 ?_
  refine j_iconst hx hb dX0_init_69 ?_
  refine j_iast hx hb hK hP hD hS 1 0 rfl rfl (i := 4) (by omega) (by decide) dX0_init_70 (fun H locs hP hD hS => ?_)
  have hP : va_P D vwCl (([(h0, .inr (0, [.int (jI 0), .int (jI wd), .int (jI pp), .int (jI 0), .ref q26, .null, .null, .null])), (q26, .inl (cI, (5, .inl (fun k : Nat => jI ((updI (updI (updI (updI (updI zI 0 4) 1 1000) 2 500) 3 100000) 4 1) k)))))] : va_W)) H := hP
  have hD : va_D A (([(h0, .inr (0, [.int (jI 0), .int (jI wd), .int (jI pp), .int (jI 0), .ref q26, .null, .null, .null])), (q26, .inl (cI, (5, .inl (fun k : Nat => jI ((updI (updI (updI (updI (updI zI 0 4) 1 1000) 2 500) 3 100000) 4 1) k)))))] : va_W)) := hD
  refine lv_aload_n hx hb dX0_init_71 rfl (lv_at hl 0 rfl) ?_
  refine j_iconst hx hb dX0_init_72 ?_
  refine j_newa (atype := .int) hx hb (hts (.arrayClass .int) (by decide +kernel)) rfl hK hP hD hS hA 0 rfl raI (a0 := (3, .inl zM)) 3 (fun cA => zcM cA 3) (by decide) (by decide) (Nat.le_of_ble_eq_true rfl) (Nat.le_of_ble_eq_true rfl) (c2 := 2) (s2 := 8) rfl rfl dX0_init_73 (fun q73 H hP hD hS => ?_)
  have hP : va_P D vwCl (([(h0, .inr (0, [.int (jI 0), .int (jI wd), .int (jI pp), .int (jI 0), .ref q26, .null, .null, .null])), (q26, .inl (cI, (5, .inl (fun k : Nat => jI ((updI (updI (updI (updI (updI zI 0 4) 1 1000) 2 500) 3 100000) 4 1) k))))), (q73, .inl (cI, (3, .inl zM)))] : va_W)) H := hP
  have hD : va_D A (([(h0, .inr (0, [.int (jI 0), .int (jI wd), .int (jI pp), .int (jI 0), .ref q26, .null, .null, .null])), (q26, .inl (cI, (5, .inl (fun k : Nat => jI ((updI (updI (updI (updI (updI zI 0 4) 1 1000) 2 500) 3 100000) 4 1) k))))), (q73, .inl (cI, (3, .inl zM)))] : va_W)) := hD
  refine va_putF (D := D) (ci := 0) (v := .ref q73) (ty := (.array .int)) (C := RX0) (T := TX0) (N := 8) hx hb hts hinX0 tyX0 tyX0_ok nmX0 hown hK hP hD hS 0 rfl rfl 5 (by decide) (hts (.fieldLink RX0 29 "BreakLines$Piece" "marked" "[I") (by decide +kernel)) (fun _ h9 => h9) rfl hnm rfl (by decide +kernel) rfl rfl (Nat.le_of_ble_eq_true rfl) dX0_init_75 (fun H locs hP hD hS => ?_)
  have hP : va_P D vwCl (([(h0, .inr (0, [.int (jI 0), .int (jI wd), .int (jI pp), .int (jI 0), .ref q26, .ref q73, .null, .null])), (q26, .inl (cI, (5, .inl (fun k : Nat => jI ((updI (updI (updI (updI (updI zI 0 4) 1 1000) 2 500) 3 100000) 4 1) k))))), (q73, .inl (cI, (3, .inl zM)))] : va_W)) H := hP
  have hD : va_D A (([(h0, .inr (0, [.int (jI 0), .int (jI wd), .int (jI pp), .int (jI 0), .ref q26, .ref q73, .null, .null])), (q26, .inl (cI, (5, .inl (fun k : Nat => jI ((updI (updI (updI (updI (updI zI 0 4) 1 1000) 2 500) 3 100000) 4 1) k))))), (q73, .inl (cI, (3, .inl zM)))] : va_W)) := hD
  refine lv_aload_n hx hb dX0_init_78 rfl (lv_at hl 0 rfl) ?_
  refine j_bipush hx hb dX0_init_79 (by decide) ?_
  refine j_newa (atype := .int) hx hb (hts (.arrayClass .int) (by decide +kernel)) rfl hK hP hD hS hA 0 rfl raI (a0 := (25, .inl (fun k : Nat => jI (zI k)))) 25 (fun cA => zcI cA 25) (by decide) (by decide) (Nat.le_of_ble_eq_true rfl) (Nat.le_of_ble_eq_true rfl) (c2 := 3) (s2 := 33) rfl rfl dX0_init_81 (fun q81 H hP hD hS => ?_)
  have hP : va_P D vwCl (([(h0, .inr (0, [.int (jI 0), .int (jI wd), .int (jI pp), .int (jI 0), .ref q26, .ref q73, .null, .null])), (q26, .inl (cI, (5, .inl (fun k : Nat => jI ((updI (updI (updI (updI (updI zI 0 4) 1 1000) 2 500) 3 100000) 4 1) k))))), (q73, .inl (cI, (3, .inl zM))), (q81, .inl (cI, (25, .inl (fun k : Nat => jI (zI k)))))] : va_W)) H := hP
  have hD : va_D A (([(h0, .inr (0, [.int (jI 0), .int (jI wd), .int (jI pp), .int (jI 0), .ref q26, .ref q73, .null, .null])), (q26, .inl (cI, (5, .inl (fun k : Nat => jI ((updI (updI (updI (updI (updI zI 0 4) 1 1000) 2 500) 3 100000) 4 1) k))))), (q73, .inl (cI, (3, .inl zM))), (q81, .inl (cI, (25, .inl (fun k : Nat => jI (zI k)))))] : va_W)) := hD
  refine va_putF (D := D) (ci := 0) (v := .ref q81) (ty := (.array .int)) (C := RX0) (T := TX0) (N := 8) hx hb hts hinX0 tyX0 tyX0_ok nmX0 hown hK hP hD hS 0 rfl rfl 6 (by decide) (hts (.fieldLink RX0 32 "BreakLines$Piece" "leastAhead" "[I") (by decide +kernel)) (fun _ h9 => h9) rfl hnm rfl (by decide +kernel) rfl rfl (Nat.le_of_ble_eq_true rfl) dX0_init_83 (fun H locs hP hD hS => ?_)
  have hP : va_P D vwCl (([(h0, .inr (0, [.int (jI 0), .int (jI wd), .int (jI pp), .int (jI 0), .ref q26, .ref q73, .ref q81, .null])), (q26, .inl (cI, (5, .inl (fun k : Nat => jI ((updI (updI (updI (updI (updI zI 0 4) 1 1000) 2 500) 3 100000) 4 1) k))))), (q73, .inl (cI, (3, .inl zM))), (q81, .inl (cI, (25, .inl (fun k : Nat => jI (zI k)))))] : va_W)) H := hP
  have hD : va_D A (([(h0, .inr (0, [.int (jI 0), .int (jI wd), .int (jI pp), .int (jI 0), .ref q26, .ref q73, .ref q81, .null])), (q26, .inl (cI, (5, .inl (fun k : Nat => jI ((updI (updI (updI (updI (updI zI 0 4) 1 1000) 2 500) 3 100000) 4 1) k))))), (q73, .inl (cI, (3, .inl zM))), (q81, .inl (cI, (25, .inl (fun k : Nat => jI (zI k)))))] : va_W)) := hD
  refine lv_aload_n hx hb dX0_init_86 rfl (lv_at hl 0 rfl) ?_
  refine j_bipush hx hb dX0_init_87 (by decide) ?_
  refine j_newa (atype := .int) hx hb (hts (.arrayClass .int) (by decide +kernel)) rfl hK hP hD hS hA 0 rfl raI (a0 := (25, .inl (fun k : Nat => jI (zI k)))) 25 (fun cA => zcI cA 25) (by decide) (by decide) (Nat.le_of_ble_eq_true rfl) (Nat.le_of_ble_eq_true rfl) (c2 := 4) (s2 := 58) rfl rfl dX0_init_89 (fun q89 H hP hD hS => ?_)
  have hP : va_P D vwCl (([(h0, .inr (0, [.int (jI 0), .int (jI wd), .int (jI pp), .int (jI 0), .ref q26, .ref q73, .ref q81, .null])), (q26, .inl (cI, (5, .inl (fun k : Nat => jI ((updI (updI (updI (updI (updI zI 0 4) 1 1000) 2 500) 3 100000) 4 1) k))))), (q73, .inl (cI, (3, .inl zM))), (q81, .inl (cI, (25, .inl (fun k : Nat => jI (zI k))))), (q89, .inl (cI, (25, .inl (fun k : Nat => jI (zI k)))))] : va_W)) H := hP
  have hD : va_D A (([(h0, .inr (0, [.int (jI 0), .int (jI wd), .int (jI pp), .int (jI 0), .ref q26, .ref q73, .ref q81, .null])), (q26, .inl (cI, (5, .inl (fun k : Nat => jI ((updI (updI (updI (updI (updI zI 0 4) 1 1000) 2 500) 3 100000) 4 1) k))))), (q73, .inl (cI, (3, .inl zM))), (q81, .inl (cI, (25, .inl (fun k : Nat => jI (zI k))))), (q89, .inl (cI, (25, .inl (fun k : Nat => jI (zI k)))))] : va_W)) := hD
  refine va_putF (D := D) (ci := 0) (v := .ref q89) (ty := (.array .int)) (C := RX0) (T := TX0) (N := 8) hx hb hts hinX0 tyX0 tyX0_ok nmX0 hown hK hP hD hS 0 rfl rfl 7 (by decide) (hts (.fieldLink RX0 35 "BreakLines$Piece" "wishedAhead" "[I") (by decide +kernel)) (fun _ h9 => h9) rfl hnm rfl (by decide +kernel) rfl rfl (Nat.le_of_ble_eq_true rfl) dX0_init_91 (fun H locs hP hD hS => ?_)
  have hP : va_P D vwCl (([(h0, .inr (0, [.int (jI 0), .int (jI wd), .int (jI pp), .int (jI 0), .ref q26, .ref q73, .ref q81, .ref q89])), (q26, .inl (cI, (5, .inl (fun k : Nat => jI ((updI (updI (updI (updI (updI zI 0 4) 1 1000) 2 500) 3 100000) 4 1) k))))), (q73, .inl (cI, (3, .inl zM))), (q81, .inl (cI, (25, .inl (fun k : Nat => jI (zI k))))), (q89, .inl (cI, (25, .inl (fun k : Nat => jI (zI k)))))] : va_W)) H := hP
  have hD : va_D A (([(h0, .inr (0, [.int (jI 0), .int (jI wd), .int (jI pp), .int (jI 0), .ref q26, .ref q73, .ref q81, .ref q89])), (q26, .inl (cI, (5, .inl (fun k : Nat => jI ((updI (updI (updI (updI (updI zI 0 4) 1 1000) 2 500) 3 100000) 4 1) k))))), (q73, .inl (cI, (3, .inl zM))), (q81, .inl (cI, (25, .inl (fun k : Nat => jI (zI k))))), (q89, .inl (cI, (25, .inl (fun k : Nat => jI (zI k)))))] : va_W)) := hD
  refine j_cret hx hb hr hlocks hS dX0_init_94 (q26, q73, q81, q89) (hP.sub [0, 1, 2, 3, 4] rfl) (hD.sub [0, 1, 2, 3, 4] (by decide) rfl)
set_option maxHeartbeats 4000000 in
set_option maxRecDepth 100000 in
theorem kX1_init (l : Launch) (D : va_G) (cI cJ cZ : ClassId) (h0 : Nat) (pp : Nat) : MuN l yX1_init wsX1_init 1 12 4 984 D (tyc cI cJ cZ) (([(h0, .inr (1, [.null, .null, .null, .null, .null, .long (jL 0), .long (jL 0)]))] : va_W)) [.ref h0, .ref pp] (fun u : Nat × Nat × Nat × Nat => wSe (qF [pp, 0, 0, 0, 0, h0, u.1, u.2.1, u.2.2.1, u.2.2.2]) cJ zI zI zI zI 9223372036854775807 0) := by
  intro sz
  refine j_start RX1 rfl (by decide) rfl (Nat.le_of_ble_eq_true rfl) ?_
  intro p e s m below meth c ls hx hb hr hlocks hml hown hts hnm hl ⟨hsz, hP, hK, hD0⟩
  subst hsz
  have hD := hD0.self (sz := s.heap.size)
  generalize hAe : va_A (([(h0, .inr (1, [.null, .null, .null, .null, .null, .long (jL 0), .long (jL 0)]))] : va_W)) s.heap.size = A at hD ⊢
  have hA : ∀ q : Nat, s.heap.size ≤ q → A q := fun q h => by rw [← hAe]; exact Or.inr h
  refine j_gen (fun H locs hHe hLe => ?_)
  have hS : va_S A s.heap H locs := by rw [hHe, hLe]; exact va_S.rf
  have hP : va_P D vwCl (([(h0, .inr (1, [.null, .null, .null, .null, .null, .long (jL 0), .long (jL 0)]))] : va_W)) H := by rw [hHe]; exact hP
  have hD : va_D A (([(h0, .inr (1, [.null, .null, .null, .null, .null, .long (jL 0), .long (jL 0)]))] : va_W)) := hD
  have hl : lv_has ls 2 [(0, .ref h0), (1, .ref pp)] := hl
  have hinX1 : ∀ w ∈ u_ws RX1 TX1 7, w ∈ wsX1_init := by decide +kernel
  refine lv_aload_n hx hb dX1_init_0 rfl (lv_at hl 0 rfl) ?_
  refine W.objInit hx hb hown (hts (.methodLink RX1 5 objectInit) (by decide +kernel)) (hts (.instanceMethod objectInit) (by decide +kernel)) (hts (.code objectInit ⟨#[0xb1]⟩ 1 none) (by decide +kernel)) rfl (by rw [hml]; exact hl.1) rfl dX1_init_1 (Nat.le_of_ble_eq_true rfl) (Nat.le_of_ble_eq_true rfl) ?_
  refine W.eq (g2 := F0 m 4 ls []) rfl ?_
  refine lv_aload_n hx hb dX1_init_4 rfl (lv_at hl 0 rfl) ?_
  refine lv_aload_n hx hb dX1_init_5 rfl (lv_at hl 1 rfl) ?_
  refine va_putF (D := D) (ci := 1) (v := .ref pp) (ty := (.object "BreakLines$Piece")) (C := RX1) (T := TX1) (N := 7) hx hb hts hinX1 tyX1 tyX1_ok nmX1 hown hK hP hD hS 0 rfl rfl 0 (by decide) (hts (.fieldLink RX1 11 "BreakLines$Search" "piece" "LBreakLines$Piece;") (by decide +kernel)) (fun _ h9 => h9) rfl hnm rfl (by decide +kernel) rfl rfl (Nat.le_of_ble_eq_true rfl) dX1_init_6 (fun H locs hP hD hS => ?_)
  have hP : va_P D vwCl (([(h0, .inr (1, [.ref pp, .null, .null, .null, .null, .long (jL 0), .long (jL 0)]))] : va_W)) H := hP
  have hD : va_D A (([(h0, .inr (1, [.ref pp, .null, .null, .null, .null, .long (jL 0), .long (jL 0)]))] : va_W)) := hD
  refine lv_aload_n hx hb dX1_init_9 rfl (lv_at hl 0 rfl) ?_
  refine j_sipush hx hb dX1_init_10 (by decide) ?_
  refine j_newa (atype := .long) hx hb (hts (.arrayClass .long) (by decide +kernel)) rfl hK hP hD hS hA 1 rfl raL (a0 := (576, .inr (.inl (fun k : Nat => jL (zI k))))) 576 (fun cA => zcL cA 576) (by decide) (by decide) (Nat.le_of_ble_eq_true rfl) (Nat.le_of_ble_eq_true rfl) (c2 := 1) (s2 := 576) rfl rfl dX1_init_13 (fun q13 H hP hD hS => ?_)
  have hP : va_P D vwCl (([(h0, .inr (1, [.ref pp, .null, .null, .null, .null, .long (jL 0), .long (jL 0)])), (q13, .inl (cJ, (576, .inr (.inl (fun k : Nat => jL (zI k))))))] : va_W)) H := hP
  have hD : va_D A (([(h0, .inr (1, [.ref pp, .null, .null, .null, .null, .long (jL 0), .long (jL 0)])), (q13, .inl (cJ, (576, .inr (.inl (fun k : Nat => jL (zI k))))))] : va_W)) := hD
  refine va_putF (D := D) (ci := 1) (v := .ref q13) (ty := (.array .long)) (C := RX1) (T := TX1) (N := 7) hx hb hts hinX1 tyX1 tyX1_ok nmX1 hown hK hP hD hS 0 rfl rfl 1 (by decide) (hts (.fieldLink RX1 17 "BreakLines$Search" "linePrices" "[J") (by decide +kernel)) (fun _ h9 => h9) rfl hnm rfl (by decide +kernel) rfl rfl (Nat.le_of_ble_eq_true rfl) dX1_init_15 (fun H locs hP hD hS => ?_)
  have hP : va_P D vwCl (([(h0, .inr (1, [.ref pp, .ref q13, .null, .null, .null, .long (jL 0), .long (jL 0)])), (q13, .inl (cJ, (576, .inr (.inl (fun k : Nat => jL (zI k))))))] : va_W)) H := hP
  have hD : va_D A (([(h0, .inr (1, [.ref pp, .ref q13, .null, .null, .null, .long (jL 0), .long (jL 0)])), (q13, .inl (cJ, (576, .inr (.inl (fun k : Nat => jL (zI k))))))] : va_W)) := hD
  refine lv_aload_n hx hb dX1_init_18 rfl (lv_at hl 0 rfl) ?_
  refine j_bipush hx hb dX1_init_19 (by decide) ?_
  refine j_newa (atype := .long) hx hb (hts (.arrayClass .long) (by decide +kernel)) rfl hK hP hD hS hA 1 rfl raL (a0 := (24, .inr (.inl (fun k : Nat => jL (zI k))))) 24 (fun cA => zcL cA 24) (by decide) (by decide) (Nat.le_of_ble_eq_true rfl) (Nat.le_of_ble_eq_true rfl) (c2 := 2) (s2 := 600) rfl rfl dX1_init_21 (fun q21 H hP hD hS => ?_)
  have hP : va_P D vwCl (([(h0, .inr (1, [.ref pp, .ref q13, .null, .null, .null, .long (jL 0), .long (jL 0)])), (q13, .inl (cJ, (576, .inr (.inl (fun k : Nat => jL (zI k)))))), (q21, .inl (cJ, (24, .inr (.inl (fun k : Nat => jL (zI k))))))] : va_W)) H := hP
  have hD : va_D A (([(h0, .inr (1, [.ref pp, .ref q13, .null, .null, .null, .long (jL 0), .long (jL 0)])), (q13, .inl (cJ, (576, .inr (.inl (fun k : Nat => jL (zI k)))))), (q21, .inl (cJ, (24, .inr (.inl (fun k : Nat => jL (zI k))))))] : va_W)) := hD
  refine va_putF (D := D) (ci := 1) (v := .ref q21) (ty := (.array .long)) (C := RX1) (T := TX1) (N := 7) hx hb hts hinX1 tyX1 tyX1_ok nmX1 hown hK hP hD hS 0 rfl rfl 2 (by decide) (hts (.fieldLink RX1 21 "BreakLines$Search" "turnPrices" "[J") (by decide +kernel)) (fun _ h9 => h9) rfl hnm rfl (by decide +kernel) rfl rfl (Nat.le_of_ble_eq_true rfl) dX1_init_23 (fun H locs hP hD hS => ?_)
  have hP : va_P D vwCl (([(h0, .inr (1, [.ref pp, .ref q13, .ref q21, .null, .null, .long (jL 0), .long (jL 0)])), (q13, .inl (cJ, (576, .inr (.inl (fun k : Nat => jL (zI k)))))), (q21, .inl (cJ, (24, .inr (.inl (fun k : Nat => jL (zI k))))))] : va_W)) H := hP
  have hD : va_D A (([(h0, .inr (1, [.ref pp, .ref q13, .ref q21, .null, .null, .long (jL 0), .long (jL 0)])), (q13, .inl (cJ, (576, .inr (.inl (fun k : Nat => jL (zI k)))))), (q21, .inl (cJ, (24, .inr (.inl (fun k : Nat => jL (zI k))))))] : va_W)) := hD
  refine lv_aload_n hx hb dX1_init_26 rfl (lv_at hl 0 rfl) ?_
  refine j_sipush hx hb dX1_init_27 (by decide) ?_
  refine j_newa (atype := .long) hx hb (hts (.arrayClass .long) (by decide +kernel)) rfl hK hP hD hS hA 1 rfl raL (a0 := (192, .inr (.inl (fun k : Nat => jL (zI k))))) 192 (fun cA => zcL cA 192) (by decide) (by decide) (Nat.le_of_ble_eq_true rfl) (Nat.le_of_ble_eq_true rfl) (c2 := 3) (s2 := 792) rfl rfl dX1_init_30 (fun q30 H hP hD hS => ?_)
  have hP : va_P D vwCl (([(h0, .inr (1, [.ref pp, .ref q13, .ref q21, .null, .null, .long (jL 0), .long (jL 0)])), (q13, .inl (cJ, (576, .inr (.inl (fun k : Nat => jL (zI k)))))), (q21, .inl (cJ, (24, .inr (.inl (fun k : Nat => jL (zI k)))))), (q30, .inl (cJ, (192, .inr (.inl (fun k : Nat => jL (zI k))))))] : va_W)) H := hP
  have hD : va_D A (([(h0, .inr (1, [.ref pp, .ref q13, .ref q21, .null, .null, .long (jL 0), .long (jL 0)])), (q13, .inl (cJ, (576, .inr (.inl (fun k : Nat => jL (zI k)))))), (q21, .inl (cJ, (24, .inr (.inl (fun k : Nat => jL (zI k)))))), (q30, .inl (cJ, (192, .inr (.inl (fun k : Nat => jL (zI k))))))] : va_W)) := hD
  refine va_putF (D := D) (ci := 1) (v := .ref q30) (ty := (.array .long)) (C := RX1) (T := TX1) (N := 7) hx hb hts hinX1 tyX1 tyX1_ok nmX1 hown hK hP hD hS 0 rfl rfl 3 (by decide) (hts (.fieldLink RX1 24 "BreakLines$Search" "ranks" "[J") (by decide +kernel)) (fun _ h9 => h9) rfl hnm rfl (by decide +kernel) rfl rfl (Nat.le_of_ble_eq_true rfl) dX1_init_32 (fun H locs hP hD hS => ?_)
  have hP : va_P D vwCl (([(h0, .inr (1, [.ref pp, .ref q13, .ref q21, .ref q30, .null, .long (jL 0), .long (jL 0)])), (q13, .inl (cJ, (576, .inr (.inl (fun k : Nat => jL (zI k)))))), (q21, .inl (cJ, (24, .inr (.inl (fun k : Nat => jL (zI k)))))), (q30, .inl (cJ, (192, .inr (.inl (fun k : Nat => jL (zI k))))))] : va_W)) H := hP
  have hD : va_D A (([(h0, .inr (1, [.ref pp, .ref q13, .ref q21, .ref q30, .null, .long (jL 0), .long (jL 0)])), (q13, .inl (cJ, (576, .inr (.inl (fun k : Nat => jL (zI k)))))), (q21, .inl (cJ, (24, .inr (.inl (fun k : Nat => jL (zI k)))))), (q30, .inl (cJ, (192, .inr (.inl (fun k : Nat => jL (zI k))))))] : va_W)) := hD
  refine lv_aload_n hx hb dX1_init_35 rfl (lv_at hl 0 rfl) ?_
  refine j_sipush hx hb dX1_init_36 (by decide) ?_
  refine j_newa (atype := .long) hx hb (hts (.arrayClass .long) (by decide +kernel)) rfl hK hP hD hS hA 1 rfl raL (a0 := (192, .inr (.inl (fun k : Nat => jL (zI k))))) 192 (fun cA => zcL cA 192) (by decide) (by decide) (Nat.le_of_ble_eq_true rfl) (Nat.le_of_ble_eq_true rfl) (c2 := 4) (s2 := 984) rfl rfl dX1_init_39 (fun q39 H hP hD hS => ?_)
  have hP : va_P D vwCl (([(h0, .inr (1, [.ref pp, .ref q13, .ref q21, .ref q30, .null, .long (jL 0), .long (jL 0)])), (q13, .inl (cJ, (576, .inr (.inl (fun k : Nat => jL (zI k)))))), (q21, .inl (cJ, (24, .inr (.inl (fun k : Nat => jL (zI k)))))), (q30, .inl (cJ, (192, .inr (.inl (fun k : Nat => jL (zI k)))))), (q39, .inl (cJ, (192, .inr (.inl (fun k : Nat => jL (zI k))))))] : va_W)) H := hP
  have hD : va_D A (([(h0, .inr (1, [.ref pp, .ref q13, .ref q21, .ref q30, .null, .long (jL 0), .long (jL 0)])), (q13, .inl (cJ, (576, .inr (.inl (fun k : Nat => jL (zI k)))))), (q21, .inl (cJ, (24, .inr (.inl (fun k : Nat => jL (zI k)))))), (q30, .inl (cJ, (192, .inr (.inl (fun k : Nat => jL (zI k)))))), (q39, .inl (cJ, (192, .inr (.inl (fun k : Nat => jL (zI k))))))] : va_W)) := hD
  refine va_putF (D := D) (ci := 1) (v := .ref q39) (ty := (.array .long)) (C := RX1) (T := TX1) (N := 7) hx hb hts hinX1 tyX1 tyX1_ok nmX1 hown hK hP hD hS 0 rfl rfl 4 (by decide) (hts (.fieldLink RX1 27 "BreakLines$Search" "orders" "[J") (by decide +kernel)) (fun _ h9 => h9) rfl hnm rfl (by decide +kernel) rfl rfl (Nat.le_of_ble_eq_true rfl) dX1_init_41 (fun H locs hP hD hS => ?_)
  have hP : va_P D vwCl (([(h0, .inr (1, [.ref pp, .ref q13, .ref q21, .ref q30, .ref q39, .long (jL 0), .long (jL 0)])), (q13, .inl (cJ, (576, .inr (.inl (fun k : Nat => jL (zI k)))))), (q21, .inl (cJ, (24, .inr (.inl (fun k : Nat => jL (zI k)))))), (q30, .inl (cJ, (192, .inr (.inl (fun k : Nat => jL (zI k)))))), (q39, .inl (cJ, (192, .inr (.inl (fun k : Nat => jL (zI k))))))] : va_W)) H := hP
  have hD : va_D A (([(h0, .inr (1, [.ref pp, .ref q13, .ref q21, .ref q30, .ref q39, .long (jL 0), .long (jL 0)])), (q13, .inl (cJ, (576, .inr (.inl (fun k : Nat => jL (zI k)))))), (q21, .inl (cJ, (24, .inr (.inl (fun k : Nat => jL (zI k)))))), (q30, .inl (cJ, (192, .inr (.inl (fun k : Nat => jL (zI k)))))), (q39, .inl (cJ, (192, .inr (.inl (fun k : Nat => jL (zI k))))))] : va_W)) := hD
  refine lv_aload_n hx hb dX1_init_44 rfl (lv_at hl 0 rfl) ?_
  refine lv_ldc2 (v := jL 9223372036854775807) hx hb hown (hts (.constantLong RX1 30 (9223372036854775807)) (by decide +kernel)) dX1_init_45 ?_
  refine va_put (D := D) (ci := 1) (v := .long (jL 9223372036854775807)) (ty := .long) (C := RX1) (T := TX1) (N := 7) hx hb hts hinX1 tyX1 tyX1_ok nmX1 hown hK hP hD hS 0 rfl rfl 5 (by decide) (hts (.fieldLink RX1 32 "BreakLines$Search" "foundRank" "J") (by decide +kernel)) (fun _ h9 => h9) rfl (by decide +kernel) rfl rfl (Nat.le_of_ble_eq_true rfl) dX1_init_48 (fun H locs hP hD hS => ?_)
  have hP : va_P D vwCl (([(h0, .inr (1, [.ref pp, .ref q13, .ref q21, .ref q30, .ref q39, .long (jL 9223372036854775807), .long (jL 0)])), (q13, .inl (cJ, (576, .inr (.inl (fun k : Nat => jL (zI k)))))), (q21, .inl (cJ, (24, .inr (.inl (fun k : Nat => jL (zI k)))))), (q30, .inl (cJ, (192, .inr (.inl (fun k : Nat => jL (zI k)))))), (q39, .inl (cJ, (192, .inr (.inl (fun k : Nat => jL (zI k))))))] : va_W)) H := hP
  have hD : va_D A (([(h0, .inr (1, [.ref pp, .ref q13, .ref q21, .ref q30, .ref q39, .long (jL 9223372036854775807), .long (jL 0)])), (q13, .inl (cJ, (576, .inr (.inl (fun k : Nat => jL (zI k)))))), (q21, .inl (cJ, (24, .inr (.inl (fun k : Nat => jL (zI k)))))), (q30, .inl (cJ, (192, .inr (.inl (fun k : Nat => jL (zI k)))))), (q39, .inl (cJ, (192, .inr (.inl (fun k : Nat => jL (zI k))))))] : va_W)) := hD
  refine lv_aload_n hx hb dX1_init_51 rfl (lv_at hl 0 rfl) ?_
  refine j_lconst0 hx hb dX1_init_52 ?_
  refine va_put (D := D) (ci := 1) (v := .long (jL 0)) (ty := .long) (C := RX1) (T := TX1) (N := 7) hx hb hts hinX1 tyX1 tyX1_ok nmX1 hown hK hP hD hS 0 rfl rfl 6 (by decide) (hts (.fieldLink RX1 36 "BreakLines$Search" "foundOrder" "J") (by decide +kernel)) (fun _ h9 => h9) rfl (by decide +kernel) rfl rfl (Nat.le_of_ble_eq_true rfl) dX1_init_53 (fun H locs hP hD hS => ?_)
  have hP : va_P D vwCl (([(h0, .inr (1, [.ref pp, .ref q13, .ref q21, .ref q30, .ref q39, .long (jL 9223372036854775807), .long (jL 0)])), (q13, .inl (cJ, (576, .inr (.inl (fun k : Nat => jL (zI k)))))), (q21, .inl (cJ, (24, .inr (.inl (fun k : Nat => jL (zI k)))))), (q30, .inl (cJ, (192, .inr (.inl (fun k : Nat => jL (zI k)))))), (q39, .inl (cJ, (192, .inr (.inl (fun k : Nat => jL (zI k))))))] : va_W)) H := hP
  have hD : va_D A (([(h0, .inr (1, [.ref pp, .ref q13, .ref q21, .ref q30, .ref q39, .long (jL 9223372036854775807), .long (jL 0)])), (q13, .inl (cJ, (576, .inr (.inl (fun k : Nat => jL (zI k)))))), (q21, .inl (cJ, (24, .inr (.inl (fun k : Nat => jL (zI k)))))), (q30, .inl (cJ, (192, .inr (.inl (fun k : Nat => jL (zI k)))))), (q39, .inl (cJ, (192, .inr (.inl (fun k : Nat => jL (zI k))))))] : va_W)) := hD
  refine j_cret hx hb hr hlocks hS dX1_init_56 (q13, q21, q30, q39) (hP.sub [0, 1, 2, 3, 4] rfl) (hD.sub [0, 1, 2, 3, 4] (by decide) rfl)
set_option maxHeartbeats 4000000 in
set_option maxRecDepth 100000 in
theorem kX2_init (l : Launch) (D : va_G) (cI cJ cZ : ClassId) (h0 : Nat) : MuN l yX2_init wsX2_init 1 12 4 98 D (tyc cI cJ cZ) (([(h0, .inr (2, [.int (jI 0), .long (jL 0), .int (jI 0), .int (jI 0), .null, .null, .null, .null]))] : va_W)) [.ref h0] (fun u : Nat × Nat × Nat × Nat => wSt (qF [0, 0, 0, 0, 0, 0, 0, 0, 0, 0, h0, u.1, u.2.1, u.2.2.1, u.2.2.2]) cI False 0 0 0 zI zI zI zI) := by
  intro sz
  refine j_start RX2 rfl (by decide) rfl (Nat.le_of_ble_eq_true rfl) ?_
  intro p e s m below meth c ls hx hb hr hlocks hml hown hts hnm hl ⟨hsz, hP, hK, hD0⟩
  subst hsz
  have hD := hD0.self (sz := s.heap.size)
  generalize hAe : va_A (([(h0, .inr (2, [.int (jI 0), .long (jL 0), .int (jI 0), .int (jI 0), .null, .null, .null, .null]))] : va_W)) s.heap.size = A at hD ⊢
  have hA : ∀ q : Nat, s.heap.size ≤ q → A q := fun q h => by rw [← hAe]; exact Or.inr h
  refine j_gen (fun H locs hHe hLe => ?_)
  have hS : va_S A s.heap H locs := by rw [hHe, hLe]; exact va_S.rf
  have hP : va_P D vwCl (([(h0, .inr (2, [.int (jI 0), .long (jL 0), .int (jI 0), .int (jI 0), .null, .null, .null, .null]))] : va_W)) H := by rw [hHe]; exact hP
  have hD : va_D A (([(h0, .inr (2, [.int (jI 0), .long (jL 0), .int (jI 0), .int (jI 0), .null, .null, .null, .null]))] : va_W)) := hD
  have hl : lv_has ls 1 [(0, .ref h0)] := hl
  have hinX2 : ∀ w ∈ u_ws RX2 TX2 8, w ∈ wsX2_init := by decide +kernel
  refine lv_aload_n hx hb dX2_init_0 rfl (lv_at hl 0 rfl) ?_
  refine W.objInit hx hb hown (hts (.methodLink RX2 3 objectInit) (by decide +kernel)) (hts (.instanceMethod objectInit) (by decide +kernel)) (hts (.code objectInit ⟨#[0xb1]⟩ 1 none) (by decide +kernel)) rfl (by rw [hml]; exact hl.1) rfl dX2_init_1 (Nat.le_of_ble_eq_true rfl) (Nat.le_of_ble_eq_true rfl) ?_
  refine W.eq (g2 := F0 m 4 ls []) rfl ?_
  refine lv_aload_n hx hb dX2_init_4 rfl (lv_at hl 0 rfl) ?_
  refine j_iconst hx hb dX2_init_5 ?_
  refine j_topi (y := jZ False) ((jZ_f id).symm) ?_
  refine va_put (D := D) (ci := 2) (v := .int (jZ False)) (ty := .boolean) (C := RX2) (T := TX2) (N := 8) hx hb hts hinX2 tyX2 tyX2_ok nmX2 hown hK hP hD hS 0 rfl rfl 0 (by decide) (hts (.fieldLink RX2 9 "BreakLines$Setting" "exists" "Z") (by decide +kernel)) (fun _ h9 => h9) rfl (by decide +kernel) (jZ_narrow _) (jZ_fits _) (Nat.le_of_ble_eq_true rfl) dX2_init_6 (fun H locs hP hD hS => ?_)
  have hP : va_P D vwCl (([(h0, .inr (2, [.int (jZ False), .long (jL 0), .int (jI 0), .int (jI 0), .null, .null, .null, .null]))] : va_W)) H := hP
  have hD : va_D A (([(h0, .inr (2, [.int (jZ False), .long (jL 0), .int (jI 0), .int (jI 0), .null, .null, .null, .null]))] : va_W)) := hD
  refine lv_aload_n hx hb dX2_init_9 rfl (lv_at hl 0 rfl) ?_
  refine j_lconst0 hx hb dX2_init_10 ?_
  refine va_put (D := D) (ci := 2) (v := .long (jL 0)) (ty := .long) (C := RX2) (T := TX2) (N := 8) hx hb hts hinX2 tyX2 tyX2_ok nmX2 hown hK hP hD hS 0 rfl rfl 1 (by decide) (hts (.fieldLink RX2 15 "BreakLines$Setting" "total" "J") (by decide +kernel)) (fun _ h9 => h9) rfl (by decide +kernel) rfl rfl (Nat.le_of_ble_eq_true rfl) dX2_init_11 (fun H locs hP hD hS => ?_)
  have hP : va_P D vwCl (([(h0, .inr (2, [.int (jZ False), .long (jL 0), .int (jI 0), .int (jI 0), .null, .null, .null, .null]))] : va_W)) H := hP
  have hD : va_D A (([(h0, .inr (2, [.int (jZ False), .long (jL 0), .int (jI 0), .int (jI 0), .null, .null, .null, .null]))] : va_W)) := hD
  refine lv_aload_n hx hb dX2_init_14 rfl (lv_at hl 0 rfl) ?_
  refine j_iconst hx hb dX2_init_15 ?_
  refine va_put (D := D) (ci := 2) (v := .int (jI 0)) (ty := .int) (C := RX2) (T := TX2) (N := 8) hx hb hts hinX2 tyX2 tyX2_ok nmX2 hown hK hP hD hS 0 rfl rfl 2 (by decide) (hts (.fieldLink RX2 19 "BreakLines$Setting" "lines" "I") (by decide +kernel)) (fun _ h9 => h9) rfl (by decide +kernel) rfl rfl (Nat.le_of_ble_eq_true rfl) dX2_init_16 (fun H locs hP hD hS => ?_)
  have hP : va_P D vwCl (([(h0, .inr (2, [.int (jZ False), .long (jL 0), .int (jI 0), .int (jI 0), .null, .null, .null, .null]))] : va_W)) H := hP
  have hD : va_D A (([(h0, .inr (2, [.int (jZ False), .long (jL 0), .int (jI 0), .int (jI 0), .null, .null, .null, .null]))] : va_W)) := hD
  refine lv_aload_n hx hb dX2_init_19 rfl (lv_at hl 0 rfl) ?_
  refine j_iconst hx hb dX2_init_20 ?_
  refine va_put (D := D) (ci := 2) (v := .int (jI 0)) (ty := .int) (C := RX2) (T := TX2) (N := 8) hx hb hts hinX2 tyX2 tyX2_ok nmX2 hown hK hP hD hS 0 rfl rfl 3 (by decide) (hts (.fieldLink RX2 23 "BreakLines$Setting" "pages" "I") (by decide +kernel)) (fun _ h9 => h9) rfl (by decide +kernel) rfl rfl (Nat.le_of_ble_eq_true rfl) dX2_init_21 (fun H locs hP hD hS => ?_)
  have hP : va_P D vwCl (([(h0, .inr (2, [.int (jZ False), .long (jL 0), .int (jI 0), .int (jI 0), .null, .null, .null, .null]))] : va_W)) H := hP
  have hD : va_D A (([(h0, .inr (2, [.int (jZ False), .long (jL 0), .int (jI 0), .int (jI 0), .null, .null, .null, .null]))] : va_W)) := hD
  refine lv_aload_n hx hb dX2_init_24 rfl (lv_at hl 0 rfl) ?_
  refine j_bipush hx hb dX2_init_25 (by decide) ?_
  refine j_newa (atype := .int) hx hb (hts (.arrayClass .int) (by decide +kernel)) rfl hK hP hD hS hA 0 rfl raI (a0 := (25, .inl (fun k : Nat => jI (zI k)))) 25 (fun cA => zcI cA 25) (by decide) (by decide) (Nat.le_of_ble_eq_true rfl) (Nat.le_of_ble_eq_true rfl) (c2 := 1) (s2 := 25) rfl rfl dX2_init_27 (fun q27 H hP hD hS => ?_)
  have hP : va_P D vwCl (([(h0, .inr (2, [.int (jZ False), .long (jL 0), .int (jI 0), .int (jI 0), .null, .null, .null, .null])), (q27, .inl (cI, (25, .inl (fun k : Nat => jI (zI k)))))] : va_W)) H := hP
  have hD : va_D A (([(h0, .inr (2, [.int (jZ False), .long (jL 0), .int (jI 0), .int (jI 0), .null, .null, .null, .null])), (q27, .inl (cI, (25, .inl (fun k : Nat => jI (zI k)))))] : va_W)) := hD
  refine va_putF (D := D) (ci := 2) (v := .ref q27) (ty := (.array .int)) (C := RX2) (T := TX2) (N := 8) hx hb hts hinX2 tyX2 tyX2_ok nmX2 hown hK hP hD hS 0 rfl rfl 4 (by decide) (hts (.fieldLink RX2 26 "BreakLines$Setting" "firstBar" "[I") (by decide +kernel)) (fun _ h9 => h9) rfl hnm rfl (by decide +kernel) rfl rfl (Nat.le_of_ble_eq_true rfl) dX2_init_29 (fun H locs hP hD hS => ?_)
  have hP : va_P D vwCl (([(h0, .inr (2, [.int (jZ False), .long (jL 0), .int (jI 0), .int (jI 0), .ref q27, .null, .null, .null])), (q27, .inl (cI, (25, .inl (fun k : Nat => jI (zI k)))))] : va_W)) H := hP
  have hD : va_D A (([(h0, .inr (2, [.int (jZ False), .long (jL 0), .int (jI 0), .int (jI 0), .ref q27, .null, .null, .null])), (q27, .inl (cI, (25, .inl (fun k : Nat => jI (zI k)))))] : va_W)) := hD
  refine lv_aload_n hx hb dX2_init_32 rfl (lv_at hl 0 rfl) ?_
  refine j_bipush hx hb dX2_init_33 (by decide) ?_
  refine j_newa (atype := .int) hx hb (hts (.arrayClass .int) (by decide +kernel)) rfl hK hP hD hS hA 0 rfl raI (a0 := (25, .inl (fun k : Nat => jI (zI k)))) 25 (fun cA => zcI cA 25) (by decide) (by decide) (Nat.le_of_ble_eq_true rfl) (Nat.le_of_ble_eq_true rfl) (c2 := 2) (s2 := 50) rfl rfl dX2_init_35 (fun q35 H hP hD hS => ?_)
  have hP : va_P D vwCl (([(h0, .inr (2, [.int (jZ False), .long (jL 0), .int (jI 0), .int (jI 0), .ref q27, .null, .null, .null])), (q27, .inl (cI, (25, .inl (fun k : Nat => jI (zI k))))), (q35, .inl (cI, (25, .inl (fun k : Nat => jI (zI k)))))] : va_W)) H := hP
  have hD : va_D A (([(h0, .inr (2, [.int (jZ False), .long (jL 0), .int (jI 0), .int (jI 0), .ref q27, .null, .null, .null])), (q27, .inl (cI, (25, .inl (fun k : Nat => jI (zI k))))), (q35, .inl (cI, (25, .inl (fun k : Nat => jI (zI k)))))] : va_W)) := hD
  refine va_putF (D := D) (ci := 2) (v := .ref q35) (ty := (.array .int)) (C := RX2) (T := TX2) (N := 8) hx hb hts hinX2 tyX2 tyX2_ok nmX2 hown hK hP hD hS 0 rfl rfl 5 (by decide) (hts (.fieldLink RX2 30 "BreakLines$Setting" "firstLine" "[I") (by decide +kernel)) (fun _ h9 => h9) rfl hnm rfl (by decide +kernel) rfl rfl (Nat.le_of_ble_eq_true rfl) dX2_init_37 (fun H locs hP hD hS => ?_)
  have hP : va_P D vwCl (([(h0, .inr (2, [.int (jZ False), .long (jL 0), .int (jI 0), .int (jI 0), .ref q27, .ref q35, .null, .null])), (q27, .inl (cI, (25, .inl (fun k : Nat => jI (zI k))))), (q35, .inl (cI, (25, .inl (fun k : Nat => jI (zI k)))))] : va_W)) H := hP
  have hD : va_D A (([(h0, .inr (2, [.int (jZ False), .long (jL 0), .int (jI 0), .int (jI 0), .ref q27, .ref q35, .null, .null])), (q27, .inl (cI, (25, .inl (fun k : Nat => jI (zI k))))), (q35, .inl (cI, (25, .inl (fun k : Nat => jI (zI k)))))] : va_W)) := hD
  refine lv_aload_n hx hb dX2_init_40 rfl (lv_at hl 0 rfl) ?_
  refine j_bipush hx hb dX2_init_41 (by decide) ?_
  refine j_newa (atype := .int) hx hb (hts (.arrayClass .int) (by decide +kernel)) rfl hK hP hD hS hA 0 rfl raI (a0 := (24, .inl (fun k : Nat => jI (zI k)))) 24 (fun cA => zcI cA 24) (by decide) (by decide) (Nat.le_of_ble_eq_true rfl) (Nat.le_of_ble_eq_true rfl) (c2 := 3) (s2 := 74) rfl rfl dX2_init_43 (fun q43 H hP hD hS => ?_)
  have hP : va_P D vwCl (([(h0, .inr (2, [.int (jZ False), .long (jL 0), .int (jI 0), .int (jI 0), .ref q27, .ref q35, .null, .null])), (q27, .inl (cI, (25, .inl (fun k : Nat => jI (zI k))))), (q35, .inl (cI, (25, .inl (fun k : Nat => jI (zI k))))), (q43, .inl (cI, (24, .inl (fun k : Nat => jI (zI k)))))] : va_W)) H := hP
  have hD : va_D A (([(h0, .inr (2, [.int (jZ False), .long (jL 0), .int (jI 0), .int (jI 0), .ref q27, .ref q35, .null, .null])), (q27, .inl (cI, (25, .inl (fun k : Nat => jI (zI k))))), (q35, .inl (cI, (25, .inl (fun k : Nat => jI (zI k))))), (q43, .inl (cI, (24, .inl (fun k : Nat => jI (zI k)))))] : va_W)) := hD
  refine va_putF (D := D) (ci := 2) (v := .ref q43) (ty := (.array .int)) (C := RX2) (T := TX2) (N := 8) hx hb hts hinX2 tyX2 tyX2_ok nmX2 hown hK hP hD hS 0 rfl rfl 6 (by decide) (hts (.fieldLink RX2 33 "BreakLines$Setting" "pageOfLine" "[I") (by decide +kernel)) (fun _ h9 => h9) rfl hnm rfl (by decide +kernel) rfl rfl (Nat.le_of_ble_eq_true rfl) dX2_init_45 (fun H locs hP hD hS => ?_)
  have hP : va_P D vwCl (([(h0, .inr (2, [.int (jZ False), .long (jL 0), .int (jI 0), .int (jI 0), .ref q27, .ref q35, .ref q43, .null])), (q27, .inl (cI, (25, .inl (fun k : Nat => jI (zI k))))), (q35, .inl (cI, (25, .inl (fun k : Nat => jI (zI k))))), (q43, .inl (cI, (24, .inl (fun k : Nat => jI (zI k)))))] : va_W)) H := hP
  have hD : va_D A (([(h0, .inr (2, [.int (jZ False), .long (jL 0), .int (jI 0), .int (jI 0), .ref q27, .ref q35, .ref q43, .null])), (q27, .inl (cI, (25, .inl (fun k : Nat => jI (zI k))))), (q35, .inl (cI, (25, .inl (fun k : Nat => jI (zI k))))), (q43, .inl (cI, (24, .inl (fun k : Nat => jI (zI k)))))] : va_W)) := hD
  refine lv_aload_n hx hb dX2_init_48 rfl (lv_at hl 0 rfl) ?_
  refine j_bipush hx hb dX2_init_49 (by decide) ?_
  refine j_newa (atype := .int) hx hb (hts (.arrayClass .int) (by decide +kernel)) rfl hK hP hD hS hA 0 rfl raI (a0 := (24, .inl (fun k : Nat => jI (zI k)))) 24 (fun cA => zcI cA 24) (by decide) (by decide) (Nat.le_of_ble_eq_true rfl) (Nat.le_of_ble_eq_true rfl) (c2 := 4) (s2 := 98) rfl rfl dX2_init_51 (fun q51 H hP hD hS => ?_)
  have hP : va_P D vwCl (([(h0, .inr (2, [.int (jZ False), .long (jL 0), .int (jI 0), .int (jI 0), .ref q27, .ref q35, .ref q43, .null])), (q27, .inl (cI, (25, .inl (fun k : Nat => jI (zI k))))), (q35, .inl (cI, (25, .inl (fun k : Nat => jI (zI k))))), (q43, .inl (cI, (24, .inl (fun k : Nat => jI (zI k))))), (q51, .inl (cI, (24, .inl (fun k : Nat => jI (zI k)))))] : va_W)) H := hP
  have hD : va_D A (([(h0, .inr (2, [.int (jZ False), .long (jL 0), .int (jI 0), .int (jI 0), .ref q27, .ref q35, .ref q43, .null])), (q27, .inl (cI, (25, .inl (fun k : Nat => jI (zI k))))), (q35, .inl (cI, (25, .inl (fun k : Nat => jI (zI k))))), (q43, .inl (cI, (24, .inl (fun k : Nat => jI (zI k))))), (q51, .inl (cI, (24, .inl (fun k : Nat => jI (zI k)))))] : va_W)) := hD
  refine va_putF (D := D) (ci := 2) (v := .ref q51) (ty := (.array .int)) (C := RX2) (T := TX2) (N := 8) hx hb hts hinX2 tyX2 tyX2_ok nmX2 hown hK hP hD hS 0 rfl rfl 7 (by decide) (hts (.fieldLink RX2 36 "BreakLines$Setting" "lineOfBar" "[I") (by decide +kernel)) (fun _ h9 => h9) rfl hnm rfl (by decide +kernel) rfl rfl (Nat.le_of_ble_eq_true rfl) dX2_init_53 (fun H locs hP hD hS => ?_)
  have hP : va_P D vwCl (([(h0, .inr (2, [.int (jZ False), .long (jL 0), .int (jI 0), .int (jI 0), .ref q27, .ref q35, .ref q43, .ref q51])), (q27, .inl (cI, (25, .inl (fun k : Nat => jI (zI k))))), (q35, .inl (cI, (25, .inl (fun k : Nat => jI (zI k))))), (q43, .inl (cI, (24, .inl (fun k : Nat => jI (zI k))))), (q51, .inl (cI, (24, .inl (fun k : Nat => jI (zI k)))))] : va_W)) H := hP
  have hD : va_D A (([(h0, .inr (2, [.int (jZ False), .long (jL 0), .int (jI 0), .int (jI 0), .ref q27, .ref q35, .ref q43, .ref q51])), (q27, .inl (cI, (25, .inl (fun k : Nat => jI (zI k))))), (q35, .inl (cI, (25, .inl (fun k : Nat => jI (zI k))))), (q43, .inl (cI, (24, .inl (fun k : Nat => jI (zI k))))), (q51, .inl (cI, (24, .inl (fun k : Nat => jI (zI k)))))] : va_W)) := hD
  refine j_cret hx hb hr hlocks hS dX2_init_56 (q27, q35, q43, q51) (hP.sub [0, 1, 2, 3, 4] rfl) (hD.sub [0, 1, 2, 3, 4] (by decide) rfl)
end
