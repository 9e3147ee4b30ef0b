/-! the law: its loop and its start -/
noncomputable section
set_option maxHeartbeats 4000000 in
set_option maxRecDepth 100000 in
theorem law_loop {p : Program} {l : Launch} {e : Env} {s : State} {m : MethodId} {below : List Frame} {meth : Method} {c : Code} {b L : Nat} {xs : Nat → Int32} {D : va_G} {cI cJ cZ : ClassId} {q r : Nat → Nat} (C : LwC p s m c b L xs D cI cJ cZ) (hr : meth.sig.returnType = ret) (hlocks : meth.locks = false) : ∀ (n : Nat) (i : Int), 2 ≤ i → i ≤ 2060 → ((L : Int) + 10 - i).toNat < n → ∀ (u : CU) (v : MU) (H : Heap) (locs : List Loc) (ls : Array Slot), lv_has ls 4 [(0, .ref b), (1, .ref (q 15)), (2, .ref (r 0)), (3, .int (jI i))] → LwI s D cI cJ cZ q r u v H locs → W p l e room_1 s m #[Value.ref b] below meth c H locs 27 12671 (lw_Z below #[Value.ref b] s) (F0 m 38 ls []) := by
  obtain ⟨hx, hb, hml, hown, hts, hK, hX, hbl, hL⟩ := id C
  have hbA : ¬ Aw s b := Nat.not_le.mpr hbl
  intro n
  induction n with
  | zero => intro i _ _ h; exact absurd h (Nat.not_lt_zero _)
  | succ n ih =>
    intro i h2 hU hn u v H locs ls hl I
    have hS : va_S (Aw s) s.heap H locs := I.2.2.2.2.2
    refine lv_iload_n hx hb dL_law_38 rfl (lv_at hl 3 rfl) ?_
    refine lv_aload_n hx hb dL_law_39 rfl (lv_at hl 0 rfl) ?_
    refine j_slen hx hb hX hbl hbA hS dL_law_40 ?_
    refine j_iconst hx hb dL_law_41 ?_
    refine j_isub hx hb dL_law_42 ?_
    refine j_icmp_gt (tgt := 605) hx hb (by unfold i32; omega) dL_law_43 (by decide) (fun c43 => ?_) (fun c43 => ?_)
    · refine j_iconst hx hb dL_law_605 ?_
      refine va_forget hS.2.2 ?_
      exact lw_ret hx hb hr hlocks dL_law_606
    · refine lv_aload_n hx hb dL_law_46 rfl (lv_at hl 0 rfl) ?_
      refine lv_iload_n hx hb dL_law_47 rfl (lv_at hl 3 rfl) ?_
      refine j_scr hx hb hX hbl hbA hS (i := i) (by omega) hL dL_law_48 ?_
      refine j_bipush hx hb dL_law_49 (by decide) ?_
      refine lv_iand hx hb dL_law_51 ?_
      obtain ⟨j, hj, ej⟩ := pk_andE (jI (ys xs i)) (m := jI 15) 4 (by decide)
      refine j_topi (y := jI (j : Int)) (by rw [ej, jI_n (by omega), Int.toNat_natCast]) ?_
      have fin : ∀ (u : CU) (v : MU) (H : Heap) (locs : List Loc), LwI s D cI cJ cZ q r u v H locs → W p l e room_1 s m #[Value.ref b] below meth c H locs 27 12671 (lw_Z below #[Value.ref b] s) (F0 m 599 ls []) := by
        intro u v H locs I
        refine lv_iinc (v := jI (i + 4)) (lv' := [(3, .int (jI (i + 4))), (0, .ref b), (1, .ref (q 15)), (2, .ref (r 0))]) hx hb dL_law_599 hl (k := 3) rfl (jI_add _ _) (by decide) rfl (fun ls hl => ?_)
        refine lv_goto (tgt := 38) hx hb dL_law_602 (by decide) ?_
        exact ih (i + 4) (by omega) (by omega) (by omega) u v H locs ls (lv_sub hl [1, 2, 3, 0] rfl) I
      rcases (show (j : Int) = 0 ∨ (j : Int) = 1 ∨ (j : Int) = 2 ∨ (j : Int) = 3 ∨ (j : Int) = 4 ∨ (j : Int) = 5 ∨ (j : Int) = 6 ∨ (j : Int) = 7 ∨ (j : Int) = 8 ∨ (j : Int) = 9 ∨ (j : Int) = 10 ∨ (j : Int) = 11 ∨ (j : Int) = 12 ∨ (j : Int) = 13 ∨ (j : Int) = 14 ∨ (j : Int) = 15 by omega) with c52 | c52 | c52 | c52 | c52 | c52 | c52 | c52 | c52 | c52 | c52 | c52 | c52 | c52 | c52 | c52
      · refine j_tabIn (tgt := 132) hx hb (by unfold i32; omega) 0 c52 dL_law_52 (by decide) (by decide) rfl (by decide) ?_
        exact lc_bar C (by omega) hl I fin
      · refine j_tabIn (tgt := 165) hx hb (by unfold i32; omega) 1 c52 dL_law_52 (by decide) (by decide) rfl (by decide) ?_
        exact lc_change C (by omega) hl I fin
      · refine j_tabIn (tgt := 208) hx hb (by unfold i32; omega) 2 c52 dL_law_52 (by decide) (by decide) rfl (by decide) ?_
        exact lc_mark C (by omega) hl I fin
      · refine j_tabIn (tgt := 267) hx hb (by unfold i32; omega) 3 c52 dL_law_52 (by decide) (by decide) rfl (by decide) ?_
        exact lc_cost C (by omega) hl I fin
      · refine j_tabIn (tgt := 300) hx hb (by unfold i32; omega) 4 c52 dL_law_52 (by decide) (by decide) rfl (by decide) ?_
        exact lc_count C (by omega) hl I fin
      · refine j_tabIn (tgt := 323) hx hb (by unfold i32; omega) 5 c52 dL_law_52 (by decide) (by decide) rfl (by decide) ?_
        exact lc_size C (by omega) hl I fin
      · refine j_tabIn (tgt := 356) hx hb (by unfold i32; omega) 6 c52 dL_law_52 (by decide) (by decide) rfl (by decide) ?_
        exact lc_bars C (by omega) hl I fin
      · refine j_tabIn (tgt := 369) hx hb (by unfold i32; omega) 7 c52 dL_law_52 (by decide) (by decide) rfl (by decide) ?_
        exact lc_lines C (by omega) hl I fin
      · refine j_tabIn (tgt := 382) hx hb (by unfold i32; omega) 8 c52 dL_law_52 (by decide) (by decide) rfl (by decide) ?_
        exact lc_pages C (by omega) hl I fin
      · refine j_tabIn (tgt := 395) hx hb (by unfold i32; omega) 9 c52 dL_law_52 (by decide) (by decide) rfl (by decide) ?_
        exact lc_sum C (by omega) hl I fin
      · refine j_tabIn (tgt := 409) hx hb (by unfold i32; omega) 10 c52 dL_law_52 (by decide) (by decide) rfl (by decide) ?_
        exact lc_line C (by omega) hl I fin
      · refine j_tabIn (tgt := 442) hx hb (by unfold i32; omega) 11 c52 dL_law_52 (by decide) (by decide) rfl (by decide) ?_
        exact lc_page C (by omega) hl I fin
      · refine j_tabIn (tgt := 475) hx hb (by unfold i32; omega) 12 c52 dL_law_52 (by decide) (by decide) rfl (by decide) ?_
        exact lc_set C (by omega) hl I fin
      · refine j_tabIn (tgt := 508) hx hb (by unfold i32; omega) 13 c52 dL_law_52 (by decide) (by decide) rfl (by decide) ?_
        exact lc_ends C (by omega) hl I fin
      · refine j_tabIn (tgt := 531) hx hb (by unfold i32; omega) 14 c52 dL_law_52 (by decide) (by decide) rfl (by decide) ?_
        exact lc_badness C (by omega) hl I fin
      · refine j_tabIn (tgt := 565) hx hb (by unfold i32; omega) 15 c52 dL_law_52 (by decide) (by decide) rfl (by decide) ?_
        exact lc_would C (by omega) hl I fin
theorem arr_K {s : State} {args : Array Value} {ty : FieldType} (h : (Cond.arrayClass ty).before args s = true) (hp : ∀ cA, s.vm.findClass ("[" ++ ty.toString) = some cA → va_RA s cA ty) : ∃ cA, ArrOfT s cA ty ∧ va_RA s cA ty := by
  obtain ⟨cA, kA, comp, h1, h2, h3⟩ := Cond.arrayClass_spec h
  exact ⟨cA, fun n z => ⟨fun k h => (by cases h), kA, h2, comp, h3⟩, hp cA h1⟩
set_option maxHeartbeats 4000000 in
set_option maxRecDepth 100000 in
theorem whole_start {p : Program} {e : Env} {s : State} {m : MethodId} {below : List Frame} {meth : Method} {c : Code} (l : Launch) {b L : Nat} {xs : Nat → Int32} (hL : L ≤ 2050) (C0 : lw_At p s m meth c b L xs) : W p l e room_1 s m #[Value.ref b] below meth c s.heap [] 0 0 (lw_Z below #[Value.ref b] s) (entryFrame m ([Value.ref b] : List Value).toArray 4) := by
  obtain ⟨hx, hb, hr, hml, hown, hts0, hX, hbl, hlocks, hgv⟩ := id C0
  have hb : c.code = cL_law := hb
  have hown : s.vm.findClass RL = some m.cls := hown
  have hts : ∀ w ∈ wsL_law, w.before #[Value.ref b] s = true := fun w h => hts0 w (wsL_law_in w h)
  have hA : ∀ k : Nat, s.heap.size ≤ k → Aw s k := fun _ h => h
  have hbA : ¬ Aw s b := Nat.not_le.mpr hbl
  have hinX0 : ∀ w ∈ u_ws RX0 TX0 8, w ∈ wsL_law := by decide +kernel
  have hinX1 : ∀ w ∈ u_ws RX1 TX1 7, w ∈ wsL_law := by decide +kernel
  have hinX2 : ∀ w ∈ u_ws RX2 TX2 8, w ∈ wsL_law := by decide +kernel
  have hinX3 : ∀ w ∈ u_ws RX3 TX3 4, w ∈ wsL_law := by decide +kernel
  have hinX4 : ∀ w ∈ u_ws RX4 TX4 18, w ∈ wsL_law := by decide +kernel
  obtain ⟨c0, iS0, hKn0⟩ := u_known (C := RX0) (T := TX0) (N := 8) (n := 8) hts hinX0 (hts (.instantiable RX0 8) (by decide +kernel))
  obtain ⟨c1, iS1, hKn1⟩ := u_known (C := RX1) (T := TX1) (N := 7) (n := 7) hts hinX1 (hts (.instantiable RX1 7) (by decide +kernel))
  obtain ⟨c2, iS2, hKn2⟩ := u_known (C := RX2) (T := TX2) (N := 8) (n := 8) hts hinX2 (hts (.instantiable RX2 8) (by decide +kernel))
  obtain ⟨c3, iS3, hKn3⟩ := u_known (C := RX3) (T := TX3) (N := 4) (n := 4) hts hinX3 (hts (.instantiable RX3 4) (by decide +kernel))
  obtain ⟨c4, iS4, hKn4⟩ := u_known (C := RX4) (T := TX4) (N := 18) (n := 18) hts hinX4 (hts (.instantiable RX4 18) (by decide +kernel))
  obtain ⟨D, hKc⟩ : ∃ D : va_G, ∀ (k : Nat) (z : vw_C), vwCl[k]? = some z → u_Kn s z.1 z.2.1 z.2.2 (D.1 k) (D.2 k) := by
    refine ⟨(fun k => if k = 0 then c0 else if k = 1 then c1 else if k = 2 then c2 else if k = 3 then c3 else c4, fun k => if k = 0 then iS0 else if k = 1 then iS1 else if k = 2 then iS2 else if k = 3 then iS3 else iS4), ?_⟩
    intro k z hz
    match k, hz with
    | 0, hz => cases hz; exact hKn0
    | 1, hz => cases hz; exact hKn1
    | 2, hz => cases hz; exact hKn2
    | 3, hz => cases hz; exact hKn3
    | 4, hz => cases hz; exact hKn4
    | k + 5, hz => simp [vwCl] at hz
  obtain ⟨cI, kI⟩ := arr_K (ty := .int) (hts (.arrayClass .int) (by decide +kernel)) (fun _ h => h)
  obtain ⟨cJ, kJ⟩ := arr_K (ty := .long) (hts (.arrayClass .long) (by decide +kernel)) (fun _ h => h)
  obtain ⟨cZ, kZ⟩ := arr_K (ty := .boolean) (hts (.arrayClass .boolean) (by decide +kernel)) (fun _ h => h)
  have hK : va_K D vwCl (tyc cI cJ cZ) s := ⟨hKc, fun k z hz => by
    match k, hz with
    | 0, hz => cases hz; exact kI
    | 1, hz => cases hz; exact kJ
    | 2, hz => cases hz; exact kZ
    | k + 3, hz => simp [tyc] at hz⟩
  have hS : va_S (Aw s) s.heap s.heap [] := va_S.rf
  have hP : va_P D vwCl [] s.heap := fun k z h => by simp at h
  have hD : va_D (Aw s) [] := ⟨fun i j y z h => by simp at h, fun k z h => by simp at h⟩
  have hl := lv_entry ([.ref b]) (n := 4) (Nat.le_of_ble_eq_true rfl)
  rw [lg_entry_eq]
  generalize (lg_sl ([.ref b]) ++ List.replicate (4 - (lg_sl ([.ref b])).length) Slot.unset).toArray = ls at hl ⊢
  have hl : lv_has ls 4 [(0, .ref b)] := hl
  have cellB : ∀ {k : Int}, FrameBlind (va_Pc [.ref b, .int (jI k)] (fun U => va_X b L xs U U.heap)) := fun {k} a U g mk z => ⟨z.1, va_X.moved (u := U) (U := U.calling g mk a) (Vm.Alike.refl U.vm) z.2⟩
  refine va_new (ci := 3) (fs := [.null, .null, .null, .int (jI 0)]) (C := RX3) (T := TX3) (N := 4) hx hb hts hinX3 tyX3 tyX3_ok hown (hts (.classLink RL 7 RX3) (by decide +kernel)) (hts (.instantiable RX3 4) (by decide +kernel)) (hts (.initialized RX3) (by decide +kernel)) hK hP hD hS hA rfl dfX3 (Nat.le_of_ble_eq_true rfl) (Nat.le_of_ble_eq_true rfl) dL_law_0 (fun qx H hP hD hS => ?_)
  refine W.widen (k := 1) (n := 4) (Nat.le_of_ble_eq_true rfl) (Nat.le_of_ble_eq_true rfl) ?_
  have hP : va_P D vwCl ([(qx, .inr (3, [.null, .null, .null, .int (jI 0)]))] : va_W) H := hP
  have hD : va_D (Aw s) ([(qx, .inr (3, [.null, .null, .null, .int (jI 0)]))] : va_W) := hD
  refine lv_dup hx hb dL_law_3 rfl ?_
  refine lv_aload_n hx hb dL_law_4 rfl (lv_at hl 0 rfl) ?_
  refine j_iconst hx hb dL_law_5 ?_
  refine j_gosI (va_runS (As := [.ref b, .int (jI 0)]) (rest := [.ref qx, .ref qx]) ⟨hx, hb, hml, hown, hts⟩ (kL_cell l b L xs hL 0 (by decide)) (va_cwS 2 hts gL_law_L_cell rfl rfl rfl (by decide +kernel) ⟨(Nat.le_of_ble_eq_true rfl), (Nat.le_of_ble_eq_true rfl)⟩) ⟨cellB, fun U hU hW => ⟨rfl, by show va_X b L xs U U.heap; rw [hU]; exact va_X.moved hW.alike (hX.kept (hS.2.1 b hbl hbA))⟩⟩ rfl rfl hl.1 rfl (lv_room (Nat.le_of_ble_eq_true rfl)) dL_law_6 ⟨(Nat.le_of_ble_eq_true rfl), (Nat.le_of_ble_eq_true rfl)⟩) (fun z4 hz4 => ?_)
  subst hz4
  refine lv_aload_n hx hb dL_law_9 rfl (lv_at hl 0 rfl) ?_
  refine j_iconst hx hb dL_law_10 ?_
  refine j_gosI (va_runS (As := [.ref b, .int (jI 1)]) (rest := [.int (jI (cl xs L 0)), .ref qx, .ref qx]) ⟨hx, hb, hml, hown, hts⟩ (kL_cell l b L xs hL 1 (by decide)) (va_cwS 2 hts gL_law_L_cell rfl rfl rfl (by decide +kernel) ⟨(Nat.le_of_ble_eq_true rfl), (Nat.le_of_ble_eq_true rfl)⟩) ⟨cellB, fun U hU hW => ⟨rfl, by show va_X b L xs U U.heap; rw [hU]; exact va_X.moved hW.alike (hX.kept (hS.2.1 b hbl hbA))⟩⟩ rfl rfl hl.1 rfl (lv_room (Nat.le_of_ble_eq_true rfl)) dL_law_11 ⟨(Nat.le_of_ble_eq_true rfl), (Nat.le_of_ble_eq_true rfl)⟩) (fun z9 hz9 => ?_)
  subst hz9
  refine j_mI (As := [.int (jI (cl xs L 0)), .int (jI (cl xs L 1))]) (rest := [.ref qx]) ⟨hx, hb, hml, hown, hts⟩ (kX3_init l D cI cJ cZ qx (cl xs L 0) (cl xs L 1) ⟨cl_b _ _ _, cl_b _ _ _⟩) (cwI 2 hts gL_law_X3_init rfl rfl rfl (hts (.initialized RX3) (by decide +kernel)) (hts (.methodLink RL 15 yX3_init) (by decide +kernel)) (hts (.instanceMethod yX3_init) (by decide +kernel)) rfl (by decide +kernel) ⟨(Nat.le_of_ble_eq_true rfl), (Nat.le_of_ble_eq_true rfl)⟩) hK hP hD hS hA rfl hl.1 rfl (Nat.le_of_ble_eq_true rfl) (c2 := 16) (s2 := 1167) ⟨(Nat.le_of_ble_eq_true rfl), (Nat.le_of_ble_eq_true rfl)⟩ rfl rfl dL_law_14 [0] [] rfl (by decide) (wr := ([] : va_W)) rfl (by decide) (by decide) (fun qq H locs hP hD hS => ?_)
  obtain ⟨w0, ew0⟩ : ∃ z : Int, z = max 100 (min 5000 (cl xs L 0)) := ⟨_, rfl⟩
  obtain ⟨w1, ew1⟩ : ∃ z : Int, z = max 1 (min 8 (cl xs L 1)) := ⟨_, rfl⟩
  rw [← ew0, ← ew1] at hP hD
  obtain ⟨q, eq⟩ : ∃ z : Nat → Nat, z = q9 qq qx := ⟨_, rfl⟩
  have hP : va_P D vwCl (wCU q cI cJ (u0C w0 w1)) H := by rw [eq]; exact hP
  have hD : va_D (Aw s) (wCU q cI cJ (u0C w0 w1)) := by rw [eq]; exact hD
  refine lv_astore_n (lv' := [(1, .ref qx), (0, .ref b)]) hx hb dL_law_17 rfl hl (by decide) rfl (fun ls hl => ?_)
  refine va_new (ci := 4) (fs := [.int (jI 0), .int (jI 0), .int (jI 0), .null, .null, .null, .null, .int (jI 0), .null, .int (jI 0), .long (jL 0), .int (jI 0), .null, .int (jI 0), .null, .null, .null, .null]) (C := RX4) (T := TX4) (N := 18) hx hb hts hinX4 tyX4 tyX4_ok hown (hts (.classLink RL 18 RX4) (by decide +kernel)) (hts (.instantiable RX4 18) (by decide +kernel)) (hts (.initialized RX4) (by decide +kernel)) hK hP hD hS hA rfl dfX4 (Nat.le_of_ble_eq_true rfl) (Nat.le_of_ble_eq_true rfl) dL_law_18 (fun qm H hP hD hS => ?_)
  refine W.widen (k := 17) (n := 1185) (Nat.le_of_ble_eq_true rfl) (Nat.le_of_ble_eq_true rfl) ?_
  have hP : va_P D vwCl (wCU q cI cJ (u0C w0 w1) ++ ([(qm, .inr (4, [.int (jI 0), .int (jI 0), .int (jI 0), .null, .null, .null, .null, .int (jI 0), .null, .int (jI 0), .long (jL 0), .int (jI 0), .null, .int (jI 0), .null, .null, .null, .null]))] : va_W)) H := hP
  have hD : va_D (Aw s) (wCU q cI cJ (u0C w0 w1) ++ ([(qm, .inr (4, [.int (jI 0), .int (jI 0), .int (jI 0), .null, .null, .null, .null, .int (jI 0), .null, .int (jI 0), .long (jL 0), .int (jI 0), .null, .int (jI 0), .null, .null, .null, .null]))] : va_W)) := hD
  refine lv_dup hx hb dL_law_21 rfl ?_
  refine lv_aload_n hx hb dL_law_22 rfl (lv_at hl 1 rfl) ?_
  refine j_iconst hx hb dL_law_23 ?_
  refine j_gosI (va_runS (As := [.ref b, .int (jI 0)]) (rest := [.ref qm, .ref qm]) ⟨hx, hb, hml, hown, hts⟩ (kL_cell l b L xs hL 0 (by decide)) (va_cwS 2 hts gL_law_L_cell rfl rfl rfl (by decide +kernel) ⟨(Nat.le_of_ble_eq_true rfl), (Nat.le_of_ble_eq_true rfl)⟩) ⟨cellB, fun U hU hW => ⟨rfl, by show va_X b L xs U U.heap; rw [hU]; exact va_X.moved hW.alike (hX.kept (hS.2.1 b hbl hbA))⟩⟩ rfl rfl hl.1 rfl (lv_room (Nat.le_of_ble_eq_true rfl)) dL_law_24 ⟨(Nat.le_of_ble_eq_true rfl), (Nat.le_of_ble_eq_true rfl)⟩) (fun z22 hz22 => ?_)
  subst hz22
  refine lv_aload_n hx hb dL_law_27 rfl (lv_at hl 1 rfl) ?_
  refine j_iconst hx hb dL_law_28 ?_
  refine j_gosI (va_runS (As := [.ref b, .int (jI 1)]) (rest := [.int (jI (cl xs L 0)), .ref qm, .ref qm]) ⟨hx, hb, hml, hown, hts⟩ (kL_cell l b L xs hL 1 (by decide)) (va_cwS 2 hts gL_law_L_cell rfl rfl rfl (by decide +kernel) ⟨(Nat.le_of_ble_eq_true rfl), (Nat.le_of_ble_eq_true rfl)⟩) ⟨cellB, fun U hU hW => ⟨rfl, by show va_X b L xs U U.heap; rw [hU]; exact va_X.moved hW.alike (hX.kept (hS.2.1 b hbl hbA))⟩⟩ rfl rfl hl.1 rfl (lv_room (Nat.le_of_ble_eq_true rfl)) dL_law_29 ⟨(Nat.le_of_ble_eq_true rfl), (Nat.le_of_ble_eq_true rfl)⟩) (fun z27 hz27 => ?_)
  subst hz27
  refine j_mI (As := [.int (jI (cl xs L 0)), .int (jI (cl xs L 1))]) (rest := [.ref qm]) ⟨hx, hb, hml, hown, hts⟩ (kX4_init l D cI cJ cZ qm (cl xs L 0) (cl xs L 1) ⟨cl_b _ _ _, cl_b _ _ _⟩) (cwI 2 hts gL_law_X4_init rfl rfl rfl (hts (.initialized RX4) (by decide +kernel)) (hts (.methodLink RL 20 yX4_init) (by decide +kernel)) (hts (.instanceMethod yX4_init) (by decide +kernel)) rfl (by decide +kernel) ⟨(Nat.le_of_ble_eq_true rfl), (Nat.le_of_ble_eq_true rfl)⟩) hK hP hD hS hA rfl hl.1 rfl (Nat.le_of_ble_eq_true rfl) (c2 := 27) (s2 := 12671) ⟨(Nat.le_of_ble_eq_true rfl), (Nat.le_of_ble_eq_true rfl)⟩ rfl rfl dL_law_32 [16] [0, 1, 2, 3, 4, 5, 6, 7, 8, 9, 10, 11, 12, 13, 14, 15] rfl (by decide) (wr := wCU q cI cJ (u0C w0 w1)) rfl (by decide) (by decide) (fun rr H locs hP hD hS => ?_)
  rw [← ew0, ← ew1] at hP hD
  obtain ⟨r, er⟩ : ∃ z : Nat → Nat, z = q0 rr qm := ⟨_, rfl⟩
  have hP : va_P D vwCl (wB q r cI cJ cZ (u0C w0 w1) (u0M w0 w1)) H := by rw [er]; exact hP
  have hD : va_D (Aw s) (wB q r cI cJ cZ (u0C w0 w1) (u0M w0 w1)) := by rw [er]; exact hD
  refine lv_astore_n (lv' := [(2, .ref qm), (1, .ref qx), (0, .ref b)]) hx hb dL_law_35 rfl hl (by decide) rfl (fun ls hl => ?_)
  refine j_iconst hx hb dL_law_36 ?_
  refine lv_istore_n (lv' := [(3, .int (jI 2)), (2, .ref qm), (1, .ref qx), (0, .ref b)]) hx hb dL_law_37 rfl hl (by decide) rfl (fun ls hl => ?_)
  have e15 : q 15 = qx := by rw [eq]; rfl
  have e16 : r 0 = qm := by rw [er]; rfl
  have hw : (100 ≤ w0 ∧ w0 ≤ 5000) ∧ 1 ≤ w1 ∧ w1 ≤ 8 := by omega
  exact law_loop (q := q) (r := r) (D := D) (cI := cI) (cJ := cJ) (cZ := cZ) (xs := xs) ⟨hx, hb, hml, hown, hts, hK, hX, hbl, hL⟩ hr hlocks (L + 9) 2 (by decide) (by decide) (by omega) (u0C w0 w1) (u0M w0 w1) H locs ls (by rw [e15, e16]; exact lv_sub hl [3, 2, 1, 0] rfl) ⟨u0C_ok hw, u0M_ok hw, rfl, hP, hD, hS⟩
end
