/-! the law's sixteen cases -/
noncomputable section
def LwC (p : Program) (s : State) (m : MethodId) (c : Code) (b L : Nat) (xs : Nat → Int32) (D : va_G) (cI cJ cZ : ClassId) : Prop := p.tables.exec = Jvm.exec ∧ c.code = cL_law ∧ c.maxLocals = 4 ∧ s.vm.findClass RL = some m.cls ∧ (∀ w ∈ wsL_law, w.before #[Value.ref b] s = true) ∧ va_K D vwCl (tyc cI cJ cZ) s ∧ va_X b L xs s s.heap ∧ b < s.heap.size ∧ L ≤ 2050
abbrev Aw (s : State) : Nat → Prop := fun q => s.heap.size ≤ q
abbrev wB (q r : Nat → Nat) (cI cJ cZ : ClassId) (u : CU) (v : MU) : va_W := wCU q cI cJ u ++ wMU r cI cJ cZ v
def LwI (s : State) (D : va_G) (cI cJ cZ : ClassId) (q r : Nat → Nat) (u : CU) (v : MU) (H : Heap) (locs : List Loc) : Prop := cInv u ∧ mInv v ∧ u.1 = v.1 ∧ va_P D vwCl (wB q r cI cJ cZ u v) H ∧ va_D (Aw s) (wB q r cI cJ cZ u v) ∧ va_S (Aw s) s.heap H locs
section LC
variable {p : Program} {l : Launch} {e : Env} {s : State} {m : MethodId} {below : List Frame} {meth : Method} {c : Code} {b L : Nat} {xs : Nat → Int32} {D : va_G} {cI cJ cZ : ClassId} {q r : Nat → Nat} {Q : State → Prop} {ls : Array Slot} {i : Int} {u : CU} {v : MU} {H : Heap} {locs : List Loc}
set_option maxHeartbeats 4000000 in
set_option maxRecDepth 100000 in
theorem lc_bar (C : LwC p s m c b L xs D cI cJ cZ) (hi : 2 ≤ i ∧ i + 4 ≤ L) (hl : lv_has ls 4 [(0, .ref b), (1, .ref (q 15)), (2, .ref (r 0)), (3, .int (jI i))]) (I : LwI s D cI cJ cZ q r u v H locs) (kk : ∀ (u : CU) (v : MU) (H : Heap) (locs : List Loc), LwI s D cI cJ cZ q r u v H locs → W p l e room_1 s m #[Value.ref b] below meth c H locs 27 12671 Q (F0 m 599 ls [])) : W p l e room_1 s m #[Value.ref b] below meth c H locs 27 12671 Q (F0 m 132 ls []) := by
  obtain ⟨hx, hb, hml, hown, hts, hK, hX, hbl, hL⟩ := C
  obtain ⟨hu, hv, huv, hP, hD, hS⟩ := I
  have hA : ∀ k : Nat, s.heap.size ≤ k → Aw s k := fun _ h => h
  have hbA : ¬ Aw s b := Nat.not_le.mpr hbl
  refine lv_aload_n hx hb dL_law_132 rfl (lv_at hl 1 rfl) ?_
  refine lv_aload_n hx hb dL_law_133 rfl (lv_at hl 0 rfl) ?_
  refine lv_iload_n hx hb dL_law_134 rfl (lv_at hl 3 rfl) ?_
  refine j_iconst hx hb dL_law_135 ?_
  refine j_iadd hx hb dL_law_136 ?_
  refine j_scr hx hb hX hbl hbA hS (i := i + 1) (by omega) hL dL_law_137 ?_
  refine lv_aload_n hx hb dL_law_138 rfl (lv_at hl 0 rfl) ?_
  refine lv_iload_n hx hb dL_law_139 rfl (lv_at hl 3 rfl) ?_
  refine j_iconst hx hb dL_law_140 ?_
  refine j_iadd hx hb dL_law_141 ?_
  refine j_scr hx hb hX hbl hbA hS (i := i + 2) (by omega) hL dL_law_142 ?_
  refine j_mVI (As := [.int (jI (ys xs (i + 1))), .int (jI (ys xs (i + 2)))]) (rest := []) ⟨hx, hb, hml, hown, hts⟩ (kX3_bar l D cI cJ cZ q u.1 (cLa u) (cWa u) (cMk u) hu.1 (cLp u) (cTp u) (cRk u) (cOd u) (cFr u) (cFo u) (cEx u) (cTo u) (cLn u) (cPg u) (cFb u) (cFl u) (cPl u) (cLb u) (cKn u) hu.2 (ys xs (i + 1)) (ys xs (i + 2)) ⟨ys_b _ _, ys_b _ _⟩) (cwV 2 hts gL_law_X3_bar rfl rfl rfl (by decide +kernel) ⟨(Nat.le_of_ble_eq_true rfl), (Nat.le_of_ble_eq_true rfl)⟩) hK hP hD hS hA (va_recv hK hP (ci := 3) (q0 := 15) rfl rfl) rfl hl.1 rfl (Nat.le_of_ble_eq_true rfl) ⟨(Nat.le_of_ble_eq_true rfl), (Nat.le_of_ble_eq_true rfl)⟩ dL_law_143 [0, 1, 2, 3, 4, 5, 6, 7, 8, 9, 10, 11, 12, 13, 14, 15] [16, 17, 18, 19, 20, 21, 22, 23, 24, 25, 26] [11, 12, 13, 14, 15, 16, 17, 18, 19, 20, 21, 22, 23, 24, 25, 26, 0, 1, 2, 3, 4, 5, 6, 7, 8, 9, 10] rfl (by decide) (wr := wMU r cI cJ cZ v) rfl (by decide) (by decide) (fun _ => rfl) (fun u1 => wB q r cI cJ cZ u1 v) (fun _ => rfl) (fun _ => rfl) (fun r1 u1 H locs hr1 hP hD hS => ?_)
  refine lv_aload_n hx hb dL_law_146 rfl (lv_at hl 2 rfl) ?_
  refine lv_aload_n hx hb dL_law_147 rfl (lv_at hl 0 rfl) ?_
  refine lv_iload_n hx hb dL_law_148 rfl (lv_at hl 3 rfl) ?_
  refine j_iconst hx hb dL_law_149 ?_
  refine j_iadd hx hb dL_law_150 ?_
  refine j_scr hx hb hX hbl hbA hS (i := i + 1) (by omega) hL dL_law_151 ?_
  refine lv_aload_n hx hb dL_law_152 rfl (lv_at hl 0 rfl) ?_
  refine lv_iload_n hx hb dL_law_153 rfl (lv_at hl 3 rfl) ?_
  refine j_iconst hx hb dL_law_154 ?_
  refine j_iadd hx hb dL_law_155 ?_
  refine j_scr hx hb hX hbl hbA hS (i := i + 2) (by omega) hL dL_law_156 ?_
  refine j_mVI (As := [.int (jI (ys xs (i + 1))), .int (jI (ys xs (i + 2)))]) (rest := [.int r1]) ⟨hx, hb, hml, hown, hts⟩ (kX4_bar l D cI cJ cZ r v.1 hv.1 (mRs v) (mKn v) (mBe v) (mLm v) (mLf v) (mPm v) (mPf v) (mNw v) (mTh v) (mPg v) hv.2 (ys xs (i + 1)) (ys xs (i + 2)) ⟨ys_b _ _, ys_b _ _⟩) (cwV 2 hts gL_law_X4_bar rfl rfl rfl (by decide +kernel) ⟨(Nat.le_of_ble_eq_true rfl), (Nat.le_of_ble_eq_true rfl)⟩) hK hP hD hS hA (va_recv hK hP (ci := 4) (q0 := 16) rfl rfl) rfl hl.1 rfl (Nat.le_of_ble_eq_true rfl) ⟨(Nat.le_of_ble_eq_true rfl), (Nat.le_of_ble_eq_true rfl)⟩ dL_law_157 [16, 17, 18, 19, 20, 21, 22, 23, 24, 25, 26] [0, 1, 2, 3, 4, 5, 6, 7, 8, 9, 10, 11, 12, 13, 14, 15] [0, 1, 2, 3, 4, 5, 6, 7, 8, 9, 10, 11, 12, 13, 14, 15, 16, 17, 18, 19, 20, 21, 22, 23, 24, 25, 26] rfl (by decide) (wr := wCU q cI cJ u1) rfl (by decide) (by decide) (fun _ => rfl) (fun v1 => wB q r cI cJ cZ u1 v1) (fun _ => rfl) (fun _ => rfl) (fun r2 v1 H locs hr2 hP hD hS => ?_)
  refine j_eqI (tgt := 599) hx hb (by rw [hr1.1, hr2.1, huv]) dL_law_160 (by decide) ?_
  exact kk u1 v1 H locs ⟨hr1.2.1, hr2.2.1, (by rw [hr1.2.2, hr2.2.2, huv]), hP, hD, hS⟩
set_option maxHeartbeats 4000000 in
set_option maxRecDepth 100000 in
theorem lc_change (C : LwC p s m c b L xs D cI cJ cZ) (hi : 2 ≤ i ∧ i + 4 ≤ L) (hl : lv_has ls 4 [(0, .ref b), (1, .ref (q 15)), (2, .ref (r 0)), (3, .int (jI i))]) (I : LwI s D cI cJ cZ q r u v H locs) (kk : ∀ (u : CU) (v : MU) (H : Heap) (locs : List Loc), LwI s D cI cJ cZ q r u v H locs → W p l e room_1 s m #[Value.ref b] below meth c H locs 27 12671 Q (F0 m 599 ls [])) : W p l e room_1 s m #[Value.ref b] below meth c H locs 27 12671 Q (F0 m 165 ls []) := by
  obtain ⟨hx, hb, hml, hown, hts, hK, hX, hbl, hL⟩ := C
  obtain ⟨hu, hv, huv, hP, hD, hS⟩ := I
  have hA : ∀ k : Nat, s.heap.size ≤ k → Aw s k := fun _ h => h
  have hbA : ¬ Aw s b := Nat.not_le.mpr hbl
  refine lv_aload_n hx hb dL_law_165 rfl (lv_at hl 1 rfl) ?_
  refine lv_aload_n hx hb dL_law_166 rfl (lv_at hl 0 rfl) ?_
  refine lv_iload_n hx hb dL_law_167 rfl (lv_at hl 3 rfl) ?_
  refine j_iconst hx hb dL_law_168 ?_
  refine j_iadd hx hb dL_law_169 ?_
  refine j_scr hx hb hX hbl hbA hS (i := i + 1) (by omega) hL dL_law_170 ?_
  refine lv_aload_n hx hb dL_law_171 rfl (lv_at hl 0 rfl) ?_
  refine lv_iload_n hx hb dL_law_172 rfl (lv_at hl 3 rfl) ?_
  refine j_iconst hx hb dL_law_173 ?_
  refine j_iadd hx hb dL_law_174 ?_
  refine j_scr hx hb hX hbl hbA hS (i := i + 2) (by omega) hL dL_law_175 ?_
  refine lv_aload_n hx hb dL_law_176 rfl (lv_at hl 0 rfl) ?_
  refine lv_iload_n hx hb dL_law_177 rfl (lv_at hl 3 rfl) ?_
  refine j_iconst hx hb dL_law_178 ?_
  refine j_iadd hx hb dL_law_179 ?_
  refine j_scr hx hb hX hbl hbA hS (i := i + 3) (by omega) hL dL_law_180 ?_
  refine j_mVI (As := [.int (jI (ys xs (i + 1))), .int (jI (ys xs (i + 2))), .int (jI (ys xs (i + 3)))]) (rest := []) ⟨hx, hb, hml, hown, hts⟩ (kX3_change l D cI cJ cZ q u.1 (cLa u) (cWa u) (cMk u) hu.1 (cLp u) (cTp u) (cRk u) (cOd u) (cFr u) (cFo u) (cEx u) (cTo u) (cLn u) (cPg u) (cFb u) (cFl u) (cPl u) (cLb u) (cKn u) hu.2 (ys xs (i + 1)) (ys xs (i + 2)) (ys xs (i + 3)) ⟨ys_b _ _, ys_b _ _, ys_b _ _⟩) (cwV 3 hts gL_law_X3_change rfl rfl rfl (by decide +kernel) ⟨(Nat.le_of_ble_eq_true rfl), (Nat.le_of_ble_eq_true rfl)⟩) hK hP hD hS hA (va_recv hK hP (ci := 3) (q0 := 15) rfl rfl) rfl hl.1 rfl (Nat.le_of_ble_eq_true rfl) ⟨(Nat.le_of_ble_eq_true rfl), (Nat.le_of_ble_eq_true rfl)⟩ dL_law_181 [0, 1, 2, 3, 4, 5, 6, 7, 8, 9, 10, 11, 12, 13, 14, 15] [16, 17, 18, 19, 20, 21, 22, 23, 24, 25, 26] [11, 12, 13, 14, 15, 16, 17, 18, 19, 20, 21, 22, 23, 24, 25, 26, 0, 1, 2, 3, 4, 5, 6, 7, 8, 9, 10] rfl (by decide) (wr := wMU r cI cJ cZ v) rfl (by decide) (by decide) (fun _ => rfl) (fun u1 => wB q r cI cJ cZ u1 v) (fun _ => rfl) (fun _ => rfl) (fun r1 u1 H locs hr1 hP hD hS => ?_)
  refine lv_aload_n hx hb dL_law_184 rfl (lv_at hl 2 rfl) ?_
  refine lv_aload_n hx hb dL_law_185 rfl (lv_at hl 0 rfl) ?_
  refine lv_iload_n hx hb dL_law_186 rfl (lv_at hl 3 rfl) ?_
  refine j_iconst hx hb dL_law_187 ?_
  refine j_iadd hx hb dL_law_188 ?_
  refine j_scr hx hb hX hbl hbA hS (i := i + 1) (by omega) hL dL_law_189 ?_
  refine lv_aload_n hx hb dL_law_190 rfl (lv_at hl 0 rfl) ?_
  refine lv_iload_n hx hb dL_law_191 rfl (lv_at hl 3 rfl) ?_
  refine j_iconst hx hb dL_law_192 ?_
  refine j_iadd hx hb dL_law_193 ?_
  refine j_scr hx hb hX hbl hbA hS (i := i + 2) (by omega) hL dL_law_194 ?_
  refine lv_aload_n hx hb dL_law_195 rfl (lv_at hl 0 rfl) ?_
  refine lv_iload_n hx hb dL_law_196 rfl (lv_at hl 3 rfl) ?_
  refine j_iconst hx hb dL_law_197 ?_
  refine j_iadd hx hb dL_law_198 ?_
  refine j_scr hx hb hX hbl hbA hS (i := i + 3) (by omega) hL dL_law_199 ?_
  refine j_mVI (As := [.int (jI (ys xs (i + 1))), .int (jI (ys xs (i + 2))), .int (jI (ys xs (i + 3)))]) (rest := [.int r1]) ⟨hx, hb, hml, hown, hts⟩ (kX4_change l D cI cJ cZ r v.1 hv.1 (mRs v) (mKn v) (mBe v) (mLm v) (mLf v) (mPm v) (mPf v) (mNw v) (mTh v) (mPg v) hv.2 (ys xs (i + 1)) (ys xs (i + 2)) (ys xs (i + 3)) ⟨ys_b _ _, ys_b _ _, ys_b _ _⟩) (cwV 3 hts gL_law_X4_change rfl rfl rfl (by decide +kernel) ⟨(Nat.le_of_ble_eq_true rfl), (Nat.le_of_ble_eq_true rfl)⟩) hK hP hD hS hA (va_recv hK hP (ci := 4) (q0 := 16) rfl rfl) rfl hl.1 rfl (Nat.le_of_ble_eq_true rfl) ⟨(Nat.le_of_ble_eq_true rfl), (Nat.le_of_ble_eq_true rfl)⟩ dL_law_200 [16, 17, 18, 19, 20, 21, 22, 23, 24, 25, 26] [0, 1, 2, 3, 4, 5, 6, 7, 8, 9, 10, 11, 12, 13, 14, 15] [0, 1, 2, 3, 4, 5, 6, 7, 8, 9, 10, 11, 12, 13, 14, 15, 16, 17, 18, 19, 20, 21, 22, 23, 24, 25, 26] rfl (by decide) (wr := wCU q cI cJ u1) rfl (by decide) (by decide) (fun _ => rfl) (fun v1 => wB q r cI cJ cZ u1 v1) (fun _ => rfl) (fun _ => rfl) (fun r2 v1 H locs hr2 hP hD hS => ?_)
  refine j_eqI (tgt := 599) hx hb (by rw [hr1.1, hr2.1, huv]) dL_law_203 (by decide) ?_
  exact kk u1 v1 H locs ⟨hr1.2.1, hr2.2.1, (by rw [hr1.2.2, hr2.2.2, huv]), hP, hD, hS⟩
set_option maxHeartbeats 4000000 in
set_option maxRecDepth 100000 in
theorem lc_mark (C : LwC p s m c b L xs D cI cJ cZ) (hi : 2 ≤ i ∧ i + 4 ≤ L) (hl : lv_has ls 4 [(0, .ref b), (1, .ref (q 15)), (2, .ref (r 0)), (3, .int (jI i))]) (I : LwI s D cI cJ cZ q r u v H locs) (kk : ∀ (u : CU) (v : MU) (H : Heap) (locs : List Loc), LwI s D cI cJ cZ q r u v H locs → W p l e room_1 s m #[Value.ref b] below meth c H locs 27 12671 Q (F0 m 599 ls [])) : W p l e room_1 s m #[Value.ref b] below meth c H locs 27 12671 Q (F0 m 208 ls []) := by
  obtain ⟨hx, hb, hml, hown, hts, hK, hX, hbl, hL⟩ := C
  obtain ⟨hu, hv, huv, hP, hD, hS⟩ := I
  have hA : ∀ k : Nat, s.heap.size ≤ k → Aw s k := fun _ h => h
  have hbA : ¬ Aw s b := Nat.not_le.mpr hbl
  refine lv_aload_n hx hb dL_law_208 rfl (lv_at hl 1 rfl) ?_
  refine lv_aload_n hx hb dL_law_209 rfl (lv_at hl 0 rfl) ?_
  refine lv_iload_n hx hb dL_law_210 rfl (lv_at hl 3 rfl) ?_
  refine j_iconst hx hb dL_law_211 ?_
  refine j_iadd hx hb dL_law_212 ?_
  refine j_scr hx hb hX hbl hbA hS (i := i + 1) (by omega) hL dL_law_213 ?_
  refine lv_aload_n hx hb dL_law_214 rfl (lv_at hl 0 rfl) ?_
  refine lv_iload_n hx hb dL_law_215 rfl (lv_at hl 3 rfl) ?_
  refine j_iconst hx hb dL_law_216 ?_
  refine j_iadd hx hb dL_law_217 ?_
  refine j_scr hx hb hX hbl hbA hS (i := i + 2) (by omega) hL dL_law_218 ?_
  refine lv_aload_n hx hb dL_law_219 rfl (lv_at hl 0 rfl) ?_
  refine lv_iload_n hx hb dL_law_220 rfl (lv_at hl 3 rfl) ?_
  refine j_iconst hx hb dL_law_221 ?_
  refine j_iadd hx hb dL_law_222 ?_
  refine j_scr hx hb hX hbl hbA hS (i := i + 3) (by omega) hL dL_law_223 ?_
  refine j_join (α := Unit) (P := fun _ => True) (f := fun _ => F0 m 232 ls [.int (jZ ((decide (¬ ys xs (i + 3) = 0)) = true)), .int (jI (ys xs (i + 2))), .int (jI (ys xs (i + 1))), .ref (q 15)]) ?_ (fun jn => ?_)
  rotate_left
  · refine j_if_eq (tgt := 231) hx hb (ys_b _ _) dL_law_224 (by decide) (fun c1 => ?_) (fun c1 => ?_)
    · refine j_iconst hx hb dL_law_231 ?_
      refine j_topi (y := jZ ((decide (¬ ys xs (i + 3) = 0)) = true)) (jZ_f (by simp [c1])).symm ?_
      exact jn () trivial
    · refine j_iconst hx hb dL_law_227 ?_
      refine j_topi (y := jZ ((decide (¬ ys xs (i + 3) = 0)) = true)) (jZ_t (by simp [c1])).symm ?_
      refine lv_goto (tgt := 232) hx hb dL_law_228 (by decide) ?_
      exact jn () trivial
  intro _ _
  refine j_mVI (As := [.int (jI (ys xs (i + 1))), .int (jI (ys xs (i + 2))), .int (jZ ((decide (¬ ys xs (i + 3) = 0)) = true))]) (rest := []) ⟨hx, hb, hml, hown, hts⟩ (kX3_mark l D cI cJ cZ q u.1 (cLa u) (cWa u) (cMk u) hu.1 (cLp u) (cTp u) (cRk u) (cOd u) (cFr u) (cFo u) (cEx u) (cTo u) (cLn u) (cPg u) (cFb u) (cFl u) (cPl u) (cLb u) (cKn u) hu.2 (ys xs (i + 1)) (ys xs (i + 2)) (decide (¬ ys xs (i + 3) = 0)) ⟨ys_b _ _, ys_b _ _⟩) (cwV 3 hts gL_law_X3_mark rfl rfl rfl (by decide +kernel) ⟨(Nat.le_of_ble_eq_true rfl), (Nat.le_of_ble_eq_true rfl)⟩) hK hP hD hS hA (va_recv hK hP (ci := 3) (q0 := 15) rfl rfl) rfl hl.1 rfl (Nat.le_of_ble_eq_true rfl) ⟨(Nat.le_of_ble_eq_true rfl), (Nat.le_of_ble_eq_true rfl)⟩ dL_law_232 [0, 1, 2, 3, 4, 5, 6, 7, 8, 9, 10, 11, 12, 13, 14, 15] [16, 17, 18, 19, 20, 21, 22, 23, 24, 25, 26] [11, 12, 13, 14, 15, 16, 17, 18, 19, 20, 21, 22, 23, 24, 25, 26, 0, 1, 2, 3, 4, 5, 6, 7, 8, 9, 10] rfl (by decide) (wr := wMU r cI cJ cZ v) rfl (by decide) (by decide) (fun _ => rfl) (fun u1 => wB q r cI cJ cZ u1 v) (fun _ => rfl) (fun _ => rfl) (fun r1 u1 H locs hr1 hP hD hS => ?_)
  refine lv_aload_n hx hb dL_law_235 rfl (lv_at hl 2 rfl) ?_
  refine lv_aload_n hx hb dL_law_236 rfl (lv_at hl 0 rfl) ?_
  refine lv_iload_n hx hb dL_law_237 rfl (lv_at hl 3 rfl) ?_
  refine j_iconst hx hb dL_law_238 ?_
  refine j_iadd hx hb dL_law_239 ?_
  refine j_scr hx hb hX hbl hbA hS (i := i + 1) (by omega) hL dL_law_240 ?_
  refine lv_aload_n hx hb dL_law_241 rfl (lv_at hl 0 rfl) ?_
  refine lv_iload_n hx hb dL_law_242 rfl (lv_at hl 3 rfl) ?_
  refine j_iconst hx hb dL_law_243 ?_
  refine j_iadd hx hb dL_law_244 ?_
  refine j_scr hx hb hX hbl hbA hS (i := i + 2) (by omega) hL dL_law_245 ?_
  refine lv_aload_n hx hb dL_law_246 rfl (lv_at hl 0 rfl) ?_
  refine lv_iload_n hx hb dL_law_247 rfl (lv_at hl 3 rfl) ?_
  refine j_iconst hx hb dL_law_248 ?_
  refine j_iadd hx hb dL_law_249 ?_
  refine j_scr hx hb hX hbl hbA hS (i := i + 3) (by omega) hL dL_law_250 ?_
  refine j_join (α := Unit) (P := fun _ => True) (f := fun _ => F0 m 259 ls [.int (jZ ((decide (¬ ys xs (i + 3) = 0)) = true)), .int (jI (ys xs (i + 2))), .int (jI (ys xs (i + 1))), .ref (r 0), .int r1]) ?_ (fun jn => ?_)
  rotate_left
  · refine j_if_eq (tgt := 258) hx hb (ys_b _ _) dL_law_251 (by decide) (fun c1 => ?_) (fun c1 => ?_)
    · refine j_iconst hx hb dL_law_258 ?_
      refine j_topi (y := jZ ((decide (¬ ys xs (i + 3) = 0)) = true)) (jZ_f (by simp [c1])).symm ?_
      exact jn () trivial
    · refine j_iconst hx hb dL_law_254 ?_
      refine j_topi (y := jZ ((decide (¬ ys xs (i + 3) = 0)) = true)) (jZ_t (by simp [c1])).symm ?_
      refine lv_goto (tgt := 259) hx hb dL_law_255 (by decide) ?_
      exact jn () trivial
  intro _ _
  refine j_mVI (As := [.int (jI (ys xs (i + 1))), .int (jI (ys xs (i + 2))), .int (jZ ((decide (¬ ys xs (i + 3) = 0)) = true))]) (rest := [.int r1]) ⟨hx, hb, hml, hown, hts⟩ (kX4_mark l D cI cJ cZ r v.1 hv.1 (mRs v) (mKn v) (mBe v) (mLm v) (mLf v) (mPm v) (mPf v) (mNw v) (mTh v) (mPg v) hv.2 (ys xs (i + 1)) (ys xs (i + 2)) (decide (¬ ys xs (i + 3) = 0)) ⟨ys_b _ _, ys_b _ _⟩) (cwV 3 hts gL_law_X4_mark rfl rfl rfl (by decide +kernel) ⟨(Nat.le_of_ble_eq_true rfl), (Nat.le_of_ble_eq_true rfl)⟩) hK hP hD hS hA (va_recv hK hP (ci := 4) (q0 := 16) rfl rfl) rfl hl.1 rfl (Nat.le_of_ble_eq_true rfl) ⟨(Nat.le_of_ble_eq_true rfl), (Nat.le_of_ble_eq_true rfl)⟩ dL_law_259 [16, 17, 18, 19, 20, 21, 22, 23, 24, 25, 26] [0, 1, 2, 3, 4, 5, 6, 7, 8, 9, 10, 11, 12, 13, 14, 15] [0, 1, 2, 3, 4, 5, 6, 7, 8, 9, 10, 11, 12, 13, 14, 15, 16, 17, 18, 19, 20, 21, 22, 23, 24, 25, 26] rfl (by decide) (wr := wCU q cI cJ u1) rfl (by decide) (by decide) (fun _ => rfl) (fun v1 => wB q r cI cJ cZ u1 v1) (fun _ => rfl) (fun _ => rfl) (fun r2 v1 H locs hr2 hP hD hS => ?_)
  refine j_eqI (tgt := 599) hx hb (by rw [hr1.1, hr2.1, huv]) dL_law_262 (by decide) ?_
  exact kk u1 v1 H locs ⟨hr1.2.1, hr2.2.1, (by rw [hr1.2.2, hr2.2.2, huv]), hP, hD, hS⟩
set_option maxHeartbeats 4000000 in
set_option maxRecDepth 100000 in
theorem lc_cost (C : LwC p s m c b L xs D cI cJ cZ) (hi : 2 ≤ i ∧ i + 4 ≤ L) (hl : lv_has ls 4 [(0, .ref b), (1, .ref (q 15)), (2, .ref (r 0)), (3, .int (jI i))]) (I : LwI s D cI cJ cZ q r u v H locs) (kk : ∀ (u : CU) (v : MU) (H : Heap) (locs : List Loc), LwI s D cI cJ cZ q r u v H locs → W p l e room_1 s m #[Value.ref b] below meth c H locs 27 12671 Q (F0 m 599 ls [])) : W p l e room_1 s m #[Value.ref b] below meth c H locs 27 12671 Q (F0 m 267 ls []) := by
  obtain ⟨hx, hb, hml, hown, hts, hK, hX, hbl, hL⟩ := C
  obtain ⟨hu, hv, huv, hP, hD, hS⟩ := I
  have hA : ∀ k : Nat, s.heap.size ≤ k → Aw s k := fun _ h => h
  have hbA : ¬ Aw s b := Nat.not_le.mpr hbl
  refine lv_aload_n hx hb dL_law_267 rfl (lv_at hl 1 rfl) ?_
  refine lv_aload_n hx hb dL_law_268 rfl (lv_at hl 0 rfl) ?_
  refine lv_iload_n hx hb dL_law_269 rfl (lv_at hl 3 rfl) ?_
  refine j_iconst hx hb dL_law_270 ?_
  refine j_iadd hx hb dL_law_271 ?_
  refine j_scr hx hb hX hbl hbA hS (i := i + 1) (by omega) hL dL_law_272 ?_
  refine lv_aload_n hx hb dL_law_273 rfl (lv_at hl 0 rfl) ?_
  refine lv_iload_n hx hb dL_law_274 rfl (lv_at hl 3 rfl) ?_
  refine j_iconst hx hb dL_law_275 ?_
  refine j_iadd hx hb dL_law_276 ?_
  refine j_scr hx hb hX hbl hbA hS (i := i + 2) (by omega) hL dL_law_277 ?_
  refine j_mVI (As := [.int (jI (ys xs (i + 1))), .int (jI (ys xs (i + 2)))]) (rest := []) ⟨hx, hb, hml, hown, hts⟩ (kX3_cost l D cI cJ cZ q u.1 (cLa u) (cWa u) (cMk u) hu.1 (cLp u) (cTp u) (cRk u) (cOd u) (cFr u) (cFo u) (cEx u) (cTo u) (cLn u) (cPg u) (cFb u) (cFl u) (cPl u) (cLb u) (cKn u) hu.2 (ys xs (i + 1)) (ys xs (i + 2)) ⟨ys_b _ _, ys_b _ _⟩) (cwV 2 hts gL_law_X3_cost rfl rfl rfl (by decide +kernel) ⟨(Nat.le_of_ble_eq_true rfl), (Nat.le_of_ble_eq_true rfl)⟩) hK hP hD hS hA (va_recv hK hP (ci := 3) (q0 := 15) rfl rfl) rfl hl.1 rfl (Nat.le_of_ble_eq_true rfl) ⟨(Nat.le_of_ble_eq_true rfl), (Nat.le_of_ble_eq_true rfl)⟩ dL_law_278 [0, 1, 2, 3, 4, 5, 6, 7, 8, 9, 10, 11, 12, 13, 14, 15] [16, 17, 18, 19, 20, 21, 22, 23, 24, 25, 26] [11, 12, 13, 14, 15, 16, 17, 18, 19, 20, 21, 22, 23, 24, 25, 26, 0, 1, 2, 3, 4, 5, 6, 7, 8, 9, 10] rfl (by decide) (wr := wMU r cI cJ cZ v) rfl (by decide) (by decide) (fun _ => rfl) (fun u1 => wB q r cI cJ cZ u1 v) (fun _ => rfl) (fun _ => rfl) (fun r1 u1 H locs hr1 hP hD hS => ?_)
  refine lv_aload_n hx hb dL_law_281 rfl (lv_at hl 2 rfl) ?_
  refine lv_aload_n hx hb dL_law_282 rfl (lv_at hl 0 rfl) ?_
  refine lv_iload_n hx hb dL_law_283 rfl (lv_at hl 3 rfl) ?_
  refine j_iconst hx hb dL_law_284 ?_
  refine j_iadd hx hb dL_law_285 ?_
  refine j_scr hx hb hX hbl hbA hS (i := i + 1) (by omega) hL dL_law_286 ?_
  refine lv_aload_n hx hb dL_law_287 rfl (lv_at hl 0 rfl) ?_
  refine lv_iload_n hx hb dL_law_288 rfl (lv_at hl 3 rfl) ?_
  refine j_iconst hx hb dL_law_289 ?_
  refine j_iadd hx hb dL_law_290 ?_
  refine j_scr hx hb hX hbl hbA hS (i := i + 2) (by omega) hL dL_law_291 ?_
  refine j_mVI (As := [.int (jI (ys xs (i + 1))), .int (jI (ys xs (i + 2)))]) (rest := [.int r1]) ⟨hx, hb, hml, hown, hts⟩ (kX4_cost l D cI cJ cZ r v.1 hv.1 (mRs v) (mKn v) (mBe v) (mLm v) (mLf v) (mPm v) (mPf v) (mNw v) (mTh v) (mPg v) hv.2 (ys xs (i + 1)) (ys xs (i + 2)) ⟨ys_b _ _, ys_b _ _⟩) (cwV 2 hts gL_law_X4_cost rfl rfl rfl (by decide +kernel) ⟨(Nat.le_of_ble_eq_true rfl), (Nat.le_of_ble_eq_true rfl)⟩) hK hP hD hS hA (va_recv hK hP (ci := 4) (q0 := 16) rfl rfl) rfl hl.1 rfl (Nat.le_of_ble_eq_true rfl) ⟨(Nat.le_of_ble_eq_true rfl), (Nat.le_of_ble_eq_true rfl)⟩ dL_law_292 [16, 17, 18, 19, 20, 21, 22, 23, 24, 25, 26] [0, 1, 2, 3, 4, 5, 6, 7, 8, 9, 10, 11, 12, 13, 14, 15] [0, 1, 2, 3, 4, 5, 6, 7, 8, 9, 10, 11, 12, 13, 14, 15, 16, 17, 18, 19, 20, 21, 22, 23, 24, 25, 26] rfl (by decide) (wr := wCU q cI cJ u1) rfl (by decide) (by decide) (fun _ => rfl) (fun v1 => wB q r cI cJ cZ u1 v1) (fun _ => rfl) (fun _ => rfl) (fun r2 v1 H locs hr2 hP hD hS => ?_)
  refine j_eqI (tgt := 599) hx hb (by rw [hr1.1, hr2.1, huv]) dL_law_295 (by decide) ?_
  exact kk u1 v1 H locs ⟨hr1.2.1, hr2.2.1, (by rw [hr1.2.2, hr2.2.2, huv]), hP, hD, hS⟩
set_option maxHeartbeats 4000000 in
set_option maxRecDepth 100000 in
theorem lc_count (C : LwC p s m c b L xs D cI cJ cZ) (hi : 2 ≤ i ∧ i + 4 ≤ L) (hl : lv_has ls 4 [(0, .ref b), (1, .ref (q 15)), (2, .ref (r 0)), (3, .int (jI i))]) (I : LwI s D cI cJ cZ q r u v H locs) (kk : ∀ (u : CU) (v : MU) (H : Heap) (locs : List Loc), LwI s D cI cJ cZ q r u v H locs → W p l e room_1 s m #[Value.ref b] below meth c H locs 27 12671 Q (F0 m 599 ls [])) : W p l e room_1 s m #[Value.ref b] below meth c H locs 27 12671 Q (F0 m 300 ls []) := by
  obtain ⟨hx, hb, hml, hown, hts, hK, hX, hbl, hL⟩ := C
  obtain ⟨hu, hv, huv, hP, hD, hS⟩ := I
  have hA : ∀ k : Nat, s.heap.size ≤ k → Aw s k := fun _ h => h
  have hbA : ¬ Aw s b := Nat.not_le.mpr hbl
  refine lv_aload_n hx hb dL_law_300 rfl (lv_at hl 1 rfl) ?_
  refine lv_aload_n hx hb dL_law_301 rfl (lv_at hl 0 rfl) ?_
  refine lv_iload_n hx hb dL_law_302 rfl (lv_at hl 3 rfl) ?_
  refine j_iconst hx hb dL_law_303 ?_
  refine j_iadd hx hb dL_law_304 ?_
  refine j_scr hx hb hX hbl hbA hS (i := i + 1) (by omega) hL dL_law_305 ?_
  refine j_mVI (As := [.int (jI (ys xs (i + 1)))]) (rest := []) ⟨hx, hb, hml, hown, hts⟩ (kX3_count l D cI cJ cZ q u.1 (cLa u) (cWa u) (cMk u) hu.1 (cLp u) (cTp u) (cRk u) (cOd u) (cFr u) (cFo u) (cEx u) (cTo u) (cLn u) (cPg u) (cFb u) (cFl u) (cPl u) (cLb u) (cKn u) hu.2 (ys xs (i + 1)) (ys_b _ _)) (cwV 1 hts gL_law_X3_count rfl rfl rfl (by decide +kernel) ⟨(Nat.le_of_ble_eq_true rfl), (Nat.le_of_ble_eq_true rfl)⟩) hK hP hD hS hA (va_recv hK hP (ci := 3) (q0 := 15) rfl rfl) rfl hl.1 rfl (Nat.le_of_ble_eq_true rfl) ⟨(Nat.le_of_ble_eq_true rfl), (Nat.le_of_ble_eq_true rfl)⟩ dL_law_306 [0, 1, 2, 3, 4, 5, 6, 7, 8, 9, 10, 11, 12, 13, 14, 15] [16, 17, 18, 19, 20, 21, 22, 23, 24, 25, 26] [11, 12, 13, 14, 15, 16, 17, 18, 19, 20, 21, 22, 23, 24, 25, 26, 0, 1, 2, 3, 4, 5, 6, 7, 8, 9, 10] rfl (by decide) (wr := wMU r cI cJ cZ v) rfl (by decide) (by decide) (fun _ => rfl) (fun u1 => wB q r cI cJ cZ u1 v) (fun _ => rfl) (fun _ => rfl) (fun r1 u1 H locs hr1 hP hD hS => ?_)
  refine lv_aload_n hx hb dL_law_309 rfl (lv_at hl 2 rfl) ?_
  refine lv_aload_n hx hb dL_law_310 rfl (lv_at hl 0 rfl) ?_
  refine lv_iload_n hx hb dL_law_311 rfl (lv_at hl 3 rfl) ?_
  refine j_iconst hx hb dL_law_312 ?_
  refine j_iadd hx hb dL_law_313 ?_
  refine j_scr hx hb hX hbl hbA hS (i := i + 1) (by omega) hL dL_law_314 ?_
  refine j_mVI (As := [.int (jI (ys xs (i + 1)))]) (rest := [.int r1]) ⟨hx, hb, hml, hown, hts⟩ (kX4_count l D cI cJ cZ r v.1 hv.1 (mRs v) (mKn v) (mBe v) (mLm v) (mLf v) (mPm v) (mPf v) (mNw v) (mTh v) (mPg v) hv.2 (ys xs (i + 1)) (ys_b _ _)) (cwV 1 hts gL_law_X4_count rfl rfl rfl (by decide +kernel) ⟨(Nat.le_of_ble_eq_true rfl), (Nat.le_of_ble_eq_true rfl)⟩) hK hP hD hS hA (va_recv hK hP (ci := 4) (q0 := 16) rfl rfl) rfl hl.1 rfl (Nat.le_of_ble_eq_true rfl) ⟨(Nat.le_of_ble_eq_true rfl), (Nat.le_of_ble_eq_true rfl)⟩ dL_law_315 [16, 17, 18, 19, 20, 21, 22, 23, 24, 25, 26] [0, 1, 2, 3, 4, 5, 6, 7, 8, 9, 10, 11, 12, 13, 14, 15] [0, 1, 2, 3, 4, 5, 6, 7, 8, 9, 10, 11, 12, 13, 14, 15, 16, 17, 18, 19, 20, 21, 22, 23, 24, 25, 26] rfl (by decide) (wr := wCU q cI cJ u1) rfl (by decide) (by decide) (fun _ => rfl) (fun v1 => wB q r cI cJ cZ u1 v1) (fun _ => rfl) (fun _ => rfl) (fun r2 v1 H locs hr2 hP hD hS => ?_)
  refine j_eqI (tgt := 599) hx hb (by rw [hr1.1, hr2.1, huv]) dL_law_318 (by decide) ?_
  exact kk u1 v1 H locs ⟨hr1.2.1, hr2.2.1, (by rw [hr1.2.2, hr2.2.2, huv]), hP, hD, hS⟩
set_option maxHeartbeats 4000000 in
set_option maxRecDepth 100000 in
theorem lc_size (C : LwC p s m c b L xs D cI cJ cZ) (hi : 2 ≤ i ∧ i + 4 ≤ L) (hl : lv_has ls 4 [(0, .ref b), (1, .ref (q 15)), (2, .ref (r 0)), (3, .int (jI i))]) (I : LwI s D cI cJ cZ q r u v H locs) (kk : ∀ (u : CU) (v : MU) (H : Heap) (locs : List Loc), LwI s D cI cJ cZ q r u v H locs → W p l e room_1 s m #[Value.ref b] below meth c H locs 27 12671 Q (F0 m 599 ls [])) : W p l e room_1 s m #[Value.ref b] below meth c H locs 27 12671 Q (F0 m 323 ls []) := by
  obtain ⟨hx, hb, hml, hown, hts, hK, hX, hbl, hL⟩ := C
  obtain ⟨hu, hv, huv, hP, hD, hS⟩ := I
  have hA : ∀ k : Nat, s.heap.size ≤ k → Aw s k := fun _ h => h
  have hbA : ¬ Aw s b := Nat.not_le.mpr hbl
  refine lv_aload_n hx hb dL_law_323 rfl (lv_at hl 1 rfl) ?_
  refine lv_aload_n hx hb dL_law_324 rfl (lv_at hl 0 rfl) ?_
  refine lv_iload_n hx hb dL_law_325 rfl (lv_at hl 3 rfl) ?_
  refine j_iconst hx hb dL_law_326 ?_
  refine j_iadd hx hb dL_law_327 ?_
  refine j_scr hx hb hX hbl hbA hS (i := i + 1) (by omega) hL dL_law_328 ?_
  refine lv_aload_n hx hb dL_law_329 rfl (lv_at hl 0 rfl) ?_
  refine lv_iload_n hx hb dL_law_330 rfl (lv_at hl 3 rfl) ?_
  refine j_iconst hx hb dL_law_331 ?_
  refine j_iadd hx hb dL_law_332 ?_
  refine j_scr hx hb hX hbl hbA hS (i := i + 2) (by omega) hL dL_law_333 ?_
  refine j_mVI (As := [.int (jI (ys xs (i + 1))), .int (jI (ys xs (i + 2)))]) (rest := []) ⟨hx, hb, hml, hown, hts⟩ (kX3_size l D cI cJ cZ q u.1 (cLa u) (cWa u) (cMk u) hu.1 (cLp u) (cTp u) (cRk u) (cOd u) (cFr u) (cFo u) (cEx u) (cTo u) (cLn u) (cPg u) (cFb u) (cFl u) (cPl u) (cLb u) (cKn u) hu.2 (ys xs (i + 1)) (ys xs (i + 2)) ⟨ys_b _ _, ys_b _ _⟩) (cwV 2 hts gL_law_X3_size rfl rfl rfl (by decide +kernel) ⟨(Nat.le_of_ble_eq_true rfl), (Nat.le_of_ble_eq_true rfl)⟩) hK hP hD hS hA (va_recv hK hP (ci := 3) (q0 := 15) rfl rfl) rfl hl.1 rfl (Nat.le_of_ble_eq_true rfl) ⟨(Nat.le_of_ble_eq_true rfl), (Nat.le_of_ble_eq_true rfl)⟩ dL_law_334 [0, 1, 2, 3, 4, 5, 6, 7, 8, 9, 10, 11, 12, 13, 14, 15] [16, 17, 18, 19, 20, 21, 22, 23, 24, 25, 26] [11, 12, 13, 14, 15, 16, 17, 18, 19, 20, 21, 22, 23, 24, 25, 26, 0, 1, 2, 3, 4, 5, 6, 7, 8, 9, 10] rfl (by decide) (wr := wMU r cI cJ cZ v) rfl (by decide) (by decide) (fun _ => rfl) (fun u1 => wB q r cI cJ cZ u1 v) (fun _ => rfl) (fun _ => rfl) (fun r1 u1 H locs hr1 hP hD hS => ?_)
  refine lv_aload_n hx hb dL_law_337 rfl (lv_at hl 2 rfl) ?_
  refine lv_aload_n hx hb dL_law_338 rfl (lv_at hl 0 rfl) ?_
  refine lv_iload_n hx hb dL_law_339 rfl (lv_at hl 3 rfl) ?_
  refine j_iconst hx hb dL_law_340 ?_
  refine j_iadd hx hb dL_law_341 ?_
  refine j_scr hx hb hX hbl hbA hS (i := i + 1) (by omega) hL dL_law_342 ?_
  refine lv_aload_n hx hb dL_law_343 rfl (lv_at hl 0 rfl) ?_
  refine lv_iload_n hx hb dL_law_344 rfl (lv_at hl 3 rfl) ?_
  refine j_iconst hx hb dL_law_345 ?_
  refine j_iadd hx hb dL_law_346 ?_
  refine j_scr hx hb hX hbl hbA hS (i := i + 2) (by omega) hL dL_law_347 ?_
  refine j_mVI (As := [.int (jI (ys xs (i + 1))), .int (jI (ys xs (i + 2)))]) (rest := [.int r1]) ⟨hx, hb, hml, hown, hts⟩ (kX4_size l D cI cJ cZ r v.1 hv.1 (mRs v) (mKn v) (mBe v) (mLm v) (mLf v) (mPm v) (mPf v) (mNw v) (mTh v) (mPg v) hv.2 (ys xs (i + 1)) (ys xs (i + 2)) ⟨ys_b _ _, ys_b _ _⟩) (cwV 2 hts gL_law_X4_size rfl rfl rfl (by decide +kernel) ⟨(Nat.le_of_ble_eq_true rfl), (Nat.le_of_ble_eq_true rfl)⟩) hK hP hD hS hA (va_recv hK hP (ci := 4) (q0 := 16) rfl rfl) rfl hl.1 rfl (Nat.le_of_ble_eq_true rfl) ⟨(Nat.le_of_ble_eq_true rfl), (Nat.le_of_ble_eq_true rfl)⟩ dL_law_348 [16, 17, 18, 19, 20, 21, 22, 23, 24, 25, 26] [0, 1, 2, 3, 4, 5, 6, 7, 8, 9, 10, 11, 12, 13, 14, 15] [0, 1, 2, 3, 4, 5, 6, 7, 8, 9, 10, 11, 12, 13, 14, 15, 16, 17, 18, 19, 20, 21, 22, 23, 24, 25, 26] rfl (by decide) (wr := wCU q cI cJ u1) rfl (by decide) (by decide) (fun _ => rfl) (fun v1 => wB q r cI cJ cZ u1 v1) (fun _ => rfl) (fun _ => rfl) (fun r2 v1 H locs hr2 hP hD hS => ?_)
  refine j_eqI (tgt := 599) hx hb (by rw [hr1.1, hr2.1, huv]) dL_law_351 (by decide) ?_
  exact kk u1 v1 H locs ⟨hr1.2.1, hr2.2.1, (by rw [hr1.2.2, hr2.2.2, huv]), hP, hD, hS⟩
set_option maxHeartbeats 4000000 in
set_option maxRecDepth 100000 in
theorem lc_bars (C : LwC p s m c b L xs D cI cJ cZ) (hi : 2 ≤ i ∧ i + 4 ≤ L) (hl : lv_has ls 4 [(0, .ref b), (1, .ref (q 15)), (2, .ref (r 0)), (3, .int (jI i))]) (I : LwI s D cI cJ cZ q r u v H locs) (kk : ∀ (u : CU) (v : MU) (H : Heap) (locs : List Loc), LwI s D cI cJ cZ q r u v H locs → W p l e room_1 s m #[Value.ref b] below meth c H locs 27 12671 Q (F0 m 599 ls [])) : W p l e room_1 s m #[Value.ref b] below meth c H locs 27 12671 Q (F0 m 356 ls []) := by
  obtain ⟨hx, hb, hml, hown, hts, hK, hX, hbl, hL⟩ := C
  obtain ⟨hu, hv, huv, hP, hD, hS⟩ := I
  have hA : ∀ k : Nat, s.heap.size ≤ k → Aw s k := fun _ h => h
  have hbA : ¬ Aw s b := Nat.not_le.mpr hbl
  refine lv_aload_n hx hb dL_law_356 rfl (lv_at hl 1 rfl) ?_
  refine j_mVI (As := []) (rest := []) ⟨hx, hb, hml, hown, hts⟩ (kX3_bars l D cI cJ cZ q u.1 (cLa u) (cWa u) (cMk u) hu.1 (cLp u) (cTp u) (cRk u) (cOd u) (cFr u) (cFo u) (cEx u) (cTo u) (cLn u) (cPg u) (cFb u) (cFl u) (cPl u) (cLb u) (cKn u) hu.2  ) (cwV 0 hts gL_law_X3_bars rfl rfl rfl (by decide +kernel) ⟨(Nat.le_of_ble_eq_true rfl), (Nat.le_of_ble_eq_true rfl)⟩) hK hP hD hS hA (va_recv hK hP (ci := 3) (q0 := 15) rfl rfl) rfl hl.1 rfl (Nat.le_of_ble_eq_true rfl) ⟨(Nat.le_of_ble_eq_true rfl), (Nat.le_of_ble_eq_true rfl)⟩ dL_law_357 [0, 1, 2, 3, 4, 5, 6, 7, 8, 9, 10, 11, 12, 13, 14, 15] [16, 17, 18, 19, 20, 21, 22, 23, 24, 25, 26] [11, 12, 13, 14, 15, 16, 17, 18, 19, 20, 21, 22, 23, 24, 25, 26, 0, 1, 2, 3, 4, 5, 6, 7, 8, 9, 10] rfl (by decide) (wr := wMU r cI cJ cZ v) rfl (by decide) (by decide) (fun _ => rfl) (fun u1 => wB q r cI cJ cZ u1 v) (fun _ => rfl) (fun _ => rfl) (fun r1 u1 H locs hr1 hP hD hS => ?_)
  refine lv_aload_n hx hb dL_law_360 rfl (lv_at hl 2 rfl) ?_
  refine j_mVI (As := []) (rest := [.int r1]) ⟨hx, hb, hml, hown, hts⟩ (kX4_bars l D cI cJ cZ r v.1 hv.1 (mRs v) (mKn v) (mBe v) (mLm v) (mLf v) (mPm v) (mPf v) (mNw v) (mTh v) (mPg v) hv.2  ) (cwV 0 hts gL_law_X4_bars rfl rfl rfl (by decide +kernel) ⟨(Nat.le_of_ble_eq_true rfl), (Nat.le_of_ble_eq_true rfl)⟩) hK hP hD hS hA (va_recv hK hP (ci := 4) (q0 := 16) rfl rfl) rfl hl.1 rfl (Nat.le_of_ble_eq_true rfl) ⟨(Nat.le_of_ble_eq_true rfl), (Nat.le_of_ble_eq_true rfl)⟩ dL_law_361 [16, 17, 18, 19, 20, 21, 22, 23, 24, 25, 26] [0, 1, 2, 3, 4, 5, 6, 7, 8, 9, 10, 11, 12, 13, 14, 15] [0, 1, 2, 3, 4, 5, 6, 7, 8, 9, 10, 11, 12, 13, 14, 15, 16, 17, 18, 19, 20, 21, 22, 23, 24, 25, 26] rfl (by decide) (wr := wCU q cI cJ u1) rfl (by decide) (by decide) (fun _ => rfl) (fun v1 => wB q r cI cJ cZ u1 v1) (fun _ => rfl) (fun _ => rfl) (fun r2 v1 H locs hr2 hP hD hS => ?_)
  refine j_eqI (tgt := 599) hx hb (by rw [hr1.1, hr2.1, huv]) dL_law_364 (by decide) ?_
  exact kk u1 v1 H locs ⟨hr1.2.1, hr2.2.1, (by rw [hr1.2.2, hr2.2.2, huv]), hP, hD, hS⟩
set_option maxHeartbeats 4000000 in
set_option maxRecDepth 100000 in
theorem lc_lines (C : LwC p s m c b L xs D cI cJ cZ) (hi : 2 ≤ i ∧ i + 4 ≤ L) (hl : lv_has ls 4 [(0, .ref b), (1, .ref (q 15)), (2, .ref (r 0)), (3, .int (jI i))]) (I : LwI s D cI cJ cZ q r u v H locs) (kk : ∀ (u : CU) (v : MU) (H : Heap) (locs : List Loc), LwI s D cI cJ cZ q r u v H locs → W p l e room_1 s m #[Value.ref b] below meth c H locs 27 12671 Q (F0 m 599 ls [])) : W p l e room_1 s m #[Value.ref b] below meth c H locs 27 12671 Q (F0 m 369 ls []) := by
  obtain ⟨hx, hb, hml, hown, hts, hK, hX, hbl, hL⟩ := C
  obtain ⟨hu, hv, huv, hP, hD, hS⟩ := I
  have hA : ∀ k : Nat, s.heap.size ≤ k → Aw s k := fun _ h => h
  have hbA : ¬ Aw s b := Nat.not_le.mpr hbl
  refine lv_aload_n hx hb dL_law_369 rfl (lv_at hl 1 rfl) ?_
  refine j_mVI (As := []) (rest := []) ⟨hx, hb, hml, hown, hts⟩ (kX3_lines l D cI cJ cZ q u.1 (cLa u) (cWa u) (cMk u) hu.1 (cLp u) (cTp u) (cRk u) (cOd u) (cFr u) (cFo u) (cEx u) (cTo u) (cLn u) (cPg u) (cFb u) (cFl u) (cPl u) (cLb u) (cKn u) hu.2  ) (cwV 0 hts gL_law_X3_lines rfl rfl rfl (by decide +kernel) ⟨(Nat.le_of_ble_eq_true rfl), (Nat.le_of_ble_eq_true rfl)⟩) hK hP hD hS hA (va_recv hK hP (ci := 3) (q0 := 15) rfl rfl) rfl hl.1 rfl (Nat.le_of_ble_eq_true rfl) ⟨(Nat.le_of_ble_eq_true rfl), (Nat.le_of_ble_eq_true rfl)⟩ dL_law_370 [0, 1, 2, 3, 4, 5, 6, 7, 8, 9, 10, 11, 12, 13, 14, 15] [16, 17, 18, 19, 20, 21, 22, 23, 24, 25, 26] [11, 12, 13, 14, 15, 16, 17, 18, 19, 20, 21, 22, 23, 24, 25, 26, 0, 1, 2, 3, 4, 5, 6, 7, 8, 9, 10] rfl (by decide) (wr := wMU r cI cJ cZ v) rfl (by decide) (by decide) (fun _ => rfl) (fun u1 => wB q r cI cJ cZ u1 v) (fun _ => rfl) (fun _ => rfl) (fun r1 u1 H locs hr1 hP hD hS => ?_)
  refine lv_aload_n hx hb dL_law_373 rfl (lv_at hl 2 rfl) ?_
  refine j_mVI (As := []) (rest := [.int r1]) ⟨hx, hb, hml, hown, hts⟩ (kX4_lines l D cI cJ cZ r v.1 hv.1 (mRs v) (mKn v) (mBe v) (mLm v) (mLf v) (mPm v) (mPf v) (mNw v) (mTh v) (mPg v) hv.2  ) (cwV 0 hts gL_law_X4_lines rfl rfl rfl (by decide +kernel) ⟨(Nat.le_of_ble_eq_true rfl), (Nat.le_of_ble_eq_true rfl)⟩) hK hP hD hS hA (va_recv hK hP (ci := 4) (q0 := 16) rfl rfl) rfl hl.1 rfl (Nat.le_of_ble_eq_true rfl) ⟨(Nat.le_of_ble_eq_true rfl), (Nat.le_of_ble_eq_true rfl)⟩ dL_law_374 [16, 17, 18, 19, 20, 21, 22, 23, 24, 25, 26] [0, 1, 2, 3, 4, 5, 6, 7, 8, 9, 10, 11, 12, 13, 14, 15] [0, 1, 2, 3, 4, 5, 6, 7, 8, 9, 10, 11, 12, 13, 14, 15, 16, 17, 18, 19, 20, 21, 22, 23, 24, 25, 26] rfl (by decide) (wr := wCU q cI cJ u1) rfl (by decide) (by decide) (fun _ => rfl) (fun v1 => wB q r cI cJ cZ u1 v1) (fun _ => rfl) (fun _ => rfl) (fun r2 v1 H locs hr2 hP hD hS => ?_)
  have e1 : u1.1 = v1.1 := by rw [hr1.2.2.1, hr2.2.2.1, huv]
  have hB := both hr1.2.1 hr2.2.1 e1 hr1.2.2.2 hr2.2.2.2
  refine j_eqI (tgt := 599) hx hb (by rw [hr1.1, hr2.1]; exact congrArg jI (lines_same hr2.2.1.1 hB.1 hB.2).1) dL_law_377 (by decide) ?_
  exact kk u1 v1 H locs ⟨hr1.2.1, hr2.2.1, e1, hP, hD, hS⟩
set_option maxHeartbeats 4000000 in
set_option maxRecDepth 100000 in
theorem lc_pages (C : LwC p s m c b L xs D cI cJ cZ) (hi : 2 ≤ i ∧ i + 4 ≤ L) (hl : lv_has ls 4 [(0, .ref b), (1, .ref (q 15)), (2, .ref (r 0)), (3, .int (jI i))]) (I : LwI s D cI cJ cZ q r u v H locs) (kk : ∀ (u : CU) (v : MU) (H : Heap) (locs : List Loc), LwI s D cI cJ cZ q r u v H locs → W p l e room_1 s m #[Value.ref b] below meth c H locs 27 12671 Q (F0 m 599 ls [])) : W p l e room_1 s m #[Value.ref b] below meth c H locs 27 12671 Q (F0 m 382 ls []) := by
  obtain ⟨hx, hb, hml, hown, hts, hK, hX, hbl, hL⟩ := C
  obtain ⟨hu, hv, huv, hP, hD, hS⟩ := I
  have hA : ∀ k : Nat, s.heap.size ≤ k → Aw s k := fun _ h => h
  have hbA : ¬ Aw s b := Nat.not_le.mpr hbl
  refine lv_aload_n hx hb dL_law_382 rfl (lv_at hl 1 rfl) ?_
  refine j_mVI (As := []) (rest := []) ⟨hx, hb, hml, hown, hts⟩ (kX3_pages l D cI cJ cZ q u.1 (cLa u) (cWa u) (cMk u) hu.1 (cLp u) (cTp u) (cRk u) (cOd u) (cFr u) (cFo u) (cEx u) (cTo u) (cLn u) (cPg u) (cFb u) (cFl u) (cPl u) (cLb u) (cKn u) hu.2  ) (cwV 0 hts gL_law_X3_pages rfl rfl rfl (by decide +kernel) ⟨(Nat.le_of_ble_eq_true rfl), (Nat.le_of_ble_eq_true rfl)⟩) hK hP hD hS hA (va_recv hK hP (ci := 3) (q0 := 15) rfl rfl) rfl hl.1 rfl (Nat.le_of_ble_eq_true rfl) ⟨(Nat.le_of_ble_eq_true rfl), (Nat.le_of_ble_eq_true rfl)⟩ dL_law_383 [0, 1, 2, 3, 4, 5, 6, 7, 8, 9, 10, 11, 12, 13, 14, 15] [16, 17, 18, 19, 20, 21, 22, 23, 24, 25, 26] [11, 12, 13, 14, 15, 16, 17, 18, 19, 20, 21, 22, 23, 24, 25, 26, 0, 1, 2, 3, 4, 5, 6, 7, 8, 9, 10] rfl (by decide) (wr := wMU r cI cJ cZ v) rfl (by decide) (by decide) (fun _ => rfl) (fun u1 => wB q r cI cJ cZ u1 v) (fun _ => rfl) (fun _ => rfl) (fun r1 u1 H locs hr1 hP hD hS => ?_)
  refine lv_aload_n hx hb dL_law_386 rfl (lv_at hl 2 rfl) ?_
  refine j_mVI (As := []) (rest := [.int r1]) ⟨hx, hb, hml, hown, hts⟩ (kX4_pages l D cI cJ cZ r v.1 hv.1 (mRs v) (mKn v) (mBe v) (mLm v) (mLf v) (mPm v) (mPf v) (mNw v) (mTh v) (mPg v) hv.2  ) (cwV 0 hts gL_law_X4_pages rfl rfl rfl (by decide +kernel) ⟨(Nat.le_of_ble_eq_true rfl), (Nat.le_of_ble_eq_true rfl)⟩) hK hP hD hS hA (va_recv hK hP (ci := 4) (q0 := 16) rfl rfl) rfl hl.1 rfl (Nat.le_of_ble_eq_true rfl) ⟨(Nat.le_of_ble_eq_true rfl), (Nat.le_of_ble_eq_true rfl)⟩ dL_law_387 [16, 17, 18, 19, 20, 21, 22, 23, 24, 25, 26] [0, 1, 2, 3, 4, 5, 6, 7, 8, 9, 10, 11, 12, 13, 14, 15] [0, 1, 2, 3, 4, 5, 6, 7, 8, 9, 10, 11, 12, 13, 14, 15, 16, 17, 18, 19, 20, 21, 22, 23, 24, 25, 26] rfl (by decide) (wr := wCU q cI cJ u1) rfl (by decide) (by decide) (fun _ => rfl) (fun v1 => wB q r cI cJ cZ u1 v1) (fun _ => rfl) (fun _ => rfl) (fun r2 v1 H locs hr2 hP hD hS => ?_)
  have e1 : u1.1 = v1.1 := by rw [hr1.2.2.1, hr2.2.2.1, huv]
  have hB := both hr1.2.1 hr2.2.1 e1 hr1.2.2.2 hr2.2.2.2
  refine j_eqI (tgt := 599) hx hb (by rw [hr1.1, hr2.1]; exact congrArg jI (lines_same hr2.2.1.1 hB.1 hB.2).2.1) dL_law_390 (by decide) ?_
  exact kk u1 v1 H locs ⟨hr1.2.1, hr2.2.1, e1, hP, hD, hS⟩
set_option maxHeartbeats 4000000 in
set_option maxRecDepth 100000 in
theorem lc_sum (C : LwC p s m c b L xs D cI cJ cZ) (hi : 2 ≤ i ∧ i + 4 ≤ L) (hl : lv_has ls 4 [(0, .ref b), (1, .ref (q 15)), (2, .ref (r 0)), (3, .int (jI i))]) (I : LwI s D cI cJ cZ q r u v H locs) (kk : ∀ (u : CU) (v : MU) (H : Heap) (locs : List Loc), LwI s D cI cJ cZ q r u v H locs → W p l e room_1 s m #[Value.ref b] below meth c H locs 27 12671 Q (F0 m 599 ls [])) : W p l e room_1 s m #[Value.ref b] below meth c H locs 27 12671 Q (F0 m 395 ls []) := by
  obtain ⟨hx, hb, hml, hown, hts, hK, hX, hbl, hL⟩ := C
  obtain ⟨hu, hv, huv, hP, hD, hS⟩ := I
  have hA : ∀ k : Nat, s.heap.size ≤ k → Aw s k := fun _ h => h
  have hbA : ¬ Aw s b := Nat.not_le.mpr hbl
  refine lv_aload_n hx hb dL_law_395 rfl (lv_at hl 1 rfl) ?_
  refine j_mVL (As := []) (rest := []) ⟨hx, hb, hml, hown, hts⟩ (kX3_sum l D cI cJ cZ q u.1 (cLa u) (cWa u) (cMk u) hu.1 (cLp u) (cTp u) (cRk u) (cOd u) (cFr u) (cFo u) (cEx u) (cTo u) (cLn u) (cPg u) (cFb u) (cFl u) (cPl u) (cLb u) (cKn u) hu.2  ) (cwV 0 hts gL_law_X3_sum rfl rfl rfl (by decide +kernel) ⟨(Nat.le_of_ble_eq_true rfl), (Nat.le_of_ble_eq_true rfl)⟩) hK hP hD hS hA (va_recv hK hP (ci := 3) (q0 := 15) rfl rfl) rfl hl.1 rfl (Nat.le_of_ble_eq_true rfl) ⟨(Nat.le_of_ble_eq_true rfl), (Nat.le_of_ble_eq_true rfl)⟩ dL_law_396 [0, 1, 2, 3, 4, 5, 6, 7, 8, 9, 10, 11, 12, 13, 14, 15] [16, 17, 18, 19, 20, 21, 22, 23, 24, 25, 26] [11, 12, 13, 14, 15, 16, 17, 18, 19, 20, 21, 22, 23, 24, 25, 26, 0, 1, 2, 3, 4, 5, 6, 7, 8, 9, 10] rfl (by decide) (wr := wMU r cI cJ cZ v) rfl (by decide) (by decide) (fun _ => rfl) (fun u1 => wB q r cI cJ cZ u1 v) (fun _ => rfl) (fun _ => rfl) (fun r1 u1 H locs hr1 hP hD hS => ?_)
  refine lv_aload_n hx hb dL_law_399 rfl (lv_at hl 2 rfl) ?_
  refine j_mVL (As := []) (rest := [.long r1]) ⟨hx, hb, hml, hown, hts⟩ (kX4_sum l D cI cJ cZ r v.1 hv.1 (mRs v) (mKn v) (mBe v) (mLm v) (mLf v) (mPm v) (mPf v) (mNw v) (mTh v) (mPg v) hv.2  ) (cwV 0 hts gL_law_X4_sum rfl rfl rfl (by decide +kernel) ⟨(Nat.le_of_ble_eq_true rfl), (Nat.le_of_ble_eq_true rfl)⟩) hK hP hD hS hA (va_recv hK hP (ci := 4) (q0 := 16) rfl rfl) rfl hl.1 rfl (Nat.le_of_ble_eq_true rfl) ⟨(Nat.le_of_ble_eq_true rfl), (Nat.le_of_ble_eq_true rfl)⟩ dL_law_400 [16, 17, 18, 19, 20, 21, 22, 23, 24, 25, 26] [0, 1, 2, 3, 4, 5, 6, 7, 8, 9, 10, 11, 12, 13, 14, 15] [0, 1, 2, 3, 4, 5, 6, 7, 8, 9, 10, 11, 12, 13, 14, 15, 16, 17, 18, 19, 20, 21, 22, 23, 24, 25, 26] rfl (by decide) (wr := wCU q cI cJ u1) rfl (by decide) (by decide) (fun _ => rfl) (fun v1 => wB q r cI cJ cZ u1 v1) (fun _ => rfl) (fun _ => rfl) (fun r2 v1 H locs hr2 hP hD hS => ?_)
  have e1 : u1.1 = v1.1 := by rw [hr1.2.2.1, hr2.2.2.1, huv]
  have hB := both hr1.2.1 hr2.2.1 e1 hr1.2.2.2 hr2.2.2.2
  refine j_eqL (tgt := 599) hx hb (by rw [hr1.1, hr2.1]; exact congrArg jL (lines_same hr2.2.1.1 hB.1 hB.2).2.2) dL_law_403 dL_law_404 (by decide) ?_
  exact kk u1 v1 H locs ⟨hr1.2.1, hr2.2.1, e1, hP, hD, hS⟩
set_option maxHeartbeats 4000000 in
set_option maxRecDepth 100000 in
theorem lc_line (C : LwC p s m c b L xs D cI cJ cZ) (hi : 2 ≤ i ∧ i + 4 ≤ L) (hl : lv_has ls 4 [(0, .ref b), (1, .ref (q 15)), (2, .ref (r 0)), (3, .int (jI i))]) (I : LwI s D cI cJ cZ q r u v H locs) (kk : ∀ (u : CU) (v : MU) (H : Heap) (locs : List Loc), LwI s D cI cJ cZ q r u v H locs → W p l e room_1 s m #[Value.ref b] below meth c H locs 27 12671 Q (F0 m 599 ls [])) : W p l e room_1 s m #[Value.ref b] below meth c H locs 27 12671 Q (F0 m 409 ls []) := by
  obtain ⟨hx, hb, hml, hown, hts, hK, hX, hbl, hL⟩ := C
  obtain ⟨hu, hv, huv, hP, hD, hS⟩ := I
  have hA : ∀ k : Nat, s.heap.size ≤ k → Aw s k := fun _ h => h
  have hbA : ¬ Aw s b := Nat.not_le.mpr hbl
  refine lv_aload_n hx hb dL_law_409 rfl (lv_at hl 1 rfl) ?_
  refine lv_aload_n hx hb dL_law_410 rfl (lv_at hl 0 rfl) ?_
  refine lv_iload_n hx hb dL_law_411 rfl (lv_at hl 3 rfl) ?_
  refine j_iconst hx hb dL_law_412 ?_
  refine j_iadd hx hb dL_law_413 ?_
  refine j_scr hx hb hX hbl hbA hS (i := i + 1) (by omega) hL dL_law_414 ?_
  refine lv_aload_n hx hb dL_law_415 rfl (lv_at hl 0 rfl) ?_
  refine lv_iload_n hx hb dL_law_416 rfl (lv_at hl 3 rfl) ?_
  refine j_iconst hx hb dL_law_417 ?_
  refine j_iadd hx hb dL_law_418 ?_
  refine j_scr hx hb hX hbl hbA hS (i := i + 2) (by omega) hL dL_law_419 ?_
  refine j_mVI (As := [.int (jI (ys xs (i + 1))), .int (jI (ys xs (i + 2)))]) (rest := []) ⟨hx, hb, hml, hown, hts⟩ (kX3_line l D cI cJ cZ q u.1 (cLa u) (cWa u) (cMk u) hu.1 (cLp u) (cTp u) (cRk u) (cOd u) (cFr u) (cFo u) (cEx u) (cTo u) (cLn u) (cPg u) (cFb u) (cFl u) (cPl u) (cLb u) (cKn u) hu.2 (ys xs (i + 1)) (ys xs (i + 2)) ⟨ys_b _ _, ys_b _ _⟩) (cwV 2 hts gL_law_X3_line rfl rfl rfl (by decide +kernel) ⟨(Nat.le_of_ble_eq_true rfl), (Nat.le_of_ble_eq_true rfl)⟩) hK hP hD hS hA (va_recv hK hP (ci := 3) (q0 := 15) rfl rfl) rfl hl.1 rfl (Nat.le_of_ble_eq_true rfl) ⟨(Nat.le_of_ble_eq_true rfl), (Nat.le_of_ble_eq_true rfl)⟩ dL_law_420 [0, 1, 2, 3, 4, 5, 6, 7, 8, 9, 10, 11, 12, 13, 14, 15] [16, 17, 18, 19, 20, 21, 22, 23, 24, 25, 26] [11, 12, 13, 14, 15, 16, 17, 18, 19, 20, 21, 22, 23, 24, 25, 26, 0, 1, 2, 3, 4, 5, 6, 7, 8, 9, 10] rfl (by decide) (wr := wMU r cI cJ cZ v) rfl (by decide) (by decide) (fun _ => rfl) (fun u1 => wB q r cI cJ cZ u1 v) (fun _ => rfl) (fun _ => rfl) (fun r1 u1 H locs hr1 hP hD hS => ?_)
  refine lv_aload_n hx hb dL_law_423 rfl (lv_at hl 2 rfl) ?_
  refine lv_aload_n hx hb dL_law_424 rfl (lv_at hl 0 rfl) ?_
  refine lv_iload_n hx hb dL_law_425 rfl (lv_at hl 3 rfl) ?_
  refine j_iconst hx hb dL_law_426 ?_
  refine j_iadd hx hb dL_law_427 ?_
  refine j_scr hx hb hX hbl hbA hS (i := i + 1) (by omega) hL dL_law_428 ?_
  refine lv_aload_n hx hb dL_law_429 rfl (lv_at hl 0 rfl) ?_
  refine lv_iload_n hx hb dL_law_430 rfl (lv_at hl 3 rfl) ?_
  refine j_iconst hx hb dL_law_431 ?_
  refine j_iadd hx hb dL_law_432 ?_
  refine j_scr hx hb hX hbl hbA hS (i := i + 2) (by omega) hL dL_law_433 ?_
  refine j_mVI (As := [.int (jI (ys xs (i + 1))), .int (jI (ys xs (i + 2)))]) (rest := [.int r1]) ⟨hx, hb, hml, hown, hts⟩ (kX4_line l D cI cJ cZ r v.1 hv.1 (mRs v) (mKn v) (mBe v) (mLm v) (mLf v) (mPm v) (mPf v) (mNw v) (mTh v) (mPg v) hv.2 (ys xs (i + 1)) (ys xs (i + 2)) ⟨ys_b _ _, ys_b _ _⟩) (cwV 2 hts gL_law_X4_line rfl rfl rfl (by decide +kernel) ⟨(Nat.le_of_ble_eq_true rfl), (Nat.le_of_ble_eq_true rfl)⟩) hK hP hD hS hA (va_recv hK hP (ci := 4) (q0 := 16) rfl rfl) rfl hl.1 rfl (Nat.le_of_ble_eq_true rfl) ⟨(Nat.le_of_ble_eq_true rfl), (Nat.le_of_ble_eq_true rfl)⟩ dL_law_434 [16, 17, 18, 19, 20, 21, 22, 23, 24, 25, 26] [0, 1, 2, 3, 4, 5, 6, 7, 8, 9, 10, 11, 12, 13, 14, 15] [0, 1, 2, 3, 4, 5, 6, 7, 8, 9, 10, 11, 12, 13, 14, 15, 16, 17, 18, 19, 20, 21, 22, 23, 24, 25, 26] rfl (by decide) (wr := wCU q cI cJ u1) rfl (by decide) (by decide) (fun _ => rfl) (fun v1 => wB q r cI cJ cZ u1 v1) (fun _ => rfl) (fun _ => rfl) (fun r2 v1 H locs hr2 hP hD hS => ?_)
  have e1 : u1.1 = v1.1 := by rw [hr1.2.2.1, hr2.2.2.1, huv]
  have hB := both hr1.2.1 hr2.2.1 e1 hr1.2.2.2 hr2.2.2.2
  rw [hr2.2.2.1] at hB
  have hE : r1 = r2 := by
    obtain ⟨pl2, lb2, hM, hq⟩ := hr2.1
    rw [hr1.1, hq, huv]
    exact congrArg jI (line_same hv.1 hB.1 hB.2 hM _ _)
  refine j_eqI (tgt := 599) hx hb hE dL_law_437 (by decide) ?_
  exact kk u1 v1 H locs ⟨hr1.2.1, hr2.2.1, e1, hP, hD, hS⟩
set_option maxHeartbeats 4000000 in
set_option maxRecDepth 100000 in
theorem lc_page (C : LwC p s m c b L xs D cI cJ cZ) (hi : 2 ≤ i ∧ i + 4 ≤ L) (hl : lv_has ls 4 [(0, .ref b), (1, .ref (q 15)), (2, .ref (r 0)), (3, .int (jI i))]) (I : LwI s D cI cJ cZ q r u v H locs) (kk : ∀ (u : CU) (v : MU) (H : Heap) (locs : List Loc), LwI s D cI cJ cZ q r u v H locs → W p l e room_1 s m #[Value.ref b] below meth c H locs 27 12671 Q (F0 m 599 ls [])) : W p l e room_1 s m #[Value.ref b] below meth c H locs 27 12671 Q (F0 m 442 ls []) := by
  obtain ⟨hx, hb, hml, hown, hts, hK, hX, hbl, hL⟩ := C
  obtain ⟨hu, hv, huv, hP, hD, hS⟩ := I
  have hA : ∀ k : Nat, s.heap.size ≤ k → Aw s k := fun _ h => h
  have hbA : ¬ Aw s b := Nat.not_le.mpr hbl
  refine lv_aload_n hx hb dL_law_442 rfl (lv_at hl 1 rfl) ?_
  refine lv_aload_n hx hb dL_law_443 rfl (lv_at hl 0 rfl) ?_
  refine lv_iload_n hx hb dL_law_444 rfl (lv_at hl 3 rfl) ?_
  refine j_iconst hx hb dL_law_445 ?_
  refine j_iadd hx hb dL_law_446 ?_
  refine j_scr hx hb hX hbl hbA hS (i := i + 1) (by omega) hL dL_law_447 ?_
  refine lv_aload_n hx hb dL_law_448 rfl (lv_at hl 0 rfl) ?_
  refine lv_iload_n hx hb dL_law_449 rfl (lv_at hl 3 rfl) ?_
  refine j_iconst hx hb dL_law_450 ?_
  refine j_iadd hx hb dL_law_451 ?_
  refine j_scr hx hb hX hbl hbA hS (i := i + 2) (by omega) hL dL_law_452 ?_
  refine j_mVI (As := [.int (jI (ys xs (i + 1))), .int (jI (ys xs (i + 2)))]) (rest := []) ⟨hx, hb, hml, hown, hts⟩ (kX3_page l D cI cJ cZ q u.1 (cLa u) (cWa u) (cMk u) hu.1 (cLp u) (cTp u) (cRk u) (cOd u) (cFr u) (cFo u) (cEx u) (cTo u) (cLn u) (cPg u) (cFb u) (cFl u) (cPl u) (cLb u) (cKn u) hu.2 (ys xs (i + 1)) (ys xs (i + 2)) ⟨ys_b _ _, ys_b _ _⟩) (cwV 2 hts gL_law_X3_page rfl rfl rfl (by decide +kernel) ⟨(Nat.le_of_ble_eq_true rfl), (Nat.le_of_ble_eq_true rfl)⟩) hK hP hD hS hA (va_recv hK hP (ci := 3) (q0 := 15) rfl rfl) rfl hl.1 rfl (Nat.le_of_ble_eq_true rfl) ⟨(Nat.le_of_ble_eq_true rfl), (Nat.le_of_ble_eq_true rfl)⟩ dL_law_453 [0, 1, 2, 3, 4, 5, 6, 7, 8, 9, 10, 11, 12, 13, 14, 15] [16, 17, 18, 19, 20, 21, 22, 23, 24, 25, 26] [11, 12, 13, 14, 15, 16, 17, 18, 19, 20, 21, 22, 23, 24, 25, 26, 0, 1, 2, 3, 4, 5, 6, 7, 8, 9, 10] rfl (by decide) (wr := wMU r cI cJ cZ v) rfl (by decide) (by decide) (fun _ => rfl) (fun u1 => wB q r cI cJ cZ u1 v) (fun _ => rfl) (fun _ => rfl) (fun r1 u1 H locs hr1 hP hD hS => ?_)
  refine lv_aload_n hx hb dL_law_456 rfl (lv_at hl 2 rfl) ?_
  refine lv_aload_n hx hb dL_law_457 rfl (lv_at hl 0 rfl) ?_
  refine lv_iload_n hx hb dL_law_458 rfl (lv_at hl 3 rfl) ?_
  refine j_iconst hx hb dL_law_459 ?_
  refine j_iadd hx hb dL_law_460 ?_
  refine j_scr hx hb hX hbl hbA hS (i := i + 1) (by omega) hL dL_law_461 ?_
  refine lv_aload_n hx hb dL_law_462 rfl (lv_at hl 0 rfl) ?_
  refine lv_iload_n hx hb dL_law_463 rfl (lv_at hl 3 rfl) ?_
  refine j_iconst hx hb dL_law_464 ?_
  refine j_iadd hx hb dL_law_465 ?_
  refine j_scr hx hb hX hbl hbA hS (i := i + 2) (by omega) hL dL_law_466 ?_
  refine j_mVI (As := [.int (jI (ys xs (i + 1))), .int (jI (ys xs (i + 2)))]) (rest := [.int r1]) ⟨hx, hb, hml, hown, hts⟩ (kX4_page l D cI cJ cZ r v.1 hv.1 (mRs v) (mKn v) (mBe v) (mLm v) (mLf v) (mPm v) (mPf v) (mNw v) (mTh v) (mPg v) hv.2 (ys xs (i + 1)) (ys xs (i + 2)) ⟨ys_b _ _, ys_b _ _⟩) (cwV 2 hts gL_law_X4_page rfl rfl rfl (by decide +kernel) ⟨(Nat.le_of_ble_eq_true rfl), (Nat.le_of_ble_eq_true rfl)⟩) hK hP hD hS hA (va_recv hK hP (ci := 4) (q0 := 16) rfl rfl) rfl hl.1 rfl (Nat.le_of_ble_eq_true rfl) ⟨(Nat.le_of_ble_eq_true rfl), (Nat.le_of_ble_eq_true rfl)⟩ dL_law_467 [16, 17, 18, 19, 20, 21, 22, 23, 24, 25, 26] [0, 1, 2, 3, 4, 5, 6, 7, 8, 9, 10, 11, 12, 13, 14, 15] [0, 1, 2, 3, 4, 5, 6, 7, 8, 9, 10, 11, 12, 13, 14, 15, 16, 17, 18, 19, 20, 21, 22, 23, 24, 25, 26] rfl (by decide) (wr := wCU q cI cJ u1) rfl (by decide) (by decide) (fun _ => rfl) (fun v1 => wB q r cI cJ cZ u1 v1) (fun _ => rfl) (fun _ => rfl) (fun r2 v1 H locs hr2 hP hD hS => ?_)
  have e1 : u1.1 = v1.1 := by rw [hr1.2.2.1, hr2.2.2.1, huv]
  have hB := both hr1.2.1 hr2.2.1 e1 hr1.2.2.2 hr2.2.2.2
  rw [hr2.2.2.1] at hB
  have hE : r1 = r2 := by
    obtain ⟨pl2, lb2, hM, hq⟩ := hr2.1
    rw [hr1.1, hq, huv]
    exact congrArg jI (page_same hv.1 hB.1 hB.2 _ _)
  refine j_eqI (tgt := 599) hx hb hE dL_law_470 (by decide) ?_
  exact kk u1 v1 H locs ⟨hr1.2.1, hr2.2.1, e1, hP, hD, hS⟩
set_option maxHeartbeats 4000000 in
set_option maxRecDepth 100000 in
theorem lc_set (C : LwC p s m c b L xs D cI cJ cZ) (hi : 2 ≤ i ∧ i + 4 ≤ L) (hl : lv_has ls 4 [(0, .ref b), (1, .ref (q 15)), (2, .ref (r 0)), (3, .int (jI i))]) (I : LwI s D cI cJ cZ q r u v H locs) (kk : ∀ (u : CU) (v : MU) (H : Heap) (locs : List Loc), LwI s D cI cJ cZ q r u v H locs → W p l e room_1 s m #[Value.ref b] below meth c H locs 27 12671 Q (F0 m 599 ls [])) : W p l e room_1 s m #[Value.ref b] below meth c H locs 27 12671 Q (F0 m 475 ls []) := by
  obtain ⟨hx, hb, hml, hown, hts, hK, hX, hbl, hL⟩ := C
  obtain ⟨hu, hv, huv, hP, hD, hS⟩ := I
  have hA : ∀ k : Nat, s.heap.size ≤ k → Aw s k := fun _ h => h
  have hbA : ¬ Aw s b := Nat.not_le.mpr hbl
  refine lv_aload_n hx hb dL_law_475 rfl (lv_at hl 1 rfl) ?_
  refine lv_aload_n hx hb dL_law_476 rfl (lv_at hl 0 rfl) ?_
  refine lv_iload_n hx hb dL_law_477 rfl (lv_at hl 3 rfl) ?_
  refine j_iconst hx hb dL_law_478 ?_
  refine j_iadd hx hb dL_law_479 ?_
  refine j_scr hx hb hX hbl hbA hS (i := i + 1) (by omega) hL dL_law_480 ?_
  refine lv_aload_n hx hb dL_law_481 rfl (lv_at hl 0 rfl) ?_
  refine lv_iload_n hx hb dL_law_482 rfl (lv_at hl 3 rfl) ?_
  refine j_iconst hx hb dL_law_483 ?_
  refine j_iadd hx hb dL_law_484 ?_
  refine j_scr hx hb hX hbl hbA hS (i := i + 2) (by omega) hL dL_law_485 ?_
  refine j_mVI (As := [.int (jI (ys xs (i + 1))), .int (jI (ys xs (i + 2)))]) (rest := []) ⟨hx, hb, hml, hown, hts⟩ (kX3_set l D cI cJ cZ q u.1 (cLa u) (cWa u) (cMk u) hu.1 (cLp u) (cTp u) (cRk u) (cOd u) (cFr u) (cFo u) (cEx u) (cTo u) (cLn u) (cPg u) (cFb u) (cFl u) (cPl u) (cLb u) (cKn u) hu.2 (ys xs (i + 1)) (ys xs (i + 2)) ⟨ys_b _ _, ys_b _ _⟩) (cwV 2 hts gL_law_X3_set rfl rfl rfl (by decide +kernel) ⟨(Nat.le_of_ble_eq_true rfl), (Nat.le_of_ble_eq_true rfl)⟩) hK hP hD hS hA (va_recv hK hP (ci := 3) (q0 := 15) rfl rfl) rfl hl.1 rfl (Nat.le_of_ble_eq_true rfl) ⟨(Nat.le_of_ble_eq_true rfl), (Nat.le_of_ble_eq_true rfl)⟩ dL_law_486 [0, 1, 2, 3, 4, 5, 6, 7, 8, 9, 10, 11, 12, 13, 14, 15] [16, 17, 18, 19, 20, 21, 22, 23, 24, 25, 26] [11, 12, 13, 14, 15, 16, 17, 18, 19, 20, 21, 22, 23, 24, 25, 26, 0, 1, 2, 3, 4, 5, 6, 7, 8, 9, 10] rfl (by decide) (wr := wMU r cI cJ cZ v) rfl (by decide) (by decide) (fun _ => rfl) (fun u1 => wB q r cI cJ cZ u1 v) (fun _ => rfl) (fun _ => rfl) (fun r1 u1 H locs hr1 hP hD hS => ?_)
  refine lv_aload_n hx hb dL_law_489 rfl (lv_at hl 2 rfl) ?_
  refine lv_aload_n hx hb dL_law_490 rfl (lv_at hl 0 rfl) ?_
  refine lv_iload_n hx hb dL_law_491 rfl (lv_at hl 3 rfl) ?_
  refine j_iconst hx hb dL_law_492 ?_
  refine j_iadd hx hb dL_law_493 ?_
  refine j_scr hx hb hX hbl hbA hS (i := i + 1) (by omega) hL dL_law_494 ?_
  refine lv_aload_n hx hb dL_law_495 rfl (lv_at hl 0 rfl) ?_
  refine lv_iload_n hx hb dL_law_496 rfl (lv_at hl 3 rfl) ?_
  refine j_iconst hx hb dL_law_497 ?_
  refine j_iadd hx hb dL_law_498 ?_
  refine j_scr hx hb hX hbl hbA hS (i := i + 2) (by omega) hL dL_law_499 ?_
  refine j_mVI (As := [.int (jI (ys xs (i + 1))), .int (jI (ys xs (i + 2)))]) (rest := [.int r1]) ⟨hx, hb, hml, hown, hts⟩ (kX4_set l D cI cJ cZ r v.1 hv.1 (mRs v) (mKn v) (mBe v) (mLm v) (mLf v) (mPm v) (mPf v) (mNw v) (mTh v) (mPg v) hv.2 (ys xs (i + 1)) (ys xs (i + 2)) ⟨ys_b _ _, ys_b _ _⟩) (cwV 2 hts gL_law_X4_set rfl rfl rfl (by decide +kernel) ⟨(Nat.le_of_ble_eq_true rfl), (Nat.le_of_ble_eq_true rfl)⟩) hK hP hD hS hA (va_recv hK hP (ci := 4) (q0 := 16) rfl rfl) rfl hl.1 rfl (Nat.le_of_ble_eq_true rfl) ⟨(Nat.le_of_ble_eq_true rfl), (Nat.le_of_ble_eq_true rfl)⟩ dL_law_500 [16, 17, 18, 19, 20, 21, 22, 23, 24, 25, 26] [0, 1, 2, 3, 4, 5, 6, 7, 8, 9, 10, 11, 12, 13, 14, 15] [0, 1, 2, 3, 4, 5, 6, 7, 8, 9, 10, 11, 12, 13, 14, 15, 16, 17, 18, 19, 20, 21, 22, 23, 24, 25, 26] rfl (by decide) (wr := wCU q cI cJ u1) rfl (by decide) (by decide) (fun _ => rfl) (fun v1 => wB q r cI cJ cZ u1 v1) (fun _ => rfl) (fun _ => rfl) (fun r2 v1 H locs hr2 hP hD hS => ?_)
  have e1 : u1.1 = v1.1 := by rw [hr1.2.2.1, hr2.2.2, huv]
  have hE : r1 = r2 := by
    obtain ⟨pl2, lb2, hM, hq⟩ := hr2.1
    have hk := hr1.2.2.2
    rw [huv] at hk
    rw [hr1.1, hq, huv]
    refine congrArg jI (set_same hv.1 (pl2 := pl2) (lb2 := lb2) (to := cTo u1) (ln := cLn u1) (pg := cPg u1) (fl := cFl u1) (pl := cPl u1) (lm := mLm v1) (pm := mPm v1) (pf := mPf v1) (fun c1 c2 => ?_))
    have hB := both hr1.2.1 hr2.2.1 e1 (hk c1 c2) (hM c1 c2).2
    rw [hr2.2.2] at hB
    exact ⟨hB.1, hB.2, (hM c1 c2).1⟩
  refine j_eqI (tgt := 599) hx hb hE dL_law_503 (by decide) ?_
  exact kk u1 v1 H locs ⟨hr1.2.1, hr2.2.1, e1, hP, hD, hS⟩
set_option maxHeartbeats 4000000 in
set_option maxRecDepth 100000 in
theorem lc_ends (C : LwC p s m c b L xs D cI cJ cZ) (hi : 2 ≤ i ∧ i + 4 ≤ L) (hl : lv_has ls 4 [(0, .ref b), (1, .ref (q 15)), (2, .ref (r 0)), (3, .int (jI i))]) (I : LwI s D cI cJ cZ q r u v H locs) (kk : ∀ (u : CU) (v : MU) (H : Heap) (locs : List Loc), LwI s D cI cJ cZ q r u v H locs → W p l e room_1 s m #[Value.ref b] below meth c H locs 27 12671 Q (F0 m 599 ls [])) : W p l e room_1 s m #[Value.ref b] below meth c H locs 27 12671 Q (F0 m 508 ls []) := by
  obtain ⟨hx, hb, hml, hown, hts, hK, hX, hbl, hL⟩ := C
  obtain ⟨hu, hv, huv, hP, hD, hS⟩ := I
  have hA : ∀ k : Nat, s.heap.size ≤ k → Aw s k := fun _ h => h
  have hbA : ¬ Aw s b := Nat.not_le.mpr hbl
  refine lv_aload_n hx hb dL_law_508 rfl (lv_at hl 1 rfl) ?_
  refine lv_aload_n hx hb dL_law_509 rfl (lv_at hl 0 rfl) ?_
  refine lv_iload_n hx hb dL_law_510 rfl (lv_at hl 3 rfl) ?_
  refine j_iconst hx hb dL_law_511 ?_
  refine j_iadd hx hb dL_law_512 ?_
  refine j_scr hx hb hX hbl hbA hS (i := i + 1) (by omega) hL dL_law_513 ?_
  refine j_mVI (As := [.int (jI (ys xs (i + 1)))]) (rest := []) ⟨hx, hb, hml, hown, hts⟩ (kX3_ends l D cI cJ cZ q u.1 (cLa u) (cWa u) (cMk u) hu.1 (cLp u) (cTp u) (cRk u) (cOd u) (cFr u) (cFo u) (cEx u) (cTo u) (cLn u) (cPg u) (cFb u) (cFl u) (cPl u) (cLb u) (cKn u) hu.2 (ys xs (i + 1)) (ys_b _ _)) (cwV 1 hts gL_law_X3_ends rfl rfl rfl (by decide +kernel) ⟨(Nat.le_of_ble_eq_true rfl), (Nat.le_of_ble_eq_true rfl)⟩) hK hP hD hS hA (va_recv hK hP (ci := 3) (q0 := 15) rfl rfl) rfl hl.1 rfl (Nat.le_of_ble_eq_true rfl) ⟨(Nat.le_of_ble_eq_true rfl), (Nat.le_of_ble_eq_true rfl)⟩ dL_law_514 [0, 1, 2, 3, 4, 5, 6, 7, 8, 9, 10, 11, 12, 13, 14, 15] [16, 17, 18, 19, 20, 21, 22, 23, 24, 25, 26] [11, 12, 13, 14, 15, 16, 17, 18, 19, 20, 21, 22, 23, 24, 25, 26, 0, 1, 2, 3, 4, 5, 6, 7, 8, 9, 10] rfl (by decide) (wr := wMU r cI cJ cZ v) rfl (by decide) (by decide) (fun _ => rfl) (fun u1 => wB q r cI cJ cZ u1 v) (fun _ => rfl) (fun _ => rfl) (fun r1 u1 H locs hr1 hP hD hS => ?_)
  refine lv_aload_n hx hb dL_law_517 rfl (lv_at hl 2 rfl) ?_
  refine lv_aload_n hx hb dL_law_518 rfl (lv_at hl 0 rfl) ?_
  refine lv_iload_n hx hb dL_law_519 rfl (lv_at hl 3 rfl) ?_
  refine j_iconst hx hb dL_law_520 ?_
  refine j_iadd hx hb dL_law_521 ?_
  refine j_scr hx hb hX hbl hbA hS (i := i + 1) (by omega) hL dL_law_522 ?_
  refine j_mVI (As := [.int (jI (ys xs (i + 1)))]) (rest := [.int r1]) ⟨hx, hb, hml, hown, hts⟩ (kX4_ends l D cI cJ cZ r v.1 hv.1 (mRs v) (mKn v) (mBe v) (mLm v) (mLf v) (mPm v) (mPf v) (mNw v) (mTh v) (mPg v) hv.2 (ys xs (i + 1)) (ys_b _ _)) (cwV 1 hts gL_law_X4_ends rfl rfl rfl (by decide +kernel) ⟨(Nat.le_of_ble_eq_true rfl), (Nat.le_of_ble_eq_true rfl)⟩) hK hP hD hS hA (va_recv hK hP (ci := 4) (q0 := 16) rfl rfl) rfl hl.1 rfl (Nat.le_of_ble_eq_true rfl) ⟨(Nat.le_of_ble_eq_true rfl), (Nat.le_of_ble_eq_true rfl)⟩ dL_law_523 [16, 17, 18, 19, 20, 21, 22, 23, 24, 25, 26] [0, 1, 2, 3, 4, 5, 6, 7, 8, 9, 10, 11, 12, 13, 14, 15] [0, 1, 2, 3, 4, 5, 6, 7, 8, 9, 10, 11, 12, 13, 14, 15, 16, 17, 18, 19, 20, 21, 22, 23, 24, 25, 26] rfl (by decide) (wr := wCU q cI cJ u1) rfl (by decide) (by decide) (fun _ => rfl) (fun v1 => wB q r cI cJ cZ u1 v1) (fun _ => rfl) (fun _ => rfl) (fun r2 v1 H locs hr2 hP hD hS => ?_)
  have e1 : u1.1 = v1.1 := by rw [hr1.2.2.1, hr2.2.2, huv]
  have hE : r1 = r2 := by
    obtain ⟨pl2, lb2, hM, hq⟩ := hr2.1
    have hk := hr1.2.2.2
    rw [huv] at hk
    rw [hr1.1, hq, huv]
    refine jZ_c (ends_same hv.1 (pl2 := pl2) (lb2 := lb2) (to := cTo u1) (ln := cLn u1) (pg := cPg u1) (fl := cFl u1) (pl := cPl u1) (lm := mLm v1) (pm := mPm v1) (pf := mPf v1) (fun c1 => ?_))
    have hB := both hr1.2.1 hr2.2.1 e1 (hk c1) (hM c1).2
    rw [hr2.2.2] at hB
    exact ⟨hB.1, hB.2, (hM c1).1⟩
  refine j_eqI (tgt := 599) hx hb hE dL_law_526 (by decide) ?_
  exact kk u1 v1 H locs ⟨hr1.2.1, hr2.2.1, e1, hP, hD, hS⟩
set_option maxHeartbeats 4000000 in
set_option maxRecDepth 100000 in
theorem lc_badness (C : LwC p s m c b L xs D cI cJ cZ) (hi : 2 ≤ i ∧ i + 4 ≤ L) (hl : lv_has ls 4 [(0, .ref b), (1, .ref (q 15)), (2, .ref (r 0)), (3, .int (jI i))]) (I : LwI s D cI cJ cZ q r u v H locs) (kk : ∀ (u : CU) (v : MU) (H : Heap) (locs : List Loc), LwI s D cI cJ cZ q r u v H locs → W p l e room_1 s m #[Value.ref b] below meth c H locs 27 12671 Q (F0 m 599 ls [])) : W p l e room_1 s m #[Value.ref b] below meth c H locs 27 12671 Q (F0 m 531 ls []) := by
  obtain ⟨hx, hb, hml, hown, hts, hK, hX, hbl, hL⟩ := C
  obtain ⟨hu, hv, huv, hP, hD, hS⟩ := I
  have hA : ∀ k : Nat, s.heap.size ≤ k → Aw s k := fun _ h => h
  have hbA : ¬ Aw s b := Nat.not_le.mpr hbl
  refine lv_aload_n hx hb dL_law_531 rfl (lv_at hl 1 rfl) ?_
  refine lv_aload_n hx hb dL_law_532 rfl (lv_at hl 0 rfl) ?_
  refine lv_iload_n hx hb dL_law_533 rfl (lv_at hl 3 rfl) ?_
  refine j_iconst hx hb dL_law_534 ?_
  refine j_iadd hx hb dL_law_535 ?_
  refine j_scr hx hb hX hbl hbA hS (i := i + 1) (by omega) hL dL_law_536 ?_
  refine lv_aload_n hx hb dL_law_537 rfl (lv_at hl 0 rfl) ?_
  refine lv_iload_n hx hb dL_law_538 rfl (lv_at hl 3 rfl) ?_
  refine j_iconst hx hb dL_law_539 ?_
  refine j_iadd hx hb dL_law_540 ?_
  refine j_scr hx hb hX hbl hbA hS (i := i + 2) (by omega) hL dL_law_541 ?_
  refine j_mVL (As := [.int (jI (ys xs (i + 1))), .int (jI (ys xs (i + 2)))]) (rest := []) ⟨hx, hb, hml, hown, hts⟩ (kX3_badness l D cI cJ cZ q u.1 (cLa u) (cWa u) (cMk u) hu.1 (cLp u) (cTp u) (cRk u) (cOd u) (cFr u) (cFo u) (cEx u) (cTo u) (cLn u) (cPg u) (cFb u) (cFl u) (cPl u) (cLb u) (cKn u) hu.2 (ys xs (i + 1)) (ys xs (i + 2)) ⟨ys_b _ _, ys_b _ _⟩) (cwV 2 hts gL_law_X3_badness rfl rfl rfl (by decide +kernel) ⟨(Nat.le_of_ble_eq_true rfl), (Nat.le_of_ble_eq_true rfl)⟩) hK hP hD hS hA (va_recv hK hP (ci := 3) (q0 := 15) rfl rfl) rfl hl.1 rfl (Nat.le_of_ble_eq_true rfl) ⟨(Nat.le_of_ble_eq_true rfl), (Nat.le_of_ble_eq_true rfl)⟩ dL_law_542 [0, 1, 2, 3, 4, 5, 6, 7, 8, 9, 10, 11, 12, 13, 14, 15] [16, 17, 18, 19, 20, 21, 22, 23, 24, 25, 26] [11, 12, 13, 14, 15, 16, 17, 18, 19, 20, 21, 22, 23, 24, 25, 26, 0, 1, 2, 3, 4, 5, 6, 7, 8, 9, 10] rfl (by decide) (wr := wMU r cI cJ cZ v) rfl (by decide) (by decide) (fun _ => rfl) (fun u1 => wB q r cI cJ cZ u1 v) (fun _ => rfl) (fun _ => rfl) (fun r1 u1 H locs hr1 hP hD hS => ?_)
  refine lv_aload_n hx hb dL_law_545 rfl (lv_at hl 2 rfl) ?_
  refine lv_aload_n hx hb dL_law_546 rfl (lv_at hl 0 rfl) ?_
  refine lv_iload_n hx hb dL_law_547 rfl (lv_at hl 3 rfl) ?_
  refine j_iconst hx hb dL_law_548 ?_
  refine j_iadd hx hb dL_law_549 ?_
  refine j_scr hx hb hX hbl hbA hS (i := i + 1) (by omega) hL dL_law_550 ?_
  refine lv_aload_n hx hb dL_law_551 rfl (lv_at hl 0 rfl) ?_
  refine lv_iload_n hx hb dL_law_552 rfl (lv_at hl 3 rfl) ?_
  refine j_iconst hx hb dL_law_553 ?_
  refine j_iadd hx hb dL_law_554 ?_
  refine j_scr hx hb hX hbl hbA hS (i := i + 2) (by omega) hL dL_law_555 ?_
  refine j_mVL (As := [.int (jI (ys xs (i + 1))), .int (jI (ys xs (i + 2)))]) (rest := [.long r1]) ⟨hx, hb, hml, hown, hts⟩ (kX4_badness l D cI cJ cZ r v.1 hv.1 (mRs v) (mKn v) (mBe v) (mLm v) (mLf v) (mPm v) (mPf v) (mNw v) (mTh v) (mPg v) hv.2 (ys xs (i + 1)) (ys xs (i + 2)) ⟨ys_b _ _, ys_b _ _⟩) (cwV 2 hts gL_law_X4_badness rfl rfl rfl (by decide +kernel) ⟨(Nat.le_of_ble_eq_true rfl), (Nat.le_of_ble_eq_true rfl)⟩) hK hP hD hS hA (va_recv hK hP (ci := 4) (q0 := 16) rfl rfl) rfl hl.1 rfl (Nat.le_of_ble_eq_true rfl) ⟨(Nat.le_of_ble_eq_true rfl), (Nat.le_of_ble_eq_true rfl)⟩ dL_law_556 [16, 17, 18, 19, 20, 21, 22, 23, 24, 25, 26] [0, 1, 2, 3, 4, 5, 6, 7, 8, 9, 10, 11, 12, 13, 14, 15] [0, 1, 2, 3, 4, 5, 6, 7, 8, 9, 10, 11, 12, 13, 14, 15, 16, 17, 18, 19, 20, 21, 22, 23, 24, 25, 26] rfl (by decide) (wr := wCU q cI cJ u1) rfl (by decide) (by decide) (fun _ => rfl) (fun v1 => wB q r cI cJ cZ u1 v1) (fun _ => rfl) (fun _ => rfl) (fun r2 v1 H locs hr2 hP hD hS => ?_)
  refine j_eqL (tgt := 599) hx hb (by rw [hr1.1, hr2.1, huv]) dL_law_559 dL_law_560 (by decide) ?_
  exact kk u1 v1 H locs ⟨hr1.2.1, hr2.2.1, (by rw [hr1.2.2, hr2.2.2, huv]), hP, hD, hS⟩
set_option maxHeartbeats 4000000 in
set_option maxRecDepth 100000 in
theorem lc_would (C : LwC p s m c b L xs D cI cJ cZ) (hi : 2 ≤ i ∧ i + 4 ≤ L) (hl : lv_has ls 4 [(0, .ref b), (1, .ref (q 15)), (2, .ref (r 0)), (3, .int (jI i))]) (I : LwI s D cI cJ cZ q r u v H locs) (kk : ∀ (u : CU) (v : MU) (H : Heap) (locs : List Loc), LwI s D cI cJ cZ q r u v H locs → W p l e room_1 s m #[Value.ref b] below meth c H locs 27 12671 Q (F0 m 599 ls [])) : W p l e room_1 s m #[Value.ref b] below meth c H locs 27 12671 Q (F0 m 565 ls []) := by
  obtain ⟨hx, hb, hml, hown, hts, hK, hX, hbl, hL⟩ := C
  obtain ⟨hu, hv, huv, hP, hD, hS⟩ := I
  have hA : ∀ k : Nat, s.heap.size ≤ k → Aw s k := fun _ h => h
  have hbA : ¬ Aw s b := Nat.not_le.mpr hbl
  refine lv_aload_n hx hb dL_law_565 rfl (lv_at hl 1 rfl) ?_
  refine lv_aload_n hx hb dL_law_566 rfl (lv_at hl 0 rfl) ?_
  refine lv_iload_n hx hb dL_law_567 rfl (lv_at hl 3 rfl) ?_
  refine j_iconst hx hb dL_law_568 ?_
  refine j_iadd hx hb dL_law_569 ?_
  refine j_scr hx hb hX hbl hbA hS (i := i + 1) (by omega) hL dL_law_570 ?_
  refine lv_aload_n hx hb dL_law_571 rfl (lv_at hl 0 rfl) ?_
  refine lv_iload_n hx hb dL_law_572 rfl (lv_at hl 3 rfl) ?_
  refine j_iconst hx hb dL_law_573 ?_
  refine j_iadd hx hb dL_law_574 ?_
  refine j_scr hx hb hX hbl hbA hS (i := i + 2) (by omega) hL dL_law_575 ?_
  refine j_mVL (As := [.int (jI (ys xs (i + 1))), .int (jI (ys xs (i + 2)))]) (rest := []) ⟨hx, hb, hml, hown, hts⟩ (kX3_would l D cI cJ cZ q u.1 (cLa u) (cWa u) (cMk u) hu.1 (cLp u) (cTp u) (cRk u) (cOd u) (cFr u) (cFo u) (cEx u) (cTo u) (cLn u) (cPg u) (cFb u) (cFl u) (cPl u) (cLb u) (cKn u) hu.2 (ys xs (i + 1)) (ys xs (i + 2)) ⟨ys_b _ _, ys_b _ _⟩) (cwV 2 hts gL_law_X3_would rfl rfl rfl (by decide +kernel) ⟨(Nat.le_of_ble_eq_true rfl), (Nat.le_of_ble_eq_true rfl)⟩) hK hP hD hS hA (va_recv hK hP (ci := 3) (q0 := 15) rfl rfl) rfl hl.1 rfl (Nat.le_of_ble_eq_true rfl) ⟨(Nat.le_of_ble_eq_true rfl), (Nat.le_of_ble_eq_true rfl)⟩ dL_law_576 [0, 1, 2, 3, 4, 5, 6, 7, 8, 9, 10, 11, 12, 13, 14, 15] [16, 17, 18, 19, 20, 21, 22, 23, 24, 25, 26] [11, 12, 13, 14, 15, 16, 17, 18, 19, 20, 21, 22, 23, 24, 25, 26, 0, 1, 2, 3, 4, 5, 6, 7, 8, 9, 10] rfl (by decide) (wr := wMU r cI cJ cZ v) rfl (by decide) (by decide) (fun _ => rfl) (fun u1 => wB q r cI cJ cZ u1 v) (fun _ => rfl) (fun _ => rfl) (fun r1 u1 H locs hr1 hP hD hS => ?_)
  refine lv_aload_n hx hb dL_law_579 rfl (lv_at hl 2 rfl) ?_
  refine lv_aload_n hx hb dL_law_580 rfl (lv_at hl 0 rfl) ?_
  refine lv_iload_n hx hb dL_law_581 rfl (lv_at hl 3 rfl) ?_
  refine j_iconst hx hb dL_law_582 ?_
  refine j_iadd hx hb dL_law_583 ?_
  refine j_scr hx hb hX hbl hbA hS (i := i + 1) (by omega) hL dL_law_584 ?_
  refine lv_aload_n hx hb dL_law_585 rfl (lv_at hl 0 rfl) ?_
  refine lv_iload_n hx hb dL_law_586 rfl (lv_at hl 3 rfl) ?_
  refine j_iconst hx hb dL_law_587 ?_
  refine j_iadd hx hb dL_law_588 ?_
  refine j_scr hx hb hX hbl hbA hS (i := i + 2) (by omega) hL dL_law_589 ?_
  refine j_mVL (As := [.int (jI (ys xs (i + 1))), .int (jI (ys xs (i + 2)))]) (rest := [.long r1]) ⟨hx, hb, hml, hown, hts⟩ (kX4_would l D cI cJ cZ r v.1 hv.1 (mRs v) (mKn v) (mBe v) (mLm v) (mLf v) (mPm v) (mPf v) (mNw v) (mTh v) (mPg v) hv.2 (ys xs (i + 1)) (ys xs (i + 2)) ⟨ys_b _ _, ys_b _ _⟩) (cwV 2 hts gL_law_X4_would rfl rfl rfl (by decide +kernel) ⟨(Nat.le_of_ble_eq_true rfl), (Nat.le_of_ble_eq_true rfl)⟩) hK hP hD hS hA (va_recv hK hP (ci := 4) (q0 := 16) rfl rfl) rfl hl.1 rfl (Nat.le_of_ble_eq_true rfl) ⟨(Nat.le_of_ble_eq_true rfl), (Nat.le_of_ble_eq_true rfl)⟩ dL_law_590 [16, 17, 18, 19, 20, 21, 22, 23, 24, 25, 26] [0, 1, 2, 3, 4, 5, 6, 7, 8, 9, 10, 11, 12, 13, 14, 15] [0, 1, 2, 3, 4, 5, 6, 7, 8, 9, 10, 11, 12, 13, 14, 15, 16, 17, 18, 19, 20, 21, 22, 23, 24, 25, 26] rfl (by decide) (wr := wCU q cI cJ u1) rfl (by decide) (by decide) (fun _ => rfl) (fun v1 => wB q r cI cJ cZ u1 v1) (fun _ => rfl) (fun _ => rfl) (fun r2 v1 H locs hr2 hP hD hS => ?_)
  have hE : r1 = r2 := wld_same hv.1 (by rw [← huv]; exact hr1.1) hr2.1
  refine j_eqL (tgt := 599) hx hb hE dL_law_593 dL_law_594 (by decide) ?_
  exact kk u1 v1 H locs ⟨hr1.2.1, hr2.2.1, (by rw [hr1.2.2, hr2.2.2, huv]), hP, hD, hS⟩
end LC
end
