/-! beginnings and rests make settings; of two settings the one whose line is longer has the lower order -/
noncomputable section
theorem stI_0 {σ : Sg} (h : okS σ) : ∀ {R : List (Int × Bool)}, stK σ R → stO R = 0 → (¬ stI R ↔ 0 < stF R) := by
  intro R
  cases R with
  | nil => intro _ _; simp [stI, stF]
  | cons x R =>
    intro hk ho
    obtain ⟨t, b⟩ := x
    cases b with
    | true =>
      have b1 := (st_B h R hk.1).1.1
      have b2 := hk.2.1
      rw [stF_c]
      exact ⟨fun _ => by omega, fun _ w => w⟩
    | false =>
      have o := stO_0 R
      simp only [stO] at ho
      omega
theorem glue_s {σ : Sg} (h : okS σ) {T : Nat → Prop} {L : List Int} {j op x y : Int} {fi : Prop} (V : sF L ≤ j ∧ j < sNb σ ∧ may σ (sF L) j) (hx : NWs σ L j op fi x) (hy : RS σ T (j + 1) op fi y) : ∃ R b s, endL R = L ∧ okL σ (R.reverse ++ (j, b) :: s) 0 0 ∧ T s.length ∧ rkL σ (R.reverse ++ (j, b) :: s) 0 0 = x + y := by
  obtain ⟨R, g1, g2, g3, g4, g5⟩ := hx
  have o := stO_0 R
  have e := stF_sF R
  rw [g1] at e
  rw [← e] at V g5
  rcases hy with ⟨w1, w2, w3⟩ | ⟨w1, ⟨s, w2, w3, w4⟩ | ⟨w5, s, w2, w3, w4⟩⟩
  · have hk : okL σ (R.reverse ++ (j, true) :: []) 0 0 := (st_ok R _).mpr ⟨g2, V.1, V.2.1, V.2.2, w1, rfl⟩
    refine ⟨R, true, [], g1, hk, w2, ?_⟩
    have r := st_rk R _ (by simp) hk
    simp only [rkL, pgc] at r
    rw [if_pos (by omega)] at r
    unfold wdw at r
    by_cases q : stO R = 0 ∧ 0 < stF R
    · rw [if_pos q] at r
      rw [iteP_t ⟨by omega, fun z => (stI_0 h g2 q.1).mpr q.2 (g4.mp z)⟩] at w3
      omega
    · rw [if_neg q] at r
      rw [iteP_f (fun z => q ⟨by omega, (stI_0 h g2 (by omega)).mp (fun v => z.2 (g4.mpr v))⟩)] at w3
      omega
  · have hk : okL σ (R.reverse ++ (j, true) :: s) 0 0 := (st_ok R _).mpr ⟨g2, V.1, V.2.1, V.2.2, w2⟩
    refine ⟨R, true, s, g1, hk, w3, ?_⟩
    have r := st_rk R _ (by simp) hk
    simp only [rkL, pgc] at r
    rw [if_neg (by omega)] at r
    rw [show j + 1 - 1 = j by omega] at w4
    omega
  · have hk : okL σ (R.reverse ++ (j, false) :: s) 0 0 := (st_ok R _).mpr ⟨g2, V.1, V.2.1, V.2.2, by omega, by rw [← g3]; exact w2⟩
    refine ⟨R, false, s, g1, hk, w3, ?_⟩
    have r := st_rk R _ (by simp) hk
    simp only [rkL] at r
    rw [← g3] at r
    omega
theorem glue_c {σ : Sg} (h : okS σ) {T : Nat → Prop} {R s : List (Int × Bool)} {j : Int} {b : Bool} (hk : okL σ (R.reverse ++ (j, b) :: s) 0 0) (hT : T s.length) : ∃ op fi x y, NWs σ (endL R) j op fi x ∧ RS σ T (j + 1) op fi y ∧ x + y = rkL σ (R.reverse ++ (j, b) :: s) 0 0 := by
  have r := st_rk R _ (by simp) hk
  obtain ⟨g2, g3⟩ := (st_ok R _).mp hk
  have o := stO_0 R
  have e := stF_sF R
  cases b with
  | true =>
    obtain ⟨m1, m2, m3, m4⟩ := g3
    by_cases q : j = sNb σ - 1
    · have m5 := okL_nb (σ := σ) (s := s) (o := 0) (by rw [show j + 1 = sNb σ by omega] at m4; exact m4)
      refine ⟨stO R + 1, stI R, _, _, ⟨R, rfl, g2, rfl, Iff.rfl, rfl⟩, Or.inl ⟨by omega, by rw [m5.1] at hT; exact hT, rfl⟩, ?_⟩
      rw [m5.1] at r ⊢
      simp only [rkL, pgc] at r
      rw [if_pos q] at r
      unfold wdw at r
      rw [← e]
      by_cases z : stO R = 0 ∧ 0 < stF R
      · rw [if_pos z] at r
        rw [iteP_t ⟨by omega, (stI_0 h g2 z.1).mpr z.2⟩]
        omega
      · rw [if_neg z] at r
        rw [iteP_f (fun v => z ⟨by omega, (stI_0 h g2 (by omega)).mp v.2⟩)]
        omega
    · refine ⟨stO R + 1, stI R, _, _, ⟨R, rfl, g2, rfl, Iff.rfl, rfl⟩, Or.inr ⟨by omega, Or.inl ⟨s, m4, hT, rfl⟩⟩, ?_⟩
      simp only [rkL, pgc] at r
      rw [if_neg q] at r
      rw [← e, show j + 1 - 1 = j by omega]
      omega
  | false =>
    obtain ⟨m1, m2, m3, m5, m4⟩ := g3
    have q : j ≠ sNb σ - 1 := by
      intro q
      have m6 := okL_nb (σ := σ) (s := s) (o := stO R + 1) (by rw [show j + 1 = sNb σ by omega] at m4; exact m4)
      omega
    refine ⟨stO R + 1, stI R, _, _, ⟨R, rfl, g2, rfl, Iff.rfl, rfl⟩, Or.inr ⟨by omega, Or.inr ⟨m5, s, m4, hT, rfl⟩⟩, ?_⟩
    simp only [rkL] at r
    rw [← e]
    omega
theorem Tm_c {σ : Sg} {n mo : Int} {R s : List (Int × Bool)} {j : Int} {b : Bool} (hn : n = R.length) (hmo : mo = if sCt σ = 0 then 0 else n + 1) : Tm σ mo s.length ↔ Tc σ (R.reverse ++ (j, b) :: s).length := by
  unfold Tm Tc
  rw [List.length_append, List.length_reverse, List.length_cons]
  by_cases q : sCt σ = 0
  · simp [q]
  · rw [if_neg q] at hmo; omega
theorem Qs_app : ∀ (A B : List Int), Qs (A ++ B) = Qs A + Qs B := by
  intro A B
  induction A with
  | nil => simp [Qs]
  | cons t A ih => simp only [List.cons_append, Qs, ih]; omega
theorem endL_app (A B : List (Int × Bool)) : endL (A ++ B) = endL A ++ endL B := List.map_append
theorem endL_rev (A : List (Int × Bool)) : endL A.reverse = (endL A).reverse := List.map_reverse
theorem od_less {σ : Sg} (h : okS σ) {R R1 s s1 : List (Int × Bool)} {j j1 : Int} {b b1 : Bool} (h0 : okL σ (R.reverse ++ (j, b) :: s) 0 0) (h1 : okL σ (R1.reverse ++ (j1, b1) :: s1) 0 0) (he : endL R = endL R1) (hj : j < j1) : odL (R1.reverse ++ (j1, b1) :: s1) < odL (R.reverse ++ (j, b) :: s) := by
  have hn := h.1
  have e0 := odL_Q h h0
  have e1 := odL_Q h h1
  have i0 := okL_incr h h0
  have i1 := okL_incr h h1
  have B0 := Qs_B (f := 0) (by omega) (by omega) i0.2
  have B1 := Qs_B (f := 0) (by omega) (by omega) i1.2
  have e24 : p2 (24 - 0) = 16777216 := by decide
  obtain ⟨g2, g3⟩ := (st_ok R _).mp h0
  obtain ⟨k2, k3⟩ := (st_ok R1 _).mp h1
  have b0 := (st_B h R g2).1
  have b1' := (st_B h R1 k2).1
  have a0 : incr (stF R) (endL ((j, b) :: s)) := (okL_incr h g3).1
  have a1 : incr (stF R1) (endL ((j1, b1) :: s1)) := (okL_incr h k3).1
  have c0 : incr j (endL ((j, b) :: s)) := ⟨Int.le_refl _, a0.2⟩
  have c1 : incr j1 (endL ((j1, b1) :: s1)) := ⟨Int.le_refl _, a1.2⟩
  have d1 := Qs_B (f := j1) (by have := a1.1; omega) (by have := a1.2.1; omega) c1
  have d0 := Qs_B (f := j + 1) (by have := a0.1; omega) (by have := a0.2.1; omega) c0.2.2
  have m := p2_m (k := 24 - j1) (m := 23 - j) (by have := a1.2.1; omega) (by omega)
  have q0 : Qs (endL ((j, b) :: s)) = p2 (23 - j) + Qs (endL s) := rfl
  have d0' : 0 ≤ Qs (endL s) := d0.1
  rw [endL_app, endL_rev, Qs_app] at e0 e1
  rw [he] at e0
  omega
/-- the beginning's table, as reaches wants it -/
def NWI (σ : Sg) (L : List Int) (i0 : Int) (nw : Int → Int) : Prop := (L = [] ∧ i0 = 0) ∨ (∃ i K, L = i :: K ∧ i0 = i + 1 ∧ 0 ≤ sF K ∧ (sF K ≤ i ∧ i < sNb σ ∧ may σ (sF K) i) ∧ NWT σ K i nw)
theorem sF_0 : ∀ {L : List Int} {f : Int}, 0 ≤ f → incr f L.reverse → 0 ≤ sF L := by
  intro L f h1 h2
  cases L with
  | nil => exact Int.le_refl _
  | cons t L => have := (incr_ge h2 (by simp : t ∈ (t :: L).reverse)).1; rw [sF_c]; omega
theorem NWI_cons {σ : Sg} (h : okS σ) {R : List (Int × Bool)} {j : Int} {nw th : Int → Int} (hk : stK σ R) (V : stF R ≤ j ∧ j < sNb σ ∧ may σ (stF R) j) (T : NWT σ (endL R) j th) (e : ∀ m, 0 ≤ m → m < 18 → nw m = th m) : NWI σ (j :: endL R) (j + 1) nw := by
  refine Or.inr ⟨j, endL R, rfl, rfl, ?_, ?_, fun k h1 h2 => ?_⟩
  · rw [← stF_sF]; exact (st_B h R hk).1.1
  · rw [← stF_sF]; exact V
  · rw [e k (by omega) h2]; exact T k h1 h2
theorem ge_of {σ : Sg} (h : okS σ) {be n mo : Int} {L : List Int} {j : Int} (M : Mn (TS σ) be) (hn : n = L.length) (hmo : mo = if sCt σ = 0 then 0 else n + 1) (V : sF L ≤ j ∧ j < sNb σ ∧ may σ (sF L) j) : ∀ op fi x y, NWs σ L j op fi x → RS σ (Tm σ mo) (j + 1) op fi y → be ≤ x + y := by
  intro op fi x y hx hy
  obtain ⟨R, b, s, g1, g2, g3, g4⟩ := glue_s h V hx hy
  rw [← g4]
  have hl : n = R.length := by rw [hn, ← g1]; simp [endL]
  exact M.2.1 _ ⟨_, g2, (Tm_c hl hmo).mp g3, rfl⟩
/-- the line that is taken is the best setting's -/
theorem pick_eq {σ : Sg} (h : okS σ) {be n mo : Int} {R s : List (Int × Bool)} {j0 j : Int} {b : Bool} (hb : isBest σ (R.reverse ++ (j0, b) :: s)) (hbe : be = rkL σ (R.reverse ++ (j0, b) :: s) 0 0) (hn : n = R.length) (hmo : mo = if sCt σ = 0 then 0 else n + 1) (hj : j0 ≤ j) (V : sF (endL R) ≤ j ∧ j < sNb σ ∧ may σ (sF (endL R)) j) (hr : RCH σ be (endL R) j mo) : j = j0 := by
  obtain ⟨op, fi, x, y, hx, hy, hxy⟩ := hr
  obtain ⟨R1, b1, s1, g1, g2, g3, g4⟩ := glue_s h V hx hy
  have hl : n = R1.length := by
    have e1 : R1.length = (endL R1).length := by simp [endL]
    have e2 : R.length = (endL R).length := by simp [endL]
    rw [hn, e1, e2, g1]
  rcases hb.2.2 _ g2 ((Tm_c hl hmo).mp g3) with q | q
  · omega
  · rcases Int.lt_or_le j0 j with z | z
    · have := od_less h hb.1 g2 g1.symm z; omega
    · omega
theorem pick_has {σ : Sg} (h : okS σ) {be n mo : Int} {R s : List (Int × Bool)} {j0 : Int} {b : Bool} (hb : isBest σ (R.reverse ++ (j0, b) :: s)) (hbe : be = rkL σ (R.reverse ++ (j0, b) :: s) 0 0) (hn : n = R.length) (hmo : mo = if sCt σ = 0 then 0 else n + 1) : RCH σ be (endL R) j0 mo := by
  obtain ⟨op, fi, x, y, hx, hy, hxy⟩ := glue_c (T := Tm σ mo) h hb.1 ((Tm_c hn hmo).mpr hb.2.1)
  exact ⟨op, fi, x, y, hx, hy, by omega⟩
/-- where the lines end -/
theorem end_gap {σ : Sg} (h : okS σ) {R s : List (Int × Bool)} {j : Int} {b : Bool} (hk : okL σ (R.reverse ++ (j, b) :: s) 0 0) : (∀ c, stF R ≤ c → c < j → c ∉ endL (R.reverse ++ (j, b) :: s)) ∧ j ∈ endL (R.reverse ++ (j, b) :: s) := by
  obtain ⟨g2, g3⟩ := (st_ok R _).mp hk
  refine ⟨fun c h1 h2 hc => ?_, by rw [endL_app]; exact List.mem_append_right _ List.mem_cons_self⟩
  rw [endL_app, endL_rev] at hc
  rcases List.mem_append.mp hc with q | q
  · have q := List.mem_reverse.mp q
    have hlt : ∀ {R : List (Int × Bool)}, stK σ R → ∀ c ∈ endL R, c < stF R := by
      intro R
      induction R with
      | nil => intro _ c hc; cases hc
      | cons x R ih =>
        intro hk c hc
        obtain ⟨t, b⟩ := x
        rw [stF_c]
        rcases List.mem_cons.mp hc with w | w
        · have w : c = t := w; omega
        · have k1 : stK σ R ∧ stF R ≤ t := by
            cases b with
            | true => exact ⟨hk.1, hk.2.1⟩
            | false => exact ⟨hk.1, hk.2.1⟩
          have := ih k1.1 c w; have := k1.2; omega
    have := hlt g2 c q
    omega
  · have a0 := (okL_incr h g3).1
    have c0 : incr j (endL ((j, b) :: s)) := ⟨Int.le_refl _, a0.2⟩
    have := (incr_ge c0 q).1
    omega
theorem cnt_gap {P : Int → Prop} {a b : Int} (h0 : 0 ≤ a) (h : a ≤ b) (hp : ∀ c, a ≤ c → c < b → ¬ P c) : cnt P b = cnt P a := by
  obtain ⟨n, hn⟩ : ∃ n : Nat, b = a + n := ⟨(b - a).toNat, by omega⟩
  subst hn
  clear h
  induction n with
  | zero => simp
  | succ n ih =>
    rw [show a + ((n + 1 : Nat) : Int) = (a + n) + 1 by omega, cnt_f (by omega) (hp _ (by omega) (by omega))]
    exact ih (fun c h1 h2 => hp c h1 (by omega))
/-- the lines' rows, half made -/
def lfOK (LE : Int → Prop) (i lm : Int) (lf : Int → Int) : Prop := lm = cnt LE i ∧ (0 < i → lf 0 = 0) ∧ (∀ b, 0 ≤ b → b + 1 < i → LE b → lf (cnt LE b + 1) = b + 1) ∧ (0 < i → LE (i - 1))
theorem lfOK_step {LE : Int → Prop} {i j lm : Int} {lf : Int → Int} (h : lfOK LE i lm lf) (hi : 0 ≤ i) (hj : i ≤ j) (g : ∀ c, i ≤ c → c < j → ¬ LE c) (hl : LE j) : lfOK LE (j + 1) (lm + 1) (updI lf lm i) := by
  obtain ⟨h1, h2, h3, h4⟩ := h
  have e := cnt_gap hi hj g
  have e2 := cnt_t (P := LE) (k := j) (by omega) hl
  have c0 := cntB LE hi
  refine ⟨by omega, fun _ => ?_, fun b b1 b2 b3 => ?_, fun _ => by rw [show j + 1 - 1 = j by omega]; exact hl⟩
  · by_cases q : i = 0
    · rw [h1, q, cnt_0, updI_s]
    · have c1 := cnt_lt (P := LE) (a := i - 1) (b := i) (by omega) (by omega) (h4 (by omega))
      have c2 := cntB LE (a := i - 1) (by omega)
      rw [updI_n (by omega)]; exact h2 (by omega)
  · have hbi : b < i := by
      rcases Int.lt_or_le b i with q | q
      · exact q
      · exact absurd b3 (g b q (by omega))
    have c1 := cnt_lt (P := LE) (a := b) (b := i) b1 hbi b3
    by_cases q : b + 1 = i
    · have c2 := cnt_t (P := LE) (k := b) b1 b3
      rw [q] at c2
      rw [show cnt LE b + 1 = lm by omega, updI_s, q]
    · have hb2 : b + 1 < i := by omega
      have c3 := cnt_lt (P := LE) (a := i - 1) (b := i) (by omega) (by omega) (h4 (by omega))
      have c4 := cnt_lt (P := LE) (a := b) (b := i - 1) b1 (by omega) b3
      rw [updI_n (by omega)]; exact h3 b b1 hb2 b3
theorem lfOK_end {LE : Int → Prop} {n lm : Int} {lf : Int → Int} (h : lfOK LE n lm lf) (hn : 0 < n) : (updI lf lm n) 0 = 0 ∧ (updI lf lm n) lm = n ∧ ∀ b, 0 ≤ b → b < n → LE b → (updI lf lm n) (cnt LE b + 1) = b + 1 := by
  obtain ⟨h1, h2, h3, h4⟩ := h
  have c1 := cnt_lt (P := LE) (a := n - 1) (b := n) (by omega) (by omega) (h4 (by omega))
  have c2 := cntB LE (a := n - 1) (by omega)
  refine ⟨by rw [updI_n (by omega)]; exact h2 hn, updI_s _ _ _, fun b b1 b2 b3 => ?_⟩
  by_cases q : b + 1 = n
  · have c2 := cnt_t (P := LE) (k := b) b1 b3
    rw [q] at c2
    rw [show cnt LE b + 1 = lm by omega, updI_s, q]
  · have c4 := cnt_lt (P := LE) (a := b) (b := n - 1) b1 (by omega) b3
    rw [updI_n (by omega)]; exact h3 b b1 (by omega) b3
end
