/-! what the reference's table of rests holds -/
noncomputable section
/-- r is the least of S, or 2 to the 62nd where S has none -/
def Mn (S : Int → Prop) (r : Int) : Prop := (S r ∨ r = 4611686018427387904) ∧ (∀ x, S x → r ≤ x) ∧ (∀ x, S x → x < 4611686018427387904)
theorem Mn.uniq {S : Int → Prop} {r t : Int} (h : Mn S r) (g : Mn S t) : r = t := by
  rcases h.1 with a | a
  · have h1 := g.2.1 r a
    rcases g.1 with b | b
    · have h2 := h.2.1 t b; omega
    · have h3 := h.2.2 r a; omega
  · rcases g.1 with b | b
    · have h2 := h.2.1 t b; have h3 := g.2.2 t b; omega
    · omega
theorem Mn.congr {S S' : Int → Prop} {r : Int} (h : Mn S r) (e : ∀ x, S x ↔ S' x) : Mn S' r := by
  have : S = S' := by funext x; exact propext (e x)
  rw [← this]; exact h
theorem Mn.mem {S : Int → Prop} {r : Int} (h : Mn S r) (hr : r ≠ 4611686018427387904) : S r := h.1.resolve_right hr
theorem Mn.none {S : Int → Prop} {r : Int} (h : Mn S r) (hr : r = 4611686018427387904) : ∀ x, ¬ S x := fun x q => by
  have h1 := h.2.1 x q; have h2 := h.2.2 x q; omega
theorem Mn_0 {S : Int → Prop} (h : ∀ x, ¬ S x) : Mn S 4611686018427387904 := ⟨Or.inr rfl, fun x q => absurd q (h x), fun x q => absurd q (h x)⟩
theorem Mn_1 {S : Int → Prop} {r : Int} (h : ∀ x, S x ↔ x = r) (hr : r < 4611686018427387904) : Mn S r := ⟨Or.inl ((h r).mpr rfl), fun x q => by rw [(h x).mp q]; exact Int.le_refl _, fun x q => by rw [(h x).mp q]; exact hr⟩
theorem Mn_or {S S' : Int → Prop} {a b c : Int} (h : Mn S a) (g : Mn S' b) (hc : (a < b ∧ c = a) ∨ (b ≤ a ∧ c = b)) : Mn (fun x => S x ∨ S' x) c := by
  refine ⟨?_, fun x q => ?_, fun x q => q.elim (h.2.2 x) (g.2.2 x)⟩
  · rcases hc with ⟨h1, rfl⟩ | ⟨h1, rfl⟩
    · exact h.1.imp Or.inl id
    · exact g.1.imp Or.inr id
  · rcases q with q | q
    · have := h.2.1 x q; omega
    · have := g.2.1 x q; omega
theorem Mn_sh {S : Int → Prop} {a c d : Int} (h : Mn S a) (hb : ∀ x, S x → x + d < 4611686018427387904) (hc : (a = 4611686018427387904 ∧ c = a) ∨ (a ≠ 4611686018427387904 ∧ c = a + d)) : Mn (fun x => ∃ y, S y ∧ x = y + d) c := by
  refine ⟨?_, fun x q => ?_, fun x q => ?_⟩
  · rcases hc with ⟨h1, rfl⟩ | ⟨h1, rfl⟩
    · exact Or.inr h1
    · exact Or.inl ⟨a, h.mem h1, rfl⟩
  · obtain ⟨y, q1, q2⟩ := q
    rcases hc with ⟨h1, h2⟩ | ⟨h1, h2⟩
    · exact absurd q1 (h.none h1 y)
    · have := h.2.1 y q1; omega
  · obtain ⟨y, q1, q2⟩ := q
    rw [q2]; exact hb y q1
def mnOf (S : Int → Prop) : Int := Classical.epsilon (Mn S)
theorem mnOf_eq {S : Int → Prop} {r : Int} (h : Mn S r) : r = mnOf S := h.uniq (Classical.epsilon_spec ⟨r, h⟩)
/-- what is left to pay from the bar i on, with op lines on the page, whose last one ends ahead of i -/
def RS (σ : Sg) (T : Nat → Prop) (i op : Int) (P : Prop) (x : Int) : Prop := (i = sNb σ ∧ T 0 ∧ x = iteP (op = 1 ∧ ¬ P) (1024 * sCs σ 2) 0) ∨ (i < sNb σ ∧ ((∃ s, okL σ s i 0 ∧ T s.length ∧ x = rkL σ s i 0 + 1024 * trn σ (i - 1)) ∨ (op < sPp σ ∧ ∃ s, okL σ s i op ∧ T s.length ∧ x = rkL σ s i op - 32)))
def Tm (σ : Sg) (n : Int) : Nat → Prop := fun k => sCt σ = 0 ∨ (k : Int) = sCt σ - n
theorem okL_32 {σ : Sg} (h : okS σ) {s : List (Int × Bool)} {f o : Int} (h1 : 0 ≤ f) (h2 : f < sNb σ) (h3 : 0 ≤ o) (hk : okL σ s f o) : 33 ≤ rkL σ s f o := by
  have hn := h.1
  induction s generalizing f o with
  | nil => exact absurd hk.1 (by omega)
  | cons x s ih =>
    obtain ⟨t, b⟩ := x
    cases b with
    | true =>
      obtain ⟨k1, k2, k3, k4⟩ := hk
      have i1 := (okL_B h s (t + 1) 0 (by omega) (by omega) (by omega) k4).1
      have i2 := cstB h h1 k1 k2
      have i3 := pgcB h f o t
      simp only [rkL]
      omega
    | false =>
      obtain ⟨k1, k2, k3, k5, k4⟩ := hk
      have q : t ≠ sNb σ - 1 := by
        intro q
        have m6 := okL_nb (σ := σ) (s := s) (o := o + 1) (by rw [show t + 1 = sNb σ by omega] at k4; exact k4)
        omega
      have i1 := ih (by omega) (by omega) (by omega) k4
      have i2 := cstB h h1 k1 k2
      simp only [rkL]
      omega
theorem RS_B {σ : Sg} (h : okS σ) {T : Nat → Prop} {i op x : Int} {P : Prop} (h1 : 1 ≤ i) (h2 : i ≤ sNb σ) (ho : 1 ≤ op) (q : RS σ T i op P x) : 0 ≤ x ∧ x ≤ 94000000000000000 * (sNb σ - i) + 1024000000 := by
  have hn := h.1
  have c2 := h.2.2.2.2.1 2 (by omega) (by omega)
  have ct := trnB h (i - 1)
  rcases q with ⟨q1, q2, q3⟩ | ⟨q1, ⟨s, q2, q3, q4⟩ | ⟨q5, s, q2, q3, q4⟩⟩
  · by_cases w : op = 1 ∧ ¬ P
    · rw [iteP_t w] at q3; omega
    · rw [iteP_f w] at q3; omega
  · have := (okL_B h s i 0 (by omega) (by omega) (by omega) q2).1; omega
  · have := (okL_B h s i op (by omega) (by omega) (by omega) q2).1
    have := okL_32 h (by omega) q1 (by omega) q2
    omega
/-- what a line i..j offers -/
def CD (σ : Sg) (T : Nat → Prop) (i op : Int) (P : Prop) (j x : Int) : Prop := may σ i j ∧ ((op < sPp σ ∧ ∃ y, RS σ T (j + 1) (op + 1) P y ∧ x = y + (1024 * cst σ i j + 1)) ∨ (∃ y, RS σ T (j + 1) 1 False y ∧ x = y + (1024 * trn σ (i - 1) + 32) + (1024 * cst σ i j + 1)))
theorem RS_rec {σ : Sg} {T T' : Nat → Prop} (hT : ∀ n, T' n ↔ T (n + 1)) {i op x : Int} {P : Prop} (h1 : 1 ≤ i) (h2 : i < sNb σ) (ho : 1 ≤ op) : RS σ T i op P x ↔ ∃ j, i ≤ j ∧ j < sNb σ ∧ CD σ T' i op P j x := by
  constructor
  · rintro (⟨q1, -⟩ | ⟨-, ⟨s, k1, k2, k3⟩ | ⟨q5, s, k1, k2, k3⟩⟩)
    · omega
    · cases s with
      | nil => exact absurd k1.1 (by omega)
      | cons z s =>
        obtain ⟨t, b⟩ := z
        cases b with
        | true =>
          obtain ⟨m1, m2, m3, m4⟩ := k1
          refine ⟨t, m1, m2, m3, Or.inr ?_⟩
          by_cases q : t = sNb σ - 1
          · have m5 := okL_nb (σ := σ) (s := s) (o := 0) (by rw [show t + 1 = sNb σ by omega] at m4; exact m4)
            refine ⟨1024 * sCs σ 2, Or.inl ⟨by omega, (hT _).mpr (by rw [m5.1] at k2; exact k2), (iteP_t ⟨rfl, id⟩ _ _).symm⟩, ?_⟩
            rw [k3, m5.1]; simp only [rkL, pgc]; rw [if_pos q]; unfold wdw; rw [if_pos ⟨rfl, by omega⟩]; omega
          · refine ⟨rkL σ s (t + 1) 0 + 1024 * trn σ (t + 1 - 1), Or.inr ⟨by omega, Or.inl ⟨s, m4, (hT _).mpr k2, rfl⟩⟩, ?_⟩
            rw [k3, show t + 1 - 1 = t by omega]; simp only [rkL, pgc]; rw [if_neg q]; omega
        | false =>
          obtain ⟨m1, m2, m3, m5, m4⟩ := k1
          have q : t ≠ sNb σ - 1 := by
            intro q
            have m6 := okL_nb (σ := σ) (s := s) (o := 0 + 1) (by rw [show t + 1 = sNb σ by omega] at m4; exact m4)
            omega
          refine ⟨t, m1, m2, m3, Or.inr ⟨rkL σ s (t + 1) 1 - 32, Or.inr ⟨by omega, Or.inr ⟨by omega, s, m4, (hT _).mpr k2, rfl⟩⟩, ?_⟩⟩
          rw [k3]; simp only [rkL]; rw [show (0 : Int) + 1 = 1 from rfl]; omega
    · cases s with
      | nil => exact absurd k1.1 (by omega)
      | cons z s =>
        obtain ⟨t, b⟩ := z
        cases b with
        | true =>
          obtain ⟨m1, m2, m3, m4⟩ := k1
          refine ⟨t, m1, m2, m3, Or.inl ⟨q5, ?_⟩⟩
          by_cases q : t = sNb σ - 1
          · have m5 := okL_nb (σ := σ) (s := s) (o := 0) (by rw [show t + 1 = sNb σ by omega] at m4; exact m4)
            refine ⟨0, Or.inl ⟨by omega, (hT _).mpr (by rw [m5.1] at k2; exact k2), (iteP_f (fun w => by omega) _ _).symm⟩, ?_⟩
            rw [k3, m5.1]; simp only [rkL, pgc]; rw [if_pos q]; unfold wdw; rw [if_neg (by omega)]; omega
          · refine ⟨rkL σ s (t + 1) 0 + 1024 * trn σ (t + 1 - 1), Or.inr ⟨by omega, Or.inl ⟨s, m4, (hT _).mpr k2, rfl⟩⟩, ?_⟩
            rw [k3, show t + 1 - 1 = t by omega]; simp only [rkL, pgc]; rw [if_neg q]; omega
        | false =>
          obtain ⟨m1, m2, m3, m5, m4⟩ := k1
          have q : t ≠ sNb σ - 1 := by
            intro q
            have m6 := okL_nb (σ := σ) (s := s) (o := op + 1) (by rw [show t + 1 = sNb σ by omega] at m4; exact m4)
            omega
          refine ⟨t, m1, m2, m3, Or.inl ⟨q5, rkL σ s (t + 1) (op + 1) - 32, Or.inr ⟨by omega, Or.inr ⟨m5, s, m4, (hT _).mpr k2, rfl⟩⟩, ?_⟩⟩
          rw [k3]; simp only [rkL]; omega
  · rintro ⟨j, j1, j2, hm, ⟨q5, y, hy, hx⟩ | ⟨y, hy, hx⟩⟩
    · refine Or.inr ⟨h2, Or.inr ⟨q5, ?_⟩⟩
      rcases hy with ⟨w1, w2, w3⟩ | ⟨w1, ⟨s, w2, w3, w4⟩ | ⟨w5, s, w2, w3, w4⟩⟩
      · rw [iteP_f (fun w => by omega)] at w3
        refine ⟨[(j, true)], ⟨j1, j2, hm, w1, rfl⟩, (hT 0).mp w2, ?_⟩
        simp only [rkL, pgc]; rw [if_pos (by omega)]; unfold wdw; rw [if_neg (by omega)]; omega
      · refine ⟨(j, true) :: s, ⟨j1, j2, hm, w2⟩, (hT _).mp w3, ?_⟩
        rw [show j + 1 - 1 = j by omega] at w4
        simp only [rkL, pgc]; rw [if_neg (by omega)]; omega
      · refine ⟨(j, false) :: s, ⟨j1, j2, hm, w5, w2⟩, (hT _).mp w3, ?_⟩
        simp only [rkL]; omega
    · refine Or.inr ⟨h2, Or.inl ?_⟩
      rcases hy with ⟨w1, w2, w3⟩ | ⟨w1, ⟨s, w2, w3, w4⟩ | ⟨w5, s, w2, w3, w4⟩⟩
      · rw [iteP_t ⟨rfl, id⟩] at w3
        refine ⟨[(j, true)], ⟨j1, j2, hm, w1, rfl⟩, (hT 0).mp w2, ?_⟩
        simp only [rkL, pgc]; rw [if_pos (by omega)]; unfold wdw; rw [if_pos ⟨rfl, by omega⟩]; omega
      · refine ⟨(j, true) :: s, ⟨j1, j2, hm, w2⟩, (hT _).mp w3, ?_⟩
        rw [show j + 1 - 1 = j by omega] at w4
        simp only [rkL, pgc]; rw [if_neg (by omega)]; omega
      · refine ⟨(j, false) :: s, ⟨j1, j2, hm, by omega, w2⟩, (hT _).mp w3, ?_⟩
        simp only [rkL]; rw [show (0 : Int) + 1 = 1 from rfl]; omega
/-- the whole: what all settings cost -/
def TS (σ : Sg) (x : Int) : Prop := ∃ s, okL σ s 0 0 ∧ Tc σ s.length ∧ x = rkL σ s 0 0
def CB (σ : Sg) (T : Nat → Prop) (j x : Int) : Prop := may σ 0 j ∧ ∃ y, RS σ T (j + 1) 1 True y ∧ x = y + (1024 * cst σ 0 j + 33)
theorem TS_rec {σ : Sg} {T' : Nat → Prop} (hT : ∀ n, T' n ↔ Tc σ (n + 1)) {x : Int} (h2 : 0 < sNb σ) : TS σ x ↔ ∃ j, 0 ≤ j ∧ j < sNb σ ∧ CB σ T' j x := by
  constructor
  · rintro ⟨s, k1, k2, k3⟩
    cases s with
    | nil => exact absurd k1.1 (by omega)
    | cons z s =>
      obtain ⟨t, b⟩ := z
      cases b with
      | true =>
        obtain ⟨m1, m2, m3, m4⟩ := k1
        refine ⟨t, m1, m2, m3, ?_⟩
        by_cases q : t = sNb σ - 1
        · have m5 := okL_nb (σ := σ) (s := s) (o := 0) (by rw [show t + 1 = sNb σ by omega] at m4; exact m4)
          refine ⟨0, Or.inl ⟨by omega, (hT _).mpr (by rw [m5.1] at k2; exact k2), (iteP_f (fun w => w.2 trivial) _ _).symm⟩, ?_⟩
          rw [k3, m5.1]; simp only [rkL, pgc]; rw [if_pos q]; unfold wdw; rw [if_neg (by omega)]; omega
        · refine ⟨rkL σ s (t + 1) 0 + 1024 * trn σ (t + 1 - 1), Or.inr ⟨by omega, Or.inl ⟨s, m4, (hT _).mpr k2, rfl⟩⟩, ?_⟩
          rw [k3, show t + 1 - 1 = t by omega]; simp only [rkL, pgc]; rw [if_neg q]; omega
      | false =>
        obtain ⟨m1, m2, m3, m5, m4⟩ := k1
        have q : t ≠ sNb σ - 1 := by
          intro q
          have m6 := okL_nb (σ := σ) (s := s) (o := 0 + 1) (by rw [show t + 1 = sNb σ by omega] at m4; exact m4)
          omega
        refine ⟨t, m1, m2, m3, rkL σ s (t + 1) 1 - 32, Or.inr ⟨by omega, Or.inr ⟨by omega, s, m4, (hT _).mpr k2, rfl⟩⟩, ?_⟩
        rw [k3]; simp only [rkL]; rw [show (0 : Int) + 1 = 1 from rfl]; omega
  · rintro ⟨j, j1, j2, hm, y, hy, hx⟩
    rcases hy with ⟨w1, w2, w3⟩ | ⟨w1, ⟨s, w2, w3, w4⟩ | ⟨w5, s, w2, w3, w4⟩⟩
    · rw [iteP_f (fun w => w.2 trivial)] at w3
      refine ⟨[(j, true)], ⟨j1, j2, hm, w1, rfl⟩, (hT 0).mp w2, ?_⟩
      simp only [rkL, pgc]; rw [if_pos (by omega)]; unfold wdw; rw [if_neg (by omega)]; omega
    · refine ⟨(j, true) :: s, ⟨j1, j2, hm, w2⟩, (hT _).mp w3, ?_⟩
      rw [show j + 1 - 1 = j by omega] at w4
      simp only [rkL, pgc]; rw [if_neg (by omega)]; omega
    · refine ⟨(j, false) :: s, ⟨j1, j2, hm, by omega, w2⟩, (hT _).mp w3, ?_⟩
      simp only [rkL]; rw [show (0 : Int) + 1 = 1 from rfl]; omega
end
