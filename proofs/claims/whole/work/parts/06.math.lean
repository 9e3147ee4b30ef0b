/-! settings as rows of lines with a flag 'the page ends here'; their rank and order; best ones -/
noncomputable section
def leB (b : Int) : Int := 2 ^ (47 - b).toNat
def peB (b : Int) : Int := 2 ^ (23 - b).toNat
def okL (σ : Sg) : List (Int × Bool) → Int → Int → Prop
  | [], f, o => f = sNb σ ∧ o = 0
  | (t, true) :: s, f, _ => f ≤ t ∧ t < sNb σ ∧ may σ f t ∧ okL σ s (t + 1) 0
  | (t, false) :: s, f, o => f ≤ t ∧ t < sNb σ ∧ may σ f t ∧ o + 1 < sPp σ ∧ okL σ s (t + 1) (o + 1)
def wdw (σ : Sg) (f o : Int) : Int := if o = 0 ∧ 0 < f then sCs σ 2 else 0
def pgc (σ : Sg) (f o t : Int) : Int := if t = sNb σ - 1 then wdw σ f o else trn σ t
def rkL (σ : Sg) : List (Int × Bool) → Int → Int → Int
  | [], _, _ => 0
  | (t, true) :: s, f, o => 1024 * cst σ f t + 1 + (1024 * pgc σ f o t + 32) + rkL σ s (t + 1) 0
  | (t, false) :: s, f, o => 1024 * cst σ f t + 1 + rkL σ s (t + 1) (o + 1)
def odL : List (Int × Bool) → Int
  | [] => 0
  | (t, true) :: s => leB t + peB t + odL s
  | (t, false) :: s => leB t + odL s
def Cmp (σ : Sg) (T : Nat → Prop) (f o r z : Int) : Prop := ∃ s, okL σ s f o ∧ T s.length ∧ r = rkL σ s f o ∧ z = odL s
def Bst (S : Int → Int → Prop) (R Z : Int) : Prop := (R = 9223372036854775807 ∧ ∀ r z, ¬ S r z) ∨ (R ≠ 9223372036854775807 ∧ S R Z ∧ ∀ r z, S r z → R < r ∨ (R = r ∧ Z ≤ z))
theorem Bst.set {S : Int → Int → Prop} {R Z x y : Int} (h : Bst S R Z) (hx : x < 9223372036854775807) (hb : x < R ∨ x = R ∧ y < Z) : Bst (fun r z => S r z ∨ (r = x ∧ z = y)) x y := by
  refine Or.inr ⟨by omega, Or.inr ⟨rfl, rfl⟩, fun r z q => ?_⟩
  rcases h with ⟨h1, h2⟩ | ⟨h1, h2, h3⟩
  · rcases q with q | q
    · exact absurd q (h2 r z)
    · omega
  · rcases q with q | q
    · have := h3 r z q; omega
    · omega
theorem Bst.keep {S : Int → Int → Prop} {R Z x y : Int} (h : Bst S R Z) (hx : x < 9223372036854775807) (hb : ¬ (x < R ∨ x = R ∧ y < Z)) : Bst (fun r z => S r z ∨ (r = x ∧ z = y)) R Z := by
  rcases h with ⟨h1, h2⟩ | ⟨h1, h2, h3⟩
  · exact absurd (Or.inl (by omega)) hb
  · refine Or.inr ⟨h1, Or.inl h2, fun r z q => ?_⟩
    rcases q with q | q
    · exact h3 r z q
    · omega
theorem Bst.congr {S S' : Int → Int → Prop} {R Z : Int} (h : Bst S R Z) (e : ∀ r z, S r z ↔ S' r z) : Bst S' R Z := by
  have : S = S' := by funext r z; exact propext (e r z)
  rw [← this]; exact h
theorem Bst.mono {S S' : Int → Int → Prop} {R Z : Int} (h : Bst S R Z) (e : ∀ r z, S r z → S' r z) (f : ∀ r z, S' r z → ∃ r1 z1, S r1 z1 ∧ (r1 < r ∨ (r1 = r ∧ z1 ≤ z))) : Bst S' R Z := by
  rcases h with ⟨h1, h2⟩ | ⟨h1, h2, h3⟩
  · refine Or.inl ⟨h1, fun r z q => ?_⟩
    obtain ⟨r1, z1, q1, -⟩ := f r z q
    exact h2 r1 z1 q1
  · refine Or.inr ⟨h1, e _ _ h2, fun r z q => ?_⟩
    obtain ⟨r1, z1, q1, q2⟩ := f r z q
    have := h3 r1 z1 q1
    omega
/-- one cell of the tables is made better by what N offers -/
def cellUp (rk od rk' od' : Int → Int) (c : Int) (N : Int → Int → Prop) : Prop := (∀ j, j ≠ c → rk' j = rk j ∧ od' j = od j) ∧ ((rk' c = rk c ∧ od' c = od c) ∨ N (rk' c) (od' c)) ∧ ∀ S, Bst S (rk c) (od c) → Bst (fun r z => S r z ∨ N r z) (rk' c) (od' c)
theorem cellUp_offer {rk od : Int → Int} {c x y : Int} (hx : x < 9223372036854775807) (hb : x < rk c ∨ x = rk c ∧ y < od c) : cellUp rk od (updI rk c x) (updI od c y) c (fun r z => r = x ∧ z = y) := by
  refine ⟨fun j hj => ⟨updI_n hj, updI_n hj⟩, ?_, fun S h => ?_⟩
  · rw [updI_s, updI_s]; exact Or.inr ⟨rfl, rfl⟩
  · rw [updI_s, updI_s]; exact h.set hx hb
theorem cellUp_keep {rk od : Int → Int} {c x y : Int} (hx : x < 9223372036854775807) (hb : ¬ (x < rk c ∨ x = rk c ∧ y < od c)) : cellUp rk od rk od c (fun r z => r = x ∧ z = y) :=
  ⟨fun _ _ => ⟨rfl, rfl⟩, Or.inl ⟨rfl, rfl⟩, fun _ h => h.keep hx hb⟩
theorem cellUp_none {rk od : Int → Int} {c : Int} {N : Int → Int → Prop} (h : ∀ r z, ¬ N r z) : cellUp rk od rk od c N :=
  ⟨fun _ _ => ⟨rfl, rfl⟩, Or.inl ⟨rfl, rfl⟩, fun _ q => q.congr (fun r z => ⟨Or.inl, fun w => w.elim id (fun w => absurd w (h r z))⟩)⟩
theorem cellUp_trans {rk od rk1 od1 rk2 od2 : Int → Int} {c : Int} {N M : Int → Int → Prop} (h : cellUp rk od rk1 od1 c N) (g : cellUp rk1 od1 rk2 od2 c M) : cellUp rk od rk2 od2 c (fun r z => N r z ∨ M r z) := by
  refine ⟨fun j hj => ?_, ?_, fun S q => ?_⟩
  · have h1 := h.1 j hj; have h2 := g.1 j hj
    exact ⟨h2.1.trans h1.1, h2.2.trans h1.2⟩
  · rcases g.2.1 with q | q
    · rw [q.1, q.2]
      rcases h.2.1 with w | w
      · exact Or.inl w
      · exact Or.inr (Or.inl w)
    · exact Or.inr (Or.inr q)
  · exact (g.2.2 _ (h.2.2 S q)).congr (fun r z => or_assoc)
theorem cellUp_congr {rk od rk1 od1 : Int → Int} {c : Int} {N M : Int → Int → Prop} (h : cellUp rk od rk1 od1 c N) (e : ∀ r z, N r z ↔ M r z) : cellUp rk od rk1 od1 c M := by
  have : N = M := by funext r z; exact propext (e r z)
  rw [← this]; exact h
/-! bounds -/
theorem sqB {d k : Int} (h1 : -9500 ≤ d) (h2 : d ≤ 9500) (h3 : 0 ≤ k) (h4 : k ≤ 1000000) : 0 ≤ k * d * d ∧ k * d * d ≤ 90250000000000 := by
  have e : k * d * d = k * (d * d) := Int.mul_assoc k d d
  rw [e]
  have hd : 0 ≤ d * d := by
    rcases Int.le_total 0 d with q | q
    · exact Int.mul_nonneg q q
    · have := Int.mul_nonneg (a := -d) (b := -d) (by omega) (by omega)
      rw [Int.neg_mul_neg] at this; exact this
  have hd2 : d * d ≤ 90250000 := by
    rcases Int.le_total 0 d with q | q
    · have := Int.mul_le_mul (a := d) (b := d) (c := 9500) (d := 9500) h2 h2 q (by omega); omega
    · have := Int.mul_le_mul (a := -d) (b := -d) (c := 9500) (d := 9500) (by omega) (by omega) (by omega) (by omega)
      rw [Int.neg_mul_neg] at this; omega
  refine ⟨Int.mul_nonneg h3 hd, ?_⟩
  have := Int.mul_le_mul (a := k) (b := d * d) (c := 1000000) (d := 90250000) h4 hd2 hd (by omega)
  omega
theorem cstB {σ : Sg} (h : okS σ) {a b : Int} (ha : 0 ≤ a) (hab : a ≤ b) (hb : b < sNb σ) : 0 ≤ cst σ a b ∧ cst σ a b ≤ 91000000000000 := by
  have hn := h.1
  have hw := h.2.1
  have c0 := h.2.2.2.2.1 0 (by omega) (by omega)
  have c3 := h.2.2.2.2.1 3 (by omega) (by omega)
  have c4 := h.2.2.2.2.1 4 (by omega) (by omega)
  have p := preB h (a := a) (b := b + 1) ha (by omega) (by omega)
  have hd : dd σ a b = sWd σ - (pre (sWs σ) (b + 1) - pre (sWs σ) a) := rfl
  unfold cst
  by_cases q : sWd σ < tot (sLs σ) a b
  · rw [if_pos q]; omega
  · rw [if_neg q]
    by_cases q2 : dd σ a b < 0
    · rw [if_pos q2]
      have := sqB (d := dd σ a b) (k := sCs σ 0) (by omega) (by omega) c0.1 c0.2
      omega
    · rw [if_neg q2]
      by_cases q3 : b = sNb σ - 1
      · rw [if_pos q3]; omega
      · rw [if_neg q3]
        have := sqB (d := dd σ a b) (k := sCs σ 4) (by omega) (by omega) c4.1 c4.2
        omega
theorem trnB {σ : Sg} (h : okS σ) (b : Int) : 0 ≤ trn σ b ∧ trn σ b ≤ 1000000 := by
  have c1 := h.2.2.2.2.1 1 (by omega) (by omega)
  unfold trn
  split <;> omega
theorem wdwB {σ : Sg} (h : okS σ) (f o : Int) : 0 ≤ wdw σ f o ∧ wdw σ f o ≤ 1000000 := by
  have c1 := h.2.2.2.2.1 2 (by omega) (by omega)
  unfold wdw
  split <;> omega
theorem pgcB {σ : Sg} (h : okS σ) (f o t : Int) : 0 ≤ pgc σ f o t ∧ pgc σ f o t ≤ 1000000 := by
  have c1 := wdwB h f o
  have c2 := trnB h t
  unfold pgc
  split <;> omega
theorem powB {k : Int} (h0 : 0 ≤ k) (h : k ≤ 47) : 0 < (2 : Int) ^ k.toNat ∧ (2 : Int) ^ k.toNat ≤ 140737488355328 := by
  obtain ⟨n, hn⟩ : ∃ n : Nat, k.toNat = n := ⟨_, rfl⟩
  rw [hn]
  have h2 : (2 : Nat) ^ n ≤ 2 ^ 47 := Nat.pow_le_pow_right (by omega) (by omega)
  have h3 : 0 < (2 : Nat) ^ n := Nat.two_pow_pos n
  have e : ((2 : Int) ^ n) = ((2 ^ n : Nat) : Int) := (Int.natCast_pow 2 n).symm
  rw [e]
  have h4 : (2 : Nat) ^ 47 = 140737488355328 := by decide
  omega
theorem leB_B {b : Int} (h0 : 0 ≤ b) (h : b < 24) : 0 < leB b ∧ leB b ≤ 140737488355328 := powB (by omega) (by omega)
theorem peB_B {b : Int} (h0 : 0 ≤ b) (h : b < 24) : 0 < peB b ∧ peB b ≤ 140737488355328 := powB (by omega) (by omega)
theorem okL_B {σ : Sg} (h : okS σ) : ∀ (s : List (Int × Bool)) (f o : Int), 0 ≤ f → f ≤ sNb σ → 0 ≤ o → okL σ s f o → (0 ≤ rkL σ s f o ∧ rkL σ s f o ≤ 94000000000000000 * (sNb σ - f)) ∧ (0 ≤ odL s ∧ odL s ≤ 281474976710656 * (sNb σ - f)) ∧ (s.length : Int) ≤ sNb σ - f := by
  have hn := h.1
  intro s
  induction s with
  | nil => intro f o h1 h2 h3 hk; simp [rkL, odL]; omega
  | cons x s ih =>
    intro f o h1 h2 h3 hk
    obtain ⟨t, b⟩ := x
    cases b with
    | true =>
      obtain ⟨k1, k2, k3, k4⟩ := hk
      have i1 := ih (t + 1) 0 (by omega) (by omega) (by omega) k4
      have i2 := cstB h h1 k1 k2
      have i3 := pgcB h f o t
      have i4 := leB_B (b := t) (by omega) (by omega)
      have i5 := peB_B (b := t) (by omega) (by omega)
      simp only [rkL, odL, List.length_cons]
      omega
    | false =>
      obtain ⟨k1, k2, k3, k5, k4⟩ := hk
      have i1 := ih (t + 1) (o + 1) (by omega) (by omega) (by omega) k4
      have i2 := cstB h h1 k1 k2
      have i4 := leB_B (b := t) (by omega) (by omega)
      simp only [rkL, odL, List.length_cons]
      omega
/-- what is offered to the cell (f, o) by a first line that ends with bar t, by the tables behind it -/
def OffT (σ : Sg) (rk od : Int → Int) (f o t r z : Int) : Prop := may σ f t ∧
  ((t = sNb σ - 1 ∧ r = 1024 * cst σ f t + 1 + (1024 * wdw σ f o + 32) ∧ z = leB t + peB t) ∨
   (t ≠ sNb σ - 1 ∧ rk ((t + 1) * 8) ≠ 9223372036854775807 ∧ r = 1024 * cst σ f t + 1 + (1024 * trn σ t + 32) + rk ((t + 1) * 8) ∧ z = leB t + peB t + od ((t + 1) * 8)) ∨
   (t ≠ sNb σ - 1 ∧ o + 1 < sPp σ ∧ rk ((t + 1) * 8 + (o + 1)) ≠ 9223372036854775807 ∧ r = 1024 * cst σ f t + 1 + rk ((t + 1) * 8 + (o + 1)) ∧ z = leB t + od ((t + 1) * 8 + (o + 1))))
theorem okL_nb {σ : Sg} {s : List (Int × Bool)} {o : Int} (h : okL σ s (sNb σ) o) : s = [] ∧ o = 0 := by
  cases s with
  | nil => exact ⟨rfl, h.2⟩
  | cons x s =>
    obtain ⟨t, b⟩ := x
    cases b with
    | true => obtain ⟨k1, k2, -⟩ := h; omega
    | false => obtain ⟨k1, k2, -⟩ := h; omega
theorem off_sem {σ : Sg} (h : okS σ) {T T' : Nat → Prop} (hT : ∀ n, T' n ↔ T (n + 1)) {rk od : Int → Int} {f o lo hi R Z : Int} (hf : f < sNb σ) (ho : 0 ≤ o) (hlo : f ≤ lo) (hhi : hi < sNb σ)
    (tb : ∀ t, lo ≤ t → t ≤ hi → t ≠ sNb σ - 1 → Bst (Cmp σ T' (t + 1) 0) (rk ((t + 1) * 8)) (od ((t + 1) * 8)) ∧ (o + 1 < sPp σ → Bst (Cmp σ T' (t + 1) (o + 1)) (rk ((t + 1) * 8 + (o + 1))) (od ((t + 1) * 8 + (o + 1)))))
    (out : ∀ t b s, ¬ (lo ≤ t ∧ t ≤ hi) → okL σ ((t, b) :: s) f o → ¬ T (s.length + 1)) (last : lo ≤ sNb σ - 1 → sNb σ - 1 ≤ hi → T 1)
    (B : Bst (fun r z => ∃ t, lo ≤ t ∧ t ≤ hi ∧ OffT σ rk od f o t r z) R Z) : Bst (Cmp σ T f o) R Z := by
  refine B.mono ?_ ?_
  · rintro r z ⟨t, h1, h2, hm, ⟨q1, q2, q3⟩ | ⟨q1, q2, q3, q4⟩ | ⟨q1, q5, q2, q3, q4⟩⟩
    · subst q1
      refine ⟨[(sNb σ - 1, true)], ⟨by omega, by omega, hm, ?_⟩, last h1 h2, ?_, ?_⟩
      · exact ⟨by omega, rfl⟩
      · rw [q2]; show _ = 1024 * cst σ f (sNb σ - 1) + 1 + (1024 * pgc σ f o (sNb σ - 1) + 32) + 0; unfold pgc; rw [if_pos rfl]; omega
      · rw [q3]; simp only [odL]; omega
    · rcases (tb t h1 h2 q1).1 with ⟨w, -⟩ | ⟨-, ⟨s, w1, w2, w3, w4⟩, -⟩
      · exact absurd w q2
      · refine ⟨(t, true) :: s, ⟨by omega, by omega, hm, w1⟩, (hT _).mp w2, ?_, ?_⟩
        · rw [q3, w3]; simp only [rkL, pgc]; rw [if_neg q1]
        · rw [q4, w4]; simp only [odL]
    · rcases (tb t h1 h2 q1).2 q5 with ⟨w, -⟩ | ⟨-, ⟨s, w1, w2, w3, w4⟩, -⟩
      · exact absurd w q2
      · refine ⟨(t, false) :: s, ⟨by omega, by omega, hm, q5, w1⟩, (hT _).mp w2, ?_, ?_⟩
        · rw [q3, w3]; simp only [rkL]
        · rw [q4, w4]; simp only [odL]
  · rintro r z ⟨s, k1, k2, k3, k4⟩
    cases s with
    | nil => exact absurd k1.1 (by omega)
    | cons x s =>
      obtain ⟨t, b⟩ := x
      have hin : lo ≤ t ∧ t ≤ hi := Classical.byContradiction fun w => out t b s w k1 k2
      cases b with
      | true =>
        obtain ⟨m1, m2, m3, m4⟩ := k1
        by_cases q : t = sNb σ - 1
        · have m5 := okL_nb (σ := σ) (s := s) (o := 0) (by rw [show t + 1 = sNb σ by omega] at m4; exact m4)
          refine ⟨_, _, ⟨t, hin.1, hin.2, m3, Or.inl ⟨q, rfl, rfl⟩⟩, Or.inr ⟨?_, ?_⟩⟩
          · rw [k3, m5.1]; simp only [rkL, pgc]; rw [if_pos q]; omega
          · rw [k4, m5.1]; simp only [odL]; omega
        · have hc : Cmp σ T' (t + 1) 0 (rkL σ s (t + 1) 0) (odL s) := ⟨s, m4, (hT _).mpr k2, rfl, rfl⟩
          rcases (tb t hin.1 hin.2 q).1 with ⟨-, w⟩ | ⟨w1, -, w3⟩
          · exact absurd hc (w _ _)
          · refine ⟨_, _, ⟨t, hin.1, hin.2, m3, Or.inr (Or.inl ⟨q, w1, rfl, rfl⟩)⟩, ?_⟩
            have w4 := w3 _ _ hc
            rw [k3, k4]; simp only [rkL, odL, pgc]; rw [if_neg q]
            omega
      | false =>
        obtain ⟨m1, m2, m3, m5, m4⟩ := k1
        have q : t ≠ sNb σ - 1 := by
          intro q
          have m6 := okL_nb (σ := σ) (s := s) (o := o + 1) (by rw [show t + 1 = sNb σ by omega] at m4; exact m4)
          omega
        have hc : Cmp σ T' (t + 1) (o + 1) (rkL σ s (t + 1) (o + 1)) (odL s) := ⟨s, m4, (hT _).mpr k2, rfl, rfl⟩
        rcases (tb t hin.1 hin.2 q).2 m5 with ⟨-, w⟩ | ⟨w1, -, w3⟩
        · exact absurd hc (w _ _)
        · refine ⟨_, _, ⟨t, hin.1, hin.2, m3, Or.inr (Or.inr ⟨q, m5, w1, rfl, rfl⟩)⟩, ?_⟩
          have w4 := w3 _ _ hc
          rw [k3, k4]; simp only [rkL, odL]
          omega
/-- a table's cell is none, or small -/
def okC (r z : Int) : Prop := r = 9223372036854775807 ∨ (0 ≤ r ∧ r ≤ 2256000000000000000 ∧ 0 ≤ z ∧ z ≤ 9007199254740992)
theorem Bst.okC {σ : Sg} (h : okS σ) {T : Nat → Prop} {f o R Z : Int} (h1 : 0 ≤ f) (h2 : f ≤ sNb σ) (h3 : 0 ≤ o) (B : Bst (Cmp σ T f o) R Z) : okC R Z := by
  have hn := h.1
  rcases B with ⟨w, -⟩ | ⟨-, ⟨s, w1, w2, w3, w4⟩, -⟩
  · exact Or.inl w
  · have := okL_B h s f o h1 h2 h3 w1
    refine Or.inr ?_
    omega
theorem lpr_t {σ : Sg} {a b : Int} (h : may σ a b) : lpr σ a b = cst σ a b := if_pos h
theorem lpr_f {σ : Sg} {a b : Int} (h : ¬ may σ a b) : lpr σ a b = -1 := if_neg h
theorem lpr_or (σ : Sg) (a b : Int) : (¬ may σ a b ∧ lpr σ a b = -1) ∨ (may σ a b ∧ lpr σ a b = cst σ a b) := by
  by_cases h : may σ a b
  · exact Or.inr ⟨h, lpr_t h⟩
  · exact Or.inl ⟨h, lpr_f h⟩
theorem fc_same {rk od rk0 od0 : Int → Int} {f o : Int} {N : Int → Int → Prop} (h : cellUp (updI rk (f * 8 + o) 9223372036854775807) (updI od (f * 8 + o) 9223372036854775807) rk0 od0 (f * 8 + o) N) : ∀ j, j ≠ f * 8 + o → rk0 j = rk j ∧ od0 j = od j := fun j hj => by
  have := h.1 j hj
  rw [updI_n hj, updI_n hj] at this
  exact this
theorem fc_step {σ : Sg} {rk od rk0 od0 rk1 od1 : Int → Int} {f o i lo hi : Int} {N : Int → Int → Prop} (h3 : cellUp (updI rk (f * 8 + o) 9223372036854775807) (updI od (f * 8 + o) 9223372036854775807) rk0 od0 (f * 8 + o) (fun r z => ∃ t, lo ≤ t ∧ t < i ∧ t ≤ hi ∧ OffT σ rk od f o t r z)) (hu : cellUp rk0 od0 rk1 od1 (f * 8 + o) N) (hN : ∀ r z, N r z ↔ OffT σ rk od f o i r z) (h1 : lo ≤ i) (h2 : i ≤ hi) : cellUp (updI rk (f * 8 + o) 9223372036854775807) (updI od (f * 8 + o) 9223372036854775807) rk1 od1 (f * 8 + o) (fun r z => ∃ t, lo ≤ t ∧ t < i + 1 ∧ t ≤ hi ∧ OffT σ rk od f o t r z) := by
  refine cellUp_congr (cellUp_trans h3 hu) (fun r z => ⟨fun w => ?_, fun w => ?_⟩)
  · rcases w with ⟨t, w1, w2, w3, w4⟩ | w
    · exact ⟨t, w1, by omega, w3, w4⟩
    · exact ⟨i, h1, by omega, h2, (hN r z).mp w⟩
  · obtain ⟨t, w1, w2, w3, w4⟩ := w
    by_cases q : t = i
    · subst q; exact Or.inr ((hN r z).mpr w4)
    · exact Or.inl ⟨t, w1, by omega, w3, w4⟩
theorem fc_end {σ : Sg} {rk od rk0 od0 : Int → Int} {f o i lo hi : Int} (h3 : cellUp (updI rk (f * 8 + o) 9223372036854775807) (updI od (f * 8 + o) 9223372036854775807) rk0 od0 (f * 8 + o) (fun r z => ∃ t, lo ≤ t ∧ t < i ∧ t ≤ hi ∧ OffT σ rk od f o t r z)) (hi0 : hi < i) : (∀ j, j ≠ f * 8 + o → rk0 j = rk j ∧ od0 j = od j) ∧ Bst (fun r z => ∃ t, lo ≤ t ∧ t ≤ hi ∧ OffT σ rk od f o t r z) (rk0 (f * 8 + o)) (od0 (f * 8 + o)) := by
  refine ⟨fc_same h3, ?_⟩
  have h4 := h3.2.2 (fun _ _ => False) (Or.inl ⟨updI_s _ _ _, fun _ _ w => w⟩)
  refine h4.congr (fun r z => ⟨fun w => ?_, fun w => ?_⟩)
  · rcases w with w | ⟨t, w1, w2, w3, w4⟩
    · exact w.elim
    · exact ⟨t, w1, w3, w4⟩
  · obtain ⟨t, w1, w3, w4⟩ := w
    exact Or.inr ⟨t, w1, by omega, w3, w4⟩
theorem off_last {σ : Sg} {rk od : Int → Int} {f o t X : Int} (hm : may σ f t) (e : t = sNb σ - 1) (hX : X = 1024 * cst σ f t + 1 + (1024 * wdw σ f o + 32)) (r z : Int) : (r = X ∧ z = leB t + peB t) ↔ OffT σ rk od f o t r z := by
  subst hX
  constructor
  · intro w; exact ⟨hm, Or.inl ⟨e, w.1, w.2⟩⟩
  · rintro ⟨-, w | w | w⟩
    · exact w.2
    · exact absurd e w.1
    · exact absurd e w.1
theorem off_go {σ : Sg} {rk od rk0 od0 : Int → Int} {f o t X : Int} (hm : may σ f t) (e : ¬ t = sNb σ - 1) (hX : X = 1024 * cst σ f t + 1) (h1 : rk0 ((t + 1) * 8) = rk ((t + 1) * 8) ∧ od0 ((t + 1) * 8) = od ((t + 1) * 8)) (h2 : rk0 ((t + 1) * 8 + (o + 1)) = rk ((t + 1) * 8 + (o + 1)) ∧ od0 ((t + 1) * 8 + (o + 1)) = od ((t + 1) * 8 + (o + 1))) (r z : Int) :
    ((rk0 ((t + 1) * 8) ≠ 9223372036854775807 ∧ r = X + (1024 * trn σ t + 32) + rk0 ((t + 1) * 8) ∧ z = leB t + peB t + od0 ((t + 1) * 8)) ∨ (o + 1 < sPp σ ∧ rk0 ((t + 1) * 8 + (o + 1)) ≠ 9223372036854775807 ∧ r = X + rk0 ((t + 1) * 8 + (o + 1)) ∧ z = leB t + od0 ((t + 1) * 8 + (o + 1)))) ↔ OffT σ rk od f o t r z := by
  rw [h1.1, h1.2, h2.1, h2.2]
  subst hX
  constructor
  · rintro (w | w)
    · exact ⟨hm, Or.inr (Or.inl ⟨e, w⟩)⟩
    · exact ⟨hm, Or.inr (Or.inr ⟨e, w⟩)⟩
  · rintro ⟨-, w | w | w⟩
    · exact absurd w.1 e
    · exact Or.inl w.2
    · exact Or.inr w.2
theorem off_B {σ : Sg} (h : okS σ) {rk od : Int → Int} {f o t r z : Int} (h1 : 0 ≤ f) (h2 : f ≤ t) (h3 : t < sNb σ) (hk : t ≠ sNb σ - 1 → okC (rk ((t + 1) * 8)) (od ((t + 1) * 8)) ∧ (o + 1 < sPp σ → okC (rk ((t + 1) * 8 + (o + 1))) (od ((t + 1) * 8 + (o + 1))))) (w : OffT σ rk od f o t r z) : i64 r ∧ i64 z := by
  have hn := h.1
  have b1 := cstB h h1 h2 h3
  have b2 := trnB h t
  have b3 := wdwB h f o
  have b4 := leB_B (b := t) (by omega) (by omega)
  have b5 := peB_B (b := t) (by omega) (by omega)
  unfold i64
  obtain ⟨-, w | w | w⟩ := w
  · omega
  · have := (hk w.1).1; unfold okC at this; omega
  · have := (hk w.1).2 w.2.1; unfold okC at this; omega
theorem fc_64 {rk0 od0 rk1 od1 : Int → Int} {c : Int} {N : Int → Int → Prop} (h : i64 (rk0 c) ∧ i64 (od0 c)) (hu : cellUp rk0 od0 rk1 od1 c N) (hN : ∀ r z, N r z → i64 r ∧ i64 z) : i64 (rk1 c) ∧ i64 (od1 c) := by
  rcases hu.2.1 with w | w
  · rw [w.1, w.2]; exact h
  · exact hN _ _ w
/-! the tables filled: any count; a count -/
def TT : Nat → Prop := fun _ => True
def Tn (n : Int) : Nat → Prop := fun k => (k : Int) = n
def Tc (σ : Sg) : Nat → Prop := fun k => sCt σ = 0 ∨ (k : Int) = sCt σ
def tabA (σ : Sg) (T : Nat → Prop) (rk od : Int → Int) (a : Int) : Prop := ∀ f o, a < f → f < sNb σ → 0 ≤ o → o < sPp σ → o ≤ f → Bst (Cmp σ T f o) (rk (f * 8 + o)) (od (f * 8 + o))
def rowA (σ : Sg) (T : Nat → Prop) (rk od : Int → Int) (a o : Int) : Prop := tabA σ T rk od a ∧ ∀ x, 0 ≤ x → x < o → Bst (Cmp σ T a x) (rk (a * 8 + x)) (od (a * 8 + x))
theorem tabA_tb {σ : Sg} (h : okS σ) {T : Nat → Prop} {rk od : Int → Int} {a o : Int} (H : tabA σ T rk od a) (ha : 0 ≤ a) (ho : 0 ≤ o) (hoa : o ≤ a) (t : Int) (h1 : a ≤ t) (h2 : t ≤ sNb σ - 1) (h3 : t ≠ sNb σ - 1) : Bst (Cmp σ T (t + 1) 0) (rk ((t + 1) * 8)) (od ((t + 1) * 8)) ∧ (o + 1 < sPp σ → Bst (Cmp σ T (t + 1) (o + 1)) (rk ((t + 1) * 8 + (o + 1))) (od ((t + 1) * 8 + (o + 1)))) := by
  have hp := h.2.2.1
  refine ⟨?_, fun w => H (t + 1) (o + 1) (by omega) (by omega) (by omega) w (by omega)⟩
  have := H (t + 1) 0 (by omega) (by omega) (by omega) (by omega) (by omega)
  rw [Int.add_zero] at this
  exact this
theorem tabA_ok {σ : Sg} (h : okS σ) {T : Nat → Prop} {rk od : Int → Int} {a o : Int} (H : tabA σ T rk od a) (ha : 0 ≤ a) (ho : 0 ≤ o) (hoa : o ≤ a) (t : Int) (h1 : a ≤ t) (h2 : t ≤ sNb σ - 1) (h3 : t ≠ sNb σ - 1) : okC (rk ((t + 1) * 8)) (od ((t + 1) * 8)) ∧ (o + 1 < sPp σ → okC (rk ((t + 1) * 8 + (o + 1))) (od ((t + 1) * 8 + (o + 1)))) := by
  have B := tabA_tb h H ha ho hoa t h1 h2 h3
  exact ⟨B.1.okC h (by omega) (by omega) (by omega), fun w => (B.2 w).okC h (by omega) (by omega) (by omega)⟩
theorem fill_any {σ : Sg} (h : okS σ) {rk od : Int → Int} {a o R Z : Int} (H : tabA σ TT rk od a) (ha : 0 ≤ a) (hb : a < sNb σ) (ho : 0 ≤ o) (hoa : o ≤ a) (B : Bst (fun r z => ∃ t, a ≤ t ∧ t ≤ sNb σ - 1 ∧ OffT σ rk od a o t r z) R Z) : Bst (Cmp σ TT a o) R Z := by
  refine off_sem h (T := TT) (T' := TT) (fun n => Iff.rfl) hb ho (Int.le_refl a) (by omega) (tabA_tb h H ha ho hoa) ?_ (fun _ _ => trivial) B
  intro t b s w k
  exfalso
  apply w
  cases b with
  | true => exact ⟨k.1, by have := k.2.1; omega⟩
  | false => exact ⟨k.1, by have := k.2.1; omega⟩
theorem rowA_step {σ : Sg} {T : Nat → Prop} {rk od rk1 od1 : Int → Int} {a o : Int} (h : okS σ) (H : rowA σ T rk od a o) (ho : 0 ≤ o) (ho2 : o < sPp σ) (same : ∀ j, j ≠ a * 8 + o → rk1 j = rk j ∧ od1 j = od j) (B : Bst (Cmp σ T a o) (rk1 (a * 8 + o)) (od1 (a * 8 + o))) : rowA σ T rk1 od1 a (o + 1) := by
  have hp := h.2.2.1
  refine ⟨fun f x h1 h2 h3 h4 h5 => ?_, fun x h1 h2 => ?_⟩
  · have e := same (f * 8 + x) (by omega)
    rw [e.1, e.2]; exact H.1 f x h1 h2 h3 h4 h5
  · by_cases q : x = o
    · rw [q]; exact B
    · have e := same (a * 8 + x) (by omega)
      rw [e.1, e.2]; exact H.2 x h1 (by omega)
theorem rowA_end {σ : Sg} {T : Nat → Prop} {rk od : Int → Int} {a o : Int} (H : rowA σ T rk od a o) (ho : min (sPp σ - 1) a < o) : tabA σ T rk od (a - 1) := by
  intro f x h1 h2 h3 h4 h5
  by_cases q : f = a
  · rw [q]; exact H.2 x h3 (by omega)
  · exact H.1 f x (by omega) h2 h3 h4 h5
def tC (σ : Sg) (n u lo hi : Int) (rk od : Int → Int) : Prop := ∀ f o, lo ≤ f → f ≤ hi → 0 ≤ o → o < sPp σ → o ≤ u → Bst (Cmp σ (Tn n) f o) (rk (f * 8 + o)) (od (f * 8 + o))
theorem tC_tb {σ : Sg} (h : okS σ) {n u f o : Int} {rk od : Int → Int} (H : tC σ n u (f + 1) (sNb σ - n) rk od) (ho : 0 ≤ o) (hu : o + 1 ≤ u) (t : Int) (h1 : f ≤ t) (h2 : t + 1 ≤ sNb σ - n) : Bst (Cmp σ (Tn n) (t + 1) 0) (rk ((t + 1) * 8)) (od ((t + 1) * 8)) ∧ (o + 1 < sPp σ → Bst (Cmp σ (Tn n) (t + 1) (o + 1)) (rk ((t + 1) * 8 + (o + 1))) (od ((t + 1) * 8 + (o + 1)))) := by
  have hp := h.2.2.1
  refine ⟨?_, fun w => H (t + 1) (o + 1) (by omega) (by omega) (by omega) w (by omega)⟩
  have := H (t + 1) 0 (by omega) (by omega) (by omega) (by omega) (by omega)
  rw [Int.add_zero] at this
  exact this
theorem tC_ok {σ : Sg} (h : okS σ) {n u f o lo : Int} {rk od : Int → Int} (H : n = 1 ∨ tC σ (n - 1) u (f + 1) (sNb σ - (n - 1)) rk od) (hn : 1 ≤ n) (hf : 0 ≤ f) (hlo : lo = if n = 1 then sNb σ - n else f) (ho : 0 ≤ o) (hu : o + 1 ≤ u) (t : Int) (h1 : lo ≤ t) (h2 : t ≤ sNb σ - n) (h3 : t ≠ sNb σ - 1) : okC (rk ((t + 1) * 8)) (od ((t + 1) * 8)) ∧ (o + 1 < sPp σ → okC (rk ((t + 1) * 8 + (o + 1))) (od ((t + 1) * 8 + (o + 1)))) := by
  by_cases q : n = 1
  · rw [if_pos q] at hlo; omega
  · rw [if_neg q] at hlo
    have B := tC_tb h (H.resolve_left q) ho hu t (by omega) (by omega)
    exact ⟨B.1.okC h (by omega) (by omega) (by omega), fun w => (B.2 w).okC h (by omega) (by omega) (by omega)⟩
theorem fill_cnt {σ : Sg} (h : okS σ) {n u f o lo R Z : Int} {rk od : Int → Int} (H : n = 1 ∨ tC σ (n - 1) u (f + 1) (sNb σ - (n - 1)) rk od) (hn : 1 ≤ n) (hf : 0 ≤ f) (hfn : f ≤ sNb σ - n) (hlo : lo = if n = 1 then sNb σ - n else f) (ho : 0 ≤ o) (hu : o + 1 ≤ u) (B : Bst (fun r z => ∃ t, lo ≤ t ∧ t ≤ sNb σ - n ∧ OffT σ rk od f o t r z) R Z) : Bst (Cmp σ (Tn n) f o) R Z := by
  refine off_sem h (T := Tn n) (T' := Tn (n - 1)) (fun k => by unfold Tn; omega) (by omega) ho (by split at hlo <;> omega) (by omega) ?_ ?_ ?_ B
  · intro t h1 h2 h3
    by_cases q : n = 1
    · rw [if_pos q] at hlo; omega
    · rw [if_neg q] at hlo
      exact tC_tb h (H.resolve_left q) ho hu t (by omega) (by omega)
  · intro t b s w k
    unfold Tn
    have hk : f ≤ t ∧ t < sNb σ ∧ (s.length : Int) ≤ sNb σ - (t + 1) := by
      cases b with
      | true => exact ⟨k.1, k.2.1, (okL_B h s (t + 1) 0 (by have := k.1; omega) (by have := k.2.1; omega) (by omega) k.2.2.2).2.2⟩
      | false => exact ⟨k.1, k.2.1, (okL_B h s (t + 1) (o + 1) (by have := k.1; omega) (by have := k.2.1; omega) (by omega) k.2.2.2.2).2.2⟩
    by_cases q : n = 1
    · rw [if_pos q] at hlo
      intro e
      have hl : s = [] := by
        cases s with
        | nil => rfl
        | cons x s => simp at e; omega
      subst hl
      have : t + 1 = sNb σ := by
        cases b with
        | true => exact k.2.2.2.1
        | false => exact k.2.2.2.2.1
      exact w ⟨by omega, by omega⟩
    · rw [if_neg q] at hlo
      omega
  · intro h1 h2
    unfold Tn
    omega
def rowC (σ : Sg) (n u f : Int) (rk od : Int → Int) (o : Int) : Prop := (n = 1 ∨ tC σ (n - 1) (u + 1) (f + 1) (sNb σ - (n - 1)) rk od) ∧ tC σ n u u (f - 1) rk od ∧ ∀ x, 0 ≤ x → x < o → Bst (Cmp σ (Tn n) f x) (rk (f * 8 + x)) (od (f * 8 + x))
theorem rowC_step {σ : Sg} (h : okS σ) {n u f o : Int} {rk od rk1 od1 : Int → Int} (H : rowC σ n u f rk od o) (ho : 0 ≤ o) (ho2 : o < sPp σ) (same : ∀ j, j ≠ f * 8 + o → rk1 j = rk j ∧ od1 j = od j) (B : Bst (Cmp σ (Tn n) f o) (rk1 (f * 8 + o)) (od1 (f * 8 + o))) : rowC σ n u f rk1 od1 (o + 1) := by
  have hp := h.2.2.1
  refine ⟨H.1.imp id (fun w a x h1 h2 h3 h4 h5 => ?_), fun a x h1 h2 h3 h4 h5 => ?_, fun x h1 h2 => ?_⟩
  · have e := same (a * 8 + x) (by omega)
    rw [e.1, e.2]; exact w a x h1 h2 h3 h4 h5
  · have e := same (a * 8 + x) (by omega)
    rw [e.1, e.2]; exact H.2.1 a x h1 h2 h3 h4 h5
  · by_cases q : x = o
    · rw [q]; exact B
    · have e := same (f * 8 + x) (by omega)
      rw [e.1, e.2]; exact H.2.2 x h1 (by omega)
theorem rowC_next {σ : Sg} {n u f o : Int} {rk od : Int → Int} (H : rowC σ n u f rk od o) (ho : min (sPp σ - 1) u < o) : rowC σ n u (f + 1) rk od 0 := by
  refine ⟨H.1.imp id (fun w a x h1 h2 h3 h4 h5 => w a x (by omega) h2 h3 h4 h5), fun a x h1 h2 h3 h4 h5 => ?_, fun x h1 h2 => by omega⟩
  by_cases q : a = f
  · rw [q]; exact H.2.2 x h3 (by omega)
  · exact H.2.1 a x h1 (by omega) h3 h4 h5
theorem Full_empty {σ : Sg} (h : okS σ) (hc : sNb σ < sCt σ) : ∀ r z, ¬ Cmp σ (Tc σ) 0 0 r z := by
  rintro r z ⟨s, k1, k2, -, -⟩
  have hn := h.1
  have := (okL_B h s 0 0 (by omega) (by omega) (by omega) k1).2.2
  unfold Tc at k2
  omega
theorem Full_none {σ : Sg} (h0 : sNb σ = 0) {x : Int} (hx : x = if sCt σ = 0 then 0 else 9223372036854775807) : Bst (Cmp σ (Tc σ) 0 0) x 0 := by
  by_cases q : sCt σ = 0
  · rw [if_pos q] at hx
    refine Or.inr ⟨by omega, ⟨[], ⟨h0.symm, rfl⟩, Or.inl q, hx, rfl⟩, ?_⟩
    rintro r z ⟨s, k1, k2, k3, k4⟩
    have := okL_nb (σ := σ) (s := s) (o := 0) (by rw [h0]; exact k1)
    rw [this.1] at k3 k4
    right
    exact ⟨by rw [hx, k3]; rfl, by rw [k4]; exact Int.le_refl _⟩
  · rw [if_neg q] at hx
    refine Or.inl ⟨hx, ?_⟩
    rintro r z ⟨s, k1, k2, k3, k4⟩
    have := okL_nb (σ := σ) (s := s) (o := 0) (by rw [h0]; exact k1)
    rw [this.1] at k2
    unfold Tc at k2
    simp at k2
    omega
theorem runJ {σ : Sg} {T : Nat → Prop} {R Z : Int} (B : Bst (Cmp σ T 0 0) R Z) (h : (sCt σ = 0 ∧ T = TT) ∨ (¬ sCt σ = 0 ∧ T = Tn (sCt σ))) : Bst (Cmp σ (Tc σ) 0 0) R Z := by
  rcases h with ⟨h1, h2⟩ | ⟨h1, h2⟩
  · subst h2
    exact B.congr (fun r z => ⟨fun ⟨s, w1, w2, w3⟩ => ⟨s, w1, Or.inl h1, w3⟩, fun ⟨s, w1, w2, w3⟩ => ⟨s, w1, trivial, w3⟩⟩)
  · subst h2
    exact B.congr (fun r z => ⟨fun ⟨s, w1, w2, w3⟩ => ⟨s, w1, Or.inr w2, w3⟩, fun ⟨s, w1, w2, w3⟩ => ⟨s, w1, w2.resolve_left h1, w3⟩⟩)
end
