/-! the lines of a setting parted in pages -/
noncomputable section
def lnl (F : Int → Int) : Int → Nat → List Int
  | _, 0 => []
  | k, n + 1 => (F (k + 1) - 1) :: lnl F (k + 1) n
def BL (σ : Sg) (F : Int → Int) : Int → Nat → Int
  | _, 0 => 0
  | k, n + 1 => (1024 * cst σ (F k) (F (k + 1) - 1) + 1) + BL σ F (k + 1) n
def pgL (F : Int → Int) : Int → Nat → List (Int × Bool)
  | k, 0 => [(F (k + 1) - 1, true)]
  | k, n + 1 => (F (k + 1) - 1, false) :: pgL F (k + 1) n
def VL (σ : Sg) (F : Int → Int) (lm : Int) : Prop := ∀ l, 0 ≤ l → l < lm → 0 ≤ F l ∧ F l ≤ F (l + 1) - 1 ∧ F (l + 1) - 1 < sNb σ ∧ may σ (F l) (F (l + 1) - 1)
theorem lnl_len (F : Int → Int) : ∀ (n : Nat) (k : Int), (lnl F k n).length = n := by
  intro n
  induction n with
  | zero => intro k; rfl
  | succ n ih => intro k; simp only [lnl, List.length_cons, ih]
theorem BL_app (σ : Sg) (F : Int → Int) : ∀ (a b : Nat) (k : Int), BL σ F k (a + b) = BL σ F k a + BL σ F (k + a) b := by
  intro a
  induction a with
  | zero => intro b k; simp [BL]
  | succ a ih =>
    intro b k
    rw [show a + 1 + b = (a + b) + 1 by omega]
    simp only [BL]
    rw [ih b (k + 1), show k + 1 + (a : Int) = k + ((a + 1 : Nat) : Int) by omega]
    omega
theorem lnl_app (F : Int → Int) : ∀ (a b : Nat) (k : Int), lnl F k (a + b) = lnl F k a ++ lnl F (k + a) b := by
  intro a
  induction a with
  | zero => intro b k; simp [lnl]
  | succ a ih =>
    intro b k
    rw [show a + 1 + b = (a + b) + 1 by omega]
    simp only [lnl, List.cons_append]
    rw [ih b (k + 1), show k + 1 + (a : Int) = k + ((a + 1 : Nat) : Int) by omega]
theorem pgL_ok {σ : Sg} {F : Int → Int} {lm : Int} (V : VL σ F lm) : ∀ (n : Nat) (k o : Int) (s : List (Int × Bool)), 0 ≤ k → k + n + 1 ≤ lm → o < sPp σ → (okL σ (pgL F k n ++ s) (F k) o ↔ o + n < sPp σ ∧ okL σ s (F (k + n + 1)) 0) := by
  intro n
  induction n with
  | zero =>
    intro k o s hk hl ho
    have v := V k hk (by omega)
    rw [show k + ((0 : Nat) : Int) + 1 = k + 1 by omega]
    constructor
    · rintro ⟨-, -, -, w⟩
      rw [show F (k + 1) - 1 + 1 = F (k + 1) by omega] at w
      exact ⟨by omega, w⟩
    · rintro ⟨-, w⟩
      refine ⟨v.2.1, v.2.2.1, v.2.2.2, ?_⟩
      show okL σ ([] ++ s) _ _
      rw [show F (k + 1) - 1 + 1 = F (k + 1) by omega]
      exact w
  | succ n ih =>
    intro k o s hk hl ho
    have v := V k hk (by omega)
    have i := ih (k + 1) (o + 1) s (by omega) (by omega)
    rw [show k + 1 + (n : Int) + 1 = k + ((n + 1 : Nat) : Int) + 1 by omega] at i
    constructor
    · rintro ⟨-, -, -, w1, w⟩
      have w : okL σ (pgL F (k + 1) n ++ s) (F (k + 1) - 1 + 1) (o + 1) := w
      rw [show F (k + 1) - 1 + 1 = F (k + 1) by omega] at w
      have := (i w1).mp w
      exact ⟨by omega, this.2⟩
    · rintro ⟨w1, w⟩
      refine ⟨v.2.1, v.2.2.1, v.2.2.2, by omega, ?_⟩
      show okL σ (pgL F (k + 1) n ++ s) (F (k + 1) - 1 + 1) (o + 1)
      rw [show F (k + 1) - 1 + 1 = F (k + 1) by omega]
      exact (i (by omega)).mpr ⟨by omega, w⟩
theorem pgL_rk {σ : Sg} {F : Int → Int} : ∀ (n : Nat) (k o : Int) (s : List (Int × Bool)), rkL σ (pgL F k n ++ s) (F k) o = BL σ F k (n + 1) + (1024 * pgc σ (F (k + n)) (o + n) (F (k + n + 1) - 1) + 32) + rkL σ s (F (k + n + 1)) 0 := by
  intro n
  induction n with
  | zero =>
    intro k o s
    show 1024 * cst σ (F k) (F (k + 1) - 1) + 1 + (1024 * pgc σ (F k) o (F (k + 1) - 1) + 32) + rkL σ ([] ++ s) (F (k + 1) - 1 + 1) 0 = _
    rw [show F (k + 1) - 1 + 1 = F (k + 1) by omega, show k + ((0 : Nat) : Int) = k by omega, show o + ((0 : Nat) : Int) = o by omega]
    simp only [BL, List.nil_append]
    omega
  | succ n ih =>
    intro k o s
    have i := ih (k + 1) (o + 1) s
    show 1024 * cst σ (F k) (F (k + 1) - 1) + 1 + rkL σ (pgL F (k + 1) n ++ s) (F (k + 1) - 1 + 1) (o + 1) = _
    rw [show F (k + 1) - 1 + 1 = F (k + 1) by omega, i, show k + 1 + (n : Int) = k + ((n + 1 : Nat) : Int) by omega, show o + 1 + (n : Int) = o + ((n + 1 : Nat) : Int) by omega]
    rw [show BL σ F k (n + 1 + 1) = (1024 * cst σ (F k) (F (k + 1) - 1) + 1) + BL σ F (k + 1) (n + 1) from rfl]
    omega
theorem pgL_endL (F : Int → Int) : ∀ (n : Nat) (k : Int) (s : List (Int × Bool)), endL (pgL F k n ++ s) = lnl F k (n + 1) ++ endL s := by
  intro n
  induction n with
  | zero => intro k s; rfl
  | succ n ih =>
    intro k s
    show (F (k + 1) - 1) :: endL (pgL F (k + 1) n ++ s) = _
    rw [ih]; rfl
theorem pgL_endP (F : Int → Int) : ∀ (n : Nat) (k : Int) (s : List (Int × Bool)), endP (pgL F k n ++ s) = (F (k + n + 1) - 1) :: endP s := by
  intro n
  induction n with
  | zero => intro k s; rw [show k + ((0 : Nat) : Int) + 1 = k + 1 by omega]; rfl
  | succ n ih =>
    intro k s
    show endP (pgL F (k + 1) n ++ s) = _
    rw [ih, show k + 1 + (n : Int) + 1 = k + ((n + 1 : Nat) : Int) + 1 by omega]
theorem pg_split {σ : Sg} {F : Int → Int} : ∀ (m : Nat) (k o : Int) (s : List (Int × Bool)), okL σ s (F k) o → endL s = lnl F k m → 1 ≤ m → 0 ≤ o → o < sPp σ → ∃ (n : Nat) (t : List (Int × Bool)), n + 1 ≤ m ∧ s = pgL F k n ++ t ∧ o + n < sPp σ ∧ okL σ t (F (k + n + 1)) 0 ∧ endL t = lnl F (k + n + 1) (m - n - 1) := by
  intro m
  induction m with
  | zero => intro k o s _ _ h; omega
  | succ m ih =>
    intro k o s hk he _ ho ho2
    cases s with
    | nil => cases he
    | cons x s =>
      obtain ⟨t, b⟩ := x
      have e1 : t = F (k + 1) - 1 := by have := congrArg (fun l => l.head?) he; simpa [endL, lnl] using this
      have e2 : endL s = lnl F (k + 1) m := by have := congrArg (fun l => l.tail) he; simpa [endL, lnl] using this
      cases b with
      | true =>
        have w := hk.2.2.2
        rw [e1, show F (k + 1) - 1 + 1 = F (k + 1) by omega] at w
        refine ⟨0, s, by omega, by rw [e1]; rfl, by omega, ?_, ?_⟩
        · rw [show k + ((0 : Nat) : Int) + 1 = k + 1 by omega]; exact w
        · rw [show k + ((0 : Nat) : Int) + 1 = k + 1 by omega, show m + 1 - 0 - 1 = m by omega]; exact e2
      | false =>
        obtain ⟨-, -, -, w1, w⟩ := hk
        rw [e1, show F (k + 1) - 1 + 1 = F (k + 1) by omega] at w
        have hm : 1 ≤ m := by
          cases m with
          | zero =>
            have : s = [] := by
              cases s with
              | nil => rfl
              | cons y s => cases e2
            subst this
            have := w.2
            omega
          | succ m => omega
        obtain ⟨n, u, g1, g2, g3, g4, g5⟩ := ih (k + 1) (o + 1) s w e2 hm (by omega) w1
        refine ⟨n + 1, u, by omega, by rw [g2, e1]; rfl, by omega, ?_, ?_⟩
        · rw [show k + ((n + 1 : Nat) : Int) + 1 = k + 1 + n + 1 by omega]; exact g4
        · rw [show k + ((n + 1 : Nat) : Int) + 1 = k + 1 + n + 1 by omega, show m + 1 - (n + 1) - 1 = m - n - 1 by omega]; exact g5
def PGs (σ : Sg) (F : Int → Int) (lm k x : Int) : Prop := ∃ s, okL σ s (F k) 0 ∧ endL s = lnl F k (lm - k).toNat ∧ x + BL σ F k (lm - k).toNat = rkL σ s (F k) 0
def pcM (σ : Sg) (F : Int → Int) (lm k e : Int) : Int := if e = lm then (if e - k = 1 ∧ 0 < k then sCs σ 2 else 0) else trn σ (F e - 1)
theorem pcM_B {σ : Sg} (h : okS σ) (F : Int → Int) (lm k e : Int) : 0 ≤ pcM σ F lm k e ∧ pcM σ F lm k e ≤ 1000000 := by
  have c := h.2.2.2.2.1 2 (by omega) (by omega)
  have t := trnB h (F e - 1)
  unfold pcM
  split
  · split <;> omega
  · omega
theorem pcM_eq {σ : Sg} {F : Int → Int} {lm k e : Int} (V : VL σ F lm) (hl : F lm = sNb σ) (h0 : F 0 = 0) (hk : 0 ≤ k) (he : k < e) (he2 : e ≤ lm) : pgc σ (F (e - 1)) (e - 1 - k) (F e - 1) = pcM σ F lm k e := by
  unfold pgc pcM
  by_cases q : e = lm
  · rw [if_pos (by rw [q, hl]), if_pos q]
    unfold wdw
    by_cases z : e - k = 1
    · rw [show e - 1 = k by omega]
      by_cases w : k = 0
      · rw [w, h0, if_neg (by omega), if_neg (by omega)]
      · have v := V (k - 1) (by omega) (by omega)
        rw [show k - 1 + 1 = k by omega] at v
        rw [if_pos (by omega), if_pos (by omega)]
    · rw [if_neg (by omega), if_neg (by omega)]
  · have v := V e (by omega) (by omega)
    rw [if_neg (by omega), if_neg q]
theorem PG_lm {σ : Sg} {F : Int → Int} {lm x : Int} (hl : F lm = sNb σ) : PGs σ F lm lm x ↔ x = 0 := by
  unfold PGs
  rw [show (lm - lm).toNat = 0 by omega]
  constructor
  · rintro ⟨s, k1, k2, k3⟩
    have : s = [] := by
      cases s with
      | nil => rfl
      | cons y s => cases k2
    subst this
    simp [BL, rkL] at k3
    exact k3
  · intro hx
    exact ⟨[], ⟨hl, rfl⟩, rfl, by simp [BL, rkL]; exact hx⟩
theorem PG_rec {σ : Sg} (h : okS σ) {F : Int → Int} {lm k x : Int} (V : VL σ F lm) (hl : F lm = sNb σ) (h0 : F 0 = 0) (hk : 0 ≤ k) (hk2 : k < lm) : PGs σ F lm k x ↔ ∃ e, k < e ∧ e ≤ lm ∧ e - k ≤ sPp σ ∧ ∃ y, PGs σ F lm e y ∧ x = 1024 * pcM σ F lm k e + 32 + y := by
  have hp := h.2.2.1
  constructor
  · rintro ⟨s, k1, k2, k3⟩
    obtain ⟨n, t, g1, g2, g3, g4, g5⟩ := pg_split (lm - k).toNat k 0 s k1 k2 (by omega) (by omega) (by omega)
    refine ⟨k + n + 1, by omega, by omega, by omega, rkL σ t (F (k + n + 1)) 0 - BL σ F (k + n + 1) ((lm - k).toNat - n - 1), ⟨t, g4, ?_, ?_⟩, ?_⟩
    · rw [show (lm - (k + n + 1)).toNat = (lm - k).toNat - n - 1 by omega]; exact g5
    · rw [show (lm - (k + n + 1)).toNat = (lm - k).toNat - n - 1 by omega]; omega
    · have r := pgL_rk (σ := σ) (F := F) n k 0 t
      rw [← g2, ← k3] at r
      have b := BL_app σ F (n + 1) ((lm - k).toNat - n - 1) k
      rw [show n + 1 + ((lm - k).toNat - n - 1) = (lm - k).toNat by omega, show k + ((n + 1 : Nat) : Int) = k + n + 1 by omega] at b
      have e := pcM_eq V hl h0 hk (show k < k + n + 1 by omega) (by omega)
      rw [show k + (n : Int) + 1 - 1 = k + n by omega, show k + (n : Int) - k = 0 + n by omega] at e
      rw [e] at r
      omega
  · rintro ⟨e, e1, e2, e3, y, ⟨t, k1, k2, k3⟩, hx⟩
    obtain ⟨n, hn⟩ : ∃ n : Nat, e = k + n + 1 := ⟨(e - k - 1).toNat, by omega⟩
    subst hn
    refine ⟨pgL F k n ++ t, (pgL_ok V n k 0 t hk (by omega) (by omega)).mpr ⟨by omega, k1⟩, ?_, ?_⟩
    · rw [pgL_endL, k2]
      have := lnl_app F (n + 1) (lm - (k + n + 1)).toNat k
      rw [show n + 1 + (lm - (k + n + 1)).toNat = (lm - k).toNat by omega, show k + ((n + 1 : Nat) : Int) = k + n + 1 by omega] at this
      exact this.symm
    · rw [pgL_rk]
      have b := BL_app σ F (n + 1) (lm - (k + n + 1)).toNat k
      rw [show n + 1 + (lm - (k + n + 1)).toNat = (lm - k).toNat by omega, show k + ((n + 1 : Nat) : Int) = k + n + 1 by omega] at b
      have ee := pcM_eq V hl h0 hk (show k < k + n + 1 by omega) e2
      rw [show k + (n : Int) + 1 - 1 = k + n by omega, show k + (n : Int) - k = 0 + n by omega] at ee
      rw [ee]
      omega
/-- how many lines a beginning has -/
theorem cnt_R {σ : Sg} (h : okS σ) : ∀ (R s : List (Int × Bool)), okL σ (R.reverse ++ s) 0 0 → cnt (fun b => b ∈ endL (R.reverse ++ s)) (stF R) = R.length := by
  intro R
  induction R with
  | nil => intro s _; rfl
  | cons x R ih =>
    intro s hk
    obtain ⟨t, b⟩ := x
    have e : ((t, b) :: R).reverse ++ s = R.reverse ++ ((t, b) :: s) := by rw [List.reverse_cons, List.append_assoc, List.singleton_append]
    rw [e] at hk ⊢
    have i := ih _ hk
    have g := end_gap h hk
    obtain ⟨g2, g3⟩ := (st_ok R _).mp hk
    have b0 := (st_B h R g2).1
    have ht : stF R ≤ t := by
      cases b with
      | true => exact g3.1
      | false => exact g3.1
    have c := cnt_gap (P := fun b' => b' ∈ endL (R.reverse ++ (t, b) :: s)) b0.1 ht g.1
    rw [stF_c, cnt_t (by omega) g.2, c, i, List.length_cons]
    omega
/-- the lines by their rows -/
theorem lines_of {σ : Sg} (h : okS σ) {s0 : List (Int × Bool)} {F : Int → Int} (hF : ∀ b, 0 ≤ b → b < sNb σ → b ∈ endL s0 → F (cnt (fun b => b ∈ endL s0) b + 1) = b + 1) : ∀ (s R : List (Int × Bool)), s0 = R.reverse ++ s → okL σ s0 0 0 → stF R = F R.length → endL s = lnl F R.length s.length ∧ (s = [] → F R.length = sNb σ) := by
  intro s
  induction s with
  | nil =>
    intro R hs hk hf
    refine ⟨rfl, fun _ => ?_⟩
    rw [hs] at hk
    have := ((st_ok R _).mp hk).2.1
    omega
  | cons x s ih =>
    intro R hs hk hf
    obtain ⟨t, b⟩ := x
    have hk2 := hk
    rw [hs] at hk2
    have g := end_gap h hk2
    obtain ⟨g2, g3⟩ := (st_ok R _).mp hk2
    have b0 := (st_B h R g2).1
    have ht : stF R ≤ t ∧ t < sNb σ := by
      cases b with
      | true => exact ⟨g3.1, g3.2.1⟩
      | false => exact ⟨g3.1, g3.2.1⟩
    have c1 := cnt_R h R _ hk2
    have c := cnt_gap (P := fun b' => b' ∈ endL (R.reverse ++ (t, b) :: s)) b0.1 ht.1 g.1
    have f := hF t (by omega) ht.2 (by rw [hs]; exact g.2)
    rw [hs, c, c1] at f
    have i := ih ((t, b) :: R) (by rw [hs]; simp) hk (by rw [stF_c, List.length_cons, show ((R.length + 1 : Nat) : Int) = (R.length : Int) + 1 by omega, f])
    refine ⟨?_, fun w => by cases w⟩
    show t :: endL s = (F ((R.length : Int) + 1) - 1) :: lnl F ((R.length : Int) + 1) s.length
    rw [f, i.1, List.length_cons, show ((R.length + 1 : Nat) : Int) = (R.length : Int) + 1 by omega, show t + 1 - 1 = t by omega]
theorem VL_of {σ : Sg} (h : okS σ) {F : Int → Int} : ∀ (s : List (Int × Bool)) (k o : Int), 0 ≤ F k → okL σ s (F k) o → endL s = lnl F k s.length → ∀ l, k ≤ l → l < k + s.length → 0 ≤ F l ∧ F l ≤ F (l + 1) - 1 ∧ F (l + 1) - 1 < sNb σ ∧ may σ (F l) (F (l + 1) - 1) := by
  intro s
  induction s with
  | nil => intro k o _ _ _ l h1 h2; simp at h2; omega
  | cons x s ih =>
    intro k o h0 hk he l h1 h2
    obtain ⟨t, b⟩ := x
    have e1 : t = F (k + 1) - 1 := by have := congrArg (fun l => l.head?) he; simpa [endL, lnl] using this
    have e2 : endL s = lnl F (k + 1) s.length := by have := congrArg (fun l => l.tail) he; simpa [endL, lnl] using this
    have g : F k ≤ t ∧ t < sNb σ ∧ may σ (F k) t ∧ ∃ o', okL σ s (t + 1) o' := by
      cases b with
      | true => exact ⟨hk.1, hk.2.1, hk.2.2.1, 0, hk.2.2.2⟩
      | false => exact ⟨hk.1, hk.2.1, hk.2.2.1, o + 1, hk.2.2.2.2⟩
    obtain ⟨g1, g2, g3, o', g4⟩ := g
    rw [e1] at g1 g2 g3 g4
    rw [show F (k + 1) - 1 + 1 = F (k + 1) by omega] at g4
    by_cases q : l = k
    · rw [q]; exact ⟨h0, g1, g2, g3⟩
    · rw [List.length_cons] at h2
      exact ih (k + 1) o' (by omega) g4 e2 l (by omega) (by omega)
/-- the best setting's pages are paid best from every page's start on -/
theorem tail_min {σ : Sg} {R s : List (Int × Bool)} {F : Int → Int} {lm k : Int} (hb : isBest σ (R.reverse ++ s)) (ho : stO R = 0) (hf : stF R = F k) (he : endL s = lnl F k (lm - k).toNat) (hk : k < lm) : PGs σ F lm k (rkL σ s (F k) 0 - BL σ F k (lm - k).toNat) ∧ ∀ y, PGs σ F lm k y → rkL σ s (F k) 0 - BL σ F k (lm - k).toNat ≤ y := by
  obtain ⟨g2, g3⟩ := (st_ok R _).mp hb.1
  rw [ho, hf] at g3
  have hs : s ≠ [] := by
    intro w
    rw [w] at he
    have := congrArg List.length he
    rw [lnl_len] at this
    simp [endL] at this
    omega
  refine ⟨⟨s, g3, he, by omega⟩, ?_⟩
  rintro y ⟨t, k1, k2, k3⟩
  have ht : t ≠ [] := by
    intro w
    rw [w] at k2
    have := congrArg List.length k2
    rw [lnl_len] at this
    simp [endL] at this
    omega
  have hk1 : okL σ (R.reverse ++ t) 0 0 := (st_ok R t).mpr ⟨g2, by rw [ho, hf]; exact k1⟩
  have hl : (R.reverse ++ t).length = (R.reverse ++ s).length := by
    have e1 : t.length = (endL t).length := by simp [endL]
    have e2 : s.length = (endL s).length := by simp [endL]
    rw [List.length_append, List.length_append, e1, e2, he, k2]
  have r0 := st_rk R s hs hb.1
  have r1 := st_rk R t ht hk1
  rw [ho, hf] at r0 r1
  rcases hb.2.2 _ hk1 (by rw [hl]; exact hb.2.1) with q | q <;> omega
theorem endP_app : ∀ (A B : List (Int × Bool)), endP (A ++ B) = endP A ++ endP B := by
  intro A B
  induction A with
  | nil => rfl
  | cons x A ih =>
    obtain ⟨t, b⟩ := x
    cases b with
    | true => simp only [List.cons_append, endP, ih]
    | false => simp only [List.cons_append, endP, ih]
/-- of two settings with the same lines the one whose page is longer has the lower order -/
theorem od_lessP {σ : Sg} (h : okS σ) {R s s1 : List (Int × Bool)} {F : Int → Int} {k : Int} {n n1 : Nat} (h0 : okL σ (R.reverse ++ (pgL F k n ++ s)) 0 0) (h1 : okL σ (R.reverse ++ (pgL F k n1 ++ s1)) 0 0) (he : endL (R.reverse ++ (pgL F k n ++ s)) = endL (R.reverse ++ (pgL F k n1 ++ s1))) (hj : F (k + n + 1) < F (k + n1 + 1)) (hf : 0 ≤ stF R) : odL (R.reverse ++ (pgL F k n1 ++ s1)) < odL (R.reverse ++ (pgL F k n ++ s)) := by
  have hn := h.1
  have e0 := odL_Q h h0
  have e1 := odL_Q h h1
  obtain ⟨-, g3⟩ := (st_ok R _).mp h0
  obtain ⟨-, k3⟩ := (st_ok R _).mp h1
  have a0 := (okL_incr h g3).2
  have a1 := (okL_incr h k3).2
  rw [pgL_endP] at a0 a1
  rw [endP_app, pgL_endP, Qs_app] at e0 e1
  rw [he] at e0
  have c1 : incr (F (k + n1 + 1) - 1) ((F (k + n1 + 1) - 1) :: endP s1) := ⟨Int.le_refl _, a1.2⟩
  have d1 := Qs_B (f := F (k + n1 + 1) - 1) (by have := a1.1; omega) (by have := a1.2.1; omega) c1
  have d0 := Qs_B (f := F (k + n + 1) - 1 + 1) (by have := a0.1; omega) (by have := a0.2.1; omega) a0.2.2
  have m := p2_m (k := 24 - (F (k + n1 + 1) - 1)) (m := 23 - (F (k + n + 1) - 1)) (by have := a1.2.1; omega) (by omega)
  have q0 : Qs ((F (k + n + 1) - 1) :: endP s) = p2 (23 - (F (k + n + 1) - 1)) + Qs (endP s) := rfl
  omega
end
