/-! the order number's bits say the lines' and the pages' ends -/
noncomputable section
def p2 (k : Int) : Int := 2 ^ k.toNat
theorem p2_pos (k : Int) : 0 < p2 k := Int.pow_pos (by omega)
theorem p2_s {k : Int} (h : 0 ≤ k) : p2 (k + 1) = 2 * p2 k := by
  unfold p2
  rw [show (k + 1).toNat = k.toNat + 1 by omega, Int.pow_succ, Int.mul_comm]
theorem p2_a {k m : Int} (h : 0 ≤ k) (hm : 0 ≤ m) : p2 (k + m) = p2 k * p2 m := by
  unfold p2
  rw [show (k + m).toNat = k.toNat + m.toNat by omega, Int.pow_add]
theorem p2_m {k m : Int} (h : 0 ≤ k) (hm : k ≤ m) : p2 k ≤ p2 m := by
  have e := p2_a (k := k) (m := m - k) h (by omega)
  rw [show k + (m - k) = m by omega] at e
  rw [e]
  have h1 := p2_pos k
  have h2 := p2_pos (m - k)
  have := Int.mul_le_mul_of_nonneg_left (show (1 : Int) ≤ p2 (m - k) by omega) (show (0 : Int) ≤ p2 k by omega)
  omega
def Qs : List Int → Int
  | [] => 0
  | t :: ts => p2 (23 - t) + Qs ts
def incr : Int → List Int → Prop
  | _, [] => True
  | f, t :: ts => f ≤ t ∧ t < 24 ∧ incr (t + 1) ts
theorem incr_w : ∀ {ts : List Int} {f g : Int}, incr f ts → g ≤ f → incr g ts := by
  intro ts
  cases ts with
  | nil => intro f g h hg; trivial
  | cons t ts => intro f g h hg; exact ⟨by have := h.1; omega, h.2⟩
theorem incr_ge : ∀ {ts : List Int} {f b : Int}, incr f ts → b ∈ ts → f ≤ b ∧ b < 24 := by
  intro ts
  induction ts with
  | nil => intro f b h hb; cases hb
  | cons t ts ih =>
    intro f b h hb
    rcases List.mem_cons.mp hb with q | q
    · rw [q]; exact ⟨h.1, h.2.1⟩
    · have := ih h.2.2 q; have := h.1; omega
theorem Qs_B : ∀ {ts : List Int} {f : Int}, 0 ≤ f → f ≤ 24 → incr f ts → 0 ≤ Qs ts ∧ Qs ts < p2 (24 - f) := by
  intro ts
  induction ts with
  | nil => intro f h1 h2 h; exact ⟨Int.le_refl _, p2_pos _⟩
  | cons t ts ih =>
    intro f h1 h2 h
    have h3 := h.1
    have h4 := h.2.1
    have i := ih (f := t + 1) (by omega) (by omega) h.2.2
    have e := p2_s (k := 23 - t) (by omega)
    have m := p2_m (k := 23 - t + 1) (m := 24 - f) (by omega) (by omega)
    have p := p2_pos (23 - t)
    rw [show 24 - (t + 1) = 23 - t by omega] at i
    simp only [Qs]
    omega
theorem Qs_bit : ∀ {ts : List Int} {f b : Int}, 0 ≤ f → incr f ts → 0 ≤ b → b < 24 → (Qs ts / p2 (23 - b) % 2 = 1 ↔ b ∈ ts) := by
  intro ts
  induction ts with
  | nil =>
    intro f b h1 h h3 h4
    simp [Qs]
  | cons t ts ih =>
    intro f b h1 h h3 h4
    have k3 := h.1
    have k4 := h.2.1
    have B := Qs_B (f := t + 1) (by omega) (by omega) h.2.2
    rw [show 24 - (t + 1) = 23 - t by omega] at B
    have pt := p2_pos (23 - t)
    have pb := p2_pos (23 - b)
    simp only [Qs]
    rw [List.mem_cons]
    rcases Int.lt_trichotomy b t with q | q | q
    · have e := p2_s (k := 23 - t) (by omega)
      have m := p2_m (k := 23 - t + 1) (m := 23 - b) (by omega) (by omega)
      rw [Int.ediv_eq_zero_of_lt (by omega) (by omega)]
      constructor
      · intro w; exact absurd w (by decide)
      · rintro (w | w)
        · omega
        · have := incr_ge h.2.2 w; omega
    · subst q
      have e : (p2 (23 - b) + Qs ts) / p2 (23 - b) = 1 := by
        have e2 : p2 (23 - b) + Qs ts = Qs ts + 1 * p2 (23 - b) := by omega
        rw [e2, Int.add_mul_ediv_right _ _ (by omega), Int.ediv_eq_zero_of_lt B.1 B.2]
        rfl
      rw [e]
      exact ⟨fun _ => Or.inl rfl, fun _ => by decide⟩
    · have e2 : p2 (23 - t) = (2 * p2 (b - t - 1)) * p2 (23 - b) := by
        have a1 := p2_a (k := b - t) (m := 23 - b) (by omega) (by omega)
        rw [show b - t + (23 - b) = 23 - t by omega] at a1
        have a2 := p2_s (k := b - t - 1) (by omega)
        rw [show b - t - 1 + 1 = b - t by omega] at a2
        rw [a1, a2]
      have e : (p2 (23 - t) + Qs ts) / p2 (23 - b) = Qs ts / p2 (23 - b) + 2 * p2 (b - t - 1) := by
        rw [e2, Int.add_comm, Int.add_mul_ediv_right _ _ (by omega)]
      rw [e, Int.add_mul_emod_self_left, ih (f := t + 1) (by omega) h.2.2 h3 h4]
      constructor
      · intro w; exact Or.inr w
      · rintro (w | w)
        · omega
        · exact w
def endL (s : List (Int × Bool)) : List Int := s.map Prod.fst
def endP : List (Int × Bool) → List Int
  | [] => []
  | (t, true) :: s => t :: endP s
  | (_, false) :: s => endP s
theorem okL_incr {σ : Sg} (h : okS σ) : ∀ {s : List (Int × Bool)} {f o : Int}, okL σ s f o → incr f (endL s) ∧ incr f (endP s) := by
  have hn := h.1
  intro s
  induction s with
  | nil => intro f o hk; exact ⟨trivial, trivial⟩
  | cons x s ih =>
    intro f o hk
    obtain ⟨t, b⟩ := x
    cases b with
    | true =>
      obtain ⟨k1, k2, -, k4⟩ := hk
      have i := ih k4
      exact ⟨⟨k1, by omega, i.1⟩, ⟨k1, by omega, i.2⟩⟩
    | false =>
      obtain ⟨k1, k2, -, -, k4⟩ := hk
      have i := ih k4
      exact ⟨⟨k1, by omega, i.1⟩, incr_w i.2 (by omega)⟩
theorem leB_p2 {t : Int} (h : t ≤ 23) : leB t = 16777216 * p2 (23 - t) := by
  have := p2_a (k := 24) (m := 23 - t) (by omega) (by omega)
  rw [show (24 : Int) + (23 - t) = 47 - t by omega] at this
  exact this
theorem odL_Q {σ : Sg} (h : okS σ) : ∀ {s : List (Int × Bool)} {f o : Int}, okL σ s f o → odL s = Qs (endP s) + Qs (endL s) * 16777216 := by
  have hn := h.1
  intro s
  induction s with
  | nil => intro f o hk; rfl
  | cons x s ih =>
    intro f o hk
    obtain ⟨t, b⟩ := x
    cases b with
    | true =>
      obtain ⟨k1, k2, -, k4⟩ := hk
      have i := ih k4
      have e := leB_p2 (t := t) (by omega)
      have e2 : peB t = p2 (23 - t) := rfl
      simp only [odL, endP, endL, List.map_cons, Qs]
      unfold endL at i
      omega
    | false =>
      obtain ⟨k1, k2, -, -, k4⟩ := hk
      have i := ih k4
      have e := leB_p2 (t := t) (by omega)
      simp only [odL, endP, endL, List.map_cons, Qs]
      unfold endL at i
      omega
theorem od_bits {σ : Sg} (h : okS σ) {s : List (Int × Bool)} {f o b : Int} (hf : 0 ≤ f) (hf2 : f ≤ 24) (hk : okL σ s f o) (hb : 0 ≤ b) (hb2 : b < 24) : (odL s / leB b % 2 = 1 ↔ b ∈ endL s) ∧ (odL s / peB b % 2 = 1 ↔ b ∈ endP s) := by
  have hi := okL_incr h hk
  have B1 := Qs_B hf hf2 hi.1
  have B2 := Qs_B hf hf2 hi.2
  have m := p2_m (k := 24 - f) (m := 24) (by omega) (by omega)
  have e24 : p2 24 = 16777216 := by decide
  have pb := p2_pos (23 - b)
  have e := odL_Q h hk
  have hq : odL s / 16777216 = Qs (endL s) := by
    rw [e, Int.add_mul_ediv_right _ _ (by omega), Int.ediv_eq_zero_of_lt B2.1 (by omega)]
    omega
  constructor
  · rw [leB_p2 (by omega), ← Int.ediv_ediv_of_nonneg (show (0 : Int) ≤ 16777216 by omega), hq]
    exact Qs_bit hf hi.1 hb hb2
  · rw [← Qs_bit hf hi.2 hb hb2]
    show odL s / p2 (23 - b) % 2 = 1 ↔ _
    have e3 : (16777216 : Int) = (2 * p2 b) * p2 (23 - b) := by
      have a1 := p2_a (k := b + 1) (m := 23 - b) (by omega) (by omega)
      rw [show b + 1 + (23 - b) = 24 by omega, e24] at a1
      rw [a1, p2_s hb]
    have e4 : Qs (endL s) * 16777216 = (2 * (p2 b * Qs (endL s))) * p2 (23 - b) := by
      rw [e3, Int.mul_comm (Qs (endL s)), Int.mul_assoc 2, Int.mul_assoc 2, Int.mul_assoc 2, Int.mul_assoc, Int.mul_assoc, Int.mul_comm (Qs (endL s))]
    rw [e, e4, Int.add_mul_ediv_right _ _ (by omega), Int.add_mul_emod_self_left]
theorem okL_last {σ : Sg} : ∀ {s : List (Int × Bool)} {f o : Int}, okL σ s f o → 0 ≤ o → f < sNb σ → (sNb σ - 1) ∈ endL s ∧ (sNb σ - 1) ∈ endP s := by
  intro s
  induction s with
  | nil => intro f o hk ho hf; exact absurd hk.1 (by omega)
  | cons x s ih =>
    intro f o hk ho hf
    obtain ⟨t, b⟩ := x
    cases b with
    | true =>
      obtain ⟨k1, k2, -, k4⟩ := hk
      by_cases q : t = sNb σ - 1
      · exact ⟨by rw [← q]; exact List.mem_cons_self, by rw [← q]; exact List.mem_cons_self⟩
      · have i := ih k4 (by omega) (by omega)
        exact ⟨List.mem_cons_of_mem _ i.1, List.mem_cons_of_mem _ i.2⟩
    | false =>
      obtain ⟨k1, k2, -, -, k4⟩ := hk
      by_cases q : t = sNb σ - 1
      · have := okL_nb (σ := σ) (s := s) (o := o + 1) (by rw [show t + 1 = sNb σ by omega] at k4; exact k4)
        omega
      · have i := ih k4 (by omega) (by omega)
        exact ⟨List.mem_cons_of_mem _ i.1, i.2⟩
theorem endP_sub : ∀ {s : List (Int × Bool)} {b : Int}, b ∈ endP s → b ∈ endL s := by
  intro s
  induction s with
  | nil => intro b h; cases h
  | cons x s ih =>
    intro b h
    obtain ⟨t, fl⟩ := x
    cases fl with
    | true =>
      rcases List.mem_cons.mp h with q | q
      · rw [q]; exact List.mem_cons_self
      · exact List.mem_cons_of_mem _ (ih q)
    | false => exact List.mem_cons_of_mem _ (ih h)
/-- there is a k-th one -/
theorem cnt_ex {P : Int → Prop} : ∀ {n : Nat} {k : Int}, 0 ≤ k → k < cnt P n → ∃ b : Int, 0 ≤ b ∧ b < n ∧ P b ∧ cnt P b = k := by
  intro n
  induction n with
  | zero => intro k h1 h2; rw [show ((0 : Nat) : Int) = 0 from rfl, cnt_0] at h2; omega
  | succ n ih =>
    intro k h1 h2
    rw [show ((n + 1 : Nat) : Int) = (n : Int) + 1 by omega] at h2
    by_cases hp : P n
    · rw [cnt_t (by omega) hp] at h2
      by_cases q : k = cnt P n
      · exact ⟨n, by omega, by omega, hp, q.symm⟩
      · obtain ⟨b, w1, w2, w3, w4⟩ := ih h1 (by omega)
        exact ⟨b, w1, by omega, w3, w4⟩
    · rw [cnt_f (by omega) hp] at h2
      obtain ⟨b, w1, w2, w3, w4⟩ := ih h1 h2
      exact ⟨b, w1, by omega, w3, w4⟩
theorem cnt_ex' {P : Int → Prop} {n k : Int} (hn : 0 ≤ n) (h1 : 0 ≤ k) (h2 : k < cnt P n) : ∃ b, 0 ≤ b ∧ b < n ∧ P b ∧ cnt P b = k := by
  obtain ⟨m, rfl⟩ : ∃ m : Nat, n = m := ⟨n.toNat, by omega⟩
  exact cnt_ex h1 h2
/-- the k-th row of a setting's rows -/
theorem row_at {P : Int → Prop} {n : Int} {F : Int → Int} (hn : 0 ≤ n) (F0 : F 0 = 0) (hF : ∀ b, 0 ≤ b → b < n → P b → F (cnt P b + 1) = b + 1) {k : Int} (h1 : 0 ≤ k) (h2 : k < cnt P n) : 0 ≤ F k ∧ F k < F (k + 1) ∧ F (k + 1) ≤ n ∧ P (F (k + 1) - 1) ∧ cnt P (F (k + 1) - 1) = k ∧ cnt P (F k) = k := by
  obtain ⟨b, w1, w2, w3, w4⟩ := cnt_ex' hn h1 h2
  have e := hF b w1 w2 w3
  rw [w4] at e
  rw [e, show b + 1 - 1 = b by omega]
  by_cases q : k = 0
  · subst q
    rw [F0]
    exact ⟨by omega, by omega, by omega, w3, w4, cnt_0 P⟩
  · obtain ⟨c, v1, v2, v3, v4⟩ := cnt_ex' (P := P) (k := k - 1) hn (by omega) (by omega)
    have e2 := hF c v1 v2 v3
    rw [v4, show k - 1 + 1 = k by omega] at e2
    rw [e2]
    have hcb : c < b := by
      rcases Int.lt_or_le c b with z | z
      · exact z
      · have := (cnt_le P w1 z).1; omega
    exact ⟨by omega, by omega, by omega, w3, w4, by rw [cnt_t v1 v3]; omega⟩
end
