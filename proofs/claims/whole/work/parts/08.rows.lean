/-! counting the bars at which lines or pages end; the rows that a setting is kept in -/
noncomputable section
def cntN (P : Int → Prop) : Nat → Int
  | 0 => 0
  | n + 1 => cntN P n + @ite _ (P n) (Classical.propDecidable _) 1 0
def cnt (P : Int → Prop) (k : Int) : Int := cntN P k.toNat
theorem cnt_0 (P : Int → Prop) : cnt P 0 = 0 := rfl
theorem cnt_t {P : Int → Prop} {k : Int} (h : 0 ≤ k) (hp : P k) : cnt P (k + 1) = cnt P k + 1 := by
  obtain ⟨n, rfl⟩ : ∃ n : Nat, k = n := ⟨k.toNat, by omega⟩
  show cntN P ((n : Int) + 1).toNat = cntN P (n : Int).toNat + 1
  rw [show ((n : Int) + 1).toNat = n + 1 by omega, show ((n : Int)).toNat = n by omega]
  show cntN P n + @ite _ (P n) (Classical.propDecidable _) 1 0 = _
  rw [if_pos hp]
theorem cnt_f {P : Int → Prop} {k : Int} (h : 0 ≤ k) (hp : ¬ P k) : cnt P (k + 1) = cnt P k := by
  obtain ⟨n, rfl⟩ : ∃ n : Nat, k = n := ⟨k.toNat, by omega⟩
  show cntN P ((n : Int) + 1).toNat = cntN P (n : Int).toNat
  rw [show ((n : Int) + 1).toNat = n + 1 by omega, show ((n : Int)).toNat = n by omega]
  show cntN P n + @ite _ (P n) (Classical.propDecidable _) 1 0 = _
  rw [if_neg hp]; omega
theorem cnt_m (P : Int → Prop) {a : Int} (h0 : 0 ≤ a) : ∀ n : Nat, cnt P a ≤ cnt P (a + n) ∧ cnt P (a + n) ≤ cnt P a + n := by
  intro n
  induction n with
  | zero => simp
  | succ n ih =>
    rw [show a + ((n + 1 : Nat) : Int) = (a + n) + 1 by omega]
    by_cases hp : P (a + n)
    · rw [cnt_t (by omega) hp]; omega
    · rw [cnt_f (by omega) hp]; omega
theorem cnt_le (P : Int → Prop) {a b : Int} (h0 : 0 ≤ a) (h : a ≤ b) : cnt P a ≤ cnt P b ∧ cnt P b ≤ cnt P a + (b - a) := by
  have := cnt_m P h0 (b - a).toNat
  rw [show a + (((b - a).toNat : Nat) : Int) = b by omega] at this
  omega
theorem cntB (P : Int → Prop) {a : Int} (h : 0 ≤ a) : 0 ≤ cnt P a ∧ cnt P a ≤ a := by
  have := cnt_le P (Int.le_refl 0) h
  rw [cnt_0] at this
  omega
theorem cnt_lt {P : Int → Prop} {a b : Int} (h0 : 0 ≤ a) (h : a < b) (hp : P a) : cnt P a + 1 ≤ cnt P b := by
  have := cnt_le P (a := a + 1) (b := b) (by omega) (by omega)
  rw [cnt_t h0 hp] at this
  omega
theorem cnt_c {P Q : Int → Prop} {k : Int} (h : ∀ j, 0 ≤ j → j < k → (P j ↔ Q j)) : cnt P k = cnt Q k := by
  unfold cnt
  have : ∀ n : Nat, (n : Int) ≤ k.toNat → cntN P n = cntN Q n := by
    intro n
    induction n with
    | zero => intro _; rfl
    | succ n ih =>
      intro hn
      have e := propext (h n (by omega) (by omega))
      show cntN P n + @ite _ (P n) (Classical.propDecidable _) 1 0 = cntN Q n + @ite _ (Q n) (Classical.propDecidable _) 1 0
      rw [ih (by omega), e]
  exact this _ (Int.le_refl _)
def setOK (LE PE : Int → Prop) (n ln pg : Int) (fb fl pl lb : Int → Int) : Prop := ln = cnt LE n ∧ pg = cnt PE n ∧ fb 0 = 0 ∧ fl 0 = 0 ∧ ∀ b, 0 ≤ b → b < n → lb b = cnt LE b ∧ (LE b → fb (cnt LE b + 1) = b + 1 ∧ pl (cnt LE b) = cnt PE b) ∧ (PE b → fl (cnt PE b + 1) = cnt LE (b + 1))
theorem setOK_0 {LE PE : Int → Prop} {fb fl pl lb : Int → Int} (h1 : fb 0 = 0) (h2 : fl 0 = 0) : setOK LE PE 0 0 0 fb fl pl lb := ⟨rfl, rfl, h1, h2, fun b h1 h2 => by omega⟩
theorem setOK_tt {LE PE : Int → Prop} {i ln pg : Int} {fb fl pl lb : Int → Int} (h : setOK LE PE i ln pg fb fl pl lb) (hi : 0 ≤ i) (hl : LE i) (hp : PE i) : setOK LE PE (i + 1) (ln + 1) (pg + 1) (updI fb (ln + 1) (i + 1)) (updI fl (pg + 1) (ln + 1)) (updI pl ln pg) (updI lb i ln) := by
  obtain ⟨h1, h2, h3, h4, h5⟩ := h
  have el := cnt_t (P := LE) hi hl
  have ep := cnt_t (P := PE) hi hp
  have b1 := cntB LE hi
  have b2 := cntB PE hi
  refine ⟨by omega, by omega, by rw [updI_n (by omega)]; exact h3, by rw [updI_n (by omega)]; exact h4, fun b k1 k2 => ?_⟩
  by_cases q : b = i
  · subst q
    refine ⟨by rw [updI_s]; exact h1, fun _ => ⟨by rw [← h1, updI_s], by rw [← h1, updI_s]; exact h2⟩, fun _ => by rw [← h2, updI_s]; omega⟩
  · obtain ⟨w1, w2, w3⟩ := h5 b k1 (by omega)
    refine ⟨by rw [updI_n q]; exact w1, fun w => ?_, fun w => ?_⟩
    · have c1 := cnt_lt (P := LE) k1 (show b < i by omega) w
      rw [updI_n (by omega), updI_n (by omega)]; exact w2 w
    · have c1 := cnt_lt (P := PE) k1 (show b < i by omega) w
      rw [updI_n (by omega)]; exact w3 w
theorem setOK_tf {LE PE : Int → Prop} {i ln pg : Int} {fb fl pl lb : Int → Int} (h : setOK LE PE i ln pg fb fl pl lb) (hi : 0 ≤ i) (hl : LE i) (hp : ¬ PE i) : setOK LE PE (i + 1) (ln + 1) pg (updI fb (ln + 1) (i + 1)) fl (updI pl ln pg) (updI lb i ln) := by
  obtain ⟨h1, h2, h3, h4, h5⟩ := h
  have el := cnt_t (P := LE) hi hl
  have ep := cnt_f (P := PE) hi hp
  have b1 := cntB LE hi
  have b2 := cntB PE hi
  refine ⟨by omega, by omega, by rw [updI_n (by omega)]; exact h3, h4, fun b k1 k2 => ?_⟩
  by_cases q : b = i
  · subst q
    refine ⟨by rw [updI_s]; exact h1, fun _ => ⟨by rw [← h1, updI_s], by rw [← h1, updI_s]; exact h2⟩, fun w => absurd w hp⟩
  · obtain ⟨w1, w2, w3⟩ := h5 b k1 (by omega)
    refine ⟨by rw [updI_n q]; exact w1, fun w => ?_, fun w => ?_⟩
    · have c1 := cnt_lt (P := LE) k1 (show b < i by omega) w
      rw [updI_n (by omega), updI_n (by omega)]; exact w2 w
    · have c1 := cnt_lt (P := PE) k1 (show b < i by omega) w
      exact w3 w
theorem setOK_ft {LE PE : Int → Prop} {i ln pg : Int} {fb fl pl lb : Int → Int} (h : setOK LE PE i ln pg fb fl pl lb) (hi : 0 ≤ i) (hl : ¬ LE i) (hp : PE i) : setOK LE PE (i + 1) ln (pg + 1) fb (updI fl (pg + 1) ln) pl (updI lb i ln) := by
  obtain ⟨h1, h2, h3, h4, h5⟩ := h
  have el := cnt_f (P := LE) hi hl
  have ep := cnt_t (P := PE) hi hp
  have b1 := cntB LE hi
  have b2 := cntB PE hi
  refine ⟨by omega, by omega, h3, by rw [updI_n (by omega)]; exact h4, fun b k1 k2 => ?_⟩
  by_cases q : b = i
  · subst q
    refine ⟨by rw [updI_s]; exact h1, fun w => absurd w hl, fun _ => by rw [← h2, updI_s]; omega⟩
  · obtain ⟨w1, w2, w3⟩ := h5 b k1 (by omega)
    refine ⟨by rw [updI_n q]; exact w1, fun w => ?_, fun w => ?_⟩
    · have c1 := cnt_lt (P := LE) k1 (show b < i by omega) w
      exact w2 w
    · have c1 := cnt_lt (P := PE) k1 (show b < i by omega) w
      rw [updI_n (by omega)]; exact w3 w
theorem setOK_ff {LE PE : Int → Prop} {i ln pg : Int} {fb fl pl lb : Int → Int} (h : setOK LE PE i ln pg fb fl pl lb) (hi : 0 ≤ i) (hl : ¬ LE i) (hp : ¬ PE i) : setOK LE PE (i + 1) ln pg fb fl pl (updI lb i ln) := by
  obtain ⟨h1, h2, h3, h4, h5⟩ := h
  have el := cnt_f (P := LE) hi hl
  have ep := cnt_f (P := PE) hi hp
  have b1 := cntB LE hi
  have b2 := cntB PE hi
  refine ⟨by omega, by omega, h3, h4, fun b k1 k2 => ?_⟩
  by_cases q : b = i
  · subst q
    refine ⟨by rw [updI_s]; exact h1, fun w => absurd w hl, fun w => absurd w hp⟩
  · obtain ⟨w1, w2, w3⟩ := h5 b k1 (by omega)
    refine ⟨by rw [updI_n q]; exact w1, fun w => ?_, fun w => ?_⟩
    · have c1 := cnt_lt (P := LE) k1 (show b < i by omega) w
      exact w2 w
    · have c1 := cnt_lt (P := PE) k1 (show b < i by omega) w
      exact w3 w
end
